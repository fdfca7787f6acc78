theorem dX2_source_0 : decode cX2_source 0 = .ok (.aload_n 0, 1) := by decide +kernel
theorem dX2_source_1 : decode cX2_source 1 = .ok (.getfield 9, 3) := by decide +kernel
theorem dX2_source_4 : decode cX2_source 4 = .ok (.areturn, 1) := by decide +kernel
theorem dX4_source_0 : decode cX4_source 0 = .ok (.iload_n 1, 1) := by decide +kernel
theorem dX4_source_1 : decode cX4_source 1 = .ok (.aload_n 0, 1) := by decide +kernel
theorem dX4_source_2 : decode cX4_source 2 = .ok (.getfield 9, 3) := by decide +kernel
theorem dX4_source_5 : decode cX4_source 5 = .ok (.invokevirtual 22, 3) := by decide +kernel
theorem dX4_source_8 : decode cX4_source 8 = .ok (.if_icmp .lt 10, 3) := by decide +kernel
theorem dX4_source_11 : decode cX4_source 11 = .ok (.aload_n 0, 1) := by decide +kernel
theorem dX4_source_12 : decode cX4_source 12 = .ok (.getfield 15, 3) := by decide +kernel
theorem dX4_source_15 : decode cX4_source 15 = .ok (.ifnonnull 10, 3) := by decide +kernel
theorem dX4_source_18 : decode cX4_source 18 = .ok (.aload_n 0, 1) := by decide +kernel
theorem dX4_source_19 : decode cX4_source 19 = .ok (.getfield 9, 3) := by decide +kernel
theorem dX4_source_22 : decode cX4_source 22 = .ok (.goto 7, 3) := by decide +kernel
theorem dX4_source_25 : decode cX4_source 25 = .ok (.aload_n 0, 1) := by decide +kernel
theorem dX4_source_26 : decode cX4_source 26 = .ok (.getfield 15, 3) := by decide +kernel
theorem dX4_source_29 : decode cX4_source 29 = .ok (.areturn, 1) := by decide +kernel
theorem dX4_place_0 : decode cX4_place 0 = .ok (.aload_n 0, 1) := by decide +kernel
theorem dX4_place_1 : decode cX4_place 1 = .ok (.getfield 9, 3) := by decide +kernel
theorem dX4_place_4 : decode cX4_place 4 = .ok (.invokevirtual 22, 3) := by decide +kernel
theorem dX4_place_7 : decode cX4_place 7 = .ok (.istore_n 2, 1) := by decide +kernel
theorem dX4_place_8 : decode cX4_place 8 = .ok (.iload_n 1, 1) := by decide +kernel
theorem dX4_place_9 : decode cX4_place 9 = .ok (.iload_n 2, 1) := by decide +kernel
theorem dX4_place_10 : decode cX4_place 10 = .ok (.if_icmp .ge 5, 3) := by decide +kernel
theorem dX4_place_13 : decode cX4_place 13 = .ok (.iload_n 1, 1) := by decide +kernel
theorem dX4_place_14 : decode cX4_place 14 = .ok (.ireturn, 1) := by decide +kernel
theorem dX4_place_15 : decode cX4_place 15 = .ok (.aload_n 0, 1) := by decide +kernel
theorem dX4_place_16 : decode cX4_place 16 = .ok (.getfield 15, 3) := by decide +kernel
theorem dX4_place_19 : decode cX4_place 19 = .ok (.ifnull 7, 3) := by decide +kernel
theorem dX4_place_22 : decode cX4_place 22 = .ok (.iload_n 1, 1) := by decide +kernel
theorem dX4_place_23 : decode cX4_place 23 = .ok (.iload_n 2, 1) := by decide +kernel
theorem dX4_place_24 : decode cX4_place 24 = .ok (.isub, 1) := by decide +kernel
theorem dX4_place_25 : decode cX4_place 25 = .ok (.ireturn, 1) := by decide +kernel
theorem dX4_place_26 : decode cX4_place 26 = .ok (.iload_n 2, 1) := by decide +kernel
theorem dX4_place_27 : decode cX4_place 27 = .ok (.ifCond .ne 7, 3) := by decide +kernel
theorem dX4_place_30 : decode cX4_place 30 = .ok (.iconst 0, 1) := by decide +kernel
theorem dX4_place_31 : decode cX4_place 31 = .ok (.goto 6, 3) := by decide +kernel
theorem dX4_place_34 : decode cX4_place 34 = .ok (.iload_n 1, 1) := by decide +kernel
theorem dX4_place_35 : decode cX4_place 35 = .ok (.iload_n 2, 1) := by decide +kernel
theorem dX4_place_36 : decode cX4_place 36 = .ok (.irem, 1) := by decide +kernel
theorem dX4_place_37 : decode cX4_place 37 = .ok (.ireturn, 1) := by decide +kernel
theorem dX5_source_0 : decode cX5_source 0 = .ok (.aload_n 0, 1) := by decide +kernel
theorem dX5_source_1 : decode cX5_source 1 = .ok (.areturn, 1) := by decide +kernel
theorem dX5_place_0 : decode cX5_place 0 = .ok (.iload_n 1, 1) := by decide +kernel
theorem dX5_place_1 : decode cX5_place 1 = .ok (.ireturn, 1) := by decide +kernel
theorem dX5_there_0 : decode cX5_there 0 = .ok (.aload_n 0, 1) := by decide +kernel
theorem dX5_there_1 : decode cX5_there 1 = .ok (.getfield 23, 3) := by decide +kernel
theorem dX5_there_4 : decode cX5_there 4 = .ok (.ifCond .ne 10, 3) := by decide +kernel
theorem dX5_there_7 : decode cX5_there 7 = .ok (.aload_n 0, 1) := by decide +kernel
theorem dX5_there_8 : decode cX5_there 8 = .ok (.getfield 27, 3) := by decide +kernel
theorem dX5_there_11 : decode cX5_there 11 = .ok (.goto 9, 3) := by decide +kernel
theorem dX5_there_14 : decode cX5_there 14 = .ok (.aload_n 0, 1) := by decide +kernel
theorem dX5_there_15 : decode cX5_there 15 = .ok (.getfield 27, 3) := by decide +kernel
theorem dX5_there_18 : decode cX5_there 18 = .ok (.iconst 1, 1) := by decide +kernel
theorem dX5_there_19 : decode cX5_there 19 = .ok (.isub, 1) := by decide +kernel
theorem dX5_there_20 : decode cX5_there 20 = .ok (.ireturn, 1) := by decide +kernel
theorem dX7_source_0 : decode cX7_source 0 = .ok (.aload_n 0, 1) := by decide +kernel
theorem dX7_source_1 : decode cX7_source 1 = .ok (.getfield 9, 3) := by decide +kernel
theorem dX7_source_4 : decode cX7_source 4 = .ok (.areturn, 1) := by decide +kernel
theorem dX7_place_0 : decode cX7_place 0 = .ok (.aload_n 0, 1) := by decide +kernel
theorem dX7_place_1 : decode cX7_place 1 = .ok (.getfield 15, 3) := by decide +kernel
theorem dX7_place_4 : decode cX7_place 4 = .ok (.ifnonnull 15, 3) := by decide +kernel
theorem dX7_place_7 : decode cX7_place 7 = .ok (.aload_n 0, 1) := by decide +kernel
theorem dX7_place_8 : decode cX7_place 8 = .ok (.getfield 9, 3) := by decide +kernel
theorem dX7_place_11 : decode cX7_place 11 = .ok (.invokevirtual 26, 3) := by decide +kernel
theorem dX7_place_14 : decode cX7_place 14 = .ok (.iconst 1, 1) := by decide +kernel
theorem dX7_place_15 : decode cX7_place 15 = .ok (.isub, 1) := by decide +kernel
theorem dX7_place_16 : decode cX7_place 16 = .ok (.iload_n 1, 1) := by decide +kernel
theorem dX7_place_17 : decode cX7_place 17 = .ok (.isub, 1) := by decide +kernel
theorem dX7_place_18 : decode cX7_place 18 = .ok (.ireturn, 1) := by decide +kernel
theorem dX7_place_19 : decode cX7_place 19 = .ok (.iload_n 1, 1) := by decide +kernel
theorem dX7_place_20 : decode cX7_place 20 = .ok (.ifCond .lt 21, 3) := by decide +kernel
theorem dX7_place_23 : decode cX7_place 23 = .ok (.iload_n 1, 1) := by decide +kernel
theorem dX7_place_24 : decode cX7_place 24 = .ok (.aload_n 0, 1) := by decide +kernel
theorem dX7_place_25 : decode cX7_place 25 = .ok (.getfield 15, 3) := by decide +kernel
theorem dX7_place_28 : decode cX7_place 28 = .ok (.arraylength, 1) := by decide +kernel
theorem dX7_place_29 : decode cX7_place 29 = .ok (.if_icmp .ge 12, 3) := by decide +kernel
theorem dX7_place_32 : decode cX7_place 32 = .ok (.aload_n 0, 1) := by decide +kernel
theorem dX7_place_33 : decode cX7_place 33 = .ok (.getfield 15, 3) := by decide +kernel
theorem dX7_place_36 : decode cX7_place 36 = .ok (.iload_n 1, 1) := by decide +kernel
theorem dX7_place_37 : decode cX7_place 37 = .ok (.iaload, 1) := by decide +kernel
theorem dX7_place_38 : decode cX7_place 38 = .ok (.goto 4, 3) := by decide +kernel
theorem dX7_place_41 : decode cX7_place 41 = .ok (.iconst 0, 1) := by decide +kernel
theorem dX7_place_42 : decode cX7_place 42 = .ok (.ireturn, 1) := by decide +kernel
theorem dX8_source_0 : decode cX8_source 0 = .ok (.aload_n 0, 1) := by decide +kernel
theorem dX8_source_1 : decode cX8_source 1 = .ok (.getfield 9, 3) := by decide +kernel
theorem dX8_source_4 : decode cX8_source 4 = .ok (.areturn, 1) := by decide +kernel
theorem dX8_place_0 : decode cX8_place 0 = .ok (.aload_n 0, 1) := by decide +kernel
theorem dX8_place_1 : decode cX8_place 1 = .ok (.getfield 15, 3) := by decide +kernel
theorem dX8_place_4 : decode cX8_place 4 = .ok (.iload_n 1, 1) := by decide +kernel
theorem dX8_place_5 : decode cX8_place 5 = .ok (.iadd, 1) := by decide +kernel
theorem dX8_place_6 : decode cX8_place 6 = .ok (.ireturn, 1) := by decide +kernel
theorem dX10_source_0 : decode cX10_source 0 = .ok (.aload_n 0, 1) := by decide +kernel
theorem dX10_source_1 : decode cX10_source 1 = .ok (.getfield 9, 3) := by decide +kernel
theorem dX10_source_4 : decode cX10_source 4 = .ok (.areturn, 1) := by decide +kernel
theorem dX10_place_0 : decode cX10_place 0 = .ok (.iload_n 1, 1) := by decide +kernel
theorem dX10_place_1 : decode cX10_place 1 = .ok (.ifCond .lt 21, 3) := by decide +kernel
theorem dX10_place_4 : decode cX10_place 4 = .ok (.iload_n 1, 1) := by decide +kernel
theorem dX10_place_5 : decode cX10_place 5 = .ok (.aload_n 0, 1) := by decide +kernel
theorem dX10_place_6 : decode cX10_place 6 = .ok (.getfield 23, 3) := by decide +kernel
theorem dX10_place_9 : decode cX10_place 9 = .ok (.arraylength, 1) := by decide +kernel
theorem dX10_place_10 : decode cX10_place 10 = .ok (.if_icmp .ge 12, 3) := by decide +kernel
theorem dX10_place_13 : decode cX10_place 13 = .ok (.aload_n 0, 1) := by decide +kernel
theorem dX10_place_14 : decode cX10_place 14 = .ok (.getfield 23, 3) := by decide +kernel
theorem dX10_place_17 : decode cX10_place 17 = .ok (.iload_n 1, 1) := by decide +kernel
theorem dX10_place_18 : decode cX10_place 18 = .ok (.iaload, 1) := by decide +kernel
theorem dX10_place_19 : decode cX10_place 19 = .ok (.goto 4, 3) := by decide +kernel
theorem dX10_place_22 : decode cX10_place 22 = .ok (.iconst 0, 1) := by decide +kernel
theorem dX10_place_23 : decode cX10_place 23 = .ok (.ireturn, 1) := by decide +kernel
abbrev wmX5_there : List Cond := .code yX5_there cX5_there 1 (some .int) :: WC
theorem hd_X5_there : yX5_there.cls = RX5 ∧ yX5_there.cls ≠ "java/lang/invoke/MethodHandle" ∧ yX5_there.cls ≠ "java/lang/invoke/VarHandle" ∧ (parseMethodDescriptor yX5_there.desc).map (fun d => d.parameters.length) = some 0 := by decide +kernel
def P_X5_there (sh : Sh) (ci : Nat → Nat → Int32) (ai : Nat → Nat → Int32) (al : Nat → Nat → Int64) (q : Nat)  (Q : Int32 → Prop) : Prop := (q ∈ sL sh ∧ isZ (sK sh q)) ∧ ((¬ (ci q 4) = 0) → (Q ((ci q 3) - 1))) ∧ (((ci q 4) = 0) → (Q (ci q 3)))
set_option maxHeartbeats 4000000 in
set_option maxRecDepth 100000 in
theorem p_X5_there (l : Launch) (dC : Nat → ClassId) (dI : Nat → Nat → Nat) (sh : Sh) (ci : Nat → Nat → Int32) (ai : Nat → Nat → Int32) (al : Nat → Nat → Int64) (q : Nat)  (Q : Int32 → Prop) (h : P_X5_there sh ci ai al q  Q) (sz : Nat) : Met l yX5_there wmX5_there ({ frames := 4, cells := 0, slots := 0, locals := 60 }) (va_Pc [.ref q] (cPre dC dI sh ci ai al sz)) (va_Qi (S := Unit) (fun r _ => Q r) (fun _ _ => True) (va_A [] sz)) 0 0 (va_A [] sz) := by
  refine Met.ofW (cc := cX5_there) (maxL := 1) (ret := (some .int)) (by decide) rfl ?_
  intro p e s m args below meth c s₁ B hml hv
  obtain ⟨rfl, hsz, hP, hK, hD0, hG⟩ := hv
  have hx := B.exec
  have hb := B.bytes
  have hr := B.returns
  have hts : ∀ w ∈ WC, w.before _ s = true := fun w h => atoms_spec (ws := wmX5_there) B.pre w (List.mem_cons_of_mem _ h)
  have hown : s.vm.findClass RX5 = some m.cls := findClass_of_methodNamed B.named
  have hlocks := B.notSynchronized
  subst hsz
  have hD := hD0
  generalize hAe : va_A [] s.heap.size = A at ⊢
  have hA : ∀ q : Nat, s.heap.size ≤ q → A q := fun q h => by rw [← hAe]; exact Or.inr h
  generalize hH : s.heap = H at hP ⊢
  have hS : va_S A s.heap H [] := by rw [← hH]; exact va_S.rf
  have hl := lv_entry [.ref q] (n := 1) (Nat.le_of_ble_eq_true rfl)
  rw [lg_entry_eq]
  generalize (lg_sl [.ref q] ++ List.replicate (1 - (lg_sl [.ref q]).length) Slot.unset).toArray = ls at hl ⊢
  have hl : lv_has ls 1 [(0, .ref q)] := hl
  unfold P_X5_there at h
  obtain ⟨⟨hq, hk⟩, h⟩ := h
  refine lv_aload_n hx hb dX5_there_0 rfl (lv_at hl 0 rfl) ?_
  refine c_getZ4 hx hb hts hown hK hP hq hk (hts _ mwC_15) dX5_there_1 ?_
  refine lv_if_ne (tgt := 14) hx hb dX5_there_4 (by decide) (fun c_4 => ?_) (fun c_4 => ?_)
  · have h := h.1 c_4
    refine lv_aload_n hx hb dX5_there_14 rfl (lv_at hl 0 rfl) ?_
    refine c_getZ3 hx hb hts hown hK hP hq hk (hts _ mwC_16) dX5_there_15 ?_
    refine lv_iconst (v := 1) hx hb dX5_there_18 (by decide) ?_
    refine lv_isub hx hb dX5_there_19 ?_
    exact W.iret (v := ((ci q 3) - 1)) hx hb hr (fun t ht hW => ⟨⟨_, (), rfl, h, trivial⟩, hS.F ht⟩) hS.2.2 dX5_there_20
  · have h := h.2 c_4
    refine lv_aload_n hx hb dX5_there_7 rfl (lv_at hl 0 rfl) ?_
    refine c_getZ3 hx hb hts hown hK hP hq hk (hts _ mwC_16) dX5_there_8 ?_
    refine lv_goto (tgt := 20) hx hb dX5_there_11 (by decide) ?_
    exact W.iret (v := (ci q 3)) hx hb hr (fun t ht hW => ⟨⟨_, (), rfl, h, trivial⟩, hS.F ht⟩) hS.2.2 dX5_there_20

abbrev wmX5_source : List Cond := .code yX5_source cX5_source 2 (some (.object "NeededLists$LazyList")) :: WC
theorem hd_X5_source : yX5_source.cls = RX5 ∧ yX5_source.cls ≠ "java/lang/invoke/MethodHandle" ∧ yX5_source.cls ≠ "java/lang/invoke/VarHandle" ∧ (parseMethodDescriptor yX5_source.desc).map (fun d => d.parameters.length) = some 1 := by decide +kernel
def P_X5_source (sh : Sh) (ci : Nat → Nat → Int32) (ai : Nat → Nat → Int32) (al : Nat → Nat → Int64) (q : Nat) (p0 : Int32) (Q : Nat → Prop) : Prop := (q ∈ sL sh ∧ isZ (sK sh q)) ∧ Q q
set_option maxHeartbeats 4000000 in
set_option maxRecDepth 100000 in
theorem p_X5_source (l : Launch) (dC : Nat → ClassId) (dI : Nat → Nat → Nat) (sh : Sh) (ci : Nat → Nat → Int32) (ai : Nat → Nat → Int32) (al : Nat → Nat → Int64) (q : Nat) (p0 : Int32) (Q : Nat → Prop) (h : P_X5_source sh ci ai al q p0 Q) (sz : Nat) : Met l yX5_source wmX5_source ({ frames := 12, cells := 0, slots := 0, locals := 200 }) (va_Pc [.ref q, .int p0] (cPre dC dI sh ci ai al sz)) (va_Qr (S := Unit) (fun _ => True) (fun _ a _ => Q a) (va_A [] sz)) 0 0 (va_A [] sz) := by
  refine Met.ofW (cc := cX5_source) (maxL := 2) (ret := (some (.object "NeededLists$LazyList"))) (by decide) rfl ?_
  intro p e s m args below meth c s₁ B hml hv
  obtain ⟨rfl, hsz, hP, hK, hD0, hG⟩ := hv
  have hx := B.exec
  have hb := B.bytes
  have hr := B.returns
  have hts : ∀ w ∈ WC, w.before _ s = true := fun w h => atoms_spec (ws := wmX5_source) B.pre w (List.mem_cons_of_mem _ h)
  have hown : s.vm.findClass RX5 = some m.cls := findClass_of_methodNamed B.named
  have hlocks := B.notSynchronized
  subst hsz
  have hD := hD0
  generalize hAe : va_A [] s.heap.size = A at ⊢
  have hA : ∀ q : Nat, s.heap.size ≤ q → A q := fun q h => by rw [← hAe]; exact Or.inr h
  generalize hH : s.heap = H at hP ⊢
  have hS : va_S A s.heap H [] := by rw [← hH]; exact va_S.rf
  have hl := lv_entry [.ref q, .int p0] (n := 2) (Nat.le_of_ble_eq_true rfl)
  rw [lg_entry_eq]
  generalize (lg_sl [.ref q, .int p0] ++ List.replicate (2 - (lg_sl [.ref q, .int p0]).length) Slot.unset).toArray = ls at hl ⊢
  have hl : lv_has ls 2 [(0, .ref q), (1, .int p0)] := hl
  unfold P_X5_source at h
  obtain ⟨⟨hq, hk⟩, h⟩ := h
  refine lv_aload_n hx hb dX5_source_0 rfl (lv_at hl 0 rfl) ?_
  exact W.aret hx hb hr (Or.inl ⟨_, rfl⟩) (Or.inr ⟨_, rfl⟩) (fun t ht hW => ⟨⟨(), q, rfl, trivial, h⟩, hS.F ht⟩) hS.2.2 dX5_source_1

abbrev wmX2_source : List Cond := .code yX2_source cX2_source 2 (some (.object "NeededLists$LazyList")) :: WC
theorem hd_X2_source : yX2_source.cls = RX2 ∧ yX2_source.cls ≠ "java/lang/invoke/MethodHandle" ∧ yX2_source.cls ≠ "java/lang/invoke/VarHandle" ∧ (parseMethodDescriptor yX2_source.desc).map (fun d => d.parameters.length) = some 1 := by decide +kernel
def P_X2_source (sh : Sh) (ci : Nat → Nat → Int32) (ai : Nat → Nat → Int32) (al : Nat → Nat → Int64) (q : Nat) (p0 : Int32) (Q : Nat → Prop) : Prop := (q ∈ sL sh ∧ sK sh q = 2) ∧ ∃ q1 : Nat, sR sh q 5 = some q1 ∧ Q q1
set_option maxHeartbeats 4000000 in
set_option maxRecDepth 100000 in
theorem p_X2_source (l : Launch) (dC : Nat → ClassId) (dI : Nat → Nat → Nat) (sh : Sh) (ci : Nat → Nat → Int32) (ai : Nat → Nat → Int32) (al : Nat → Nat → Int64) (q : Nat) (p0 : Int32) (Q : Nat → Prop) (h : P_X2_source sh ci ai al q p0 Q) (sz : Nat) : Met l yX2_source wmX2_source ({ frames := 12, cells := 0, slots := 0, locals := 200 }) (va_Pc [.ref q, .int p0] (cPre dC dI sh ci ai al sz)) (va_Qr (S := Unit) (fun _ => True) (fun _ a _ => Q a) (va_A [] sz)) 0 0 (va_A [] sz) := by
  refine Met.ofW (cc := cX2_source) (maxL := 2) (ret := (some (.object "NeededLists$LazyList"))) (by decide) rfl ?_
  intro p e s m args below meth c s₁ B hml hv
  obtain ⟨rfl, hsz, hP, hK, hD0, hG⟩ := hv
  have hx := B.exec
  have hb := B.bytes
  have hr := B.returns
  have hts : ∀ w ∈ WC, w.before _ s = true := fun w h => atoms_spec (ws := wmX2_source) B.pre w (List.mem_cons_of_mem _ h)
  have hown : s.vm.findClass RX2 = some m.cls := findClass_of_methodNamed B.named
  have hlocks := B.notSynchronized
  subst hsz
  have hD := hD0
  generalize hAe : va_A [] s.heap.size = A at ⊢
  have hA : ∀ q : Nat, s.heap.size ≤ q → A q := fun q h => by rw [← hAe]; exact Or.inr h
  generalize hH : s.heap = H at hP ⊢
  have hS : va_S A s.heap H [] := by rw [← hH]; exact va_S.rf
  have hl := lv_entry [.ref q, .int p0] (n := 2) (Nat.le_of_ble_eq_true rfl)
  rw [lg_entry_eq]
  generalize (lg_sl [.ref q, .int p0] ++ List.replicate (2 - (lg_sl [.ref q, .int p0]).length) Slot.unset).toArray = ls at hl ⊢
  have hl : lv_has ls 2 [(0, .ref q), (1, .int p0)] := hl
  unfold P_X2_source at h
  obtain ⟨⟨hq, hk⟩, h⟩ := h
  refine lv_aload_n hx hb dX2_source_0 rfl (lv_at hl 0 rfl) ?_
  obtain ⟨q1, e2, h⟩ := h
  refine c_get (C := RX2) (T := TX2) (N := 9) (K := 2) (v := .ref q1) hx hb hts hinX2 hown hK hP hq hk (by decide) rfl 5 (by decide) (hts _ mwC_17) (fun _ h9 => h9) (by show some (va_rf (sR sh q 5)) = _; rw [e2]; rfl) dX2_source_1 ?_
  exact W.aret hx hb hr (Or.inl ⟨_, rfl⟩) (Or.inr ⟨_, rfl⟩) (fun t ht hW => ⟨⟨(), q1, rfl, trivial, h⟩, hS.F ht⟩) hS.2.2 dX2_source_4

abbrev wmX4_source : List Cond := .code yX4_source cX4_source 2 (some (.object "NeededLists$LazyList")) :: WC
theorem hd_X4_source : yX4_source.cls = RX4 ∧ yX4_source.cls ≠ "java/lang/invoke/MethodHandle" ∧ yX4_source.cls ≠ "java/lang/invoke/VarHandle" ∧ (parseMethodDescriptor yX4_source.desc).map (fun d => d.parameters.length) = some 1 := by decide +kernel
def P_X4_source (sh : Sh) (ci : Nat → Nat → Int32) (ai : Nat → Nat → Int32) (al : Nat → Nat → Int64) (q : Nat) (p0 : Int32) (Q : Nat → Prop) : Prop := (q ∈ sL sh ∧ sK sh q = 4) ∧ ∃ q1 : Nat, sR sh q 5 = some q1 ∧ (q1 ∈ sL sh ∧ isZ (sK sh q1)) ∧ P_X5_there sh ci ai al q1  (fun r5 => ((p0 < r5) → (Q q1)) ∧ ((¬ p0 < r5) → ((sR sh q 6 = none → (Q q1)) ∧ (∀ q6 : Nat, sR sh q 6 = some q6 → (Q q6)))))
set_option maxHeartbeats 4000000 in
set_option maxRecDepth 100000 in
theorem p_X4_source (l : Launch) (dC : Nat → ClassId) (dI : Nat → Nat → Nat) (sh : Sh) (ci : Nat → Nat → Int32) (ai : Nat → Nat → Int32) (al : Nat → Nat → Int64) (q : Nat) (p0 : Int32) (Q : Nat → Prop) (h : P_X4_source sh ci ai al q p0 Q) (sz : Nat) : Met l yX4_source wmX4_source ({ frames := 12, cells := 0, slots := 0, locals := 200 }) (va_Pc [.ref q, .int p0] (cPre dC dI sh ci ai al sz)) (va_Qr (S := Unit) (fun _ => True) (fun _ a _ => Q a) (va_A [] sz)) 0 0 (va_A [] sz) := by
  refine Met.ofW (cc := cX4_source) (maxL := 2) (ret := (some (.object "NeededLists$LazyList"))) (by decide) rfl ?_
  intro p e s m args below meth c s₁ B hml hv
  obtain ⟨rfl, hsz, hP, hK, hD0, hG⟩ := hv
  have hx := B.exec
  have hb := B.bytes
  have hr := B.returns
  have hts : ∀ w ∈ WC, w.before _ s = true := fun w h => atoms_spec (ws := wmX4_source) B.pre w (List.mem_cons_of_mem _ h)
  have hown : s.vm.findClass RX4 = some m.cls := findClass_of_methodNamed B.named
  have hlocks := B.notSynchronized
  subst hsz
  have hD := hD0
  generalize hAe : va_A [] s.heap.size = A at ⊢
  have hA : ∀ q : Nat, s.heap.size ≤ q → A q := fun q h => by rw [← hAe]; exact Or.inr h
  generalize hH : s.heap = H at hP ⊢
  have hS : va_S A s.heap H [] := by rw [← hH]; exact va_S.rf
  have hl := lv_entry [.ref q, .int p0] (n := 2) (Nat.le_of_ble_eq_true rfl)
  rw [lg_entry_eq]
  generalize (lg_sl [.ref q, .int p0] ++ List.replicate (2 - (lg_sl [.ref q, .int p0]).length) Slot.unset).toArray = ls at hl ⊢
  have hl : lv_has ls 2 [(0, .ref q), (1, .int p0)] := hl
  unfold P_X4_source at h
  obtain ⟨⟨hq, hk⟩, h⟩ := h
  refine lv_iload_n hx hb dX4_source_0 rfl (lv_at hl 1 rfl) ?_
  refine lv_aload_n hx hb dX4_source_1 rfl (lv_at hl 0 rfl) ?_
  obtain ⟨q1, e2, h⟩ := h
  refine c_get (C := RX4) (T := TX4) (N := 7) (K := 4) (v := .ref q1) hx hb hts hinX4 hown hK hP hq hk (by decide) rfl 5 (by decide) (hts _ mwC_18) (fun _ h9 => h9) (by show some (va_rf (sR sh q 5)) = _; rw [e2]; rfl) dX4_source_2 ?_
  obtain ⟨⟨hm3, hk4⟩, h⟩ := h
  refine r_endi (c_runZ (rm := ({ frames := 4, cells := 0, slots := 0, locals := 60 })) (y := yX5_there) (x := ⟨"NeededLists$LazyList", "there", "()I"⟩) (n := 0) (bytes := cX5_there) (maxL := 1) (ret := (some .int)) (q := q1) (As := []) (rest := [.int p0]) ⟨hx, hb, hml, hown, hts⟩ (p_X5_there l dC dI sh _ _ _ q1  _ h H.size) mwC_19 mwC_20 mwC_21 mwC_22 mwC_23 mwC_24 mwC_25 mwC_26 mwC_27 mwC_28 mwC_29 mwC_30 mwC_31 mwC_32 rfl (by decide +kernel) rfl rfl ⟨Nat.le_of_ble_eq_true rfl, Nat.le_of_ble_eq_true rfl⟩ hK hP hD hG hm3 hk4 rfl hl.1 rfl (Nat.le_of_ble_eq_true rfl) ⟨Nat.le_of_ble_eq_true rfl, Nat.le_of_ble_eq_true rfl⟩ dX4_source_5) hP hS hA (fun r5 H locs h hP hS => ?_)
  refine lv_icmp_lt (tgt := 18) hx hb dX4_source_8 (by decide) (fun c_8 => ?_) (fun c_8 => ?_)
  · have h := h.1 c_8
    refine lv_aload_n hx hb dX4_source_18 rfl (lv_at hl 0 rfl) ?_
    refine c_get (C := RX4) (T := TX4) (N := 7) (K := 4) (v := .ref q1) hx hb hts hinX4 hown hK hP hq hk (by decide) rfl 5 (by decide) (hts _ mwC_18) (fun _ h9 => h9) (by show some (va_rf (sR sh q 5)) = _; rw [e2]; rfl) dX4_source_19 ?_
    refine lv_goto (tgt := 29) hx hb dX4_source_22 (by decide) ?_
    exact W.aret hx hb hr (Or.inl ⟨_, rfl⟩) (Or.inr ⟨_, rfl⟩) (fun t ht hW => ⟨⟨(), q1, rfl, trivial, h⟩, hS.F ht⟩) hS.2.2 dX4_source_29
  · have h := h.2 c_8
    refine lv_aload_n hx hb dX4_source_11 rfl (lv_at hl 0 rfl) ?_
    rcases e7 : sR sh q 6 with _ | q6
    · have h := h.1 e7
      refine c_get (C := RX4) (T := TX4) (N := 7) (K := 4) (v := .null) hx hb hts hinX4 hown hK hP hq hk (by decide) rfl 6 (by decide) (hts _ mwC_33) (fun _ h9 => h9) (by show some (va_rf (sR sh q 6)) = _; rw [e7]; rfl) dX4_source_12 ?_
      refine lv_ifnonnullN hx hb dX4_source_15 ?_
      refine lv_aload_n hx hb dX4_source_18 rfl (lv_at hl 0 rfl) ?_
      refine c_get (C := RX4) (T := TX4) (N := 7) (K := 4) (v := .ref q1) hx hb hts hinX4 hown hK hP hq hk (by decide) rfl 5 (by decide) (hts _ mwC_18) (fun _ h9 => h9) (by show some (va_rf (sR sh q 5)) = _; rw [e2]; rfl) dX4_source_19 ?_
      refine lv_goto (tgt := 29) hx hb dX4_source_22 (by decide) ?_
      exact W.aret hx hb hr (Or.inl ⟨_, rfl⟩) (Or.inr ⟨_, rfl⟩) (fun t ht hW => ⟨⟨(), q1, rfl, trivial, h⟩, hS.F ht⟩) hS.2.2 dX4_source_29
    · have h := h.2 q6 e7
      refine c_get (C := RX4) (T := TX4) (N := 7) (K := 4) (v := .ref q6) hx hb hts hinX4 hown hK hP hq hk (by decide) rfl 6 (by decide) (hts _ mwC_33) (fun _ h9 => h9) (by show some (va_rf (sR sh q 6)) = _; rw [e7]; rfl) dX4_source_12 ?_
      refine lv_ifnonnull (tgt := 25) hx hb dX4_source_15 (by decide) ?_
      refine lv_aload_n hx hb dX4_source_25 rfl (lv_at hl 0 rfl) ?_
      refine c_get (C := RX4) (T := TX4) (N := 7) (K := 4) (v := .ref q6) hx hb hts hinX4 hown hK hP hq hk (by decide) rfl 6 (by decide) (hts _ mwC_33) (fun _ h9 => h9) (by show some (va_rf (sR sh q 6)) = _; rw [e7]; rfl) dX4_source_26 ?_
      exact W.aret hx hb hr (Or.inl ⟨_, rfl⟩) (Or.inr ⟨_, rfl⟩) (fun t ht hW => ⟨⟨(), q6, rfl, trivial, h⟩, hS.F ht⟩) hS.2.2 dX4_source_29

abbrev wmX7_source : List Cond := .code yX7_source cX7_source 2 (some (.object "NeededLists$LazyList")) :: WC
theorem hd_X7_source : yX7_source.cls = RX7 ∧ yX7_source.cls ≠ "java/lang/invoke/MethodHandle" ∧ yX7_source.cls ≠ "java/lang/invoke/VarHandle" ∧ (parseMethodDescriptor yX7_source.desc).map (fun d => d.parameters.length) = some 1 := by decide +kernel
def P_X7_source (sh : Sh) (ci : Nat → Nat → Int32) (ai : Nat → Nat → Int32) (al : Nat → Nat → Int64) (q : Nat) (p0 : Int32) (Q : Nat → Prop) : Prop := (q ∈ sL sh ∧ sK sh q = 6) ∧ ∃ q1 : Nat, sR sh q 5 = some q1 ∧ Q q1
set_option maxHeartbeats 4000000 in
set_option maxRecDepth 100000 in
theorem p_X7_source (l : Launch) (dC : Nat → ClassId) (dI : Nat → Nat → Nat) (sh : Sh) (ci : Nat → Nat → Int32) (ai : Nat → Nat → Int32) (al : Nat → Nat → Int64) (q : Nat) (p0 : Int32) (Q : Nat → Prop) (h : P_X7_source sh ci ai al q p0 Q) (sz : Nat) : Met l yX7_source wmX7_source ({ frames := 12, cells := 0, slots := 0, locals := 200 }) (va_Pc [.ref q, .int p0] (cPre dC dI sh ci ai al sz)) (va_Qr (S := Unit) (fun _ => True) (fun _ a _ => Q a) (va_A [] sz)) 0 0 (va_A [] sz) := by
  refine Met.ofW (cc := cX7_source) (maxL := 2) (ret := (some (.object "NeededLists$LazyList"))) (by decide) rfl ?_
  intro p e s m args below meth c s₁ B hml hv
  obtain ⟨rfl, hsz, hP, hK, hD0, hG⟩ := hv
  have hx := B.exec
  have hb := B.bytes
  have hr := B.returns
  have hts : ∀ w ∈ WC, w.before _ s = true := fun w h => atoms_spec (ws := wmX7_source) B.pre w (List.mem_cons_of_mem _ h)
  have hown : s.vm.findClass RX7 = some m.cls := findClass_of_methodNamed B.named
  have hlocks := B.notSynchronized
  subst hsz
  have hD := hD0
  generalize hAe : va_A [] s.heap.size = A at ⊢
  have hA : ∀ q : Nat, s.heap.size ≤ q → A q := fun q h => by rw [← hAe]; exact Or.inr h
  generalize hH : s.heap = H at hP ⊢
  have hS : va_S A s.heap H [] := by rw [← hH]; exact va_S.rf
  have hl := lv_entry [.ref q, .int p0] (n := 2) (Nat.le_of_ble_eq_true rfl)
  rw [lg_entry_eq]
  generalize (lg_sl [.ref q, .int p0] ++ List.replicate (2 - (lg_sl [.ref q, .int p0]).length) Slot.unset).toArray = ls at hl ⊢
  have hl : lv_has ls 2 [(0, .ref q), (1, .int p0)] := hl
  unfold P_X7_source at h
  obtain ⟨⟨hq, hk⟩, h⟩ := h
  refine lv_aload_n hx hb dX7_source_0 rfl (lv_at hl 0 rfl) ?_
  obtain ⟨q1, e2, h⟩ := h
  refine c_get (C := RX7) (T := TX7) (N := 7) (K := 6) (v := .ref q1) hx hb hts hinX7 hown hK hP hq hk (by decide) rfl 5 (by decide) (hts _ mwC_34) (fun _ h9 => h9) (by show some (va_rf (sR sh q 5)) = _; rw [e2]; rfl) dX7_source_1 ?_
  exact W.aret hx hb hr (Or.inl ⟨_, rfl⟩) (Or.inr ⟨_, rfl⟩) (fun t ht hW => ⟨⟨(), q1, rfl, trivial, h⟩, hS.F ht⟩) hS.2.2 dX7_source_4

abbrev wmX8_source : List Cond := .code yX8_source cX8_source 2 (some (.object "NeededLists$LazyList")) :: WC
theorem hd_X8_source : yX8_source.cls = RX8 ∧ yX8_source.cls ≠ "java/lang/invoke/MethodHandle" ∧ yX8_source.cls ≠ "java/lang/invoke/VarHandle" ∧ (parseMethodDescriptor yX8_source.desc).map (fun d => d.parameters.length) = some 1 := by decide +kernel
def P_X8_source (sh : Sh) (ci : Nat → Nat → Int32) (ai : Nat → Nat → Int32) (al : Nat → Nat → Int64) (q : Nat) (p0 : Int32) (Q : Nat → Prop) : Prop := (q ∈ sL sh ∧ sK sh q = 7) ∧ ∃ q1 : Nat, sR sh q 5 = some q1 ∧ Q q1
set_option maxHeartbeats 4000000 in
set_option maxRecDepth 100000 in
theorem p_X8_source (l : Launch) (dC : Nat → ClassId) (dI : Nat → Nat → Nat) (sh : Sh) (ci : Nat → Nat → Int32) (ai : Nat → Nat → Int32) (al : Nat → Nat → Int64) (q : Nat) (p0 : Int32) (Q : Nat → Prop) (h : P_X8_source sh ci ai al q p0 Q) (sz : Nat) : Met l yX8_source wmX8_source ({ frames := 12, cells := 0, slots := 0, locals := 200 }) (va_Pc [.ref q, .int p0] (cPre dC dI sh ci ai al sz)) (va_Qr (S := Unit) (fun _ => True) (fun _ a _ => Q a) (va_A [] sz)) 0 0 (va_A [] sz) := by
  refine Met.ofW (cc := cX8_source) (maxL := 2) (ret := (some (.object "NeededLists$LazyList"))) (by decide) rfl ?_
  intro p e s m args below meth c s₁ B hml hv
  obtain ⟨rfl, hsz, hP, hK, hD0, hG⟩ := hv
  have hx := B.exec
  have hb := B.bytes
  have hr := B.returns
  have hts : ∀ w ∈ WC, w.before _ s = true := fun w h => atoms_spec (ws := wmX8_source) B.pre w (List.mem_cons_of_mem _ h)
  have hown : s.vm.findClass RX8 = some m.cls := findClass_of_methodNamed B.named
  have hlocks := B.notSynchronized
  subst hsz
  have hD := hD0
  generalize hAe : va_A [] s.heap.size = A at ⊢
  have hA : ∀ q : Nat, s.heap.size ≤ q → A q := fun q h => by rw [← hAe]; exact Or.inr h
  generalize hH : s.heap = H at hP ⊢
  have hS : va_S A s.heap H [] := by rw [← hH]; exact va_S.rf
  have hl := lv_entry [.ref q, .int p0] (n := 2) (Nat.le_of_ble_eq_true rfl)
  rw [lg_entry_eq]
  generalize (lg_sl [.ref q, .int p0] ++ List.replicate (2 - (lg_sl [.ref q, .int p0]).length) Slot.unset).toArray = ls at hl ⊢
  have hl : lv_has ls 2 [(0, .ref q), (1, .int p0)] := hl
  unfold P_X8_source at h
  obtain ⟨⟨hq, hk⟩, h⟩ := h
  refine lv_aload_n hx hb dX8_source_0 rfl (lv_at hl 0 rfl) ?_
  obtain ⟨q1, e2, h⟩ := h
  refine c_get (C := RX8) (T := TX8) (N := 9) (K := 7) (v := .ref q1) hx hb hts hinX8 hown hK hP hq hk (by decide) rfl 5 (by decide) (hts _ mwC_35) (fun _ h9 => h9) (by show some (va_rf (sR sh q 5)) = _; rw [e2]; rfl) dX8_source_1 ?_
  exact W.aret hx hb hr (Or.inl ⟨_, rfl⟩) (Or.inr ⟨_, rfl⟩) (fun t ht hW => ⟨⟨(), q1, rfl, trivial, h⟩, hS.F ht⟩) hS.2.2 dX8_source_4

abbrev wmX10_source : List Cond := .code yX10_source cX10_source 2 (some (.object "NeededLists$LazyList")) :: WC
theorem hd_X10_source : yX10_source.cls = RX10 ∧ yX10_source.cls ≠ "java/lang/invoke/MethodHandle" ∧ yX10_source.cls ≠ "java/lang/invoke/VarHandle" ∧ (parseMethodDescriptor yX10_source.desc).map (fun d => d.parameters.length) = some 1 := by decide +kernel
def P_X10_source (sh : Sh) (ci : Nat → Nat → Int32) (ai : Nat → Nat → Int32) (al : Nat → Nat → Int64) (q : Nat) (p0 : Int32) (Q : Nat → Prop) : Prop := (q ∈ sL sh ∧ sK sh q = 9) ∧ ∃ q1 : Nat, sR sh q 5 = some q1 ∧ Q q1
set_option maxHeartbeats 4000000 in
set_option maxRecDepth 100000 in
theorem p_X10_source (l : Launch) (dC : Nat → ClassId) (dI : Nat → Nat → Nat) (sh : Sh) (ci : Nat → Nat → Int32) (ai : Nat → Nat → Int32) (al : Nat → Nat → Int64) (q : Nat) (p0 : Int32) (Q : Nat → Prop) (h : P_X10_source sh ci ai al q p0 Q) (sz : Nat) : Met l yX10_source wmX10_source ({ frames := 12, cells := 0, slots := 0, locals := 200 }) (va_Pc [.ref q, .int p0] (cPre dC dI sh ci ai al sz)) (va_Qr (S := Unit) (fun _ => True) (fun _ a _ => Q a) (va_A [] sz)) 0 0 (va_A [] sz) := by
  refine Met.ofW (cc := cX10_source) (maxL := 2) (ret := (some (.object "NeededLists$LazyList"))) (by decide) rfl ?_
  intro p e s m args below meth c s₁ B hml hv
  obtain ⟨rfl, hsz, hP, hK, hD0, hG⟩ := hv
  have hx := B.exec
  have hb := B.bytes
  have hr := B.returns
  have hts : ∀ w ∈ WC, w.before _ s = true := fun w h => atoms_spec (ws := wmX10_source) B.pre w (List.mem_cons_of_mem _ h)
  have hown : s.vm.findClass RX10 = some m.cls := findClass_of_methodNamed B.named
  have hlocks := B.notSynchronized
  subst hsz
  have hD := hD0
  generalize hAe : va_A [] s.heap.size = A at ⊢
  have hA : ∀ q : Nat, s.heap.size ≤ q → A q := fun q h => by rw [← hAe]; exact Or.inr h
  generalize hH : s.heap = H at hP ⊢
  have hS : va_S A s.heap H [] := by rw [← hH]; exact va_S.rf
  have hl := lv_entry [.ref q, .int p0] (n := 2) (Nat.le_of_ble_eq_true rfl)
  rw [lg_entry_eq]
  generalize (lg_sl [.ref q, .int p0] ++ List.replicate (2 - (lg_sl [.ref q, .int p0]).length) Slot.unset).toArray = ls at hl ⊢
  have hl : lv_has ls 2 [(0, .ref q), (1, .int p0)] := hl
  unfold P_X10_source at h
  obtain ⟨⟨hq, hk⟩, h⟩ := h
  refine lv_aload_n hx hb dX10_source_0 rfl (lv_at hl 0 rfl) ?_
  obtain ⟨q1, e2, h⟩ := h
  refine c_get (C := RX10) (T := TX10) (N := 9) (K := 9) (v := .ref q1) hx hb hts hinX10 hown hK hP hq hk (by decide) rfl 5 (by decide) (hts _ mwC_36) (fun _ h9 => h9) (by show some (va_rf (sR sh q 5)) = _; rw [e2]; rfl) dX10_source_1 ?_
  exact W.aret hx hb hr (Or.inl ⟨_, rfl⟩) (Or.inr ⟨_, rfl⟩) (fun t ht hW => ⟨⟨(), q1, rfl, trivial, h⟩, hS.F ht⟩) hS.2.2 dX10_source_4

abbrev wmX5_place : List Cond := .code yX5_place cX5_place 2 (some .int) :: WC
theorem hd_X5_place : yX5_place.cls = RX5 ∧ yX5_place.cls ≠ "java/lang/invoke/MethodHandle" ∧ yX5_place.cls ≠ "java/lang/invoke/VarHandle" ∧ (parseMethodDescriptor yX5_place.desc).map (fun d => d.parameters.length) = some 1 := by decide +kernel
def P_X5_place (sh : Sh) (ci : Nat → Nat → Int32) (ai : Nat → Nat → Int32) (al : Nat → Nat → Int64) (q : Nat) (p0 : Int32) (Q : Int32 → Prop) : Prop := (q ∈ sL sh ∧ isZ (sK sh q)) ∧ Q p0
set_option maxHeartbeats 4000000 in
set_option maxRecDepth 100000 in
theorem p_X5_place (l : Launch) (dC : Nat → ClassId) (dI : Nat → Nat → Nat) (sh : Sh) (ci : Nat → Nat → Int32) (ai : Nat → Nat → Int32) (al : Nat → Nat → Int64) (q : Nat) (p0 : Int32) (Q : Int32 → Prop) (h : P_X5_place sh ci ai al q p0 Q) (sz : Nat) : Met l yX5_place wmX5_place ({ frames := 12, cells := 0, slots := 0, locals := 200 }) (va_Pc [.ref q, .int p0] (cPre dC dI sh ci ai al sz)) (va_Qi (S := Unit) (fun r _ => Q r) (fun _ _ => True) (va_A [] sz)) 0 0 (va_A [] sz) := by
  refine Met.ofW (cc := cX5_place) (maxL := 2) (ret := (some .int)) (by decide) rfl ?_
  intro p e s m args below meth c s₁ B hml hv
  obtain ⟨rfl, hsz, hP, hK, hD0, hG⟩ := hv
  have hx := B.exec
  have hb := B.bytes
  have hr := B.returns
  have hts : ∀ w ∈ WC, w.before _ s = true := fun w h => atoms_spec (ws := wmX5_place) B.pre w (List.mem_cons_of_mem _ h)
  have hown : s.vm.findClass RX5 = some m.cls := findClass_of_methodNamed B.named
  have hlocks := B.notSynchronized
  subst hsz
  have hD := hD0
  generalize hAe : va_A [] s.heap.size = A at ⊢
  have hA : ∀ q : Nat, s.heap.size ≤ q → A q := fun q h => by rw [← hAe]; exact Or.inr h
  generalize hH : s.heap = H at hP ⊢
  have hS : va_S A s.heap H [] := by rw [← hH]; exact va_S.rf
  have hl := lv_entry [.ref q, .int p0] (n := 2) (Nat.le_of_ble_eq_true rfl)
  rw [lg_entry_eq]
  generalize (lg_sl [.ref q, .int p0] ++ List.replicate (2 - (lg_sl [.ref q, .int p0]).length) Slot.unset).toArray = ls at hl ⊢
  have hl : lv_has ls 2 [(0, .ref q), (1, .int p0)] := hl
  unfold P_X5_place at h
  obtain ⟨⟨hq, hk⟩, h⟩ := h
  refine lv_iload_n hx hb dX5_place_0 rfl (lv_at hl 1 rfl) ?_
  exact W.iret (v := p0) hx hb hr (fun t ht hW => ⟨⟨_, (), rfl, h, trivial⟩, hS.F ht⟩) hS.2.2 dX5_place_1

abbrev wmX4_place : List Cond := .code yX4_place cX4_place 3 (some .int) :: WC
theorem hd_X4_place : yX4_place.cls = RX4 ∧ yX4_place.cls ≠ "java/lang/invoke/MethodHandle" ∧ yX4_place.cls ≠ "java/lang/invoke/VarHandle" ∧ (parseMethodDescriptor yX4_place.desc).map (fun d => d.parameters.length) = some 1 := by decide +kernel
def P_X4_place (sh : Sh) (ci : Nat → Nat → Int32) (ai : Nat → Nat → Int32) (al : Nat → Nat → Int64) (q : Nat) (p0 : Int32) (Q : Int32 → Prop) : Prop := (q ∈ sL sh ∧ sK sh q = 4) ∧ ∃ q1 : Nat, sR sh q 5 = some q1 ∧ (q1 ∈ sL sh ∧ isZ (sK sh q1)) ∧ P_X5_there sh ci ai al q1  (fun r5 => ((r5 ≤ p0) → ((sR sh q 6 = none → (((¬ r5 = 0) → (¬ r5 = 0 ∧ Q (p0 - p0 / r5 * r5))) ∧ ((r5 = 0) → (Q 0)))) ∧ (∀ q6 : Nat, sR sh q 6 = some q6 → (Q (p0 - r5))))) ∧ ((¬ r5 ≤ p0) → (Q p0)))
set_option maxHeartbeats 4000000 in
set_option maxRecDepth 100000 in
theorem p_X4_place (l : Launch) (dC : Nat → ClassId) (dI : Nat → Nat → Nat) (sh : Sh) (ci : Nat → Nat → Int32) (ai : Nat → Nat → Int32) (al : Nat → Nat → Int64) (q : Nat) (p0 : Int32) (Q : Int32 → Prop) (h : P_X4_place sh ci ai al q p0 Q) (sz : Nat) : Met l yX4_place wmX4_place ({ frames := 12, cells := 0, slots := 0, locals := 200 }) (va_Pc [.ref q, .int p0] (cPre dC dI sh ci ai al sz)) (va_Qi (S := Unit) (fun r _ => Q r) (fun _ _ => True) (va_A [] sz)) 0 0 (va_A [] sz) := by
  refine Met.ofW (cc := cX4_place) (maxL := 3) (ret := (some .int)) (by decide) rfl ?_
  intro p e s m args below meth c s₁ B hml hv
  obtain ⟨rfl, hsz, hP, hK, hD0, hG⟩ := hv
  have hx := B.exec
  have hb := B.bytes
  have hr := B.returns
  have hts : ∀ w ∈ WC, w.before _ s = true := fun w h => atoms_spec (ws := wmX4_place) B.pre w (List.mem_cons_of_mem _ h)
  have hown : s.vm.findClass RX4 = some m.cls := findClass_of_methodNamed B.named
  have hlocks := B.notSynchronized
  subst hsz
  have hD := hD0
  generalize hAe : va_A [] s.heap.size = A at ⊢
  have hA : ∀ q : Nat, s.heap.size ≤ q → A q := fun q h => by rw [← hAe]; exact Or.inr h
  generalize hH : s.heap = H at hP ⊢
  have hS : va_S A s.heap H [] := by rw [← hH]; exact va_S.rf
  have hl := lv_entry [.ref q, .int p0] (n := 3) (Nat.le_of_ble_eq_true rfl)
  rw [lg_entry_eq]
  generalize (lg_sl [.ref q, .int p0] ++ List.replicate (3 - (lg_sl [.ref q, .int p0]).length) Slot.unset).toArray = ls at hl ⊢
  have hl : lv_has ls 3 [(0, .ref q), (1, .int p0)] := hl
  unfold P_X4_place at h
  obtain ⟨⟨hq, hk⟩, h⟩ := h
  refine lv_aload_n hx hb dX4_place_0 rfl (lv_at hl 0 rfl) ?_
  obtain ⟨q1, e2, h⟩ := h
  refine c_get (C := RX4) (T := TX4) (N := 7) (K := 4) (v := .ref q1) hx hb hts hinX4 hown hK hP hq hk (by decide) rfl 5 (by decide) (hts _ mwC_18) (fun _ h9 => h9) (by show some (va_rf (sR sh q 5)) = _; rw [e2]; rfl) dX4_place_1 ?_
  obtain ⟨⟨hm3, hk4⟩, h⟩ := h
  refine r_endi (c_runZ (rm := ({ frames := 4, cells := 0, slots := 0, locals := 60 })) (y := yX5_there) (x := ⟨"NeededLists$LazyList", "there", "()I"⟩) (n := 0) (bytes := cX5_there) (maxL := 1) (ret := (some .int)) (q := q1) (As := []) (rest := []) ⟨hx, hb, hml, hown, hts⟩ (p_X5_there l dC dI sh _ _ _ q1  _ h H.size) mwC_19 mwC_20 mwC_21 mwC_22 mwC_23 mwC_24 mwC_25 mwC_26 mwC_27 mwC_28 mwC_29 mwC_30 mwC_31 mwC_32 rfl (by decide +kernel) rfl rfl ⟨Nat.le_of_ble_eq_true rfl, Nat.le_of_ble_eq_true rfl⟩ hK hP hD hG hm3 hk4 rfl hl.1 rfl (Nat.le_of_ble_eq_true rfl) ⟨Nat.le_of_ble_eq_true rfl, Nat.le_of_ble_eq_true rfl⟩ dX4_place_4) hP hS hA (fun r5 H locs h hP hS => ?_)
  refine lv_istore_n (lv' := [(2, .int r5), (0, .ref q), (1, .int p0)]) hx hb dX4_place_7 rfl hl (by decide) rfl (fun ls hl => ?_)
  refine lv_iload_n hx hb dX4_place_8 rfl (lv_at hl 2 rfl) ?_
  refine lv_iload_n hx hb dX4_place_9 rfl (lv_at hl 0 rfl) ?_
  refine lv_icmp_ge (tgt := 15) hx hb dX4_place_10 (by decide) (fun c_10 => ?_) (fun c_10 => ?_)
  · have h := h.1 c_10
    refine lv_aload_n hx hb dX4_place_15 rfl (lv_at hl 1 rfl) ?_
    rcases e7 : sR sh q 6 with _ | q6
    · have h := h.1 e7
      refine c_get (C := RX4) (T := TX4) (N := 7) (K := 4) (v := .null) hx hb hts hinX4 hown hK hP hq hk (by decide) rfl 6 (by decide) (hts _ mwC_33) (fun _ h9 => h9) (by show some (va_rf (sR sh q 6)) = _; rw [e7]; rfl) dX4_place_16 ?_
      refine lv_ifnullN (tgt := 26) hx hb dX4_place_19 (by decide) ?_
      refine lv_iload_n hx hb dX4_place_26 rfl (lv_at hl 0 rfl) ?_
      refine lv_if_ne (tgt := 34) hx hb dX4_place_27 (by decide) (fun c_27 => ?_) (fun c_27 => ?_)
      · have h := h.1 c_27
        refine lv_iload_n hx hb dX4_place_34 rfl (lv_at hl 2 rfl) ?_
        refine lv_iload_n hx hb dX4_place_35 rfl (lv_at hl 0 rfl) ?_
        obtain ⟨hz8, h⟩ := h
        refine lv_irem hx hb dX4_place_36 hz8 ?_
        exact W.iret (v := (p0 - p0 / r5 * r5)) hx hb hr (fun t ht hW => ⟨⟨_, (), rfl, h, trivial⟩, hS.F ht⟩) hS.2.2 dX4_place_37
      · have h := h.2 c_27
        refine lv_iconst (v := 0) hx hb dX4_place_30 (by decide) ?_
        refine lv_goto (tgt := 37) hx hb dX4_place_31 (by decide) ?_
        exact W.iret (v := 0) hx hb hr (fun t ht hW => ⟨⟨_, (), rfl, h, trivial⟩, hS.F ht⟩) hS.2.2 dX4_place_37
    · have h := h.2 q6 e7
      refine c_get (C := RX4) (T := TX4) (N := 7) (K := 4) (v := .ref q6) hx hb hts hinX4 hown hK hP hq hk (by decide) rfl 6 (by decide) (hts _ mwC_33) (fun _ h9 => h9) (by show some (va_rf (sR sh q 6)) = _; rw [e7]; rfl) dX4_place_16 ?_
      refine lv_ifnull hx hb dX4_place_19 ?_
      refine lv_iload_n hx hb dX4_place_22 rfl (lv_at hl 2 rfl) ?_
      refine lv_iload_n hx hb dX4_place_23 rfl (lv_at hl 0 rfl) ?_
      refine lv_isub hx hb dX4_place_24 ?_
      exact W.iret (v := (p0 - r5)) hx hb hr (fun t ht hW => ⟨⟨_, (), rfl, h, trivial⟩, hS.F ht⟩) hS.2.2 dX4_place_25
  · have h := h.2 c_10
    refine lv_iload_n hx hb dX4_place_13 rfl (lv_at hl 2 rfl) ?_
    exact W.iret (v := p0) hx hb hr (fun t ht hW => ⟨⟨_, (), rfl, h, trivial⟩, hS.F ht⟩) hS.2.2 dX4_place_14

abbrev wmX7_place : List Cond := .code yX7_place cX7_place 2 (some .int) :: WC
theorem hd_X7_place : yX7_place.cls = RX7 ∧ yX7_place.cls ≠ "java/lang/invoke/MethodHandle" ∧ yX7_place.cls ≠ "java/lang/invoke/VarHandle" ∧ (parseMethodDescriptor yX7_place.desc).map (fun d => d.parameters.length) = some 1 := by decide +kernel
def P_X7_place (sh : Sh) (ci : Nat → Nat → Int32) (ai : Nat → Nat → Int32) (al : Nat → Nat → Int64) (q : Nat) (p0 : Int32) (Q : Int32 → Prop) : Prop := (q ∈ sL sh ∧ sK sh q = 6) ∧ ((sR sh q 6 = none → (∃ q3 : Nat, sR sh q 5 = some q3 ∧ (q3 ∈ sL sh ∧ isZ (sK sh q3)) ∧ P_X5_there sh ci ai al q3  (fun r7 => Q ((r7 - 1) - p0)))) ∧ (∀ q1 : Nat, sR sh q 6 = some q1 → (((p0 < 0) → (Q 0)) ∧ ((¬ p0 < 0) → ((q1 ∈ sL sh ∧ sK sh q1 = 20) ∧ (((nI (sN sh q1)) ≤ p0) → (Q 0)) ∧ ((¬ (nI (sN sh q1)) ≤ p0) → (vp_in p0 (sN sh q1) ∧ Q (ai q1 p0.toNatClampNeg))))))))
set_option maxHeartbeats 4000000 in
set_option maxRecDepth 100000 in
theorem p_X7_place (l : Launch) (dC : Nat → ClassId) (dI : Nat → Nat → Nat) (sh : Sh) (ci : Nat → Nat → Int32) (ai : Nat → Nat → Int32) (al : Nat → Nat → Int64) (q : Nat) (p0 : Int32) (Q : Int32 → Prop) (h : P_X7_place sh ci ai al q p0 Q) (sz : Nat) : Met l yX7_place wmX7_place ({ frames := 12, cells := 0, slots := 0, locals := 200 }) (va_Pc [.ref q, .int p0] (cPre dC dI sh ci ai al sz)) (va_Qi (S := Unit) (fun r _ => Q r) (fun _ _ => True) (va_A [] sz)) 0 0 (va_A [] sz) := by
  refine Met.ofW (cc := cX7_place) (maxL := 2) (ret := (some .int)) (by decide) rfl ?_
  intro p e s m args below meth c s₁ B hml hv
  obtain ⟨rfl, hsz, hP, hK, hD0, hG⟩ := hv
  have hx := B.exec
  have hb := B.bytes
  have hr := B.returns
  have hts : ∀ w ∈ WC, w.before _ s = true := fun w h => atoms_spec (ws := wmX7_place) B.pre w (List.mem_cons_of_mem _ h)
  have hown : s.vm.findClass RX7 = some m.cls := findClass_of_methodNamed B.named
  have hlocks := B.notSynchronized
  subst hsz
  have hD := hD0
  generalize hAe : va_A [] s.heap.size = A at ⊢
  have hA : ∀ q : Nat, s.heap.size ≤ q → A q := fun q h => by rw [← hAe]; exact Or.inr h
  generalize hH : s.heap = H at hP ⊢
  have hS : va_S A s.heap H [] := by rw [← hH]; exact va_S.rf
  have hl := lv_entry [.ref q, .int p0] (n := 2) (Nat.le_of_ble_eq_true rfl)
  rw [lg_entry_eq]
  generalize (lg_sl [.ref q, .int p0] ++ List.replicate (2 - (lg_sl [.ref q, .int p0]).length) Slot.unset).toArray = ls at hl ⊢
  have hl : lv_has ls 2 [(0, .ref q), (1, .int p0)] := hl
  unfold P_X7_place at h
  obtain ⟨⟨hq, hk⟩, h⟩ := h
  refine lv_aload_n hx hb dX7_place_0 rfl (lv_at hl 0 rfl) ?_
  rcases e2 : sR sh q 6 with _ | q1
  · have h := h.1 e2
    refine c_get (C := RX7) (T := TX7) (N := 7) (K := 6) (v := .null) hx hb hts hinX7 hown hK hP hq hk (by decide) rfl 6 (by decide) (hts _ mwC_37) (fun _ h9 => h9) (by show some (va_rf (sR sh q 6)) = _; rw [e2]; rfl) dX7_place_1 ?_
    refine lv_ifnonnullN hx hb dX7_place_4 ?_
    refine lv_aload_n hx hb dX7_place_7 rfl (lv_at hl 0 rfl) ?_
    obtain ⟨q3, e4, h⟩ := h
    refine c_get (C := RX7) (T := TX7) (N := 7) (K := 6) (v := .ref q3) hx hb hts hinX7 hown hK hP hq hk (by decide) rfl 5 (by decide) (hts _ mwC_34) (fun _ h9 => h9) (by show some (va_rf (sR sh q 5)) = _; rw [e4]; rfl) dX7_place_8 ?_
    obtain ⟨⟨hm5, hk6⟩, h⟩ := h
    refine r_endi (c_runZ (rm := ({ frames := 4, cells := 0, slots := 0, locals := 60 })) (y := yX5_there) (x := ⟨"NeededLists$LazyList", "there", "()I"⟩) (n := 0) (bytes := cX5_there) (maxL := 1) (ret := (some .int)) (q := q3) (As := []) (rest := []) ⟨hx, hb, hml, hown, hts⟩ (p_X5_there l dC dI sh _ _ _ q3  _ h H.size) mwC_38 mwC_20 mwC_21 mwC_22 mwC_23 mwC_24 mwC_25 mwC_26 mwC_27 mwC_28 mwC_29 mwC_30 mwC_31 mwC_32 rfl (by decide +kernel) rfl rfl ⟨Nat.le_of_ble_eq_true rfl, Nat.le_of_ble_eq_true rfl⟩ hK hP hD hG hm5 hk6 rfl hl.1 rfl (Nat.le_of_ble_eq_true rfl) ⟨Nat.le_of_ble_eq_true rfl, Nat.le_of_ble_eq_true rfl⟩ dX7_place_11) hP hS hA (fun r7 H locs h hP hS => ?_)
    refine lv_iconst (v := 1) hx hb dX7_place_14 (by decide) ?_
    refine lv_isub hx hb dX7_place_15 ?_
    refine lv_iload_n hx hb dX7_place_16 rfl (lv_at hl 1 rfl) ?_
    refine lv_isub hx hb dX7_place_17 ?_
    exact W.iret (v := ((r7 - 1) - p0)) hx hb hr (fun t ht hW => ⟨⟨_, (), rfl, h, trivial⟩, hS.F ht⟩) hS.2.2 dX7_place_18
  · have h := h.2 q1 e2
    refine c_get (C := RX7) (T := TX7) (N := 7) (K := 6) (v := .ref q1) hx hb hts hinX7 hown hK hP hq hk (by decide) rfl 6 (by decide) (hts _ mwC_37) (fun _ h9 => h9) (by show some (va_rf (sR sh q 6)) = _; rw [e2]; rfl) dX7_place_1 ?_
    refine lv_ifnonnull (tgt := 19) hx hb dX7_place_4 (by decide) ?_
    refine lv_iload_n hx hb dX7_place_19 rfl (lv_at hl 1 rfl) ?_
    refine lv_if_lt (tgt := 41) hx hb dX7_place_20 (by decide) (fun c_20 => ?_) (fun c_20 => ?_)
    · have h := h.1 c_20
      refine lv_iconst (v := 0) hx hb dX7_place_41 (by decide) ?_
      exact W.iret (v := 0) hx hb hr (fun t ht hW => ⟨⟨_, (), rfl, h, trivial⟩, hS.F ht⟩) hS.2.2 dX7_place_42
    · have h := h.2 c_20
      refine lv_iload_n hx hb dX7_place_23 rfl (lv_at hl 1 rfl) ?_
      refine lv_aload_n hx hb dX7_place_24 rfl (lv_at hl 0 rfl) ?_
      refine c_get (C := RX7) (T := TX7) (N := 7) (K := 6) (v := .ref q1) hx hb hts hinX7 hown hK hP hq hk (by decide) rfl 6 (by decide) (hts _ mwC_37) (fun _ h9 => h9) (by show some (va_rf (sR sh q 6)) = _; rw [e2]; rfl) dX7_place_25 ?_
      obtain ⟨⟨hm8, hk9⟩, h⟩ := h
      refine c_alen hx hb hK hP hm8 (Or.inl hk9) dX7_place_28 ?_
      refine lv_icmp_ge (tgt := 41) hx hb dX7_place_29 (by decide) (fun c_29 => ?_) (fun c_29 => ?_)
      · have h := h.1 c_29
        refine lv_iconst (v := 0) hx hb dX7_place_41 (by decide) ?_
        exact W.iret (v := 0) hx hb hr (fun t ht hW => ⟨⟨_, (), rfl, h, trivial⟩, hS.F ht⟩) hS.2.2 dX7_place_42
      · have h := h.2 c_29
        refine lv_aload_n hx hb dX7_place_32 rfl (lv_at hl 0 rfl) ?_
        refine c_get (C := RX7) (T := TX7) (N := 7) (K := 6) (v := .ref q1) hx hb hts hinX7 hown hK hP hq hk (by decide) rfl 6 (by decide) (hts _ mwC_37) (fun _ h9 => h9) (by show some (va_rf (sR sh q 6)) = _; rw [e2]; rfl) dX7_place_33 ?_
        refine lv_iload_n hx hb dX7_place_36 rfl (lv_at hl 1 rfl) ?_
        obtain ⟨hi10, h⟩ := h
        refine c_iald hx hb hK hP hm8 hk9 hi10 dX7_place_37 ?_
        refine lv_goto (tgt := 42) hx hb dX7_place_38 (by decide) ?_
        exact W.iret (v := (ai q1 p0.toNatClampNeg)) hx hb hr (fun t ht hW => ⟨⟨_, (), rfl, h, trivial⟩, hS.F ht⟩) hS.2.2 dX7_place_42

abbrev wmX8_place : List Cond := .code yX8_place cX8_place 2 (some .int) :: WC
theorem hd_X8_place : yX8_place.cls = RX8 ∧ yX8_place.cls ≠ "java/lang/invoke/MethodHandle" ∧ yX8_place.cls ≠ "java/lang/invoke/VarHandle" ∧ (parseMethodDescriptor yX8_place.desc).map (fun d => d.parameters.length) = some 1 := by decide +kernel
def P_X8_place (sh : Sh) (ci : Nat → Nat → Int32) (ai : Nat → Nat → Int32) (al : Nat → Nat → Int64) (q : Nat) (p0 : Int32) (Q : Int32 → Prop) : Prop := (q ∈ sL sh ∧ sK sh q = 7) ∧ Q ((ci q 8) + p0)
set_option maxHeartbeats 4000000 in
set_option maxRecDepth 100000 in
theorem p_X8_place (l : Launch) (dC : Nat → ClassId) (dI : Nat → Nat → Nat) (sh : Sh) (ci : Nat → Nat → Int32) (ai : Nat → Nat → Int32) (al : Nat → Nat → Int64) (q : Nat) (p0 : Int32) (Q : Int32 → Prop) (h : P_X8_place sh ci ai al q p0 Q) (sz : Nat) : Met l yX8_place wmX8_place ({ frames := 12, cells := 0, slots := 0, locals := 200 }) (va_Pc [.ref q, .int p0] (cPre dC dI sh ci ai al sz)) (va_Qi (S := Unit) (fun r _ => Q r) (fun _ _ => True) (va_A [] sz)) 0 0 (va_A [] sz) := by
  refine Met.ofW (cc := cX8_place) (maxL := 2) (ret := (some .int)) (by decide) rfl ?_
  intro p e s m args below meth c s₁ B hml hv
  obtain ⟨rfl, hsz, hP, hK, hD0, hG⟩ := hv
  have hx := B.exec
  have hb := B.bytes
  have hr := B.returns
  have hts : ∀ w ∈ WC, w.before _ s = true := fun w h => atoms_spec (ws := wmX8_place) B.pre w (List.mem_cons_of_mem _ h)
  have hown : s.vm.findClass RX8 = some m.cls := findClass_of_methodNamed B.named
  have hlocks := B.notSynchronized
  subst hsz
  have hD := hD0
  generalize hAe : va_A [] s.heap.size = A at ⊢
  have hA : ∀ q : Nat, s.heap.size ≤ q → A q := fun q h => by rw [← hAe]; exact Or.inr h
  generalize hH : s.heap = H at hP ⊢
  have hS : va_S A s.heap H [] := by rw [← hH]; exact va_S.rf
  have hl := lv_entry [.ref q, .int p0] (n := 2) (Nat.le_of_ble_eq_true rfl)
  rw [lg_entry_eq]
  generalize (lg_sl [.ref q, .int p0] ++ List.replicate (2 - (lg_sl [.ref q, .int p0]).length) Slot.unset).toArray = ls at hl ⊢
  have hl : lv_has ls 2 [(0, .ref q), (1, .int p0)] := hl
  unfold P_X8_place at h
  obtain ⟨⟨hq, hk⟩, h⟩ := h
  refine lv_aload_n hx hb dX8_place_0 rfl (lv_at hl 0 rfl) ?_
  refine c_get (C := RX8) (T := TX8) (N := 9) (K := 7) (v := .int (ci q 8)) hx hb hts hinX8 hown hK hP hq hk (by decide) rfl 8 (by decide) (hts _ mwC_39) (fun _ h9 => h9) rfl dX8_place_1 ?_
  refine lv_iload_n hx hb dX8_place_4 rfl (lv_at hl 1 rfl) ?_
  refine lv_iadd hx hb dX8_place_5 ?_
  exact W.iret (v := ((ci q 8) + p0)) hx hb hr (fun t ht hW => ⟨⟨_, (), rfl, h, trivial⟩, hS.F ht⟩) hS.2.2 dX8_place_6

abbrev wmX10_place : List Cond := .code yX10_place cX10_place 2 (some .int) :: WC
theorem hd_X10_place : yX10_place.cls = RX10 ∧ yX10_place.cls ≠ "java/lang/invoke/MethodHandle" ∧ yX10_place.cls ≠ "java/lang/invoke/VarHandle" ∧ (parseMethodDescriptor yX10_place.desc).map (fun d => d.parameters.length) = some 1 := by decide +kernel
def P_X10_place (sh : Sh) (ci : Nat → Nat → Int32) (ai : Nat → Nat → Int32) (al : Nat → Nat → Int64) (q : Nat) (p0 : Int32) (Q : Int32 → Prop) : Prop := (q ∈ sL sh ∧ sK sh q = 9) ∧ ((p0 < 0) → (Q 0)) ∧ ((¬ p0 < 0) → (∃ q1 : Nat, sR sh q 8 = some q1 ∧ (q1 ∈ sL sh ∧ sK sh q1 = 20) ∧ (((nI (sN sh q1)) ≤ p0) → (Q 0)) ∧ ((¬ (nI (sN sh q1)) ≤ p0) → (vp_in p0 (sN sh q1) ∧ Q (ai q1 p0.toNatClampNeg)))))
set_option maxHeartbeats 4000000 in
set_option maxRecDepth 100000 in
theorem p_X10_place (l : Launch) (dC : Nat → ClassId) (dI : Nat → Nat → Nat) (sh : Sh) (ci : Nat → Nat → Int32) (ai : Nat → Nat → Int32) (al : Nat → Nat → Int64) (q : Nat) (p0 : Int32) (Q : Int32 → Prop) (h : P_X10_place sh ci ai al q p0 Q) (sz : Nat) : Met l yX10_place wmX10_place ({ frames := 12, cells := 0, slots := 0, locals := 200 }) (va_Pc [.ref q, .int p0] (cPre dC dI sh ci ai al sz)) (va_Qi (S := Unit) (fun r _ => Q r) (fun _ _ => True) (va_A [] sz)) 0 0 (va_A [] sz) := by
  refine Met.ofW (cc := cX10_place) (maxL := 2) (ret := (some .int)) (by decide) rfl ?_
  intro p e s m args below meth c s₁ B hml hv
  obtain ⟨rfl, hsz, hP, hK, hD0, hG⟩ := hv
  have hx := B.exec
  have hb := B.bytes
  have hr := B.returns
  have hts : ∀ w ∈ WC, w.before _ s = true := fun w h => atoms_spec (ws := wmX10_place) B.pre w (List.mem_cons_of_mem _ h)
  have hown : s.vm.findClass RX10 = some m.cls := findClass_of_methodNamed B.named
  have hlocks := B.notSynchronized
  subst hsz
  have hD := hD0
  generalize hAe : va_A [] s.heap.size = A at ⊢
  have hA : ∀ q : Nat, s.heap.size ≤ q → A q := fun q h => by rw [← hAe]; exact Or.inr h
  generalize hH : s.heap = H at hP ⊢
  have hS : va_S A s.heap H [] := by rw [← hH]; exact va_S.rf
  have hl := lv_entry [.ref q, .int p0] (n := 2) (Nat.le_of_ble_eq_true rfl)
  rw [lg_entry_eq]
  generalize (lg_sl [.ref q, .int p0] ++ List.replicate (2 - (lg_sl [.ref q, .int p0]).length) Slot.unset).toArray = ls at hl ⊢
  have hl : lv_has ls 2 [(0, .ref q), (1, .int p0)] := hl
  unfold P_X10_place at h
  obtain ⟨⟨hq, hk⟩, h⟩ := h
  refine lv_iload_n hx hb dX10_place_0 rfl (lv_at hl 1 rfl) ?_
  refine lv_if_lt (tgt := 22) hx hb dX10_place_1 (by decide) (fun c_1 => ?_) (fun c_1 => ?_)
  · have h := h.1 c_1
    refine lv_iconst (v := 0) hx hb dX10_place_22 (by decide) ?_
    exact W.iret (v := 0) hx hb hr (fun t ht hW => ⟨⟨_, (), rfl, h, trivial⟩, hS.F ht⟩) hS.2.2 dX10_place_23
  · have h := h.2 c_1
    refine lv_iload_n hx hb dX10_place_4 rfl (lv_at hl 1 rfl) ?_
    refine lv_aload_n hx hb dX10_place_5 rfl (lv_at hl 0 rfl) ?_
    obtain ⟨q1, e2, h⟩ := h
    refine c_get (C := RX10) (T := TX10) (N := 9) (K := 9) (v := .ref q1) hx hb hts hinX10 hown hK hP hq hk (by decide) rfl 8 (by decide) (hts _ mwC_40) (fun _ h9 => h9) (by show some (va_rf (sR sh q 8)) = _; rw [e2]; rfl) dX10_place_6 ?_
    obtain ⟨⟨hm3, hk4⟩, h⟩ := h
    refine c_alen hx hb hK hP hm3 (Or.inl hk4) dX10_place_9 ?_
    refine lv_icmp_ge (tgt := 22) hx hb dX10_place_10 (by decide) (fun c_10 => ?_) (fun c_10 => ?_)
    · have h := h.1 c_10
      refine lv_iconst (v := 0) hx hb dX10_place_22 (by decide) ?_
      exact W.iret (v := 0) hx hb hr (fun t ht hW => ⟨⟨_, (), rfl, h, trivial⟩, hS.F ht⟩) hS.2.2 dX10_place_23
    · have h := h.2 c_10
      refine lv_aload_n hx hb dX10_place_13 rfl (lv_at hl 0 rfl) ?_
      refine c_get (C := RX10) (T := TX10) (N := 9) (K := 9) (v := .ref q1) hx hb hts hinX10 hown hK hP hq hk (by decide) rfl 8 (by decide) (hts _ mwC_40) (fun _ h9 => h9) (by show some (va_rf (sR sh q 8)) = _; rw [e2]; rfl) dX10_place_14 ?_
      refine lv_iload_n hx hb dX10_place_17 rfl (lv_at hl 1 rfl) ?_
      obtain ⟨hi5, h⟩ := h
      refine c_iald hx hb hK hP hm3 hk4 hi5 dX10_place_18 ?_
      refine lv_goto (tgt := 23) hx hb dX10_place_19 (by decide) ?_
      exact W.iret (v := (ai q1 p0.toNatClampNeg)) hx hb hr (fun t ht hW => ⟨⟨_, (), rfl, h, trivial⟩, hS.F ht⟩) hS.2.2 dX10_place_23

def P_V_source (sh : Sh) (ci : Nat → Nat → Int32) (ai : Nat → Nat → Int32) (al : Nat → Nat → Int64) (q : Nat) (k : Int32) (Q : Nat → Prop) : Prop := (sK sh q = 0 → P_X5_source sh ci ai al q k Q) ∧ (sK sh q = 1 → P_X5_source sh ci ai al q k Q) ∧ (sK sh q = 2 → P_X2_source sh ci ai al q k Q) ∧ (sK sh q = 3 → P_X5_source sh ci ai al q k Q) ∧ (sK sh q = 4 → P_X4_source sh ci ai al q k Q) ∧ (sK sh q = 6 → P_X7_source sh ci ai al q k Q) ∧ (sK sh q = 7 → P_X8_source sh ci ai al q k Q) ∧ (sK sh q = 8 → P_X5_source sh ci ai al q k Q) ∧ (sK sh q = 9 → P_X10_source sh ci ai al q k Q)
set_option maxHeartbeats 4000000 in
set_option maxRecDepth 100000 in
theorem v_source {p : Program} {l : Launch} {e : Env} {R : Room} {s : State} {m : MethodId} {args : Array Value} {below : List Frame} {meth : Method} {c : Code} {H : Heap} {locs : List Loc} {cells slots : Nat}  {cc : ByteArray} {pc : Nat} {ls : Array Slot} {rest st : List Value} {A : Nat → Prop} {dC : Nat → ClassId} {dI : Nat → Nat → Nat} {sh : Sh} {ci : Nat → Nat → Int32} {ai : Nat → Nat → Int32} {al : Nat → Nat → Int64} {nL q : Nat} {k9 : Int32} {Q : Nat → Prop} (h : P_V_source sh ci ai al q k9 Q) (S : CallFix p m c cc nL s args WC RX5) (hK : cK dC dI sh s) (hP : va_P (dC, dI) vwCl (cW sh ci ai al) H) (hD : va_D A (cW sh ci ai al)) (hG : Gc s) (hq : q ∈ sL sh) (hz : isZ (sK sh q)) (hR : 12 + 1 ≤ R.frames ∧ 8 + (10 + 11) + (200) ≤ R.locals) (hsize : ls.size = nL) (hst : st = .int k9 :: .ref q :: rest) (hW : (rest.map fun v => v.category).sum ≤ 8) (hf : cells ≤ R.cells ∧ slots ≤ R.slots) (hdg : decode cc pc = .ok (.invokevirtual 53, 3)) : va_Run p l e R s m args below meth c H locs cells slots 0 0 (F0 m pc ls st) rest (va_Qr (S := Unit) (fun _ => True) (fun _ a _ => Q a) (va_A [] H.size) (Value.ref q :: [.int k9]).toArray) (va_A [] H.size) := by
  have hts := S.2.2.2.2
  rcases hz with e | e | e | e | e | e | e | e | e
  · exact va_runU (C := RX0) (owner := "NeededLists$LazyList") (rm := ({ frames := 12, cells := 0, slots := 0, locals := 200 })) (As := [.int k9]) S (p_X5_source l dC dI sh _ _ _ q k9 _ (h.1 e) H.size) (va_cwU (x := ⟨"NeededLists$LazyList", "source", "(I)LNeededLists$LazyList;"⟩) 1 hts (g_U gdC mwC_41 mwC_42 mwC_43 mwC_44 mwC_22 mwC_45) rfl rfl rfl rfl ⟨by decide, by decide, by decide +kernel⟩ ⟨(show 12 + 1 ≤ R.frames by omega), (show 8 + (2 + 11) + (200) ≤ R.locals by omega)⟩) (c_preV (vc := (RX0, TX0, 9)) hK hP hD hG hq e (by decide) rfl) rfl rfl hsize hst (lv_room hW) hdg hf
  · exact va_runU (C := RX1) (owner := "NeededLists$LazyList") (rm := ({ frames := 12, cells := 0, slots := 0, locals := 200 })) (As := [.int k9]) S (p_X5_source l dC dI sh _ _ _ q k9 _ (h.2.1 e) H.size) (va_cwU (x := ⟨"NeededLists$LazyList", "source", "(I)LNeededLists$LazyList;"⟩) 1 hts (g_U gdC mwC_41 mwC_42 mwC_46 mwC_44 mwC_22 mwC_45) rfl rfl rfl rfl ⟨by decide, by decide, by decide +kernel⟩ ⟨(show 12 + 1 ≤ R.frames by omega), (show 8 + (2 + 11) + (200) ≤ R.locals by omega)⟩) (c_preV (vc := (RX1, TX1, 9)) hK hP hD hG hq e (by decide) rfl) rfl rfl hsize hst (lv_room hW) hdg hf
  · exact va_runU (C := RX2) (owner := "NeededLists$LazyList") (rm := ({ frames := 12, cells := 0, slots := 0, locals := 200 })) (As := [.int k9]) S (p_X2_source l dC dI sh _ _ _ q k9 _ (h.2.2.1 e) H.size) (va_cwO (x := ⟨"NeededLists$LazyList", "source", "(I)LNeededLists$LazyList;"⟩) 1 hts (g_O gdC mwC_41 mwC_42 mwC_44 mwC_47 mwC_48 mwC_49 mwC_50) rfl rfl rfl mwC_45 ⟨by decide, by decide, by decide +kernel⟩ ⟨(show 12 + 1 ≤ R.frames by omega), (show 8 + (2 + 11) + (200) ≤ R.locals by omega)⟩) (c_preV (vc := (RX2, TX2, 9)) hK hP hD hG hq e (by decide) rfl) rfl rfl hsize hst (lv_room hW) hdg hf
  · exact va_runU (C := RX3) (owner := "NeededLists$LazyList") (rm := ({ frames := 12, cells := 0, slots := 0, locals := 200 })) (As := [.int k9]) S (p_X5_source l dC dI sh _ _ _ q k9 _ (h.2.2.2.1 e) H.size) (va_cwU (x := ⟨"NeededLists$LazyList", "source", "(I)LNeededLists$LazyList;"⟩) 1 hts (g_U gdC mwC_41 mwC_42 mwC_51 mwC_44 mwC_22 mwC_45) rfl rfl rfl rfl ⟨by decide, by decide, by decide +kernel⟩ ⟨(show 12 + 1 ≤ R.frames by omega), (show 8 + (2 + 11) + (200) ≤ R.locals by omega)⟩) (c_preV (vc := (RX3, TX3, 7)) hK hP hD hG hq e (by decide) rfl) rfl rfl hsize hst (lv_room hW) hdg hf
  · exact va_runU (C := RX4) (owner := "NeededLists$LazyList") (rm := ({ frames := 12, cells := 0, slots := 0, locals := 200 })) (As := [.int k9]) S (p_X4_source l dC dI sh _ _ _ q k9 _ (h.2.2.2.2.1 e) H.size) (va_cwO (x := ⟨"NeededLists$LazyList", "source", "(I)LNeededLists$LazyList;"⟩) 1 hts (g_O gdC mwC_41 mwC_42 mwC_44 mwC_52 mwC_53 mwC_54 mwC_55) rfl rfl rfl mwC_45 ⟨by decide, by decide, by decide +kernel⟩ ⟨(show 12 + 1 ≤ R.frames by omega), (show 8 + (2 + 11) + (200) ≤ R.locals by omega)⟩) (c_preV (vc := (RX4, TX4, 7)) hK hP hD hG hq e (by decide) rfl) rfl rfl hsize hst (lv_room hW) hdg hf
  · exact va_runU (C := RX7) (owner := "NeededLists$LazyList") (rm := ({ frames := 12, cells := 0, slots := 0, locals := 200 })) (As := [.int k9]) S (p_X7_source l dC dI sh _ _ _ q k9 _ (h.2.2.2.2.2.1 e) H.size) (va_cwO (x := ⟨"NeededLists$LazyList", "source", "(I)LNeededLists$LazyList;"⟩) 1 hts (g_O gdC mwC_41 mwC_42 mwC_44 mwC_56 mwC_57 mwC_58 mwC_59) rfl rfl rfl mwC_45 ⟨by decide, by decide, by decide +kernel⟩ ⟨(show 12 + 1 ≤ R.frames by omega), (show 8 + (2 + 11) + (200) ≤ R.locals by omega)⟩) (c_preV (vc := (RX7, TX7, 7)) hK hP hD hG hq e (by decide) rfl) rfl rfl hsize hst (lv_room hW) hdg hf
  · exact va_runU (C := RX8) (owner := "NeededLists$LazyList") (rm := ({ frames := 12, cells := 0, slots := 0, locals := 200 })) (As := [.int k9]) S (p_X8_source l dC dI sh _ _ _ q k9 _ (h.2.2.2.2.2.2.1 e) H.size) (va_cwO (x := ⟨"NeededLists$LazyList", "source", "(I)LNeededLists$LazyList;"⟩) 1 hts (g_O gdC mwC_41 mwC_42 mwC_44 mwC_60 mwC_61 mwC_62 mwC_63) rfl rfl rfl mwC_45 ⟨by decide, by decide, by decide +kernel⟩ ⟨(show 12 + 1 ≤ R.frames by omega), (show 8 + (2 + 11) + (200) ≤ R.locals by omega)⟩) (c_preV (vc := (RX8, TX8, 9)) hK hP hD hG hq e (by decide) rfl) rfl rfl hsize hst (lv_room hW) hdg hf
  · exact va_runU (C := RX9) (owner := "NeededLists$LazyList") (rm := ({ frames := 12, cells := 0, slots := 0, locals := 200 })) (As := [.int k9]) S (p_X5_source l dC dI sh _ _ _ q k9 _ (h.2.2.2.2.2.2.2.1 e) H.size) (va_cwU (x := ⟨"NeededLists$LazyList", "source", "(I)LNeededLists$LazyList;"⟩) 1 hts (g_U gdC mwC_41 mwC_42 mwC_64 mwC_44 mwC_22 mwC_45) rfl rfl rfl rfl ⟨by decide, by decide, by decide +kernel⟩ ⟨(show 12 + 1 ≤ R.frames by omega), (show 8 + (2 + 11) + (200) ≤ R.locals by omega)⟩) (c_preV (vc := (RX9, TX9, 8)) hK hP hD hG hq e (by decide) rfl) rfl rfl hsize hst (lv_room hW) hdg hf
  · exact va_runU (C := RX10) (owner := "NeededLists$LazyList") (rm := ({ frames := 12, cells := 0, slots := 0, locals := 200 })) (As := [.int k9]) S (p_X10_source l dC dI sh _ _ _ q k9 _ (h.2.2.2.2.2.2.2.2 e) H.size) (va_cwO (x := ⟨"NeededLists$LazyList", "source", "(I)LNeededLists$LazyList;"⟩) 1 hts (g_O gdC mwC_41 mwC_42 mwC_44 mwC_65 mwC_66 mwC_67 mwC_68) rfl rfl rfl mwC_45 ⟨by decide, by decide, by decide +kernel⟩ ⟨(show 12 + 1 ≤ R.frames by omega), (show 8 + (2 + 11) + (200) ≤ R.locals by omega)⟩) (c_preV (vc := (RX10, TX10, 9)) hK hP hD hG hq e (by decide) rfl) rfl rfl hsize hst (lv_room hW) hdg hf
