theorem dX2_source_0 : decode cX2_source 0 = .ok (.aload_n 0, 1) := by decide +kernel
theorem dX2_source_1 : decode cX2_source 1 = .ok (.getfield 9, 3) := by decide +kernel
theorem dX2_source_4 : decode cX2_source 4 = .ok (.areturn, 1) := by decide +kernel
theorem dX4_source_0 : decode cX4_source 0 = .ok (.iload_n 1, 1) := by decide +kernel
theorem dX4_source_1 : decode cX4_source 1 = .ok (.aload_n 0, 1) := by decide +kernel
theorem dX4_source_2 : decode cX4_source 2 = .ok (.getfield 9, 3) := by decide +kernel
theorem dX4_source_5 : decode cX4_source 5 = .ok (.invokevirtual 22, 3) := by decide +kernel
theorem dX4_source_8 : decode cX4_source 8 = .ok (.if_icmp .lt 10, 3) := by decide +kernel
theorem dX4_source_11 : decode cX4_source 11 = .ok (.aload_n 0, 1) := by decide +kernel
theorem dX4_source_12 : decode cX4_source 12 = .ok (.getfield 15, 3) := by decide +kernel
theorem dX4_source_15 : decode cX4_source 15 = .ok (.ifnonnull 10, 3) := by decide +kernel
theorem dX4_source_18 : decode cX4_source 18 = .ok (.aload_n 0, 1) := by decide +kernel
theorem dX4_source_19 : decode cX4_source 19 = .ok (.getfield 9, 3) := by decide +kernel
theorem dX4_source_22 : decode cX4_source 22 = .ok (.goto 7, 3) := by decide +kernel
theorem dX4_source_25 : decode cX4_source 25 = .ok (.aload_n 0, 1) := by decide +kernel
theorem dX4_source_26 : decode cX4_source 26 = .ok (.getfield 15, 3) := by decide +kernel
theorem dX4_source_29 : decode cX4_source 29 = .ok (.areturn, 1) := by decide +kernel
theorem dX5_source_0 : decode cX5_source 0 = .ok (.aload_n 0, 1) := by decide +kernel
theorem dX5_source_1 : decode cX5_source 1 = .ok (.areturn, 1) := by decide +kernel
theorem dX5_there_0 : decode cX5_there 0 = .ok (.aload_n 0, 1) := by decide +kernel
theorem dX5_there_1 : decode cX5_there 1 = .ok (.getfield 23, 3) := by decide +kernel
theorem dX5_there_4 : decode cX5_there 4 = .ok (.ifCond .ne 10, 3) := by decide +kernel
theorem dX5_there_7 : decode cX5_there 7 = .ok (.aload_n 0, 1) := by decide +kernel
theorem dX5_there_8 : decode cX5_there 8 = .ok (.getfield 27, 3) := by decide +kernel
theorem dX5_there_11 : decode cX5_there 11 = .ok (.goto 9, 3) := by decide +kernel
theorem dX5_there_14 : decode cX5_there 14 = .ok (.aload_n 0, 1) := by decide +kernel
theorem dX5_there_15 : decode cX5_there 15 = .ok (.getfield 27, 3) := by decide +kernel
theorem dX5_there_18 : decode cX5_there 18 = .ok (.iconst 1, 1) := by decide +kernel
theorem dX5_there_19 : decode cX5_there 19 = .ok (.isub, 1) := by decide +kernel
theorem dX5_there_20 : decode cX5_there 20 = .ok (.ireturn, 1) := by decide +kernel
abbrev wmX5_there : List Cond := .code yX5_there cX5_there 1 (some .int) :: WC
theorem hd_X5_there : yX5_there.cls = RX5 ∧ yX5_there.cls ≠ "java/lang/invoke/MethodHandle" ∧ yX5_there.cls ≠ "java/lang/invoke/VarHandle" ∧ (parseMethodDescriptor yX5_there.desc).map (fun d => d.parameters.length) = some 0 := by decide +kernel
def P_X5_there (sh : Sh) (ci : Nat → Nat → Int32) (ai : Nat → Nat → Int32) (al : Nat → Nat → Int64) (q : Nat)  (Q : Int32 → Prop) : Prop := (q ∈ sL sh ∧ isZ (sK sh q)) ∧ ((¬ (ci q 4) = 0) → (Q ((ci q 3) - 1))) ∧ (((ci q 4) = 0) → (Q (ci q 3)))
set_option maxHeartbeats 4000000 in
set_option maxRecDepth 100000 in
theorem p_X5_there (l : Launch) (dC : Nat → ClassId) (dI : Nat → Nat → Nat) (sh : Sh) (ci : Nat → Nat → Int32) (ai : Nat → Nat → Int32) (al : Nat → Nat → Int64) (q : Nat)  (Q : Int32 → Prop) (h : P_X5_there sh ci ai al q  Q) (sz : Nat) : Met l yX5_there wmX5_there ({ frames := 4, cells := 0, slots := 0, locals := 60 }) (va_Pc [.ref q] (cPre dC dI sh ci ai al sz)) (va_Qi (S := Unit) (fun r _ => Q r) (fun _ _ => True) (va_A [] sz)) 0 0 (va_A [] sz) := by
  refine Met.ofW (cc := cX5_there) (maxL := 1) (ret := (some .int)) (by decide) rfl ?_
  intro p e s m args below meth c s₁ B hml hv
  obtain ⟨rfl, hsz, hP, hK, hD0, hG⟩ := hv
  have hx := B.exec
  have hb := B.bytes
  have hr := B.returns
  have hts : ∀ w ∈ WC, w.before _ s = true := fun w h => atoms_spec (ws := wmX5_there) B.pre w (List.mem_cons_of_mem _ h)
  have hown : s.vm.findClass RX5 = some m.cls := findClass_of_methodNamed B.named
  have hlocks := B.notSynchronized
  subst hsz
  have hD := hD0
  generalize hAe : va_A [] s.heap.size = A at ⊢
  have hA : ∀ q : Nat, s.heap.size ≤ q → A q := fun q h => by rw [← hAe]; exact Or.inr h
  generalize hH : s.heap = H at hP ⊢
  have hS : va_S A s.heap H [] := by rw [← hH]; exact va_S.rf
  have hl := lv_entry [.ref q] (n := 1) (Nat.le_of_ble_eq_true rfl)
  rw [lg_entry_eq]
  generalize (lg_sl [.ref q] ++ List.replicate (1 - (lg_sl [.ref q]).length) Slot.unset).toArray = ls at hl ⊢
  have hl : lv_has ls 1 [(0, .ref q)] := hl
  unfold P_X5_there at h
  obtain ⟨⟨hq, hk⟩, h⟩ := h
  refine lv_aload_n hx hb dX5_there_0 rfl (lv_at hl 0 rfl) ?_
  refine c_getZ4 hx hb hts hown hK hP hq hk (hts _ mwC_15) dX5_there_1 ?_
  refine lv_if_ne (tgt := 14) hx hb dX5_there_4 (by decide) (fun c_4 => ?_) (fun c_4 => ?_)
  · have h := h.1 c_4
    refine lv_aload_n hx hb dX5_there_14 rfl (lv_at hl 0 rfl) ?_
    refine c_getZ3 hx hb hts hown hK hP hq hk (hts _ mwC_16) dX5_there_15 ?_
    refine lv_iconst (v := 1) hx hb dX5_there_18 (by decide) ?_
    refine lv_isub hx hb dX5_there_19 ?_
    exact W.iret (v := ((ci q 3) - 1)) hx hb hr (fun t ht hW => ⟨⟨_, (), rfl, h, trivial⟩, hS.F ht⟩) hS.2.2 dX5_there_20
  · have h := h.2 c_4
    refine lv_aload_n hx hb dX5_there_7 rfl (lv_at hl 0 rfl) ?_
    refine c_getZ3 hx hb hts hown hK hP hq hk (hts _ mwC_16) dX5_there_8 ?_
    refine lv_goto (tgt := 20) hx hb dX5_there_11 (by decide) ?_
    exact W.iret (v := (ci q 3)) hx hb hr (fun t ht hW => ⟨⟨_, (), rfl, h, trivial⟩, hS.F ht⟩) hS.2.2 dX5_there_20

abbrev wmX5_source : List Cond := .code yX5_source cX5_source 2 (some (.object "NeededLists$LazyList")) :: WC
theorem hd_X5_source : yX5_source.cls = RX5 ∧ yX5_source.cls ≠ "java/lang/invoke/MethodHandle" ∧ yX5_source.cls ≠ "java/lang/invoke/VarHandle" ∧ (parseMethodDescriptor yX5_source.desc).map (fun d => d.parameters.length) = some 1 := by decide +kernel
def P_X5_source (sh : Sh) (ci : Nat → Nat → Int32) (ai : Nat → Nat → Int32) (al : Nat → Nat → Int64) (q : Nat) (p0 : Int32) (Q : Nat → Prop) : Prop := (q ∈ sL sh ∧ isZ (sK sh q)) ∧ Q q
set_option maxHeartbeats 4000000 in
set_option maxRecDepth 100000 in
theorem p_X5_source (l : Launch) (dC : Nat → ClassId) (dI : Nat → Nat → Nat) (sh : Sh) (ci : Nat → Nat → Int32) (ai : Nat → Nat → Int32) (al : Nat → Nat → Int64) (q : Nat) (p0 : Int32) (Q : Nat → Prop) (h : P_X5_source sh ci ai al q p0 Q) (sz : Nat) : Met l yX5_source wmX5_source ({ frames := 12, cells := 0, slots := 0, locals := 200 }) (va_Pc [.ref q, .int p0] (cPre dC dI sh ci ai al sz)) (va_Qr (S := Unit) (fun _ => True) (fun _ a _ => Q a) (va_A [] sz)) 0 0 (va_A [] sz) := by
  refine Met.ofW (cc := cX5_source) (maxL := 2) (ret := (some (.object "NeededLists$LazyList"))) (by decide) rfl ?_
  intro p e s m args below meth c s₁ B hml hv
  obtain ⟨rfl, hsz, hP, hK, hD0, hG⟩ := hv
  have hx := B.exec
  have hb := B.bytes
  have hr := B.returns
  have hts : ∀ w ∈ WC, w.before _ s = true := fun w h => atoms_spec (ws := wmX5_source) B.pre w (List.mem_cons_of_mem _ h)
  have hown : s.vm.findClass RX5 = some m.cls := findClass_of_methodNamed B.named
  have hlocks := B.notSynchronized
  subst hsz
  have hD := hD0
  generalize hAe : va_A [] s.heap.size = A at ⊢
  have hA : ∀ q : Nat, s.heap.size ≤ q → A q := fun q h => by rw [← hAe]; exact Or.inr h
  generalize hH : s.heap = H at hP ⊢
  have hS : va_S A s.heap H [] := by rw [← hH]; exact va_S.rf
  have hl := lv_entry [.ref q, .int p0] (n := 2) (Nat.le_of_ble_eq_true rfl)
  rw [lg_entry_eq]
  generalize (lg_sl [.ref q, .int p0] ++ List.replicate (2 - (lg_sl [.ref q, .int p0]).length) Slot.unset).toArray = ls at hl ⊢
  have hl : lv_has ls 2 [(0, .ref q), (1, .int p0)] := hl
  unfold P_X5_source at h
  obtain ⟨⟨hq, hk⟩, h⟩ := h
  refine lv_aload_n hx hb dX5_source_0 rfl (lv_at hl 0 rfl) ?_
  exact W.aret hx hb hr (Or.inl ⟨_, rfl⟩) (Or.inr ⟨_, rfl⟩) (fun t ht hW => ⟨⟨(), q, rfl, trivial, h⟩, hS.F ht⟩) hS.2.2 dX5_source_1

abbrev wmX2_source : List Cond := .code yX2_source cX2_source 2 (some (.object "NeededLists$LazyList")) :: WC
theorem hd_X2_source : yX2_source.cls = RX2 ∧ yX2_source.cls ≠ "java/lang/invoke/MethodHandle" ∧ yX2_source.cls ≠ "java/lang/invoke/VarHandle" ∧ (parseMethodDescriptor yX2_source.desc).map (fun d => d.parameters.length) = some 1 := by decide +kernel
def P_X2_source (sh : Sh) (ci : Nat → Nat → Int32) (ai : Nat → Nat → Int32) (al : Nat → Nat → Int64) (q : Nat) (p0 : Int32) (Q : Nat → Prop) : Prop := (q ∈ sL sh ∧ sK sh q = 2) ∧ ∃ q1 : Nat, sR sh q 5 = some q1 ∧ Q q1
set_option maxHeartbeats 4000000 in
set_option maxRecDepth 100000 in
theorem p_X2_source (l : Launch) (dC : Nat → ClassId) (dI : Nat → Nat → Nat) (sh : Sh) (ci : Nat → Nat → Int32) (ai : Nat → Nat → Int32) (al : Nat → Nat → Int64) (q : Nat) (p0 : Int32) (Q : Nat → Prop) (h : P_X2_source sh ci ai al q p0 Q) (sz : Nat) : Met l yX2_source wmX2_source ({ frames := 12, cells := 0, slots := 0, locals := 200 }) (va_Pc [.ref q, .int p0] (cPre dC dI sh ci ai al sz)) (va_Qr (S := Unit) (fun _ => True) (fun _ a _ => Q a) (va_A [] sz)) 0 0 (va_A [] sz) := by
  refine Met.ofW (cc := cX2_source) (maxL := 2) (ret := (some (.object "NeededLists$LazyList"))) (by decide) rfl ?_
  intro p e s m args below meth c s₁ B hml hv
  obtain ⟨rfl, hsz, hP, hK, hD0, hG⟩ := hv
  have hx := B.exec
  have hb := B.bytes
  have hr := B.returns
  have hts : ∀ w ∈ WC, w.before _ s = true := fun w h => atoms_spec (ws := wmX2_source) B.pre w (List.mem_cons_of_mem _ h)
  have hown : s.vm.findClass RX2 = some m.cls := findClass_of_methodNamed B.named
  have hlocks := B.notSynchronized
  subst hsz
  have hD := hD0
  generalize hAe : va_A [] s.heap.size = A at ⊢
  have hA : ∀ q : Nat, s.heap.size ≤ q → A q := fun q h => by rw [← hAe]; exact Or.inr h
  generalize hH : s.heap = H at hP ⊢
  have hS : va_S A s.heap H [] := by rw [← hH]; exact va_S.rf
  have hl := lv_entry [.ref q, .int p0] (n := 2) (Nat.le_of_ble_eq_true rfl)
  rw [lg_entry_eq]
  generalize (lg_sl [.ref q, .int p0] ++ List.replicate (2 - (lg_sl [.ref q, .int p0]).length) Slot.unset).toArray = ls at hl ⊢
  have hl : lv_has ls 2 [(0, .ref q), (1, .int p0)] := hl
  unfold P_X2_source at h
  obtain ⟨⟨hq, hk⟩, h⟩ := h
  refine lv_aload_n hx hb dX2_source_0 rfl (lv_at hl 0 rfl) ?_
  obtain ⟨q1, e2, h⟩ := h
  refine c_get (C := RX2) (T := TX2) (N := 9) (K := 2) (v := .ref q1) hx hb hts hinX2 hown hK hP hq hk (by decide) rfl 5 (by decide) (hts _ mwC_17) (fun _ h9 => h9) (by show some (va_rf (sR sh q 5)) = _; rw [e2]; rfl) dX2_source_1 ?_
  exact W.aret hx hb hr (Or.inl ⟨_, rfl⟩) (Or.inr ⟨_, rfl⟩) (fun t ht hW => ⟨⟨(), q1, rfl, trivial, h⟩, hS.F ht⟩) hS.2.2 dX2_source_4

abbrev wmX4_source : List Cond := .code yX4_source cX4_source 2 (some (.object "NeededLists$LazyList")) :: WC
theorem hd_X4_source : yX4_source.cls = RX4 ∧ yX4_source.cls ≠ "java/lang/invoke/MethodHandle" ∧ yX4_source.cls ≠ "java/lang/invoke/VarHandle" ∧ (parseMethodDescriptor yX4_source.desc).map (fun d => d.parameters.length) = some 1 := by decide +kernel
def P_X4_source (sh : Sh) (ci : Nat → Nat → Int32) (ai : Nat → Nat → Int32) (al : Nat → Nat → Int64) (q : Nat) (p0 : Int32) (Q : Nat → Prop) : Prop := (q ∈ sL sh ∧ sK sh q = 4) ∧ ∃ q1 : Nat, sR sh q 5 = some q1 ∧ (q1 ∈ sL sh ∧ isZ (sK sh q1)) ∧ P_X5_there sh ci ai al q1  (fun r5 => ((p0 < r5) → (Q q1)) ∧ ((¬ p0 < r5) → ((sR sh q 6 = none → (Q q1)) ∧ (∀ q6 : Nat, sR sh q 6 = some q6 → (Q q6)))))
set_option maxHeartbeats 4000000 in
set_option maxRecDepth 100000 in
theorem p_X4_source (l : Launch) (dC : Nat → ClassId) (dI : Nat → Nat → Nat) (sh : Sh) (ci : Nat → Nat → Int32) (ai : Nat → Nat → Int32) (al : Nat → Nat → Int64) (q : Nat) (p0 : Int32) (Q : Nat → Prop) (h : P_X4_source sh ci ai al q p0 Q) (sz : Nat) : Met l yX4_source wmX4_source ({ frames := 12, cells := 0, slots := 0, locals := 200 }) (va_Pc [.ref q, .int p0] (cPre dC dI sh ci ai al sz)) (va_Qr (S := Unit) (fun _ => True) (fun _ a _ => Q a) (va_A [] sz)) 0 0 (va_A [] sz) := by
  refine Met.ofW (cc := cX4_source) (maxL := 2) (ret := (some (.object "NeededLists$LazyList"))) (by decide) rfl ?_
  intro p e s m args below meth c s₁ B hml hv
  obtain ⟨rfl, hsz, hP, hK, hD0, hG⟩ := hv
  have hx := B.exec
  have hb := B.bytes
  have hr := B.returns
  have hts : ∀ w ∈ WC, w.before _ s = true := fun w h => atoms_spec (ws := wmX4_source) B.pre w (List.mem_cons_of_mem _ h)
  have hown : s.vm.findClass RX4 = some m.cls := findClass_of_methodNamed B.named
  have hlocks := B.notSynchronized
  subst hsz
  have hD := hD0
  generalize hAe : va_A [] s.heap.size = A at ⊢
  have hA : ∀ q : Nat, s.heap.size ≤ q → A q := fun q h => by rw [← hAe]; exact Or.inr h
  generalize hH : s.heap = H at hP ⊢
  have hS : va_S A s.heap H [] := by rw [← hH]; exact va_S.rf
  have hl := lv_entry [.ref q, .int p0] (n := 2) (Nat.le_of_ble_eq_true rfl)
  rw [lg_entry_eq]
  generalize (lg_sl [.ref q, .int p0] ++ List.replicate (2 - (lg_sl [.ref q, .int p0]).length) Slot.unset).toArray = ls at hl ⊢
  have hl : lv_has ls 2 [(0, .ref q), (1, .int p0)] := hl
  unfold P_X4_source at h
  obtain ⟨⟨hq, hk⟩, h⟩ := h
  refine lv_iload_n hx hb dX4_source_0 rfl (lv_at hl 1 rfl) ?_
  refine lv_aload_n hx hb dX4_source_1 rfl (lv_at hl 0 rfl) ?_
  obtain ⟨q1, e2, h⟩ := h
  refine c_get (C := RX4) (T := TX4) (N := 7) (K := 4) (v := .ref q1) hx hb hts hinX4 hown hK hP hq hk (by decide) rfl 5 (by decide) (hts _ mwC_18) (fun _ h9 => h9) (by show some (va_rf (sR sh q 5)) = _; rw [e2]; rfl) dX4_source_2 ?_
  obtain ⟨⟨hm3, hk4⟩, h⟩ := h
  refine r_endi (c_runZ (rm := ({ frames := 4, cells := 0, slots := 0, locals := 60 })) (y := yX5_there) (x := ⟨"NeededLists$LazyList", "there", "()I"⟩) (n := 0) (bytes := cX5_there) (maxL := 1) (ret := (some .int)) (q := q1) (As := []) (rest := [.int p0]) ⟨hx, hb, hml, hown, hts⟩ (p_X5_there l dC dI sh _ _ _ q1  _ h H.size) mwC_19 mwC_20 mwC_21 mwC_22 mwC_23 mwC_24 mwC_25 mwC_26 mwC_27 mwC_28 mwC_29 mwC_30 mwC_31 mwC_32 rfl (by decide +kernel) rfl rfl ⟨Nat.le_of_ble_eq_true rfl, Nat.le_of_ble_eq_true rfl⟩ hK hP hD hG hm3 hk4 rfl hl.1 rfl (Nat.le_of_ble_eq_true rfl) ⟨Nat.le_of_ble_eq_true rfl, Nat.le_of_ble_eq_true rfl⟩ dX4_source_5) hP hS hA (fun r5 H locs h hP hS => ?_)
  refine lv_icmp_lt (tgt := 18) hx hb dX4_source_8 (by decide) (fun c_8 => ?_) (fun c_8 => ?_)
  · have h := h.1 c_8
    refine lv_aload_n hx hb dX4_source_18 rfl (lv_at hl 0 rfl) ?_
    refine c_get (C := RX4) (T := TX4) (N := 7) (K := 4) (v := .ref q1) hx hb hts hinX4 hown hK hP hq hk (by decide) rfl 5 (by decide) (hts _ mwC_18) (fun _ h9 => h9) (by show some (va_rf (sR sh q 5)) = _; rw [e2]; rfl) dX4_source_19 ?_
    refine lv_goto (tgt := 29) hx hb dX4_source_22 (by decide) ?_
    exact W.aret hx hb hr (Or.inl ⟨_, rfl⟩) (Or.inr ⟨_, rfl⟩) (fun t ht hW => ⟨⟨(), q1, rfl, trivial, h⟩, hS.F ht⟩) hS.2.2 dX4_source_29
  · have h := h.2 c_8
    refine lv_aload_n hx hb dX4_source_11 rfl (lv_at hl 0 rfl) ?_
    rcases e7 : sR sh q 6 with _ | q6
    · have h := h.1 e7
      refine c_get (C := RX4) (T := TX4) (N := 7) (K := 4) (v := .null) hx hb hts hinX4 hown hK hP hq hk (by decide) rfl 6 (by decide) (hts _ mwC_33) (fun _ h9 => h9) (by show some (va_rf (sR sh q 6)) = _; rw [e7]; rfl) dX4_source_12 ?_
      refine lv_ifnonnullN hx hb dX4_source_15 ?_
      refine lv_aload_n hx hb dX4_source_18 rfl (lv_at hl 0 rfl) ?_
      refine c_get (C := RX4) (T := TX4) (N := 7) (K := 4) (v := .ref q1) hx hb hts hinX4 hown hK hP hq hk (by decide) rfl 5 (by decide) (hts _ mwC_18) (fun _ h9 => h9) (by show some (va_rf (sR sh q 5)) = _; rw [e2]; rfl) dX4_source_19 ?_
      refine lv_goto (tgt := 29) hx hb dX4_source_22 (by decide) ?_
      exact W.aret hx hb hr (Or.inl ⟨_, rfl⟩) (Or.inr ⟨_, rfl⟩) (fun t ht hW => ⟨⟨(), q1, rfl, trivial, h⟩, hS.F ht⟩) hS.2.2 dX4_source_29
    · have h := h.2 q6 e7
      refine c_get (C := RX4) (T := TX4) (N := 7) (K := 4) (v := .ref q6) hx hb hts hinX4 hown hK hP hq hk (by decide) rfl 6 (by decide) (hts _ mwC_33) (fun _ h9 => h9) (by show some (va_rf (sR sh q 6)) = _; rw [e7]; rfl) dX4_source_12 ?_
      refine lv_ifnonnull (tgt := 25) hx hb dX4_source_15 (by decide) ?_
      refine lv_aload_n hx hb dX4_source_25 rfl (lv_at hl 0 rfl) ?_
      refine c_get (C := RX4) (T := TX4) (N := 7) (K := 4) (v := .ref q6) hx hb hts hinX4 hown hK hP hq hk (by decide) rfl 6 (by decide) (hts _ mwC_33) (fun _ h9 => h9) (by show some (va_rf (sR sh q 6)) = _; rw [e7]; rfl) dX4_source_26 ?_
      exact W.aret hx hb hr (Or.inl ⟨_, rfl⟩) (Or.inr ⟨_, rfl⟩) (fun t ht hW => ⟨⟨(), q6, rfl, trivial, h⟩, hS.F ht⟩) hS.2.2 dX4_source_29
