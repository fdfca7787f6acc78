theorem dX7_place_0 : decode cX7_place 0 = .ok (.aload_n 0, 1) := by decide +kernel
theorem dX7_place_1 : decode cX7_place 1 = .ok (.getfield 15, 3) := by decide +kernel
theorem dX7_place_4 : decode cX7_place 4 = .ok (.ifnonnull 15, 3) := by decide +kernel
theorem dX7_place_7 : decode cX7_place 7 = .ok (.aload_n 0, 1) := by decide +kernel
theorem dX7_place_8 : decode cX7_place 8 = .ok (.getfield 9, 3) := by decide +kernel
theorem dX7_place_11 : decode cX7_place 11 = .ok (.invokevirtual 26, 3) := by decide +kernel
theorem dX7_place_14 : decode cX7_place 14 = .ok (.iconst 1, 1) := by decide +kernel
theorem dX7_place_15 : decode cX7_place 15 = .ok (.isub, 1) := by decide +kernel
theorem dX7_place_16 : decode cX7_place 16 = .ok (.iload_n 1, 1) := by decide +kernel
theorem dX7_place_17 : decode cX7_place 17 = .ok (.isub, 1) := by decide +kernel
theorem dX7_place_18 : decode cX7_place 18 = .ok (.ireturn, 1) := by decide +kernel
theorem dX7_place_19 : decode cX7_place 19 = .ok (.iload_n 1, 1) := by decide +kernel
theorem dX7_place_20 : decode cX7_place 20 = .ok (.ifCond .lt 21, 3) := by decide +kernel
theorem dX7_place_23 : decode cX7_place 23 = .ok (.iload_n 1, 1) := by decide +kernel
theorem dX7_place_24 : decode cX7_place 24 = .ok (.aload_n 0, 1) := by decide +kernel
theorem dX7_place_25 : decode cX7_place 25 = .ok (.getfield 15, 3) := by decide +kernel
theorem dX7_place_28 : decode cX7_place 28 = .ok (.arraylength, 1) := by decide +kernel
theorem dX7_place_29 : decode cX7_place 29 = .ok (.if_icmp .ge 12, 3) := by decide +kernel
theorem dX7_place_32 : decode cX7_place 32 = .ok (.aload_n 0, 1) := by decide +kernel
theorem dX7_place_33 : decode cX7_place 33 = .ok (.getfield 15, 3) := by decide +kernel
theorem dX7_place_36 : decode cX7_place 36 = .ok (.iload_n 1, 1) := by decide +kernel
theorem dX7_place_37 : decode cX7_place 37 = .ok (.iaload, 1) := by decide +kernel
theorem dX7_place_38 : decode cX7_place 38 = .ok (.goto 4, 3) := by decide +kernel
theorem dX7_place_41 : decode cX7_place 41 = .ok (.iconst 0, 1) := by decide +kernel
theorem dX7_place_42 : decode cX7_place 42 = .ok (.ireturn, 1) := by decide +kernel
theorem dX8_place_0 : decode cX8_place 0 = .ok (.aload_n 0, 1) := by decide +kernel
theorem dX8_place_1 : decode cX8_place 1 = .ok (.getfield 15, 3) := by decide +kernel
theorem dX8_place_4 : decode cX8_place 4 = .ok (.iload_n 1, 1) := by decide +kernel
theorem dX8_place_5 : decode cX8_place 5 = .ok (.iadd, 1) := by decide +kernel
theorem dX8_place_6 : decode cX8_place 6 = .ok (.ireturn, 1) := by decide +kernel
theorem dX10_place_0 : decode cX10_place 0 = .ok (.iload_n 1, 1) := by decide +kernel
theorem dX10_place_1 : decode cX10_place 1 = .ok (.ifCond .lt 21, 3) := by decide +kernel
theorem dX10_place_4 : decode cX10_place 4 = .ok (.iload_n 1, 1) := by decide +kernel
theorem dX10_place_5 : decode cX10_place 5 = .ok (.aload_n 0, 1) := by decide +kernel
theorem dX10_place_6 : decode cX10_place 6 = .ok (.getfield 23, 3) := by decide +kernel
theorem dX10_place_9 : decode cX10_place 9 = .ok (.arraylength, 1) := by decide +kernel
theorem dX10_place_10 : decode cX10_place 10 = .ok (.if_icmp .ge 12, 3) := by decide +kernel
theorem dX10_place_13 : decode cX10_place 13 = .ok (.aload_n 0, 1) := by decide +kernel
theorem dX10_place_14 : decode cX10_place 14 = .ok (.getfield 23, 3) := by decide +kernel
theorem dX10_place_17 : decode cX10_place 17 = .ok (.iload_n 1, 1) := by decide +kernel
theorem dX10_place_18 : decode cX10_place 18 = .ok (.iaload, 1) := by decide +kernel
theorem dX10_place_19 : decode cX10_place 19 = .ok (.goto 4, 3) := by decide +kernel
theorem dX10_place_22 : decode cX10_place 22 = .ok (.iconst 0, 1) := by decide +kernel
theorem dX10_place_23 : decode cX10_place 23 = .ok (.ireturn, 1) := by decide +kernel
abbrev wmX7_place : List Cond := .code yX7_place cX7_place 2 (some .int) :: WC
theorem hd_X7_place : yX7_place.cls = RX7 ∧ yX7_place.cls ≠ "java/lang/invoke/MethodHandle" ∧ yX7_place.cls ≠ "java/lang/invoke/VarHandle" ∧ (parseMethodDescriptor yX7_place.desc).map (fun d => d.parameters.length) = some 1 := by decide +kernel
def P_X7_place (sh : Sh) (ci : Nat → Nat → Int32) (ai : Nat → Nat → Int32) (al : Nat → Nat → Int64) (q : Nat) (p0 : Int32) (Q : Int32 → Prop) : Prop := (q ∈ sL sh ∧ sK sh q = 6) ∧ ((sR sh q 6 = none → (∃ q3 : Nat, sR sh q 5 = some q3 ∧ (q3 ∈ sL sh ∧ isZ (sK sh q3)) ∧ P_X5_there sh ci ai al q3  (fun r7 => Q ((r7 - 1) - p0)))) ∧ (∀ q1 : Nat, sR sh q 6 = some q1 → (((p0 < 0) → (Q 0)) ∧ ((¬ p0 < 0) → ((q1 ∈ sL sh ∧ sK sh q1 = 20) ∧ (((nI (sN sh q1)) ≤ p0) → (Q 0)) ∧ ((¬ (nI (sN sh q1)) ≤ p0) → (vp_in p0 (sN sh q1) ∧ Q (ai q1 p0.toNatClampNeg))))))))
set_option maxHeartbeats 4000000 in
set_option maxRecDepth 100000 in
theorem p_X7_place (l : Launch) (dC : Nat → ClassId) (dI : Nat → Nat → Nat) (sh : Sh) (ci : Nat → Nat → Int32) (ai : Nat → Nat → Int32) (al : Nat → Nat → Int64) (q : Nat) (p0 : Int32) (Q : Int32 → Prop) (h : P_X7_place sh ci ai al q p0 Q) (sz : Nat) : Met l yX7_place wmX7_place ({ frames := 12, cells := 0, slots := 0, locals := 200 }) (va_Pc [.ref q, .int p0] (cPre dC dI sh ci ai al sz)) (va_Qi (S := Unit) (fun r _ => Q r) (fun _ _ => True) (va_A [] sz)) 0 0 (va_A [] sz) := by
  refine Met.ofW (cc := cX7_place) (maxL := 2) (ret := (some .int)) (by decide) rfl ?_
  intro p e s m args below meth c s₁ B hml hv
  obtain ⟨rfl, hsz, hP, hK, hD0, hG⟩ := hv
  have hx := B.exec
  have hb := B.bytes
  have hr := B.returns
  have hts : ∀ w ∈ WC, w.before _ s = true := fun w h => atoms_spec (ws := wmX7_place) B.pre w (List.mem_cons_of_mem _ h)
  have hown : s.vm.findClass RX7 = some m.cls := findClass_of_methodNamed B.named
  have hlocks := B.notSynchronized
  subst hsz
  have hD := hD0
  generalize hAe : va_A [] s.heap.size = A at ⊢
  have hA : ∀ q : Nat, s.heap.size ≤ q → A q := fun q h => by rw [← hAe]; exact Or.inr h
  generalize hH : s.heap = H at hP ⊢
  have hS : va_S A s.heap H [] := by rw [← hH]; exact va_S.rf
  have hl := lv_entry [.ref q, .int p0] (n := 2) (Nat.le_of_ble_eq_true rfl)
  rw [lg_entry_eq]
  generalize (lg_sl [.ref q, .int p0] ++ List.replicate (2 - (lg_sl [.ref q, .int p0]).length) Slot.unset).toArray = ls at hl ⊢
  have hl : lv_has ls 2 [(0, .ref q), (1, .int p0)] := hl
  unfold P_X7_place at h
  obtain ⟨⟨hq, hk⟩, h⟩ := h
  refine lv_aload_n hx hb dX7_place_0 rfl (lv_at hl 0 rfl) ?_
  rcases e2 : sR sh q 6 with _ | q1
  · have h := h.1 e2
    refine c_get (C := RX7) (T := TX7) (N := 7) (K := 6) (v := .null) hx hb hts hinX7 hown hK hP hq hk (by decide) rfl 6 (by decide) (hts _ mwC_37) (fun _ h9 => h9) (by show some (va_rf (sR sh q 6)) = _; rw [e2]; rfl) dX7_place_1 ?_
    refine lv_ifnonnullN hx hb dX7_place_4 ?_
    refine lv_aload_n hx hb dX7_place_7 rfl (lv_at hl 0 rfl) ?_
    obtain ⟨q3, e4, h⟩ := h
    refine c_get (C := RX7) (T := TX7) (N := 7) (K := 6) (v := .ref q3) hx hb hts hinX7 hown hK hP hq hk (by decide) rfl 5 (by decide) (hts _ mwC_34) (fun _ h9 => h9) (by show some (va_rf (sR sh q 5)) = _; rw [e4]; rfl) dX7_place_8 ?_
    obtain ⟨⟨hm5, hk6⟩, h⟩ := h
    refine r_endi (c_runZ (rm := ({ frames := 4, cells := 0, slots := 0, locals := 60 })) (y := yX5_there) (x := ⟨"NeededLists$LazyList", "there", "()I"⟩) (n := 0) (bytes := cX5_there) (maxL := 1) (ret := (some .int)) (q := q3) (As := []) (rest := []) ⟨hx, hb, hml, hown, hts⟩ (p_X5_there l dC dI sh _ _ _ q3  _ h H.size) mwC_38 mwC_20 mwC_21 mwC_22 mwC_23 mwC_24 mwC_25 mwC_26 mwC_27 mwC_28 mwC_29 mwC_30 mwC_31 mwC_32 rfl (by decide +kernel) rfl rfl ⟨Nat.le_of_ble_eq_true rfl, Nat.le_of_ble_eq_true rfl⟩ hK hP hD hG hm5 hk6 rfl hl.1 rfl (Nat.le_of_ble_eq_true rfl) ⟨Nat.le_of_ble_eq_true rfl, Nat.le_of_ble_eq_true rfl⟩ dX7_place_11) hP hS hA (fun r7 H locs h hP hS => ?_)
    refine lv_iconst (v := 1) hx hb dX7_place_14 (by decide) ?_
    refine lv_isub hx hb dX7_place_15 ?_
    refine lv_iload_n hx hb dX7_place_16 rfl (lv_at hl 1 rfl) ?_
    refine lv_isub hx hb dX7_place_17 ?_
    exact W.iret (v := ((r7 - 1) - p0)) hx hb hr (fun t ht hW => ⟨⟨_, (), rfl, h, trivial⟩, hS.F ht⟩) hS.2.2 dX7_place_18
  · have h := h.2 q1 e2
    refine c_get (C := RX7) (T := TX7) (N := 7) (K := 6) (v := .ref q1) hx hb hts hinX7 hown hK hP hq hk (by decide) rfl 6 (by decide) (hts _ mwC_37) (fun _ h9 => h9) (by show some (va_rf (sR sh q 6)) = _; rw [e2]; rfl) dX7_place_1 ?_
    refine lv_ifnonnull (tgt := 19) hx hb dX7_place_4 (by decide) ?_
    refine lv_iload_n hx hb dX7_place_19 rfl (lv_at hl 1 rfl) ?_
    refine lv_if_lt (tgt := 41) hx hb dX7_place_20 (by decide) (fun c_20 => ?_) (fun c_20 => ?_)
    · have h := h.1 c_20
      refine lv_iconst (v := 0) hx hb dX7_place_41 (by decide) ?_
      exact W.iret (v := 0) hx hb hr (fun t ht hW => ⟨⟨_, (), rfl, h, trivial⟩, hS.F ht⟩) hS.2.2 dX7_place_42
    · have h := h.2 c_20
      refine lv_iload_n hx hb dX7_place_23 rfl (lv_at hl 1 rfl) ?_
      refine lv_aload_n hx hb dX7_place_24 rfl (lv_at hl 0 rfl) ?_
      refine c_get (C := RX7) (T := TX7) (N := 7) (K := 6) (v := .ref q1) hx hb hts hinX7 hown hK hP hq hk (by decide) rfl 6 (by decide) (hts _ mwC_37) (fun _ h9 => h9) (by show some (va_rf (sR sh q 6)) = _; rw [e2]; rfl) dX7_place_25 ?_
      obtain ⟨⟨hm8, hk9⟩, h⟩ := h
      refine c_alen hx hb hK hP hm8 (Or.inl hk9) dX7_place_28 ?_
      refine lv_icmp_ge (tgt := 41) hx hb dX7_place_29 (by decide) (fun c_29 => ?_) (fun c_29 => ?_)
      · have h := h.1 c_29
        refine lv_iconst (v := 0) hx hb dX7_place_41 (by decide) ?_
        exact W.iret (v := 0) hx hb hr (fun t ht hW => ⟨⟨_, (), rfl, h, trivial⟩, hS.F ht⟩) hS.2.2 dX7_place_42
      · have h := h.2 c_29
        refine lv_aload_n hx hb dX7_place_32 rfl (lv_at hl 0 rfl) ?_
        refine c_get (C := RX7) (T := TX7) (N := 7) (K := 6) (v := .ref q1) hx hb hts hinX7 hown hK hP hq hk (by decide) rfl 6 (by decide) (hts _ mwC_37) (fun _ h9 => h9) (by show some (va_rf (sR sh q 6)) = _; rw [e2]; rfl) dX7_place_33 ?_
        refine lv_iload_n hx hb dX7_place_36 rfl (lv_at hl 1 rfl) ?_
        obtain ⟨hi10, h⟩ := h
        refine c_iald hx hb hK hP hm8 hk9 hi10 dX7_place_37 ?_
        refine lv_goto (tgt := 42) hx hb dX7_place_38 (by decide) ?_
        exact W.iret (v := (ai q1 p0.toNatClampNeg)) hx hb hr (fun t ht hW => ⟨⟨_, (), rfl, h, trivial⟩, hS.F ht⟩) hS.2.2 dX7_place_42

abbrev wmX8_place : List Cond := .code yX8_place cX8_place 2 (some .int) :: WC
theorem hd_X8_place : yX8_place.cls = RX8 ∧ yX8_place.cls ≠ "java/lang/invoke/MethodHandle" ∧ yX8_place.cls ≠ "java/lang/invoke/VarHandle" ∧ (parseMethodDescriptor yX8_place.desc).map (fun d => d.parameters.length) = some 1 := by decide +kernel
def P_X8_place (sh : Sh) (ci : Nat → Nat → Int32) (ai : Nat → Nat → Int32) (al : Nat → Nat → Int64) (q : Nat) (p0 : Int32) (Q : Int32 → Prop) : Prop := (q ∈ sL sh ∧ sK sh q = 7) ∧ Q ((ci q 8) + p0)
set_option maxHeartbeats 4000000 in
set_option maxRecDepth 100000 in
theorem p_X8_place (l : Launch) (dC : Nat → ClassId) (dI : Nat → Nat → Nat) (sh : Sh) (ci : Nat → Nat → Int32) (ai : Nat → Nat → Int32) (al : Nat → Nat → Int64) (q : Nat) (p0 : Int32) (Q : Int32 → Prop) (h : P_X8_place sh ci ai al q p0 Q) (sz : Nat) : Met l yX8_place wmX8_place ({ frames := 12, cells := 0, slots := 0, locals := 200 }) (va_Pc [.ref q, .int p0] (cPre dC dI sh ci ai al sz)) (va_Qi (S := Unit) (fun r _ => Q r) (fun _ _ => True) (va_A [] sz)) 0 0 (va_A [] sz) := by
  refine Met.ofW (cc := cX8_place) (maxL := 2) (ret := (some .int)) (by decide) rfl ?_
  intro p e s m args below meth c s₁ B hml hv
  obtain ⟨rfl, hsz, hP, hK, hD0, hG⟩ := hv
  have hx := B.exec
  have hb := B.bytes
  have hr := B.returns
  have hts : ∀ w ∈ WC, w.before _ s = true := fun w h => atoms_spec (ws := wmX8_place) B.pre w (List.mem_cons_of_mem _ h)
  have hown : s.vm.findClass RX8 = some m.cls := findClass_of_methodNamed B.named
  have hlocks := B.notSynchronized
  subst hsz
  have hD := hD0
  generalize hAe : va_A [] s.heap.size = A at ⊢
  have hA : ∀ q : Nat, s.heap.size ≤ q → A q := fun q h => by rw [← hAe]; exact Or.inr h
  generalize hH : s.heap = H at hP ⊢
  have hS : va_S A s.heap H [] := by rw [← hH]; exact va_S.rf
  have hl := lv_entry [.ref q, .int p0] (n := 2) (Nat.le_of_ble_eq_true rfl)
  rw [lg_entry_eq]
  generalize (lg_sl [.ref q, .int p0] ++ List.replicate (2 - (lg_sl [.ref q, .int p0]).length) Slot.unset).toArray = ls at hl ⊢
  have hl : lv_has ls 2 [(0, .ref q), (1, .int p0)] := hl
  unfold P_X8_place at h
  obtain ⟨⟨hq, hk⟩, h⟩ := h
  refine lv_aload_n hx hb dX8_place_0 rfl (lv_at hl 0 rfl) ?_
  refine c_get (C := RX8) (T := TX8) (N := 9) (K := 7) (v := .int (ci q 8)) hx hb hts hinX8 hown hK hP hq hk (by decide) rfl 8 (by decide) (hts _ mwC_39) (fun _ h9 => h9) rfl dX8_place_1 ?_
  refine lv_iload_n hx hb dX8_place_4 rfl (lv_at hl 1 rfl) ?_
  refine lv_iadd hx hb dX8_place_5 ?_
  exact W.iret (v := ((ci q 8) + p0)) hx hb hr (fun t ht hW => ⟨⟨_, (), rfl, h, trivial⟩, hS.F ht⟩) hS.2.2 dX8_place_6

abbrev wmX10_place : List Cond := .code yX10_place cX10_place 2 (some .int) :: WC
theorem hd_X10_place : yX10_place.cls = RX10 ∧ yX10_place.cls ≠ "java/lang/invoke/MethodHandle" ∧ yX10_place.cls ≠ "java/lang/invoke/VarHandle" ∧ (parseMethodDescriptor yX10_place.desc).map (fun d => d.parameters.length) = some 1 := by decide +kernel
def P_X10_place (sh : Sh) (ci : Nat → Nat → Int32) (ai : Nat → Nat → Int32) (al : Nat → Nat → Int64) (q : Nat) (p0 : Int32) (Q : Int32 → Prop) : Prop := (q ∈ sL sh ∧ sK sh q = 9) ∧ ((p0 < 0) → (Q 0)) ∧ ((¬ p0 < 0) → (∃ q1 : Nat, sR sh q 8 = some q1 ∧ (q1 ∈ sL sh ∧ sK sh q1 = 20) ∧ (((nI (sN sh q1)) ≤ p0) → (Q 0)) ∧ ((¬ (nI (sN sh q1)) ≤ p0) → (vp_in p0 (sN sh q1) ∧ Q (ai q1 p0.toNatClampNeg)))))
set_option maxHeartbeats 4000000 in
set_option maxRecDepth 100000 in
theorem p_X10_place (l : Launch) (dC : Nat → ClassId) (dI : Nat → Nat → Nat) (sh : Sh) (ci : Nat → Nat → Int32) (ai : Nat → Nat → Int32) (al : Nat → Nat → Int64) (q : Nat) (p0 : Int32) (Q : Int32 → Prop) (h : P_X10_place sh ci ai al q p0 Q) (sz : Nat) : Met l yX10_place wmX10_place ({ frames := 12, cells := 0, slots := 0, locals := 200 }) (va_Pc [.ref q, .int p0] (cPre dC dI sh ci ai al sz)) (va_Qi (S := Unit) (fun r _ => Q r) (fun _ _ => True) (va_A [] sz)) 0 0 (va_A [] sz) := by
  refine Met.ofW (cc := cX10_place) (maxL := 2) (ret := (some .int)) (by decide) rfl ?_
  intro p e s m args below meth c s₁ B hml hv
  obtain ⟨rfl, hsz, hP, hK, hD0, hG⟩ := hv
  have hx := B.exec
  have hb := B.bytes
  have hr := B.returns
  have hts : ∀ w ∈ WC, w.before _ s = true := fun w h => atoms_spec (ws := wmX10_place) B.pre w (List.mem_cons_of_mem _ h)
  have hown : s.vm.findClass RX10 = some m.cls := findClass_of_methodNamed B.named
  have hlocks := B.notSynchronized
  subst hsz
  have hD := hD0
  generalize hAe : va_A [] s.heap.size = A at ⊢
  have hA : ∀ q : Nat, s.heap.size ≤ q → A q := fun q h => by rw [← hAe]; exact Or.inr h
  generalize hH : s.heap = H at hP ⊢
  have hS : va_S A s.heap H [] := by rw [← hH]; exact va_S.rf
  have hl := lv_entry [.ref q, .int p0] (n := 2) (Nat.le_of_ble_eq_true rfl)
  rw [lg_entry_eq]
  generalize (lg_sl [.ref q, .int p0] ++ List.replicate (2 - (lg_sl [.ref q, .int p0]).length) Slot.unset).toArray = ls at hl ⊢
  have hl : lv_has ls 2 [(0, .ref q), (1, .int p0)] := hl
  unfold P_X10_place at h
  obtain ⟨⟨hq, hk⟩, h⟩ := h
  refine lv_iload_n hx hb dX10_place_0 rfl (lv_at hl 1 rfl) ?_
  refine lv_if_lt (tgt := 22) hx hb dX10_place_1 (by decide) (fun c_1 => ?_) (fun c_1 => ?_)
  · have h := h.1 c_1
    refine lv_iconst (v := 0) hx hb dX10_place_22 (by decide) ?_
    exact W.iret (v := 0) hx hb hr (fun t ht hW => ⟨⟨_, (), rfl, h, trivial⟩, hS.F ht⟩) hS.2.2 dX10_place_23
  · have h := h.2 c_1
    refine lv_iload_n hx hb dX10_place_4 rfl (lv_at hl 1 rfl) ?_
    refine lv_aload_n hx hb dX10_place_5 rfl (lv_at hl 0 rfl) ?_
    obtain ⟨q1, e2, h⟩ := h
    refine c_get (C := RX10) (T := TX10) (N := 9) (K := 9) (v := .ref q1) hx hb hts hinX10 hown hK hP hq hk (by decide) rfl 8 (by decide) (hts _ mwC_40) (fun _ h9 => h9) (by show some (va_rf (sR sh q 8)) = _; rw [e2]; rfl) dX10_place_6 ?_
    obtain ⟨⟨hm3, hk4⟩, h⟩ := h
    refine c_alen hx hb hK hP hm3 (Or.inl hk4) dX10_place_9 ?_
    refine lv_icmp_ge (tgt := 22) hx hb dX10_place_10 (by decide) (fun c_10 => ?_) (fun c_10 => ?_)
    · have h := h.1 c_10
      refine lv_iconst (v := 0) hx hb dX10_place_22 (by decide) ?_
      exact W.iret (v := 0) hx hb hr (fun t ht hW => ⟨⟨_, (), rfl, h, trivial⟩, hS.F ht⟩) hS.2.2 dX10_place_23
    · have h := h.2 c_10
      refine lv_aload_n hx hb dX10_place_13 rfl (lv_at hl 0 rfl) ?_
      refine c_get (C := RX10) (T := TX10) (N := 9) (K := 9) (v := .ref q1) hx hb hts hinX10 hown hK hP hq hk (by decide) rfl 8 (by decide) (hts _ mwC_40) (fun _ h9 => h9) (by show some (va_rf (sR sh q 8)) = _; rw [e2]; rfl) dX10_place_14 ?_
      refine lv_iload_n hx hb dX10_place_17 rfl (lv_at hl 1 rfl) ?_
      obtain ⟨hi5, h⟩ := h
      refine c_iald hx hb hK hP hm3 hk4 hi5 dX10_place_18 ?_
      refine lv_goto (tgt := 23) hx hb dX10_place_19 (by decide) ?_
      exact W.iret (v := (ai q1 p0.toNatClampNeg)) hx hb hr (fun t ht hW => ⟨⟨_, (), rfl, h, trivial⟩, hS.F ht⟩) hS.2.2 dX10_place_23
