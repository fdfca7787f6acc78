theorem dX3_form_0 : decode cX3_form 0 = .ok (.iload_n 1, 1) := by decide +kernel
theorem dX3_form_1 : decode cX3_form 1 = .ok (.ifCond .lt 21, 3) := by decide +kernel
theorem dX3_form_4 : decode cX3_form 4 = .ok (.iload_n 1, 1) := by decide +kernel
theorem dX3_form_5 : decode cX3_form 5 = .ok (.aload_n 0, 1) := by decide +kernel
theorem dX3_form_6 : decode cX3_form 6 = .ok (.getfield 9, 3) := by decide +kernel
theorem dX3_form_9 : decode cX3_form 9 = .ok (.arraylength, 1) := by decide +kernel
theorem dX3_form_10 : decode cX3_form 10 = .ok (.if_icmp .ge 12, 3) := by decide +kernel
theorem dX3_form_13 : decode cX3_form 13 = .ok (.aload_n 0, 1) := by decide +kernel
theorem dX3_form_14 : decode cX3_form 14 = .ok (.getfield 9, 3) := by decide +kernel
theorem dX3_form_17 : decode cX3_form 17 = .ok (.iload_n 1, 1) := by decide +kernel
theorem dX3_form_18 : decode cX3_form 18 = .ok (.baload, 1) := by decide +kernel
theorem dX3_form_19 : decode cX3_form 19 = .ok (.goto 4, 3) := by decide +kernel
theorem dX3_form_22 : decode cX3_form 22 = .ok (.iconst 3, 1) := by decide +kernel
theorem dX3_form_23 : decode cX3_form 23 = .ok (.ireturn, 1) := by decide +kernel
theorem dX9_form_0 : decode cX9_form 0 = .ok (.iload_n 1, 1) := by decide +kernel
theorem dX9_form_1 : decode cX9_form 1 = .ok (.ifCond .lt 12, 3) := by decide +kernel
theorem dX9_form_4 : decode cX9_form 4 = .ok (.iload_n 1, 1) := by decide +kernel
theorem dX9_form_5 : decode cX9_form 5 = .ok (.aload_n 0, 1) := by decide +kernel
theorem dX9_form_6 : decode cX9_form 6 = .ok (.getfield 15, 3) := by decide +kernel
theorem dX9_form_9 : decode cX9_form 9 = .ok (.arraylength, 1) := by decide +kernel
theorem dX9_form_10 : decode cX9_form 10 = .ok (.if_icmp .lt 5, 3) := by decide +kernel
theorem dX9_form_13 : decode cX9_form 13 = .ok (.iconst 3, 1) := by decide +kernel
theorem dX9_form_14 : decode cX9_form 14 = .ok (.ireturn, 1) := by decide +kernel
theorem dX9_form_15 : decode cX9_form 15 = .ok (.aload_n 0, 1) := by decide +kernel
theorem dX9_form_16 : decode cX9_form 16 = .ok (.aload_n 0, 1) := by decide +kernel
theorem dX9_form_17 : decode cX9_form 17 = .ok (.getfield 15, 3) := by decide +kernel
theorem dX9_form_20 : decode cX9_form 20 = .ok (.iload_n 1, 1) := by decide +kernel
theorem dX9_form_21 : decode cX9_form 21 = .ok (.iaload, 1) := by decide +kernel
theorem dX9_form_22 : decode cX9_form 22 = .ok (.invokevirtual 23, 3) := by decide +kernel
theorem dX9_form_25 : decode cX9_form 25 = .ok (.istore_n 2, 1) := by decide +kernel
theorem dX9_form_26 : decode cX9_form 26 = .ok (.iload_n 2, 1) := by decide +kernel
theorem dX9_form_27 : decode cX9_form 27 = .ok (.iconst 1, 1) := by decide +kernel
theorem dX9_form_28 : decode cX9_form 28 = .ok (.if_icmp .eq 8, 3) := by decide +kernel
theorem dX9_form_31 : decode cX9_form 31 = .ok (.iload_n 2, 1) := by decide +kernel
theorem dX9_form_32 : decode cX9_form 32 = .ok (.iconst 2, 1) := by decide +kernel
theorem dX9_form_33 : decode cX9_form 33 = .ok (.if_icmp .ne 23, 3) := by decide +kernel
theorem dX9_form_36 : decode cX9_form 36 = .ok (.aload_n 0, 1) := by decide +kernel
theorem dX9_form_37 : decode cX9_form 37 = .ok (.iload_n 1, 1) := by decide +kernel
theorem dX9_form_38 : decode cX9_form 38 = .ok (.aload_n 0, 1) := by decide +kernel
theorem dX9_form_39 : decode cX9_form 39 = .ok (.getfield 26, 3) := by decide +kernel
theorem dX9_form_42 : decode cX9_form 42 = .ok (.aload_n 0, 1) := by decide +kernel
theorem dX9_form_43 : decode cX9_form 43 = .ok (.getfield 15, 3) := by decide +kernel
theorem dX9_form_46 : decode cX9_form 46 = .ok (.iload_n 1, 1) := by decide +kernel
theorem dX9_form_47 : decode cX9_form 47 = .ok (.iaload, 1) := by decide +kernel
theorem dX9_form_48 : decode cX9_form 48 = .ok (.isub, 1) := by decide +kernel
theorem dX9_form_49 : decode cX9_form 49 = .ok (.i2l, 1) := by decide +kernel
theorem dX9_form_50 : decode cX9_form 50 = .ok (.invokevirtual 30, 3) := by decide +kernel
theorem dX9_form_53 : decode cX9_form 53 = .ok (.goto 4, 3) := by decide +kernel
theorem dX9_form_56 : decode cX9_form 56 = .ok (.iload_n 2, 1) := by decide +kernel
theorem dX9_form_57 : decode cX9_form 57 = .ok (.ireturn, 1) := by decide +kernel
abbrev wmX3_form : List Cond := .code yX3_form cX3_form 2 (some .int) :: WC
theorem hd_X3_form : yX3_form.cls = RX3 ∧ yX3_form.cls ≠ "java/lang/invoke/MethodHandle" ∧ yX3_form.cls ≠ "java/lang/invoke/VarHandle" ∧ (parseMethodDescriptor yX3_form.desc).map (fun d => d.parameters.length) = some 1 := by decide +kernel
def P_X3_form (sh : Sh) (ci : Nat → Nat → Int32) (ai : Nat → Nat → Int32) (al : Nat → Nat → Int64) (q : Nat) (p0 : Int32) (Q : Int32 → (Nat → Nat → Int32) → (Nat → Nat → Int32) → (Nat → Nat → Int64) → Prop) : Prop := (q ∈ sL sh ∧ sK sh q = 3) ∧ ((p0 < 0) → (Q 3 ci ai al)) ∧ ((¬ p0 < 0) → (∃ q1 : Nat, sR sh q 5 = some q1 ∧ (q1 ∈ sL sh ∧ sK sh q1 = 21) ∧ (((nI (sN sh q1)) ≤ p0) → (Q 3 ci ai al)) ∧ ((¬ (nI (sN sh q1)) ≤ p0) → (vp_in p0 (sN sh q1) ∧ Q (ai q1 p0.toNatClampNeg) ci ai al))))
set_option maxHeartbeats 4000000 in
set_option maxRecDepth 100000 in
theorem p_X3_form (l : Launch) (dC : Nat → ClassId) (dI : Nat → Nat → Nat) (sh : Sh) (ci : Nat → Nat → Int32) (ai : Nat → Nat → Int32) (al : Nat → Nat → Int64) (q : Nat) (p0 : Int32) (Q : Int32 → (Nat → Nat → Int32) → (Nat → Nat → Int32) → (Nat → Nat → Int64) → Prop) (h : P_X3_form sh ci ai al q p0 Q) (sz : Nat) : Met l yX3_form wmX3_form ({ frames := 12, cells := 0, slots := 0, locals := 200 }) (va_Pc [.ref q, .int p0] (cPre dC dI sh ci ai al sz)) (va_Qi (S := CSt) (cI Q) (cB dC dI sh (va_A (cW sh ci ai al) sz)) (va_A (cW sh ci ai al) sz)) 0 0 (va_A (cW sh ci ai al) sz) := by
  refine Met.ofW (cc := cX3_form) (maxL := 2) (ret := (some .int)) (by decide) rfl ?_
  intro p e s m args below meth c s₁ B hml hv
  obtain ⟨rfl, hsz, hP, hK, hD0, hG⟩ := hv
  have hx := B.exec
  have hb := B.bytes
  have hr := B.returns
  have hts : ∀ w ∈ WC, w.before _ s = true := fun w h => atoms_spec (ws := wmX3_form) B.pre w (List.mem_cons_of_mem _ h)
  have hown : s.vm.findClass RX3 = some m.cls := findClass_of_methodNamed B.named
  have hlocks := B.notSynchronized
  subst hsz
  have hD := hD0.self (sz := s.heap.size)
  generalize hAe : va_A (cW sh ci ai al) s.heap.size = A at hD ⊢
  have hA : ∀ q : Nat, s.heap.size ≤ q → A q := fun q h => by rw [← hAe]; exact Or.inr h
  generalize hH : s.heap = H at hP ⊢
  have hS : va_S A s.heap H [] := by rw [← hH]; exact va_S.rf
  have hl := lv_entry [.ref q, .int p0] (n := 2) (Nat.le_of_ble_eq_true rfl)
  rw [lg_entry_eq]
  generalize (lg_sl [.ref q, .int p0] ++ List.replicate (2 - (lg_sl [.ref q, .int p0]).length) Slot.unset).toArray = ls at hl ⊢
  have hl : lv_has ls 2 [(0, .ref q), (1, .int p0)] := hl
  unfold P_X3_form at h
  obtain ⟨⟨hq, hk⟩, h⟩ := h
  refine lv_iload_n hx hb dX3_form_0 rfl (lv_at hl 1 rfl) ?_
  refine lv_if_lt (tgt := 22) hx hb dX3_form_1 (by decide) (fun c_1 => ?_) (fun c_1 => ?_)
  · have h := h.1 c_1
    refine lv_iconst (v := 3) hx hb dX3_form_22 (by decide) ?_
    exact W.iret (v := 3) hx hb hr (fun t ht hW => ⟨⟨_, (ci, ai, al), rfl, h, by rw [ht]; exact hP, cK.moved hW.alike hK, hD⟩, hS.F ht⟩) hS.2.2 dX3_form_23
  · have h := h.2 c_1
    refine lv_iload_n hx hb dX3_form_4 rfl (lv_at hl 1 rfl) ?_
    refine lv_aload_n hx hb dX3_form_5 rfl (lv_at hl 0 rfl) ?_
    obtain ⟨q1, e2, h⟩ := h
    refine c_get (C := RX3) (T := TX3) (N := 7) (K := 3) (v := .ref q1) hx hb hts hinX3 hown hK hP hq hk (by decide) rfl 5 (by decide) (hts _ mwC_201) (fun _ h9 => h9) (by show some (va_rf (sR sh q 5)) = _; rw [e2]; rfl) dX3_form_6 ?_
    obtain ⟨⟨hm3, hk4⟩, h⟩ := h
    refine c_alen hx hb hK hP hm3 (Or.inr (Or.inl hk4)) dX3_form_9 ?_
    refine lv_icmp_ge (tgt := 22) hx hb dX3_form_10 (by decide) (fun c_10 => ?_) (fun c_10 => ?_)
    · have h := h.1 c_10
      refine lv_iconst (v := 3) hx hb dX3_form_22 (by decide) ?_
      exact W.iret (v := 3) hx hb hr (fun t ht hW => ⟨⟨_, (ci, ai, al), rfl, h, by rw [ht]; exact hP, cK.moved hW.alike hK, hD⟩, hS.F ht⟩) hS.2.2 dX3_form_23
    · have h := h.2 c_10
      refine lv_aload_n hx hb dX3_form_13 rfl (lv_at hl 0 rfl) ?_
      refine c_get (C := RX3) (T := TX3) (N := 7) (K := 3) (v := .ref q1) hx hb hts hinX3 hown hK hP hq hk (by decide) rfl 5 (by decide) (hts _ mwC_201) (fun _ h9 => h9) (by show some (va_rf (sR sh q 5)) = _; rw [e2]; rfl) dX3_form_14 ?_
      refine lv_iload_n hx hb dX3_form_17 rfl (lv_at hl 1 rfl) ?_
      obtain ⟨hi5, h⟩ := h
      refine c_bald hx hb hK hP hm3 hk4 hi5 dX3_form_18 ?_
      refine lv_goto (tgt := 23) hx hb dX3_form_19 (by decide) ?_
      exact W.iret (v := (ai q1 p0.toNatClampNeg)) hx hb hr (fun t ht hW => ⟨⟨_, (ci, ai, al), rfl, h, by rw [ht]; exact hP, cK.moved hW.alike hK, hD⟩, hS.F ht⟩) hS.2.2 dX3_form_23

abbrev wmX9_form : List Cond := .code yX9_form cX9_form 3 (some .int) :: WC
theorem hd_X9_form : yX9_form.cls = RX9 ∧ yX9_form.cls ≠ "java/lang/invoke/MethodHandle" ∧ yX9_form.cls ≠ "java/lang/invoke/VarHandle" ∧ (parseMethodDescriptor yX9_form.desc).map (fun d => d.parameters.length) = some 1 := by decide +kernel
def P_X9_form (sh : Sh) (Gr Gw : (Nat → Nat → Int32) → (Nat → Nat → Int32) → (Nat → Nat → Int64) → Nat → Int32 → (Int32 → (Nat → Nat → Int32) → (Nat → Nat → Int32) → (Nat → Nat → Int64) → Prop) → Prop) (ci : Nat → Nat → Int32) (ai : Nat → Nat → Int32) (al : Nat → Nat → Int64) (q : Nat) (p0 : Int32) (Q : Int32 → (Nat → Nat → Int32) → (Nat → Nat → Int32) → (Nat → Nat → Int64) → Prop) : Prop := (q ∈ sL sh ∧ sK sh q = 8) ∧ ((p0 < 0) → (Q 3 ci ai al)) ∧ ((¬ p0 < 0) → (∃ q1 : Nat, sR sh q 6 = some q1 ∧ (q1 ∈ sL sh ∧ sK sh q1 = 20) ∧ ((p0 < (nI (sN sh q1))) → (vp_in p0 (sN sh q1) ∧ P_X9_lookThrough sh Gr Gw ci ai al q (ai q1 p0.toNatClampNeg) (fun r6 ci6 ai6 al6 => ((r6 = 1) → (vp_in p0 (sN sh q1) ∧ P_X5_tell sh ci6 ai6 al6 q p0 (((ci6 q 7) - (ai6 q1 p0.toNatClampNeg)).toInt64) (fun r8 ci8 ai8 al8 => Q r8 ci8 ai8 al8))) ∧ ((¬ r6 = 1) → (((¬ r6 = 2) → (Q r6 ci6 ai6 al6)) ∧ ((r6 = 2) → (vp_in p0 (sN sh q1) ∧ P_X5_tell sh ci6 ai6 al6 q p0 (((ci6 q 7) - (ai6 q1 p0.toNatClampNeg)).toInt64) (fun r10 ci10 ai10 al10 => Q r10 ci10 ai10 al10)))))))) ∧ ((¬ p0 < (nI (sN sh q1))) → (Q 3 ci ai al))))
set_option maxHeartbeats 4000000 in
set_option maxRecDepth 100000 in
theorem p_X9_form (l : Launch) (dC : Nat → ClassId) (dI : Nat → Nat → Nat) (sh : Sh) (d : Nat) {Gr Gw : (Nat → Nat → Int32) → (Nat → Nat → Int32) → (Nat → Nat → Int64) → Nat → Int32 → (Int32 → (Nat → Nat → Int32) → (Nat → Nat → Int32) → (Nat → Nat → Int64) → Prop) → Prop} (hGr : GM l dC dI sh yX5_reach wmX5_reach ({ frames := 300 + 5 * d, cells := 0, slots := 0, locals := 6000 + 200 * d }) Gr) (hGw : GM l dC dI sh yX5_work wmX5_work ({ frames := 300 + 5 * d, cells := 0, slots := 0, locals := 6000 + 200 * d }) Gw) (ci : Nat → Nat → Int32) (ai : Nat → Nat → Int32) (al : Nat → Nat → Int64) (q : Nat) (p0 : Int32) (Q : Int32 → (Nat → Nat → Int32) → (Nat → Nat → Int32) → (Nat → Nat → Int64) → Prop) (h : P_X9_form sh Gr Gw ci ai al q p0 Q) (sz : Nat) : Met l yX9_form wmX9_form ({ frames := 303 + 5 * d, cells := 0, slots := 0, locals := 6120 + 200 * d }) (va_Pc [.ref q, .int p0] (cPre dC dI sh ci ai al sz)) (va_Qi (S := CSt) (cI Q) (cB dC dI sh (va_A (cW sh ci ai al) sz)) (va_A (cW sh ci ai al) sz)) 0 0 (va_A (cW sh ci ai al) sz) := by
  refine Met.ofW (cc := cX9_form) (maxL := 3) (ret := (some .int)) (by decide) rfl ?_
  intro p e s m args below meth c s₁ B hml hv
  obtain ⟨rfl, hsz, hP, hK, hD0, hG⟩ := hv
  have hx := B.exec
  have hb := B.bytes
  have hr := B.returns
  have hts : ∀ w ∈ WC, w.before _ s = true := fun w h => atoms_spec (ws := wmX9_form) B.pre w (List.mem_cons_of_mem _ h)
  have hown : s.vm.findClass RX9 = some m.cls := findClass_of_methodNamed B.named
  have hlocks := B.notSynchronized
  subst hsz
  have hD := hD0.self (sz := s.heap.size)
  generalize hAe : va_A (cW sh ci ai al) s.heap.size = A at hD ⊢
  have hA : ∀ q : Nat, s.heap.size ≤ q → A q := fun q h => by rw [← hAe]; exact Or.inr h
  generalize hH : s.heap = H at hP ⊢
  have hS : va_S A s.heap H [] := by rw [← hH]; exact va_S.rf
  have hl := lv_entry [.ref q, .int p0] (n := 3) (Nat.le_of_ble_eq_true rfl)
  rw [lg_entry_eq]
  generalize (lg_sl [.ref q, .int p0] ++ List.replicate (3 - (lg_sl [.ref q, .int p0]).length) Slot.unset).toArray = ls at hl ⊢
  have hl : lv_has ls 3 [(0, .ref q), (1, .int p0)] := hl
  unfold P_X9_form at h
  obtain ⟨⟨hq, hk⟩, h⟩ := h
  refine lv_iload_n hx hb dX9_form_0 rfl (lv_at hl 1 rfl) ?_
  refine lv_if_lt (tgt := 13) hx hb dX9_form_1 (by decide) (fun c_1 => ?_) (fun c_1 => ?_)
  · have h := h.1 c_1
    refine lv_iconst (v := 3) hx hb dX9_form_13 (by decide) ?_
    exact W.iret (v := 3) hx hb hr (fun t ht hW => ⟨⟨_, (ci, ai, al), rfl, h, by rw [ht]; exact hP, cK.moved hW.alike hK, hD⟩, hS.F ht⟩) hS.2.2 dX9_form_14
  · have h := h.2 c_1
    refine lv_iload_n hx hb dX9_form_4 rfl (lv_at hl 1 rfl) ?_
    refine lv_aload_n hx hb dX9_form_5 rfl (lv_at hl 0 rfl) ?_
    obtain ⟨q1, e2, h⟩ := h
    refine c_get (C := RX9) (T := TX9) (N := 8) (K := 8) (v := .ref q1) hx hb hts hinX9 hown hK hP hq hk (by decide) rfl 6 (by decide) (hts _ mwC_225) (fun _ h9 => h9) (by show some (va_rf (sR sh q 6)) = _; rw [e2]; rfl) dX9_form_6 ?_
    obtain ⟨⟨hm3, hk4⟩, h⟩ := h
    refine c_alen hx hb hK hP hm3 (Or.inl hk4) dX9_form_9 ?_
    refine lv_icmp_lt (tgt := 15) hx hb dX9_form_10 (by decide) (fun c_10 => ?_) (fun c_10 => ?_)
    · have h := h.1 c_10
      refine lv_aload_n hx hb dX9_form_15 rfl (lv_at hl 0 rfl) ?_
      refine lv_aload_n hx hb dX9_form_16 rfl (lv_at hl 0 rfl) ?_
      refine c_get (C := RX9) (T := TX9) (N := 8) (K := 8) (v := .ref q1) hx hb hts hinX9 hown hK hP hq hk (by decide) rfl 6 (by decide) (hts _ mwC_225) (fun _ h9 => h9) (by show some (va_rf (sR sh q 6)) = _; rw [e2]; rfl) dX9_form_17 ?_
      refine lv_iload_n hx hb dX9_form_20 rfl (lv_at hl 1 rfl) ?_
      obtain ⟨hi5, h⟩ := h
      refine c_iald hx hb hK hP hm3 hk4 hi5 dX9_form_21 ?_
      refine c_endi (va_runV (rm := ({ frames := 302 + 5 * d, cells := 0, slots := 0, locals := 6080 + 200 * d })) (As := [.int (ai q1 p0.toNatClampNeg)]) (rest := []) ⟨hx, hb, hml, hown, hts⟩ (p_X9_lookThrough l dC dI sh d hGr hGw _ _ _ q (ai q1 p0.toNatClampNeg) _ h H.size) (cwV 1 hts (g_V gdC mwC_226 mwC_227 mwC_228 mwC_229 mwC_230) rfl rfl rfl hd_X9_lookThrough ⟨(show 302 + 5 * d + 1 ≤ 303 + 5 * d by omega), (show 8 + (7 + 11) + (6080 + 200 * d) ≤ 6120 + 200 * d by omega)⟩) (c_preV (vc := (RX9, TX9, 8)) hK hP hD hG hq hk (by decide) rfl) rfl rfl hl.1 rfl (lv_room (Nat.le_of_ble_eq_true rfl)) dX9_form_22 ⟨Nat.le_of_ble_eq_true rfl, Nat.le_of_ble_eq_true rfl⟩) hD hS hA (fun r6 ci6 ai6 al6 H locs h hP hD hS => ?_)
      refine lv_istore_n (lv' := [(2, .int r6), (0, .ref q), (1, .int p0)]) hx hb dX9_form_25 rfl hl (by decide) rfl (fun ls hl => ?_)
      refine lv_iload_n hx hb dX9_form_26 rfl (lv_at hl 0 rfl) ?_
      refine lv_iconst (v := 1) hx hb dX9_form_27 (by decide) ?_
      refine lv_icmp_eq (tgt := 36) hx hb dX9_form_28 (by decide) (fun c_28 => ?_) (fun c_28 => ?_)
      · have h := h.1 c_28
        refine lv_aload_n hx hb dX9_form_36 rfl (lv_at hl 1 rfl) ?_
        refine lv_iload_n hx hb dX9_form_37 rfl (lv_at hl 2 rfl) ?_
        refine lv_aload_n hx hb dX9_form_38 rfl (lv_at hl 1 rfl) ?_
        refine c_get (C := RX9) (T := TX9) (N := 8) (K := 8) (v := .int (ci6 q 7)) hx hb hts hinX9 hown hK hP hq hk (by decide) rfl 7 (by decide) (hts _ mwC_177) (fun _ h9 => h9) rfl dX9_form_39 ?_
        refine lv_aload_n hx hb dX9_form_42 rfl (lv_at hl 1 rfl) ?_
        refine c_get (C := RX9) (T := TX9) (N := 8) (K := 8) (v := .ref q1) hx hb hts hinX9 hown hK hP hq hk (by decide) rfl 6 (by decide) (hts _ mwC_225) (fun _ h9 => h9) (by show some (va_rf (sR sh q 6)) = _; rw [e2]; rfl) dX9_form_43 ?_
        refine lv_iload_n hx hb dX9_form_46 rfl (lv_at hl 2 rfl) ?_
        obtain ⟨hi7, h⟩ := h
        refine c_iald hx hb hK hP hm3 hk4 hi7 dX9_form_47 ?_
        refine lv_isub hx hb dX9_form_48 ?_
        refine lv_i2l hx hb dX9_form_49 rfl ?_
        refine c_endi (va_runU (C := RX9) (owner := "NeededLists$LazyList") (rm := ({ frames := 4, cells := 0, slots := 0, locals := 60 })) (As := [.int p0, .long (((ci6 q 7) - (ai6 q1 p0.toNatClampNeg)).toInt64)]) (rest := []) ⟨hx, hb, hml, hown, hts⟩ (p_X5_tell l dC dI sh _ _ _ q p0 (((ci6 q 7) - (ai6 q1 p0.toNatClampNeg)).toInt64) _ h H.size) (va_cwU (x := ⟨"NeededLists$Runs", "tell", "(IJ)I"⟩) 2 hts (g_U gdC mwC_266 mwC_267 mwC_268 mwC_125 mwC_22 mwC_126) rfl rfl rfl rfl ⟨by decide, by decide, by decide +kernel⟩ ⟨(show 4 + 1 ≤ 303 + 5 * d by omega), (show 8 + (4 + 11) + (60) ≤ 6120 + 200 * d by omega)⟩) (c_preV (vc := (RX9, TX9, 8)) hK hP hD hG hq hk (by decide) rfl) rfl rfl hl.1 rfl (lv_room (Nat.le_of_ble_eq_true rfl)) dX9_form_50 ⟨Nat.le_of_ble_eq_true rfl, Nat.le_of_ble_eq_true rfl⟩) hD hS hA (fun r8 ci8 ai8 al8 H locs h hP hD hS => ?_)
        refine lv_goto (tgt := 57) hx hb dX9_form_53 (by decide) ?_
        exact W.iret (v := r8) hx hb hr (fun t ht hW => ⟨⟨_, (ci8, ai8, al8), rfl, h, by rw [ht]; exact hP, cK.moved hW.alike hK, hD⟩, hS.F ht⟩) hS.2.2 dX9_form_57
      · have h := h.2 c_28
        refine lv_iload_n hx hb dX9_form_31 rfl (lv_at hl 0 rfl) ?_
        refine lv_iconst (v := 2) hx hb dX9_form_32 (by decide) ?_
        refine lv_icmp_ne (tgt := 56) hx hb dX9_form_33 (by decide) (fun c_33 => ?_) (fun c_33 => ?_)
        · have h := h.1 c_33
          refine lv_iload_n hx hb dX9_form_56 rfl (lv_at hl 0 rfl) ?_
          exact W.iret (v := r6) hx hb hr (fun t ht hW => ⟨⟨_, (ci6, ai6, al6), rfl, h, by rw [ht]; exact hP, cK.moved hW.alike hK, hD⟩, hS.F ht⟩) hS.2.2 dX9_form_57
        · have h := h.2 c_33
          refine lv_aload_n hx hb dX9_form_36 rfl (lv_at hl 1 rfl) ?_
          refine lv_iload_n hx hb dX9_form_37 rfl (lv_at hl 2 rfl) ?_
          refine lv_aload_n hx hb dX9_form_38 rfl (lv_at hl 1 rfl) ?_
          refine c_get (C := RX9) (T := TX9) (N := 8) (K := 8) (v := .int (ci6 q 7)) hx hb hts hinX9 hown hK hP hq hk (by decide) rfl 7 (by decide) (hts _ mwC_177) (fun _ h9 => h9) rfl dX9_form_39 ?_
          refine lv_aload_n hx hb dX9_form_42 rfl (lv_at hl 1 rfl) ?_
          refine c_get (C := RX9) (T := TX9) (N := 8) (K := 8) (v := .ref q1) hx hb hts hinX9 hown hK hP hq hk (by decide) rfl 6 (by decide) (hts _ mwC_225) (fun _ h9 => h9) (by show some (va_rf (sR sh q 6)) = _; rw [e2]; rfl) dX9_form_43 ?_
          refine lv_iload_n hx hb dX9_form_46 rfl (lv_at hl 2 rfl) ?_
          obtain ⟨hi9, h⟩ := h
          refine c_iald hx hb hK hP hm3 hk4 hi9 dX9_form_47 ?_
          refine lv_isub hx hb dX9_form_48 ?_
          refine lv_i2l hx hb dX9_form_49 rfl ?_
          refine c_endi (va_runU (C := RX9) (owner := "NeededLists$LazyList") (rm := ({ frames := 4, cells := 0, slots := 0, locals := 60 })) (As := [.int p0, .long (((ci6 q 7) - (ai6 q1 p0.toNatClampNeg)).toInt64)]) (rest := []) ⟨hx, hb, hml, hown, hts⟩ (p_X5_tell l dC dI sh _ _ _ q p0 (((ci6 q 7) - (ai6 q1 p0.toNatClampNeg)).toInt64) _ h H.size) (va_cwU (x := ⟨"NeededLists$Runs", "tell", "(IJ)I"⟩) 2 hts (g_U gdC mwC_266 mwC_267 mwC_268 mwC_125 mwC_22 mwC_126) rfl rfl rfl rfl ⟨by decide, by decide, by decide +kernel⟩ ⟨(show 4 + 1 ≤ 303 + 5 * d by omega), (show 8 + (4 + 11) + (60) ≤ 6120 + 200 * d by omega)⟩) (c_preV (vc := (RX9, TX9, 8)) hK hP hD hG hq hk (by decide) rfl) rfl rfl hl.1 rfl (lv_room (Nat.le_of_ble_eq_true rfl)) dX9_form_50 ⟨Nat.le_of_ble_eq_true rfl, Nat.le_of_ble_eq_true rfl⟩) hD hS hA (fun r10 ci10 ai10 al10 H locs h hP hD hS => ?_)
          refine lv_goto (tgt := 57) hx hb dX9_form_53 (by decide) ?_
          exact W.iret (v := r10) hx hb hr (fun t ht hW => ⟨⟨_, (ci10, ai10, al10), rfl, h, by rw [ht]; exact hP, cK.moved hW.alike hK, hD⟩, hS.F ht⟩) hS.2.2 dX9_form_57
    · have h := h.2 c_10
      refine lv_iconst (v := 3) hx hb dX9_form_13 (by decide) ?_
      exact W.iret (v := 3) hx hb hr (fun t ht hW => ⟨⟨_, (ci, ai, al), rfl, h, by rw [ht]; exact hP, cK.moved hW.alike hK, hD⟩, hS.F ht⟩) hS.2.2 dX9_form_14
