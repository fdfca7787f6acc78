theorem dX0_seek_0 : decode cX0_seek 0 = .ok (.aload_n 0, 1) := by decide +kernel
theorem dX0_seek_1 : decode cX0_seek 1 = .ok (.getfield 9, 3) := by decide +kernel
theorem dX0_seek_4 : decode cX0_seek 4 = .ok (.ifnull 7, 3) := by decide +kernel
theorem dX0_seek_7 : decode cX0_seek 7 = .ok (.iload_n 1, 1) := by decide +kernel
theorem dX0_seek_8 : decode cX0_seek 8 = .ok (.ifCond .ne 7, 3) := by decide +kernel
theorem dX0_seek_11 : decode cX0_seek 11 = .ok (.iconst 1, 1) := by decide +kernel
theorem dX0_seek_12 : decode cX0_seek 12 = .ok (.goto 13, 3) := by decide +kernel
theorem dX0_seek_15 : decode cX0_seek 15 = .ok (.aload_n 0, 1) := by decide +kernel
theorem dX0_seek_16 : decode cX0_seek 16 = .ok (.getfield 9, 3) := by decide +kernel
theorem dX0_seek_19 : decode cX0_seek 19 = .ok (.iload_n 1, 1) := by decide +kernel
theorem dX0_seek_20 : decode cX0_seek 20 = .ok (.iconst 1, 1) := by decide +kernel
theorem dX0_seek_21 : decode cX0_seek 21 = .ok (.isub, 1) := by decide +kernel
theorem dX0_seek_22 : decode cX0_seek 22 = .ok (.invokevirtual 26, 3) := by decide +kernel
theorem dX0_seek_25 : decode cX0_seek 25 = .ok (.ireturn, 1) := by decide +kernel
theorem dX1_seek_0 : decode cX1_seek 0 = .ok (.aload_n 0, 1) := by decide +kernel
theorem dX1_seek_1 : decode cX1_seek 1 = .ok (.getfield 9, 3) := by decide +kernel
theorem dX1_seek_4 : decode cX1_seek 4 = .ok (.iload_n 1, 1) := by decide +kernel
theorem dX1_seek_5 : decode cX1_seek 5 = .ok (.invokevirtual 26, 3) := by decide +kernel
theorem dX1_seek_8 : decode cX1_seek 8 = .ok (.istore_n 2, 1) := by decide +kernel
theorem dX1_seek_9 : decode cX1_seek 9 = .ok (.iload_n 2, 1) := by decide +kernel
theorem dX1_seek_10 : decode cX1_seek 10 = .ok (.iconst 1, 1) := by decide +kernel
theorem dX1_seek_11 : decode cX1_seek 11 = .ok (.if_icmp .ne 10, 3) := by decide +kernel
theorem dX1_seek_14 : decode cX1_seek 14 = .ok (.aload_n 0, 1) := by decide +kernel
theorem dX1_seek_15 : decode cX1_seek 15 = .ok (.getfield 15, 3) := by decide +kernel
theorem dX1_seek_18 : decode cX1_seek 18 = .ok (.ifnonnull 7, 3) := by decide +kernel
theorem dX1_seek_21 : decode cX1_seek 21 = .ok (.iload_n 2, 1) := by decide +kernel
theorem dX1_seek_22 : decode cX1_seek 22 = .ok (.goto 11, 3) := by decide +kernel
theorem dX1_seek_25 : decode cX1_seek 25 = .ok (.aload_n 0, 1) := by decide +kernel
theorem dX1_seek_26 : decode cX1_seek 26 = .ok (.getfield 15, 3) := by decide +kernel
theorem dX1_seek_29 : decode cX1_seek 29 = .ok (.iload_n 1, 1) := by decide +kernel
theorem dX1_seek_30 : decode cX1_seek 30 = .ok (.invokevirtual 26, 3) := by decide +kernel
theorem dX1_seek_33 : decode cX1_seek 33 = .ok (.ireturn, 1) := by decide +kernel
abbrev wmX0_seek : List Cond := .code yX0_seek cX0_seek 2 (some .int) :: WC
theorem hd_X0_seek : yX0_seek.cls = RX0 ∧ yX0_seek.cls ≠ "java/lang/invoke/MethodHandle" ∧ yX0_seek.cls ≠ "java/lang/invoke/VarHandle" ∧ (parseMethodDescriptor yX0_seek.desc).map (fun d => d.parameters.length) = some 1 := by decide +kernel
def P_X0_seek (sh : Sh) (Gr Gw : (Nat → Nat → Int32) → (Nat → Nat → Int32) → (Nat → Nat → Int64) → Nat → Int32 → (Int32 → (Nat → Nat → Int32) → (Nat → Nat → Int32) → (Nat → Nat → Int64) → Prop) → Prop) (ci : Nat → Nat → Int32) (ai : Nat → Nat → Int32) (al : Nat → Nat → Int64) (q : Nat) (p0 : Int32) (Q : Int32 → (Nat → Nat → Int32) → (Nat → Nat → Int32) → (Nat → Nat → Int64) → Prop) : Prop := (q ∈ sL sh ∧ sK sh q = 0) ∧ ((sR sh q 5 = none → (Q 1 ci ai al)) ∧ (∀ q1 : Nat, sR sh q 5 = some q1 → (((¬ p0 = 0) → ((q1 ∈ sL sh ∧ isZ (sK sh q1)) ∧ Gr ci ai al q1 (p0 - 1) (fun r5 ci5 ai5 al5 => Q r5 ci5 ai5 al5))) ∧ ((p0 = 0) → (Q 1 ci ai al)))))
set_option maxHeartbeats 4000000 in
set_option maxRecDepth 100000 in
theorem p_X0_seek (l : Launch) (dC : Nat → ClassId) (dI : Nat → Nat → Nat) (sh : Sh) (d : Nat) {Gr Gw : (Nat → Nat → Int32) → (Nat → Nat → Int32) → (Nat → Nat → Int64) → Nat → Int32 → (Int32 → (Nat → Nat → Int32) → (Nat → Nat → Int32) → (Nat → Nat → Int64) → Prop) → Prop} (hGr : GM l dC dI sh yX5_reach wmX5_reach ({ frames := 300 + 5 * d, cells := 0, slots := 0, locals := 6000 + 200 * d }) Gr) (hGw : GM l dC dI sh yX5_work wmX5_work ({ frames := 300 + 5 * d, cells := 0, slots := 0, locals := 6000 + 200 * d }) Gw) (ci : Nat → Nat → Int32) (ai : Nat → Nat → Int32) (al : Nat → Nat → Int64) (q : Nat) (p0 : Int32) (Q : Int32 → (Nat → Nat → Int32) → (Nat → Nat → Int32) → (Nat → Nat → Int64) → Prop) (h : P_X0_seek sh Gr Gw ci ai al q p0 Q) (sz : Nat) : Met l yX0_seek wmX0_seek ({ frames := 303 + 5 * d, cells := 0, slots := 0, locals := 6120 + 200 * d }) (va_Pc [.ref q, .int p0] (cPre dC dI sh ci ai al sz)) (va_Qi (S := CSt) (cI Q) (cB dC dI sh (va_A (cW sh ci ai al) sz)) (va_A (cW sh ci ai al) sz)) 0 0 (va_A (cW sh ci ai al) sz) := by
  refine Met.ofW (cc := cX0_seek) (maxL := 2) (ret := (some .int)) (by decide) rfl ?_
  intro p e s m args below meth c s₁ B hml hv
  obtain ⟨rfl, hsz, hP, hK, hD0, hG⟩ := hv
  have hx := B.exec
  have hb := B.bytes
  have hr := B.returns
  have hts : ∀ w ∈ WC, w.before _ s = true := fun w h => atoms_spec (ws := wmX0_seek) B.pre w (List.mem_cons_of_mem _ h)
  have hown : s.vm.findClass RX0 = some m.cls := findClass_of_methodNamed B.named
  have hlocks := B.notSynchronized
  subst hsz
  have hD := hD0.self (sz := s.heap.size)
  generalize hAe : va_A (cW sh ci ai al) s.heap.size = A at hD ⊢
  have hA : ∀ q : Nat, s.heap.size ≤ q → A q := fun q h => by rw [← hAe]; exact Or.inr h
  generalize hH : s.heap = H at hP ⊢
  have hS : va_S A s.heap H [] := by rw [← hH]; exact va_S.rf
  have hl := lv_entry [.ref q, .int p0] (n := 2) (Nat.le_of_ble_eq_true rfl)
  rw [lg_entry_eq]
  generalize (lg_sl [.ref q, .int p0] ++ List.replicate (2 - (lg_sl [.ref q, .int p0]).length) Slot.unset).toArray = ls at hl ⊢
  have hl : lv_has ls 2 [(0, .ref q), (1, .int p0)] := hl
  unfold P_X0_seek at h
  obtain ⟨⟨hq, hk⟩, h⟩ := h
  refine lv_aload_n hx hb dX0_seek_0 rfl (lv_at hl 0 rfl) ?_
  rcases e2 : sR sh q 5 with _ | q1
  · have h := h.1 e2
    refine c_get (C := RX0) (T := TX0) (N := 9) (K := 0) (v := .null) hx hb hts hinX0 hown hK hP hq hk (by decide) rfl 5 (by decide) (hts _ mwC_190) (fun _ h9 => h9) (by show some (va_rf (sR sh q 5)) = _; rw [e2]; rfl) dX0_seek_1 ?_
    refine lv_ifnullN (tgt := 11) hx hb dX0_seek_4 (by decide) ?_
    refine lv_iconst (v := 1) hx hb dX0_seek_11 (by decide) ?_
    refine lv_goto (tgt := 25) hx hb dX0_seek_12 (by decide) ?_
    exact W.iret (v := 1) hx hb hr (fun t ht hW => ⟨⟨_, (ci, ai, al), rfl, h, by rw [ht]; exact hP, cK.moved hW.alike hK, hD⟩, hS.F ht⟩) hS.2.2 dX0_seek_25
  · have h := h.2 q1 e2
    refine c_get (C := RX0) (T := TX0) (N := 9) (K := 0) (v := .ref q1) hx hb hts hinX0 hown hK hP hq hk (by decide) rfl 5 (by decide) (hts _ mwC_190) (fun _ h9 => h9) (by show some (va_rf (sR sh q 5)) = _; rw [e2]; rfl) dX0_seek_1 ?_
    refine lv_ifnull hx hb dX0_seek_4 ?_
    refine lv_iload_n hx hb dX0_seek_7 rfl (lv_at hl 1 rfl) ?_
    refine lv_if_ne (tgt := 15) hx hb dX0_seek_8 (by decide) (fun c_8 => ?_) (fun c_8 => ?_)
    · have h := h.1 c_8
      refine lv_aload_n hx hb dX0_seek_15 rfl (lv_at hl 0 rfl) ?_
      refine c_get (C := RX0) (T := TX0) (N := 9) (K := 0) (v := .ref q1) hx hb hts hinX0 hown hK hP hq hk (by decide) rfl 5 (by decide) (hts _ mwC_190) (fun _ h9 => h9) (by show some (va_rf (sR sh q 5)) = _; rw [e2]; rfl) dX0_seek_16 ?_
      refine lv_iload_n hx hb dX0_seek_19 rfl (lv_at hl 1 rfl) ?_
      refine lv_iconst (v := 1) hx hb dX0_seek_20 (by decide) ?_
      refine lv_isub hx hb dX0_seek_21 ?_
      obtain ⟨⟨hm3, hk4⟩, h⟩ := h
      refine c_endi (c_runZ (rm := ({ frames := 300 + 5 * d, cells := 0, slots := 0, locals := 6000 + 200 * d })) (y := yX5_reach) (x := ⟨"NeededLists$LazyList", "reach", "(I)I"⟩) (n := 1) (bytes := cX5_reach) (maxL := 5) (ret := (some .int)) (q := q1) (As := [.int (p0 - 1)]) (rest := []) ⟨hx, hb, hml, hown, hts⟩ (hGr _ _ _ q1 (p0 - 1) _ h H.size) mwC_191 mwC_145 mwC_146 mwC_22 mwC_147 mwC_148 mwC_149 mwC_150 mwC_151 mwC_152 mwC_153 mwC_154 mwC_155 mwC_156 rfl (by decide +kernel) rfl rfl ⟨(show 300 + 5 * d + 1 ≤ 303 + 5 * d by omega), (show 8 + (5 + 11) + (6000 + 200 * d) ≤ 6120 + 200 * d by omega)⟩ hK hP hD hG hm3 hk4 rfl hl.1 rfl (Nat.le_of_ble_eq_true rfl) ⟨Nat.le_of_ble_eq_true rfl, Nat.le_of_ble_eq_true rfl⟩ dX0_seek_22) hD hS hA (fun r5 ci5 ai5 al5 H locs h hP hD hS => ?_)
      exact W.iret (v := r5) hx hb hr (fun t ht hW => ⟨⟨_, (ci5, ai5, al5), rfl, h, by rw [ht]; exact hP, cK.moved hW.alike hK, hD⟩, hS.F ht⟩) hS.2.2 dX0_seek_25
    · have h := h.2 c_8
      refine lv_iconst (v := 1) hx hb dX0_seek_11 (by decide) ?_
      refine lv_goto (tgt := 25) hx hb dX0_seek_12 (by decide) ?_
      exact W.iret (v := 1) hx hb hr (fun t ht hW => ⟨⟨_, (ci, ai, al), rfl, h, by rw [ht]; exact hP, cK.moved hW.alike hK, hD⟩, hS.F ht⟩) hS.2.2 dX0_seek_25

abbrev wmX1_seek : List Cond := .code yX1_seek cX1_seek 3 (some .int) :: WC
theorem hd_X1_seek : yX1_seek.cls = RX1 ∧ yX1_seek.cls ≠ "java/lang/invoke/MethodHandle" ∧ yX1_seek.cls ≠ "java/lang/invoke/VarHandle" ∧ (parseMethodDescriptor yX1_seek.desc).map (fun d => d.parameters.length) = some 1 := by decide +kernel
def P_X1_seek (sh : Sh) (Gr Gw : (Nat → Nat → Int32) → (Nat → Nat → Int32) → (Nat → Nat → Int64) → Nat → Int32 → (Int32 → (Nat → Nat → Int32) → (Nat → Nat → Int32) → (Nat → Nat → Int64) → Prop) → Prop) (ci : Nat → Nat → Int32) (ai : Nat → Nat → Int32) (al : Nat → Nat → Int64) (q : Nat) (p0 : Int32) (Q : Int32 → (Nat → Nat → Int32) → (Nat → Nat → Int32) → (Nat → Nat → Int64) → Prop) : Prop := (q ∈ sL sh ∧ sK sh q = 1) ∧ ∃ q1 : Nat, sR sh q 5 = some q1 ∧ (q1 ∈ sL sh ∧ isZ (sK sh q1)) ∧ Gr ci ai al q1 p0 (fun r5 ci5 ai5 al5 => ((¬ r5 = 1) → (Q r5 ci5 ai5 al5)) ∧ ((r5 = 1) → ((sR sh q 6 = none → (Q r5 ci5 ai5 al5)) ∧ (∀ q6 : Nat, sR sh q 6 = some q6 → ((q6 ∈ sL sh ∧ isZ (sK sh q6)) ∧ Gr ci5 ai5 al5 q6 p0 (fun r10 ci10 ai10 al10 => Q r10 ci10 ai10 al10))))))
set_option maxHeartbeats 4000000 in
set_option maxRecDepth 100000 in
theorem p_X1_seek (l : Launch) (dC : Nat → ClassId) (dI : Nat → Nat → Nat) (sh : Sh) (d : Nat) {Gr Gw : (Nat → Nat → Int32) → (Nat → Nat → Int32) → (Nat → Nat → Int64) → Nat → Int32 → (Int32 → (Nat → Nat → Int32) → (Nat → Nat → Int32) → (Nat → Nat → Int64) → Prop) → Prop} (hGr : GM l dC dI sh yX5_reach wmX5_reach ({ frames := 300 + 5 * d, cells := 0, slots := 0, locals := 6000 + 200 * d }) Gr) (hGw : GM l dC dI sh yX5_work wmX5_work ({ frames := 300 + 5 * d, cells := 0, slots := 0, locals := 6000 + 200 * d }) Gw) (ci : Nat → Nat → Int32) (ai : Nat → Nat → Int32) (al : Nat → Nat → Int64) (q : Nat) (p0 : Int32) (Q : Int32 → (Nat → Nat → Int32) → (Nat → Nat → Int32) → (Nat → Nat → Int64) → Prop) (h : P_X1_seek sh Gr Gw ci ai al q p0 Q) (sz : Nat) : Met l yX1_seek wmX1_seek ({ frames := 303 + 5 * d, cells := 0, slots := 0, locals := 6120 + 200 * d }) (va_Pc [.ref q, .int p0] (cPre dC dI sh ci ai al sz)) (va_Qi (S := CSt) (cI Q) (cB dC dI sh (va_A (cW sh ci ai al) sz)) (va_A (cW sh ci ai al) sz)) 0 0 (va_A (cW sh ci ai al) sz) := by
  refine Met.ofW (cc := cX1_seek) (maxL := 3) (ret := (some .int)) (by decide) rfl ?_
  intro p e s m args below meth c s₁ B hml hv
  obtain ⟨rfl, hsz, hP, hK, hD0, hG⟩ := hv
  have hx := B.exec
  have hb := B.bytes
  have hr := B.returns
  have hts : ∀ w ∈ WC, w.before _ s = true := fun w h => atoms_spec (ws := wmX1_seek) B.pre w (List.mem_cons_of_mem _ h)
  have hown : s.vm.findClass RX1 = some m.cls := findClass_of_methodNamed B.named
  have hlocks := B.notSynchronized
  subst hsz
  have hD := hD0.self (sz := s.heap.size)
  generalize hAe : va_A (cW sh ci ai al) s.heap.size = A at hD ⊢
  have hA : ∀ q : Nat, s.heap.size ≤ q → A q := fun q h => by rw [← hAe]; exact Or.inr h
  generalize hH : s.heap = H at hP ⊢
  have hS : va_S A s.heap H [] := by rw [← hH]; exact va_S.rf
  have hl := lv_entry [.ref q, .int p0] (n := 3) (Nat.le_of_ble_eq_true rfl)
  rw [lg_entry_eq]
  generalize (lg_sl [.ref q, .int p0] ++ List.replicate (3 - (lg_sl [.ref q, .int p0]).length) Slot.unset).toArray = ls at hl ⊢
  have hl : lv_has ls 3 [(0, .ref q), (1, .int p0)] := hl
  unfold P_X1_seek at h
  obtain ⟨⟨hq, hk⟩, h⟩ := h
  refine lv_aload_n hx hb dX1_seek_0 rfl (lv_at hl 0 rfl) ?_
  obtain ⟨q1, e2, h⟩ := h
  refine c_get (C := RX1) (T := TX1) (N := 9) (K := 1) (v := .ref q1) hx hb hts hinX1 hown hK hP hq hk (by decide) rfl 5 (by decide) (hts _ mwC_192) (fun _ h9 => h9) (by show some (va_rf (sR sh q 5)) = _; rw [e2]; rfl) dX1_seek_1 ?_
  refine lv_iload_n hx hb dX1_seek_4 rfl (lv_at hl 1 rfl) ?_
  obtain ⟨⟨hm3, hk4⟩, h⟩ := h
  refine c_endi (c_runZ (rm := ({ frames := 300 + 5 * d, cells := 0, slots := 0, locals := 6000 + 200 * d })) (y := yX5_reach) (x := ⟨"NeededLists$LazyList", "reach", "(I)I"⟩) (n := 1) (bytes := cX5_reach) (maxL := 5) (ret := (some .int)) (q := q1) (As := [.int p0]) (rest := []) ⟨hx, hb, hml, hown, hts⟩ (hGr _ _ _ q1 p0 _ h H.size) mwC_193 mwC_145 mwC_146 mwC_22 mwC_147 mwC_148 mwC_149 mwC_150 mwC_151 mwC_152 mwC_153 mwC_154 mwC_155 mwC_156 rfl (by decide +kernel) rfl rfl ⟨(show 300 + 5 * d + 1 ≤ 303 + 5 * d by omega), (show 8 + (5 + 11) + (6000 + 200 * d) ≤ 6120 + 200 * d by omega)⟩ hK hP hD hG hm3 hk4 rfl hl.1 rfl (Nat.le_of_ble_eq_true rfl) ⟨Nat.le_of_ble_eq_true rfl, Nat.le_of_ble_eq_true rfl⟩ dX1_seek_5) hD hS hA (fun r5 ci5 ai5 al5 H locs h hP hD hS => ?_)
  refine lv_istore_n (lv' := [(2, .int r5), (0, .ref q), (1, .int p0)]) hx hb dX1_seek_8 rfl hl (by decide) rfl (fun ls hl => ?_)
  refine lv_iload_n hx hb dX1_seek_9 rfl (lv_at hl 0 rfl) ?_
  refine lv_iconst (v := 1) hx hb dX1_seek_10 (by decide) ?_
  refine lv_icmp_ne (tgt := 21) hx hb dX1_seek_11 (by decide) (fun c_11 => ?_) (fun c_11 => ?_)
  · have h := h.1 c_11
    refine lv_iload_n hx hb dX1_seek_21 rfl (lv_at hl 0 rfl) ?_
    refine lv_goto (tgt := 33) hx hb dX1_seek_22 (by decide) ?_
    exact W.iret (v := r5) hx hb hr (fun t ht hW => ⟨⟨_, (ci5, ai5, al5), rfl, h, by rw [ht]; exact hP, cK.moved hW.alike hK, hD⟩, hS.F ht⟩) hS.2.2 dX1_seek_33
  · have h := h.2 c_11
    refine lv_aload_n hx hb dX1_seek_14 rfl (lv_at hl 1 rfl) ?_
    rcases e7 : sR sh q 6 with _ | q6
    · have h := h.1 e7
      refine c_get (C := RX1) (T := TX1) (N := 9) (K := 1) (v := .null) hx hb hts hinX1 hown hK hP hq hk (by decide) rfl 6 (by decide) (hts _ mwC_194) (fun _ h9 => h9) (by show some (va_rf (sR sh q 6)) = _; rw [e7]; rfl) dX1_seek_15 ?_
      refine lv_ifnonnullN hx hb dX1_seek_18 ?_
      refine lv_iload_n hx hb dX1_seek_21 rfl (lv_at hl 0 rfl) ?_
      refine lv_goto (tgt := 33) hx hb dX1_seek_22 (by decide) ?_
      exact W.iret (v := r5) hx hb hr (fun t ht hW => ⟨⟨_, (ci5, ai5, al5), rfl, h, by rw [ht]; exact hP, cK.moved hW.alike hK, hD⟩, hS.F ht⟩) hS.2.2 dX1_seek_33
    · have h := h.2 q6 e7
      refine c_get (C := RX1) (T := TX1) (N := 9) (K := 1) (v := .ref q6) hx hb hts hinX1 hown hK hP hq hk (by decide) rfl 6 (by decide) (hts _ mwC_194) (fun _ h9 => h9) (by show some (va_rf (sR sh q 6)) = _; rw [e7]; rfl) dX1_seek_15 ?_
      refine lv_ifnonnull (tgt := 25) hx hb dX1_seek_18 (by decide) ?_
      refine lv_aload_n hx hb dX1_seek_25 rfl (lv_at hl 1 rfl) ?_
      refine c_get (C := RX1) (T := TX1) (N := 9) (K := 1) (v := .ref q6) hx hb hts hinX1 hown hK hP hq hk (by decide) rfl 6 (by decide) (hts _ mwC_194) (fun _ h9 => h9) (by show some (va_rf (sR sh q 6)) = _; rw [e7]; rfl) dX1_seek_26 ?_
      refine lv_iload_n hx hb dX1_seek_29 rfl (lv_at hl 2 rfl) ?_
      obtain ⟨⟨hm8, hk9⟩, h⟩ := h
      refine c_endi (c_runZ (rm := ({ frames := 300 + 5 * d, cells := 0, slots := 0, locals := 6000 + 200 * d })) (y := yX5_reach) (x := ⟨"NeededLists$LazyList", "reach", "(I)I"⟩) (n := 1) (bytes := cX5_reach) (maxL := 5) (ret := (some .int)) (q := q6) (As := [.int p0]) (rest := []) ⟨hx, hb, hml, hown, hts⟩ (hGr _ _ _ q6 p0 _ h H.size) mwC_193 mwC_145 mwC_146 mwC_22 mwC_147 mwC_148 mwC_149 mwC_150 mwC_151 mwC_152 mwC_153 mwC_154 mwC_155 mwC_156 rfl (by decide +kernel) rfl rfl ⟨(show 300 + 5 * d + 1 ≤ 303 + 5 * d by omega), (show 8 + (5 + 11) + (6000 + 200 * d) ≤ 6120 + 200 * d by omega)⟩ hK hP hD hG hm8 hk9 rfl hl.1 rfl (Nat.le_of_ble_eq_true rfl) ⟨Nat.le_of_ble_eq_true rfl, Nat.le_of_ble_eq_true rfl⟩ dX1_seek_30) hD hS hA (fun r10 ci10 ai10 al10 H locs h hP hD hS => ?_)
      exact W.iret (v := r10) hx hb hr (fun t ht hW => ⟨⟨_, (ci10, ai10, al10), rfl, h, by rw [ht]; exact hP, cK.moved hW.alike hK, hD⟩, hS.F ht⟩) hS.2.2 dX1_seek_33
