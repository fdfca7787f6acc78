theorem dX3_seek_0 : decode cX3_seek 0 = .ok (.iload_n 1, 1) := by decide +kernel
theorem dX3_seek_1 : decode cX3_seek 1 = .ok (.aload_n 0, 1) := by decide +kernel
theorem dX3_seek_2 : decode cX3_seek 2 = .ok (.getfield 9, 3) := by decide +kernel
theorem dX3_seek_5 : decode cX3_seek 5 = .ok (.arraylength, 1) := by decide +kernel
theorem dX3_seek_6 : decode cX3_seek 6 = .ok (.if_icmp .ge 7, 3) := by decide +kernel
theorem dX3_seek_9 : decode cX3_seek 9 = .ok (.iconst 1, 1) := by decide +kernel
theorem dX3_seek_10 : decode cX3_seek 10 = .ok (.goto 7, 3) := by decide +kernel
theorem dX3_seek_13 : decode cX3_seek 13 = .ok (.aload_n 0, 1) := by decide +kernel
theorem dX3_seek_14 : decode cX3_seek 14 = .ok (.getfield 15, 3) := by decide +kernel
theorem dX3_seek_17 : decode cX3_seek 17 = .ok (.ireturn, 1) := by decide +kernel
theorem dX4_seek_0 : decode cX4_seek 0 = .ok (.aload_n 0, 1) := by decide +kernel
theorem dX4_seek_1 : decode cX4_seek 1 = .ok (.getfield 9, 3) := by decide +kernel
theorem dX4_seek_4 : decode cX4_seek 4 = .ok (.iload_n 1, 1) := by decide +kernel
theorem dX4_seek_5 : decode cX4_seek 5 = .ok (.invokevirtual 18, 3) := by decide +kernel
theorem dX4_seek_8 : decode cX4_seek 8 = .ok (.istore_n 2, 1) := by decide +kernel
theorem dX4_seek_9 : decode cX4_seek 9 = .ok (.iload_n 2, 1) := by decide +kernel
theorem dX4_seek_10 : decode cX4_seek 10 = .ok (.iconst 2, 1) := by decide +kernel
theorem dX4_seek_11 : decode cX4_seek 11 = .ok (.if_icmp .eq 5, 3) := by decide +kernel
theorem dX4_seek_14 : decode cX4_seek 14 = .ok (.iload_n 2, 1) := by decide +kernel
theorem dX4_seek_15 : decode cX4_seek 15 = .ok (.ireturn, 1) := by decide +kernel
theorem dX4_seek_16 : decode cX4_seek 16 = .ok (.aload_n 0, 1) := by decide +kernel
theorem dX4_seek_17 : decode cX4_seek 17 = .ok (.getfield 15, 3) := by decide +kernel
theorem dX4_seek_20 : decode cX4_seek 20 = .ok (.ifnull 20, 3) := by decide +kernel
theorem dX4_seek_23 : decode cX4_seek 23 = .ok (.aload_n 0, 1) := by decide +kernel
theorem dX4_seek_24 : decode cX4_seek 24 = .ok (.getfield 15, 3) := by decide +kernel
theorem dX4_seek_27 : decode cX4_seek 27 = .ok (.iload_n 1, 1) := by decide +kernel
theorem dX4_seek_28 : decode cX4_seek 28 = .ok (.aload_n 0, 1) := by decide +kernel
theorem dX4_seek_29 : decode cX4_seek 29 = .ok (.getfield 9, 3) := by decide +kernel
theorem dX4_seek_32 : decode cX4_seek 32 = .ok (.invokevirtual 22, 3) := by decide +kernel
theorem dX4_seek_35 : decode cX4_seek 35 = .ok (.isub, 1) := by decide +kernel
theorem dX4_seek_36 : decode cX4_seek 36 = .ok (.invokevirtual 18, 3) := by decide +kernel
theorem dX4_seek_39 : decode cX4_seek 39 = .ok (.ireturn, 1) := by decide +kernel
theorem dX4_seek_40 : decode cX4_seek 40 = .ok (.aload_n 0, 1) := by decide +kernel
theorem dX4_seek_41 : decode cX4_seek 41 = .ok (.getfield 9, 3) := by decide +kernel
theorem dX4_seek_44 : decode cX4_seek 44 = .ok (.invokevirtual 22, 3) := by decide +kernel
theorem dX4_seek_47 : decode cX4_seek 47 = .ok (.ifCond .ne 8, 3) := by decide +kernel
theorem dX4_seek_50 : decode cX4_seek 50 = .ok (.bipush 6, 2) := by decide +kernel
theorem dX4_seek_52 : decode cX4_seek 52 = .ok (.goto 4, 3) := by decide +kernel
theorem dX4_seek_55 : decode cX4_seek 55 = .ok (.iconst 1, 1) := by decide +kernel
theorem dX4_seek_56 : decode cX4_seek 56 = .ok (.ireturn, 1) := by decide +kernel
theorem dX7_seek_0 : decode cX7_seek 0 = .ok (.iload_n 1, 1) := by decide +kernel
theorem dX7_seek_1 : decode cX7_seek 1 = .ok (.ifCond .ne 41, 3) := by decide +kernel
theorem dX7_seek_4 : decode cX7_seek 4 = .ok (.aload_n 0, 1) := by decide +kernel
theorem dX7_seek_5 : decode cX7_seek 5 = .ok (.getfield 9, 3) := by decide +kernel
theorem dX7_seek_8 : decode cX7_seek 8 = .ok (.invokevirtual 19, 3) := by decide +kernel
theorem dX7_seek_11 : decode cX7_seek 11 = .ok (.istore_n 2, 1) := by decide +kernel
theorem dX7_seek_12 : decode cX7_seek 12 = .ok (.iload_n 2, 1) := by decide +kernel
theorem dX7_seek_13 : decode cX7_seek 13 = .ok (.iconst 2, 1) := by decide +kernel
theorem dX7_seek_14 : decode cX7_seek 14 = .ok (.if_icmp .eq 5, 3) := by decide +kernel
theorem dX7_seek_17 : decode cX7_seek 17 = .ok (.iload_n 2, 1) := by decide +kernel
theorem dX7_seek_18 : decode cX7_seek 18 = .ok (.ireturn, 1) := by decide +kernel
theorem dX7_seek_19 : decode cX7_seek 19 = .ok (.aload_n 0, 1) := by decide +kernel
theorem dX7_seek_20 : decode cX7_seek 20 = .ok (.getfield 15, 3) := by decide +kernel
theorem dX7_seek_23 : decode cX7_seek 23 = .ok (.ifnonnull 7, 3) := by decide +kernel
theorem dX7_seek_26 : decode cX7_seek 26 = .ok (.iconst 1, 1) := by decide +kernel
theorem dX7_seek_27 : decode cX7_seek 27 = .ok (.goto 7, 3) := by decide +kernel
theorem dX7_seek_30 : decode cX7_seek 30 = .ok (.aload_n 0, 1) := by decide +kernel
theorem dX7_seek_31 : decode cX7_seek 31 = .ok (.invokevirtual 23, 3) := by decide +kernel
theorem dX7_seek_34 : decode cX7_seek 34 = .ok (.istore_n 3, 1) := by decide +kernel
theorem dX7_seek_35 : decode cX7_seek 35 = .ok (.iload_n 3, 1) := by decide +kernel
theorem dX7_seek_36 : decode cX7_seek 36 = .ok (.iconst 1, 1) := by decide +kernel
theorem dX7_seek_37 : decode cX7_seek 37 = .ok (.if_icmp .eq 5, 3) := by decide +kernel
theorem dX7_seek_40 : decode cX7_seek 40 = .ok (.iload_n 3, 1) := by decide +kernel
theorem dX7_seek_41 : decode cX7_seek 41 = .ok (.ireturn, 1) := by decide +kernel
theorem dX7_seek_42 : decode cX7_seek 42 = .ok (.iload_n 1, 1) := by decide +kernel
theorem dX7_seek_43 : decode cX7_seek 43 = .ok (.aload_n 0, 1) := by decide +kernel
theorem dX7_seek_44 : decode cX7_seek 44 = .ok (.getfield 9, 3) := by decide +kernel
theorem dX7_seek_47 : decode cX7_seek 47 = .ok (.invokevirtual 26, 3) := by decide +kernel
theorem dX7_seek_50 : decode cX7_seek 50 = .ok (.if_icmp .ge 7, 3) := by decide +kernel
theorem dX7_seek_53 : decode cX7_seek 53 = .ok (.iconst 1, 1) := by decide +kernel
theorem dX7_seek_54 : decode cX7_seek 54 = .ok (.goto 4, 3) := by decide +kernel
theorem dX7_seek_57 : decode cX7_seek 57 = .ok (.iconst 2, 1) := by decide +kernel
theorem dX7_seek_58 : decode cX7_seek 58 = .ok (.ireturn, 1) := by decide +kernel
theorem dX8_seek_0 : decode cX8_seek 0 = .ok (.iload_n 1, 1) := by decide +kernel
theorem dX8_seek_1 : decode cX8_seek 1 = .ok (.ifCond .ne 18, 3) := by decide +kernel
theorem dX8_seek_4 : decode cX8_seek 4 = .ok (.aload_n 0, 1) := by decide +kernel
theorem dX8_seek_5 : decode cX8_seek 5 = .ok (.getfield 19, 3) := by decide +kernel
theorem dX8_seek_8 : decode cX8_seek 8 = .ok (.iconst (-1), 1) := by decide +kernel
theorem dX8_seek_9 : decode cX8_seek 9 = .ok (.if_icmp .eq 10, 3) := by decide +kernel
theorem dX8_seek_12 : decode cX8_seek 12 = .ok (.aload_n 0, 1) := by decide +kernel
theorem dX8_seek_13 : decode cX8_seek 13 = .ok (.invokevirtual 26, 3) := by decide +kernel
theorem dX8_seek_16 : decode cX8_seek 16 = .ok (.goto 16, 3) := by decide +kernel
theorem dX8_seek_19 : decode cX8_seek 19 = .ok (.aload_n 0, 1) := by decide +kernel
theorem dX8_seek_20 : decode cX8_seek 20 = .ok (.getfield 9, 3) := by decide +kernel
theorem dX8_seek_23 : decode cX8_seek 23 = .ok (.aload_n 0, 1) := by decide +kernel
theorem dX8_seek_24 : decode cX8_seek 24 = .ok (.getfield 15, 3) := by decide +kernel
theorem dX8_seek_27 : decode cX8_seek 27 = .ok (.iload_n 1, 1) := by decide +kernel
theorem dX8_seek_28 : decode cX8_seek 28 = .ok (.iadd, 1) := by decide +kernel
theorem dX8_seek_29 : decode cX8_seek 29 = .ok (.invokevirtual 30, 3) := by decide +kernel
theorem dX8_seek_32 : decode cX8_seek 32 = .ok (.ireturn, 1) := by decide +kernel
theorem dX9_seek_0 : decode cX9_seek 0 = .ok (.iload_n 1, 1) := by decide +kernel
theorem dX9_seek_1 : decode cX9_seek 1 = .ok (.ifCond .ne 12, 3) := by decide +kernel
theorem dX9_seek_4 : decode cX9_seek 4 = .ok (.aload_n 0, 1) := by decide +kernel
theorem dX9_seek_5 : decode cX9_seek 5 = .ok (.getfield 9, 3) := by decide +kernel
theorem dX9_seek_8 : decode cX9_seek 8 = .ok (.iconst 0, 1) := by decide +kernel
theorem dX9_seek_9 : decode cX9_seek 9 = .ok (.invokevirtual 19, 3) := by decide +kernel
theorem dX9_seek_12 : decode cX9_seek 12 = .ok (.ireturn, 1) := by decide +kernel
theorem dX9_seek_13 : decode cX9_seek 13 = .ok (.iload_n 1, 1) := by decide +kernel
theorem dX9_seek_14 : decode cX9_seek 14 = .ok (.ifCond .lt 12, 3) := by decide +kernel
theorem dX9_seek_17 : decode cX9_seek 17 = .ok (.iload_n 1, 1) := by decide +kernel
theorem dX9_seek_18 : decode cX9_seek 18 = .ok (.aload_n 0, 1) := by decide +kernel
theorem dX9_seek_19 : decode cX9_seek 19 = .ok (.getfield 15, 3) := by decide +kernel
theorem dX9_seek_22 : decode cX9_seek 22 = .ok (.arraylength, 1) := by decide +kernel
theorem dX9_seek_23 : decode cX9_seek 23 = .ok (.if_icmp .lt 5, 3) := by decide +kernel
theorem dX9_seek_26 : decode cX9_seek 26 = .ok (.iconst 3, 1) := by decide +kernel
theorem dX9_seek_27 : decode cX9_seek 27 = .ok (.ireturn, 1) := by decide +kernel
theorem dX9_seek_28 : decode cX9_seek 28 = .ok (.aload_n 0, 1) := by decide +kernel
theorem dX9_seek_29 : decode cX9_seek 29 = .ok (.aload_n 0, 1) := by decide +kernel
theorem dX9_seek_30 : decode cX9_seek 30 = .ok (.getfield 15, 3) := by decide +kernel
theorem dX9_seek_33 : decode cX9_seek 33 = .ok (.iload_n 1, 1) := by decide +kernel
theorem dX9_seek_34 : decode cX9_seek 34 = .ok (.iconst 1, 1) := by decide +kernel
theorem dX9_seek_35 : decode cX9_seek 35 = .ok (.isub, 1) := by decide +kernel
theorem dX9_seek_36 : decode cX9_seek 36 = .ok (.iaload, 1) := by decide +kernel
theorem dX9_seek_37 : decode cX9_seek 37 = .ok (.invokevirtual 23, 3) := by decide +kernel
theorem dX9_seek_40 : decode cX9_seek 40 = .ok (.istore_n 2, 1) := by decide +kernel
theorem dX9_seek_41 : decode cX9_seek 41 = .ok (.aload_n 0, 1) := by decide +kernel
theorem dX9_seek_42 : decode cX9_seek 42 = .ok (.getfield 15, 3) := by decide +kernel
theorem dX9_seek_45 : decode cX9_seek 45 = .ok (.iload_n 1, 1) := by decide +kernel
theorem dX9_seek_46 : decode cX9_seek 46 = .ok (.aload_n 0, 1) := by decide +kernel
theorem dX9_seek_47 : decode cX9_seek 47 = .ok (.getfield 26, 3) := by decide +kernel
theorem dX9_seek_50 : decode cX9_seek 50 = .ok (.iastore, 1) := by decide +kernel
theorem dX9_seek_51 : decode cX9_seek 51 = .ok (.iload_n 2, 1) := by decide +kernel
theorem dX9_seek_52 : decode cX9_seek 52 = .ok (.ireturn, 1) := by decide +kernel
abbrev wmX3_seek : List Cond := .code yX3_seek cX3_seek 2 (some .int) :: WC
theorem hd_X3_seek : yX3_seek.cls = RX3 ∧ yX3_seek.cls ≠ "java/lang/invoke/MethodHandle" ∧ yX3_seek.cls ≠ "java/lang/invoke/VarHandle" ∧ (parseMethodDescriptor yX3_seek.desc).map (fun d => d.parameters.length) = some 1 := by decide +kernel
def P_X3_seek (sh : Sh) (ci : Nat → Nat → Int32) (ai : Nat → Nat → Int32) (al : Nat → Nat → Int64) (q : Nat) (p0 : Int32) (Q : Int32 → (Nat → Nat → Int32) → (Nat → Nat → Int32) → (Nat → Nat → Int64) → Prop) : Prop := (q ∈ sL sh ∧ sK sh q = 3) ∧ ∃ q1 : Nat, sR sh q 5 = some q1 ∧ (q1 ∈ sL sh ∧ sK sh q1 = 21) ∧ (((nI (sN sh q1)) ≤ p0) → (Q (ci q 6) ci ai al)) ∧ ((¬ (nI (sN sh q1)) ≤ p0) → (Q 1 ci ai al))
set_option maxHeartbeats 4000000 in
set_option maxRecDepth 100000 in
theorem p_X3_seek (l : Launch) (dC : Nat → ClassId) (dI : Nat → Nat → Nat) (sh : Sh) (ci : Nat → Nat → Int32) (ai : Nat → Nat → Int32) (al : Nat → Nat → Int64) (q : Nat) (p0 : Int32) (Q : Int32 → (Nat → Nat → Int32) → (Nat → Nat → Int32) → (Nat → Nat → Int64) → Prop) (h : P_X3_seek sh ci ai al q p0 Q) (sz : Nat) : Met l yX3_seek wmX3_seek ({ frames := 12, cells := 0, slots := 0, locals := 200 }) (va_Pc [.ref q, .int p0] (cPre dC dI sh ci ai al sz)) (va_Qi (S := CSt) (cI Q) (cB dC dI sh (va_A (cW sh ci ai al) sz)) (va_A (cW sh ci ai al) sz)) 0 0 (va_A (cW sh ci ai al) sz) := by
  refine Met.ofW (cc := cX3_seek) (maxL := 2) (ret := (some .int)) (by decide) rfl ?_
  intro p e s m args below meth c s₁ B hml hv
  obtain ⟨rfl, hsz, hP, hK, hD0, hG⟩ := hv
  have hx := B.exec
  have hb := B.bytes
  have hr := B.returns
  have hts : ∀ w ∈ WC, w.before _ s = true := fun w h => atoms_spec (ws := wmX3_seek) B.pre w (List.mem_cons_of_mem _ h)
  have hown : s.vm.findClass RX3 = some m.cls := findClass_of_methodNamed B.named
  have hlocks := B.notSynchronized
  subst hsz
  have hD := hD0.self (sz := s.heap.size)
  generalize hAe : va_A (cW sh ci ai al) s.heap.size = A at hD ⊢
  have hA : ∀ q : Nat, s.heap.size ≤ q → A q := fun q h => by rw [← hAe]; exact Or.inr h
  generalize hH : s.heap = H at hP ⊢
  have hS : va_S A s.heap H [] := by rw [← hH]; exact va_S.rf
  have hl := lv_entry [.ref q, .int p0] (n := 2) (Nat.le_of_ble_eq_true rfl)
  rw [lg_entry_eq]
  generalize (lg_sl [.ref q, .int p0] ++ List.replicate (2 - (lg_sl [.ref q, .int p0]).length) Slot.unset).toArray = ls at hl ⊢
  have hl : lv_has ls 2 [(0, .ref q), (1, .int p0)] := hl
  unfold P_X3_seek at h
  obtain ⟨⟨hq, hk⟩, h⟩ := h
  refine lv_iload_n hx hb dX3_seek_0 rfl (lv_at hl 1 rfl) ?_
  refine lv_aload_n hx hb dX3_seek_1 rfl (lv_at hl 0 rfl) ?_
  obtain ⟨q1, e2, h⟩ := h
  refine c_get (C := RX3) (T := TX3) (N := 7) (K := 3) (v := .ref q1) hx hb hts hinX3 hown hK hP hq hk (by decide) rfl 5 (by decide) (hts _ mwC_201) (fun _ h9 => h9) (by show some (va_rf (sR sh q 5)) = _; rw [e2]; rfl) dX3_seek_2 ?_
  obtain ⟨⟨hm3, hk4⟩, h⟩ := h
  refine c_alen hx hb hK hP hm3 (Or.inr (Or.inl hk4)) dX3_seek_5 ?_
  refine lv_icmp_ge (tgt := 13) hx hb dX3_seek_6 (by decide) (fun c_6 => ?_) (fun c_6 => ?_)
  · have h := h.1 c_6
    refine lv_aload_n hx hb dX3_seek_13 rfl (lv_at hl 0 rfl) ?_
    refine c_get (C := RX3) (T := TX3) (N := 7) (K := 3) (v := .int (ci q 6)) hx hb hts hinX3 hown hK hP hq hk (by decide) rfl 6 (by decide) (hts _ mwC_202) (fun _ h9 => h9) rfl dX3_seek_14 ?_
    exact W.iret (v := (ci q 6)) hx hb hr (fun t ht hW => ⟨⟨_, (ci, ai, al), rfl, h, by rw [ht]; exact hP, cK.moved hW.alike hK, hD⟩, hS.F ht⟩) hS.2.2 dX3_seek_17
  · have h := h.2 c_6
    refine lv_iconst (v := 1) hx hb dX3_seek_9 (by decide) ?_
    refine lv_goto (tgt := 17) hx hb dX3_seek_10 (by decide) ?_
    exact W.iret (v := 1) hx hb hr (fun t ht hW => ⟨⟨_, (ci, ai, al), rfl, h, by rw [ht]; exact hP, cK.moved hW.alike hK, hD⟩, hS.F ht⟩) hS.2.2 dX3_seek_17

abbrev wmX4_seek : List Cond := .code yX4_seek cX4_seek 3 (some .int) :: WC
theorem hd_X4_seek : yX4_seek.cls = RX4 ∧ yX4_seek.cls ≠ "java/lang/invoke/MethodHandle" ∧ yX4_seek.cls ≠ "java/lang/invoke/VarHandle" ∧ (parseMethodDescriptor yX4_seek.desc).map (fun d => d.parameters.length) = some 1 := by decide +kernel
def P_X4_seek (sh : Sh) (Gr Gw : (Nat → Nat → Int32) → (Nat → Nat → Int32) → (Nat → Nat → Int64) → Nat → Int32 → (Int32 → (Nat → Nat → Int32) → (Nat → Nat → Int32) → (Nat → Nat → Int64) → Prop) → Prop) (ci : Nat → Nat → Int32) (ai : Nat → Nat → Int32) (al : Nat → Nat → Int64) (q : Nat) (p0 : Int32) (Q : Int32 → (Nat → Nat → Int32) → (Nat → Nat → Int32) → (Nat → Nat → Int64) → Prop) : Prop := (q ∈ sL sh ∧ sK sh q = 4) ∧ ∃ q1 : Nat, sR sh q 5 = some q1 ∧ (q1 ∈ sL sh ∧ isZ (sK sh q1)) ∧ Gr ci ai al q1 p0 (fun r5 ci5 ai5 al5 => ((r5 = 2) → ((sR sh q 6 = none → (P_X5_there sh ci5 ai5 al5 q1  (fun r8 => ((¬ r8 = 0) → (Q 1 ci5 ai5 al5)) ∧ ((r8 = 0) → (Q 6 ci5 ai5 al5))))) ∧ (∀ q6 : Nat, sR sh q 6 = some q6 → (P_X5_there sh ci5 ai5 al5 q1  (fun r9 => (q6 ∈ sL sh ∧ isZ (sK sh q6)) ∧ Gr ci5 ai5 al5 q6 (p0 - r9) (fun r12 ci12 ai12 al12 => Q r12 ci12 ai12 al12)))))) ∧ ((¬ r5 = 2) → (Q r5 ci5 ai5 al5)))
set_option maxHeartbeats 4000000 in
set_option maxRecDepth 100000 in
theorem p_X4_seek (l : Launch) (dC : Nat → ClassId) (dI : Nat → Nat → Nat) (sh : Sh) (d : Nat) {Gr Gw : (Nat → Nat → Int32) → (Nat → Nat → Int32) → (Nat → Nat → Int64) → Nat → Int32 → (Int32 → (Nat → Nat → Int32) → (Nat → Nat → Int32) → (Nat → Nat → Int64) → Prop) → Prop} (hGr : GM l dC dI sh yX5_reach wmX5_reach ({ frames := 300 + 5 * d, cells := 0, slots := 0, locals := 6000 + 200 * d }) Gr) (hGw : GM l dC dI sh yX5_work wmX5_work ({ frames := 300 + 5 * d, cells := 0, slots := 0, locals := 6000 + 200 * d }) Gw) (ci : Nat → Nat → Int32) (ai : Nat → Nat → Int32) (al : Nat → Nat → Int64) (q : Nat) (p0 : Int32) (Q : Int32 → (Nat → Nat → Int32) → (Nat → Nat → Int32) → (Nat → Nat → Int64) → Prop) (h : P_X4_seek sh Gr Gw ci ai al q p0 Q) (sz : Nat) : Met l yX4_seek wmX4_seek ({ frames := 303 + 5 * d, cells := 0, slots := 0, locals := 6120 + 200 * d }) (va_Pc [.ref q, .int p0] (cPre dC dI sh ci ai al sz)) (va_Qi (S := CSt) (cI Q) (cB dC dI sh (va_A (cW sh ci ai al) sz)) (va_A (cW sh ci ai al) sz)) 0 0 (va_A (cW sh ci ai al) sz) := by
  refine Met.ofW (cc := cX4_seek) (maxL := 3) (ret := (some .int)) (by decide) rfl ?_
  intro p e s m args below meth c s₁ B hml hv
  obtain ⟨rfl, hsz, hP, hK, hD0, hG⟩ := hv
  have hx := B.exec
  have hb := B.bytes
  have hr := B.returns
  have hts : ∀ w ∈ WC, w.before _ s = true := fun w h => atoms_spec (ws := wmX4_seek) B.pre w (List.mem_cons_of_mem _ h)
  have hown : s.vm.findClass RX4 = some m.cls := findClass_of_methodNamed B.named
  have hlocks := B.notSynchronized
  subst hsz
  have hD := hD0.self (sz := s.heap.size)
  generalize hAe : va_A (cW sh ci ai al) s.heap.size = A at hD ⊢
  have hA : ∀ q : Nat, s.heap.size ≤ q → A q := fun q h => by rw [← hAe]; exact Or.inr h
  generalize hH : s.heap = H at hP ⊢
  have hS : va_S A s.heap H [] := by rw [← hH]; exact va_S.rf
  have hl := lv_entry [.ref q, .int p0] (n := 3) (Nat.le_of_ble_eq_true rfl)
  rw [lg_entry_eq]
  generalize (lg_sl [.ref q, .int p0] ++ List.replicate (3 - (lg_sl [.ref q, .int p0]).length) Slot.unset).toArray = ls at hl ⊢
  have hl : lv_has ls 3 [(0, .ref q), (1, .int p0)] := hl
  unfold P_X4_seek at h
  obtain ⟨⟨hq, hk⟩, h⟩ := h
  refine lv_aload_n hx hb dX4_seek_0 rfl (lv_at hl 0 rfl) ?_
  obtain ⟨q1, e2, h⟩ := h
  refine c_get (C := RX4) (T := TX4) (N := 7) (K := 4) (v := .ref q1) hx hb hts hinX4 hown hK hP hq hk (by decide) rfl 5 (by decide) (hts _ mwC_18) (fun _ h9 => h9) (by show some (va_rf (sR sh q 5)) = _; rw [e2]; rfl) dX4_seek_1 ?_
  refine lv_iload_n hx hb dX4_seek_4 rfl (lv_at hl 1 rfl) ?_
  obtain ⟨⟨hm3, hk4⟩, h⟩ := h
  refine c_endi (c_runZ (rm := ({ frames := 300 + 5 * d, cells := 0, slots := 0, locals := 6000 + 200 * d })) (y := yX5_reach) (x := ⟨"NeededLists$LazyList", "reach", "(I)I"⟩) (n := 1) (bytes := cX5_reach) (maxL := 5) (ret := (some .int)) (q := q1) (As := [.int p0]) (rest := []) ⟨hx, hb, hml, hown, hts⟩ (hGr _ _ _ q1 p0 _ h H.size) mwC_203 mwC_145 mwC_146 mwC_22 mwC_147 mwC_148 mwC_149 mwC_150 mwC_151 mwC_152 mwC_153 mwC_154 mwC_155 mwC_156 rfl (by decide +kernel) rfl rfl ⟨(show 300 + 5 * d + 1 ≤ 303 + 5 * d by omega), (show 8 + (5 + 11) + (6000 + 200 * d) ≤ 6120 + 200 * d by omega)⟩ hK hP hD hG hm3 hk4 rfl hl.1 rfl (Nat.le_of_ble_eq_true rfl) ⟨Nat.le_of_ble_eq_true rfl, Nat.le_of_ble_eq_true rfl⟩ dX4_seek_5) hD hS hA (fun r5 ci5 ai5 al5 H locs h hP hD hS => ?_)
  refine lv_istore_n (lv' := [(2, .int r5), (0, .ref q), (1, .int p0)]) hx hb dX4_seek_8 rfl hl (by decide) rfl (fun ls hl => ?_)
  refine lv_iload_n hx hb dX4_seek_9 rfl (lv_at hl 0 rfl) ?_
  refine lv_iconst (v := 2) hx hb dX4_seek_10 (by decide) ?_
  refine lv_icmp_eq (tgt := 16) hx hb dX4_seek_11 (by decide) (fun c_11 => ?_) (fun c_11 => ?_)
  · have h := h.1 c_11
    refine lv_aload_n hx hb dX4_seek_16 rfl (lv_at hl 1 rfl) ?_
    rcases e7 : sR sh q 6 with _ | q6
    · have h := h.1 e7
      refine c_get (C := RX4) (T := TX4) (N := 7) (K := 4) (v := .null) hx hb hts hinX4 hown hK hP hq hk (by decide) rfl 6 (by decide) (hts _ mwC_33) (fun _ h9 => h9) (by show some (va_rf (sR sh q 6)) = _; rw [e7]; rfl) dX4_seek_17 ?_
      refine lv_ifnullN (tgt := 40) hx hb dX4_seek_20 (by decide) ?_
      refine lv_aload_n hx hb dX4_seek_40 rfl (lv_at hl 1 rfl) ?_
      refine c_get (C := RX4) (T := TX4) (N := 7) (K := 4) (v := .ref q1) hx hb hts hinX4 hown hK hP hq hk (by decide) rfl 5 (by decide) (hts _ mwC_18) (fun _ h9 => h9) (by show some (va_rf (sR sh q 5)) = _; rw [e2]; rfl) dX4_seek_41 ?_
      refine r_endi (c_runZ (rm := ({ frames := 4, cells := 0, slots := 0, locals := 60 })) (y := yX5_there) (x := ⟨"NeededLists$LazyList", "there", "()I"⟩) (n := 0) (bytes := cX5_there) (maxL := 1) (ret := (some .int)) (q := q1) (As := []) (rest := []) ⟨hx, hb, hml, hown, hts⟩ (p_X5_there l dC dI sh _ _ _ q1  _ h H.size) mwC_19 mwC_20 mwC_21 mwC_22 mwC_23 mwC_24 mwC_25 mwC_26 mwC_27 mwC_28 mwC_29 mwC_30 mwC_31 mwC_32 rfl (by decide +kernel) rfl rfl ⟨(show 4 + 1 ≤ 303 + 5 * d by omega), (show 8 + (1 + 11) + (60) ≤ 6120 + 200 * d by omega)⟩ hK hP hD hG hm3 hk4 rfl hl.1 rfl (Nat.le_of_ble_eq_true rfl) ⟨Nat.le_of_ble_eq_true rfl, Nat.le_of_ble_eq_true rfl⟩ dX4_seek_44) hP hS hA (fun r8 H locs h hP hS => ?_)
      refine lv_if_ne (tgt := 55) hx hb dX4_seek_47 (by decide) (fun c_47 => ?_) (fun c_47 => ?_)
      · have h := h.1 c_47
        refine lv_iconst (v := 1) hx hb dX4_seek_55 (by decide) ?_
        exact W.iret (v := 1) hx hb hr (fun t ht hW => ⟨⟨_, (ci5, ai5, al5), rfl, h, by rw [ht]; exact hP, cK.moved hW.alike hK, hD⟩, hS.F ht⟩) hS.2.2 dX4_seek_56
      · have h := h.2 c_47
        refine lv_bipush (v := 6) hx hb dX4_seek_50 (by decide) ?_
        refine lv_goto (tgt := 56) hx hb dX4_seek_52 (by decide) ?_
        exact W.iret (v := 6) hx hb hr (fun t ht hW => ⟨⟨_, (ci5, ai5, al5), rfl, h, by rw [ht]; exact hP, cK.moved hW.alike hK, hD⟩, hS.F ht⟩) hS.2.2 dX4_seek_56
    · have h := h.2 q6 e7
      refine c_get (C := RX4) (T := TX4) (N := 7) (K := 4) (v := .ref q6) hx hb hts hinX4 hown hK hP hq hk (by decide) rfl 6 (by decide) (hts _ mwC_33) (fun _ h9 => h9) (by show some (va_rf (sR sh q 6)) = _; rw [e7]; rfl) dX4_seek_17 ?_
      refine lv_ifnull hx hb dX4_seek_20 ?_
      refine lv_aload_n hx hb dX4_seek_23 rfl (lv_at hl 1 rfl) ?_
      refine c_get (C := RX4) (T := TX4) (N := 7) (K := 4) (v := .ref q6) hx hb hts hinX4 hown hK hP hq hk (by decide) rfl 6 (by decide) (hts _ mwC_33) (fun _ h9 => h9) (by show some (va_rf (sR sh q 6)) = _; rw [e7]; rfl) dX4_seek_24 ?_
      refine lv_iload_n hx hb dX4_seek_27 rfl (lv_at hl 2 rfl) ?_
      refine lv_aload_n hx hb dX4_seek_28 rfl (lv_at hl 1 rfl) ?_
      refine c_get (C := RX4) (T := TX4) (N := 7) (K := 4) (v := .ref q1) hx hb hts hinX4 hown hK hP hq hk (by decide) rfl 5 (by decide) (hts _ mwC_18) (fun _ h9 => h9) (by show some (va_rf (sR sh q 5)) = _; rw [e2]; rfl) dX4_seek_29 ?_
      refine r_endi (c_runZ (rm := ({ frames := 4, cells := 0, slots := 0, locals := 60 })) (y := yX5_there) (x := ⟨"NeededLists$LazyList", "there", "()I"⟩) (n := 0) (bytes := cX5_there) (maxL := 1) (ret := (some .int)) (q := q1) (As := []) (rest := [.int p0, .ref q6]) ⟨hx, hb, hml, hown, hts⟩ (p_X5_there l dC dI sh _ _ _ q1  _ h H.size) mwC_19 mwC_20 mwC_21 mwC_22 mwC_23 mwC_24 mwC_25 mwC_26 mwC_27 mwC_28 mwC_29 mwC_30 mwC_31 mwC_32 rfl (by decide +kernel) rfl rfl ⟨(show 4 + 1 ≤ 303 + 5 * d by omega), (show 8 + (1 + 11) + (60) ≤ 6120 + 200 * d by omega)⟩ hK hP hD hG hm3 hk4 rfl hl.1 rfl (Nat.le_of_ble_eq_true rfl) ⟨Nat.le_of_ble_eq_true rfl, Nat.le_of_ble_eq_true rfl⟩ dX4_seek_32) hP hS hA (fun r9 H locs h hP hS => ?_)
      refine lv_isub hx hb dX4_seek_35 ?_
      obtain ⟨⟨hm10, hk11⟩, h⟩ := h
      refine c_endi (c_runZ (rm := ({ frames := 300 + 5 * d, cells := 0, slots := 0, locals := 6000 + 200 * d })) (y := yX5_reach) (x := ⟨"NeededLists$LazyList", "reach", "(I)I"⟩) (n := 1) (bytes := cX5_reach) (maxL := 5) (ret := (some .int)) (q := q6) (As := [.int (p0 - r9)]) (rest := []) ⟨hx, hb, hml, hown, hts⟩ (hGr _ _ _ q6 (p0 - r9) _ h H.size) mwC_203 mwC_145 mwC_146 mwC_22 mwC_147 mwC_148 mwC_149 mwC_150 mwC_151 mwC_152 mwC_153 mwC_154 mwC_155 mwC_156 rfl (by decide +kernel) rfl rfl ⟨(show 300 + 5 * d + 1 ≤ 303 + 5 * d by omega), (show 8 + (5 + 11) + (6000 + 200 * d) ≤ 6120 + 200 * d by omega)⟩ hK hP hD hG hm10 hk11 rfl hl.1 rfl (Nat.le_of_ble_eq_true rfl) ⟨Nat.le_of_ble_eq_true rfl, Nat.le_of_ble_eq_true rfl⟩ dX4_seek_36) hD hS hA (fun r12 ci12 ai12 al12 H locs h hP hD hS => ?_)
      exact W.iret (v := r12) hx hb hr (fun t ht hW => ⟨⟨_, (ci12, ai12, al12), rfl, h, by rw [ht]; exact hP, cK.moved hW.alike hK, hD⟩, hS.F ht⟩) hS.2.2 dX4_seek_39
  · have h := h.2 c_11
    refine lv_iload_n hx hb dX4_seek_14 rfl (lv_at hl 0 rfl) ?_
    exact W.iret (v := r5) hx hb hr (fun t ht hW => ⟨⟨_, (ci5, ai5, al5), rfl, h, by rw [ht]; exact hP, cK.moved hW.alike hK, hD⟩, hS.F ht⟩) hS.2.2 dX4_seek_15

abbrev wmX7_seek : List Cond := .code yX7_seek cX7_seek 4 (some .int) :: WC
theorem hd_X7_seek : yX7_seek.cls = RX7 ∧ yX7_seek.cls ≠ "java/lang/invoke/MethodHandle" ∧ yX7_seek.cls ≠ "java/lang/invoke/VarHandle" ∧ (parseMethodDescriptor yX7_seek.desc).map (fun d => d.parameters.length) = some 1 := by decide +kernel
def P_X7_seek (sh : Sh) (Gr Gw : (Nat → Nat → Int32) → (Nat → Nat → Int32) → (Nat → Nat → Int64) → Nat → Int32 → (Int32 → (Nat → Nat → Int32) → (Nat → Nat → Int32) → (Nat → Nat → Int64) → Prop) → Prop) (ci : Nat → Nat → Int32) (ai : Nat → Nat → Int32) (al : Nat → Nat → Int64) (q : Nat) (p0 : Int32) (Q : Int32 → (Nat → Nat → Int32) → (Nat → Nat → Int32) → (Nat → Nat → Int64) → Prop) : Prop := (q ∈ sL sh ∧ sK sh q = 6) ∧ ((¬ p0 = 0) → (∃ q1 : Nat, sR sh q 5 = some q1 ∧ (q1 ∈ sL sh ∧ isZ (sK sh q1)) ∧ P_X5_there sh ci ai al q1  (fun r5 => ((r5 ≤ p0) → (Q 2 ci ai al)) ∧ ((¬ r5 ≤ p0) → (Q 1 ci ai al))))) ∧ ((p0 = 0) → (∃ q6 : Nat, sR sh q 5 = some q6 ∧ (q6 ∈ sL sh ∧ isZ (sK sh q6)) ∧ P_X5_reachAll sh Gr Gw ci ai al q6  (fun r10 ci10 ai10 al10 => ((r10 = 2) → ((sR sh q 6 = none → (P_X5_there sh ci10 ai10 al10 q6  (fun r13 => ((r13 ≤ p0) → (Q 2 ci10 ai10 al10)) ∧ ((¬ r13 ≤ p0) → (Q 1 ci10 ai10 al10))))) ∧ (∀ q11 : Nat, sR sh q 6 = some q11 → (P_X7_sortPlaces sh Gr Gw ci10 ai10 al10 q  (fun r14 ci14 ai14 al14 => ((r14 = 1) → (P_X5_there sh ci14 ai14 al14 q6  (fun r15 => ((r15 ≤ p0) → (Q 2 ci14 ai14 al14)) ∧ ((¬ r15 ≤ p0) → (Q 1 ci14 ai14 al14))))) ∧ ((¬ r14 = 1) → (Q r14 ci14 ai14 al14))))))) ∧ ((¬ r10 = 2) → (Q r10 ci10 ai10 al10)))))
set_option maxHeartbeats 4000000 in
set_option maxRecDepth 100000 in
theorem p_X7_seek (l : Launch) (dC : Nat → ClassId) (dI : Nat → Nat → Nat) (sh : Sh) (d : Nat) {Gr Gw : (Nat → Nat → Int32) → (Nat → Nat → Int32) → (Nat → Nat → Int64) → Nat → Int32 → (Int32 → (Nat → Nat → Int32) → (Nat → Nat → Int32) → (Nat → Nat → Int64) → Prop) → Prop} (hGr : GM l dC dI sh yX5_reach wmX5_reach ({ frames := 300 + 5 * d, cells := 0, slots := 0, locals := 6000 + 200 * d }) Gr) (hGw : GM l dC dI sh yX5_work wmX5_work ({ frames := 300 + 5 * d, cells := 0, slots := 0, locals := 6000 + 200 * d }) Gw) (ci : Nat → Nat → Int32) (ai : Nat → Nat → Int32) (al : Nat → Nat → Int64) (q : Nat) (p0 : Int32) (Q : Int32 → (Nat → Nat → Int32) → (Nat → Nat → Int32) → (Nat → Nat → Int64) → Prop) (h : P_X7_seek sh Gr Gw ci ai al q p0 Q) (sz : Nat) : Met l yX7_seek wmX7_seek ({ frames := 303 + 5 * d, cells := 0, slots := 0, locals := 6120 + 200 * d }) (va_Pc [.ref q, .int p0] (cPre dC dI sh ci ai al sz)) (va_Qi (S := CSt) (cI Q) (cB dC dI sh (va_A (cW sh ci ai al) sz)) (va_A (cW sh ci ai al) sz)) 0 0 (va_A (cW sh ci ai al) sz) := by
  refine Met.ofW (cc := cX7_seek) (maxL := 4) (ret := (some .int)) (by decide) rfl ?_
  intro p e s m args below meth c s₁ B hml hv
  obtain ⟨rfl, hsz, hP, hK, hD0, hG⟩ := hv
  have hx := B.exec
  have hb := B.bytes
  have hr := B.returns
  have hts : ∀ w ∈ WC, w.before _ s = true := fun w h => atoms_spec (ws := wmX7_seek) B.pre w (List.mem_cons_of_mem _ h)
  have hown : s.vm.findClass RX7 = some m.cls := findClass_of_methodNamed B.named
  have hlocks := B.notSynchronized
  subst hsz
  have hD := hD0.self (sz := s.heap.size)
  generalize hAe : va_A (cW sh ci ai al) s.heap.size = A at hD ⊢
  have hA : ∀ q : Nat, s.heap.size ≤ q → A q := fun q h => by rw [← hAe]; exact Or.inr h
  generalize hH : s.heap = H at hP ⊢
  have hS : va_S A s.heap H [] := by rw [← hH]; exact va_S.rf
  have hl := lv_entry [.ref q, .int p0] (n := 4) (Nat.le_of_ble_eq_true rfl)
  rw [lg_entry_eq]
  generalize (lg_sl [.ref q, .int p0] ++ List.replicate (4 - (lg_sl [.ref q, .int p0]).length) Slot.unset).toArray = ls at hl ⊢
  have hl : lv_has ls 4 [(0, .ref q), (1, .int p0)] := hl
  unfold P_X7_seek at h
  obtain ⟨⟨hq, hk⟩, h⟩ := h
  refine lv_iload_n hx hb dX7_seek_0 rfl (lv_at hl 1 rfl) ?_
  refine lv_if_ne (tgt := 42) hx hb dX7_seek_1 (by decide) (fun c_1 => ?_) (fun c_1 => ?_)
  · have h := h.1 c_1
    refine lv_iload_n hx hb dX7_seek_42 rfl (lv_at hl 1 rfl) ?_
    refine lv_aload_n hx hb dX7_seek_43 rfl (lv_at hl 0 rfl) ?_
    obtain ⟨q1, e2, h⟩ := h
    refine c_get (C := RX7) (T := TX7) (N := 7) (K := 6) (v := .ref q1) hx hb hts hinX7 hown hK hP hq hk (by decide) rfl 5 (by decide) (hts _ mwC_34) (fun _ h9 => h9) (by show some (va_rf (sR sh q 5)) = _; rw [e2]; rfl) dX7_seek_44 ?_
    obtain ⟨⟨hm3, hk4⟩, h⟩ := h
    refine r_endi (c_runZ (rm := ({ frames := 4, cells := 0, slots := 0, locals := 60 })) (y := yX5_there) (x := ⟨"NeededLists$LazyList", "there", "()I"⟩) (n := 0) (bytes := cX5_there) (maxL := 1) (ret := (some .int)) (q := q1) (As := []) (rest := [.int p0]) ⟨hx, hb, hml, hown, hts⟩ (p_X5_there l dC dI sh _ _ _ q1  _ h H.size) mwC_38 mwC_20 mwC_21 mwC_22 mwC_23 mwC_24 mwC_25 mwC_26 mwC_27 mwC_28 mwC_29 mwC_30 mwC_31 mwC_32 rfl (by decide +kernel) rfl rfl ⟨(show 4 + 1 ≤ 303 + 5 * d by omega), (show 8 + (1 + 11) + (60) ≤ 6120 + 200 * d by omega)⟩ hK hP hD hG hm3 hk4 rfl hl.1 rfl (Nat.le_of_ble_eq_true rfl) ⟨Nat.le_of_ble_eq_true rfl, Nat.le_of_ble_eq_true rfl⟩ dX7_seek_47) hP hS hA (fun r5 H locs h hP hS => ?_)
    refine lv_icmp_ge (tgt := 57) hx hb dX7_seek_50 (by decide) (fun c_50 => ?_) (fun c_50 => ?_)
    · have h := h.1 c_50
      refine lv_iconst (v := 2) hx hb dX7_seek_57 (by decide) ?_
      exact W.iret (v := 2) hx hb hr (fun t ht hW => ⟨⟨_, (ci, ai, al), rfl, h, by rw [ht]; exact hP, cK.moved hW.alike hK, hD⟩, hS.F ht⟩) hS.2.2 dX7_seek_58
    · have h := h.2 c_50
      refine lv_iconst (v := 1) hx hb dX7_seek_53 (by decide) ?_
      refine lv_goto (tgt := 58) hx hb dX7_seek_54 (by decide) ?_
      exact W.iret (v := 1) hx hb hr (fun t ht hW => ⟨⟨_, (ci, ai, al), rfl, h, by rw [ht]; exact hP, cK.moved hW.alike hK, hD⟩, hS.F ht⟩) hS.2.2 dX7_seek_58
  · have h := h.2 c_1
    refine lv_aload_n hx hb dX7_seek_4 rfl (lv_at hl 0 rfl) ?_
    obtain ⟨q6, e7, h⟩ := h
    refine c_get (C := RX7) (T := TX7) (N := 7) (K := 6) (v := .ref q6) hx hb hts hinX7 hown hK hP hq hk (by decide) rfl 5 (by decide) (hts _ mwC_34) (fun _ h9 => h9) (by show some (va_rf (sR sh q 5)) = _; rw [e7]; rfl) dX7_seek_5 ?_
    obtain ⟨⟨hm8, hk9⟩, h⟩ := h
    refine c_endi (c_runZ (rm := ({ frames := 301 + 5 * d, cells := 0, slots := 0, locals := 6040 + 200 * d })) (y := yX5_reachAll) (x := ⟨"NeededLists$LazyList", "reachAll", "()I"⟩) (n := 0) (bytes := cX5_reachAll) (maxL := 1) (ret := (some .int)) (q := q6) (As := []) (rest := []) ⟨hx, hb, hml, hown, hts⟩ (p_X5_reachAll l dC dI sh d hGr hGw _ _ _ q6  _ h H.size) mwC_204 mwC_205 mwC_206 mwC_22 mwC_207 mwC_208 mwC_209 mwC_210 mwC_211 mwC_212 mwC_213 mwC_214 mwC_215 mwC_216 rfl (by decide +kernel) rfl rfl ⟨(show 301 + 5 * d + 1 ≤ 303 + 5 * d by omega), (show 8 + (1 + 11) + (6040 + 200 * d) ≤ 6120 + 200 * d by omega)⟩ hK hP hD hG hm8 hk9 rfl hl.1 rfl (Nat.le_of_ble_eq_true rfl) ⟨Nat.le_of_ble_eq_true rfl, Nat.le_of_ble_eq_true rfl⟩ dX7_seek_8) hD hS hA (fun r10 ci10 ai10 al10 H locs h hP hD hS => ?_)
    refine lv_istore_n (lv' := [(2, .int r10), (0, .ref q), (1, .int p0)]) hx hb dX7_seek_11 rfl hl (by decide) rfl (fun ls hl => ?_)
    refine lv_iload_n hx hb dX7_seek_12 rfl (lv_at hl 0 rfl) ?_
    refine lv_iconst (v := 2) hx hb dX7_seek_13 (by decide) ?_
    refine lv_icmp_eq (tgt := 19) hx hb dX7_seek_14 (by decide) (fun c_14 => ?_) (fun c_14 => ?_)
    · have h := h.1 c_14
      refine lv_aload_n hx hb dX7_seek_19 rfl (lv_at hl 1 rfl) ?_
      rcases e12 : sR sh q 6 with _ | q11
      · have h := h.1 e12
        refine c_get (C := RX7) (T := TX7) (N := 7) (K := 6) (v := .null) hx hb hts hinX7 hown hK hP hq hk (by decide) rfl 6 (by decide) (hts _ mwC_37) (fun _ h9 => h9) (by show some (va_rf (sR sh q 6)) = _; rw [e12]; rfl) dX7_seek_20 ?_
        refine lv_ifnonnullN hx hb dX7_seek_23 ?_
        refine lv_iconst (v := 1) hx hb dX7_seek_26 (by decide) ?_
        refine lv_goto (tgt := 34) hx hb dX7_seek_27 (by decide) ?_
        refine lv_istore_n (lv' := [(3, .int 1), (2, .int r10), (0, .ref q), (1, .int p0)]) hx hb dX7_seek_34 rfl hl (by decide) rfl (fun ls hl => ?_)
        refine lv_iload_n hx hb dX7_seek_35 rfl (lv_at hl 0 rfl) ?_
        refine lv_iconst (v := 1) hx hb dX7_seek_36 (by decide) ?_
        refine lv_icmp_eq (tgt := 42) hx hb dX7_seek_37 (by decide) (fun c_37 => ?_) (fun c_37 => ?_)
        · refine lv_iload_n hx hb dX7_seek_42 rfl (lv_at hl 3 rfl) ?_
          refine lv_aload_n hx hb dX7_seek_43 rfl (lv_at hl 2 rfl) ?_
          refine c_get (C := RX7) (T := TX7) (N := 7) (K := 6) (v := .ref q6) hx hb hts hinX7 hown hK hP hq hk (by decide) rfl 5 (by decide) (hts _ mwC_34) (fun _ h9 => h9) (by show some (va_rf (sR sh q 5)) = _; rw [e7]; rfl) dX7_seek_44 ?_
          refine r_endi (c_runZ (rm := ({ frames := 4, cells := 0, slots := 0, locals := 60 })) (y := yX5_there) (x := ⟨"NeededLists$LazyList", "there", "()I"⟩) (n := 0) (bytes := cX5_there) (maxL := 1) (ret := (some .int)) (q := q6) (As := []) (rest := [.int p0]) ⟨hx, hb, hml, hown, hts⟩ (p_X5_there l dC dI sh _ _ _ q6  _ h H.size) mwC_38 mwC_20 mwC_21 mwC_22 mwC_23 mwC_24 mwC_25 mwC_26 mwC_27 mwC_28 mwC_29 mwC_30 mwC_31 mwC_32 rfl (by decide +kernel) rfl rfl ⟨(show 4 + 1 ≤ 303 + 5 * d by omega), (show 8 + (1 + 11) + (60) ≤ 6120 + 200 * d by omega)⟩ hK hP hD hG hm8 hk9 rfl hl.1 rfl (Nat.le_of_ble_eq_true rfl) ⟨Nat.le_of_ble_eq_true rfl, Nat.le_of_ble_eq_true rfl⟩ dX7_seek_47) hP hS hA (fun r13 H locs h hP hS => ?_)
          refine lv_icmp_ge (tgt := 57) hx hb dX7_seek_50 (by decide) (fun c_50 => ?_) (fun c_50 => ?_)
          · have h := h.1 c_50
            refine lv_iconst (v := 2) hx hb dX7_seek_57 (by decide) ?_
            exact W.iret (v := 2) hx hb hr (fun t ht hW => ⟨⟨_, (ci10, ai10, al10), rfl, h, by rw [ht]; exact hP, cK.moved hW.alike hK, hD⟩, hS.F ht⟩) hS.2.2 dX7_seek_58
          · have h := h.2 c_50
            refine lv_iconst (v := 1) hx hb dX7_seek_53 (by decide) ?_
            refine lv_goto (tgt := 58) hx hb dX7_seek_54 (by decide) ?_
            exact W.iret (v := 1) hx hb hr (fun t ht hW => ⟨⟨_, (ci10, ai10, al10), rfl, h, by rw [ht]; exact hP, cK.moved hW.alike hK, hD⟩, hS.F ht⟩) hS.2.2 dX7_seek_58
        · exact absurd c_37 (by decide)
      · have h := h.2 q11 e12
        refine c_get (C := RX7) (T := TX7) (N := 7) (K := 6) (v := .ref q11) hx hb hts hinX7 hown hK hP hq hk (by decide) rfl 6 (by decide) (hts _ mwC_37) (fun _ h9 => h9) (by show some (va_rf (sR sh q 6)) = _; rw [e12]; rfl) dX7_seek_20 ?_
        refine lv_ifnonnull (tgt := 30) hx hb dX7_seek_23 (by decide) ?_
        refine lv_aload_n hx hb dX7_seek_30 rfl (lv_at hl 1 rfl) ?_
        refine c_endi (va_runV (rm := ({ frames := 302 + 5 * d, cells := 0, slots := 0, locals := 6080 + 200 * d })) (As := []) (rest := []) ⟨hx, hb, hml, hown, hts⟩ (p_X7_sortPlaces l dC dI sh d hGr hGw _ _ _ q  _ h H.size) (cwV 0 hts (g_V gdC mwC_217 mwC_218 mwC_219 mwC_58 mwC_220) rfl rfl rfl hd_X7_sortPlaces ⟨(show 302 + 5 * d + 1 ≤ 303 + 5 * d by omega), (show 8 + (4 + 11) + (6080 + 200 * d) ≤ 6120 + 200 * d by omega)⟩) (c_preV (vc := (RX7, TX7, 7)) hK hP hD hG hq hk (by decide) rfl) rfl rfl hl.1 rfl (lv_room (Nat.le_of_ble_eq_true rfl)) dX7_seek_31 ⟨Nat.le_of_ble_eq_true rfl, Nat.le_of_ble_eq_true rfl⟩) hD hS hA (fun r14 ci14 ai14 al14 H locs h hP hD hS => ?_)
        refine lv_istore_n (lv' := [(3, .int r14), (2, .int r10), (0, .ref q), (1, .int p0)]) hx hb dX7_seek_34 rfl hl (by decide) rfl (fun ls hl => ?_)
        refine lv_iload_n hx hb dX7_seek_35 rfl (lv_at hl 0 rfl) ?_
        refine lv_iconst (v := 1) hx hb dX7_seek_36 (by decide) ?_
        refine lv_icmp_eq (tgt := 42) hx hb dX7_seek_37 (by decide) (fun c_37 => ?_) (fun c_37 => ?_)
        · have h := h.1 c_37
          refine lv_iload_n hx hb dX7_seek_42 rfl (lv_at hl 3 rfl) ?_
          refine lv_aload_n hx hb dX7_seek_43 rfl (lv_at hl 2 rfl) ?_
          refine c_get (C := RX7) (T := TX7) (N := 7) (K := 6) (v := .ref q6) hx hb hts hinX7 hown hK hP hq hk (by decide) rfl 5 (by decide) (hts _ mwC_34) (fun _ h9 => h9) (by show some (va_rf (sR sh q 5)) = _; rw [e7]; rfl) dX7_seek_44 ?_
          refine r_endi (c_runZ (rm := ({ frames := 4, cells := 0, slots := 0, locals := 60 })) (y := yX5_there) (x := ⟨"NeededLists$LazyList", "there", "()I"⟩) (n := 0) (bytes := cX5_there) (maxL := 1) (ret := (some .int)) (q := q6) (As := []) (rest := [.int p0]) ⟨hx, hb, hml, hown, hts⟩ (p_X5_there l dC dI sh _ _ _ q6  _ h H.size) mwC_38 mwC_20 mwC_21 mwC_22 mwC_23 mwC_24 mwC_25 mwC_26 mwC_27 mwC_28 mwC_29 mwC_30 mwC_31 mwC_32 rfl (by decide +kernel) rfl rfl ⟨(show 4 + 1 ≤ 303 + 5 * d by omega), (show 8 + (1 + 11) + (60) ≤ 6120 + 200 * d by omega)⟩ hK hP hD hG hm8 hk9 rfl hl.1 rfl (Nat.le_of_ble_eq_true rfl) ⟨Nat.le_of_ble_eq_true rfl, Nat.le_of_ble_eq_true rfl⟩ dX7_seek_47) hP hS hA (fun r15 H locs h hP hS => ?_)
          refine lv_icmp_ge (tgt := 57) hx hb dX7_seek_50 (by decide) (fun c_50 => ?_) (fun c_50 => ?_)
          · have h := h.1 c_50
            refine lv_iconst (v := 2) hx hb dX7_seek_57 (by decide) ?_
            exact W.iret (v := 2) hx hb hr (fun t ht hW => ⟨⟨_, (ci14, ai14, al14), rfl, h, by rw [ht]; exact hP, cK.moved hW.alike hK, hD⟩, hS.F ht⟩) hS.2.2 dX7_seek_58
          · have h := h.2 c_50
            refine lv_iconst (v := 1) hx hb dX7_seek_53 (by decide) ?_
            refine lv_goto (tgt := 58) hx hb dX7_seek_54 (by decide) ?_
            exact W.iret (v := 1) hx hb hr (fun t ht hW => ⟨⟨_, (ci14, ai14, al14), rfl, h, by rw [ht]; exact hP, cK.moved hW.alike hK, hD⟩, hS.F ht⟩) hS.2.2 dX7_seek_58
        · have h := h.2 c_37
          refine lv_iload_n hx hb dX7_seek_40 rfl (lv_at hl 0 rfl) ?_
          exact W.iret (v := r14) hx hb hr (fun t ht hW => ⟨⟨_, (ci14, ai14, al14), rfl, h, by rw [ht]; exact hP, cK.moved hW.alike hK, hD⟩, hS.F ht⟩) hS.2.2 dX7_seek_41
    · have h := h.2 c_14
      refine lv_iload_n hx hb dX7_seek_17 rfl (lv_at hl 0 rfl) ?_
      exact W.iret (v := r10) hx hb hr (fun t ht hW => ⟨⟨_, (ci10, ai10, al10), rfl, h, by rw [ht]; exact hP, cK.moved hW.alike hK, hD⟩, hS.F ht⟩) hS.2.2 dX7_seek_18

abbrev wmX8_seek : List Cond := .code yX8_seek cX8_seek 2 (some .int) :: WC
theorem hd_X8_seek : yX8_seek.cls = RX8 ∧ yX8_seek.cls ≠ "java/lang/invoke/MethodHandle" ∧ yX8_seek.cls ≠ "java/lang/invoke/VarHandle" ∧ (parseMethodDescriptor yX8_seek.desc).map (fun d => d.parameters.length) = some 1 := by decide +kernel
def P_X8_seek (sh : Sh) (Gr Gw : (Nat → Nat → Int32) → (Nat → Nat → Int32) → (Nat → Nat → Int64) → Nat → Int32 → (Int32 → (Nat → Nat → Int32) → (Nat → Nat → Int32) → (Nat → Nat → Int64) → Prop) → Prop) (ci : Nat → Nat → Int32) (ai : Nat → Nat → Int32) (al : Nat → Nat → Int64) (q : Nat) (p0 : Int32) (Q : Int32 → (Nat → Nat → Int32) → (Nat → Nat → Int32) → (Nat → Nat → Int64) → Prop) : Prop := (q ∈ sL sh ∧ sK sh q = 7) ∧ ((¬ p0 = 0) → (∃ q1 : Nat, sR sh q 5 = some q1 ∧ (q1 ∈ sL sh ∧ isZ (sK sh q1)) ∧ Gr ci ai al q1 ((ci q 8) + p0) (fun r5 ci5 ai5 al5 => Q r5 ci5 ai5 al5))) ∧ ((p0 = 0) → ((((ci q 6) = (-1)) → (∃ q6 : Nat, sR sh q 5 = some q6 ∧ (q6 ∈ sL sh ∧ isZ (sK sh q6)) ∧ Gr ci ai al q6 ((ci q 8) + p0) (fun r10 ci10 ai10 al10 => Q r10 ci10 ai10 al10))) ∧ ((¬ (ci q 6) = (-1)) → (P_X8_findStart sh Gr Gw ci ai al q  (fun r11 ci11 ai11 al11 => Q r11 ci11 ai11 al11)))))
set_option maxHeartbeats 4000000 in
set_option maxRecDepth 100000 in
theorem p_X8_seek (l : Launch) (dC : Nat → ClassId) (dI : Nat → Nat → Nat) (sh : Sh) (d : Nat) {Gr Gw : (Nat → Nat → Int32) → (Nat → Nat → Int32) → (Nat → Nat → Int64) → Nat → Int32 → (Int32 → (Nat → Nat → Int32) → (Nat → Nat → Int32) → (Nat → Nat → Int64) → Prop) → Prop} (hGr : GM l dC dI sh yX5_reach wmX5_reach ({ frames := 300 + 5 * d, cells := 0, slots := 0, locals := 6000 + 200 * d }) Gr) (hGw : GM l dC dI sh yX5_work wmX5_work ({ frames := 300 + 5 * d, cells := 0, slots := 0, locals := 6000 + 200 * d }) Gw) (ci : Nat → Nat → Int32) (ai : Nat → Nat → Int32) (al : Nat → Nat → Int64) (q : Nat) (p0 : Int32) (Q : Int32 → (Nat → Nat → Int32) → (Nat → Nat → Int32) → (Nat → Nat → Int64) → Prop) (h : P_X8_seek sh Gr Gw ci ai al q p0 Q) (sz : Nat) : Met l yX8_seek wmX8_seek ({ frames := 303 + 5 * d, cells := 0, slots := 0, locals := 6120 + 200 * d }) (va_Pc [.ref q, .int p0] (cPre dC dI sh ci ai al sz)) (va_Qi (S := CSt) (cI Q) (cB dC dI sh (va_A (cW sh ci ai al) sz)) (va_A (cW sh ci ai al) sz)) 0 0 (va_A (cW sh ci ai al) sz) := by
  refine Met.ofW (cc := cX8_seek) (maxL := 2) (ret := (some .int)) (by decide) rfl ?_
  intro p e s m args below meth c s₁ B hml hv
  obtain ⟨rfl, hsz, hP, hK, hD0, hG⟩ := hv
  have hx := B.exec
  have hb := B.bytes
  have hr := B.returns
  have hts : ∀ w ∈ WC, w.before _ s = true := fun w h => atoms_spec (ws := wmX8_seek) B.pre w (List.mem_cons_of_mem _ h)
  have hown : s.vm.findClass RX8 = some m.cls := findClass_of_methodNamed B.named
  have hlocks := B.notSynchronized
  subst hsz
  have hD := hD0.self (sz := s.heap.size)
  generalize hAe : va_A (cW sh ci ai al) s.heap.size = A at hD ⊢
  have hA : ∀ q : Nat, s.heap.size ≤ q → A q := fun q h => by rw [← hAe]; exact Or.inr h
  generalize hH : s.heap = H at hP ⊢
  have hS : va_S A s.heap H [] := by rw [← hH]; exact va_S.rf
  have hl := lv_entry [.ref q, .int p0] (n := 2) (Nat.le_of_ble_eq_true rfl)
  rw [lg_entry_eq]
  generalize (lg_sl [.ref q, .int p0] ++ List.replicate (2 - (lg_sl [.ref q, .int p0]).length) Slot.unset).toArray = ls at hl ⊢
  have hl : lv_has ls 2 [(0, .ref q), (1, .int p0)] := hl
  unfold P_X8_seek at h
  obtain ⟨⟨hq, hk⟩, h⟩ := h
  refine lv_iload_n hx hb dX8_seek_0 rfl (lv_at hl 1 rfl) ?_
  refine lv_if_ne (tgt := 19) hx hb dX8_seek_1 (by decide) (fun c_1 => ?_) (fun c_1 => ?_)
  · have h := h.1 c_1
    refine lv_aload_n hx hb dX8_seek_19 rfl (lv_at hl 0 rfl) ?_
    obtain ⟨q1, e2, h⟩ := h
    refine c_get (C := RX8) (T := TX8) (N := 9) (K := 7) (v := .ref q1) hx hb hts hinX8 hown hK hP hq hk (by decide) rfl 5 (by decide) (hts _ mwC_35) (fun _ h9 => h9) (by show some (va_rf (sR sh q 5)) = _; rw [e2]; rfl) dX8_seek_20 ?_
    refine lv_aload_n hx hb dX8_seek_23 rfl (lv_at hl 0 rfl) ?_
    refine c_get (C := RX8) (T := TX8) (N := 9) (K := 7) (v := .int (ci q 8)) hx hb hts hinX8 hown hK hP hq hk (by decide) rfl 8 (by decide) (hts _ mwC_39) (fun _ h9 => h9) rfl dX8_seek_24 ?_
    refine lv_iload_n hx hb dX8_seek_27 rfl (lv_at hl 1 rfl) ?_
    refine lv_iadd hx hb dX8_seek_28 ?_
    obtain ⟨⟨hm3, hk4⟩, h⟩ := h
    refine c_endi (c_runZ (rm := ({ frames := 300 + 5 * d, cells := 0, slots := 0, locals := 6000 + 200 * d })) (y := yX5_reach) (x := ⟨"NeededLists$LazyList", "reach", "(I)I"⟩) (n := 1) (bytes := cX5_reach) (maxL := 5) (ret := (some .int)) (q := q1) (As := [.int ((ci q 8) + p0)]) (rest := []) ⟨hx, hb, hml, hown, hts⟩ (hGr _ _ _ q1 ((ci q 8) + p0) _ h H.size) mwC_157 mwC_145 mwC_146 mwC_22 mwC_147 mwC_148 mwC_149 mwC_150 mwC_151 mwC_152 mwC_153 mwC_154 mwC_155 mwC_156 rfl (by decide +kernel) rfl rfl ⟨(show 300 + 5 * d + 1 ≤ 303 + 5 * d by omega), (show 8 + (5 + 11) + (6000 + 200 * d) ≤ 6120 + 200 * d by omega)⟩ hK hP hD hG hm3 hk4 rfl hl.1 rfl (Nat.le_of_ble_eq_true rfl) ⟨Nat.le_of_ble_eq_true rfl, Nat.le_of_ble_eq_true rfl⟩ dX8_seek_29) hD hS hA (fun r5 ci5 ai5 al5 H locs h hP hD hS => ?_)
    exact W.iret (v := r5) hx hb hr (fun t ht hW => ⟨⟨_, (ci5, ai5, al5), rfl, h, by rw [ht]; exact hP, cK.moved hW.alike hK, hD⟩, hS.F ht⟩) hS.2.2 dX8_seek_32
  · have h := h.2 c_1
    refine lv_aload_n hx hb dX8_seek_4 rfl (lv_at hl 0 rfl) ?_
    refine c_get (C := RX8) (T := TX8) (N := 9) (K := 7) (v := .int (ci q 6)) hx hb hts hinX8 hown hK hP hq hk (by decide) rfl 6 (by decide) (hts _ mwC_171) (fun _ h9 => h9) rfl dX8_seek_5 ?_
    refine lv_iconst (v := (-1)) hx hb dX8_seek_8 (by decide) ?_
    refine lv_icmp_eq (tgt := 19) hx hb dX8_seek_9 (by decide) (fun c_9 => ?_) (fun c_9 => ?_)
    · have h := h.1 c_9
      refine lv_aload_n hx hb dX8_seek_19 rfl (lv_at hl 0 rfl) ?_
      obtain ⟨q6, e7, h⟩ := h
      refine c_get (C := RX8) (T := TX8) (N := 9) (K := 7) (v := .ref q6) hx hb hts hinX8 hown hK hP hq hk (by decide) rfl 5 (by decide) (hts _ mwC_35) (fun _ h9 => h9) (by show some (va_rf (sR sh q 5)) = _; rw [e7]; rfl) dX8_seek_20 ?_
      refine lv_aload_n hx hb dX8_seek_23 rfl (lv_at hl 0 rfl) ?_
      refine c_get (C := RX8) (T := TX8) (N := 9) (K := 7) (v := .int (ci q 8)) hx hb hts hinX8 hown hK hP hq hk (by decide) rfl 8 (by decide) (hts _ mwC_39) (fun _ h9 => h9) rfl dX8_seek_24 ?_
      refine lv_iload_n hx hb dX8_seek_27 rfl (lv_at hl 1 rfl) ?_
      refine lv_iadd hx hb dX8_seek_28 ?_
      obtain ⟨⟨hm8, hk9⟩, h⟩ := h
      refine c_endi (c_runZ (rm := ({ frames := 300 + 5 * d, cells := 0, slots := 0, locals := 6000 + 200 * d })) (y := yX5_reach) (x := ⟨"NeededLists$LazyList", "reach", "(I)I"⟩) (n := 1) (bytes := cX5_reach) (maxL := 5) (ret := (some .int)) (q := q6) (As := [.int ((ci q 8) + p0)]) (rest := []) ⟨hx, hb, hml, hown, hts⟩ (hGr _ _ _ q6 ((ci q 8) + p0) _ h H.size) mwC_157 mwC_145 mwC_146 mwC_22 mwC_147 mwC_148 mwC_149 mwC_150 mwC_151 mwC_152 mwC_153 mwC_154 mwC_155 mwC_156 rfl (by decide +kernel) rfl rfl ⟨(show 300 + 5 * d + 1 ≤ 303 + 5 * d by omega), (show 8 + (5 + 11) + (6000 + 200 * d) ≤ 6120 + 200 * d by omega)⟩ hK hP hD hG hm8 hk9 rfl hl.1 rfl (Nat.le_of_ble_eq_true rfl) ⟨Nat.le_of_ble_eq_true rfl, Nat.le_of_ble_eq_true rfl⟩ dX8_seek_29) hD hS hA (fun r10 ci10 ai10 al10 H locs h hP hD hS => ?_)
      exact W.iret (v := r10) hx hb hr (fun t ht hW => ⟨⟨_, (ci10, ai10, al10), rfl, h, by rw [ht]; exact hP, cK.moved hW.alike hK, hD⟩, hS.F ht⟩) hS.2.2 dX8_seek_32
    · have h := h.2 c_9
      refine lv_aload_n hx hb dX8_seek_12 rfl (lv_at hl 0 rfl) ?_
      refine c_endi (va_runV (rm := ({ frames := 302 + 5 * d, cells := 0, slots := 0, locals := 6080 + 200 * d })) (As := []) (rest := []) ⟨hx, hb, hml, hown, hts⟩ (p_X8_findStart l dC dI sh d hGr hGw _ _ _ q  _ h H.size) (cwV 0 hts (g_V gdC mwC_221 mwC_222 mwC_223 mwC_62 mwC_224) rfl rfl rfl hd_X8_findStart ⟨(show 302 + 5 * d + 1 ≤ 303 + 5 * d by omega), (show 8 + (4 + 11) + (6080 + 200 * d) ≤ 6120 + 200 * d by omega)⟩) (c_preV (vc := (RX8, TX8, 9)) hK hP hD hG hq hk (by decide) rfl) rfl rfl hl.1 rfl (lv_room (Nat.le_of_ble_eq_true rfl)) dX8_seek_13 ⟨Nat.le_of_ble_eq_true rfl, Nat.le_of_ble_eq_true rfl⟩) hD hS hA (fun r11 ci11 ai11 al11 H locs h hP hD hS => ?_)
      refine lv_goto (tgt := 32) hx hb dX8_seek_16 (by decide) ?_
      exact W.iret (v := r11) hx hb hr (fun t ht hW => ⟨⟨_, (ci11, ai11, al11), rfl, h, by rw [ht]; exact hP, cK.moved hW.alike hK, hD⟩, hS.F ht⟩) hS.2.2 dX8_seek_32

abbrev wmX9_seek : List Cond := .code yX9_seek cX9_seek 3 (some .int) :: WC
theorem hd_X9_seek : yX9_seek.cls = RX9 ∧ yX9_seek.cls ≠ "java/lang/invoke/MethodHandle" ∧ yX9_seek.cls ≠ "java/lang/invoke/VarHandle" ∧ (parseMethodDescriptor yX9_seek.desc).map (fun d => d.parameters.length) = some 1 := by decide +kernel
def P_X9_seek (sh : Sh) (Gr Gw : (Nat → Nat → Int32) → (Nat → Nat → Int32) → (Nat → Nat → Int64) → Nat → Int32 → (Int32 → (Nat → Nat → Int32) → (Nat → Nat → Int32) → (Nat → Nat → Int64) → Prop) → Prop) (ci : Nat → Nat → Int32) (ai : Nat → Nat → Int32) (al : Nat → Nat → Int64) (q : Nat) (p0 : Int32) (Q : Int32 → (Nat → Nat → Int32) → (Nat → Nat → Int32) → (Nat → Nat → Int64) → Prop) : Prop := (q ∈ sL sh ∧ sK sh q = 8) ∧ ((¬ p0 = 0) → (((p0 < 0) → (Q 3 ci ai al)) ∧ ((¬ p0 < 0) → (∃ q1 : Nat, sR sh q 6 = some q1 ∧ (q1 ∈ sL sh ∧ sK sh q1 = 20) ∧ ((p0 < (nI (sN sh q1))) → (vp_in (p0 - 1) (sN sh q1) ∧ P_X9_lookThrough sh Gr Gw ci ai al q (ai q1 (p0 - 1).toNatClampNeg) (fun r6 ci6 ai6 al6 => vp_in p0 (sN sh q1) ∧ Q r6 ci6 (va_up ai6 q1 (upd (ai6 q1) p0.toNatClampNeg (ci6 q 7))) al6))) ∧ ((¬ p0 < (nI (sN sh q1))) → (Q 3 ci ai al)))))) ∧ ((p0 = 0) → (∃ q8 : Nat, sR sh q 5 = some q8 ∧ (q8 ∈ sL sh ∧ isZ (sK sh q8)) ∧ Gr ci ai al q8 0 (fun r12 ci12 ai12 al12 => Q r12 ci12 ai12 al12)))
set_option maxHeartbeats 4000000 in
set_option maxRecDepth 100000 in
theorem p_X9_seek (l : Launch) (dC : Nat → ClassId) (dI : Nat → Nat → Nat) (sh : Sh) (d : Nat) {Gr Gw : (Nat → Nat → Int32) → (Nat → Nat → Int32) → (Nat → Nat → Int64) → Nat → Int32 → (Int32 → (Nat → Nat → Int32) → (Nat → Nat → Int32) → (Nat → Nat → Int64) → Prop) → Prop} (hGr : GM l dC dI sh yX5_reach wmX5_reach ({ frames := 300 + 5 * d, cells := 0, slots := 0, locals := 6000 + 200 * d }) Gr) (hGw : GM l dC dI sh yX5_work wmX5_work ({ frames := 300 + 5 * d, cells := 0, slots := 0, locals := 6000 + 200 * d }) Gw) (ci : Nat → Nat → Int32) (ai : Nat → Nat → Int32) (al : Nat → Nat → Int64) (q : Nat) (p0 : Int32) (Q : Int32 → (Nat → Nat → Int32) → (Nat → Nat → Int32) → (Nat → Nat → Int64) → Prop) (h : P_X9_seek sh Gr Gw ci ai al q p0 Q) (sz : Nat) : Met l yX9_seek wmX9_seek ({ frames := 303 + 5 * d, cells := 0, slots := 0, locals := 6120 + 200 * d }) (va_Pc [.ref q, .int p0] (cPre dC dI sh ci ai al sz)) (va_Qi (S := CSt) (cI Q) (cB dC dI sh (va_A (cW sh ci ai al) sz)) (va_A (cW sh ci ai al) sz)) 0 0 (va_A (cW sh ci ai al) sz) := by
  refine Met.ofW (cc := cX9_seek) (maxL := 3) (ret := (some .int)) (by decide) rfl ?_
  intro p e s m args below meth c s₁ B hml hv
  obtain ⟨rfl, hsz, hP, hK, hD0, hG⟩ := hv
  have hx := B.exec
  have hb := B.bytes
  have hr := B.returns
  have hts : ∀ w ∈ WC, w.before _ s = true := fun w h => atoms_spec (ws := wmX9_seek) B.pre w (List.mem_cons_of_mem _ h)
  have hown : s.vm.findClass RX9 = some m.cls := findClass_of_methodNamed B.named
  have hlocks := B.notSynchronized
  subst hsz
  have hD := hD0.self (sz := s.heap.size)
  generalize hAe : va_A (cW sh ci ai al) s.heap.size = A at hD ⊢
  have hA : ∀ q : Nat, s.heap.size ≤ q → A q := fun q h => by rw [← hAe]; exact Or.inr h
  generalize hH : s.heap = H at hP ⊢
  have hS : va_S A s.heap H [] := by rw [← hH]; exact va_S.rf
  have hl := lv_entry [.ref q, .int p0] (n := 3) (Nat.le_of_ble_eq_true rfl)
  rw [lg_entry_eq]
  generalize (lg_sl [.ref q, .int p0] ++ List.replicate (3 - (lg_sl [.ref q, .int p0]).length) Slot.unset).toArray = ls at hl ⊢
  have hl : lv_has ls 3 [(0, .ref q), (1, .int p0)] := hl
  unfold P_X9_seek at h
  obtain ⟨⟨hq, hk⟩, h⟩ := h
  refine lv_iload_n hx hb dX9_seek_0 rfl (lv_at hl 1 rfl) ?_
  refine lv_if_ne (tgt := 13) hx hb dX9_seek_1 (by decide) (fun c_1 => ?_) (fun c_1 => ?_)
  · have h := h.1 c_1
    refine lv_iload_n hx hb dX9_seek_13 rfl (lv_at hl 1 rfl) ?_
    refine lv_if_lt (tgt := 26) hx hb dX9_seek_14 (by decide) (fun c_14 => ?_) (fun c_14 => ?_)
    · have h := h.1 c_14
      refine lv_iconst (v := 3) hx hb dX9_seek_26 (by decide) ?_
      exact W.iret (v := 3) hx hb hr (fun t ht hW => ⟨⟨_, (ci, ai, al), rfl, h, by rw [ht]; exact hP, cK.moved hW.alike hK, hD⟩, hS.F ht⟩) hS.2.2 dX9_seek_27
    · have h := h.2 c_14
      refine lv_iload_n hx hb dX9_seek_17 rfl (lv_at hl 1 rfl) ?_
      refine lv_aload_n hx hb dX9_seek_18 rfl (lv_at hl 0 rfl) ?_
      obtain ⟨q1, e2, h⟩ := h
      refine c_get (C := RX9) (T := TX9) (N := 8) (K := 8) (v := .ref q1) hx hb hts hinX9 hown hK hP hq hk (by decide) rfl 6 (by decide) (hts _ mwC_225) (fun _ h9 => h9) (by show some (va_rf (sR sh q 6)) = _; rw [e2]; rfl) dX9_seek_19 ?_
      obtain ⟨⟨hm3, hk4⟩, h⟩ := h
      refine c_alen hx hb hK hP hm3 (Or.inl hk4) dX9_seek_22 ?_
      refine lv_icmp_lt (tgt := 28) hx hb dX9_seek_23 (by decide) (fun c_23 => ?_) (fun c_23 => ?_)
      · have h := h.1 c_23
        refine lv_aload_n hx hb dX9_seek_28 rfl (lv_at hl 0 rfl) ?_
        refine lv_aload_n hx hb dX9_seek_29 rfl (lv_at hl 0 rfl) ?_
        refine c_get (C := RX9) (T := TX9) (N := 8) (K := 8) (v := .ref q1) hx hb hts hinX9 hown hK hP hq hk (by decide) rfl 6 (by decide) (hts _ mwC_225) (fun _ h9 => h9) (by show some (va_rf (sR sh q 6)) = _; rw [e2]; rfl) dX9_seek_30 ?_
        refine lv_iload_n hx hb dX9_seek_33 rfl (lv_at hl 1 rfl) ?_
        refine lv_iconst (v := 1) hx hb dX9_seek_34 (by decide) ?_
        refine lv_isub hx hb dX9_seek_35 ?_
        obtain ⟨hi5, h⟩ := h
        refine c_iald hx hb hK hP hm3 hk4 hi5 dX9_seek_36 ?_
        refine c_endi (va_runV (rm := ({ frames := 302 + 5 * d, cells := 0, slots := 0, locals := 6080 + 200 * d })) (As := [.int (ai q1 (p0 - 1).toNatClampNeg)]) (rest := []) ⟨hx, hb, hml, hown, hts⟩ (p_X9_lookThrough l dC dI sh d hGr hGw _ _ _ q (ai q1 (p0 - 1).toNatClampNeg) _ h H.size) (cwV 1 hts (g_V gdC mwC_226 mwC_227 mwC_228 mwC_229 mwC_230) rfl rfl rfl hd_X9_lookThrough ⟨(show 302 + 5 * d + 1 ≤ 303 + 5 * d by omega), (show 8 + (7 + 11) + (6080 + 200 * d) ≤ 6120 + 200 * d by omega)⟩) (c_preV (vc := (RX9, TX9, 8)) hK hP hD hG hq hk (by decide) rfl) rfl rfl hl.1 rfl (lv_room (Nat.le_of_ble_eq_true rfl)) dX9_seek_37 ⟨Nat.le_of_ble_eq_true rfl, Nat.le_of_ble_eq_true rfl⟩) hD hS hA (fun r6 ci6 ai6 al6 H locs h hP hD hS => ?_)
        refine lv_istore_n (lv' := [(2, .int r6), (0, .ref q), (1, .int p0)]) hx hb dX9_seek_40 rfl hl (by decide) rfl (fun ls hl => ?_)
        refine lv_aload_n hx hb dX9_seek_41 rfl (lv_at hl 1 rfl) ?_
        refine c_get (C := RX9) (T := TX9) (N := 8) (K := 8) (v := .ref q1) hx hb hts hinX9 hown hK hP hq hk (by decide) rfl 6 (by decide) (hts _ mwC_225) (fun _ h9 => h9) (by show some (va_rf (sR sh q 6)) = _; rw [e2]; rfl) dX9_seek_42 ?_
        refine lv_iload_n hx hb dX9_seek_45 rfl (lv_at hl 2 rfl) ?_
        refine lv_aload_n hx hb dX9_seek_46 rfl (lv_at hl 1 rfl) ?_
        refine c_get (C := RX9) (T := TX9) (N := 8) (K := 8) (v := .int (ci6 q 7)) hx hb hts hinX9 hown hK hP hq hk (by decide) rfl 7 (by decide) (hts _ mwC_177) (fun _ h9 => h9) rfl dX9_seek_47 ?_
        obtain ⟨hi7, h⟩ := h
        refine c_iast hx hb hK hP hD hS hm3 hk4 hi7 dX9_seek_50 (fun H locs hP hD hS => ?_)
        refine lv_iload_n hx hb dX9_seek_51 rfl (lv_at hl 0 rfl) ?_
        exact W.iret (v := r6) hx hb hr (fun t ht hW => ⟨⟨_, (ci6, va_up ai6 q1 (upd (ai6 q1) p0.toNatClampNeg (ci6 q 7)), al6), rfl, h, by rw [ht]; exact hP, cK.moved hW.alike hK, hD⟩, hS.F ht⟩) hS.2.2 dX9_seek_52
      · have h := h.2 c_23
        refine lv_iconst (v := 3) hx hb dX9_seek_26 (by decide) ?_
        exact W.iret (v := 3) hx hb hr (fun t ht hW => ⟨⟨_, (ci, ai, al), rfl, h, by rw [ht]; exact hP, cK.moved hW.alike hK, hD⟩, hS.F ht⟩) hS.2.2 dX9_seek_27
  · have h := h.2 c_1
    refine lv_aload_n hx hb dX9_seek_4 rfl (lv_at hl 0 rfl) ?_
    obtain ⟨q8, e9, h⟩ := h
    refine c_get (C := RX9) (T := TX9) (N := 8) (K := 8) (v := .ref q8) hx hb hts hinX9 hown hK hP hq hk (by decide) rfl 5 (by decide) (hts _ mwC_174) (fun _ h9 => h9) (by show some (va_rf (sR sh q 5)) = _; rw [e9]; rfl) dX9_seek_5 ?_
    refine lv_iconst (v := 0) hx hb dX9_seek_8 (by decide) ?_
    obtain ⟨⟨hm10, hk11⟩, h⟩ := h
    refine c_endi (c_runZ (rm := ({ frames := 300 + 5 * d, cells := 0, slots := 0, locals := 6000 + 200 * d })) (y := yX5_reach) (x := ⟨"NeededLists$LazyList", "reach", "(I)I"⟩) (n := 1) (bytes := cX5_reach) (maxL := 5) (ret := (some .int)) (q := q8) (As := [.int 0]) (rest := []) ⟨hx, hb, hml, hown, hts⟩ (hGr _ _ _ q8 0 _ h H.size) mwC_178 mwC_145 mwC_146 mwC_22 mwC_147 mwC_148 mwC_149 mwC_150 mwC_151 mwC_152 mwC_153 mwC_154 mwC_155 mwC_156 rfl (by decide +kernel) rfl rfl ⟨(show 300 + 5 * d + 1 ≤ 303 + 5 * d by omega), (show 8 + (5 + 11) + (6000 + 200 * d) ≤ 6120 + 200 * d by omega)⟩ hK hP hD hG hm10 hk11 rfl hl.1 rfl (Nat.le_of_ble_eq_true rfl) ⟨Nat.le_of_ble_eq_true rfl, Nat.le_of_ble_eq_true rfl⟩ dX9_seek_9) hD hS hA (fun r12 ci12 ai12 al12 H locs h hP hD hS => ?_)
    exact W.iret (v := r12) hx hb hr (fun t ht hW => ⟨⟨_, (ci12, ai12, al12), rfl, h, by rw [ht]; exact hP, cK.moved hW.alike hK, hD⟩, hS.F ht⟩) hS.2.2 dX9_seek_12
