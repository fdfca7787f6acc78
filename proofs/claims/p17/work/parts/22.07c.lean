theorem dX1_form_0 : decode cX1_form 0 = .ok (.lconst 0, 1) := by decide +kernel
theorem dX1_form_1 : decode cX1_form 1 = .ok (.lstore_n 2, 1) := by decide +kernel
theorem dX1_form_2 : decode cX1_form 2 = .ok (.aload_n 0, 1) := by decide +kernel
theorem dX1_form_3 : decode cX1_form 3 = .ok (.getfield 18, 3) := by decide +kernel
theorem dX1_form_6 : decode cX1_form 6 = .ok (.bipush 8, 2) := by decide +kernel
theorem dX1_form_8 : decode cX1_form 8 = .ok (.if_icmp .eq 31, 3) := by decide +kernel
theorem dX1_form_11 : decode cX1_form 11 = .ok (.aload_n 0, 1) := by decide +kernel
theorem dX1_form_12 : decode cX1_form 12 = .ok (.getfield 9, 3) := by decide +kernel
theorem dX1_form_15 : decode cX1_form 15 = .ok (.iload_n 1, 1) := by decide +kernel
theorem dX1_form_16 : decode cX1_form 16 = .ok (.invokevirtual 30, 3) := by decide +kernel
theorem dX1_form_19 : decode cX1_form 19 = .ok (.istore 4, 2) := by decide +kernel
theorem dX1_form_21 : decode cX1_form 21 = .ok (.iload 4, 2) := by decide +kernel
theorem dX1_form_23 : decode cX1_form 23 = .ok (.iconst 1, 1) := by decide +kernel
theorem dX1_form_24 : decode cX1_form 24 = .ok (.if_icmp .eq 6, 3) := by decide +kernel
theorem dX1_form_27 : decode cX1_form 27 = .ok (.iload 4, 2) := by decide +kernel
theorem dX1_form_29 : decode cX1_form 29 = .ok (.ireturn, 1) := by decide +kernel
theorem dX1_form_30 : decode cX1_form 30 = .ok (.aload_n 0, 1) := by decide +kernel
theorem dX1_form_31 : decode cX1_form 31 = .ok (.getfield 9, 3) := by decide +kernel
theorem dX1_form_34 : decode cX1_form 34 = .ok (.iload_n 1, 1) := by decide +kernel
theorem dX1_form_35 : decode cX1_form 35 = .ok (.invokevirtual 33, 3) := by decide +kernel
theorem dX1_form_38 : decode cX1_form 38 = .ok (.lstore_n 2, 1) := by decide +kernel
theorem dX1_form_39 : decode cX1_form 39 = .ok (.aload_n 0, 1) := by decide +kernel
theorem dX1_form_40 : decode cX1_form 40 = .ok (.getfield 22, 3) := by decide +kernel
theorem dX1_form_43 : decode cX1_form 43 = .ok (.lstore 4, 2) := by decide +kernel
theorem dX1_form_45 : decode cX1_form 45 = .ok (.aload_n 0, 1) := by decide +kernel
theorem dX1_form_46 : decode cX1_form 46 = .ok (.getfield 18, 3) := by decide +kernel
theorem dX1_form_49 : decode cX1_form 49 = .ok (.bipush 7, 2) := by decide +kernel
theorem dX1_form_51 : decode cX1_form 51 = .ok (.if_icmp .eq 39, 3) := by decide +kernel
theorem dX1_form_54 : decode cX1_form 54 = .ok (.aload_n 0, 1) := by decide +kernel
theorem dX1_form_55 : decode cX1_form 55 = .ok (.getfield 15, 3) := by decide +kernel
theorem dX1_form_58 : decode cX1_form 58 = .ok (.ifnull 32, 3) := by decide +kernel
theorem dX1_form_61 : decode cX1_form 61 = .ok (.aload_n 0, 1) := by decide +kernel
theorem dX1_form_62 : decode cX1_form 62 = .ok (.getfield 15, 3) := by decide +kernel
theorem dX1_form_65 : decode cX1_form 65 = .ok (.iload_n 1, 1) := by decide +kernel
theorem dX1_form_66 : decode cX1_form 66 = .ok (.invokevirtual 30, 3) := by decide +kernel
theorem dX1_form_69 : decode cX1_form 69 = .ok (.istore 6, 2) := by decide +kernel
theorem dX1_form_71 : decode cX1_form 71 = .ok (.iload 6, 2) := by decide +kernel
theorem dX1_form_73 : decode cX1_form 73 = .ok (.iconst 1, 1) := by decide +kernel
theorem dX1_form_74 : decode cX1_form 74 = .ok (.if_icmp .eq 6, 3) := by decide +kernel
theorem dX1_form_77 : decode cX1_form 77 = .ok (.iload 6, 2) := by decide +kernel
theorem dX1_form_79 : decode cX1_form 79 = .ok (.ireturn, 1) := by decide +kernel
theorem dX1_form_80 : decode cX1_form 80 = .ok (.aload_n 0, 1) := by decide +kernel
theorem dX1_form_81 : decode cX1_form 81 = .ok (.getfield 15, 3) := by decide +kernel
theorem dX1_form_84 : decode cX1_form 84 = .ok (.iload_n 1, 1) := by decide +kernel
theorem dX1_form_85 : decode cX1_form 85 = .ok (.invokevirtual 33, 3) := by decide +kernel
theorem dX1_form_88 : decode cX1_form 88 = .ok (.lstore 4, 2) := by decide +kernel
theorem dX1_form_90 : decode cX1_form 90 = .ok (.aload_n 0, 1) := by decide +kernel
theorem dX1_form_91 : decode cX1_form 91 = .ok (.iload_n 1, 1) := by decide +kernel
theorem dX1_form_92 : decode cX1_form 92 = .ok (.aload_n 0, 1) := by decide +kernel
theorem dX1_form_93 : decode cX1_form 93 = .ok (.getfield 18, 3) := by decide +kernel
theorem dX1_form_96 : decode cX1_form 96 = .ok (.lload_n 2, 1) := by decide +kernel
theorem dX1_form_97 : decode cX1_form 97 = .ok (.lload 4, 2) := by decide +kernel
theorem dX1_form_99 : decode cX1_form 99 = .ok (.invokevirtual 37, 3) := by decide +kernel
theorem dX1_form_102 : decode cX1_form 102 = .ok (.ireturn, 1) := by decide +kernel
theorem dX3_form_0 : decode cX3_form 0 = .ok (.iload_n 1, 1) := by decide +kernel
theorem dX3_form_1 : decode cX3_form 1 = .ok (.ifCond .lt 21, 3) := by decide +kernel
theorem dX3_form_4 : decode cX3_form 4 = .ok (.iload_n 1, 1) := by decide +kernel
theorem dX3_form_5 : decode cX3_form 5 = .ok (.aload_n 0, 1) := by decide +kernel
theorem dX3_form_6 : decode cX3_form 6 = .ok (.getfield 9, 3) := by decide +kernel
theorem dX3_form_9 : decode cX3_form 9 = .ok (.arraylength, 1) := by decide +kernel
theorem dX3_form_10 : decode cX3_form 10 = .ok (.if_icmp .ge 12, 3) := by decide +kernel
theorem dX3_form_13 : decode cX3_form 13 = .ok (.aload_n 0, 1) := by decide +kernel
theorem dX3_form_14 : decode cX3_form 14 = .ok (.getfield 9, 3) := by decide +kernel
theorem dX3_form_17 : decode cX3_form 17 = .ok (.iload_n 1, 1) := by decide +kernel
theorem dX3_form_18 : decode cX3_form 18 = .ok (.baload, 1) := by decide +kernel
theorem dX3_form_19 : decode cX3_form 19 = .ok (.goto 4, 3) := by decide +kernel
theorem dX3_form_22 : decode cX3_form 22 = .ok (.iconst 3, 1) := by decide +kernel
theorem dX3_form_23 : decode cX3_form 23 = .ok (.ireturn, 1) := by decide +kernel
theorem dX9_form_0 : decode cX9_form 0 = .ok (.iload_n 1, 1) := by decide +kernel
theorem dX9_form_1 : decode cX9_form 1 = .ok (.ifCond .lt 12, 3) := by decide +kernel
theorem dX9_form_4 : decode cX9_form 4 = .ok (.iload_n 1, 1) := by decide +kernel
theorem dX9_form_5 : decode cX9_form 5 = .ok (.aload_n 0, 1) := by decide +kernel
theorem dX9_form_6 : decode cX9_form 6 = .ok (.getfield 15, 3) := by decide +kernel
theorem dX9_form_9 : decode cX9_form 9 = .ok (.arraylength, 1) := by decide +kernel
theorem dX9_form_10 : decode cX9_form 10 = .ok (.if_icmp .lt 5, 3) := by decide +kernel
theorem dX9_form_13 : decode cX9_form 13 = .ok (.iconst 3, 1) := by decide +kernel
theorem dX9_form_14 : decode cX9_form 14 = .ok (.ireturn, 1) := by decide +kernel
theorem dX9_form_15 : decode cX9_form 15 = .ok (.aload_n 0, 1) := by decide +kernel
theorem dX9_form_16 : decode cX9_form 16 = .ok (.aload_n 0, 1) := by decide +kernel
theorem dX9_form_17 : decode cX9_form 17 = .ok (.getfield 15, 3) := by decide +kernel
theorem dX9_form_20 : decode cX9_form 20 = .ok (.iload_n 1, 1) := by decide +kernel
theorem dX9_form_21 : decode cX9_form 21 = .ok (.iaload, 1) := by decide +kernel
theorem dX9_form_22 : decode cX9_form 22 = .ok (.invokevirtual 23, 3) := by decide +kernel
theorem dX9_form_25 : decode cX9_form 25 = .ok (.istore_n 2, 1) := by decide +kernel
theorem dX9_form_26 : decode cX9_form 26 = .ok (.iload_n 2, 1) := by decide +kernel
theorem dX9_form_27 : decode cX9_form 27 = .ok (.iconst 1, 1) := by decide +kernel
theorem dX9_form_28 : decode cX9_form 28 = .ok (.if_icmp .eq 8, 3) := by decide +kernel
theorem dX9_form_31 : decode cX9_form 31 = .ok (.iload_n 2, 1) := by decide +kernel
theorem dX9_form_32 : decode cX9_form 32 = .ok (.iconst 2, 1) := by decide +kernel
theorem dX9_form_33 : decode cX9_form 33 = .ok (.if_icmp .ne 23, 3) := by decide +kernel
theorem dX9_form_36 : decode cX9_form 36 = .ok (.aload_n 0, 1) := by decide +kernel
theorem dX9_form_37 : decode cX9_form 37 = .ok (.iload_n 1, 1) := by decide +kernel
theorem dX9_form_38 : decode cX9_form 38 = .ok (.aload_n 0, 1) := by decide +kernel
theorem dX9_form_39 : decode cX9_form 39 = .ok (.getfield 26, 3) := by decide +kernel
theorem dX9_form_42 : decode cX9_form 42 = .ok (.aload_n 0, 1) := by decide +kernel
theorem dX9_form_43 : decode cX9_form 43 = .ok (.getfield 15, 3) := by decide +kernel
theorem dX9_form_46 : decode cX9_form 46 = .ok (.iload_n 1, 1) := by decide +kernel
theorem dX9_form_47 : decode cX9_form 47 = .ok (.iaload, 1) := by decide +kernel
theorem dX9_form_48 : decode cX9_form 48 = .ok (.isub, 1) := by decide +kernel
theorem dX9_form_49 : decode cX9_form 49 = .ok (.i2l, 1) := by decide +kernel
theorem dX9_form_50 : decode cX9_form 50 = .ok (.invokevirtual 30, 3) := by decide +kernel
theorem dX9_form_53 : decode cX9_form 53 = .ok (.goto 4, 3) := by decide +kernel
theorem dX9_form_56 : decode cX9_form 56 = .ok (.iload_n 2, 1) := by decide +kernel
theorem dX9_form_57 : decode cX9_form 57 = .ok (.ireturn, 1) := by decide +kernel
abbrev wmX1_form : List Cond := .code yX1_form cX1_form 7 (some .int) :: WC
theorem hd_X1_form : yX1_form.cls = RX1 ∧ yX1_form.cls ≠ "java/lang/invoke/MethodHandle" ∧ yX1_form.cls ≠ "java/lang/invoke/VarHandle" ∧ (parseMethodDescriptor yX1_form.desc).map (fun d => d.parameters.length) = some 1 := by decide +kernel
def P_X1_form (sh : Sh) (Gr Gw : (Nat → Nat → Int32) → (Nat → Nat → Int32) → (Nat → Nat → Int64) → Nat → Int32 → (Int32 → (Nat → Nat → Int32) → (Nat → Nat → Int32) → (Nat → Nat → Int64) → Prop) → Prop) (ci : Nat → Nat → Int32) (ai : Nat → Nat → Int32) (al : Nat → Nat → Int64) (q : Nat) (p0 : Int32) (Q : Int32 → (Nat → Nat → Int32) → (Nat → Nat → Int32) → (Nat → Nat → Int64) → Prop) : Prop := (q ∈ sL sh ∧ sK sh q = 1) ∧ (((ci q 7) = 8) → ((sR sh q 6 = none → (P_X5_tellOp sh ci ai al q p0 (ci q 7) 0 (sJ sh q 8) (fun r3 ci3 ai3 al3 => Q r3 ci3 ai3 al3))) ∧ (∀ q1 : Nat, sR sh q 6 = some q1 → ((q1 ∈ sL sh ∧ isZ (sK sh q1)) ∧ Gw ci ai al q1 p0 (fun r6 ci6 ai6 al6 => ((r6 = 1) → (P_X5_number_f sh 30 ci6 ai6 al6 q1 p0 (fun r7 => P_X5_tellOp sh ci6 ai6 al6 q p0 (ci6 q 7) 0 r7 (fun r8 ci8 ai8 al8 => Q r8 ci8 ai8 al8)))) ∧ ((¬ r6 = 1) → (Q r6 ci6 ai6 al6))))))) ∧ ((¬ (ci q 7) = 8) → (∃ q9 : Nat, sR sh q 5 = some q9 ∧ (q9 ∈ sL sh ∧ isZ (sK sh q9)) ∧ Gw ci ai al q9 p0 (fun r13 ci13 ai13 al13 => ((r13 = 1) → (P_X5_number_f sh 30 ci13 ai13 al13 q9 p0 (fun r14 => (((ci13 q 7) = 7) → (P_X5_tellOp sh ci13 ai13 al13 q p0 (ci13 q 7) r14 (sJ sh q 8) (fun r15 ci15 ai15 al15 => Q r15 ci15 ai15 al15))) ∧ ((¬ (ci13 q 7) = 7) → ((sR sh q 6 = none → (P_X5_tellOp sh ci13 ai13 al13 q p0 (ci13 q 7) r14 (sJ sh q 8) (fun r18 ci18 ai18 al18 => Q r18 ci18 ai18 al18))) ∧ (∀ q16 : Nat, sR sh q 6 = some q16 → ((q16 ∈ sL sh ∧ isZ (sK sh q16)) ∧ Gw ci13 ai13 al13 q16 p0 (fun r21 ci21 ai21 al21 => ((r21 = 1) → (P_X5_number_f sh 30 ci21 ai21 al21 q16 p0 (fun r22 => P_X5_tellOp sh ci21 ai21 al21 q p0 (ci21 q 7) r14 r22 (fun r23 ci23 ai23 al23 => Q r23 ci23 ai23 al23)))) ∧ ((¬ r21 = 1) → (Q r21 ci21 ai21 al21)))))))))) ∧ ((¬ r13 = 1) → (Q r13 ci13 ai13 al13)))))
set_option maxHeartbeats 4000000 in
set_option maxRecDepth 100000 in
theorem p_X1_form (l : Launch) (dC : Nat → ClassId) (dI : Nat → Nat → Nat) (sh : Sh) (d : Nat) {Gr Gw : (Nat → Nat → Int32) → (Nat → Nat → Int32) → (Nat → Nat → Int64) → Nat → Int32 → (Int32 → (Nat → Nat → Int32) → (Nat → Nat → Int32) → (Nat → Nat → Int64) → Prop) → Prop} (hGr : GM l dC dI sh yX5_reach wmX5_reach ({ frames := 300 + 5 * d, cells := 0, slots := 0, locals := 6000 + 200 * d }) Gr) (hGw : GM l dC dI sh yX5_work wmX5_work ({ frames := 300 + 5 * d, cells := 0, slots := 0, locals := 6000 + 200 * d }) Gw) (ci : Nat → Nat → Int32) (ai : Nat → Nat → Int32) (al : Nat → Nat → Int64) (q : Nat) (p0 : Int32) (Q : Int32 → (Nat → Nat → Int32) → (Nat → Nat → Int32) → (Nat → Nat → Int64) → Prop) (h : P_X1_form sh Gr Gw ci ai al q p0 Q) (sz : Nat) : Met l yX1_form wmX1_form ({ frames := 303 + 5 * d, cells := 0, slots := 0, locals := 6120 + 200 * d }) (va_Pc [.ref q, .int p0] (cPre dC dI sh ci ai al sz)) (va_Qi (S := CSt) (cI Q) (cB dC dI sh (va_A (cW sh ci ai al) sz)) (va_A (cW sh ci ai al) sz)) 0 0 (va_A (cW sh ci ai al) sz) := by
  refine Met.ofW (cc := cX1_form) (maxL := 7) (ret := (some .int)) (by decide) rfl ?_
  intro p e s m args below meth c s₁ B hml hv
  obtain ⟨rfl, hsz, hP, hK, hD0, hG⟩ := hv
  have hx := B.exec
  have hb := B.bytes
  have hr := B.returns
  have hts : ∀ w ∈ WC, w.before _ s = true := fun w h => atoms_spec (ws := wmX1_form) B.pre w (List.mem_cons_of_mem _ h)
  have hown : s.vm.findClass RX1 = some m.cls := findClass_of_methodNamed B.named
  have hlocks := B.notSynchronized
  subst hsz
  have hD := hD0.self (sz := s.heap.size)
  generalize hAe : va_A (cW sh ci ai al) s.heap.size = A at hD ⊢
  have hA : ∀ q : Nat, s.heap.size ≤ q → A q := fun q h => by rw [← hAe]; exact Or.inr h
  generalize hH : s.heap = H at hP ⊢
  have hS : va_S A s.heap H [] := by rw [← hH]; exact va_S.rf
  have hl := lv_entry [.ref q, .int p0] (n := 7) (Nat.le_of_ble_eq_true rfl)
  rw [lg_entry_eq]
  generalize (lg_sl [.ref q, .int p0] ++ List.replicate (7 - (lg_sl [.ref q, .int p0]).length) Slot.unset).toArray = ls at hl ⊢
  have hl : lv_has ls 7 [(0, .ref q), (1, .int p0)] := hl
  unfold P_X1_form at h
  obtain ⟨⟨hq, hk⟩, h⟩ := h
  refine lv_lconst (v := 0) hx hb dX1_form_0 (by decide) ?_
  refine lv_lstore_n (lv' := [(2, .long 0), (0, .ref q), (1, .int p0)]) hx hb dX1_form_1 rfl hl (by decide) rfl (fun ls hl => ?_)
  refine lv_aload_n hx hb dX1_form_2 rfl (lv_at hl 1 rfl) ?_
  refine c_get (C := RX1) (T := TX1) (N := 9) (K := 1) (v := .int (ci q 7)) hx hb hts hinX1 hown hK hP hq hk (by decide) rfl 7 (by decide) (hts _ mwC_259) (fun _ h9 => h9) rfl dX1_form_3 ?_
  refine lv_bipush (v := 8) hx hb dX1_form_6 (by decide) ?_
  refine lv_icmp_eq (tgt := 39) hx hb dX1_form_8 (by decide) (fun c_8 => ?_) (fun c_8 => ?_)
  · have h := h.1 c_8
    refine lv_aload_n hx hb dX1_form_39 rfl (lv_at hl 1 rfl) ?_
    refine c_get (C := RX1) (T := TX1) (N := 9) (K := 1) (v := .long (sJ sh q 8)) hx hb hts hinX1 hown hK hP hq hk (by decide) rfl 8 (by decide) (hts _ mwC_260) (fun _ h9 => h9) rfl dX1_form_40 ?_
    refine lv_lstore (lv' := [(4, .long (sJ sh q 8)), (2, .long 0), (0, .ref q), (1, .int p0)]) hx hb dX1_form_43 hl (by decide) rfl (fun ls hl => ?_)
    refine lv_aload_n hx hb dX1_form_45 rfl (lv_at hl 2 rfl) ?_
    refine c_get (C := RX1) (T := TX1) (N := 9) (K := 1) (v := .int (ci q 7)) hx hb hts hinX1 hown hK hP hq hk (by decide) rfl 7 (by decide) (hts _ mwC_259) (fun _ h9 => h9) rfl dX1_form_46 ?_
    refine lv_bipush (v := 7) hx hb dX1_form_49 (by decide) ?_
    refine lv_icmp_eq (tgt := 90) hx hb dX1_form_51 (by decide) (fun c_51 => ?_) (fun c_51 => ?_)
    · exact absurd (c_8.symm.trans c_51) (by decide)
    · refine lv_aload_n hx hb dX1_form_54 rfl (lv_at hl 2 rfl) ?_
      rcases e2 : sR sh q 6 with _ | q1
      · have h := h.1 e2
        refine c_get (C := RX1) (T := TX1) (N := 9) (K := 1) (v := .null) hx hb hts hinX1 hown hK hP hq hk (by decide) rfl 6 (by decide) (hts _ mwC_194) (fun _ h9 => h9) (by show some (va_rf (sR sh q 6)) = _; rw [e2]; rfl) dX1_form_55 ?_
        refine lv_ifnullN (tgt := 90) hx hb dX1_form_58 (by decide) ?_
        refine lv_aload_n hx hb dX1_form_90 rfl (lv_at hl 2 rfl) ?_
        refine lv_iload_n hx hb dX1_form_91 rfl (lv_at hl 3 rfl) ?_
        refine lv_aload_n hx hb dX1_form_92 rfl (lv_at hl 2 rfl) ?_
        refine c_get (C := RX1) (T := TX1) (N := 9) (K := 1) (v := .int (ci q 7)) hx hb hts hinX1 hown hK hP hq hk (by decide) rfl 7 (by decide) (hts _ mwC_259) (fun _ h9 => h9) rfl dX1_form_93 ?_
        refine lv_lload_n hx hb dX1_form_96 rfl (lv_at hl 1 rfl) ?_
        refine lv_lload hx hb dX1_form_97 (lv_at hl 0 rfl) ?_
        refine c_endi (va_runU (C := RX1) (owner := "NeededLists$LazyList") (rm := ({ frames := 40, cells := 0, slots := 0, locals := 600 })) (As := [.int p0, .int (ci q 7), .long 0, .long (sJ sh q 8)]) (rest := []) ⟨hx, hb, hml, hown, hts⟩ (p_X5_tellOp l dC dI sh _ _ _ q p0 (ci q 7) 0 (sJ sh q 8) _ h H.size) (va_cwU (x := ⟨"NeededLists$Combined", "tellOp", "(IIJJ)I"⟩) 4 hts (g_U gdC mwC_261 mwC_262 mwC_263 mwC_243 mwC_22 mwC_244) rfl rfl rfl rfl ⟨by decide, by decide, by decide +kernel⟩ ⟨(show 40 + 1 ≤ 303 + 5 * d by omega), (show 8 + (7 + 11) + (600) ≤ 6120 + 200 * d by omega)⟩) (c_preV (vc := (RX1, TX1, 9)) hK hP hD hG hq hk (by decide) rfl) rfl rfl hl.1 rfl (lv_room (Nat.le_of_ble_eq_true rfl)) dX1_form_99 ⟨Nat.le_of_ble_eq_true rfl, Nat.le_of_ble_eq_true rfl⟩) hD hS hA (fun r3 ci3 ai3 al3 H locs h hP hD hS => ?_)
        exact W.iret (v := r3) hx hb hr (fun t ht hW => ⟨⟨_, (ci3, ai3, al3), rfl, h, by rw [ht]; exact hP, cK.moved hW.alike hK, hD⟩, hS.F ht⟩) hS.2.2 dX1_form_102
      · have h := h.2 q1 e2
        refine c_get (C := RX1) (T := TX1) (N := 9) (K := 1) (v := .ref q1) hx hb hts hinX1 hown hK hP hq hk (by decide) rfl 6 (by decide) (hts _ mwC_194) (fun _ h9 => h9) (by show some (va_rf (sR sh q 6)) = _; rw [e2]; rfl) dX1_form_55 ?_
        refine lv_ifnull hx hb dX1_form_58 ?_
        refine lv_aload_n hx hb dX1_form_61 rfl (lv_at hl 2 rfl) ?_
        refine c_get (C := RX1) (T := TX1) (N := 9) (K := 1) (v := .ref q1) hx hb hts hinX1 hown hK hP hq hk (by decide) rfl 6 (by decide) (hts _ mwC_194) (fun _ h9 => h9) (by show some (va_rf (sR sh q 6)) = _; rw [e2]; rfl) dX1_form_62 ?_
        refine lv_iload_n hx hb dX1_form_65 rfl (lv_at hl 3 rfl) ?_
        obtain ⟨⟨hm4, hk5⟩, h⟩ := h
        refine c_endi (c_runZ (rm := ({ frames := 300 + 5 * d, cells := 0, slots := 0, locals := 6000 + 200 * d })) (y := yX5_work) (x := ⟨"NeededLists$LazyList", "work", "(I)I"⟩) (n := 1) (bytes := cX5_work) (maxL := 4) (ret := (some .int)) (q := q1) (As := [.int p0]) (rest := []) ⟨hx, hb, hml, hown, hts⟩ (hGw _ _ _ q1 p0 _ h H.size) mwC_264 mwC_159 mwC_160 mwC_22 mwC_161 mwC_162 mwC_163 mwC_164 mwC_165 mwC_166 mwC_167 mwC_168 mwC_169 mwC_170 rfl (by decide +kernel) rfl rfl ⟨(show 300 + 5 * d + 1 ≤ 303 + 5 * d by omega), (show 8 + (4 + 11) + (6000 + 200 * d) ≤ 6120 + 200 * d by omega)⟩ hK hP hD hG hm4 hk5 rfl hl.1 rfl (Nat.le_of_ble_eq_true rfl) ⟨Nat.le_of_ble_eq_true rfl, Nat.le_of_ble_eq_true rfl⟩ dX1_form_66) hD hS hA (fun r6 ci6 ai6 al6 H locs h hP hD hS => ?_)
        refine lv_istore (lv' := [(6, .int r6), (4, .long (sJ sh q 8)), (2, .long 0), (0, .ref q), (1, .int p0)]) hx hb dX1_form_69 hl (by decide) rfl (fun ls hl => ?_)
        refine lv_iload hx hb dX1_form_71 (lv_at hl 0 rfl) ?_
        refine lv_iconst (v := 1) hx hb dX1_form_73 (by decide) ?_
        refine lv_icmp_eq (tgt := 80) hx hb dX1_form_74 (by decide) (fun c_74 => ?_) (fun c_74 => ?_)
        · have h := h.1 c_74
          refine lv_aload_n hx hb dX1_form_80 rfl (lv_at hl 3 rfl) ?_
          refine c_get (C := RX1) (T := TX1) (N := 9) (K := 1) (v := .ref q1) hx hb hts hinX1 hown hK hP hq hk (by decide) rfl 6 (by decide) (hts _ mwC_194) (fun _ h9 => h9) (by show some (va_rf (sR sh q 6)) = _; rw [e2]; rfl) dX1_form_81 ?_
          refine lv_iload_n hx hb dX1_form_84 rfl (lv_at hl 4 rfl) ?_
          refine r_endl (c_runZ (rm := ({ frames := 20 + 2 * 30, cells := 0, slots := 0, locals := 300 + 50 * 30 })) (y := yX5_number) (x := ⟨"NeededLists$LazyList", "number", "(I)J"⟩) (n := 1) (bytes := cX5_number) (maxL := 3) (ret := (some .long)) (q := q1) (As := [.int p0]) (rest := []) ⟨hx, hb, hml, hown, hts⟩ (p_X5_number_f l dC dI sh 30 _ _ _ q1 p0 _ h H.size) mwC_265 mwC_92 mwC_93 mwC_22 mwC_94 mwC_95 mwC_96 mwC_97 mwC_98 mwC_99 mwC_100 mwC_101 mwC_102 mwC_103 rfl (by decide +kernel) rfl rfl ⟨(show 20 + 2 * 30 + 1 ≤ 303 + 5 * d by omega), (show 8 + (3 + 11) + (300 + 50 * 30) ≤ 6120 + 200 * d by omega)⟩ hK hP hD hG hm4 hk5 rfl hl.1 rfl (Nat.le_of_ble_eq_true rfl) ⟨Nat.le_of_ble_eq_true rfl, Nat.le_of_ble_eq_true rfl⟩ dX1_form_85) hP hS hA (fun r7 H locs h hP hS => ?_)
          refine lv_lstore (lv' := [(4, .long r7), (6, .int r6), (2, .long 0), (0, .ref q), (1, .int p0)]) hx hb dX1_form_88 hl (by decide) rfl (fun ls hl => ?_)
          refine lv_aload_n hx hb dX1_form_90 rfl (lv_at hl 3 rfl) ?_
          refine lv_iload_n hx hb dX1_form_91 rfl (lv_at hl 4 rfl) ?_
          refine lv_aload_n hx hb dX1_form_92 rfl (lv_at hl 3 rfl) ?_
          refine c_get (C := RX1) (T := TX1) (N := 9) (K := 1) (v := .int (ci6 q 7)) hx hb hts hinX1 hown hK hP hq hk (by decide) rfl 7 (by decide) (hts _ mwC_259) (fun _ h9 => h9) rfl dX1_form_93 ?_
          refine lv_lload_n hx hb dX1_form_96 rfl (lv_at hl 2 rfl) ?_
          refine lv_lload hx hb dX1_form_97 (lv_at hl 0 rfl) ?_
          refine c_endi (va_runU (C := RX1) (owner := "NeededLists$LazyList") (rm := ({ frames := 40, cells := 0, slots := 0, locals := 600 })) (As := [.int p0, .int (ci6 q 7), .long 0, .long r7]) (rest := []) ⟨hx, hb, hml, hown, hts⟩ (p_X5_tellOp l dC dI sh _ _ _ q p0 (ci6 q 7) 0 r7 _ h H.size) (va_cwU (x := ⟨"NeededLists$Combined", "tellOp", "(IIJJ)I"⟩) 4 hts (g_U gdC mwC_261 mwC_262 mwC_263 mwC_243 mwC_22 mwC_244) rfl rfl rfl rfl ⟨by decide, by decide, by decide +kernel⟩ ⟨(show 40 + 1 ≤ 303 + 5 * d by omega), (show 8 + (7 + 11) + (600) ≤ 6120 + 200 * d by omega)⟩) (c_preV (vc := (RX1, TX1, 9)) hK hP hD hG hq hk (by decide) rfl) rfl rfl hl.1 rfl (lv_room (Nat.le_of_ble_eq_true rfl)) dX1_form_99 ⟨Nat.le_of_ble_eq_true rfl, Nat.le_of_ble_eq_true rfl⟩) hD hS hA (fun r8 ci8 ai8 al8 H locs h hP hD hS => ?_)
          exact W.iret (v := r8) hx hb hr (fun t ht hW => ⟨⟨_, (ci8, ai8, al8), rfl, h, by rw [ht]; exact hP, cK.moved hW.alike hK, hD⟩, hS.F ht⟩) hS.2.2 dX1_form_102
        · have h := h.2 c_74
          refine lv_iload hx hb dX1_form_77 (lv_at hl 0 rfl) ?_
          exact W.iret (v := r6) hx hb hr (fun t ht hW => ⟨⟨_, (ci6, ai6, al6), rfl, h, by rw [ht]; exact hP, cK.moved hW.alike hK, hD⟩, hS.F ht⟩) hS.2.2 dX1_form_79
  · have h := h.2 c_8
    refine lv_aload_n hx hb dX1_form_11 rfl (lv_at hl 1 rfl) ?_
    obtain ⟨q9, e10, h⟩ := h
    refine c_get (C := RX1) (T := TX1) (N := 9) (K := 1) (v := .ref q9) hx hb hts hinX1 hown hK hP hq hk (by decide) rfl 5 (by decide) (hts _ mwC_192) (fun _ h9 => h9) (by show some (va_rf (sR sh q 5)) = _; rw [e10]; rfl) dX1_form_12 ?_
    refine lv_iload_n hx hb dX1_form_15 rfl (lv_at hl 2 rfl) ?_
    obtain ⟨⟨hm11, hk12⟩, h⟩ := h
    refine c_endi (c_runZ (rm := ({ frames := 300 + 5 * d, cells := 0, slots := 0, locals := 6000 + 200 * d })) (y := yX5_work) (x := ⟨"NeededLists$LazyList", "work", "(I)I"⟩) (n := 1) (bytes := cX5_work) (maxL := 4) (ret := (some .int)) (q := q9) (As := [.int p0]) (rest := []) ⟨hx, hb, hml, hown, hts⟩ (hGw _ _ _ q9 p0 _ h H.size) mwC_264 mwC_159 mwC_160 mwC_22 mwC_161 mwC_162 mwC_163 mwC_164 mwC_165 mwC_166 mwC_167 mwC_168 mwC_169 mwC_170 rfl (by decide +kernel) rfl rfl ⟨(show 300 + 5 * d + 1 ≤ 303 + 5 * d by omega), (show 8 + (4 + 11) + (6000 + 200 * d) ≤ 6120 + 200 * d by omega)⟩ hK hP hD hG hm11 hk12 rfl hl.1 rfl (Nat.le_of_ble_eq_true rfl) ⟨Nat.le_of_ble_eq_true rfl, Nat.le_of_ble_eq_true rfl⟩ dX1_form_16) hD hS hA (fun r13 ci13 ai13 al13 H locs h hP hD hS => ?_)
    refine lv_istore (lv' := [(4, .int r13), (2, .long 0), (0, .ref q), (1, .int p0)]) hx hb dX1_form_19 hl (by decide) rfl (fun ls hl => ?_)
    refine lv_iload hx hb dX1_form_21 (lv_at hl 0 rfl) ?_
    refine lv_iconst (v := 1) hx hb dX1_form_23 (by decide) ?_
    refine lv_icmp_eq (tgt := 30) hx hb dX1_form_24 (by decide) (fun c_24 => ?_) (fun c_24 => ?_)
    · have h := h.1 c_24
      refine lv_aload_n hx hb dX1_form_30 rfl (lv_at hl 2 rfl) ?_
      refine c_get (C := RX1) (T := TX1) (N := 9) (K := 1) (v := .ref q9) hx hb hts hinX1 hown hK hP hq hk (by decide) rfl 5 (by decide) (hts _ mwC_192) (fun _ h9 => h9) (by show some (va_rf (sR sh q 5)) = _; rw [e10]; rfl) dX1_form_31 ?_
      refine lv_iload_n hx hb dX1_form_34 rfl (lv_at hl 3 rfl) ?_
      refine r_endl (c_runZ (rm := ({ frames := 20 + 2 * 30, cells := 0, slots := 0, locals := 300 + 50 * 30 })) (y := yX5_number) (x := ⟨"NeededLists$LazyList", "number", "(I)J"⟩) (n := 1) (bytes := cX5_number) (maxL := 3) (ret := (some .long)) (q := q9) (As := [.int p0]) (rest := []) ⟨hx, hb, hml, hown, hts⟩ (p_X5_number_f l dC dI sh 30 _ _ _ q9 p0 _ h H.size) mwC_265 mwC_92 mwC_93 mwC_22 mwC_94 mwC_95 mwC_96 mwC_97 mwC_98 mwC_99 mwC_100 mwC_101 mwC_102 mwC_103 rfl (by decide +kernel) rfl rfl ⟨(show 20 + 2 * 30 + 1 ≤ 303 + 5 * d by omega), (show 8 + (3 + 11) + (300 + 50 * 30) ≤ 6120 + 200 * d by omega)⟩ hK hP hD hG hm11 hk12 rfl hl.1 rfl (Nat.le_of_ble_eq_true rfl) ⟨Nat.le_of_ble_eq_true rfl, Nat.le_of_ble_eq_true rfl⟩ dX1_form_35) hP hS hA (fun r14 H locs h hP hS => ?_)
      refine lv_lstore_n (lv' := [(2, .long r14), (4, .int r13), (0, .ref q), (1, .int p0)]) hx hb dX1_form_38 rfl hl (by decide) rfl (fun ls hl => ?_)
      refine lv_aload_n hx hb dX1_form_39 rfl (lv_at hl 2 rfl) ?_
      refine c_get (C := RX1) (T := TX1) (N := 9) (K := 1) (v := .long (sJ sh q 8)) hx hb hts hinX1 hown hK hP hq hk (by decide) rfl 8 (by decide) (hts _ mwC_260) (fun _ h9 => h9) rfl dX1_form_40 ?_
      refine lv_lstore (lv' := [(4, .long (sJ sh q 8)), (2, .long r14), (0, .ref q), (1, .int p0)]) hx hb dX1_form_43 hl (by decide) rfl (fun ls hl => ?_)
      refine lv_aload_n hx hb dX1_form_45 rfl (lv_at hl 2 rfl) ?_
      refine c_get (C := RX1) (T := TX1) (N := 9) (K := 1) (v := .int (ci13 q 7)) hx hb hts hinX1 hown hK hP hq hk (by decide) rfl 7 (by decide) (hts _ mwC_259) (fun _ h9 => h9) rfl dX1_form_46 ?_
      refine lv_bipush (v := 7) hx hb dX1_form_49 (by decide) ?_
      refine lv_icmp_eq (tgt := 90) hx hb dX1_form_51 (by decide) (fun c_51 => ?_) (fun c_51 => ?_)
      · have h := h.1 c_51
        refine lv_aload_n hx hb dX1_form_90 rfl (lv_at hl 2 rfl) ?_
        refine lv_iload_n hx hb dX1_form_91 rfl (lv_at hl 3 rfl) ?_
        refine lv_aload_n hx hb dX1_form_92 rfl (lv_at hl 2 rfl) ?_
        refine c_get (C := RX1) (T := TX1) (N := 9) (K := 1) (v := .int (ci13 q 7)) hx hb hts hinX1 hown hK hP hq hk (by decide) rfl 7 (by decide) (hts _ mwC_259) (fun _ h9 => h9) rfl dX1_form_93 ?_
        refine lv_lload_n hx hb dX1_form_96 rfl (lv_at hl 1 rfl) ?_
        refine lv_lload hx hb dX1_form_97 (lv_at hl 0 rfl) ?_
        refine c_endi (va_runU (C := RX1) (owner := "NeededLists$LazyList") (rm := ({ frames := 40, cells := 0, slots := 0, locals := 600 })) (As := [.int p0, .int (ci13 q 7), .long r14, .long (sJ sh q 8)]) (rest := []) ⟨hx, hb, hml, hown, hts⟩ (p_X5_tellOp l dC dI sh _ _ _ q p0 (ci13 q 7) r14 (sJ sh q 8) _ h H.size) (va_cwU (x := ⟨"NeededLists$Combined", "tellOp", "(IIJJ)I"⟩) 4 hts (g_U gdC mwC_261 mwC_262 mwC_263 mwC_243 mwC_22 mwC_244) rfl rfl rfl rfl ⟨by decide, by decide, by decide +kernel⟩ ⟨(show 40 + 1 ≤ 303 + 5 * d by omega), (show 8 + (7 + 11) + (600) ≤ 6120 + 200 * d by omega)⟩) (c_preV (vc := (RX1, TX1, 9)) hK hP hD hG hq hk (by decide) rfl) rfl rfl hl.1 rfl (lv_room (Nat.le_of_ble_eq_true rfl)) dX1_form_99 ⟨Nat.le_of_ble_eq_true rfl, Nat.le_of_ble_eq_true rfl⟩) hD hS hA (fun r15 ci15 ai15 al15 H locs h hP hD hS => ?_)
        exact W.iret (v := r15) hx hb hr (fun t ht hW => ⟨⟨_, (ci15, ai15, al15), rfl, h, by rw [ht]; exact hP, cK.moved hW.alike hK, hD⟩, hS.F ht⟩) hS.2.2 dX1_form_102
      · have h := h.2 c_51
        refine lv_aload_n hx hb dX1_form_54 rfl (lv_at hl 2 rfl) ?_
        rcases e17 : sR sh q 6 with _ | q16
        · have h := h.1 e17
          refine c_get (C := RX1) (T := TX1) (N := 9) (K := 1) (v := .null) hx hb hts hinX1 hown hK hP hq hk (by decide) rfl 6 (by decide) (hts _ mwC_194) (fun _ h9 => h9) (by show some (va_rf (sR sh q 6)) = _; rw [e17]; rfl) dX1_form_55 ?_
          refine lv_ifnullN (tgt := 90) hx hb dX1_form_58 (by decide) ?_
          refine lv_aload_n hx hb dX1_form_90 rfl (lv_at hl 2 rfl) ?_
          refine lv_iload_n hx hb dX1_form_91 rfl (lv_at hl 3 rfl) ?_
          refine lv_aload_n hx hb dX1_form_92 rfl (lv_at hl 2 rfl) ?_
          refine c_get (C := RX1) (T := TX1) (N := 9) (K := 1) (v := .int (ci13 q 7)) hx hb hts hinX1 hown hK hP hq hk (by decide) rfl 7 (by decide) (hts _ mwC_259) (fun _ h9 => h9) rfl dX1_form_93 ?_
          refine lv_lload_n hx hb dX1_form_96 rfl (lv_at hl 1 rfl) ?_
          refine lv_lload hx hb dX1_form_97 (lv_at hl 0 rfl) ?_
          refine c_endi (va_runU (C := RX1) (owner := "NeededLists$LazyList") (rm := ({ frames := 40, cells := 0, slots := 0, locals := 600 })) (As := [.int p0, .int (ci13 q 7), .long r14, .long (sJ sh q 8)]) (rest := []) ⟨hx, hb, hml, hown, hts⟩ (p_X5_tellOp l dC dI sh _ _ _ q p0 (ci13 q 7) r14 (sJ sh q 8) _ h H.size) (va_cwU (x := ⟨"NeededLists$Combined", "tellOp", "(IIJJ)I"⟩) 4 hts (g_U gdC mwC_261 mwC_262 mwC_263 mwC_243 mwC_22 mwC_244) rfl rfl rfl rfl ⟨by decide, by decide, by decide +kernel⟩ ⟨(show 40 + 1 ≤ 303 + 5 * d by omega), (show 8 + (7 + 11) + (600) ≤ 6120 + 200 * d by omega)⟩) (c_preV (vc := (RX1, TX1, 9)) hK hP hD hG hq hk (by decide) rfl) rfl rfl hl.1 rfl (lv_room (Nat.le_of_ble_eq_true rfl)) dX1_form_99 ⟨Nat.le_of_ble_eq_true rfl, Nat.le_of_ble_eq_true rfl⟩) hD hS hA (fun r18 ci18 ai18 al18 H locs h hP hD hS => ?_)
          exact W.iret (v := r18) hx hb hr (fun t ht hW => ⟨⟨_, (ci18, ai18, al18), rfl, h, by rw [ht]; exact hP, cK.moved hW.alike hK, hD⟩, hS.F ht⟩) hS.2.2 dX1_form_102
        · have h := h.2 q16 e17
          refine c_get (C := RX1) (T := TX1) (N := 9) (K := 1) (v := .ref q16) hx hb hts hinX1 hown hK hP hq hk (by decide) rfl 6 (by decide) (hts _ mwC_194) (fun _ h9 => h9) (by show some (va_rf (sR sh q 6)) = _; rw [e17]; rfl) dX1_form_55 ?_
          refine lv_ifnull hx hb dX1_form_58 ?_
          refine lv_aload_n hx hb dX1_form_61 rfl (lv_at hl 2 rfl) ?_
          refine c_get (C := RX1) (T := TX1) (N := 9) (K := 1) (v := .ref q16) hx hb hts hinX1 hown hK hP hq hk (by decide) rfl 6 (by decide) (hts _ mwC_194) (fun _ h9 => h9) (by show some (va_rf (sR sh q 6)) = _; rw [e17]; rfl) dX1_form_62 ?_
          refine lv_iload_n hx hb dX1_form_65 rfl (lv_at hl 3 rfl) ?_
          obtain ⟨⟨hm19, hk20⟩, h⟩ := h
          refine c_endi (c_runZ (rm := ({ frames := 300 + 5 * d, cells := 0, slots := 0, locals := 6000 + 200 * d })) (y := yX5_work) (x := ⟨"NeededLists$LazyList", "work", "(I)I"⟩) (n := 1) (bytes := cX5_work) (maxL := 4) (ret := (some .int)) (q := q16) (As := [.int p0]) (rest := []) ⟨hx, hb, hml, hown, hts⟩ (hGw _ _ _ q16 p0 _ h H.size) mwC_264 mwC_159 mwC_160 mwC_22 mwC_161 mwC_162 mwC_163 mwC_164 mwC_165 mwC_166 mwC_167 mwC_168 mwC_169 mwC_170 rfl (by decide +kernel) rfl rfl ⟨(show 300 + 5 * d + 1 ≤ 303 + 5 * d by omega), (show 8 + (4 + 11) + (6000 + 200 * d) ≤ 6120 + 200 * d by omega)⟩ hK hP hD hG hm19 hk20 rfl hl.1 rfl (Nat.le_of_ble_eq_true rfl) ⟨Nat.le_of_ble_eq_true rfl, Nat.le_of_ble_eq_true rfl⟩ dX1_form_66) hD hS hA (fun r21 ci21 ai21 al21 H locs h hP hD hS => ?_)
          refine lv_istore (lv' := [(6, .int r21), (4, .long (sJ sh q 8)), (2, .long r14), (0, .ref q), (1, .int p0)]) hx hb dX1_form_69 hl (by decide) rfl (fun ls hl => ?_)
          refine lv_iload hx hb dX1_form_71 (lv_at hl 0 rfl) ?_
          refine lv_iconst (v := 1) hx hb dX1_form_73 (by decide) ?_
          refine lv_icmp_eq (tgt := 80) hx hb dX1_form_74 (by decide) (fun c_74 => ?_) (fun c_74 => ?_)
          · have h := h.1 c_74
            refine lv_aload_n hx hb dX1_form_80 rfl (lv_at hl 3 rfl) ?_
            refine c_get (C := RX1) (T := TX1) (N := 9) (K := 1) (v := .ref q16) hx hb hts hinX1 hown hK hP hq hk (by decide) rfl 6 (by decide) (hts _ mwC_194) (fun _ h9 => h9) (by show some (va_rf (sR sh q 6)) = _; rw [e17]; rfl) dX1_form_81 ?_
            refine lv_iload_n hx hb dX1_form_84 rfl (lv_at hl 4 rfl) ?_
            refine r_endl (c_runZ (rm := ({ frames := 20 + 2 * 30, cells := 0, slots := 0, locals := 300 + 50 * 30 })) (y := yX5_number) (x := ⟨"NeededLists$LazyList", "number", "(I)J"⟩) (n := 1) (bytes := cX5_number) (maxL := 3) (ret := (some .long)) (q := q16) (As := [.int p0]) (rest := []) ⟨hx, hb, hml, hown, hts⟩ (p_X5_number_f l dC dI sh 30 _ _ _ q16 p0 _ h H.size) mwC_265 mwC_92 mwC_93 mwC_22 mwC_94 mwC_95 mwC_96 mwC_97 mwC_98 mwC_99 mwC_100 mwC_101 mwC_102 mwC_103 rfl (by decide +kernel) rfl rfl ⟨(show 20 + 2 * 30 + 1 ≤ 303 + 5 * d by omega), (show 8 + (3 + 11) + (300 + 50 * 30) ≤ 6120 + 200 * d by omega)⟩ hK hP hD hG hm19 hk20 rfl hl.1 rfl (Nat.le_of_ble_eq_true rfl) ⟨Nat.le_of_ble_eq_true rfl, Nat.le_of_ble_eq_true rfl⟩ dX1_form_85) hP hS hA (fun r22 H locs h hP hS => ?_)
            refine lv_lstore (lv' := [(4, .long r22), (6, .int r21), (2, .long r14), (0, .ref q), (1, .int p0)]) hx hb dX1_form_88 hl (by decide) rfl (fun ls hl => ?_)
            refine lv_aload_n hx hb dX1_form_90 rfl (lv_at hl 3 rfl) ?_
            refine lv_iload_n hx hb dX1_form_91 rfl (lv_at hl 4 rfl) ?_
            refine lv_aload_n hx hb dX1_form_92 rfl (lv_at hl 3 rfl) ?_
            refine c_get (C := RX1) (T := TX1) (N := 9) (K := 1) (v := .int (ci21 q 7)) hx hb hts hinX1 hown hK hP hq hk (by decide) rfl 7 (by decide) (hts _ mwC_259) (fun _ h9 => h9) rfl dX1_form_93 ?_
            refine lv_lload_n hx hb dX1_form_96 rfl (lv_at hl 2 rfl) ?_
            refine lv_lload hx hb dX1_form_97 (lv_at hl 0 rfl) ?_
            refine c_endi (va_runU (C := RX1) (owner := "NeededLists$LazyList") (rm := ({ frames := 40, cells := 0, slots := 0, locals := 600 })) (As := [.int p0, .int (ci21 q 7), .long r14, .long r22]) (rest := []) ⟨hx, hb, hml, hown, hts⟩ (p_X5_tellOp l dC dI sh _ _ _ q p0 (ci21 q 7) r14 r22 _ h H.size) (va_cwU (x := ⟨"NeededLists$Combined", "tellOp", "(IIJJ)I"⟩) 4 hts (g_U gdC mwC_261 mwC_262 mwC_263 mwC_243 mwC_22 mwC_244) rfl rfl rfl rfl ⟨by decide, by decide, by decide +kernel⟩ ⟨(show 40 + 1 ≤ 303 + 5 * d by omega), (show 8 + (7 + 11) + (600) ≤ 6120 + 200 * d by omega)⟩) (c_preV (vc := (RX1, TX1, 9)) hK hP hD hG hq hk (by decide) rfl) rfl rfl hl.1 rfl (lv_room (Nat.le_of_ble_eq_true rfl)) dX1_form_99 ⟨Nat.le_of_ble_eq_true rfl, Nat.le_of_ble_eq_true rfl⟩) hD hS hA (fun r23 ci23 ai23 al23 H locs h hP hD hS => ?_)
            exact W.iret (v := r23) hx hb hr (fun t ht hW => ⟨⟨_, (ci23, ai23, al23), rfl, h, by rw [ht]; exact hP, cK.moved hW.alike hK, hD⟩, hS.F ht⟩) hS.2.2 dX1_form_102
          · have h := h.2 c_74
            refine lv_iload hx hb dX1_form_77 (lv_at hl 0 rfl) ?_
            exact W.iret (v := r21) hx hb hr (fun t ht hW => ⟨⟨_, (ci21, ai21, al21), rfl, h, by rw [ht]; exact hP, cK.moved hW.alike hK, hD⟩, hS.F ht⟩) hS.2.2 dX1_form_79
    · have h := h.2 c_24
      refine lv_iload hx hb dX1_form_27 (lv_at hl 0 rfl) ?_
      exact W.iret (v := r13) hx hb hr (fun t ht hW => ⟨⟨_, (ci13, ai13, al13), rfl, h, by rw [ht]; exact hP, cK.moved hW.alike hK, hD⟩, hS.F ht⟩) hS.2.2 dX1_form_29

abbrev wmX3_form : List Cond := .code yX3_form cX3_form 2 (some .int) :: WC
theorem hd_X3_form : yX3_form.cls = RX3 ∧ yX3_form.cls ≠ "java/lang/invoke/MethodHandle" ∧ yX3_form.cls ≠ "java/lang/invoke/VarHandle" ∧ (parseMethodDescriptor yX3_form.desc).map (fun d => d.parameters.length) = some 1 := by decide +kernel
def P_X3_form (sh : Sh) (ci : Nat → Nat → Int32) (ai : Nat → Nat → Int32) (al : Nat → Nat → Int64) (q : Nat) (p0 : Int32) (Q : Int32 → (Nat → Nat → Int32) → (Nat → Nat → Int32) → (Nat → Nat → Int64) → Prop) : Prop := (q ∈ sL sh ∧ sK sh q = 3) ∧ ((p0 < 0) → (Q 3 ci ai al)) ∧ ((¬ p0 < 0) → (∃ q1 : Nat, sR sh q 5 = some q1 ∧ (q1 ∈ sL sh ∧ sK sh q1 = 21) ∧ (((nI (sN sh q1)) ≤ p0) → (Q 3 ci ai al)) ∧ ((¬ (nI (sN sh q1)) ≤ p0) → (vp_in p0 (sN sh q1) ∧ Q (ai q1 p0.toNatClampNeg) ci ai al))))
set_option maxHeartbeats 4000000 in
set_option maxRecDepth 100000 in
theorem p_X3_form (l : Launch) (dC : Nat → ClassId) (dI : Nat → Nat → Nat) (sh : Sh) (ci : Nat → Nat → Int32) (ai : Nat → Nat → Int32) (al : Nat → Nat → Int64) (q : Nat) (p0 : Int32) (Q : Int32 → (Nat → Nat → Int32) → (Nat → Nat → Int32) → (Nat → Nat → Int64) → Prop) (h : P_X3_form sh ci ai al q p0 Q) (sz : Nat) : Met l yX3_form wmX3_form ({ frames := 12, cells := 0, slots := 0, locals := 200 }) (va_Pc [.ref q, .int p0] (cPre dC dI sh ci ai al sz)) (va_Qi (S := CSt) (cI Q) (cB dC dI sh (va_A (cW sh ci ai al) sz)) (va_A (cW sh ci ai al) sz)) 0 0 (va_A (cW sh ci ai al) sz) := by
  refine Met.ofW (cc := cX3_form) (maxL := 2) (ret := (some .int)) (by decide) rfl ?_
  intro p e s m args below meth c s₁ B hml hv
  obtain ⟨rfl, hsz, hP, hK, hD0, hG⟩ := hv
  have hx := B.exec
  have hb := B.bytes
  have hr := B.returns
  have hts : ∀ w ∈ WC, w.before _ s = true := fun w h => atoms_spec (ws := wmX3_form) B.pre w (List.mem_cons_of_mem _ h)
  have hown : s.vm.findClass RX3 = some m.cls := findClass_of_methodNamed B.named
  have hlocks := B.notSynchronized
  subst hsz
  have hD := hD0.self (sz := s.heap.size)
  generalize hAe : va_A (cW sh ci ai al) s.heap.size = A at hD ⊢
  have hA : ∀ q : Nat, s.heap.size ≤ q → A q := fun q h => by rw [← hAe]; exact Or.inr h
  generalize hH : s.heap = H at hP ⊢
  have hS : va_S A s.heap H [] := by rw [← hH]; exact va_S.rf
  have hl := lv_entry [.ref q, .int p0] (n := 2) (Nat.le_of_ble_eq_true rfl)
  rw [lg_entry_eq]
  generalize (lg_sl [.ref q, .int p0] ++ List.replicate (2 - (lg_sl [.ref q, .int p0]).length) Slot.unset).toArray = ls at hl ⊢
  have hl : lv_has ls 2 [(0, .ref q), (1, .int p0)] := hl
  unfold P_X3_form at h
  obtain ⟨⟨hq, hk⟩, h⟩ := h
  refine lv_iload_n hx hb dX3_form_0 rfl (lv_at hl 1 rfl) ?_
  refine lv_if_lt (tgt := 22) hx hb dX3_form_1 (by decide) (fun c_1 => ?_) (fun c_1 => ?_)
  · have h := h.1 c_1
    refine lv_iconst (v := 3) hx hb dX3_form_22 (by decide) ?_
    exact W.iret (v := 3) hx hb hr (fun t ht hW => ⟨⟨_, (ci, ai, al), rfl, h, by rw [ht]; exact hP, cK.moved hW.alike hK, hD⟩, hS.F ht⟩) hS.2.2 dX3_form_23
  · have h := h.2 c_1
    refine lv_iload_n hx hb dX3_form_4 rfl (lv_at hl 1 rfl) ?_
    refine lv_aload_n hx hb dX3_form_5 rfl (lv_at hl 0 rfl) ?_
    obtain ⟨q1, e2, h⟩ := h
    refine c_get (C := RX3) (T := TX3) (N := 7) (K := 3) (v := .ref q1) hx hb hts hinX3 hown hK hP hq hk (by decide) rfl 5 (by decide) (hts _ mwC_201) (fun _ h9 => h9) (by show some (va_rf (sR sh q 5)) = _; rw [e2]; rfl) dX3_form_6 ?_
    obtain ⟨⟨hm3, hk4⟩, h⟩ := h
    refine c_alen hx hb hK hP hm3 (Or.inr (Or.inl hk4)) dX3_form_9 ?_
    refine lv_icmp_ge (tgt := 22) hx hb dX3_form_10 (by decide) (fun c_10 => ?_) (fun c_10 => ?_)
    · have h := h.1 c_10
      refine lv_iconst (v := 3) hx hb dX3_form_22 (by decide) ?_
      exact W.iret (v := 3) hx hb hr (fun t ht hW => ⟨⟨_, (ci, ai, al), rfl, h, by rw [ht]; exact hP, cK.moved hW.alike hK, hD⟩, hS.F ht⟩) hS.2.2 dX3_form_23
    · have h := h.2 c_10
      refine lv_aload_n hx hb dX3_form_13 rfl (lv_at hl 0 rfl) ?_
      refine c_get (C := RX3) (T := TX3) (N := 7) (K := 3) (v := .ref q1) hx hb hts hinX3 hown hK hP hq hk (by decide) rfl 5 (by decide) (hts _ mwC_201) (fun _ h9 => h9) (by show some (va_rf (sR sh q 5)) = _; rw [e2]; rfl) dX3_form_14 ?_
      refine lv_iload_n hx hb dX3_form_17 rfl (lv_at hl 1 rfl) ?_
      obtain ⟨hi5, h⟩ := h
      refine c_bald hx hb hK hP hm3 hk4 hi5 dX3_form_18 ?_
      refine lv_goto (tgt := 23) hx hb dX3_form_19 (by decide) ?_
      exact W.iret (v := (ai q1 p0.toNatClampNeg)) hx hb hr (fun t ht hW => ⟨⟨_, (ci, ai, al), rfl, h, by rw [ht]; exact hP, cK.moved hW.alike hK, hD⟩, hS.F ht⟩) hS.2.2 dX3_form_23

abbrev wmX9_form : List Cond := .code yX9_form cX9_form 3 (some .int) :: WC
theorem hd_X9_form : yX9_form.cls = RX9 ∧ yX9_form.cls ≠ "java/lang/invoke/MethodHandle" ∧ yX9_form.cls ≠ "java/lang/invoke/VarHandle" ∧ (parseMethodDescriptor yX9_form.desc).map (fun d => d.parameters.length) = some 1 := by decide +kernel
def P_X9_form (sh : Sh) (Gr Gw : (Nat → Nat → Int32) → (Nat → Nat → Int32) → (Nat → Nat → Int64) → Nat → Int32 → (Int32 → (Nat → Nat → Int32) → (Nat → Nat → Int32) → (Nat → Nat → Int64) → Prop) → Prop) (ci : Nat → Nat → Int32) (ai : Nat → Nat → Int32) (al : Nat → Nat → Int64) (q : Nat) (p0 : Int32) (Q : Int32 → (Nat → Nat → Int32) → (Nat → Nat → Int32) → (Nat → Nat → Int64) → Prop) : Prop := (q ∈ sL sh ∧ sK sh q = 8) ∧ ((p0 < 0) → (Q 3 ci ai al)) ∧ ((¬ p0 < 0) → (∃ q1 : Nat, sR sh q 6 = some q1 ∧ (q1 ∈ sL sh ∧ sK sh q1 = 20) ∧ ((p0 < (nI (sN sh q1))) → (vp_in p0 (sN sh q1) ∧ P_X9_lookThrough sh Gr Gw ci ai al q (ai q1 p0.toNatClampNeg) (fun r6 ci6 ai6 al6 => ((r6 = 1) → (vp_in p0 (sN sh q1) ∧ P_X5_tell sh ci6 ai6 al6 q p0 (((ci6 q 7) - (ai6 q1 p0.toNatClampNeg)).toInt64) (fun r8 ci8 ai8 al8 => Q r8 ci8 ai8 al8))) ∧ ((¬ r6 = 1) → (((¬ r6 = 2) → (Q r6 ci6 ai6 al6)) ∧ ((r6 = 2) → (vp_in p0 (sN sh q1) ∧ P_X5_tell sh ci6 ai6 al6 q p0 (((ci6 q 7) - (ai6 q1 p0.toNatClampNeg)).toInt64) (fun r10 ci10 ai10 al10 => Q r10 ci10 ai10 al10)))))))) ∧ ((¬ p0 < (nI (sN sh q1))) → (Q 3 ci ai al))))
set_option maxHeartbeats 4000000 in
set_option maxRecDepth 100000 in
theorem p_X9_form (l : Launch) (dC : Nat → ClassId) (dI : Nat → Nat → Nat) (sh : Sh) (d : Nat) {Gr Gw : (Nat → Nat → Int32) → (Nat → Nat → Int32) → (Nat → Nat → Int64) → Nat → Int32 → (Int32 → (Nat → Nat → Int32) → (Nat → Nat → Int32) → (Nat → Nat → Int64) → Prop) → Prop} (hGr : GM l dC dI sh yX5_reach wmX5_reach ({ frames := 300 + 5 * d, cells := 0, slots := 0, locals := 6000 + 200 * d }) Gr) (hGw : GM l dC dI sh yX5_work wmX5_work ({ frames := 300 + 5 * d, cells := 0, slots := 0, locals := 6000 + 200 * d }) Gw) (ci : Nat → Nat → Int32) (ai : Nat → Nat → Int32) (al : Nat → Nat → Int64) (q : Nat) (p0 : Int32) (Q : Int32 → (Nat → Nat → Int32) → (Nat → Nat → Int32) → (Nat → Nat → Int64) → Prop) (h : P_X9_form sh Gr Gw ci ai al q p0 Q) (sz : Nat) : Met l yX9_form wmX9_form ({ frames := 303 + 5 * d, cells := 0, slots := 0, locals := 6120 + 200 * d }) (va_Pc [.ref q, .int p0] (cPre dC dI sh ci ai al sz)) (va_Qi (S := CSt) (cI Q) (cB dC dI sh (va_A (cW sh ci ai al) sz)) (va_A (cW sh ci ai al) sz)) 0 0 (va_A (cW sh ci ai al) sz) := by
  refine Met.ofW (cc := cX9_form) (maxL := 3) (ret := (some .int)) (by decide) rfl ?_
  intro p e s m args below meth c s₁ B hml hv
  obtain ⟨rfl, hsz, hP, hK, hD0, hG⟩ := hv
  have hx := B.exec
  have hb := B.bytes
  have hr := B.returns
  have hts : ∀ w ∈ WC, w.before _ s = true := fun w h => atoms_spec (ws := wmX9_form) B.pre w (List.mem_cons_of_mem _ h)
  have hown : s.vm.findClass RX9 = some m.cls := findClass_of_methodNamed B.named
  have hlocks := B.notSynchronized
  subst hsz
  have hD := hD0.self (sz := s.heap.size)
  generalize hAe : va_A (cW sh ci ai al) s.heap.size = A at hD ⊢
  have hA : ∀ q : Nat, s.heap.size ≤ q → A q := fun q h => by rw [← hAe]; exact Or.inr h
  generalize hH : s.heap = H at hP ⊢
  have hS : va_S A s.heap H [] := by rw [← hH]; exact va_S.rf
  have hl := lv_entry [.ref q, .int p0] (n := 3) (Nat.le_of_ble_eq_true rfl)
  rw [lg_entry_eq]
  generalize (lg_sl [.ref q, .int p0] ++ List.replicate (3 - (lg_sl [.ref q, .int p0]).length) Slot.unset).toArray = ls at hl ⊢
  have hl : lv_has ls 3 [(0, .ref q), (1, .int p0)] := hl
  unfold P_X9_form at h
  obtain ⟨⟨hq, hk⟩, h⟩ := h
  refine lv_iload_n hx hb dX9_form_0 rfl (lv_at hl 1 rfl) ?_
  refine lv_if_lt (tgt := 13) hx hb dX9_form_1 (by decide) (fun c_1 => ?_) (fun c_1 => ?_)
  · have h := h.1 c_1
    refine lv_iconst (v := 3) hx hb dX9_form_13 (by decide) ?_
    exact W.iret (v := 3) hx hb hr (fun t ht hW => ⟨⟨_, (ci, ai, al), rfl, h, by rw [ht]; exact hP, cK.moved hW.alike hK, hD⟩, hS.F ht⟩) hS.2.2 dX9_form_14
  · have h := h.2 c_1
    refine lv_iload_n hx hb dX9_form_4 rfl (lv_at hl 1 rfl) ?_
    refine lv_aload_n hx hb dX9_form_5 rfl (lv_at hl 0 rfl) ?_
    obtain ⟨q1, e2, h⟩ := h
    refine c_get (C := RX9) (T := TX9) (N := 8) (K := 8) (v := .ref q1) hx hb hts hinX9 hown hK hP hq hk (by decide) rfl 6 (by decide) (hts _ mwC_225) (fun _ h9 => h9) (by show some (va_rf (sR sh q 6)) = _; rw [e2]; rfl) dX9_form_6 ?_
    obtain ⟨⟨hm3, hk4⟩, h⟩ := h
    refine c_alen hx hb hK hP hm3 (Or.inl hk4) dX9_form_9 ?_
    refine lv_icmp_lt (tgt := 15) hx hb dX9_form_10 (by decide) (fun c_10 => ?_) (fun c_10 => ?_)
    · have h := h.1 c_10
      refine lv_aload_n hx hb dX9_form_15 rfl (lv_at hl 0 rfl) ?_
      refine lv_aload_n hx hb dX9_form_16 rfl (lv_at hl 0 rfl) ?_
      refine c_get (C := RX9) (T := TX9) (N := 8) (K := 8) (v := .ref q1) hx hb hts hinX9 hown hK hP hq hk (by decide) rfl 6 (by decide) (hts _ mwC_225) (fun _ h9 => h9) (by show some (va_rf (sR sh q 6)) = _; rw [e2]; rfl) dX9_form_17 ?_
      refine lv_iload_n hx hb dX9_form_20 rfl (lv_at hl 1 rfl) ?_
      obtain ⟨hi5, h⟩ := h
      refine c_iald hx hb hK hP hm3 hk4 hi5 dX9_form_21 ?_
      refine c_endi (va_runV (rm := ({ frames := 302 + 5 * d, cells := 0, slots := 0, locals := 6080 + 200 * d })) (As := [.int (ai q1 p0.toNatClampNeg)]) (rest := []) ⟨hx, hb, hml, hown, hts⟩ (p_X9_lookThrough l dC dI sh d hGr hGw _ _ _ q (ai q1 p0.toNatClampNeg) _ h H.size) (cwV 1 hts (g_V gdC mwC_226 mwC_227 mwC_228 mwC_229 mwC_230) rfl rfl rfl hd_X9_lookThrough ⟨(show 302 + 5 * d + 1 ≤ 303 + 5 * d by omega), (show 8 + (7 + 11) + (6080 + 200 * d) ≤ 6120 + 200 * d by omega)⟩) (c_preV (vc := (RX9, TX9, 8)) hK hP hD hG hq hk (by decide) rfl) rfl rfl hl.1 rfl (lv_room (Nat.le_of_ble_eq_true rfl)) dX9_form_22 ⟨Nat.le_of_ble_eq_true rfl, Nat.le_of_ble_eq_true rfl⟩) hD hS hA (fun r6 ci6 ai6 al6 H locs h hP hD hS => ?_)
      refine lv_istore_n (lv' := [(2, .int r6), (0, .ref q), (1, .int p0)]) hx hb dX9_form_25 rfl hl (by decide) rfl (fun ls hl => ?_)
      refine lv_iload_n hx hb dX9_form_26 rfl (lv_at hl 0 rfl) ?_
      refine lv_iconst (v := 1) hx hb dX9_form_27 (by decide) ?_
      refine lv_icmp_eq (tgt := 36) hx hb dX9_form_28 (by decide) (fun c_28 => ?_) (fun c_28 => ?_)
      · have h := h.1 c_28
        refine lv_aload_n hx hb dX9_form_36 rfl (lv_at hl 1 rfl) ?_
        refine lv_iload_n hx hb dX9_form_37 rfl (lv_at hl 2 rfl) ?_
        refine lv_aload_n hx hb dX9_form_38 rfl (lv_at hl 1 rfl) ?_
        refine c_get (C := RX9) (T := TX9) (N := 8) (K := 8) (v := .int (ci6 q 7)) hx hb hts hinX9 hown hK hP hq hk (by decide) rfl 7 (by decide) (hts _ mwC_177) (fun _ h9 => h9) rfl dX9_form_39 ?_
        refine lv_aload_n hx hb dX9_form_42 rfl (lv_at hl 1 rfl) ?_
        refine c_get (C := RX9) (T := TX9) (N := 8) (K := 8) (v := .ref q1) hx hb hts hinX9 hown hK hP hq hk (by decide) rfl 6 (by decide) (hts _ mwC_225) (fun _ h9 => h9) (by show some (va_rf (sR sh q 6)) = _; rw [e2]; rfl) dX9_form_43 ?_
        refine lv_iload_n hx hb dX9_form_46 rfl (lv_at hl 2 rfl) ?_
        obtain ⟨hi7, h⟩ := h
        refine c_iald hx hb hK hP hm3 hk4 hi7 dX9_form_47 ?_
        refine lv_isub hx hb dX9_form_48 ?_
        refine lv_i2l hx hb dX9_form_49 rfl ?_
        refine c_endi (va_runU (C := RX9) (owner := "NeededLists$LazyList") (rm := ({ frames := 4, cells := 0, slots := 0, locals := 60 })) (As := [.int p0, .long (((ci6 q 7) - (ai6 q1 p0.toNatClampNeg)).toInt64)]) (rest := []) ⟨hx, hb, hml, hown, hts⟩ (p_X5_tell l dC dI sh _ _ _ q p0 (((ci6 q 7) - (ai6 q1 p0.toNatClampNeg)).toInt64) _ h H.size) (va_cwU (x := ⟨"NeededLists$Runs", "tell", "(IJ)I"⟩) 2 hts (g_U gdC mwC_266 mwC_267 mwC_268 mwC_125 mwC_22 mwC_126) rfl rfl rfl rfl ⟨by decide, by decide, by decide +kernel⟩ ⟨(show 4 + 1 ≤ 303 + 5 * d by omega), (show 8 + (4 + 11) + (60) ≤ 6120 + 200 * d by omega)⟩) (c_preV (vc := (RX9, TX9, 8)) hK hP hD hG hq hk (by decide) rfl) rfl rfl hl.1 rfl (lv_room (Nat.le_of_ble_eq_true rfl)) dX9_form_50 ⟨Nat.le_of_ble_eq_true rfl, Nat.le_of_ble_eq_true rfl⟩) hD hS hA (fun r8 ci8 ai8 al8 H locs h hP hD hS => ?_)
        refine lv_goto (tgt := 57) hx hb dX9_form_53 (by decide) ?_
        exact W.iret (v := r8) hx hb hr (fun t ht hW => ⟨⟨_, (ci8, ai8, al8), rfl, h, by rw [ht]; exact hP, cK.moved hW.alike hK, hD⟩, hS.F ht⟩) hS.2.2 dX9_form_57
      · have h := h.2 c_28
        refine lv_iload_n hx hb dX9_form_31 rfl (lv_at hl 0 rfl) ?_
        refine lv_iconst (v := 2) hx hb dX9_form_32 (by decide) ?_
        refine lv_icmp_ne (tgt := 56) hx hb dX9_form_33 (by decide) (fun c_33 => ?_) (fun c_33 => ?_)
        · have h := h.1 c_33
          refine lv_iload_n hx hb dX9_form_56 rfl (lv_at hl 0 rfl) ?_
          exact W.iret (v := r6) hx hb hr (fun t ht hW => ⟨⟨_, (ci6, ai6, al6), rfl, h, by rw [ht]; exact hP, cK.moved hW.alike hK, hD⟩, hS.F ht⟩) hS.2.2 dX9_form_57
        · have h := h.2 c_33
          refine lv_aload_n hx hb dX9_form_36 rfl (lv_at hl 1 rfl) ?_
          refine lv_iload_n hx hb dX9_form_37 rfl (lv_at hl 2 rfl) ?_
          refine lv_aload_n hx hb dX9_form_38 rfl (lv_at hl 1 rfl) ?_
          refine c_get (C := RX9) (T := TX9) (N := 8) (K := 8) (v := .int (ci6 q 7)) hx hb hts hinX9 hown hK hP hq hk (by decide) rfl 7 (by decide) (hts _ mwC_177) (fun _ h9 => h9) rfl dX9_form_39 ?_
          refine lv_aload_n hx hb dX9_form_42 rfl (lv_at hl 1 rfl) ?_
          refine c_get (C := RX9) (T := TX9) (N := 8) (K := 8) (v := .ref q1) hx hb hts hinX9 hown hK hP hq hk (by decide) rfl 6 (by decide) (hts _ mwC_225) (fun _ h9 => h9) (by show some (va_rf (sR sh q 6)) = _; rw [e2]; rfl) dX9_form_43 ?_
          refine lv_iload_n hx hb dX9_form_46 rfl (lv_at hl 2 rfl) ?_
          obtain ⟨hi9, h⟩ := h
          refine c_iald hx hb hK hP hm3 hk4 hi9 dX9_form_47 ?_
          refine lv_isub hx hb dX9_form_48 ?_
          refine lv_i2l hx hb dX9_form_49 rfl ?_
          refine c_endi (va_runU (C := RX9) (owner := "NeededLists$LazyList") (rm := ({ frames := 4, cells := 0, slots := 0, locals := 60 })) (As := [.int p0, .long (((ci6 q 7) - (ai6 q1 p0.toNatClampNeg)).toInt64)]) (rest := []) ⟨hx, hb, hml, hown, hts⟩ (p_X5_tell l dC dI sh _ _ _ q p0 (((ci6 q 7) - (ai6 q1 p0.toNatClampNeg)).toInt64) _ h H.size) (va_cwU (x := ⟨"NeededLists$Runs", "tell", "(IJ)I"⟩) 2 hts (g_U gdC mwC_266 mwC_267 mwC_268 mwC_125 mwC_22 mwC_126) rfl rfl rfl rfl ⟨by decide, by decide, by decide +kernel⟩ ⟨(show 4 + 1 ≤ 303 + 5 * d by omega), (show 8 + (4 + 11) + (60) ≤ 6120 + 200 * d by omega)⟩) (c_preV (vc := (RX9, TX9, 8)) hK hP hD hG hq hk (by decide) rfl) rfl rfl hl.1 rfl (lv_room (Nat.le_of_ble_eq_true rfl)) dX9_form_50 ⟨Nat.le_of_ble_eq_true rfl, Nat.le_of_ble_eq_true rfl⟩) hD hS hA (fun r10 ci10 ai10 al10 H locs h hP hD hS => ?_)
          refine lv_goto (tgt := 57) hx hb dX9_form_53 (by decide) ?_
          exact W.iret (v := r10) hx hb hr (fun t ht hW => ⟨⟨_, (ci10, ai10, al10), rfl, h, by rw [ht]; exact hP, cK.moved hW.alike hK, hD⟩, hS.F ht⟩) hS.2.2 dX9_form_57
    · have h := h.2 c_10
      refine lv_iconst (v := 3) hx hb dX9_form_13 (by decide) ?_
      exact W.iret (v := 3) hx hb hr (fun t ht hW => ⟨⟨_, (ci, ai, al), rfl, h, by rw [ht]; exact hP, cK.moved hW.alike hK, hD⟩, hS.F ht⟩) hS.2.2 dX9_form_14

def P_V_seek (sh : Sh) (Gr Gw : (Nat → Nat → Int32) → (Nat → Nat → Int32) → (Nat → Nat → Int64) → Nat → Int32 → (Int32 → (Nat → Nat → Int32) → (Nat → Nat → Int32) → (Nat → Nat → Int64) → Prop) → Prop) (ci : Nat → Nat → Int32) (ai : Nat → Nat → Int32) (al : Nat → Nat → Int64) (q : Nat) (k : Int32) (Q : Int32 → (Nat → Nat → Int32) → (Nat → Nat → Int32) → (Nat → Nat → Int64) → Prop) : Prop := (sK sh q = 0 → P_X0_seek sh Gr Gw ci ai al q k Q) ∧ (sK sh q = 1 → P_X1_seek sh Gr Gw ci ai al q k Q) ∧ (sK sh q = 2 → P_X2_seek sh Gr Gw ci ai al q k Q) ∧ (sK sh q = 3 → P_X3_seek sh ci ai al q k Q) ∧ (sK sh q = 4 → P_X4_seek sh Gr Gw ci ai al q k Q) ∧ (sK sh q = 6 → P_X7_seek sh Gr Gw ci ai al q k Q) ∧ (sK sh q = 7 → P_X8_seek sh Gr Gw ci ai al q k Q) ∧ (sK sh q = 8 → P_X9_seek sh Gr Gw ci ai al q k Q) ∧ (sK sh q = 9 → P_X10_seek sh Gr Gw ci ai al q k Q)
set_option maxHeartbeats 4000000 in
set_option maxRecDepth 100000 in
theorem v_seek {p : Program} {l : Launch} {e : Env} {R : Room} {s : State} {m : MethodId} {args : Array Value} {below : List Frame} {meth : Method} {c : Code} {H : Heap} {locs : List Loc} {cells slots : Nat}  {cc : ByteArray} {pc : Nat} {ls : Array Slot} {rest st : List Value} {A : Nat → Prop} {dC : Nat → ClassId} {dI : Nat → Nat → Nat} {sh : Sh} {ci : Nat → Nat → Int32} {ai : Nat → Nat → Int32} {al : Nat → Nat → Int64} {nL q : Nat} {k9 : Int32} {Q : Int32 → (Nat → Nat → Int32) → (Nat → Nat → Int32) → (Nat → Nat → Int64) → Prop} {d : Nat} {Gr Gw : (Nat → Nat → Int32) → (Nat → Nat → Int32) → (Nat → Nat → Int64) → Nat → Int32 → (Int32 → (Nat → Nat → Int32) → (Nat → Nat → Int32) → (Nat → Nat → Int64) → Prop) → Prop} (hGr : GM l dC dI sh yX5_reach wmX5_reach ({ frames := 300 + 5 * d, cells := 0, slots := 0, locals := 6000 + 200 * d }) Gr) (hGw : GM l dC dI sh yX5_work wmX5_work ({ frames := 300 + 5 * d, cells := 0, slots := 0, locals := 6000 + 200 * d }) Gw) (h : P_V_seek sh Gr Gw ci ai al q k9 Q) (S : CallFix p m c cc nL s args WC RX5) (hK : cK dC dI sh s) (hP : va_P (dC, dI) vwCl (cW sh ci ai al) H) (hD : va_D A (cW sh ci ai al)) (hG : Gc s) (hq : q ∈ sL sh) (hz : isZ (sK sh q)) (hR : 303 + 5 * d + 1 ≤ R.frames ∧ 8 + (10 + 11) + (6120 + 200 * d) ≤ R.locals) (hsize : ls.size = nL) (hst : st = .int k9 :: .ref q :: rest) (hW : (rest.map fun v => v.category).sum ≤ 8) (hf : cells ≤ R.cells ∧ slots ≤ R.slots) (hdg : decode cc pc = .ok (.invokevirtual 36, 3)) : va_Run p l e R s m args below meth c H locs cells slots 0 0 (F0 m pc ls st) rest (va_Qi (S := CSt) (cI Q) (cB dC dI sh (va_A (cW sh ci ai al) H.size)) (va_A (cW sh ci ai al) H.size) (Value.ref q :: [.int k9]).toArray) (va_A (cW sh ci ai al) H.size) := by
  have hts := S.2.2.2.2
  rcases hz with e | e | e | e | e | e | e | e | e
  · exact va_runU (C := RX0) (owner := "NeededLists$LazyList") (rm := ({ frames := 303 + 5 * d, cells := 0, slots := 0, locals := 6120 + 200 * d })) (As := [.int k9]) S (p_X0_seek l dC dI sh d hGr hGw _ _ _ q k9 _ (h.1 e) H.size) (va_cwA (x := ⟨"NeededLists$LazyList", "seek", "(I)I"⟩) 1 hts (g_U gdC mwC_269 mwC_270 mwC_271 mwC_272 mwC_250 mwC_273) rfl rfl rfl hG.seekD ⟨by decide, by decide, by decide +kernel⟩ ⟨(show 303 + 5 * d + 1 ≤ R.frames by omega), (show 8 + (2 + 11) + (6120 + 200 * d) ≤ R.locals by omega)⟩) (c_preV (vc := (RX0, TX0, 9)) hK hP hD hG hq e (by decide) rfl) rfl rfl hsize hst (lv_room hW) hdg hf
  · exact va_runU (C := RX1) (owner := "NeededLists$LazyList") (rm := ({ frames := 303 + 5 * d, cells := 0, slots := 0, locals := 6120 + 200 * d })) (As := [.int k9]) S (p_X1_seek l dC dI sh d hGr hGw _ _ _ q k9 _ (h.2.1 e) H.size) (va_cwA (x := ⟨"NeededLists$LazyList", "seek", "(I)I"⟩) 1 hts (g_U gdC mwC_269 mwC_270 mwC_274 mwC_275 mwC_276 mwC_277) rfl rfl rfl hG.seekD ⟨by decide, by decide, by decide +kernel⟩ ⟨(show 303 + 5 * d + 1 ≤ R.frames by omega), (show 8 + (3 + 11) + (6120 + 200 * d) ≤ R.locals by omega)⟩) (c_preV (vc := (RX1, TX1, 9)) hK hP hD hG hq e (by decide) rfl) rfl rfl hsize hst (lv_room hW) hdg hf
  · exact va_runU (C := RX2) (owner := "NeededLists$LazyList") (rm := ({ frames := 303 + 5 * d, cells := 0, slots := 0, locals := 6120 + 200 * d })) (As := [.int k9]) S (p_X2_seek l dC dI sh d hGr hGw _ _ _ q k9 _ (h.2.2.1 e) H.size) (va_cwA (x := ⟨"NeededLists$LazyList", "seek", "(I)I"⟩) 1 hts (g_U gdC mwC_269 mwC_270 mwC_278 mwC_279 mwC_49 mwC_280) rfl rfl rfl hG.seekD ⟨by decide, by decide, by decide +kernel⟩ ⟨(show 303 + 5 * d + 1 ≤ R.frames by omega), (show 8 + (4 + 11) + (6120 + 200 * d) ≤ R.locals by omega)⟩) (c_preV (vc := (RX2, TX2, 9)) hK hP hD hG hq e (by decide) rfl) rfl rfl hsize hst (lv_room hW) hdg hf
  · exact va_runU (C := RX3) (owner := "NeededLists$LazyList") (rm := ({ frames := 12, cells := 0, slots := 0, locals := 200 })) (As := [.int k9]) S (p_X3_seek l dC dI sh _ _ _ q k9 _ (h.2.2.2.1 e) H.size) (va_cwA (x := ⟨"NeededLists$LazyList", "seek", "(I)I"⟩) 1 hts (g_U gdC mwC_269 mwC_270 mwC_281 mwC_282 mwC_283 mwC_284) rfl rfl rfl hG.seekD ⟨by decide, by decide, by decide +kernel⟩ ⟨(show 12 + 1 ≤ R.frames by omega), (show 8 + (2 + 11) + (200) ≤ R.locals by omega)⟩) (c_preV (vc := (RX3, TX3, 7)) hK hP hD hG hq e (by decide) rfl) rfl rfl hsize hst (lv_room hW) hdg hf
  · exact va_runU (C := RX4) (owner := "NeededLists$LazyList") (rm := ({ frames := 303 + 5 * d, cells := 0, slots := 0, locals := 6120 + 200 * d })) (As := [.int k9]) S (p_X4_seek l dC dI sh d hGr hGw _ _ _ q k9 _ (h.2.2.2.2.1 e) H.size) (va_cwA (x := ⟨"NeededLists$LazyList", "seek", "(I)I"⟩) 1 hts (g_U gdC mwC_269 mwC_270 mwC_285 mwC_286 mwC_54 mwC_287) rfl rfl rfl hG.seekD ⟨by decide, by decide, by decide +kernel⟩ ⟨(show 303 + 5 * d + 1 ≤ R.frames by omega), (show 8 + (3 + 11) + (6120 + 200 * d) ≤ R.locals by omega)⟩) (c_preV (vc := (RX4, TX4, 7)) hK hP hD hG hq e (by decide) rfl) rfl rfl hsize hst (lv_room hW) hdg hf
  · exact va_runU (C := RX7) (owner := "NeededLists$LazyList") (rm := ({ frames := 303 + 5 * d, cells := 0, slots := 0, locals := 6120 + 200 * d })) (As := [.int k9]) S (p_X7_seek l dC dI sh d hGr hGw _ _ _ q k9 _ (h.2.2.2.2.2.1 e) H.size) (va_cwA (x := ⟨"NeededLists$LazyList", "seek", "(I)I"⟩) 1 hts (g_U gdC mwC_269 mwC_270 mwC_288 mwC_289 mwC_58 mwC_290) rfl rfl rfl hG.seekD ⟨by decide, by decide, by decide +kernel⟩ ⟨(show 303 + 5 * d + 1 ≤ R.frames by omega), (show 8 + (4 + 11) + (6120 + 200 * d) ≤ R.locals by omega)⟩) (c_preV (vc := (RX7, TX7, 7)) hK hP hD hG hq e (by decide) rfl) rfl rfl hsize hst (lv_room hW) hdg hf
  · exact va_runU (C := RX8) (owner := "NeededLists$LazyList") (rm := ({ frames := 303 + 5 * d, cells := 0, slots := 0, locals := 6120 + 200 * d })) (As := [.int k9]) S (p_X8_seek l dC dI sh d hGr hGw _ _ _ q k9 _ (h.2.2.2.2.2.2.1 e) H.size) (va_cwA (x := ⟨"NeededLists$LazyList", "seek", "(I)I"⟩) 1 hts (g_U gdC mwC_269 mwC_270 mwC_291 mwC_292 mwC_62 mwC_293) rfl rfl rfl hG.seekD ⟨by decide, by decide, by decide +kernel⟩ ⟨(show 303 + 5 * d + 1 ≤ R.frames by omega), (show 8 + (2 + 11) + (6120 + 200 * d) ≤ R.locals by omega)⟩) (c_preV (vc := (RX8, TX8, 9)) hK hP hD hG hq e (by decide) rfl) rfl rfl hsize hst (lv_room hW) hdg hf
  · exact va_runU (C := RX9) (owner := "NeededLists$LazyList") (rm := ({ frames := 303 + 5 * d, cells := 0, slots := 0, locals := 6120 + 200 * d })) (As := [.int k9]) S (p_X9_seek l dC dI sh d hGr hGw _ _ _ q k9 _ (h.2.2.2.2.2.2.2.1 e) H.size) (va_cwA (x := ⟨"NeededLists$LazyList", "seek", "(I)I"⟩) 1 hts (g_U gdC mwC_269 mwC_270 mwC_294 mwC_295 mwC_229 mwC_296) rfl rfl rfl hG.seekD ⟨by decide, by decide, by decide +kernel⟩ ⟨(show 303 + 5 * d + 1 ≤ R.frames by omega), (show 8 + (3 + 11) + (6120 + 200 * d) ≤ R.locals by omega)⟩) (c_preV (vc := (RX9, TX9, 8)) hK hP hD hG hq e (by decide) rfl) rfl rfl hsize hst (lv_room hW) hdg hf
  · exact va_runU (C := RX10) (owner := "NeededLists$LazyList") (rm := ({ frames := 303 + 5 * d, cells := 0, slots := 0, locals := 6120 + 200 * d })) (As := [.int k9]) S (p_X10_seek l dC dI sh d hGr hGw _ _ _ q k9 _ (h.2.2.2.2.2.2.2.2 e) H.size) (va_cwA (x := ⟨"NeededLists$LazyList", "seek", "(I)I"⟩) 1 hts (g_U gdC mwC_269 mwC_270 mwC_297 mwC_298 mwC_67 mwC_299) rfl rfl rfl hG.seekD ⟨by decide, by decide, by decide +kernel⟩ ⟨(show 303 + 5 * d + 1 ≤ R.frames by omega), (show 8 + (5 + 11) + (6120 + 200 * d) ≤ R.locals by omega)⟩) (c_preV (vc := (RX10, TX10, 9)) hK hP hD hG hq e (by decide) rfl) rfl rfl hsize hst (lv_room hW) hdg hf
