theorem dX1_form_0 : decode cX1_form 0 = .ok (.lconst 0, 1) := by decide +kernel
theorem dX1_form_1 : decode cX1_form 1 = .ok (.lstore_n 2, 1) := by decide +kernel
theorem dX1_form_2 : decode cX1_form 2 = .ok (.aload_n 0, 1) := by decide +kernel
theorem dX1_form_3 : decode cX1_form 3 = .ok (.getfield 18, 3) := by decide +kernel
theorem dX1_form_6 : decode cX1_form 6 = .ok (.bipush 8, 2) := by decide +kernel
theorem dX1_form_8 : decode cX1_form 8 = .ok (.if_icmp .eq 31, 3) := by decide +kernel
theorem dX1_form_11 : decode cX1_form 11 = .ok (.aload_n 0, 1) := by decide +kernel
theorem dX1_form_12 : decode cX1_form 12 = .ok (.getfield 9, 3) := by decide +kernel
theorem dX1_form_15 : decode cX1_form 15 = .ok (.iload_n 1, 1) := by decide +kernel
theorem dX1_form_16 : decode cX1_form 16 = .ok (.invokevirtual 30, 3) := by decide +kernel
theorem dX1_form_19 : decode cX1_form 19 = .ok (.istore 4, 2) := by decide +kernel
theorem dX1_form_21 : decode cX1_form 21 = .ok (.iload 4, 2) := by decide +kernel
theorem dX1_form_23 : decode cX1_form 23 = .ok (.iconst 1, 1) := by decide +kernel
theorem dX1_form_24 : decode cX1_form 24 = .ok (.if_icmp .eq 6, 3) := by decide +kernel
theorem dX1_form_27 : decode cX1_form 27 = .ok (.iload 4, 2) := by decide +kernel
theorem dX1_form_29 : decode cX1_form 29 = .ok (.ireturn, 1) := by decide +kernel
theorem dX1_form_30 : decode cX1_form 30 = .ok (.aload_n 0, 1) := by decide +kernel
theorem dX1_form_31 : decode cX1_form 31 = .ok (.getfield 9, 3) := by decide +kernel
theorem dX1_form_34 : decode cX1_form 34 = .ok (.iload_n 1, 1) := by decide +kernel
theorem dX1_form_35 : decode cX1_form 35 = .ok (.invokevirtual 33, 3) := by decide +kernel
theorem dX1_form_38 : decode cX1_form 38 = .ok (.lstore_n 2, 1) := by decide +kernel
theorem dX1_form_39 : decode cX1_form 39 = .ok (.aload_n 0, 1) := by decide +kernel
theorem dX1_form_40 : decode cX1_form 40 = .ok (.getfield 22, 3) := by decide +kernel
theorem dX1_form_43 : decode cX1_form 43 = .ok (.lstore 4, 2) := by decide +kernel
theorem dX1_form_45 : decode cX1_form 45 = .ok (.aload_n 0, 1) := by decide +kernel
theorem dX1_form_46 : decode cX1_form 46 = .ok (.getfield 18, 3) := by decide +kernel
theorem dX1_form_49 : decode cX1_form 49 = .ok (.bipush 7, 2) := by decide +kernel
theorem dX1_form_51 : decode cX1_form 51 = .ok (.if_icmp .eq 39, 3) := by decide +kernel
theorem dX1_form_54 : decode cX1_form 54 = .ok (.aload_n 0, 1) := by decide +kernel
theorem dX1_form_55 : decode cX1_form 55 = .ok (.getfield 15, 3) := by decide +kernel
theorem dX1_form_58 : decode cX1_form 58 = .ok (.ifnull 32, 3) := by decide +kernel
theorem dX1_form_61 : decode cX1_form 61 = .ok (.aload_n 0, 1) := by decide +kernel
theorem dX1_form_62 : decode cX1_form 62 = .ok (.getfield 15, 3) := by decide +kernel
theorem dX1_form_65 : decode cX1_form 65 = .ok (.iload_n 1, 1) := by decide +kernel
theorem dX1_form_66 : decode cX1_form 66 = .ok (.invokevirtual 30, 3) := by decide +kernel
theorem dX1_form_69 : decode cX1_form 69 = .ok (.istore 6, 2) := by decide +kernel
theorem dX1_form_71 : decode cX1_form 71 = .ok (.iload 6, 2) := by decide +kernel
theorem dX1_form_73 : decode cX1_form 73 = .ok (.iconst 1, 1) := by decide +kernel
theorem dX1_form_74 : decode cX1_form 74 = .ok (.if_icmp .eq 6, 3) := by decide +kernel
theorem dX1_form_77 : decode cX1_form 77 = .ok (.iload 6, 2) := by decide +kernel
theorem dX1_form_79 : decode cX1_form 79 = .ok (.ireturn, 1) := by decide +kernel
theorem dX1_form_80 : decode cX1_form 80 = .ok (.aload_n 0, 1) := by decide +kernel
theorem dX1_form_81 : decode cX1_form 81 = .ok (.getfield 15, 3) := by decide +kernel
theorem dX1_form_84 : decode cX1_form 84 = .ok (.iload_n 1, 1) := by decide +kernel
theorem dX1_form_85 : decode cX1_form 85 = .ok (.invokevirtual 33, 3) := by decide +kernel
theorem dX1_form_88 : decode cX1_form 88 = .ok (.lstore 4, 2) := by decide +kernel
theorem dX1_form_90 : decode cX1_form 90 = .ok (.aload_n 0, 1) := by decide +kernel
theorem dX1_form_91 : decode cX1_form 91 = .ok (.iload_n 1, 1) := by decide +kernel
theorem dX1_form_92 : decode cX1_form 92 = .ok (.aload_n 0, 1) := by decide +kernel
theorem dX1_form_93 : decode cX1_form 93 = .ok (.getfield 18, 3) := by decide +kernel
theorem dX1_form_96 : decode cX1_form 96 = .ok (.lload_n 2, 1) := by decide +kernel
theorem dX1_form_97 : decode cX1_form 97 = .ok (.lload 4, 2) := by decide +kernel
theorem dX1_form_99 : decode cX1_form 99 = .ok (.invokevirtual 37, 3) := by decide +kernel
theorem dX1_form_102 : decode cX1_form 102 = .ok (.ireturn, 1) := by decide +kernel
abbrev wmX1_form : List Cond := .code yX1_form cX1_form 7 (some .int) :: WC
theorem hd_X1_form : yX1_form.cls = RX1 ∧ yX1_form.cls ≠ "java/lang/invoke/MethodHandle" ∧ yX1_form.cls ≠ "java/lang/invoke/VarHandle" ∧ (parseMethodDescriptor yX1_form.desc).map (fun d => d.parameters.length) = some 1 := by decide +kernel
def P_X1_form (sh : Sh) (Gr Gw : (Nat → Nat → Int32) → (Nat → Nat → Int32) → (Nat → Nat → Int64) → Nat → Int32 → (Int32 → (Nat → Nat → Int32) → (Nat → Nat → Int32) → (Nat → Nat → Int64) → Prop) → Prop) (ci : Nat → Nat → Int32) (ai : Nat → Nat → Int32) (al : Nat → Nat → Int64) (q : Nat) (p0 : Int32) (Q : Int32 → (Nat → Nat → Int32) → (Nat → Nat → Int32) → (Nat → Nat → Int64) → Prop) : Prop := (q ∈ sL sh ∧ sK sh q = 1) ∧ (((ci q 7) = 8) → ((sR sh q 6 = none → (P_X5_tellOp sh ci ai al q p0 (ci q 7) 0 (sJ sh q 8) (fun r3 ci3 ai3 al3 => Q r3 ci3 ai3 al3))) ∧ (∀ q1 : Nat, sR sh q 6 = some q1 → ((q1 ∈ sL sh ∧ isZ (sK sh q1)) ∧ Gw ci ai al q1 p0 (fun r6 ci6 ai6 al6 => ((r6 = 1) → (P_X5_number_f sh 30 ci6 ai6 al6 q1 p0 (fun r7 => P_X5_tellOp sh ci6 ai6 al6 q p0 (ci6 q 7) 0 r7 (fun r8 ci8 ai8 al8 => Q r8 ci8 ai8 al8)))) ∧ ((¬ r6 = 1) → (Q r6 ci6 ai6 al6))))))) ∧ ((¬ (ci q 7) = 8) → (∃ q9 : Nat, sR sh q 5 = some q9 ∧ (q9 ∈ sL sh ∧ isZ (sK sh q9)) ∧ Gw ci ai al q9 p0 (fun r13 ci13 ai13 al13 => ((r13 = 1) → (P_X5_number_f sh 30 ci13 ai13 al13 q9 p0 (fun r14 => (((ci13 q 7) = 7) → (P_X5_tellOp sh ci13 ai13 al13 q p0 (ci13 q 7) r14 (sJ sh q 8) (fun r15 ci15 ai15 al15 => Q r15 ci15 ai15 al15))) ∧ ((¬ (ci13 q 7) = 7) → ((sR sh q 6 = none → (P_X5_tellOp sh ci13 ai13 al13 q p0 (ci13 q 7) r14 (sJ sh q 8) (fun r18 ci18 ai18 al18 => Q r18 ci18 ai18 al18))) ∧ (∀ q16 : Nat, sR sh q 6 = some q16 → ((q16 ∈ sL sh ∧ isZ (sK sh q16)) ∧ Gw ci13 ai13 al13 q16 p0 (fun r21 ci21 ai21 al21 => ((r21 = 1) → (P_X5_number_f sh 30 ci21 ai21 al21 q16 p0 (fun r22 => P_X5_tellOp sh ci21 ai21 al21 q p0 (ci21 q 7) r14 r22 (fun r23 ci23 ai23 al23 => Q r23 ci23 ai23 al23)))) ∧ ((¬ r21 = 1) → (Q r21 ci21 ai21 al21)))))))))) ∧ ((¬ r13 = 1) → (Q r13 ci13 ai13 al13)))))
set_option maxHeartbeats 4000000 in
set_option maxRecDepth 100000 in
theorem p_X1_form (l : Launch) (dC : Nat → ClassId) (dI : Nat → Nat → Nat) (sh : Sh) (d : Nat) {Gr Gw : (Nat → Nat → Int32) → (Nat → Nat → Int32) → (Nat → Nat → Int64) → Nat → Int32 → (Int32 → (Nat → Nat → Int32) → (Nat → Nat → Int32) → (Nat → Nat → Int64) → Prop) → Prop} (hGr : GM l dC dI sh yX5_reach wmX5_reach ({ frames := 300 + 5 * d, cells := 0, slots := 0, locals := 6000 + 200 * d }) Gr) (hGw : GM l dC dI sh yX5_work wmX5_work ({ frames := 300 + 5 * d, cells := 0, slots := 0, locals := 6000 + 200 * d }) Gw) (ci : Nat → Nat → Int32) (ai : Nat → Nat → Int32) (al : Nat → Nat → Int64) (q : Nat) (p0 : Int32) (Q : Int32 → (Nat → Nat → Int32) → (Nat → Nat → Int32) → (Nat → Nat → Int64) → Prop) (h : P_X1_form sh Gr Gw ci ai al q p0 Q) (sz : Nat) : Met l yX1_form wmX1_form ({ frames := 303 + 5 * d, cells := 0, slots := 0, locals := 6120 + 200 * d }) (va_Pc [.ref q, .int p0] (cPre dC dI sh ci ai al sz)) (va_Qi (S := CSt) (cI Q) (cB dC dI sh (va_A (cW sh ci ai al) sz)) (va_A (cW sh ci ai al) sz)) 0 0 (va_A (cW sh ci ai al) sz) := by
  refine Met.ofW (cc := cX1_form) (maxL := 7) (ret := (some .int)) (by decide) rfl ?_
  intro p e s m args below meth c s₁ B hml hv
  obtain ⟨rfl, hsz, hP, hK, hD0, hG⟩ := hv
  have hx := B.exec
  have hb := B.bytes
  have hr := B.returns
  have hts : ∀ w ∈ WC, w.before _ s = true := fun w h => atoms_spec (ws := wmX1_form) B.pre w (List.mem_cons_of_mem _ h)
  have hown : s.vm.findClass RX1 = some m.cls := findClass_of_methodNamed B.named
  have hlocks := B.notSynchronized
  subst hsz
  have hD := hD0.self (sz := s.heap.size)
  generalize hAe : va_A (cW sh ci ai al) s.heap.size = A at hD ⊢
  have hA : ∀ q : Nat, s.heap.size ≤ q → A q := fun q h => by rw [← hAe]; exact Or.inr h
  generalize hH : s.heap = H at hP ⊢
  have hS : va_S A s.heap H [] := by rw [← hH]; exact va_S.rf
  have hl := lv_entry [.ref q, .int p0] (n := 7) (Nat.le_of_ble_eq_true rfl)
  rw [lg_entry_eq]
  generalize (lg_sl [.ref q, .int p0] ++ List.replicate (7 - (lg_sl [.ref q, .int p0]).length) Slot.unset).toArray = ls at hl ⊢
  have hl : lv_has ls 7 [(0, .ref q), (1, .int p0)] := hl
  unfold P_X1_form at h
  obtain ⟨⟨hq, hk⟩, h⟩ := h
  refine lv_lconst (v := 0) hx hb dX1_form_0 (by decide) ?_
  refine lv_lstore_n (lv' := [(2, .long 0), (0, .ref q), (1, .int p0)]) hx hb dX1_form_1 rfl hl (by decide) rfl (fun ls hl => ?_)
  refine lv_aload_n hx hb dX1_form_2 rfl (lv_at hl 1 rfl) ?_
  refine c_get (C := RX1) (T := TX1) (N := 9) (K := 1) (v := .int (ci q 7)) hx hb hts hinX1 hown hK hP hq hk (by decide) rfl 7 (by decide) (hts _ mwC_259) (fun _ h9 => h9) rfl dX1_form_3 ?_
  refine lv_bipush (v := 8) hx hb dX1_form_6 (by decide) ?_
  refine lv_icmp_eq (tgt := 39) hx hb dX1_form_8 (by decide) (fun c_8 => ?_) (fun c_8 => ?_)
  · have h := h.1 c_8
    refine lv_aload_n hx hb dX1_form_39 rfl (lv_at hl 1 rfl) ?_
    refine c_get (C := RX1) (T := TX1) (N := 9) (K := 1) (v := .long (sJ sh q 8)) hx hb hts hinX1 hown hK hP hq hk (by decide) rfl 8 (by decide) (hts _ mwC_260) (fun _ h9 => h9) rfl dX1_form_40 ?_
    refine lv_lstore (lv' := [(4, .long (sJ sh q 8)), (2, .long 0), (0, .ref q), (1, .int p0)]) hx hb dX1_form_43 hl (by decide) rfl (fun ls hl => ?_)
    refine lv_aload_n hx hb dX1_form_45 rfl (lv_at hl 2 rfl) ?_
    refine c_get (C := RX1) (T := TX1) (N := 9) (K := 1) (v := .int (ci q 7)) hx hb hts hinX1 hown hK hP hq hk (by decide) rfl 7 (by decide) (hts _ mwC_259) (fun _ h9 => h9) rfl dX1_form_46 ?_
    refine lv_bipush (v := 7) hx hb dX1_form_49 (by decide) ?_
    refine lv_icmp_eq (tgt := 90) hx hb dX1_form_51 (by decide) (fun c_51 => ?_) (fun c_51 => ?_)
    · exact absurd (c_8.symm.trans c_51) (by decide)
    · refine lv_aload_n hx hb dX1_form_54 rfl (lv_at hl 2 rfl) ?_
      rcases e2 : sR sh q 6 with _ | q1
      · have h := h.1 e2
        refine c_get (C := RX1) (T := TX1) (N := 9) (K := 1) (v := .null) hx hb hts hinX1 hown hK hP hq hk (by decide) rfl 6 (by decide) (hts _ mwC_194) (fun _ h9 => h9) (by show some (va_rf (sR sh q 6)) = _; rw [e2]; rfl) dX1_form_55 ?_
        refine lv_ifnullN (tgt := 90) hx hb dX1_form_58 (by decide) ?_
        refine lv_aload_n hx hb dX1_form_90 rfl (lv_at hl 2 rfl) ?_
        refine lv_iload_n hx hb dX1_form_91 rfl (lv_at hl 3 rfl) ?_
        refine lv_aload_n hx hb dX1_form_92 rfl (lv_at hl 2 rfl) ?_
        refine c_get (C := RX1) (T := TX1) (N := 9) (K := 1) (v := .int (ci q 7)) hx hb hts hinX1 hown hK hP hq hk (by decide) rfl 7 (by decide) (hts _ mwC_259) (fun _ h9 => h9) rfl dX1_form_93 ?_
        refine lv_lload_n hx hb dX1_form_96 rfl (lv_at hl 1 rfl) ?_
        refine lv_lload hx hb dX1_form_97 (lv_at hl 0 rfl) ?_
        refine c_endi (va_runU (C := RX1) (owner := "NeededLists$LazyList") (rm := ({ frames := 40, cells := 0, slots := 0, locals := 600 })) (As := [.int p0, .int (ci q 7), .long 0, .long (sJ sh q 8)]) (rest := []) ⟨hx, hb, hml, hown, hts⟩ (p_X5_tellOp l dC dI sh _ _ _ q p0 (ci q 7) 0 (sJ sh q 8) _ h H.size) (va_cwU (x := ⟨"NeededLists$Combined", "tellOp", "(IIJJ)I"⟩) 4 hts (g_U gdC mwC_261 mwC_262 mwC_263 mwC_243 mwC_22 mwC_244) rfl rfl rfl rfl ⟨by decide, by decide, by decide +kernel⟩ ⟨(show 40 + 1 ≤ 303 + 5 * d by omega), (show 8 + (7 + 11) + (600) ≤ 6120 + 200 * d by omega)⟩) (c_preV (vc := (RX1, TX1, 9)) hK hP hD hG hq hk (by decide) rfl) rfl rfl hl.1 rfl (lv_room (Nat.le_of_ble_eq_true rfl)) dX1_form_99 ⟨Nat.le_of_ble_eq_true rfl, Nat.le_of_ble_eq_true rfl⟩) hD hS hA (fun r3 ci3 ai3 al3 H locs h hP hD hS => ?_)
        exact W.iret (v := r3) hx hb hr (fun t ht hW => ⟨⟨_, (ci3, ai3, al3), rfl, h, by rw [ht]; exact hP, cK.moved hW.alike hK, hD⟩, hS.F ht⟩) hS.2.2 dX1_form_102
      · have h := h.2 q1 e2
        refine c_get (C := RX1) (T := TX1) (N := 9) (K := 1) (v := .ref q1) hx hb hts hinX1 hown hK hP hq hk (by decide) rfl 6 (by decide) (hts _ mwC_194) (fun _ h9 => h9) (by show some (va_rf (sR sh q 6)) = _; rw [e2]; rfl) dX1_form_55 ?_
        refine lv_ifnull hx hb dX1_form_58 ?_
        refine lv_aload_n hx hb dX1_form_61 rfl (lv_at hl 2 rfl) ?_
        refine c_get (C := RX1) (T := TX1) (N := 9) (K := 1) (v := .ref q1) hx hb hts hinX1 hown hK hP hq hk (by decide) rfl 6 (by decide) (hts _ mwC_194) (fun _ h9 => h9) (by show some (va_rf (sR sh q 6)) = _; rw [e2]; rfl) dX1_form_62 ?_
        refine lv_iload_n hx hb dX1_form_65 rfl (lv_at hl 3 rfl) ?_
        obtain ⟨⟨hm4, hk5⟩, h⟩ := h
        refine c_endi (c_runZ (rm := ({ frames := 300 + 5 * d, cells := 0, slots := 0, locals := 6000 + 200 * d })) (y := yX5_work) (x := ⟨"NeededLists$LazyList", "work", "(I)I"⟩) (n := 1) (bytes := cX5_work) (maxL := 4) (ret := (some .int)) (q := q1) (As := [.int p0]) (rest := []) ⟨hx, hb, hml, hown, hts⟩ (hGw _ _ _ q1 p0 _ h H.size) mwC_264 mwC_159 mwC_160 mwC_22 mwC_161 mwC_162 mwC_163 mwC_164 mwC_165 mwC_166 mwC_167 mwC_168 mwC_169 mwC_170 rfl (by decide +kernel) rfl rfl ⟨(show 300 + 5 * d + 1 ≤ 303 + 5 * d by omega), (show 8 + (4 + 11) + (6000 + 200 * d) ≤ 6120 + 200 * d by omega)⟩ hK hP hD hG hm4 hk5 rfl hl.1 rfl (Nat.le_of_ble_eq_true rfl) ⟨Nat.le_of_ble_eq_true rfl, Nat.le_of_ble_eq_true rfl⟩ dX1_form_66) hD hS hA (fun r6 ci6 ai6 al6 H locs h hP hD hS => ?_)
        refine lv_istore (lv' := [(6, .int r6), (4, .long (sJ sh q 8)), (2, .long 0), (0, .ref q), (1, .int p0)]) hx hb dX1_form_69 hl (by decide) rfl (fun ls hl => ?_)
        refine lv_iload hx hb dX1_form_71 (lv_at hl 0 rfl) ?_
        refine lv_iconst (v := 1) hx hb dX1_form_73 (by decide) ?_
        refine lv_icmp_eq (tgt := 80) hx hb dX1_form_74 (by decide) (fun c_74 => ?_) (fun c_74 => ?_)
        · have h := h.1 c_74
          refine lv_aload_n hx hb dX1_form_80 rfl (lv_at hl 3 rfl) ?_
          refine c_get (C := RX1) (T := TX1) (N := 9) (K := 1) (v := .ref q1) hx hb hts hinX1 hown hK hP hq hk (by decide) rfl 6 (by decide) (hts _ mwC_194) (fun _ h9 => h9) (by show some (va_rf (sR sh q 6)) = _; rw [e2]; rfl) dX1_form_81 ?_
          refine lv_iload_n hx hb dX1_form_84 rfl (lv_at hl 4 rfl) ?_
          refine r_endl (c_runZ (rm := ({ frames := 20 + 2 * 30, cells := 0, slots := 0, locals := 300 + 50 * 30 })) (y := yX5_number) (x := ⟨"NeededLists$LazyList", "number", "(I)J"⟩) (n := 1) (bytes := cX5_number) (maxL := 3) (ret := (some .long)) (q := q1) (As := [.int p0]) (rest := []) ⟨hx, hb, hml, hown, hts⟩ (p_X5_number_f l dC dI sh 30 _ _ _ q1 p0 _ h H.size) mwC_265 mwC_92 mwC_93 mwC_22 mwC_94 mwC_95 mwC_96 mwC_97 mwC_98 mwC_99 mwC_100 mwC_101 mwC_102 mwC_103 rfl (by decide +kernel) rfl rfl ⟨(show 20 + 2 * 30 + 1 ≤ 303 + 5 * d by omega), (show 8 + (3 + 11) + (300 + 50 * 30) ≤ 6120 + 200 * d by omega)⟩ hK hP hD hG hm4 hk5 rfl hl.1 rfl (Nat.le_of_ble_eq_true rfl) ⟨Nat.le_of_ble_eq_true rfl, Nat.le_of_ble_eq_true rfl⟩ dX1_form_85) hP hS hA (fun r7 H locs h hP hS => ?_)
          refine lv_lstore (lv' := [(4, .long r7), (6, .int r6), (2, .long 0), (0, .ref q), (1, .int p0)]) hx hb dX1_form_88 hl (by decide) rfl (fun ls hl => ?_)
          refine lv_aload_n hx hb dX1_form_90 rfl (lv_at hl 3 rfl) ?_
          refine lv_iload_n hx hb dX1_form_91 rfl (lv_at hl 4 rfl) ?_
          refine lv_aload_n hx hb dX1_form_92 rfl (lv_at hl 3 rfl) ?_
          refine c_get (C := RX1) (T := TX1) (N := 9) (K := 1) (v := .int (ci6 q 7)) hx hb hts hinX1 hown hK hP hq hk (by decide) rfl 7 (by decide) (hts _ mwC_259) (fun _ h9 => h9) rfl dX1_form_93 ?_
          refine lv_lload_n hx hb dX1_form_96 rfl (lv_at hl 2 rfl) ?_
          refine lv_lload hx hb dX1_form_97 (lv_at hl 0 rfl) ?_
          refine c_endi (va_runU (C := RX1) (owner := "NeededLists$LazyList") (rm := ({ frames := 40, cells := 0, slots := 0, locals := 600 })) (As := [.int p0, .int (ci6 q 7), .long 0, .long r7]) (rest := []) ⟨hx, hb, hml, hown, hts⟩ (p_X5_tellOp l dC dI sh _ _ _ q p0 (ci6 q 7) 0 r7 _ h H.size) (va_cwU (x := ⟨"NeededLists$Combined", "tellOp", "(IIJJ)I"⟩) 4 hts (g_U gdC mwC_261 mwC_262 mwC_263 mwC_243 mwC_22 mwC_244) rfl rfl rfl rfl ⟨by decide, by decide, by decide +kernel⟩ ⟨(show 40 + 1 ≤ 303 + 5 * d by omega), (show 8 + (7 + 11) + (600) ≤ 6120 + 200 * d by omega)⟩) (c_preV (vc := (RX1, TX1, 9)) hK hP hD hG hq hk (by decide) rfl) rfl rfl hl.1 rfl (lv_room (Nat.le_of_ble_eq_true rfl)) dX1_form_99 ⟨Nat.le_of_ble_eq_true rfl, Nat.le_of_ble_eq_true rfl⟩) hD hS hA (fun r8 ci8 ai8 al8 H locs h hP hD hS => ?_)
          exact W.iret (v := r8) hx hb hr (fun t ht hW => ⟨⟨_, (ci8, ai8, al8), rfl, h, by rw [ht]; exact hP, cK.moved hW.alike hK, hD⟩, hS.F ht⟩) hS.2.2 dX1_form_102
        · have h := h.2 c_74
          refine lv_iload hx hb dX1_form_77 (lv_at hl 0 rfl) ?_
          exact W.iret (v := r6) hx hb hr (fun t ht hW => ⟨⟨_, (ci6, ai6, al6), rfl, h, by rw [ht]; exact hP, cK.moved hW.alike hK, hD⟩, hS.F ht⟩) hS.2.2 dX1_form_79
  · have h := h.2 c_8
    refine lv_aload_n hx hb dX1_form_11 rfl (lv_at hl 1 rfl) ?_
    obtain ⟨q9, e10, h⟩ := h
    refine c_get (C := RX1) (T := TX1) (N := 9) (K := 1) (v := .ref q9) hx hb hts hinX1 hown hK hP hq hk (by decide) rfl 5 (by decide) (hts _ mwC_192) (fun _ h9 => h9) (by show some (va_rf (sR sh q 5)) = _; rw [e10]; rfl) dX1_form_12 ?_
    refine lv_iload_n hx hb dX1_form_15 rfl (lv_at hl 2 rfl) ?_
    obtain ⟨⟨hm11, hk12⟩, h⟩ := h
    refine c_endi (c_runZ (rm := ({ frames := 300 + 5 * d, cells := 0, slots := 0, locals := 6000 + 200 * d })) (y := yX5_work) (x := ⟨"NeededLists$LazyList", "work", "(I)I"⟩) (n := 1) (bytes := cX5_work) (maxL := 4) (ret := (some .int)) (q := q9) (As := [.int p0]) (rest := []) ⟨hx, hb, hml, hown, hts⟩ (hGw _ _ _ q9 p0 _ h H.size) mwC_264 mwC_159 mwC_160 mwC_22 mwC_161 mwC_162 mwC_163 mwC_164 mwC_165 mwC_166 mwC_167 mwC_168 mwC_169 mwC_170 rfl (by decide +kernel) rfl rfl ⟨(show 300 + 5 * d + 1 ≤ 303 + 5 * d by omega), (show 8 + (4 + 11) + (6000 + 200 * d) ≤ 6120 + 200 * d by omega)⟩ hK hP hD hG hm11 hk12 rfl hl.1 rfl (Nat.le_of_ble_eq_true rfl) ⟨Nat.le_of_ble_eq_true rfl, Nat.le_of_ble_eq_true rfl⟩ dX1_form_16) hD hS hA (fun r13 ci13 ai13 al13 H locs h hP hD hS => ?_)
    refine lv_istore (lv' := [(4, .int r13), (2, .long 0), (0, .ref q), (1, .int p0)]) hx hb dX1_form_19 hl (by decide) rfl (fun ls hl => ?_)
    refine lv_iload hx hb dX1_form_21 (lv_at hl 0 rfl) ?_
    refine lv_iconst (v := 1) hx hb dX1_form_23 (by decide) ?_
    refine lv_icmp_eq (tgt := 30) hx hb dX1_form_24 (by decide) (fun c_24 => ?_) (fun c_24 => ?_)
    · have h := h.1 c_24
      refine lv_aload_n hx hb dX1_form_30 rfl (lv_at hl 2 rfl) ?_
      refine c_get (C := RX1) (T := TX1) (N := 9) (K := 1) (v := .ref q9) hx hb hts hinX1 hown hK hP hq hk (by decide) rfl 5 (by decide) (hts _ mwC_192) (fun _ h9 => h9) (by show some (va_rf (sR sh q 5)) = _; rw [e10]; rfl) dX1_form_31 ?_
      refine lv_iload_n hx hb dX1_form_34 rfl (lv_at hl 3 rfl) ?_
      refine r_endl (c_runZ (rm := ({ frames := 20 + 2 * 30, cells := 0, slots := 0, locals := 300 + 50 * 30 })) (y := yX5_number) (x := ⟨"NeededLists$LazyList", "number", "(I)J"⟩) (n := 1) (bytes := cX5_number) (maxL := 3) (ret := (some .long)) (q := q9) (As := [.int p0]) (rest := []) ⟨hx, hb, hml, hown, hts⟩ (p_X5_number_f l dC dI sh 30 _ _ _ q9 p0 _ h H.size) mwC_265 mwC_92 mwC_93 mwC_22 mwC_94 mwC_95 mwC_96 mwC_97 mwC_98 mwC_99 mwC_100 mwC_101 mwC_102 mwC_103 rfl (by decide +kernel) rfl rfl ⟨(show 20 + 2 * 30 + 1 ≤ 303 + 5 * d by omega), (show 8 + (3 + 11) + (300 + 50 * 30) ≤ 6120 + 200 * d by omega)⟩ hK hP hD hG hm11 hk12 rfl hl.1 rfl (Nat.le_of_ble_eq_true rfl) ⟨Nat.le_of_ble_eq_true rfl, Nat.le_of_ble_eq_true rfl⟩ dX1_form_35) hP hS hA (fun r14 H locs h hP hS => ?_)
      refine lv_lstore_n (lv' := [(2, .long r14), (4, .int r13), (0, .ref q), (1, .int p0)]) hx hb dX1_form_38 rfl hl (by decide) rfl (fun ls hl => ?_)
      refine lv_aload_n hx hb dX1_form_39 rfl (lv_at hl 2 rfl) ?_
      refine c_get (C := RX1) (T := TX1) (N := 9) (K := 1) (v := .long (sJ sh q 8)) hx hb hts hinX1 hown hK hP hq hk (by decide) rfl 8 (by decide) (hts _ mwC_260) (fun _ h9 => h9) rfl dX1_form_40 ?_
      refine lv_lstore (lv' := [(4, .long (sJ sh q 8)), (2, .long r14), (0, .ref q), (1, .int p0)]) hx hb dX1_form_43 hl (by decide) rfl (fun ls hl => ?_)
      refine lv_aload_n hx hb dX1_form_45 rfl (lv_at hl 2 rfl) ?_
      refine c_get (C := RX1) (T := TX1) (N := 9) (K := 1) (v := .int (ci13 q 7)) hx hb hts hinX1 hown hK hP hq hk (by decide) rfl 7 (by decide) (hts _ mwC_259) (fun _ h9 => h9) rfl dX1_form_46 ?_
      refine lv_bipush (v := 7) hx hb dX1_form_49 (by decide) ?_
      refine lv_icmp_eq (tgt := 90) hx hb dX1_form_51 (by decide) (fun c_51 => ?_) (fun c_51 => ?_)
      · have h := h.1 c_51
        refine lv_aload_n hx hb dX1_form_90 rfl (lv_at hl 2 rfl) ?_
        refine lv_iload_n hx hb dX1_form_91 rfl (lv_at hl 3 rfl) ?_
        refine lv_aload_n hx hb dX1_form_92 rfl (lv_at hl 2 rfl) ?_
        refine c_get (C := RX1) (T := TX1) (N := 9) (K := 1) (v := .int (ci13 q 7)) hx hb hts hinX1 hown hK hP hq hk (by decide) rfl 7 (by decide) (hts _ mwC_259) (fun _ h9 => h9) rfl dX1_form_93 ?_
        refine lv_lload_n hx hb dX1_form_96 rfl (lv_at hl 1 rfl) ?_
        refine lv_lload hx hb dX1_form_97 (lv_at hl 0 rfl) ?_
        refine c_endi (va_runU (C := RX1) (owner := "NeededLists$LazyList") (rm := ({ frames := 40, cells := 0, slots := 0, locals := 600 })) (As := [.int p0, .int (ci13 q 7), .long r14, .long (sJ sh q 8)]) (rest := []) ⟨hx, hb, hml, hown, hts⟩ (p_X5_tellOp l dC dI sh _ _ _ q p0 (ci13 q 7) r14 (sJ sh q 8) _ h H.size) (va_cwU (x := ⟨"NeededLists$Combined", "tellOp", "(IIJJ)I"⟩) 4 hts (g_U gdC mwC_261 mwC_262 mwC_263 mwC_243 mwC_22 mwC_244) rfl rfl rfl rfl ⟨by decide, by decide, by decide +kernel⟩ ⟨(show 40 + 1 ≤ 303 + 5 * d by omega), (show 8 + (7 + 11) + (600) ≤ 6120 + 200 * d by omega)⟩) (c_preV (vc := (RX1, TX1, 9)) hK hP hD hG hq hk (by decide) rfl) rfl rfl hl.1 rfl (lv_room (Nat.le_of_ble_eq_true rfl)) dX1_form_99 ⟨Nat.le_of_ble_eq_true rfl, Nat.le_of_ble_eq_true rfl⟩) hD hS hA (fun r15 ci15 ai15 al15 H locs h hP hD hS => ?_)
        exact W.iret (v := r15) hx hb hr (fun t ht hW => ⟨⟨_, (ci15, ai15, al15), rfl, h, by rw [ht]; exact hP, cK.moved hW.alike hK, hD⟩, hS.F ht⟩) hS.2.2 dX1_form_102
      · have h := h.2 c_51
        refine lv_aload_n hx hb dX1_form_54 rfl (lv_at hl 2 rfl) ?_
        rcases e17 : sR sh q 6 with _ | q16
        · have h := h.1 e17
          refine c_get (C := RX1) (T := TX1) (N := 9) (K := 1) (v := .null) hx hb hts hinX1 hown hK hP hq hk (by decide) rfl 6 (by decide) (hts _ mwC_194) (fun _ h9 => h9) (by show some (va_rf (sR sh q 6)) = _; rw [e17]; rfl) dX1_form_55 ?_
          refine lv_ifnullN (tgt := 90) hx hb dX1_form_58 (by decide) ?_
          refine lv_aload_n hx hb dX1_form_90 rfl (lv_at hl 2 rfl) ?_
          refine lv_iload_n hx hb dX1_form_91 rfl (lv_at hl 3 rfl) ?_
          refine lv_aload_n hx hb dX1_form_92 rfl (lv_at hl 2 rfl) ?_
          refine c_get (C := RX1) (T := TX1) (N := 9) (K := 1) (v := .int (ci13 q 7)) hx hb hts hinX1 hown hK hP hq hk (by decide) rfl 7 (by decide) (hts _ mwC_259) (fun _ h9 => h9) rfl dX1_form_93 ?_
          refine lv_lload_n hx hb dX1_form_96 rfl (lv_at hl 1 rfl) ?_
          refine lv_lload hx hb dX1_form_97 (lv_at hl 0 rfl) ?_
          refine c_endi (va_runU (C := RX1) (owner := "NeededLists$LazyList") (rm := ({ frames := 40, cells := 0, slots := 0, locals := 600 })) (As := [.int p0, .int (ci13 q 7), .long r14, .long (sJ sh q 8)]) (rest := []) ⟨hx, hb, hml, hown, hts⟩ (p_X5_tellOp l dC dI sh _ _ _ q p0 (ci13 q 7) r14 (sJ sh q 8) _ h H.size) (va_cwU (x := ⟨"NeededLists$Combined", "tellOp", "(IIJJ)I"⟩) 4 hts (g_U gdC mwC_261 mwC_262 mwC_263 mwC_243 mwC_22 mwC_244) rfl rfl rfl rfl ⟨by decide, by decide, by decide +kernel⟩ ⟨(show 40 + 1 ≤ 303 + 5 * d by omega), (show 8 + (7 + 11) + (600) ≤ 6120 + 200 * d by omega)⟩) (c_preV (vc := (RX1, TX1, 9)) hK hP hD hG hq hk (by decide) rfl) rfl rfl hl.1 rfl (lv_room (Nat.le_of_ble_eq_true rfl)) dX1_form_99 ⟨Nat.le_of_ble_eq_true rfl, Nat.le_of_ble_eq_true rfl⟩) hD hS hA (fun r18 ci18 ai18 al18 H locs h hP hD hS => ?_)
          exact W.iret (v := r18) hx hb hr (fun t ht hW => ⟨⟨_, (ci18, ai18, al18), rfl, h, by rw [ht]; exact hP, cK.moved hW.alike hK, hD⟩, hS.F ht⟩) hS.2.2 dX1_form_102
        · have h := h.2 q16 e17
          refine c_get (C := RX1) (T := TX1) (N := 9) (K := 1) (v := .ref q16) hx hb hts hinX1 hown hK hP hq hk (by decide) rfl 6 (by decide) (hts _ mwC_194) (fun _ h9 => h9) (by show some (va_rf (sR sh q 6)) = _; rw [e17]; rfl) dX1_form_55 ?_
          refine lv_ifnull hx hb dX1_form_58 ?_
          refine lv_aload_n hx hb dX1_form_61 rfl (lv_at hl 2 rfl) ?_
          refine c_get (C := RX1) (T := TX1) (N := 9) (K := 1) (v := .ref q16) hx hb hts hinX1 hown hK hP hq hk (by decide) rfl 6 (by decide) (hts _ mwC_194) (fun _ h9 => h9) (by show some (va_rf (sR sh q 6)) = _; rw [e17]; rfl) dX1_form_62 ?_
          refine lv_iload_n hx hb dX1_form_65 rfl (lv_at hl 3 rfl) ?_
          obtain ⟨⟨hm19, hk20⟩, h⟩ := h
          refine c_endi (c_runZ (rm := ({ frames := 300 + 5 * d, cells := 0, slots := 0, locals := 6000 + 200 * d })) (y := yX5_work) (x := ⟨"NeededLists$LazyList", "work", "(I)I"⟩) (n := 1) (bytes := cX5_work) (maxL := 4) (ret := (some .int)) (q := q16) (As := [.int p0]) (rest := []) ⟨hx, hb, hml, hown, hts⟩ (hGw _ _ _ q16 p0 _ h H.size) mwC_264 mwC_159 mwC_160 mwC_22 mwC_161 mwC_162 mwC_163 mwC_164 mwC_165 mwC_166 mwC_167 mwC_168 mwC_169 mwC_170 rfl (by decide +kernel) rfl rfl ⟨(show 300 + 5 * d + 1 ≤ 303 + 5 * d by omega), (show 8 + (4 + 11) + (6000 + 200 * d) ≤ 6120 + 200 * d by omega)⟩ hK hP hD hG hm19 hk20 rfl hl.1 rfl (Nat.le_of_ble_eq_true rfl) ⟨Nat.le_of_ble_eq_true rfl, Nat.le_of_ble_eq_true rfl⟩ dX1_form_66) hD hS hA (fun r21 ci21 ai21 al21 H locs h hP hD hS => ?_)
          refine lv_istore (lv' := [(6, .int r21), (4, .long (sJ sh q 8)), (2, .long r14), (0, .ref q), (1, .int p0)]) hx hb dX1_form_69 hl (by decide) rfl (fun ls hl => ?_)
          refine lv_iload hx hb dX1_form_71 (lv_at hl 0 rfl) ?_
          refine lv_iconst (v := 1) hx hb dX1_form_73 (by decide) ?_
          refine lv_icmp_eq (tgt := 80) hx hb dX1_form_74 (by decide) (fun c_74 => ?_) (fun c_74 => ?_)
          · have h := h.1 c_74
            refine lv_aload_n hx hb dX1_form_80 rfl (lv_at hl 3 rfl) ?_
            refine c_get (C := RX1) (T := TX1) (N := 9) (K := 1) (v := .ref q16) hx hb hts hinX1 hown hK hP hq hk (by decide) rfl 6 (by decide) (hts _ mwC_194) (fun _ h9 => h9) (by show some (va_rf (sR sh q 6)) = _; rw [e17]; rfl) dX1_form_81 ?_
            refine lv_iload_n hx hb dX1_form_84 rfl (lv_at hl 4 rfl) ?_
            refine r_endl (c_runZ (rm := ({ frames := 20 + 2 * 30, cells := 0, slots := 0, locals := 300 + 50 * 30 })) (y := yX5_number) (x := ⟨"NeededLists$LazyList", "number", "(I)J"⟩) (n := 1) (bytes := cX5_number) (maxL := 3) (ret := (some .long)) (q := q16) (As := [.int p0]) (rest := []) ⟨hx, hb, hml, hown, hts⟩ (p_X5_number_f l dC dI sh 30 _ _ _ q16 p0 _ h H.size) mwC_265 mwC_92 mwC_93 mwC_22 mwC_94 mwC_95 mwC_96 mwC_97 mwC_98 mwC_99 mwC_100 mwC_101 mwC_102 mwC_103 rfl (by decide +kernel) rfl rfl ⟨(show 20 + 2 * 30 + 1 ≤ 303 + 5 * d by omega), (show 8 + (3 + 11) + (300 + 50 * 30) ≤ 6120 + 200 * d by omega)⟩ hK hP hD hG hm19 hk20 rfl hl.1 rfl (Nat.le_of_ble_eq_true rfl) ⟨Nat.le_of_ble_eq_true rfl, Nat.le_of_ble_eq_true rfl⟩ dX1_form_85) hP hS hA (fun r22 H locs h hP hS => ?_)
            refine lv_lstore (lv' := [(4, .long r22), (6, .int r21), (2, .long r14), (0, .ref q), (1, .int p0)]) hx hb dX1_form_88 hl (by decide) rfl (fun ls hl => ?_)
            refine lv_aload_n hx hb dX1_form_90 rfl (lv_at hl 3 rfl) ?_
            refine lv_iload_n hx hb dX1_form_91 rfl (lv_at hl 4 rfl) ?_
            refine lv_aload_n hx hb dX1_form_92 rfl (lv_at hl 3 rfl) ?_
            refine c_get (C := RX1) (T := TX1) (N := 9) (K := 1) (v := .int (ci21 q 7)) hx hb hts hinX1 hown hK hP hq hk (by decide) rfl 7 (by decide) (hts _ mwC_259) (fun _ h9 => h9) rfl dX1_form_93 ?_
            refine lv_lload_n hx hb dX1_form_96 rfl (lv_at hl 2 rfl) ?_
            refine lv_lload hx hb dX1_form_97 (lv_at hl 0 rfl) ?_
            refine c_endi (va_runU (C := RX1) (owner := "NeededLists$LazyList") (rm := ({ frames := 40, cells := 0, slots := 0, locals := 600 })) (As := [.int p0, .int (ci21 q 7), .long r14, .long r22]) (rest := []) ⟨hx, hb, hml, hown, hts⟩ (p_X5_tellOp l dC dI sh _ _ _ q p0 (ci21 q 7) r14 r22 _ h H.size) (va_cwU (x := ⟨"NeededLists$Combined", "tellOp", "(IIJJ)I"⟩) 4 hts (g_U gdC mwC_261 mwC_262 mwC_263 mwC_243 mwC_22 mwC_244) rfl rfl rfl rfl ⟨by decide, by decide, by decide +kernel⟩ ⟨(show 40 + 1 ≤ 303 + 5 * d by omega), (show 8 + (7 + 11) + (600) ≤ 6120 + 200 * d by omega)⟩) (c_preV (vc := (RX1, TX1, 9)) hK hP hD hG hq hk (by decide) rfl) rfl rfl hl.1 rfl (lv_room (Nat.le_of_ble_eq_true rfl)) dX1_form_99 ⟨Nat.le_of_ble_eq_true rfl, Nat.le_of_ble_eq_true rfl⟩) hD hS hA (fun r23 ci23 ai23 al23 H locs h hP hD hS => ?_)
            exact W.iret (v := r23) hx hb hr (fun t ht hW => ⟨⟨_, (ci23, ai23, al23), rfl, h, by rw [ht]; exact hP, cK.moved hW.alike hK, hD⟩, hS.F ht⟩) hS.2.2 dX1_form_102
          · have h := h.2 c_74
            refine lv_iload hx hb dX1_form_77 (lv_at hl 0 rfl) ?_
            exact W.iret (v := r21) hx hb hr (fun t ht hW => ⟨⟨_, (ci21, ai21, al21), rfl, h, by rw [ht]; exact hP, cK.moved hW.alike hK, hD⟩, hS.F ht⟩) hS.2.2 dX1_form_79
    · have h := h.2 c_24
      refine lv_iload hx hb dX1_form_27 (lv_at hl 0 rfl) ?_
      exact W.iret (v := r13) hx hb hr (fun t ht hW => ⟨⟨_, (ci13, ai13, al13), rfl, h, by rw [ht]; exact hP, cK.moved hW.alike hK, hD⟩, hS.F ht⟩) hS.2.2 dX1_form_29
