theorem dX5_work_0 : decode cX5_work 0 = .ok (.aload_n 0, 1) := by decide +kernel
theorem dX5_work_1 : decode cX5_work 1 = .ok (.iload_n 1, 1) := by decide +kernel
theorem dX5_work_2 : decode cX5_work 2 = .ok (.invokevirtual 53, 3) := by decide +kernel
theorem dX5_work_5 : decode cX5_work 5 = .ok (.astore_n 2, 1) := by decide +kernel
theorem dX5_work_6 : decode cX5_work 6 = .ok (.aload_n 2, 1) := by decide +kernel
theorem dX5_work_7 : decode cX5_work 7 = .ok (.aload_n 0, 1) := by decide +kernel
theorem dX5_work_8 : decode cX5_work 8 = .ok (.if_acmp .eq 13, 3) := by decide +kernel
theorem dX5_work_11 : decode cX5_work 11 = .ok (.aload_n 2, 1) := by decide +kernel
theorem dX5_work_12 : decode cX5_work 12 = .ok (.aload_n 0, 1) := by decide +kernel
theorem dX5_work_13 : decode cX5_work 13 = .ok (.iload_n 1, 1) := by decide +kernel
theorem dX5_work_14 : decode cX5_work 14 = .ok (.invokevirtual 57, 3) := by decide +kernel
theorem dX5_work_17 : decode cX5_work 17 = .ok (.invokevirtual 60, 3) := by decide +kernel
theorem dX5_work_20 : decode cX5_work 20 = .ok (.ireturn, 1) := by decide +kernel
theorem dX5_work_21 : decode cX5_work 21 = .ok (.iload_n 1, 1) := by decide +kernel
theorem dX5_work_22 : decode cX5_work 22 = .ok (.ifCond .lt 12, 3) := by decide +kernel
theorem dX5_work_25 : decode cX5_work 25 = .ok (.iload_n 1, 1) := by decide +kernel
theorem dX5_work_26 : decode cX5_work 26 = .ok (.aload_n 0, 1) := by decide +kernel
theorem dX5_work_27 : decode cX5_work 27 = .ok (.getfield 19, 3) := by decide +kernel
theorem dX5_work_30 : decode cX5_work 30 = .ok (.arraylength, 1) := by decide +kernel
theorem dX5_work_31 : decode cX5_work 31 = .ok (.if_icmp .lt 5, 3) := by decide +kernel
theorem dX5_work_34 : decode cX5_work 34 = .ok (.iconst 3, 1) := by decide +kernel
theorem dX5_work_35 : decode cX5_work 35 = .ok (.ireturn, 1) := by decide +kernel
theorem dX5_work_36 : decode cX5_work 36 = .ok (.aload_n 0, 1) := by decide +kernel
theorem dX5_work_37 : decode cX5_work 37 = .ok (.getfield 19, 3) := by decide +kernel
theorem dX5_work_40 : decode cX5_work 40 = .ok (.iload_n 1, 1) := by decide +kernel
theorem dX5_work_41 : decode cX5_work 41 = .ok (.baload, 1) := by decide +kernel
theorem dX5_work_42 : decode cX5_work 42 = .ok (.ifCond .ne 34, 3) := by decide +kernel
theorem dX5_work_45 : decode cX5_work 45 = .ok (.aload_n 0, 1) := by decide +kernel
theorem dX5_work_46 : decode cX5_work 46 = .ok (.iload_n 1, 1) := by decide +kernel
theorem dX5_work_47 : decode cX5_work 47 = .ok (.invokevirtual 63, 3) := by decide +kernel
theorem dX5_work_50 : decode cX5_work 50 = .ok (.istore_n 3, 1) := by decide +kernel
theorem dX5_work_51 : decode cX5_work 51 = .ok (.iload_n 3, 1) := by decide +kernel
theorem dX5_work_52 : decode cX5_work 52 = .ok (.iconst 3, 1) := by decide +kernel
theorem dX5_work_53 : decode cX5_work 53 = .ok (.if_icmp .eq 13, 3) := by decide +kernel
theorem dX5_work_56 : decode cX5_work 56 = .ok (.aload_n 0, 1) := by decide +kernel
theorem dX5_work_57 : decode cX5_work 57 = .ok (.getfield 9, 3) := by decide +kernel
theorem dX5_work_60 : decode cX5_work 60 = .ok (.invokevirtual 40, 3) := by decide +kernel
theorem dX5_work_63 : decode cX5_work 63 = .ok (.ifCond .ne 5, 3) := by decide +kernel
theorem dX5_work_66 : decode cX5_work 66 = .ok (.iconst 3, 1) := by decide +kernel
theorem dX5_work_67 : decode cX5_work 67 = .ok (.ireturn, 1) := by decide +kernel
theorem dX5_work_68 : decode cX5_work 68 = .ok (.aload_n 0, 1) := by decide +kernel
theorem dX5_work_69 : decode cX5_work 69 = .ok (.getfield 19, 3) := by decide +kernel
theorem dX5_work_72 : decode cX5_work 72 = .ok (.iload_n 1, 1) := by decide +kernel
theorem dX5_work_73 : decode cX5_work 73 = .ok (.iload_n 3, 1) := by decide +kernel
theorem dX5_work_74 : decode cX5_work 74 = .ok (.i2b, 1) := by decide +kernel
theorem dX5_work_75 : decode cX5_work 75 = .ok (.bastore, 1) := by decide +kernel
theorem dX5_work_76 : decode cX5_work 76 = .ok (.aload_n 0, 1) := by decide +kernel
theorem dX5_work_77 : decode cX5_work 77 = .ok (.getfield 19, 3) := by decide +kernel
theorem dX5_work_80 : decode cX5_work 80 = .ok (.iload_n 1, 1) := by decide +kernel
theorem dX5_work_81 : decode cX5_work 81 = .ok (.baload, 1) := by decide +kernel
theorem dX5_work_82 : decode cX5_work 82 = .ok (.ireturn, 1) := by decide +kernel
theorem hd_X5_work : yX5_work.cls = RX5 ∧ yX5_work.cls ≠ "java/lang/invoke/MethodHandle" ∧ yX5_work.cls ≠ "java/lang/invoke/VarHandle" ∧ (parseMethodDescriptor yX5_work.desc).map (fun d => d.parameters.length) = some 1 := by decide +kernel
def P_X5_work (sh : Sh) (Gr Gw : (Nat → Nat → Int32) → (Nat → Nat → Int32) → (Nat → Nat → Int64) → Nat → Int32 → (Int32 → (Nat → Nat → Int32) → (Nat → Nat → Int32) → (Nat → Nat → Int64) → Prop) → Prop) (ci : Nat → Nat → Int32) (ai : Nat → Nat → Int32) (al : Nat → Nat → Int64) (q : Nat) (p0 : Int32) (Q : Int32 → (Nat → Nat → Int32) → (Nat → Nat → Int32) → (Nat → Nat → Int64) → Prop) : Prop := (q ∈ sL sh ∧ isZ (sK sh q)) ∧ P_V_source sh ci ai al q p0 (fun r1 => ((some r1 = some q) → (((p0 < 0) → (Q 3 ci ai al)) ∧ ((¬ p0 < 0) → (∃ q2 : Nat, sR sh q 2 = some q2 ∧ (q2 ∈ sL sh ∧ sK sh q2 = 21) ∧ ((p0 < (nI (sN sh q2))) → (vp_in p0 (sN sh q2) ∧ ((¬ (ai q2 p0.toNatClampNeg) = 0) → (vp_in p0 (sN sh q2) ∧ Q (ai q2 p0.toNatClampNeg) ci ai al)) ∧ (((ai q2 p0.toNatClampNeg) = 0) → (P_V_form sh Gr Gw ci ai al q p0 (fun r8 ci8 ai8 al8 => ((r8 = 3) → (Q 3 ci8 ai8 al8)) ∧ ((¬ r8 = 3) → (∃ q9 : Nat, sR sh q 0 = some q9 ∧ (q9 ∈ sL sh ∧ sK sh q9 = 5) ∧ P_X6_spend sh ci8 ai8 al8 q9  (fun r13 ci13 ai13 al13 => ((¬ r13 = 0) → (vp_in p0 (sN sh q2) ∧ vp_in p0 (sN sh q2) ∧ Q ((va_up ai13 q2 (upd (ai13 q2) p0.toNatClampNeg (vp_nar .byte r8.toInt8.toInt32))) q2 p0.toNatClampNeg) ci13 (va_up ai13 q2 (upd (ai13 q2) p0.toNatClampNeg (vp_nar .byte r8.toInt8.toInt32))) al13)) ∧ ((r13 = 0) → (Q 3 ci13 ai13 al13)))))))))) ∧ ((¬ p0 < (nI (sN sh q2))) → (Q 3 ci ai al)))))) ∧ ((¬ some r1 = some q) → (P_V_place sh ci ai al q p0 (fun r16 => (r1 ∈ sL sh ∧ isZ (sK sh r1)) ∧ Gw ci ai al r1 r16 (fun r19 ci19 ai19 al19 => Q r19 ci19 ai19 al19)))))
set_option maxHeartbeats 4000000 in
set_option maxRecDepth 100000 in
theorem p_X5_work (l : Launch) (dC : Nat → ClassId) (dI : Nat → Nat → Nat) (sh : Sh) (d : Nat) {Gr Gw : (Nat → Nat → Int32) → (Nat → Nat → Int32) → (Nat → Nat → Int64) → Nat → Int32 → (Int32 → (Nat → Nat → Int32) → (Nat → Nat → Int32) → (Nat → Nat → Int64) → Prop) → Prop} (hGr : GM l dC dI sh yX5_reach wmX5_reach ({ frames := 300 + 5 * d, cells := 0, slots := 0, locals := 6000 + 200 * d }) Gr) (hGw : GM l dC dI sh yX5_work wmX5_work ({ frames := 300 + 5 * d, cells := 0, slots := 0, locals := 6000 + 200 * d }) Gw) (ci : Nat → Nat → Int32) (ai : Nat → Nat → Int32) (al : Nat → Nat → Int64) (q : Nat) (p0 : Int32) (Q : Int32 → (Nat → Nat → Int32) → (Nat → Nat → Int32) → (Nat → Nat → Int64) → Prop) (h : P_X5_work sh Gr Gw ci ai al q p0 Q) (sz : Nat) : Met l yX5_work wmX5_work ({ frames := 300 + 5 * (d + 1), cells := 0, slots := 0, locals := 6000 + 200 * (d + 1) }) (va_Pc [.ref q, .int p0] (cPre dC dI sh ci ai al sz)) (va_Qi (S := CSt) (cI Q) (cB dC dI sh (va_A (cW sh ci ai al) sz)) (va_A (cW sh ci ai al) sz)) 0 0 (va_A (cW sh ci ai al) sz) := by
  refine Met.ofW (cc := cX5_work) (maxL := 4) (ret := (some .int)) (by decide) rfl ?_
  intro p e s m args below meth c s₁ B hml hv
  obtain ⟨rfl, hsz, hP, hK, hD0, hG⟩ := hv
  have hx := B.exec
  have hb := B.bytes
  have hr := B.returns
  have hts : ∀ w ∈ WC, w.before _ s = true := fun w h => atoms_spec (ws := wmX5_work) B.pre w (List.mem_cons_of_mem _ h)
  have hown : s.vm.findClass RX5 = some m.cls := findClass_of_methodNamed B.named
  have hlocks := B.notSynchronized
  subst hsz
  have hD := hD0.self (sz := s.heap.size)
  generalize hAe : va_A (cW sh ci ai al) s.heap.size = A at hD ⊢
  have hA : ∀ q : Nat, s.heap.size ≤ q → A q := fun q h => by rw [← hAe]; exact Or.inr h
  generalize hH : s.heap = H at hP ⊢
  have hS : va_S A s.heap H [] := by rw [← hH]; exact va_S.rf
  have hl := lv_entry [.ref q, .int p0] (n := 4) (Nat.le_of_ble_eq_true rfl)
  rw [lg_entry_eq]
  generalize (lg_sl [.ref q, .int p0] ++ List.replicate (4 - (lg_sl [.ref q, .int p0]).length) Slot.unset).toArray = ls at hl ⊢
  have hl : lv_has ls 4 [(0, .ref q), (1, .int p0)] := hl
  unfold P_X5_work at h
  obtain ⟨⟨hq, hk⟩, h⟩ := h
  refine lv_aload_n hx hb dX5_work_0 rfl (lv_at hl 0 rfl) ?_
  refine lv_iload_n hx hb dX5_work_1 rfl (lv_at hl 1 rfl) ?_
  refine r_endr (v_source (k9 := p0) (q := q) (rest := []) h ⟨hx, hb, hml, hown, hts⟩ hK hP hD hG hq hk ⟨(show 12 + 1 ≤ 300 + 5 * (d + 1) by omega), (show 8 + (10 + 11) + (200) ≤ 6000 + 200 * (d + 1) by omega)⟩ hl.1 rfl (Nat.le_of_ble_eq_true rfl) ⟨Nat.le_of_ble_eq_true rfl, Nat.le_of_ble_eq_true rfl⟩ dX5_work_2) hP hS hA (fun r1 H locs h hP hS => ?_)
  refine lv_astore_n (lv' := [(2, .ref r1), (0, .ref q), (1, .int p0)]) hx hb dX5_work_5 rfl hl (by decide) rfl (fun ls hl => ?_)
  refine lv_aload_n hx hb dX5_work_6 rfl (lv_at hl 0 rfl) ?_
  refine lv_aload_n hx hb dX5_work_7 rfl (lv_at hl 1 rfl) ?_
  refine lv_acmp_eq (rx := some r1) (ry := some q) (tgt := 21) hx hb dX5_work_8 (by decide) (fun c_8 => ?_) (fun c_8 => ?_)
  · have h := h.1 c_8
    refine lv_iload_n hx hb dX5_work_21 rfl (lv_at hl 2 rfl) ?_
    refine lv_if_lt (tgt := 34) hx hb dX5_work_22 (by decide) (fun c_22 => ?_) (fun c_22 => ?_)
    · have h := h.1 c_22
      refine lv_iconst (v := 3) hx hb dX5_work_34 (by decide) ?_
      exact W.iret (v := 3) hx hb hr (fun t ht hW => ⟨⟨_, (ci, ai, al), rfl, h, by rw [ht]; exact hP, cK.moved hW.alike hK, hD⟩, hS.F ht⟩) hS.2.2 dX5_work_35
    · have h := h.2 c_22
      refine lv_iload_n hx hb dX5_work_25 rfl (lv_at hl 2 rfl) ?_
      refine lv_aload_n hx hb dX5_work_26 rfl (lv_at hl 1 rfl) ?_
      obtain ⟨q2, e3, h⟩ := h
      refine c_getZ2 hx hb hts hown hK hP hq hk e3 (hts _ mwC_104) dX5_work_27 ?_
      obtain ⟨⟨hm4, hk5⟩, h⟩ := h
      refine c_alen hx hb hK hP hm4 (Or.inr (Or.inl hk5)) dX5_work_30 ?_
      refine lv_icmp_lt (tgt := 36) hx hb dX5_work_31 (by decide) (fun c_31 => ?_) (fun c_31 => ?_)
      · have h := h.1 c_31
        refine lv_aload_n hx hb dX5_work_36 rfl (lv_at hl 1 rfl) ?_
        refine c_getZ2 hx hb hts hown hK hP hq hk e3 (hts _ mwC_104) dX5_work_37 ?_
        refine lv_iload_n hx hb dX5_work_40 rfl (lv_at hl 2 rfl) ?_
        obtain ⟨hi6, h⟩ := h
        refine c_bald hx hb hK hP hm4 hk5 hi6 dX5_work_41 ?_
        refine lv_if_ne (tgt := 76) hx hb dX5_work_42 (by decide) (fun c_42 => ?_) (fun c_42 => ?_)
        · have h := h.1 c_42
          refine lv_aload_n hx hb dX5_work_76 rfl (lv_at hl 1 rfl) ?_
          refine c_getZ2 hx hb hts hown hK hP hq hk e3 (hts _ mwC_104) dX5_work_77 ?_
          refine lv_iload_n hx hb dX5_work_80 rfl (lv_at hl 2 rfl) ?_
          obtain ⟨hi7, h⟩ := h
          refine c_bald hx hb hK hP hm4 hk5 hi7 dX5_work_81 ?_
          exact W.iret (v := (ai q2 p0.toNatClampNeg)) hx hb hr (fun t ht hW => ⟨⟨_, (ci, ai, al), rfl, h, by rw [ht]; exact hP, cK.moved hW.alike hK, hD⟩, hS.F ht⟩) hS.2.2 dX5_work_82
        · have h := h.2 c_42
          refine lv_aload_n hx hb dX5_work_45 rfl (lv_at hl 1 rfl) ?_
          refine lv_iload_n hx hb dX5_work_46 rfl (lv_at hl 2 rfl) ?_
          refine c_endi (v_form (k9 := p0) (q := q) (rest := []) hGr hGw h ⟨hx, hb, hml, hown, hts⟩ hK hP hD hG hq hk ⟨(show 303 + 5 * d + 1 ≤ 300 + 5 * (d + 1) by omega), (show 8 + (10 + 11) + (6120 + 200 * d) ≤ 6000 + 200 * (d + 1) by omega)⟩ hl.1 rfl (Nat.le_of_ble_eq_true rfl) ⟨Nat.le_of_ble_eq_true rfl, Nat.le_of_ble_eq_true rfl⟩ dX5_work_47) hD hS hA (fun r8 ci8 ai8 al8 H locs h hP hD hS => ?_)
          refine lv_istore_n (lv' := [(3, .int r8), (2, .ref r1), (0, .ref q), (1, .int p0)]) hx hb dX5_work_50 rfl hl (by decide) rfl (fun ls hl => ?_)
          refine lv_iload_n hx hb dX5_work_51 rfl (lv_at hl 0 rfl) ?_
          refine lv_iconst (v := 3) hx hb dX5_work_52 (by decide) ?_
          refine lv_icmp_eq (tgt := 66) hx hb dX5_work_53 (by decide) (fun c_53 => ?_) (fun c_53 => ?_)
          · have h := h.1 c_53
            refine lv_iconst (v := 3) hx hb dX5_work_66 (by decide) ?_
            exact W.iret (v := 3) hx hb hr (fun t ht hW => ⟨⟨_, (ci8, ai8, al8), rfl, h, by rw [ht]; exact hP, cK.moved hW.alike hK, hD⟩, hS.F ht⟩) hS.2.2 dX5_work_67
          · have h := h.2 c_53
            refine lv_aload_n hx hb dX5_work_56 rfl (lv_at hl 2 rfl) ?_
            obtain ⟨q9, e10, h⟩ := h
            refine c_getZ0 hx hb hts hown hK hP hq hk e10 (hts _ mwC_325) dX5_work_57 ?_
            obtain ⟨⟨hm11, hk12⟩, h⟩ := h
            refine c_endi (va_runV (rm := ({ frames := 4, cells := 0, slots := 0, locals := 60 })) (As := []) (rest := []) ⟨hx, hb, hml, hown, hts⟩ (p_X6_spend l dC dI sh _ _ _ q9  _ h H.size) (cwV 0 hts (g_V gdC mwC_326 mwC_327 mwC_328 mwC_329 mwC_330) rfl rfl rfl hd_X6_spend ⟨(show 4 + 1 ≤ 300 + 5 * (d + 1) by omega), (show 8 + (1 + 11) + (60) ≤ 6000 + 200 * (d + 1) by omega)⟩) (c_preV (vc := (RX6, TX6, 2)) hK hP hD hG hm11 hk12 (by decide) rfl) rfl rfl hl.1 rfl (lv_room (Nat.le_of_ble_eq_true rfl)) dX5_work_60 ⟨Nat.le_of_ble_eq_true rfl, Nat.le_of_ble_eq_true rfl⟩) hD hS hA (fun r13 ci13 ai13 al13 H locs h hP hD hS => ?_)
            refine lv_if_ne (tgt := 68) hx hb dX5_work_63 (by decide) (fun c_63 => ?_) (fun c_63 => ?_)
            · have h := h.1 c_63
              refine lv_aload_n hx hb dX5_work_68 rfl (lv_at hl 2 rfl) ?_
              refine c_getZ2 hx hb hts hown hK hP hq hk e3 (hts _ mwC_104) dX5_work_69 ?_
              refine lv_iload_n hx hb dX5_work_72 rfl (lv_at hl 3 rfl) ?_
              refine lv_iload_n hx hb dX5_work_73 rfl (lv_at hl 0 rfl) ?_
              refine lv_i2b hx hb dX5_work_74 rfl ?_
              obtain ⟨hi14, h⟩ := h
              refine c_bast hx hb hK hP hD hS hm4 hk5 hi14 dX5_work_75 (fun H locs hP hD hS => ?_)
              refine lv_aload_n hx hb dX5_work_76 rfl (lv_at hl 2 rfl) ?_
              refine c_getZ2 hx hb hts hown hK hP hq hk e3 (hts _ mwC_104) dX5_work_77 ?_
              refine lv_iload_n hx hb dX5_work_80 rfl (lv_at hl 3 rfl) ?_
              obtain ⟨hi15, h⟩ := h
              refine c_bald hx hb hK hP hm4 hk5 hi15 dX5_work_81 ?_
              exact W.iret (v := ((va_up ai13 q2 (upd (ai13 q2) p0.toNatClampNeg (vp_nar .byte r8.toInt8.toInt32))) q2 p0.toNatClampNeg)) hx hb hr (fun t ht hW => ⟨⟨_, (ci13, va_up ai13 q2 (upd (ai13 q2) p0.toNatClampNeg (vp_nar .byte r8.toInt8.toInt32)), al13), rfl, h, by rw [ht]; exact hP, cK.moved hW.alike hK, hD⟩, hS.F ht⟩) hS.2.2 dX5_work_82
            · have h := h.2 c_63
              refine lv_iconst (v := 3) hx hb dX5_work_66 (by decide) ?_
              exact W.iret (v := 3) hx hb hr (fun t ht hW => ⟨⟨_, (ci13, ai13, al13), rfl, h, by rw [ht]; exact hP, cK.moved hW.alike hK, hD⟩, hS.F ht⟩) hS.2.2 dX5_work_67
      · have h := h.2 c_31
        refine lv_iconst (v := 3) hx hb dX5_work_34 (by decide) ?_
        exact W.iret (v := 3) hx hb hr (fun t ht hW => ⟨⟨_, (ci, ai, al), rfl, h, by rw [ht]; exact hP, cK.moved hW.alike hK, hD⟩, hS.F ht⟩) hS.2.2 dX5_work_35
  · have h := h.2 c_8
    refine lv_aload_n hx hb dX5_work_11 rfl (lv_at hl 0 rfl) ?_
    refine lv_aload_n hx hb dX5_work_12 rfl (lv_at hl 1 rfl) ?_
    refine lv_iload_n hx hb dX5_work_13 rfl (lv_at hl 2 rfl) ?_
    refine r_endi (v_place (k9 := p0) (q := q) (rest := [.ref r1]) h ⟨hx, hb, hml, hown, hts⟩ hK hP hD hG hq hk ⟨(show 12 + 1 ≤ 300 + 5 * (d + 1) by omega), (show 8 + (10 + 11) + (200) ≤ 6000 + 200 * (d + 1) by omega)⟩ hl.1 rfl (Nat.le_of_ble_eq_true rfl) ⟨Nat.le_of_ble_eq_true rfl, Nat.le_of_ble_eq_true rfl⟩ dX5_work_14) hP hS hA (fun r16 H locs h hP hS => ?_)
    obtain ⟨⟨hm17, hk18⟩, h⟩ := h
    refine c_endi (c_runZ (rm := ({ frames := 300 + 5 * d, cells := 0, slots := 0, locals := 6000 + 200 * d })) (y := yX5_work) (x := ⟨"NeededLists$LazyList", "work", "(I)I"⟩) (n := 1) (bytes := cX5_work) (maxL := 4) (ret := (some .int)) (q := r1) (As := [.int r16]) (rest := []) ⟨hx, hb, hml, hown, hts⟩ (hGw _ _ _ r1 r16 _ h H.size) mwC_331 mwC_159 mwC_160 mwC_22 mwC_161 mwC_162 mwC_163 mwC_164 mwC_165 mwC_166 mwC_167 mwC_168 mwC_169 mwC_170 rfl (by decide +kernel) rfl rfl ⟨(show 300 + 5 * d + 1 ≤ 300 + 5 * (d + 1) by omega), (show 8 + (4 + 11) + (6000 + 200 * d) ≤ 6000 + 200 * (d + 1) by omega)⟩ hK hP hD hG hm17 hk18 rfl hl.1 rfl (Nat.le_of_ble_eq_true rfl) ⟨Nat.le_of_ble_eq_true rfl, Nat.le_of_ble_eq_true rfl⟩ dX5_work_17) hD hS hA (fun r19 ci19 ai19 al19 H locs h hP hD hS => ?_)
    exact W.iret (v := r19) hx hb hr (fun t ht hW => ⟨⟨_, (ci19, ai19, al19), rfl, h, by rw [ht]; exact hP, cK.moved hW.alike hK, hD⟩, hS.F ht⟩) hS.2.2 dX5_work_20
