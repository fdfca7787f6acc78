theorem dX2_seek_0 : decode cX2_seek 0 = .ok (.iload_n 1, 1) := by decide +kernel
theorem dX2_seek_1 : decode cX2_seek 1 = .ok (.aload_n 0, 1) := by decide +kernel
theorem dX2_seek_2 : decode cX2_seek 2 = .ok (.getfield 15, 3) := by decide +kernel
theorem dX2_seek_5 : decode cX2_seek 5 = .ok (.if_icmp .lt 5, 3) := by decide +kernel
theorem dX2_seek_8 : decode cX2_seek 8 = .ok (.iconst 2, 1) := by decide +kernel
theorem dX2_seek_9 : decode cX2_seek 9 = .ok (.ireturn, 1) := by decide +kernel
theorem dX2_seek_10 : decode cX2_seek 10 = .ok (.aload_n 0, 1) := by decide +kernel
theorem dX2_seek_11 : decode cX2_seek 11 = .ok (.getfield 9, 3) := by decide +kernel
theorem dX2_seek_14 : decode cX2_seek 14 = .ok (.iload_n 1, 1) := by decide +kernel
theorem dX2_seek_15 : decode cX2_seek 15 = .ok (.invokevirtual 26, 3) := by decide +kernel
theorem dX2_seek_18 : decode cX2_seek 18 = .ok (.istore_n 2, 1) := by decide +kernel
theorem dX2_seek_19 : decode cX2_seek 19 = .ok (.iload_n 2, 1) := by decide +kernel
theorem dX2_seek_20 : decode cX2_seek 20 = .ok (.iconst 1, 1) := by decide +kernel
theorem dX2_seek_21 : decode cX2_seek 21 = .ok (.if_icmp .ne 11, 3) := by decide +kernel
theorem dX2_seek_24 : decode cX2_seek 24 = .ok (.aload_n 0, 1) := by decide +kernel
theorem dX2_seek_25 : decode cX2_seek 25 = .ok (.getfield 19, 3) := by decide +kernel
theorem dX2_seek_28 : decode cX2_seek 28 = .ok (.iconst (-1), 1) := by decide +kernel
theorem dX2_seek_29 : decode cX2_seek 29 = .ok (.if_icmp .ne 5, 3) := by decide +kernel
theorem dX2_seek_32 : decode cX2_seek 32 = .ok (.iload_n 2, 1) := by decide +kernel
theorem dX2_seek_33 : decode cX2_seek 33 = .ok (.ireturn, 1) := by decide +kernel
theorem dX2_seek_34 : decode cX2_seek 34 = .ok (.aload_n 0, 1) := by decide +kernel
theorem dX2_seek_35 : decode cX2_seek 35 = .ok (.getfield 9, 3) := by decide +kernel
theorem dX2_seek_38 : decode cX2_seek 38 = .ok (.iload_n 1, 1) := by decide +kernel
theorem dX2_seek_39 : decode cX2_seek 39 = .ok (.invokevirtual 30, 3) := by decide +kernel
theorem dX2_seek_42 : decode cX2_seek 42 = .ok (.istore_n 3, 1) := by decide +kernel
theorem dX2_seek_43 : decode cX2_seek 43 = .ok (.iload_n 3, 1) := by decide +kernel
theorem dX2_seek_44 : decode cX2_seek 44 = .ok (.iconst 1, 1) := by decide +kernel
theorem dX2_seek_45 : decode cX2_seek 45 = .ok (.if_icmp .eq 5, 3) := by decide +kernel
theorem dX2_seek_48 : decode cX2_seek 48 = .ok (.iload_n 3, 1) := by decide +kernel
theorem dX2_seek_49 : decode cX2_seek 49 = .ok (.ireturn, 1) := by decide +kernel
theorem dX2_seek_50 : decode cX2_seek 50 = .ok (.aload_n 0, 1) := by decide +kernel
theorem dX2_seek_51 : decode cX2_seek 51 = .ok (.getfield 19, 3) := by decide +kernel
theorem dX2_seek_54 : decode cX2_seek 54 = .ok (.aload_n 0, 1) := by decide +kernel
theorem dX2_seek_55 : decode cX2_seek 55 = .ok (.getfield 9, 3) := by decide +kernel
theorem dX2_seek_58 : decode cX2_seek 58 = .ok (.iload_n 1, 1) := by decide +kernel
theorem dX2_seek_59 : decode cX2_seek 59 = .ok (.invokevirtual 33, 3) := by decide +kernel
theorem dX2_seek_62 : decode cX2_seek 62 = .ok (.aload_n 0, 1) := by decide +kernel
theorem dX2_seek_63 : decode cX2_seek 63 = .ok (.getfield 22, 3) := by decide +kernel
theorem dX2_seek_66 : decode cX2_seek 66 = .ok (.invokestatic 37, 3) := by decide +kernel
theorem dX2_seek_69 : decode cX2_seek 69 = .ok (.ifCond .eq 7, 3) := by decide +kernel
theorem dX2_seek_72 : decode cX2_seek 72 = .ok (.iconst 1, 1) := by decide +kernel
theorem dX2_seek_73 : decode cX2_seek 73 = .ok (.goto 4, 3) := by decide +kernel
theorem dX2_seek_76 : decode cX2_seek 76 = .ok (.iconst 2, 1) := by decide +kernel
theorem dX2_seek_77 : decode cX2_seek 77 = .ok (.ireturn, 1) := by decide +kernel
theorem dX3_seek_0 : decode cX3_seek 0 = .ok (.iload_n 1, 1) := by decide +kernel
theorem dX3_seek_1 : decode cX3_seek 1 = .ok (.aload_n 0, 1) := by decide +kernel
theorem dX3_seek_2 : decode cX3_seek 2 = .ok (.getfield 9, 3) := by decide +kernel
theorem dX3_seek_5 : decode cX3_seek 5 = .ok (.arraylength, 1) := by decide +kernel
theorem dX3_seek_6 : decode cX3_seek 6 = .ok (.if_icmp .ge 7, 3) := by decide +kernel
theorem dX3_seek_9 : decode cX3_seek 9 = .ok (.iconst 1, 1) := by decide +kernel
theorem dX3_seek_10 : decode cX3_seek 10 = .ok (.goto 7, 3) := by decide +kernel
theorem dX3_seek_13 : decode cX3_seek 13 = .ok (.aload_n 0, 1) := by decide +kernel
theorem dX3_seek_14 : decode cX3_seek 14 = .ok (.getfield 15, 3) := by decide +kernel
theorem dX3_seek_17 : decode cX3_seek 17 = .ok (.ireturn, 1) := by decide +kernel
abbrev wmX2_seek : List Cond := .code yX2_seek cX2_seek 4 (some .int) :: WC
theorem hd_X2_seek : yX2_seek.cls = RX2 ∧ yX2_seek.cls ≠ "java/lang/invoke/MethodHandle" ∧ yX2_seek.cls ≠ "java/lang/invoke/VarHandle" ∧ (parseMethodDescriptor yX2_seek.desc).map (fun d => d.parameters.length) = some 1 := by decide +kernel
def P_X2_seek (sh : Sh) (Gr Gw : (Nat → Nat → Int32) → (Nat → Nat → Int32) → (Nat → Nat → Int64) → Nat → Int32 → (Int32 → (Nat → Nat → Int32) → (Nat → Nat → Int32) → (Nat → Nat → Int64) → Prop) → Prop) (ci : Nat → Nat → Int32) (ai : Nat → Nat → Int32) (al : Nat → Nat → Int64) (q : Nat) (p0 : Int32) (Q : Int32 → (Nat → Nat → Int32) → (Nat → Nat → Int32) → (Nat → Nat → Int64) → Prop) : Prop := (q ∈ sL sh ∧ sK sh q = 2) ∧ ((p0 < (ci q 6)) → (∃ q1 : Nat, sR sh q 5 = some q1 ∧ (q1 ∈ sL sh ∧ isZ (sK sh q1)) ∧ Gr ci ai al q1 p0 (fun r5 ci5 ai5 al5 => ((¬ r5 = 1) → (Q r5 ci5 ai5 al5)) ∧ ((r5 = 1) → (((¬ (ci5 q 7) = (-1)) → (Gw ci5 ai5 al5 q1 p0 (fun r6 ci6 ai6 al6 => ((r6 = 1) → (P_X5_number_f sh 30 ci6 ai6 al6 q1 p0 (fun r7 => P_X11_meets (ci6 q 7) r7 (sJ sh q 8) (fun r8 => ((r8 = 0) → (Q 2 ci6 ai6 al6)) ∧ ((¬ r8 = 0) → (Q 1 ci6 ai6 al6)))))) ∧ ((¬ r6 = 1) → (Q r6 ci6 ai6 al6))))) ∧ (((ci5 q 7) = (-1)) → (Q r5 ci5 ai5 al5))))))) ∧ ((¬ p0 < (ci q 6)) → (Q 2 ci ai al))
set_option maxHeartbeats 4000000 in
set_option maxRecDepth 100000 in
theorem p_X2_seek (l : Launch) (dC : Nat → ClassId) (dI : Nat → Nat → Nat) (sh : Sh) (d : Nat) {Gr Gw : (Nat → Nat → Int32) → (Nat → Nat → Int32) → (Nat → Nat → Int64) → Nat → Int32 → (Int32 → (Nat → Nat → Int32) → (Nat → Nat → Int32) → (Nat → Nat → Int64) → Prop) → Prop} (hGr : GM l dC dI sh yX5_reach wmX5_reach ({ frames := 300 + 5 * d, cells := 0, slots := 0, locals := 6000 + 200 * d }) Gr) (hGw : GM l dC dI sh yX5_work wmX5_work ({ frames := 300 + 5 * d, cells := 0, slots := 0, locals := 6000 + 200 * d }) Gw) (ci : Nat → Nat → Int32) (ai : Nat → Nat → Int32) (al : Nat → Nat → Int64) (q : Nat) (p0 : Int32) (Q : Int32 → (Nat → Nat → Int32) → (Nat → Nat → Int32) → (Nat → Nat → Int64) → Prop) (h : P_X2_seek sh Gr Gw ci ai al q p0 Q) (sz : Nat) : Met l yX2_seek wmX2_seek ({ frames := 303 + 5 * d, cells := 0, slots := 0, locals := 6120 + 200 * d }) (va_Pc [.ref q, .int p0] (cPre dC dI sh ci ai al sz)) (va_Qi (S := CSt) (cI Q) (cB dC dI sh (va_A (cW sh ci ai al) sz)) (va_A (cW sh ci ai al) sz)) 0 0 (va_A (cW sh ci ai al) sz) := by
  refine Met.ofW (cc := cX2_seek) (maxL := 4) (ret := (some .int)) (by decide) rfl ?_
  intro p e s m args below meth c s₁ B hml hv
  obtain ⟨rfl, hsz, hP, hK, hD0, hG⟩ := hv
  have hx := B.exec
  have hb := B.bytes
  have hr := B.returns
  have hts : ∀ w ∈ WC, w.before _ s = true := fun w h => atoms_spec (ws := wmX2_seek) B.pre w (List.mem_cons_of_mem _ h)
  have hown : s.vm.findClass RX2 = some m.cls := findClass_of_methodNamed B.named
  have hlocks := B.notSynchronized
  subst hsz
  have hD := hD0.self (sz := s.heap.size)
  generalize hAe : va_A (cW sh ci ai al) s.heap.size = A at hD ⊢
  have hA : ∀ q : Nat, s.heap.size ≤ q → A q := fun q h => by rw [← hAe]; exact Or.inr h
  generalize hH : s.heap = H at hP ⊢
  have hS : va_S A s.heap H [] := by rw [← hH]; exact va_S.rf
  have hl := lv_entry [.ref q, .int p0] (n := 4) (Nat.le_of_ble_eq_true rfl)
  rw [lg_entry_eq]
  generalize (lg_sl [.ref q, .int p0] ++ List.replicate (4 - (lg_sl [.ref q, .int p0]).length) Slot.unset).toArray = ls at hl ⊢
  have hl : lv_has ls 4 [(0, .ref q), (1, .int p0)] := hl
  unfold P_X2_seek at h
  obtain ⟨⟨hq, hk⟩, h⟩ := h
  refine lv_iload_n hx hb dX2_seek_0 rfl (lv_at hl 1 rfl) ?_
  refine lv_aload_n hx hb dX2_seek_1 rfl (lv_at hl 0 rfl) ?_
  refine c_get (C := RX2) (T := TX2) (N := 9) (K := 2) (v := .int (ci q 6)) hx hb hts hinX2 hown hK hP hq hk (by decide) rfl 6 (by decide) (hts _ mwC_195) (fun _ h9 => h9) rfl dX2_seek_2 ?_
  refine lv_icmp_lt (tgt := 10) hx hb dX2_seek_5 (by decide) (fun c_5 => ?_) (fun c_5 => ?_)
  · have h := h.1 c_5
    refine lv_aload_n hx hb dX2_seek_10 rfl (lv_at hl 0 rfl) ?_
    obtain ⟨q1, e2, h⟩ := h
    refine c_get (C := RX2) (T := TX2) (N := 9) (K := 2) (v := .ref q1) hx hb hts hinX2 hown hK hP hq hk (by decide) rfl 5 (by decide) (hts _ mwC_17) (fun _ h9 => h9) (by show some (va_rf (sR sh q 5)) = _; rw [e2]; rfl) dX2_seek_11 ?_
    refine lv_iload_n hx hb dX2_seek_14 rfl (lv_at hl 1 rfl) ?_
    obtain ⟨⟨hm3, hk4⟩, h⟩ := h
    refine c_endi (c_runZ (rm := ({ frames := 300 + 5 * d, cells := 0, slots := 0, locals := 6000 + 200 * d })) (y := yX5_reach) (x := ⟨"NeededLists$LazyList", "reach", "(I)I"⟩) (n := 1) (bytes := cX5_reach) (maxL := 5) (ret := (some .int)) (q := q1) (As := [.int p0]) (rest := []) ⟨hx, hb, hml, hown, hts⟩ (hGr _ _ _ q1 p0 _ h H.size) mwC_196 mwC_145 mwC_146 mwC_22 mwC_147 mwC_148 mwC_149 mwC_150 mwC_151 mwC_152 mwC_153 mwC_154 mwC_155 mwC_156 rfl (by decide +kernel) rfl rfl ⟨(show 300 + 5 * d + 1 ≤ 303 + 5 * d by omega), (show 8 + (5 + 11) + (6000 + 200 * d) ≤ 6120 + 200 * d by omega)⟩ hK hP hD hG hm3 hk4 rfl hl.1 rfl (Nat.le_of_ble_eq_true rfl) ⟨Nat.le_of_ble_eq_true rfl, Nat.le_of_ble_eq_true rfl⟩ dX2_seek_15) hD hS hA (fun r5 ci5 ai5 al5 H locs h hP hD hS => ?_)
    refine lv_istore_n (lv' := [(2, .int r5), (0, .ref q), (1, .int p0)]) hx hb dX2_seek_18 rfl hl (by decide) rfl (fun ls hl => ?_)
    refine lv_iload_n hx hb dX2_seek_19 rfl (lv_at hl 0 rfl) ?_
    refine lv_iconst (v := 1) hx hb dX2_seek_20 (by decide) ?_
    refine lv_icmp_ne (tgt := 32) hx hb dX2_seek_21 (by decide) (fun c_21 => ?_) (fun c_21 => ?_)
    · have h := h.1 c_21
      refine lv_iload_n hx hb dX2_seek_32 rfl (lv_at hl 0 rfl) ?_
      exact W.iret (v := r5) hx hb hr (fun t ht hW => ⟨⟨_, (ci5, ai5, al5), rfl, h, by rw [ht]; exact hP, cK.moved hW.alike hK, hD⟩, hS.F ht⟩) hS.2.2 dX2_seek_33
    · have h := h.2 c_21
      refine lv_aload_n hx hb dX2_seek_24 rfl (lv_at hl 1 rfl) ?_
      refine c_get (C := RX2) (T := TX2) (N := 9) (K := 2) (v := .int (ci5 q 7)) hx hb hts hinX2 hown hK hP hq hk (by decide) rfl 7 (by decide) (hts _ mwC_197) (fun _ h9 => h9) rfl dX2_seek_25 ?_
      refine lv_iconst (v := (-1)) hx hb dX2_seek_28 (by decide) ?_
      refine lv_icmp_ne (tgt := 34) hx hb dX2_seek_29 (by decide) (fun c_29 => ?_) (fun c_29 => ?_)
      · have h := h.1 c_29
        refine lv_aload_n hx hb dX2_seek_34 rfl (lv_at hl 1 rfl) ?_
        refine c_get (C := RX2) (T := TX2) (N := 9) (K := 2) (v := .ref q1) hx hb hts hinX2 hown hK hP hq hk (by decide) rfl 5 (by decide) (hts _ mwC_17) (fun _ h9 => h9) (by show some (va_rf (sR sh q 5)) = _; rw [e2]; rfl) dX2_seek_35 ?_
        refine lv_iload_n hx hb dX2_seek_38 rfl (lv_at hl 2 rfl) ?_
        refine c_endi (c_runZ (rm := ({ frames := 300 + 5 * d, cells := 0, slots := 0, locals := 6000 + 200 * d })) (y := yX5_work) (x := ⟨"NeededLists$LazyList", "work", "(I)I"⟩) (n := 1) (bytes := cX5_work) (maxL := 4) (ret := (some .int)) (q := q1) (As := [.int p0]) (rest := []) ⟨hx, hb, hml, hown, hts⟩ (hGw _ _ _ q1 p0 _ h H.size) mwC_198 mwC_159 mwC_160 mwC_22 mwC_161 mwC_162 mwC_163 mwC_164 mwC_165 mwC_166 mwC_167 mwC_168 mwC_169 mwC_170 rfl (by decide +kernel) rfl rfl ⟨(show 300 + 5 * d + 1 ≤ 303 + 5 * d by omega), (show 8 + (4 + 11) + (6000 + 200 * d) ≤ 6120 + 200 * d by omega)⟩ hK hP hD hG hm3 hk4 rfl hl.1 rfl (Nat.le_of_ble_eq_true rfl) ⟨Nat.le_of_ble_eq_true rfl, Nat.le_of_ble_eq_true rfl⟩ dX2_seek_39) hD hS hA (fun r6 ci6 ai6 al6 H locs h hP hD hS => ?_)
        refine lv_istore_n (lv' := [(3, .int r6), (2, .int r5), (0, .ref q), (1, .int p0)]) hx hb dX2_seek_42 rfl hl (by decide) rfl (fun ls hl => ?_)
        refine lv_iload_n hx hb dX2_seek_43 rfl (lv_at hl 0 rfl) ?_
        refine lv_iconst (v := 1) hx hb dX2_seek_44 (by decide) ?_
        refine lv_icmp_eq (tgt := 50) hx hb dX2_seek_45 (by decide) (fun c_45 => ?_) (fun c_45 => ?_)
        · have h := h.1 c_45
          refine lv_aload_n hx hb dX2_seek_50 rfl (lv_at hl 2 rfl) ?_
          refine c_get (C := RX2) (T := TX2) (N := 9) (K := 2) (v := .int (ci6 q 7)) hx hb hts hinX2 hown hK hP hq hk (by decide) rfl 7 (by decide) (hts _ mwC_197) (fun _ h9 => h9) rfl dX2_seek_51 ?_
          refine lv_aload_n hx hb dX2_seek_54 rfl (lv_at hl 2 rfl) ?_
          refine c_get (C := RX2) (T := TX2) (N := 9) (K := 2) (v := .ref q1) hx hb hts hinX2 hown hK hP hq hk (by decide) rfl 5 (by decide) (hts _ mwC_17) (fun _ h9 => h9) (by show some (va_rf (sR sh q 5)) = _; rw [e2]; rfl) dX2_seek_55 ?_
          refine lv_iload_n hx hb dX2_seek_58 rfl (lv_at hl 3 rfl) ?_
          refine r_endl (c_runZ (rm := ({ frames := 20 + 2 * 30, cells := 0, slots := 0, locals := 300 + 50 * 30 })) (y := yX5_number) (x := ⟨"NeededLists$LazyList", "number", "(I)J"⟩) (n := 1) (bytes := cX5_number) (maxL := 3) (ret := (some .long)) (q := q1) (As := [.int p0]) (rest := [.int (ci6 q 7)]) ⟨hx, hb, hml, hown, hts⟩ (p_X5_number_f l dC dI sh 30 _ _ _ q1 p0 _ h H.size) mwC_199 mwC_92 mwC_93 mwC_22 mwC_94 mwC_95 mwC_96 mwC_97 mwC_98 mwC_99 mwC_100 mwC_101 mwC_102 mwC_103 rfl (by decide +kernel) rfl rfl ⟨(show 20 + 2 * 30 + 1 ≤ 303 + 5 * d by omega), (show 8 + (3 + 11) + (300 + 50 * 30) ≤ 6120 + 200 * d by omega)⟩ hK hP hD hG hm3 hk4 rfl hl.1 rfl (Nat.le_of_ble_eq_true rfl) ⟨Nat.le_of_ble_eq_true rfl, Nat.le_of_ble_eq_true rfl⟩ dX2_seek_59) hP hS hA (fun r7 H locs h hP hS => ?_)
          refine lv_aload_n hx hb dX2_seek_62 rfl (lv_at hl 2 rfl) ?_
          refine c_get (C := RX2) (T := TX2) (N := 9) (K := 2) (v := .long (sJ sh q 8)) hx hb hts hinX2 hown hK hP hq hk (by decide) rfl 8 (by decide) (hts _ mwC_200) (fun _ h9 => h9) rfl dX2_seek_63 ?_
          refine r_endi (va_runSN (host := "NeededLists") (rm := ({ frames := 4, cells := 0, slots := 0, locals := 60 })) (As := [.int (ci6 q 7), .long r7, .long (sJ sh q 8)]) (rest := []) ⟨hx, hb, hml, hown, hts⟩ (p_X11_meets l dC dI (ci6 q 7) r7 (sJ sh q 8) _ h H.size) ⟨va_cnB 3 hts (g_C gdC mwC_138) rfl rfl rfl hG.mt2 (hts _ mwC_119) hd_X11_meets ⟨(show 4 + 1 ≤ 303 + 5 * d by omega), (show 8 + (5 + 11) + (60) ≤ 6120 + 200 * d by omega)⟩, hts _ mwC_139, trivial⟩ ⟨s_blind, fun U hU hW => ⟨rfl, congrArg Array.size hU⟩⟩ rfl rfl hl.1 rfl (lv_room (Nat.le_of_ble_eq_true rfl)) dX2_seek_66 ⟨Nat.le_of_ble_eq_true rfl, Nat.le_of_ble_eq_true rfl⟩) hP hS hA (fun r8 H locs h hP hS => ?_)
          refine lv_if_eq (tgt := 76) hx hb dX2_seek_69 (by decide) (fun c_69 => ?_) (fun c_69 => ?_)
          · have h := h.1 c_69
            refine lv_iconst (v := 2) hx hb dX2_seek_76 (by decide) ?_
            exact W.iret (v := 2) hx hb hr (fun t ht hW => ⟨⟨_, (ci6, ai6, al6), rfl, h, by rw [ht]; exact hP, cK.moved hW.alike hK, hD⟩, hS.F ht⟩) hS.2.2 dX2_seek_77
          · have h := h.2 c_69
            refine lv_iconst (v := 1) hx hb dX2_seek_72 (by decide) ?_
            refine lv_goto (tgt := 77) hx hb dX2_seek_73 (by decide) ?_
            exact W.iret (v := 1) hx hb hr (fun t ht hW => ⟨⟨_, (ci6, ai6, al6), rfl, h, by rw [ht]; exact hP, cK.moved hW.alike hK, hD⟩, hS.F ht⟩) hS.2.2 dX2_seek_77
        · have h := h.2 c_45
          refine lv_iload_n hx hb dX2_seek_48 rfl (lv_at hl 0 rfl) ?_
          exact W.iret (v := r6) hx hb hr (fun t ht hW => ⟨⟨_, (ci6, ai6, al6), rfl, h, by rw [ht]; exact hP, cK.moved hW.alike hK, hD⟩, hS.F ht⟩) hS.2.2 dX2_seek_49
      · have h := h.2 c_29
        refine lv_iload_n hx hb dX2_seek_32 rfl (lv_at hl 0 rfl) ?_
        exact W.iret (v := r5) hx hb hr (fun t ht hW => ⟨⟨_, (ci5, ai5, al5), rfl, h, by rw [ht]; exact hP, cK.moved hW.alike hK, hD⟩, hS.F ht⟩) hS.2.2 dX2_seek_33
  · have h := h.2 c_5
    refine lv_iconst (v := 2) hx hb dX2_seek_8 (by decide) ?_
    exact W.iret (v := 2) hx hb hr (fun t ht hW => ⟨⟨_, (ci, ai, al), rfl, h, by rw [ht]; exact hP, cK.moved hW.alike hK, hD⟩, hS.F ht⟩) hS.2.2 dX2_seek_9

abbrev wmX3_seek : List Cond := .code yX3_seek cX3_seek 2 (some .int) :: WC
theorem hd_X3_seek : yX3_seek.cls = RX3 ∧ yX3_seek.cls ≠ "java/lang/invoke/MethodHandle" ∧ yX3_seek.cls ≠ "java/lang/invoke/VarHandle" ∧ (parseMethodDescriptor yX3_seek.desc).map (fun d => d.parameters.length) = some 1 := by decide +kernel
def P_X3_seek (sh : Sh) (ci : Nat → Nat → Int32) (ai : Nat → Nat → Int32) (al : Nat → Nat → Int64) (q : Nat) (p0 : Int32) (Q : Int32 → (Nat → Nat → Int32) → (Nat → Nat → Int32) → (Nat → Nat → Int64) → Prop) : Prop := (q ∈ sL sh ∧ sK sh q = 3) ∧ ∃ q1 : Nat, sR sh q 5 = some q1 ∧ (q1 ∈ sL sh ∧ sK sh q1 = 21) ∧ (((nI (sN sh q1)) ≤ p0) → (Q (ci q 6) ci ai al)) ∧ ((¬ (nI (sN sh q1)) ≤ p0) → (Q 1 ci ai al))
set_option maxHeartbeats 4000000 in
set_option maxRecDepth 100000 in
theorem p_X3_seek (l : Launch) (dC : Nat → ClassId) (dI : Nat → Nat → Nat) (sh : Sh) (ci : Nat → Nat → Int32) (ai : Nat → Nat → Int32) (al : Nat → Nat → Int64) (q : Nat) (p0 : Int32) (Q : Int32 → (Nat → Nat → Int32) → (Nat → Nat → Int32) → (Nat → Nat → Int64) → Prop) (h : P_X3_seek sh ci ai al q p0 Q) (sz : Nat) : Met l yX3_seek wmX3_seek ({ frames := 12, cells := 0, slots := 0, locals := 200 }) (va_Pc [.ref q, .int p0] (cPre dC dI sh ci ai al sz)) (va_Qi (S := CSt) (cI Q) (cB dC dI sh (va_A (cW sh ci ai al) sz)) (va_A (cW sh ci ai al) sz)) 0 0 (va_A (cW sh ci ai al) sz) := by
  refine Met.ofW (cc := cX3_seek) (maxL := 2) (ret := (some .int)) (by decide) rfl ?_
  intro p e s m args below meth c s₁ B hml hv
  obtain ⟨rfl, hsz, hP, hK, hD0, hG⟩ := hv
  have hx := B.exec
  have hb := B.bytes
  have hr := B.returns
  have hts : ∀ w ∈ WC, w.before _ s = true := fun w h => atoms_spec (ws := wmX3_seek) B.pre w (List.mem_cons_of_mem _ h)
  have hown : s.vm.findClass RX3 = some m.cls := findClass_of_methodNamed B.named
  have hlocks := B.notSynchronized
  subst hsz
  have hD := hD0.self (sz := s.heap.size)
  generalize hAe : va_A (cW sh ci ai al) s.heap.size = A at hD ⊢
  have hA : ∀ q : Nat, s.heap.size ≤ q → A q := fun q h => by rw [← hAe]; exact Or.inr h
  generalize hH : s.heap = H at hP ⊢
  have hS : va_S A s.heap H [] := by rw [← hH]; exact va_S.rf
  have hl := lv_entry [.ref q, .int p0] (n := 2) (Nat.le_of_ble_eq_true rfl)
  rw [lg_entry_eq]
  generalize (lg_sl [.ref q, .int p0] ++ List.replicate (2 - (lg_sl [.ref q, .int p0]).length) Slot.unset).toArray = ls at hl ⊢
  have hl : lv_has ls 2 [(0, .ref q), (1, .int p0)] := hl
  unfold P_X3_seek at h
  obtain ⟨⟨hq, hk⟩, h⟩ := h
  refine lv_iload_n hx hb dX3_seek_0 rfl (lv_at hl 1 rfl) ?_
  refine lv_aload_n hx hb dX3_seek_1 rfl (lv_at hl 0 rfl) ?_
  obtain ⟨q1, e2, h⟩ := h
  refine c_get (C := RX3) (T := TX3) (N := 7) (K := 3) (v := .ref q1) hx hb hts hinX3 hown hK hP hq hk (by decide) rfl 5 (by decide) (hts _ mwC_201) (fun _ h9 => h9) (by show some (va_rf (sR sh q 5)) = _; rw [e2]; rfl) dX3_seek_2 ?_
  obtain ⟨⟨hm3, hk4⟩, h⟩ := h
  refine c_alen hx hb hK hP hm3 (Or.inr (Or.inl hk4)) dX3_seek_5 ?_
  refine lv_icmp_ge (tgt := 13) hx hb dX3_seek_6 (by decide) (fun c_6 => ?_) (fun c_6 => ?_)
  · have h := h.1 c_6
    refine lv_aload_n hx hb dX3_seek_13 rfl (lv_at hl 0 rfl) ?_
    refine c_get (C := RX3) (T := TX3) (N := 7) (K := 3) (v := .int (ci q 6)) hx hb hts hinX3 hown hK hP hq hk (by decide) rfl 6 (by decide) (hts _ mwC_202) (fun _ h9 => h9) rfl dX3_seek_14 ?_
    exact W.iret (v := (ci q 6)) hx hb hr (fun t ht hW => ⟨⟨_, (ci, ai, al), rfl, h, by rw [ht]; exact hP, cK.moved hW.alike hK, hD⟩, hS.F ht⟩) hS.2.2 dX3_seek_17
  · have h := h.2 c_6
    refine lv_iconst (v := 1) hx hb dX3_seek_9 (by decide) ?_
    refine lv_goto (tgt := 17) hx hb dX3_seek_10 (by decide) ?_
    exact W.iret (v := 1) hx hb hr (fun t ht hW => ⟨⟨_, (ci, ai, al), rfl, h, by rw [ht]; exact hP, cK.moved hW.alike hK, hD⟩, hS.F ht⟩) hS.2.2 dX3_seek_17
