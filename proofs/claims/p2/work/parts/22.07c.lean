theorem dX5_isWorked_0 : decode cX5_isWorked 0 = .ok (.aload_n 0, 1) := by decide +kernel
theorem dX5_isWorked_1 : decode cX5_isWorked 1 = .ok (.iload_n 1, 1) := by decide +kernel
theorem dX5_isWorked_2 : decode cX5_isWorked 2 = .ok (.invokevirtual 53, 3) := by decide +kernel
theorem dX5_isWorked_5 : decode cX5_isWorked 5 = .ok (.astore_n 2, 1) := by decide +kernel
theorem dX5_isWorked_6 : decode cX5_isWorked 6 = .ok (.aload_n 2, 1) := by decide +kernel
theorem dX5_isWorked_7 : decode cX5_isWorked 7 = .ok (.aload_n 0, 1) := by decide +kernel
theorem dX5_isWorked_8 : decode cX5_isWorked 8 = .ok (.if_acmp .eq 13, 3) := by decide +kernel
theorem dX5_isWorked_11 : decode cX5_isWorked 11 = .ok (.aload_n 2, 1) := by decide +kernel
theorem dX5_isWorked_12 : decode cX5_isWorked 12 = .ok (.aload_n 0, 1) := by decide +kernel
theorem dX5_isWorked_13 : decode cX5_isWorked 13 = .ok (.iload_n 1, 1) := by decide +kernel
theorem dX5_isWorked_14 : decode cX5_isWorked 14 = .ok (.invokevirtual 57, 3) := by decide +kernel
theorem dX5_isWorked_17 : decode cX5_isWorked 17 = .ok (.invokevirtual 66, 3) := by decide +kernel
theorem dX5_isWorked_20 : decode cX5_isWorked 20 = .ok (.ireturn, 1) := by decide +kernel
theorem dX5_isWorked_21 : decode cX5_isWorked 21 = .ok (.iload_n 1, 1) := by decide +kernel
theorem dX5_isWorked_22 : decode cX5_isWorked 22 = .ok (.ifCond .lt 25, 3) := by decide +kernel
theorem dX5_isWorked_25 : decode cX5_isWorked 25 = .ok (.iload_n 1, 1) := by decide +kernel
theorem dX5_isWorked_26 : decode cX5_isWorked 26 = .ok (.aload_n 0, 1) := by decide +kernel
theorem dX5_isWorked_27 : decode cX5_isWorked 27 = .ok (.getfield 19, 3) := by decide +kernel
theorem dX5_isWorked_30 : decode cX5_isWorked 30 = .ok (.arraylength, 1) := by decide +kernel
theorem dX5_isWorked_31 : decode cX5_isWorked 31 = .ok (.if_icmp .ge 16, 3) := by decide +kernel
theorem dX5_isWorked_34 : decode cX5_isWorked 34 = .ok (.aload_n 0, 1) := by decide +kernel
theorem dX5_isWorked_35 : decode cX5_isWorked 35 = .ok (.getfield 19, 3) := by decide +kernel
theorem dX5_isWorked_38 : decode cX5_isWorked 38 = .ok (.iload_n 1, 1) := by decide +kernel
theorem dX5_isWorked_39 : decode cX5_isWorked 39 = .ok (.baload, 1) := by decide +kernel
theorem dX5_isWorked_40 : decode cX5_isWorked 40 = .ok (.ifCond .eq 7, 3) := by decide +kernel
theorem dX5_isWorked_43 : decode cX5_isWorked 43 = .ok (.iconst 1, 1) := by decide +kernel
theorem dX5_isWorked_44 : decode cX5_isWorked 44 = .ok (.goto 4, 3) := by decide +kernel
theorem dX5_isWorked_47 : decode cX5_isWorked 47 = .ok (.iconst 0, 1) := by decide +kernel
theorem dX5_isWorked_48 : decode cX5_isWorked 48 = .ok (.ireturn, 1) := by decide +kernel
theorem dX5_number_0 : decode cX5_number 0 = .ok (.aload_n 0, 1) := by decide +kernel
theorem dX5_number_1 : decode cX5_number 1 = .ok (.iload_n 1, 1) := by decide +kernel
theorem dX5_number_2 : decode cX5_number 2 = .ok (.invokevirtual 53, 3) := by decide +kernel
theorem dX5_number_5 : decode cX5_number 5 = .ok (.astore_n 2, 1) := by decide +kernel
theorem dX5_number_6 : decode cX5_number 6 = .ok (.aload_n 2, 1) := by decide +kernel
theorem dX5_number_7 : decode cX5_number 7 = .ok (.aload_n 0, 1) := by decide +kernel
theorem dX5_number_8 : decode cX5_number 8 = .ok (.if_acmp .eq 13, 3) := by decide +kernel
theorem dX5_number_11 : decode cX5_number 11 = .ok (.aload_n 2, 1) := by decide +kernel
theorem dX5_number_12 : decode cX5_number 12 = .ok (.aload_n 0, 1) := by decide +kernel
theorem dX5_number_13 : decode cX5_number 13 = .ok (.iload_n 1, 1) := by decide +kernel
theorem dX5_number_14 : decode cX5_number 14 = .ok (.invokevirtual 57, 3) := by decide +kernel
theorem dX5_number_17 : decode cX5_number 17 = .ok (.invokevirtual 70, 3) := by decide +kernel
theorem dX5_number_20 : decode cX5_number 20 = .ok (.lreturn, 1) := by decide +kernel
theorem dX5_number_21 : decode cX5_number 21 = .ok (.iload_n 1, 1) := by decide +kernel
theorem dX5_number_22 : decode cX5_number 22 = .ok (.ifCond .lt 21, 3) := by decide +kernel
theorem dX5_number_25 : decode cX5_number 25 = .ok (.iload_n 1, 1) := by decide +kernel
theorem dX5_number_26 : decode cX5_number 26 = .ok (.aload_n 0, 1) := by decide +kernel
theorem dX5_number_27 : decode cX5_number 27 = .ok (.getfield 15, 3) := by decide +kernel
theorem dX5_number_30 : decode cX5_number 30 = .ok (.arraylength, 1) := by decide +kernel
theorem dX5_number_31 : decode cX5_number 31 = .ok (.if_icmp .ge 12, 3) := by decide +kernel
theorem dX5_number_34 : decode cX5_number 34 = .ok (.aload_n 0, 1) := by decide +kernel
theorem dX5_number_35 : decode cX5_number 35 = .ok (.getfield 15, 3) := by decide +kernel
theorem dX5_number_38 : decode cX5_number 38 = .ok (.iload_n 1, 1) := by decide +kernel
theorem dX5_number_39 : decode cX5_number 39 = .ok (.laload, 1) := by decide +kernel
theorem dX5_number_40 : decode cX5_number 40 = .ok (.goto 4, 3) := by decide +kernel
theorem dX5_number_43 : decode cX5_number 43 = .ok (.lconst 0, 1) := by decide +kernel
theorem dX5_number_44 : decode cX5_number 44 = .ok (.lreturn, 1) := by decide +kernel
theorem hd_X5_number : yX5_number.cls = RX5 ∧ yX5_number.cls ≠ "java/lang/invoke/MethodHandle" ∧ yX5_number.cls ≠ "java/lang/invoke/VarHandle" ∧ (parseMethodDescriptor yX5_number.desc).map (fun d => d.parameters.length) = some 1 := by decide +kernel
def P_X5_number (sh : Sh) (Gs : ((Nat → Nat → Int32) → (Nat → Nat → Int32) → (Nat → Nat → Int64) → Nat → Int32 → (Int64 → Prop) → Prop)) (ci : Nat → Nat → Int32) (ai : Nat → Nat → Int32) (al : Nat → Nat → Int64) (q : Nat) (p0 : Int32) (Q : Int64 → Prop) : Prop := (q ∈ sL sh ∧ isZ (sK sh q)) ∧ P_V_source sh ci ai al q p0 (fun r1 => ((some r1 = some q) → (((p0 < 0) → (Q 0)) ∧ ((¬ p0 < 0) → (∃ q2 : Nat, sR sh q 1 = some q2 ∧ (q2 ∈ sL sh ∧ sK sh q2 = 22) ∧ (((nI (sN sh q2)) ≤ p0) → (Q 0)) ∧ ((¬ (nI (sN sh q2)) ≤ p0) → (vp_in p0 (sN sh q2) ∧ Q (al q2 p0.toNatClampNeg))))))) ∧ ((¬ some r1 = some q) → (P_V_place sh ci ai al q p0 (fun r7 => (r1 ∈ sL sh ∧ isZ (sK sh r1)) ∧ Gs ci ai al r1 r7 (fun r10 => Q r10)))))
set_option maxHeartbeats 4000000 in
set_option maxRecDepth 100000 in
theorem p_X5_number (l : Launch) (dC : Nat → ClassId) (dI : Nat → Nat → Nat) (sh : Sh) (f : Nat) {Gs : ((Nat → Nat → Int32) → (Nat → Nat → Int32) → (Nat → Nat → Int64) → Nat → Int32 → (Int64 → Prop) → Prop)} (hGs : ∀ (ci : Nat → Nat → Int32) (ai : Nat → Nat → Int32) (al : Nat → Nat → Int64) (q : Nat) (k : Int32) (Q : Int64 → Prop), Gs ci ai al q k Q → ∀ sz : Nat, Met l yX5_number wmX5_number ({ frames := 20 + 2 * f, cells := 0, slots := 0, locals := 300 + 50 * f }) (va_Pc [.ref q, .int k] (cPre dC dI sh ci ai al sz)) (va_Ql (S := Unit) (fun r _ => Q r) (fun _ _ => True) (va_A [] sz)) 0 0 (va_A [] sz)) (ci : Nat → Nat → Int32) (ai : Nat → Nat → Int32) (al : Nat → Nat → Int64) (q : Nat) (p0 : Int32) (Q : Int64 → Prop) (h : P_X5_number sh Gs ci ai al q p0 Q) (sz : Nat) : Met l yX5_number wmX5_number ({ frames := 20 + 2 * (f + 1), cells := 0, slots := 0, locals := 300 + 50 * (f + 1) }) (va_Pc [.ref q, .int p0] (cPre dC dI sh ci ai al sz)) (va_Ql (S := Unit) (fun r _ => Q r) (fun _ _ => True) (va_A [] sz)) 0 0 (va_A [] sz) := by
  refine Met.ofW (cc := cX5_number) (maxL := 3) (ret := (some .long)) (by decide) rfl ?_
  intro p e s m args below meth c s₁ B hml hv
  obtain ⟨rfl, hsz, hP, hK, hD0, hG⟩ := hv
  have hx := B.exec
  have hb := B.bytes
  have hr := B.returns
  have hts : ∀ w ∈ WC, w.before _ s = true := fun w h => atoms_spec (ws := wmX5_number) B.pre w (List.mem_cons_of_mem _ h)
  have hown : s.vm.findClass RX5 = some m.cls := findClass_of_methodNamed B.named
  have hlocks := B.notSynchronized
  subst hsz
  have hD := hD0
  generalize hAe : va_A [] s.heap.size = A at ⊢
  have hA : ∀ q : Nat, s.heap.size ≤ q → A q := fun q h => by rw [← hAe]; exact Or.inr h
  generalize hH : s.heap = H at hP ⊢
  have hS : va_S A s.heap H [] := by rw [← hH]; exact va_S.rf
  have hl := lv_entry [.ref q, .int p0] (n := 3) (Nat.le_of_ble_eq_true rfl)
  rw [lg_entry_eq]
  generalize (lg_sl [.ref q, .int p0] ++ List.replicate (3 - (lg_sl [.ref q, .int p0]).length) Slot.unset).toArray = ls at hl ⊢
  have hl : lv_has ls 3 [(0, .ref q), (1, .int p0)] := hl
  unfold P_X5_number at h
  obtain ⟨⟨hq, hk⟩, h⟩ := h
  refine lv_aload_n hx hb dX5_number_0 rfl (lv_at hl 0 rfl) ?_
  refine lv_iload_n hx hb dX5_number_1 rfl (lv_at hl 1 rfl) ?_
  refine r_endr (v_source (k9 := p0) (q := q) (rest := []) h ⟨hx, hb, hml, hown, hts⟩ hK hP hD hG hq hk ⟨(show 12 + 1 ≤ 20 + 2 * (f + 1) by omega), (show 8 + (10 + 11) + (200) ≤ 300 + 50 * (f + 1) by omega)⟩ hl.1 rfl (Nat.le_of_ble_eq_true rfl) ⟨Nat.le_of_ble_eq_true rfl, Nat.le_of_ble_eq_true rfl⟩ dX5_number_2) hP hS hA (fun r1 H locs h hP hS => ?_)
  refine lv_astore_n (lv' := [(2, .ref r1), (0, .ref q), (1, .int p0)]) hx hb dX5_number_5 rfl hl (by decide) rfl (fun ls hl => ?_)
  refine lv_aload_n hx hb dX5_number_6 rfl (lv_at hl 0 rfl) ?_
  refine lv_aload_n hx hb dX5_number_7 rfl (lv_at hl 1 rfl) ?_
  refine lv_acmp_eq (rx := some r1) (ry := some q) (tgt := 21) hx hb dX5_number_8 (by decide) (fun c_8 => ?_) (fun c_8 => ?_)
  · have h := h.1 c_8
    refine lv_iload_n hx hb dX5_number_21 rfl (lv_at hl 2 rfl) ?_
    refine lv_if_lt (tgt := 43) hx hb dX5_number_22 (by decide) (fun c_22 => ?_) (fun c_22 => ?_)
    · have h := h.1 c_22
      refine lv_lconst (v := 0) hx hb dX5_number_43 (by decide) ?_
      exact W.lret (v := 0) hx hb hr (fun t ht hW => ⟨⟨_, (), rfl, h, trivial⟩, hS.F ht⟩) hS.2.2 dX5_number_44
    · have h := h.2 c_22
      refine lv_iload_n hx hb dX5_number_25 rfl (lv_at hl 2 rfl) ?_
      refine lv_aload_n hx hb dX5_number_26 rfl (lv_at hl 1 rfl) ?_
      obtain ⟨q2, e3, h⟩ := h
      refine c_getZ1 hx hb hts hown hK hP hq hk e3 (hts _ mwC_90) dX5_number_27 ?_
      obtain ⟨⟨hm4, hk5⟩, h⟩ := h
      refine c_alen hx hb hK hP hm4 (Or.inr (Or.inr (Or.inl hk5))) dX5_number_30 ?_
      refine lv_icmp_ge (tgt := 43) hx hb dX5_number_31 (by decide) (fun c_31 => ?_) (fun c_31 => ?_)
      · have h := h.1 c_31
        refine lv_lconst (v := 0) hx hb dX5_number_43 (by decide) ?_
        exact W.lret (v := 0) hx hb hr (fun t ht hW => ⟨⟨_, (), rfl, h, trivial⟩, hS.F ht⟩) hS.2.2 dX5_number_44
      · have h := h.2 c_31
        refine lv_aload_n hx hb dX5_number_34 rfl (lv_at hl 1 rfl) ?_
        refine c_getZ1 hx hb hts hown hK hP hq hk e3 (hts _ mwC_90) dX5_number_35 ?_
        refine lv_iload_n hx hb dX5_number_38 rfl (lv_at hl 2 rfl) ?_
        obtain ⟨hi6, h⟩ := h
        refine c_lald hx hb hK hP hm4 hk5 hi6 dX5_number_39 ?_
        refine lv_goto (tgt := 44) hx hb dX5_number_40 (by decide) ?_
        exact W.lret (v := (al q2 p0.toNatClampNeg)) hx hb hr (fun t ht hW => ⟨⟨_, (), rfl, h, trivial⟩, hS.F ht⟩) hS.2.2 dX5_number_44
  · have h := h.2 c_8
    refine lv_aload_n hx hb dX5_number_11 rfl (lv_at hl 0 rfl) ?_
    refine lv_aload_n hx hb dX5_number_12 rfl (lv_at hl 1 rfl) ?_
    refine lv_iload_n hx hb dX5_number_13 rfl (lv_at hl 2 rfl) ?_
    refine r_endi (v_place (k9 := p0) (q := q) (rest := [.ref r1]) h ⟨hx, hb, hml, hown, hts⟩ hK hP hD hG hq hk ⟨(show 12 + 1 ≤ 20 + 2 * (f + 1) by omega), (show 8 + (10 + 11) + (200) ≤ 300 + 50 * (f + 1) by omega)⟩ hl.1 rfl (Nat.le_of_ble_eq_true rfl) ⟨Nat.le_of_ble_eq_true rfl, Nat.le_of_ble_eq_true rfl⟩ dX5_number_14) hP hS hA (fun r7 H locs h hP hS => ?_)
    obtain ⟨⟨hm8, hk9⟩, h⟩ := h
    refine r_endl (c_runZ (rm := ({ frames := 20 + 2 * f, cells := 0, slots := 0, locals := 300 + 50 * f })) (y := yX5_number) (x := ⟨"NeededLists$LazyList", "number", "(I)J"⟩) (n := 1) (bytes := cX5_number) (maxL := 3) (ret := (some .long)) (q := r1) (As := [.int r7]) (rest := []) ⟨hx, hb, hml, hown, hts⟩ (hGs _ _ _ r1 r7 _ h H.size) mwC_91 mwC_92 mwC_93 mwC_22 mwC_94 mwC_95 mwC_96 mwC_97 mwC_98 mwC_99 mwC_100 mwC_101 mwC_102 mwC_103 rfl (by decide +kernel) rfl rfl ⟨(show 20 + 2 * f + 1 ≤ 20 + 2 * (f + 1) by omega), (show 8 + (3 + 11) + (300 + 50 * f) ≤ 300 + 50 * (f + 1) by omega)⟩ hK hP hD hG hm8 hk9 rfl hl.1 rfl (Nat.le_of_ble_eq_true rfl) ⟨Nat.le_of_ble_eq_true rfl, Nat.le_of_ble_eq_true rfl⟩ dX5_number_17) hP hS hA (fun r10 H locs h hP hS => ?_)
    exact W.lret (v := r10) hx hb hr (fun t ht hW => ⟨⟨_, (), rfl, h, trivial⟩, hS.F ht⟩) hS.2.2 dX5_number_20
def P_X5_number_f (sh : Sh) : Nat → ((Nat → Nat → Int32) → (Nat → Nat → Int32) → (Nat → Nat → Int64) → Nat → Int32 → (Int64 → Prop) → Prop)
  | 0 => fun _ _ _ _ _ _ => False
  | f + 1 => P_X5_number sh (P_X5_number_f sh f)
theorem p_X5_number_f (l : Launch) (dC : Nat → ClassId) (dI : Nat → Nat → Nat) (sh : Sh) (f : Nat) : ∀ (ci : Nat → Nat → Int32) (ai : Nat → Nat → Int32) (al : Nat → Nat → Int64) (q : Nat) (k : Int32) (Q : Int64 → Prop), P_X5_number_f sh f ci ai al q k Q → ∀ sz : Nat, Met l yX5_number wmX5_number ({ frames := 20 + 2 * f, cells := 0, slots := 0, locals := 300 + 50 * f }) (va_Pc [.ref q, .int k] (cPre dC dI sh ci ai al sz)) (va_Ql (S := Unit) (fun r _ => Q r) (fun _ _ => True) (va_A [] sz)) 0 0 (va_A [] sz) := by
  induction f with
  | zero => intro ci ai al q k Q h; exact h.elim
  | succ f ih => intro ci ai al q k Q h sz; exact p_X5_number l dC dI sh f ih ci ai al q k Q h sz

theorem hd_X5_isWorked : yX5_isWorked.cls = RX5 ∧ yX5_isWorked.cls ≠ "java/lang/invoke/MethodHandle" ∧ yX5_isWorked.cls ≠ "java/lang/invoke/VarHandle" ∧ (parseMethodDescriptor yX5_isWorked.desc).map (fun d => d.parameters.length) = some 1 := by decide +kernel
def P_X5_isWorked (sh : Sh) (Gs : ((Nat → Nat → Int32) → (Nat → Nat → Int32) → (Nat → Nat → Int64) → Nat → Int32 → (Int32 → Prop) → Prop)) (ci : Nat → Nat → Int32) (ai : Nat → Nat → Int32) (al : Nat → Nat → Int64) (q : Nat) (p0 : Int32) (Q : Int32 → Prop) : Prop := (q ∈ sL sh ∧ isZ (sK sh q)) ∧ P_V_source sh ci ai al q p0 (fun r1 => ((some r1 = some q) → (((p0 < 0) → (Q 0)) ∧ ((¬ p0 < 0) → (∃ q2 : Nat, sR sh q 2 = some q2 ∧ (q2 ∈ sL sh ∧ sK sh q2 = 21) ∧ (((nI (sN sh q2)) ≤ p0) → (Q 0)) ∧ ((¬ (nI (sN sh q2)) ≤ p0) → (vp_in p0 (sN sh q2) ∧ (((ai q2 p0.toNatClampNeg) = 0) → (Q 0)) ∧ ((¬ (ai q2 p0.toNatClampNeg) = 0) → (Q 1)))))))) ∧ ((¬ some r1 = some q) → (P_V_place sh ci ai al q p0 (fun r7 => (r1 ∈ sL sh ∧ isZ (sK sh r1)) ∧ Gs ci ai al r1 r7 (fun r10 => narrow .boolean (.int r10) = .int r10 ∧ Q r10)))))
set_option maxHeartbeats 4000000 in
set_option maxRecDepth 100000 in
theorem p_X5_isWorked (l : Launch) (dC : Nat → ClassId) (dI : Nat → Nat → Nat) (sh : Sh) (f : Nat) {Gs : ((Nat → Nat → Int32) → (Nat → Nat → Int32) → (Nat → Nat → Int64) → Nat → Int32 → (Int32 → Prop) → Prop)} (hGs : ∀ (ci : Nat → Nat → Int32) (ai : Nat → Nat → Int32) (al : Nat → Nat → Int64) (q : Nat) (k : Int32) (Q : Int32 → Prop), Gs ci ai al q k Q → ∀ sz : Nat, Met l yX5_isWorked wmX5_isWorked ({ frames := 20 + 2 * f, cells := 0, slots := 0, locals := 300 + 50 * f }) (va_Pc [.ref q, .int k] (cPre dC dI sh ci ai al sz)) (va_Qi (S := Unit) (fun r _ => Q r) (fun _ _ => True) (va_A [] sz)) 0 0 (va_A [] sz)) (ci : Nat → Nat → Int32) (ai : Nat → Nat → Int32) (al : Nat → Nat → Int64) (q : Nat) (p0 : Int32) (Q : Int32 → Prop) (h : P_X5_isWorked sh Gs ci ai al q p0 Q) (sz : Nat) : Met l yX5_isWorked wmX5_isWorked ({ frames := 20 + 2 * (f + 1), cells := 0, slots := 0, locals := 300 + 50 * (f + 1) }) (va_Pc [.ref q, .int p0] (cPre dC dI sh ci ai al sz)) (va_Qi (S := Unit) (fun r _ => Q r) (fun _ _ => True) (va_A [] sz)) 0 0 (va_A [] sz) := by
  refine Met.ofW (cc := cX5_isWorked) (maxL := 3) (ret := (some .boolean)) (by decide) rfl ?_
  intro p e s m args below meth c s₁ B hml hv
  obtain ⟨rfl, hsz, hP, hK, hD0, hG⟩ := hv
  have hx := B.exec
  have hb := B.bytes
  have hr := B.returns
  have hts : ∀ w ∈ WC, w.before _ s = true := fun w h => atoms_spec (ws := wmX5_isWorked) B.pre w (List.mem_cons_of_mem _ h)
  have hown : s.vm.findClass RX5 = some m.cls := findClass_of_methodNamed B.named
  have hlocks := B.notSynchronized
  subst hsz
  have hD := hD0
  generalize hAe : va_A [] s.heap.size = A at ⊢
  have hA : ∀ q : Nat, s.heap.size ≤ q → A q := fun q h => by rw [← hAe]; exact Or.inr h
  generalize hH : s.heap = H at hP ⊢
  have hS : va_S A s.heap H [] := by rw [← hH]; exact va_S.rf
  have hl := lv_entry [.ref q, .int p0] (n := 3) (Nat.le_of_ble_eq_true rfl)
  rw [lg_entry_eq]
  generalize (lg_sl [.ref q, .int p0] ++ List.replicate (3 - (lg_sl [.ref q, .int p0]).length) Slot.unset).toArray = ls at hl ⊢
  have hl : lv_has ls 3 [(0, .ref q), (1, .int p0)] := hl
  unfold P_X5_isWorked at h
  obtain ⟨⟨hq, hk⟩, h⟩ := h
  refine lv_aload_n hx hb dX5_isWorked_0 rfl (lv_at hl 0 rfl) ?_
  refine lv_iload_n hx hb dX5_isWorked_1 rfl (lv_at hl 1 rfl) ?_
  refine r_endr (v_source (k9 := p0) (q := q) (rest := []) h ⟨hx, hb, hml, hown, hts⟩ hK hP hD hG hq hk ⟨(show 12 + 1 ≤ 20 + 2 * (f + 1) by omega), (show 8 + (10 + 11) + (200) ≤ 300 + 50 * (f + 1) by omega)⟩ hl.1 rfl (Nat.le_of_ble_eq_true rfl) ⟨Nat.le_of_ble_eq_true rfl, Nat.le_of_ble_eq_true rfl⟩ dX5_isWorked_2) hP hS hA (fun r1 H locs h hP hS => ?_)
  refine lv_astore_n (lv' := [(2, .ref r1), (0, .ref q), (1, .int p0)]) hx hb dX5_isWorked_5 rfl hl (by decide) rfl (fun ls hl => ?_)
  refine lv_aload_n hx hb dX5_isWorked_6 rfl (lv_at hl 0 rfl) ?_
  refine lv_aload_n hx hb dX5_isWorked_7 rfl (lv_at hl 1 rfl) ?_
  refine lv_acmp_eq (rx := some r1) (ry := some q) (tgt := 21) hx hb dX5_isWorked_8 (by decide) (fun c_8 => ?_) (fun c_8 => ?_)
  · have h := h.1 c_8
    refine lv_iload_n hx hb dX5_isWorked_21 rfl (lv_at hl 2 rfl) ?_
    refine lv_if_lt (tgt := 47) hx hb dX5_isWorked_22 (by decide) (fun c_22 => ?_) (fun c_22 => ?_)
    · have h := h.1 c_22
      refine lv_iconst (v := 0) hx hb dX5_isWorked_47 (by decide) ?_
      exact W.zret (v := 0) hx hb hr (by decide) (fun t ht hW => ⟨⟨_, (), rfl, h, trivial⟩, hS.F ht⟩) hS.2.2 dX5_isWorked_48
    · have h := h.2 c_22
      refine lv_iload_n hx hb dX5_isWorked_25 rfl (lv_at hl 2 rfl) ?_
      refine lv_aload_n hx hb dX5_isWorked_26 rfl (lv_at hl 1 rfl) ?_
      obtain ⟨q2, e3, h⟩ := h
      refine c_getZ2 hx hb hts hown hK hP hq hk e3 (hts _ mwC_104) dX5_isWorked_27 ?_
      obtain ⟨⟨hm4, hk5⟩, h⟩ := h
      refine c_alen hx hb hK hP hm4 (Or.inr (Or.inl hk5)) dX5_isWorked_30 ?_
      refine lv_icmp_ge (tgt := 47) hx hb dX5_isWorked_31 (by decide) (fun c_31 => ?_) (fun c_31 => ?_)
      · have h := h.1 c_31
        refine lv_iconst (v := 0) hx hb dX5_isWorked_47 (by decide) ?_
        exact W.zret (v := 0) hx hb hr (by decide) (fun t ht hW => ⟨⟨_, (), rfl, h, trivial⟩, hS.F ht⟩) hS.2.2 dX5_isWorked_48
      · have h := h.2 c_31
        refine lv_aload_n hx hb dX5_isWorked_34 rfl (lv_at hl 1 rfl) ?_
        refine c_getZ2 hx hb hts hown hK hP hq hk e3 (hts _ mwC_104) dX5_isWorked_35 ?_
        refine lv_iload_n hx hb dX5_isWorked_38 rfl (lv_at hl 2 rfl) ?_
        obtain ⟨hi6, h⟩ := h
        refine c_bald hx hb hK hP hm4 hk5 hi6 dX5_isWorked_39 ?_
        refine lv_if_eq (tgt := 47) hx hb dX5_isWorked_40 (by decide) (fun c_40 => ?_) (fun c_40 => ?_)
        · have h := h.1 c_40
          refine lv_iconst (v := 0) hx hb dX5_isWorked_47 (by decide) ?_
          exact W.zret (v := 0) hx hb hr (by decide) (fun t ht hW => ⟨⟨_, (), rfl, h, trivial⟩, hS.F ht⟩) hS.2.2 dX5_isWorked_48
        · have h := h.2 c_40
          refine lv_iconst (v := 1) hx hb dX5_isWorked_43 (by decide) ?_
          refine lv_goto (tgt := 48) hx hb dX5_isWorked_44 (by decide) ?_
          exact W.zret (v := 1) hx hb hr (by decide) (fun t ht hW => ⟨⟨_, (), rfl, h, trivial⟩, hS.F ht⟩) hS.2.2 dX5_isWorked_48
  · have h := h.2 c_8
    refine lv_aload_n hx hb dX5_isWorked_11 rfl (lv_at hl 0 rfl) ?_
    refine lv_aload_n hx hb dX5_isWorked_12 rfl (lv_at hl 1 rfl) ?_
    refine lv_iload_n hx hb dX5_isWorked_13 rfl (lv_at hl 2 rfl) ?_
    refine r_endi (v_place (k9 := p0) (q := q) (rest := [.ref r1]) h ⟨hx, hb, hml, hown, hts⟩ hK hP hD hG hq hk ⟨(show 12 + 1 ≤ 20 + 2 * (f + 1) by omega), (show 8 + (10 + 11) + (200) ≤ 300 + 50 * (f + 1) by omega)⟩ hl.1 rfl (Nat.le_of_ble_eq_true rfl) ⟨Nat.le_of_ble_eq_true rfl, Nat.le_of_ble_eq_true rfl⟩ dX5_isWorked_14) hP hS hA (fun r7 H locs h hP hS => ?_)
    obtain ⟨⟨hm8, hk9⟩, h⟩ := h
    refine r_endi (c_runZ (rm := ({ frames := 20 + 2 * f, cells := 0, slots := 0, locals := 300 + 50 * f })) (y := yX5_isWorked) (x := ⟨"NeededLists$LazyList", "isWorked", "(I)Z"⟩) (n := 1) (bytes := cX5_isWorked) (maxL := 3) (ret := (some .boolean)) (q := r1) (As := [.int r7]) (rest := []) ⟨hx, hb, hml, hown, hts⟩ (hGs _ _ _ r1 r7 _ h H.size) mwC_105 mwC_106 mwC_107 mwC_22 mwC_108 mwC_109 mwC_110 mwC_111 mwC_112 mwC_113 mwC_114 mwC_115 mwC_116 mwC_117 rfl (by decide +kernel) rfl rfl ⟨(show 20 + 2 * f + 1 ≤ 20 + 2 * (f + 1) by omega), (show 8 + (3 + 11) + (300 + 50 * f) ≤ 300 + 50 * (f + 1) by omega)⟩ hK hP hD hG hm8 hk9 rfl hl.1 rfl (Nat.le_of_ble_eq_true rfl) ⟨Nat.le_of_ble_eq_true rfl, Nat.le_of_ble_eq_true rfl⟩ dX5_isWorked_17) hP hS hA (fun r10 H locs h hP hS => ?_)
    obtain ⟨hz11, h⟩ := h
    exact W.zret (v := r10) hx hb hr hz11 (fun t ht hW => ⟨⟨_, (), rfl, h, trivial⟩, hS.F ht⟩) hS.2.2 dX5_isWorked_20
def P_X5_isWorked_f (sh : Sh) : Nat → ((Nat → Nat → Int32) → (Nat → Nat → Int32) → (Nat → Nat → Int64) → Nat → Int32 → (Int32 → Prop) → Prop)
  | 0 => fun _ _ _ _ _ _ => False
  | f + 1 => P_X5_isWorked sh (P_X5_isWorked_f sh f)
theorem p_X5_isWorked_f (l : Launch) (dC : Nat → ClassId) (dI : Nat → Nat → Nat) (sh : Sh) (f : Nat) : ∀ (ci : Nat → Nat → Int32) (ai : Nat → Nat → Int32) (al : Nat → Nat → Int64) (q : Nat) (k : Int32) (Q : Int32 → Prop), P_X5_isWorked_f sh f ci ai al q k Q → ∀ sz : Nat, Met l yX5_isWorked wmX5_isWorked ({ frames := 20 + 2 * f, cells := 0, slots := 0, locals := 300 + 50 * f }) (va_Pc [.ref q, .int k] (cPre dC dI sh ci ai al sz)) (va_Qi (S := Unit) (fun r _ => Q r) (fun _ _ => True) (va_A [] sz)) 0 0 (va_A [] sz) := by
  induction f with
  | zero => intro ci ai al q k Q h; exact h.elim
  | succ f ih => intro ci ai al q k Q h sz; exact p_X5_isWorked l dC dI sh f ih ci ai al q k Q h sz
