abbrev cX11_worked : ByteArray := prog_1_method_31_code
def yX11_worked : MethodName := ⟨RX11, "worked", "(II)Z"⟩
theorem dX11_worked_0 : decode cX11_worked 0 = .ok (.aload_n 0, 1) := by decide +kernel
theorem dX11_worked_1 : decode cX11_worked 1 = .ok (.iload_n 1, 1) := by decide +kernel
theorem dX11_worked_2 : decode cX11_worked 2 = .ok (.invokevirtual 87, 3) := by decide +kernel
theorem dX11_worked_5 : decode cX11_worked 5 = .ok (.astore_n 3, 1) := by decide +kernel
theorem dX11_worked_6 : decode cX11_worked 6 = .ok (.iload_n 2, 1) := by decide +kernel
theorem dX11_worked_7 : decode cX11_worked 7 = .ok (.ifCond .lt 23, 3) := by decide +kernel
theorem dX11_worked_10 : decode cX11_worked 10 = .ok (.iload_n 2, 1) := by decide +kernel
theorem dX11_worked_11 : decode cX11_worked 11 = .ok (.aload_n 3, 1) := by decide +kernel
theorem dX11_worked_12 : decode cX11_worked 12 = .ok (.invokevirtual 165, 3) := by decide +kernel
theorem dX11_worked_15 : decode cX11_worked 15 = .ok (.if_icmp .ge 15, 3) := by decide +kernel
theorem dX11_worked_18 : decode cX11_worked 18 = .ok (.aload_n 3, 1) := by decide +kernel
theorem dX11_worked_19 : decode cX11_worked 19 = .ok (.iload_n 2, 1) := by decide +kernel
theorem dX11_worked_20 : decode cX11_worked 20 = .ok (.invokevirtual 194, 3) := by decide +kernel
theorem dX11_worked_23 : decode cX11_worked 23 = .ok (.ifCond .eq 7, 3) := by decide +kernel
theorem dX11_worked_26 : decode cX11_worked 26 = .ok (.iconst 1, 1) := by decide +kernel
theorem dX11_worked_27 : decode cX11_worked 27 = .ok (.goto 4, 3) := by decide +kernel
theorem dX11_worked_30 : decode cX11_worked 30 = .ok (.iconst 0, 1) := by decide +kernel
theorem dX11_worked_31 : decode cX11_worked 31 = .ok (.ireturn, 1) := by decide +kernel
abbrev wmX11_worked : List Cond := .code yX11_worked cX11_worked 4 (some .boolean) :: WC
theorem hd_X11_worked : yX11_worked.cls = RX11 ∧ yX11_worked.cls ≠ "java/lang/invoke/MethodHandle" ∧ yX11_worked.cls ≠ "java/lang/invoke/VarHandle" ∧ (parseMethodDescriptor yX11_worked.desc).map (fun d => d.parameters.length) = some 2 := by decide +kernel
def P_X11_worked (sh : Sh) (ci : Nat → Nat → Int32) (ai : Nat → Nat → Int32) (al : Nat → Nat → Int64) (q : Nat) (p0 : Int32) (p1 : Int32) (Q : Int32 → Sh → (Nat → Nat → Int32) → (Nat → Nat → Int32) → (Nat → Nat → Int64) → Prop) (X : String → Prop) : Prop := (q ∈ sL sh ∧ sK sh q = 10) ∧ P_X11_listOf sh ci ai al q p0 (fun r1 => ((p1 < 0) → (Q 0 sh ci ai al)) ∧ ((¬ p1 < 0) → ((r1 ∈ sL sh ∧ isZ (sK sh r1)) ∧ P_X5_there sh ci ai al r1  (fun r4 => ((r4 ≤ p1) → (Q 0 sh ci ai al)) ∧ ((¬ r4 ≤ p1) → (P_X5_isWorked_f sh 30 ci ai al r1 p1 (fun r5 => ((r5 = 0) → (Q 0 sh ci ai al)) ∧ ((¬ r5 = 0) → (Q 1 sh ci ai al))))))))) X
set_option maxHeartbeats 4000000 in
set_option maxRecDepth 100000 in
theorem p_X11_worked (l : Launch) (hl0 : l.stackTraces = false) (dC : Nat → ClassId) (dI : Nat → Nat → Nat) (sh : Sh) (ci : Nat → Nat → Int32) (ai : Nat → Nat → Int32) (al : Nat → Nat → Int64) (q : Nat) (p0 : Int32) (p1 : Int32) (Q : Int32 → Sh → (Nat → Nat → Int32) → (Nat → Nat → Int32) → (Nat → Nat → Int64) → Prop) (X : String → Prop) (h : P_X11_worked sh ci ai al q p0 p1 Q X) (sz : Nat) : vx_Met l yX11_worked wmX11_worked ({ frames := 1000, cells := 3, slots := 20, locals := 40000 }) (va_Pc [.ref q, .int p0, .int p1] (xPre dC dI sh ci ai al sz)) (va_Qi (S := XSt) (xI Q) (xB dC dI (va_A (cW sh ci ai al) sz)) (va_A (cW sh ci ai al) sz)) (XC X sz) 3 20 (va_A (cW sh ci ai al) sz) := by
  refine vx_ofW (cc := cX11_worked) (maxL := 4) (ret := (some .boolean)) (by decide) rfl ?_
  intro p e s m args below meth c s₁ B hml htab hv
  obtain ⟨rfl, ⟨hsz, hP, hK, hD0, hG⟩, hZ⟩ := hv
  have hx := B.exec
  have hb := B.bytes
  have hr := B.returns
  have hts : ∀ w ∈ WC, w.before _ s = true := fun w h => atoms_spec (ws := wmX11_worked) B.pre w (List.mem_cons_of_mem _ h)
  have hown : s.vm.findClass RX11 = some m.cls := findClass_of_methodNamed B.named
  have hlocks := B.notSynchronized
  subst hsz
  have hD := hD0.self (sz := s.heap.size)
  generalize hAe : va_A (cW sh ci ai al) s.heap.size = A at hD hZ ⊢
  have hA : ∀ q : Nat, s.heap.size ≤ q → A q := fun q h => by rw [← hAe]; exact Or.inr h
  generalize hz9 : s.heap.size = z9
  generalize hH : s.heap = H at hP ⊢
  subst hz9
  have hS : va_S A s.heap H [] := by rw [← hH]; exact va_S.rf
  have hE : xE s.heap H := by rw [← hH]; exact xE.rf
  have hl := lv_entry [.ref q, .int p0, .int p1] (n := 4) (Nat.le_of_ble_eq_true rfl)
  rw [lg_entry_eq]
  generalize (lg_sl [.ref q, .int p0, .int p1] ++ List.replicate (4 - (lg_sl [.ref q, .int p0, .int p1]).length) Slot.unset).toArray = ls at hl ⊢
  have hl : lv_has ls 4 [(0, .ref q), (1, .int p0), (2, .int p1)] := hl
  unfold P_X11_worked at h
  obtain ⟨⟨hq, hk⟩, h⟩ := h
  refine lv_aload_n hx hb dX11_worked_0 rfl (lv_at hl 0 rfl) ?_
  refine lv_iload_n hx hb dX11_worked_1 rfl (lv_at hl 1 rfl) ?_
  refine xr_endr (cells := 0) (slots := 0) (mc0 := 3) (ms0 := 20) (vx_runV (rm := ({ frames := 20, cells := 1, slots := 6, locals := 300 })) (As := [.int p0]) (rest := []) ⟨hx, hb, hml, hown, hts⟩ (p_X11_listOf l hl0 dC dI _ _ _ _ q p0 _ _ h H.size) (cwV 1 hts (g_V gdC mwC_436 mwC_437 mwC_438 mwC_119 mwC_435) rfl rfl rfl hd_X11_listOf ⟨Nat.le_of_ble_eq_true rfl, Nat.le_of_ble_eq_true rfl⟩) (x_preV hK hP hD hS hA hS hG hZ hq hk) rfl rfl hl.1 rfl (lv_room (Nat.le_of_ble_eq_true rfl)) dX11_worked_2 ⟨Nat.le_of_ble_eq_true rfl, Nat.le_of_ble_eq_true rfl⟩) hE hS hP hA (fun x h => (htab x h).elim) hlocks (Nat.le_of_ble_eq_true rfl) (Nat.le_of_ble_eq_true rfl) (fun r1 H locs h hE hP hS => ?_)
  refine lv_astore_n (lv' := [(3, .ref r1), (0, .ref q), (1, .int p0), (2, .int p1)]) hx hb dX11_worked_5 rfl hl (by decide) rfl (fun ls hl => ?_)
  refine lv_iload_n hx hb dX11_worked_6 rfl (lv_at hl 3 rfl) ?_
  refine lv_if_lt (tgt := 30) hx hb dX11_worked_7 (by decide) (fun c_7 => ?_) (fun c_7 => ?_)
  · have h := h.1 c_7
    refine lv_iconst (v := 0) hx hb dX11_worked_30 (by decide) ?_
    refine W.widen (k := 3) (n := 20) (by decide) (by decide) ?_
    refine vx_ret ?_
    exact W.zret (v := 0) hx hb hr (by decide) (fun t ht hW => ⟨⟨_, (sh, ci, ai, al), rfl, h, by rw [ht]; exact hP, cK.moved hW.alike hK, hD⟩, hS.F ht⟩) hS.2.2 dX11_worked_31
  · have h := h.2 c_7
    refine lv_iload_n hx hb dX11_worked_10 rfl (lv_at hl 3 rfl) ?_
    refine lv_aload_n hx hb dX11_worked_11 rfl (lv_at hl 0 rfl) ?_
    obtain ⟨⟨hm2, hk3⟩, h⟩ := h
    refine r_endi (c_runZ (rm := ({ frames := 4, cells := 0, slots := 0, locals := 60 })) (y := yX5_there) (x := ⟨"NeededLists$LazyList", "there", "()I"⟩) (n := 0) (bytes := cX5_there) (maxL := 1) (ret := (some .int)) (q := r1) (As := []) (rest := [.int p1]) ⟨hx, hb, hml, hown, hts⟩ (p_X5_there l dC dI sh _ _ _ r1  _ h H.size) mwC_476 mwC_20 mwC_21 mwC_22 mwC_23 mwC_24 mwC_25 mwC_26 mwC_27 mwC_28 mwC_29 mwC_30 mwC_31 mwC_32 rfl (by decide +kernel) rfl rfl ⟨Nat.le_of_ble_eq_true rfl, Nat.le_of_ble_eq_true rfl⟩ hK hP hD hG hm2 hk3 rfl hl.1 rfl (Nat.le_of_ble_eq_true rfl) ⟨Nat.le_of_ble_eq_true rfl, Nat.le_of_ble_eq_true rfl⟩ dX11_worked_12) hP hS hA (fun r4 H locs h hP hS => ?_)
    refine lv_icmp_ge (tgt := 30) hx hb dX11_worked_15 (by decide) (fun c_15 => ?_) (fun c_15 => ?_)
    · have h := h.1 c_15
      refine lv_iconst (v := 0) hx hb dX11_worked_30 (by decide) ?_
      refine W.widen (k := 3) (n := 20) (by decide) (by decide) ?_
      refine vx_ret ?_
      exact W.zret (v := 0) hx hb hr (by decide) (fun t ht hW => ⟨⟨_, (sh, ci, ai, al), rfl, h, by rw [ht]; exact hP, cK.moved hW.alike hK, hD⟩, hS.F ht⟩) hS.2.2 dX11_worked_31
    · have h := h.2 c_15
      refine lv_aload_n hx hb dX11_worked_18 rfl (lv_at hl 0 rfl) ?_
      refine lv_iload_n hx hb dX11_worked_19 rfl (lv_at hl 3 rfl) ?_
      refine r_endi (c_runZ (rm := ({ frames := 20 + 2 * 30, cells := 0, slots := 0, locals := 300 + 50 * 30 })) (y := yX5_isWorked) (x := ⟨"NeededLists$LazyList", "isWorked", "(I)Z"⟩) (n := 1) (bytes := cX5_isWorked) (maxL := 3) (ret := (some .boolean)) (q := r1) (As := [.int p1]) (rest := []) ⟨hx, hb, hml, hown, hts⟩ (p_X5_isWorked_f l dC dI sh 30 _ _ _ r1 p1 _ h H.size) mwC_481 mwC_106 mwC_107 mwC_22 mwC_108 mwC_109 mwC_110 mwC_111 mwC_112 mwC_113 mwC_114 mwC_115 mwC_116 mwC_117 rfl (by decide +kernel) rfl rfl ⟨(show 20 + 2 * 30 + 1 ≤ 1000 by omega), (show 8 + (3 + 11) + (300 + 50 * 30) ≤ 40000 by omega)⟩ hK hP hD hG hm2 hk3 rfl hl.1 rfl (Nat.le_of_ble_eq_true rfl) ⟨Nat.le_of_ble_eq_true rfl, Nat.le_of_ble_eq_true rfl⟩ dX11_worked_20) hP hS hA (fun r5 H locs h hP hS => ?_)
      refine lv_if_eq (tgt := 30) hx hb dX11_worked_23 (by decide) (fun c_23 => ?_) (fun c_23 => ?_)
      · have h := h.1 c_23
        refine lv_iconst (v := 0) hx hb dX11_worked_30 (by decide) ?_
        refine W.widen (k := 3) (n := 20) (by decide) (by decide) ?_
        refine vx_ret ?_
        exact W.zret (v := 0) hx hb hr (by decide) (fun t ht hW => ⟨⟨_, (sh, ci, ai, al), rfl, h, by rw [ht]; exact hP, cK.moved hW.alike hK, hD⟩, hS.F ht⟩) hS.2.2 dX11_worked_31
      · have h := h.2 c_23
        refine lv_iconst (v := 1) hx hb dX11_worked_26 (by decide) ?_
        refine lv_goto (tgt := 31) hx hb dX11_worked_27 (by decide) ?_
        refine W.widen (k := 3) (n := 20) (by decide) (by decide) ?_
        refine vx_ret ?_
        exact W.zret (v := 1) hx hb hr (by decide) (fun t ht hW => ⟨⟨_, (sh, ci, ai, al), rfl, h, by rw [ht]; exact hP, cK.moved hW.alike hK, hD⟩, hS.F ht⟩) hS.2.2 dX11_worked_31
