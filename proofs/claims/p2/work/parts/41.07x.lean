theorem dX11_checkOp_0 : decode cX11_checkOp 0 = .ok (.iload_n 0, 1) := by decide +kernel
theorem dX11_checkOp_1 : decode cX11_checkOp 1 = .ok (.ifCond .lt 9, 3) := by decide +kernel
theorem dX11_checkOp_4 : decode cX11_checkOp 4 = .ok (.iload_n 0, 1) := by decide +kernel
theorem dX11_checkOp_5 : decode cX11_checkOp 5 = .ok (.bipush 8, 2) := by decide +kernel
theorem dX11_checkOp_7 : decode cX11_checkOp 7 = .ok (.if_icmp .le 13, 3) := by decide +kernel
theorem dX11_checkOp_10 : decode cX11_checkOp 10 = .ok (.new 38, 3) := by decide +kernel
theorem dX11_checkOp_13 : decode cX11_checkOp 13 = .ok (.dup, 1) := by decide +kernel
theorem dX11_checkOp_14 : decode cX11_checkOp 14 = .ok (.ldc 205, 2) := by decide +kernel
theorem dX11_checkOp_16 : decode cX11_checkOp 16 = .ok (.invokespecial 42, 3) := by decide +kernel
theorem dX11_checkOp_19 : decode cX11_checkOp 19 = .ok (.athrow, 1) := by decide +kernel
theorem dX11_checkOp_20 : decode cX11_checkOp 20 = .ok (.return_, 1) := by decide +kernel
theorem dX11_checkCond_0 : decode cX11_checkCond 0 = .ok (.iload_n 0, 1) := by decide +kernel
theorem dX11_checkCond_1 : decode cX11_checkCond 1 = .ok (.ifCond .lt 8, 3) := by decide +kernel
theorem dX11_checkCond_4 : decode cX11_checkCond 4 = .ok (.iload_n 0, 1) := by decide +kernel
theorem dX11_checkCond_5 : decode cX11_checkCond 5 = .ok (.iconst 3, 1) := by decide +kernel
theorem dX11_checkCond_6 : decode cX11_checkCond 6 = .ok (.if_icmp .le 13, 3) := by decide +kernel
theorem dX11_checkCond_9 : decode cX11_checkCond 9 = .ok (.new 38, 3) := by decide +kernel
theorem dX11_checkCond_12 : decode cX11_checkCond 12 = .ok (.dup, 1) := by decide +kernel
theorem dX11_checkCond_13 : decode cX11_checkCond 13 = .ok (.ldc 207, 2) := by decide +kernel
theorem dX11_checkCond_15 : decode cX11_checkCond 15 = .ok (.invokespecial 42, 3) := by decide +kernel
theorem dX11_checkCond_18 : decode cX11_checkCond 18 = .ok (.athrow, 1) := by decide +kernel
theorem dX11_checkCond_19 : decode cX11_checkCond 19 = .ok (.return_, 1) := by decide +kernel
theorem dX11_checkLength_0 : decode cX11_checkLength 0 = .ok (.iload_n 0, 1) := by decide +kernel
theorem dX11_checkLength_1 : decode cX11_checkLength 1 = .ok (.ifCond .lt 10, 3) := by decide +kernel
theorem dX11_checkLength_4 : decode cX11_checkLength 4 = .ok (.iload_n 0, 1) := by decide +kernel
theorem dX11_checkLength_5 : decode cX11_checkLength 5 = .ok (.sipush 400, 3) := by decide +kernel
theorem dX11_checkLength_8 : decode cX11_checkLength 8 = .ok (.if_icmp .le 13, 3) := by decide +kernel
theorem dX11_checkLength_11 : decode cX11_checkLength 11 = .ok (.new 38, 3) := by decide +kernel
theorem dX11_checkLength_14 : decode cX11_checkLength 14 = .ok (.dup, 1) := by decide +kernel
theorem dX11_checkLength_15 : decode cX11_checkLength 15 = .ok (.ldc 209, 2) := by decide +kernel
theorem dX11_checkLength_17 : decode cX11_checkLength 17 = .ok (.invokespecial 42, 3) := by decide +kernel
theorem dX11_checkLength_20 : decode cX11_checkLength 20 = .ok (.athrow, 1) := by decide +kernel
theorem dX11_checkLength_21 : decode cX11_checkLength 21 = .ok (.return_, 1) := by decide +kernel
abbrev wmX11_checkOp : List Cond := .code yX11_checkOp cX11_checkOp 1 none :: WC
theorem hd_X11_checkOp : yX11_checkOp.cls ≠ "java/lang/invoke/MethodHandle" ∧ yX11_checkOp.cls ≠ "java/lang/invoke/VarHandle" ∧ (parseMethodDescriptor yX11_checkOp.desc).map (fun d => d.parameters.length) = some 1 := by decide +kernel
def P_X11_checkOp (p0 : Int32) (Q : Prop) (X : String → Prop) : Prop := ((p0 < 0) → (X "java/lang/IllegalArgumentException")) ∧ ((¬ p0 < 0) → (((p0 ≤ 8) → Q) ∧ ((¬ p0 ≤ 8) → (X "java/lang/IllegalArgumentException"))))
set_option maxHeartbeats 4000000 in
set_option maxRecDepth 100000 in
theorem p_X11_checkOp (l : Launch) (hl0 : l.stackTraces = false)  (p0 : Int32) (Q : Prop) (X : String → Prop) (h : P_X11_checkOp p0 Q X) (sz : Nat) : vx_Met l yX11_checkOp wmX11_checkOp ({ frames := 20, cells := 1, slots := 6, locals := 300 }) (va_Pc [.int p0] (xPreS sz)) (va_Qv (S := Unit) (fun _ => Q) (fun _ _ => True) (va_A [] sz)) (XC X sz) 1 6 (va_A [] sz) := by
  refine vx_ofW (cc := cX11_checkOp) (maxL := 1) (ret := none) (by decide) rfl ?_
  intro p e s m args below meth c s₁ B hml htab hv
  obtain ⟨rfl, hsz, hG, hZ⟩ := hv
  have hx := B.exec
  have hb := B.bytes
  have hr := B.returns
  have hts : ∀ w ∈ WC, w.before _ s = true := fun w h => atoms_spec (ws := wmX11_checkOp) B.pre w (List.mem_cons_of_mem _ h)
  have hown : s.vm.findClass RX11 = some m.cls := findClass_of_methodNamed B.named
  have hlocks := B.notSynchronized
  subst hsz
  generalize hAe : va_A [] s.heap.size = A at hZ ⊢
  have hA : ∀ q : Nat, s.heap.size ≤ q → A q := fun q h => by rw [← hAe]; exact Or.inr h
  generalize hz9 : s.heap.size = z9
  generalize hH : s.heap = H
  subst hz9
  have hS : va_S A s.heap H [] := by rw [← hH]; exact va_S.rf
  have hE : xE s.heap H := by rw [← hH]; exact xE.rf
  have hl := lv_entry [.int p0] (n := 1) (Nat.le_of_ble_eq_true rfl)
  rw [lg_entry_eq]
  generalize (lg_sl [.int p0] ++ List.replicate (1 - (lg_sl [.int p0]).length) Slot.unset).toArray = ls at hl ⊢
  have hl : lv_has ls 1 [(0, .int p0)] := hl
  unfold P_X11_checkOp at h
  refine lv_iload_n hx hb dX11_checkOp_0 rfl (lv_at hl 0 rfl) ?_
  refine lv_if_lt (tgt := 10) hx hb dX11_checkOp_1 (by decide) (fun c_1 => ?_) (fun c_1 => ?_)
  · have h := h.1 c_1
    obtain ⟨sa, hsa⟩ := hG.t205
    exact vx_throwS (A := A) (own := RX11) (cls := "java/lang/IllegalArgumentException") (text := "op is not 0 .. 8") (names := ["java/lang/RuntimeException", "java/lang/Exception"]) (sa := sa) (rest := []) hx hb hl0 hown (by decide) (by decide) (hts _ mwC_371) (hts _ mwC_372) hsa (vx_hat (B := [.castable "java/lang/IllegalArgumentException" "java/lang/IllegalArgumentException", .declares ⟨"java/lang/RuntimeException", "<init>", "(Ljava/lang/String;)V"⟩, .declares ⟨"java/lang/Exception", "<init>", "(Ljava/lang/String;)V"⟩, .declares ⟨"java/lang/Throwable", "<init>", "(Ljava/lang/String;)V"⟩]) (fun w h => hts w (xat_IAE w h)) (by decide +kernel) (vx_c (va_Nw.use rfl hG.xIAE) (vx_c (va_Nw.use rfl hG.dR) (vx_c (va_Nw.use rfl hG.dE) (vx_c (va_Nw.use rfl hG.dT) vx_n))))) (by decide +kernel) hZ.1 hZ.2 hS (hl.1.trans hml.symm) dX11_checkOp_10 dX11_checkOp_13 dX11_checkOp_14 dX11_checkOp_16 dX11_checkOp_19 (fun x h => (htab x h).elim) (Nat.le_of_ble_eq_true rfl) (Nat.le_of_ble_eq_true rfl) (Nat.le_of_ble_eq_true rfl) (Nat.le_of_ble_eq_true rfl) hlocks (fun t hvm hz hq => ⟨(), trivial, h, Nat.le_trans hE.1 hz, fun q h1 h2 => (hq q (Nat.lt_of_lt_of_le h1 hE.1)).trans (hE.2 q h1)⟩) hS.2.2 (Nat.le_of_ble_eq_true rfl) (Nat.le_of_ble_eq_true rfl)
  · have h := h.2 c_1
    refine lv_iload_n hx hb dX11_checkOp_4 rfl (lv_at hl 0 rfl) ?_
    refine lv_bipush (v := 8) hx hb dX11_checkOp_5 (by decide) ?_
    refine lv_icmp_le (tgt := 20) hx hb dX11_checkOp_7 (by decide) (fun c_7 => ?_) (fun c_7 => ?_)
    · have h := h.1 c_7
      refine W.widen (k := 1) (n := 6) (by decide) (by decide) ?_
      refine vx_ret ?_
      exact W.vret hx hb hr (fun t ht hW => ⟨⟨(), rfl, h, trivial⟩, hS.F ht⟩) hS.2.2 dX11_checkOp_20
    · have h := h.2 c_7
      obtain ⟨sa, hsa⟩ := hG.t205
      exact vx_throwS (A := A) (own := RX11) (cls := "java/lang/IllegalArgumentException") (text := "op is not 0 .. 8") (names := ["java/lang/RuntimeException", "java/lang/Exception"]) (sa := sa) (rest := []) hx hb hl0 hown (by decide) (by decide) (hts _ mwC_371) (hts _ mwC_372) hsa (vx_hat (B := [.castable "java/lang/IllegalArgumentException" "java/lang/IllegalArgumentException", .declares ⟨"java/lang/RuntimeException", "<init>", "(Ljava/lang/String;)V"⟩, .declares ⟨"java/lang/Exception", "<init>", "(Ljava/lang/String;)V"⟩, .declares ⟨"java/lang/Throwable", "<init>", "(Ljava/lang/String;)V"⟩]) (fun w h => hts w (xat_IAE w h)) (by decide +kernel) (vx_c (va_Nw.use rfl hG.xIAE) (vx_c (va_Nw.use rfl hG.dR) (vx_c (va_Nw.use rfl hG.dE) (vx_c (va_Nw.use rfl hG.dT) vx_n))))) (by decide +kernel) hZ.1 hZ.2 hS (hl.1.trans hml.symm) dX11_checkOp_10 dX11_checkOp_13 dX11_checkOp_14 dX11_checkOp_16 dX11_checkOp_19 (fun x h => (htab x h).elim) (Nat.le_of_ble_eq_true rfl) (Nat.le_of_ble_eq_true rfl) (Nat.le_of_ble_eq_true rfl) (Nat.le_of_ble_eq_true rfl) hlocks (fun t hvm hz hq => ⟨(), trivial, h, Nat.le_trans hE.1 hz, fun q h1 h2 => (hq q (Nat.lt_of_lt_of_le h1 hE.1)).trans (hE.2 q h1)⟩) hS.2.2 (Nat.le_of_ble_eq_true rfl) (Nat.le_of_ble_eq_true rfl)
abbrev wmX11_checkCond : List Cond := .code yX11_checkCond cX11_checkCond 1 none :: WC
theorem hd_X11_checkCond : yX11_checkCond.cls ≠ "java/lang/invoke/MethodHandle" ∧ yX11_checkCond.cls ≠ "java/lang/invoke/VarHandle" ∧ (parseMethodDescriptor yX11_checkCond.desc).map (fun d => d.parameters.length) = some 1 := by decide +kernel
def P_X11_checkCond (p0 : Int32) (Q : Prop) (X : String → Prop) : Prop := ((p0 < 0) → (X "java/lang/IllegalArgumentException")) ∧ ((¬ p0 < 0) → (((p0 ≤ 3) → Q) ∧ ((¬ p0 ≤ 3) → (X "java/lang/IllegalArgumentException"))))
set_option maxHeartbeats 4000000 in
set_option maxRecDepth 100000 in
theorem p_X11_checkCond (l : Launch) (hl0 : l.stackTraces = false)  (p0 : Int32) (Q : Prop) (X : String → Prop) (h : P_X11_checkCond p0 Q X) (sz : Nat) : vx_Met l yX11_checkCond wmX11_checkCond ({ frames := 20, cells := 1, slots := 6, locals := 300 }) (va_Pc [.int p0] (xPreS sz)) (va_Qv (S := Unit) (fun _ => Q) (fun _ _ => True) (va_A [] sz)) (XC X sz) 1 6 (va_A [] sz) := by
  refine vx_ofW (cc := cX11_checkCond) (maxL := 1) (ret := none) (by decide) rfl ?_
  intro p e s m args below meth c s₁ B hml htab hv
  obtain ⟨rfl, hsz, hG, hZ⟩ := hv
  have hx := B.exec
  have hb := B.bytes
  have hr := B.returns
  have hts : ∀ w ∈ WC, w.before _ s = true := fun w h => atoms_spec (ws := wmX11_checkCond) B.pre w (List.mem_cons_of_mem _ h)
  have hown : s.vm.findClass RX11 = some m.cls := findClass_of_methodNamed B.named
  have hlocks := B.notSynchronized
  subst hsz
  generalize hAe : va_A [] s.heap.size = A at hZ ⊢
  have hA : ∀ q : Nat, s.heap.size ≤ q → A q := fun q h => by rw [← hAe]; exact Or.inr h
  generalize hz9 : s.heap.size = z9
  generalize hH : s.heap = H
  subst hz9
  have hS : va_S A s.heap H [] := by rw [← hH]; exact va_S.rf
  have hE : xE s.heap H := by rw [← hH]; exact xE.rf
  have hl := lv_entry [.int p0] (n := 1) (Nat.le_of_ble_eq_true rfl)
  rw [lg_entry_eq]
  generalize (lg_sl [.int p0] ++ List.replicate (1 - (lg_sl [.int p0]).length) Slot.unset).toArray = ls at hl ⊢
  have hl : lv_has ls 1 [(0, .int p0)] := hl
  unfold P_X11_checkCond at h
  refine lv_iload_n hx hb dX11_checkCond_0 rfl (lv_at hl 0 rfl) ?_
  refine lv_if_lt (tgt := 9) hx hb dX11_checkCond_1 (by decide) (fun c_1 => ?_) (fun c_1 => ?_)
  · have h := h.1 c_1
    obtain ⟨sa, hsa⟩ := hG.t207
    exact vx_throwS (A := A) (own := RX11) (cls := "java/lang/IllegalArgumentException") (text := "cond is not 0 .. 3") (names := ["java/lang/RuntimeException", "java/lang/Exception"]) (sa := sa) (rest := []) hx hb hl0 hown (by decide) (by decide) (hts _ mwC_371) (hts _ mwC_372) hsa (vx_hat (B := [.castable "java/lang/IllegalArgumentException" "java/lang/IllegalArgumentException", .declares ⟨"java/lang/RuntimeException", "<init>", "(Ljava/lang/String;)V"⟩, .declares ⟨"java/lang/Exception", "<init>", "(Ljava/lang/String;)V"⟩, .declares ⟨"java/lang/Throwable", "<init>", "(Ljava/lang/String;)V"⟩]) (fun w h => hts w (xat_IAE w h)) (by decide +kernel) (vx_c (va_Nw.use rfl hG.xIAE) (vx_c (va_Nw.use rfl hG.dR) (vx_c (va_Nw.use rfl hG.dE) (vx_c (va_Nw.use rfl hG.dT) vx_n))))) (by decide +kernel) hZ.1 hZ.2 hS (hl.1.trans hml.symm) dX11_checkCond_9 dX11_checkCond_12 dX11_checkCond_13 dX11_checkCond_15 dX11_checkCond_18 (fun x h => (htab x h).elim) (Nat.le_of_ble_eq_true rfl) (Nat.le_of_ble_eq_true rfl) (Nat.le_of_ble_eq_true rfl) (Nat.le_of_ble_eq_true rfl) hlocks (fun t hvm hz hq => ⟨(), trivial, h, Nat.le_trans hE.1 hz, fun q h1 h2 => (hq q (Nat.lt_of_lt_of_le h1 hE.1)).trans (hE.2 q h1)⟩) hS.2.2 (Nat.le_of_ble_eq_true rfl) (Nat.le_of_ble_eq_true rfl)
  · have h := h.2 c_1
    refine lv_iload_n hx hb dX11_checkCond_4 rfl (lv_at hl 0 rfl) ?_
    refine lv_iconst (v := 3) hx hb dX11_checkCond_5 (by decide) ?_
    refine lv_icmp_le (tgt := 19) hx hb dX11_checkCond_6 (by decide) (fun c_6 => ?_) (fun c_6 => ?_)
    · have h := h.1 c_6
      refine W.widen (k := 1) (n := 6) (by decide) (by decide) ?_
      refine vx_ret ?_
      exact W.vret hx hb hr (fun t ht hW => ⟨⟨(), rfl, h, trivial⟩, hS.F ht⟩) hS.2.2 dX11_checkCond_19
    · have h := h.2 c_6
      obtain ⟨sa, hsa⟩ := hG.t207
      exact vx_throwS (A := A) (own := RX11) (cls := "java/lang/IllegalArgumentException") (text := "cond is not 0 .. 3") (names := ["java/lang/RuntimeException", "java/lang/Exception"]) (sa := sa) (rest := []) hx hb hl0 hown (by decide) (by decide) (hts _ mwC_371) (hts _ mwC_372) hsa (vx_hat (B := [.castable "java/lang/IllegalArgumentException" "java/lang/IllegalArgumentException", .declares ⟨"java/lang/RuntimeException", "<init>", "(Ljava/lang/String;)V"⟩, .declares ⟨"java/lang/Exception", "<init>", "(Ljava/lang/String;)V"⟩, .declares ⟨"java/lang/Throwable", "<init>", "(Ljava/lang/String;)V"⟩]) (fun w h => hts w (xat_IAE w h)) (by decide +kernel) (vx_c (va_Nw.use rfl hG.xIAE) (vx_c (va_Nw.use rfl hG.dR) (vx_c (va_Nw.use rfl hG.dE) (vx_c (va_Nw.use rfl hG.dT) vx_n))))) (by decide +kernel) hZ.1 hZ.2 hS (hl.1.trans hml.symm) dX11_checkCond_9 dX11_checkCond_12 dX11_checkCond_13 dX11_checkCond_15 dX11_checkCond_18 (fun x h => (htab x h).elim) (Nat.le_of_ble_eq_true rfl) (Nat.le_of_ble_eq_true rfl) (Nat.le_of_ble_eq_true rfl) (Nat.le_of_ble_eq_true rfl) hlocks (fun t hvm hz hq => ⟨(), trivial, h, Nat.le_trans hE.1 hz, fun q h1 h2 => (hq q (Nat.lt_of_lt_of_le h1 hE.1)).trans (hE.2 q h1)⟩) hS.2.2 (Nat.le_of_ble_eq_true rfl) (Nat.le_of_ble_eq_true rfl)
abbrev wmX11_checkLength : List Cond := .code yX11_checkLength cX11_checkLength 1 none :: WC
theorem hd_X11_checkLength : yX11_checkLength.cls ≠ "java/lang/invoke/MethodHandle" ∧ yX11_checkLength.cls ≠ "java/lang/invoke/VarHandle" ∧ (parseMethodDescriptor yX11_checkLength.desc).map (fun d => d.parameters.length) = some 1 := by decide +kernel
def P_X11_checkLength (p0 : Int32) (Q : Prop) (X : String → Prop) : Prop := ((p0 < 0) → (X "java/lang/IllegalArgumentException")) ∧ ((¬ p0 < 0) → (((p0 ≤ 400) → Q) ∧ ((¬ p0 ≤ 400) → (X "java/lang/IllegalArgumentException"))))
set_option maxHeartbeats 4000000 in
set_option maxRecDepth 100000 in
theorem p_X11_checkLength (l : Launch) (hl0 : l.stackTraces = false)  (p0 : Int32) (Q : Prop) (X : String → Prop) (h : P_X11_checkLength p0 Q X) (sz : Nat) : vx_Met l yX11_checkLength wmX11_checkLength ({ frames := 20, cells := 1, slots := 6, locals := 300 }) (va_Pc [.int p0] (xPreS sz)) (va_Qv (S := Unit) (fun _ => Q) (fun _ _ => True) (va_A [] sz)) (XC X sz) 1 6 (va_A [] sz) := by
  refine vx_ofW (cc := cX11_checkLength) (maxL := 1) (ret := none) (by decide) rfl ?_
  intro p e s m args below meth c s₁ B hml htab hv
  obtain ⟨rfl, hsz, hG, hZ⟩ := hv
  have hx := B.exec
  have hb := B.bytes
  have hr := B.returns
  have hts : ∀ w ∈ WC, w.before _ s = true := fun w h => atoms_spec (ws := wmX11_checkLength) B.pre w (List.mem_cons_of_mem _ h)
  have hown : s.vm.findClass RX11 = some m.cls := findClass_of_methodNamed B.named
  have hlocks := B.notSynchronized
  subst hsz
  generalize hAe : va_A [] s.heap.size = A at hZ ⊢
  have hA : ∀ q : Nat, s.heap.size ≤ q → A q := fun q h => by rw [← hAe]; exact Or.inr h
  generalize hz9 : s.heap.size = z9
  generalize hH : s.heap = H
  subst hz9
  have hS : va_S A s.heap H [] := by rw [← hH]; exact va_S.rf
  have hE : xE s.heap H := by rw [← hH]; exact xE.rf
  have hl := lv_entry [.int p0] (n := 1) (Nat.le_of_ble_eq_true rfl)
  rw [lg_entry_eq]
  generalize (lg_sl [.int p0] ++ List.replicate (1 - (lg_sl [.int p0]).length) Slot.unset).toArray = ls at hl ⊢
  have hl : lv_has ls 1 [(0, .int p0)] := hl
  unfold P_X11_checkLength at h
  refine lv_iload_n hx hb dX11_checkLength_0 rfl (lv_at hl 0 rfl) ?_
  refine lv_if_lt (tgt := 11) hx hb dX11_checkLength_1 (by decide) (fun c_1 => ?_) (fun c_1 => ?_)
  · have h := h.1 c_1
    obtain ⟨sa, hsa⟩ := hG.t209
    exact vx_throwS (A := A) (own := RX11) (cls := "java/lang/IllegalArgumentException") (text := "n is not 0 .. 400") (names := ["java/lang/RuntimeException", "java/lang/Exception"]) (sa := sa) (rest := []) hx hb hl0 hown (by decide) (by decide) (hts _ mwC_371) (hts _ mwC_372) hsa (vx_hat (B := [.castable "java/lang/IllegalArgumentException" "java/lang/IllegalArgumentException", .declares ⟨"java/lang/RuntimeException", "<init>", "(Ljava/lang/String;)V"⟩, .declares ⟨"java/lang/Exception", "<init>", "(Ljava/lang/String;)V"⟩, .declares ⟨"java/lang/Throwable", "<init>", "(Ljava/lang/String;)V"⟩]) (fun w h => hts w (xat_IAE w h)) (by decide +kernel) (vx_c (va_Nw.use rfl hG.xIAE) (vx_c (va_Nw.use rfl hG.dR) (vx_c (va_Nw.use rfl hG.dE) (vx_c (va_Nw.use rfl hG.dT) vx_n))))) (by decide +kernel) hZ.1 hZ.2 hS (hl.1.trans hml.symm) dX11_checkLength_11 dX11_checkLength_14 dX11_checkLength_15 dX11_checkLength_17 dX11_checkLength_20 (fun x h => (htab x h).elim) (Nat.le_of_ble_eq_true rfl) (Nat.le_of_ble_eq_true rfl) (Nat.le_of_ble_eq_true rfl) (Nat.le_of_ble_eq_true rfl) hlocks (fun t hvm hz hq => ⟨(), trivial, h, Nat.le_trans hE.1 hz, fun q h1 h2 => (hq q (Nat.lt_of_lt_of_le h1 hE.1)).trans (hE.2 q h1)⟩) hS.2.2 (Nat.le_of_ble_eq_true rfl) (Nat.le_of_ble_eq_true rfl)
  · have h := h.2 c_1
    refine lv_iload_n hx hb dX11_checkLength_4 rfl (lv_at hl 0 rfl) ?_
    refine lv_sipush (v := 400) hx hb dX11_checkLength_5 (by decide) ?_
    refine lv_icmp_le (tgt := 21) hx hb dX11_checkLength_8 (by decide) (fun c_8 => ?_) (fun c_8 => ?_)
    · have h := h.1 c_8
      refine W.widen (k := 1) (n := 6) (by decide) (by decide) ?_
      refine vx_ret ?_
      exact W.vret hx hb hr (fun t ht hW => ⟨⟨(), rfl, h, trivial⟩, hS.F ht⟩) hS.2.2 dX11_checkLength_21
    · have h := h.2 c_8
      obtain ⟨sa, hsa⟩ := hG.t209
      exact vx_throwS (A := A) (own := RX11) (cls := "java/lang/IllegalArgumentException") (text := "n is not 0 .. 400") (names := ["java/lang/RuntimeException", "java/lang/Exception"]) (sa := sa) (rest := []) hx hb hl0 hown (by decide) (by decide) (hts _ mwC_371) (hts _ mwC_372) hsa (vx_hat (B := [.castable "java/lang/IllegalArgumentException" "java/lang/IllegalArgumentException", .declares ⟨"java/lang/RuntimeException", "<init>", "(Ljava/lang/String;)V"⟩, .declares ⟨"java/lang/Exception", "<init>", "(Ljava/lang/String;)V"⟩, .declares ⟨"java/lang/Throwable", "<init>", "(Ljava/lang/String;)V"⟩]) (fun w h => hts w (xat_IAE w h)) (by decide +kernel) (vx_c (va_Nw.use rfl hG.xIAE) (vx_c (va_Nw.use rfl hG.dR) (vx_c (va_Nw.use rfl hG.dE) (vx_c (va_Nw.use rfl hG.dT) vx_n))))) (by decide +kernel) hZ.1 hZ.2 hS (hl.1.trans hml.symm) dX11_checkLength_11 dX11_checkLength_14 dX11_checkLength_15 dX11_checkLength_17 dX11_checkLength_20 (fun x h => (htab x h).elim) (Nat.le_of_ble_eq_true rfl) (Nat.le_of_ble_eq_true rfl) (Nat.le_of_ble_eq_true rfl) (Nat.le_of_ble_eq_true rfl) hlocks (fun t hvm hz hq => ⟨(), trivial, h, Nat.le_trans hE.1 hz, fun q h1 h2 => (hq q (Nat.lt_of_lt_of_le h1 hE.1)).trans (hE.2 q h1)⟩) hS.2.2 (Nat.le_of_ble_eq_true rfl) (Nat.le_of_ble_eq_true rfl)
