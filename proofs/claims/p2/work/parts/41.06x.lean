theorem dX11_listOf_0 : decode cX11_listOf 0 = .ok (.iload_n 1, 1) := by decide +kernel
theorem dX11_listOf_1 : decode cX11_listOf 1 = .ok (.ifCond .lt 29, 3) := by decide +kernel
theorem dX11_listOf_4 : decode cX11_listOf 4 = .ok (.iload_n 1, 1) := by decide +kernel
theorem dX11_listOf_5 : decode cX11_listOf 5 = .ok (.aload_n 0, 1) := by decide +kernel
theorem dX11_listOf_6 : decode cX11_listOf 6 = .ok (.getfield 136, 3) := by decide +kernel
theorem dX11_listOf_9 : decode cX11_listOf 9 = .ok (.if_icmp .ge 21, 3) := by decide +kernel
theorem dX11_listOf_12 : decode cX11_listOf 12 = .ok (.iload_n 1, 1) := by decide +kernel
theorem dX11_listOf_13 : decode cX11_listOf 13 = .ok (.aload_n 0, 1) := by decide +kernel
theorem dX11_listOf_14 : decode cX11_listOf 14 = .ok (.getfield 18, 3) := by decide +kernel
theorem dX11_listOf_17 : decode cX11_listOf 17 = .ok (.arraylength, 1) := by decide +kernel
theorem dX11_listOf_18 : decode cX11_listOf 18 = .ok (.if_icmp .ge 12, 3) := by decide +kernel
theorem dX11_listOf_21 : decode cX11_listOf 21 = .ok (.aload_n 0, 1) := by decide +kernel
theorem dX11_listOf_22 : decode cX11_listOf 22 = .ok (.getfield 18, 3) := by decide +kernel
theorem dX11_listOf_25 : decode cX11_listOf 25 = .ok (.iload_n 1, 1) := by decide +kernel
theorem dX11_listOf_26 : decode cX11_listOf 26 = .ok (.aaload, 1) := by decide +kernel
theorem dX11_listOf_27 : decode cX11_listOf 27 = .ok (.goto 4, 3) := by decide +kernel
theorem dX11_listOf_30 : decode cX11_listOf 30 = .ok (.aconst_null, 1) := by decide +kernel
theorem dX11_listOf_31 : decode cX11_listOf 31 = .ok (.astore_n 2, 1) := by decide +kernel
theorem dX11_listOf_32 : decode cX11_listOf 32 = .ok (.aload_n 2, 1) := by decide +kernel
theorem dX11_listOf_33 : decode cX11_listOf 33 = .ok (.ifnonnull 13, 3) := by decide +kernel
theorem dX11_listOf_36 : decode cX11_listOf 36 = .ok (.new 198, 3) := by decide +kernel
theorem dX11_listOf_39 : decode cX11_listOf 39 = .ok (.dup, 1) := by decide +kernel
theorem dX11_listOf_40 : decode cX11_listOf 40 = .ok (.ldc 200, 2) := by decide +kernel
theorem dX11_listOf_42 : decode cX11_listOf 42 = .ok (.invokespecial 202, 3) := by decide +kernel
theorem dX11_listOf_45 : decode cX11_listOf 45 = .ok (.athrow, 1) := by decide +kernel
theorem dX11_listOf_46 : decode cX11_listOf 46 = .ok (.aload_n 2, 1) := by decide +kernel
theorem dX11_listOf_47 : decode cX11_listOf 47 = .ok (.areturn, 1) := by decide +kernel
theorem dX11_checkRoom_0 : decode cX11_checkRoom 0 = .ok (.aload_n 0, 1) := by decide +kernel
theorem dX11_checkRoom_1 : decode cX11_checkRoom 1 = .ok (.getfield 136, 3) := by decide +kernel
theorem dX11_checkRoom_4 : decode cX11_checkRoom 4 = .ok (.bipush 24, 2) := by decide +kernel
theorem dX11_checkRoom_6 : decode cX11_checkRoom 6 = .ok (.if_icmp .lt 13, 3) := by decide +kernel
theorem dX11_checkRoom_9 : decode cX11_checkRoom 9 = .ok (.new 48, 3) := by decide +kernel
theorem dX11_checkRoom_12 : decode cX11_checkRoom 12 = .ok (.dup, 1) := by decide +kernel
theorem dX11_checkRoom_13 : decode cX11_checkRoom 13 = .ok (.ldc 203, 2) := by decide +kernel
theorem dX11_checkRoom_15 : decode cX11_checkRoom 15 = .ok (.invokespecial 52, 3) := by decide +kernel
theorem dX11_checkRoom_18 : decode cX11_checkRoom 18 = .ok (.athrow, 1) := by decide +kernel
theorem dX11_checkRoom_19 : decode cX11_checkRoom 19 = .ok (.return_, 1) := by decide +kernel
abbrev wmX11_checkRoom : List Cond := .code yX11_checkRoom cX11_checkRoom 1 none :: WC
theorem hd_X11_checkRoom : yX11_checkRoom.cls = RX11 ∧ yX11_checkRoom.cls ≠ "java/lang/invoke/MethodHandle" ∧ yX11_checkRoom.cls ≠ "java/lang/invoke/VarHandle" ∧ (parseMethodDescriptor yX11_checkRoom.desc).map (fun d => d.parameters.length) = some 0 := by decide +kernel
def P_X11_checkRoom (sh : Sh) (ci : Nat → Nat → Int32) (ai : Nat → Nat → Int32) (al : Nat → Nat → Int64) (q : Nat)  (Q : Prop) (X : String → Prop) : Prop := (q ∈ sL sh ∧ sK sh q = 10) ∧ (((ci q 4) < 24) → Q) ∧ ((¬ (ci q 4) < 24) → (X "java/lang/UnsupportedOperationException"))
set_option maxHeartbeats 4000000 in
set_option maxRecDepth 100000 in
theorem p_X11_checkRoom (l : Launch) (hl0 : l.stackTraces = false) (dC : Nat → ClassId) (dI : Nat → Nat → Nat) (sh : Sh) (ci : Nat → Nat → Int32) (ai : Nat → Nat → Int32) (al : Nat → Nat → Int64) (q : Nat)  (Q : Prop) (X : String → Prop) (h : P_X11_checkRoom sh ci ai al q  Q X) (sz : Nat) : vx_Met l yX11_checkRoom wmX11_checkRoom ({ frames := 20, cells := 1, slots := 6, locals := 300 }) (va_Pc [.ref q] (xPre dC dI sh ci ai al sz)) (va_Qv (S := Unit) (fun _ => Q) (fun _ _ => True) (va_A [] sz)) (XC X sz) 1 6 (va_A [] sz) := by
  refine vx_ofW (cc := cX11_checkRoom) (maxL := 1) (ret := none) (by decide) rfl ?_
  intro p e s m args below meth c s₁ B hml htab hv
  obtain ⟨rfl, ⟨hsz, hP, hK, hD0, hG⟩, hZ⟩ := hv
  have hx := B.exec
  have hb := B.bytes
  have hr := B.returns
  have hts : ∀ w ∈ WC, w.before _ s = true := fun w h => atoms_spec (ws := wmX11_checkRoom) B.pre w (List.mem_cons_of_mem _ h)
  have hown : s.vm.findClass RX11 = some m.cls := findClass_of_methodNamed B.named
  have hlocks := B.notSynchronized
  subst hsz
  have hD := hD0
  have hZ : Gz (va_A [] s.heap.size) s s.heap := ⟨hZ.1.narrow (fun q h => Or.inr (h.elim (fun ⟨k2, e, h2⟩ => by simp at h2) id)), hZ.2.narrow (fun q h => Or.inr (h.elim (fun ⟨k2, e, h2⟩ => by simp at h2) id))⟩
  generalize hAe : va_A [] s.heap.size = A at hZ ⊢
  have hA : ∀ q : Nat, s.heap.size ≤ q → A q := fun q h => by rw [← hAe]; exact Or.inr h
  generalize hz9 : s.heap.size = z9
  generalize hH : s.heap = H at hP ⊢
  subst hz9
  have hS : va_S A s.heap H [] := by rw [← hH]; exact va_S.rf
  have hE : xE s.heap H := by rw [← hH]; exact xE.rf
  have hl := lv_entry [.ref q] (n := 1) (Nat.le_of_ble_eq_true rfl)
  rw [lg_entry_eq]
  generalize (lg_sl [.ref q] ++ List.replicate (1 - (lg_sl [.ref q]).length) Slot.unset).toArray = ls at hl ⊢
  have hl : lv_has ls 1 [(0, .ref q)] := hl
  unfold P_X11_checkRoom at h
  obtain ⟨⟨hq, hk⟩, h⟩ := h
  refine lv_aload_n hx hb dX11_checkRoom_0 rfl (lv_at hl 0 rfl) ?_
  refine c_get (C := RX11) (T := TX11) (N := 9) (K := 10) (v := .int (ci q 4)) hx hb hts hinX11 hown hK hP hq hk (by decide) rfl 4 (by decide) (hts _ mwC_365) (fun _ h9 => h9) rfl dX11_checkRoom_1 ?_
  refine lv_bipush (v := 24) hx hb dX11_checkRoom_4 (by decide) ?_
  refine lv_icmp_lt (tgt := 19) hx hb dX11_checkRoom_6 (by decide) (fun c_6 => ?_) (fun c_6 => ?_)
  · have h := h.1 c_6
    refine W.widen (k := 1) (n := 6) (by decide) (by decide) ?_
    refine vx_ret ?_
    exact W.vret hx hb hr (fun t ht hW => ⟨⟨(), rfl, h, trivial⟩, hS.F ht⟩) hS.2.2 dX11_checkRoom_19
  · have h := h.2 c_6
    obtain ⟨sa, hsa⟩ := hG.t203
    exact vx_throwS (A := A) (own := RX11) (cls := "java/lang/UnsupportedOperationException") (text := "there are 24 lists") (names := ["java/lang/RuntimeException", "java/lang/Exception"]) (sa := sa) (rest := []) hx hb hl0 hown (by decide) (by decide) (hts _ mwC_366) (hts _ mwC_367) hsa (vx_hat (B := [.castable "java/lang/UnsupportedOperationException" "java/lang/UnsupportedOperationException", .declares ⟨"java/lang/RuntimeException", "<init>", "(Ljava/lang/String;)V"⟩, .declares ⟨"java/lang/Exception", "<init>", "(Ljava/lang/String;)V"⟩, .declares ⟨"java/lang/Throwable", "<init>", "(Ljava/lang/String;)V"⟩]) (fun w h => hts w (xat_UOE w h)) (by decide +kernel) (vx_c (va_Nw.use rfl hG.xUOE) (vx_c (va_Nw.use rfl hG.dR) (vx_c (va_Nw.use rfl hG.dE) (vx_c (va_Nw.use rfl hG.dT) vx_n))))) (by decide +kernel) hZ.1 hZ.2 hS (hl.1.trans hml.symm) dX11_checkRoom_9 dX11_checkRoom_12 dX11_checkRoom_13 dX11_checkRoom_15 dX11_checkRoom_18 (fun x h => (htab x h).elim) (Nat.le_of_ble_eq_true rfl) (Nat.le_of_ble_eq_true rfl) (Nat.le_of_ble_eq_true rfl) (Nat.le_of_ble_eq_true rfl) hlocks (fun t hvm hz hq => ⟨(), trivial, h, Nat.le_trans hE.1 hz, fun q h1 h2 => (hq q (Nat.lt_of_lt_of_le h1 hE.1)).trans (hE.2 q h1)⟩) hS.2.2 (Nat.le_of_ble_eq_true rfl) (Nat.le_of_ble_eq_true rfl)
abbrev wmX11_listOf : List Cond := .code yX11_listOf cX11_listOf 3 (some (.object "NeededLists$LazyList")) :: WC
theorem hd_X11_listOf : yX11_listOf.cls = RX11 ∧ yX11_listOf.cls ≠ "java/lang/invoke/MethodHandle" ∧ yX11_listOf.cls ≠ "java/lang/invoke/VarHandle" ∧ (parseMethodDescriptor yX11_listOf.desc).map (fun d => d.parameters.length) = some 1 := by decide +kernel
def P_X11_listOf (sh : Sh) (ci : Nat → Nat → Int32) (ai : Nat → Nat → Int32) (al : Nat → Nat → Int64) (q : Nat) (p0 : Int32) (Q : Nat → Prop) (X : String → Prop) : Prop := (q ∈ sL sh ∧ sK sh q = 10) ∧ ((p0 < 0) → (X "java/lang/IndexOutOfBoundsException")) ∧ ((¬ p0 < 0) → ((((ci q 4) ≤ p0) → (X "java/lang/IndexOutOfBoundsException")) ∧ ((¬ (ci q 4) ≤ p0) → (∃ q1 : Nat, sR sh q 1 = some q1 ∧ (q1 ∈ sL sh ∧ sK sh q1 = 23) ∧ (((nI (sN sh q1)) ≤ p0) → (X "java/lang/IndexOutOfBoundsException")) ∧ ((¬ (nI (sN sh q1)) ≤ p0) → (vp_in p0 (sN sh q1) ∧ ((sQ sh q1 p0.toNatClampNeg = none → (X "java/lang/IndexOutOfBoundsException")) ∧ (∀ q6 : Nat, sQ sh q1 p0.toNatClampNeg = some q6 → (Q q6)))))))))
set_option maxHeartbeats 4000000 in
set_option maxRecDepth 100000 in
theorem p_X11_listOf (l : Launch) (hl0 : l.stackTraces = false) (dC : Nat → ClassId) (dI : Nat → Nat → Nat) (sh : Sh) (ci : Nat → Nat → Int32) (ai : Nat → Nat → Int32) (al : Nat → Nat → Int64) (q : Nat) (p0 : Int32) (Q : Nat → Prop) (X : String → Prop) (h : P_X11_listOf sh ci ai al q p0 Q X) (sz : Nat) : vx_Met l yX11_listOf wmX11_listOf ({ frames := 20, cells := 1, slots := 6, locals := 300 }) (va_Pc [.ref q, .int p0] (xPre dC dI sh ci ai al sz)) (va_Qr (S := Unit) (fun _ => True) (fun _ a _ => Q a) (va_A [] sz)) (XC X sz) 1 6 (va_A [] sz) := by
  refine vx_ofW (cc := cX11_listOf) (maxL := 3) (ret := (some (.object "NeededLists$LazyList"))) (by decide) rfl ?_
  intro p e s m args below meth c s₁ B hml htab hv
  obtain ⟨rfl, ⟨hsz, hP, hK, hD0, hG⟩, hZ⟩ := hv
  have hx := B.exec
  have hb := B.bytes
  have hr := B.returns
  have hts : ∀ w ∈ WC, w.before _ s = true := fun w h => atoms_spec (ws := wmX11_listOf) B.pre w (List.mem_cons_of_mem _ h)
  have hown : s.vm.findClass RX11 = some m.cls := findClass_of_methodNamed B.named
  have hlocks := B.notSynchronized
  subst hsz
  have hD := hD0
  have hZ : Gz (va_A [] s.heap.size) s s.heap := ⟨hZ.1.narrow (fun q h => Or.inr (h.elim (fun ⟨k2, e, h2⟩ => by simp at h2) id)), hZ.2.narrow (fun q h => Or.inr (h.elim (fun ⟨k2, e, h2⟩ => by simp at h2) id))⟩
  generalize hAe : va_A [] s.heap.size = A at hZ ⊢
  have hA : ∀ q : Nat, s.heap.size ≤ q → A q := fun q h => by rw [← hAe]; exact Or.inr h
  generalize hz9 : s.heap.size = z9
  generalize hH : s.heap = H at hP ⊢
  subst hz9
  have hS : va_S A s.heap H [] := by rw [← hH]; exact va_S.rf
  have hE : xE s.heap H := by rw [← hH]; exact xE.rf
  have hl := lv_entry [.ref q, .int p0] (n := 3) (Nat.le_of_ble_eq_true rfl)
  rw [lg_entry_eq]
  generalize (lg_sl [.ref q, .int p0] ++ List.replicate (3 - (lg_sl [.ref q, .int p0]).length) Slot.unset).toArray = ls at hl ⊢
  have hl : lv_has ls 3 [(0, .ref q), (1, .int p0)] := hl
  unfold P_X11_listOf at h
  obtain ⟨⟨hq, hk⟩, h⟩ := h
  refine lv_iload_n hx hb dX11_listOf_0 rfl (lv_at hl 1 rfl) ?_
  refine lv_if_lt (tgt := 30) hx hb dX11_listOf_1 (by decide) (fun c_1 => ?_) (fun c_1 => ?_)
  · have h := h.1 c_1
    refine lv_null hx hb dX11_listOf_30 ?_
    refine lv_astore_nN (lv' := [(2, .null), (0, .ref q), (1, .int p0)]) hx hb dX11_listOf_31 rfl hl (by decide) rfl (fun ls hl => ?_)
    refine lv_aload_nN hx hb dX11_listOf_32 rfl (lv_at hl 0 rfl) ?_
    refine lv_ifnonnullN hx hb dX11_listOf_33 ?_
    obtain ⟨sa, hsa⟩ := hG.t200
    exact vx_throwS (A := A) (own := RX11) (cls := "java/lang/IndexOutOfBoundsException") (text := "there is no such list") (names := ["java/lang/RuntimeException", "java/lang/Exception"]) (sa := sa) (rest := []) hx hb hl0 hown (by decide) (by decide) (hts _ mwC_368) (hts _ mwC_369) hsa (vx_hat (B := [.castable "java/lang/IndexOutOfBoundsException" "java/lang/IndexOutOfBoundsException", .declares ⟨"java/lang/RuntimeException", "<init>", "(Ljava/lang/String;)V"⟩, .declares ⟨"java/lang/Exception", "<init>", "(Ljava/lang/String;)V"⟩, .declares ⟨"java/lang/Throwable", "<init>", "(Ljava/lang/String;)V"⟩]) (fun w h => hts w (xat_IOO w h)) (by decide +kernel) (vx_c (va_Nw.use rfl hG.xIOO) (vx_c (va_Nw.use rfl hG.dR) (vx_c (va_Nw.use rfl hG.dE) (vx_c (va_Nw.use rfl hG.dT) vx_n))))) (by decide +kernel) hZ.1 hZ.2 hS (hl.1.trans hml.symm) dX11_listOf_36 dX11_listOf_39 dX11_listOf_40 dX11_listOf_42 dX11_listOf_45 (fun x h => (htab x h).elim) (Nat.le_of_ble_eq_true rfl) (Nat.le_of_ble_eq_true rfl) (Nat.le_of_ble_eq_true rfl) (Nat.le_of_ble_eq_true rfl) hlocks (fun t hvm hz hq => ⟨(), trivial, h, Nat.le_trans hE.1 hz, fun q h1 h2 => (hq q (Nat.lt_of_lt_of_le h1 hE.1)).trans (hE.2 q h1)⟩) hS.2.2 (Nat.le_of_ble_eq_true rfl) (Nat.le_of_ble_eq_true rfl)
  · have h := h.2 c_1
    refine lv_iload_n hx hb dX11_listOf_4 rfl (lv_at hl 1 rfl) ?_
    refine lv_aload_n hx hb dX11_listOf_5 rfl (lv_at hl 0 rfl) ?_
    refine c_get (C := RX11) (T := TX11) (N := 9) (K := 10) (v := .int (ci q 4)) hx hb hts hinX11 hown hK hP hq hk (by decide) rfl 4 (by decide) (hts _ mwC_365) (fun _ h9 => h9) rfl dX11_listOf_6 ?_
    refine lv_icmp_ge (tgt := 30) hx hb dX11_listOf_9 (by decide) (fun c_9 => ?_) (fun c_9 => ?_)
    · have h := h.1 c_9
      refine lv_null hx hb dX11_listOf_30 ?_
      refine lv_astore_nN (lv' := [(2, .null), (0, .ref q), (1, .int p0)]) hx hb dX11_listOf_31 rfl hl (by decide) rfl (fun ls hl => ?_)
      refine lv_aload_nN hx hb dX11_listOf_32 rfl (lv_at hl 0 rfl) ?_
      refine lv_ifnonnullN hx hb dX11_listOf_33 ?_
      obtain ⟨sa, hsa⟩ := hG.t200
      exact vx_throwS (A := A) (own := RX11) (cls := "java/lang/IndexOutOfBoundsException") (text := "there is no such list") (names := ["java/lang/RuntimeException", "java/lang/Exception"]) (sa := sa) (rest := []) hx hb hl0 hown (by decide) (by decide) (hts _ mwC_368) (hts _ mwC_369) hsa (vx_hat (B := [.castable "java/lang/IndexOutOfBoundsException" "java/lang/IndexOutOfBoundsException", .declares ⟨"java/lang/RuntimeException", "<init>", "(Ljava/lang/String;)V"⟩, .declares ⟨"java/lang/Exception", "<init>", "(Ljava/lang/String;)V"⟩, .declares ⟨"java/lang/Throwable", "<init>", "(Ljava/lang/String;)V"⟩]) (fun w h => hts w (xat_IOO w h)) (by decide +kernel) (vx_c (va_Nw.use rfl hG.xIOO) (vx_c (va_Nw.use rfl hG.dR) (vx_c (va_Nw.use rfl hG.dE) (vx_c (va_Nw.use rfl hG.dT) vx_n))))) (by decide +kernel) hZ.1 hZ.2 hS (hl.1.trans hml.symm) dX11_listOf_36 dX11_listOf_39 dX11_listOf_40 dX11_listOf_42 dX11_listOf_45 (fun x h => (htab x h).elim) (Nat.le_of_ble_eq_true rfl) (Nat.le_of_ble_eq_true rfl) (Nat.le_of_ble_eq_true rfl) (Nat.le_of_ble_eq_true rfl) hlocks (fun t hvm hz hq => ⟨(), trivial, h, Nat.le_trans hE.1 hz, fun q h1 h2 => (hq q (Nat.lt_of_lt_of_le h1 hE.1)).trans (hE.2 q h1)⟩) hS.2.2 (Nat.le_of_ble_eq_true rfl) (Nat.le_of_ble_eq_true rfl)
    · have h := h.2 c_9
      refine lv_iload_n hx hb dX11_listOf_12 rfl (lv_at hl 1 rfl) ?_
      refine lv_aload_n hx hb dX11_listOf_13 rfl (lv_at hl 0 rfl) ?_
      obtain ⟨q1, e2, h⟩ := h
      refine c_get (C := RX11) (T := TX11) (N := 9) (K := 10) (v := .ref q1) hx hb hts hinX11 hown hK hP hq hk (by decide) rfl 1 (by decide) (hts _ mwC_370) (fun _ h9 => h9) (by show some (va_rf (sR sh q 1)) = _; rw [e2]; rfl) dX11_listOf_14 ?_
      obtain ⟨⟨hm3, hk4⟩, h⟩ := h
      refine c_alen hx hb hK hP hm3 (Or.inr (Or.inr (Or.inr hk4))) dX11_listOf_17 ?_
      refine lv_icmp_ge (tgt := 30) hx hb dX11_listOf_18 (by decide) (fun c_18 => ?_) (fun c_18 => ?_)
      · have h := h.1 c_18
        refine lv_null hx hb dX11_listOf_30 ?_
        refine lv_astore_nN (lv' := [(2, .null), (0, .ref q), (1, .int p0)]) hx hb dX11_listOf_31 rfl hl (by decide) rfl (fun ls hl => ?_)
        refine lv_aload_nN hx hb dX11_listOf_32 rfl (lv_at hl 0 rfl) ?_
        refine lv_ifnonnullN hx hb dX11_listOf_33 ?_
        obtain ⟨sa, hsa⟩ := hG.t200
        exact vx_throwS (A := A) (own := RX11) (cls := "java/lang/IndexOutOfBoundsException") (text := "there is no such list") (names := ["java/lang/RuntimeException", "java/lang/Exception"]) (sa := sa) (rest := []) hx hb hl0 hown (by decide) (by decide) (hts _ mwC_368) (hts _ mwC_369) hsa (vx_hat (B := [.castable "java/lang/IndexOutOfBoundsException" "java/lang/IndexOutOfBoundsException", .declares ⟨"java/lang/RuntimeException", "<init>", "(Ljava/lang/String;)V"⟩, .declares ⟨"java/lang/Exception", "<init>", "(Ljava/lang/String;)V"⟩, .declares ⟨"java/lang/Throwable", "<init>", "(Ljava/lang/String;)V"⟩]) (fun w h => hts w (xat_IOO w h)) (by decide +kernel) (vx_c (va_Nw.use rfl hG.xIOO) (vx_c (va_Nw.use rfl hG.dR) (vx_c (va_Nw.use rfl hG.dE) (vx_c (va_Nw.use rfl hG.dT) vx_n))))) (by decide +kernel) hZ.1 hZ.2 hS (hl.1.trans hml.symm) dX11_listOf_36 dX11_listOf_39 dX11_listOf_40 dX11_listOf_42 dX11_listOf_45 (fun x h => (htab x h).elim) (Nat.le_of_ble_eq_true rfl) (Nat.le_of_ble_eq_true rfl) (Nat.le_of_ble_eq_true rfl) (Nat.le_of_ble_eq_true rfl) hlocks (fun t hvm hz hq => ⟨(), trivial, h, Nat.le_trans hE.1 hz, fun q h1 h2 => (hq q (Nat.lt_of_lt_of_le h1 hE.1)).trans (hE.2 q h1)⟩) hS.2.2 (Nat.le_of_ble_eq_true rfl) (Nat.le_of_ble_eq_true rfl)
      · have h := h.2 c_18
        refine lv_aload_n hx hb dX11_listOf_21 rfl (lv_at hl 0 rfl) ?_
        refine c_get (C := RX11) (T := TX11) (N := 9) (K := 10) (v := .ref q1) hx hb hts hinX11 hown hK hP hq hk (by decide) rfl 1 (by decide) (hts _ mwC_370) (fun _ h9 => h9) (by show some (va_rf (sR sh q 1)) = _; rw [e2]; rfl) dX11_listOf_22 ?_
        refine lv_iload_n hx hb dX11_listOf_25 rfl (lv_at hl 1 rfl) ?_
        obtain ⟨hi5, h⟩ := h
        refine c_aald hx hb hK hP hm3 hk4 hi5 dX11_listOf_26 ?_
        rcases e7 : sQ sh q1 p0.toNatClampNeg with _ | q6
        · have h := h.1 e7
          refine lv_goto (tgt := 31) hx hb dX11_listOf_27 (by decide) ?_
          refine lv_astore_nN (lv' := [(2, .null), (0, .ref q), (1, .int p0)]) hx hb dX11_listOf_31 rfl hl (by decide) rfl (fun ls hl => ?_)
          refine lv_aload_nN hx hb dX11_listOf_32 rfl (lv_at hl 0 rfl) ?_
          refine lv_ifnonnullN hx hb dX11_listOf_33 ?_
          obtain ⟨sa, hsa⟩ := hG.t200
          exact vx_throwS (A := A) (own := RX11) (cls := "java/lang/IndexOutOfBoundsException") (text := "there is no such list") (names := ["java/lang/RuntimeException", "java/lang/Exception"]) (sa := sa) (rest := []) hx hb hl0 hown (by decide) (by decide) (hts _ mwC_368) (hts _ mwC_369) hsa (vx_hat (B := [.castable "java/lang/IndexOutOfBoundsException" "java/lang/IndexOutOfBoundsException", .declares ⟨"java/lang/RuntimeException", "<init>", "(Ljava/lang/String;)V"⟩, .declares ⟨"java/lang/Exception", "<init>", "(Ljava/lang/String;)V"⟩, .declares ⟨"java/lang/Throwable", "<init>", "(Ljava/lang/String;)V"⟩]) (fun w h => hts w (xat_IOO w h)) (by decide +kernel) (vx_c (va_Nw.use rfl hG.xIOO) (vx_c (va_Nw.use rfl hG.dR) (vx_c (va_Nw.use rfl hG.dE) (vx_c (va_Nw.use rfl hG.dT) vx_n))))) (by decide +kernel) hZ.1 hZ.2 hS (hl.1.trans hml.symm) dX11_listOf_36 dX11_listOf_39 dX11_listOf_40 dX11_listOf_42 dX11_listOf_45 (fun x h => (htab x h).elim) (Nat.le_of_ble_eq_true rfl) (Nat.le_of_ble_eq_true rfl) (Nat.le_of_ble_eq_true rfl) (Nat.le_of_ble_eq_true rfl) hlocks (fun t hvm hz hq => ⟨(), trivial, h, Nat.le_trans hE.1 hz, fun q h1 h2 => (hq q (Nat.lt_of_lt_of_le h1 hE.1)).trans (hE.2 q h1)⟩) hS.2.2 (Nat.le_of_ble_eq_true rfl) (Nat.le_of_ble_eq_true rfl)
        · have h := h.2 q6 e7
          refine lv_goto (tgt := 31) hx hb dX11_listOf_27 (by decide) ?_
          refine lv_astore_n (lv' := [(2, .ref q6), (0, .ref q), (1, .int p0)]) hx hb dX11_listOf_31 rfl hl (by decide) rfl (fun ls hl => ?_)
          refine lv_aload_n hx hb dX11_listOf_32 rfl (lv_at hl 0 rfl) ?_
          refine lv_ifnonnull (tgt := 46) hx hb dX11_listOf_33 (by decide) ?_
          refine lv_aload_n hx hb dX11_listOf_46 rfl (lv_at hl 0 rfl) ?_
          refine W.widen (k := 1) (n := 6) (by decide) (by decide) ?_
          refine vx_ret ?_
          exact W.aret hx hb hr (Or.inl ⟨_, rfl⟩) (Or.inr ⟨_, rfl⟩) (fun t ht hW => ⟨⟨(), q6, rfl, trivial, h⟩, hS.F ht⟩) hS.2.2 dX11_listOf_47
