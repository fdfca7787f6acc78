theorem dX11_finish_0 : decode cX11_finish 0 = .ok (.aload_n 0, 1) := by decide +kernel
theorem dX11_finish_1 : decode cX11_finish 1 = .ok (.iload_n 1, 1) := by decide +kernel
theorem dX11_finish_2 : decode cX11_finish 2 = .ok (.iconst 4, 1) := by decide +kernel
theorem dX11_finish_3 : decode cX11_finish 3 = .ok (.if_icmp .le 9, 3) := by decide +kernel
theorem dX11_finish_6 : decode cX11_finish 6 = .ok (.iload_n 1, 1) := by decide +kernel
theorem dX11_finish_7 : decode cX11_finish 7 = .ok (.iconst 4, 1) := by decide +kernel
theorem dX11_finish_8 : decode cX11_finish 8 = .ok (.isub, 1) := by decide +kernel
theorem dX11_finish_9 : decode cX11_finish 9 = .ok (.goto 4, 3) := by decide +kernel
theorem dX11_finish_12 : decode cX11_finish 12 = .ok (.iconst 0, 1) := by decide +kernel
theorem dX11_finish_13 : decode cX11_finish 13 = .ok (.putfield 185, 3) := by decide +kernel
theorem dX11_finish_16 : decode cX11_finish 16 = .ok (.iload_n 1, 1) := by decide +kernel
theorem dX11_finish_17 : decode cX11_finish 17 = .ok (.tableswitch 52 1 4 #[31, 52, 45, 38], 31) := by decide +kernel
theorem dX11_finish_48 : decode cX11_finish 48 = .ok (.aload_n 0, 1) := by decide +kernel
theorem dX11_finish_49 : decode cX11_finish 49 = .ok (.iconst 0, 1) := by decide +kernel
theorem dX11_finish_50 : decode cX11_finish 50 = .ok (.putfield 182, 3) := by decide +kernel
theorem dX11_finish_53 : decode cX11_finish 53 = .ok (.lload_n 2, 1) := by decide +kernel
theorem dX11_finish_54 : decode cX11_finish 54 = .ok (.lreturn, 1) := by decide +kernel
theorem dX11_finish_55 : decode cX11_finish 55 = .ok (.aload_n 0, 1) := by decide +kernel
theorem dX11_finish_56 : decode cX11_finish 56 = .ok (.iconst 1, 1) := by decide +kernel
theorem dX11_finish_57 : decode cX11_finish 57 = .ok (.putfield 182, 3) := by decide +kernel
theorem dX11_finish_60 : decode cX11_finish 60 = .ok (.lconst 0, 1) := by decide +kernel
theorem dX11_finish_61 : decode cX11_finish 61 = .ok (.lreturn, 1) := by decide +kernel
theorem dX11_finish_62 : decode cX11_finish 62 = .ok (.aload_n 0, 1) := by decide +kernel
theorem dX11_finish_63 : decode cX11_finish 63 = .ok (.iconst 3, 1) := by decide +kernel
theorem dX11_finish_64 : decode cX11_finish 64 = .ok (.putfield 182, 3) := by decide +kernel
theorem dX11_finish_67 : decode cX11_finish 67 = .ok (.lconst 0, 1) := by decide +kernel
theorem dX11_finish_68 : decode cX11_finish 68 = .ok (.lreturn, 1) := by decide +kernel
theorem dX11_finish_69 : decode cX11_finish 69 = .ok (.aload_n 0, 1) := by decide +kernel
theorem dX11_finish_70 : decode cX11_finish 70 = .ok (.iconst 2, 1) := by decide +kernel
theorem dX11_finish_71 : decode cX11_finish 71 = .ok (.putfield 182, 3) := by decide +kernel
theorem dX11_finish_74 : decode cX11_finish 74 = .ok (.lconst 0, 1) := by decide +kernel
theorem dX11_finish_75 : decode cX11_finish 75 = .ok (.lreturn, 1) := by decide +kernel
abbrev wmX11_finish : List Cond := .code yX11_finish cX11_finish 4 (some .long) :: WC
theorem hd_X11_finish : yX11_finish.cls = RX11 ∧ yX11_finish.cls ≠ "java/lang/invoke/MethodHandle" ∧ yX11_finish.cls ≠ "java/lang/invoke/VarHandle" ∧ (parseMethodDescriptor yX11_finish.desc).map (fun d => d.parameters.length) = some 2 := by decide +kernel
def P_X11_finish (sh : Sh) (ci : Nat → Nat → Int32) (ai : Nat → Nat → Int32) (al : Nat → Nat → Int64) (q : Nat) (p0 : Int32) (p1 : Int64) (Q : Int64 → Sh → (Nat → Nat → Int32) → (Nat → Nat → Int32) → (Nat → Nat → Int64) → Prop) : Prop := (q ∈ sL sh ∧ sK sh q = 10) ∧ ((p0 ≤ 4) → (((p0 = 1) → (Q p1 sh (va_up (va_up ci q (va_up (ci q) 8 0)) q (va_up ((va_up ci q (va_up (ci q) 8 0)) q) 7 0)) ai al)) ∧ ((¬ p0 = 1) → ((p0 = 2) → (Q 0 sh (va_up (va_up ci q (va_up (ci q) 8 0)) q (va_up ((va_up ci q (va_up (ci q) 8 0)) q) 7 2)) ai al)) ∧ ((¬ p0 = 2) → ((p0 = 3) → (Q 0 sh (va_up (va_up ci q (va_up (ci q) 8 0)) q (va_up ((va_up ci q (va_up (ci q) 8 0)) q) 7 3)) ai al)) ∧ ((¬ p0 = 3) → ((p0 = 4) → (Q 0 sh (va_up (va_up ci q (va_up (ci q) 8 0)) q (va_up ((va_up ci q (va_up (ci q) 8 0)) q) 7 1)) ai al)) ∧ ((¬ p0 = 4) → (Q 0 sh (va_up (va_up ci q (va_up (ci q) 8 0)) q (va_up ((va_up ci q (va_up (ci q) 8 0)) q) 7 2)) ai al))))))) ∧ ((¬ p0 ≤ 4) → (((p0 = 1) → (Q p1 sh (va_up (va_up ci q (va_up (ci q) 8 (p0 - 4))) q (va_up ((va_up ci q (va_up (ci q) 8 (p0 - 4))) q) 7 0)) ai al)) ∧ ((¬ p0 = 1) → ((p0 = 2) → (Q 0 sh (va_up (va_up ci q (va_up (ci q) 8 (p0 - 4))) q (va_up ((va_up ci q (va_up (ci q) 8 (p0 - 4))) q) 7 2)) ai al)) ∧ ((¬ p0 = 2) → ((p0 = 3) → (Q 0 sh (va_up (va_up ci q (va_up (ci q) 8 (p0 - 4))) q (va_up ((va_up ci q (va_up (ci q) 8 (p0 - 4))) q) 7 3)) ai al)) ∧ ((¬ p0 = 3) → ((p0 = 4) → (Q 0 sh (va_up (va_up ci q (va_up (ci q) 8 (p0 - 4))) q (va_up ((va_up ci q (va_up (ci q) 8 (p0 - 4))) q) 7 1)) ai al)) ∧ ((¬ p0 = 4) → (Q 0 sh (va_up (va_up ci q (va_up (ci q) 8 (p0 - 4))) q (va_up ((va_up ci q (va_up (ci q) 8 (p0 - 4))) q) 7 2)) ai al)))))))
set_option maxHeartbeats 4000000 in
set_option maxRecDepth 100000 in
theorem p_X11_finish (l : Launch) (dC : Nat → ClassId) (dI : Nat → Nat → Nat) (sh : Sh) (ci : Nat → Nat → Int32) (ai : Nat → Nat → Int32) (al : Nat → Nat → Int64) (q : Nat) (p0 : Int32) (p1 : Int64) (Q : Int64 → Sh → (Nat → Nat → Int32) → (Nat → Nat → Int32) → (Nat → Nat → Int64) → Prop) (h : P_X11_finish sh ci ai al q p0 p1 Q) (sz : Nat) : Met l yX11_finish wmX11_finish ({ frames := 60, cells := 0, slots := 0, locals := 2000 }) (va_Pc [.ref q, .int p0, .long p1] (cPre dC dI sh ci ai al sz)) (va_Ql (S := XSt) (xJ Q) (xB dC dI (va_A (cW sh ci ai al) sz)) (va_A (cW sh ci ai al) sz)) 0 0 (va_A (cW sh ci ai al) sz) := by
  refine Met.ofW (cc := cX11_finish) (maxL := 4) (ret := (some .long)) (by decide) rfl ?_
  intro p e s m args below meth c s₁ B hml hv
  obtain ⟨rfl, hsz, hP, hK, hD0, hG⟩ := hv
  have hx := B.exec
  have hb := B.bytes
  have hr := B.returns
  have hts : ∀ w ∈ WC, w.before _ s = true := fun w h => atoms_spec (ws := wmX11_finish) B.pre w (List.mem_cons_of_mem _ h)
  have hown : s.vm.findClass RX11 = some m.cls := findClass_of_methodNamed B.named
  have hlocks := B.notSynchronized
  subst hsz
  have hD := hD0.self (sz := s.heap.size)
  generalize hAe : va_A (cW sh ci ai al) s.heap.size = A at hD ⊢
  have hA : ∀ q : Nat, s.heap.size ≤ q → A q := fun q h => by rw [← hAe]; exact Or.inr h
  generalize hH : s.heap = H at hP ⊢
  have hS : va_S A s.heap H [] := by rw [← hH]; exact va_S.rf
  have hl := lv_entry [.ref q, .int p0, .long p1] (n := 4) (Nat.le_of_ble_eq_true rfl)
  rw [lg_entry_eq]
  generalize (lg_sl [.ref q, .int p0, .long p1] ++ List.replicate (4 - (lg_sl [.ref q, .int p0, .long p1]).length) Slot.unset).toArray = ls at hl ⊢
  have hl : lv_has ls 4 [(0, .ref q), (1, .int p0), (2, .long p1)] := hl
  unfold P_X11_finish at h
  obtain ⟨⟨hq, hk⟩, h⟩ := h
  refine lv_aload_n hx hb dX11_finish_0 rfl (lv_at hl 0 rfl) ?_
  refine lv_iload_n hx hb dX11_finish_1 rfl (lv_at hl 1 rfl) ?_
  refine lv_iconst (v := 4) hx hb dX11_finish_2 (by decide) ?_
  refine lv_icmp_le (tgt := 12) hx hb dX11_finish_3 (by decide) (fun c_3 => ?_) (fun c_3 => ?_)
  · have h := h.1 c_3
    refine lv_iconst (v := 0) hx hb dX11_finish_12 (by decide) ?_
    refine c_put (C := RX11) (T := TX11) (N := 9) (K := 10) hx hb hts hinX11 tyX11 tyX11_ok nmX11 hown hK hP hD hS hq hk (by decide) rfl 8 (by decide) (hts _ mwC_402) (fun _ h9 => h9) rfl (by decide +kernel) (Nat.le_of_ble_eq_true rfl) rfl dX11_finish_13 (fun H locs hP hD hS => ?_)
    refine lv_iload_n hx hb dX11_finish_16 rfl (lv_at hl 1 rfl) ?_
    by_cases hs_17_1 : p0 = 1
    · have h := h.1 hs_17_1
      refine lv_tableIn (tgt := 48) hx hb dX11_finish_17 (by rw [hs_17_1]; decide) (by rw [hs_17_1]; decide) (off := 31) (by rw [hs_17_1]; decide) (by decide) ?_
      refine lv_aload_n hx hb dX11_finish_48 rfl (lv_at hl 0 rfl) ?_
      refine lv_iconst (v := 0) hx hb dX11_finish_49 (by decide) ?_
      refine c_put (C := RX11) (T := TX11) (N := 9) (K := 10) hx hb hts hinX11 tyX11 tyX11_ok nmX11 hown hK hP hD hS hq hk (by decide) rfl 7 (by decide) (hts _ mwC_403) (fun _ h9 => h9) rfl (by decide +kernel) (Nat.le_of_ble_eq_true rfl) rfl dX11_finish_50 (fun H locs hP hD hS => ?_)
      refine lv_lload_n hx hb dX11_finish_53 rfl (lv_at hl 2 rfl) ?_
      refine W.widen (k := 0) (n := 0) (by decide) (by decide) ?_
      exact W.lret (v := p1) hx hb hr (fun t ht hW => ⟨⟨_, (sh, va_up (va_up ci q (va_up (ci q) 8 0)) q (va_up ((va_up ci q (va_up (ci q) 8 0)) q) 7 0), ai, al), rfl, h, by rw [ht]; exact hP, cK.moved hW.alike hK, hD⟩, hS.F ht⟩) hS.2.2 dX11_finish_54
    replace h := h.2 hs_17_1
    by_cases hs_17_2 : p0 = 2
    · have h := h.1 hs_17_2
      refine lv_tableIn (tgt := 69) hx hb dX11_finish_17 (by rw [hs_17_2]; decide) (by rw [hs_17_2]; decide) (off := 52) (by rw [hs_17_2]; decide) (by decide) ?_
      refine lv_aload_n hx hb dX11_finish_69 rfl (lv_at hl 0 rfl) ?_
      refine lv_iconst (v := 2) hx hb dX11_finish_70 (by decide) ?_
      refine c_put (C := RX11) (T := TX11) (N := 9) (K := 10) hx hb hts hinX11 tyX11 tyX11_ok nmX11 hown hK hP hD hS hq hk (by decide) rfl 7 (by decide) (hts _ mwC_403) (fun _ h9 => h9) rfl (by decide +kernel) (Nat.le_of_ble_eq_true rfl) rfl dX11_finish_71 (fun H locs hP hD hS => ?_)
      refine lv_lconst (v := 0) hx hb dX11_finish_74 (by decide) ?_
      refine W.widen (k := 0) (n := 0) (by decide) (by decide) ?_
      exact W.lret (v := 0) hx hb hr (fun t ht hW => ⟨⟨_, (sh, va_up (va_up ci q (va_up (ci q) 8 0)) q (va_up ((va_up ci q (va_up (ci q) 8 0)) q) 7 2), ai, al), rfl, h, by rw [ht]; exact hP, cK.moved hW.alike hK, hD⟩, hS.F ht⟩) hS.2.2 dX11_finish_75
    replace h := h.2 hs_17_2
    by_cases hs_17_3 : p0 = 3
    · have h := h.1 hs_17_3
      refine lv_tableIn (tgt := 62) hx hb dX11_finish_17 (by rw [hs_17_3]; decide) (by rw [hs_17_3]; decide) (off := 45) (by rw [hs_17_3]; decide) (by decide) ?_
      refine lv_aload_n hx hb dX11_finish_62 rfl (lv_at hl 0 rfl) ?_
      refine lv_iconst (v := 3) hx hb dX11_finish_63 (by decide) ?_
      refine c_put (C := RX11) (T := TX11) (N := 9) (K := 10) hx hb hts hinX11 tyX11 tyX11_ok nmX11 hown hK hP hD hS hq hk (by decide) rfl 7 (by decide) (hts _ mwC_403) (fun _ h9 => h9) rfl (by decide +kernel) (Nat.le_of_ble_eq_true rfl) rfl dX11_finish_64 (fun H locs hP hD hS => ?_)
      refine lv_lconst (v := 0) hx hb dX11_finish_67 (by decide) ?_
      refine W.widen (k := 0) (n := 0) (by decide) (by decide) ?_
      exact W.lret (v := 0) hx hb hr (fun t ht hW => ⟨⟨_, (sh, va_up (va_up ci q (va_up (ci q) 8 0)) q (va_up ((va_up ci q (va_up (ci q) 8 0)) q) 7 3), ai, al), rfl, h, by rw [ht]; exact hP, cK.moved hW.alike hK, hD⟩, hS.F ht⟩) hS.2.2 dX11_finish_68
    replace h := h.2 hs_17_3
    by_cases hs_17_4 : p0 = 4
    · have h := h.1 hs_17_4
      refine lv_tableIn (tgt := 55) hx hb dX11_finish_17 (by rw [hs_17_4]; decide) (by rw [hs_17_4]; decide) (off := 38) (by rw [hs_17_4]; decide) (by decide) ?_
      refine lv_aload_n hx hb dX11_finish_55 rfl (lv_at hl 0 rfl) ?_
      refine lv_iconst (v := 1) hx hb dX11_finish_56 (by decide) ?_
      refine c_put (C := RX11) (T := TX11) (N := 9) (K := 10) hx hb hts hinX11 tyX11 tyX11_ok nmX11 hown hK hP hD hS hq hk (by decide) rfl 7 (by decide) (hts _ mwC_403) (fun _ h9 => h9) rfl (by decide +kernel) (Nat.le_of_ble_eq_true rfl) rfl dX11_finish_57 (fun H locs hP hD hS => ?_)
      refine lv_lconst (v := 0) hx hb dX11_finish_60 (by decide) ?_
      refine W.widen (k := 0) (n := 0) (by decide) (by decide) ?_
      exact W.lret (v := 0) hx hb hr (fun t ht hW => ⟨⟨_, (sh, va_up (va_up ci q (va_up (ci q) 8 0)) q (va_up ((va_up ci q (va_up (ci q) 8 0)) q) 7 1), ai, al), rfl, h, by rw [ht]; exact hP, cK.moved hW.alike hK, hD⟩, hS.F ht⟩) hS.2.2 dX11_finish_61
    replace h := h.2 hs_17_4
    refine lv_tableOut (tgt := 69) hx hb dX11_finish_17 (by have n1 := lv_neT hs_17_1 (a := 1) (by decide); have n2 := lv_neT hs_17_2 (a := 2) (by decide); have n3 := lv_neT hs_17_3 (a := 3) (by decide); have n4 := lv_neT hs_17_4 (a := 4) (by decide); omega) (by decide) ?_
    refine lv_aload_n hx hb dX11_finish_69 rfl (lv_at hl 0 rfl) ?_
    refine lv_iconst (v := 2) hx hb dX11_finish_70 (by decide) ?_
    refine c_put (C := RX11) (T := TX11) (N := 9) (K := 10) hx hb hts hinX11 tyX11 tyX11_ok nmX11 hown hK hP hD hS hq hk (by decide) rfl 7 (by decide) (hts _ mwC_403) (fun _ h9 => h9) rfl (by decide +kernel) (Nat.le_of_ble_eq_true rfl) rfl dX11_finish_71 (fun H locs hP hD hS => ?_)
    refine lv_lconst (v := 0) hx hb dX11_finish_74 (by decide) ?_
    refine W.widen (k := 0) (n := 0) (by decide) (by decide) ?_
    exact W.lret (v := 0) hx hb hr (fun t ht hW => ⟨⟨_, (sh, va_up (va_up ci q (va_up (ci q) 8 0)) q (va_up ((va_up ci q (va_up (ci q) 8 0)) q) 7 2), ai, al), rfl, h, by rw [ht]; exact hP, cK.moved hW.alike hK, hD⟩, hS.F ht⟩) hS.2.2 dX11_finish_75
  · have h := h.2 c_3
    refine lv_iload_n hx hb dX11_finish_6 rfl (lv_at hl 1 rfl) ?_
    refine lv_iconst (v := 4) hx hb dX11_finish_7 (by decide) ?_
    refine lv_isub hx hb dX11_finish_8 ?_
    refine lv_goto (tgt := 13) hx hb dX11_finish_9 (by decide) ?_
    refine c_put (C := RX11) (T := TX11) (N := 9) (K := 10) hx hb hts hinX11 tyX11 tyX11_ok nmX11 hown hK hP hD hS hq hk (by decide) rfl 8 (by decide) (hts _ mwC_402) (fun _ h9 => h9) rfl (by decide +kernel) (Nat.le_of_ble_eq_true rfl) rfl dX11_finish_13 (fun H locs hP hD hS => ?_)
    refine lv_iload_n hx hb dX11_finish_16 rfl (lv_at hl 1 rfl) ?_
    by_cases hs_17_1 : p0 = 1
    · have h := h.1 hs_17_1
      refine lv_tableIn (tgt := 48) hx hb dX11_finish_17 (by rw [hs_17_1]; decide) (by rw [hs_17_1]; decide) (off := 31) (by rw [hs_17_1]; decide) (by decide) ?_
      refine lv_aload_n hx hb dX11_finish_48 rfl (lv_at hl 0 rfl) ?_
      refine lv_iconst (v := 0) hx hb dX11_finish_49 (by decide) ?_
      refine c_put (C := RX11) (T := TX11) (N := 9) (K := 10) hx hb hts hinX11 tyX11 tyX11_ok nmX11 hown hK hP hD hS hq hk (by decide) rfl 7 (by decide) (hts _ mwC_403) (fun _ h9 => h9) rfl (by decide +kernel) (Nat.le_of_ble_eq_true rfl) rfl dX11_finish_50 (fun H locs hP hD hS => ?_)
      refine lv_lload_n hx hb dX11_finish_53 rfl (lv_at hl 2 rfl) ?_
      refine W.widen (k := 0) (n := 0) (by decide) (by decide) ?_
      exact W.lret (v := p1) hx hb hr (fun t ht hW => ⟨⟨_, (sh, va_up (va_up ci q (va_up (ci q) 8 (p0 - 4))) q (va_up ((va_up ci q (va_up (ci q) 8 (p0 - 4))) q) 7 0), ai, al), rfl, h, by rw [ht]; exact hP, cK.moved hW.alike hK, hD⟩, hS.F ht⟩) hS.2.2 dX11_finish_54
    replace h := h.2 hs_17_1
    by_cases hs_17_2 : p0 = 2
    · have h := h.1 hs_17_2
      refine lv_tableIn (tgt := 69) hx hb dX11_finish_17 (by rw [hs_17_2]; decide) (by rw [hs_17_2]; decide) (off := 52) (by rw [hs_17_2]; decide) (by decide) ?_
      refine lv_aload_n hx hb dX11_finish_69 rfl (lv_at hl 0 rfl) ?_
      refine lv_iconst (v := 2) hx hb dX11_finish_70 (by decide) ?_
      refine c_put (C := RX11) (T := TX11) (N := 9) (K := 10) hx hb hts hinX11 tyX11 tyX11_ok nmX11 hown hK hP hD hS hq hk (by decide) rfl 7 (by decide) (hts _ mwC_403) (fun _ h9 => h9) rfl (by decide +kernel) (Nat.le_of_ble_eq_true rfl) rfl dX11_finish_71 (fun H locs hP hD hS => ?_)
      refine lv_lconst (v := 0) hx hb dX11_finish_74 (by decide) ?_
      refine W.widen (k := 0) (n := 0) (by decide) (by decide) ?_
      exact W.lret (v := 0) hx hb hr (fun t ht hW => ⟨⟨_, (sh, va_up (va_up ci q (va_up (ci q) 8 (p0 - 4))) q (va_up ((va_up ci q (va_up (ci q) 8 (p0 - 4))) q) 7 2), ai, al), rfl, h, by rw [ht]; exact hP, cK.moved hW.alike hK, hD⟩, hS.F ht⟩) hS.2.2 dX11_finish_75
    replace h := h.2 hs_17_2
    by_cases hs_17_3 : p0 = 3
    · have h := h.1 hs_17_3
      refine lv_tableIn (tgt := 62) hx hb dX11_finish_17 (by rw [hs_17_3]; decide) (by rw [hs_17_3]; decide) (off := 45) (by rw [hs_17_3]; decide) (by decide) ?_
      refine lv_aload_n hx hb dX11_finish_62 rfl (lv_at hl 0 rfl) ?_
      refine lv_iconst (v := 3) hx hb dX11_finish_63 (by decide) ?_
      refine c_put (C := RX11) (T := TX11) (N := 9) (K := 10) hx hb hts hinX11 tyX11 tyX11_ok nmX11 hown hK hP hD hS hq hk (by decide) rfl 7 (by decide) (hts _ mwC_403) (fun _ h9 => h9) rfl (by decide +kernel) (Nat.le_of_ble_eq_true rfl) rfl dX11_finish_64 (fun H locs hP hD hS => ?_)
      refine lv_lconst (v := 0) hx hb dX11_finish_67 (by decide) ?_
      refine W.widen (k := 0) (n := 0) (by decide) (by decide) ?_
      exact W.lret (v := 0) hx hb hr (fun t ht hW => ⟨⟨_, (sh, va_up (va_up ci q (va_up (ci q) 8 (p0 - 4))) q (va_up ((va_up ci q (va_up (ci q) 8 (p0 - 4))) q) 7 3), ai, al), rfl, h, by rw [ht]; exact hP, cK.moved hW.alike hK, hD⟩, hS.F ht⟩) hS.2.2 dX11_finish_68
    replace h := h.2 hs_17_3
    by_cases hs_17_4 : p0 = 4
    · have h := h.1 hs_17_4
      refine lv_tableIn (tgt := 55) hx hb dX11_finish_17 (by rw [hs_17_4]; decide) (by rw [hs_17_4]; decide) (off := 38) (by rw [hs_17_4]; decide) (by decide) ?_
      refine lv_aload_n hx hb dX11_finish_55 rfl (lv_at hl 0 rfl) ?_
      refine lv_iconst (v := 1) hx hb dX11_finish_56 (by decide) ?_
      refine c_put (C := RX11) (T := TX11) (N := 9) (K := 10) hx hb hts hinX11 tyX11 tyX11_ok nmX11 hown hK hP hD hS hq hk (by decide) rfl 7 (by decide) (hts _ mwC_403) (fun _ h9 => h9) rfl (by decide +kernel) (Nat.le_of_ble_eq_true rfl) rfl dX11_finish_57 (fun H locs hP hD hS => ?_)
      refine lv_lconst (v := 0) hx hb dX11_finish_60 (by decide) ?_
      refine W.widen (k := 0) (n := 0) (by decide) (by decide) ?_
      exact W.lret (v := 0) hx hb hr (fun t ht hW => ⟨⟨_, (sh, va_up (va_up ci q (va_up (ci q) 8 (p0 - 4))) q (va_up ((va_up ci q (va_up (ci q) 8 (p0 - 4))) q) 7 1), ai, al), rfl, h, by rw [ht]; exact hP, cK.moved hW.alike hK, hD⟩, hS.F ht⟩) hS.2.2 dX11_finish_61
    replace h := h.2 hs_17_4
    refine lv_tableOut (tgt := 69) hx hb dX11_finish_17 (by have n1 := lv_neT hs_17_1 (a := 1) (by decide); have n2 := lv_neT hs_17_2 (a := 2) (by decide); have n3 := lv_neT hs_17_3 (a := 3) (by decide); have n4 := lv_neT hs_17_4 (a := 4) (by decide); omega) (by decide) ?_
    refine lv_aload_n hx hb dX11_finish_69 rfl (lv_at hl 0 rfl) ?_
    refine lv_iconst (v := 2) hx hb dX11_finish_70 (by decide) ?_
    refine c_put (C := RX11) (T := TX11) (N := 9) (K := 10) hx hb hts hinX11 tyX11 tyX11_ok nmX11 hown hK hP hD hS hq hk (by decide) rfl 7 (by decide) (hts _ mwC_403) (fun _ h9 => h9) rfl (by decide +kernel) (Nat.le_of_ble_eq_true rfl) rfl dX11_finish_71 (fun H locs hP hD hS => ?_)
    refine lv_lconst (v := 0) hx hb dX11_finish_74 (by decide) ?_
    refine W.widen (k := 0) (n := 0) (by decide) (by decide) ?_
    exact W.lret (v := 0) hx hb hr (fun t ht hW => ⟨⟨_, (sh, va_up (va_up ci q (va_up (ci q) 8 (p0 - 4))) q (va_up ((va_up ci q (va_up (ci q) 8 (p0 - 4))) q) 7 2), ai, al), rfl, h, by rw [ht]; exact hP, cK.moved hW.alike hK, hD⟩, hS.F ht⟩) hS.2.2 dX11_finish_75
