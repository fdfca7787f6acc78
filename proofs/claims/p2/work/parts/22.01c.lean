theorem dX11_dividesByNone_0 : decode cX11_dividesByNone 0 = .ok (.lload_n 1, 1) := by decide +kernel
theorem dX11_dividesByNone_1 : decode cX11_dividesByNone 1 = .ok (.lconst 0, 1) := by decide +kernel
theorem dX11_dividesByNone_2 : decode cX11_dividesByNone 2 = .ok (.lcmp, 1) := by decide +kernel
theorem dX11_dividesByNone_3 : decode cX11_dividesByNone 3 = .ok (.ifCond .ne 17, 3) := by decide +kernel
theorem dX11_dividesByNone_6 : decode cX11_dividesByNone 6 = .ok (.iload_n 0, 1) := by decide +kernel
theorem dX11_dividesByNone_7 : decode cX11_dividesByNone 7 = .ok (.iconst 3, 1) := by decide +kernel
theorem dX11_dividesByNone_8 : decode cX11_dividesByNone 8 = .ok (.if_icmp .eq 8, 3) := by decide +kernel
theorem dX11_dividesByNone_11 : decode cX11_dividesByNone 11 = .ok (.iload_n 0, 1) := by decide +kernel
theorem dX11_dividesByNone_12 : decode cX11_dividesByNone 12 = .ok (.iconst 4, 1) := by decide +kernel
theorem dX11_dividesByNone_13 : decode cX11_dividesByNone 13 = .ok (.if_icmp .ne 7, 3) := by decide +kernel
theorem dX11_dividesByNone_16 : decode cX11_dividesByNone 16 = .ok (.iconst 1, 1) := by decide +kernel
theorem dX11_dividesByNone_17 : decode cX11_dividesByNone 17 = .ok (.goto 4, 3) := by decide +kernel
theorem dX11_dividesByNone_20 : decode cX11_dividesByNone 20 = .ok (.iconst 0, 1) := by decide +kernel
theorem dX11_dividesByNone_21 : decode cX11_dividesByNone 21 = .ok (.ireturn, 1) := by decide +kernel
theorem dX11_reckon_0 : decode cX11_reckon 0 = .ok (.iload_n 0, 1) := by decide +kernel
theorem dX11_reckon_1 : decode cX11_reckon 1 = .ok (.tableswitch 105 0 7 #[47, 51, 55, 59, 75, 91, 97, 103], 47) := by decide +kernel
theorem dX11_reckon_48 : decode cX11_reckon 48 = .ok (.lload_n 1, 1) := by decide +kernel
theorem dX11_reckon_49 : decode cX11_reckon 49 = .ok (.lload_n 3, 1) := by decide +kernel
theorem dX11_reckon_50 : decode cX11_reckon 50 = .ok (.ladd, 1) := by decide +kernel
theorem dX11_reckon_51 : decode cX11_reckon 51 = .ok (.lreturn, 1) := by decide +kernel
theorem dX11_reckon_52 : decode cX11_reckon 52 = .ok (.lload_n 1, 1) := by decide +kernel
theorem dX11_reckon_53 : decode cX11_reckon 53 = .ok (.lload_n 3, 1) := by decide +kernel
theorem dX11_reckon_54 : decode cX11_reckon 54 = .ok (.lsub, 1) := by decide +kernel
theorem dX11_reckon_55 : decode cX11_reckon 55 = .ok (.lreturn, 1) := by decide +kernel
theorem dX11_reckon_56 : decode cX11_reckon 56 = .ok (.lload_n 1, 1) := by decide +kernel
theorem dX11_reckon_57 : decode cX11_reckon 57 = .ok (.lload_n 3, 1) := by decide +kernel
theorem dX11_reckon_58 : decode cX11_reckon 58 = .ok (.lmul, 1) := by decide +kernel
theorem dX11_reckon_59 : decode cX11_reckon 59 = .ok (.lreturn, 1) := by decide +kernel
theorem dX11_reckon_60 : decode cX11_reckon 60 = .ok (.lload_n 3, 1) := by decide +kernel
theorem dX11_reckon_61 : decode cX11_reckon 61 = .ok (.lconst 0, 1) := by decide +kernel
theorem dX11_reckon_62 : decode cX11_reckon 62 = .ok (.lcmp, 1) := by decide +kernel
theorem dX11_reckon_63 : decode cX11_reckon 63 = .ok (.ifCond .ne 7, 3) := by decide +kernel
theorem dX11_reckon_66 : decode cX11_reckon 66 = .ok (.lconst 0, 1) := by decide +kernel
theorem dX11_reckon_67 : decode cX11_reckon 67 = .ok (.goto 8, 3) := by decide +kernel
theorem dX11_reckon_70 : decode cX11_reckon 70 = .ok (.lload_n 1, 1) := by decide +kernel
theorem dX11_reckon_71 : decode cX11_reckon 71 = .ok (.lload_n 3, 1) := by decide +kernel
theorem dX11_reckon_72 : decode cX11_reckon 72 = .ok (.invokestatic 211, 3) := by decide +kernel
theorem dX11_reckon_75 : decode cX11_reckon 75 = .ok (.lreturn, 1) := by decide +kernel
theorem dX11_reckon_76 : decode cX11_reckon 76 = .ok (.lload_n 3, 1) := by decide +kernel
theorem dX11_reckon_77 : decode cX11_reckon 77 = .ok (.lconst 0, 1) := by decide +kernel
theorem dX11_reckon_78 : decode cX11_reckon 78 = .ok (.lcmp, 1) := by decide +kernel
theorem dX11_reckon_79 : decode cX11_reckon 79 = .ok (.ifCond .ne 7, 3) := by decide +kernel
theorem dX11_reckon_82 : decode cX11_reckon 82 = .ok (.lconst 0, 1) := by decide +kernel
theorem dX11_reckon_83 : decode cX11_reckon 83 = .ok (.goto 8, 3) := by decide +kernel
theorem dX11_reckon_86 : decode cX11_reckon 86 = .ok (.lload_n 1, 1) := by decide +kernel
theorem dX11_reckon_87 : decode cX11_reckon 87 = .ok (.lload_n 3, 1) := by decide +kernel
theorem dX11_reckon_88 : decode cX11_reckon 88 = .ok (.invokestatic 217, 3) := by decide +kernel
theorem dX11_reckon_91 : decode cX11_reckon 91 = .ok (.lreturn, 1) := by decide +kernel
theorem dX11_reckon_92 : decode cX11_reckon 92 = .ok (.lload_n 1, 1) := by decide +kernel
theorem dX11_reckon_93 : decode cX11_reckon 93 = .ok (.lload_n 3, 1) := by decide +kernel
theorem dX11_reckon_94 : decode cX11_reckon 94 = .ok (.invokestatic 220, 3) := by decide +kernel
theorem dX11_reckon_97 : decode cX11_reckon 97 = .ok (.lreturn, 1) := by decide +kernel
theorem dX11_reckon_98 : decode cX11_reckon 98 = .ok (.lload_n 1, 1) := by decide +kernel
theorem dX11_reckon_99 : decode cX11_reckon 99 = .ok (.lload_n 3, 1) := by decide +kernel
theorem dX11_reckon_100 : decode cX11_reckon 100 = .ok (.invokestatic 223, 3) := by decide +kernel
theorem dX11_reckon_103 : decode cX11_reckon 103 = .ok (.lreturn, 1) := by decide +kernel
theorem dX11_reckon_104 : decode cX11_reckon 104 = .ok (.lload_n 1, 1) := by decide +kernel
theorem dX11_reckon_105 : decode cX11_reckon 105 = .ok (.lreturn, 1) := by decide +kernel
theorem dX11_reckon_106 : decode cX11_reckon 106 = .ok (.lload_n 3, 1) := by decide +kernel
theorem dX11_reckon_107 : decode cX11_reckon 107 = .ok (.lreturn, 1) := by decide +kernel
theorem dJ9_max_f86c9_0 : decode cJ9_max_f86c9 0 = .ok (.lload_n 0, 1) := by decide +kernel
theorem dJ9_max_f86c9_1 : decode cJ9_max_f86c9 1 = .ok (.lload_n 2, 1) := by decide +kernel
theorem dJ9_max_f86c9_2 : decode cJ9_max_f86c9 2 = .ok (.lcmp, 1) := by decide +kernel
theorem dJ9_max_f86c9_3 : decode cJ9_max_f86c9 3 = .ok (.ifCond .lt 7, 3) := by decide +kernel
theorem dJ9_max_f86c9_6 : decode cJ9_max_f86c9 6 = .ok (.lload_n 0, 1) := by decide +kernel
theorem dJ9_max_f86c9_7 : decode cJ9_max_f86c9 7 = .ok (.goto 4, 3) := by decide +kernel
theorem dJ9_max_f86c9_10 : decode cJ9_max_f86c9 10 = .ok (.lload_n 2, 1) := by decide +kernel
theorem dJ9_max_f86c9_11 : decode cJ9_max_f86c9 11 = .ok (.lreturn, 1) := by decide +kernel
abbrev wmJ9_max_f86c9 : List Cond := .code yJ9_max_f86c9 cJ9_max_f86c9 4 (some .long) :: WC
theorem hd_J9_max_f86c9 : yJ9_max_f86c9.cls ≠ "java/lang/invoke/MethodHandle" ∧ yJ9_max_f86c9.cls ≠ "java/lang/invoke/VarHandle" ∧ (parseMethodDescriptor yJ9_max_f86c9.desc).map (fun d => d.parameters.length) = some 2 := by decide +kernel
def P_J9_max_f86c9 (p0 : Int64) (p1 : Int64) (Q : Int64 → Prop) : Prop := (((lg_cmp p0 p1) < 0) → (Q p1)) ∧ ((¬ (lg_cmp p0 p1) < 0) → (Q p0))
set_option maxHeartbeats 4000000 in
set_option maxRecDepth 100000 in
theorem p_J9_max_f86c9 (l : Launch) (dC : Nat → ClassId) (dI : Nat → Nat → Nat) (p0 : Int64) (p1 : Int64) (Q : Int64 → Prop) (h : P_J9_max_f86c9 p0 p1 Q) (sz : Nat) : Met l yJ9_max_f86c9 wmJ9_max_f86c9 ({ frames := 4, cells := 0, slots := 0, locals := 60 }) (va_Pc [.long p0, .long p1] (fun U : State => U.heap.size = sz)) (va_Ql (S := Unit) (fun r _ => Q r) (fun _ _ => True) (va_A [] sz)) 0 0 (va_A [] sz) := by
  refine ofWF (cc := cJ9_max_f86c9) (maxL := 4) (ret := (some .long)) (by decide +kernel) rfl ?_
  intro p e s m args below meth c s₁ B hml hv
  obtain ⟨rfl, hsz⟩ := hv
  have hx := B.exec
  have hb := B.bytes
  have hr := B.returns
  have hts : ∀ w ∈ WC, w.before _ s = true := fun w h => atoms_spec (ws := wmJ9_max_f86c9) B.pre w (List.mem_cons_of_mem _ h)
  have hown : s.vm.findClass RJ9 = some m.cls := findClass_of_methodNamed B.named
  have hlocks := B.notSynchronized
  subst hsz
  have hP : va_P (dC, dI) vwCl [] s.heap := nd_P0
  have hD0 : va_D (fun _ => True) ([] : va_W) := nd_0
  have hD := hD0.self (sz := s.heap.size)
  generalize hAe : va_A [] s.heap.size = A at hD ⊢
  have hA : ∀ q : Nat, s.heap.size ≤ q → A q := fun q h => by rw [← hAe]; exact Or.inr h
  generalize hH : s.heap = H at hP ⊢
  have hS : va_S A s.heap H [] := by rw [← hH]; exact va_S.rf
  have hl := lv_entry [.long p0, .long p1] (n := 4) (Nat.le_of_ble_eq_true rfl)
  rw [lg_entry_eq]
  generalize (lg_sl [.long p0, .long p1] ++ List.replicate (4 - (lg_sl [.long p0, .long p1]).length) Slot.unset).toArray = ls at hl ⊢
  have hl : lv_has ls 4 [(0, .long p0), (2, .long p1)] := hl
  unfold P_J9_max_f86c9 at h
  refine lv_lload_n hx hb dJ9_max_f86c9_0 rfl (lv_at hl 0 rfl) ?_
  refine lv_lload_n hx hb dJ9_max_f86c9_1 rfl (lv_at hl 1 rfl) ?_
  refine W.lcmp hx hb dJ9_max_f86c9_2 ?_
  refine lv_if_lt (tgt := 10) hx hb dJ9_max_f86c9_3 (by decide) (fun c_3 => ?_) (fun c_3 => ?_)
  · have h := h.1 c_3
    refine lv_lload_n hx hb dJ9_max_f86c9_10 rfl (lv_at hl 1 rfl) ?_
    exact W.lret (v := p1) hx hb hr (fun t ht hW => ⟨⟨_, (), rfl, h, trivial⟩, hS.F ht⟩) hS.2.2 dJ9_max_f86c9_11
  · have h := h.2 c_3
    refine lv_lload_n hx hb dJ9_max_f86c9_6 rfl (lv_at hl 0 rfl) ?_
    refine lv_goto (tgt := 11) hx hb dJ9_max_f86c9_7 (by decide) ?_
    exact W.lret (v := p0) hx hb hr (fun t ht hW => ⟨⟨_, (), rfl, h, trivial⟩, hS.F ht⟩) hS.2.2 dJ9_max_f86c9_11

abbrev wmX11_dividesByNone : List Cond := .code yX11_dividesByNone cX11_dividesByNone 3 (some .boolean) :: WC
theorem hd_X11_dividesByNone : yX11_dividesByNone.cls ≠ "java/lang/invoke/MethodHandle" ∧ yX11_dividesByNone.cls ≠ "java/lang/invoke/VarHandle" ∧ (parseMethodDescriptor yX11_dividesByNone.desc).map (fun d => d.parameters.length) = some 2 := by decide +kernel
def P_X11_dividesByNone (p0 : Int32) (p1 : Int64) (Q : Int32 → Prop) : Prop := ((¬ (lg_cmp p1 0) = 0) → (Q 0)) ∧ (((lg_cmp p1 0) = 0) → (((p0 = 3) → (Q 1)) ∧ ((¬ p0 = 3) → (((¬ p0 = 4) → (Q 0)) ∧ ((p0 = 4) → (Q 1))))))
set_option maxHeartbeats 4000000 in
set_option maxRecDepth 100000 in
theorem p_X11_dividesByNone (l : Launch) (dC : Nat → ClassId) (dI : Nat → Nat → Nat) (p0 : Int32) (p1 : Int64) (Q : Int32 → Prop) (h : P_X11_dividesByNone p0 p1 Q) (sz : Nat) : Met l yX11_dividesByNone wmX11_dividesByNone ({ frames := 4, cells := 0, slots := 0, locals := 60 }) (va_Pc [.int p0, .long p1] (fun U : State => U.heap.size = sz)) (va_Qi (S := Unit) (fun r _ => Q r) (fun _ _ => True) (va_A [] sz)) 0 0 (va_A [] sz) := by
  refine Met.ofW (cc := cX11_dividesByNone) (maxL := 3) (ret := (some .boolean)) (by decide) rfl ?_
  intro p e s m args below meth c s₁ B hml hv
  obtain ⟨rfl, hsz⟩ := hv
  have hx := B.exec
  have hb := B.bytes
  have hr := B.returns
  have hts : ∀ w ∈ WC, w.before _ s = true := fun w h => atoms_spec (ws := wmX11_dividesByNone) B.pre w (List.mem_cons_of_mem _ h)
  have hown : s.vm.findClass RX11 = some m.cls := findClass_of_methodNamed B.named
  have hlocks := B.notSynchronized
  subst hsz
  have hP : va_P (dC, dI) vwCl [] s.heap := nd_P0
  have hD0 : va_D (fun _ => True) ([] : va_W) := nd_0
  have hD := hD0.self (sz := s.heap.size)
  generalize hAe : va_A [] s.heap.size = A at hD ⊢
  have hA : ∀ q : Nat, s.heap.size ≤ q → A q := fun q h => by rw [← hAe]; exact Or.inr h
  generalize hH : s.heap = H at hP ⊢
  have hS : va_S A s.heap H [] := by rw [← hH]; exact va_S.rf
  have hl := lv_entry [.int p0, .long p1] (n := 3) (Nat.le_of_ble_eq_true rfl)
  rw [lg_entry_eq]
  generalize (lg_sl [.int p0, .long p1] ++ List.replicate (3 - (lg_sl [.int p0, .long p1]).length) Slot.unset).toArray = ls at hl ⊢
  have hl : lv_has ls 3 [(0, .int p0), (1, .long p1)] := hl
  unfold P_X11_dividesByNone at h
  refine lv_lload_n hx hb dX11_dividesByNone_0 rfl (lv_at hl 1 rfl) ?_
  refine lv_lconst (v := 0) hx hb dX11_dividesByNone_1 (by decide) ?_
  refine W.lcmp hx hb dX11_dividesByNone_2 ?_
  refine lv_if_ne (tgt := 20) hx hb dX11_dividesByNone_3 (by decide) (fun c_3 => ?_) (fun c_3 => ?_)
  · have h := h.1 c_3
    refine lv_iconst (v := 0) hx hb dX11_dividesByNone_20 (by decide) ?_
    exact W.zret (v := 0) hx hb hr (by decide) (fun t ht hW => ⟨⟨_, (), rfl, h, trivial⟩, hS.F ht⟩) hS.2.2 dX11_dividesByNone_21
  · have h := h.2 c_3
    refine lv_iload_n hx hb dX11_dividesByNone_6 rfl (lv_at hl 0 rfl) ?_
    refine lv_iconst (v := 3) hx hb dX11_dividesByNone_7 (by decide) ?_
    refine lv_icmp_eq (tgt := 16) hx hb dX11_dividesByNone_8 (by decide) (fun c_8 => ?_) (fun c_8 => ?_)
    · have h := h.1 c_8
      refine lv_iconst (v := 1) hx hb dX11_dividesByNone_16 (by decide) ?_
      refine lv_goto (tgt := 21) hx hb dX11_dividesByNone_17 (by decide) ?_
      exact W.zret (v := 1) hx hb hr (by decide) (fun t ht hW => ⟨⟨_, (), rfl, h, trivial⟩, hS.F ht⟩) hS.2.2 dX11_dividesByNone_21
    · have h := h.2 c_8
      refine lv_iload_n hx hb dX11_dividesByNone_11 rfl (lv_at hl 0 rfl) ?_
      refine lv_iconst (v := 4) hx hb dX11_dividesByNone_12 (by decide) ?_
      refine lv_icmp_ne (tgt := 20) hx hb dX11_dividesByNone_13 (by decide) (fun c_13 => ?_) (fun c_13 => ?_)
      · have h := h.1 c_13
        refine lv_iconst (v := 0) hx hb dX11_dividesByNone_20 (by decide) ?_
        exact W.zret (v := 0) hx hb hr (by decide) (fun t ht hW => ⟨⟨_, (), rfl, h, trivial⟩, hS.F ht⟩) hS.2.2 dX11_dividesByNone_21
      · have h := h.2 c_13
        refine lv_iconst (v := 1) hx hb dX11_dividesByNone_16 (by decide) ?_
        refine lv_goto (tgt := 21) hx hb dX11_dividesByNone_17 (by decide) ?_
        exact W.zret (v := 1) hx hb hr (by decide) (fun t ht hW => ⟨⟨_, (), rfl, h, trivial⟩, hS.F ht⟩) hS.2.2 dX11_dividesByNone_21

abbrev wmX11_reckon : List Cond := .code yX11_reckon cX11_reckon 5 (some .long) :: WC
theorem hd_X11_reckon : yX11_reckon.cls ≠ "java/lang/invoke/MethodHandle" ∧ yX11_reckon.cls ≠ "java/lang/invoke/VarHandle" ∧ (parseMethodDescriptor yX11_reckon.desc).map (fun d => d.parameters.length) = some 3 := by decide +kernel
def P_X11_reckon (p0 : Int32) (p1 : Int64) (p2 : Int64) (Q : Int64 → Prop) : Prop := ((p0 = 0) → (Q (p1 + p2))) ∧ ((¬ p0 = 0) → ((p0 = 1) → (Q (p1 - p2))) ∧ ((¬ p0 = 1) → ((p0 = 2) → (Q (p1 * p2))) ∧ ((¬ p0 = 2) → ((p0 = 3) → (((¬ (lg_cmp p2 0) = 0) → (P_J9_floorDiv_f86c9 p1 p2 (fun r1 => Q r1))) ∧ (((lg_cmp p2 0) = 0) → (Q 0)))) ∧ ((¬ p0 = 3) → ((p0 = 4) → (((¬ (lg_cmp p2 0) = 0) → (P_J9_floorMod_f86c9 p1 p2 (fun r2 => Q r2))) ∧ (((lg_cmp p2 0) = 0) → (Q 0)))) ∧ ((¬ p0 = 4) → ((p0 = 5) → (P_J9_min_f86c9 p1 p2 (fun r3 => Q r3))) ∧ ((¬ p0 = 5) → ((p0 = 6) → (P_J9_max_f86c9 p1 p2 (fun r4 => Q r4))) ∧ ((¬ p0 = 6) → ((p0 = 7) → (Q p1)) ∧ ((¬ p0 = 7) → (Q p2)))))))))
set_option maxHeartbeats 4000000 in
set_option maxRecDepth 100000 in
theorem p_X11_reckon (l : Launch) (dC : Nat → ClassId) (dI : Nat → Nat → Nat) (p0 : Int32) (p1 : Int64) (p2 : Int64) (Q : Int64 → Prop) (h : P_X11_reckon p0 p1 p2 Q) (sz : Nat) : Met l yX11_reckon wmX11_reckon ({ frames := 8, cells := 0, slots := 0, locals := 120 }) (va_Pc [.int p0, .long p1, .long p2] (fun U : State => U.heap.size = sz)) (va_Ql (S := Unit) (fun r _ => Q r) (fun _ _ => True) (va_A [] sz)) 0 0 (va_A [] sz) := by
  refine Met.ofW (cc := cX11_reckon) (maxL := 5) (ret := (some .long)) (by decide) rfl ?_
  intro p e s m args below meth c s₁ B hml hv
  obtain ⟨rfl, hsz⟩ := hv
  have hx := B.exec
  have hb := B.bytes
  have hr := B.returns
  have hts : ∀ w ∈ WC, w.before _ s = true := fun w h => atoms_spec (ws := wmX11_reckon) B.pre w (List.mem_cons_of_mem _ h)
  have hown : s.vm.findClass RX11 = some m.cls := findClass_of_methodNamed B.named
  have hlocks := B.notSynchronized
  subst hsz
  have hP : va_P (dC, dI) vwCl [] s.heap := nd_P0
  have hD0 : va_D (fun _ => True) ([] : va_W) := nd_0
  have hD := hD0.self (sz := s.heap.size)
  generalize hAe : va_A [] s.heap.size = A at hD ⊢
  have hA : ∀ q : Nat, s.heap.size ≤ q → A q := fun q h => by rw [← hAe]; exact Or.inr h
  generalize hH : s.heap = H at hP ⊢
  have hS : va_S A s.heap H [] := by rw [← hH]; exact va_S.rf
  have hl := lv_entry [.int p0, .long p1, .long p2] (n := 5) (Nat.le_of_ble_eq_true rfl)
  rw [lg_entry_eq]
  generalize (lg_sl [.int p0, .long p1, .long p2] ++ List.replicate (5 - (lg_sl [.int p0, .long p1, .long p2]).length) Slot.unset).toArray = ls at hl ⊢
  have hl : lv_has ls 5 [(0, .int p0), (1, .long p1), (3, .long p2)] := hl
  unfold P_X11_reckon at h
  refine lv_iload_n hx hb dX11_reckon_0 rfl (lv_at hl 0 rfl) ?_
  by_cases hs_1_0 : p0 = 0
  · have h := h.1 hs_1_0
    refine lv_tableIn (tgt := 48) hx hb dX11_reckon_1 (by rw [hs_1_0]; decide) (by rw [hs_1_0]; decide) (off := 47) (by rw [hs_1_0]; decide) (by decide) ?_
    refine lv_lload_n hx hb dX11_reckon_48 rfl (lv_at hl 1 rfl) ?_
    refine lv_lload_n hx hb dX11_reckon_49 rfl (lv_at hl 2 rfl) ?_
    refine lv_ladd hx hb dX11_reckon_50 ?_
    exact W.lret (v := (p1 + p2)) hx hb hr (fun t ht hW => ⟨⟨_, (), rfl, h, trivial⟩, hS.F ht⟩) hS.2.2 dX11_reckon_51
  replace h := h.2 hs_1_0
  by_cases hs_1_1 : p0 = 1
  · have h := h.1 hs_1_1
    refine lv_tableIn (tgt := 52) hx hb dX11_reckon_1 (by rw [hs_1_1]; decide) (by rw [hs_1_1]; decide) (off := 51) (by rw [hs_1_1]; decide) (by decide) ?_
    refine lv_lload_n hx hb dX11_reckon_52 rfl (lv_at hl 1 rfl) ?_
    refine lv_lload_n hx hb dX11_reckon_53 rfl (lv_at hl 2 rfl) ?_
    refine lv_lsub hx hb dX11_reckon_54 ?_
    exact W.lret (v := (p1 - p2)) hx hb hr (fun t ht hW => ⟨⟨_, (), rfl, h, trivial⟩, hS.F ht⟩) hS.2.2 dX11_reckon_55
  replace h := h.2 hs_1_1
  by_cases hs_1_2 : p0 = 2
  · have h := h.1 hs_1_2
    refine lv_tableIn (tgt := 56) hx hb dX11_reckon_1 (by rw [hs_1_2]; decide) (by rw [hs_1_2]; decide) (off := 55) (by rw [hs_1_2]; decide) (by decide) ?_
    refine lv_lload_n hx hb dX11_reckon_56 rfl (lv_at hl 1 rfl) ?_
    refine lv_lload_n hx hb dX11_reckon_57 rfl (lv_at hl 2 rfl) ?_
    refine lv_lmul hx hb dX11_reckon_58 ?_
    exact W.lret (v := (p1 * p2)) hx hb hr (fun t ht hW => ⟨⟨_, (), rfl, h, trivial⟩, hS.F ht⟩) hS.2.2 dX11_reckon_59
  replace h := h.2 hs_1_2
  by_cases hs_1_3 : p0 = 3
  · have h := h.1 hs_1_3
    refine lv_tableIn (tgt := 60) hx hb dX11_reckon_1 (by rw [hs_1_3]; decide) (by rw [hs_1_3]; decide) (off := 59) (by rw [hs_1_3]; decide) (by decide) ?_
    refine lv_lload_n hx hb dX11_reckon_60 rfl (lv_at hl 2 rfl) ?_
    refine lv_lconst (v := 0) hx hb dX11_reckon_61 (by decide) ?_
    refine W.lcmp hx hb dX11_reckon_62 ?_
    refine lv_if_ne (tgt := 70) hx hb dX11_reckon_63 (by decide) (fun c_63 => ?_) (fun c_63 => ?_)
    · have h := h.1 c_63
      refine lv_lload_n hx hb dX11_reckon_70 rfl (lv_at hl 1 rfl) ?_
      refine lv_lload_n hx hb dX11_reckon_71 rfl (lv_at hl 2 rfl) ?_
      refine s_calll (rm := ({ frames := 4, cells := 0, slots := 0, locals := 60 })) (As := [.long p1, .long p2]) (rest := []) (fun sz => p_J9_floorDiv_f86c9 l dC dI p1 p2 _ h sz) ⟨hx, hb, hml, hown, hts⟩ (va_cwS 2 hts (g_S gdC mwC_1 mwC_2 mwC_3 mwC_0) rfl rfl rfl hd_J9_floorDiv_f86c9 ⟨Nat.le_of_ble_eq_true rfl, Nat.le_of_ble_eq_true rfl⟩) rfl hl.1 rfl hP hD hS hA (Nat.le_of_ble_eq_true rfl) ⟨Nat.le_of_ble_eq_true rfl, Nat.le_of_ble_eq_true rfl⟩ dX11_reckon_72 (fun r1 H locs h hP hS => ?_)
      exact W.lret (v := r1) hx hb hr (fun t ht hW => ⟨⟨_, (), rfl, h, trivial⟩, hS.F ht⟩) hS.2.2 dX11_reckon_75
    · have h := h.2 c_63
      refine lv_lconst (v := 0) hx hb dX11_reckon_66 (by decide) ?_
      refine lv_goto (tgt := 75) hx hb dX11_reckon_67 (by decide) ?_
      exact W.lret (v := 0) hx hb hr (fun t ht hW => ⟨⟨_, (), rfl, h, trivial⟩, hS.F ht⟩) hS.2.2 dX11_reckon_75
  replace h := h.2 hs_1_3
  by_cases hs_1_4 : p0 = 4
  · have h := h.1 hs_1_4
    refine lv_tableIn (tgt := 76) hx hb dX11_reckon_1 (by rw [hs_1_4]; decide) (by rw [hs_1_4]; decide) (off := 75) (by rw [hs_1_4]; decide) (by decide) ?_
    refine lv_lload_n hx hb dX11_reckon_76 rfl (lv_at hl 2 rfl) ?_
    refine lv_lconst (v := 0) hx hb dX11_reckon_77 (by decide) ?_
    refine W.lcmp hx hb dX11_reckon_78 ?_
    refine lv_if_ne (tgt := 86) hx hb dX11_reckon_79 (by decide) (fun c_79 => ?_) (fun c_79 => ?_)
    · have h := h.1 c_79
      refine lv_lload_n hx hb dX11_reckon_86 rfl (lv_at hl 1 rfl) ?_
      refine lv_lload_n hx hb dX11_reckon_87 rfl (lv_at hl 2 rfl) ?_
      refine s_calll (rm := ({ frames := 4, cells := 0, slots := 0, locals := 60 })) (As := [.long p1, .long p2]) (rest := []) (fun sz => p_J9_floorMod_f86c9 l dC dI p1 p2 _ h sz) ⟨hx, hb, hml, hown, hts⟩ (va_cwS 2 hts (g_S gdC mwC_5 mwC_6 mwC_3 mwC_4) rfl rfl rfl hd_J9_floorMod_f86c9 ⟨Nat.le_of_ble_eq_true rfl, Nat.le_of_ble_eq_true rfl⟩) rfl hl.1 rfl hP hD hS hA (Nat.le_of_ble_eq_true rfl) ⟨Nat.le_of_ble_eq_true rfl, Nat.le_of_ble_eq_true rfl⟩ dX11_reckon_88 (fun r2 H locs h hP hS => ?_)
      exact W.lret (v := r2) hx hb hr (fun t ht hW => ⟨⟨_, (), rfl, h, trivial⟩, hS.F ht⟩) hS.2.2 dX11_reckon_91
    · have h := h.2 c_79
      refine lv_lconst (v := 0) hx hb dX11_reckon_82 (by decide) ?_
      refine lv_goto (tgt := 91) hx hb dX11_reckon_83 (by decide) ?_
      exact W.lret (v := 0) hx hb hr (fun t ht hW => ⟨⟨_, (), rfl, h, trivial⟩, hS.F ht⟩) hS.2.2 dX11_reckon_91
  replace h := h.2 hs_1_4
  by_cases hs_1_5 : p0 = 5
  · have h := h.1 hs_1_5
    refine lv_tableIn (tgt := 92) hx hb dX11_reckon_1 (by rw [hs_1_5]; decide) (by rw [hs_1_5]; decide) (off := 91) (by rw [hs_1_5]; decide) (by decide) ?_
    refine lv_lload_n hx hb dX11_reckon_92 rfl (lv_at hl 1 rfl) ?_
    refine lv_lload_n hx hb dX11_reckon_93 rfl (lv_at hl 2 rfl) ?_
    refine s_calll (rm := ({ frames := 4, cells := 0, slots := 0, locals := 60 })) (As := [.long p1, .long p2]) (rest := []) (fun sz => p_J9_min_f86c9 l dC dI p1 p2 _ h sz) ⟨hx, hb, hml, hown, hts⟩ (va_cwS 2 hts (g_S gdC mwC_8 mwC_9 mwC_3 mwC_7) rfl rfl rfl hd_J9_min_f86c9 ⟨Nat.le_of_ble_eq_true rfl, Nat.le_of_ble_eq_true rfl⟩) rfl hl.1 rfl hP hD hS hA (Nat.le_of_ble_eq_true rfl) ⟨Nat.le_of_ble_eq_true rfl, Nat.le_of_ble_eq_true rfl⟩ dX11_reckon_94 (fun r3 H locs h hP hS => ?_)
    exact W.lret (v := r3) hx hb hr (fun t ht hW => ⟨⟨_, (), rfl, h, trivial⟩, hS.F ht⟩) hS.2.2 dX11_reckon_97
  replace h := h.2 hs_1_5
  by_cases hs_1_6 : p0 = 6
  · have h := h.1 hs_1_6
    refine lv_tableIn (tgt := 98) hx hb dX11_reckon_1 (by rw [hs_1_6]; decide) (by rw [hs_1_6]; decide) (off := 97) (by rw [hs_1_6]; decide) (by decide) ?_
    refine lv_lload_n hx hb dX11_reckon_98 rfl (lv_at hl 1 rfl) ?_
    refine lv_lload_n hx hb dX11_reckon_99 rfl (lv_at hl 2 rfl) ?_
    refine s_calll (rm := ({ frames := 4, cells := 0, slots := 0, locals := 60 })) (As := [.long p1, .long p2]) (rest := []) (fun sz => p_J9_max_f86c9 l dC dI p1 p2 _ h sz) ⟨hx, hb, hml, hown, hts⟩ (va_cwS 2 hts (g_S gdC mwC_11 mwC_12 mwC_3 mwC_10) rfl rfl rfl hd_J9_max_f86c9 ⟨Nat.le_of_ble_eq_true rfl, Nat.le_of_ble_eq_true rfl⟩) rfl hl.1 rfl hP hD hS hA (Nat.le_of_ble_eq_true rfl) ⟨Nat.le_of_ble_eq_true rfl, Nat.le_of_ble_eq_true rfl⟩ dX11_reckon_100 (fun r4 H locs h hP hS => ?_)
    exact W.lret (v := r4) hx hb hr (fun t ht hW => ⟨⟨_, (), rfl, h, trivial⟩, hS.F ht⟩) hS.2.2 dX11_reckon_103
  replace h := h.2 hs_1_6
  by_cases hs_1_7 : p0 = 7
  · have h := h.1 hs_1_7
    refine lv_tableIn (tgt := 104) hx hb dX11_reckon_1 (by rw [hs_1_7]; decide) (by rw [hs_1_7]; decide) (off := 103) (by rw [hs_1_7]; decide) (by decide) ?_
    refine lv_lload_n hx hb dX11_reckon_104 rfl (lv_at hl 1 rfl) ?_
    exact W.lret (v := p1) hx hb hr (fun t ht hW => ⟨⟨_, (), rfl, h, trivial⟩, hS.F ht⟩) hS.2.2 dX11_reckon_105
  replace h := h.2 hs_1_7
  refine lv_tableOut (tgt := 106) hx hb dX11_reckon_1 (by have n0 := lv_neT hs_1_0 (a := 0) (by decide); have n1 := lv_neT hs_1_1 (a := 1) (by decide); have n2 := lv_neT hs_1_2 (a := 2) (by decide); have n3 := lv_neT hs_1_3 (a := 3) (by decide); have n4 := lv_neT hs_1_4 (a := 4) (by decide); have n5 := lv_neT hs_1_5 (a := 5) (by decide); have n6 := lv_neT hs_1_6 (a := 6) (by decide); have n7 := lv_neT hs_1_7 (a := 7) (by decide); omega) (by decide) ?_
  refine lv_lload_n hx hb dX11_reckon_106 rfl (lv_at hl 2 rfl) ?_
  exact W.lret (v := p2) hx hb hr (fun t ht hW => ⟨⟨_, (), rfl, h, trivial⟩, hS.F ht⟩) hS.2.2 dX11_reckon_107
