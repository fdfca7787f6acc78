def tyX6 : Nat → FieldType := fun k => match k with
  | 0 => .int
  | _ => .int
theorem nmX6 : ∀ a, a < 2 → ∀ b, b < 2 → a ≠ b → (TX6 a).2.1 ≠ (TX6 b).2.1 := by decide +kernel
theorem tyX6_ok : ∀ k, k < 2 → parseFieldDescriptor (TX6 k).2.2.1 = some (tyX6 k) := by decide +kernel
theorem dX6_begin_0 : decode cX6_begin 0 = .ok (.aload_n 0, 1) := by decide +kernel
theorem dX6_begin_1 : decode cX6_begin 1 = .ok (.iload_n 1, 1) := by decide +kernel
theorem dX6_begin_2 : decode cX6_begin 2 = .ok (.putfield 7, 3) := by decide +kernel
theorem dX6_begin_5 : decode cX6_begin 5 = .ok (.aload_n 0, 1) := by decide +kernel
theorem dX6_begin_6 : decode cX6_begin 6 = .ok (.iconst 0, 1) := by decide +kernel
theorem dX6_begin_7 : decode cX6_begin 7 = .ok (.putfield 13, 3) := by decide +kernel
theorem dX6_begin_10 : decode cX6_begin 10 = .ok (.return_, 1) := by decide +kernel
theorem dX6_spend_0 : decode cX6_spend 0 = .ok (.aload_n 0, 1) := by decide +kernel
theorem dX6_spend_1 : decode cX6_spend 1 = .ok (.getfield 7, 3) := by decide +kernel
theorem dX6_spend_4 : decode cX6_spend 4 = .ok (.ifCond .gt 5, 3) := by decide +kernel
theorem dX6_spend_7 : decode cX6_spend 7 = .ok (.iconst 0, 1) := by decide +kernel
theorem dX6_spend_8 : decode cX6_spend 8 = .ok (.ireturn, 1) := by decide +kernel
theorem dX6_spend_9 : decode cX6_spend 9 = .ok (.aload_n 0, 1) := by decide +kernel
theorem dX6_spend_10 : decode cX6_spend 10 = .ok (.dup, 1) := by decide +kernel
theorem dX6_spend_11 : decode cX6_spend 11 = .ok (.getfield 7, 3) := by decide +kernel
theorem dX6_spend_14 : decode cX6_spend 14 = .ok (.iconst 1, 1) := by decide +kernel
theorem dX6_spend_15 : decode cX6_spend 15 = .ok (.isub, 1) := by decide +kernel
theorem dX6_spend_16 : decode cX6_spend 16 = .ok (.putfield 7, 3) := by decide +kernel
theorem dX6_spend_19 : decode cX6_spend 19 = .ok (.aload_n 0, 1) := by decide +kernel
theorem dX6_spend_20 : decode cX6_spend 20 = .ok (.dup, 1) := by decide +kernel
theorem dX6_spend_21 : decode cX6_spend 21 = .ok (.getfield 13, 3) := by decide +kernel
theorem dX6_spend_24 : decode cX6_spend 24 = .ok (.iconst 1, 1) := by decide +kernel
theorem dX6_spend_25 : decode cX6_spend 25 = .ok (.iadd, 1) := by decide +kernel
theorem dX6_spend_26 : decode cX6_spend 26 = .ok (.putfield 13, 3) := by decide +kernel
theorem dX6_spend_29 : decode cX6_spend 29 = .ok (.iconst 1, 1) := by decide +kernel
theorem dX6_spend_30 : decode cX6_spend 30 = .ok (.ireturn, 1) := by decide +kernel
theorem dX11_meets_0 : decode cX11_meets 0 = .ok (.iload_n 0, 1) := by decide +kernel
theorem dX11_meets_1 : decode cX11_meets 1 = .ok (.tableswitch 63 0 2 #[27, 39, 51], 27) := by decide +kernel
theorem dX11_meets_28 : decode cX11_meets 28 = .ok (.lload_n 1, 1) := by decide +kernel
theorem dX11_meets_29 : decode cX11_meets 29 = .ok (.lload_n 3, 1) := by decide +kernel
theorem dX11_meets_30 : decode cX11_meets 30 = .ok (.lcmp, 1) := by decide +kernel
theorem dX11_meets_31 : decode cX11_meets 31 = .ok (.ifCond .ge 7, 3) := by decide +kernel
theorem dX11_meets_34 : decode cX11_meets 34 = .ok (.iconst 1, 1) := by decide +kernel
theorem dX11_meets_35 : decode cX11_meets 35 = .ok (.goto 4, 3) := by decide +kernel
theorem dX11_meets_38 : decode cX11_meets 38 = .ok (.iconst 0, 1) := by decide +kernel
theorem dX11_meets_39 : decode cX11_meets 39 = .ok (.ireturn, 1) := by decide +kernel
theorem dX11_meets_40 : decode cX11_meets 40 = .ok (.lload_n 1, 1) := by decide +kernel
theorem dX11_meets_41 : decode cX11_meets 41 = .ok (.lload_n 3, 1) := by decide +kernel
theorem dX11_meets_42 : decode cX11_meets 42 = .ok (.lcmp, 1) := by decide +kernel
theorem dX11_meets_43 : decode cX11_meets 43 = .ok (.ifCond .ne 7, 3) := by decide +kernel
theorem dX11_meets_46 : decode cX11_meets 46 = .ok (.iconst 1, 1) := by decide +kernel
theorem dX11_meets_47 : decode cX11_meets 47 = .ok (.goto 4, 3) := by decide +kernel
theorem dX11_meets_50 : decode cX11_meets 50 = .ok (.iconst 0, 1) := by decide +kernel
theorem dX11_meets_51 : decode cX11_meets 51 = .ok (.ireturn, 1) := by decide +kernel
theorem dX11_meets_52 : decode cX11_meets 52 = .ok (.lload_n 1, 1) := by decide +kernel
theorem dX11_meets_53 : decode cX11_meets 53 = .ok (.lload_n 3, 1) := by decide +kernel
theorem dX11_meets_54 : decode cX11_meets 54 = .ok (.lcmp, 1) := by decide +kernel
theorem dX11_meets_55 : decode cX11_meets 55 = .ok (.ifCond .le 7, 3) := by decide +kernel
theorem dX11_meets_58 : decode cX11_meets 58 = .ok (.iconst 1, 1) := by decide +kernel
theorem dX11_meets_59 : decode cX11_meets 59 = .ok (.goto 4, 3) := by decide +kernel
theorem dX11_meets_62 : decode cX11_meets 62 = .ok (.iconst 0, 1) := by decide +kernel
theorem dX11_meets_63 : decode cX11_meets 63 = .ok (.ireturn, 1) := by decide +kernel
theorem dX11_meets_64 : decode cX11_meets 64 = .ok (.lload_n 3, 1) := by decide +kernel
theorem dX11_meets_65 : decode cX11_meets 65 = .ok (.lconst 0, 1) := by decide +kernel
theorem dX11_meets_66 : decode cX11_meets 66 = .ok (.lcmp, 1) := by decide +kernel
theorem dX11_meets_67 : decode cX11_meets 67 = .ok (.ifCond .ne 17, 3) := by decide +kernel
theorem dX11_meets_70 : decode cX11_meets 70 = .ok (.lload_n 1, 1) := by decide +kernel
theorem dX11_meets_71 : decode cX11_meets 71 = .ok (.lconst 0, 1) := by decide +kernel
theorem dX11_meets_72 : decode cX11_meets 72 = .ok (.lcmp, 1) := by decide +kernel
theorem dX11_meets_73 : decode cX11_meets 73 = .ok (.ifCond .ne 7, 3) := by decide +kernel
theorem dX11_meets_76 : decode cX11_meets 76 = .ok (.iconst 1, 1) := by decide +kernel
theorem dX11_meets_77 : decode cX11_meets 77 = .ok (.goto 20, 3) := by decide +kernel
theorem dX11_meets_80 : decode cX11_meets 80 = .ok (.iconst 0, 1) := by decide +kernel
theorem dX11_meets_81 : decode cX11_meets 81 = .ok (.goto 16, 3) := by decide +kernel
theorem dX11_meets_84 : decode cX11_meets 84 = .ok (.lload_n 1, 1) := by decide +kernel
theorem dX11_meets_85 : decode cX11_meets 85 = .ok (.lload_n 3, 1) := by decide +kernel
theorem dX11_meets_86 : decode cX11_meets 86 = .ok (.lrem, 1) := by decide +kernel
theorem dX11_meets_87 : decode cX11_meets 87 = .ok (.lconst 0, 1) := by decide +kernel
theorem dX11_meets_88 : decode cX11_meets 88 = .ok (.lcmp, 1) := by decide +kernel
theorem dX11_meets_89 : decode cX11_meets 89 = .ok (.ifCond .ne 7, 3) := by decide +kernel
theorem dX11_meets_92 : decode cX11_meets 92 = .ok (.iconst 1, 1) := by decide +kernel
theorem dX11_meets_93 : decode cX11_meets 93 = .ok (.goto 4, 3) := by decide +kernel
theorem dX11_meets_96 : decode cX11_meets 96 = .ok (.iconst 0, 1) := by decide +kernel
theorem dX11_meets_97 : decode cX11_meets 97 = .ok (.ireturn, 1) := by decide +kernel
abbrev wmX11_meets : List Cond := .code yX11_meets cX11_meets 5 (some .boolean) :: WC
theorem hd_X11_meets : yX11_meets.cls ≠ "java/lang/invoke/MethodHandle" ∧ yX11_meets.cls ≠ "java/lang/invoke/VarHandle" ∧ (parseMethodDescriptor yX11_meets.desc).map (fun d => d.parameters.length) = some 3 := by decide +kernel
def P_X11_meets (p0 : Int32) (p1 : Int64) (p2 : Int64) (Q : Int32 → Prop) : Prop := ((p0 = 0) → (((0 ≤ (lg_cmp p1 p2)) → (Q 0)) ∧ ((¬ 0 ≤ (lg_cmp p1 p2)) → (Q 1)))) ∧ ((¬ p0 = 0) → ((p0 = 1) → (((¬ (lg_cmp p1 p2) = 0) → (Q 0)) ∧ (((lg_cmp p1 p2) = 0) → (Q 1)))) ∧ ((¬ p0 = 1) → ((p0 = 2) → ((((lg_cmp p1 p2) ≤ 0) → (Q 0)) ∧ ((¬ (lg_cmp p1 p2) ≤ 0) → (Q 1)))) ∧ ((¬ p0 = 2) → (((¬ (lg_cmp p2 0) = 0) → (¬ p2 = 0 ∧ ((¬ (lg_cmp (p1 - p1 / p2 * p2) 0) = 0) → (Q 0)) ∧ (((lg_cmp (p1 - p1 / p2 * p2) 0) = 0) → (Q 1)))) ∧ (((lg_cmp p2 0) = 0) → (((¬ (lg_cmp p1 0) = 0) → (Q 0)) ∧ (((lg_cmp p1 0) = 0) → (Q 1))))))))
set_option maxHeartbeats 4000000 in
set_option maxRecDepth 100000 in
theorem p_X11_meets (l : Launch) (dC : Nat → ClassId) (dI : Nat → Nat → Nat) (p0 : Int32) (p1 : Int64) (p2 : Int64) (Q : Int32 → Prop) (h : P_X11_meets p0 p1 p2 Q) (sz : Nat) : Met l yX11_meets wmX11_meets ({ frames := 4, cells := 0, slots := 0, locals := 60 }) (va_Pc [.int p0, .long p1, .long p2] (fun U : State => U.heap.size = sz)) (va_Qi (S := Unit) (fun r _ => Q r) (fun _ _ => True) (va_A [] sz)) 0 0 (va_A [] sz) := by
  refine Met.ofW (cc := cX11_meets) (maxL := 5) (ret := (some .boolean)) (by decide) rfl ?_
  intro p e s m args below meth c s₁ B hml hv
  obtain ⟨rfl, hsz⟩ := hv
  have hx := B.exec
  have hb := B.bytes
  have hr := B.returns
  have hts : ∀ w ∈ WC, w.before _ s = true := fun w h => atoms_spec (ws := wmX11_meets) B.pre w (List.mem_cons_of_mem _ h)
  have hown : s.vm.findClass RX11 = some m.cls := findClass_of_methodNamed B.named
  have hlocks := B.notSynchronized
  subst hsz
  have hP : va_P (dC, dI) vwCl [] s.heap := nd_P0
  have hD0 : va_D (fun _ => True) ([] : va_W) := nd_0
  have hD := hD0.self (sz := s.heap.size)
  generalize hAe : va_A [] s.heap.size = A at hD ⊢
  have hA : ∀ q : Nat, s.heap.size ≤ q → A q := fun q h => by rw [← hAe]; exact Or.inr h
  generalize hH : s.heap = H at hP ⊢
  have hS : va_S A s.heap H [] := by rw [← hH]; exact va_S.rf
  have hl := lv_entry [.int p0, .long p1, .long p2] (n := 5) (Nat.le_of_ble_eq_true rfl)
  rw [lg_entry_eq]
  generalize (lg_sl [.int p0, .long p1, .long p2] ++ List.replicate (5 - (lg_sl [.int p0, .long p1, .long p2]).length) Slot.unset).toArray = ls at hl ⊢
  have hl : lv_has ls 5 [(0, .int p0), (1, .long p1), (3, .long p2)] := hl
  unfold P_X11_meets at h
  refine lv_iload_n hx hb dX11_meets_0 rfl (lv_at hl 0 rfl) ?_
  by_cases hs_1_0 : p0 = 0
  · have h := h.1 hs_1_0
    refine lv_tableIn (tgt := 28) hx hb dX11_meets_1 (by rw [hs_1_0]; decide) (by rw [hs_1_0]; decide) (off := 27) (by rw [hs_1_0]; decide) (by decide) ?_
    refine lv_lload_n hx hb dX11_meets_28 rfl (lv_at hl 1 rfl) ?_
    refine lv_lload_n hx hb dX11_meets_29 rfl (lv_at hl 2 rfl) ?_
    refine W.lcmp hx hb dX11_meets_30 ?_
    refine lv_if_ge (tgt := 38) hx hb dX11_meets_31 (by decide) (fun c_31 => ?_) (fun c_31 => ?_)
    · have h := h.1 c_31
      refine lv_iconst (v := 0) hx hb dX11_meets_38 (by decide) ?_
      exact W.zret (v := 0) hx hb hr (by decide) (fun t ht hW => ⟨⟨_, (), rfl, h, trivial⟩, hS.F ht⟩) hS.2.2 dX11_meets_39
    · have h := h.2 c_31
      refine lv_iconst (v := 1) hx hb dX11_meets_34 (by decide) ?_
      refine lv_goto (tgt := 39) hx hb dX11_meets_35 (by decide) ?_
      exact W.zret (v := 1) hx hb hr (by decide) (fun t ht hW => ⟨⟨_, (), rfl, h, trivial⟩, hS.F ht⟩) hS.2.2 dX11_meets_39
  replace h := h.2 hs_1_0
  by_cases hs_1_1 : p0 = 1
  · have h := h.1 hs_1_1
    refine lv_tableIn (tgt := 40) hx hb dX11_meets_1 (by rw [hs_1_1]; decide) (by rw [hs_1_1]; decide) (off := 39) (by rw [hs_1_1]; decide) (by decide) ?_
    refine lv_lload_n hx hb dX11_meets_40 rfl (lv_at hl 1 rfl) ?_
    refine lv_lload_n hx hb dX11_meets_41 rfl (lv_at hl 2 rfl) ?_
    refine W.lcmp hx hb dX11_meets_42 ?_
    refine lv_if_ne (tgt := 50) hx hb dX11_meets_43 (by decide) (fun c_43 => ?_) (fun c_43 => ?_)
    · have h := h.1 c_43
      refine lv_iconst (v := 0) hx hb dX11_meets_50 (by decide) ?_
      exact W.zret (v := 0) hx hb hr (by decide) (fun t ht hW => ⟨⟨_, (), rfl, h, trivial⟩, hS.F ht⟩) hS.2.2 dX11_meets_51
    · have h := h.2 c_43
      refine lv_iconst (v := 1) hx hb dX11_meets_46 (by decide) ?_
      refine lv_goto (tgt := 51) hx hb dX11_meets_47 (by decide) ?_
      exact W.zret (v := 1) hx hb hr (by decide) (fun t ht hW => ⟨⟨_, (), rfl, h, trivial⟩, hS.F ht⟩) hS.2.2 dX11_meets_51
  replace h := h.2 hs_1_1
  by_cases hs_1_2 : p0 = 2
  · have h := h.1 hs_1_2
    refine lv_tableIn (tgt := 52) hx hb dX11_meets_1 (by rw [hs_1_2]; decide) (by rw [hs_1_2]; decide) (off := 51) (by rw [hs_1_2]; decide) (by decide) ?_
    refine lv_lload_n hx hb dX11_meets_52 rfl (lv_at hl 1 rfl) ?_
    refine lv_lload_n hx hb dX11_meets_53 rfl (lv_at hl 2 rfl) ?_
    refine W.lcmp hx hb dX11_meets_54 ?_
    refine lv_if_le (tgt := 62) hx hb dX11_meets_55 (by decide) (fun c_55 => ?_) (fun c_55 => ?_)
    · have h := h.1 c_55
      refine lv_iconst (v := 0) hx hb dX11_meets_62 (by decide) ?_
      exact W.zret (v := 0) hx hb hr (by decide) (fun t ht hW => ⟨⟨_, (), rfl, h, trivial⟩, hS.F ht⟩) hS.2.2 dX11_meets_63
    · have h := h.2 c_55
      refine lv_iconst (v := 1) hx hb dX11_meets_58 (by decide) ?_
      refine lv_goto (tgt := 63) hx hb dX11_meets_59 (by decide) ?_
      exact W.zret (v := 1) hx hb hr (by decide) (fun t ht hW => ⟨⟨_, (), rfl, h, trivial⟩, hS.F ht⟩) hS.2.2 dX11_meets_63
  replace h := h.2 hs_1_2
  refine lv_tableOut (tgt := 64) hx hb dX11_meets_1 (by have n0 := lv_neT hs_1_0 (a := 0) (by decide); have n1 := lv_neT hs_1_1 (a := 1) (by decide); have n2 := lv_neT hs_1_2 (a := 2) (by decide); omega) (by decide) ?_
  refine lv_lload_n hx hb dX11_meets_64 rfl (lv_at hl 2 rfl) ?_
  refine lv_lconst (v := 0) hx hb dX11_meets_65 (by decide) ?_
  refine W.lcmp hx hb dX11_meets_66 ?_
  refine lv_if_ne (tgt := 84) hx hb dX11_meets_67 (by decide) (fun c_67 => ?_) (fun c_67 => ?_)
  · have h := h.1 c_67
    refine lv_lload_n hx hb dX11_meets_84 rfl (lv_at hl 1 rfl) ?_
    refine lv_lload_n hx hb dX11_meets_85 rfl (lv_at hl 2 rfl) ?_
    obtain ⟨hz1, h⟩ := h
    refine lv_lrem hx hb dX11_meets_86 hz1 ?_
    refine lv_lconst (v := 0) hx hb dX11_meets_87 (by decide) ?_
    refine W.lcmp hx hb dX11_meets_88 ?_
    refine lv_if_ne (tgt := 96) hx hb dX11_meets_89 (by decide) (fun c_89 => ?_) (fun c_89 => ?_)
    · have h := h.1 c_89
      refine lv_iconst (v := 0) hx hb dX11_meets_96 (by decide) ?_
      exact W.zret (v := 0) hx hb hr (by decide) (fun t ht hW => ⟨⟨_, (), rfl, h, trivial⟩, hS.F ht⟩) hS.2.2 dX11_meets_97
    · have h := h.2 c_89
      refine lv_iconst (v := 1) hx hb dX11_meets_92 (by decide) ?_
      refine lv_goto (tgt := 97) hx hb dX11_meets_93 (by decide) ?_
      exact W.zret (v := 1) hx hb hr (by decide) (fun t ht hW => ⟨⟨_, (), rfl, h, trivial⟩, hS.F ht⟩) hS.2.2 dX11_meets_97
  · have h := h.2 c_67
    refine lv_lload_n hx hb dX11_meets_70 rfl (lv_at hl 1 rfl) ?_
    refine lv_lconst (v := 0) hx hb dX11_meets_71 (by decide) ?_
    refine W.lcmp hx hb dX11_meets_72 ?_
    refine lv_if_ne (tgt := 80) hx hb dX11_meets_73 (by decide) (fun c_73 => ?_) (fun c_73 => ?_)
    · have h := h.1 c_73
      refine lv_iconst (v := 0) hx hb dX11_meets_80 (by decide) ?_
      refine lv_goto (tgt := 97) hx hb dX11_meets_81 (by decide) ?_
      exact W.zret (v := 0) hx hb hr (by decide) (fun t ht hW => ⟨⟨_, (), rfl, h, trivial⟩, hS.F ht⟩) hS.2.2 dX11_meets_97
    · have h := h.2 c_73
      refine lv_iconst (v := 1) hx hb dX11_meets_76 (by decide) ?_
      refine lv_goto (tgt := 97) hx hb dX11_meets_77 (by decide) ?_
      exact W.zret (v := 1) hx hb hr (by decide) (fun t ht hW => ⟨⟨_, (), rfl, h, trivial⟩, hS.F ht⟩) hS.2.2 dX11_meets_97

abbrev wmX6_begin : List Cond := .code yX6_begin cX6_begin 2 none :: WC
theorem hd_X6_begin : yX6_begin.cls = RX6 ∧ yX6_begin.cls ≠ "java/lang/invoke/MethodHandle" ∧ yX6_begin.cls ≠ "java/lang/invoke/VarHandle" ∧ (parseMethodDescriptor yX6_begin.desc).map (fun d => d.parameters.length) = some 1 := by decide +kernel
def P_X6_begin (sh : Sh) (ci : Nat → Nat → Int32) (ai : Nat → Nat → Int32) (al : Nat → Nat → Int64) (q : Nat) (p0 : Int32) (Q : (Nat → Nat → Int32) → (Nat → Nat → Int32) → (Nat → Nat → Int64) → Prop) : Prop := (q ∈ sL sh ∧ sK sh q = 5) ∧ Q (va_up (va_up ci q (va_up (ci q) 0 p0)) q (va_up ((va_up ci q (va_up (ci q) 0 p0)) q) 1 0)) ai al
set_option maxHeartbeats 4000000 in
set_option maxRecDepth 100000 in
theorem p_X6_begin (l : Launch) (dC : Nat → ClassId) (dI : Nat → Nat → Nat) (sh : Sh) (ci : Nat → Nat → Int32) (ai : Nat → Nat → Int32) (al : Nat → Nat → Int64) (q : Nat) (p0 : Int32) (Q : (Nat → Nat → Int32) → (Nat → Nat → Int32) → (Nat → Nat → Int64) → Prop) (h : P_X6_begin sh ci ai al q p0 Q) (sz : Nat) : Met l yX6_begin wmX6_begin ({ frames := 4, cells := 0, slots := 0, locals := 60 }) (va_Pc [.ref q, .int p0] (cPre dC dI sh ci ai al sz)) (va_Qv (S := CSt) (cV Q) (cB dC dI sh (va_A (cW sh ci ai al) sz)) (va_A (cW sh ci ai al) sz)) 0 0 (va_A (cW sh ci ai al) sz) := by
  refine Met.ofW (cc := cX6_begin) (maxL := 2) (ret := none) (by decide) rfl ?_
  intro p e s m args below meth c s₁ B hml hv
  obtain ⟨rfl, hsz, hP, hK, hD0, hG⟩ := hv
  have hx := B.exec
  have hb := B.bytes
  have hr := B.returns
  have hts : ∀ w ∈ WC, w.before _ s = true := fun w h => atoms_spec (ws := wmX6_begin) B.pre w (List.mem_cons_of_mem _ h)
  have hown : s.vm.findClass RX6 = some m.cls := findClass_of_methodNamed B.named
  have hlocks := B.notSynchronized
  subst hsz
  have hD := hD0.self (sz := s.heap.size)
  generalize hAe : va_A (cW sh ci ai al) s.heap.size = A at hD ⊢
  have hA : ∀ q : Nat, s.heap.size ≤ q → A q := fun q h => by rw [← hAe]; exact Or.inr h
  generalize hH : s.heap = H at hP ⊢
  have hS : va_S A s.heap H [] := by rw [← hH]; exact va_S.rf
  have hl := lv_entry [.ref q, .int p0] (n := 2) (Nat.le_of_ble_eq_true rfl)
  rw [lg_entry_eq]
  generalize (lg_sl [.ref q, .int p0] ++ List.replicate (2 - (lg_sl [.ref q, .int p0]).length) Slot.unset).toArray = ls at hl ⊢
  have hl : lv_has ls 2 [(0, .ref q), (1, .int p0)] := hl
  unfold P_X6_begin at h
  obtain ⟨⟨hq, hk⟩, h⟩ := h
  refine lv_aload_n hx hb dX6_begin_0 rfl (lv_at hl 0 rfl) ?_
  refine lv_iload_n hx hb dX6_begin_1 rfl (lv_at hl 1 rfl) ?_
  refine c_put (C := RX6) (T := TX6) (N := 2) (K := 5) hx hb hts hinX6 tyX6 tyX6_ok nmX6 hown hK hP hD hS hq hk (by decide) rfl 0 (by decide) (hts _ mwC_13) (fun _ h9 => h9) rfl (by decide +kernel) (Nat.le_of_ble_eq_true rfl) rfl dX6_begin_2 (fun H locs hP hD hS => ?_)
  refine lv_aload_n hx hb dX6_begin_5 rfl (lv_at hl 0 rfl) ?_
  refine lv_iconst (v := 0) hx hb dX6_begin_6 (by decide) ?_
  refine c_put (C := RX6) (T := TX6) (N := 2) (K := 5) hx hb hts hinX6 tyX6 tyX6_ok nmX6 hown hK hP hD hS hq hk (by decide) rfl 1 (by decide) (hts _ mwC_14) (fun _ h9 => h9) rfl (by decide +kernel) (Nat.le_of_ble_eq_true rfl) rfl dX6_begin_7 (fun H locs hP hD hS => ?_)
  exact W.vret hx hb hr (fun t ht hW => ⟨⟨(va_up (va_up ci q (va_up (ci q) 0 p0)) q (va_up ((va_up ci q (va_up (ci q) 0 p0)) q) 1 0), ai, al), rfl, h, by rw [ht]; exact hP, cK.moved hW.alike hK, hD⟩, hS.F ht⟩) hS.2.2 dX6_begin_10

abbrev wmX6_spend : List Cond := .code yX6_spend cX6_spend 1 (some .boolean) :: WC
theorem hd_X6_spend : yX6_spend.cls = RX6 ∧ yX6_spend.cls ≠ "java/lang/invoke/MethodHandle" ∧ yX6_spend.cls ≠ "java/lang/invoke/VarHandle" ∧ (parseMethodDescriptor yX6_spend.desc).map (fun d => d.parameters.length) = some 0 := by decide +kernel
def P_X6_spend (sh : Sh) (ci : Nat → Nat → Int32) (ai : Nat → Nat → Int32) (al : Nat → Nat → Int64) (q : Nat)  (Q : Int32 → (Nat → Nat → Int32) → (Nat → Nat → Int32) → (Nat → Nat → Int64) → Prop) : Prop := (q ∈ sL sh ∧ sK sh q = 5) ∧ ((0 < (ci q 0)) → (∀ z1 : Int32, z1 = ((va_up ci q (va_up (ci q) 0 ((ci q 0) - 1))) q 1) + 1 → Q 1 (va_up (va_up ci q (va_up (ci q) 0 ((ci q 0) - 1))) q (va_up ((va_up ci q (va_up (ci q) 0 ((ci q 0) - 1))) q) 1 z1)) ai al)) ∧ ((¬ 0 < (ci q 0)) → (Q 0 ci ai al))
set_option maxHeartbeats 4000000 in
set_option maxRecDepth 100000 in
theorem p_X6_spend (l : Launch) (dC : Nat → ClassId) (dI : Nat → Nat → Nat) (sh : Sh) (ci : Nat → Nat → Int32) (ai : Nat → Nat → Int32) (al : Nat → Nat → Int64) (q : Nat)  (Q : Int32 → (Nat → Nat → Int32) → (Nat → Nat → Int32) → (Nat → Nat → Int64) → Prop) (h : P_X6_spend sh ci ai al q  Q) (sz : Nat) : Met l yX6_spend wmX6_spend ({ frames := 4, cells := 0, slots := 0, locals := 60 }) (va_Pc [.ref q] (cPre dC dI sh ci ai al sz)) (va_Qi (S := CSt) (cI Q) (cB dC dI sh (va_A (cW sh ci ai al) sz)) (va_A (cW sh ci ai al) sz)) 0 0 (va_A (cW sh ci ai al) sz) := by
  refine Met.ofW (cc := cX6_spend) (maxL := 1) (ret := (some .boolean)) (by decide) rfl ?_
  intro p e s m args below meth c s₁ B hml hv
  obtain ⟨rfl, hsz, hP, hK, hD0, hG⟩ := hv
  have hx := B.exec
  have hb := B.bytes
  have hr := B.returns
  have hts : ∀ w ∈ WC, w.before _ s = true := fun w h => atoms_spec (ws := wmX6_spend) B.pre w (List.mem_cons_of_mem _ h)
  have hown : s.vm.findClass RX6 = some m.cls := findClass_of_methodNamed B.named
  have hlocks := B.notSynchronized
  subst hsz
  have hD := hD0.self (sz := s.heap.size)
  generalize hAe : va_A (cW sh ci ai al) s.heap.size = A at hD ⊢
  have hA : ∀ q : Nat, s.heap.size ≤ q → A q := fun q h => by rw [← hAe]; exact Or.inr h
  generalize hH : s.heap = H at hP ⊢
  have hS : va_S A s.heap H [] := by rw [← hH]; exact va_S.rf
  have hl := lv_entry [.ref q] (n := 1) (Nat.le_of_ble_eq_true rfl)
  rw [lg_entry_eq]
  generalize (lg_sl [.ref q] ++ List.replicate (1 - (lg_sl [.ref q]).length) Slot.unset).toArray = ls at hl ⊢
  have hl : lv_has ls 1 [(0, .ref q)] := hl
  unfold P_X6_spend at h
  obtain ⟨⟨hq, hk⟩, h⟩ := h
  refine lv_aload_n hx hb dX6_spend_0 rfl (lv_at hl 0 rfl) ?_
  refine c_get (C := RX6) (T := TX6) (N := 2) (K := 5) (v := .int (ci q 0)) hx hb hts hinX6 hown hK hP hq hk (by decide) rfl 0 (by decide) (hts _ mwC_13) (fun _ h9 => h9) rfl dX6_spend_1 ?_
  refine lv_if_gt (tgt := 9) hx hb dX6_spend_4 (by decide) (fun c_4 => ?_) (fun c_4 => ?_)
  · have h := h.1 c_4
    refine lv_aload_n hx hb dX6_spend_9 rfl (lv_at hl 0 rfl) ?_
    refine lv_dup hx hb dX6_spend_10 rfl ?_
    refine c_get (C := RX6) (T := TX6) (N := 2) (K := 5) (v := .int (ci q 0)) hx hb hts hinX6 hown hK hP hq hk (by decide) rfl 0 (by decide) (hts _ mwC_13) (fun _ h9 => h9) rfl dX6_spend_11 ?_
    refine lv_iconst (v := 1) hx hb dX6_spend_14 (by decide) ?_
    refine lv_isub hx hb dX6_spend_15 ?_
    refine c_put (C := RX6) (T := TX6) (N := 2) (K := 5) hx hb hts hinX6 tyX6 tyX6_ok nmX6 hown hK hP hD hS hq hk (by decide) rfl 0 (by decide) (hts _ mwC_13) (fun _ h9 => h9) rfl (by decide +kernel) (Nat.le_of_ble_eq_true rfl) rfl dX6_spend_16 (fun H locs hP hD hS => ?_)
    refine lv_aload_n hx hb dX6_spend_19 rfl (lv_at hl 0 rfl) ?_
    refine lv_dup hx hb dX6_spend_20 rfl ?_
    refine c_get (C := RX6) (T := TX6) (N := 2) (K := 5) (v := .int ((va_up ci q (va_up (ci q) 0 ((ci q 0) - 1))) q 1)) hx hb hts hinX6 hown hK hP hq hk (by decide) rfl 1 (by decide) (hts _ mwC_14) (fun _ h9 => h9) rfl dX6_spend_21 ?_
    refine lv_iconst (v := 1) hx hb dX6_spend_24 (by decide) ?_
    refine lv_iadd hx hb dX6_spend_25 ?_
    refine lv_topi (fun z1 ez1 => ?_)
    have h := h z1 ez1
    refine c_put (C := RX6) (T := TX6) (N := 2) (K := 5) hx hb hts hinX6 tyX6 tyX6_ok nmX6 hown hK hP hD hS hq hk (by decide) rfl 1 (by decide) (hts _ mwC_14) (fun _ h9 => h9) rfl (by decide +kernel) (Nat.le_of_ble_eq_true rfl) rfl dX6_spend_26 (fun H locs hP hD hS => ?_)
    refine lv_iconst (v := 1) hx hb dX6_spend_29 (by decide) ?_
    exact W.zret (v := 1) hx hb hr (by decide) (fun t ht hW => ⟨⟨_, (va_up (va_up ci q (va_up (ci q) 0 ((ci q 0) - 1))) q (va_up ((va_up ci q (va_up (ci q) 0 ((ci q 0) - 1))) q) 1 z1), ai, al), rfl, h, by rw [ht]; exact hP, cK.moved hW.alike hK, hD⟩, hS.F ht⟩) hS.2.2 dX6_spend_30
  · have h := h.2 c_4
    refine lv_iconst (v := 0) hx hb dX6_spend_7 (by decide) ?_
    exact W.zret (v := 0) hx hb hr (by decide) (fun t ht hW => ⟨⟨_, (ci, ai, al), rfl, h, by rw [ht]; exact hP, cK.moved hW.alike hK, hD⟩, hS.F ht⟩) hS.2.2 dX6_spend_8
