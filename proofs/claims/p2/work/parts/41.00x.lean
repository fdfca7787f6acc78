theorem dJ7_fill_031fb_0 : decode cJ7_fill_031fb 0 = .ok (.iconst 0, 1) := by decide +kernel
theorem dJ7_fill_031fb_1 : decode cJ7_fill_031fb 1 = .ok (.istore_n 2, 1) := by decide +kernel
theorem dJ7_fill_031fb_2 : decode cJ7_fill_031fb 2 = .ok (.aload_n 0, 1) := by decide +kernel
theorem dJ7_fill_031fb_3 : decode cJ7_fill_031fb 3 = .ok (.arraylength, 1) := by decide +kernel
theorem dJ7_fill_031fb_4 : decode cJ7_fill_031fb 4 = .ok (.istore_n 3, 1) := by decide +kernel
theorem dJ7_fill_031fb_5 : decode cJ7_fill_031fb 5 = .ok (.iload_n 2, 1) := by decide +kernel
theorem dJ7_fill_031fb_6 : decode cJ7_fill_031fb 6 = .ok (.iload_n 3, 1) := by decide +kernel
theorem dJ7_fill_031fb_7 : decode cJ7_fill_031fb 7 = .ok (.if_icmp .ge 13, 3) := by decide +kernel
theorem dJ7_fill_031fb_10 : decode cJ7_fill_031fb 10 = .ok (.aload_n 0, 1) := by decide +kernel
theorem dJ7_fill_031fb_11 : decode cJ7_fill_031fb 11 = .ok (.iload_n 2, 1) := by decide +kernel
theorem dJ7_fill_031fb_12 : decode cJ7_fill_031fb 12 = .ok (.iload_n 1, 1) := by decide +kernel
theorem dJ7_fill_031fb_13 : decode cJ7_fill_031fb 13 = .ok (.bastore, 1) := by decide +kernel
theorem dJ7_fill_031fb_14 : decode cJ7_fill_031fb 14 = .ok (.iinc 2 1, 3) := by decide +kernel
theorem dJ7_fill_031fb_17 : decode cJ7_fill_031fb 17 = .ok (.goto (-12), 3) := by decide +kernel
theorem dJ7_fill_031fb_20 : decode cJ7_fill_031fb 20 = .ok (.return_, 1) := by decide +kernel
theorem dJ7_copyOf_c38d5_0 : decode cJ7_copyOf_c38d5 0 = .ok (.iload_n 1, 1) := by decide +kernel
theorem dJ7_copyOf_c38d5_1 : decode cJ7_copyOf_c38d5 1 = .ok (.aload_n 0, 1) := by decide +kernel
theorem dJ7_copyOf_c38d5_2 : decode cJ7_copyOf_c38d5 2 = .ok (.arraylength, 1) := by decide +kernel
theorem dJ7_copyOf_c38d5_3 : decode cJ7_copyOf_c38d5 3 = .ok (.if_icmp .ne 11, 3) := by decide +kernel
theorem dJ7_copyOf_c38d5_6 : decode cJ7_copyOf_c38d5 6 = .ok (.aload_n 0, 1) := by decide +kernel
theorem dJ7_copyOf_c38d5_7 : decode cJ7_copyOf_c38d5 7 = .ok (.invokevirtual 319, 3) := by decide +kernel
theorem dJ7_copyOf_c38d5_10 : decode cJ7_copyOf_c38d5 10 = .ok (.checkcast 320, 3) := by decide +kernel
theorem dJ7_copyOf_c38d5_13 : decode cJ7_copyOf_c38d5 13 = .ok (.areturn, 1) := by decide +kernel
theorem dJ7_copyOf_c38d5_14 : decode cJ7_copyOf_c38d5 14 = .ok (.iload_n 1, 1) := by decide +kernel
theorem dJ7_copyOf_c38d5_15 : decode cJ7_copyOf_c38d5 15 = .ok (.newarray .long, 2) := by decide +kernel
theorem dJ7_copyOf_c38d5_17 : decode cJ7_copyOf_c38d5 17 = .ok (.astore_n 2, 1) := by decide +kernel
theorem dJ7_copyOf_c38d5_18 : decode cJ7_copyOf_c38d5 18 = .ok (.aload_n 0, 1) := by decide +kernel
theorem dJ7_copyOf_c38d5_19 : decode cJ7_copyOf_c38d5 19 = .ok (.iconst 0, 1) := by decide +kernel
theorem dJ7_copyOf_c38d5_20 : decode cJ7_copyOf_c38d5 20 = .ok (.aload_n 2, 1) := by decide +kernel
theorem dJ7_copyOf_c38d5_21 : decode cJ7_copyOf_c38d5 21 = .ok (.iconst 0, 1) := by decide +kernel
theorem dJ7_copyOf_c38d5_22 : decode cJ7_copyOf_c38d5 22 = .ok (.aload_n 0, 1) := by decide +kernel
theorem dJ7_copyOf_c38d5_23 : decode cJ7_copyOf_c38d5 23 = .ok (.arraylength, 1) := by decide +kernel
theorem dJ7_copyOf_c38d5_24 : decode cJ7_copyOf_c38d5 24 = .ok (.iload_n 1, 1) := by decide +kernel
theorem dJ7_copyOf_c38d5_25 : decode cJ7_copyOf_c38d5 25 = .ok (.invokestatic 304, 3) := by decide +kernel
theorem dJ7_copyOf_c38d5_28 : decode cJ7_copyOf_c38d5 28 = .ok (.invokestatic 150, 3) := by decide +kernel
theorem dJ7_copyOf_c38d5_31 : decode cJ7_copyOf_c38d5 31 = .ok (.aload_n 2, 1) := by decide +kernel
theorem dJ7_copyOf_c38d5_32 : decode cJ7_copyOf_c38d5 32 = .ok (.areturn, 1) := by decide +kernel
abbrev wmJ7_fill_031fb : List Cond := .code yJ7_fill_031fb cJ7_fill_031fb 4 none :: WC
theorem hd_J7_fill_031fb : yJ7_fill_031fb.cls ≠ "java/lang/invoke/MethodHandle" ∧ yJ7_fill_031fb.cls ≠ "java/lang/invoke/VarHandle" ∧ (parseMethodDescriptor yJ7_fill_031fb.desc).map (fun d => d.parameters.length) = some 2 := by decide +kernel
def B_J7_fill_031fb_5 (K5 : Sh → (Nat → Nat → Int32) → (Nat → Nat → Int32) → (Nat → Nat → Int64) → Nat → Int32 → Int32 → Int32 → Prop) (Q : Sh → (Nat → Nat → Int32) → (Nat → Nat → Int32) → (Nat → Nat → Int64) → Prop) (q : Nat) (sh : Sh) (ci : Nat → Nat → Int32) (ai : Nat → Nat → Int32) (al : Nat → Nat → Int64) (x0 : Nat) (x1 : Int32) (x2 : Int32) (x3 : Int32) : Prop := ((x3 ≤ x2) → (Q sh ci ai al)) ∧ ((¬ x3 ≤ x2) → ((x0 ∈ sL sh ∧ sK sh x0 = 21) ∧ vp_in x2 (sN sh x0) ∧ K5 sh ci (va_up ai x0 (upd (ai x0) x2.toNatClampNeg (vp_nar .byte x1))) al x0 x1 (x2 + 1) x3))
def P_J7_fill_031fb_5 (Q : Sh → (Nat → Nat → Int32) → (Nat → Nat → Int32) → (Nat → Nat → Int64) → Prop) (q : Nat) : Nat → Sh → (Nat → Nat → Int32) → (Nat → Nat → Int32) → (Nat → Nat → Int64) → Nat → Int32 → Int32 → Int32 → Prop
  | 0 => fun _ _ _ _ _ _ _ _ => False
  | n + 1 => B_J7_fill_031fb_5 (P_J7_fill_031fb_5 Q q n) Q q
set_option maxHeartbeats 4000000 in
set_option maxRecDepth 100000 in
theorem b_J7_fill_031fb_5 {p : Program} {l : Launch} {e : Env} {s : State} {m : MethodId} {args : Array Value} {below : List Frame} {meth : Method} {c : Code} {A : Nat → Prop} {dC : Nat → ClassId} {dI : Nat → Nat → Nat} {q : Nat} {K5 : Sh → (Nat → Nat → Int32) → (Nat → Nat → Int32) → (Nat → Nat → Int64) → Nat → Int32 → Int32 → Int32 → Prop} {Q : Sh → (Nat → Nat → Int32) → (Nat → Nat → Int32) → (Nat → Nat → Int64) → Prop} (hx : p.tables.exec = Jvm.exec) (hb : c.code = cJ7_fill_031fb) (hr : meth.sig.returnType = none) (hts : ∀ w ∈ WC, w.before args s = true) (hown : s.vm.findClass RJ7 = some m.cls) (hlocks : meth.locks = false) (hml : c.maxLocals = 4) (hA : ∀ q : Nat, s.heap.size ≤ q → A q) (hG : Gc s) (hK5 : ∀ (sh : Sh) (ci : Nat → Nat → Int32) (ai : Nat → Nat → Int32) (al : Nat → Nat → Int64) (x0 : Nat) (x1 : Int32) (x2 : Int32) (x3 : Int32) (H : Heap) (locs : List Loc) (ls : Array Slot), K5 sh ci ai al x0 x1 x2 x3 → cK dC dI sh s → va_P (dC, dI) vwCl (cW sh ci ai al) H → va_D A (cW sh ci ai al) → va_S A s.heap H locs → lv_has ls 4 [(0, .ref x0), (1, .int x1), (2, .int x2), (3, .int x3)] → W p l e (headSpec wmJ7_fill_031fb ({ frames := 8, cells := 0, slots := 0, locals := 120 })).room s m args below meth c H locs 0 0 (MQ below (va_Qv (S := XSt) (xV Q) (xB dC dI A) A) args s 0 0 A) (F0 m 5 ls [])) : ∀ (sh : Sh) (ci : Nat → Nat → Int32) (ai : Nat → Nat → Int32) (al : Nat → Nat → Int64) (x0 : Nat) (x1 : Int32) (x2 : Int32) (x3 : Int32) (H : Heap) (locs : List Loc) (ls : Array Slot), B_J7_fill_031fb_5 K5 Q q sh ci ai al x0 x1 x2 x3 → cK dC dI sh s → va_P (dC, dI) vwCl (cW sh ci ai al) H → va_D A (cW sh ci ai al) → va_S A s.heap H locs → lv_has ls 4 [(0, .ref x0), (1, .int x1), (2, .int x2), (3, .int x3)] → W p l e (headSpec wmJ7_fill_031fb ({ frames := 8, cells := 0, slots := 0, locals := 120 })).room s m args below meth c H locs 0 0 (MQ below (va_Qv (S := XSt) (xV Q) (xB dC dI A) A) args s 0 0 A) (F0 m 5 ls []) := by
  intro sh ci ai al x0 x1 x2 x3 H locs ls h hK hP hD hS hl
  unfold B_J7_fill_031fb_5 at h
  refine lv_iload_n hx hb dJ7_fill_031fb_5 rfl (lv_at hl 2 rfl) ?_
  refine lv_iload_n hx hb dJ7_fill_031fb_6 rfl (lv_at hl 3 rfl) ?_
  refine lv_icmp_ge (tgt := 20) hx hb dJ7_fill_031fb_7 (by decide) (fun c_7 => ?_) (fun c_7 => ?_)
  · have h := h.1 c_7
    refine W.widen (k := 0) (n := 0) (by decide) (by decide) ?_
    exact W.vret hx hb hr (fun t ht hW => ⟨⟨(sh, ci, ai, al), rfl, h, by rw [ht]; exact hP, cK.moved hW.alike hK, hD⟩, hS.F ht⟩) hS.2.2 dJ7_fill_031fb_20
  · have h := h.2 c_7
    refine lv_aload_n hx hb dJ7_fill_031fb_10 rfl (lv_at hl 0 rfl) ?_
    refine lv_iload_n hx hb dJ7_fill_031fb_11 rfl (lv_at hl 2 rfl) ?_
    refine lv_iload_n hx hb dJ7_fill_031fb_12 rfl (lv_at hl 1 rfl) ?_
    obtain ⟨⟨hm1, hk2⟩, h⟩ := h
    obtain ⟨hi3, h⟩ := h
    refine c_bast hx hb hK hP hD hS hm1 hk2 hi3 dJ7_fill_031fb_13 (fun H locs hP hD hS => ?_)
    refine lv_iinc (v := x2 + 1) (lv' := [(2, .int (x2 + 1)), (0, .ref x0), (1, .int x1), (3, .int x3)]) hx hb dJ7_fill_031fb_14 hl (k := 2) rfl (iinc_1 _) (by decide) rfl (fun ls hl => ?_)
    refine lv_goto (tgt := 5) hx hb dJ7_fill_031fb_17 (by decide) ?_
    exact hK5 _ _ _ _ _ _ _ _ H _ ls h hK hP hD hS (lv_sub hl [1, 2, 0, 3] rfl)
set_option maxHeartbeats 4000000 in
set_option maxRecDepth 100000 in
theorem t_J7_fill_031fb_5 {p : Program} {l : Launch} {e : Env} {s : State} {m : MethodId} {args : Array Value} {below : List Frame} {meth : Method} {c : Code} {A : Nat → Prop} {dC : Nat → ClassId} {dI : Nat → Nat → Nat} {q : Nat} {Q : Sh → (Nat → Nat → Int32) → (Nat → Nat → Int32) → (Nat → Nat → Int64) → Prop} (hx : p.tables.exec = Jvm.exec) (hb : c.code = cJ7_fill_031fb) (hr : meth.sig.returnType = none) (hts : ∀ w ∈ WC, w.before args s = true) (hown : s.vm.findClass RJ7 = some m.cls) (hlocks : meth.locks = false) (hml : c.maxLocals = 4) (hA : ∀ q : Nat, s.heap.size ≤ q → A q) (hG : Gc s) : ∀ n : Nat, ∀ (sh : Sh) (ci : Nat → Nat → Int32) (ai : Nat → Nat → Int32) (al : Nat → Nat → Int64) (x0 : Nat) (x1 : Int32) (x2 : Int32) (x3 : Int32) (H : Heap) (locs : List Loc) (ls : Array Slot), P_J7_fill_031fb_5 Q q n sh ci ai al x0 x1 x2 x3 → cK dC dI sh s → va_P (dC, dI) vwCl (cW sh ci ai al) H → va_D A (cW sh ci ai al) → va_S A s.heap H locs → lv_has ls 4 [(0, .ref x0), (1, .int x1), (2, .int x2), (3, .int x3)] → W p l e (headSpec wmJ7_fill_031fb ({ frames := 8, cells := 0, slots := 0, locals := 120 })).room s m args below meth c H locs 0 0 (MQ below (va_Qv (S := XSt) (xV Q) (xB dC dI A) A) args s 0 0 A) (F0 m 5 ls []) := by
  intro n
  induction n with
  | zero => intro sh ci ai al x0 x1 x2 x3 H locs ls h; exact h.elim
  | succ n ih => exact b_J7_fill_031fb_5 hx hb hr hts hown hlocks hml hA hG ih
def P_J7_fill_031fb (sh : Sh) (ci : Nat → Nat → Int32) (ai : Nat → Nat → Int32) (al : Nat → Nat → Int64) (p0 : Nat) (p1 : Int32) (Q : Sh → (Nat → Nat → Int32) → (Nat → Nat → Int32) → (Nat → Nat → Int64) → Prop) : Prop := (p0 ∈ sL sh ∧ sK sh p0 = 21) ∧ ∃ n9 : Nat, P_J7_fill_031fb_5 Q 0 n9 sh ci ai al p0 p1 (0 : Int32) (nI (sN sh p0))
set_option maxHeartbeats 4000000 in
set_option maxRecDepth 100000 in
theorem p_J7_fill_031fb (l : Launch) (dC : Nat → ClassId) (dI : Nat → Nat → Nat) (sh : Sh) (ci : Nat → Nat → Int32) (ai : Nat → Nat → Int32) (al : Nat → Nat → Int64) (p0 : Nat) (p1 : Int32) (Q : Sh → (Nat → Nat → Int32) → (Nat → Nat → Int32) → (Nat → Nat → Int64) → Prop) (h : P_J7_fill_031fb sh ci ai al p0 p1 Q) (sz : Nat) : Met l yJ7_fill_031fb wmJ7_fill_031fb ({ frames := 8, cells := 0, slots := 0, locals := 120 }) (va_Pc [.ref p0, .int p1] (cPre dC dI sh ci ai al sz)) (va_Qv (S := XSt) (xV Q) (xB dC dI (va_A (cW sh ci ai al) sz)) (va_A (cW sh ci ai al) sz)) 0 0 (va_A (cW sh ci ai al) sz) := by
  refine Met.ofW (cc := cJ7_fill_031fb) (maxL := 4) (ret := none) (by decide) rfl ?_
  intro p e s m args below meth c s₁ B hml hv
  obtain ⟨rfl, hsz, hP, hK, hD0, hG⟩ := hv
  have hx := B.exec
  have hb := B.bytes
  have hr := B.returns
  have hts : ∀ w ∈ WC, w.before _ s = true := fun w h => atoms_spec (ws := wmJ7_fill_031fb) B.pre w (List.mem_cons_of_mem _ h)
  have hown : s.vm.findClass RJ7 = some m.cls := findClass_of_methodNamed B.named
  have hlocks := B.notSynchronized
  subst hsz
  have hD := hD0.self (sz := s.heap.size)
  generalize hAe : va_A (cW sh ci ai al) s.heap.size = A at hD ⊢
  have hA : ∀ q : Nat, s.heap.size ≤ q → A q := fun q h => by rw [← hAe]; exact Or.inr h
  generalize hH : s.heap = H at hP ⊢
  have hS : va_S A s.heap H [] := by rw [← hH]; exact va_S.rf
  have hl := lv_entry [.ref p0, .int p1] (n := 4) (Nat.le_of_ble_eq_true rfl)
  rw [lg_entry_eq]
  generalize (lg_sl [.ref p0, .int p1] ++ List.replicate (4 - (lg_sl [.ref p0, .int p1]).length) Slot.unset).toArray = ls at hl ⊢
  have hl : lv_has ls 4 [(0, .ref p0), (1, .int p1)] := hl
  unfold P_J7_fill_031fb at h
  refine lv_iconst (v := 0) hx hb dJ7_fill_031fb_0 (by decide) ?_
  refine lv_istore_n (lv' := [(2, .int 0), (0, .ref p0), (1, .int p1)]) hx hb dJ7_fill_031fb_1 rfl hl (by decide) rfl (fun ls hl => ?_)
  refine lv_aload_n hx hb dJ7_fill_031fb_2 rfl (lv_at hl 1 rfl) ?_
  obtain ⟨⟨hm1, hk2⟩, h⟩ := h
  refine c_alen hx hb hK hP hm1 (Or.inr (Or.inl hk2)) dJ7_fill_031fb_3 ?_
  refine lv_istore_n (lv' := [(3, .int (nI (sN sh p0))), (2, .int 0), (0, .ref p0), (1, .int p1)]) hx hb dJ7_fill_031fb_4 rfl hl (by decide) rfl (fun ls hl => ?_)
  obtain ⟨n9, h⟩ := h
  exact t_J7_fill_031fb_5 hx hb hr hts hown hlocks hml hA hG n9 _ _ _ _ _ _ _ _ H _ ls h hK hP hD hS (lv_sub hl [2, 3, 1, 0] rfl)
abbrev wmJ7_copyOf_c38d5 : List Cond := .code yJ7_copyOf_c38d5 cJ7_copyOf_c38d5 3 (some (.array .long)) :: WC
theorem hd_J7_copyOf_c38d5 : yJ7_copyOf_c38d5.cls ≠ "java/lang/invoke/MethodHandle" ∧ yJ7_copyOf_c38d5.cls ≠ "java/lang/invoke/VarHandle" ∧ (parseMethodDescriptor yJ7_copyOf_c38d5.desc).map (fun d => d.parameters.length) = some 2 := by decide +kernel
def P_J7_copyOf_c38d5 (sh : Sh) (ci : Nat → Nat → Int32) (ai : Nat → Nat → Int32) (al : Nat → Nat → Int64) (p0 : Nat) (p1 : Int32) (Q : Nat → Sh → (Nat → Nat → Int32) → (Nat → Nat → Int32) → (Nat → Nat → Int64) → Prop) : Prop := (p0 ∈ sL sh ∧ sK sh p0 = 22) ∧ ((¬ p1 = (nI (sN sh p0))) → (¬ p1 < 0 ∧ p1.toNatClampNeg ≤ 400 ∧ ∀ (q3 : Nat) (cA3 : ClassId) (sh4 : Sh), q3 ∉ sL sh → sh4 = shN sh q3 22 p1.toNatClampNeg cA3 → (p0 ∈ sL sh4 ∧ sK sh4 p0 = 22) ∧ P_J9_min_7cf53 (nI (sN sh4 p0)) p1 (fun r11 => (q3 ∈ sL sh4 ∧ sK sh4 q3 = 22) ∧ ¬ r11 < 0 ∧ (0 : Int32).toNatClampNeg + r11.toNatClampNeg ≤ sN sh4 p0 ∧ (0 : Int32).toNatClampNeg + r11.toNatClampNeg ≤ sN sh4 q3 ∧ Q q3 sh4 ci ai (va_up (va_up al q3 (fun _ => 0)) q3 (va_cpy ((va_up al q3 (fun _ => 0)) p0) ((va_up al q3 (fun _ => 0)) q3) (0 : Int32).toNatClampNeg (0 : Int32).toNatClampNeg r11.toNatClampNeg))))) ∧ ((p1 = (nI (sN sh p0))) → (sN sh p0 ≤ 400 ∧ ∀ (q18 : Nat) (sh19 : Sh), q18 ∉ sL sh → sh19 = shN sh q18 22 (sN sh p0) (sA sh p0) → (q18 ∈ sL sh19 ∧ sK sh19 q18 = 22) ∧ Q q18 sh19 ci ai (va_up al q18 (al p0))))
set_option maxHeartbeats 4000000 in
set_option maxRecDepth 100000 in
theorem p_J7_copyOf_c38d5 (l : Launch) (dC : Nat → ClassId) (dI : Nat → Nat → Nat) (sh : Sh) (ci : Nat → Nat → Int32) (ai : Nat → Nat → Int32) (al : Nat → Nat → Int64) (p0 : Nat) (p1 : Int32) (Q : Nat → Sh → (Nat → Nat → Int32) → (Nat → Nat → Int32) → (Nat → Nat → Int64) → Prop) (h : P_J7_copyOf_c38d5 sh ci ai al p0 p1 Q) (sz : Nat) : Met l yJ7_copyOf_c38d5 wmJ7_copyOf_c38d5 ({ frames := 20, cells := 1, slots := 400, locals := 300 }) (va_Pc [.ref p0, .int p1] (cPre dC dI sh ci ai al sz)) (va_Qr (S := XSt) (fun _ => True) (fun u a t => xA Q u a ∧ xB dC dI (va_A (cW sh ci ai al) sz) u t) (va_A (cW sh ci ai al) sz)) 1 400 (va_A (cW sh ci ai al) sz) := by
  refine Met.ofW (cc := cJ7_copyOf_c38d5) (maxL := 3) (ret := (some (.array .long))) (by decide) rfl ?_
  intro p e s m args below meth c s₁ B hml hv
  obtain ⟨rfl, hsz, hP, hK, hD0, hG⟩ := hv
  have hx := B.exec
  have hb := B.bytes
  have hr := B.returns
  have hts : ∀ w ∈ WC, w.before _ s = true := fun w h => atoms_spec (ws := wmJ7_copyOf_c38d5) B.pre w (List.mem_cons_of_mem _ h)
  have hown : s.vm.findClass RJ7 = some m.cls := findClass_of_methodNamed B.named
  have hlocks := B.notSynchronized
  subst hsz
  have hD := hD0.self (sz := s.heap.size)
  generalize hAe : va_A (cW sh ci ai al) s.heap.size = A at hD ⊢
  have hA : ∀ q : Nat, s.heap.size ≤ q → A q := fun q h => by rw [← hAe]; exact Or.inr h
  generalize hH : s.heap = H at hP ⊢
  have hS : va_S A s.heap H [] := by rw [← hH]; exact va_S.rf
  have hl := lv_entry [.ref p0, .int p1] (n := 3) (Nat.le_of_ble_eq_true rfl)
  rw [lg_entry_eq]
  generalize (lg_sl [.ref p0, .int p1] ++ List.replicate (3 - (lg_sl [.ref p0, .int p1]).length) Slot.unset).toArray = ls at hl ⊢
  have hl : lv_has ls 3 [(0, .ref p0), (1, .int p1)] := hl
  unfold P_J7_copyOf_c38d5 at h
  refine lv_iload_n hx hb dJ7_copyOf_c38d5_0 rfl (lv_at hl 1 rfl) ?_
  refine lv_aload_n hx hb dJ7_copyOf_c38d5_1 rfl (lv_at hl 0 rfl) ?_
  obtain ⟨⟨hm1, hk2⟩, h⟩ := h
  refine c_alen hx hb hK hP hm1 (Or.inr (Or.inr (Or.inl hk2))) dJ7_copyOf_c38d5_2 ?_
  refine lv_icmp_ne (tgt := 14) hx hb dJ7_copyOf_c38d5_3 (by decide) (fun c_3 => ?_) (fun c_3 => ?_)
  · have h := h.1 c_3
    refine lv_iload_n hx hb dJ7_copyOf_c38d5_14 rfl (lv_at hl 1 rfl) ?_
    obtain ⟨h07, h48, h⟩ := h
    refine x_newl (n := p1) hx hb (hts _ mwC_332) hK hP hD hS hA h07 h48 (Nat.le_of_ble_eq_true rfl) (Nat.le_of_ble_eq_true rfl) dJ7_copyOf_c38d5_15 (fun q3 cA3 sh4 H hn6 es5 hK hP hD hS => ?_)
    have h := h q3 cA3 sh4 hn6 es5
    refine lv_astore_n (lv' := [(2, .ref q3), (0, .ref p0), (1, .int p1)]) hx hb dJ7_copyOf_c38d5_17 rfl hl (by decide) rfl (fun ls hl => ?_)
    refine lv_aload_n hx hb dJ7_copyOf_c38d5_18 rfl (lv_at hl 1 rfl) ?_
    refine lv_iconst (v := 0) hx hb dJ7_copyOf_c38d5_19 (by decide) ?_
    refine lv_aload_n hx hb dJ7_copyOf_c38d5_20 rfl (lv_at hl 0 rfl) ?_
    refine lv_iconst (v := 0) hx hb dJ7_copyOf_c38d5_21 (by decide) ?_
    refine lv_aload_n hx hb dJ7_copyOf_c38d5_22 rfl (lv_at hl 1 rfl) ?_
    obtain ⟨⟨hm9, hk10⟩, h⟩ := h
    refine c_alen hx hb hK hP hm9 (Or.inr (Or.inr (Or.inl hk10))) dJ7_copyOf_c38d5_23 ?_
    refine lv_iload_n hx hb dJ7_copyOf_c38d5_24 rfl (lv_at hl 2 rfl) ?_
    refine r_endi (va_runS (rm := ({ frames := 4, cells := 0, slots := 0, locals := 60 })) (As := [.int (nI (sN sh4 p0)), .int p1]) (rest := [.int 0, .ref q3, .int 0, .ref p0]) ⟨hx, hb, hml, hown, hts⟩ (p_J9_min_7cf53 l dC dI (nI (sN sh4 p0)) p1 _ h H.size) (va_cwS 2 hts (g_S gdC mwC_333 mwC_323 mwC_3 mwC_321) rfl rfl rfl hd_J9_min_7cf53 ⟨Nat.le_of_ble_eq_true rfl, Nat.le_of_ble_eq_true rfl⟩) ⟨s_blind, fun U hU hW => ⟨rfl, congrArg Array.size hU⟩⟩ rfl rfl hl.1 rfl (lv_room (Nat.le_of_ble_eq_true rfl)) dJ7_copyOf_c38d5_25 ⟨Nat.le_of_ble_eq_true rfl, Nat.le_of_ble_eq_true rfl⟩) hP hS hA (fun r11 H locs h hP hS => ?_)
    obtain ⟨⟨hm12, hk13⟩, h⟩ := h
    obtain ⟨h314, h415, h516, h⟩ := h
    refine x_copyl (q := p0) (q1 := q3) hx hb (hml.trans hl.1.symm) hown (hts _ mwC_334) (hts _ mwC_335) (hts _ mwC_336) (hts _ mwC_337) hK hP hD hS hm9 hk10 hm12 hk13 (by decide) (by decide) h314 h415 h516 (Nat.le_of_ble_eq_true rfl) (Nat.le_of_ble_eq_true rfl) dJ7_copyOf_c38d5_28 (fun H locs hP hD hS => ?_)
    refine lv_aload_n hx hb dJ7_copyOf_c38d5_31 rfl (lv_at hl 0 rfl) ?_
    refine W.widen (k := 1) (n := 400) (by decide) (by decide) ?_
    exact W.aret hx hb hr (Or.inr ⟨_, rfl⟩) (Or.inr ⟨_, rfl⟩) (fun t ht hW => ⟨⟨(sh4, ci, ai, va_up (va_up al q3 (fun _ => 0)) q3 (va_cpy ((va_up al q3 (fun _ => 0)) p0) ((va_up al q3 (fun _ => 0)) q3) (0 : Int32).toNatClampNeg (0 : Int32).toNatClampNeg r11.toNatClampNeg)), q3, rfl, trivial, h, by rw [ht]; exact hP, cK.moved hW.alike hK, hD⟩, hS.F ht⟩) hS.2.2 dJ7_copyOf_c38d5_32
  · have h := h.2 c_3
    refine lv_aload_n hx hb dJ7_copyOf_c38d5_6 rfl (lv_at hl 0 rfl) ?_
    obtain ⟨h417, h⟩ := h
    refine x_clonel hx hb (hml.trans hl.1.symm) hown (hts _ mwC_338) (hts _ mwC_339) (hts _ mwC_340) (hts _ mwC_341) (hts _ mwC_342) hG hK hP hD hS hA hm1 hk2 h417 (Nat.le_of_ble_eq_true rfl) (Nat.le_of_ble_eq_true rfl) (Nat.le_of_ble_eq_true rfl) (Nat.le_of_ble_eq_true rfl) dJ7_copyOf_c38d5_7 (fun q18 sh19 H hn21 es20 hK hP hD hS => ?_)
    have h := h q18 sh19 hn21 es20
    obtain ⟨⟨hm22, hk23⟩, h⟩ := h
    obtain ⟨q0, e0⟩ := c_at (ci := ci) (ai := ai) (al := va_up al q18 (al p0)) hm22 (cE_l hk23)
    refine va_castA (nm := "[J") hx hb hown (hts _ mwC_343) hP q0 e0 ((hK.2 _ hm22).2.2.1 hk23).2 dJ7_copyOf_c38d5_10 ?_
    refine W.widen (k := 1) (n := 400) (by decide) (by decide) ?_
    exact W.aret hx hb hr (Or.inr ⟨_, rfl⟩) (Or.inr ⟨_, rfl⟩) (fun t ht hW => ⟨⟨(sh19, ci, ai, va_up al q18 (al p0)), q18, rfl, trivial, h, by rw [ht]; exact hP, cK.moved hW.alike hK, hD⟩, hS.F ht⟩) hS.2.2 dJ7_copyOf_c38d5_13
