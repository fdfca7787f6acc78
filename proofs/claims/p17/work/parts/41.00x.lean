abbrev cX6_init : ByteArray := prog_8_method_1_code
theorem dX0_init_0 : decode cX0_init 0 = .ok (.aload_n 0, 1) := by decide +kernel
theorem dX0_init_1 : decode cX0_init 1 = .ok (.aload_n 1, 1) := by decide +kernel
theorem dX0_init_2 : decode cX0_init 2 = .ok (.sipush 400, 3) := by decide +kernel
theorem dX0_init_5 : decode cX0_init 5 = .ok (.newarray .long, 2) := by decide +kernel
theorem dX0_init_7 : decode cX0_init 7 = .ok (.invokespecial 3, 3) := by decide +kernel
theorem dX0_init_10 : decode cX0_init 10 = .ok (.aload_n 0, 1) := by decide +kernel
theorem dX0_init_11 : decode cX0_init 11 = .ok (.aload_n 2, 1) := by decide +kernel
theorem dX0_init_12 : decode cX0_init 12 = .ok (.putfield 9, 3) := by decide +kernel
theorem dX0_init_15 : decode cX0_init 15 = .ok (.aload_n 0, 1) := by decide +kernel
theorem dX0_init_16 : decode cX0_init 16 = .ok (.iload_n 3, 1) := by decide +kernel
theorem dX0_init_17 : decode cX0_init 17 = .ok (.putfield 15, 3) := by decide +kernel
theorem dX0_init_20 : decode cX0_init 20 = .ok (.aload_n 0, 1) := by decide +kernel
theorem dX0_init_21 : decode cX0_init 21 = .ok (.lload 4, 2) := by decide +kernel
theorem dX0_init_23 : decode cX0_init 23 = .ok (.putfield 19, 3) := by decide +kernel
theorem dX0_init_26 : decode cX0_init 26 = .ok (.aload_n 0, 1) := by decide +kernel
theorem dX0_init_27 : decode cX0_init 27 = .ok (.lload 6, 2) := by decide +kernel
theorem dX0_init_29 : decode cX0_init 29 = .ok (.putfield 23, 3) := by decide +kernel
theorem dX0_init_32 : decode cX0_init 32 = .ok (.return_, 1) := by decide +kernel
theorem dX1_init_0 : decode cX1_init 0 = .ok (.aload_n 0, 1) := by decide +kernel
theorem dX1_init_1 : decode cX1_init 1 = .ok (.aload_n 1, 1) := by decide +kernel
theorem dX1_init_2 : decode cX1_init 2 = .ok (.sipush 400, 3) := by decide +kernel
theorem dX1_init_5 : decode cX1_init 5 = .ok (.newarray .long, 2) := by decide +kernel
theorem dX1_init_7 : decode cX1_init 7 = .ok (.invokespecial 3, 3) := by decide +kernel
theorem dX1_init_10 : decode cX1_init 10 = .ok (.aload_n 0, 1) := by decide +kernel
theorem dX1_init_11 : decode cX1_init 11 = .ok (.aload_n 2, 1) := by decide +kernel
theorem dX1_init_12 : decode cX1_init 12 = .ok (.putfield 9, 3) := by decide +kernel
theorem dX1_init_15 : decode cX1_init 15 = .ok (.aload_n 0, 1) := by decide +kernel
theorem dX1_init_16 : decode cX1_init 16 = .ok (.aload_n 3, 1) := by decide +kernel
theorem dX1_init_17 : decode cX1_init 17 = .ok (.putfield 15, 3) := by decide +kernel
theorem dX1_init_20 : decode cX1_init 20 = .ok (.aload_n 0, 1) := by decide +kernel
theorem dX1_init_21 : decode cX1_init 21 = .ok (.iload 4, 2) := by decide +kernel
theorem dX1_init_23 : decode cX1_init 23 = .ok (.putfield 18, 3) := by decide +kernel
theorem dX1_init_26 : decode cX1_init 26 = .ok (.aload_n 0, 1) := by decide +kernel
theorem dX1_init_27 : decode cX1_init 27 = .ok (.lload 5, 2) := by decide +kernel
theorem dX1_init_29 : decode cX1_init 29 = .ok (.putfield 22, 3) := by decide +kernel
theorem dX1_init_32 : decode cX1_init 32 = .ok (.return_, 1) := by decide +kernel
theorem dX2_init_0 : decode cX2_init 0 = .ok (.aload_n 0, 1) := by decide +kernel
theorem dX2_init_1 : decode cX2_init 1 = .ok (.aload_n 1, 1) := by decide +kernel
theorem dX2_init_2 : decode cX2_init 2 = .ok (.iconst 0, 1) := by decide +kernel
theorem dX2_init_3 : decode cX2_init 3 = .ok (.newarray .long, 2) := by decide +kernel
theorem dX2_init_5 : decode cX2_init 5 = .ok (.invokespecial 3, 3) := by decide +kernel
theorem dX2_init_8 : decode cX2_init 8 = .ok (.aload_n 0, 1) := by decide +kernel
theorem dX2_init_9 : decode cX2_init 9 = .ok (.aload_n 2, 1) := by decide +kernel
theorem dX2_init_10 : decode cX2_init 10 = .ok (.putfield 9, 3) := by decide +kernel
theorem dX2_init_13 : decode cX2_init 13 = .ok (.aload_n 0, 1) := by decide +kernel
theorem dX2_init_14 : decode cX2_init 14 = .ok (.iload_n 3, 1) := by decide +kernel
theorem dX2_init_15 : decode cX2_init 15 = .ok (.putfield 15, 3) := by decide +kernel
theorem dX2_init_18 : decode cX2_init 18 = .ok (.aload_n 0, 1) := by decide +kernel
theorem dX2_init_19 : decode cX2_init 19 = .ok (.iload 4, 2) := by decide +kernel
theorem dX2_init_21 : decode cX2_init 21 = .ok (.putfield 19, 3) := by decide +kernel
theorem dX2_init_24 : decode cX2_init 24 = .ok (.aload_n 0, 1) := by decide +kernel
theorem dX2_init_25 : decode cX2_init 25 = .ok (.lload 5, 2) := by decide +kernel
theorem dX2_init_27 : decode cX2_init 27 = .ok (.putfield 22, 3) := by decide +kernel
theorem dX2_init_30 : decode cX2_init 30 = .ok (.return_, 1) := by decide +kernel
theorem dX5_init_0 : decode cX5_init 0 = .ok (.aload_n 0, 1) := by decide +kernel
theorem dX5_init_1 : decode cX5_init 1 = .ok (.invokespecial 3, 3) := by decide +kernel
theorem dX5_init_4 : decode cX5_init 4 = .ok (.aload_n 0, 1) := by decide +kernel
theorem dX5_init_5 : decode cX5_init 5 = .ok (.aload_n 1, 1) := by decide +kernel
theorem dX5_init_6 : decode cX5_init 6 = .ok (.putfield 9, 3) := by decide +kernel
theorem dX5_init_9 : decode cX5_init 9 = .ok (.aload_n 0, 1) := by decide +kernel
theorem dX5_init_10 : decode cX5_init 10 = .ok (.aload_n 2, 1) := by decide +kernel
theorem dX5_init_11 : decode cX5_init 11 = .ok (.putfield 15, 3) := by decide +kernel
theorem dX5_init_14 : decode cX5_init 14 = .ok (.aload_n 0, 1) := by decide +kernel
theorem dX5_init_15 : decode cX5_init 15 = .ok (.aload_n 2, 1) := by decide +kernel
theorem dX5_init_16 : decode cX5_init 16 = .ok (.arraylength, 1) := by decide +kernel
theorem dX5_init_17 : decode cX5_init 17 = .ok (.newarray .byte, 2) := by decide +kernel
theorem dX5_init_19 : decode cX5_init 19 = .ok (.putfield 19, 3) := by decide +kernel
theorem dX5_init_22 : decode cX5_init 22 = .ok (.return_, 1) := by decide +kernel
theorem dX6_init_0 : decode cX6_init 0 = .ok (.aload_n 0, 1) := by decide +kernel
theorem dX6_init_1 : decode cX6_init 1 = .ok (.invokespecial 1, 3) := by decide +kernel
theorem dX6_init_4 : decode cX6_init 4 = .ok (.return_, 1) := by decide +kernel
theorem dJ7_fill_031fb_0 : decode cJ7_fill_031fb 0 = .ok (.iconst 0, 1) := by decide +kernel
theorem dJ7_fill_031fb_1 : decode cJ7_fill_031fb 1 = .ok (.istore_n 2, 1) := by decide +kernel
theorem dJ7_fill_031fb_2 : decode cJ7_fill_031fb 2 = .ok (.aload_n 0, 1) := by decide +kernel
theorem dJ7_fill_031fb_3 : decode cJ7_fill_031fb 3 = .ok (.arraylength, 1) := by decide +kernel
theorem dJ7_fill_031fb_4 : decode cJ7_fill_031fb 4 = .ok (.istore_n 3, 1) := by decide +kernel
theorem dJ7_fill_031fb_5 : decode cJ7_fill_031fb 5 = .ok (.iload_n 2, 1) := by decide +kernel
theorem dJ7_fill_031fb_6 : decode cJ7_fill_031fb 6 = .ok (.iload_n 3, 1) := by decide +kernel
theorem dJ7_fill_031fb_7 : decode cJ7_fill_031fb 7 = .ok (.if_icmp .ge 13, 3) := by decide +kernel
theorem dJ7_fill_031fb_10 : decode cJ7_fill_031fb 10 = .ok (.aload_n 0, 1) := by decide +kernel
theorem dJ7_fill_031fb_11 : decode cJ7_fill_031fb 11 = .ok (.iload_n 2, 1) := by decide +kernel
theorem dJ7_fill_031fb_12 : decode cJ7_fill_031fb 12 = .ok (.iload_n 1, 1) := by decide +kernel
theorem dJ7_fill_031fb_13 : decode cJ7_fill_031fb 13 = .ok (.bastore, 1) := by decide +kernel
theorem dJ7_fill_031fb_14 : decode cJ7_fill_031fb 14 = .ok (.iinc 2 1, 3) := by decide +kernel
theorem dJ7_fill_031fb_17 : decode cJ7_fill_031fb 17 = .ok (.goto (-12), 3) := by decide +kernel
theorem dJ7_fill_031fb_20 : decode cJ7_fill_031fb 20 = .ok (.return_, 1) := by decide +kernel
theorem dJ7_copyOf_9075b_0 : decode cJ7_copyOf_9075b 0 = .ok (.iload_n 1, 1) := by decide +kernel
theorem dJ7_copyOf_9075b_1 : decode cJ7_copyOf_9075b 1 = .ok (.aload_n 0, 1) := by decide +kernel
theorem dJ7_copyOf_9075b_2 : decode cJ7_copyOf_9075b 2 = .ok (.arraylength, 1) := by decide +kernel
theorem dJ7_copyOf_9075b_3 : decode cJ7_copyOf_9075b 3 = .ok (.if_icmp .ne 11, 3) := by decide +kernel
theorem dJ7_copyOf_9075b_6 : decode cJ7_copyOf_9075b 6 = .ok (.aload_n 0, 1) := by decide +kernel
theorem dJ7_copyOf_9075b_7 : decode cJ7_copyOf_9075b 7 = .ok (.invokevirtual 310, 3) := by decide +kernel
theorem dJ7_copyOf_9075b_10 : decode cJ7_copyOf_9075b 10 = .ok (.checkcast 311, 3) := by decide +kernel
theorem dJ7_copyOf_9075b_13 : decode cJ7_copyOf_9075b 13 = .ok (.areturn, 1) := by decide +kernel
theorem dJ7_copyOf_9075b_14 : decode cJ7_copyOf_9075b 14 = .ok (.iload_n 1, 1) := by decide +kernel
theorem dJ7_copyOf_9075b_15 : decode cJ7_copyOf_9075b 15 = .ok (.newarray .byte, 2) := by decide +kernel
theorem dJ7_copyOf_9075b_17 : decode cJ7_copyOf_9075b 17 = .ok (.astore_n 2, 1) := by decide +kernel
theorem dJ7_copyOf_9075b_18 : decode cJ7_copyOf_9075b 18 = .ok (.aload_n 0, 1) := by decide +kernel
theorem dJ7_copyOf_9075b_19 : decode cJ7_copyOf_9075b 19 = .ok (.iconst 0, 1) := by decide +kernel
theorem dJ7_copyOf_9075b_20 : decode cJ7_copyOf_9075b 20 = .ok (.aload_n 2, 1) := by decide +kernel
theorem dJ7_copyOf_9075b_21 : decode cJ7_copyOf_9075b 21 = .ok (.iconst 0, 1) := by decide +kernel
theorem dJ7_copyOf_9075b_22 : decode cJ7_copyOf_9075b 22 = .ok (.aload_n 0, 1) := by decide +kernel
theorem dJ7_copyOf_9075b_23 : decode cJ7_copyOf_9075b 23 = .ok (.arraylength, 1) := by decide +kernel
theorem dJ7_copyOf_9075b_24 : decode cJ7_copyOf_9075b 24 = .ok (.iload_n 1, 1) := by decide +kernel
theorem dJ7_copyOf_9075b_25 : decode cJ7_copyOf_9075b 25 = .ok (.invokestatic 304, 3) := by decide +kernel
theorem dJ7_copyOf_9075b_28 : decode cJ7_copyOf_9075b 28 = .ok (.invokestatic 150, 3) := by decide +kernel
theorem dJ7_copyOf_9075b_31 : decode cJ7_copyOf_9075b 31 = .ok (.aload_n 2, 1) := by decide +kernel
theorem dJ7_copyOf_9075b_32 : decode cJ7_copyOf_9075b 32 = .ok (.areturn, 1) := by decide +kernel
theorem dJ7_copyOf_c38d5_0 : decode cJ7_copyOf_c38d5 0 = .ok (.iload_n 1, 1) := by decide +kernel
theorem dJ7_copyOf_c38d5_1 : decode cJ7_copyOf_c38d5 1 = .ok (.aload_n 0, 1) := by decide +kernel
theorem dJ7_copyOf_c38d5_2 : decode cJ7_copyOf_c38d5 2 = .ok (.arraylength, 1) := by decide +kernel
theorem dJ7_copyOf_c38d5_3 : decode cJ7_copyOf_c38d5 3 = .ok (.if_icmp .ne 11, 3) := by decide +kernel
theorem dJ7_copyOf_c38d5_6 : decode cJ7_copyOf_c38d5 6 = .ok (.aload_n 0, 1) := by decide +kernel
theorem dJ7_copyOf_c38d5_7 : decode cJ7_copyOf_c38d5 7 = .ok (.invokevirtual 319, 3) := by decide +kernel
theorem dJ7_copyOf_c38d5_10 : decode cJ7_copyOf_c38d5 10 = .ok (.checkcast 320, 3) := by decide +kernel
theorem dJ7_copyOf_c38d5_13 : decode cJ7_copyOf_c38d5 13 = .ok (.areturn, 1) := by decide +kernel
theorem dJ7_copyOf_c38d5_14 : decode cJ7_copyOf_c38d5 14 = .ok (.iload_n 1, 1) := by decide +kernel
theorem dJ7_copyOf_c38d5_15 : decode cJ7_copyOf_c38d5 15 = .ok (.newarray .long, 2) := by decide +kernel
theorem dJ7_copyOf_c38d5_17 : decode cJ7_copyOf_c38d5 17 = .ok (.astore_n 2, 1) := by decide +kernel
theorem dJ7_copyOf_c38d5_18 : decode cJ7_copyOf_c38d5 18 = .ok (.aload_n 0, 1) := by decide +kernel
theorem dJ7_copyOf_c38d5_19 : decode cJ7_copyOf_c38d5 19 = .ok (.iconst 0, 1) := by decide +kernel
theorem dJ7_copyOf_c38d5_20 : decode cJ7_copyOf_c38d5 20 = .ok (.aload_n 2, 1) := by decide +kernel
theorem dJ7_copyOf_c38d5_21 : decode cJ7_copyOf_c38d5 21 = .ok (.iconst 0, 1) := by decide +kernel
theorem dJ7_copyOf_c38d5_22 : decode cJ7_copyOf_c38d5 22 = .ok (.aload_n 0, 1) := by decide +kernel
theorem dJ7_copyOf_c38d5_23 : decode cJ7_copyOf_c38d5 23 = .ok (.arraylength, 1) := by decide +kernel
theorem dJ7_copyOf_c38d5_24 : decode cJ7_copyOf_c38d5 24 = .ok (.iload_n 1, 1) := by decide +kernel
theorem dJ7_copyOf_c38d5_25 : decode cJ7_copyOf_c38d5 25 = .ok (.invokestatic 304, 3) := by decide +kernel
theorem dJ7_copyOf_c38d5_28 : decode cJ7_copyOf_c38d5 28 = .ok (.invokestatic 150, 3) := by decide +kernel
theorem dJ7_copyOf_c38d5_31 : decode cJ7_copyOf_c38d5 31 = .ok (.aload_n 2, 1) := by decide +kernel
theorem dJ7_copyOf_c38d5_32 : decode cJ7_copyOf_c38d5 32 = .ok (.areturn, 1) := by decide +kernel
abbrev wmJ7_fill_031fb : List Cond := .code yJ7_fill_031fb cJ7_fill_031fb 4 none :: WC
theorem hd_J7_fill_031fb : yJ7_fill_031fb.cls ≠ "java/lang/invoke/MethodHandle" ∧ yJ7_fill_031fb.cls ≠ "java/lang/invoke/VarHandle" ∧ (parseMethodDescriptor yJ7_fill_031fb.desc).map (fun d => d.parameters.length) = some 2 := by decide +kernel
def B_J7_fill_031fb_5 (K5 : Sh → (Nat → Nat → Int32) → (Nat → Nat → Int32) → (Nat → Nat → Int64) → Nat → Int32 → Int32 → Int32 → Prop) (Q : Sh → (Nat → Nat → Int32) → (Nat → Nat → Int32) → (Nat → Nat → Int64) → Prop) (q : Nat) (sh : Sh) (ci : Nat → Nat → Int32) (ai : Nat → Nat → Int32) (al : Nat → Nat → Int64) (x0 : Nat) (x1 : Int32) (x2 : Int32) (x3 : Int32) : Prop := ((x3 ≤ x2) → (Q sh ci ai al)) ∧ ((¬ x3 ≤ x2) → ((x0 ∈ sL sh ∧ sK sh x0 = 21) ∧ vp_in x2 (sN sh x0) ∧ K5 sh ci (va_up ai x0 (upd (ai x0) x2.toNatClampNeg (vp_nar .byte x1))) al x0 x1 (x2 + 1) x3))
def P_J7_fill_031fb_5 (Q : Sh → (Nat → Nat → Int32) → (Nat → Nat → Int32) → (Nat → Nat → Int64) → Prop) (q : Nat) : Nat → Sh → (Nat → Nat → Int32) → (Nat → Nat → Int32) → (Nat → Nat → Int64) → Nat → Int32 → Int32 → Int32 → Prop
  | 0 => fun _ _ _ _ _ _ _ _ => False
  | n + 1 => B_J7_fill_031fb_5 (P_J7_fill_031fb_5 Q q n) Q q
set_option maxHeartbeats 4000000 in
set_option maxRecDepth 100000 in
theorem b_J7_fill_031fb_5 {p : Program} {l : Launch} {e : Env} {s : State} {m : MethodId} {args : Array Value} {below : List Frame} {meth : Method} {c : Code} {A : Nat → Prop} {dC : Nat → ClassId} {dI : Nat → Nat → Nat} {q : Nat} {K5 : Sh → (Nat → Nat → Int32) → (Nat → Nat → Int32) → (Nat → Nat → Int64) → Nat → Int32 → Int32 → Int32 → Prop} {Q : Sh → (Nat → Nat → Int32) → (Nat → Nat → Int32) → (Nat → Nat → Int64) → Prop} (hx : p.tables.exec = Jvm.exec) (hb : c.code = cJ7_fill_031fb) (hr : meth.sig.returnType = none) (hts : ∀ w ∈ WC, w.before args s = true) (hown : s.vm.findClass RJ7 = some m.cls) (hlocks : meth.locks = false) (hml : c.maxLocals = 4) (hA : ∀ q : Nat, s.heap.size ≤ q → A q) (hG : Gc s) (hK5 : ∀ (sh : Sh) (ci : Nat → Nat → Int32) (ai : Nat → Nat → Int32) (al : Nat → Nat → Int64) (x0 : Nat) (x1 : Int32) (x2 : Int32) (x3 : Int32) (H : Heap) (locs : List Loc) (ls : Array Slot), K5 sh ci ai al x0 x1 x2 x3 → cK dC dI sh s → va_P (dC, dI) vwCl (cW sh ci ai al) H → va_D A (cW sh ci ai al) → va_S A s.heap H locs → lv_has ls 4 [(0, .ref x0), (1, .int x1), (2, .int x2), (3, .int x3)] → W p l e (headSpec wmJ7_fill_031fb ({ frames := 8, cells := 0, slots := 0, locals := 120 })).room s m args below meth c H locs 0 0 (MQ below (va_Qv (S := XSt) (xV Q) (xB dC dI A) A) args s 0 0 A) (F0 m 5 ls [])) : ∀ (sh : Sh) (ci : Nat → Nat → Int32) (ai : Nat → Nat → Int32) (al : Nat → Nat → Int64) (x0 : Nat) (x1 : Int32) (x2 : Int32) (x3 : Int32) (H : Heap) (locs : List Loc) (ls : Array Slot), B_J7_fill_031fb_5 K5 Q q sh ci ai al x0 x1 x2 x3 → cK dC dI sh s → va_P (dC, dI) vwCl (cW sh ci ai al) H → va_D A (cW sh ci ai al) → va_S A s.heap H locs → lv_has ls 4 [(0, .ref x0), (1, .int x1), (2, .int x2), (3, .int x3)] → W p l e (headSpec wmJ7_fill_031fb ({ frames := 8, cells := 0, slots := 0, locals := 120 })).room s m args below meth c H locs 0 0 (MQ below (va_Qv (S := XSt) (xV Q) (xB dC dI A) A) args s 0 0 A) (F0 m 5 ls []) := by
  intro sh ci ai al x0 x1 x2 x3 H locs ls h hK hP hD hS hl
  unfold B_J7_fill_031fb_5 at h
  refine lv_iload_n hx hb dJ7_fill_031fb_5 rfl (lv_at hl 2 rfl) ?_
  refine lv_iload_n hx hb dJ7_fill_031fb_6 rfl (lv_at hl 3 rfl) ?_
  refine lv_icmp_ge (tgt := 20) hx hb dJ7_fill_031fb_7 (by decide) (fun c_7 => ?_) (fun c_7 => ?_)
  · have h := h.1 c_7
    refine W.widen (k := 0) (n := 0) (by decide) (by decide) ?_
    exact W.vret hx hb hr (fun t ht hW => ⟨⟨(sh, ci, ai, al), rfl, h, by rw [ht]; exact hP, cK.moved hW.alike hK, hD⟩, hS.F ht⟩) hS.2.2 dJ7_fill_031fb_20
  · have h := h.2 c_7
    refine lv_aload_n hx hb dJ7_fill_031fb_10 rfl (lv_at hl 0 rfl) ?_
    refine lv_iload_n hx hb dJ7_fill_031fb_11 rfl (lv_at hl 2 rfl) ?_
    refine lv_iload_n hx hb dJ7_fill_031fb_12 rfl (lv_at hl 1 rfl) ?_
    obtain ⟨⟨hm1, hk2⟩, h⟩ := h
    obtain ⟨hi3, h⟩ := h
    refine c_bast hx hb hK hP hD hS hm1 hk2 hi3 dJ7_fill_031fb_13 (fun H locs hP hD hS => ?_)
    refine lv_iinc (v := x2 + 1) (lv' := [(2, .int (x2 + 1)), (0, .ref x0), (1, .int x1), (3, .int x3)]) hx hb dJ7_fill_031fb_14 hl (k := 2) rfl (iinc_1 _) (by decide) rfl (fun ls hl => ?_)
    refine lv_goto (tgt := 5) hx hb dJ7_fill_031fb_17 (by decide) ?_
    exact hK5 _ _ _ _ _ _ _ _ H _ ls h hK hP hD hS (lv_sub hl [1, 2, 0, 3] rfl)
set_option maxHeartbeats 4000000 in
set_option maxRecDepth 100000 in
theorem t_J7_fill_031fb_5 {p : Program} {l : Launch} {e : Env} {s : State} {m : MethodId} {args : Array Value} {below : List Frame} {meth : Method} {c : Code} {A : Nat → Prop} {dC : Nat → ClassId} {dI : Nat → Nat → Nat} {q : Nat} {Q : Sh → (Nat → Nat → Int32) → (Nat → Nat → Int32) → (Nat → Nat → Int64) → Prop} (hx : p.tables.exec = Jvm.exec) (hb : c.code = cJ7_fill_031fb) (hr : meth.sig.returnType = none) (hts : ∀ w ∈ WC, w.before args s = true) (hown : s.vm.findClass RJ7 = some m.cls) (hlocks : meth.locks = false) (hml : c.maxLocals = 4) (hA : ∀ q : Nat, s.heap.size ≤ q → A q) (hG : Gc s) : ∀ n : Nat, ∀ (sh : Sh) (ci : Nat → Nat → Int32) (ai : Nat → Nat → Int32) (al : Nat → Nat → Int64) (x0 : Nat) (x1 : Int32) (x2 : Int32) (x3 : Int32) (H : Heap) (locs : List Loc) (ls : Array Slot), P_J7_fill_031fb_5 Q q n sh ci ai al x0 x1 x2 x3 → cK dC dI sh s → va_P (dC, dI) vwCl (cW sh ci ai al) H → va_D A (cW sh ci ai al) → va_S A s.heap H locs → lv_has ls 4 [(0, .ref x0), (1, .int x1), (2, .int x2), (3, .int x3)] → W p l e (headSpec wmJ7_fill_031fb ({ frames := 8, cells := 0, slots := 0, locals := 120 })).room s m args below meth c H locs 0 0 (MQ below (va_Qv (S := XSt) (xV Q) (xB dC dI A) A) args s 0 0 A) (F0 m 5 ls []) := by
  intro n
  induction n with
  | zero => intro sh ci ai al x0 x1 x2 x3 H locs ls h; exact h.elim
  | succ n ih => exact b_J7_fill_031fb_5 hx hb hr hts hown hlocks hml hA hG ih
def P_J7_fill_031fb (sh : Sh) (ci : Nat → Nat → Int32) (ai : Nat → Nat → Int32) (al : Nat → Nat → Int64) (p0 : Nat) (p1 : Int32) (Q : Sh → (Nat → Nat → Int32) → (Nat → Nat → Int32) → (Nat → Nat → Int64) → Prop) : Prop := (p0 ∈ sL sh ∧ sK sh p0 = 21) ∧ ∃ n9 : Nat, P_J7_fill_031fb_5 Q 0 n9 sh ci ai al p0 p1 (0 : Int32) (nI (sN sh p0))
set_option maxHeartbeats 4000000 in
set_option maxRecDepth 100000 in
theorem p_J7_fill_031fb (l : Launch) (dC : Nat → ClassId) (dI : Nat → Nat → Nat) (sh : Sh) (ci : Nat → Nat → Int32) (ai : Nat → Nat → Int32) (al : Nat → Nat → Int64) (p0 : Nat) (p1 : Int32) (Q : Sh → (Nat → Nat → Int32) → (Nat → Nat → Int32) → (Nat → Nat → Int64) → Prop) (h : P_J7_fill_031fb sh ci ai al p0 p1 Q) (sz : Nat) : Met l yJ7_fill_031fb wmJ7_fill_031fb ({ frames := 8, cells := 0, slots := 0, locals := 120 }) (va_Pc [.ref p0, .int p1] (cPre dC dI sh ci ai al sz)) (va_Qv (S := XSt) (xV Q) (xB dC dI (va_A (cW sh ci ai al) sz)) (va_A (cW sh ci ai al) sz)) 0 0 (va_A (cW sh ci ai al) sz) := by
  refine Met.ofW (cc := cJ7_fill_031fb) (maxL := 4) (ret := none) (by decide) rfl ?_
  intro p e s m args below meth c s₁ B hml hv
  obtain ⟨rfl, hsz, hP, hK, hD0, hG⟩ := hv
  have hx := B.exec
  have hb := B.bytes
  have hr := B.returns
  have hts : ∀ w ∈ WC, w.before _ s = true := fun w h => atoms_spec (ws := wmJ7_fill_031fb) B.pre w (List.mem_cons_of_mem _ h)
  have hown : s.vm.findClass RJ7 = some m.cls := findClass_of_methodNamed B.named
  have hlocks := B.notSynchronized
  subst hsz
  have hD := hD0.self (sz := s.heap.size)
  generalize hAe : va_A (cW sh ci ai al) s.heap.size = A at hD ⊢
  have hA : ∀ q : Nat, s.heap.size ≤ q → A q := fun q h => by rw [← hAe]; exact Or.inr h
  generalize hH : s.heap = H at hP ⊢
  have hS : va_S A s.heap H [] := by rw [← hH]; exact va_S.rf
  have hl := lv_entry [.ref p0, .int p1] (n := 4) (Nat.le_of_ble_eq_true rfl)
  rw [lg_entry_eq]
  generalize (lg_sl [.ref p0, .int p1] ++ List.replicate (4 - (lg_sl [.ref p0, .int p1]).length) Slot.unset).toArray = ls at hl ⊢
  have hl : lv_has ls 4 [(0, .ref p0), (1, .int p1)] := hl
  unfold P_J7_fill_031fb at h
  refine lv_iconst (v := 0) hx hb dJ7_fill_031fb_0 (by decide) ?_
  refine lv_istore_n (lv' := [(2, .int 0), (0, .ref p0), (1, .int p1)]) hx hb dJ7_fill_031fb_1 rfl hl (by decide) rfl (fun ls hl => ?_)
  refine lv_aload_n hx hb dJ7_fill_031fb_2 rfl (lv_at hl 1 rfl) ?_
  obtain ⟨⟨hm1, hk2⟩, h⟩ := h
  refine c_alen hx hb hK hP hm1 (Or.inr (Or.inl hk2)) dJ7_fill_031fb_3 ?_
  refine lv_istore_n (lv' := [(3, .int (nI (sN sh p0))), (2, .int 0), (0, .ref p0), (1, .int p1)]) hx hb dJ7_fill_031fb_4 rfl hl (by decide) rfl (fun ls hl => ?_)
  obtain ⟨n9, h⟩ := h
  exact t_J7_fill_031fb_5 hx hb hr hts hown hlocks hml hA hG n9 _ _ _ _ _ _ _ _ H _ ls h hK hP hD hS (lv_sub hl [2, 3, 1, 0] rfl)
abbrev wmJ7_copyOf_c38d5 : List Cond := .code yJ7_copyOf_c38d5 cJ7_copyOf_c38d5 3 (some (.array .long)) :: WC
theorem hd_J7_copyOf_c38d5 : yJ7_copyOf_c38d5.cls ≠ "java/lang/invoke/MethodHandle" ∧ yJ7_copyOf_c38d5.cls ≠ "java/lang/invoke/VarHandle" ∧ (parseMethodDescriptor yJ7_copyOf_c38d5.desc).map (fun d => d.parameters.length) = some 2 := by decide +kernel
def P_J7_copyOf_c38d5 (sh : Sh) (ci : Nat → Nat → Int32) (ai : Nat → Nat → Int32) (al : Nat → Nat → Int64) (p0 : Nat) (p1 : Int32) (Q : Nat → Sh → (Nat → Nat → Int32) → (Nat → Nat → Int32) → (Nat → Nat → Int64) → Prop) : Prop := (p0 ∈ sL sh ∧ sK sh p0 = 22) ∧ ((¬ p1 = (nI (sN sh p0))) → (¬ p1 < 0 ∧ p1.toNatClampNeg ≤ 400 ∧ ∀ (q3 : Nat) (cA3 : ClassId) (sh4 : Sh), q3 ∉ sL sh → sh4 = shN sh q3 22 p1.toNatClampNeg cA3 → (p0 ∈ sL sh4 ∧ sK sh4 p0 = 22) ∧ P_J9_min_7cf53 (nI (sN sh4 p0)) p1 (fun r11 => (q3 ∈ sL sh4 ∧ sK sh4 q3 = 22) ∧ ¬ r11 < 0 ∧ (0 : Int32).toNatClampNeg + r11.toNatClampNeg ≤ sN sh4 p0 ∧ (0 : Int32).toNatClampNeg + r11.toNatClampNeg ≤ sN sh4 q3 ∧ Q q3 sh4 ci ai (va_up (va_up al q3 (fun _ => 0)) q3 (va_cpy ((va_up al q3 (fun _ => 0)) p0) ((va_up al q3 (fun _ => 0)) q3) (0 : Int32).toNatClampNeg (0 : Int32).toNatClampNeg r11.toNatClampNeg))))) ∧ ((p1 = (nI (sN sh p0))) → (sN sh p0 ≤ 400 ∧ ∀ (q18 : Nat) (sh19 : Sh), q18 ∉ sL sh → sh19 = shN sh q18 22 (sN sh p0) (sA sh p0) → (q18 ∈ sL sh19 ∧ sK sh19 q18 = 22) ∧ Q q18 sh19 ci ai (va_up al q18 (al p0))))
set_option maxHeartbeats 4000000 in
set_option maxRecDepth 100000 in
theorem p_J7_copyOf_c38d5 (l : Launch) (dC : Nat → ClassId) (dI : Nat → Nat → Nat) (sh : Sh) (ci : Nat → Nat → Int32) (ai : Nat → Nat → Int32) (al : Nat → Nat → Int64) (p0 : Nat) (p1 : Int32) (Q : Nat → Sh → (Nat → Nat → Int32) → (Nat → Nat → Int32) → (Nat → Nat → Int64) → Prop) (h : P_J7_copyOf_c38d5 sh ci ai al p0 p1 Q) (sz : Nat) : Met l yJ7_copyOf_c38d5 wmJ7_copyOf_c38d5 ({ frames := 20, cells := 1, slots := 400, locals := 300 }) (va_Pc [.ref p0, .int p1] (cPre dC dI sh ci ai al sz)) (va_Qr (S := XSt) (fun _ => True) (fun u a t => xA Q u a ∧ xB dC dI (va_A (cW sh ci ai al) sz) u t) (va_A (cW sh ci ai al) sz)) 1 400 (va_A (cW sh ci ai al) sz) := by
  refine Met.ofW (cc := cJ7_copyOf_c38d5) (maxL := 3) (ret := (some (.array .long))) (by decide) rfl ?_
  intro p e s m args below meth c s₁ B hml hv
  obtain ⟨rfl, hsz, hP, hK, hD0, hG⟩ := hv
  have hx := B.exec
  have hb := B.bytes
  have hr := B.returns
  have hts : ∀ w ∈ WC, w.before _ s = true := fun w h => atoms_spec (ws := wmJ7_copyOf_c38d5) B.pre w (List.mem_cons_of_mem _ h)
  have hown : s.vm.findClass RJ7 = some m.cls := findClass_of_methodNamed B.named
  have hlocks := B.notSynchronized
  subst hsz
  have hD := hD0.self (sz := s.heap.size)
  generalize hAe : va_A (cW sh ci ai al) s.heap.size = A at hD ⊢
  have hA : ∀ q : Nat, s.heap.size ≤ q → A q := fun q h => by rw [← hAe]; exact Or.inr h
  generalize hH : s.heap = H at hP ⊢
  have hS : va_S A s.heap H [] := by rw [← hH]; exact va_S.rf
  have hl := lv_entry [.ref p0, .int p1] (n := 3) (Nat.le_of_ble_eq_true rfl)
  rw [lg_entry_eq]
  generalize (lg_sl [.ref p0, .int p1] ++ List.replicate (3 - (lg_sl [.ref p0, .int p1]).length) Slot.unset).toArray = ls at hl ⊢
  have hl : lv_has ls 3 [(0, .ref p0), (1, .int p1)] := hl
  unfold P_J7_copyOf_c38d5 at h
  refine lv_iload_n hx hb dJ7_copyOf_c38d5_0 rfl (lv_at hl 1 rfl) ?_
  refine lv_aload_n hx hb dJ7_copyOf_c38d5_1 rfl (lv_at hl 0 rfl) ?_
  obtain ⟨⟨hm1, hk2⟩, h⟩ := h
  refine c_alen hx hb hK hP hm1 (Or.inr (Or.inr (Or.inl hk2))) dJ7_copyOf_c38d5_2 ?_
  refine lv_icmp_ne (tgt := 14) hx hb dJ7_copyOf_c38d5_3 (by decide) (fun c_3 => ?_) (fun c_3 => ?_)
  · have h := h.1 c_3
    refine lv_iload_n hx hb dJ7_copyOf_c38d5_14 rfl (lv_at hl 1 rfl) ?_
    obtain ⟨h07, h48, h⟩ := h
    refine x_newl (n := p1) hx hb (hts _ mwC_332) hK hP hD hS hA h07 h48 (Nat.le_of_ble_eq_true rfl) (Nat.le_of_ble_eq_true rfl) dJ7_copyOf_c38d5_15 (fun q3 cA3 sh4 H hn6 es5 hK hP hD hS => ?_)
    have h := h q3 cA3 sh4 hn6 es5
    refine lv_astore_n (lv' := [(2, .ref q3), (0, .ref p0), (1, .int p1)]) hx hb dJ7_copyOf_c38d5_17 rfl hl (by decide) rfl (fun ls hl => ?_)
    refine lv_aload_n hx hb dJ7_copyOf_c38d5_18 rfl (lv_at hl 1 rfl) ?_
    refine lv_iconst (v := 0) hx hb dJ7_copyOf_c38d5_19 (by decide) ?_
    refine lv_aload_n hx hb dJ7_copyOf_c38d5_20 rfl (lv_at hl 0 rfl) ?_
    refine lv_iconst (v := 0) hx hb dJ7_copyOf_c38d5_21 (by decide) ?_
    refine lv_aload_n hx hb dJ7_copyOf_c38d5_22 rfl (lv_at hl 1 rfl) ?_
    obtain ⟨⟨hm9, hk10⟩, h⟩ := h
    refine c_alen hx hb hK hP hm9 (Or.inr (Or.inr (Or.inl hk10))) dJ7_copyOf_c38d5_23 ?_
    refine lv_iload_n hx hb dJ7_copyOf_c38d5_24 rfl (lv_at hl 2 rfl) ?_
    refine r_endi (va_runS (rm := ({ frames := 4, cells := 0, slots := 0, locals := 60 })) (As := [.int (nI (sN sh4 p0)), .int p1]) (rest := [.int 0, .ref q3, .int 0, .ref p0]) ⟨hx, hb, hml, hown, hts⟩ (p_J9_min_7cf53 l dC dI (nI (sN sh4 p0)) p1 _ h H.size) (va_cwS 2 hts (g_S gdC mwC_333 mwC_323 mwC_3 mwC_321) rfl rfl rfl hd_J9_min_7cf53 ⟨Nat.le_of_ble_eq_true rfl, Nat.le_of_ble_eq_true rfl⟩) ⟨s_blind, fun U hU hW => ⟨rfl, congrArg Array.size hU⟩⟩ rfl rfl hl.1 rfl (lv_room (Nat.le_of_ble_eq_true rfl)) dJ7_copyOf_c38d5_25 ⟨Nat.le_of_ble_eq_true rfl, Nat.le_of_ble_eq_true rfl⟩) hP hS hA (fun r11 H locs h hP hS => ?_)
    obtain ⟨⟨hm12, hk13⟩, h⟩ := h
    obtain ⟨h314, h415, h516, h⟩ := h
    refine x_copyl (q := p0) (q1 := q3) hx hb (hml.trans hl.1.symm) hown (hts _ mwC_334) (hts _ mwC_335) (hts _ mwC_336) (hts _ mwC_337) hK hP hD hS hm9 hk10 hm12 hk13 (by decide) (by decide) h314 h415 h516 (Nat.le_of_ble_eq_true rfl) (Nat.le_of_ble_eq_true rfl) dJ7_copyOf_c38d5_28 (fun H locs hP hD hS => ?_)
    refine lv_aload_n hx hb dJ7_copyOf_c38d5_31 rfl (lv_at hl 0 rfl) ?_
    refine W.widen (k := 1) (n := 400) (by decide) (by decide) ?_
    exact W.aret hx hb hr (Or.inr ⟨_, rfl⟩) (Or.inr ⟨_, rfl⟩) (fun t ht hW => ⟨⟨(sh4, ci, ai, va_up (va_up al q3 (fun _ => 0)) q3 (va_cpy ((va_up al q3 (fun _ => 0)) p0) ((va_up al q3 (fun _ => 0)) q3) (0 : Int32).toNatClampNeg (0 : Int32).toNatClampNeg r11.toNatClampNeg)), q3, rfl, trivial, h, by rw [ht]; exact hP, cK.moved hW.alike hK, hD⟩, hS.F ht⟩) hS.2.2 dJ7_copyOf_c38d5_32
  · have h := h.2 c_3
    refine lv_aload_n hx hb dJ7_copyOf_c38d5_6 rfl (lv_at hl 0 rfl) ?_
    obtain ⟨h417, h⟩ := h
    refine x_clonel hx hb (hml.trans hl.1.symm) hown (hts _ mwC_338) (hts _ mwC_339) (hts _ mwC_340) (hts _ mwC_341) (hts _ mwC_342) hG hK hP hD hS hA hm1 hk2 h417 (Nat.le_of_ble_eq_true rfl) (Nat.le_of_ble_eq_true rfl) (Nat.le_of_ble_eq_true rfl) (Nat.le_of_ble_eq_true rfl) dJ7_copyOf_c38d5_7 (fun q18 sh19 H hn21 es20 hK hP hD hS => ?_)
    have h := h q18 sh19 hn21 es20
    obtain ⟨⟨hm22, hk23⟩, h⟩ := h
    obtain ⟨q0, e0⟩ := c_at (ci := ci) (ai := ai) (al := va_up al q18 (al p0)) hm22 (cE_l hk23)
    refine va_castA (nm := "[J") hx hb hown (hts _ mwC_343) hP q0 e0 ((hK.2 _ hm22).2.2.1 hk23).2 dJ7_copyOf_c38d5_10 ?_
    refine W.widen (k := 1) (n := 400) (by decide) (by decide) ?_
    exact W.aret hx hb hr (Or.inr ⟨_, rfl⟩) (Or.inr ⟨_, rfl⟩) (fun t ht hW => ⟨⟨(sh19, ci, ai, va_up al q18 (al p0)), q18, rfl, trivial, h, by rw [ht]; exact hP, cK.moved hW.alike hK, hD⟩, hS.F ht⟩) hS.2.2 dJ7_copyOf_c38d5_13
abbrev wmJ7_copyOf_9075b : List Cond := .code yJ7_copyOf_9075b cJ7_copyOf_9075b 3 (some (.array .byte)) :: WC
theorem hd_J7_copyOf_9075b : yJ7_copyOf_9075b.cls ≠ "java/lang/invoke/MethodHandle" ∧ yJ7_copyOf_9075b.cls ≠ "java/lang/invoke/VarHandle" ∧ (parseMethodDescriptor yJ7_copyOf_9075b.desc).map (fun d => d.parameters.length) = some 2 := by decide +kernel
def P_J7_copyOf_9075b (sh : Sh) (ci : Nat → Nat → Int32) (ai : Nat → Nat → Int32) (al : Nat → Nat → Int64) (p0 : Nat) (p1 : Int32) (Q : Nat → Sh → (Nat → Nat → Int32) → (Nat → Nat → Int32) → (Nat → Nat → Int64) → Prop) : Prop := (p0 ∈ sL sh ∧ sK sh p0 = 21) ∧ ((¬ p1 = (nI (sN sh p0))) → (¬ p1 < 0 ∧ p1.toNatClampNeg ≤ 400 ∧ ∀ (q3 : Nat) (cA3 : ClassId) (sh4 : Sh), q3 ∉ sL sh → sh4 = shN sh q3 21 p1.toNatClampNeg cA3 → (p0 ∈ sL sh4 ∧ sK sh4 p0 = 21) ∧ P_J9_min_7cf53 (nI (sN sh4 p0)) p1 (fun r11 => (q3 ∈ sL sh4 ∧ sK sh4 q3 = 21) ∧ ¬ r11 < 0 ∧ (0 : Int32).toNatClampNeg + r11.toNatClampNeg ≤ sN sh4 p0 ∧ (0 : Int32).toNatClampNeg + r11.toNatClampNeg ≤ sN sh4 q3 ∧ (∀ i : Nat, i < sN sh4 p0 → fits .byte (.int ((va_up ai q3 (fun _ => 0)) p0 i)) = true) ∧ Q q3 sh4 ci (va_up (va_up ai q3 (fun _ => 0)) q3 (va_cpy ((va_up ai q3 (fun _ => 0)) p0) ((va_up ai q3 (fun _ => 0)) q3) (0 : Int32).toNatClampNeg (0 : Int32).toNatClampNeg r11.toNatClampNeg)) al))) ∧ ((p1 = (nI (sN sh p0))) → (sN sh p0 ≤ 400 ∧ (∀ i : Nat, i < sN sh p0 → fits .byte (.int (ai p0 i)) = true) ∧ ∀ (q20 : Nat) (sh21 : Sh), q20 ∉ sL sh → sh21 = shN sh q20 21 (sN sh p0) (sA sh p0) → (q20 ∈ sL sh21 ∧ sK sh21 q20 = 21) ∧ Q q20 sh21 ci (va_up ai q20 (ai p0)) al))
set_option maxHeartbeats 4000000 in
set_option maxRecDepth 100000 in
theorem p_J7_copyOf_9075b (l : Launch) (dC : Nat → ClassId) (dI : Nat → Nat → Nat) (sh : Sh) (ci : Nat → Nat → Int32) (ai : Nat → Nat → Int32) (al : Nat → Nat → Int64) (p0 : Nat) (p1 : Int32) (Q : Nat → Sh → (Nat → Nat → Int32) → (Nat → Nat → Int32) → (Nat → Nat → Int64) → Prop) (h : P_J7_copyOf_9075b sh ci ai al p0 p1 Q) (sz : Nat) : Met l yJ7_copyOf_9075b wmJ7_copyOf_9075b ({ frames := 20, cells := 1, slots := 400, locals := 300 }) (va_Pc [.ref p0, .int p1] (cPre dC dI sh ci ai al sz)) (va_Qr (S := XSt) (fun _ => True) (fun u a t => xA Q u a ∧ xB dC dI (va_A (cW sh ci ai al) sz) u t) (va_A (cW sh ci ai al) sz)) 1 400 (va_A (cW sh ci ai al) sz) := by
  refine Met.ofW (cc := cJ7_copyOf_9075b) (maxL := 3) (ret := (some (.array .byte))) (by decide) rfl ?_
  intro p e s m args below meth c s₁ B hml hv
  obtain ⟨rfl, hsz, hP, hK, hD0, hG⟩ := hv
  have hx := B.exec
  have hb := B.bytes
  have hr := B.returns
  have hts : ∀ w ∈ WC, w.before _ s = true := fun w h => atoms_spec (ws := wmJ7_copyOf_9075b) B.pre w (List.mem_cons_of_mem _ h)
  have hown : s.vm.findClass RJ7 = some m.cls := findClass_of_methodNamed B.named
  have hlocks := B.notSynchronized
  subst hsz
  have hD := hD0.self (sz := s.heap.size)
  generalize hAe : va_A (cW sh ci ai al) s.heap.size = A at hD ⊢
  have hA : ∀ q : Nat, s.heap.size ≤ q → A q := fun q h => by rw [← hAe]; exact Or.inr h
  generalize hH : s.heap = H at hP ⊢
  have hS : va_S A s.heap H [] := by rw [← hH]; exact va_S.rf
  have hl := lv_entry [.ref p0, .int p1] (n := 3) (Nat.le_of_ble_eq_true rfl)
  rw [lg_entry_eq]
  generalize (lg_sl [.ref p0, .int p1] ++ List.replicate (3 - (lg_sl [.ref p0, .int p1]).length) Slot.unset).toArray = ls at hl ⊢
  have hl : lv_has ls 3 [(0, .ref p0), (1, .int p1)] := hl
  unfold P_J7_copyOf_9075b at h
  refine lv_iload_n hx hb dJ7_copyOf_9075b_0 rfl (lv_at hl 1 rfl) ?_
  refine lv_aload_n hx hb dJ7_copyOf_9075b_1 rfl (lv_at hl 0 rfl) ?_
  obtain ⟨⟨hm1, hk2⟩, h⟩ := h
  refine c_alen hx hb hK hP hm1 (Or.inr (Or.inl hk2)) dJ7_copyOf_9075b_2 ?_
  refine lv_icmp_ne (tgt := 14) hx hb dJ7_copyOf_9075b_3 (by decide) (fun c_3 => ?_) (fun c_3 => ?_)
  · have h := h.1 c_3
    refine lv_iload_n hx hb dJ7_copyOf_9075b_14 rfl (lv_at hl 1 rfl) ?_
    obtain ⟨h07, h48, h⟩ := h
    refine x_newb (n := p1) hx hb (hts _ mwC_344) hK hP hD hS hA h07 h48 (Nat.le_of_ble_eq_true rfl) (Nat.le_of_ble_eq_true rfl) dJ7_copyOf_9075b_15 (fun q3 cA3 sh4 H hn6 es5 hK hP hD hS => ?_)
    have h := h q3 cA3 sh4 hn6 es5
    refine lv_astore_n (lv' := [(2, .ref q3), (0, .ref p0), (1, .int p1)]) hx hb dJ7_copyOf_9075b_17 rfl hl (by decide) rfl (fun ls hl => ?_)
    refine lv_aload_n hx hb dJ7_copyOf_9075b_18 rfl (lv_at hl 1 rfl) ?_
    refine lv_iconst (v := 0) hx hb dJ7_copyOf_9075b_19 (by decide) ?_
    refine lv_aload_n hx hb dJ7_copyOf_9075b_20 rfl (lv_at hl 0 rfl) ?_
    refine lv_iconst (v := 0) hx hb dJ7_copyOf_9075b_21 (by decide) ?_
    refine lv_aload_n hx hb dJ7_copyOf_9075b_22 rfl (lv_at hl 1 rfl) ?_
    obtain ⟨⟨hm9, hk10⟩, h⟩ := h
    refine c_alen hx hb hK hP hm9 (Or.inr (Or.inl hk10)) dJ7_copyOf_9075b_23 ?_
    refine lv_iload_n hx hb dJ7_copyOf_9075b_24 rfl (lv_at hl 2 rfl) ?_
    refine r_endi (va_runS (rm := ({ frames := 4, cells := 0, slots := 0, locals := 60 })) (As := [.int (nI (sN sh4 p0)), .int p1]) (rest := [.int 0, .ref q3, .int 0, .ref p0]) ⟨hx, hb, hml, hown, hts⟩ (p_J9_min_7cf53 l dC dI (nI (sN sh4 p0)) p1 _ h H.size) (va_cwS 2 hts (g_S gdC mwC_333 mwC_323 mwC_3 mwC_321) rfl rfl rfl hd_J9_min_7cf53 ⟨Nat.le_of_ble_eq_true rfl, Nat.le_of_ble_eq_true rfl⟩) ⟨s_blind, fun U hU hW => ⟨rfl, congrArg Array.size hU⟩⟩ rfl rfl hl.1 rfl (lv_room (Nat.le_of_ble_eq_true rfl)) dJ7_copyOf_9075b_25 ⟨Nat.le_of_ble_eq_true rfl, Nat.le_of_ble_eq_true rfl⟩) hP hS hA (fun r11 H locs h hP hS => ?_)
    obtain ⟨⟨hm12, hk13⟩, h⟩ := h
    obtain ⟨h314, h415, h516, h817, h⟩ := h
    refine x_copyb (q := p0) (q1 := q3) hx hb (hml.trans hl.1.symm) hown (hts _ mwC_334) (hts _ mwC_335) (hts _ mwC_336) (hts _ mwC_337) hK hP hD hS hm9 hk10 hm12 hk13 (by decide) (by decide) h314 h415 h516 h817 (Nat.le_of_ble_eq_true rfl) (Nat.le_of_ble_eq_true rfl) dJ7_copyOf_9075b_28 (fun H locs hP hD hS => ?_)
    refine lv_aload_n hx hb dJ7_copyOf_9075b_31 rfl (lv_at hl 0 rfl) ?_
    refine W.widen (k := 1) (n := 400) (by decide) (by decide) ?_
    exact W.aret hx hb hr (Or.inr ⟨_, rfl⟩) (Or.inr ⟨_, rfl⟩) (fun t ht hW => ⟨⟨(sh4, ci, va_up (va_up ai q3 (fun _ => 0)) q3 (va_cpy ((va_up ai q3 (fun _ => 0)) p0) ((va_up ai q3 (fun _ => 0)) q3) (0 : Int32).toNatClampNeg (0 : Int32).toNatClampNeg r11.toNatClampNeg), al), q3, rfl, trivial, h, by rw [ht]; exact hP, cK.moved hW.alike hK, hD⟩, hS.F ht⟩) hS.2.2 dJ7_copyOf_9075b_32
  · have h := h.2 c_3
    refine lv_aload_n hx hb dJ7_copyOf_9075b_6 rfl (lv_at hl 0 rfl) ?_
    obtain ⟨h418, h819, h⟩ := h
    refine x_cloneb hx hb (hml.trans hl.1.symm) hown (hts _ mwC_345) (hts _ mwC_346) (hts _ mwC_340) (hts _ mwC_341) (hts _ mwC_347) hG hK hP hD hS hA hm1 hk2 h418 h819 (Nat.le_of_ble_eq_true rfl) (Nat.le_of_ble_eq_true rfl) (Nat.le_of_ble_eq_true rfl) (Nat.le_of_ble_eq_true rfl) dJ7_copyOf_9075b_7 (fun q20 sh21 H hn23 es22 hK hP hD hS => ?_)
    have h := h q20 sh21 hn23 es22
    obtain ⟨⟨hm24, hk25⟩, h⟩ := h
    obtain ⟨q0, e0⟩ := c_at (ci := ci) (ai := va_up ai q20 (ai p0)) (al := al) hm24 (cE_i (Or.inr hk25))
    refine va_castA (nm := "[B") hx hb hown (hts _ mwC_348) hP q0 e0 ((hK.2 _ hm24).2.1 hk25).2 dJ7_copyOf_9075b_10 ?_
    refine W.widen (k := 1) (n := 400) (by decide) (by decide) ?_
    exact W.aret hx hb hr (Or.inr ⟨_, rfl⟩) (Or.inr ⟨_, rfl⟩) (fun t ht hW => ⟨⟨(sh21, ci, va_up ai q20 (ai p0), al), q20, rfl, trivial, h, by rw [ht]; exact hP, cK.moved hW.alike hK, hD⟩, hS.F ht⟩) hS.2.2 dJ7_copyOf_9075b_13
abbrev wmX6_init : List Cond := .code yX6_init cX6_init 1 none :: WC
theorem hd_X6_init : yX6_init.cls ≠ "java/lang/invoke/MethodHandle" ∧ yX6_init.cls ≠ "java/lang/invoke/VarHandle" ∧ (parseMethodDescriptor yX6_init.desc).map (fun d => d.parameters.length) = some 0 := by decide +kernel
def P_X6_init (sh : Sh) (ci : Nat → Nat → Int32) (ai : Nat → Nat → Int32) (al : Nat → Nat → Int64) (q : Nat)  (Q : Sh → (Nat → Nat → Int32) → (Nat → Nat → Int32) → (Nat → Nat → Int64) → Prop) : Prop := (q ∈ sL sh ∧ sK sh q = 5) ∧ Q sh ci ai al
set_option maxHeartbeats 4000000 in
set_option maxRecDepth 100000 in
theorem p_X6_init (l : Launch) (dC : Nat → ClassId) (dI : Nat → Nat → Nat) (sh : Sh) (ci : Nat → Nat → Int32) (ai : Nat → Nat → Int32) (al : Nat → Nat → Int64) (q : Nat)  (Q : Sh → (Nat → Nat → Int32) → (Nat → Nat → Int32) → (Nat → Nat → Int64) → Prop) (h : P_X6_init sh ci ai al q  Q) (sz : Nat) : Met l yX6_init wmX6_init ({ frames := 8, cells := 0, slots := 0, locals := 120 }) (va_Pc [.ref q] (cPre dC dI sh ci ai al sz)) (va_Qv (S := XSt) (xV Q) (xB dC dI (va_A (cW sh ci ai al) sz)) (va_A (cW sh ci ai al) sz)) 0 0 (va_A (cW sh ci ai al) sz) := by
  refine Met.ofW (cc := cX6_init) (maxL := 1) (ret := none) (by decide) rfl ?_
  intro p e s m args below meth c s₁ B hml hv
  obtain ⟨rfl, hsz, hP, hK, hD0, hG⟩ := hv
  have hx := B.exec
  have hb := B.bytes
  have hr := B.returns
  have hts : ∀ w ∈ WC, w.before _ s = true := fun w h => atoms_spec (ws := wmX6_init) B.pre w (List.mem_cons_of_mem _ h)
  have hown : s.vm.findClass RX6 = some m.cls := findClass_of_methodNamed B.named
  have hlocks := B.notSynchronized
  have hin : meth.name = "<init>" := (name_of_methodNamed B.named B.method).1
  subst hsz
  have hD := hD0.self (sz := s.heap.size)
  generalize hAe : va_A (cW sh ci ai al) s.heap.size = A at hD ⊢
  have hA : ∀ q : Nat, s.heap.size ≤ q → A q := fun q h => by rw [← hAe]; exact Or.inr h
  generalize hH : s.heap = H at hP ⊢
  have hS : va_S A s.heap H [] := by rw [← hH]; exact va_S.rf
  have hl := lv_entry [.ref q] (n := 1) (Nat.le_of_ble_eq_true rfl)
  rw [lg_entry_eq]
  generalize (lg_sl [.ref q] ++ List.replicate (1 - (lg_sl [.ref q]).length) Slot.unset).toArray = ls at hl ⊢
  have hl : lv_has ls 1 [(0, .ref q)] := hl
  unfold P_X6_init at h
  obtain ⟨⟨hq, hk⟩, h⟩ := h
  refine lv_aload_n hx hb dX6_init_0 rfl (lv_at hl 0 rfl) ?_
  refine W.objInit hx hb hown (hts _ mwC_349) (hts _ mwC_350) (hts _ mwC_351) rfl (by rw [hml]; exact hl.1) rfl dX6_init_1 (Nat.le_of_ble_eq_true rfl) (Nat.le_of_ble_eq_true rfl) ?_
  refine W.eq (g2 := F0 m 4 ls []) rfl ?_
  refine W.widen (k := 0) (n := 0) (by decide) (by decide) ?_
  exact W.vret hx hb hr (fun t ht hW => ⟨⟨(sh, ci, ai, al), rfl, h, by rw [ht]; exact hP, cK.moved hW.alike hK, hD⟩, hS.F ht⟩) hS.2.2 dX6_init_4
abbrev wmX5_init : List Cond := .code yX5_init cX5_init 3 none :: WC
theorem hd_X5_init : yX5_init.cls ≠ "java/lang/invoke/MethodHandle" ∧ yX5_init.cls ≠ "java/lang/invoke/VarHandle" ∧ (parseMethodDescriptor yX5_init.desc).map (fun d => d.parameters.length) = some 2 := by decide +kernel
def P_X5_init (sh : Sh) (ci : Nat → Nat → Int32) (ai : Nat → Nat → Int32) (al : Nat → Nat → Int64) (q : Nat) (p0 : Nat) (p1 : Nat) (Q : Sh → (Nat → Nat → Int32) → (Nat → Nat → Int32) → (Nat → Nat → Int64) → Prop) : Prop := (q ∈ sL sh ∧ isZ (sK sh q)) ∧ ∀ sh1 : Sh, sh1 = shR sh q 0 (some p0) → (q ∈ sL sh1 ∧ isZ (sK sh1 q)) ∧ ∀ sh5 : Sh, sh5 = shR sh1 q 1 (some p1) → (p1 ∈ sL sh5 ∧ sK sh5 p1 = 22) ∧ ¬ (nI (sN sh5 p1)) < 0 ∧ (nI (sN sh5 p1)).toNatClampNeg ≤ 400 ∧ ∀ (q9 : Nat) (cA9 : ClassId) (sh10 : Sh), q9 ∉ sL sh5 → sh10 = shN sh5 q9 21 (nI (sN sh5 p1)).toNatClampNeg cA9 → (q ∈ sL sh10 ∧ isZ (sK sh10 q)) ∧ ∀ sh17 : Sh, sh17 = shR sh10 q 2 (some q9) → Q sh17 ci (va_up ai q9 (fun _ => 0)) al
set_option maxHeartbeats 4000000 in
set_option maxRecDepth 100000 in
theorem p_X5_init (l : Launch) (dC : Nat → ClassId) (dI : Nat → Nat → Nat) (sh : Sh) (ci : Nat → Nat → Int32) (ai : Nat → Nat → Int32) (al : Nat → Nat → Int64) (q : Nat) (p0 : Nat) (p1 : Nat) (Q : Sh → (Nat → Nat → Int32) → (Nat → Nat → Int32) → (Nat → Nat → Int64) → Prop) (h : P_X5_init sh ci ai al q p0 p1 Q) (sz : Nat) : Met l yX5_init wmX5_init ({ frames := 12, cells := 1, slots := 400, locals := 200 }) (va_Pc [.ref q, .ref p0, .ref p1] (cPre dC dI sh ci ai al sz)) (va_Qv (S := XSt) (xV Q) (xB dC dI (va_A (cW sh ci ai al) sz)) (va_A (cW sh ci ai al) sz)) 1 400 (va_A (cW sh ci ai al) sz) := by
  refine Met.ofW (cc := cX5_init) (maxL := 3) (ret := none) (by decide) rfl ?_
  intro p e s m args below meth c s₁ B hml hv
  obtain ⟨rfl, hsz, hP, hK, hD0, hG⟩ := hv
  have hx := B.exec
  have hb := B.bytes
  have hr := B.returns
  have hts : ∀ w ∈ WC, w.before _ s = true := fun w h => atoms_spec (ws := wmX5_init) B.pre w (List.mem_cons_of_mem _ h)
  have hown : s.vm.findClass RX5 = some m.cls := findClass_of_methodNamed B.named
  have hlocks := B.notSynchronized
  have hin : meth.name = "<init>" := (name_of_methodNamed B.named B.method).1
  subst hsz
  have hD := hD0.self (sz := s.heap.size)
  generalize hAe : va_A (cW sh ci ai al) s.heap.size = A at hD ⊢
  have hA : ∀ q : Nat, s.heap.size ≤ q → A q := fun q h => by rw [← hAe]; exact Or.inr h
  generalize hH : s.heap = H at hP ⊢
  have hS : va_S A s.heap H [] := by rw [← hH]; exact va_S.rf
  have hl := lv_entry [.ref q, .ref p0, .ref p1] (n := 3) (Nat.le_of_ble_eq_true rfl)
  rw [lg_entry_eq]
  generalize (lg_sl [.ref q, .ref p0, .ref p1] ++ List.replicate (3 - (lg_sl [.ref q, .ref p0, .ref p1]).length) Slot.unset).toArray = ls at hl ⊢
  have hl : lv_has ls 3 [(0, .ref q), (1, .ref p0), (2, .ref p1)] := hl
  unfold P_X5_init at h
  obtain ⟨⟨hq, hk⟩, h⟩ := h
  refine lv_aload_n hx hb dX5_init_0 rfl (lv_at hl 0 rfl) ?_
  refine W.objInit hx hb hown (hts _ mwC_352) (hts _ mwC_350) (hts _ mwC_351) rfl (by rw [hml]; exact hl.1) rfl dX5_init_1 (Nat.le_of_ble_eq_true rfl) (Nat.le_of_ble_eq_true rfl) ?_
  refine W.eq (g2 := F0 m 4 ls []) rfl ?_
  refine lv_aload_n hx hb dX5_init_4 rfl (lv_at hl 0 rfl) ?_
  refine lv_aload_n hx hb dX5_init_5 rfl (lv_at hl 1 rfl) ?_
  refine x_putZ0 hx hb hts hown hK hP hD hS hq hk hin (hts _ mwC_325) dX5_init_6 (fun sh1 H locs es2 hK hP hD hS => ?_)
  have h := h sh1 es2
  refine lv_aload_n hx hb dX5_init_9 rfl (lv_at hl 0 rfl) ?_
  refine lv_aload_n hx hb dX5_init_10 rfl (lv_at hl 2 rfl) ?_
  obtain ⟨⟨hm3, hk4⟩, h⟩ := h
  refine x_putZ1 hx hb hts hown hK hP hD hS hm3 hk4 hin (hts _ mwC_90) dX5_init_11 (fun sh5 H locs es6 hK hP hD hS => ?_)
  have h := h sh5 es6
  refine lv_aload_n hx hb dX5_init_14 rfl (lv_at hl 0 rfl) ?_
  refine lv_aload_n hx hb dX5_init_15 rfl (lv_at hl 2 rfl) ?_
  obtain ⟨⟨hm7, hk8⟩, h⟩ := h
  refine c_alen hx hb hK hP hm7 (Or.inr (Or.inr (Or.inl hk8))) dX5_init_16 ?_
  obtain ⟨h013, h414, h⟩ := h
  refine x_newb (n := (nI (sN sh5 p1))) hx hb (hts _ mwC_344) hK hP hD hS hA h013 h414 (Nat.le_of_ble_eq_true rfl) (Nat.le_of_ble_eq_true rfl) dX5_init_17 (fun q9 cA9 sh10 H hn12 es11 hK hP hD hS => ?_)
  have h := h q9 cA9 sh10 hn12 es11
  obtain ⟨⟨hm15, hk16⟩, h⟩ := h
  refine x_putZ2 hx hb hts hown hK hP hD hS hm15 hk16 hin (hts _ mwC_104) dX5_init_19 (fun sh17 H locs es18 hK hP hD hS => ?_)
  have h := h sh17 es18
  refine W.widen (k := 1) (n := 400) (by decide) (by decide) ?_
  exact W.vret hx hb hr (fun t ht hW => ⟨⟨(sh17, ci, va_up ai q9 (fun _ => 0), al), rfl, h, by rw [ht]; exact hP, cK.moved hW.alike hK, hD⟩, hS.F ht⟩) hS.2.2 dX5_init_22
abbrev wmX0_init : List Cond := .code yX0_init cX0_init 8 none :: WC
theorem hd_X0_init : yX0_init.cls ≠ "java/lang/invoke/MethodHandle" ∧ yX0_init.cls ≠ "java/lang/invoke/VarHandle" ∧ (parseMethodDescriptor yX0_init.desc).map (fun d => d.parameters.length) = some 5 := by decide +kernel
def P_X0_init (sh : Sh) (ci : Nat → Nat → Int32) (ai : Nat → Nat → Int32) (al : Nat → Nat → Int64) (q : Nat) (p0 : Nat) (p1 : Nat) (p2 : Int32) (p3 : Int64) (p4 : Int64) (Q : Sh → (Nat → Nat → Int32) → (Nat → Nat → Int32) → (Nat → Nat → Int64) → Prop) : Prop := (q ∈ sL sh ∧ sK sh q = 0) ∧ ∀ (q1 : Nat) (cA1 : ClassId) (sh2 : Sh), q1 ∉ sL sh → sh2 = shN sh q1 22 (400 : Int32).toNatClampNeg cA1 → (q ∈ sL sh2 ∧ isZ (sK sh2 q)) ∧ P_X5_init sh2 ci ai (va_up al q1 (fun _ => 0)) q p0 q1 (fun sh7 ci7 ai7 al7 => (q ∈ sL sh7 ∧ sK sh7 q = 0) ∧ ∀ sh10 : Sh, sh10 = shR sh7 q 5 (some p1) → (q ∈ sL sh10 ∧ sK sh10 q = 0) ∧ ∀ sh16 : Sh, sh16 = shJ sh10 q 7 p3 → (q ∈ sL sh16 ∧ sK sh16 q = 0) ∧ ∀ sh20 : Sh, sh20 = shJ sh16 q 8 p4 → Q sh20 (va_up ci7 q (va_up (ci7 q) 6 p2)) ai7 al7)
set_option maxHeartbeats 4000000 in
set_option maxRecDepth 100000 in
theorem p_X0_init (l : Launch) (dC : Nat → ClassId) (dI : Nat → Nat → Nat) (sh : Sh) (ci : Nat → Nat → Int32) (ai : Nat → Nat → Int32) (al : Nat → Nat → Int64) (q : Nat) (p0 : Nat) (p1 : Nat) (p2 : Int32) (p3 : Int64) (p4 : Int64) (Q : Sh → (Nat → Nat → Int32) → (Nat → Nat → Int32) → (Nat → Nat → Int64) → Prop) (h : P_X0_init sh ci ai al q p0 p1 p2 p3 p4 Q) (sz : Nat) : Met l yX0_init wmX0_init ({ frames := 30, cells := 2, slots := 800, locals := 400 }) (va_Pc [.ref q, .ref p0, .ref p1, .int p2, .long p3, .long p4] (cPre dC dI sh ci ai al sz)) (va_Qv (S := XSt) (xV Q) (xB dC dI (va_A (cW sh ci ai al) sz)) (va_A (cW sh ci ai al) sz)) 2 800 (va_A (cW sh ci ai al) sz) := by
  refine Met.ofW (cc := cX0_init) (maxL := 8) (ret := none) (by decide) rfl ?_
  intro p e s m args below meth c s₁ B hml hv
  obtain ⟨rfl, hsz, hP, hK, hD0, hG⟩ := hv
  have hx := B.exec
  have hb := B.bytes
  have hr := B.returns
  have hts : ∀ w ∈ WC, w.before _ s = true := fun w h => atoms_spec (ws := wmX0_init) B.pre w (List.mem_cons_of_mem _ h)
  have hown : s.vm.findClass RX0 = some m.cls := findClass_of_methodNamed B.named
  have hlocks := B.notSynchronized
  have hin : meth.name = "<init>" := (name_of_methodNamed B.named B.method).1
  subst hsz
  have hD := hD0.self (sz := s.heap.size)
  generalize hAe : va_A (cW sh ci ai al) s.heap.size = A at hD ⊢
  have hA : ∀ q : Nat, s.heap.size ≤ q → A q := fun q h => by rw [← hAe]; exact Or.inr h
  generalize hH : s.heap = H at hP ⊢
  have hS : va_S A s.heap H [] := by rw [← hH]; exact va_S.rf
  have hl := lv_entry [.ref q, .ref p0, .ref p1, .int p2, .long p3, .long p4] (n := 8) (Nat.le_of_ble_eq_true rfl)
  rw [lg_entry_eq]
  generalize (lg_sl [.ref q, .ref p0, .ref p1, .int p2, .long p3, .long p4] ++ List.replicate (8 - (lg_sl [.ref q, .ref p0, .ref p1, .int p2, .long p3, .long p4]).length) Slot.unset).toArray = ls at hl ⊢
  have hl : lv_has ls 8 [(0, .ref q), (1, .ref p0), (2, .ref p1), (3, .int p2), (4, .long p3), (6, .long p4)] := hl
  unfold P_X0_init at h
  obtain ⟨⟨hq, hk⟩, h⟩ := h
  refine lv_aload_n hx hb dX0_init_0 rfl (lv_at hl 0 rfl) ?_
  refine lv_aload_n hx hb dX0_init_1 rfl (lv_at hl 1 rfl) ?_
  refine lv_sipush (v := 400) hx hb dX0_init_2 (by decide) ?_
  refine x_newl (n := (400 : Int32)) hx hb (hts _ mwC_332) hK hP hD hS hA (by decide) (by decide) (Nat.le_of_ble_eq_true rfl) (Nat.le_of_ble_eq_true rfl) dX0_init_5 (fun q1 cA1 sh2 H hn4 es3 hK hP hD hS => ?_)
  have h := h q1 cA1 sh2 hn4 es3
  obtain ⟨⟨hm5, hk6⟩, h⟩ := h
  refine xn_endv (va_runI (rm := ({ frames := 12, cells := 1, slots := 400, locals := 200 })) (As := [.ref p0, .ref q1]) (rest := []) ⟨hx, hb, hml, hown, hts⟩ (p_X5_init l dC dI _ _ _ _ q p0 q1 _ h H.size) (cwI 2 hts (g_C gdC mwC_353) rfl rfl rfl (hts _ mwC_22) (hts _ mwC_354) (hts _ mwC_355) rfl hd_X5_init ⟨Nat.le_of_ble_eq_true rfl, Nat.le_of_ble_eq_true rfl⟩) (c_preS hK hP hD hG) rfl rfl hl.1 rfl (lv_room (Nat.le_of_ble_eq_true rfl)) dX0_init_7 ⟨Nat.le_of_ble_eq_true rfl, Nat.le_of_ble_eq_true rfl⟩) hD hS hA (fun sh7 ci7 ai7 al7 H locs h hK hP hD hS => ?_)
  refine lv_aload_n hx hb dX0_init_10 rfl (lv_at hl 0 rfl) ?_
  refine lv_aload_n hx hb dX0_init_11 rfl (lv_at hl 2 rfl) ?_
  obtain ⟨⟨hm8, hk9⟩, h⟩ := h
  refine x_putR (r := some p1) (C := RX0) (T := TX0) (N := 9) (K := 0) hx hb hts hinX0 tyX0 tyX0_ok nmX0 hown hK hP hD hS hm8 hk9 (by decide) rfl 5 (by decide) (hts _ mwC_190) (fun _ h9 => h9) rfl hin rfl (ty := (.object "NeededLists$LazyList")) (by decide +kernel) rfl rfl (Nat.le_of_ble_eq_true rfl) rfl dX0_init_12 (fun sh10 H locs es11 hK hP hD hS => ?_)
  have h := h sh10 es11
  refine lv_aload_n hx hb dX0_init_15 rfl (lv_at hl 0 rfl) ?_
  refine lv_iload_n hx hb dX0_init_16 rfl (lv_at hl 3 rfl) ?_
  obtain ⟨⟨hm12, hk13⟩, h⟩ := h
  refine x_putI (z := p2) (C := RX0) (T := TX0) (N := 9) (K := 0) hx hb hts hinX0 tyX0 tyX0_ok nmX0 hown hK hP hD hS hm12 hk13 (by decide) rfl 6 (by decide) (hts _ mwC_238) (fun _ h9 => h9) rfl hin rfl (ty := .int) (by decide +kernel) rfl rfl (Nat.le_of_ble_eq_true rfl) rfl dX0_init_17 (fun H locs hP hD hS => ?_)
  refine lv_aload_n hx hb dX0_init_20 rfl (lv_at hl 0 rfl) ?_
  refine lv_lload hx hb dX0_init_21 (lv_at hl 4 rfl) ?_
  refine x_putJ (z := p3) (C := RX0) (T := TX0) (N := 9) (K := 0) hx hb hts hinX0 tyX0 tyX0_ok nmX0 hown hK hP hD hS hm12 hk13 (by decide) rfl 7 (by decide) (hts _ mwC_239) (fun _ h9 => h9) rfl hin rfl (ty := .long) (by decide +kernel) rfl rfl (Nat.le_of_ble_eq_true rfl) rfl dX0_init_23 (fun sh16 H locs es17 hK hP hD hS => ?_)
  have h := h sh16 es17
  refine lv_aload_n hx hb dX0_init_26 rfl (lv_at hl 0 rfl) ?_
  refine lv_lload hx hb dX0_init_27 (lv_at hl 5 rfl) ?_
  obtain ⟨⟨hm18, hk19⟩, h⟩ := h
  refine x_putJ (z := p4) (C := RX0) (T := TX0) (N := 9) (K := 0) hx hb hts hinX0 tyX0 tyX0_ok nmX0 hown hK hP hD hS hm18 hk19 (by decide) rfl 8 (by decide) (hts _ mwC_255) (fun _ h9 => h9) rfl hin rfl (ty := .long) (by decide +kernel) rfl rfl (Nat.le_of_ble_eq_true rfl) rfl dX0_init_29 (fun sh20 H locs es21 hK hP hD hS => ?_)
  have h := h sh20 es21
  refine W.widen (k := 2) (n := 800) (by decide) (by decide) ?_
  exact W.vret hx hb hr (fun t ht hW => ⟨⟨(sh20, va_up ci7 q (va_up (ci7 q) 6 p2), ai7, al7), rfl, h, by rw [ht]; exact hP, cK.moved hW.alike hK, hD⟩, hS.F ht⟩) hS.2.2 dX0_init_32
abbrev wmX1_init : List Cond := .code yX1_init cX1_init 7 none :: WC
theorem hd_X1_init : yX1_init.cls ≠ "java/lang/invoke/MethodHandle" ∧ yX1_init.cls ≠ "java/lang/invoke/VarHandle" ∧ (parseMethodDescriptor yX1_init.desc).map (fun d => d.parameters.length) = some 5 := by decide +kernel
def P_X1_init (sh : Sh) (ci : Nat → Nat → Int32) (ai : Nat → Nat → Int32) (al : Nat → Nat → Int64) (q : Nat) (p0 : Nat) (p1 : Nat) (p2 : Nat) (p3 : Int32) (p4 : Int64) (Q : Sh → (Nat → Nat → Int32) → (Nat → Nat → Int32) → (Nat → Nat → Int64) → Prop) : Prop := (q ∈ sL sh ∧ sK sh q = 1) ∧ ∀ (q1 : Nat) (cA1 : ClassId) (sh2 : Sh), q1 ∉ sL sh → sh2 = shN sh q1 22 (400 : Int32).toNatClampNeg cA1 → (q ∈ sL sh2 ∧ isZ (sK sh2 q)) ∧ P_X5_init sh2 ci ai (va_up al q1 (fun _ => 0)) q p0 q1 (fun sh7 ci7 ai7 al7 => (q ∈ sL sh7 ∧ sK sh7 q = 1) ∧ ∀ sh10 : Sh, sh10 = shR sh7 q 5 (some p1) → (q ∈ sL sh10 ∧ sK sh10 q = 1) ∧ ∀ sh14 : Sh, sh14 = shR sh10 q 6 (some p2) → (q ∈ sL sh14 ∧ sK sh14 q = 1) ∧ ∀ sh20 : Sh, sh20 = shJ sh14 q 8 p4 → Q sh20 (va_up ci7 q (va_up (ci7 q) 7 p3)) ai7 al7)
set_option maxHeartbeats 4000000 in
set_option maxRecDepth 100000 in
theorem p_X1_init (l : Launch) (dC : Nat → ClassId) (dI : Nat → Nat → Nat) (sh : Sh) (ci : Nat → Nat → Int32) (ai : Nat → Nat → Int32) (al : Nat → Nat → Int64) (q : Nat) (p0 : Nat) (p1 : Nat) (p2 : Nat) (p3 : Int32) (p4 : Int64) (Q : Sh → (Nat → Nat → Int32) → (Nat → Nat → Int32) → (Nat → Nat → Int64) → Prop) (h : P_X1_init sh ci ai al q p0 p1 p2 p3 p4 Q) (sz : Nat) : Met l yX1_init wmX1_init ({ frames := 30, cells := 2, slots := 800, locals := 400 }) (va_Pc [.ref q, .ref p0, .ref p1, .ref p2, .int p3, .long p4] (cPre dC dI sh ci ai al sz)) (va_Qv (S := XSt) (xV Q) (xB dC dI (va_A (cW sh ci ai al) sz)) (va_A (cW sh ci ai al) sz)) 2 800 (va_A (cW sh ci ai al) sz) := by
  refine Met.ofW (cc := cX1_init) (maxL := 7) (ret := none) (by decide) rfl ?_
  intro p e s m args below meth c s₁ B hml hv
  obtain ⟨rfl, hsz, hP, hK, hD0, hG⟩ := hv
  have hx := B.exec
  have hb := B.bytes
  have hr := B.returns
  have hts : ∀ w ∈ WC, w.before _ s = true := fun w h => atoms_spec (ws := wmX1_init) B.pre w (List.mem_cons_of_mem _ h)
  have hown : s.vm.findClass RX1 = some m.cls := findClass_of_methodNamed B.named
  have hlocks := B.notSynchronized
  have hin : meth.name = "<init>" := (name_of_methodNamed B.named B.method).1
  subst hsz
  have hD := hD0.self (sz := s.heap.size)
  generalize hAe : va_A (cW sh ci ai al) s.heap.size = A at hD ⊢
  have hA : ∀ q : Nat, s.heap.size ≤ q → A q := fun q h => by rw [← hAe]; exact Or.inr h
  generalize hH : s.heap = H at hP ⊢
  have hS : va_S A s.heap H [] := by rw [← hH]; exact va_S.rf
  have hl := lv_entry [.ref q, .ref p0, .ref p1, .ref p2, .int p3, .long p4] (n := 7) (Nat.le_of_ble_eq_true rfl)
  rw [lg_entry_eq]
  generalize (lg_sl [.ref q, .ref p0, .ref p1, .ref p2, .int p3, .long p4] ++ List.replicate (7 - (lg_sl [.ref q, .ref p0, .ref p1, .ref p2, .int p3, .long p4]).length) Slot.unset).toArray = ls at hl ⊢
  have hl : lv_has ls 7 [(0, .ref q), (1, .ref p0), (2, .ref p1), (3, .ref p2), (4, .int p3), (5, .long p4)] := hl
  unfold P_X1_init at h
  obtain ⟨⟨hq, hk⟩, h⟩ := h
  refine lv_aload_n hx hb dX1_init_0 rfl (lv_at hl 0 rfl) ?_
  refine lv_aload_n hx hb dX1_init_1 rfl (lv_at hl 1 rfl) ?_
  refine lv_sipush (v := 400) hx hb dX1_init_2 (by decide) ?_
  refine x_newl (n := (400 : Int32)) hx hb (hts _ mwC_332) hK hP hD hS hA (by decide) (by decide) (Nat.le_of_ble_eq_true rfl) (Nat.le_of_ble_eq_true rfl) dX1_init_5 (fun q1 cA1 sh2 H hn4 es3 hK hP hD hS => ?_)
  have h := h q1 cA1 sh2 hn4 es3
  obtain ⟨⟨hm5, hk6⟩, h⟩ := h
  refine xn_endv (va_runI (rm := ({ frames := 12, cells := 1, slots := 400, locals := 200 })) (As := [.ref p0, .ref q1]) (rest := []) ⟨hx, hb, hml, hown, hts⟩ (p_X5_init l dC dI _ _ _ _ q p0 q1 _ h H.size) (cwI 2 hts (g_C gdC mwC_353) rfl rfl rfl (hts _ mwC_22) (hts _ mwC_356) (hts _ mwC_355) rfl hd_X5_init ⟨Nat.le_of_ble_eq_true rfl, Nat.le_of_ble_eq_true rfl⟩) (c_preS hK hP hD hG) rfl rfl hl.1 rfl (lv_room (Nat.le_of_ble_eq_true rfl)) dX1_init_7 ⟨Nat.le_of_ble_eq_true rfl, Nat.le_of_ble_eq_true rfl⟩) hD hS hA (fun sh7 ci7 ai7 al7 H locs h hK hP hD hS => ?_)
  refine lv_aload_n hx hb dX1_init_10 rfl (lv_at hl 0 rfl) ?_
  refine lv_aload_n hx hb dX1_init_11 rfl (lv_at hl 2 rfl) ?_
  obtain ⟨⟨hm8, hk9⟩, h⟩ := h
  refine x_putR (r := some p1) (C := RX1) (T := TX1) (N := 9) (K := 1) hx hb hts hinX1 tyX1 tyX1_ok nmX1 hown hK hP hD hS hm8 hk9 (by decide) rfl 5 (by decide) (hts _ mwC_192) (fun _ h9 => h9) rfl hin rfl (ty := (.object "NeededLists$LazyList")) (by decide +kernel) rfl rfl (Nat.le_of_ble_eq_true rfl) rfl dX1_init_12 (fun sh10 H locs es11 hK hP hD hS => ?_)
  have h := h sh10 es11
  refine lv_aload_n hx hb dX1_init_15 rfl (lv_at hl 0 rfl) ?_
  refine lv_aload_n hx hb dX1_init_16 rfl (lv_at hl 3 rfl) ?_
  obtain ⟨⟨hm12, hk13⟩, h⟩ := h
  refine x_putR (r := some p2) (C := RX1) (T := TX1) (N := 9) (K := 1) hx hb hts hinX1 tyX1 tyX1_ok nmX1 hown hK hP hD hS hm12 hk13 (by decide) rfl 6 (by decide) (hts _ mwC_194) (fun _ h9 => h9) rfl hin rfl (ty := (.object "NeededLists$LazyList")) (by decide +kernel) rfl rfl (Nat.le_of_ble_eq_true rfl) rfl dX1_init_17 (fun sh14 H locs es15 hK hP hD hS => ?_)
  have h := h sh14 es15
  refine lv_aload_n hx hb dX1_init_20 rfl (lv_at hl 0 rfl) ?_
  refine lv_iload hx hb dX1_init_21 (lv_at hl 4 rfl) ?_
  obtain ⟨⟨hm16, hk17⟩, h⟩ := h
  refine x_putI (z := p3) (C := RX1) (T := TX1) (N := 9) (K := 1) hx hb hts hinX1 tyX1 tyX1_ok nmX1 hown hK hP hD hS hm16 hk17 (by decide) rfl 7 (by decide) (hts _ mwC_259) (fun _ h9 => h9) rfl hin rfl (ty := .int) (by decide +kernel) rfl rfl (Nat.le_of_ble_eq_true rfl) rfl dX1_init_23 (fun H locs hP hD hS => ?_)
  refine lv_aload_n hx hb dX1_init_26 rfl (lv_at hl 0 rfl) ?_
  refine lv_lload hx hb dX1_init_27 (lv_at hl 5 rfl) ?_
  refine x_putJ (z := p4) (C := RX1) (T := TX1) (N := 9) (K := 1) hx hb hts hinX1 tyX1 tyX1_ok nmX1 hown hK hP hD hS hm16 hk17 (by decide) rfl 8 (by decide) (hts _ mwC_260) (fun _ h9 => h9) rfl hin rfl (ty := .long) (by decide +kernel) rfl rfl (Nat.le_of_ble_eq_true rfl) rfl dX1_init_29 (fun sh20 H locs es21 hK hP hD hS => ?_)
  have h := h sh20 es21
  refine W.widen (k := 2) (n := 800) (by decide) (by decide) ?_
  exact W.vret hx hb hr (fun t ht hW => ⟨⟨(sh20, va_up ci7 q (va_up (ci7 q) 7 p3), ai7, al7), rfl, h, by rw [ht]; exact hP, cK.moved hW.alike hK, hD⟩, hS.F ht⟩) hS.2.2 dX1_init_32
abbrev wmX2_init : List Cond := .code yX2_init cX2_init 7 none :: WC
theorem hd_X2_init : yX2_init.cls ≠ "java/lang/invoke/MethodHandle" ∧ yX2_init.cls ≠ "java/lang/invoke/VarHandle" ∧ (parseMethodDescriptor yX2_init.desc).map (fun d => d.parameters.length) = some 5 := by decide +kernel
def P_X2_init (sh : Sh) (ci : Nat → Nat → Int32) (ai : Nat → Nat → Int32) (al : Nat → Nat → Int64) (q : Nat) (p0 : Nat) (p1 : Nat) (p2 : Int32) (p3 : Int32) (p4 : Int64) (Q : Sh → (Nat → Nat → Int32) → (Nat → Nat → Int32) → (Nat → Nat → Int64) → Prop) : Prop := (q ∈ sL sh ∧ sK sh q = 2) ∧ ∀ (q1 : Nat) (cA1 : ClassId) (sh2 : Sh), q1 ∉ sL sh → sh2 = shN sh q1 22 (0 : Int32).toNatClampNeg cA1 → (q ∈ sL sh2 ∧ isZ (sK sh2 q)) ∧ P_X5_init sh2 ci ai (va_up al q1 (fun _ => 0)) q p0 q1 (fun sh7 ci7 ai7 al7 => (q ∈ sL sh7 ∧ sK sh7 q = 2) ∧ ∀ sh10 : Sh, sh10 = shR sh7 q 5 (some p1) → (q ∈ sL sh10 ∧ sK sh10 q = 2) ∧ ∀ sh18 : Sh, sh18 = shJ sh10 q 8 p4 → Q sh18 (va_up (va_up ci7 q (va_up (ci7 q) 6 p2)) q (va_up ((va_up ci7 q (va_up (ci7 q) 6 p2)) q) 7 p3)) ai7 al7)
set_option maxHeartbeats 4000000 in
set_option maxRecDepth 100000 in
theorem p_X2_init (l : Launch) (dC : Nat → ClassId) (dI : Nat → Nat → Nat) (sh : Sh) (ci : Nat → Nat → Int32) (ai : Nat → Nat → Int32) (al : Nat → Nat → Int64) (q : Nat) (p0 : Nat) (p1 : Nat) (p2 : Int32) (p3 : Int32) (p4 : Int64) (Q : Sh → (Nat → Nat → Int32) → (Nat → Nat → Int32) → (Nat → Nat → Int64) → Prop) (h : P_X2_init sh ci ai al q p0 p1 p2 p3 p4 Q) (sz : Nat) : Met l yX2_init wmX2_init ({ frames := 30, cells := 2, slots := 800, locals := 400 }) (va_Pc [.ref q, .ref p0, .ref p1, .int p2, .int p3, .long p4] (cPre dC dI sh ci ai al sz)) (va_Qv (S := XSt) (xV Q) (xB dC dI (va_A (cW sh ci ai al) sz)) (va_A (cW sh ci ai al) sz)) 2 800 (va_A (cW sh ci ai al) sz) := by
  refine Met.ofW (cc := cX2_init) (maxL := 7) (ret := none) (by decide) rfl ?_
  intro p e s m args below meth c s₁ B hml hv
  obtain ⟨rfl, hsz, hP, hK, hD0, hG⟩ := hv
  have hx := B.exec
  have hb := B.bytes
  have hr := B.returns
  have hts : ∀ w ∈ WC, w.before _ s = true := fun w h => atoms_spec (ws := wmX2_init) B.pre w (List.mem_cons_of_mem _ h)
  have hown : s.vm.findClass RX2 = some m.cls := findClass_of_methodNamed B.named
  have hlocks := B.notSynchronized
  have hin : meth.name = "<init>" := (name_of_methodNamed B.named B.method).1
  subst hsz
  have hD := hD0.self (sz := s.heap.size)
  generalize hAe : va_A (cW sh ci ai al) s.heap.size = A at hD ⊢
  have hA : ∀ q : Nat, s.heap.size ≤ q → A q := fun q h => by rw [← hAe]; exact Or.inr h
  generalize hH : s.heap = H at hP ⊢
  have hS : va_S A s.heap H [] := by rw [← hH]; exact va_S.rf
  have hl := lv_entry [.ref q, .ref p0, .ref p1, .int p2, .int p3, .long p4] (n := 7) (Nat.le_of_ble_eq_true rfl)
  rw [lg_entry_eq]
  generalize (lg_sl [.ref q, .ref p0, .ref p1, .int p2, .int p3, .long p4] ++ List.replicate (7 - (lg_sl [.ref q, .ref p0, .ref p1, .int p2, .int p3, .long p4]).length) Slot.unset).toArray = ls at hl ⊢
  have hl : lv_has ls 7 [(0, .ref q), (1, .ref p0), (2, .ref p1), (3, .int p2), (4, .int p3), (5, .long p4)] := hl
  unfold P_X2_init at h
  obtain ⟨⟨hq, hk⟩, h⟩ := h
  refine lv_aload_n hx hb dX2_init_0 rfl (lv_at hl 0 rfl) ?_
  refine lv_aload_n hx hb dX2_init_1 rfl (lv_at hl 1 rfl) ?_
  refine lv_iconst (v := 0) hx hb dX2_init_2 (by decide) ?_
  refine x_newl (n := (0 : Int32)) hx hb (hts _ mwC_332) hK hP hD hS hA (by decide) (by decide) (Nat.le_of_ble_eq_true rfl) (Nat.le_of_ble_eq_true rfl) dX2_init_3 (fun q1 cA1 sh2 H hn4 es3 hK hP hD hS => ?_)
  have h := h q1 cA1 sh2 hn4 es3
  obtain ⟨⟨hm5, hk6⟩, h⟩ := h
  refine xn_endv (va_runI (rm := ({ frames := 12, cells := 1, slots := 400, locals := 200 })) (As := [.ref p0, .ref q1]) (rest := []) ⟨hx, hb, hml, hown, hts⟩ (p_X5_init l dC dI _ _ _ _ q p0 q1 _ h H.size) (cwI 2 hts (g_C gdC mwC_353) rfl rfl rfl (hts _ mwC_22) (hts _ mwC_357) (hts _ mwC_355) rfl hd_X5_init ⟨Nat.le_of_ble_eq_true rfl, Nat.le_of_ble_eq_true rfl⟩) (c_preS hK hP hD hG) rfl rfl hl.1 rfl (lv_room (Nat.le_of_ble_eq_true rfl)) dX2_init_5 ⟨Nat.le_of_ble_eq_true rfl, Nat.le_of_ble_eq_true rfl⟩) hD hS hA (fun sh7 ci7 ai7 al7 H locs h hK hP hD hS => ?_)
  refine lv_aload_n hx hb dX2_init_8 rfl (lv_at hl 0 rfl) ?_
  refine lv_aload_n hx hb dX2_init_9 rfl (lv_at hl 2 rfl) ?_
  obtain ⟨⟨hm8, hk9⟩, h⟩ := h
  refine x_putR (r := some p1) (C := RX2) (T := TX2) (N := 9) (K := 2) hx hb hts hinX2 tyX2 tyX2_ok nmX2 hown hK hP hD hS hm8 hk9 (by decide) rfl 5 (by decide) (hts _ mwC_17) (fun _ h9 => h9) rfl hin rfl (ty := (.object "NeededLists$LazyList")) (by decide +kernel) rfl rfl (Nat.le_of_ble_eq_true rfl) rfl dX2_init_10 (fun sh10 H locs es11 hK hP hD hS => ?_)
  have h := h sh10 es11
  refine lv_aload_n hx hb dX2_init_13 rfl (lv_at hl 0 rfl) ?_
  refine lv_iload_n hx hb dX2_init_14 rfl (lv_at hl 3 rfl) ?_
  obtain ⟨⟨hm12, hk13⟩, h⟩ := h
  refine x_putI (z := p2) (C := RX2) (T := TX2) (N := 9) (K := 2) hx hb hts hinX2 tyX2 tyX2_ok nmX2 hown hK hP hD hS hm12 hk13 (by decide) rfl 6 (by decide) (hts _ mwC_195) (fun _ h9 => h9) rfl hin rfl (ty := .int) (by decide +kernel) rfl rfl (Nat.le_of_ble_eq_true rfl) rfl dX2_init_15 (fun H locs hP hD hS => ?_)
  refine lv_aload_n hx hb dX2_init_18 rfl (lv_at hl 0 rfl) ?_
  refine lv_iload hx hb dX2_init_19 (lv_at hl 4 rfl) ?_
  refine x_putI (z := p3) (C := RX2) (T := TX2) (N := 9) (K := 2) hx hb hts hinX2 tyX2 tyX2_ok nmX2 hown hK hP hD hS hm12 hk13 (by decide) rfl 7 (by decide) (hts _ mwC_197) (fun _ h9 => h9) rfl hin rfl (ty := .int) (by decide +kernel) rfl rfl (Nat.le_of_ble_eq_true rfl) rfl dX2_init_21 (fun H locs hP hD hS => ?_)
  refine lv_aload_n hx hb dX2_init_24 rfl (lv_at hl 0 rfl) ?_
  refine lv_lload hx hb dX2_init_25 (lv_at hl 5 rfl) ?_
  refine x_putJ (z := p4) (C := RX2) (T := TX2) (N := 9) (K := 2) hx hb hts hinX2 tyX2 tyX2_ok nmX2 hown hK hP hD hS hm12 hk13 (by decide) rfl 8 (by decide) (hts _ mwC_200) (fun _ h9 => h9) rfl hin rfl (ty := .long) (by decide +kernel) rfl rfl (Nat.le_of_ble_eq_true rfl) rfl dX2_init_27 (fun sh18 H locs es19 hK hP hD hS => ?_)
  have h := h sh18 es19
  refine W.widen (k := 2) (n := 800) (by decide) (by decide) ?_
  exact W.vret hx hb hr (fun t ht hW => ⟨⟨(sh18, va_up (va_up ci7 q (va_up (ci7 q) 6 p2)) q (va_up ((va_up ci7 q (va_up (ci7 q) 6 p2)) q) 7 p3), ai7, al7), rfl, h, by rw [ht]; exact hP, cK.moved hW.alike hK, hD⟩, hS.F ht⟩) hS.2.2 dX2_init_30
