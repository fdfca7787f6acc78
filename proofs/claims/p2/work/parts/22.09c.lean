theorem dX7_insertPlace_0 : decode cX7_insertPlace 0 = .ok (.aload_n 0, 1) := by decide +kernel
theorem dX7_insertPlace_1 : decode cX7_insertPlace 1 = .ok (.getfield 9, 3) := by decide +kernel
theorem dX7_insertPlace_4 : decode cX7_insertPlace 4 = .ok (.iload_n 1, 1) := by decide +kernel
theorem dX7_insertPlace_5 : decode cX7_insertPlace 5 = .ok (.invokevirtual 37, 3) := by decide +kernel
theorem dX7_insertPlace_8 : decode cX7_insertPlace 8 = .ok (.lstore_n 2, 1) := by decide +kernel
theorem dX7_insertPlace_9 : decode cX7_insertPlace 9 = .ok (.iload_n 1, 1) := by decide +kernel
theorem dX7_insertPlace_10 : decode cX7_insertPlace 10 = .ok (.istore 4, 2) := by decide +kernel
theorem dX7_insertPlace_12 : decode cX7_insertPlace 12 = .ok (.iload 4, 2) := by decide +kernel
theorem dX7_insertPlace_14 : decode cX7_insertPlace 14 = .ok (.ifCond .le 46, 3) := by decide +kernel
theorem dX7_insertPlace_17 : decode cX7_insertPlace 17 = .ok (.aload_n 0, 1) := by decide +kernel
theorem dX7_insertPlace_18 : decode cX7_insertPlace 18 = .ok (.getfield 9, 3) := by decide +kernel
theorem dX7_insertPlace_21 : decode cX7_insertPlace 21 = .ok (.aload_n 0, 1) := by decide +kernel
theorem dX7_insertPlace_22 : decode cX7_insertPlace 22 = .ok (.getfield 15, 3) := by decide +kernel
theorem dX7_insertPlace_25 : decode cX7_insertPlace 25 = .ok (.iload 4, 2) := by decide +kernel
theorem dX7_insertPlace_27 : decode cX7_insertPlace 27 = .ok (.iconst 1, 1) := by decide +kernel
theorem dX7_insertPlace_28 : decode cX7_insertPlace 28 = .ok (.isub, 1) := by decide +kernel
theorem dX7_insertPlace_29 : decode cX7_insertPlace 29 = .ok (.iaload, 1) := by decide +kernel
theorem dX7_insertPlace_30 : decode cX7_insertPlace 30 = .ok (.invokevirtual 37, 3) := by decide +kernel
theorem dX7_insertPlace_33 : decode cX7_insertPlace 33 = .ok (.lload_n 2, 1) := by decide +kernel
theorem dX7_insertPlace_34 : decode cX7_insertPlace 34 = .ok (.lcmp, 1) := by decide +kernel
theorem dX7_insertPlace_35 : decode cX7_insertPlace 35 = .ok (.ifCond .le 25, 3) := by decide +kernel
theorem dX7_insertPlace_38 : decode cX7_insertPlace 38 = .ok (.aload_n 0, 1) := by decide +kernel
theorem dX7_insertPlace_39 : decode cX7_insertPlace 39 = .ok (.getfield 15, 3) := by decide +kernel
theorem dX7_insertPlace_42 : decode cX7_insertPlace 42 = .ok (.iload 4, 2) := by decide +kernel
theorem dX7_insertPlace_44 : decode cX7_insertPlace 44 = .ok (.aload_n 0, 1) := by decide +kernel
theorem dX7_insertPlace_45 : decode cX7_insertPlace 45 = .ok (.getfield 15, 3) := by decide +kernel
theorem dX7_insertPlace_48 : decode cX7_insertPlace 48 = .ok (.iload 4, 2) := by decide +kernel
theorem dX7_insertPlace_50 : decode cX7_insertPlace 50 = .ok (.iconst 1, 1) := by decide +kernel
theorem dX7_insertPlace_51 : decode cX7_insertPlace 51 = .ok (.isub, 1) := by decide +kernel
theorem dX7_insertPlace_52 : decode cX7_insertPlace 52 = .ok (.iaload, 1) := by decide +kernel
theorem dX7_insertPlace_53 : decode cX7_insertPlace 53 = .ok (.iastore, 1) := by decide +kernel
theorem dX7_insertPlace_54 : decode cX7_insertPlace 54 = .ok (.iinc 4 (-1), 3) := by decide +kernel
theorem dX7_insertPlace_57 : decode cX7_insertPlace 57 = .ok (.goto (-45), 3) := by decide +kernel
theorem dX7_insertPlace_60 : decode cX7_insertPlace 60 = .ok (.aload_n 0, 1) := by decide +kernel
theorem dX7_insertPlace_61 : decode cX7_insertPlace 61 = .ok (.getfield 15, 3) := by decide +kernel
theorem dX7_insertPlace_64 : decode cX7_insertPlace 64 = .ok (.iload 4, 2) := by decide +kernel
theorem dX7_insertPlace_66 : decode cX7_insertPlace 66 = .ok (.iload_n 1, 1) := by decide +kernel
theorem dX7_insertPlace_67 : decode cX7_insertPlace 67 = .ok (.iastore, 1) := by decide +kernel
theorem dX7_insertPlace_68 : decode cX7_insertPlace 68 = .ok (.return_, 1) := by decide +kernel
abbrev wmX7_insertPlace : List Cond := .code yX7_insertPlace cX7_insertPlace 5 none :: WC
theorem hd_X7_insertPlace : yX7_insertPlace.cls = RX7 ∧ yX7_insertPlace.cls ≠ "java/lang/invoke/MethodHandle" ∧ yX7_insertPlace.cls ≠ "java/lang/invoke/VarHandle" ∧ (parseMethodDescriptor yX7_insertPlace.desc).map (fun d => d.parameters.length) = some 1 := by decide +kernel
def B_X7_insertPlace_12 (sh : Sh)  (K12 : (Nat → Nat → Int32) → (Nat → Nat → Int32) → (Nat → Nat → Int64) → Int32 → Int64 → Int32 → Prop) (Q : (Nat → Nat → Int32) → (Nat → Nat → Int32) → (Nat → Nat → Int64) → Prop) (q : Nat) (ci : Nat → Nat → Int32) (ai : Nat → Nat → Int32) (al : Nat → Nat → Int64) (x1 : Int32) (x2 : Int64) (x4 : Int32) : Prop := ((x4 ≤ 0) → ((sR sh q 6 = none → False) ∧ (∀ q1 : Nat, sR sh q 6 = some q1 → ((q1 ∈ sL sh ∧ sK sh q1 = 20) ∧ vp_in x4 (sN sh q1) ∧ Q ci (va_up ai q1 (upd (ai q1) x4.toNatClampNeg x1)) al)))) ∧ ((¬ x4 ≤ 0) → (∃ q6 : Nat, sR sh q 5 = some q6 ∧ ((sR sh q 6 = none → False) ∧ (∀ q8 : Nat, sR sh q 6 = some q8 → ((q8 ∈ sL sh ∧ sK sh q8 = 20) ∧ vp_in (x4 - 1) (sN sh q8) ∧ (q6 ∈ sL sh ∧ isZ (sK sh q6)) ∧ P_X5_number_f sh 30 ci ai al q6 (ai q8 (x4 - 1).toNatClampNeg) (fun r15 => (((lg_cmp r15 x2) ≤ 0) → (vp_in x4 (sN sh q8) ∧ Q ci (va_up ai q8 (upd (ai q8) x4.toNatClampNeg x1)) al)) ∧ ((¬ (lg_cmp r15 x2) ≤ 0) → (vp_in (x4 - 1) (sN sh q8) ∧ vp_in x4 (sN sh q8) ∧ K12 ci (va_up ai q8 (upd (ai q8) x4.toNatClampNeg (ai q8 (x4 - 1).toNatClampNeg))) al x1 x2 (x4 + (-1))))))))))
def P_X7_insertPlace_12 (sh : Sh)  (Q : (Nat → Nat → Int32) → (Nat → Nat → Int32) → (Nat → Nat → Int64) → Prop) (q : Nat) : Nat → (Nat → Nat → Int32) → (Nat → Nat → Int32) → (Nat → Nat → Int64) → Int32 → Int64 → Int32 → Prop
  | 0 => fun _ _ _ _ _ _ => False
  | n + 1 => B_X7_insertPlace_12 sh  (P_X7_insertPlace_12 sh  Q q n) Q q
set_option maxHeartbeats 4000000 in
set_option maxRecDepth 100000 in
theorem b_X7_insertPlace_12 {p : Program} {l : Launch} {e : Env} {s : State} {m : MethodId} {args : Array Value} {below : List Frame} {meth : Method} {c : Code} {A : Nat → Prop} {dC : Nat → ClassId} {dI : Nat → Nat → Nat} {sh : Sh} {q : Nat}  {K12 : (Nat → Nat → Int32) → (Nat → Nat → Int32) → (Nat → Nat → Int64) → Int32 → Int64 → Int32 → Prop} {Q : (Nat → Nat → Int32) → (Nat → Nat → Int32) → (Nat → Nat → Int64) → Prop} (hx : p.tables.exec = Jvm.exec) (hb : c.code = cX7_insertPlace) (hr : meth.sig.returnType = none) (hts : ∀ w ∈ WC, w.before args s = true) (hown : s.vm.findClass RX7 = some m.cls) (hlocks : meth.locks = false) (hml : c.maxLocals = 5) (hA : ∀ q : Nat, s.heap.size ≤ q → A q) (hK : cK dC dI sh s) (hG : Gc s) (hq : q ∈ sL sh) (hk : sK sh q = 6)  (hK12 : ∀ (ci : Nat → Nat → Int32) (ai : Nat → Nat → Int32) (al : Nat → Nat → Int64) (x1 : Int32) (x2 : Int64) (x4 : Int32) (H : Heap) (locs : List Loc) (ls : Array Slot), K12 ci ai al x1 x2 x4 → va_P (dC, dI) vwCl (cW sh ci ai al) H → va_D A (cW sh ci ai al) → va_S A s.heap H locs → lv_has ls 5 [(0, .ref q), (1, .int x1), (2, .long x2), (4, .int x4)] → W p l e (headSpec wmX7_insertPlace ({ frames := 120, cells := 0, slots := 0, locals := 2400 })).room s m args below meth c H locs 0 0 (MQ below (va_Qv (S := CSt) (cV Q) (cB dC dI sh A) A) args s 0 0 A) (F0 m 12 ls [])) : ∀ (ci : Nat → Nat → Int32) (ai : Nat → Nat → Int32) (al : Nat → Nat → Int64) (x1 : Int32) (x2 : Int64) (x4 : Int32) (H : Heap) (locs : List Loc) (ls : Array Slot), B_X7_insertPlace_12 sh  K12 Q q ci ai al x1 x2 x4 → va_P (dC, dI) vwCl (cW sh ci ai al) H → va_D A (cW sh ci ai al) → va_S A s.heap H locs → lv_has ls 5 [(0, .ref q), (1, .int x1), (2, .long x2), (4, .int x4)] → W p l e (headSpec wmX7_insertPlace ({ frames := 120, cells := 0, slots := 0, locals := 2400 })).room s m args below meth c H locs 0 0 (MQ below (va_Qv (S := CSt) (cV Q) (cB dC dI sh A) A) args s 0 0 A) (F0 m 12 ls []) := by
  intro ci ai al x1 x2 x4 H locs ls h hP hD hS hl
  unfold B_X7_insertPlace_12 at h
  refine lv_iload hx hb dX7_insertPlace_12 (lv_at hl 3 rfl) ?_
  refine lv_if_le (tgt := 60) hx hb dX7_insertPlace_14 (by decide) (fun c_14 => ?_) (fun c_14 => ?_)
  · have h := h.1 c_14
    refine lv_aload_n hx hb dX7_insertPlace_60 rfl (lv_at hl 0 rfl) ?_
    rcases e2 : sR sh q 6 with _ | q1
    · have h := h.1 e2
      refine c_get (C := RX7) (T := TX7) (N := 7) (K := 6) (v := .null) hx hb hts hinX7 hown hK hP hq hk (by decide) rfl 6 (by decide) (hts _ mwC_37) (fun _ h9 => h9) (by show some (va_rf (sR sh q 6)) = _; rw [e2]; rfl) dX7_insertPlace_61 ?_
      refine lv_iload hx hb dX7_insertPlace_64 (lv_at hl 3 rfl) ?_
      refine lv_iload_n hx hb dX7_insertPlace_66 rfl (lv_at hl 1 rfl) ?_
      exact h.elim
    · have h := h.2 q1 e2
      refine c_get (C := RX7) (T := TX7) (N := 7) (K := 6) (v := .ref q1) hx hb hts hinX7 hown hK hP hq hk (by decide) rfl 6 (by decide) (hts _ mwC_37) (fun _ h9 => h9) (by show some (va_rf (sR sh q 6)) = _; rw [e2]; rfl) dX7_insertPlace_61 ?_
      refine lv_iload hx hb dX7_insertPlace_64 (lv_at hl 3 rfl) ?_
      refine lv_iload_n hx hb dX7_insertPlace_66 rfl (lv_at hl 1 rfl) ?_
      obtain ⟨⟨hm3, hk4⟩, h⟩ := h
      obtain ⟨hi5, h⟩ := h
      refine c_iast hx hb hK hP hD hS hm3 hk4 hi5 dX7_insertPlace_67 (fun H locs hP hD hS => ?_)
      exact W.vret hx hb hr (fun t ht hW => ⟨⟨(ci, va_up ai q1 (upd (ai q1) x4.toNatClampNeg x1), al), rfl, h, by rw [ht]; exact hP, cK.moved hW.alike hK, hD⟩, hS.F ht⟩) hS.2.2 dX7_insertPlace_68
  · have h := h.2 c_14
    refine lv_aload_n hx hb dX7_insertPlace_17 rfl (lv_at hl 0 rfl) ?_
    obtain ⟨q6, e7, h⟩ := h
    refine c_get (C := RX7) (T := TX7) (N := 7) (K := 6) (v := .ref q6) hx hb hts hinX7 hown hK hP hq hk (by decide) rfl 5 (by decide) (hts _ mwC_34) (fun _ h9 => h9) (by show some (va_rf (sR sh q 5)) = _; rw [e7]; rfl) dX7_insertPlace_18 ?_
    refine lv_aload_n hx hb dX7_insertPlace_21 rfl (lv_at hl 0 rfl) ?_
    rcases e9 : sR sh q 6 with _ | q8
    · have h := h.1 e9
      refine c_get (C := RX7) (T := TX7) (N := 7) (K := 6) (v := .null) hx hb hts hinX7 hown hK hP hq hk (by decide) rfl 6 (by decide) (hts _ mwC_37) (fun _ h9 => h9) (by show some (va_rf (sR sh q 6)) = _; rw [e9]; rfl) dX7_insertPlace_22 ?_
      refine lv_iload hx hb dX7_insertPlace_25 (lv_at hl 3 rfl) ?_
      refine lv_iconst (v := 1) hx hb dX7_insertPlace_27 (by decide) ?_
      refine lv_isub hx hb dX7_insertPlace_28 ?_
      exact h.elim
    · have h := h.2 q8 e9
      refine c_get (C := RX7) (T := TX7) (N := 7) (K := 6) (v := .ref q8) hx hb hts hinX7 hown hK hP hq hk (by decide) rfl 6 (by decide) (hts _ mwC_37) (fun _ h9 => h9) (by show some (va_rf (sR sh q 6)) = _; rw [e9]; rfl) dX7_insertPlace_22 ?_
      refine lv_iload hx hb dX7_insertPlace_25 (lv_at hl 3 rfl) ?_
      refine lv_iconst (v := 1) hx hb dX7_insertPlace_27 (by decide) ?_
      refine lv_isub hx hb dX7_insertPlace_28 ?_
      obtain ⟨⟨hm10, hk11⟩, h⟩ := h
      obtain ⟨hi12, h⟩ := h
      refine c_iald hx hb hK hP hm10 hk11 hi12 dX7_insertPlace_29 ?_
      obtain ⟨⟨hm13, hk14⟩, h⟩ := h
      refine r_endl (c_runZ (rm := ({ frames := 20 + 2 * 30, cells := 0, slots := 0, locals := 300 + 50 * 30 })) (y := yX5_number) (x := ⟨"NeededLists$LazyList", "number", "(I)J"⟩) (n := 1) (bytes := cX5_number) (maxL := 3) (ret := (some .long)) (q := q6) (As := [.int (ai q8 (x4 - 1).toNatClampNeg)]) (rest := []) ⟨hx, hb, hml, hown, hts⟩ (p_X5_number_f l dC dI sh 30 _ _ _ q6 (ai q8 (x4 - 1).toNatClampNeg) _ h H.size) mwC_143 mwC_92 mwC_93 mwC_22 mwC_94 mwC_95 mwC_96 mwC_97 mwC_98 mwC_99 mwC_100 mwC_101 mwC_102 mwC_103 rfl (by decide +kernel) rfl rfl ⟨(show 20 + 2 * 30 + 1 ≤ 120 by omega), (show 8 + (3 + 11) + (300 + 50 * 30) ≤ 2400 by omega)⟩ hK hP hD hG hm13 hk14 rfl hl.1 rfl (Nat.le_of_ble_eq_true rfl) ⟨Nat.le_of_ble_eq_true rfl, Nat.le_of_ble_eq_true rfl⟩ dX7_insertPlace_30) hP hS hA (fun r15 H locs h hP hS => ?_)
      refine lv_lload_n hx hb dX7_insertPlace_33 rfl (lv_at hl 2 rfl) ?_
      refine W.lcmp hx hb dX7_insertPlace_34 ?_
      refine lv_if_le (tgt := 60) hx hb dX7_insertPlace_35 (by decide) (fun c_35 => ?_) (fun c_35 => ?_)
      · have h := h.1 c_35
        refine lv_aload_n hx hb dX7_insertPlace_60 rfl (lv_at hl 0 rfl) ?_
        refine c_get (C := RX7) (T := TX7) (N := 7) (K := 6) (v := .ref q8) hx hb hts hinX7 hown hK hP hq hk (by decide) rfl 6 (by decide) (hts _ mwC_37) (fun _ h9 => h9) (by show some (va_rf (sR sh q 6)) = _; rw [e9]; rfl) dX7_insertPlace_61 ?_
        refine lv_iload hx hb dX7_insertPlace_64 (lv_at hl 3 rfl) ?_
        refine lv_iload_n hx hb dX7_insertPlace_66 rfl (lv_at hl 1 rfl) ?_
        obtain ⟨hi16, h⟩ := h
        refine c_iast hx hb hK hP hD hS hm10 hk11 hi16 dX7_insertPlace_67 (fun H locs hP hD hS => ?_)
        exact W.vret hx hb hr (fun t ht hW => ⟨⟨(ci, va_up ai q8 (upd (ai q8) x4.toNatClampNeg x1), al), rfl, h, by rw [ht]; exact hP, cK.moved hW.alike hK, hD⟩, hS.F ht⟩) hS.2.2 dX7_insertPlace_68
      · have h := h.2 c_35
        refine lv_aload_n hx hb dX7_insertPlace_38 rfl (lv_at hl 0 rfl) ?_
        refine c_get (C := RX7) (T := TX7) (N := 7) (K := 6) (v := .ref q8) hx hb hts hinX7 hown hK hP hq hk (by decide) rfl 6 (by decide) (hts _ mwC_37) (fun _ h9 => h9) (by show some (va_rf (sR sh q 6)) = _; rw [e9]; rfl) dX7_insertPlace_39 ?_
        refine lv_iload hx hb dX7_insertPlace_42 (lv_at hl 3 rfl) ?_
        refine lv_aload_n hx hb dX7_insertPlace_44 rfl (lv_at hl 0 rfl) ?_
        refine c_get (C := RX7) (T := TX7) (N := 7) (K := 6) (v := .ref q8) hx hb hts hinX7 hown hK hP hq hk (by decide) rfl 6 (by decide) (hts _ mwC_37) (fun _ h9 => h9) (by show some (va_rf (sR sh q 6)) = _; rw [e9]; rfl) dX7_insertPlace_45 ?_
        refine lv_iload hx hb dX7_insertPlace_48 (lv_at hl 3 rfl) ?_
        refine lv_iconst (v := 1) hx hb dX7_insertPlace_50 (by decide) ?_
        refine lv_isub hx hb dX7_insertPlace_51 ?_
        obtain ⟨hi17, h⟩ := h
        refine c_iald hx hb hK hP hm10 hk11 hi17 dX7_insertPlace_52 ?_
        obtain ⟨hi18, h⟩ := h
        refine c_iast hx hb hK hP hD hS hm10 hk11 hi18 dX7_insertPlace_53 (fun H locs hP hD hS => ?_)
        refine lv_iinc (v := x4 + (-1)) (lv' := [(4, .int (x4 + (-1))), (0, .ref q), (1, .int x1), (2, .long x2)]) hx hb dX7_insertPlace_54 hl (k := 3) rfl (iinc_m1 _) (by decide) rfl (fun ls hl => ?_)
        refine lv_goto (tgt := 12) hx hb dX7_insertPlace_57 (by decide) ?_
        exact hK12 _ _ _ _ _ _ H _ ls h hP hD hS (lv_sub hl [1, 2, 3, 0] rfl)
set_option maxHeartbeats 4000000 in
set_option maxRecDepth 100000 in
theorem t_X7_insertPlace_12 {p : Program} {l : Launch} {e : Env} {s : State} {m : MethodId} {args : Array Value} {below : List Frame} {meth : Method} {c : Code} {A : Nat → Prop} {dC : Nat → ClassId} {dI : Nat → Nat → Nat} {sh : Sh} {q : Nat}  {Q : (Nat → Nat → Int32) → (Nat → Nat → Int32) → (Nat → Nat → Int64) → Prop} (hx : p.tables.exec = Jvm.exec) (hb : c.code = cX7_insertPlace) (hr : meth.sig.returnType = none) (hts : ∀ w ∈ WC, w.before args s = true) (hown : s.vm.findClass RX7 = some m.cls) (hlocks : meth.locks = false) (hml : c.maxLocals = 5) (hA : ∀ q : Nat, s.heap.size ≤ q → A q) (hK : cK dC dI sh s) (hG : Gc s) (hq : q ∈ sL sh) (hk : sK sh q = 6)  : ∀ n : Nat, ∀ (ci : Nat → Nat → Int32) (ai : Nat → Nat → Int32) (al : Nat → Nat → Int64) (x1 : Int32) (x2 : Int64) (x4 : Int32) (H : Heap) (locs : List Loc) (ls : Array Slot), P_X7_insertPlace_12 sh  Q q n ci ai al x1 x2 x4 → va_P (dC, dI) vwCl (cW sh ci ai al) H → va_D A (cW sh ci ai al) → va_S A s.heap H locs → lv_has ls 5 [(0, .ref q), (1, .int x1), (2, .long x2), (4, .int x4)] → W p l e (headSpec wmX7_insertPlace ({ frames := 120, cells := 0, slots := 0, locals := 2400 })).room s m args below meth c H locs 0 0 (MQ below (va_Qv (S := CSt) (cV Q) (cB dC dI sh A) A) args s 0 0 A) (F0 m 12 ls []) := by
  intro n
  induction n with
  | zero => intro ci ai al x1 x2 x4 H locs ls h; exact h.elim
  | succ n ih => exact b_X7_insertPlace_12 hx hb hr hts hown hlocks hml hA hK hG hq hk  ih
def P_X7_insertPlace (sh : Sh) (ci : Nat → Nat → Int32) (ai : Nat → Nat → Int32) (al : Nat → Nat → Int64) (q : Nat) (p0 : Int32) (Q : (Nat → Nat → Int32) → (Nat → Nat → Int32) → (Nat → Nat → Int64) → Prop) : Prop := (q ∈ sL sh ∧ sK sh q = 6) ∧ ∃ q1 : Nat, sR sh q 5 = some q1 ∧ (q1 ∈ sL sh ∧ isZ (sK sh q1)) ∧ P_X5_number_f sh 30 ci ai al q1 p0 (fun r5 => ∃ n9 : Nat, P_X7_insertPlace_12 sh  Q q n9 ci ai al p0 r5 p0)
set_option maxHeartbeats 4000000 in
set_option maxRecDepth 100000 in
theorem p_X7_insertPlace (l : Launch) (dC : Nat → ClassId) (dI : Nat → Nat → Nat) (sh : Sh) (ci : Nat → Nat → Int32) (ai : Nat → Nat → Int32) (al : Nat → Nat → Int64) (q : Nat) (p0 : Int32) (Q : (Nat → Nat → Int32) → (Nat → Nat → Int32) → (Nat → Nat → Int64) → Prop) (h : P_X7_insertPlace sh ci ai al q p0 Q) (sz : Nat) : Met l yX7_insertPlace wmX7_insertPlace ({ frames := 120, cells := 0, slots := 0, locals := 2400 }) (va_Pc [.ref q, .int p0] (cPre dC dI sh ci ai al sz)) (va_Qv (S := CSt) (cV Q) (cB dC dI sh (va_A (cW sh ci ai al) sz)) (va_A (cW sh ci ai al) sz)) 0 0 (va_A (cW sh ci ai al) sz) := by
  refine Met.ofW (cc := cX7_insertPlace) (maxL := 5) (ret := none) (by decide) rfl ?_
  intro p e s m args below meth c s₁ B hml hv
  obtain ⟨rfl, hsz, hP, hK, hD0, hG⟩ := hv
  have hx := B.exec
  have hb := B.bytes
  have hr := B.returns
  have hts : ∀ w ∈ WC, w.before _ s = true := fun w h => atoms_spec (ws := wmX7_insertPlace) B.pre w (List.mem_cons_of_mem _ h)
  have hown : s.vm.findClass RX7 = some m.cls := findClass_of_methodNamed B.named
  have hlocks := B.notSynchronized
  subst hsz
  have hD := hD0.self (sz := s.heap.size)
  generalize hAe : va_A (cW sh ci ai al) s.heap.size = A at hD ⊢
  have hA : ∀ q : Nat, s.heap.size ≤ q → A q := fun q h => by rw [← hAe]; exact Or.inr h
  generalize hH : s.heap = H at hP ⊢
  have hS : va_S A s.heap H [] := by rw [← hH]; exact va_S.rf
  have hl := lv_entry [.ref q, .int p0] (n := 5) (Nat.le_of_ble_eq_true rfl)
  rw [lg_entry_eq]
  generalize (lg_sl [.ref q, .int p0] ++ List.replicate (5 - (lg_sl [.ref q, .int p0]).length) Slot.unset).toArray = ls at hl ⊢
  have hl : lv_has ls 5 [(0, .ref q), (1, .int p0)] := hl
  unfold P_X7_insertPlace at h
  obtain ⟨⟨hq, hk⟩, h⟩ := h
  refine lv_aload_n hx hb dX7_insertPlace_0 rfl (lv_at hl 0 rfl) ?_
  obtain ⟨q1, e2, h⟩ := h
  refine c_get (C := RX7) (T := TX7) (N := 7) (K := 6) (v := .ref q1) hx hb hts hinX7 hown hK hP hq hk (by decide) rfl 5 (by decide) (hts _ mwC_34) (fun _ h9 => h9) (by show some (va_rf (sR sh q 5)) = _; rw [e2]; rfl) dX7_insertPlace_1 ?_
  refine lv_iload_n hx hb dX7_insertPlace_4 rfl (lv_at hl 1 rfl) ?_
  obtain ⟨⟨hm3, hk4⟩, h⟩ := h
  refine r_endl (c_runZ (rm := ({ frames := 20 + 2 * 30, cells := 0, slots := 0, locals := 300 + 50 * 30 })) (y := yX5_number) (x := ⟨"NeededLists$LazyList", "number", "(I)J"⟩) (n := 1) (bytes := cX5_number) (maxL := 3) (ret := (some .long)) (q := q1) (As := [.int p0]) (rest := []) ⟨hx, hb, hml, hown, hts⟩ (p_X5_number_f l dC dI sh 30 _ _ _ q1 p0 _ h H.size) mwC_143 mwC_92 mwC_93 mwC_22 mwC_94 mwC_95 mwC_96 mwC_97 mwC_98 mwC_99 mwC_100 mwC_101 mwC_102 mwC_103 rfl (by decide +kernel) rfl rfl ⟨(show 20 + 2 * 30 + 1 ≤ 120 by omega), (show 8 + (3 + 11) + (300 + 50 * 30) ≤ 2400 by omega)⟩ hK hP hD hG hm3 hk4 rfl hl.1 rfl (Nat.le_of_ble_eq_true rfl) ⟨Nat.le_of_ble_eq_true rfl, Nat.le_of_ble_eq_true rfl⟩ dX7_insertPlace_5) hP hS hA (fun r5 H locs h hP hS => ?_)
  refine lv_lstore_n (lv' := [(2, .long r5), (0, .ref q), (1, .int p0)]) hx hb dX7_insertPlace_8 rfl hl (by decide) rfl (fun ls hl => ?_)
  refine lv_iload_n hx hb dX7_insertPlace_9 rfl (lv_at hl 2 rfl) ?_
  refine lv_istore (lv' := [(4, .int p0), (2, .long r5), (0, .ref q), (1, .int p0)]) hx hb dX7_insertPlace_10 hl (by decide) rfl (fun ls hl => ?_)
  obtain ⟨n9, h⟩ := h
  exact t_X7_insertPlace_12 hx hb hr hts hown hlocks hml hA hK hG hq hk  n9 _ _ _ _ _ _ H _ ls h hP hD hS (lv_sub hl [2, 3, 1, 0] rfl)
