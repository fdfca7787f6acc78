theorem dX0_workAhead_0 : decode cX0_workAhead 0 = .ok (.iload_n 1, 1) := by decide +kernel
theorem dX0_workAhead_1 : decode cX0_workAhead 1 = .ok (.iconst 1, 1) := by decide +kernel
theorem dX0_workAhead_2 : decode cX0_workAhead 2 = .ok (.isub, 1) := by decide +kernel
theorem dX0_workAhead_3 : decode cX0_workAhead 3 = .ok (.istore_n 2, 1) := by decide +kernel
theorem dX0_workAhead_4 : decode cX0_workAhead 4 = .ok (.iload_n 2, 1) := by decide +kernel
theorem dX0_workAhead_5 : decode cX0_workAhead 5 = .ok (.ifCond .le 17, 3) := by decide +kernel
theorem dX0_workAhead_8 : decode cX0_workAhead 8 = .ok (.aload_n 0, 1) := by decide +kernel
theorem dX0_workAhead_9 : decode cX0_workAhead 9 = .ok (.iload_n 2, 1) := by decide +kernel
theorem dX0_workAhead_10 : decode cX0_workAhead 10 = .ok (.invokevirtual 49, 3) := by decide +kernel
theorem dX0_workAhead_13 : decode cX0_workAhead 13 = .ok (.ifCond .ne 9, 3) := by decide +kernel
theorem dX0_workAhead_16 : decode cX0_workAhead 16 = .ok (.iinc 2 (-1), 3) := by decide +kernel
theorem dX0_workAhead_19 : decode cX0_workAhead 19 = .ok (.goto (-15), 3) := by decide +kernel
theorem dX0_workAhead_22 : decode cX0_workAhead 22 = .ok (.iconst 1, 1) := by decide +kernel
theorem dX0_workAhead_23 : decode cX0_workAhead 23 = .ok (.istore_n 3, 1) := by decide +kernel
theorem dX0_workAhead_24 : decode cX0_workAhead 24 = .ok (.iload_n 2, 1) := by decide +kernel
theorem dX0_workAhead_25 : decode cX0_workAhead 25 = .ok (.istore 4, 2) := by decide +kernel
theorem dX0_workAhead_27 : decode cX0_workAhead 27 = .ok (.iload 4, 2) := by decide +kernel
theorem dX0_workAhead_29 : decode cX0_workAhead 29 = .ok (.iload_n 1, 1) := by decide +kernel
theorem dX0_workAhead_30 : decode cX0_workAhead 30 = .ok (.if_icmp .ge 21, 3) := by decide +kernel
theorem dX0_workAhead_33 : decode cX0_workAhead 33 = .ok (.iload_n 3, 1) := by decide +kernel
theorem dX0_workAhead_34 : decode cX0_workAhead 34 = .ok (.iconst 3, 1) := by decide +kernel
theorem dX0_workAhead_35 : decode cX0_workAhead 35 = .ok (.if_icmp .eq 16, 3) := by decide +kernel
theorem dX0_workAhead_38 : decode cX0_workAhead 38 = .ok (.aload_n 0, 1) := by decide +kernel
theorem dX0_workAhead_39 : decode cX0_workAhead 39 = .ok (.iload 4, 2) := by decide +kernel
theorem dX0_workAhead_41 : decode cX0_workAhead 41 = .ok (.invokevirtual 53, 3) := by decide +kernel
theorem dX0_workAhead_44 : decode cX0_workAhead 44 = .ok (.istore_n 3, 1) := by decide +kernel
theorem dX0_workAhead_45 : decode cX0_workAhead 45 = .ok (.iinc 4 1, 3) := by decide +kernel
theorem dX0_workAhead_48 : decode cX0_workAhead 48 = .ok (.goto (-21), 3) := by decide +kernel
theorem dX0_workAhead_51 : decode cX0_workAhead 51 = .ok (.iload_n 3, 1) := by decide +kernel
theorem dX0_workAhead_52 : decode cX0_workAhead 52 = .ok (.ireturn, 1) := by decide +kernel
abbrev wmX0_workAhead : List Cond := .code yX0_workAhead cX0_workAhead 5 (some .int) :: WC
theorem hd_X0_workAhead : yX0_workAhead.cls = RX0 ∧ yX0_workAhead.cls ≠ "java/lang/invoke/MethodHandle" ∧ yX0_workAhead.cls ≠ "java/lang/invoke/VarHandle" ∧ (parseMethodDescriptor yX0_workAhead.desc).map (fun d => d.parameters.length) = some 1 := by decide +kernel
def B_X0_workAhead_27 (sh : Sh) (Gr Gw : (Nat → Nat → Int32) → (Nat → Nat → Int32) → (Nat → Nat → Int64) → Nat → Int32 → (Int32 → (Nat → Nat → Int32) → (Nat → Nat → Int32) → (Nat → Nat → Int64) → Prop) → Prop)  (K27 : (Nat → Nat → Int32) → (Nat → Nat → Int32) → (Nat → Nat → Int64) → Int32 → Int32 → Int32 → Prop) (Q : Int32 → (Nat → Nat → Int32) → (Nat → Nat → Int32) → (Nat → Nat → Int64) → Prop) (q : Nat) (ci : Nat → Nat → Int32) (ai : Nat → Nat → Int32) (al : Nat → Nat → Int64) (x1 : Int32) (x3 : Int32) (x4 : Int32) : Prop := ((x1 ≤ x4) → (Q x3 ci ai al)) ∧ ((¬ x1 ≤ x4) → (((x3 = 3) → (Q x3 ci ai al)) ∧ ((¬ x3 = 3) → (Gw ci ai al q x4 (fun r1 ci1 ai1 al1 => K27 ci1 ai1 al1 x1 r1 (x4 + 1))))))
def P_X0_workAhead_27 (sh : Sh) (Gr Gw : (Nat → Nat → Int32) → (Nat → Nat → Int32) → (Nat → Nat → Int64) → Nat → Int32 → (Int32 → (Nat → Nat → Int32) → (Nat → Nat → Int32) → (Nat → Nat → Int64) → Prop) → Prop)  (Q : Int32 → (Nat → Nat → Int32) → (Nat → Nat → Int32) → (Nat → Nat → Int64) → Prop) (q : Nat) : Nat → (Nat → Nat → Int32) → (Nat → Nat → Int32) → (Nat → Nat → Int64) → Int32 → Int32 → Int32 → Prop
  | 0 => fun _ _ _ _ _ _ => False
  | n + 1 => B_X0_workAhead_27 sh Gr Gw  (P_X0_workAhead_27 sh Gr Gw  Q q n) Q q
set_option maxHeartbeats 4000000 in
set_option maxRecDepth 100000 in
theorem b_X0_workAhead_27 {p : Program} {l : Launch} {e : Env} {s : State} {m : MethodId} {args : Array Value} {below : List Frame} {meth : Method} {c : Code} {A : Nat → Prop} {dC : Nat → ClassId} {dI : Nat → Nat → Nat} {sh : Sh} {q : Nat}  {K27 : (Nat → Nat → Int32) → (Nat → Nat → Int32) → (Nat → Nat → Int64) → Int32 → Int32 → Int32 → Prop} {Q : Int32 → (Nat → Nat → Int32) → (Nat → Nat → Int32) → (Nat → Nat → Int64) → Prop} (hx : p.tables.exec = Jvm.exec) (hb : c.code = cX0_workAhead) (hr : meth.sig.returnType = (some .int)) (hts : ∀ w ∈ WC, w.before args s = true) (hown : s.vm.findClass RX0 = some m.cls) (hlocks : meth.locks = false) (hml : c.maxLocals = 5) (hA : ∀ q : Nat, s.heap.size ≤ q → A q) (hK : cK dC dI sh s) (hG : Gc s) (hq : q ∈ sL sh) (hk : sK sh q = 0) {d : Nat} {Gr Gw : (Nat → Nat → Int32) → (Nat → Nat → Int32) → (Nat → Nat → Int64) → Nat → Int32 → (Int32 → (Nat → Nat → Int32) → (Nat → Nat → Int32) → (Nat → Nat → Int64) → Prop) → Prop} (hGr : GM l dC dI sh yX5_reach wmX5_reach ({ frames := 300 + 5 * d, cells := 0, slots := 0, locals := 6000 + 200 * d }) Gr) (hGw : GM l dC dI sh yX5_work wmX5_work ({ frames := 300 + 5 * d, cells := 0, slots := 0, locals := 6000 + 200 * d }) Gw)  (hK27 : ∀ (ci : Nat → Nat → Int32) (ai : Nat → Nat → Int32) (al : Nat → Nat → Int64) (x1 : Int32) (x3 : Int32) (x4 : Int32) (H : Heap) (locs : List Loc) (ls : Array Slot), K27 ci ai al x1 x3 x4 → va_P (dC, dI) vwCl (cW sh ci ai al) H → va_D A (cW sh ci ai al) → va_S A s.heap H locs → lv_has ls 5 [(0, .ref q), (1, .int x1), (3, .int x3), (4, .int x4)] → W p l e (headSpec wmX0_workAhead ({ frames := 302 + 5 * d, cells := 0, slots := 0, locals := 6080 + 200 * d })).room s m args below meth c H locs 0 0 (MQ below (va_Qi (S := CSt) (cI Q) (cB dC dI sh A) A) args s 0 0 A) (F0 m 27 ls [])) : ∀ (ci : Nat → Nat → Int32) (ai : Nat → Nat → Int32) (al : Nat → Nat → Int64) (x1 : Int32) (x3 : Int32) (x4 : Int32) (H : Heap) (locs : List Loc) (ls : Array Slot), B_X0_workAhead_27 sh Gr Gw  K27 Q q ci ai al x1 x3 x4 → va_P (dC, dI) vwCl (cW sh ci ai al) H → va_D A (cW sh ci ai al) → va_S A s.heap H locs → lv_has ls 5 [(0, .ref q), (1, .int x1), (3, .int x3), (4, .int x4)] → W p l e (headSpec wmX0_workAhead ({ frames := 302 + 5 * d, cells := 0, slots := 0, locals := 6080 + 200 * d })).room s m args below meth c H locs 0 0 (MQ below (va_Qi (S := CSt) (cI Q) (cB dC dI sh A) A) args s 0 0 A) (F0 m 27 ls []) := by
  intro ci ai al x1 x3 x4 H locs ls h hP hD hS hl
  unfold B_X0_workAhead_27 at h
  refine lv_iload hx hb dX0_workAhead_27 (lv_at hl 3 rfl) ?_
  refine lv_iload_n hx hb dX0_workAhead_29 rfl (lv_at hl 1 rfl) ?_
  refine lv_icmp_ge (tgt := 51) hx hb dX0_workAhead_30 (by decide) (fun c_30 => ?_) (fun c_30 => ?_)
  · have h := h.1 c_30
    refine lv_iload_n hx hb dX0_workAhead_51 rfl (lv_at hl 2 rfl) ?_
    exact W.iret (v := x3) hx hb hr (fun t ht hW => ⟨⟨_, (ci, ai, al), rfl, h, by rw [ht]; exact hP, cK.moved hW.alike hK, hD⟩, hS.F ht⟩) hS.2.2 dX0_workAhead_52
  · have h := h.2 c_30
    refine lv_iload_n hx hb dX0_workAhead_33 rfl (lv_at hl 2 rfl) ?_
    refine lv_iconst (v := 3) hx hb dX0_workAhead_34 (by decide) ?_
    refine lv_icmp_eq (tgt := 51) hx hb dX0_workAhead_35 (by decide) (fun c_35 => ?_) (fun c_35 => ?_)
    · have h := h.1 c_35
      refine lv_iload_n hx hb dX0_workAhead_51 rfl (lv_at hl 2 rfl) ?_
      exact W.iret (v := x3) hx hb hr (fun t ht hW => ⟨⟨_, (ci, ai, al), rfl, h, by rw [ht]; exact hP, cK.moved hW.alike hK, hD⟩, hS.F ht⟩) hS.2.2 dX0_workAhead_52
    · have h := h.2 c_35
      refine lv_aload_n hx hb dX0_workAhead_38 rfl (lv_at hl 0 rfl) ?_
      refine lv_iload hx hb dX0_workAhead_39 (lv_at hl 3 rfl) ?_
      refine c_endi (va_runU (C := RX0) (owner := "NeededLists$LazyList") (rm := ({ frames := 300 + 5 * d, cells := 0, slots := 0, locals := 6000 + 200 * d })) (As := [.int x4]) (rest := []) ⟨hx, hb, hml, hown, hts⟩ (hGw _ _ _ q x4 _ h H.size) (va_cwU (x := ⟨"NeededLists$Chained", "work", "(I)I"⟩) 1 hts (g_U gdC mwC_182 mwC_183 mwC_184 mwC_160 mwC_22 mwC_161) rfl rfl rfl rfl ⟨by decide, by decide, by decide +kernel⟩ ⟨(show 300 + 5 * d + 1 ≤ 302 + 5 * d by omega), (show 8 + (4 + 11) + (6000 + 200 * d) ≤ 6080 + 200 * d by omega)⟩) (c_preV (vc := (RX0, TX0, 9)) hK hP hD hG hq hk (by decide) rfl) rfl rfl hl.1 rfl (lv_room (Nat.le_of_ble_eq_true rfl)) dX0_workAhead_41 ⟨Nat.le_of_ble_eq_true rfl, Nat.le_of_ble_eq_true rfl⟩) hD hS hA (fun r1 ci1 ai1 al1 H locs h hP hD hS => ?_)
      refine lv_istore_n (lv' := [(3, .int r1), (0, .ref q), (1, .int x1), (4, .int x4)]) hx hb dX0_workAhead_44 rfl hl (by decide) rfl (fun ls hl => ?_)
      refine lv_iinc (v := x4 + 1) (lv' := [(4, .int (x4 + 1)), (3, .int r1), (0, .ref q), (1, .int x1)]) hx hb dX0_workAhead_45 hl (k := 3) rfl (iinc_1 _) (by decide) rfl (fun ls hl => ?_)
      refine lv_goto (tgt := 27) hx hb dX0_workAhead_48 (by decide) ?_
      exact hK27 _ _ _ _ _ _ H _ ls h hP hD hS (lv_sub hl [2, 3, 1, 0] rfl)
set_option maxHeartbeats 4000000 in
set_option maxRecDepth 100000 in
theorem t_X0_workAhead_27 {p : Program} {l : Launch} {e : Env} {s : State} {m : MethodId} {args : Array Value} {below : List Frame} {meth : Method} {c : Code} {A : Nat → Prop} {dC : Nat → ClassId} {dI : Nat → Nat → Nat} {sh : Sh} {q : Nat}  {Q : Int32 → (Nat → Nat → Int32) → (Nat → Nat → Int32) → (Nat → Nat → Int64) → Prop} (hx : p.tables.exec = Jvm.exec) (hb : c.code = cX0_workAhead) (hr : meth.sig.returnType = (some .int)) (hts : ∀ w ∈ WC, w.before args s = true) (hown : s.vm.findClass RX0 = some m.cls) (hlocks : meth.locks = false) (hml : c.maxLocals = 5) (hA : ∀ q : Nat, s.heap.size ≤ q → A q) (hK : cK dC dI sh s) (hG : Gc s) (hq : q ∈ sL sh) (hk : sK sh q = 0) {d : Nat} {Gr Gw : (Nat → Nat → Int32) → (Nat → Nat → Int32) → (Nat → Nat → Int64) → Nat → Int32 → (Int32 → (Nat → Nat → Int32) → (Nat → Nat → Int32) → (Nat → Nat → Int64) → Prop) → Prop} (hGr : GM l dC dI sh yX5_reach wmX5_reach ({ frames := 300 + 5 * d, cells := 0, slots := 0, locals := 6000 + 200 * d }) Gr) (hGw : GM l dC dI sh yX5_work wmX5_work ({ frames := 300 + 5 * d, cells := 0, slots := 0, locals := 6000 + 200 * d }) Gw)  : ∀ n : Nat, ∀ (ci : Nat → Nat → Int32) (ai : Nat → Nat → Int32) (al : Nat → Nat → Int64) (x1 : Int32) (x3 : Int32) (x4 : Int32) (H : Heap) (locs : List Loc) (ls : Array Slot), P_X0_workAhead_27 sh Gr Gw  Q q n ci ai al x1 x3 x4 → va_P (dC, dI) vwCl (cW sh ci ai al) H → va_D A (cW sh ci ai al) → va_S A s.heap H locs → lv_has ls 5 [(0, .ref q), (1, .int x1), (3, .int x3), (4, .int x4)] → W p l e (headSpec wmX0_workAhead ({ frames := 302 + 5 * d, cells := 0, slots := 0, locals := 6080 + 200 * d })).room s m args below meth c H locs 0 0 (MQ below (va_Qi (S := CSt) (cI Q) (cB dC dI sh A) A) args s 0 0 A) (F0 m 27 ls []) := by
  intro n
  induction n with
  | zero => intro ci ai al x1 x3 x4 H locs ls h; exact h.elim
  | succ n ih => exact b_X0_workAhead_27 hx hb hr hts hown hlocks hml hA hK hG hq hk hGr hGw  ih
def B_X0_workAhead_4 (sh : Sh) (Gr Gw : (Nat → Nat → Int32) → (Nat → Nat → Int32) → (Nat → Nat → Int64) → Nat → Int32 → (Int32 → (Nat → Nat → Int32) → (Nat → Nat → Int32) → (Nat → Nat → Int64) → Prop) → Prop)  (K4 : (Nat → Nat → Int32) → (Nat → Nat → Int32) → (Nat → Nat → Int64) → Int32 → Int32 → Prop) (Q : Int32 → (Nat → Nat → Int32) → (Nat → Nat → Int32) → (Nat → Nat → Int64) → Prop) (q : Nat) (ci : Nat → Nat → Int32) (ai : Nat → Nat → Int32) (al : Nat → Nat → Int64) (x1 : Int32) (x2 : Int32) : Prop := ((x2 ≤ 0) → (∃ n9 : Nat, P_X0_workAhead_27 sh Gr Gw  Q q n9 ci ai al x1 (1 : Int32) x2)) ∧ ((¬ x2 ≤ 0) → (P_X5_isWorked_f sh 30 ci ai al q x2 (fun r1 => ((¬ r1 = 0) → (∃ n9 : Nat, P_X0_workAhead_27 sh Gr Gw  Q q n9 ci ai al x1 (1 : Int32) x2)) ∧ ((r1 = 0) → (K4 ci ai al x1 (x2 + (-1)))))))
def P_X0_workAhead_4 (sh : Sh) (Gr Gw : (Nat → Nat → Int32) → (Nat → Nat → Int32) → (Nat → Nat → Int64) → Nat → Int32 → (Int32 → (Nat → Nat → Int32) → (Nat → Nat → Int32) → (Nat → Nat → Int64) → Prop) → Prop)  (Q : Int32 → (Nat → Nat → Int32) → (Nat → Nat → Int32) → (Nat → Nat → Int64) → Prop) (q : Nat) : Nat → (Nat → Nat → Int32) → (Nat → Nat → Int32) → (Nat → Nat → Int64) → Int32 → Int32 → Prop
  | 0 => fun _ _ _ _ _ => False
  | n + 1 => B_X0_workAhead_4 sh Gr Gw  (P_X0_workAhead_4 sh Gr Gw  Q q n) Q q
set_option maxHeartbeats 4000000 in
set_option maxRecDepth 100000 in
theorem b_X0_workAhead_4 {p : Program} {l : Launch} {e : Env} {s : State} {m : MethodId} {args : Array Value} {below : List Frame} {meth : Method} {c : Code} {A : Nat → Prop} {dC : Nat → ClassId} {dI : Nat → Nat → Nat} {sh : Sh} {q : Nat}  {K4 : (Nat → Nat → Int32) → (Nat → Nat → Int32) → (Nat → Nat → Int64) → Int32 → Int32 → Prop} {Q : Int32 → (Nat → Nat → Int32) → (Nat → Nat → Int32) → (Nat → Nat → Int64) → Prop} (hx : p.tables.exec = Jvm.exec) (hb : c.code = cX0_workAhead) (hr : meth.sig.returnType = (some .int)) (hts : ∀ w ∈ WC, w.before args s = true) (hown : s.vm.findClass RX0 = some m.cls) (hlocks : meth.locks = false) (hml : c.maxLocals = 5) (hA : ∀ q : Nat, s.heap.size ≤ q → A q) (hK : cK dC dI sh s) (hG : Gc s) (hq : q ∈ sL sh) (hk : sK sh q = 0) {d : Nat} {Gr Gw : (Nat → Nat → Int32) → (Nat → Nat → Int32) → (Nat → Nat → Int64) → Nat → Int32 → (Int32 → (Nat → Nat → Int32) → (Nat → Nat → Int32) → (Nat → Nat → Int64) → Prop) → Prop} (hGr : GM l dC dI sh yX5_reach wmX5_reach ({ frames := 300 + 5 * d, cells := 0, slots := 0, locals := 6000 + 200 * d }) Gr) (hGw : GM l dC dI sh yX5_work wmX5_work ({ frames := 300 + 5 * d, cells := 0, slots := 0, locals := 6000 + 200 * d }) Gw)  (hK4 : ∀ (ci : Nat → Nat → Int32) (ai : Nat → Nat → Int32) (al : Nat → Nat → Int64) (x1 : Int32) (x2 : Int32) (H : Heap) (locs : List Loc) (ls : Array Slot), K4 ci ai al x1 x2 → va_P (dC, dI) vwCl (cW sh ci ai al) H → va_D A (cW sh ci ai al) → va_S A s.heap H locs → lv_has ls 5 [(0, .ref q), (1, .int x1), (2, .int x2)] → W p l e (headSpec wmX0_workAhead ({ frames := 302 + 5 * d, cells := 0, slots := 0, locals := 6080 + 200 * d })).room s m args below meth c H locs 0 0 (MQ below (va_Qi (S := CSt) (cI Q) (cB dC dI sh A) A) args s 0 0 A) (F0 m 4 ls [])) : ∀ (ci : Nat → Nat → Int32) (ai : Nat → Nat → Int32) (al : Nat → Nat → Int64) (x1 : Int32) (x2 : Int32) (H : Heap) (locs : List Loc) (ls : Array Slot), B_X0_workAhead_4 sh Gr Gw  K4 Q q ci ai al x1 x2 → va_P (dC, dI) vwCl (cW sh ci ai al) H → va_D A (cW sh ci ai al) → va_S A s.heap H locs → lv_has ls 5 [(0, .ref q), (1, .int x1), (2, .int x2)] → W p l e (headSpec wmX0_workAhead ({ frames := 302 + 5 * d, cells := 0, slots := 0, locals := 6080 + 200 * d })).room s m args below meth c H locs 0 0 (MQ below (va_Qi (S := CSt) (cI Q) (cB dC dI sh A) A) args s 0 0 A) (F0 m 4 ls []) := by
  intro ci ai al x1 x2 H locs ls h hP hD hS hl
  unfold B_X0_workAhead_4 at h
  refine lv_iload_n hx hb dX0_workAhead_4 rfl (lv_at hl 2 rfl) ?_
  refine lv_if_le (tgt := 22) hx hb dX0_workAhead_5 (by decide) (fun c_5 => ?_) (fun c_5 => ?_)
  · have h := h.1 c_5
    refine lv_iconst (v := 1) hx hb dX0_workAhead_22 (by decide) ?_
    refine lv_istore_n (lv' := [(3, .int 1), (0, .ref q), (1, .int x1), (2, .int x2)]) hx hb dX0_workAhead_23 rfl hl (by decide) rfl (fun ls hl => ?_)
    refine lv_iload_n hx hb dX0_workAhead_24 rfl (lv_at hl 3 rfl) ?_
    refine lv_istore (lv' := [(4, .int x2), (3, .int 1), (0, .ref q), (1, .int x1), (2, .int x2)]) hx hb dX0_workAhead_25 hl (by decide) rfl (fun ls hl => ?_)
    obtain ⟨n9, h⟩ := h
    exact t_X0_workAhead_27 hx hb hr hts hown hlocks hml hA hK hG hq hk hGr hGw  n9 _ _ _ _ _ _ H _ ls h hP hD hS (lv_sub hl [2, 3, 1, 0] rfl)
  · have h := h.2 c_5
    refine lv_aload_n hx hb dX0_workAhead_8 rfl (lv_at hl 0 rfl) ?_
    refine lv_iload_n hx hb dX0_workAhead_9 rfl (lv_at hl 2 rfl) ?_
    refine r_endi (va_runU (C := RX0) (owner := "NeededLists$LazyList") (rm := ({ frames := 20 + 2 * 30, cells := 0, slots := 0, locals := 300 + 50 * 30 })) (As := [.int x2]) (rest := []) ⟨hx, hb, hml, hown, hts⟩ (p_X5_isWorked_f l dC dI sh 30 _ _ _ q x2 _ h H.size) (va_cwU (x := ⟨"NeededLists$Chained", "isWorked", "(I)Z"⟩) 1 hts (g_U gdC mwC_179 mwC_180 mwC_181 mwC_107 mwC_22 mwC_108) rfl rfl rfl rfl ⟨by decide, by decide, by decide +kernel⟩ ⟨(show 20 + 2 * 30 + 1 ≤ 302 + 5 * d by omega), (show 8 + (3 + 11) + (300 + 50 * 30) ≤ 6080 + 200 * d by omega)⟩) (c_preV (vc := (RX0, TX0, 9)) hK hP hD hG hq hk (by decide) rfl) rfl rfl hl.1 rfl (lv_room (Nat.le_of_ble_eq_true rfl)) dX0_workAhead_10 ⟨Nat.le_of_ble_eq_true rfl, Nat.le_of_ble_eq_true rfl⟩) hP hS hA (fun r1 H locs h hP hS => ?_)
    refine lv_if_ne (tgt := 22) hx hb dX0_workAhead_13 (by decide) (fun c_13 => ?_) (fun c_13 => ?_)
    · have h := h.1 c_13
      refine lv_iconst (v := 1) hx hb dX0_workAhead_22 (by decide) ?_
      refine lv_istore_n (lv' := [(3, .int 1), (0, .ref q), (1, .int x1), (2, .int x2)]) hx hb dX0_workAhead_23 rfl hl (by decide) rfl (fun ls hl => ?_)
      refine lv_iload_n hx hb dX0_workAhead_24 rfl (lv_at hl 3 rfl) ?_
      refine lv_istore (lv' := [(4, .int x2), (3, .int 1), (0, .ref q), (1, .int x1), (2, .int x2)]) hx hb dX0_workAhead_25 hl (by decide) rfl (fun ls hl => ?_)
      obtain ⟨n9, h⟩ := h
      exact t_X0_workAhead_27 hx hb hr hts hown hlocks hml hA hK hG hq hk hGr hGw  n9 _ _ _ _ _ _ H _ ls h hP hD hS (lv_sub hl [2, 3, 1, 0] rfl)
    · have h := h.2 c_13
      refine lv_iinc (v := x2 + (-1)) (lv' := [(2, .int (x2 + (-1))), (0, .ref q), (1, .int x1)]) hx hb dX0_workAhead_16 hl (k := 2) rfl (iinc_m1 _) (by decide) rfl (fun ls hl => ?_)
      refine lv_goto (tgt := 4) hx hb dX0_workAhead_19 (by decide) ?_
      exact hK4 _ _ _ _ _ H _ ls h hP hD hS (lv_sub hl [1, 2, 0] rfl)
set_option maxHeartbeats 4000000 in
set_option maxRecDepth 100000 in
theorem t_X0_workAhead_4 {p : Program} {l : Launch} {e : Env} {s : State} {m : MethodId} {args : Array Value} {below : List Frame} {meth : Method} {c : Code} {A : Nat → Prop} {dC : Nat → ClassId} {dI : Nat → Nat → Nat} {sh : Sh} {q : Nat}  {Q : Int32 → (Nat → Nat → Int32) → (Nat → Nat → Int32) → (Nat → Nat → Int64) → Prop} (hx : p.tables.exec = Jvm.exec) (hb : c.code = cX0_workAhead) (hr : meth.sig.returnType = (some .int)) (hts : ∀ w ∈ WC, w.before args s = true) (hown : s.vm.findClass RX0 = some m.cls) (hlocks : meth.locks = false) (hml : c.maxLocals = 5) (hA : ∀ q : Nat, s.heap.size ≤ q → A q) (hK : cK dC dI sh s) (hG : Gc s) (hq : q ∈ sL sh) (hk : sK sh q = 0) {d : Nat} {Gr Gw : (Nat → Nat → Int32) → (Nat → Nat → Int32) → (Nat → Nat → Int64) → Nat → Int32 → (Int32 → (Nat → Nat → Int32) → (Nat → Nat → Int32) → (Nat → Nat → Int64) → Prop) → Prop} (hGr : GM l dC dI sh yX5_reach wmX5_reach ({ frames := 300 + 5 * d, cells := 0, slots := 0, locals := 6000 + 200 * d }) Gr) (hGw : GM l dC dI sh yX5_work wmX5_work ({ frames := 300 + 5 * d, cells := 0, slots := 0, locals := 6000 + 200 * d }) Gw)  : ∀ n : Nat, ∀ (ci : Nat → Nat → Int32) (ai : Nat → Nat → Int32) (al : Nat → Nat → Int64) (x1 : Int32) (x2 : Int32) (H : Heap) (locs : List Loc) (ls : Array Slot), P_X0_workAhead_4 sh Gr Gw  Q q n ci ai al x1 x2 → va_P (dC, dI) vwCl (cW sh ci ai al) H → va_D A (cW sh ci ai al) → va_S A s.heap H locs → lv_has ls 5 [(0, .ref q), (1, .int x1), (2, .int x2)] → W p l e (headSpec wmX0_workAhead ({ frames := 302 + 5 * d, cells := 0, slots := 0, locals := 6080 + 200 * d })).room s m args below meth c H locs 0 0 (MQ below (va_Qi (S := CSt) (cI Q) (cB dC dI sh A) A) args s 0 0 A) (F0 m 4 ls []) := by
  intro n
  induction n with
  | zero => intro ci ai al x1 x2 H locs ls h; exact h.elim
  | succ n ih => exact b_X0_workAhead_4 hx hb hr hts hown hlocks hml hA hK hG hq hk hGr hGw  ih
def P_X0_workAhead (sh : Sh) (Gr Gw : (Nat → Nat → Int32) → (Nat → Nat → Int32) → (Nat → Nat → Int64) → Nat → Int32 → (Int32 → (Nat → Nat → Int32) → (Nat → Nat → Int32) → (Nat → Nat → Int64) → Prop) → Prop) (ci : Nat → Nat → Int32) (ai : Nat → Nat → Int32) (al : Nat → Nat → Int64) (q : Nat) (p0 : Int32) (Q : Int32 → (Nat → Nat → Int32) → (Nat → Nat → Int32) → (Nat → Nat → Int64) → Prop) : Prop := (q ∈ sL sh ∧ sK sh q = 0) ∧ ∃ n9 : Nat, P_X0_workAhead_4 sh Gr Gw  Q q n9 ci ai al p0 (p0 - 1)
set_option maxHeartbeats 4000000 in
set_option maxRecDepth 100000 in
theorem p_X0_workAhead (l : Launch) (dC : Nat → ClassId) (dI : Nat → Nat → Nat) (sh : Sh) (d : Nat) {Gr Gw : (Nat → Nat → Int32) → (Nat → Nat → Int32) → (Nat → Nat → Int64) → Nat → Int32 → (Int32 → (Nat → Nat → Int32) → (Nat → Nat → Int32) → (Nat → Nat → Int64) → Prop) → Prop} (hGr : GM l dC dI sh yX5_reach wmX5_reach ({ frames := 300 + 5 * d, cells := 0, slots := 0, locals := 6000 + 200 * d }) Gr) (hGw : GM l dC dI sh yX5_work wmX5_work ({ frames := 300 + 5 * d, cells := 0, slots := 0, locals := 6000 + 200 * d }) Gw) (ci : Nat → Nat → Int32) (ai : Nat → Nat → Int32) (al : Nat → Nat → Int64) (q : Nat) (p0 : Int32) (Q : Int32 → (Nat → Nat → Int32) → (Nat → Nat → Int32) → (Nat → Nat → Int64) → Prop) (h : P_X0_workAhead sh Gr Gw ci ai al q p0 Q) (sz : Nat) : Met l yX0_workAhead wmX0_workAhead ({ frames := 302 + 5 * d, cells := 0, slots := 0, locals := 6080 + 200 * d }) (va_Pc [.ref q, .int p0] (cPre dC dI sh ci ai al sz)) (va_Qi (S := CSt) (cI Q) (cB dC dI sh (va_A (cW sh ci ai al) sz)) (va_A (cW sh ci ai al) sz)) 0 0 (va_A (cW sh ci ai al) sz) := by
  refine Met.ofW (cc := cX0_workAhead) (maxL := 5) (ret := (some .int)) (by decide) rfl ?_
  intro p e s m args below meth c s₁ B hml hv
  obtain ⟨rfl, hsz, hP, hK, hD0, hG⟩ := hv
  have hx := B.exec
  have hb := B.bytes
  have hr := B.returns
  have hts : ∀ w ∈ WC, w.before _ s = true := fun w h => atoms_spec (ws := wmX0_workAhead) B.pre w (List.mem_cons_of_mem _ h)
  have hown : s.vm.findClass RX0 = some m.cls := findClass_of_methodNamed B.named
  have hlocks := B.notSynchronized
  subst hsz
  have hD := hD0.self (sz := s.heap.size)
  generalize hAe : va_A (cW sh ci ai al) s.heap.size = A at hD ⊢
  have hA : ∀ q : Nat, s.heap.size ≤ q → A q := fun q h => by rw [← hAe]; exact Or.inr h
  generalize hH : s.heap = H at hP ⊢
  have hS : va_S A s.heap H [] := by rw [← hH]; exact va_S.rf
  have hl := lv_entry [.ref q, .int p0] (n := 5) (Nat.le_of_ble_eq_true rfl)
  rw [lg_entry_eq]
  generalize (lg_sl [.ref q, .int p0] ++ List.replicate (5 - (lg_sl [.ref q, .int p0]).length) Slot.unset).toArray = ls at hl ⊢
  have hl : lv_has ls 5 [(0, .ref q), (1, .int p0)] := hl
  unfold P_X0_workAhead at h
  obtain ⟨⟨hq, hk⟩, h⟩ := h
  refine lv_iload_n hx hb dX0_workAhead_0 rfl (lv_at hl 1 rfl) ?_
  refine lv_iconst (v := 1) hx hb dX0_workAhead_1 (by decide) ?_
  refine lv_isub hx hb dX0_workAhead_2 ?_
  refine lv_istore_n (lv' := [(2, .int (p0 - 1)), (0, .ref q), (1, .int p0)]) hx hb dX0_workAhead_3 rfl hl (by decide) rfl (fun ls hl => ?_)
  obtain ⟨n9, h⟩ := h
  exact t_X0_workAhead_4 hx hb hr hts hown hlocks hml hA hK hG hq hk hGr hGw  n9 _ _ _ _ _ H _ ls h hP hD hS (lv_sub hl [1, 2, 0] rfl)
