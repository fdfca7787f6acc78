theorem dX9_lookThrough_0 : decode cX9_lookThrough 0 = .ok (.aload_n 0, 1) := by decide +kernel
theorem dX9_lookThrough_1 : decode cX9_lookThrough 1 = .ok (.getfield 9, 3) := by decide +kernel
theorem dX9_lookThrough_4 : decode cX9_lookThrough 4 = .ok (.iload_n 1, 1) := by decide +kernel
theorem dX9_lookThrough_5 : decode cX9_lookThrough 5 = .ok (.invokevirtual 34, 3) := by decide +kernel
theorem dX9_lookThrough_8 : decode cX9_lookThrough 8 = .ok (.istore_n 2, 1) := by decide +kernel
theorem dX9_lookThrough_9 : decode cX9_lookThrough 9 = .ok (.iload_n 2, 1) := by decide +kernel
theorem dX9_lookThrough_10 : decode cX9_lookThrough 10 = .ok (.iconst 1, 1) := by decide +kernel
theorem dX9_lookThrough_11 : decode cX9_lookThrough 11 = .ok (.if_icmp .eq 5, 3) := by decide +kernel
theorem dX9_lookThrough_14 : decode cX9_lookThrough 14 = .ok (.iload_n 2, 1) := by decide +kernel
theorem dX9_lookThrough_15 : decode cX9_lookThrough 15 = .ok (.ireturn, 1) := by decide +kernel
theorem dX9_lookThrough_16 : decode cX9_lookThrough 16 = .ok (.aload_n 0, 1) := by decide +kernel
theorem dX9_lookThrough_17 : decode cX9_lookThrough 17 = .ok (.getfield 9, 3) := by decide +kernel
theorem dX9_lookThrough_20 : decode cX9_lookThrough 20 = .ok (.iload_n 1, 1) := by decide +kernel
theorem dX9_lookThrough_21 : decode cX9_lookThrough 21 = .ok (.invokevirtual 37, 3) := by decide +kernel
theorem dX9_lookThrough_24 : decode cX9_lookThrough 24 = .ok (.lstore_n 3, 1) := by decide +kernel
theorem dX9_lookThrough_25 : decode cX9_lookThrough 25 = .ok (.iload_n 1, 1) := by decide +kernel
theorem dX9_lookThrough_26 : decode cX9_lookThrough 26 = .ok (.iconst 1, 1) := by decide +kernel
theorem dX9_lookThrough_27 : decode cX9_lookThrough 27 = .ok (.iadd, 1) := by decide +kernel
theorem dX9_lookThrough_28 : decode cX9_lookThrough 28 = .ok (.istore 5, 2) := by decide +kernel
theorem dX9_lookThrough_30 : decode cX9_lookThrough 30 = .ok (.iload 5, 2) := by decide +kernel
theorem dX9_lookThrough_32 : decode cX9_lookThrough 32 = .ok (.sipush 400, 3) := by decide +kernel
theorem dX9_lookThrough_35 : decode cX9_lookThrough 35 = .ok (.if_icmp .gt 66, 3) := by decide +kernel
theorem dX9_lookThrough_38 : decode cX9_lookThrough 38 = .ok (.aload_n 0, 1) := by decide +kernel
theorem dX9_lookThrough_39 : decode cX9_lookThrough 39 = .ok (.iload 5, 2) := by decide +kernel
theorem dX9_lookThrough_41 : decode cX9_lookThrough 41 = .ok (.putfield 26, 3) := by decide +kernel
theorem dX9_lookThrough_44 : decode cX9_lookThrough 44 = .ok (.aload_n 0, 1) := by decide +kernel
theorem dX9_lookThrough_45 : decode cX9_lookThrough 45 = .ok (.getfield 9, 3) := by decide +kernel
theorem dX9_lookThrough_48 : decode cX9_lookThrough 48 = .ok (.iload 5, 2) := by decide +kernel
theorem dX9_lookThrough_50 : decode cX9_lookThrough 50 = .ok (.invokevirtual 19, 3) := by decide +kernel
theorem dX9_lookThrough_53 : decode cX9_lookThrough 53 = .ok (.istore 6, 2) := by decide +kernel
theorem dX9_lookThrough_55 : decode cX9_lookThrough 55 = .ok (.iload 6, 2) := by decide +kernel
theorem dX9_lookThrough_57 : decode cX9_lookThrough 57 = .ok (.iconst 1, 1) := by decide +kernel
theorem dX9_lookThrough_58 : decode cX9_lookThrough 58 = .ok (.if_icmp .eq 6, 3) := by decide +kernel
theorem dX9_lookThrough_61 : decode cX9_lookThrough 61 = .ok (.iload 6, 2) := by decide +kernel
theorem dX9_lookThrough_63 : decode cX9_lookThrough 63 = .ok (.ireturn, 1) := by decide +kernel
theorem dX9_lookThrough_64 : decode cX9_lookThrough 64 = .ok (.aload_n 0, 1) := by decide +kernel
theorem dX9_lookThrough_65 : decode cX9_lookThrough 65 = .ok (.getfield 9, 3) := by decide +kernel
theorem dX9_lookThrough_68 : decode cX9_lookThrough 68 = .ok (.iload 5, 2) := by decide +kernel
theorem dX9_lookThrough_70 : decode cX9_lookThrough 70 = .ok (.invokevirtual 34, 3) := by decide +kernel
theorem dX9_lookThrough_73 : decode cX9_lookThrough 73 = .ok (.istore_n 2, 1) := by decide +kernel
theorem dX9_lookThrough_74 : decode cX9_lookThrough 74 = .ok (.iload_n 2, 1) := by decide +kernel
theorem dX9_lookThrough_75 : decode cX9_lookThrough 75 = .ok (.iconst 1, 1) := by decide +kernel
theorem dX9_lookThrough_76 : decode cX9_lookThrough 76 = .ok (.if_icmp .ne 17, 3) := by decide +kernel
theorem dX9_lookThrough_79 : decode cX9_lookThrough 79 = .ok (.aload_n 0, 1) := by decide +kernel
theorem dX9_lookThrough_80 : decode cX9_lookThrough 80 = .ok (.getfield 9, 3) := by decide +kernel
theorem dX9_lookThrough_83 : decode cX9_lookThrough 83 = .ok (.iload 5, 2) := by decide +kernel
theorem dX9_lookThrough_85 : decode cX9_lookThrough 85 = .ok (.invokevirtual 37, 3) := by decide +kernel
theorem dX9_lookThrough_88 : decode cX9_lookThrough 88 = .ok (.lload_n 3, 1) := by decide +kernel
theorem dX9_lookThrough_89 : decode cX9_lookThrough 89 = .ok (.lcmp, 1) := by decide +kernel
theorem dX9_lookThrough_90 : decode cX9_lookThrough 90 = .ok (.ifCond .eq 5, 3) := by decide +kernel
theorem dX9_lookThrough_93 : decode cX9_lookThrough 93 = .ok (.iload_n 2, 1) := by decide +kernel
theorem dX9_lookThrough_94 : decode cX9_lookThrough 94 = .ok (.ireturn, 1) := by decide +kernel
theorem dX9_lookThrough_95 : decode cX9_lookThrough 95 = .ok (.iinc 5 1, 3) := by decide +kernel
theorem dX9_lookThrough_98 : decode cX9_lookThrough 98 = .ok (.goto (-68), 3) := by decide +kernel
theorem dX9_lookThrough_101 : decode cX9_lookThrough 101 = .ok (.iconst 3, 1) := by decide +kernel
theorem dX9_lookThrough_102 : decode cX9_lookThrough 102 = .ok (.ireturn, 1) := by decide +kernel
abbrev wmX9_lookThrough : List Cond := .code yX9_lookThrough cX9_lookThrough 7 (some .int) :: WC
theorem hd_X9_lookThrough : yX9_lookThrough.cls = RX9 ∧ yX9_lookThrough.cls ≠ "java/lang/invoke/MethodHandle" ∧ yX9_lookThrough.cls ≠ "java/lang/invoke/VarHandle" ∧ (parseMethodDescriptor yX9_lookThrough.desc).map (fun d => d.parameters.length) = some 1 := by decide +kernel
def B_X9_lookThrough_30 (sh : Sh) (Gr Gw : (Nat → Nat → Int32) → (Nat → Nat → Int32) → (Nat → Nat → Int64) → Nat → Int32 → (Int32 → (Nat → Nat → Int32) → (Nat → Nat → Int32) → (Nat → Nat → Int64) → Prop) → Prop)  (K30 : (Nat → Nat → Int32) → (Nat → Nat → Int32) → (Nat → Nat → Int64) → Int64 → Int32 → Prop) (Q : Int32 → (Nat → Nat → Int32) → (Nat → Nat → Int32) → (Nat → Nat → Int64) → Prop) (q : Nat) (ci : Nat → Nat → Int32) (ai : Nat → Nat → Int32) (al : Nat → Nat → Int64) (x3 : Int64) (x5 : Int32) : Prop := ((400 < x5) → (Q 3 ci ai al)) ∧ ((¬ 400 < x5) → (∃ q1 : Nat, sR sh q 5 = some q1 ∧ (q1 ∈ sL sh ∧ isZ (sK sh q1)) ∧ Gr (va_up ci q (va_up (ci q) 7 x5)) ai al q1 x5 (fun r5 ci5 ai5 al5 => ((r5 = 1) → (Gw ci5 ai5 al5 q1 x5 (fun r6 ci6 ai6 al6 => ((¬ r6 = 1) → (Q r6 ci6 ai6 al6)) ∧ ((r6 = 1) → (P_X5_number_f sh 30 ci6 ai6 al6 q1 x5 (fun r7 => (((lg_cmp r7 x3) = 0) → (K30 ci6 ai6 al6 x3 (x5 + 1))) ∧ ((¬ (lg_cmp r7 x3) = 0) → (Q r6 ci6 ai6 al6)))))))) ∧ ((¬ r5 = 1) → (Q r5 ci5 ai5 al5)))))
def P_X9_lookThrough_30 (sh : Sh) (Gr Gw : (Nat → Nat → Int32) → (Nat → Nat → Int32) → (Nat → Nat → Int64) → Nat → Int32 → (Int32 → (Nat → Nat → Int32) → (Nat → Nat → Int32) → (Nat → Nat → Int64) → Prop) → Prop)  (Q : Int32 → (Nat → Nat → Int32) → (Nat → Nat → Int32) → (Nat → Nat → Int64) → Prop) (q : Nat) : Nat → (Nat → Nat → Int32) → (Nat → Nat → Int32) → (Nat → Nat → Int64) → Int64 → Int32 → Prop
  | 0 => fun _ _ _ _ _ => False
  | n + 1 => B_X9_lookThrough_30 sh Gr Gw  (P_X9_lookThrough_30 sh Gr Gw  Q q n) Q q
set_option maxHeartbeats 4000000 in
set_option maxRecDepth 100000 in
theorem b_X9_lookThrough_30 {p : Program} {l : Launch} {e : Env} {s : State} {m : MethodId} {args : Array Value} {below : List Frame} {meth : Method} {c : Code} {A : Nat → Prop} {dC : Nat → ClassId} {dI : Nat → Nat → Nat} {sh : Sh} {q : Nat}  {K30 : (Nat → Nat → Int32) → (Nat → Nat → Int32) → (Nat → Nat → Int64) → Int64 → Int32 → Prop} {Q : Int32 → (Nat → Nat → Int32) → (Nat → Nat → Int32) → (Nat → Nat → Int64) → Prop} (hx : p.tables.exec = Jvm.exec) (hb : c.code = cX9_lookThrough) (hr : meth.sig.returnType = (some .int)) (hts : ∀ w ∈ WC, w.before args s = true) (hown : s.vm.findClass RX9 = some m.cls) (hlocks : meth.locks = false) (hml : c.maxLocals = 7) (hA : ∀ q : Nat, s.heap.size ≤ q → A q) (hK : cK dC dI sh s) (hG : Gc s) (hq : q ∈ sL sh) (hk : sK sh q = 8) {d : Nat} {Gr Gw : (Nat → Nat → Int32) → (Nat → Nat → Int32) → (Nat → Nat → Int64) → Nat → Int32 → (Int32 → (Nat → Nat → Int32) → (Nat → Nat → Int32) → (Nat → Nat → Int64) → Prop) → Prop} (hGr : GM l dC dI sh yX5_reach wmX5_reach ({ frames := 300 + 5 * d, cells := 0, slots := 0, locals := 6000 + 200 * d }) Gr) (hGw : GM l dC dI sh yX5_work wmX5_work ({ frames := 300 + 5 * d, cells := 0, slots := 0, locals := 6000 + 200 * d }) Gw)  (hK30 : ∀ (ci : Nat → Nat → Int32) (ai : Nat → Nat → Int32) (al : Nat → Nat → Int64) (x3 : Int64) (x5 : Int32) (H : Heap) (locs : List Loc) (ls : Array Slot), K30 ci ai al x3 x5 → va_P (dC, dI) vwCl (cW sh ci ai al) H → va_D A (cW sh ci ai al) → va_S A s.heap H locs → lv_has ls 7 [(0, .ref q), (3, .long x3), (5, .int x5)] → W p l e (headSpec wmX9_lookThrough ({ frames := 302 + 5 * d, cells := 0, slots := 0, locals := 6080 + 200 * d })).room s m args below meth c H locs 0 0 (MQ below (va_Qi (S := CSt) (cI Q) (cB dC dI sh A) A) args s 0 0 A) (F0 m 30 ls [])) : ∀ (ci : Nat → Nat → Int32) (ai : Nat → Nat → Int32) (al : Nat → Nat → Int64) (x3 : Int64) (x5 : Int32) (H : Heap) (locs : List Loc) (ls : Array Slot), B_X9_lookThrough_30 sh Gr Gw  K30 Q q ci ai al x3 x5 → va_P (dC, dI) vwCl (cW sh ci ai al) H → va_D A (cW sh ci ai al) → va_S A s.heap H locs → lv_has ls 7 [(0, .ref q), (3, .long x3), (5, .int x5)] → W p l e (headSpec wmX9_lookThrough ({ frames := 302 + 5 * d, cells := 0, slots := 0, locals := 6080 + 200 * d })).room s m args below meth c H locs 0 0 (MQ below (va_Qi (S := CSt) (cI Q) (cB dC dI sh A) A) args s 0 0 A) (F0 m 30 ls []) := by
  intro ci ai al x3 x5 H locs ls h hP hD hS hl
  unfold B_X9_lookThrough_30 at h
  refine lv_iload hx hb dX9_lookThrough_30 (lv_at hl 2 rfl) ?_
  refine lv_sipush (v := 400) hx hb dX9_lookThrough_32 (by decide) ?_
  refine lv_icmp_gt (tgt := 101) hx hb dX9_lookThrough_35 (by decide) (fun c_35 => ?_) (fun c_35 => ?_)
  · have h := h.1 c_35
    refine lv_iconst (v := 3) hx hb dX9_lookThrough_101 (by decide) ?_
    exact W.iret (v := 3) hx hb hr (fun t ht hW => ⟨⟨_, (ci, ai, al), rfl, h, by rw [ht]; exact hP, cK.moved hW.alike hK, hD⟩, hS.F ht⟩) hS.2.2 dX9_lookThrough_102
  · have h := h.2 c_35
    refine lv_aload_n hx hb dX9_lookThrough_38 rfl (lv_at hl 0 rfl) ?_
    refine lv_iload hx hb dX9_lookThrough_39 (lv_at hl 2 rfl) ?_
    refine c_put (C := RX9) (T := TX9) (N := 8) (K := 8) hx hb hts hinX9 tyX9 tyX9_ok nmX9 hown hK hP hD hS hq hk (by decide) rfl 7 (by decide) (hts _ mwC_177) (fun _ h9 => h9) rfl (by decide +kernel) (Nat.le_of_ble_eq_true rfl) rfl dX9_lookThrough_41 (fun H locs hP hD hS => ?_)
    refine lv_aload_n hx hb dX9_lookThrough_44 rfl (lv_at hl 0 rfl) ?_
    obtain ⟨q1, e2, h⟩ := h
    refine c_get (C := RX9) (T := TX9) (N := 8) (K := 8) (v := .ref q1) hx hb hts hinX9 hown hK hP hq hk (by decide) rfl 5 (by decide) (hts _ mwC_174) (fun _ h9 => h9) (by show some (va_rf (sR sh q 5)) = _; rw [e2]; rfl) dX9_lookThrough_45 ?_
    refine lv_iload hx hb dX9_lookThrough_48 (lv_at hl 2 rfl) ?_
    obtain ⟨⟨hm3, hk4⟩, h⟩ := h
    refine c_endi (c_runZ (rm := ({ frames := 300 + 5 * d, cells := 0, slots := 0, locals := 6000 + 200 * d })) (y := yX5_reach) (x := ⟨"NeededLists$LazyList", "reach", "(I)I"⟩) (n := 1) (bytes := cX5_reach) (maxL := 5) (ret := (some .int)) (q := q1) (As := [.int x5]) (rest := []) ⟨hx, hb, hml, hown, hts⟩ (hGr _ _ _ q1 x5 _ h H.size) mwC_178 mwC_145 mwC_146 mwC_22 mwC_147 mwC_148 mwC_149 mwC_150 mwC_151 mwC_152 mwC_153 mwC_154 mwC_155 mwC_156 rfl (by decide +kernel) rfl rfl ⟨(show 300 + 5 * d + 1 ≤ 302 + 5 * d by omega), (show 8 + (5 + 11) + (6000 + 200 * d) ≤ 6080 + 200 * d by omega)⟩ hK hP hD hG hm3 hk4 rfl hl.1 rfl (Nat.le_of_ble_eq_true rfl) ⟨Nat.le_of_ble_eq_true rfl, Nat.le_of_ble_eq_true rfl⟩ dX9_lookThrough_50) hD hS hA (fun r5 ci5 ai5 al5 H locs h hP hD hS => ?_)
    refine lv_istore (lv' := [(6, .int r5), (0, .ref q), (3, .long x3), (5, .int x5)]) hx hb dX9_lookThrough_53 hl (by decide) rfl (fun ls hl => ?_)
    refine lv_iload hx hb dX9_lookThrough_55 (lv_at hl 0 rfl) ?_
    refine lv_iconst (v := 1) hx hb dX9_lookThrough_57 (by decide) ?_
    refine lv_icmp_eq (tgt := 64) hx hb dX9_lookThrough_58 (by decide) (fun c_58 => ?_) (fun c_58 => ?_)
    · have h := h.1 c_58
      refine lv_aload_n hx hb dX9_lookThrough_64 rfl (lv_at hl 1 rfl) ?_
      refine c_get (C := RX9) (T := TX9) (N := 8) (K := 8) (v := .ref q1) hx hb hts hinX9 hown hK hP hq hk (by decide) rfl 5 (by decide) (hts _ mwC_174) (fun _ h9 => h9) (by show some (va_rf (sR sh q 5)) = _; rw [e2]; rfl) dX9_lookThrough_65 ?_
      refine lv_iload hx hb dX9_lookThrough_68 (lv_at hl 3 rfl) ?_
      refine c_endi (c_runZ (rm := ({ frames := 300 + 5 * d, cells := 0, slots := 0, locals := 6000 + 200 * d })) (y := yX5_work) (x := ⟨"NeededLists$LazyList", "work", "(I)I"⟩) (n := 1) (bytes := cX5_work) (maxL := 4) (ret := (some .int)) (q := q1) (As := [.int x5]) (rest := []) ⟨hx, hb, hml, hown, hts⟩ (hGw _ _ _ q1 x5 _ h H.size) mwC_175 mwC_159 mwC_160 mwC_22 mwC_161 mwC_162 mwC_163 mwC_164 mwC_165 mwC_166 mwC_167 mwC_168 mwC_169 mwC_170 rfl (by decide +kernel) rfl rfl ⟨(show 300 + 5 * d + 1 ≤ 302 + 5 * d by omega), (show 8 + (4 + 11) + (6000 + 200 * d) ≤ 6080 + 200 * d by omega)⟩ hK hP hD hG hm3 hk4 rfl hl.1 rfl (Nat.le_of_ble_eq_true rfl) ⟨Nat.le_of_ble_eq_true rfl, Nat.le_of_ble_eq_true rfl⟩ dX9_lookThrough_70) hD hS hA (fun r6 ci6 ai6 al6 H locs h hP hD hS => ?_)
      refine lv_istore_n (lv' := [(2, .int r6), (6, .int r5), (0, .ref q), (3, .long x3), (5, .int x5)]) hx hb dX9_lookThrough_73 rfl hl (by decide) rfl (fun ls hl => ?_)
      refine lv_iload_n hx hb dX9_lookThrough_74 rfl (lv_at hl 0 rfl) ?_
      refine lv_iconst (v := 1) hx hb dX9_lookThrough_75 (by decide) ?_
      refine lv_icmp_ne (tgt := 93) hx hb dX9_lookThrough_76 (by decide) (fun c_76 => ?_) (fun c_76 => ?_)
      · have h := h.1 c_76
        refine lv_iload_n hx hb dX9_lookThrough_93 rfl (lv_at hl 0 rfl) ?_
        exact W.iret (v := r6) hx hb hr (fun t ht hW => ⟨⟨_, (ci6, ai6, al6), rfl, h, by rw [ht]; exact hP, cK.moved hW.alike hK, hD⟩, hS.F ht⟩) hS.2.2 dX9_lookThrough_94
      · have h := h.2 c_76
        refine lv_aload_n hx hb dX9_lookThrough_79 rfl (lv_at hl 2 rfl) ?_
        refine c_get (C := RX9) (T := TX9) (N := 8) (K := 8) (v := .ref q1) hx hb hts hinX9 hown hK hP hq hk (by decide) rfl 5 (by decide) (hts _ mwC_174) (fun _ h9 => h9) (by show some (va_rf (sR sh q 5)) = _; rw [e2]; rfl) dX9_lookThrough_80 ?_
        refine lv_iload hx hb dX9_lookThrough_83 (lv_at hl 4 rfl) ?_
        refine r_endl (c_runZ (rm := ({ frames := 20 + 2 * 30, cells := 0, slots := 0, locals := 300 + 50 * 30 })) (y := yX5_number) (x := ⟨"NeededLists$LazyList", "number", "(I)J"⟩) (n := 1) (bytes := cX5_number) (maxL := 3) (ret := (some .long)) (q := q1) (As := [.int x5]) (rest := []) ⟨hx, hb, hml, hown, hts⟩ (p_X5_number_f l dC dI sh 30 _ _ _ q1 x5 _ h H.size) mwC_176 mwC_92 mwC_93 mwC_22 mwC_94 mwC_95 mwC_96 mwC_97 mwC_98 mwC_99 mwC_100 mwC_101 mwC_102 mwC_103 rfl (by decide +kernel) rfl rfl ⟨(show 20 + 2 * 30 + 1 ≤ 302 + 5 * d by omega), (show 8 + (3 + 11) + (300 + 50 * 30) ≤ 6080 + 200 * d by omega)⟩ hK hP hD hG hm3 hk4 rfl hl.1 rfl (Nat.le_of_ble_eq_true rfl) ⟨Nat.le_of_ble_eq_true rfl, Nat.le_of_ble_eq_true rfl⟩ dX9_lookThrough_85) hP hS hA (fun r7 H locs h hP hS => ?_)
        refine lv_lload_n hx hb dX9_lookThrough_88 rfl (lv_at hl 3 rfl) ?_
        refine W.lcmp hx hb dX9_lookThrough_89 ?_
        refine lv_if_eq (tgt := 95) hx hb dX9_lookThrough_90 (by decide) (fun c_90 => ?_) (fun c_90 => ?_)
        · have h := h.1 c_90
          refine lv_iinc (v := x5 + 1) (lv' := [(5, .int (x5 + 1)), (2, .int r6), (6, .int r5), (0, .ref q), (3, .long x3)]) hx hb dX9_lookThrough_95 hl (k := 4) rfl (iinc_1 _) (by decide) rfl (fun ls hl => ?_)
          refine lv_goto (tgt := 30) hx hb dX9_lookThrough_98 (by decide) ?_
          exact hK30 _ _ _ _ _ H _ ls h hP hD hS (lv_sub hl [3, 4, 0] rfl)
        · have h := h.2 c_90
          refine lv_iload_n hx hb dX9_lookThrough_93 rfl (lv_at hl 0 rfl) ?_
          exact W.iret (v := r6) hx hb hr (fun t ht hW => ⟨⟨_, (ci6, ai6, al6), rfl, h, by rw [ht]; exact hP, cK.moved hW.alike hK, hD⟩, hS.F ht⟩) hS.2.2 dX9_lookThrough_94
    · have h := h.2 c_58
      refine lv_iload hx hb dX9_lookThrough_61 (lv_at hl 0 rfl) ?_
      exact W.iret (v := r5) hx hb hr (fun t ht hW => ⟨⟨_, (ci5, ai5, al5), rfl, h, by rw [ht]; exact hP, cK.moved hW.alike hK, hD⟩, hS.F ht⟩) hS.2.2 dX9_lookThrough_63
set_option maxHeartbeats 4000000 in
set_option maxRecDepth 100000 in
theorem t_X9_lookThrough_30 {p : Program} {l : Launch} {e : Env} {s : State} {m : MethodId} {args : Array Value} {below : List Frame} {meth : Method} {c : Code} {A : Nat → Prop} {dC : Nat → ClassId} {dI : Nat → Nat → Nat} {sh : Sh} {q : Nat}  {Q : Int32 → (Nat → Nat → Int32) → (Nat → Nat → Int32) → (Nat → Nat → Int64) → Prop} (hx : p.tables.exec = Jvm.exec) (hb : c.code = cX9_lookThrough) (hr : meth.sig.returnType = (some .int)) (hts : ∀ w ∈ WC, w.before args s = true) (hown : s.vm.findClass RX9 = some m.cls) (hlocks : meth.locks = false) (hml : c.maxLocals = 7) (hA : ∀ q : Nat, s.heap.size ≤ q → A q) (hK : cK dC dI sh s) (hG : Gc s) (hq : q ∈ sL sh) (hk : sK sh q = 8) {d : Nat} {Gr Gw : (Nat → Nat → Int32) → (Nat → Nat → Int32) → (Nat → Nat → Int64) → Nat → Int32 → (Int32 → (Nat → Nat → Int32) → (Nat → Nat → Int32) → (Nat → Nat → Int64) → Prop) → Prop} (hGr : GM l dC dI sh yX5_reach wmX5_reach ({ frames := 300 + 5 * d, cells := 0, slots := 0, locals := 6000 + 200 * d }) Gr) (hGw : GM l dC dI sh yX5_work wmX5_work ({ frames := 300 + 5 * d, cells := 0, slots := 0, locals := 6000 + 200 * d }) Gw)  : ∀ n : Nat, ∀ (ci : Nat → Nat → Int32) (ai : Nat → Nat → Int32) (al : Nat → Nat → Int64) (x3 : Int64) (x5 : Int32) (H : Heap) (locs : List Loc) (ls : Array Slot), P_X9_lookThrough_30 sh Gr Gw  Q q n ci ai al x3 x5 → va_P (dC, dI) vwCl (cW sh ci ai al) H → va_D A (cW sh ci ai al) → va_S A s.heap H locs → lv_has ls 7 [(0, .ref q), (3, .long x3), (5, .int x5)] → W p l e (headSpec wmX9_lookThrough ({ frames := 302 + 5 * d, cells := 0, slots := 0, locals := 6080 + 200 * d })).room s m args below meth c H locs 0 0 (MQ below (va_Qi (S := CSt) (cI Q) (cB dC dI sh A) A) args s 0 0 A) (F0 m 30 ls []) := by
  intro n
  induction n with
  | zero => intro ci ai al x3 x5 H locs ls h; exact h.elim
  | succ n ih => exact b_X9_lookThrough_30 hx hb hr hts hown hlocks hml hA hK hG hq hk hGr hGw  ih
def P_X9_lookThrough (sh : Sh) (Gr Gw : (Nat → Nat → Int32) → (Nat → Nat → Int32) → (Nat → Nat → Int64) → Nat → Int32 → (Int32 → (Nat → Nat → Int32) → (Nat → Nat → Int32) → (Nat → Nat → Int64) → Prop) → Prop) (ci : Nat → Nat → Int32) (ai : Nat → Nat → Int32) (al : Nat → Nat → Int64) (q : Nat) (p0 : Int32) (Q : Int32 → (Nat → Nat → Int32) → (Nat → Nat → Int32) → (Nat → Nat → Int64) → Prop) : Prop := (q ∈ sL sh ∧ sK sh q = 8) ∧ ∃ q1 : Nat, sR sh q 5 = some q1 ∧ (q1 ∈ sL sh ∧ isZ (sK sh q1)) ∧ Gw ci ai al q1 p0 (fun r5 ci5 ai5 al5 => ((r5 = 1) → (P_X5_number_f sh 30 ci5 ai5 al5 q1 p0 (fun r6 => ∃ n9 : Nat, P_X9_lookThrough_30 sh Gr Gw  Q q n9 ci5 ai5 al5 r6 (p0 + 1)))) ∧ ((¬ r5 = 1) → (Q r5 ci5 ai5 al5)))
set_option maxHeartbeats 4000000 in
set_option maxRecDepth 100000 in
theorem p_X9_lookThrough (l : Launch) (dC : Nat → ClassId) (dI : Nat → Nat → Nat) (sh : Sh) (d : Nat) {Gr Gw : (Nat → Nat → Int32) → (Nat → Nat → Int32) → (Nat → Nat → Int64) → Nat → Int32 → (Int32 → (Nat → Nat → Int32) → (Nat → Nat → Int32) → (Nat → Nat → Int64) → Prop) → Prop} (hGr : GM l dC dI sh yX5_reach wmX5_reach ({ frames := 300 + 5 * d, cells := 0, slots := 0, locals := 6000 + 200 * d }) Gr) (hGw : GM l dC dI sh yX5_work wmX5_work ({ frames := 300 + 5 * d, cells := 0, slots := 0, locals := 6000 + 200 * d }) Gw) (ci : Nat → Nat → Int32) (ai : Nat → Nat → Int32) (al : Nat → Nat → Int64) (q : Nat) (p0 : Int32) (Q : Int32 → (Nat → Nat → Int32) → (Nat → Nat → Int32) → (Nat → Nat → Int64) → Prop) (h : P_X9_lookThrough sh Gr Gw ci ai al q p0 Q) (sz : Nat) : Met l yX9_lookThrough wmX9_lookThrough ({ frames := 302 + 5 * d, cells := 0, slots := 0, locals := 6080 + 200 * d }) (va_Pc [.ref q, .int p0] (cPre dC dI sh ci ai al sz)) (va_Qi (S := CSt) (cI Q) (cB dC dI sh (va_A (cW sh ci ai al) sz)) (va_A (cW sh ci ai al) sz)) 0 0 (va_A (cW sh ci ai al) sz) := by
  refine Met.ofW (cc := cX9_lookThrough) (maxL := 7) (ret := (some .int)) (by decide) rfl ?_
  intro p e s m args below meth c s₁ B hml hv
  obtain ⟨rfl, hsz, hP, hK, hD0, hG⟩ := hv
  have hx := B.exec
  have hb := B.bytes
  have hr := B.returns
  have hts : ∀ w ∈ WC, w.before _ s = true := fun w h => atoms_spec (ws := wmX9_lookThrough) B.pre w (List.mem_cons_of_mem _ h)
  have hown : s.vm.findClass RX9 = some m.cls := findClass_of_methodNamed B.named
  have hlocks := B.notSynchronized
  subst hsz
  have hD := hD0.self (sz := s.heap.size)
  generalize hAe : va_A (cW sh ci ai al) s.heap.size = A at hD ⊢
  have hA : ∀ q : Nat, s.heap.size ≤ q → A q := fun q h => by rw [← hAe]; exact Or.inr h
  generalize hH : s.heap = H at hP ⊢
  have hS : va_S A s.heap H [] := by rw [← hH]; exact va_S.rf
  have hl := lv_entry [.ref q, .int p0] (n := 7) (Nat.le_of_ble_eq_true rfl)
  rw [lg_entry_eq]
  generalize (lg_sl [.ref q, .int p0] ++ List.replicate (7 - (lg_sl [.ref q, .int p0]).length) Slot.unset).toArray = ls at hl ⊢
  have hl : lv_has ls 7 [(0, .ref q), (1, .int p0)] := hl
  unfold P_X9_lookThrough at h
  obtain ⟨⟨hq, hk⟩, h⟩ := h
  refine lv_aload_n hx hb dX9_lookThrough_0 rfl (lv_at hl 0 rfl) ?_
  obtain ⟨q1, e2, h⟩ := h
  refine c_get (C := RX9) (T := TX9) (N := 8) (K := 8) (v := .ref q1) hx hb hts hinX9 hown hK hP hq hk (by decide) rfl 5 (by decide) (hts _ mwC_174) (fun _ h9 => h9) (by show some (va_rf (sR sh q 5)) = _; rw [e2]; rfl) dX9_lookThrough_1 ?_
  refine lv_iload_n hx hb dX9_lookThrough_4 rfl (lv_at hl 1 rfl) ?_
  obtain ⟨⟨hm3, hk4⟩, h⟩ := h
  refine c_endi (c_runZ (rm := ({ frames := 300 + 5 * d, cells := 0, slots := 0, locals := 6000 + 200 * d })) (y := yX5_work) (x := ⟨"NeededLists$LazyList", "work", "(I)I"⟩) (n := 1) (bytes := cX5_work) (maxL := 4) (ret := (some .int)) (q := q1) (As := [.int p0]) (rest := []) ⟨hx, hb, hml, hown, hts⟩ (hGw _ _ _ q1 p0 _ h H.size) mwC_175 mwC_159 mwC_160 mwC_22 mwC_161 mwC_162 mwC_163 mwC_164 mwC_165 mwC_166 mwC_167 mwC_168 mwC_169 mwC_170 rfl (by decide +kernel) rfl rfl ⟨(show 300 + 5 * d + 1 ≤ 302 + 5 * d by omega), (show 8 + (4 + 11) + (6000 + 200 * d) ≤ 6080 + 200 * d by omega)⟩ hK hP hD hG hm3 hk4 rfl hl.1 rfl (Nat.le_of_ble_eq_true rfl) ⟨Nat.le_of_ble_eq_true rfl, Nat.le_of_ble_eq_true rfl⟩ dX9_lookThrough_5) hD hS hA (fun r5 ci5 ai5 al5 H locs h hP hD hS => ?_)
  refine lv_istore_n (lv' := [(2, .int r5), (0, .ref q), (1, .int p0)]) hx hb dX9_lookThrough_8 rfl hl (by decide) rfl (fun ls hl => ?_)
  refine lv_iload_n hx hb dX9_lookThrough_9 rfl (lv_at hl 0 rfl) ?_
  refine lv_iconst (v := 1) hx hb dX9_lookThrough_10 (by decide) ?_
  refine lv_icmp_eq (tgt := 16) hx hb dX9_lookThrough_11 (by decide) (fun c_11 => ?_) (fun c_11 => ?_)
  · have h := h.1 c_11
    refine lv_aload_n hx hb dX9_lookThrough_16 rfl (lv_at hl 1 rfl) ?_
    refine c_get (C := RX9) (T := TX9) (N := 8) (K := 8) (v := .ref q1) hx hb hts hinX9 hown hK hP hq hk (by decide) rfl 5 (by decide) (hts _ mwC_174) (fun _ h9 => h9) (by show some (va_rf (sR sh q 5)) = _; rw [e2]; rfl) dX9_lookThrough_17 ?_
    refine lv_iload_n hx hb dX9_lookThrough_20 rfl (lv_at hl 2 rfl) ?_
    refine r_endl (c_runZ (rm := ({ frames := 20 + 2 * 30, cells := 0, slots := 0, locals := 300 + 50 * 30 })) (y := yX5_number) (x := ⟨"NeededLists$LazyList", "number", "(I)J"⟩) (n := 1) (bytes := cX5_number) (maxL := 3) (ret := (some .long)) (q := q1) (As := [.int p0]) (rest := []) ⟨hx, hb, hml, hown, hts⟩ (p_X5_number_f l dC dI sh 30 _ _ _ q1 p0 _ h H.size) mwC_176 mwC_92 mwC_93 mwC_22 mwC_94 mwC_95 mwC_96 mwC_97 mwC_98 mwC_99 mwC_100 mwC_101 mwC_102 mwC_103 rfl (by decide +kernel) rfl rfl ⟨(show 20 + 2 * 30 + 1 ≤ 302 + 5 * d by omega), (show 8 + (3 + 11) + (300 + 50 * 30) ≤ 6080 + 200 * d by omega)⟩ hK hP hD hG hm3 hk4 rfl hl.1 rfl (Nat.le_of_ble_eq_true rfl) ⟨Nat.le_of_ble_eq_true rfl, Nat.le_of_ble_eq_true rfl⟩ dX9_lookThrough_21) hP hS hA (fun r6 H locs h hP hS => ?_)
    refine lv_lstore_n (lv' := [(3, .long r6), (2, .int r5), (0, .ref q), (1, .int p0)]) hx hb dX9_lookThrough_24 rfl hl (by decide) rfl (fun ls hl => ?_)
    refine lv_iload_n hx hb dX9_lookThrough_25 rfl (lv_at hl 3 rfl) ?_
    refine lv_iconst (v := 1) hx hb dX9_lookThrough_26 (by decide) ?_
    refine lv_iadd hx hb dX9_lookThrough_27 ?_
    refine lv_istore (lv' := [(5, .int (p0 + 1)), (3, .long r6), (2, .int r5), (0, .ref q), (1, .int p0)]) hx hb dX9_lookThrough_28 hl (by decide) rfl (fun ls hl => ?_)
    obtain ⟨n9, h⟩ := h
    exact t_X9_lookThrough_30 hx hb hr hts hown hlocks hml hA hK hG hq hk hGr hGw  n9 _ _ _ _ _ H _ ls h hP hD hS (lv_sub hl [3, 1, 0] rfl)
  · have h := h.2 c_11
    refine lv_iload_n hx hb dX9_lookThrough_14 rfl (lv_at hl 0 rfl) ?_
    exact W.iret (v := r5) hx hb hr (fun t ht hW => ⟨⟨_, (ci5, ai5, al5), rfl, h, by rw [ht]; exact hP, cK.moved hW.alike hK, hD⟩, hS.F ht⟩) hS.2.2 dX9_lookThrough_15
