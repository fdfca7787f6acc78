theorem dX5_reach_0 : decode cX5_reach 0 = .ok (.iload_n 1, 1) := by decide +kernel
theorem dX5_reach_1 : decode cX5_reach 1 = .ok (.sipush 400, 3) := by decide +kernel
theorem dX5_reach_4 : decode cX5_reach 4 = .ok (.invokestatic 30, 3) := by decide +kernel
theorem dX5_reach_7 : decode cX5_reach 7 = .ok (.istore_n 2, 1) := by decide +kernel
theorem dX5_reach_8 : decode cX5_reach 8 = .ok (.aload_n 0, 1) := by decide +kernel
theorem dX5_reach_9 : decode cX5_reach 9 = .ok (.getfield 27, 3) := by decide +kernel
theorem dX5_reach_12 : decode cX5_reach 12 = .ok (.istore_n 3, 1) := by decide +kernel
theorem dX5_reach_13 : decode cX5_reach 13 = .ok (.iload_n 3, 1) := by decide +kernel
theorem dX5_reach_14 : decode cX5_reach 14 = .ok (.iload_n 2, 1) := by decide +kernel
theorem dX5_reach_15 : decode cX5_reach 15 = .ok (.if_icmp .gt 69, 3) := by decide +kernel
theorem dX5_reach_18 : decode cX5_reach 18 = .ok (.aload_n 0, 1) := by decide +kernel
theorem dX5_reach_19 : decode cX5_reach 19 = .ok (.getfield 23, 3) := by decide +kernel
theorem dX5_reach_22 : decode cX5_reach 22 = .ok (.ifCond .ne 62, 3) := by decide +kernel
theorem dX5_reach_25 : decode cX5_reach 25 = .ok (.iload_n 3, 1) := by decide +kernel
theorem dX5_reach_26 : decode cX5_reach 26 = .ok (.sipush 400, 3) := by decide +kernel
theorem dX5_reach_29 : decode cX5_reach 29 = .ok (.if_icmp .ne 5, 3) := by decide +kernel
theorem dX5_reach_32 : decode cX5_reach 32 = .ok (.iconst 3, 1) := by decide +kernel
theorem dX5_reach_33 : decode cX5_reach 33 = .ok (.ireturn, 1) := by decide +kernel
theorem dX5_reach_34 : decode cX5_reach 34 = .ok (.aload_n 0, 1) := by decide +kernel
theorem dX5_reach_35 : decode cX5_reach 35 = .ok (.iload_n 3, 1) := by decide +kernel
theorem dX5_reach_36 : decode cX5_reach 36 = .ok (.invokevirtual 36, 3) := by decide +kernel
theorem dX5_reach_39 : decode cX5_reach 39 = .ok (.istore 4, 2) := by decide +kernel
theorem dX5_reach_41 : decode cX5_reach 41 = .ok (.iload 4, 2) := by decide +kernel
theorem dX5_reach_43 : decode cX5_reach 43 = .ok (.iconst 3, 1) := by decide +kernel
theorem dX5_reach_44 : decode cX5_reach 44 = .ok (.if_icmp .eq 13, 3) := by decide +kernel
theorem dX5_reach_47 : decode cX5_reach 47 = .ok (.aload_n 0, 1) := by decide +kernel
theorem dX5_reach_48 : decode cX5_reach 48 = .ok (.getfield 9, 3) := by decide +kernel
theorem dX5_reach_51 : decode cX5_reach 51 = .ok (.invokevirtual 40, 3) := by decide +kernel
theorem dX5_reach_54 : decode cX5_reach 54 = .ok (.ifCond .ne 5, 3) := by decide +kernel
theorem dX5_reach_57 : decode cX5_reach 57 = .ok (.iconst 3, 1) := by decide +kernel
theorem dX5_reach_58 : decode cX5_reach 58 = .ok (.ireturn, 1) := by decide +kernel
theorem dX5_reach_59 : decode cX5_reach 59 = .ok (.aload_n 0, 1) := by decide +kernel
theorem dX5_reach_60 : decode cX5_reach 60 = .ok (.iload_n 3, 1) := by decide +kernel
theorem dX5_reach_61 : decode cX5_reach 61 = .ok (.iconst 1, 1) := by decide +kernel
theorem dX5_reach_62 : decode cX5_reach 62 = .ok (.iadd, 1) := by decide +kernel
theorem dX5_reach_63 : decode cX5_reach 63 = .ok (.putfield 27, 3) := by decide +kernel
theorem dX5_reach_66 : decode cX5_reach 66 = .ok (.iload 4, 2) := by decide +kernel
theorem dX5_reach_68 : decode cX5_reach 68 = .ok (.iconst 1, 1) := by decide +kernel
theorem dX5_reach_69 : decode cX5_reach 69 = .ok (.if_icmp .eq 9, 3) := by decide +kernel
theorem dX5_reach_72 : decode cX5_reach 72 = .ok (.aload_n 0, 1) := by decide +kernel
theorem dX5_reach_73 : decode cX5_reach 73 = .ok (.iload 4, 2) := by decide +kernel
theorem dX5_reach_75 : decode cX5_reach 75 = .ok (.putfield 23, 3) := by decide +kernel
theorem dX5_reach_78 : decode cX5_reach 78 = .ok (.iinc 3 1, 3) := by decide +kernel
theorem dX5_reach_81 : decode cX5_reach 81 = .ok (.goto (-68), 3) := by decide +kernel
theorem dX5_reach_84 : decode cX5_reach 84 = .ok (.iload_n 1, 1) := by decide +kernel
theorem dX5_reach_85 : decode cX5_reach 85 = .ok (.aload_n 0, 1) := by decide +kernel
theorem dX5_reach_86 : decode cX5_reach 86 = .ok (.invokevirtual 46, 3) := by decide +kernel
theorem dX5_reach_89 : decode cX5_reach 89 = .ok (.if_icmp .ge 7, 3) := by decide +kernel
theorem dX5_reach_92 : decode cX5_reach 92 = .ok (.iconst 1, 1) := by decide +kernel
theorem dX5_reach_93 : decode cX5_reach 93 = .ok (.goto 7, 3) := by decide +kernel
theorem dX5_reach_96 : decode cX5_reach 96 = .ok (.aload_n 0, 1) := by decide +kernel
theorem dX5_reach_97 : decode cX5_reach 97 = .ok (.getfield 23, 3) := by decide +kernel
theorem dX5_reach_100 : decode cX5_reach 100 = .ok (.ireturn, 1) := by decide +kernel
theorem hd_X5_reach : yX5_reach.cls = RX5 ∧ yX5_reach.cls ≠ "java/lang/invoke/MethodHandle" ∧ yX5_reach.cls ≠ "java/lang/invoke/VarHandle" ∧ (parseMethodDescriptor yX5_reach.desc).map (fun d => d.parameters.length) = some 1 := by decide +kernel
def B_X5_reach_13 (sh : Sh) (Gr Gw : (Nat → Nat → Int32) → (Nat → Nat → Int32) → (Nat → Nat → Int64) → Nat → Int32 → (Int32 → (Nat → Nat → Int32) → (Nat → Nat → Int32) → (Nat → Nat → Int64) → Prop) → Prop)  (K13 : (Nat → Nat → Int32) → (Nat → Nat → Int32) → (Nat → Nat → Int64) → Int32 → Int32 → Int32 → Prop) (Q : Int32 → (Nat → Nat → Int32) → (Nat → Nat → Int32) → (Nat → Nat → Int64) → Prop) (q : Nat) (ci : Nat → Nat → Int32) (ai : Nat → Nat → Int32) (al : Nat → Nat → Int64) (x1 : Int32) (x2 : Int32) (x3 : Int32) : Prop := ((x2 < x3) → (P_X5_there sh ci ai al q  (fun r1 => ((r1 ≤ x1) → (Q (ci q 4) ci ai al)) ∧ ((¬ r1 ≤ x1) → (Q 1 ci ai al))))) ∧ ((¬ x2 < x3) → (((¬ (ci q 4) = 0) → (P_X5_there sh ci ai al q  (fun r2 => ((r2 ≤ x1) → (Q (ci q 4) ci ai al)) ∧ ((¬ r2 ≤ x1) → (Q 1 ci ai al))))) ∧ (((ci q 4) = 0) → (((¬ x3 = 400) → (P_V_seek sh Gr Gw ci ai al q x3 (fun r3 ci3 ai3 al3 => ((r3 = 3) → (Q 3 ci3 ai3 al3)) ∧ ((¬ r3 = 3) → (∃ q4 : Nat, sR sh q 0 = some q4 ∧ (q4 ∈ sL sh ∧ sK sh q4 = 5) ∧ P_X6_spend sh ci3 ai3 al3 q4  (fun r8 ci8 ai8 al8 => ((¬ r8 = 0) → (((r3 = 1) → (K13 (va_up ci8 q (va_up (ci8 q) 3 (x3 + 1))) ai8 al8 x1 x2 (x3 + 1))) ∧ ((¬ r3 = 1) → (K13 (va_up (va_up ci8 q (va_up (ci8 q) 3 (x3 + 1))) q (va_up ((va_up ci8 q (va_up (ci8 q) 3 (x3 + 1))) q) 4 r3)) ai8 al8 x1 x2 (x3 + 1))))) ∧ ((r8 = 0) → (Q 3 ci8 ai8 al8)))))))) ∧ ((x3 = 400) → (Q 3 ci ai al))))))
def P_X5_reach_13 (sh : Sh) (Gr Gw : (Nat → Nat → Int32) → (Nat → Nat → Int32) → (Nat → Nat → Int64) → Nat → Int32 → (Int32 → (Nat → Nat → Int32) → (Nat → Nat → Int32) → (Nat → Nat → Int64) → Prop) → Prop)  (Q : Int32 → (Nat → Nat → Int32) → (Nat → Nat → Int32) → (Nat → Nat → Int64) → Prop) (q : Nat) : Nat → (Nat → Nat → Int32) → (Nat → Nat → Int32) → (Nat → Nat → Int64) → Int32 → Int32 → Int32 → Prop
  | 0 => fun _ _ _ _ _ _ => False
  | n + 1 => B_X5_reach_13 sh Gr Gw  (P_X5_reach_13 sh Gr Gw  Q q n) Q q
set_option maxHeartbeats 4000000 in
set_option maxRecDepth 100000 in
theorem b_X5_reach_13 {p : Program} {l : Launch} {e : Env} {s : State} {m : MethodId} {args : Array Value} {below : List Frame} {meth : Method} {c : Code} {A : Nat → Prop} {dC : Nat → ClassId} {dI : Nat → Nat → Nat} {sh : Sh} {q : Nat}  {K13 : (Nat → Nat → Int32) → (Nat → Nat → Int32) → (Nat → Nat → Int64) → Int32 → Int32 → Int32 → Prop} {Q : Int32 → (Nat → Nat → Int32) → (Nat → Nat → Int32) → (Nat → Nat → Int64) → Prop} (hx : p.tables.exec = Jvm.exec) (hb : c.code = cX5_reach) (hr : meth.sig.returnType = (some .int)) (hts : ∀ w ∈ WC, w.before args s = true) (hown : s.vm.findClass RX5 = some m.cls) (hlocks : meth.locks = false) (hml : c.maxLocals = 5) (hA : ∀ q : Nat, s.heap.size ≤ q → A q) (hK : cK dC dI sh s) (hG : Gc s) (hq : q ∈ sL sh) (hk : isZ (sK sh q)) {d : Nat} {Gr Gw : (Nat → Nat → Int32) → (Nat → Nat → Int32) → (Nat → Nat → Int64) → Nat → Int32 → (Int32 → (Nat → Nat → Int32) → (Nat → Nat → Int32) → (Nat → Nat → Int64) → Prop) → Prop} (hGr : GM l dC dI sh yX5_reach wmX5_reach ({ frames := 300 + 5 * d, cells := 0, slots := 0, locals := 6000 + 200 * d }) Gr) (hGw : GM l dC dI sh yX5_work wmX5_work ({ frames := 300 + 5 * d, cells := 0, slots := 0, locals := 6000 + 200 * d }) Gw)  (hK13 : ∀ (ci : Nat → Nat → Int32) (ai : Nat → Nat → Int32) (al : Nat → Nat → Int64) (x1 : Int32) (x2 : Int32) (x3 : Int32) (H : Heap) (locs : List Loc) (ls : Array Slot), K13 ci ai al x1 x2 x3 → va_P (dC, dI) vwCl (cW sh ci ai al) H → va_D A (cW sh ci ai al) → va_S A s.heap H locs → lv_has ls 5 [(0, .ref q), (1, .int x1), (2, .int x2), (3, .int x3)] → W p l e (headSpec wmX5_reach ({ frames := 300 + 5 * (d + 1), cells := 0, slots := 0, locals := 6000 + 200 * (d + 1) })).room s m args below meth c H locs 0 0 (MQ below (va_Qi (S := CSt) (cI Q) (cB dC dI sh A) A) args s 0 0 A) (F0 m 13 ls [])) : ∀ (ci : Nat → Nat → Int32) (ai : Nat → Nat → Int32) (al : Nat → Nat → Int64) (x1 : Int32) (x2 : Int32) (x3 : Int32) (H : Heap) (locs : List Loc) (ls : Array Slot), B_X5_reach_13 sh Gr Gw  K13 Q q ci ai al x1 x2 x3 → va_P (dC, dI) vwCl (cW sh ci ai al) H → va_D A (cW sh ci ai al) → va_S A s.heap H locs → lv_has ls 5 [(0, .ref q), (1, .int x1), (2, .int x2), (3, .int x3)] → W p l e (headSpec wmX5_reach ({ frames := 300 + 5 * (d + 1), cells := 0, slots := 0, locals := 6000 + 200 * (d + 1) })).room s m args below meth c H locs 0 0 (MQ below (va_Qi (S := CSt) (cI Q) (cB dC dI sh A) A) args s 0 0 A) (F0 m 13 ls []) := by
  intro ci ai al x1 x2 x3 H locs ls h hP hD hS hl
  unfold B_X5_reach_13 at h
  refine lv_iload_n hx hb dX5_reach_13 rfl (lv_at hl 3 rfl) ?_
  refine lv_iload_n hx hb dX5_reach_14 rfl (lv_at hl 2 rfl) ?_
  refine lv_icmp_gt (tgt := 84) hx hb dX5_reach_15 (by decide) (fun c_15 => ?_) (fun c_15 => ?_)
  · have h := h.1 c_15
    refine lv_iload_n hx hb dX5_reach_84 rfl (lv_at hl 1 rfl) ?_
    refine lv_aload_n hx hb dX5_reach_85 rfl (lv_at hl 0 rfl) ?_
    refine r_endi (c_runZ (rm := ({ frames := 4, cells := 0, slots := 0, locals := 60 })) (y := yX5_there) (x := ⟨"NeededLists$LazyList", "there", "()I"⟩) (n := 0) (bytes := cX5_there) (maxL := 1) (ret := (some .int)) (q := q) (As := []) (rest := [.int x1]) ⟨hx, hb, hml, hown, hts⟩ (p_X5_there l dC dI sh _ _ _ q  _ h H.size) mwC_324 mwC_20 mwC_21 mwC_22 mwC_23 mwC_24 mwC_25 mwC_26 mwC_27 mwC_28 mwC_29 mwC_30 mwC_31 mwC_32 rfl (by decide +kernel) rfl rfl ⟨(show 4 + 1 ≤ 300 + 5 * (d + 1) by omega), (show 8 + (1 + 11) + (60) ≤ 6000 + 200 * (d + 1) by omega)⟩ hK hP hD hG hq hk rfl hl.1 rfl (Nat.le_of_ble_eq_true rfl) ⟨Nat.le_of_ble_eq_true rfl, Nat.le_of_ble_eq_true rfl⟩ dX5_reach_86) hP hS hA (fun r1 H locs h hP hS => ?_)
    refine lv_icmp_ge (tgt := 96) hx hb dX5_reach_89 (by decide) (fun c_89 => ?_) (fun c_89 => ?_)
    · have h := h.1 c_89
      refine lv_aload_n hx hb dX5_reach_96 rfl (lv_at hl 0 rfl) ?_
      refine c_getZ4 hx hb hts hown hK hP hq hk (hts _ mwC_15) dX5_reach_97 ?_
      exact W.iret (v := (ci q 4)) hx hb hr (fun t ht hW => ⟨⟨_, (ci, ai, al), rfl, h, by rw [ht]; exact hP, cK.moved hW.alike hK, hD⟩, hS.F ht⟩) hS.2.2 dX5_reach_100
    · have h := h.2 c_89
      refine lv_iconst (v := 1) hx hb dX5_reach_92 (by decide) ?_
      refine lv_goto (tgt := 100) hx hb dX5_reach_93 (by decide) ?_
      exact W.iret (v := 1) hx hb hr (fun t ht hW => ⟨⟨_, (ci, ai, al), rfl, h, by rw [ht]; exact hP, cK.moved hW.alike hK, hD⟩, hS.F ht⟩) hS.2.2 dX5_reach_100
  · have h := h.2 c_15
    refine lv_aload_n hx hb dX5_reach_18 rfl (lv_at hl 0 rfl) ?_
    refine c_getZ4 hx hb hts hown hK hP hq hk (hts _ mwC_15) dX5_reach_19 ?_
    refine lv_if_ne (tgt := 84) hx hb dX5_reach_22 (by decide) (fun c_22 => ?_) (fun c_22 => ?_)
    · have h := h.1 c_22
      refine lv_iload_n hx hb dX5_reach_84 rfl (lv_at hl 1 rfl) ?_
      refine lv_aload_n hx hb dX5_reach_85 rfl (lv_at hl 0 rfl) ?_
      refine r_endi (c_runZ (rm := ({ frames := 4, cells := 0, slots := 0, locals := 60 })) (y := yX5_there) (x := ⟨"NeededLists$LazyList", "there", "()I"⟩) (n := 0) (bytes := cX5_there) (maxL := 1) (ret := (some .int)) (q := q) (As := []) (rest := [.int x1]) ⟨hx, hb, hml, hown, hts⟩ (p_X5_there l dC dI sh _ _ _ q  _ h H.size) mwC_324 mwC_20 mwC_21 mwC_22 mwC_23 mwC_24 mwC_25 mwC_26 mwC_27 mwC_28 mwC_29 mwC_30 mwC_31 mwC_32 rfl (by decide +kernel) rfl rfl ⟨(show 4 + 1 ≤ 300 + 5 * (d + 1) by omega), (show 8 + (1 + 11) + (60) ≤ 6000 + 200 * (d + 1) by omega)⟩ hK hP hD hG hq hk rfl hl.1 rfl (Nat.le_of_ble_eq_true rfl) ⟨Nat.le_of_ble_eq_true rfl, Nat.le_of_ble_eq_true rfl⟩ dX5_reach_86) hP hS hA (fun r2 H locs h hP hS => ?_)
      refine lv_icmp_ge (tgt := 96) hx hb dX5_reach_89 (by decide) (fun c_89 => ?_) (fun c_89 => ?_)
      · have h := h.1 c_89
        refine lv_aload_n hx hb dX5_reach_96 rfl (lv_at hl 0 rfl) ?_
        refine c_getZ4 hx hb hts hown hK hP hq hk (hts _ mwC_15) dX5_reach_97 ?_
        exact W.iret (v := (ci q 4)) hx hb hr (fun t ht hW => ⟨⟨_, (ci, ai, al), rfl, h, by rw [ht]; exact hP, cK.moved hW.alike hK, hD⟩, hS.F ht⟩) hS.2.2 dX5_reach_100
      · have h := h.2 c_89
        refine lv_iconst (v := 1) hx hb dX5_reach_92 (by decide) ?_
        refine lv_goto (tgt := 100) hx hb dX5_reach_93 (by decide) ?_
        exact W.iret (v := 1) hx hb hr (fun t ht hW => ⟨⟨_, (ci, ai, al), rfl, h, by rw [ht]; exact hP, cK.moved hW.alike hK, hD⟩, hS.F ht⟩) hS.2.2 dX5_reach_100
    · have h := h.2 c_22
      refine lv_iload_n hx hb dX5_reach_25 rfl (lv_at hl 3 rfl) ?_
      refine lv_sipush (v := 400) hx hb dX5_reach_26 (by decide) ?_
      refine lv_icmp_ne (tgt := 34) hx hb dX5_reach_29 (by decide) (fun c_29 => ?_) (fun c_29 => ?_)
      · have h := h.1 c_29
        refine lv_aload_n hx hb dX5_reach_34 rfl (lv_at hl 0 rfl) ?_
        refine lv_iload_n hx hb dX5_reach_35 rfl (lv_at hl 3 rfl) ?_
        refine c_endi (v_seek (k9 := x3) (q := q) (rest := []) hGr hGw h ⟨hx, hb, hml, hown, hts⟩ hK hP hD hG hq hk ⟨(show 303 + 5 * d + 1 ≤ 300 + 5 * (d + 1) by omega), (show 8 + (10 + 11) + (6120 + 200 * d) ≤ 6000 + 200 * (d + 1) by omega)⟩ hl.1 rfl (Nat.le_of_ble_eq_true rfl) ⟨Nat.le_of_ble_eq_true rfl, Nat.le_of_ble_eq_true rfl⟩ dX5_reach_36) hD hS hA (fun r3 ci3 ai3 al3 H locs h hP hD hS => ?_)
        refine lv_istore (lv' := [(4, .int r3), (0, .ref q), (1, .int x1), (2, .int x2), (3, .int x3)]) hx hb dX5_reach_39 hl (by decide) rfl (fun ls hl => ?_)
        refine lv_iload hx hb dX5_reach_41 (lv_at hl 0 rfl) ?_
        refine lv_iconst (v := 3) hx hb dX5_reach_43 (by decide) ?_
        refine lv_icmp_eq (tgt := 57) hx hb dX5_reach_44 (by decide) (fun c_44 => ?_) (fun c_44 => ?_)
        · have h := h.1 c_44
          refine lv_iconst (v := 3) hx hb dX5_reach_57 (by decide) ?_
          exact W.iret (v := 3) hx hb hr (fun t ht hW => ⟨⟨_, (ci3, ai3, al3), rfl, h, by rw [ht]; exact hP, cK.moved hW.alike hK, hD⟩, hS.F ht⟩) hS.2.2 dX5_reach_58
        · have h := h.2 c_44
          refine lv_aload_n hx hb dX5_reach_47 rfl (lv_at hl 1 rfl) ?_
          obtain ⟨q4, e5, h⟩ := h
          refine c_getZ0 hx hb hts hown hK hP hq hk e5 (hts _ mwC_325) dX5_reach_48 ?_
          obtain ⟨⟨hm6, hk7⟩, h⟩ := h
          refine c_endi (va_runV (rm := ({ frames := 4, cells := 0, slots := 0, locals := 60 })) (As := []) (rest := []) ⟨hx, hb, hml, hown, hts⟩ (p_X6_spend l dC dI sh _ _ _ q4  _ h H.size) (cwV 0 hts (g_V gdC mwC_326 mwC_327 mwC_328 mwC_329 mwC_330) rfl rfl rfl hd_X6_spend ⟨(show 4 + 1 ≤ 300 + 5 * (d + 1) by omega), (show 8 + (1 + 11) + (60) ≤ 6000 + 200 * (d + 1) by omega)⟩) (c_preV (vc := (RX6, TX6, 2)) hK hP hD hG hm6 hk7 (by decide) rfl) rfl rfl hl.1 rfl (lv_room (Nat.le_of_ble_eq_true rfl)) dX5_reach_51 ⟨Nat.le_of_ble_eq_true rfl, Nat.le_of_ble_eq_true rfl⟩) hD hS hA (fun r8 ci8 ai8 al8 H locs h hP hD hS => ?_)
          refine lv_if_ne (tgt := 59) hx hb dX5_reach_54 (by decide) (fun c_54 => ?_) (fun c_54 => ?_)
          · have h := h.1 c_54
            refine lv_aload_n hx hb dX5_reach_59 rfl (lv_at hl 1 rfl) ?_
            refine lv_iload_n hx hb dX5_reach_60 rfl (lv_at hl 4 rfl) ?_
            refine lv_iconst (v := 1) hx hb dX5_reach_61 (by decide) ?_
            refine lv_iadd hx hb dX5_reach_62 ?_
            refine c_putZ3 hx hb hts hown hK hP hD hS hq hk (hts _ mwC_16) dX5_reach_63 (fun H locs hP hD hS => ?_)
            refine lv_iload hx hb dX5_reach_66 (lv_at hl 0 rfl) ?_
            refine lv_iconst (v := 1) hx hb dX5_reach_68 (by decide) ?_
            refine lv_icmp_eq (tgt := 78) hx hb dX5_reach_69 (by decide) (fun c_69 => ?_) (fun c_69 => ?_)
            · have h := h.1 c_69
              refine lv_iinc (v := x3 + 1) (lv' := [(3, .int (x3 + 1)), (4, .int r3), (0, .ref q), (1, .int x1), (2, .int x2)]) hx hb dX5_reach_78 hl (k := 4) rfl (iinc_1 _) (by decide) rfl (fun ls hl => ?_)
              refine lv_goto (tgt := 13) hx hb dX5_reach_81 (by decide) ?_
              exact hK13 _ _ _ _ _ _ H _ ls h hP hD hS (lv_sub hl [2, 3, 4, 0] rfl)
            · have h := h.2 c_69
              refine lv_aload_n hx hb dX5_reach_72 rfl (lv_at hl 1 rfl) ?_
              refine lv_iload hx hb dX5_reach_73 (lv_at hl 0 rfl) ?_
              refine c_putZ4 hx hb hts hown hK hP hD hS hq hk (hts _ mwC_15) dX5_reach_75 (fun H locs hP hD hS => ?_)
              refine lv_iinc (v := x3 + 1) (lv' := [(3, .int (x3 + 1)), (4, .int r3), (0, .ref q), (1, .int x1), (2, .int x2)]) hx hb dX5_reach_78 hl (k := 4) rfl (iinc_1 _) (by decide) rfl (fun ls hl => ?_)
              refine lv_goto (tgt := 13) hx hb dX5_reach_81 (by decide) ?_
              exact hK13 _ _ _ _ _ _ H _ ls h hP hD hS (lv_sub hl [2, 3, 4, 0] rfl)
          · have h := h.2 c_54
            refine lv_iconst (v := 3) hx hb dX5_reach_57 (by decide) ?_
            exact W.iret (v := 3) hx hb hr (fun t ht hW => ⟨⟨_, (ci8, ai8, al8), rfl, h, by rw [ht]; exact hP, cK.moved hW.alike hK, hD⟩, hS.F ht⟩) hS.2.2 dX5_reach_58
      · have h := h.2 c_29
        refine lv_iconst (v := 3) hx hb dX5_reach_32 (by decide) ?_
        exact W.iret (v := 3) hx hb hr (fun t ht hW => ⟨⟨_, (ci, ai, al), rfl, h, by rw [ht]; exact hP, cK.moved hW.alike hK, hD⟩, hS.F ht⟩) hS.2.2 dX5_reach_33
set_option maxHeartbeats 4000000 in
set_option maxRecDepth 100000 in
theorem t_X5_reach_13 {p : Program} {l : Launch} {e : Env} {s : State} {m : MethodId} {args : Array Value} {below : List Frame} {meth : Method} {c : Code} {A : Nat → Prop} {dC : Nat → ClassId} {dI : Nat → Nat → Nat} {sh : Sh} {q : Nat}  {Q : Int32 → (Nat → Nat → Int32) → (Nat → Nat → Int32) → (Nat → Nat → Int64) → Prop} (hx : p.tables.exec = Jvm.exec) (hb : c.code = cX5_reach) (hr : meth.sig.returnType = (some .int)) (hts : ∀ w ∈ WC, w.before args s = true) (hown : s.vm.findClass RX5 = some m.cls) (hlocks : meth.locks = false) (hml : c.maxLocals = 5) (hA : ∀ q : Nat, s.heap.size ≤ q → A q) (hK : cK dC dI sh s) (hG : Gc s) (hq : q ∈ sL sh) (hk : isZ (sK sh q)) {d : Nat} {Gr Gw : (Nat → Nat → Int32) → (Nat → Nat → Int32) → (Nat → Nat → Int64) → Nat → Int32 → (Int32 → (Nat → Nat → Int32) → (Nat → Nat → Int32) → (Nat → Nat → Int64) → Prop) → Prop} (hGr : GM l dC dI sh yX5_reach wmX5_reach ({ frames := 300 + 5 * d, cells := 0, slots := 0, locals := 6000 + 200 * d }) Gr) (hGw : GM l dC dI sh yX5_work wmX5_work ({ frames := 300 + 5 * d, cells := 0, slots := 0, locals := 6000 + 200 * d }) Gw)  : ∀ n : Nat, ∀ (ci : Nat → Nat → Int32) (ai : Nat → Nat → Int32) (al : Nat → Nat → Int64) (x1 : Int32) (x2 : Int32) (x3 : Int32) (H : Heap) (locs : List Loc) (ls : Array Slot), P_X5_reach_13 sh Gr Gw  Q q n ci ai al x1 x2 x3 → va_P (dC, dI) vwCl (cW sh ci ai al) H → va_D A (cW sh ci ai al) → va_S A s.heap H locs → lv_has ls 5 [(0, .ref q), (1, .int x1), (2, .int x2), (3, .int x3)] → W p l e (headSpec wmX5_reach ({ frames := 300 + 5 * (d + 1), cells := 0, slots := 0, locals := 6000 + 200 * (d + 1) })).room s m args below meth c H locs 0 0 (MQ below (va_Qi (S := CSt) (cI Q) (cB dC dI sh A) A) args s 0 0 A) (F0 m 13 ls []) := by
  intro n
  induction n with
  | zero => intro ci ai al x1 x2 x3 H locs ls h; exact h.elim
  | succ n ih => exact b_X5_reach_13 hx hb hr hts hown hlocks hml hA hK hG hq hk hGr hGw  ih
def P_X5_reach (sh : Sh) (Gr Gw : (Nat → Nat → Int32) → (Nat → Nat → Int32) → (Nat → Nat → Int64) → Nat → Int32 → (Int32 → (Nat → Nat → Int32) → (Nat → Nat → Int32) → (Nat → Nat → Int64) → Prop) → Prop) (ci : Nat → Nat → Int32) (ai : Nat → Nat → Int32) (al : Nat → Nat → Int64) (q : Nat) (p0 : Int32) (Q : Int32 → (Nat → Nat → Int32) → (Nat → Nat → Int32) → (Nat → Nat → Int64) → Prop) : Prop := (q ∈ sL sh ∧ isZ (sK sh q)) ∧ P_J9_min_7cf53 p0 400 (fun r1 => ∃ n9 : Nat, P_X5_reach_13 sh Gr Gw  Q q n9 ci ai al p0 r1 (ci q 3))
set_option maxHeartbeats 4000000 in
set_option maxRecDepth 100000 in
theorem p_X5_reach (l : Launch) (dC : Nat → ClassId) (dI : Nat → Nat → Nat) (sh : Sh) (d : Nat) {Gr Gw : (Nat → Nat → Int32) → (Nat → Nat → Int32) → (Nat → Nat → Int64) → Nat → Int32 → (Int32 → (Nat → Nat → Int32) → (Nat → Nat → Int32) → (Nat → Nat → Int64) → Prop) → Prop} (hGr : GM l dC dI sh yX5_reach wmX5_reach ({ frames := 300 + 5 * d, cells := 0, slots := 0, locals := 6000 + 200 * d }) Gr) (hGw : GM l dC dI sh yX5_work wmX5_work ({ frames := 300 + 5 * d, cells := 0, slots := 0, locals := 6000 + 200 * d }) Gw) (ci : Nat → Nat → Int32) (ai : Nat → Nat → Int32) (al : Nat → Nat → Int64) (q : Nat) (p0 : Int32) (Q : Int32 → (Nat → Nat → Int32) → (Nat → Nat → Int32) → (Nat → Nat → Int64) → Prop) (h : P_X5_reach sh Gr Gw ci ai al q p0 Q) (sz : Nat) : Met l yX5_reach wmX5_reach ({ frames := 300 + 5 * (d + 1), cells := 0, slots := 0, locals := 6000 + 200 * (d + 1) }) (va_Pc [.ref q, .int p0] (cPre dC dI sh ci ai al sz)) (va_Qi (S := CSt) (cI Q) (cB dC dI sh (va_A (cW sh ci ai al) sz)) (va_A (cW sh ci ai al) sz)) 0 0 (va_A (cW sh ci ai al) sz) := by
  refine Met.ofW (cc := cX5_reach) (maxL := 5) (ret := (some .int)) (by decide) rfl ?_
  intro p e s m args below meth c s₁ B hml hv
  obtain ⟨rfl, hsz, hP, hK, hD0, hG⟩ := hv
  have hx := B.exec
  have hb := B.bytes
  have hr := B.returns
  have hts : ∀ w ∈ WC, w.before _ s = true := fun w h => atoms_spec (ws := wmX5_reach) B.pre w (List.mem_cons_of_mem _ h)
  have hown : s.vm.findClass RX5 = some m.cls := findClass_of_methodNamed B.named
  have hlocks := B.notSynchronized
  subst hsz
  have hD := hD0.self (sz := s.heap.size)
  generalize hAe : va_A (cW sh ci ai al) s.heap.size = A at hD ⊢
  have hA : ∀ q : Nat, s.heap.size ≤ q → A q := fun q h => by rw [← hAe]; exact Or.inr h
  generalize hH : s.heap = H at hP ⊢
  have hS : va_S A s.heap H [] := by rw [← hH]; exact va_S.rf
  have hl := lv_entry [.ref q, .int p0] (n := 5) (Nat.le_of_ble_eq_true rfl)
  rw [lg_entry_eq]
  generalize (lg_sl [.ref q, .int p0] ++ List.replicate (5 - (lg_sl [.ref q, .int p0]).length) Slot.unset).toArray = ls at hl ⊢
  have hl : lv_has ls 5 [(0, .ref q), (1, .int p0)] := hl
  unfold P_X5_reach at h
  obtain ⟨⟨hq, hk⟩, h⟩ := h
  refine lv_iload_n hx hb dX5_reach_0 rfl (lv_at hl 1 rfl) ?_
  refine lv_sipush (v := 400) hx hb dX5_reach_1 (by decide) ?_
  refine r_endi (va_runS (rm := ({ frames := 4, cells := 0, slots := 0, locals := 60 })) (As := [.int p0, .int 400]) (rest := []) ⟨hx, hb, hml, hown, hts⟩ (p_J9_min_7cf53 l dC dI p0 400 _ h H.size) (va_cwS 2 hts (g_S gdC mwC_322 mwC_323 mwC_3 mwC_321) rfl rfl rfl hd_J9_min_7cf53 ⟨(show 4 + 1 ≤ 300 + 5 * (d + 1) by omega), (show 8 + (2 + 11) + (60) ≤ 6000 + 200 * (d + 1) by omega)⟩) ⟨s_blind, fun U hU hW => ⟨rfl, congrArg Array.size hU⟩⟩ rfl rfl hl.1 rfl (lv_room (Nat.le_of_ble_eq_true rfl)) dX5_reach_4 ⟨Nat.le_of_ble_eq_true rfl, Nat.le_of_ble_eq_true rfl⟩) hP hS hA (fun r1 H locs h hP hS => ?_)
  refine lv_istore_n (lv' := [(2, .int r1), (0, .ref q), (1, .int p0)]) hx hb dX5_reach_7 rfl hl (by decide) rfl (fun ls hl => ?_)
  refine lv_aload_n hx hb dX5_reach_8 rfl (lv_at hl 1 rfl) ?_
  refine c_getZ3 hx hb hts hown hK hP hq hk (hts _ mwC_16) dX5_reach_9 ?_
  refine lv_istore_n (lv' := [(3, .int (ci q 3)), (2, .int r1), (0, .ref q), (1, .int p0)]) hx hb dX5_reach_12 rfl hl (by decide) rfl (fun ls hl => ?_)
  obtain ⟨n9, h⟩ := h
  exact t_X5_reach_13 hx hb hr hts hown hlocks hml hA hK hG hq hk hGr hGw  n9 _ _ _ _ _ _ H _ ls h hP hD hS (lv_sub hl [2, 3, 1, 0] rfl)
