theorem dX0_form_0 : decode cX0_form 0 = .ok (.iload_n 1, 1) := by decide +kernel
theorem dX0_form_1 : decode cX0_form 1 = .ok (.ifCond .ne 13, 3) := by decide +kernel
theorem dX0_form_4 : decode cX0_form 4 = .ok (.aload_n 0, 1) := by decide +kernel
theorem dX0_form_5 : decode cX0_form 5 = .ok (.iload_n 1, 1) := by decide +kernel
theorem dX0_form_6 : decode cX0_form 6 = .ok (.aload_n 0, 1) := by decide +kernel
theorem dX0_form_7 : decode cX0_form 7 = .ok (.getfield 23, 3) := by decide +kernel
theorem dX0_form_10 : decode cX0_form 10 = .ok (.invokevirtual 30, 3) := by decide +kernel
theorem dX0_form_13 : decode cX0_form 13 = .ok (.ireturn, 1) := by decide +kernel
theorem dX0_form_14 : decode cX0_form 14 = .ok (.lconst 0, 1) := by decide +kernel
theorem dX0_form_15 : decode cX0_form 15 = .ok (.lstore_n 2, 1) := by decide +kernel
theorem dX0_form_16 : decode cX0_form 16 = .ok (.aload_n 0, 1) := by decide +kernel
theorem dX0_form_17 : decode cX0_form 17 = .ok (.getfield 15, 3) := by decide +kernel
theorem dX0_form_20 : decode cX0_form 20 = .ok (.bipush 8, 2) := by decide +kernel
theorem dX0_form_22 : decode cX0_form 22 = .ok (.if_icmp .eq 27, 3) := by decide +kernel
theorem dX0_form_25 : decode cX0_form 25 = .ok (.aload_n 0, 1) := by decide +kernel
theorem dX0_form_26 : decode cX0_form 26 = .ok (.iload_n 1, 1) := by decide +kernel
theorem dX0_form_27 : decode cX0_form 27 = .ok (.invokevirtual 34, 3) := by decide +kernel
theorem dX0_form_30 : decode cX0_form 30 = .ok (.istore 4, 2) := by decide +kernel
theorem dX0_form_32 : decode cX0_form 32 = .ok (.iload 4, 2) := by decide +kernel
theorem dX0_form_34 : decode cX0_form 34 = .ok (.iconst 1, 1) := by decide +kernel
theorem dX0_form_35 : decode cX0_form 35 = .ok (.if_icmp .eq 6, 3) := by decide +kernel
theorem dX0_form_38 : decode cX0_form 38 = .ok (.iload 4, 2) := by decide +kernel
theorem dX0_form_40 : decode cX0_form 40 = .ok (.ireturn, 1) := by decide +kernel
theorem dX0_form_41 : decode cX0_form 41 = .ok (.aload_n 0, 1) := by decide +kernel
theorem dX0_form_42 : decode cX0_form 42 = .ok (.iload_n 1, 1) := by decide +kernel
theorem dX0_form_43 : decode cX0_form 43 = .ok (.iconst 1, 1) := by decide +kernel
theorem dX0_form_44 : decode cX0_form 44 = .ok (.isub, 1) := by decide +kernel
theorem dX0_form_45 : decode cX0_form 45 = .ok (.invokevirtual 37, 3) := by decide +kernel
theorem dX0_form_48 : decode cX0_form 48 = .ok (.lstore_n 2, 1) := by decide +kernel
theorem dX0_form_49 : decode cX0_form 49 = .ok (.aload_n 0, 1) := by decide +kernel
theorem dX0_form_50 : decode cX0_form 50 = .ok (.getfield 19, 3) := by decide +kernel
theorem dX0_form_53 : decode cX0_form 53 = .ok (.lstore 4, 2) := by decide +kernel
theorem dX0_form_55 : decode cX0_form 55 = .ok (.aload_n 0, 1) := by decide +kernel
theorem dX0_form_56 : decode cX0_form 56 = .ok (.getfield 15, 3) := by decide +kernel
theorem dX0_form_59 : decode cX0_form 59 = .ok (.bipush 7, 2) := by decide +kernel
theorem dX0_form_61 : decode cX0_form 61 = .ok (.if_icmp .eq 43, 3) := by decide +kernel
theorem dX0_form_64 : decode cX0_form 64 = .ok (.aload_n 0, 1) := by decide +kernel
theorem dX0_form_65 : decode cX0_form 65 = .ok (.getfield 9, 3) := by decide +kernel
theorem dX0_form_68 : decode cX0_form 68 = .ok (.ifnull 36, 3) := by decide +kernel
theorem dX0_form_71 : decode cX0_form 71 = .ok (.aload_n 0, 1) := by decide +kernel
theorem dX0_form_72 : decode cX0_form 72 = .ok (.getfield 9, 3) := by decide +kernel
theorem dX0_form_75 : decode cX0_form 75 = .ok (.iload_n 1, 1) := by decide +kernel
theorem dX0_form_76 : decode cX0_form 76 = .ok (.iconst 1, 1) := by decide +kernel
theorem dX0_form_77 : decode cX0_form 77 = .ok (.isub, 1) := by decide +kernel
theorem dX0_form_78 : decode cX0_form 78 = .ok (.invokevirtual 41, 3) := by decide +kernel
theorem dX0_form_81 : decode cX0_form 81 = .ok (.istore 6, 2) := by decide +kernel
theorem dX0_form_83 : decode cX0_form 83 = .ok (.iload 6, 2) := by decide +kernel
theorem dX0_form_85 : decode cX0_form 85 = .ok (.iconst 1, 1) := by decide +kernel
theorem dX0_form_86 : decode cX0_form 86 = .ok (.if_icmp .eq 6, 3) := by decide +kernel
theorem dX0_form_89 : decode cX0_form 89 = .ok (.iload 6, 2) := by decide +kernel
theorem dX0_form_91 : decode cX0_form 91 = .ok (.ireturn, 1) := by decide +kernel
theorem dX0_form_92 : decode cX0_form 92 = .ok (.aload_n 0, 1) := by decide +kernel
theorem dX0_form_93 : decode cX0_form 93 = .ok (.getfield 9, 3) := by decide +kernel
theorem dX0_form_96 : decode cX0_form 96 = .ok (.iload_n 1, 1) := by decide +kernel
theorem dX0_form_97 : decode cX0_form 97 = .ok (.iconst 1, 1) := by decide +kernel
theorem dX0_form_98 : decode cX0_form 98 = .ok (.isub, 1) := by decide +kernel
theorem dX0_form_99 : decode cX0_form 99 = .ok (.invokevirtual 44, 3) := by decide +kernel
theorem dX0_form_102 : decode cX0_form 102 = .ok (.lstore 4, 2) := by decide +kernel
theorem dX0_form_104 : decode cX0_form 104 = .ok (.aload_n 0, 1) := by decide +kernel
theorem dX0_form_105 : decode cX0_form 105 = .ok (.iload_n 1, 1) := by decide +kernel
theorem dX0_form_106 : decode cX0_form 106 = .ok (.aload_n 0, 1) := by decide +kernel
theorem dX0_form_107 : decode cX0_form 107 = .ok (.getfield 15, 3) := by decide +kernel
theorem dX0_form_110 : decode cX0_form 110 = .ok (.lload_n 2, 1) := by decide +kernel
theorem dX0_form_111 : decode cX0_form 111 = .ok (.lload 4, 2) := by decide +kernel
theorem dX0_form_113 : decode cX0_form 113 = .ok (.invokevirtual 45, 3) := by decide +kernel
theorem dX0_form_116 : decode cX0_form 116 = .ok (.ireturn, 1) := by decide +kernel
theorem dX5_form_0 : decode cX5_form 0 = .ok (.iconst 3, 1) := by decide +kernel
theorem dX5_form_1 : decode cX5_form 1 = .ok (.ireturn, 1) := by decide +kernel
theorem dX10_seek_0 : decode cX10_seek 0 = .ok (.iload_n 1, 1) := by decide +kernel
theorem dX10_seek_1 : decode cX10_seek 1 = .ok (.ifCond .lt 12, 3) := by decide +kernel
theorem dX10_seek_4 : decode cX10_seek 4 = .ok (.iload_n 1, 1) := by decide +kernel
theorem dX10_seek_5 : decode cX10_seek 5 = .ok (.aload_n 0, 1) := by decide +kernel
theorem dX10_seek_6 : decode cX10_seek 6 = .ok (.getfield 23, 3) := by decide +kernel
theorem dX10_seek_9 : decode cX10_seek 9 = .ok (.arraylength, 1) := by decide +kernel
theorem dX10_seek_10 : decode cX10_seek 10 = .ok (.if_icmp .lt 5, 3) := by decide +kernel
theorem dX10_seek_13 : decode cX10_seek 13 = .ok (.iconst 3, 1) := by decide +kernel
theorem dX10_seek_14 : decode cX10_seek 14 = .ok (.ireturn, 1) := by decide +kernel
theorem dX10_seek_15 : decode cX10_seek 15 = .ok (.iload_n 1, 1) := by decide +kernel
theorem dX10_seek_16 : decode cX10_seek 16 = .ok (.ifCond .ne 7, 3) := by decide +kernel
theorem dX10_seek_19 : decode cX10_seek 19 = .ok (.iconst 0, 1) := by decide +kernel
theorem dX10_seek_20 : decode cX10_seek 20 = .ok (.goto 13, 3) := by decide +kernel
theorem dX10_seek_23 : decode cX10_seek 23 = .ok (.aload_n 0, 1) := by decide +kernel
theorem dX10_seek_24 : decode cX10_seek 24 = .ok (.getfield 23, 3) := by decide +kernel
theorem dX10_seek_27 : decode cX10_seek 27 = .ok (.iload_n 1, 1) := by decide +kernel
theorem dX10_seek_28 : decode cX10_seek 28 = .ok (.iconst 1, 1) := by decide +kernel
theorem dX10_seek_29 : decode cX10_seek 29 = .ok (.isub, 1) := by decide +kernel
theorem dX10_seek_30 : decode cX10_seek 30 = .ok (.iaload, 1) := by decide +kernel
theorem dX10_seek_31 : decode cX10_seek 31 = .ok (.iconst 1, 1) := by decide +kernel
theorem dX10_seek_32 : decode cX10_seek 32 = .ok (.iadd, 1) := by decide +kernel
theorem dX10_seek_33 : decode cX10_seek 33 = .ok (.istore_n 2, 1) := by decide +kernel
theorem dX10_seek_34 : decode cX10_seek 34 = .ok (.iload_n 2, 1) := by decide +kernel
theorem dX10_seek_35 : decode cX10_seek 35 = .ok (.sipush 400, 3) := by decide +kernel
theorem dX10_seek_38 : decode cX10_seek 38 = .ok (.if_icmp .gt 67, 3) := by decide +kernel
theorem dX10_seek_41 : decode cX10_seek 41 = .ok (.aload_n 0, 1) := by decide +kernel
theorem dX10_seek_42 : decode cX10_seek 42 = .ok (.getfield 9, 3) := by decide +kernel
theorem dX10_seek_45 : decode cX10_seek 45 = .ok (.iload_n 2, 1) := by decide +kernel
theorem dX10_seek_46 : decode cX10_seek 46 = .ok (.invokevirtual 27, 3) := by decide +kernel
theorem dX10_seek_49 : decode cX10_seek 49 = .ok (.istore_n 3, 1) := by decide +kernel
theorem dX10_seek_50 : decode cX10_seek 50 = .ok (.iload_n 3, 1) := by decide +kernel
theorem dX10_seek_51 : decode cX10_seek 51 = .ok (.iconst 1, 1) := by decide +kernel
theorem dX10_seek_52 : decode cX10_seek 52 = .ok (.if_icmp .eq 5, 3) := by decide +kernel
theorem dX10_seek_55 : decode cX10_seek 55 = .ok (.iload_n 3, 1) := by decide +kernel
theorem dX10_seek_56 : decode cX10_seek 56 = .ok (.ireturn, 1) := by decide +kernel
theorem dX10_seek_57 : decode cX10_seek 57 = .ok (.aload_n 0, 1) := by decide +kernel
theorem dX10_seek_58 : decode cX10_seek 58 = .ok (.getfield 9, 3) := by decide +kernel
theorem dX10_seek_61 : decode cX10_seek 61 = .ok (.iload_n 2, 1) := by decide +kernel
theorem dX10_seek_62 : decode cX10_seek 62 = .ok (.invokevirtual 31, 3) := by decide +kernel
theorem dX10_seek_65 : decode cX10_seek 65 = .ok (.istore 4, 2) := by decide +kernel
theorem dX10_seek_67 : decode cX10_seek 67 = .ok (.iload 4, 2) := by decide +kernel
theorem dX10_seek_69 : decode cX10_seek 69 = .ok (.iconst 1, 1) := by decide +kernel
theorem dX10_seek_70 : decode cX10_seek 70 = .ok (.if_icmp .ne 19, 3) := by decide +kernel
theorem dX10_seek_73 : decode cX10_seek 73 = .ok (.aload_n 0, 1) := by decide +kernel
theorem dX10_seek_74 : decode cX10_seek 74 = .ok (.aload_n 0, 1) := by decide +kernel
theorem dX10_seek_75 : decode cX10_seek 75 = .ok (.getfield 9, 3) := by decide +kernel
theorem dX10_seek_78 : decode cX10_seek 78 = .ok (.iload_n 2, 1) := by decide +kernel
theorem dX10_seek_79 : decode cX10_seek 79 = .ok (.invokevirtual 34, 3) := by decide +kernel
theorem dX10_seek_82 : decode cX10_seek 82 = .ok (.iload_n 1, 1) := by decide +kernel
theorem dX10_seek_83 : decode cX10_seek 83 = .ok (.invokevirtual 38, 3) := by decide +kernel
theorem dX10_seek_86 : decode cX10_seek 86 = .ok (.ifCond .eq 13, 3) := by decide +kernel
theorem dX10_seek_89 : decode cX10_seek 89 = .ok (.aload_n 0, 1) := by decide +kernel
theorem dX10_seek_90 : decode cX10_seek 90 = .ok (.getfield 23, 3) := by decide +kernel
theorem dX10_seek_93 : decode cX10_seek 93 = .ok (.iload_n 1, 1) := by decide +kernel
theorem dX10_seek_94 : decode cX10_seek 94 = .ok (.iload_n 2, 1) := by decide +kernel
theorem dX10_seek_95 : decode cX10_seek 95 = .ok (.iastore, 1) := by decide +kernel
theorem dX10_seek_96 : decode cX10_seek 96 = .ok (.iload 4, 2) := by decide +kernel
theorem dX10_seek_98 : decode cX10_seek 98 = .ok (.ireturn, 1) := by decide +kernel
theorem dX10_seek_99 : decode cX10_seek 99 = .ok (.iinc 2 1, 3) := by decide +kernel
theorem dX10_seek_102 : decode cX10_seek 102 = .ok (.goto (-68), 3) := by decide +kernel
theorem dX10_seek_105 : decode cX10_seek 105 = .ok (.iconst 3, 1) := by decide +kernel
theorem dX10_seek_106 : decode cX10_seek 106 = .ok (.ireturn, 1) := by decide +kernel
abbrev wmX10_seek : List Cond := .code yX10_seek cX10_seek 5 (some .int) :: WC
theorem hd_X10_seek : yX10_seek.cls = RX10 ∧ yX10_seek.cls ≠ "java/lang/invoke/MethodHandle" ∧ yX10_seek.cls ≠ "java/lang/invoke/VarHandle" ∧ (parseMethodDescriptor yX10_seek.desc).map (fun d => d.parameters.length) = some 1 := by decide +kernel
def B_X10_seek_34 (sh : Sh) (Gr Gw : (Nat → Nat → Int32) → (Nat → Nat → Int32) → (Nat → Nat → Int64) → Nat → Int32 → (Int32 → (Nat → Nat → Int32) → (Nat → Nat → Int32) → (Nat → Nat → Int64) → Prop) → Prop)  (K34 : (Nat → Nat → Int32) → (Nat → Nat → Int32) → (Nat → Nat → Int64) → Int32 → Int32 → Prop) (Q : Int32 → (Nat → Nat → Int32) → (Nat → Nat → Int32) → (Nat → Nat → Int64) → Prop) (q : Nat) (ci : Nat → Nat → Int32) (ai : Nat → Nat → Int32) (al : Nat → Nat → Int64) (x1 : Int32) (x2 : Int32) : Prop := ((400 < x2) → (Q 3 ci ai al)) ∧ ((¬ 400 < x2) → (∃ q1 : Nat, sR sh q 5 = some q1 ∧ (q1 ∈ sL sh ∧ isZ (sK sh q1)) ∧ Gr ci ai al q1 x2 (fun r5 ci5 ai5 al5 => ((r5 = 1) → (Gw ci5 ai5 al5 q1 x2 (fun r6 ci6 ai6 al6 => ((¬ r6 = 1) → (∃ q7 : Nat, sR sh q 8 = some q7 ∧ (q7 ∈ sL sh ∧ sK sh q7 = 20) ∧ vp_in x1 (sN sh q7) ∧ Q r6 ci6 (va_up ai6 q7 (upd (ai6 q7) x1.toNatClampNeg x2)) al6)) ∧ ((r6 = 1) → (P_X5_number_f sh 30 ci6 ai6 al6 q1 x2 (fun r12 => P_X10_lets sh ci6 ai6 al6 q r12 x1 (fun r13 => ((r13 = 0) → (K34 ci6 ai6 al6 x1 (x2 + 1))) ∧ ((¬ r13 = 0) → (∃ q14 : Nat, sR sh q 8 = some q14 ∧ (q14 ∈ sL sh ∧ sK sh q14 = 20) ∧ vp_in x1 (sN sh q14) ∧ Q r6 ci6 (va_up ai6 q14 (upd (ai6 q14) x1.toNatClampNeg x2)) al6))))))))) ∧ ((¬ r5 = 1) → (Q r5 ci5 ai5 al5)))))
def P_X10_seek_34 (sh : Sh) (Gr Gw : (Nat → Nat → Int32) → (Nat → Nat → Int32) → (Nat → Nat → Int64) → Nat → Int32 → (Int32 → (Nat → Nat → Int32) → (Nat → Nat → Int32) → (Nat → Nat → Int64) → Prop) → Prop)  (Q : Int32 → (Nat → Nat → Int32) → (Nat → Nat → Int32) → (Nat → Nat → Int64) → Prop) (q : Nat) : Nat → (Nat → Nat → Int32) → (Nat → Nat → Int32) → (Nat → Nat → Int64) → Int32 → Int32 → Prop
  | 0 => fun _ _ _ _ _ => False
  | n + 1 => B_X10_seek_34 sh Gr Gw  (P_X10_seek_34 sh Gr Gw  Q q n) Q q
set_option maxHeartbeats 4000000 in
set_option maxRecDepth 100000 in
theorem b_X10_seek_34 {p : Program} {l : Launch} {e : Env} {s : State} {m : MethodId} {args : Array Value} {below : List Frame} {meth : Method} {c : Code} {A : Nat → Prop} {dC : Nat → ClassId} {dI : Nat → Nat → Nat} {sh : Sh} {q : Nat}  {K34 : (Nat → Nat → Int32) → (Nat → Nat → Int32) → (Nat → Nat → Int64) → Int32 → Int32 → Prop} {Q : Int32 → (Nat → Nat → Int32) → (Nat → Nat → Int32) → (Nat → Nat → Int64) → Prop} (hx : p.tables.exec = Jvm.exec) (hb : c.code = cX10_seek) (hr : meth.sig.returnType = (some .int)) (hts : ∀ w ∈ WC, w.before args s = true) (hown : s.vm.findClass RX10 = some m.cls) (hlocks : meth.locks = false) (hml : c.maxLocals = 5) (hA : ∀ q : Nat, s.heap.size ≤ q → A q) (hK : cK dC dI sh s) (hG : Gc s) (hq : q ∈ sL sh) (hk : sK sh q = 9) {d : Nat} {Gr Gw : (Nat → Nat → Int32) → (Nat → Nat → Int32) → (Nat → Nat → Int64) → Nat → Int32 → (Int32 → (Nat → Nat → Int32) → (Nat → Nat → Int32) → (Nat → Nat → Int64) → Prop) → Prop} (hGr : GM l dC dI sh yX5_reach wmX5_reach ({ frames := 300 + 5 * d, cells := 0, slots := 0, locals := 6000 + 200 * d }) Gr) (hGw : GM l dC dI sh yX5_work wmX5_work ({ frames := 300 + 5 * d, cells := 0, slots := 0, locals := 6000 + 200 * d }) Gw)  (hK34 : ∀ (ci : Nat → Nat → Int32) (ai : Nat → Nat → Int32) (al : Nat → Nat → Int64) (x1 : Int32) (x2 : Int32) (H : Heap) (locs : List Loc) (ls : Array Slot), K34 ci ai al x1 x2 → va_P (dC, dI) vwCl (cW sh ci ai al) H → va_D A (cW sh ci ai al) → va_S A s.heap H locs → lv_has ls 5 [(0, .ref q), (1, .int x1), (2, .int x2)] → W p l e (headSpec wmX10_seek ({ frames := 303 + 5 * d, cells := 0, slots := 0, locals := 6120 + 200 * d })).room s m args below meth c H locs 0 0 (MQ below (va_Qi (S := CSt) (cI Q) (cB dC dI sh A) A) args s 0 0 A) (F0 m 34 ls [])) : ∀ (ci : Nat → Nat → Int32) (ai : Nat → Nat → Int32) (al : Nat → Nat → Int64) (x1 : Int32) (x2 : Int32) (H : Heap) (locs : List Loc) (ls : Array Slot), B_X10_seek_34 sh Gr Gw  K34 Q q ci ai al x1 x2 → va_P (dC, dI) vwCl (cW sh ci ai al) H → va_D A (cW sh ci ai al) → va_S A s.heap H locs → lv_has ls 5 [(0, .ref q), (1, .int x1), (2, .int x2)] → W p l e (headSpec wmX10_seek ({ frames := 303 + 5 * d, cells := 0, slots := 0, locals := 6120 + 200 * d })).room s m args below meth c H locs 0 0 (MQ below (va_Qi (S := CSt) (cI Q) (cB dC dI sh A) A) args s 0 0 A) (F0 m 34 ls []) := by
  intro ci ai al x1 x2 H locs ls h hP hD hS hl
  unfold B_X10_seek_34 at h
  refine lv_iload_n hx hb dX10_seek_34 rfl (lv_at hl 2 rfl) ?_
  refine lv_sipush (v := 400) hx hb dX10_seek_35 (by decide) ?_
  refine lv_icmp_gt (tgt := 105) hx hb dX10_seek_38 (by decide) (fun c_38 => ?_) (fun c_38 => ?_)
  · have h := h.1 c_38
    refine lv_iconst (v := 3) hx hb dX10_seek_105 (by decide) ?_
    exact W.iret (v := 3) hx hb hr (fun t ht hW => ⟨⟨_, (ci, ai, al), rfl, h, by rw [ht]; exact hP, cK.moved hW.alike hK, hD⟩, hS.F ht⟩) hS.2.2 dX10_seek_106
  · have h := h.2 c_38
    refine lv_aload_n hx hb dX10_seek_41 rfl (lv_at hl 0 rfl) ?_
    obtain ⟨q1, e2, h⟩ := h
    refine c_get (C := RX10) (T := TX10) (N := 9) (K := 9) (v := .ref q1) hx hb hts hinX10 hown hK hP hq hk (by decide) rfl 5 (by decide) (hts _ mwC_36) (fun _ h9 => h9) (by show some (va_rf (sR sh q 5)) = _; rw [e2]; rfl) dX10_seek_42 ?_
    refine lv_iload_n hx hb dX10_seek_45 rfl (lv_at hl 2 rfl) ?_
    obtain ⟨⟨hm3, hk4⟩, h⟩ := h
    refine c_endi (c_runZ (rm := ({ frames := 300 + 5 * d, cells := 0, slots := 0, locals := 6000 + 200 * d })) (y := yX5_reach) (x := ⟨"NeededLists$LazyList", "reach", "(I)I"⟩) (n := 1) (bytes := cX5_reach) (maxL := 5) (ret := (some .int)) (q := q1) (As := [.int x2]) (rest := []) ⟨hx, hb, hml, hown, hts⟩ (hGr _ _ _ q1 x2 _ h H.size) mwC_231 mwC_145 mwC_146 mwC_22 mwC_147 mwC_148 mwC_149 mwC_150 mwC_151 mwC_152 mwC_153 mwC_154 mwC_155 mwC_156 rfl (by decide +kernel) rfl rfl ⟨(show 300 + 5 * d + 1 ≤ 303 + 5 * d by omega), (show 8 + (5 + 11) + (6000 + 200 * d) ≤ 6120 + 200 * d by omega)⟩ hK hP hD hG hm3 hk4 rfl hl.1 rfl (Nat.le_of_ble_eq_true rfl) ⟨Nat.le_of_ble_eq_true rfl, Nat.le_of_ble_eq_true rfl⟩ dX10_seek_46) hD hS hA (fun r5 ci5 ai5 al5 H locs h hP hD hS => ?_)
    refine lv_istore_n (lv' := [(3, .int r5), (0, .ref q), (1, .int x1), (2, .int x2)]) hx hb dX10_seek_49 rfl hl (by decide) rfl (fun ls hl => ?_)
    refine lv_iload_n hx hb dX10_seek_50 rfl (lv_at hl 0 rfl) ?_
    refine lv_iconst (v := 1) hx hb dX10_seek_51 (by decide) ?_
    refine lv_icmp_eq (tgt := 57) hx hb dX10_seek_52 (by decide) (fun c_52 => ?_) (fun c_52 => ?_)
    · have h := h.1 c_52
      refine lv_aload_n hx hb dX10_seek_57 rfl (lv_at hl 1 rfl) ?_
      refine c_get (C := RX10) (T := TX10) (N := 9) (K := 9) (v := .ref q1) hx hb hts hinX10 hown hK hP hq hk (by decide) rfl 5 (by decide) (hts _ mwC_36) (fun _ h9 => h9) (by show some (va_rf (sR sh q 5)) = _; rw [e2]; rfl) dX10_seek_58 ?_
      refine lv_iload_n hx hb dX10_seek_61 rfl (lv_at hl 3 rfl) ?_
      refine c_endi (c_runZ (rm := ({ frames := 300 + 5 * d, cells := 0, slots := 0, locals := 6000 + 200 * d })) (y := yX5_work) (x := ⟨"NeededLists$LazyList", "work", "(I)I"⟩) (n := 1) (bytes := cX5_work) (maxL := 4) (ret := (some .int)) (q := q1) (As := [.int x2]) (rest := []) ⟨hx, hb, hml, hown, hts⟩ (hGw _ _ _ q1 x2 _ h H.size) mwC_232 mwC_159 mwC_160 mwC_22 mwC_161 mwC_162 mwC_163 mwC_164 mwC_165 mwC_166 mwC_167 mwC_168 mwC_169 mwC_170 rfl (by decide +kernel) rfl rfl ⟨(show 300 + 5 * d + 1 ≤ 303 + 5 * d by omega), (show 8 + (4 + 11) + (6000 + 200 * d) ≤ 6120 + 200 * d by omega)⟩ hK hP hD hG hm3 hk4 rfl hl.1 rfl (Nat.le_of_ble_eq_true rfl) ⟨Nat.le_of_ble_eq_true rfl, Nat.le_of_ble_eq_true rfl⟩ dX10_seek_62) hD hS hA (fun r6 ci6 ai6 al6 H locs h hP hD hS => ?_)
      refine lv_istore (lv' := [(4, .int r6), (3, .int r5), (0, .ref q), (1, .int x1), (2, .int x2)]) hx hb dX10_seek_65 hl (by decide) rfl (fun ls hl => ?_)
      refine lv_iload hx hb dX10_seek_67 (lv_at hl 0 rfl) ?_
      refine lv_iconst (v := 1) hx hb dX10_seek_69 (by decide) ?_
      refine lv_icmp_ne (tgt := 89) hx hb dX10_seek_70 (by decide) (fun c_70 => ?_) (fun c_70 => ?_)
      · have h := h.1 c_70
        refine lv_aload_n hx hb dX10_seek_89 rfl (lv_at hl 2 rfl) ?_
        obtain ⟨q7, e8, h⟩ := h
        refine c_get (C := RX10) (T := TX10) (N := 9) (K := 9) (v := .ref q7) hx hb hts hinX10 hown hK hP hq hk (by decide) rfl 8 (by decide) (hts _ mwC_40) (fun _ h9 => h9) (by show some (va_rf (sR sh q 8)) = _; rw [e8]; rfl) dX10_seek_90 ?_
        refine lv_iload_n hx hb dX10_seek_93 rfl (lv_at hl 3 rfl) ?_
        refine lv_iload_n hx hb dX10_seek_94 rfl (lv_at hl 4 rfl) ?_
        obtain ⟨⟨hm9, hk10⟩, h⟩ := h
        obtain ⟨hi11, h⟩ := h
        refine c_iast hx hb hK hP hD hS hm9 hk10 hi11 dX10_seek_95 (fun H locs hP hD hS => ?_)
        refine lv_iload hx hb dX10_seek_96 (lv_at hl 0 rfl) ?_
        exact W.iret (v := r6) hx hb hr (fun t ht hW => ⟨⟨_, (ci6, va_up ai6 q7 (upd (ai6 q7) x1.toNatClampNeg x2), al6), rfl, h, by rw [ht]; exact hP, cK.moved hW.alike hK, hD⟩, hS.F ht⟩) hS.2.2 dX10_seek_98
      · have h := h.2 c_70
        refine lv_aload_n hx hb dX10_seek_73 rfl (lv_at hl 2 rfl) ?_
        refine lv_aload_n hx hb dX10_seek_74 rfl (lv_at hl 2 rfl) ?_
        refine c_get (C := RX10) (T := TX10) (N := 9) (K := 9) (v := .ref q1) hx hb hts hinX10 hown hK hP hq hk (by decide) rfl 5 (by decide) (hts _ mwC_36) (fun _ h9 => h9) (by show some (va_rf (sR sh q 5)) = _; rw [e2]; rfl) dX10_seek_75 ?_
        refine lv_iload_n hx hb dX10_seek_78 rfl (lv_at hl 4 rfl) ?_
        refine r_endl (c_runZ (rm := ({ frames := 20 + 2 * 30, cells := 0, slots := 0, locals := 300 + 50 * 30 })) (y := yX5_number) (x := ⟨"NeededLists$LazyList", "number", "(I)J"⟩) (n := 1) (bytes := cX5_number) (maxL := 3) (ret := (some .long)) (q := q1) (As := [.int x2]) (rest := [.ref q]) ⟨hx, hb, hml, hown, hts⟩ (p_X5_number_f l dC dI sh 30 _ _ _ q1 x2 _ h H.size) mwC_233 mwC_92 mwC_93 mwC_22 mwC_94 mwC_95 mwC_96 mwC_97 mwC_98 mwC_99 mwC_100 mwC_101 mwC_102 mwC_103 rfl (by decide +kernel) rfl rfl ⟨(show 20 + 2 * 30 + 1 ≤ 303 + 5 * d by omega), (show 8 + (3 + 11) + (300 + 50 * 30) ≤ 6120 + 200 * d by omega)⟩ hK hP hD hG hm3 hk4 rfl hl.1 rfl (Nat.le_of_ble_eq_true rfl) ⟨Nat.le_of_ble_eq_true rfl, Nat.le_of_ble_eq_true rfl⟩ dX10_seek_79) hP hS hA (fun r12 H locs h hP hS => ?_)
        refine lv_iload_n hx hb dX10_seek_82 rfl (lv_at hl 3 rfl) ?_
        refine r_endi (va_runV (rm := ({ frames := 120, cells := 0, slots := 0, locals := 2400 })) (As := [.long r12, .int x1]) (rest := []) ⟨hx, hb, hml, hown, hts⟩ (p_X10_lets l dC dI sh _ _ _ q r12 x1 _ h H.size) (cwV 2 hts (g_V gdC mwC_234 mwC_235 mwC_236 mwC_67 mwC_237) rfl rfl rfl hd_X10_lets ⟨(show 120 + 1 ≤ 303 + 5 * d by omega), (show 8 + (5 + 11) + (2400) ≤ 6120 + 200 * d by omega)⟩) (c_preV (vc := (RX10, TX10, 9)) hK hP hD hG hq hk (by decide) rfl) rfl rfl hl.1 rfl (lv_room (Nat.le_of_ble_eq_true rfl)) dX10_seek_83 ⟨Nat.le_of_ble_eq_true rfl, Nat.le_of_ble_eq_true rfl⟩) hP hS hA (fun r13 H locs h hP hS => ?_)
        refine lv_if_eq (tgt := 99) hx hb dX10_seek_86 (by decide) (fun c_86 => ?_) (fun c_86 => ?_)
        · have h := h.1 c_86
          refine lv_iinc (v := x2 + 1) (lv' := [(2, .int (x2 + 1)), (4, .int r6), (3, .int r5), (0, .ref q), (1, .int x1)]) hx hb dX10_seek_99 hl (k := 4) rfl (iinc_1 _) (by decide) rfl (fun ls hl => ?_)
          refine lv_goto (tgt := 34) hx hb dX10_seek_102 (by decide) ?_
          exact hK34 _ _ _ _ _ H _ ls h hP hD hS (lv_sub hl [3, 4, 0] rfl)
        · have h := h.2 c_86
          refine lv_aload_n hx hb dX10_seek_89 rfl (lv_at hl 2 rfl) ?_
          obtain ⟨q14, e15, h⟩ := h
          refine c_get (C := RX10) (T := TX10) (N := 9) (K := 9) (v := .ref q14) hx hb hts hinX10 hown hK hP hq hk (by decide) rfl 8 (by decide) (hts _ mwC_40) (fun _ h9 => h9) (by show some (va_rf (sR sh q 8)) = _; rw [e15]; rfl) dX10_seek_90 ?_
          refine lv_iload_n hx hb dX10_seek_93 rfl (lv_at hl 3 rfl) ?_
          refine lv_iload_n hx hb dX10_seek_94 rfl (lv_at hl 4 rfl) ?_
          obtain ⟨⟨hm16, hk17⟩, h⟩ := h
          obtain ⟨hi18, h⟩ := h
          refine c_iast hx hb hK hP hD hS hm16 hk17 hi18 dX10_seek_95 (fun H locs hP hD hS => ?_)
          refine lv_iload hx hb dX10_seek_96 (lv_at hl 0 rfl) ?_
          exact W.iret (v := r6) hx hb hr (fun t ht hW => ⟨⟨_, (ci6, va_up ai6 q14 (upd (ai6 q14) x1.toNatClampNeg x2), al6), rfl, h, by rw [ht]; exact hP, cK.moved hW.alike hK, hD⟩, hS.F ht⟩) hS.2.2 dX10_seek_98
    · have h := h.2 c_52
      refine lv_iload_n hx hb dX10_seek_55 rfl (lv_at hl 0 rfl) ?_
      exact W.iret (v := r5) hx hb hr (fun t ht hW => ⟨⟨_, (ci5, ai5, al5), rfl, h, by rw [ht]; exact hP, cK.moved hW.alike hK, hD⟩, hS.F ht⟩) hS.2.2 dX10_seek_56
set_option maxHeartbeats 4000000 in
set_option maxRecDepth 100000 in
theorem t_X10_seek_34 {p : Program} {l : Launch} {e : Env} {s : State} {m : MethodId} {args : Array Value} {below : List Frame} {meth : Method} {c : Code} {A : Nat → Prop} {dC : Nat → ClassId} {dI : Nat → Nat → Nat} {sh : Sh} {q : Nat}  {Q : Int32 → (Nat → Nat → Int32) → (Nat → Nat → Int32) → (Nat → Nat → Int64) → Prop} (hx : p.tables.exec = Jvm.exec) (hb : c.code = cX10_seek) (hr : meth.sig.returnType = (some .int)) (hts : ∀ w ∈ WC, w.before args s = true) (hown : s.vm.findClass RX10 = some m.cls) (hlocks : meth.locks = false) (hml : c.maxLocals = 5) (hA : ∀ q : Nat, s.heap.size ≤ q → A q) (hK : cK dC dI sh s) (hG : Gc s) (hq : q ∈ sL sh) (hk : sK sh q = 9) {d : Nat} {Gr Gw : (Nat → Nat → Int32) → (Nat → Nat → Int32) → (Nat → Nat → Int64) → Nat → Int32 → (Int32 → (Nat → Nat → Int32) → (Nat → Nat → Int32) → (Nat → Nat → Int64) → Prop) → Prop} (hGr : GM l dC dI sh yX5_reach wmX5_reach ({ frames := 300 + 5 * d, cells := 0, slots := 0, locals := 6000 + 200 * d }) Gr) (hGw : GM l dC dI sh yX5_work wmX5_work ({ frames := 300 + 5 * d, cells := 0, slots := 0, locals := 6000 + 200 * d }) Gw)  : ∀ n : Nat, ∀ (ci : Nat → Nat → Int32) (ai : Nat → Nat → Int32) (al : Nat → Nat → Int64) (x1 : Int32) (x2 : Int32) (H : Heap) (locs : List Loc) (ls : Array Slot), P_X10_seek_34 sh Gr Gw  Q q n ci ai al x1 x2 → va_P (dC, dI) vwCl (cW sh ci ai al) H → va_D A (cW sh ci ai al) → va_S A s.heap H locs → lv_has ls 5 [(0, .ref q), (1, .int x1), (2, .int x2)] → W p l e (headSpec wmX10_seek ({ frames := 303 + 5 * d, cells := 0, slots := 0, locals := 6120 + 200 * d })).room s m args below meth c H locs 0 0 (MQ below (va_Qi (S := CSt) (cI Q) (cB dC dI sh A) A) args s 0 0 A) (F0 m 34 ls []) := by
  intro n
  induction n with
  | zero => intro ci ai al x1 x2 H locs ls h; exact h.elim
  | succ n ih => exact b_X10_seek_34 hx hb hr hts hown hlocks hml hA hK hG hq hk hGr hGw  ih
def P_X10_seek (sh : Sh) (Gr Gw : (Nat → Nat → Int32) → (Nat → Nat → Int32) → (Nat → Nat → Int64) → Nat → Int32 → (Int32 → (Nat → Nat → Int32) → (Nat → Nat → Int32) → (Nat → Nat → Int64) → Prop) → Prop) (ci : Nat → Nat → Int32) (ai : Nat → Nat → Int32) (al : Nat → Nat → Int64) (q : Nat) (p0 : Int32) (Q : Int32 → (Nat → Nat → Int32) → (Nat → Nat → Int32) → (Nat → Nat → Int64) → Prop) : Prop := (q ∈ sL sh ∧ sK sh q = 9) ∧ ((p0 < 0) → (Q 3 ci ai al)) ∧ ((¬ p0 < 0) → (∃ q1 : Nat, sR sh q 8 = some q1 ∧ (q1 ∈ sL sh ∧ sK sh q1 = 20) ∧ ((p0 < (nI (sN sh q1))) → (((¬ p0 = 0) → (vp_in (p0 - 1) (sN sh q1) ∧ ∀ z6 : Int32, z6 = (ai q1 (p0 - 1).toNatClampNeg) + 1 → ∃ n9 : Nat, P_X10_seek_34 sh Gr Gw  Q q n9 ci ai al p0 z6)) ∧ ((p0 = 0) → (∃ n9 : Nat, P_X10_seek_34 sh Gr Gw  Q q n9 ci ai al p0 (0 : Int32))))) ∧ ((¬ p0 < (nI (sN sh q1))) → (Q 3 ci ai al))))
set_option maxHeartbeats 4000000 in
set_option maxRecDepth 100000 in
theorem p_X10_seek (l : Launch) (dC : Nat → ClassId) (dI : Nat → Nat → Nat) (sh : Sh) (d : Nat) {Gr Gw : (Nat → Nat → Int32) → (Nat → Nat → Int32) → (Nat → Nat → Int64) → Nat → Int32 → (Int32 → (Nat → Nat → Int32) → (Nat → Nat → Int32) → (Nat → Nat → Int64) → Prop) → Prop} (hGr : GM l dC dI sh yX5_reach wmX5_reach ({ frames := 300 + 5 * d, cells := 0, slots := 0, locals := 6000 + 200 * d }) Gr) (hGw : GM l dC dI sh yX5_work wmX5_work ({ frames := 300 + 5 * d, cells := 0, slots := 0, locals := 6000 + 200 * d }) Gw) (ci : Nat → Nat → Int32) (ai : Nat → Nat → Int32) (al : Nat → Nat → Int64) (q : Nat) (p0 : Int32) (Q : Int32 → (Nat → Nat → Int32) → (Nat → Nat → Int32) → (Nat → Nat → Int64) → Prop) (h : P_X10_seek sh Gr Gw ci ai al q p0 Q) (sz : Nat) : Met l yX10_seek wmX10_seek ({ frames := 303 + 5 * d, cells := 0, slots := 0, locals := 6120 + 200 * d }) (va_Pc [.ref q, .int p0] (cPre dC dI sh ci ai al sz)) (va_Qi (S := CSt) (cI Q) (cB dC dI sh (va_A (cW sh ci ai al) sz)) (va_A (cW sh ci ai al) sz)) 0 0 (va_A (cW sh ci ai al) sz) := by
  refine Met.ofW (cc := cX10_seek) (maxL := 5) (ret := (some .int)) (by decide) rfl ?_
  intro p e s m args below meth c s₁ B hml hv
  obtain ⟨rfl, hsz, hP, hK, hD0, hG⟩ := hv
  have hx := B.exec
  have hb := B.bytes
  have hr := B.returns
  have hts : ∀ w ∈ WC, w.before _ s = true := fun w h => atoms_spec (ws := wmX10_seek) B.pre w (List.mem_cons_of_mem _ h)
  have hown : s.vm.findClass RX10 = some m.cls := findClass_of_methodNamed B.named
  have hlocks := B.notSynchronized
  subst hsz
  have hD := hD0.self (sz := s.heap.size)
  generalize hAe : va_A (cW sh ci ai al) s.heap.size = A at hD ⊢
  have hA : ∀ q : Nat, s.heap.size ≤ q → A q := fun q h => by rw [← hAe]; exact Or.inr h
  generalize hH : s.heap = H at hP ⊢
  have hS : va_S A s.heap H [] := by rw [← hH]; exact va_S.rf
  have hl := lv_entry [.ref q, .int p0] (n := 5) (Nat.le_of_ble_eq_true rfl)
  rw [lg_entry_eq]
  generalize (lg_sl [.ref q, .int p0] ++ List.replicate (5 - (lg_sl [.ref q, .int p0]).length) Slot.unset).toArray = ls at hl ⊢
  have hl : lv_has ls 5 [(0, .ref q), (1, .int p0)] := hl
  unfold P_X10_seek at h
  obtain ⟨⟨hq, hk⟩, h⟩ := h
  refine lv_iload_n hx hb dX10_seek_0 rfl (lv_at hl 1 rfl) ?_
  refine lv_if_lt (tgt := 13) hx hb dX10_seek_1 (by decide) (fun c_1 => ?_) (fun c_1 => ?_)
  · have h := h.1 c_1
    refine lv_iconst (v := 3) hx hb dX10_seek_13 (by decide) ?_
    exact W.iret (v := 3) hx hb hr (fun t ht hW => ⟨⟨_, (ci, ai, al), rfl, h, by rw [ht]; exact hP, cK.moved hW.alike hK, hD⟩, hS.F ht⟩) hS.2.2 dX10_seek_14
  · have h := h.2 c_1
    refine lv_iload_n hx hb dX10_seek_4 rfl (lv_at hl 1 rfl) ?_
    refine lv_aload_n hx hb dX10_seek_5 rfl (lv_at hl 0 rfl) ?_
    obtain ⟨q1, e2, h⟩ := h
    refine c_get (C := RX10) (T := TX10) (N := 9) (K := 9) (v := .ref q1) hx hb hts hinX10 hown hK hP hq hk (by decide) rfl 8 (by decide) (hts _ mwC_40) (fun _ h9 => h9) (by show some (va_rf (sR sh q 8)) = _; rw [e2]; rfl) dX10_seek_6 ?_
    obtain ⟨⟨hm3, hk4⟩, h⟩ := h
    refine c_alen hx hb hK hP hm3 (Or.inl hk4) dX10_seek_9 ?_
    refine lv_icmp_lt (tgt := 15) hx hb dX10_seek_10 (by decide) (fun c_10 => ?_) (fun c_10 => ?_)
    · have h := h.1 c_10
      refine lv_iload_n hx hb dX10_seek_15 rfl (lv_at hl 1 rfl) ?_
      refine lv_if_ne (tgt := 23) hx hb dX10_seek_16 (by decide) (fun c_16 => ?_) (fun c_16 => ?_)
      · have h := h.1 c_16
        refine lv_aload_n hx hb dX10_seek_23 rfl (lv_at hl 0 rfl) ?_
        refine c_get (C := RX10) (T := TX10) (N := 9) (K := 9) (v := .ref q1) hx hb hts hinX10 hown hK hP hq hk (by decide) rfl 8 (by decide) (hts _ mwC_40) (fun _ h9 => h9) (by show some (va_rf (sR sh q 8)) = _; rw [e2]; rfl) dX10_seek_24 ?_
        refine lv_iload_n hx hb dX10_seek_27 rfl (lv_at hl 1 rfl) ?_
        refine lv_iconst (v := 1) hx hb dX10_seek_28 (by decide) ?_
        refine lv_isub hx hb dX10_seek_29 ?_
        obtain ⟨hi5, h⟩ := h
        refine c_iald hx hb hK hP hm3 hk4 hi5 dX10_seek_30 ?_
        refine lv_iconst (v := 1) hx hb dX10_seek_31 (by decide) ?_
        refine lv_iadd hx hb dX10_seek_32 ?_
        refine lv_topi (fun z6 ez6 => ?_)
        have h := h z6 ez6
        refine lv_istore_n (lv' := [(2, .int z6), (0, .ref q), (1, .int p0)]) hx hb dX10_seek_33 rfl hl (by decide) rfl (fun ls hl => ?_)
        obtain ⟨n9, h⟩ := h
        exact t_X10_seek_34 hx hb hr hts hown hlocks hml hA hK hG hq hk hGr hGw  n9 _ _ _ _ _ H _ ls h hP hD hS (lv_sub hl [1, 2, 0] rfl)
      · have h := h.2 c_16
        refine lv_iconst (v := 0) hx hb dX10_seek_19 (by decide) ?_
        refine lv_goto (tgt := 33) hx hb dX10_seek_20 (by decide) ?_
        refine lv_istore_n (lv' := [(2, .int 0), (0, .ref q), (1, .int p0)]) hx hb dX10_seek_33 rfl hl (by decide) rfl (fun ls hl => ?_)
        obtain ⟨n9, h⟩ := h
        exact t_X10_seek_34 hx hb hr hts hown hlocks hml hA hK hG hq hk hGr hGw  n9 _ _ _ _ _ H _ ls h hP hD hS (lv_sub hl [1, 2, 0] rfl)
    · have h := h.2 c_10
      refine lv_iconst (v := 3) hx hb dX10_seek_13 (by decide) ?_
      exact W.iret (v := 3) hx hb hr (fun t ht hW => ⟨⟨_, (ci, ai, al), rfl, h, by rw [ht]; exact hP, cK.moved hW.alike hK, hD⟩, hS.F ht⟩) hS.2.2 dX10_seek_14

abbrev wmX5_form : List Cond := .code yX5_form cX5_form 2 (some .int) :: WC
theorem hd_X5_form : yX5_form.cls = RX5 ∧ yX5_form.cls ≠ "java/lang/invoke/MethodHandle" ∧ yX5_form.cls ≠ "java/lang/invoke/VarHandle" ∧ (parseMethodDescriptor yX5_form.desc).map (fun d => d.parameters.length) = some 1 := by decide +kernel
def P_X5_form (sh : Sh) (ci : Nat → Nat → Int32) (ai : Nat → Nat → Int32) (al : Nat → Nat → Int64) (q : Nat) (p0 : Int32) (Q : Int32 → (Nat → Nat → Int32) → (Nat → Nat → Int32) → (Nat → Nat → Int64) → Prop) : Prop := (q ∈ sL sh ∧ isZ (sK sh q)) ∧ Q 3 ci ai al
set_option maxHeartbeats 4000000 in
set_option maxRecDepth 100000 in
theorem p_X5_form (l : Launch) (dC : Nat → ClassId) (dI : Nat → Nat → Nat) (sh : Sh) (ci : Nat → Nat → Int32) (ai : Nat → Nat → Int32) (al : Nat → Nat → Int64) (q : Nat) (p0 : Int32) (Q : Int32 → (Nat → Nat → Int32) → (Nat → Nat → Int32) → (Nat → Nat → Int64) → Prop) (h : P_X5_form sh ci ai al q p0 Q) (sz : Nat) : Met l yX5_form wmX5_form ({ frames := 12, cells := 0, slots := 0, locals := 200 }) (va_Pc [.ref q, .int p0] (cPre dC dI sh ci ai al sz)) (va_Qi (S := CSt) (cI Q) (cB dC dI sh (va_A (cW sh ci ai al) sz)) (va_A (cW sh ci ai al) sz)) 0 0 (va_A (cW sh ci ai al) sz) := by
  refine Met.ofW (cc := cX5_form) (maxL := 2) (ret := (some .int)) (by decide) rfl ?_
  intro p e s m args below meth c s₁ B hml hv
  obtain ⟨rfl, hsz, hP, hK, hD0, hG⟩ := hv
  have hx := B.exec
  have hb := B.bytes
  have hr := B.returns
  have hts : ∀ w ∈ WC, w.before _ s = true := fun w h => atoms_spec (ws := wmX5_form) B.pre w (List.mem_cons_of_mem _ h)
  have hown : s.vm.findClass RX5 = some m.cls := findClass_of_methodNamed B.named
  have hlocks := B.notSynchronized
  subst hsz
  have hD := hD0.self (sz := s.heap.size)
  generalize hAe : va_A (cW sh ci ai al) s.heap.size = A at hD ⊢
  have hA : ∀ q : Nat, s.heap.size ≤ q → A q := fun q h => by rw [← hAe]; exact Or.inr h
  generalize hH : s.heap = H at hP ⊢
  have hS : va_S A s.heap H [] := by rw [← hH]; exact va_S.rf
  have hl := lv_entry [.ref q, .int p0] (n := 2) (Nat.le_of_ble_eq_true rfl)
  rw [lg_entry_eq]
  generalize (lg_sl [.ref q, .int p0] ++ List.replicate (2 - (lg_sl [.ref q, .int p0]).length) Slot.unset).toArray = ls at hl ⊢
  have hl : lv_has ls 2 [(0, .ref q), (1, .int p0)] := hl
  unfold P_X5_form at h
  obtain ⟨⟨hq, hk⟩, h⟩ := h
  refine lv_iconst (v := 3) hx hb dX5_form_0 (by decide) ?_
  exact W.iret (v := 3) hx hb hr (fun t ht hW => ⟨⟨_, (ci, ai, al), rfl, h, by rw [ht]; exact hP, cK.moved hW.alike hK, hD⟩, hS.F ht⟩) hS.2.2 dX5_form_1

abbrev wmX0_form : List Cond := .code yX0_form cX0_form 7 (some .int) :: WC
theorem hd_X0_form : yX0_form.cls = RX0 ∧ yX0_form.cls ≠ "java/lang/invoke/MethodHandle" ∧ yX0_form.cls ≠ "java/lang/invoke/VarHandle" ∧ (parseMethodDescriptor yX0_form.desc).map (fun d => d.parameters.length) = some 1 := by decide +kernel
def P_X0_form (sh : Sh) (Gr Gw : (Nat → Nat → Int32) → (Nat → Nat → Int32) → (Nat → Nat → Int64) → Nat → Int32 → (Int32 → (Nat → Nat → Int32) → (Nat → Nat → Int32) → (Nat → Nat → Int64) → Prop) → Prop) (ci : Nat → Nat → Int32) (ai : Nat → Nat → Int32) (al : Nat → Nat → Int64) (q : Nat) (p0 : Int32) (Q : Int32 → (Nat → Nat → Int32) → (Nat → Nat → Int32) → (Nat → Nat → Int64) → Prop) : Prop := (q ∈ sL sh ∧ sK sh q = 0) ∧ ((¬ p0 = 0) → ((((ci q 6) = 8) → ((sR sh q 5 = none → (P_X5_tellOp sh ci ai al q p0 (ci q 6) 0 (sJ sh q 7) (fun r3 ci3 ai3 al3 => Q r3 ci3 ai3 al3))) ∧ (∀ q1 : Nat, sR sh q 5 = some q1 → ((q1 ∈ sL sh ∧ isZ (sK sh q1)) ∧ Gw ci ai al q1 (p0 - 1) (fun r6 ci6 ai6 al6 => ((r6 = 1) → (P_X5_number_f sh 30 ci6 ai6 al6 q1 (p0 - 1) (fun r7 => P_X5_tellOp sh ci6 ai6 al6 q p0 (ci6 q 6) 0 r7 (fun r8 ci8 ai8 al8 => Q r8 ci8 ai8 al8)))) ∧ ((¬ r6 = 1) → (Q r6 ci6 ai6 al6))))))) ∧ ((¬ (ci q 6) = 8) → (P_X0_workAhead sh Gr Gw ci ai al q p0 (fun r9 ci9 ai9 al9 => ((r9 = 1) → (P_X5_number_f sh 30 ci9 ai9 al9 q (p0 - 1) (fun r10 => (((ci9 q 6) = 7) → (P_X5_tellOp sh ci9 ai9 al9 q p0 (ci9 q 6) r10 (sJ sh q 7) (fun r11 ci11 ai11 al11 => Q r11 ci11 ai11 al11))) ∧ ((¬ (ci9 q 6) = 7) → ((sR sh q 5 = none → (P_X5_tellOp sh ci9 ai9 al9 q p0 (ci9 q 6) r10 (sJ sh q 7) (fun r14 ci14 ai14 al14 => Q r14 ci14 ai14 al14))) ∧ (∀ q12 : Nat, sR sh q 5 = some q12 → ((q12 ∈ sL sh ∧ isZ (sK sh q12)) ∧ Gw ci9 ai9 al9 q12 (p0 - 1) (fun r17 ci17 ai17 al17 => ((r17 = 1) → (P_X5_number_f sh 30 ci17 ai17 al17 q12 (p0 - 1) (fun r18 => P_X5_tellOp sh ci17 ai17 al17 q p0 (ci17 q 6) r10 r18 (fun r19 ci19 ai19 al19 => Q r19 ci19 ai19 al19)))) ∧ ((¬ r17 = 1) → (Q r17 ci17 ai17 al17)))))))))) ∧ ((¬ r9 = 1) → (Q r9 ci9 ai9 al9))))))) ∧ ((p0 = 0) → (P_X5_tell sh ci ai al q p0 (sJ sh q 8) (fun r20 ci20 ai20 al20 => Q r20 ci20 ai20 al20)))
set_option maxHeartbeats 4000000 in
set_option maxRecDepth 100000 in
theorem p_X0_form (l : Launch) (dC : Nat → ClassId) (dI : Nat → Nat → Nat) (sh : Sh) (d : Nat) {Gr Gw : (Nat → Nat → Int32) → (Nat → Nat → Int32) → (Nat → Nat → Int64) → Nat → Int32 → (Int32 → (Nat → Nat → Int32) → (Nat → Nat → Int32) → (Nat → Nat → Int64) → Prop) → Prop} (hGr : GM l dC dI sh yX5_reach wmX5_reach ({ frames := 300 + 5 * d, cells := 0, slots := 0, locals := 6000 + 200 * d }) Gr) (hGw : GM l dC dI sh yX5_work wmX5_work ({ frames := 300 + 5 * d, cells := 0, slots := 0, locals := 6000 + 200 * d }) Gw) (ci : Nat → Nat → Int32) (ai : Nat → Nat → Int32) (al : Nat → Nat → Int64) (q : Nat) (p0 : Int32) (Q : Int32 → (Nat → Nat → Int32) → (Nat → Nat → Int32) → (Nat → Nat → Int64) → Prop) (h : P_X0_form sh Gr Gw ci ai al q p0 Q) (sz : Nat) : Met l yX0_form wmX0_form ({ frames := 303 + 5 * d, cells := 0, slots := 0, locals := 6120 + 200 * d }) (va_Pc [.ref q, .int p0] (cPre dC dI sh ci ai al sz)) (va_Qi (S := CSt) (cI Q) (cB dC dI sh (va_A (cW sh ci ai al) sz)) (va_A (cW sh ci ai al) sz)) 0 0 (va_A (cW sh ci ai al) sz) := by
  refine Met.ofW (cc := cX0_form) (maxL := 7) (ret := (some .int)) (by decide) rfl ?_
  intro p e s m args below meth c s₁ B hml hv
  obtain ⟨rfl, hsz, hP, hK, hD0, hG⟩ := hv
  have hx := B.exec
  have hb := B.bytes
  have hr := B.returns
  have hts : ∀ w ∈ WC, w.before _ s = true := fun w h => atoms_spec (ws := wmX0_form) B.pre w (List.mem_cons_of_mem _ h)
  have hown : s.vm.findClass RX0 = some m.cls := findClass_of_methodNamed B.named
  have hlocks := B.notSynchronized
  subst hsz
  have hD := hD0.self (sz := s.heap.size)
  generalize hAe : va_A (cW sh ci ai al) s.heap.size = A at hD ⊢
  have hA : ∀ q : Nat, s.heap.size ≤ q → A q := fun q h => by rw [← hAe]; exact Or.inr h
  generalize hH : s.heap = H at hP ⊢
  have hS : va_S A s.heap H [] := by rw [← hH]; exact va_S.rf
  have hl := lv_entry [.ref q, .int p0] (n := 7) (Nat.le_of_ble_eq_true rfl)
  rw [lg_entry_eq]
  generalize (lg_sl [.ref q, .int p0] ++ List.replicate (7 - (lg_sl [.ref q, .int p0]).length) Slot.unset).toArray = ls at hl ⊢
  have hl : lv_has ls 7 [(0, .ref q), (1, .int p0)] := hl
  unfold P_X0_form at h
  obtain ⟨⟨hq, hk⟩, h⟩ := h
  refine lv_iload_n hx hb dX0_form_0 rfl (lv_at hl 1 rfl) ?_
  refine lv_if_ne (tgt := 14) hx hb dX0_form_1 (by decide) (fun c_1 => ?_) (fun c_1 => ?_)
  · have h := h.1 c_1
    refine lv_lconst (v := 0) hx hb dX0_form_14 (by decide) ?_
    refine lv_lstore_n (lv' := [(2, .long 0), (0, .ref q), (1, .int p0)]) hx hb dX0_form_15 rfl hl (by decide) rfl (fun ls hl => ?_)
    refine lv_aload_n hx hb dX0_form_16 rfl (lv_at hl 1 rfl) ?_
    refine c_get (C := RX0) (T := TX0) (N := 9) (K := 0) (v := .int (ci q 6)) hx hb hts hinX0 hown hK hP hq hk (by decide) rfl 6 (by decide) (hts _ mwC_238) (fun _ h9 => h9) rfl dX0_form_17 ?_
    refine lv_bipush (v := 8) hx hb dX0_form_20 (by decide) ?_
    refine lv_icmp_eq (tgt := 49) hx hb dX0_form_22 (by decide) (fun c_22 => ?_) (fun c_22 => ?_)
    · have h := h.1 c_22
      refine lv_aload_n hx hb dX0_form_49 rfl (lv_at hl 1 rfl) ?_
      refine c_get (C := RX0) (T := TX0) (N := 9) (K := 0) (v := .long (sJ sh q 7)) hx hb hts hinX0 hown hK hP hq hk (by decide) rfl 7 (by decide) (hts _ mwC_239) (fun _ h9 => h9) rfl dX0_form_50 ?_
      refine lv_lstore (lv' := [(4, .long (sJ sh q 7)), (2, .long 0), (0, .ref q), (1, .int p0)]) hx hb dX0_form_53 hl (by decide) rfl (fun ls hl => ?_)
      refine lv_aload_n hx hb dX0_form_55 rfl (lv_at hl 2 rfl) ?_
      refine c_get (C := RX0) (T := TX0) (N := 9) (K := 0) (v := .int (ci q 6)) hx hb hts hinX0 hown hK hP hq hk (by decide) rfl 6 (by decide) (hts _ mwC_238) (fun _ h9 => h9) rfl dX0_form_56 ?_
      refine lv_bipush (v := 7) hx hb dX0_form_59 (by decide) ?_
      refine lv_icmp_eq (tgt := 104) hx hb dX0_form_61 (by decide) (fun c_61 => ?_) (fun c_61 => ?_)
      · exact absurd (c_22.symm.trans c_61) (by decide)
      · refine lv_aload_n hx hb dX0_form_64 rfl (lv_at hl 2 rfl) ?_
        rcases e2 : sR sh q 5 with _ | q1
        · have h := h.1 e2
          refine c_get (C := RX0) (T := TX0) (N := 9) (K := 0) (v := .null) hx hb hts hinX0 hown hK hP hq hk (by decide) rfl 5 (by decide) (hts _ mwC_190) (fun _ h9 => h9) (by show some (va_rf (sR sh q 5)) = _; rw [e2]; rfl) dX0_form_65 ?_
          refine lv_ifnullN (tgt := 104) hx hb dX0_form_68 (by decide) ?_
          refine lv_aload_n hx hb dX0_form_104 rfl (lv_at hl 2 rfl) ?_
          refine lv_iload_n hx hb dX0_form_105 rfl (lv_at hl 3 rfl) ?_
          refine lv_aload_n hx hb dX0_form_106 rfl (lv_at hl 2 rfl) ?_
          refine c_get (C := RX0) (T := TX0) (N := 9) (K := 0) (v := .int (ci q 6)) hx hb hts hinX0 hown hK hP hq hk (by decide) rfl 6 (by decide) (hts _ mwC_238) (fun _ h9 => h9) rfl dX0_form_107 ?_
          refine lv_lload_n hx hb dX0_form_110 rfl (lv_at hl 1 rfl) ?_
          refine lv_lload hx hb dX0_form_111 (lv_at hl 0 rfl) ?_
          refine c_endi (va_runU (C := RX0) (owner := "NeededLists$LazyList") (rm := ({ frames := 40, cells := 0, slots := 0, locals := 600 })) (As := [.int p0, .int (ci q 6), .long 0, .long (sJ sh q 7)]) (rest := []) ⟨hx, hb, hml, hown, hts⟩ (p_X5_tellOp l dC dI sh _ _ _ q p0 (ci q 6) 0 (sJ sh q 7) _ h H.size) (va_cwU (x := ⟨"NeededLists$Chained", "tellOp", "(IIJJ)I"⟩) 4 hts (g_U gdC mwC_240 mwC_241 mwC_242 mwC_243 mwC_22 mwC_244) rfl rfl rfl rfl ⟨by decide, by decide, by decide +kernel⟩ ⟨(show 40 + 1 ≤ 303 + 5 * d by omega), (show 8 + (7 + 11) + (600) ≤ 6120 + 200 * d by omega)⟩) (c_preV (vc := (RX0, TX0, 9)) hK hP hD hG hq hk (by decide) rfl) rfl rfl hl.1 rfl (lv_room (Nat.le_of_ble_eq_true rfl)) dX0_form_113 ⟨Nat.le_of_ble_eq_true rfl, Nat.le_of_ble_eq_true rfl⟩) hD hS hA (fun r3 ci3 ai3 al3 H locs h hP hD hS => ?_)
          exact W.iret (v := r3) hx hb hr (fun t ht hW => ⟨⟨_, (ci3, ai3, al3), rfl, h, by rw [ht]; exact hP, cK.moved hW.alike hK, hD⟩, hS.F ht⟩) hS.2.2 dX0_form_116
        · have h := h.2 q1 e2
          refine c_get (C := RX0) (T := TX0) (N := 9) (K := 0) (v := .ref q1) hx hb hts hinX0 hown hK hP hq hk (by decide) rfl 5 (by decide) (hts _ mwC_190) (fun _ h9 => h9) (by show some (va_rf (sR sh q 5)) = _; rw [e2]; rfl) dX0_form_65 ?_
          refine lv_ifnull hx hb dX0_form_68 ?_
          refine lv_aload_n hx hb dX0_form_71 rfl (lv_at hl 2 rfl) ?_
          refine c_get (C := RX0) (T := TX0) (N := 9) (K := 0) (v := .ref q1) hx hb hts hinX0 hown hK hP hq hk (by decide) rfl 5 (by decide) (hts _ mwC_190) (fun _ h9 => h9) (by show some (va_rf (sR sh q 5)) = _; rw [e2]; rfl) dX0_form_72 ?_
          refine lv_iload_n hx hb dX0_form_75 rfl (lv_at hl 3 rfl) ?_
          refine lv_iconst (v := 1) hx hb dX0_form_76 (by decide) ?_
          refine lv_isub hx hb dX0_form_77 ?_
          obtain ⟨⟨hm4, hk5⟩, h⟩ := h
          refine c_endi (c_runZ (rm := ({ frames := 300 + 5 * d, cells := 0, slots := 0, locals := 6000 + 200 * d })) (y := yX5_work) (x := ⟨"NeededLists$LazyList", "work", "(I)I"⟩) (n := 1) (bytes := cX5_work) (maxL := 4) (ret := (some .int)) (q := q1) (As := [.int (p0 - 1)]) (rest := []) ⟨hx, hb, hml, hown, hts⟩ (hGw _ _ _ q1 (p0 - 1) _ h H.size) mwC_245 mwC_159 mwC_160 mwC_22 mwC_161 mwC_162 mwC_163 mwC_164 mwC_165 mwC_166 mwC_167 mwC_168 mwC_169 mwC_170 rfl (by decide +kernel) rfl rfl ⟨(show 300 + 5 * d + 1 ≤ 303 + 5 * d by omega), (show 8 + (4 + 11) + (6000 + 200 * d) ≤ 6120 + 200 * d by omega)⟩ hK hP hD hG hm4 hk5 rfl hl.1 rfl (Nat.le_of_ble_eq_true rfl) ⟨Nat.le_of_ble_eq_true rfl, Nat.le_of_ble_eq_true rfl⟩ dX0_form_78) hD hS hA (fun r6 ci6 ai6 al6 H locs h hP hD hS => ?_)
          refine lv_istore (lv' := [(6, .int r6), (4, .long (sJ sh q 7)), (2, .long 0), (0, .ref q), (1, .int p0)]) hx hb dX0_form_81 hl (by decide) rfl (fun ls hl => ?_)
          refine lv_iload hx hb dX0_form_83 (lv_at hl 0 rfl) ?_
          refine lv_iconst (v := 1) hx hb dX0_form_85 (by decide) ?_
          refine lv_icmp_eq (tgt := 92) hx hb dX0_form_86 (by decide) (fun c_86 => ?_) (fun c_86 => ?_)
          · have h := h.1 c_86
            refine lv_aload_n hx hb dX0_form_92 rfl (lv_at hl 3 rfl) ?_
            refine c_get (C := RX0) (T := TX0) (N := 9) (K := 0) (v := .ref q1) hx hb hts hinX0 hown hK hP hq hk (by decide) rfl 5 (by decide) (hts _ mwC_190) (fun _ h9 => h9) (by show some (va_rf (sR sh q 5)) = _; rw [e2]; rfl) dX0_form_93 ?_
            refine lv_iload_n hx hb dX0_form_96 rfl (lv_at hl 4 rfl) ?_
            refine lv_iconst (v := 1) hx hb dX0_form_97 (by decide) ?_
            refine lv_isub hx hb dX0_form_98 ?_
            refine r_endl (c_runZ (rm := ({ frames := 20 + 2 * 30, cells := 0, slots := 0, locals := 300 + 50 * 30 })) (y := yX5_number) (x := ⟨"NeededLists$LazyList", "number", "(I)J"⟩) (n := 1) (bytes := cX5_number) (maxL := 3) (ret := (some .long)) (q := q1) (As := [.int (p0 - 1)]) (rest := []) ⟨hx, hb, hml, hown, hts⟩ (p_X5_number_f l dC dI sh 30 _ _ _ q1 (p0 - 1) _ h H.size) mwC_246 mwC_92 mwC_93 mwC_22 mwC_94 mwC_95 mwC_96 mwC_97 mwC_98 mwC_99 mwC_100 mwC_101 mwC_102 mwC_103 rfl (by decide +kernel) rfl rfl ⟨(show 20 + 2 * 30 + 1 ≤ 303 + 5 * d by omega), (show 8 + (3 + 11) + (300 + 50 * 30) ≤ 6120 + 200 * d by omega)⟩ hK hP hD hG hm4 hk5 rfl hl.1 rfl (Nat.le_of_ble_eq_true rfl) ⟨Nat.le_of_ble_eq_true rfl, Nat.le_of_ble_eq_true rfl⟩ dX0_form_99) hP hS hA (fun r7 H locs h hP hS => ?_)
            refine lv_lstore (lv' := [(4, .long r7), (6, .int r6), (2, .long 0), (0, .ref q), (1, .int p0)]) hx hb dX0_form_102 hl (by decide) rfl (fun ls hl => ?_)
            refine lv_aload_n hx hb dX0_form_104 rfl (lv_at hl 3 rfl) ?_
            refine lv_iload_n hx hb dX0_form_105 rfl (lv_at hl 4 rfl) ?_
            refine lv_aload_n hx hb dX0_form_106 rfl (lv_at hl 3 rfl) ?_
            refine c_get (C := RX0) (T := TX0) (N := 9) (K := 0) (v := .int (ci6 q 6)) hx hb hts hinX0 hown hK hP hq hk (by decide) rfl 6 (by decide) (hts _ mwC_238) (fun _ h9 => h9) rfl dX0_form_107 ?_
            refine lv_lload_n hx hb dX0_form_110 rfl (lv_at hl 2 rfl) ?_
            refine lv_lload hx hb dX0_form_111 (lv_at hl 0 rfl) ?_
            refine c_endi (va_runU (C := RX0) (owner := "NeededLists$LazyList") (rm := ({ frames := 40, cells := 0, slots := 0, locals := 600 })) (As := [.int p0, .int (ci6 q 6), .long 0, .long r7]) (rest := []) ⟨hx, hb, hml, hown, hts⟩ (p_X5_tellOp l dC dI sh _ _ _ q p0 (ci6 q 6) 0 r7 _ h H.size) (va_cwU (x := ⟨"NeededLists$Chained", "tellOp", "(IIJJ)I"⟩) 4 hts (g_U gdC mwC_240 mwC_241 mwC_242 mwC_243 mwC_22 mwC_244) rfl rfl rfl rfl ⟨by decide, by decide, by decide +kernel⟩ ⟨(show 40 + 1 ≤ 303 + 5 * d by omega), (show 8 + (7 + 11) + (600) ≤ 6120 + 200 * d by omega)⟩) (c_preV (vc := (RX0, TX0, 9)) hK hP hD hG hq hk (by decide) rfl) rfl rfl hl.1 rfl (lv_room (Nat.le_of_ble_eq_true rfl)) dX0_form_113 ⟨Nat.le_of_ble_eq_true rfl, Nat.le_of_ble_eq_true rfl⟩) hD hS hA (fun r8 ci8 ai8 al8 H locs h hP hD hS => ?_)
            exact W.iret (v := r8) hx hb hr (fun t ht hW => ⟨⟨_, (ci8, ai8, al8), rfl, h, by rw [ht]; exact hP, cK.moved hW.alike hK, hD⟩, hS.F ht⟩) hS.2.2 dX0_form_116
          · have h := h.2 c_86
            refine lv_iload hx hb dX0_form_89 (lv_at hl 0 rfl) ?_
            exact W.iret (v := r6) hx hb hr (fun t ht hW => ⟨⟨_, (ci6, ai6, al6), rfl, h, by rw [ht]; exact hP, cK.moved hW.alike hK, hD⟩, hS.F ht⟩) hS.2.2 dX0_form_91
    · have h := h.2 c_22
      refine lv_aload_n hx hb dX0_form_25 rfl (lv_at hl 1 rfl) ?_
      refine lv_iload_n hx hb dX0_form_26 rfl (lv_at hl 2 rfl) ?_
      refine c_endi (va_runV (rm := ({ frames := 302 + 5 * d, cells := 0, slots := 0, locals := 6080 + 200 * d })) (As := [.int p0]) (rest := []) ⟨hx, hb, hml, hown, hts⟩ (p_X0_workAhead l dC dI sh d hGr hGw _ _ _ q p0 _ h H.size) (cwV 1 hts (g_V gdC mwC_247 mwC_248 mwC_249 mwC_250 mwC_251) rfl rfl rfl hd_X0_workAhead ⟨(show 302 + 5 * d + 1 ≤ 303 + 5 * d by omega), (show 8 + (5 + 11) + (6080 + 200 * d) ≤ 6120 + 200 * d by omega)⟩) (c_preV (vc := (RX0, TX0, 9)) hK hP hD hG hq hk (by decide) rfl) rfl rfl hl.1 rfl (lv_room (Nat.le_of_ble_eq_true rfl)) dX0_form_27 ⟨Nat.le_of_ble_eq_true rfl, Nat.le_of_ble_eq_true rfl⟩) hD hS hA (fun r9 ci9 ai9 al9 H locs h hP hD hS => ?_)
      refine lv_istore (lv' := [(4, .int r9), (2, .long 0), (0, .ref q), (1, .int p0)]) hx hb dX0_form_30 hl (by decide) rfl (fun ls hl => ?_)
      refine lv_iload hx hb dX0_form_32 (lv_at hl 0 rfl) ?_
      refine lv_iconst (v := 1) hx hb dX0_form_34 (by decide) ?_
      refine lv_icmp_eq (tgt := 41) hx hb dX0_form_35 (by decide) (fun c_35 => ?_) (fun c_35 => ?_)
      · have h := h.1 c_35
        refine lv_aload_n hx hb dX0_form_41 rfl (lv_at hl 2 rfl) ?_
        refine lv_iload_n hx hb dX0_form_42 rfl (lv_at hl 3 rfl) ?_
        refine lv_iconst (v := 1) hx hb dX0_form_43 (by decide) ?_
        refine lv_isub hx hb dX0_form_44 ?_
        refine r_endl (va_runU (C := RX0) (owner := "NeededLists$LazyList") (rm := ({ frames := 20 + 2 * 30, cells := 0, slots := 0, locals := 300 + 50 * 30 })) (As := [.int (p0 - 1)]) (rest := []) ⟨hx, hb, hml, hown, hts⟩ (p_X5_number_f l dC dI sh 30 _ _ _ q (p0 - 1) _ h H.size) (va_cwU (x := ⟨"NeededLists$Chained", "number", "(I)J"⟩) 1 hts (g_U gdC mwC_252 mwC_253 mwC_254 mwC_93 mwC_22 mwC_94) rfl rfl rfl rfl ⟨by decide, by decide, by decide +kernel⟩ ⟨(show 20 + 2 * 30 + 1 ≤ 303 + 5 * d by omega), (show 8 + (3 + 11) + (300 + 50 * 30) ≤ 6120 + 200 * d by omega)⟩) (c_preV (vc := (RX0, TX0, 9)) hK hP hD hG hq hk (by decide) rfl) rfl rfl hl.1 rfl (lv_room (Nat.le_of_ble_eq_true rfl)) dX0_form_45 ⟨Nat.le_of_ble_eq_true rfl, Nat.le_of_ble_eq_true rfl⟩) hP hS hA (fun r10 H locs h hP hS => ?_)
        refine lv_lstore_n (lv' := [(2, .long r10), (4, .int r9), (0, .ref q), (1, .int p0)]) hx hb dX0_form_48 rfl hl (by decide) rfl (fun ls hl => ?_)
        refine lv_aload_n hx hb dX0_form_49 rfl (lv_at hl 2 rfl) ?_
        refine c_get (C := RX0) (T := TX0) (N := 9) (K := 0) (v := .long (sJ sh q 7)) hx hb hts hinX0 hown hK hP hq hk (by decide) rfl 7 (by decide) (hts _ mwC_239) (fun _ h9 => h9) rfl dX0_form_50 ?_
        refine lv_lstore (lv' := [(4, .long (sJ sh q 7)), (2, .long r10), (0, .ref q), (1, .int p0)]) hx hb dX0_form_53 hl (by decide) rfl (fun ls hl => ?_)
        refine lv_aload_n hx hb dX0_form_55 rfl (lv_at hl 2 rfl) ?_
        refine c_get (C := RX0) (T := TX0) (N := 9) (K := 0) (v := .int (ci9 q 6)) hx hb hts hinX0 hown hK hP hq hk (by decide) rfl 6 (by decide) (hts _ mwC_238) (fun _ h9 => h9) rfl dX0_form_56 ?_
        refine lv_bipush (v := 7) hx hb dX0_form_59 (by decide) ?_
        refine lv_icmp_eq (tgt := 104) hx hb dX0_form_61 (by decide) (fun c_61 => ?_) (fun c_61 => ?_)
        · have h := h.1 c_61
          refine lv_aload_n hx hb dX0_form_104 rfl (lv_at hl 2 rfl) ?_
          refine lv_iload_n hx hb dX0_form_105 rfl (lv_at hl 3 rfl) ?_
          refine lv_aload_n hx hb dX0_form_106 rfl (lv_at hl 2 rfl) ?_
          refine c_get (C := RX0) (T := TX0) (N := 9) (K := 0) (v := .int (ci9 q 6)) hx hb hts hinX0 hown hK hP hq hk (by decide) rfl 6 (by decide) (hts _ mwC_238) (fun _ h9 => h9) rfl dX0_form_107 ?_
          refine lv_lload_n hx hb dX0_form_110 rfl (lv_at hl 1 rfl) ?_
          refine lv_lload hx hb dX0_form_111 (lv_at hl 0 rfl) ?_
          refine c_endi (va_runU (C := RX0) (owner := "NeededLists$LazyList") (rm := ({ frames := 40, cells := 0, slots := 0, locals := 600 })) (As := [.int p0, .int (ci9 q 6), .long r10, .long (sJ sh q 7)]) (rest := []) ⟨hx, hb, hml, hown, hts⟩ (p_X5_tellOp l dC dI sh _ _ _ q p0 (ci9 q 6) r10 (sJ sh q 7) _ h H.size) (va_cwU (x := ⟨"NeededLists$Chained", "tellOp", "(IIJJ)I"⟩) 4 hts (g_U gdC mwC_240 mwC_241 mwC_242 mwC_243 mwC_22 mwC_244) rfl rfl rfl rfl ⟨by decide, by decide, by decide +kernel⟩ ⟨(show 40 + 1 ≤ 303 + 5 * d by omega), (show 8 + (7 + 11) + (600) ≤ 6120 + 200 * d by omega)⟩) (c_preV (vc := (RX0, TX0, 9)) hK hP hD hG hq hk (by decide) rfl) rfl rfl hl.1 rfl (lv_room (Nat.le_of_ble_eq_true rfl)) dX0_form_113 ⟨Nat.le_of_ble_eq_true rfl, Nat.le_of_ble_eq_true rfl⟩) hD hS hA (fun r11 ci11 ai11 al11 H locs h hP hD hS => ?_)
          exact W.iret (v := r11) hx hb hr (fun t ht hW => ⟨⟨_, (ci11, ai11, al11), rfl, h, by rw [ht]; exact hP, cK.moved hW.alike hK, hD⟩, hS.F ht⟩) hS.2.2 dX0_form_116
        · have h := h.2 c_61
          refine lv_aload_n hx hb dX0_form_64 rfl (lv_at hl 2 rfl) ?_
          rcases e13 : sR sh q 5 with _ | q12
          · have h := h.1 e13
            refine c_get (C := RX0) (T := TX0) (N := 9) (K := 0) (v := .null) hx hb hts hinX0 hown hK hP hq hk (by decide) rfl 5 (by decide) (hts _ mwC_190) (fun _ h9 => h9) (by show some (va_rf (sR sh q 5)) = _; rw [e13]; rfl) dX0_form_65 ?_
            refine lv_ifnullN (tgt := 104) hx hb dX0_form_68 (by decide) ?_
            refine lv_aload_n hx hb dX0_form_104 rfl (lv_at hl 2 rfl) ?_
            refine lv_iload_n hx hb dX0_form_105 rfl (lv_at hl 3 rfl) ?_
            refine lv_aload_n hx hb dX0_form_106 rfl (lv_at hl 2 rfl) ?_
            refine c_get (C := RX0) (T := TX0) (N := 9) (K := 0) (v := .int (ci9 q 6)) hx hb hts hinX0 hown hK hP hq hk (by decide) rfl 6 (by decide) (hts _ mwC_238) (fun _ h9 => h9) rfl dX0_form_107 ?_
            refine lv_lload_n hx hb dX0_form_110 rfl (lv_at hl 1 rfl) ?_
            refine lv_lload hx hb dX0_form_111 (lv_at hl 0 rfl) ?_
            refine c_endi (va_runU (C := RX0) (owner := "NeededLists$LazyList") (rm := ({ frames := 40, cells := 0, slots := 0, locals := 600 })) (As := [.int p0, .int (ci9 q 6), .long r10, .long (sJ sh q 7)]) (rest := []) ⟨hx, hb, hml, hown, hts⟩ (p_X5_tellOp l dC dI sh _ _ _ q p0 (ci9 q 6) r10 (sJ sh q 7) _ h H.size) (va_cwU (x := ⟨"NeededLists$Chained", "tellOp", "(IIJJ)I"⟩) 4 hts (g_U gdC mwC_240 mwC_241 mwC_242 mwC_243 mwC_22 mwC_244) rfl rfl rfl rfl ⟨by decide, by decide, by decide +kernel⟩ ⟨(show 40 + 1 ≤ 303 + 5 * d by omega), (show 8 + (7 + 11) + (600) ≤ 6120 + 200 * d by omega)⟩) (c_preV (vc := (RX0, TX0, 9)) hK hP hD hG hq hk (by decide) rfl) rfl rfl hl.1 rfl (lv_room (Nat.le_of_ble_eq_true rfl)) dX0_form_113 ⟨Nat.le_of_ble_eq_true rfl, Nat.le_of_ble_eq_true rfl⟩) hD hS hA (fun r14 ci14 ai14 al14 H locs h hP hD hS => ?_)
            exact W.iret (v := r14) hx hb hr (fun t ht hW => ⟨⟨_, (ci14, ai14, al14), rfl, h, by rw [ht]; exact hP, cK.moved hW.alike hK, hD⟩, hS.F ht⟩) hS.2.2 dX0_form_116
          · have h := h.2 q12 e13
            refine c_get (C := RX0) (T := TX0) (N := 9) (K := 0) (v := .ref q12) hx hb hts hinX0 hown hK hP hq hk (by decide) rfl 5 (by decide) (hts _ mwC_190) (fun _ h9 => h9) (by show some (va_rf (sR sh q 5)) = _; rw [e13]; rfl) dX0_form_65 ?_
            refine lv_ifnull hx hb dX0_form_68 ?_
            refine lv_aload_n hx hb dX0_form_71 rfl (lv_at hl 2 rfl) ?_
            refine c_get (C := RX0) (T := TX0) (N := 9) (K := 0) (v := .ref q12) hx hb hts hinX0 hown hK hP hq hk (by decide) rfl 5 (by decide) (hts _ mwC_190) (fun _ h9 => h9) (by show some (va_rf (sR sh q 5)) = _; rw [e13]; rfl) dX0_form_72 ?_
            refine lv_iload_n hx hb dX0_form_75 rfl (lv_at hl 3 rfl) ?_
            refine lv_iconst (v := 1) hx hb dX0_form_76 (by decide) ?_
            refine lv_isub hx hb dX0_form_77 ?_
            obtain ⟨⟨hm15, hk16⟩, h⟩ := h
            refine c_endi (c_runZ (rm := ({ frames := 300 + 5 * d, cells := 0, slots := 0, locals := 6000 + 200 * d })) (y := yX5_work) (x := ⟨"NeededLists$LazyList", "work", "(I)I"⟩) (n := 1) (bytes := cX5_work) (maxL := 4) (ret := (some .int)) (q := q12) (As := [.int (p0 - 1)]) (rest := []) ⟨hx, hb, hml, hown, hts⟩ (hGw _ _ _ q12 (p0 - 1) _ h H.size) mwC_245 mwC_159 mwC_160 mwC_22 mwC_161 mwC_162 mwC_163 mwC_164 mwC_165 mwC_166 mwC_167 mwC_168 mwC_169 mwC_170 rfl (by decide +kernel) rfl rfl ⟨(show 300 + 5 * d + 1 ≤ 303 + 5 * d by omega), (show 8 + (4 + 11) + (6000 + 200 * d) ≤ 6120 + 200 * d by omega)⟩ hK hP hD hG hm15 hk16 rfl hl.1 rfl (Nat.le_of_ble_eq_true rfl) ⟨Nat.le_of_ble_eq_true rfl, Nat.le_of_ble_eq_true rfl⟩ dX0_form_78) hD hS hA (fun r17 ci17 ai17 al17 H locs h hP hD hS => ?_)
            refine lv_istore (lv' := [(6, .int r17), (4, .long (sJ sh q 7)), (2, .long r10), (0, .ref q), (1, .int p0)]) hx hb dX0_form_81 hl (by decide) rfl (fun ls hl => ?_)
            refine lv_iload hx hb dX0_form_83 (lv_at hl 0 rfl) ?_
            refine lv_iconst (v := 1) hx hb dX0_form_85 (by decide) ?_
            refine lv_icmp_eq (tgt := 92) hx hb dX0_form_86 (by decide) (fun c_86 => ?_) (fun c_86 => ?_)
            · have h := h.1 c_86
              refine lv_aload_n hx hb dX0_form_92 rfl (lv_at hl 3 rfl) ?_
              refine c_get (C := RX0) (T := TX0) (N := 9) (K := 0) (v := .ref q12) hx hb hts hinX0 hown hK hP hq hk (by decide) rfl 5 (by decide) (hts _ mwC_190) (fun _ h9 => h9) (by show some (va_rf (sR sh q 5)) = _; rw [e13]; rfl) dX0_form_93 ?_
              refine lv_iload_n hx hb dX0_form_96 rfl (lv_at hl 4 rfl) ?_
              refine lv_iconst (v := 1) hx hb dX0_form_97 (by decide) ?_
              refine lv_isub hx hb dX0_form_98 ?_
              refine r_endl (c_runZ (rm := ({ frames := 20 + 2 * 30, cells := 0, slots := 0, locals := 300 + 50 * 30 })) (y := yX5_number) (x := ⟨"NeededLists$LazyList", "number", "(I)J"⟩) (n := 1) (bytes := cX5_number) (maxL := 3) (ret := (some .long)) (q := q12) (As := [.int (p0 - 1)]) (rest := []) ⟨hx, hb, hml, hown, hts⟩ (p_X5_number_f l dC dI sh 30 _ _ _ q12 (p0 - 1) _ h H.size) mwC_246 mwC_92 mwC_93 mwC_22 mwC_94 mwC_95 mwC_96 mwC_97 mwC_98 mwC_99 mwC_100 mwC_101 mwC_102 mwC_103 rfl (by decide +kernel) rfl rfl ⟨(show 20 + 2 * 30 + 1 ≤ 303 + 5 * d by omega), (show 8 + (3 + 11) + (300 + 50 * 30) ≤ 6120 + 200 * d by omega)⟩ hK hP hD hG hm15 hk16 rfl hl.1 rfl (Nat.le_of_ble_eq_true rfl) ⟨Nat.le_of_ble_eq_true rfl, Nat.le_of_ble_eq_true rfl⟩ dX0_form_99) hP hS hA (fun r18 H locs h hP hS => ?_)
              refine lv_lstore (lv' := [(4, .long r18), (6, .int r17), (2, .long r10), (0, .ref q), (1, .int p0)]) hx hb dX0_form_102 hl (by decide) rfl (fun ls hl => ?_)
              refine lv_aload_n hx hb dX0_form_104 rfl (lv_at hl 3 rfl) ?_
              refine lv_iload_n hx hb dX0_form_105 rfl (lv_at hl 4 rfl) ?_
              refine lv_aload_n hx hb dX0_form_106 rfl (lv_at hl 3 rfl) ?_
              refine c_get (C := RX0) (T := TX0) (N := 9) (K := 0) (v := .int (ci17 q 6)) hx hb hts hinX0 hown hK hP hq hk (by decide) rfl 6 (by decide) (hts _ mwC_238) (fun _ h9 => h9) rfl dX0_form_107 ?_
              refine lv_lload_n hx hb dX0_form_110 rfl (lv_at hl 2 rfl) ?_
              refine lv_lload hx hb dX0_form_111 (lv_at hl 0 rfl) ?_
              refine c_endi (va_runU (C := RX0) (owner := "NeededLists$LazyList") (rm := ({ frames := 40, cells := 0, slots := 0, locals := 600 })) (As := [.int p0, .int (ci17 q 6), .long r10, .long r18]) (rest := []) ⟨hx, hb, hml, hown, hts⟩ (p_X5_tellOp l dC dI sh _ _ _ q p0 (ci17 q 6) r10 r18 _ h H.size) (va_cwU (x := ⟨"NeededLists$Chained", "tellOp", "(IIJJ)I"⟩) 4 hts (g_U gdC mwC_240 mwC_241 mwC_242 mwC_243 mwC_22 mwC_244) rfl rfl rfl rfl ⟨by decide, by decide, by decide +kernel⟩ ⟨(show 40 + 1 ≤ 303 + 5 * d by omega), (show 8 + (7 + 11) + (600) ≤ 6120 + 200 * d by omega)⟩) (c_preV (vc := (RX0, TX0, 9)) hK hP hD hG hq hk (by decide) rfl) rfl rfl hl.1 rfl (lv_room (Nat.le_of_ble_eq_true rfl)) dX0_form_113 ⟨Nat.le_of_ble_eq_true rfl, Nat.le_of_ble_eq_true rfl⟩) hD hS hA (fun r19 ci19 ai19 al19 H locs h hP hD hS => ?_)
              exact W.iret (v := r19) hx hb hr (fun t ht hW => ⟨⟨_, (ci19, ai19, al19), rfl, h, by rw [ht]; exact hP, cK.moved hW.alike hK, hD⟩, hS.F ht⟩) hS.2.2 dX0_form_116
            · have h := h.2 c_86
              refine lv_iload hx hb dX0_form_89 (lv_at hl 0 rfl) ?_
              exact W.iret (v := r17) hx hb hr (fun t ht hW => ⟨⟨_, (ci17, ai17, al17), rfl, h, by rw [ht]; exact hP, cK.moved hW.alike hK, hD⟩, hS.F ht⟩) hS.2.2 dX0_form_91
      · have h := h.2 c_35
        refine lv_iload hx hb dX0_form_38 (lv_at hl 0 rfl) ?_
        exact W.iret (v := r9) hx hb hr (fun t ht hW => ⟨⟨_, (ci9, ai9, al9), rfl, h, by rw [ht]; exact hP, cK.moved hW.alike hK, hD⟩, hS.F ht⟩) hS.2.2 dX0_form_40
  · have h := h.2 c_1
    refine lv_aload_n hx hb dX0_form_4 rfl (lv_at hl 0 rfl) ?_
    refine lv_iload_n hx hb dX0_form_5 rfl (lv_at hl 1 rfl) ?_
    refine lv_aload_n hx hb dX0_form_6 rfl (lv_at hl 0 rfl) ?_
    refine c_get (C := RX0) (T := TX0) (N := 9) (K := 0) (v := .long (sJ sh q 8)) hx hb hts hinX0 hown hK hP hq hk (by decide) rfl 8 (by decide) (hts _ mwC_255) (fun _ h9 => h9) rfl dX0_form_7 ?_
    refine c_endi (va_runU (C := RX0) (owner := "NeededLists$LazyList") (rm := ({ frames := 4, cells := 0, slots := 0, locals := 60 })) (As := [.int p0, .long (sJ sh q 8)]) (rest := []) ⟨hx, hb, hml, hown, hts⟩ (p_X5_tell l dC dI sh _ _ _ q p0 (sJ sh q 8) _ h H.size) (va_cwU (x := ⟨"NeededLists$Chained", "tell", "(IJ)I"⟩) 2 hts (g_U gdC mwC_256 mwC_257 mwC_258 mwC_125 mwC_22 mwC_126) rfl rfl rfl rfl ⟨by decide, by decide, by decide +kernel⟩ ⟨(show 4 + 1 ≤ 303 + 5 * d by omega), (show 8 + (4 + 11) + (60) ≤ 6120 + 200 * d by omega)⟩) (c_preV (vc := (RX0, TX0, 9)) hK hP hD hG hq hk (by decide) rfl) rfl rfl hl.1 rfl (lv_room (Nat.le_of_ble_eq_true rfl)) dX0_form_10 ⟨Nat.le_of_ble_eq_true rfl, Nat.le_of_ble_eq_true rfl⟩) hD hS hA (fun r20 ci20 ai20 al20 H locs h hP hD hS => ?_)
    exact W.iret (v := r20) hx hb hr (fun t ht hW => ⟨⟨_, (ci20, ai20, al20), rfl, h, by rw [ht]; exact hP, cK.moved hW.alike hK, hD⟩, hS.F ht⟩) hS.2.2 dX0_form_13
