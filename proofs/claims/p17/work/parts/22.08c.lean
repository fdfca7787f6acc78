theorem dX5_reach_0 : decode cX5_reach 0 = .ok (.iload_n 1, 1) := by decide +kernel
theorem dX5_reach_1 : decode cX5_reach 1 = .ok (.sipush 400, 3) := by decide +kernel
theorem dX5_reach_4 : decode cX5_reach 4 = .ok (.invokestatic 30, 3) := by decide +kernel
theorem dX5_reach_7 : decode cX5_reach 7 = .ok (.istore_n 2, 1) := by decide +kernel
theorem dX5_reach_8 : decode cX5_reach 8 = .ok (.aload_n 0, 1) := by decide +kernel
theorem dX5_reach_9 : decode cX5_reach 9 = .ok (.getfield 27, 3) := by decide +kernel
theorem dX5_reach_12 : decode cX5_reach 12 = .ok (.istore_n 3, 1) := by decide +kernel
theorem dX5_reach_13 : decode cX5_reach 13 = .ok (.iload_n 3, 1) := by decide +kernel
theorem dX5_reach_14 : decode cX5_reach 14 = .ok (.iload_n 2, 1) := by decide +kernel
theorem dX5_reach_15 : decode cX5_reach 15 = .ok (.if_icmp .gt 69, 3) := by decide +kernel
theorem dX5_reach_18 : decode cX5_reach 18 = .ok (.aload_n 0, 1) := by decide +kernel
theorem dX5_reach_19 : decode cX5_reach 19 = .ok (.getfield 23, 3) := by decide +kernel
theorem dX5_reach_22 : decode cX5_reach 22 = .ok (.ifCond .ne 62, 3) := by decide +kernel
theorem dX5_reach_25 : decode cX5_reach 25 = .ok (.iload_n 3, 1) := by decide +kernel
theorem dX5_reach_26 : decode cX5_reach 26 = .ok (.sipush 400, 3) := by decide +kernel
theorem dX5_reach_29 : decode cX5_reach 29 = .ok (.if_icmp .ne 5, 3) := by decide +kernel
theorem dX5_reach_32 : decode cX5_reach 32 = .ok (.iconst 3, 1) := by decide +kernel
theorem dX5_reach_33 : decode cX5_reach 33 = .ok (.ireturn, 1) := by decide +kernel
theorem dX5_reach_34 : decode cX5_reach 34 = .ok (.aload_n 0, 1) := by decide +kernel
theorem dX5_reach_35 : decode cX5_reach 35 = .ok (.iload_n 3, 1) := by decide +kernel
theorem dX5_reach_36 : decode cX5_reach 36 = .ok (.invokevirtual 36, 3) := by decide +kernel
theorem dX5_reach_39 : decode cX5_reach 39 = .ok (.istore 4, 2) := by decide +kernel
theorem dX5_reach_41 : decode cX5_reach 41 = .ok (.iload 4, 2) := by decide +kernel
theorem dX5_reach_43 : decode cX5_reach 43 = .ok (.iconst 3, 1) := by decide +kernel
theorem dX5_reach_44 : decode cX5_reach 44 = .ok (.if_icmp .eq 13, 3) := by decide +kernel
theorem dX5_reach_47 : decode cX5_reach 47 = .ok (.aload_n 0, 1) := by decide +kernel
theorem dX5_reach_48 : decode cX5_reach 48 = .ok (.getfield 9, 3) := by decide +kernel
theorem dX5_reach_51 : decode cX5_reach 51 = .ok (.invokevirtual 40, 3) := by decide +kernel
theorem dX5_reach_54 : decode cX5_reach 54 = .ok (.ifCond .ne 5, 3) := by decide +kernel
theorem dX5_reach_57 : decode cX5_reach 57 = .ok (.iconst 3, 1) := by decide +kernel
theorem dX5_reach_58 : decode cX5_reach 58 = .ok (.ireturn, 1) := by decide +kernel
theorem dX5_reach_59 : decode cX5_reach 59 = .ok (.aload_n 0, 1) := by decide +kernel
theorem dX5_reach_60 : decode cX5_reach 60 = .ok (.iload_n 3, 1) := by decide +kernel
theorem dX5_reach_61 : decode cX5_reach 61 = .ok (.iconst 1, 1) := by decide +kernel
theorem dX5_reach_62 : decode cX5_reach 62 = .ok (.iadd, 1) := by decide +kernel
theorem dX5_reach_63 : decode cX5_reach 63 = .ok (.putfield 27, 3) := by decide +kernel
theorem dX5_reach_66 : decode cX5_reach 66 = .ok (.iload 4, 2) := by decide +kernel
theorem dX5_reach_68 : decode cX5_reach 68 = .ok (.iconst 1, 1) := by decide +kernel
theorem dX5_reach_69 : decode cX5_reach 69 = .ok (.if_icmp .eq 9, 3) := by decide +kernel
theorem dX5_reach_72 : decode cX5_reach 72 = .ok (.aload_n 0, 1) := by decide +kernel
theorem dX5_reach_73 : decode cX5_reach 73 = .ok (.iload 4, 2) := by decide +kernel
theorem dX5_reach_75 : decode cX5_reach 75 = .ok (.putfield 23, 3) := by decide +kernel
theorem dX5_reach_78 : decode cX5_reach 78 = .ok (.iinc 3 1, 3) := by decide +kernel
theorem dX5_reach_81 : decode cX5_reach 81 = .ok (.goto (-68), 3) := by decide +kernel
theorem dX5_reach_84 : decode cX5_reach 84 = .ok (.iload_n 1, 1) := by decide +kernel
theorem dX5_reach_85 : decode cX5_reach 85 = .ok (.aload_n 0, 1) := by decide +kernel
theorem dX5_reach_86 : decode cX5_reach 86 = .ok (.invokevirtual 46, 3) := by decide +kernel
theorem dX5_reach_89 : decode cX5_reach 89 = .ok (.if_icmp .ge 7, 3) := by decide +kernel
theorem dX5_reach_92 : decode cX5_reach 92 = .ok (.iconst 1, 1) := by decide +kernel
theorem dX5_reach_93 : decode cX5_reach 93 = .ok (.goto 7, 3) := by decide +kernel
theorem dX5_reach_96 : decode cX5_reach 96 = .ok (.aload_n 0, 1) := by decide +kernel
theorem dX5_reach_97 : decode cX5_reach 97 = .ok (.getfield 23, 3) := by decide +kernel
theorem dX5_reach_100 : decode cX5_reach 100 = .ok (.ireturn, 1) := by decide +kernel
theorem dX5_work_0 : decode cX5_work 0 = .ok (.aload_n 0, 1) := by decide +kernel
theorem dX5_work_1 : decode cX5_work 1 = .ok (.iload_n 1, 1) := by decide +kernel
theorem dX5_work_2 : decode cX5_work 2 = .ok (.invokevirtual 53, 3) := by decide +kernel
theorem dX5_work_5 : decode cX5_work 5 = .ok (.astore_n 2, 1) := by decide +kernel
theorem dX5_work_6 : decode cX5_work 6 = .ok (.aload_n 2, 1) := by decide +kernel
theorem dX5_work_7 : decode cX5_work 7 = .ok (.aload_n 0, 1) := by decide +kernel
theorem dX5_work_8 : decode cX5_work 8 = .ok (.if_acmp .eq 13, 3) := by decide +kernel
theorem dX5_work_11 : decode cX5_work 11 = .ok (.aload_n 2, 1) := by decide +kernel
theorem dX5_work_12 : decode cX5_work 12 = .ok (.aload_n 0, 1) := by decide +kernel
theorem dX5_work_13 : decode cX5_work 13 = .ok (.iload_n 1, 1) := by decide +kernel
theorem dX5_work_14 : decode cX5_work 14 = .ok (.invokevirtual 57, 3) := by decide +kernel
theorem dX5_work_17 : decode cX5_work 17 = .ok (.invokevirtual 60, 3) := by decide +kernel
theorem dX5_work_20 : decode cX5_work 20 = .ok (.ireturn, 1) := by decide +kernel
theorem dX5_work_21 : decode cX5_work 21 = .ok (.iload_n 1, 1) := by decide +kernel
theorem dX5_work_22 : decode cX5_work 22 = .ok (.ifCond .lt 12, 3) := by decide +kernel
theorem dX5_work_25 : decode cX5_work 25 = .ok (.iload_n 1, 1) := by decide +kernel
theorem dX5_work_26 : decode cX5_work 26 = .ok (.aload_n 0, 1) := by decide +kernel
theorem dX5_work_27 : decode cX5_work 27 = .ok (.getfield 19, 3) := by decide +kernel
theorem dX5_work_30 : decode cX5_work 30 = .ok (.arraylength, 1) := by decide +kernel
theorem dX5_work_31 : decode cX5_work 31 = .ok (.if_icmp .lt 5, 3) := by decide +kernel
theorem dX5_work_34 : decode cX5_work 34 = .ok (.iconst 3, 1) := by decide +kernel
theorem dX5_work_35 : decode cX5_work 35 = .ok (.ireturn, 1) := by decide +kernel
theorem dX5_work_36 : decode cX5_work 36 = .ok (.aload_n 0, 1) := by decide +kernel
theorem dX5_work_37 : decode cX5_work 37 = .ok (.getfield 19, 3) := by decide +kernel
theorem dX5_work_40 : decode cX5_work 40 = .ok (.iload_n 1, 1) := by decide +kernel
theorem dX5_work_41 : decode cX5_work 41 = .ok (.baload, 1) := by decide +kernel
theorem dX5_work_42 : decode cX5_work 42 = .ok (.ifCond .ne 34, 3) := by decide +kernel
theorem dX5_work_45 : decode cX5_work 45 = .ok (.aload_n 0, 1) := by decide +kernel
theorem dX5_work_46 : decode cX5_work 46 = .ok (.iload_n 1, 1) := by decide +kernel
theorem dX5_work_47 : decode cX5_work 47 = .ok (.invokevirtual 63, 3) := by decide +kernel
theorem dX5_work_50 : decode cX5_work 50 = .ok (.istore_n 3, 1) := by decide +kernel
theorem dX5_work_51 : decode cX5_work 51 = .ok (.iload_n 3, 1) := by decide +kernel
theorem dX5_work_52 : decode cX5_work 52 = .ok (.iconst 3, 1) := by decide +kernel
theorem dX5_work_53 : decode cX5_work 53 = .ok (.if_icmp .eq 13, 3) := by decide +kernel
theorem dX5_work_56 : decode cX5_work 56 = .ok (.aload_n 0, 1) := by decide +kernel
theorem dX5_work_57 : decode cX5_work 57 = .ok (.getfield 9, 3) := by decide +kernel
theorem dX5_work_60 : decode cX5_work 60 = .ok (.invokevirtual 40, 3) := by decide +kernel
theorem dX5_work_63 : decode cX5_work 63 = .ok (.ifCond .ne 5, 3) := by decide +kernel
theorem dX5_work_66 : decode cX5_work 66 = .ok (.iconst 3, 1) := by decide +kernel
theorem dX5_work_67 : decode cX5_work 67 = .ok (.ireturn, 1) := by decide +kernel
theorem dX5_work_68 : decode cX5_work 68 = .ok (.aload_n 0, 1) := by decide +kernel
theorem dX5_work_69 : decode cX5_work 69 = .ok (.getfield 19, 3) := by decide +kernel
theorem dX5_work_72 : decode cX5_work 72 = .ok (.iload_n 1, 1) := by decide +kernel
theorem dX5_work_73 : decode cX5_work 73 = .ok (.iload_n 3, 1) := by decide +kernel
theorem dX5_work_74 : decode cX5_work 74 = .ok (.i2b, 1) := by decide +kernel
theorem dX5_work_75 : decode cX5_work 75 = .ok (.bastore, 1) := by decide +kernel
theorem dX5_work_76 : decode cX5_work 76 = .ok (.aload_n 0, 1) := by decide +kernel
theorem dX5_work_77 : decode cX5_work 77 = .ok (.getfield 19, 3) := by decide +kernel
theorem dX5_work_80 : decode cX5_work 80 = .ok (.iload_n 1, 1) := by decide +kernel
theorem dX5_work_81 : decode cX5_work 81 = .ok (.baload, 1) := by decide +kernel
theorem dX5_work_82 : decode cX5_work 82 = .ok (.ireturn, 1) := by decide +kernel
def P_V_form (sh : Sh) (Gr Gw : (Nat → Nat → Int32) → (Nat → Nat → Int32) → (Nat → Nat → Int64) → Nat → Int32 → (Int32 → (Nat → Nat → Int32) → (Nat → Nat → Int32) → (Nat → Nat → Int64) → Prop) → Prop) (ci : Nat → Nat → Int32) (ai : Nat → Nat → Int32) (al : Nat → Nat → Int64) (q : Nat) (k : Int32) (Q : Int32 → (Nat → Nat → Int32) → (Nat → Nat → Int32) → (Nat → Nat → Int64) → Prop) : Prop := (sK sh q = 0 → P_X0_form sh Gr Gw ci ai al q k Q) ∧ (sK sh q = 1 → P_X1_form sh Gr Gw ci ai al q k Q) ∧ (sK sh q = 2 → P_X5_form sh ci ai al q k Q) ∧ (sK sh q = 3 → P_X3_form sh ci ai al q k Q) ∧ (sK sh q = 4 → P_X5_form sh ci ai al q k Q) ∧ (sK sh q = 6 → P_X5_form sh ci ai al q k Q) ∧ (sK sh q = 7 → P_X5_form sh ci ai al q k Q) ∧ (sK sh q = 8 → P_X9_form sh Gr Gw ci ai al q k Q) ∧ (sK sh q = 9 → P_X5_form sh ci ai al q k Q)
set_option maxHeartbeats 4000000 in
set_option maxRecDepth 100000 in
theorem v_form {p : Program} {l : Launch} {e : Env} {R : Room} {s : State} {m : MethodId} {args : Array Value} {below : List Frame} {meth : Method} {c : Code} {H : Heap} {locs : List Loc} {cells slots : Nat}  {cc : ByteArray} {pc : Nat} {ls : Array Slot} {rest st : List Value} {A : Nat → Prop} {dC : Nat → ClassId} {dI : Nat → Nat → Nat} {sh : Sh} {ci : Nat → Nat → Int32} {ai : Nat → Nat → Int32} {al : Nat → Nat → Int64} {nL q : Nat} {k9 : Int32} {Q : Int32 → (Nat → Nat → Int32) → (Nat → Nat → Int32) → (Nat → Nat → Int64) → Prop} {d : Nat} {Gr Gw : (Nat → Nat → Int32) → (Nat → Nat → Int32) → (Nat → Nat → Int64) → Nat → Int32 → (Int32 → (Nat → Nat → Int32) → (Nat → Nat → Int32) → (Nat → Nat → Int64) → Prop) → Prop} (hGr : GM l dC dI sh yX5_reach wmX5_reach ({ frames := 300 + 5 * d, cells := 0, slots := 0, locals := 6000 + 200 * d }) Gr) (hGw : GM l dC dI sh yX5_work wmX5_work ({ frames := 300 + 5 * d, cells := 0, slots := 0, locals := 6000 + 200 * d }) Gw) (h : P_V_form sh Gr Gw ci ai al q k9 Q) (S : CallFix p m c cc nL s args WC RX5) (hK : cK dC dI sh s) (hP : va_P (dC, dI) vwCl (cW sh ci ai al) H) (hD : va_D A (cW sh ci ai al)) (hG : Gc s) (hq : q ∈ sL sh) (hz : isZ (sK sh q)) (hR : 303 + 5 * d + 1 ≤ R.frames ∧ 8 + (10 + 11) + (6120 + 200 * d) ≤ R.locals) (hsize : ls.size = nL) (hst : st = .int k9 :: .ref q :: rest) (hW : (rest.map fun v => v.category).sum ≤ 8) (hf : cells ≤ R.cells ∧ slots ≤ R.slots) (hdg : decode cc pc = .ok (.invokevirtual 63, 3)) : va_Run p l e R s m args below meth c H locs cells slots 0 0 (F0 m pc ls st) rest (va_Qi (S := CSt) (cI Q) (cB dC dI sh (va_A (cW sh ci ai al) H.size)) (va_A (cW sh ci ai al) H.size) (Value.ref q :: [.int k9]).toArray) (va_A (cW sh ci ai al) H.size) := by
  have hts := S.2.2.2.2
  rcases hz with e | e | e | e | e | e | e | e | e
  · exact va_runU (C := RX0) (owner := "NeededLists$LazyList") (rm := ({ frames := 303 + 5 * d, cells := 0, slots := 0, locals := 6120 + 200 * d })) (As := [.int k9]) S (p_X0_form l dC dI sh d hGr hGw _ _ _ q k9 _ (h.1 e) H.size) (va_cwO (x := ⟨"NeededLists$LazyList", "form", "(I)I"⟩) 1 hts (g_O gdC mwC_300 mwC_301 mwC_306 mwC_302 mwC_303 mwC_250 mwC_304) rfl rfl rfl mwC_305 ⟨by decide, by decide, by decide +kernel⟩ ⟨(show 303 + 5 * d + 1 ≤ R.frames by omega), (show 8 + (7 + 11) + (6120 + 200 * d) ≤ R.locals by omega)⟩) (c_preV (vc := (RX0, TX0, 9)) hK hP hD hG hq e (by decide) rfl) rfl rfl hsize hst (lv_room hW) hdg hf
  · exact va_runU (C := RX1) (owner := "NeededLists$LazyList") (rm := ({ frames := 303 + 5 * d, cells := 0, slots := 0, locals := 6120 + 200 * d })) (As := [.int k9]) S (p_X1_form l dC dI sh d hGr hGw _ _ _ q k9 _ (h.2.1 e) H.size) (va_cwO (x := ⟨"NeededLists$LazyList", "form", "(I)I"⟩) 1 hts (g_O gdC mwC_300 mwC_301 mwC_306 mwC_307 mwC_308 mwC_276 mwC_309) rfl rfl rfl mwC_305 ⟨by decide, by decide, by decide +kernel⟩ ⟨(show 303 + 5 * d + 1 ≤ R.frames by omega), (show 8 + (7 + 11) + (6120 + 200 * d) ≤ R.locals by omega)⟩) (c_preV (vc := (RX1, TX1, 9)) hK hP hD hG hq e (by decide) rfl) rfl rfl hsize hst (lv_room hW) hdg hf
  · exact va_runU (C := RX2) (owner := "NeededLists$LazyList") (rm := ({ frames := 12, cells := 0, slots := 0, locals := 200 })) (As := [.int k9]) S (p_X5_form l dC dI sh _ _ _ q k9 _ (h.2.2.1 e) H.size) (va_cwU (x := ⟨"NeededLists$LazyList", "form", "(I)I"⟩) 1 hts (g_U gdC mwC_300 mwC_301 mwC_310 mwC_306 mwC_22 mwC_305) rfl rfl rfl rfl ⟨by decide, by decide, by decide +kernel⟩ ⟨(show 12 + 1 ≤ R.frames by omega), (show 8 + (2 + 11) + (200) ≤ R.locals by omega)⟩) (c_preV (vc := (RX2, TX2, 9)) hK hP hD hG hq e (by decide) rfl) rfl rfl hsize hst (lv_room hW) hdg hf
  · exact va_runU (C := RX3) (owner := "NeededLists$LazyList") (rm := ({ frames := 12, cells := 0, slots := 0, locals := 200 })) (As := [.int k9]) S (p_X3_form l dC dI sh _ _ _ q k9 _ (h.2.2.2.1 e) H.size) (va_cwO (x := ⟨"NeededLists$LazyList", "form", "(I)I"⟩) 1 hts (g_O gdC mwC_300 mwC_301 mwC_306 mwC_311 mwC_312 mwC_283 mwC_313) rfl rfl rfl mwC_305 ⟨by decide, by decide, by decide +kernel⟩ ⟨(show 12 + 1 ≤ R.frames by omega), (show 8 + (2 + 11) + (200) ≤ R.locals by omega)⟩) (c_preV (vc := (RX3, TX3, 7)) hK hP hD hG hq e (by decide) rfl) rfl rfl hsize hst (lv_room hW) hdg hf
  · exact va_runU (C := RX4) (owner := "NeededLists$LazyList") (rm := ({ frames := 12, cells := 0, slots := 0, locals := 200 })) (As := [.int k9]) S (p_X5_form l dC dI sh _ _ _ q k9 _ (h.2.2.2.2.1 e) H.size) (va_cwU (x := ⟨"NeededLists$LazyList", "form", "(I)I"⟩) 1 hts (g_U gdC mwC_300 mwC_301 mwC_314 mwC_306 mwC_22 mwC_305) rfl rfl rfl rfl ⟨by decide, by decide, by decide +kernel⟩ ⟨(show 12 + 1 ≤ R.frames by omega), (show 8 + (2 + 11) + (200) ≤ R.locals by omega)⟩) (c_preV (vc := (RX4, TX4, 7)) hK hP hD hG hq e (by decide) rfl) rfl rfl hsize hst (lv_room hW) hdg hf
  · exact va_runU (C := RX7) (owner := "NeededLists$LazyList") (rm := ({ frames := 12, cells := 0, slots := 0, locals := 200 })) (As := [.int k9]) S (p_X5_form l dC dI sh _ _ _ q k9 _ (h.2.2.2.2.2.1 e) H.size) (va_cwU (x := ⟨"NeededLists$LazyList", "form", "(I)I"⟩) 1 hts (g_U gdC mwC_300 mwC_301 mwC_315 mwC_306 mwC_22 mwC_305) rfl rfl rfl rfl ⟨by decide, by decide, by decide +kernel⟩ ⟨(show 12 + 1 ≤ R.frames by omega), (show 8 + (2 + 11) + (200) ≤ R.locals by omega)⟩) (c_preV (vc := (RX7, TX7, 7)) hK hP hD hG hq e (by decide) rfl) rfl rfl hsize hst (lv_room hW) hdg hf
  · exact va_runU (C := RX8) (owner := "NeededLists$LazyList") (rm := ({ frames := 12, cells := 0, slots := 0, locals := 200 })) (As := [.int k9]) S (p_X5_form l dC dI sh _ _ _ q k9 _ (h.2.2.2.2.2.2.1 e) H.size) (va_cwU (x := ⟨"NeededLists$LazyList", "form", "(I)I"⟩) 1 hts (g_U gdC mwC_300 mwC_301 mwC_316 mwC_306 mwC_22 mwC_305) rfl rfl rfl rfl ⟨by decide, by decide, by decide +kernel⟩ ⟨(show 12 + 1 ≤ R.frames by omega), (show 8 + (2 + 11) + (200) ≤ R.locals by omega)⟩) (c_preV (vc := (RX8, TX8, 9)) hK hP hD hG hq e (by decide) rfl) rfl rfl hsize hst (lv_room hW) hdg hf
  · exact va_runU (C := RX9) (owner := "NeededLists$LazyList") (rm := ({ frames := 303 + 5 * d, cells := 0, slots := 0, locals := 6120 + 200 * d })) (As := [.int k9]) S (p_X9_form l dC dI sh d hGr hGw _ _ _ q k9 _ (h.2.2.2.2.2.2.2.1 e) H.size) (va_cwO (x := ⟨"NeededLists$LazyList", "form", "(I)I"⟩) 1 hts (g_O gdC mwC_300 mwC_301 mwC_306 mwC_317 mwC_318 mwC_229 mwC_319) rfl rfl rfl mwC_305 ⟨by decide, by decide, by decide +kernel⟩ ⟨(show 303 + 5 * d + 1 ≤ R.frames by omega), (show 8 + (3 + 11) + (6120 + 200 * d) ≤ R.locals by omega)⟩) (c_preV (vc := (RX9, TX9, 8)) hK hP hD hG hq e (by decide) rfl) rfl rfl hsize hst (lv_room hW) hdg hf
  · exact va_runU (C := RX10) (owner := "NeededLists$LazyList") (rm := ({ frames := 12, cells := 0, slots := 0, locals := 200 })) (As := [.int k9]) S (p_X5_form l dC dI sh _ _ _ q k9 _ (h.2.2.2.2.2.2.2.2 e) H.size) (va_cwU (x := ⟨"NeededLists$LazyList", "form", "(I)I"⟩) 1 hts (g_U gdC mwC_300 mwC_301 mwC_320 mwC_306 mwC_22 mwC_305) rfl rfl rfl rfl ⟨by decide, by decide, by decide +kernel⟩ ⟨(show 12 + 1 ≤ R.frames by omega), (show 8 + (2 + 11) + (200) ≤ R.locals by omega)⟩) (c_preV (vc := (RX10, TX10, 9)) hK hP hD hG hq e (by decide) rfl) rfl rfl hsize hst (lv_room hW) hdg hf

theorem hd_X5_reach : yX5_reach.cls = RX5 ∧ yX5_reach.cls ≠ "java/lang/invoke/MethodHandle" ∧ yX5_reach.cls ≠ "java/lang/invoke/VarHandle" ∧ (parseMethodDescriptor yX5_reach.desc).map (fun d => d.parameters.length) = some 1 := by decide +kernel
def B_X5_reach_13 (sh : Sh) (Gr Gw : (Nat → Nat → Int32) → (Nat → Nat → Int32) → (Nat → Nat → Int64) → Nat → Int32 → (Int32 → (Nat → Nat → Int32) → (Nat → Nat → Int32) → (Nat → Nat → Int64) → Prop) → Prop)  (K13 : (Nat → Nat → Int32) → (Nat → Nat → Int32) → (Nat → Nat → Int64) → Int32 → Int32 → Int32 → Prop) (Q : Int32 → (Nat → Nat → Int32) → (Nat → Nat → Int32) → (Nat → Nat → Int64) → Prop) (q : Nat) (ci : Nat → Nat → Int32) (ai : Nat → Nat → Int32) (al : Nat → Nat → Int64) (x1 : Int32) (x2 : Int32) (x3 : Int32) : Prop := ((x2 < x3) → (P_X5_there sh ci ai al q  (fun r1 => ((r1 ≤ x1) → (Q (ci q 4) ci ai al)) ∧ ((¬ r1 ≤ x1) → (Q 1 ci ai al))))) ∧ ((¬ x2 < x3) → (((¬ (ci q 4) = 0) → (P_X5_there sh ci ai al q  (fun r2 => ((r2 ≤ x1) → (Q (ci q 4) ci ai al)) ∧ ((¬ r2 ≤ x1) → (Q 1 ci ai al))))) ∧ (((ci q 4) = 0) → (((¬ x3 = 400) → (P_V_seek sh Gr Gw ci ai al q x3 (fun r3 ci3 ai3 al3 => ((r3 = 3) → (Q 3 ci3 ai3 al3)) ∧ ((¬ r3 = 3) → (∃ q4 : Nat, sR sh q 0 = some q4 ∧ (q4 ∈ sL sh ∧ sK sh q4 = 5) ∧ P_X6_spend sh ci3 ai3 al3 q4  (fun r8 ci8 ai8 al8 => ((¬ r8 = 0) → (((r3 = 1) → (K13 (va_up ci8 q (va_up (ci8 q) 3 (x3 + 1))) ai8 al8 x1 x2 (x3 + 1))) ∧ ((¬ r3 = 1) → (K13 (va_up (va_up ci8 q (va_up (ci8 q) 3 (x3 + 1))) q (va_up ((va_up ci8 q (va_up (ci8 q) 3 (x3 + 1))) q) 4 r3)) ai8 al8 x1 x2 (x3 + 1))))) ∧ ((r8 = 0) → (Q 3 ci8 ai8 al8)))))))) ∧ ((x3 = 400) → (Q 3 ci ai al))))))
def P_X5_reach_13 (sh : Sh) (Gr Gw : (Nat → Nat → Int32) → (Nat → Nat → Int32) → (Nat → Nat → Int64) → Nat → Int32 → (Int32 → (Nat → Nat → Int32) → (Nat → Nat → Int32) → (Nat → Nat → Int64) → Prop) → Prop)  (Q : Int32 → (Nat → Nat → Int32) → (Nat → Nat → Int32) → (Nat → Nat → Int64) → Prop) (q : Nat) : Nat → (Nat → Nat → Int32) → (Nat → Nat → Int32) → (Nat → Nat → Int64) → Int32 → Int32 → Int32 → Prop
  | 0 => fun _ _ _ _ _ _ => False
  | n + 1 => B_X5_reach_13 sh Gr Gw  (P_X5_reach_13 sh Gr Gw  Q q n) Q q
set_option maxHeartbeats 4000000 in
set_option maxRecDepth 100000 in
theorem b_X5_reach_13 {p : Program} {l : Launch} {e : Env} {s : State} {m : MethodId} {args : Array Value} {below : List Frame} {meth : Method} {c : Code} {A : Nat → Prop} {dC : Nat → ClassId} {dI : Nat → Nat → Nat} {sh : Sh} {q : Nat}  {K13 : (Nat → Nat → Int32) → (Nat → Nat → Int32) → (Nat → Nat → Int64) → Int32 → Int32 → Int32 → Prop} {Q : Int32 → (Nat → Nat → Int32) → (Nat → Nat → Int32) → (Nat → Nat → Int64) → Prop} (hx : p.tables.exec = Jvm.exec) (hb : c.code = cX5_reach) (hr : meth.sig.returnType = (some .int)) (hts : ∀ w ∈ WC, w.before args s = true) (hown : s.vm.findClass RX5 = some m.cls) (hlocks : meth.locks = false) (hml : c.maxLocals = 5) (hA : ∀ q : Nat, s.heap.size ≤ q → A q) (hK : cK dC dI sh s) (hG : Gc s) (hq : q ∈ sL sh) (hk : isZ (sK sh q)) {d : Nat} {Gr Gw : (Nat → Nat → Int32) → (Nat → Nat → Int32) → (Nat → Nat → Int64) → Nat → Int32 → (Int32 → (Nat → Nat → Int32) → (Nat → Nat → Int32) → (Nat → Nat → Int64) → Prop) → Prop} (hGr : GM l dC dI sh yX5_reach wmX5_reach ({ frames := 300 + 5 * d, cells := 0, slots := 0, locals := 6000 + 200 * d }) Gr) (hGw : GM l dC dI sh yX5_work wmX5_work ({ frames := 300 + 5 * d, cells := 0, slots := 0, locals := 6000 + 200 * d }) Gw)  (hK13 : ∀ (ci : Nat → Nat → Int32) (ai : Nat → Nat → Int32) (al : Nat → Nat → Int64) (x1 : Int32) (x2 : Int32) (x3 : Int32) (H : Heap) (locs : List Loc) (ls : Array Slot), K13 ci ai al x1 x2 x3 → va_P (dC, dI) vwCl (cW sh ci ai al) H → va_D A (cW sh ci ai al) → va_S A s.heap H locs → lv_has ls 5 [(0, .ref q), (1, .int x1), (2, .int x2), (3, .int x3)] → W p l e (headSpec wmX5_reach ({ frames := 300 + 5 * (d + 1), cells := 0, slots := 0, locals := 6000 + 200 * (d + 1) })).room s m args below meth c H locs 0 0 (MQ below (va_Qi (S := CSt) (cI Q) (cB dC dI sh A) A) args s 0 0 A) (F0 m 13 ls [])) : ∀ (ci : Nat → Nat → Int32) (ai : Nat → Nat → Int32) (al : Nat → Nat → Int64) (x1 : Int32) (x2 : Int32) (x3 : Int32) (H : Heap) (locs : List Loc) (ls : Array Slot), B_X5_reach_13 sh Gr Gw  K13 Q q ci ai al x1 x2 x3 → va_P (dC, dI) vwCl (cW sh ci ai al) H → va_D A (cW sh ci ai al) → va_S A s.heap H locs → lv_has ls 5 [(0, .ref q), (1, .int x1), (2, .int x2), (3, .int x3)] → W p l e (headSpec wmX5_reach ({ frames := 300 + 5 * (d + 1), cells := 0, slots := 0, locals := 6000 + 200 * (d + 1) })).room s m args below meth c H locs 0 0 (MQ below (va_Qi (S := CSt) (cI Q) (cB dC dI sh A) A) args s 0 0 A) (F0 m 13 ls []) := by
  intro ci ai al x1 x2 x3 H locs ls h hP hD hS hl
  unfold B_X5_reach_13 at h
  refine lv_iload_n hx hb dX5_reach_13 rfl (lv_at hl 3 rfl) ?_
  refine lv_iload_n hx hb dX5_reach_14 rfl (lv_at hl 2 rfl) ?_
  refine lv_icmp_gt (tgt := 84) hx hb dX5_reach_15 (by decide) (fun c_15 => ?_) (fun c_15 => ?_)
  · have h := h.1 c_15
    refine lv_iload_n hx hb dX5_reach_84 rfl (lv_at hl 1 rfl) ?_
    refine lv_aload_n hx hb dX5_reach_85 rfl (lv_at hl 0 rfl) ?_
    refine r_endi (c_runZ (rm := ({ frames := 4, cells := 0, slots := 0, locals := 60 })) (y := yX5_there) (x := ⟨"NeededLists$LazyList", "there", "()I"⟩) (n := 0) (bytes := cX5_there) (maxL := 1) (ret := (some .int)) (q := q) (As := []) (rest := [.int x1]) ⟨hx, hb, hml, hown, hts⟩ (p_X5_there l dC dI sh _ _ _ q  _ h H.size) mwC_324 mwC_20 mwC_21 mwC_22 mwC_23 mwC_24 mwC_25 mwC_26 mwC_27 mwC_28 mwC_29 mwC_30 mwC_31 mwC_32 rfl (by decide +kernel) rfl rfl ⟨(show 4 + 1 ≤ 300 + 5 * (d + 1) by omega), (show 8 + (1 + 11) + (60) ≤ 6000 + 200 * (d + 1) by omega)⟩ hK hP hD hG hq hk rfl hl.1 rfl (Nat.le_of_ble_eq_true rfl) ⟨Nat.le_of_ble_eq_true rfl, Nat.le_of_ble_eq_true rfl⟩ dX5_reach_86) hP hS hA (fun r1 H locs h hP hS => ?_)
    refine lv_icmp_ge (tgt := 96) hx hb dX5_reach_89 (by decide) (fun c_89 => ?_) (fun c_89 => ?_)
    · have h := h.1 c_89
      refine lv_aload_n hx hb dX5_reach_96 rfl (lv_at hl 0 rfl) ?_
      refine c_getZ4 hx hb hts hown hK hP hq hk (hts _ mwC_15) dX5_reach_97 ?_
      exact W.iret (v := (ci q 4)) hx hb hr (fun t ht hW => ⟨⟨_, (ci, ai, al), rfl, h, by rw [ht]; exact hP, cK.moved hW.alike hK, hD⟩, hS.F ht⟩) hS.2.2 dX5_reach_100
    · have h := h.2 c_89
      refine lv_iconst (v := 1) hx hb dX5_reach_92 (by decide) ?_
      refine lv_goto (tgt := 100) hx hb dX5_reach_93 (by decide) ?_
      exact W.iret (v := 1) hx hb hr (fun t ht hW => ⟨⟨_, (ci, ai, al), rfl, h, by rw [ht]; exact hP, cK.moved hW.alike hK, hD⟩, hS.F ht⟩) hS.2.2 dX5_reach_100
  · have h := h.2 c_15
    refine lv_aload_n hx hb dX5_reach_18 rfl (lv_at hl 0 rfl) ?_
    refine c_getZ4 hx hb hts hown hK hP hq hk (hts _ mwC_15) dX5_reach_19 ?_
    refine lv_if_ne (tgt := 84) hx hb dX5_reach_22 (by decide) (fun c_22 => ?_) (fun c_22 => ?_)
    · have h := h.1 c_22
      refine lv_iload_n hx hb dX5_reach_84 rfl (lv_at hl 1 rfl) ?_
      refine lv_aload_n hx hb dX5_reach_85 rfl (lv_at hl 0 rfl) ?_
      refine r_endi (c_runZ (rm := ({ frames := 4, cells := 0, slots := 0, locals := 60 })) (y := yX5_there) (x := ⟨"NeededLists$LazyList", "there", "()I"⟩) (n := 0) (bytes := cX5_there) (maxL := 1) (ret := (some .int)) (q := q) (As := []) (rest := [.int x1]) ⟨hx, hb, hml, hown, hts⟩ (p_X5_there l dC dI sh _ _ _ q  _ h H.size) mwC_324 mwC_20 mwC_21 mwC_22 mwC_23 mwC_24 mwC_25 mwC_26 mwC_27 mwC_28 mwC_29 mwC_30 mwC_31 mwC_32 rfl (by decide +kernel) rfl rfl ⟨(show 4 + 1 ≤ 300 + 5 * (d + 1) by omega), (show 8 + (1 + 11) + (60) ≤ 6000 + 200 * (d + 1) by omega)⟩ hK hP hD hG hq hk rfl hl.1 rfl (Nat.le_of_ble_eq_true rfl) ⟨Nat.le_of_ble_eq_true rfl, Nat.le_of_ble_eq_true rfl⟩ dX5_reach_86) hP hS hA (fun r2 H locs h hP hS => ?_)
      refine lv_icmp_ge (tgt := 96) hx hb dX5_reach_89 (by decide) (fun c_89 => ?_) (fun c_89 => ?_)
      · have h := h.1 c_89
        refine lv_aload_n hx hb dX5_reach_96 rfl (lv_at hl 0 rfl) ?_
        refine c_getZ4 hx hb hts hown hK hP hq hk (hts _ mwC_15) dX5_reach_97 ?_
        exact W.iret (v := (ci q 4)) hx hb hr (fun t ht hW => ⟨⟨_, (ci, ai, al), rfl, h, by rw [ht]; exact hP, cK.moved hW.alike hK, hD⟩, hS.F ht⟩) hS.2.2 dX5_reach_100
      · have h := h.2 c_89
        refine lv_iconst (v := 1) hx hb dX5_reach_92 (by decide) ?_
        refine lv_goto (tgt := 100) hx hb dX5_reach_93 (by decide) ?_
        exact W.iret (v := 1) hx hb hr (fun t ht hW => ⟨⟨_, (ci, ai, al), rfl, h, by rw [ht]; exact hP, cK.moved hW.alike hK, hD⟩, hS.F ht⟩) hS.2.2 dX5_reach_100
    · have h := h.2 c_22
      refine lv_iload_n hx hb dX5_reach_25 rfl (lv_at hl 3 rfl) ?_
      refine lv_sipush (v := 400) hx hb dX5_reach_26 (by decide) ?_
      refine lv_icmp_ne (tgt := 34) hx hb dX5_reach_29 (by decide) (fun c_29 => ?_) (fun c_29 => ?_)
      · have h := h.1 c_29
        refine lv_aload_n hx hb dX5_reach_34 rfl (lv_at hl 0 rfl) ?_
        refine lv_iload_n hx hb dX5_reach_35 rfl (lv_at hl 3 rfl) ?_
        refine c_endi (v_seek (k9 := x3) (q := q) (rest := []) hGr hGw h ⟨hx, hb, hml, hown, hts⟩ hK hP hD hG hq hk ⟨(show 303 + 5 * d + 1 ≤ 300 + 5 * (d + 1) by omega), (show 8 + (10 + 11) + (6120 + 200 * d) ≤ 6000 + 200 * (d + 1) by omega)⟩ hl.1 rfl (Nat.le_of_ble_eq_true rfl) ⟨Nat.le_of_ble_eq_true rfl, Nat.le_of_ble_eq_true rfl⟩ dX5_reach_36) hD hS hA (fun r3 ci3 ai3 al3 H locs h hP hD hS => ?_)
        refine lv_istore (lv' := [(4, .int r3), (0, .ref q), (1, .int x1), (2, .int x2), (3, .int x3)]) hx hb dX5_reach_39 hl (by decide) rfl (fun ls hl => ?_)
        refine lv_iload hx hb dX5_reach_41 (lv_at hl 0 rfl) ?_
        refine lv_iconst (v := 3) hx hb dX5_reach_43 (by decide) ?_
        refine lv_icmp_eq (tgt := 57) hx hb dX5_reach_44 (by decide) (fun c_44 => ?_) (fun c_44 => ?_)
        · have h := h.1 c_44
          refine lv_iconst (v := 3) hx hb dX5_reach_57 (by decide) ?_
          exact W.iret (v := 3) hx hb hr (fun t ht hW => ⟨⟨_, (ci3, ai3, al3), rfl, h, by rw [ht]; exact hP, cK.moved hW.alike hK, hD⟩, hS.F ht⟩) hS.2.2 dX5_reach_58
        · have h := h.2 c_44
          refine lv_aload_n hx hb dX5_reach_47 rfl (lv_at hl 1 rfl) ?_
          obtain ⟨q4, e5, h⟩ := h
          refine c_getZ0 hx hb hts hown hK hP hq hk e5 (hts _ mwC_325) dX5_reach_48 ?_
          obtain ⟨⟨hm6, hk7⟩, h⟩ := h
          refine c_endi (va_runV (rm := ({ frames := 4, cells := 0, slots := 0, locals := 60 })) (As := []) (rest := []) ⟨hx, hb, hml, hown, hts⟩ (p_X6_spend l dC dI sh _ _ _ q4  _ h H.size) (cwV 0 hts (g_V gdC mwC_326 mwC_327 mwC_328 mwC_329 mwC_330) rfl rfl rfl hd_X6_spend ⟨(show 4 + 1 ≤ 300 + 5 * (d + 1) by omega), (show 8 + (1 + 11) + (60) ≤ 6000 + 200 * (d + 1) by omega)⟩) (c_preV (vc := (RX6, TX6, 2)) hK hP hD hG hm6 hk7 (by decide) rfl) rfl rfl hl.1 rfl (lv_room (Nat.le_of_ble_eq_true rfl)) dX5_reach_51 ⟨Nat.le_of_ble_eq_true rfl, Nat.le_of_ble_eq_true rfl⟩) hD hS hA (fun r8 ci8 ai8 al8 H locs h hP hD hS => ?_)
          refine lv_if_ne (tgt := 59) hx hb dX5_reach_54 (by decide) (fun c_54 => ?_) (fun c_54 => ?_)
          · have h := h.1 c_54
            refine lv_aload_n hx hb dX5_reach_59 rfl (lv_at hl 1 rfl) ?_
            refine lv_iload_n hx hb dX5_reach_60 rfl (lv_at hl 4 rfl) ?_
            refine lv_iconst (v := 1) hx hb dX5_reach_61 (by decide) ?_
            refine lv_iadd hx hb dX5_reach_62 ?_
            refine c_putZ3 hx hb hts hown hK hP hD hS hq hk (hts _ mwC_16) dX5_reach_63 (fun H locs hP hD hS => ?_)
            refine lv_iload hx hb dX5_reach_66 (lv_at hl 0 rfl) ?_
            refine lv_iconst (v := 1) hx hb dX5_reach_68 (by decide) ?_
            refine lv_icmp_eq (tgt := 78) hx hb dX5_reach_69 (by decide) (fun c_69 => ?_) (fun c_69 => ?_)
            · have h := h.1 c_69
              refine lv_iinc (v := x3 + 1) (lv' := [(3, .int (x3 + 1)), (4, .int r3), (0, .ref q), (1, .int x1), (2, .int x2)]) hx hb dX5_reach_78 hl (k := 4) rfl (iinc_1 _) (by decide) rfl (fun ls hl => ?_)
              refine lv_goto (tgt := 13) hx hb dX5_reach_81 (by decide) ?_
              exact hK13 _ _ _ _ _ _ H _ ls h hP hD hS (lv_sub hl [2, 3, 4, 0] rfl)
            · have h := h.2 c_69
              refine lv_aload_n hx hb dX5_reach_72 rfl (lv_at hl 1 rfl) ?_
              refine lv_iload hx hb dX5_reach_73 (lv_at hl 0 rfl) ?_
              refine c_putZ4 hx hb hts hown hK hP hD hS hq hk (hts _ mwC_15) dX5_reach_75 (fun H locs hP hD hS => ?_)
              refine lv_iinc (v := x3 + 1) (lv' := [(3, .int (x3 + 1)), (4, .int r3), (0, .ref q), (1, .int x1), (2, .int x2)]) hx hb dX5_reach_78 hl (k := 4) rfl (iinc_1 _) (by decide) rfl (fun ls hl => ?_)
              refine lv_goto (tgt := 13) hx hb dX5_reach_81 (by decide) ?_
              exact hK13 _ _ _ _ _ _ H _ ls h hP hD hS (lv_sub hl [2, 3, 4, 0] rfl)
          · have h := h.2 c_54
            refine lv_iconst (v := 3) hx hb dX5_reach_57 (by decide) ?_
            exact W.iret (v := 3) hx hb hr (fun t ht hW => ⟨⟨_, (ci8, ai8, al8), rfl, h, by rw [ht]; exact hP, cK.moved hW.alike hK, hD⟩, hS.F ht⟩) hS.2.2 dX5_reach_58
      · have h := h.2 c_29
        refine lv_iconst (v := 3) hx hb dX5_reach_32 (by decide) ?_
        exact W.iret (v := 3) hx hb hr (fun t ht hW => ⟨⟨_, (ci, ai, al), rfl, h, by rw [ht]; exact hP, cK.moved hW.alike hK, hD⟩, hS.F ht⟩) hS.2.2 dX5_reach_33
set_option maxHeartbeats 4000000 in
set_option maxRecDepth 100000 in
theorem t_X5_reach_13 {p : Program} {l : Launch} {e : Env} {s : State} {m : MethodId} {args : Array Value} {below : List Frame} {meth : Method} {c : Code} {A : Nat → Prop} {dC : Nat → ClassId} {dI : Nat → Nat → Nat} {sh : Sh} {q : Nat}  {Q : Int32 → (Nat → Nat → Int32) → (Nat → Nat → Int32) → (Nat → Nat → Int64) → Prop} (hx : p.tables.exec = Jvm.exec) (hb : c.code = cX5_reach) (hr : meth.sig.returnType = (some .int)) (hts : ∀ w ∈ WC, w.before args s = true) (hown : s.vm.findClass RX5 = some m.cls) (hlocks : meth.locks = false) (hml : c.maxLocals = 5) (hA : ∀ q : Nat, s.heap.size ≤ q → A q) (hK : cK dC dI sh s) (hG : Gc s) (hq : q ∈ sL sh) (hk : isZ (sK sh q)) {d : Nat} {Gr Gw : (Nat → Nat → Int32) → (Nat → Nat → Int32) → (Nat → Nat → Int64) → Nat → Int32 → (Int32 → (Nat → Nat → Int32) → (Nat → Nat → Int32) → (Nat → Nat → Int64) → Prop) → Prop} (hGr : GM l dC dI sh yX5_reach wmX5_reach ({ frames := 300 + 5 * d, cells := 0, slots := 0, locals := 6000 + 200 * d }) Gr) (hGw : GM l dC dI sh yX5_work wmX5_work ({ frames := 300 + 5 * d, cells := 0, slots := 0, locals := 6000 + 200 * d }) Gw)  : ∀ n : Nat, ∀ (ci : Nat → Nat → Int32) (ai : Nat → Nat → Int32) (al : Nat → Nat → Int64) (x1 : Int32) (x2 : Int32) (x3 : Int32) (H : Heap) (locs : List Loc) (ls : Array Slot), P_X5_reach_13 sh Gr Gw  Q q n ci ai al x1 x2 x3 → va_P (dC, dI) vwCl (cW sh ci ai al) H → va_D A (cW sh ci ai al) → va_S A s.heap H locs → lv_has ls 5 [(0, .ref q), (1, .int x1), (2, .int x2), (3, .int x3)] → W p l e (headSpec wmX5_reach ({ frames := 300 + 5 * (d + 1), cells := 0, slots := 0, locals := 6000 + 200 * (d + 1) })).room s m args below meth c H locs 0 0 (MQ below (va_Qi (S := CSt) (cI Q) (cB dC dI sh A) A) args s 0 0 A) (F0 m 13 ls []) := by
  intro n
  induction n with
  | zero => intro ci ai al x1 x2 x3 H locs ls h; exact h.elim
  | succ n ih => exact b_X5_reach_13 hx hb hr hts hown hlocks hml hA hK hG hq hk hGr hGw  ih
def P_X5_reach (sh : Sh) (Gr Gw : (Nat → Nat → Int32) → (Nat → Nat → Int32) → (Nat → Nat → Int64) → Nat → Int32 → (Int32 → (Nat → Nat → Int32) → (Nat → Nat → Int32) → (Nat → Nat → Int64) → Prop) → Prop) (ci : Nat → Nat → Int32) (ai : Nat → Nat → Int32) (al : Nat → Nat → Int64) (q : Nat) (p0 : Int32) (Q : Int32 → (Nat → Nat → Int32) → (Nat → Nat → Int32) → (Nat → Nat → Int64) → Prop) : Prop := (q ∈ sL sh ∧ isZ (sK sh q)) ∧ P_J9_min_7cf53 p0 400 (fun r1 => ∃ n9 : Nat, P_X5_reach_13 sh Gr Gw  Q q n9 ci ai al p0 r1 (ci q 3))
set_option maxHeartbeats 4000000 in
set_option maxRecDepth 100000 in
theorem p_X5_reach (l : Launch) (dC : Nat → ClassId) (dI : Nat → Nat → Nat) (sh : Sh) (d : Nat) {Gr Gw : (Nat → Nat → Int32) → (Nat → Nat → Int32) → (Nat → Nat → Int64) → Nat → Int32 → (Int32 → (Nat → Nat → Int32) → (Nat → Nat → Int32) → (Nat → Nat → Int64) → Prop) → Prop} (hGr : GM l dC dI sh yX5_reach wmX5_reach ({ frames := 300 + 5 * d, cells := 0, slots := 0, locals := 6000 + 200 * d }) Gr) (hGw : GM l dC dI sh yX5_work wmX5_work ({ frames := 300 + 5 * d, cells := 0, slots := 0, locals := 6000 + 200 * d }) Gw) (ci : Nat → Nat → Int32) (ai : Nat → Nat → Int32) (al : Nat → Nat → Int64) (q : Nat) (p0 : Int32) (Q : Int32 → (Nat → Nat → Int32) → (Nat → Nat → Int32) → (Nat → Nat → Int64) → Prop) (h : P_X5_reach sh Gr Gw ci ai al q p0 Q) (sz : Nat) : Met l yX5_reach wmX5_reach ({ frames := 300 + 5 * (d + 1), cells := 0, slots := 0, locals := 6000 + 200 * (d + 1) }) (va_Pc [.ref q, .int p0] (cPre dC dI sh ci ai al sz)) (va_Qi (S := CSt) (cI Q) (cB dC dI sh (va_A (cW sh ci ai al) sz)) (va_A (cW sh ci ai al) sz)) 0 0 (va_A (cW sh ci ai al) sz) := by
  refine Met.ofW (cc := cX5_reach) (maxL := 5) (ret := (some .int)) (by decide) rfl ?_
  intro p e s m args below meth c s₁ B hml hv
  obtain ⟨rfl, hsz, hP, hK, hD0, hG⟩ := hv
  have hx := B.exec
  have hb := B.bytes
  have hr := B.returns
  have hts : ∀ w ∈ WC, w.before _ s = true := fun w h => atoms_spec (ws := wmX5_reach) B.pre w (List.mem_cons_of_mem _ h)
  have hown : s.vm.findClass RX5 = some m.cls := findClass_of_methodNamed B.named
  have hlocks := B.notSynchronized
  subst hsz
  have hD := hD0.self (sz := s.heap.size)
  generalize hAe : va_A (cW sh ci ai al) s.heap.size = A at hD ⊢
  have hA : ∀ q : Nat, s.heap.size ≤ q → A q := fun q h => by rw [← hAe]; exact Or.inr h
  generalize hH : s.heap = H at hP ⊢
  have hS : va_S A s.heap H [] := by rw [← hH]; exact va_S.rf
  have hl := lv_entry [.ref q, .int p0] (n := 5) (Nat.le_of_ble_eq_true rfl)
  rw [lg_entry_eq]
  generalize (lg_sl [.ref q, .int p0] ++ List.replicate (5 - (lg_sl [.ref q, .int p0]).length) Slot.unset).toArray = ls at hl ⊢
  have hl : lv_has ls 5 [(0, .ref q), (1, .int p0)] := hl
  unfold P_X5_reach at h
  obtain ⟨⟨hq, hk⟩, h⟩ := h
  refine lv_iload_n hx hb dX5_reach_0 rfl (lv_at hl 1 rfl) ?_
  refine lv_sipush (v := 400) hx hb dX5_reach_1 (by decide) ?_
  refine r_endi (va_runS (rm := ({ frames := 4, cells := 0, slots := 0, locals := 60 })) (As := [.int p0, .int 400]) (rest := []) ⟨hx, hb, hml, hown, hts⟩ (p_J9_min_7cf53 l dC dI p0 400 _ h H.size) (va_cwS 2 hts (g_S gdC mwC_322 mwC_323 mwC_3 mwC_321) rfl rfl rfl hd_J9_min_7cf53 ⟨(show 4 + 1 ≤ 300 + 5 * (d + 1) by omega), (show 8 + (2 + 11) + (60) ≤ 6000 + 200 * (d + 1) by omega)⟩) ⟨s_blind, fun U hU hW => ⟨rfl, congrArg Array.size hU⟩⟩ rfl rfl hl.1 rfl (lv_room (Nat.le_of_ble_eq_true rfl)) dX5_reach_4 ⟨Nat.le_of_ble_eq_true rfl, Nat.le_of_ble_eq_true rfl⟩) hP hS hA (fun r1 H locs h hP hS => ?_)
  refine lv_istore_n (lv' := [(2, .int r1), (0, .ref q), (1, .int p0)]) hx hb dX5_reach_7 rfl hl (by decide) rfl (fun ls hl => ?_)
  refine lv_aload_n hx hb dX5_reach_8 rfl (lv_at hl 1 rfl) ?_
  refine c_getZ3 hx hb hts hown hK hP hq hk (hts _ mwC_16) dX5_reach_9 ?_
  refine lv_istore_n (lv' := [(3, .int (ci q 3)), (2, .int r1), (0, .ref q), (1, .int p0)]) hx hb dX5_reach_12 rfl hl (by decide) rfl (fun ls hl => ?_)
  obtain ⟨n9, h⟩ := h
  exact t_X5_reach_13 hx hb hr hts hown hlocks hml hA hK hG hq hk hGr hGw  n9 _ _ _ _ _ _ H _ ls h hP hD hS (lv_sub hl [2, 3, 1, 0] rfl)

theorem hd_X5_work : yX5_work.cls = RX5 ∧ yX5_work.cls ≠ "java/lang/invoke/MethodHandle" ∧ yX5_work.cls ≠ "java/lang/invoke/VarHandle" ∧ (parseMethodDescriptor yX5_work.desc).map (fun d => d.parameters.length) = some 1 := by decide +kernel
def P_X5_work (sh : Sh) (Gr Gw : (Nat → Nat → Int32) → (Nat → Nat → Int32) → (Nat → Nat → Int64) → Nat → Int32 → (Int32 → (Nat → Nat → Int32) → (Nat → Nat → Int32) → (Nat → Nat → Int64) → Prop) → Prop) (ci : Nat → Nat → Int32) (ai : Nat → Nat → Int32) (al : Nat → Nat → Int64) (q : Nat) (p0 : Int32) (Q : Int32 → (Nat → Nat → Int32) → (Nat → Nat → Int32) → (Nat → Nat → Int64) → Prop) : Prop := (q ∈ sL sh ∧ isZ (sK sh q)) ∧ P_V_source sh ci ai al q p0 (fun r1 => ((some r1 = some q) → (((p0 < 0) → (Q 3 ci ai al)) ∧ ((¬ p0 < 0) → (∃ q2 : Nat, sR sh q 2 = some q2 ∧ (q2 ∈ sL sh ∧ sK sh q2 = 21) ∧ ((p0 < (nI (sN sh q2))) → (vp_in p0 (sN sh q2) ∧ ((¬ (ai q2 p0.toNatClampNeg) = 0) → (vp_in p0 (sN sh q2) ∧ Q (ai q2 p0.toNatClampNeg) ci ai al)) ∧ (((ai q2 p0.toNatClampNeg) = 0) → (P_V_form sh Gr Gw ci ai al q p0 (fun r8 ci8 ai8 al8 => ((r8 = 3) → (Q 3 ci8 ai8 al8)) ∧ ((¬ r8 = 3) → (∃ q9 : Nat, sR sh q 0 = some q9 ∧ (q9 ∈ sL sh ∧ sK sh q9 = 5) ∧ P_X6_spend sh ci8 ai8 al8 q9  (fun r13 ci13 ai13 al13 => ((¬ r13 = 0) → (vp_in p0 (sN sh q2) ∧ vp_in p0 (sN sh q2) ∧ Q ((va_up ai13 q2 (upd (ai13 q2) p0.toNatClampNeg (vp_nar .byte r8.toInt8.toInt32))) q2 p0.toNatClampNeg) ci13 (va_up ai13 q2 (upd (ai13 q2) p0.toNatClampNeg (vp_nar .byte r8.toInt8.toInt32))) al13)) ∧ ((r13 = 0) → (Q 3 ci13 ai13 al13)))))))))) ∧ ((¬ p0 < (nI (sN sh q2))) → (Q 3 ci ai al)))))) ∧ ((¬ some r1 = some q) → (P_V_place sh ci ai al q p0 (fun r16 => (r1 ∈ sL sh ∧ isZ (sK sh r1)) ∧ Gw ci ai al r1 r16 (fun r19 ci19 ai19 al19 => Q r19 ci19 ai19 al19)))))
set_option maxHeartbeats 4000000 in
set_option maxRecDepth 100000 in
theorem p_X5_work (l : Launch) (dC : Nat → ClassId) (dI : Nat → Nat → Nat) (sh : Sh) (d : Nat) {Gr Gw : (Nat → Nat → Int32) → (Nat → Nat → Int32) → (Nat → Nat → Int64) → Nat → Int32 → (Int32 → (Nat → Nat → Int32) → (Nat → Nat → Int32) → (Nat → Nat → Int64) → Prop) → Prop} (hGr : GM l dC dI sh yX5_reach wmX5_reach ({ frames := 300 + 5 * d, cells := 0, slots := 0, locals := 6000 + 200 * d }) Gr) (hGw : GM l dC dI sh yX5_work wmX5_work ({ frames := 300 + 5 * d, cells := 0, slots := 0, locals := 6000 + 200 * d }) Gw) (ci : Nat → Nat → Int32) (ai : Nat → Nat → Int32) (al : Nat → Nat → Int64) (q : Nat) (p0 : Int32) (Q : Int32 → (Nat → Nat → Int32) → (Nat → Nat → Int32) → (Nat → Nat → Int64) → Prop) (h : P_X5_work sh Gr Gw ci ai al q p0 Q) (sz : Nat) : Met l yX5_work wmX5_work ({ frames := 300 + 5 * (d + 1), cells := 0, slots := 0, locals := 6000 + 200 * (d + 1) }) (va_Pc [.ref q, .int p0] (cPre dC dI sh ci ai al sz)) (va_Qi (S := CSt) (cI Q) (cB dC dI sh (va_A (cW sh ci ai al) sz)) (va_A (cW sh ci ai al) sz)) 0 0 (va_A (cW sh ci ai al) sz) := by
  refine Met.ofW (cc := cX5_work) (maxL := 4) (ret := (some .int)) (by decide) rfl ?_
  intro p e s m args below meth c s₁ B hml hv
  obtain ⟨rfl, hsz, hP, hK, hD0, hG⟩ := hv
  have hx := B.exec
  have hb := B.bytes
  have hr := B.returns
  have hts : ∀ w ∈ WC, w.before _ s = true := fun w h => atoms_spec (ws := wmX5_work) B.pre w (List.mem_cons_of_mem _ h)
  have hown : s.vm.findClass RX5 = some m.cls := findClass_of_methodNamed B.named
  have hlocks := B.notSynchronized
  subst hsz
  have hD := hD0.self (sz := s.heap.size)
  generalize hAe : va_A (cW sh ci ai al) s.heap.size = A at hD ⊢
  have hA : ∀ q : Nat, s.heap.size ≤ q → A q := fun q h => by rw [← hAe]; exact Or.inr h
  generalize hH : s.heap = H at hP ⊢
  have hS : va_S A s.heap H [] := by rw [← hH]; exact va_S.rf
  have hl := lv_entry [.ref q, .int p0] (n := 4) (Nat.le_of_ble_eq_true rfl)
  rw [lg_entry_eq]
  generalize (lg_sl [.ref q, .int p0] ++ List.replicate (4 - (lg_sl [.ref q, .int p0]).length) Slot.unset).toArray = ls at hl ⊢
  have hl : lv_has ls 4 [(0, .ref q), (1, .int p0)] := hl
  unfold P_X5_work at h
  obtain ⟨⟨hq, hk⟩, h⟩ := h
  refine lv_aload_n hx hb dX5_work_0 rfl (lv_at hl 0 rfl) ?_
  refine lv_iload_n hx hb dX5_work_1 rfl (lv_at hl 1 rfl) ?_
  refine r_endr (v_source (k9 := p0) (q := q) (rest := []) h ⟨hx, hb, hml, hown, hts⟩ hK hP hD hG hq hk ⟨(show 12 + 1 ≤ 300 + 5 * (d + 1) by omega), (show 8 + (10 + 11) + (200) ≤ 6000 + 200 * (d + 1) by omega)⟩ hl.1 rfl (Nat.le_of_ble_eq_true rfl) ⟨Nat.le_of_ble_eq_true rfl, Nat.le_of_ble_eq_true rfl⟩ dX5_work_2) hP hS hA (fun r1 H locs h hP hS => ?_)
  refine lv_astore_n (lv' := [(2, .ref r1), (0, .ref q), (1, .int p0)]) hx hb dX5_work_5 rfl hl (by decide) rfl (fun ls hl => ?_)
  refine lv_aload_n hx hb dX5_work_6 rfl (lv_at hl 0 rfl) ?_
  refine lv_aload_n hx hb dX5_work_7 rfl (lv_at hl 1 rfl) ?_
  refine lv_acmp_eq (rx := some r1) (ry := some q) (tgt := 21) hx hb dX5_work_8 (by decide) (fun c_8 => ?_) (fun c_8 => ?_)
  · have h := h.1 c_8
    refine lv_iload_n hx hb dX5_work_21 rfl (lv_at hl 2 rfl) ?_
    refine lv_if_lt (tgt := 34) hx hb dX5_work_22 (by decide) (fun c_22 => ?_) (fun c_22 => ?_)
    · have h := h.1 c_22
      refine lv_iconst (v := 3) hx hb dX5_work_34 (by decide) ?_
      exact W.iret (v := 3) hx hb hr (fun t ht hW => ⟨⟨_, (ci, ai, al), rfl, h, by rw [ht]; exact hP, cK.moved hW.alike hK, hD⟩, hS.F ht⟩) hS.2.2 dX5_work_35
    · have h := h.2 c_22
      refine lv_iload_n hx hb dX5_work_25 rfl (lv_at hl 2 rfl) ?_
      refine lv_aload_n hx hb dX5_work_26 rfl (lv_at hl 1 rfl) ?_
      obtain ⟨q2, e3, h⟩ := h
      refine c_getZ2 hx hb hts hown hK hP hq hk e3 (hts _ mwC_104) dX5_work_27 ?_
      obtain ⟨⟨hm4, hk5⟩, h⟩ := h
      refine c_alen hx hb hK hP hm4 (Or.inr (Or.inl hk5)) dX5_work_30 ?_
      refine lv_icmp_lt (tgt := 36) hx hb dX5_work_31 (by decide) (fun c_31 => ?_) (fun c_31 => ?_)
      · have h := h.1 c_31
        refine lv_aload_n hx hb dX5_work_36 rfl (lv_at hl 1 rfl) ?_
        refine c_getZ2 hx hb hts hown hK hP hq hk e3 (hts _ mwC_104) dX5_work_37 ?_
        refine lv_iload_n hx hb dX5_work_40 rfl (lv_at hl 2 rfl) ?_
        obtain ⟨hi6, h⟩ := h
        refine c_bald hx hb hK hP hm4 hk5 hi6 dX5_work_41 ?_
        refine lv_if_ne (tgt := 76) hx hb dX5_work_42 (by decide) (fun c_42 => ?_) (fun c_42 => ?_)
        · have h := h.1 c_42
          refine lv_aload_n hx hb dX5_work_76 rfl (lv_at hl 1 rfl) ?_
          refine c_getZ2 hx hb hts hown hK hP hq hk e3 (hts _ mwC_104) dX5_work_77 ?_
          refine lv_iload_n hx hb dX5_work_80 rfl (lv_at hl 2 rfl) ?_
          obtain ⟨hi7, h⟩ := h
          refine c_bald hx hb hK hP hm4 hk5 hi7 dX5_work_81 ?_
          exact W.iret (v := (ai q2 p0.toNatClampNeg)) hx hb hr (fun t ht hW => ⟨⟨_, (ci, ai, al), rfl, h, by rw [ht]; exact hP, cK.moved hW.alike hK, hD⟩, hS.F ht⟩) hS.2.2 dX5_work_82
        · have h := h.2 c_42
          refine lv_aload_n hx hb dX5_work_45 rfl (lv_at hl 1 rfl) ?_
          refine lv_iload_n hx hb dX5_work_46 rfl (lv_at hl 2 rfl) ?_
          refine c_endi (v_form (k9 := p0) (q := q) (rest := []) hGr hGw h ⟨hx, hb, hml, hown, hts⟩ hK hP hD hG hq hk ⟨(show 303 + 5 * d + 1 ≤ 300 + 5 * (d + 1) by omega), (show 8 + (10 + 11) + (6120 + 200 * d) ≤ 6000 + 200 * (d + 1) by omega)⟩ hl.1 rfl (Nat.le_of_ble_eq_true rfl) ⟨Nat.le_of_ble_eq_true rfl, Nat.le_of_ble_eq_true rfl⟩ dX5_work_47) hD hS hA (fun r8 ci8 ai8 al8 H locs h hP hD hS => ?_)
          refine lv_istore_n (lv' := [(3, .int r8), (2, .ref r1), (0, .ref q), (1, .int p0)]) hx hb dX5_work_50 rfl hl (by decide) rfl (fun ls hl => ?_)
          refine lv_iload_n hx hb dX5_work_51 rfl (lv_at hl 0 rfl) ?_
          refine lv_iconst (v := 3) hx hb dX5_work_52 (by decide) ?_
          refine lv_icmp_eq (tgt := 66) hx hb dX5_work_53 (by decide) (fun c_53 => ?_) (fun c_53 => ?_)
          · have h := h.1 c_53
            refine lv_iconst (v := 3) hx hb dX5_work_66 (by decide) ?_
            exact W.iret (v := 3) hx hb hr (fun t ht hW => ⟨⟨_, (ci8, ai8, al8), rfl, h, by rw [ht]; exact hP, cK.moved hW.alike hK, hD⟩, hS.F ht⟩) hS.2.2 dX5_work_67
          · have h := h.2 c_53
            refine lv_aload_n hx hb dX5_work_56 rfl (lv_at hl 2 rfl) ?_
            obtain ⟨q9, e10, h⟩ := h
            refine c_getZ0 hx hb hts hown hK hP hq hk e10 (hts _ mwC_325) dX5_work_57 ?_
            obtain ⟨⟨hm11, hk12⟩, h⟩ := h
            refine c_endi (va_runV (rm := ({ frames := 4, cells := 0, slots := 0, locals := 60 })) (As := []) (rest := []) ⟨hx, hb, hml, hown, hts⟩ (p_X6_spend l dC dI sh _ _ _ q9  _ h H.size) (cwV 0 hts (g_V gdC mwC_326 mwC_327 mwC_328 mwC_329 mwC_330) rfl rfl rfl hd_X6_spend ⟨(show 4 + 1 ≤ 300 + 5 * (d + 1) by omega), (show 8 + (1 + 11) + (60) ≤ 6000 + 200 * (d + 1) by omega)⟩) (c_preV (vc := (RX6, TX6, 2)) hK hP hD hG hm11 hk12 (by decide) rfl) rfl rfl hl.1 rfl (lv_room (Nat.le_of_ble_eq_true rfl)) dX5_work_60 ⟨Nat.le_of_ble_eq_true rfl, Nat.le_of_ble_eq_true rfl⟩) hD hS hA (fun r13 ci13 ai13 al13 H locs h hP hD hS => ?_)
            refine lv_if_ne (tgt := 68) hx hb dX5_work_63 (by decide) (fun c_63 => ?_) (fun c_63 => ?_)
            · have h := h.1 c_63
              refine lv_aload_n hx hb dX5_work_68 rfl (lv_at hl 2 rfl) ?_
              refine c_getZ2 hx hb hts hown hK hP hq hk e3 (hts _ mwC_104) dX5_work_69 ?_
              refine lv_iload_n hx hb dX5_work_72 rfl (lv_at hl 3 rfl) ?_
              refine lv_iload_n hx hb dX5_work_73 rfl (lv_at hl 0 rfl) ?_
              refine lv_i2b hx hb dX5_work_74 rfl ?_
              obtain ⟨hi14, h⟩ := h
              refine c_bast hx hb hK hP hD hS hm4 hk5 hi14 dX5_work_75 (fun H locs hP hD hS => ?_)
              refine lv_aload_n hx hb dX5_work_76 rfl (lv_at hl 2 rfl) ?_
              refine c_getZ2 hx hb hts hown hK hP hq hk e3 (hts _ mwC_104) dX5_work_77 ?_
              refine lv_iload_n hx hb dX5_work_80 rfl (lv_at hl 3 rfl) ?_
              obtain ⟨hi15, h⟩ := h
              refine c_bald hx hb hK hP hm4 hk5 hi15 dX5_work_81 ?_
              exact W.iret (v := ((va_up ai13 q2 (upd (ai13 q2) p0.toNatClampNeg (vp_nar .byte r8.toInt8.toInt32))) q2 p0.toNatClampNeg)) hx hb hr (fun t ht hW => ⟨⟨_, (ci13, va_up ai13 q2 (upd (ai13 q2) p0.toNatClampNeg (vp_nar .byte r8.toInt8.toInt32)), al13), rfl, h, by rw [ht]; exact hP, cK.moved hW.alike hK, hD⟩, hS.F ht⟩) hS.2.2 dX5_work_82
            · have h := h.2 c_63
              refine lv_iconst (v := 3) hx hb dX5_work_66 (by decide) ?_
              exact W.iret (v := 3) hx hb hr (fun t ht hW => ⟨⟨_, (ci13, ai13, al13), rfl, h, by rw [ht]; exact hP, cK.moved hW.alike hK, hD⟩, hS.F ht⟩) hS.2.2 dX5_work_67
      · have h := h.2 c_31
        refine lv_iconst (v := 3) hx hb dX5_work_34 (by decide) ?_
        exact W.iret (v := 3) hx hb hr (fun t ht hW => ⟨⟨_, (ci, ai, al), rfl, h, by rw [ht]; exact hP, cK.moved hW.alike hK, hD⟩, hS.F ht⟩) hS.2.2 dX5_work_35
  · have h := h.2 c_8
    refine lv_aload_n hx hb dX5_work_11 rfl (lv_at hl 0 rfl) ?_
    refine lv_aload_n hx hb dX5_work_12 rfl (lv_at hl 1 rfl) ?_
    refine lv_iload_n hx hb dX5_work_13 rfl (lv_at hl 2 rfl) ?_
    refine r_endi (v_place (k9 := p0) (q := q) (rest := [.ref r1]) h ⟨hx, hb, hml, hown, hts⟩ hK hP hD hG hq hk ⟨(show 12 + 1 ≤ 300 + 5 * (d + 1) by omega), (show 8 + (10 + 11) + (200) ≤ 6000 + 200 * (d + 1) by omega)⟩ hl.1 rfl (Nat.le_of_ble_eq_true rfl) ⟨Nat.le_of_ble_eq_true rfl, Nat.le_of_ble_eq_true rfl⟩ dX5_work_14) hP hS hA (fun r16 H locs h hP hS => ?_)
    obtain ⟨⟨hm17, hk18⟩, h⟩ := h
    refine c_endi (c_runZ (rm := ({ frames := 300 + 5 * d, cells := 0, slots := 0, locals := 6000 + 200 * d })) (y := yX5_work) (x := ⟨"NeededLists$LazyList", "work", "(I)I"⟩) (n := 1) (bytes := cX5_work) (maxL := 4) (ret := (some .int)) (q := r1) (As := [.int r16]) (rest := []) ⟨hx, hb, hml, hown, hts⟩ (hGw _ _ _ r1 r16 _ h H.size) mwC_331 mwC_159 mwC_160 mwC_22 mwC_161 mwC_162 mwC_163 mwC_164 mwC_165 mwC_166 mwC_167 mwC_168 mwC_169 mwC_170 rfl (by decide +kernel) rfl rfl ⟨(show 300 + 5 * d + 1 ≤ 300 + 5 * (d + 1) by omega), (show 8 + (4 + 11) + (6000 + 200 * d) ≤ 6000 + 200 * (d + 1) by omega)⟩ hK hP hD hG hm17 hk18 rfl hl.1 rfl (Nat.le_of_ble_eq_true rfl) ⟨Nat.le_of_ble_eq_true rfl, Nat.le_of_ble_eq_true rfl⟩ dX5_work_17) hD hS hA (fun r19 ci19 ai19 al19 H locs h hP hD hS => ?_)
    exact W.iret (v := r19) hx hb hr (fun t ht hW => ⟨⟨_, (ci19, ai19, al19), rfl, h, by rw [ht]; exact hP, cK.moved hW.alike hK, hD⟩, hS.F ht⟩) hS.2.2 dX5_work_20

def PG (sh : Sh) : Nat → ((Nat → Nat → Int32) → (Nat → Nat → Int32) → (Nat → Nat → Int64) → Nat → Int32 → (Int32 → (Nat → Nat → Int32) → (Nat → Nat → Int32) → (Nat → Nat → Int64) → Prop) → Prop) × ((Nat → Nat → Int32) → (Nat → Nat → Int32) → (Nat → Nat → Int64) → Nat → Int32 → (Int32 → (Nat → Nat → Int32) → (Nat → Nat → Int32) → (Nat → Nat → Int64) → Prop) → Prop)
  | 0 => (fun _ _ _ _ _ _ => False, fun _ _ _ _ _ _ => False)
  | d + 1 => (P_X5_reach sh (PG sh d).1 (PG sh d).2, P_X5_work sh (PG sh d).1 (PG sh d).2)
theorem pg (l : Launch) (dC : Nat → ClassId) (dI : Nat → Nat → Nat) (sh : Sh) (d : Nat) : GM l dC dI sh yX5_reach wmX5_reach ({ frames := 300 + 5 * d, cells := 0, slots := 0, locals := 6000 + 200 * d }) (PG sh d).1 ∧ GM l dC dI sh yX5_work wmX5_work ({ frames := 300 + 5 * d, cells := 0, slots := 0, locals := 6000 + 200 * d }) (PG sh d).2 := by
  induction d with
  | zero => exact ⟨fun ci ai al q k Q h => h.elim, fun ci ai al q k Q h => h.elim⟩
  | succ d ih => exact ⟨fun ci ai al q k Q h sz => p_X5_reach l dC dI sh d ih.1 ih.2 ci ai al q k Q h sz, fun ci ai al q k Q h sz => p_X5_work l dC dI sh d ih.1 ih.2 ci ai al q k Q h sz⟩
