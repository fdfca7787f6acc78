theorem dX5_isWorked_0 : decode cX5_isWorked 0 = .ok (.aload_n 0, 1) := by decide +kernel
theorem dX5_isWorked_1 : decode cX5_isWorked 1 = .ok (.iload_n 1, 1) := by decide +kernel
theorem dX5_isWorked_2 : decode cX5_isWorked 2 = .ok (.invokevirtual 53, 3) := by decide +kernel
theorem dX5_isWorked_5 : decode cX5_isWorked 5 = .ok (.astore_n 2, 1) := by decide +kernel
theorem dX5_isWorked_6 : decode cX5_isWorked 6 = .ok (.aload_n 2, 1) := by decide +kernel
theorem dX5_isWorked_7 : decode cX5_isWorked 7 = .ok (.aload_n 0, 1) := by decide +kernel
theorem dX5_isWorked_8 : decode cX5_isWorked 8 = .ok (.if_acmp .eq 13, 3) := by decide +kernel
theorem dX5_isWorked_11 : decode cX5_isWorked 11 = .ok (.aload_n 2, 1) := by decide +kernel
theorem dX5_isWorked_12 : decode cX5_isWorked 12 = .ok (.aload_n 0, 1) := by decide +kernel
theorem dX5_isWorked_13 : decode cX5_isWorked 13 = .ok (.iload_n 1, 1) := by decide +kernel
theorem dX5_isWorked_14 : decode cX5_isWorked 14 = .ok (.invokevirtual 57, 3) := by decide +kernel
theorem dX5_isWorked_17 : decode cX5_isWorked 17 = .ok (.invokevirtual 66, 3) := by decide +kernel
theorem dX5_isWorked_20 : decode cX5_isWorked 20 = .ok (.ireturn, 1) := by decide +kernel
theorem dX5_isWorked_21 : decode cX5_isWorked 21 = .ok (.iload_n 1, 1) := by decide +kernel
theorem dX5_isWorked_22 : decode cX5_isWorked 22 = .ok (.ifCond .lt 25, 3) := by decide +kernel
theorem dX5_isWorked_25 : decode cX5_isWorked 25 = .ok (.iload_n 1, 1) := by decide +kernel
theorem dX5_isWorked_26 : decode cX5_isWorked 26 = .ok (.aload_n 0, 1) := by decide +kernel
theorem dX5_isWorked_27 : decode cX5_isWorked 27 = .ok (.getfield 19, 3) := by decide +kernel
theorem dX5_isWorked_30 : decode cX5_isWorked 30 = .ok (.arraylength, 1) := by decide +kernel
theorem dX5_isWorked_31 : decode cX5_isWorked 31 = .ok (.if_icmp .ge 16, 3) := by decide +kernel
theorem dX5_isWorked_34 : decode cX5_isWorked 34 = .ok (.aload_n 0, 1) := by decide +kernel
theorem dX5_isWorked_35 : decode cX5_isWorked 35 = .ok (.getfield 19, 3) := by decide +kernel
theorem dX5_isWorked_38 : decode cX5_isWorked 38 = .ok (.iload_n 1, 1) := by decide +kernel
theorem dX5_isWorked_39 : decode cX5_isWorked 39 = .ok (.baload, 1) := by decide +kernel
theorem dX5_isWorked_40 : decode cX5_isWorked 40 = .ok (.ifCond .eq 7, 3) := by decide +kernel
theorem dX5_isWorked_43 : decode cX5_isWorked 43 = .ok (.iconst 1, 1) := by decide +kernel
theorem dX5_isWorked_44 : decode cX5_isWorked 44 = .ok (.goto 4, 3) := by decide +kernel
theorem dX5_isWorked_47 : decode cX5_isWorked 47 = .ok (.iconst 0, 1) := by decide +kernel
theorem dX5_isWorked_48 : decode cX5_isWorked 48 = .ok (.ireturn, 1) := by decide +kernel
theorem dX5_number_0 : decode cX5_number 0 = .ok (.aload_n 0, 1) := by decide +kernel
theorem dX5_number_1 : decode cX5_number 1 = .ok (.iload_n 1, 1) := by decide +kernel
theorem dX5_number_2 : decode cX5_number 2 = .ok (.invokevirtual 53, 3) := by decide +kernel
theorem dX5_number_5 : decode cX5_number 5 = .ok (.astore_n 2, 1) := by decide +kernel
theorem dX5_number_6 : decode cX5_number 6 = .ok (.aload_n 2, 1) := by decide +kernel
theorem dX5_number_7 : decode cX5_number 7 = .ok (.aload_n 0, 1) := by decide +kernel
theorem dX5_number_8 : decode cX5_number 8 = .ok (.if_acmp .eq 13, 3) := by decide +kernel
theorem dX5_number_11 : decode cX5_number 11 = .ok (.aload_n 2, 1) := by decide +kernel
theorem dX5_number_12 : decode cX5_number 12 = .ok (.aload_n 0, 1) := by decide +kernel
theorem dX5_number_13 : decode cX5_number 13 = .ok (.iload_n 1, 1) := by decide +kernel
theorem dX5_number_14 : decode cX5_number 14 = .ok (.invokevirtual 57, 3) := by decide +kernel
theorem dX5_number_17 : decode cX5_number 17 = .ok (.invokevirtual 70, 3) := by decide +kernel
theorem dX5_number_20 : decode cX5_number 20 = .ok (.lreturn, 1) := by decide +kernel
theorem dX5_number_21 : decode cX5_number 21 = .ok (.iload_n 1, 1) := by decide +kernel
theorem dX5_number_22 : decode cX5_number 22 = .ok (.ifCond .lt 21, 3) := by decide +kernel
theorem dX5_number_25 : decode cX5_number 25 = .ok (.iload_n 1, 1) := by decide +kernel
theorem dX5_number_26 : decode cX5_number 26 = .ok (.aload_n 0, 1) := by decide +kernel
theorem dX5_number_27 : decode cX5_number 27 = .ok (.getfield 15, 3) := by decide +kernel
theorem dX5_number_30 : decode cX5_number 30 = .ok (.arraylength, 1) := by decide +kernel
theorem dX5_number_31 : decode cX5_number 31 = .ok (.if_icmp .ge 12, 3) := by decide +kernel
theorem dX5_number_34 : decode cX5_number 34 = .ok (.aload_n 0, 1) := by decide +kernel
theorem dX5_number_35 : decode cX5_number 35 = .ok (.getfield 15, 3) := by decide +kernel
theorem dX5_number_38 : decode cX5_number 38 = .ok (.iload_n 1, 1) := by decide +kernel
theorem dX5_number_39 : decode cX5_number 39 = .ok (.laload, 1) := by decide +kernel
theorem dX5_number_40 : decode cX5_number 40 = .ok (.goto 4, 3) := by decide +kernel
theorem dX5_number_43 : decode cX5_number 43 = .ok (.lconst 0, 1) := by decide +kernel
theorem dX5_number_44 : decode cX5_number 44 = .ok (.lreturn, 1) := by decide +kernel
theorem dX5_tell_0 : decode cX5_tell 0 = .ok (.iload_n 1, 1) := by decide +kernel
theorem dX5_tell_1 : decode cX5_tell 1 = .ok (.ifCond .lt 12, 3) := by decide +kernel
theorem dX5_tell_4 : decode cX5_tell 4 = .ok (.iload_n 1, 1) := by decide +kernel
theorem dX5_tell_5 : decode cX5_tell 5 = .ok (.aload_n 0, 1) := by decide +kernel
theorem dX5_tell_6 : decode cX5_tell 6 = .ok (.getfield 15, 3) := by decide +kernel
theorem dX5_tell_9 : decode cX5_tell 9 = .ok (.arraylength, 1) := by decide +kernel
theorem dX5_tell_10 : decode cX5_tell 10 = .ok (.if_icmp .lt 5, 3) := by decide +kernel
theorem dX5_tell_13 : decode cX5_tell 13 = .ok (.iconst 3, 1) := by decide +kernel
theorem dX5_tell_14 : decode cX5_tell 14 = .ok (.ireturn, 1) := by decide +kernel
theorem dX5_tell_15 : decode cX5_tell 15 = .ok (.aload_n 0, 1) := by decide +kernel
theorem dX5_tell_16 : decode cX5_tell 16 = .ok (.getfield 15, 3) := by decide +kernel
theorem dX5_tell_19 : decode cX5_tell 19 = .ok (.iload_n 1, 1) := by decide +kernel
theorem dX5_tell_20 : decode cX5_tell 20 = .ok (.lload_n 2, 1) := by decide +kernel
theorem dX5_tell_21 : decode cX5_tell 21 = .ok (.lastore, 1) := by decide +kernel
theorem dX5_tell_22 : decode cX5_tell 22 = .ok (.iconst 1, 1) := by decide +kernel
theorem dX5_tell_23 : decode cX5_tell 23 = .ok (.ireturn, 1) := by decide +kernel
theorem dX5_tellOp_0 : decode cX5_tellOp 0 = .ok (.iload_n 2, 1) := by decide +kernel
theorem dX5_tellOp_1 : decode cX5_tellOp 1 = .ok (.lload 5, 2) := by decide +kernel
theorem dX5_tellOp_3 : decode cX5_tellOp 3 = .ok (.invokestatic 74, 3) := by decide +kernel
theorem dX5_tellOp_6 : decode cX5_tellOp 6 = .ok (.ifCond .eq 7, 3) := by decide +kernel
theorem dX5_tellOp_9 : decode cX5_tellOp 9 = .ok (.iconst 5, 1) := by decide +kernel
theorem dX5_tellOp_10 : decode cX5_tellOp 10 = .ok (.goto 15, 3) := by decide +kernel
theorem dX5_tellOp_13 : decode cX5_tellOp 13 = .ok (.aload_n 0, 1) := by decide +kernel
theorem dX5_tellOp_14 : decode cX5_tellOp 14 = .ok (.iload_n 1, 1) := by decide +kernel
theorem dX5_tellOp_15 : decode cX5_tellOp 15 = .ok (.iload_n 2, 1) := by decide +kernel
theorem dX5_tellOp_16 : decode cX5_tellOp 16 = .ok (.lload_n 3, 1) := by decide +kernel
theorem dX5_tellOp_17 : decode cX5_tellOp 17 = .ok (.lload 5, 2) := by decide +kernel
theorem dX5_tellOp_19 : decode cX5_tellOp 19 = .ok (.invokestatic 78, 3) := by decide +kernel
theorem dX5_tellOp_22 : decode cX5_tellOp 22 = .ok (.invokevirtual 82, 3) := by decide +kernel
theorem dX5_tellOp_25 : decode cX5_tellOp 25 = .ok (.ireturn, 1) := by decide +kernel
theorem dX7_insertPlace_0 : decode cX7_insertPlace 0 = .ok (.aload_n 0, 1) := by decide +kernel
theorem dX7_insertPlace_1 : decode cX7_insertPlace 1 = .ok (.getfield 9, 3) := by decide +kernel
theorem dX7_insertPlace_4 : decode cX7_insertPlace 4 = .ok (.iload_n 1, 1) := by decide +kernel
theorem dX7_insertPlace_5 : decode cX7_insertPlace 5 = .ok (.invokevirtual 37, 3) := by decide +kernel
theorem dX7_insertPlace_8 : decode cX7_insertPlace 8 = .ok (.lstore_n 2, 1) := by decide +kernel
theorem dX7_insertPlace_9 : decode cX7_insertPlace 9 = .ok (.iload_n 1, 1) := by decide +kernel
theorem dX7_insertPlace_10 : decode cX7_insertPlace 10 = .ok (.istore 4, 2) := by decide +kernel
theorem dX7_insertPlace_12 : decode cX7_insertPlace 12 = .ok (.iload 4, 2) := by decide +kernel
theorem dX7_insertPlace_14 : decode cX7_insertPlace 14 = .ok (.ifCond .le 46, 3) := by decide +kernel
theorem dX7_insertPlace_17 : decode cX7_insertPlace 17 = .ok (.aload_n 0, 1) := by decide +kernel
theorem dX7_insertPlace_18 : decode cX7_insertPlace 18 = .ok (.getfield 9, 3) := by decide +kernel
theorem dX7_insertPlace_21 : decode cX7_insertPlace 21 = .ok (.aload_n 0, 1) := by decide +kernel
theorem dX7_insertPlace_22 : decode cX7_insertPlace 22 = .ok (.getfield 15, 3) := by decide +kernel
theorem dX7_insertPlace_25 : decode cX7_insertPlace 25 = .ok (.iload 4, 2) := by decide +kernel
theorem dX7_insertPlace_27 : decode cX7_insertPlace 27 = .ok (.iconst 1, 1) := by decide +kernel
theorem dX7_insertPlace_28 : decode cX7_insertPlace 28 = .ok (.isub, 1) := by decide +kernel
theorem dX7_insertPlace_29 : decode cX7_insertPlace 29 = .ok (.iaload, 1) := by decide +kernel
theorem dX7_insertPlace_30 : decode cX7_insertPlace 30 = .ok (.invokevirtual 37, 3) := by decide +kernel
theorem dX7_insertPlace_33 : decode cX7_insertPlace 33 = .ok (.lload_n 2, 1) := by decide +kernel
theorem dX7_insertPlace_34 : decode cX7_insertPlace 34 = .ok (.lcmp, 1) := by decide +kernel
theorem dX7_insertPlace_35 : decode cX7_insertPlace 35 = .ok (.ifCond .le 25, 3) := by decide +kernel
theorem dX7_insertPlace_38 : decode cX7_insertPlace 38 = .ok (.aload_n 0, 1) := by decide +kernel
theorem dX7_insertPlace_39 : decode cX7_insertPlace 39 = .ok (.getfield 15, 3) := by decide +kernel
theorem dX7_insertPlace_42 : decode cX7_insertPlace 42 = .ok (.iload 4, 2) := by decide +kernel
theorem dX7_insertPlace_44 : decode cX7_insertPlace 44 = .ok (.aload_n 0, 1) := by decide +kernel
theorem dX7_insertPlace_45 : decode cX7_insertPlace 45 = .ok (.getfield 15, 3) := by decide +kernel
theorem dX7_insertPlace_48 : decode cX7_insertPlace 48 = .ok (.iload 4, 2) := by decide +kernel
theorem dX7_insertPlace_50 : decode cX7_insertPlace 50 = .ok (.iconst 1, 1) := by decide +kernel
theorem dX7_insertPlace_51 : decode cX7_insertPlace 51 = .ok (.isub, 1) := by decide +kernel
theorem dX7_insertPlace_52 : decode cX7_insertPlace 52 = .ok (.iaload, 1) := by decide +kernel
theorem dX7_insertPlace_53 : decode cX7_insertPlace 53 = .ok (.iastore, 1) := by decide +kernel
theorem dX7_insertPlace_54 : decode cX7_insertPlace 54 = .ok (.iinc 4 (-1), 3) := by decide +kernel
theorem dX7_insertPlace_57 : decode cX7_insertPlace 57 = .ok (.goto (-45), 3) := by decide +kernel
theorem dX7_insertPlace_60 : decode cX7_insertPlace 60 = .ok (.aload_n 0, 1) := by decide +kernel
theorem dX7_insertPlace_61 : decode cX7_insertPlace 61 = .ok (.getfield 15, 3) := by decide +kernel
theorem dX7_insertPlace_64 : decode cX7_insertPlace 64 = .ok (.iload 4, 2) := by decide +kernel
theorem dX7_insertPlace_66 : decode cX7_insertPlace 66 = .ok (.iload_n 1, 1) := by decide +kernel
theorem dX7_insertPlace_67 : decode cX7_insertPlace 67 = .ok (.iastore, 1) := by decide +kernel
theorem dX7_insertPlace_68 : decode cX7_insertPlace 68 = .ok (.return_, 1) := by decide +kernel
theorem dX10_lets_0 : decode cX10_lets 0 = .ok (.aload_n 0, 1) := by decide +kernel
theorem dX10_lets_1 : decode cX10_lets 1 = .ok (.getfield 15, 3) := by decide +kernel
theorem dX10_lets_4 : decode cX10_lets 4 = .ok (.iconst (-1), 1) := by decide +kernel
theorem dX10_lets_5 : decode cX10_lets 5 = .ok (.if_icmp .eq 16, 3) := by decide +kernel
theorem dX10_lets_8 : decode cX10_lets 8 = .ok (.aload_n 0, 1) := by decide +kernel
theorem dX10_lets_9 : decode cX10_lets 9 = .ok (.getfield 15, 3) := by decide +kernel
theorem dX10_lets_12 : decode cX10_lets 12 = .ok (.lload_n 1, 1) := by decide +kernel
theorem dX10_lets_13 : decode cX10_lets 13 = .ok (.aload_n 0, 1) := by decide +kernel
theorem dX10_lets_14 : decode cX10_lets 14 = .ok (.getfield 19, 3) := by decide +kernel
theorem dX10_lets_17 : decode cX10_lets 17 = .ok (.invokestatic 42, 3) := by decide +kernel
theorem dX10_lets_20 : decode cX10_lets 20 = .ok (.ireturn, 1) := by decide +kernel
theorem dX10_lets_21 : decode cX10_lets 21 = .ok (.iconst 0, 1) := by decide +kernel
theorem dX10_lets_22 : decode cX10_lets 22 = .ok (.istore 4, 2) := by decide +kernel
theorem dX10_lets_24 : decode cX10_lets 24 = .ok (.iload 4, 2) := by decide +kernel
theorem dX10_lets_26 : decode cX10_lets 26 = .ok (.iload_n 3, 1) := by decide +kernel
theorem dX10_lets_27 : decode cX10_lets 27 = .ok (.if_icmp .ge 22, 3) := by decide +kernel
theorem dX10_lets_30 : decode cX10_lets 30 = .ok (.aload_n 0, 1) := by decide +kernel
theorem dX10_lets_31 : decode cX10_lets 31 = .ok (.iload 4, 2) := by decide +kernel
theorem dX10_lets_33 : decode cX10_lets 33 = .ok (.invokevirtual 46, 3) := by decide +kernel
theorem dX10_lets_36 : decode cX10_lets 36 = .ok (.lload_n 1, 1) := by decide +kernel
theorem dX10_lets_37 : decode cX10_lets 37 = .ok (.lcmp, 1) := by decide +kernel
theorem dX10_lets_38 : decode cX10_lets 38 = .ok (.ifCond .ne 5, 3) := by decide +kernel
theorem dX10_lets_41 : decode cX10_lets 41 = .ok (.iconst 0, 1) := by decide +kernel
theorem dX10_lets_42 : decode cX10_lets 42 = .ok (.ireturn, 1) := by decide +kernel
theorem dX10_lets_43 : decode cX10_lets 43 = .ok (.iinc 4 1, 3) := by decide +kernel
theorem dX10_lets_46 : decode cX10_lets 46 = .ok (.goto (-22), 3) := by decide +kernel
theorem dX10_lets_49 : decode cX10_lets 49 = .ok (.iconst 1, 1) := by decide +kernel
theorem dX10_lets_50 : decode cX10_lets 50 = .ok (.ireturn, 1) := by decide +kernel
def P_V_place (sh : Sh) (ci : Nat → Nat → Int32) (ai : Nat → Nat → Int32) (al : Nat → Nat → Int64) (q : Nat) (k : Int32) (Q : Int32 → Prop) : Prop := (sK sh q = 0 → P_X5_place sh ci ai al q k Q) ∧ (sK sh q = 1 → P_X5_place sh ci ai al q k Q) ∧ (sK sh q = 2 → P_X5_place sh ci ai al q k Q) ∧ (sK sh q = 3 → P_X5_place sh ci ai al q k Q) ∧ (sK sh q = 4 → P_X4_place sh ci ai al q k Q) ∧ (sK sh q = 6 → P_X7_place sh ci ai al q k Q) ∧ (sK sh q = 7 → P_X8_place sh ci ai al q k Q) ∧ (sK sh q = 8 → P_X5_place sh ci ai al q k Q) ∧ (sK sh q = 9 → P_X10_place sh ci ai al q k Q)
set_option maxHeartbeats 4000000 in
set_option maxRecDepth 100000 in
theorem v_place {p : Program} {l : Launch} {e : Env} {R : Room} {s : State} {m : MethodId} {args : Array Value} {below : List Frame} {meth : Method} {c : Code} {H : Heap} {locs : List Loc} {cells slots : Nat}  {cc : ByteArray} {pc : Nat} {ls : Array Slot} {rest st : List Value} {A : Nat → Prop} {dC : Nat → ClassId} {dI : Nat → Nat → Nat} {sh : Sh} {ci : Nat → Nat → Int32} {ai : Nat → Nat → Int32} {al : Nat → Nat → Int64} {nL q : Nat} {k9 : Int32} {Q : Int32 → Prop} (h : P_V_place sh ci ai al q k9 Q) (S : CallFix p m c cc nL s args WC RX5) (hK : cK dC dI sh s) (hP : va_P (dC, dI) vwCl (cW sh ci ai al) H) (hD : va_D A (cW sh ci ai al)) (hG : Gc s) (hq : q ∈ sL sh) (hz : isZ (sK sh q)) (hR : 12 + 1 ≤ R.frames ∧ 8 + (10 + 11) + (200) ≤ R.locals) (hsize : ls.size = nL) (hst : st = .int k9 :: .ref q :: rest) (hW : (rest.map fun v => v.category).sum ≤ 8) (hf : cells ≤ R.cells ∧ slots ≤ R.slots) (hdg : decode cc pc = .ok (.invokevirtual 57, 3)) : va_Run p l e R s m args below meth c H locs cells slots 0 0 (F0 m pc ls st) rest (va_Qi (S := Unit) (fun r _ => Q r) (fun _ _ => True) (va_A [] H.size) (Value.ref q :: [.int k9]).toArray) (va_A [] H.size) := by
  have hts := S.2.2.2.2
  rcases hz with e | e | e | e | e | e | e | e | e
  · exact va_runU (C := RX0) (owner := "NeededLists$LazyList") (rm := ({ frames := 12, cells := 0, slots := 0, locals := 200 })) (As := [.int k9]) S (p_X5_place l dC dI sh _ _ _ q k9 _ (h.1 e) H.size) (va_cwU (x := ⟨"NeededLists$LazyList", "place", "(I)I"⟩) 1 hts (g_U gdC mwC_69 mwC_70 mwC_71 mwC_72 mwC_22 mwC_73) rfl rfl rfl rfl ⟨by decide, by decide, by decide +kernel⟩ ⟨(show 12 + 1 ≤ R.frames by omega), (show 8 + (2 + 11) + (200) ≤ R.locals by omega)⟩) (c_preV (vc := (RX0, TX0, 9)) hK hP hD hG hq e (by decide) rfl) rfl rfl hsize hst (lv_room hW) hdg hf
  · exact va_runU (C := RX1) (owner := "NeededLists$LazyList") (rm := ({ frames := 12, cells := 0, slots := 0, locals := 200 })) (As := [.int k9]) S (p_X5_place l dC dI sh _ _ _ q k9 _ (h.2.1 e) H.size) (va_cwU (x := ⟨"NeededLists$LazyList", "place", "(I)I"⟩) 1 hts (g_U gdC mwC_69 mwC_70 mwC_74 mwC_72 mwC_22 mwC_73) rfl rfl rfl rfl ⟨by decide, by decide, by decide +kernel⟩ ⟨(show 12 + 1 ≤ R.frames by omega), (show 8 + (2 + 11) + (200) ≤ R.locals by omega)⟩) (c_preV (vc := (RX1, TX1, 9)) hK hP hD hG hq e (by decide) rfl) rfl rfl hsize hst (lv_room hW) hdg hf
  · exact va_runU (C := RX2) (owner := "NeededLists$LazyList") (rm := ({ frames := 12, cells := 0, slots := 0, locals := 200 })) (As := [.int k9]) S (p_X5_place l dC dI sh _ _ _ q k9 _ (h.2.2.1 e) H.size) (va_cwU (x := ⟨"NeededLists$LazyList", "place", "(I)I"⟩) 1 hts (g_U gdC mwC_69 mwC_70 mwC_75 mwC_72 mwC_22 mwC_73) rfl rfl rfl rfl ⟨by decide, by decide, by decide +kernel⟩ ⟨(show 12 + 1 ≤ R.frames by omega), (show 8 + (2 + 11) + (200) ≤ R.locals by omega)⟩) (c_preV (vc := (RX2, TX2, 9)) hK hP hD hG hq e (by decide) rfl) rfl rfl hsize hst (lv_room hW) hdg hf
  · exact va_runU (C := RX3) (owner := "NeededLists$LazyList") (rm := ({ frames := 12, cells := 0, slots := 0, locals := 200 })) (As := [.int k9]) S (p_X5_place l dC dI sh _ _ _ q k9 _ (h.2.2.2.1 e) H.size) (va_cwU (x := ⟨"NeededLists$LazyList", "place", "(I)I"⟩) 1 hts (g_U gdC mwC_69 mwC_70 mwC_76 mwC_72 mwC_22 mwC_73) rfl rfl rfl rfl ⟨by decide, by decide, by decide +kernel⟩ ⟨(show 12 + 1 ≤ R.frames by omega), (show 8 + (2 + 11) + (200) ≤ R.locals by omega)⟩) (c_preV (vc := (RX3, TX3, 7)) hK hP hD hG hq e (by decide) rfl) rfl rfl hsize hst (lv_room hW) hdg hf
  · exact va_runU (C := RX4) (owner := "NeededLists$LazyList") (rm := ({ frames := 12, cells := 0, slots := 0, locals := 200 })) (As := [.int k9]) S (p_X4_place l dC dI sh _ _ _ q k9 _ (h.2.2.2.2.1 e) H.size) (va_cwO (x := ⟨"NeededLists$LazyList", "place", "(I)I"⟩) 1 hts (g_O gdC mwC_69 mwC_70 mwC_72 mwC_77 mwC_78 mwC_54 mwC_79) rfl rfl rfl mwC_73 ⟨by decide, by decide, by decide +kernel⟩ ⟨(show 12 + 1 ≤ R.frames by omega), (show 8 + (3 + 11) + (200) ≤ R.locals by omega)⟩) (c_preV (vc := (RX4, TX4, 7)) hK hP hD hG hq e (by decide) rfl) rfl rfl hsize hst (lv_room hW) hdg hf
  · exact va_runU (C := RX7) (owner := "NeededLists$LazyList") (rm := ({ frames := 12, cells := 0, slots := 0, locals := 200 })) (As := [.int k9]) S (p_X7_place l dC dI sh _ _ _ q k9 _ (h.2.2.2.2.2.1 e) H.size) (va_cwO (x := ⟨"NeededLists$LazyList", "place", "(I)I"⟩) 1 hts (g_O gdC mwC_69 mwC_70 mwC_72 mwC_80 mwC_81 mwC_58 mwC_82) rfl rfl rfl mwC_73 ⟨by decide, by decide, by decide +kernel⟩ ⟨(show 12 + 1 ≤ R.frames by omega), (show 8 + (2 + 11) + (200) ≤ R.locals by omega)⟩) (c_preV (vc := (RX7, TX7, 7)) hK hP hD hG hq e (by decide) rfl) rfl rfl hsize hst (lv_room hW) hdg hf
  · exact va_runU (C := RX8) (owner := "NeededLists$LazyList") (rm := ({ frames := 12, cells := 0, slots := 0, locals := 200 })) (As := [.int k9]) S (p_X8_place l dC dI sh _ _ _ q k9 _ (h.2.2.2.2.2.2.1 e) H.size) (va_cwO (x := ⟨"NeededLists$LazyList", "place", "(I)I"⟩) 1 hts (g_O gdC mwC_69 mwC_70 mwC_72 mwC_83 mwC_84 mwC_62 mwC_85) rfl rfl rfl mwC_73 ⟨by decide, by decide, by decide +kernel⟩ ⟨(show 12 + 1 ≤ R.frames by omega), (show 8 + (2 + 11) + (200) ≤ R.locals by omega)⟩) (c_preV (vc := (RX8, TX8, 9)) hK hP hD hG hq e (by decide) rfl) rfl rfl hsize hst (lv_room hW) hdg hf
  · exact va_runU (C := RX9) (owner := "NeededLists$LazyList") (rm := ({ frames := 12, cells := 0, slots := 0, locals := 200 })) (As := [.int k9]) S (p_X5_place l dC dI sh _ _ _ q k9 _ (h.2.2.2.2.2.2.2.1 e) H.size) (va_cwU (x := ⟨"NeededLists$LazyList", "place", "(I)I"⟩) 1 hts (g_U gdC mwC_69 mwC_70 mwC_86 mwC_72 mwC_22 mwC_73) rfl rfl rfl rfl ⟨by decide, by decide, by decide +kernel⟩ ⟨(show 12 + 1 ≤ R.frames by omega), (show 8 + (2 + 11) + (200) ≤ R.locals by omega)⟩) (c_preV (vc := (RX9, TX9, 8)) hK hP hD hG hq e (by decide) rfl) rfl rfl hsize hst (lv_room hW) hdg hf
  · exact va_runU (C := RX10) (owner := "NeededLists$LazyList") (rm := ({ frames := 12, cells := 0, slots := 0, locals := 200 })) (As := [.int k9]) S (p_X10_place l dC dI sh _ _ _ q k9 _ (h.2.2.2.2.2.2.2.2 e) H.size) (va_cwO (x := ⟨"NeededLists$LazyList", "place", "(I)I"⟩) 1 hts (g_O gdC mwC_69 mwC_70 mwC_72 mwC_87 mwC_88 mwC_67 mwC_89) rfl rfl rfl mwC_73 ⟨by decide, by decide, by decide +kernel⟩ ⟨(show 12 + 1 ≤ R.frames by omega), (show 8 + (2 + 11) + (200) ≤ R.locals by omega)⟩) (c_preV (vc := (RX10, TX10, 9)) hK hP hD hG hq e (by decide) rfl) rfl rfl hsize hst (lv_room hW) hdg hf

theorem hd_X5_number : yX5_number.cls = RX5 ∧ yX5_number.cls ≠ "java/lang/invoke/MethodHandle" ∧ yX5_number.cls ≠ "java/lang/invoke/VarHandle" ∧ (parseMethodDescriptor yX5_number.desc).map (fun d => d.parameters.length) = some 1 := by decide +kernel
def P_X5_number (sh : Sh) (Gs : ((Nat → Nat → Int32) → (Nat → Nat → Int32) → (Nat → Nat → Int64) → Nat → Int32 → (Int64 → Prop) → Prop)) (ci : Nat → Nat → Int32) (ai : Nat → Nat → Int32) (al : Nat → Nat → Int64) (q : Nat) (p0 : Int32) (Q : Int64 → Prop) : Prop := (q ∈ sL sh ∧ isZ (sK sh q)) ∧ P_V_source sh ci ai al q p0 (fun r1 => ((some r1 = some q) → (((p0 < 0) → (Q 0)) ∧ ((¬ p0 < 0) → (∃ q2 : Nat, sR sh q 1 = some q2 ∧ (q2 ∈ sL sh ∧ sK sh q2 = 22) ∧ (((nI (sN sh q2)) ≤ p0) → (Q 0)) ∧ ((¬ (nI (sN sh q2)) ≤ p0) → (vp_in p0 (sN sh q2) ∧ Q (al q2 p0.toNatClampNeg))))))) ∧ ((¬ some r1 = some q) → (P_V_place sh ci ai al q p0 (fun r7 => (r1 ∈ sL sh ∧ isZ (sK sh r1)) ∧ Gs ci ai al r1 r7 (fun r10 => Q r10)))))
set_option maxHeartbeats 4000000 in
set_option maxRecDepth 100000 in
theorem p_X5_number (l : Launch) (dC : Nat → ClassId) (dI : Nat → Nat → Nat) (sh : Sh) (f : Nat) {Gs : ((Nat → Nat → Int32) → (Nat → Nat → Int32) → (Nat → Nat → Int64) → Nat → Int32 → (Int64 → Prop) → Prop)} (hGs : ∀ (ci : Nat → Nat → Int32) (ai : Nat → Nat → Int32) (al : Nat → Nat → Int64) (q : Nat) (k : Int32) (Q : Int64 → Prop), Gs ci ai al q k Q → ∀ sz : Nat, Met l yX5_number wmX5_number ({ frames := 20 + 2 * f, cells := 0, slots := 0, locals := 300 + 50 * f }) (va_Pc [.ref q, .int k] (cPre dC dI sh ci ai al sz)) (va_Ql (S := Unit) (fun r _ => Q r) (fun _ _ => True) (va_A [] sz)) 0 0 (va_A [] sz)) (ci : Nat → Nat → Int32) (ai : Nat → Nat → Int32) (al : Nat → Nat → Int64) (q : Nat) (p0 : Int32) (Q : Int64 → Prop) (h : P_X5_number sh Gs ci ai al q p0 Q) (sz : Nat) : Met l yX5_number wmX5_number ({ frames := 20 + 2 * (f + 1), cells := 0, slots := 0, locals := 300 + 50 * (f + 1) }) (va_Pc [.ref q, .int p0] (cPre dC dI sh ci ai al sz)) (va_Ql (S := Unit) (fun r _ => Q r) (fun _ _ => True) (va_A [] sz)) 0 0 (va_A [] sz) := by
  refine Met.ofW (cc := cX5_number) (maxL := 3) (ret := (some .long)) (by decide) rfl ?_
  intro p e s m args below meth c s₁ B hml hv
  obtain ⟨rfl, hsz, hP, hK, hD0, hG⟩ := hv
  have hx := B.exec
  have hb := B.bytes
  have hr := B.returns
  have hts : ∀ w ∈ WC, w.before _ s = true := fun w h => atoms_spec (ws := wmX5_number) B.pre w (List.mem_cons_of_mem _ h)
  have hown : s.vm.findClass RX5 = some m.cls := findClass_of_methodNamed B.named
  have hlocks := B.notSynchronized
  subst hsz
  have hD := hD0
  generalize hAe : va_A [] s.heap.size = A at ⊢
  have hA : ∀ q : Nat, s.heap.size ≤ q → A q := fun q h => by rw [← hAe]; exact Or.inr h
  generalize hH : s.heap = H at hP ⊢
  have hS : va_S A s.heap H [] := by rw [← hH]; exact va_S.rf
  have hl := lv_entry [.ref q, .int p0] (n := 3) (Nat.le_of_ble_eq_true rfl)
  rw [lg_entry_eq]
  generalize (lg_sl [.ref q, .int p0] ++ List.replicate (3 - (lg_sl [.ref q, .int p0]).length) Slot.unset).toArray = ls at hl ⊢
  have hl : lv_has ls 3 [(0, .ref q), (1, .int p0)] := hl
  unfold P_X5_number at h
  obtain ⟨⟨hq, hk⟩, h⟩ := h
  refine lv_aload_n hx hb dX5_number_0 rfl (lv_at hl 0 rfl) ?_
  refine lv_iload_n hx hb dX5_number_1 rfl (lv_at hl 1 rfl) ?_
  refine r_endr (v_source (k9 := p0) (q := q) (rest := []) h ⟨hx, hb, hml, hown, hts⟩ hK hP hD hG hq hk ⟨(show 12 + 1 ≤ 20 + 2 * (f + 1) by omega), (show 8 + (10 + 11) + (200) ≤ 300 + 50 * (f + 1) by omega)⟩ hl.1 rfl (Nat.le_of_ble_eq_true rfl) ⟨Nat.le_of_ble_eq_true rfl, Nat.le_of_ble_eq_true rfl⟩ dX5_number_2) hP hS hA (fun r1 H locs h hP hS => ?_)
  refine lv_astore_n (lv' := [(2, .ref r1), (0, .ref q), (1, .int p0)]) hx hb dX5_number_5 rfl hl (by decide) rfl (fun ls hl => ?_)
  refine lv_aload_n hx hb dX5_number_6 rfl (lv_at hl 0 rfl) ?_
  refine lv_aload_n hx hb dX5_number_7 rfl (lv_at hl 1 rfl) ?_
  refine lv_acmp_eq (rx := some r1) (ry := some q) (tgt := 21) hx hb dX5_number_8 (by decide) (fun c_8 => ?_) (fun c_8 => ?_)
  · have h := h.1 c_8
    refine lv_iload_n hx hb dX5_number_21 rfl (lv_at hl 2 rfl) ?_
    refine lv_if_lt (tgt := 43) hx hb dX5_number_22 (by decide) (fun c_22 => ?_) (fun c_22 => ?_)
    · have h := h.1 c_22
      refine lv_lconst (v := 0) hx hb dX5_number_43 (by decide) ?_
      exact W.lret (v := 0) hx hb hr (fun t ht hW => ⟨⟨_, (), rfl, h, trivial⟩, hS.F ht⟩) hS.2.2 dX5_number_44
    · have h := h.2 c_22
      refine lv_iload_n hx hb dX5_number_25 rfl (lv_at hl 2 rfl) ?_
      refine lv_aload_n hx hb dX5_number_26 rfl (lv_at hl 1 rfl) ?_
      obtain ⟨q2, e3, h⟩ := h
      refine c_getZ1 hx hb hts hown hK hP hq hk e3 (hts _ mwC_90) dX5_number_27 ?_
      obtain ⟨⟨hm4, hk5⟩, h⟩ := h
      refine c_alen hx hb hK hP hm4 (Or.inr (Or.inr (Or.inl hk5))) dX5_number_30 ?_
      refine lv_icmp_ge (tgt := 43) hx hb dX5_number_31 (by decide) (fun c_31 => ?_) (fun c_31 => ?_)
      · have h := h.1 c_31
        refine lv_lconst (v := 0) hx hb dX5_number_43 (by decide) ?_
        exact W.lret (v := 0) hx hb hr (fun t ht hW => ⟨⟨_, (), rfl, h, trivial⟩, hS.F ht⟩) hS.2.2 dX5_number_44
      · have h := h.2 c_31
        refine lv_aload_n hx hb dX5_number_34 rfl (lv_at hl 1 rfl) ?_
        refine c_getZ1 hx hb hts hown hK hP hq hk e3 (hts _ mwC_90) dX5_number_35 ?_
        refine lv_iload_n hx hb dX5_number_38 rfl (lv_at hl 2 rfl) ?_
        obtain ⟨hi6, h⟩ := h
        refine c_lald hx hb hK hP hm4 hk5 hi6 dX5_number_39 ?_
        refine lv_goto (tgt := 44) hx hb dX5_number_40 (by decide) ?_
        exact W.lret (v := (al q2 p0.toNatClampNeg)) hx hb hr (fun t ht hW => ⟨⟨_, (), rfl, h, trivial⟩, hS.F ht⟩) hS.2.2 dX5_number_44
  · have h := h.2 c_8
    refine lv_aload_n hx hb dX5_number_11 rfl (lv_at hl 0 rfl) ?_
    refine lv_aload_n hx hb dX5_number_12 rfl (lv_at hl 1 rfl) ?_
    refine lv_iload_n hx hb dX5_number_13 rfl (lv_at hl 2 rfl) ?_
    refine r_endi (v_place (k9 := p0) (q := q) (rest := [.ref r1]) h ⟨hx, hb, hml, hown, hts⟩ hK hP hD hG hq hk ⟨(show 12 + 1 ≤ 20 + 2 * (f + 1) by omega), (show 8 + (10 + 11) + (200) ≤ 300 + 50 * (f + 1) by omega)⟩ hl.1 rfl (Nat.le_of_ble_eq_true rfl) ⟨Nat.le_of_ble_eq_true rfl, Nat.le_of_ble_eq_true rfl⟩ dX5_number_14) hP hS hA (fun r7 H locs h hP hS => ?_)
    obtain ⟨⟨hm8, hk9⟩, h⟩ := h
    refine r_endl (c_runZ (rm := ({ frames := 20 + 2 * f, cells := 0, slots := 0, locals := 300 + 50 * f })) (y := yX5_number) (x := ⟨"NeededLists$LazyList", "number", "(I)J"⟩) (n := 1) (bytes := cX5_number) (maxL := 3) (ret := (some .long)) (q := r1) (As := [.int r7]) (rest := []) ⟨hx, hb, hml, hown, hts⟩ (hGs _ _ _ r1 r7 _ h H.size) mwC_91 mwC_92 mwC_93 mwC_22 mwC_94 mwC_95 mwC_96 mwC_97 mwC_98 mwC_99 mwC_100 mwC_101 mwC_102 mwC_103 rfl (by decide +kernel) rfl rfl ⟨(show 20 + 2 * f + 1 ≤ 20 + 2 * (f + 1) by omega), (show 8 + (3 + 11) + (300 + 50 * f) ≤ 300 + 50 * (f + 1) by omega)⟩ hK hP hD hG hm8 hk9 rfl hl.1 rfl (Nat.le_of_ble_eq_true rfl) ⟨Nat.le_of_ble_eq_true rfl, Nat.le_of_ble_eq_true rfl⟩ dX5_number_17) hP hS hA (fun r10 H locs h hP hS => ?_)
    exact W.lret (v := r10) hx hb hr (fun t ht hW => ⟨⟨_, (), rfl, h, trivial⟩, hS.F ht⟩) hS.2.2 dX5_number_20
def P_X5_number_f (sh : Sh) : Nat → ((Nat → Nat → Int32) → (Nat → Nat → Int32) → (Nat → Nat → Int64) → Nat → Int32 → (Int64 → Prop) → Prop)
  | 0 => fun _ _ _ _ _ _ => False
  | f + 1 => P_X5_number sh (P_X5_number_f sh f)
theorem p_X5_number_f (l : Launch) (dC : Nat → ClassId) (dI : Nat → Nat → Nat) (sh : Sh) (f : Nat) : ∀ (ci : Nat → Nat → Int32) (ai : Nat → Nat → Int32) (al : Nat → Nat → Int64) (q : Nat) (k : Int32) (Q : Int64 → Prop), P_X5_number_f sh f ci ai al q k Q → ∀ sz : Nat, Met l yX5_number wmX5_number ({ frames := 20 + 2 * f, cells := 0, slots := 0, locals := 300 + 50 * f }) (va_Pc [.ref q, .int k] (cPre dC dI sh ci ai al sz)) (va_Ql (S := Unit) (fun r _ => Q r) (fun _ _ => True) (va_A [] sz)) 0 0 (va_A [] sz) := by
  induction f with
  | zero => intro ci ai al q k Q h; exact h.elim
  | succ f ih => intro ci ai al q k Q h sz; exact p_X5_number l dC dI sh f ih ci ai al q k Q h sz

theorem hd_X5_isWorked : yX5_isWorked.cls = RX5 ∧ yX5_isWorked.cls ≠ "java/lang/invoke/MethodHandle" ∧ yX5_isWorked.cls ≠ "java/lang/invoke/VarHandle" ∧ (parseMethodDescriptor yX5_isWorked.desc).map (fun d => d.parameters.length) = some 1 := by decide +kernel
def P_X5_isWorked (sh : Sh) (Gs : ((Nat → Nat → Int32) → (Nat → Nat → Int32) → (Nat → Nat → Int64) → Nat → Int32 → (Int32 → Prop) → Prop)) (ci : Nat → Nat → Int32) (ai : Nat → Nat → Int32) (al : Nat → Nat → Int64) (q : Nat) (p0 : Int32) (Q : Int32 → Prop) : Prop := (q ∈ sL sh ∧ isZ (sK sh q)) ∧ P_V_source sh ci ai al q p0 (fun r1 => ((some r1 = some q) → (((p0 < 0) → (Q 0)) ∧ ((¬ p0 < 0) → (∃ q2 : Nat, sR sh q 2 = some q2 ∧ (q2 ∈ sL sh ∧ sK sh q2 = 21) ∧ (((nI (sN sh q2)) ≤ p0) → (Q 0)) ∧ ((¬ (nI (sN sh q2)) ≤ p0) → (vp_in p0 (sN sh q2) ∧ (((ai q2 p0.toNatClampNeg) = 0) → (Q 0)) ∧ ((¬ (ai q2 p0.toNatClampNeg) = 0) → (Q 1)))))))) ∧ ((¬ some r1 = some q) → (P_V_place sh ci ai al q p0 (fun r7 => (r1 ∈ sL sh ∧ isZ (sK sh r1)) ∧ Gs ci ai al r1 r7 (fun r10 => narrow .boolean (.int r10) = .int r10 ∧ Q r10)))))
set_option maxHeartbeats 4000000 in
set_option maxRecDepth 100000 in
theorem p_X5_isWorked (l : Launch) (dC : Nat → ClassId) (dI : Nat → Nat → Nat) (sh : Sh) (f : Nat) {Gs : ((Nat → Nat → Int32) → (Nat → Nat → Int32) → (Nat → Nat → Int64) → Nat → Int32 → (Int32 → Prop) → Prop)} (hGs : ∀ (ci : Nat → Nat → Int32) (ai : Nat → Nat → Int32) (al : Nat → Nat → Int64) (q : Nat) (k : Int32) (Q : Int32 → Prop), Gs ci ai al q k Q → ∀ sz : Nat, Met l yX5_isWorked wmX5_isWorked ({ frames := 20 + 2 * f, cells := 0, slots := 0, locals := 300 + 50 * f }) (va_Pc [.ref q, .int k] (cPre dC dI sh ci ai al sz)) (va_Qi (S := Unit) (fun r _ => Q r) (fun _ _ => True) (va_A [] sz)) 0 0 (va_A [] sz)) (ci : Nat → Nat → Int32) (ai : Nat → Nat → Int32) (al : Nat → Nat → Int64) (q : Nat) (p0 : Int32) (Q : Int32 → Prop) (h : P_X5_isWorked sh Gs ci ai al q p0 Q) (sz : Nat) : Met l yX5_isWorked wmX5_isWorked ({ frames := 20 + 2 * (f + 1), cells := 0, slots := 0, locals := 300 + 50 * (f + 1) }) (va_Pc [.ref q, .int p0] (cPre dC dI sh ci ai al sz)) (va_Qi (S := Unit) (fun r _ => Q r) (fun _ _ => True) (va_A [] sz)) 0 0 (va_A [] sz) := by
  refine Met.ofW (cc := cX5_isWorked) (maxL := 3) (ret := (some .boolean)) (by decide) rfl ?_
  intro p e s m args below meth c s₁ B hml hv
  obtain ⟨rfl, hsz, hP, hK, hD0, hG⟩ := hv
  have hx := B.exec
  have hb := B.bytes
  have hr := B.returns
  have hts : ∀ w ∈ WC, w.before _ s = true := fun w h => atoms_spec (ws := wmX5_isWorked) B.pre w (List.mem_cons_of_mem _ h)
  have hown : s.vm.findClass RX5 = some m.cls := findClass_of_methodNamed B.named
  have hlocks := B.notSynchronized
  subst hsz
  have hD := hD0
  generalize hAe : va_A [] s.heap.size = A at ⊢
  have hA : ∀ q : Nat, s.heap.size ≤ q → A q := fun q h => by rw [← hAe]; exact Or.inr h
  generalize hH : s.heap = H at hP ⊢
  have hS : va_S A s.heap H [] := by rw [← hH]; exact va_S.rf
  have hl := lv_entry [.ref q, .int p0] (n := 3) (Nat.le_of_ble_eq_true rfl)
  rw [lg_entry_eq]
  generalize (lg_sl [.ref q, .int p0] ++ List.replicate (3 - (lg_sl [.ref q, .int p0]).length) Slot.unset).toArray = ls at hl ⊢
  have hl : lv_has ls 3 [(0, .ref q), (1, .int p0)] := hl
  unfold P_X5_isWorked at h
  obtain ⟨⟨hq, hk⟩, h⟩ := h
  refine lv_aload_n hx hb dX5_isWorked_0 rfl (lv_at hl 0 rfl) ?_
  refine lv_iload_n hx hb dX5_isWorked_1 rfl (lv_at hl 1 rfl) ?_
  refine r_endr (v_source (k9 := p0) (q := q) (rest := []) h ⟨hx, hb, hml, hown, hts⟩ hK hP hD hG hq hk ⟨(show 12 + 1 ≤ 20 + 2 * (f + 1) by omega), (show 8 + (10 + 11) + (200) ≤ 300 + 50 * (f + 1) by omega)⟩ hl.1 rfl (Nat.le_of_ble_eq_true rfl) ⟨Nat.le_of_ble_eq_true rfl, Nat.le_of_ble_eq_true rfl⟩ dX5_isWorked_2) hP hS hA (fun r1 H locs h hP hS => ?_)
  refine lv_astore_n (lv' := [(2, .ref r1), (0, .ref q), (1, .int p0)]) hx hb dX5_isWorked_5 rfl hl (by decide) rfl (fun ls hl => ?_)
  refine lv_aload_n hx hb dX5_isWorked_6 rfl (lv_at hl 0 rfl) ?_
  refine lv_aload_n hx hb dX5_isWorked_7 rfl (lv_at hl 1 rfl) ?_
  refine lv_acmp_eq (rx := some r1) (ry := some q) (tgt := 21) hx hb dX5_isWorked_8 (by decide) (fun c_8 => ?_) (fun c_8 => ?_)
  · have h := h.1 c_8
    refine lv_iload_n hx hb dX5_isWorked_21 rfl (lv_at hl 2 rfl) ?_
    refine lv_if_lt (tgt := 47) hx hb dX5_isWorked_22 (by decide) (fun c_22 => ?_) (fun c_22 => ?_)
    · have h := h.1 c_22
      refine lv_iconst (v := 0) hx hb dX5_isWorked_47 (by decide) ?_
      exact W.zret (v := 0) hx hb hr (by decide) (fun t ht hW => ⟨⟨_, (), rfl, h, trivial⟩, hS.F ht⟩) hS.2.2 dX5_isWorked_48
    · have h := h.2 c_22
      refine lv_iload_n hx hb dX5_isWorked_25 rfl (lv_at hl 2 rfl) ?_
      refine lv_aload_n hx hb dX5_isWorked_26 rfl (lv_at hl 1 rfl) ?_
      obtain ⟨q2, e3, h⟩ := h
      refine c_getZ2 hx hb hts hown hK hP hq hk e3 (hts _ mwC_104) dX5_isWorked_27 ?_
      obtain ⟨⟨hm4, hk5⟩, h⟩ := h
      refine c_alen hx hb hK hP hm4 (Or.inr (Or.inl hk5)) dX5_isWorked_30 ?_
      refine lv_icmp_ge (tgt := 47) hx hb dX5_isWorked_31 (by decide) (fun c_31 => ?_) (fun c_31 => ?_)
      · have h := h.1 c_31
        refine lv_iconst (v := 0) hx hb dX5_isWorked_47 (by decide) ?_
        exact W.zret (v := 0) hx hb hr (by decide) (fun t ht hW => ⟨⟨_, (), rfl, h, trivial⟩, hS.F ht⟩) hS.2.2 dX5_isWorked_48
      · have h := h.2 c_31
        refine lv_aload_n hx hb dX5_isWorked_34 rfl (lv_at hl 1 rfl) ?_
        refine c_getZ2 hx hb hts hown hK hP hq hk e3 (hts _ mwC_104) dX5_isWorked_35 ?_
        refine lv_iload_n hx hb dX5_isWorked_38 rfl (lv_at hl 2 rfl) ?_
        obtain ⟨hi6, h⟩ := h
        refine c_bald hx hb hK hP hm4 hk5 hi6 dX5_isWorked_39 ?_
        refine lv_if_eq (tgt := 47) hx hb dX5_isWorked_40 (by decide) (fun c_40 => ?_) (fun c_40 => ?_)
        · have h := h.1 c_40
          refine lv_iconst (v := 0) hx hb dX5_isWorked_47 (by decide) ?_
          exact W.zret (v := 0) hx hb hr (by decide) (fun t ht hW => ⟨⟨_, (), rfl, h, trivial⟩, hS.F ht⟩) hS.2.2 dX5_isWorked_48
        · have h := h.2 c_40
          refine lv_iconst (v := 1) hx hb dX5_isWorked_43 (by decide) ?_
          refine lv_goto (tgt := 48) hx hb dX5_isWorked_44 (by decide) ?_
          exact W.zret (v := 1) hx hb hr (by decide) (fun t ht hW => ⟨⟨_, (), rfl, h, trivial⟩, hS.F ht⟩) hS.2.2 dX5_isWorked_48
  · have h := h.2 c_8
    refine lv_aload_n hx hb dX5_isWorked_11 rfl (lv_at hl 0 rfl) ?_
    refine lv_aload_n hx hb dX5_isWorked_12 rfl (lv_at hl 1 rfl) ?_
    refine lv_iload_n hx hb dX5_isWorked_13 rfl (lv_at hl 2 rfl) ?_
    refine r_endi (v_place (k9 := p0) (q := q) (rest := [.ref r1]) h ⟨hx, hb, hml, hown, hts⟩ hK hP hD hG hq hk ⟨(show 12 + 1 ≤ 20 + 2 * (f + 1) by omega), (show 8 + (10 + 11) + (200) ≤ 300 + 50 * (f + 1) by omega)⟩ hl.1 rfl (Nat.le_of_ble_eq_true rfl) ⟨Nat.le_of_ble_eq_true rfl, Nat.le_of_ble_eq_true rfl⟩ dX5_isWorked_14) hP hS hA (fun r7 H locs h hP hS => ?_)
    obtain ⟨⟨hm8, hk9⟩, h⟩ := h
    refine r_endi (c_runZ (rm := ({ frames := 20 + 2 * f, cells := 0, slots := 0, locals := 300 + 50 * f })) (y := yX5_isWorked) (x := ⟨"NeededLists$LazyList", "isWorked", "(I)Z"⟩) (n := 1) (bytes := cX5_isWorked) (maxL := 3) (ret := (some .boolean)) (q := r1) (As := [.int r7]) (rest := []) ⟨hx, hb, hml, hown, hts⟩ (hGs _ _ _ r1 r7 _ h H.size) mwC_105 mwC_106 mwC_107 mwC_22 mwC_108 mwC_109 mwC_110 mwC_111 mwC_112 mwC_113 mwC_114 mwC_115 mwC_116 mwC_117 rfl (by decide +kernel) rfl rfl ⟨(show 20 + 2 * f + 1 ≤ 20 + 2 * (f + 1) by omega), (show 8 + (3 + 11) + (300 + 50 * f) ≤ 300 + 50 * (f + 1) by omega)⟩ hK hP hD hG hm8 hk9 rfl hl.1 rfl (Nat.le_of_ble_eq_true rfl) ⟨Nat.le_of_ble_eq_true rfl, Nat.le_of_ble_eq_true rfl⟩ dX5_isWorked_17) hP hS hA (fun r10 H locs h hP hS => ?_)
    obtain ⟨hz11, h⟩ := h
    exact W.zret (v := r10) hx hb hr hz11 (fun t ht hW => ⟨⟨_, (), rfl, h, trivial⟩, hS.F ht⟩) hS.2.2 dX5_isWorked_20
def P_X5_isWorked_f (sh : Sh) : Nat → ((Nat → Nat → Int32) → (Nat → Nat → Int32) → (Nat → Nat → Int64) → Nat → Int32 → (Int32 → Prop) → Prop)
  | 0 => fun _ _ _ _ _ _ => False
  | f + 1 => P_X5_isWorked sh (P_X5_isWorked_f sh f)
theorem p_X5_isWorked_f (l : Launch) (dC : Nat → ClassId) (dI : Nat → Nat → Nat) (sh : Sh) (f : Nat) : ∀ (ci : Nat → Nat → Int32) (ai : Nat → Nat → Int32) (al : Nat → Nat → Int64) (q : Nat) (k : Int32) (Q : Int32 → Prop), P_X5_isWorked_f sh f ci ai al q k Q → ∀ sz : Nat, Met l yX5_isWorked wmX5_isWorked ({ frames := 20 + 2 * f, cells := 0, slots := 0, locals := 300 + 50 * f }) (va_Pc [.ref q, .int k] (cPre dC dI sh ci ai al sz)) (va_Qi (S := Unit) (fun r _ => Q r) (fun _ _ => True) (va_A [] sz)) 0 0 (va_A [] sz) := by
  induction f with
  | zero => intro ci ai al q k Q h; exact h.elim
  | succ f ih => intro ci ai al q k Q h sz; exact p_X5_isWorked l dC dI sh f ih ci ai al q k Q h sz

abbrev wmX5_tell : List Cond := .code yX5_tell cX5_tell 4 (some .int) :: WC
theorem hd_X5_tell : yX5_tell.cls = RX5 ∧ yX5_tell.cls ≠ "java/lang/invoke/MethodHandle" ∧ yX5_tell.cls ≠ "java/lang/invoke/VarHandle" ∧ (parseMethodDescriptor yX5_tell.desc).map (fun d => d.parameters.length) = some 2 := by decide +kernel
def P_X5_tell (sh : Sh) (ci : Nat → Nat → Int32) (ai : Nat → Nat → Int32) (al : Nat → Nat → Int64) (q : Nat) (p0 : Int32) (p1 : Int64) (Q : Int32 → (Nat → Nat → Int32) → (Nat → Nat → Int32) → (Nat → Nat → Int64) → Prop) : Prop := (q ∈ sL sh ∧ isZ (sK sh q)) ∧ ((p0 < 0) → (Q 3 ci ai al)) ∧ ((¬ p0 < 0) → (∃ q1 : Nat, sR sh q 1 = some q1 ∧ (q1 ∈ sL sh ∧ sK sh q1 = 22) ∧ ((p0 < (nI (sN sh q1))) → (vp_in p0 (sN sh q1) ∧ Q 1 ci ai (va_up al q1 (vp_updL (al q1) p0.toNatClampNeg p1)))) ∧ ((¬ p0 < (nI (sN sh q1))) → (Q 3 ci ai al))))
set_option maxHeartbeats 4000000 in
set_option maxRecDepth 100000 in
theorem p_X5_tell (l : Launch) (dC : Nat → ClassId) (dI : Nat → Nat → Nat) (sh : Sh) (ci : Nat → Nat → Int32) (ai : Nat → Nat → Int32) (al : Nat → Nat → Int64) (q : Nat) (p0 : Int32) (p1 : Int64) (Q : Int32 → (Nat → Nat → Int32) → (Nat → Nat → Int32) → (Nat → Nat → Int64) → Prop) (h : P_X5_tell sh ci ai al q p0 p1 Q) (sz : Nat) : Met l yX5_tell wmX5_tell ({ frames := 4, cells := 0, slots := 0, locals := 60 }) (va_Pc [.ref q, .int p0, .long p1] (cPre dC dI sh ci ai al sz)) (va_Qi (S := CSt) (cI Q) (cB dC dI sh (va_A (cW sh ci ai al) sz)) (va_A (cW sh ci ai al) sz)) 0 0 (va_A (cW sh ci ai al) sz) := by
  refine Met.ofW (cc := cX5_tell) (maxL := 4) (ret := (some .int)) (by decide) rfl ?_
  intro p e s m args below meth c s₁ B hml hv
  obtain ⟨rfl, hsz, hP, hK, hD0, hG⟩ := hv
  have hx := B.exec
  have hb := B.bytes
  have hr := B.returns
  have hts : ∀ w ∈ WC, w.before _ s = true := fun w h => atoms_spec (ws := wmX5_tell) B.pre w (List.mem_cons_of_mem _ h)
  have hown : s.vm.findClass RX5 = some m.cls := findClass_of_methodNamed B.named
  have hlocks := B.notSynchronized
  subst hsz
  have hD := hD0.self (sz := s.heap.size)
  generalize hAe : va_A (cW sh ci ai al) s.heap.size = A at hD ⊢
  have hA : ∀ q : Nat, s.heap.size ≤ q → A q := fun q h => by rw [← hAe]; exact Or.inr h
  generalize hH : s.heap = H at hP ⊢
  have hS : va_S A s.heap H [] := by rw [← hH]; exact va_S.rf
  have hl := lv_entry [.ref q, .int p0, .long p1] (n := 4) (Nat.le_of_ble_eq_true rfl)
  rw [lg_entry_eq]
  generalize (lg_sl [.ref q, .int p0, .long p1] ++ List.replicate (4 - (lg_sl [.ref q, .int p0, .long p1]).length) Slot.unset).toArray = ls at hl ⊢
  have hl : lv_has ls 4 [(0, .ref q), (1, .int p0), (2, .long p1)] := hl
  unfold P_X5_tell at h
  obtain ⟨⟨hq, hk⟩, h⟩ := h
  refine lv_iload_n hx hb dX5_tell_0 rfl (lv_at hl 1 rfl) ?_
  refine lv_if_lt (tgt := 13) hx hb dX5_tell_1 (by decide) (fun c_1 => ?_) (fun c_1 => ?_)
  · have h := h.1 c_1
    refine lv_iconst (v := 3) hx hb dX5_tell_13 (by decide) ?_
    exact W.iret (v := 3) hx hb hr (fun t ht hW => ⟨⟨_, (ci, ai, al), rfl, h, by rw [ht]; exact hP, cK.moved hW.alike hK, hD⟩, hS.F ht⟩) hS.2.2 dX5_tell_14
  · have h := h.2 c_1
    refine lv_iload_n hx hb dX5_tell_4 rfl (lv_at hl 1 rfl) ?_
    refine lv_aload_n hx hb dX5_tell_5 rfl (lv_at hl 0 rfl) ?_
    obtain ⟨q1, e2, h⟩ := h
    refine c_getZ1 hx hb hts hown hK hP hq hk e2 (hts _ mwC_90) dX5_tell_6 ?_
    obtain ⟨⟨hm3, hk4⟩, h⟩ := h
    refine c_alen hx hb hK hP hm3 (Or.inr (Or.inr (Or.inl hk4))) dX5_tell_9 ?_
    refine lv_icmp_lt (tgt := 15) hx hb dX5_tell_10 (by decide) (fun c_10 => ?_) (fun c_10 => ?_)
    · have h := h.1 c_10
      refine lv_aload_n hx hb dX5_tell_15 rfl (lv_at hl 0 rfl) ?_
      refine c_getZ1 hx hb hts hown hK hP hq hk e2 (hts _ mwC_90) dX5_tell_16 ?_
      refine lv_iload_n hx hb dX5_tell_19 rfl (lv_at hl 1 rfl) ?_
      refine lv_lload_n hx hb dX5_tell_20 rfl (lv_at hl 2 rfl) ?_
      obtain ⟨hi5, h⟩ := h
      refine c_last hx hb hK hP hD hS hm3 hk4 hi5 dX5_tell_21 (fun H locs hP hD hS => ?_)
      refine lv_iconst (v := 1) hx hb dX5_tell_22 (by decide) ?_
      exact W.iret (v := 1) hx hb hr (fun t ht hW => ⟨⟨_, (ci, ai, va_up al q1 (vp_updL (al q1) p0.toNatClampNeg p1)), rfl, h, by rw [ht]; exact hP, cK.moved hW.alike hK, hD⟩, hS.F ht⟩) hS.2.2 dX5_tell_23
    · have h := h.2 c_10
      refine lv_iconst (v := 3) hx hb dX5_tell_13 (by decide) ?_
      exact W.iret (v := 3) hx hb hr (fun t ht hW => ⟨⟨_, (ci, ai, al), rfl, h, by rw [ht]; exact hP, cK.moved hW.alike hK, hD⟩, hS.F ht⟩) hS.2.2 dX5_tell_14

abbrev wmX5_tellOp : List Cond := .code yX5_tellOp cX5_tellOp 7 (some .int) :: WC
theorem hd_X5_tellOp : yX5_tellOp.cls = RX5 ∧ yX5_tellOp.cls ≠ "java/lang/invoke/MethodHandle" ∧ yX5_tellOp.cls ≠ "java/lang/invoke/VarHandle" ∧ (parseMethodDescriptor yX5_tellOp.desc).map (fun d => d.parameters.length) = some 4 := by decide +kernel
def P_X5_tellOp (sh : Sh) (ci : Nat → Nat → Int32) (ai : Nat → Nat → Int32) (al : Nat → Nat → Int64) (q : Nat) (p0 : Int32) (p1 : Int32) (p2 : Int64) (p3 : Int64) (Q : Int32 → (Nat → Nat → Int32) → (Nat → Nat → Int32) → (Nat → Nat → Int64) → Prop) : Prop := (q ∈ sL sh ∧ isZ (sK sh q)) ∧ P_X11_dividesByNone p1 p3 (fun r1 => ((r1 = 0) → (P_X11_reckon p1 p2 p3 (fun r2 => P_X5_tell sh ci ai al q p0 r2 (fun r3 ci3 ai3 al3 => Q r3 ci3 ai3 al3)))) ∧ ((¬ r1 = 0) → (Q 5 ci ai al)))
set_option maxHeartbeats 4000000 in
set_option maxRecDepth 100000 in
theorem p_X5_tellOp (l : Launch) (dC : Nat → ClassId) (dI : Nat → Nat → Nat) (sh : Sh) (ci : Nat → Nat → Int32) (ai : Nat → Nat → Int32) (al : Nat → Nat → Int64) (q : Nat) (p0 : Int32) (p1 : Int32) (p2 : Int64) (p3 : Int64) (Q : Int32 → (Nat → Nat → Int32) → (Nat → Nat → Int32) → (Nat → Nat → Int64) → Prop) (h : P_X5_tellOp sh ci ai al q p0 p1 p2 p3 Q) (sz : Nat) : Met l yX5_tellOp wmX5_tellOp ({ frames := 40, cells := 0, slots := 0, locals := 600 }) (va_Pc [.ref q, .int p0, .int p1, .long p2, .long p3] (cPre dC dI sh ci ai al sz)) (va_Qi (S := CSt) (cI Q) (cB dC dI sh (va_A (cW sh ci ai al) sz)) (va_A (cW sh ci ai al) sz)) 0 0 (va_A (cW sh ci ai al) sz) := by
  refine Met.ofW (cc := cX5_tellOp) (maxL := 7) (ret := (some .int)) (by decide) rfl ?_
  intro p e s m args below meth c s₁ B hml hv
  obtain ⟨rfl, hsz, hP, hK, hD0, hG⟩ := hv
  have hx := B.exec
  have hb := B.bytes
  have hr := B.returns
  have hts : ∀ w ∈ WC, w.before _ s = true := fun w h => atoms_spec (ws := wmX5_tellOp) B.pre w (List.mem_cons_of_mem _ h)
  have hown : s.vm.findClass RX5 = some m.cls := findClass_of_methodNamed B.named
  have hlocks := B.notSynchronized
  subst hsz
  have hD := hD0.self (sz := s.heap.size)
  generalize hAe : va_A (cW sh ci ai al) s.heap.size = A at hD ⊢
  have hA : ∀ q : Nat, s.heap.size ≤ q → A q := fun q h => by rw [← hAe]; exact Or.inr h
  generalize hH : s.heap = H at hP ⊢
  have hS : va_S A s.heap H [] := by rw [← hH]; exact va_S.rf
  have hl := lv_entry [.ref q, .int p0, .int p1, .long p2, .long p3] (n := 7) (Nat.le_of_ble_eq_true rfl)
  rw [lg_entry_eq]
  generalize (lg_sl [.ref q, .int p0, .int p1, .long p2, .long p3] ++ List.replicate (7 - (lg_sl [.ref q, .int p0, .int p1, .long p2, .long p3]).length) Slot.unset).toArray = ls at hl ⊢
  have hl : lv_has ls 7 [(0, .ref q), (1, .int p0), (2, .int p1), (3, .long p2), (5, .long p3)] := hl
  unfold P_X5_tellOp at h
  obtain ⟨⟨hq, hk⟩, h⟩ := h
  refine lv_iload_n hx hb dX5_tellOp_0 rfl (lv_at hl 2 rfl) ?_
  refine lv_lload hx hb dX5_tellOp_1 (lv_at hl 4 rfl) ?_
  refine r_endi (va_runSN (host := "NeededLists") (rm := ({ frames := 4, cells := 0, slots := 0, locals := 60 })) (As := [.int p1, .long p3]) (rest := []) ⟨hx, hb, hml, hown, hts⟩ (p_X11_dividesByNone l dC dI p1 p3 _ h H.size) ⟨va_cnB 2 hts (g_C gdC mwC_118) rfl rfl rfl hG.dbn (hts _ mwC_119) hd_X11_dividesByNone ⟨Nat.le_of_ble_eq_true rfl, Nat.le_of_ble_eq_true rfl⟩, hts _ mwC_120, trivial⟩ ⟨s_blind, fun U hU hW => ⟨rfl, congrArg Array.size hU⟩⟩ rfl rfl hl.1 rfl (lv_room (Nat.le_of_ble_eq_true rfl)) dX5_tellOp_3 ⟨Nat.le_of_ble_eq_true rfl, Nat.le_of_ble_eq_true rfl⟩) hP hS hA (fun r1 H locs h hP hS => ?_)
  refine lv_if_eq (tgt := 13) hx hb dX5_tellOp_6 (by decide) (fun c_6 => ?_) (fun c_6 => ?_)
  · have h := h.1 c_6
    refine lv_aload_n hx hb dX5_tellOp_13 rfl (lv_at hl 0 rfl) ?_
    refine lv_iload_n hx hb dX5_tellOp_14 rfl (lv_at hl 1 rfl) ?_
    refine lv_iload_n hx hb dX5_tellOp_15 rfl (lv_at hl 2 rfl) ?_
    refine lv_lload_n hx hb dX5_tellOp_16 rfl (lv_at hl 3 rfl) ?_
    refine lv_lload hx hb dX5_tellOp_17 (lv_at hl 4 rfl) ?_
    refine r_endl (va_runSN (host := "NeededLists") (rm := ({ frames := 8, cells := 0, slots := 0, locals := 120 })) (As := [.int p1, .long p2, .long p3]) (rest := [.int p0, .ref q]) ⟨hx, hb, hml, hown, hts⟩ (p_X11_reckon l dC dI p1 p2 p3 _ h H.size) ⟨va_cnB 3 hts (g_C gdC mwC_121) rfl rfl rfl hG.rck (hts _ mwC_119) hd_X11_reckon ⟨Nat.le_of_ble_eq_true rfl, Nat.le_of_ble_eq_true rfl⟩, hts _ mwC_122, trivial⟩ ⟨s_blind, fun U hU hW => ⟨rfl, congrArg Array.size hU⟩⟩ rfl rfl hl.1 rfl (lv_room (Nat.le_of_ble_eq_true rfl)) dX5_tellOp_19 ⟨Nat.le_of_ble_eq_true rfl, Nat.le_of_ble_eq_true rfl⟩) hP hS hA (fun r2 H locs h hP hS => ?_)
    refine c_endi (c_runZ (rm := ({ frames := 4, cells := 0, slots := 0, locals := 60 })) (y := yX5_tell) (x := ⟨"NeededLists$LazyList", "tell", "(IJ)I"⟩) (n := 2) (bytes := cX5_tell) (maxL := 4) (ret := (some .int)) (q := q) (As := [.int p0, .long r2]) (rest := []) ⟨hx, hb, hml, hown, hts⟩ (p_X5_tell l dC dI sh _ _ _ q p0 r2 _ h H.size) mwC_123 mwC_124 mwC_125 mwC_22 mwC_126 mwC_127 mwC_128 mwC_129 mwC_130 mwC_131 mwC_132 mwC_133 mwC_134 mwC_135 rfl (by decide +kernel) rfl rfl ⟨Nat.le_of_ble_eq_true rfl, Nat.le_of_ble_eq_true rfl⟩ hK hP hD hG hq hk rfl hl.1 rfl (Nat.le_of_ble_eq_true rfl) ⟨Nat.le_of_ble_eq_true rfl, Nat.le_of_ble_eq_true rfl⟩ dX5_tellOp_22) hD hS hA (fun r3 ci3 ai3 al3 H locs h hP hD hS => ?_)
    exact W.iret (v := r3) hx hb hr (fun t ht hW => ⟨⟨_, (ci3, ai3, al3), rfl, h, by rw [ht]; exact hP, cK.moved hW.alike hK, hD⟩, hS.F ht⟩) hS.2.2 dX5_tellOp_25
  · have h := h.2 c_6
    refine lv_iconst (v := 5) hx hb dX5_tellOp_9 (by decide) ?_
    refine lv_goto (tgt := 25) hx hb dX5_tellOp_10 (by decide) ?_
    exact W.iret (v := 5) hx hb hr (fun t ht hW => ⟨⟨_, (ci, ai, al), rfl, h, by rw [ht]; exact hP, cK.moved hW.alike hK, hD⟩, hS.F ht⟩) hS.2.2 dX5_tellOp_25

abbrev wmX10_lets : List Cond := .code yX10_lets cX10_lets 5 (some .boolean) :: WC
theorem hd_X10_lets : yX10_lets.cls = RX10 ∧ yX10_lets.cls ≠ "java/lang/invoke/MethodHandle" ∧ yX10_lets.cls ≠ "java/lang/invoke/VarHandle" ∧ (parseMethodDescriptor yX10_lets.desc).map (fun d => d.parameters.length) = some 2 := by decide +kernel
def B_X10_lets_24 (sh : Sh) (ci : Nat → Nat → Int32) (ai : Nat → Nat → Int32) (al : Nat → Nat → Int64)  (K24 : Int64 → Int32 → Int32 → Prop) (Q : Int32 → Prop) (q : Nat) (x1 : Int64) (x3 : Int32) (x4 : Int32) : Prop := ((x3 ≤ x4) → (Q 1)) ∧ ((¬ x3 ≤ x4) → (P_X5_number_f sh 30 ci ai al q x4 (fun r1 => ((¬ (lg_cmp r1 x1) = 0) → (K24  x1 x3 (x4 + 1))) ∧ (((lg_cmp r1 x1) = 0) → (Q 0)))))
def P_X10_lets_24 (sh : Sh) (ci : Nat → Nat → Int32) (ai : Nat → Nat → Int32) (al : Nat → Nat → Int64)  (Q : Int32 → Prop) (q : Nat) : Nat → Int64 → Int32 → Int32 → Prop
  | 0 => fun _ _ _ => False
  | n + 1 => B_X10_lets_24 sh ci ai al  (P_X10_lets_24 sh ci ai al  Q q n) Q q
set_option maxHeartbeats 4000000 in
set_option maxRecDepth 100000 in
theorem b_X10_lets_24 {p : Program} {l : Launch} {e : Env} {s : State} {m : MethodId} {args : Array Value} {below : List Frame} {meth : Method} {c : Code} {A : Nat → Prop} {dC : Nat → ClassId} {dI : Nat → Nat → Nat} {sh : Sh} {q : Nat} {ci : Nat → Nat → Int32} {ai : Nat → Nat → Int32} {al : Nat → Nat → Int64}  {K24 : Int64 → Int32 → Int32 → Prop} {Q : Int32 → Prop} (hx : p.tables.exec = Jvm.exec) (hb : c.code = cX10_lets) (hr : meth.sig.returnType = (some .boolean)) (hts : ∀ w ∈ WC, w.before args s = true) (hown : s.vm.findClass RX10 = some m.cls) (hlocks : meth.locks = false) (hml : c.maxLocals = 5) (hA : ∀ q : Nat, s.heap.size ≤ q → A q) (hK : cK dC dI sh s) (hG : Gc s) (hq : q ∈ sL sh) (hk : sK sh q = 9) (hD : va_D (fun _ => True) (cW sh ci ai al))  (hK24 : ∀ (x1 : Int64) (x3 : Int32) (x4 : Int32) (H : Heap) (locs : List Loc) (ls : Array Slot), K24 x1 x3 x4 → va_P (dC, dI) vwCl (cW sh ci ai al) H → va_S A s.heap H locs → lv_has ls 5 [(0, .ref q), (1, .long x1), (3, .int x3), (4, .int x4)] → W p l e (headSpec wmX10_lets ({ frames := 120, cells := 0, slots := 0, locals := 2400 })).room s m args below meth c H locs 0 0 (MQ below (va_Qi (S := Unit) (fun r _ => Q r) (fun _ _ => True) A) args s 0 0 A) (F0 m 24 ls [])) : ∀ (x1 : Int64) (x3 : Int32) (x4 : Int32) (H : Heap) (locs : List Loc) (ls : Array Slot), B_X10_lets_24 sh ci ai al  K24 Q q x1 x3 x4 → va_P (dC, dI) vwCl (cW sh ci ai al) H → va_S A s.heap H locs → lv_has ls 5 [(0, .ref q), (1, .long x1), (3, .int x3), (4, .int x4)] → W p l e (headSpec wmX10_lets ({ frames := 120, cells := 0, slots := 0, locals := 2400 })).room s m args below meth c H locs 0 0 (MQ below (va_Qi (S := Unit) (fun r _ => Q r) (fun _ _ => True) A) args s 0 0 A) (F0 m 24 ls []) := by
  intro x1 x3 x4 H locs ls h hP hS hl
  unfold B_X10_lets_24 at h
  refine lv_iload hx hb dX10_lets_24 (lv_at hl 3 rfl) ?_
  refine lv_iload_n hx hb dX10_lets_26 rfl (lv_at hl 2 rfl) ?_
  refine lv_icmp_ge (tgt := 49) hx hb dX10_lets_27 (by decide) (fun c_27 => ?_) (fun c_27 => ?_)
  · have h := h.1 c_27
    refine lv_iconst (v := 1) hx hb dX10_lets_49 (by decide) ?_
    exact W.zret (v := 1) hx hb hr (by decide) (fun t ht hW => ⟨⟨_, (), rfl, h, trivial⟩, hS.F ht⟩) hS.2.2 dX10_lets_50
  · have h := h.2 c_27
    refine lv_aload_n hx hb dX10_lets_30 rfl (lv_at hl 0 rfl) ?_
    refine lv_iload hx hb dX10_lets_31 (lv_at hl 3 rfl) ?_
    refine r_endl (va_runU (C := RX10) (owner := "NeededLists$LazyList") (rm := ({ frames := 20 + 2 * 30, cells := 0, slots := 0, locals := 300 + 50 * 30 })) (As := [.int x4]) (rest := []) ⟨hx, hb, hml, hown, hts⟩ (p_X5_number_f l dC dI sh 30 _ _ _ q x4 _ h H.size) (va_cwU (x := ⟨"NeededLists$Sieve", "number", "(I)J"⟩) 1 hts (g_U gdC mwC_140 mwC_141 mwC_142 mwC_93 mwC_22 mwC_94) rfl rfl rfl rfl ⟨by decide, by decide, by decide +kernel⟩ ⟨(show 20 + 2 * 30 + 1 ≤ 120 by omega), (show 8 + (3 + 11) + (300 + 50 * 30) ≤ 2400 by omega)⟩) (c_preV (vc := (RX10, TX10, 9)) hK hP hD hG hq hk (by decide) rfl) rfl rfl hl.1 rfl (lv_room (Nat.le_of_ble_eq_true rfl)) dX10_lets_33 ⟨Nat.le_of_ble_eq_true rfl, Nat.le_of_ble_eq_true rfl⟩) hP hS hA (fun r1 H locs h hP hS => ?_)
    refine lv_lload_n hx hb dX10_lets_36 rfl (lv_at hl 1 rfl) ?_
    refine W.lcmp hx hb dX10_lets_37 ?_
    refine lv_if_ne (tgt := 43) hx hb dX10_lets_38 (by decide) (fun c_38 => ?_) (fun c_38 => ?_)
    · have h := h.1 c_38
      refine lv_iinc (v := x4 + 1) (lv' := [(4, .int (x4 + 1)), (0, .ref q), (1, .long x1), (3, .int x3)]) hx hb dX10_lets_43 hl (k := 3) rfl (iinc_1 _) (by decide) rfl (fun ls hl => ?_)
      refine lv_goto (tgt := 24) hx hb dX10_lets_46 (by decide) ?_
      exact hK24 _ _ _ H _ ls h hP hS (lv_sub hl [1, 2, 3, 0] rfl)
    · have h := h.2 c_38
      refine lv_iconst (v := 0) hx hb dX10_lets_41 (by decide) ?_
      exact W.zret (v := 0) hx hb hr (by decide) (fun t ht hW => ⟨⟨_, (), rfl, h, trivial⟩, hS.F ht⟩) hS.2.2 dX10_lets_42
set_option maxHeartbeats 4000000 in
set_option maxRecDepth 100000 in
theorem t_X10_lets_24 {p : Program} {l : Launch} {e : Env} {s : State} {m : MethodId} {args : Array Value} {below : List Frame} {meth : Method} {c : Code} {A : Nat → Prop} {dC : Nat → ClassId} {dI : Nat → Nat → Nat} {sh : Sh} {q : Nat} {ci : Nat → Nat → Int32} {ai : Nat → Nat → Int32} {al : Nat → Nat → Int64}  {Q : Int32 → Prop} (hx : p.tables.exec = Jvm.exec) (hb : c.code = cX10_lets) (hr : meth.sig.returnType = (some .boolean)) (hts : ∀ w ∈ WC, w.before args s = true) (hown : s.vm.findClass RX10 = some m.cls) (hlocks : meth.locks = false) (hml : c.maxLocals = 5) (hA : ∀ q : Nat, s.heap.size ≤ q → A q) (hK : cK dC dI sh s) (hG : Gc s) (hq : q ∈ sL sh) (hk : sK sh q = 9) (hD : va_D (fun _ => True) (cW sh ci ai al))  : ∀ n : Nat, ∀ (x1 : Int64) (x3 : Int32) (x4 : Int32) (H : Heap) (locs : List Loc) (ls : Array Slot), P_X10_lets_24 sh ci ai al  Q q n x1 x3 x4 → va_P (dC, dI) vwCl (cW sh ci ai al) H → va_S A s.heap H locs → lv_has ls 5 [(0, .ref q), (1, .long x1), (3, .int x3), (4, .int x4)] → W p l e (headSpec wmX10_lets ({ frames := 120, cells := 0, slots := 0, locals := 2400 })).room s m args below meth c H locs 0 0 (MQ below (va_Qi (S := Unit) (fun r _ => Q r) (fun _ _ => True) A) args s 0 0 A) (F0 m 24 ls []) := by
  intro n
  induction n with
  | zero => intro x1 x3 x4 H locs ls h; exact h.elim
  | succ n ih => exact b_X10_lets_24 hx hb hr hts hown hlocks hml hA hK hG hq hk hD  ih
def P_X10_lets (sh : Sh) (ci : Nat → Nat → Int32) (ai : Nat → Nat → Int32) (al : Nat → Nat → Int64) (q : Nat) (p0 : Int64) (p1 : Int32) (Q : Int32 → Prop) : Prop := (q ∈ sL sh ∧ sK sh q = 9) ∧ (((ci q 6) = (-1)) → (∃ n9 : Nat, P_X10_lets_24 sh ci ai al  Q q n9  p0 p1 (0 : Int32))) ∧ ((¬ (ci q 6) = (-1)) → (P_X11_meets (ci q 6) p0 (sJ sh q 7) (fun r1 => narrow .boolean (.int r1) = .int r1 ∧ Q r1)))
set_option maxHeartbeats 4000000 in
set_option maxRecDepth 100000 in
theorem p_X10_lets (l : Launch) (dC : Nat → ClassId) (dI : Nat → Nat → Nat) (sh : Sh) (ci : Nat → Nat → Int32) (ai : Nat → Nat → Int32) (al : Nat → Nat → Int64) (q : Nat) (p0 : Int64) (p1 : Int32) (Q : Int32 → Prop) (h : P_X10_lets sh ci ai al q p0 p1 Q) (sz : Nat) : Met l yX10_lets wmX10_lets ({ frames := 120, cells := 0, slots := 0, locals := 2400 }) (va_Pc [.ref q, .long p0, .int p1] (cPre dC dI sh ci ai al sz)) (va_Qi (S := Unit) (fun r _ => Q r) (fun _ _ => True) (va_A [] sz)) 0 0 (va_A [] sz) := by
  refine Met.ofW (cc := cX10_lets) (maxL := 5) (ret := (some .boolean)) (by decide) rfl ?_
  intro p e s m args below meth c s₁ B hml hv
  obtain ⟨rfl, hsz, hP, hK, hD0, hG⟩ := hv
  have hx := B.exec
  have hb := B.bytes
  have hr := B.returns
  have hts : ∀ w ∈ WC, w.before _ s = true := fun w h => atoms_spec (ws := wmX10_lets) B.pre w (List.mem_cons_of_mem _ h)
  have hown : s.vm.findClass RX10 = some m.cls := findClass_of_methodNamed B.named
  have hlocks := B.notSynchronized
  subst hsz
  have hD := hD0
  generalize hAe : va_A [] s.heap.size = A at ⊢
  have hA : ∀ q : Nat, s.heap.size ≤ q → A q := fun q h => by rw [← hAe]; exact Or.inr h
  generalize hH : s.heap = H at hP ⊢
  have hS : va_S A s.heap H [] := by rw [← hH]; exact va_S.rf
  have hl := lv_entry [.ref q, .long p0, .int p1] (n := 5) (Nat.le_of_ble_eq_true rfl)
  rw [lg_entry_eq]
  generalize (lg_sl [.ref q, .long p0, .int p1] ++ List.replicate (5 - (lg_sl [.ref q, .long p0, .int p1]).length) Slot.unset).toArray = ls at hl ⊢
  have hl : lv_has ls 5 [(0, .ref q), (1, .long p0), (3, .int p1)] := hl
  unfold P_X10_lets at h
  obtain ⟨⟨hq, hk⟩, h⟩ := h
  refine lv_aload_n hx hb dX10_lets_0 rfl (lv_at hl 0 rfl) ?_
  refine c_get (C := RX10) (T := TX10) (N := 9) (K := 9) (v := .int (ci q 6)) hx hb hts hinX10 hown hK hP hq hk (by decide) rfl 6 (by decide) (hts _ mwC_136) (fun _ h9 => h9) rfl dX10_lets_1 ?_
  refine lv_iconst (v := (-1)) hx hb dX10_lets_4 (by decide) ?_
  refine lv_icmp_eq (tgt := 21) hx hb dX10_lets_5 (by decide) (fun c_5 => ?_) (fun c_5 => ?_)
  · have h := h.1 c_5
    refine lv_iconst (v := 0) hx hb dX10_lets_21 (by decide) ?_
    refine lv_istore (lv' := [(4, .int 0), (0, .ref q), (1, .long p0), (3, .int p1)]) hx hb dX10_lets_22 hl (by decide) rfl (fun ls hl => ?_)
    obtain ⟨n9, h⟩ := h
    exact t_X10_lets_24 hx hb hr hts hown hlocks hml hA hK hG hq hk hD  n9 _ _ _ H _ ls h hP hS (lv_sub hl [1, 2, 3, 0] rfl)
  · have h := h.2 c_5
    refine lv_aload_n hx hb dX10_lets_8 rfl (lv_at hl 0 rfl) ?_
    refine c_get (C := RX10) (T := TX10) (N := 9) (K := 9) (v := .int (ci q 6)) hx hb hts hinX10 hown hK hP hq hk (by decide) rfl 6 (by decide) (hts _ mwC_136) (fun _ h9 => h9) rfl dX10_lets_9 ?_
    refine lv_lload_n hx hb dX10_lets_12 rfl (lv_at hl 1 rfl) ?_
    refine lv_aload_n hx hb dX10_lets_13 rfl (lv_at hl 0 rfl) ?_
    refine c_get (C := RX10) (T := TX10) (N := 9) (K := 9) (v := .long (sJ sh q 7)) hx hb hts hinX10 hown hK hP hq hk (by decide) rfl 7 (by decide) (hts _ mwC_137) (fun _ h9 => h9) rfl dX10_lets_14 ?_
    refine r_endi (va_runSN (host := "NeededLists") (rm := ({ frames := 4, cells := 0, slots := 0, locals := 60 })) (As := [.int (ci q 6), .long p0, .long (sJ sh q 7)]) (rest := []) ⟨hx, hb, hml, hown, hts⟩ (p_X11_meets l dC dI (ci q 6) p0 (sJ sh q 7) _ h H.size) ⟨va_cnB 3 hts (g_C gdC mwC_138) rfl rfl rfl hG.mt10 (hts _ mwC_119) hd_X11_meets ⟨Nat.le_of_ble_eq_true rfl, Nat.le_of_ble_eq_true rfl⟩, hts _ mwC_139, trivial⟩ ⟨s_blind, fun U hU hW => ⟨rfl, congrArg Array.size hU⟩⟩ rfl rfl hl.1 rfl (lv_room (Nat.le_of_ble_eq_true rfl)) dX10_lets_17 ⟨Nat.le_of_ble_eq_true rfl, Nat.le_of_ble_eq_true rfl⟩) hP hS hA (fun r1 H locs h hP hS => ?_)
    obtain ⟨hz2, h⟩ := h
    exact W.zret (v := r1) hx hb hr hz2 (fun t ht hW => ⟨⟨_, (), rfl, h, trivial⟩, hS.F ht⟩) hS.2.2 dX10_lets_20

abbrev wmX7_insertPlace : List Cond := .code yX7_insertPlace cX7_insertPlace 5 none :: WC
theorem hd_X7_insertPlace : yX7_insertPlace.cls = RX7 ∧ yX7_insertPlace.cls ≠ "java/lang/invoke/MethodHandle" ∧ yX7_insertPlace.cls ≠ "java/lang/invoke/VarHandle" ∧ (parseMethodDescriptor yX7_insertPlace.desc).map (fun d => d.parameters.length) = some 1 := by decide +kernel
def B_X7_insertPlace_12 (sh : Sh)  (K12 : (Nat → Nat → Int32) → (Nat → Nat → Int32) → (Nat → Nat → Int64) → Int32 → Int64 → Int32 → Prop) (Q : (Nat → Nat → Int32) → (Nat → Nat → Int32) → (Nat → Nat → Int64) → Prop) (q : Nat) (ci : Nat → Nat → Int32) (ai : Nat → Nat → Int32) (al : Nat → Nat → Int64) (x1 : Int32) (x2 : Int64) (x4 : Int32) : Prop := ((x4 ≤ 0) → ((sR sh q 6 = none → False) ∧ (∀ q1 : Nat, sR sh q 6 = some q1 → ((q1 ∈ sL sh ∧ sK sh q1 = 20) ∧ vp_in x4 (sN sh q1) ∧ Q ci (va_up ai q1 (upd (ai q1) x4.toNatClampNeg x1)) al)))) ∧ ((¬ x4 ≤ 0) → (∃ q6 : Nat, sR sh q 5 = some q6 ∧ ((sR sh q 6 = none → False) ∧ (∀ q8 : Nat, sR sh q 6 = some q8 → ((q8 ∈ sL sh ∧ sK sh q8 = 20) ∧ vp_in (x4 - 1) (sN sh q8) ∧ (q6 ∈ sL sh ∧ isZ (sK sh q6)) ∧ P_X5_number_f sh 30 ci ai al q6 (ai q8 (x4 - 1).toNatClampNeg) (fun r15 => (((lg_cmp r15 x2) ≤ 0) → (vp_in x4 (sN sh q8) ∧ Q ci (va_up ai q8 (upd (ai q8) x4.toNatClampNeg x1)) al)) ∧ ((¬ (lg_cmp r15 x2) ≤ 0) → (vp_in (x4 - 1) (sN sh q8) ∧ vp_in x4 (sN sh q8) ∧ K12 ci (va_up ai q8 (upd (ai q8) x4.toNatClampNeg (ai q8 (x4 - 1).toNatClampNeg))) al x1 x2 (x4 + (-1))))))))))
def P_X7_insertPlace_12 (sh : Sh)  (Q : (Nat → Nat → Int32) → (Nat → Nat → Int32) → (Nat → Nat → Int64) → Prop) (q : Nat) : Nat → (Nat → Nat → Int32) → (Nat → Nat → Int32) → (Nat → Nat → Int64) → Int32 → Int64 → Int32 → Prop
  | 0 => fun _ _ _ _ _ _ => False
  | n + 1 => B_X7_insertPlace_12 sh  (P_X7_insertPlace_12 sh  Q q n) Q q
set_option maxHeartbeats 4000000 in
set_option maxRecDepth 100000 in
theorem b_X7_insertPlace_12 {p : Program} {l : Launch} {e : Env} {s : State} {m : MethodId} {args : Array Value} {below : List Frame} {meth : Method} {c : Code} {A : Nat → Prop} {dC : Nat → ClassId} {dI : Nat → Nat → Nat} {sh : Sh} {q : Nat}  {K12 : (Nat → Nat → Int32) → (Nat → Nat → Int32) → (Nat → Nat → Int64) → Int32 → Int64 → Int32 → Prop} {Q : (Nat → Nat → Int32) → (Nat → Nat → Int32) → (Nat → Nat → Int64) → Prop} (hx : p.tables.exec = Jvm.exec) (hb : c.code = cX7_insertPlace) (hr : meth.sig.returnType = none) (hts : ∀ w ∈ WC, w.before args s = true) (hown : s.vm.findClass RX7 = some m.cls) (hlocks : meth.locks = false) (hml : c.maxLocals = 5) (hA : ∀ q : Nat, s.heap.size ≤ q → A q) (hK : cK dC dI sh s) (hG : Gc s) (hq : q ∈ sL sh) (hk : sK sh q = 6)  (hK12 : ∀ (ci : Nat → Nat → Int32) (ai : Nat → Nat → Int32) (al : Nat → Nat → Int64) (x1 : Int32) (x2 : Int64) (x4 : Int32) (H : Heap) (locs : List Loc) (ls : Array Slot), K12 ci ai al x1 x2 x4 → va_P (dC, dI) vwCl (cW sh ci ai al) H → va_D A (cW sh ci ai al) → va_S A s.heap H locs → lv_has ls 5 [(0, .ref q), (1, .int x1), (2, .long x2), (4, .int x4)] → W p l e (headSpec wmX7_insertPlace ({ frames := 120, cells := 0, slots := 0, locals := 2400 })).room s m args below meth c H locs 0 0 (MQ below (va_Qv (S := CSt) (cV Q) (cB dC dI sh A) A) args s 0 0 A) (F0 m 12 ls [])) : ∀ (ci : Nat → Nat → Int32) (ai : Nat → Nat → Int32) (al : Nat → Nat → Int64) (x1 : Int32) (x2 : Int64) (x4 : Int32) (H : Heap) (locs : List Loc) (ls : Array Slot), B_X7_insertPlace_12 sh  K12 Q q ci ai al x1 x2 x4 → va_P (dC, dI) vwCl (cW sh ci ai al) H → va_D A (cW sh ci ai al) → va_S A s.heap H locs → lv_has ls 5 [(0, .ref q), (1, .int x1), (2, .long x2), (4, .int x4)] → W p l e (headSpec wmX7_insertPlace ({ frames := 120, cells := 0, slots := 0, locals := 2400 })).room s m args below meth c H locs 0 0 (MQ below (va_Qv (S := CSt) (cV Q) (cB dC dI sh A) A) args s 0 0 A) (F0 m 12 ls []) := by
  intro ci ai al x1 x2 x4 H locs ls h hP hD hS hl
  unfold B_X7_insertPlace_12 at h
  refine lv_iload hx hb dX7_insertPlace_12 (lv_at hl 3 rfl) ?_
  refine lv_if_le (tgt := 60) hx hb dX7_insertPlace_14 (by decide) (fun c_14 => ?_) (fun c_14 => ?_)
  · have h := h.1 c_14
    refine lv_aload_n hx hb dX7_insertPlace_60 rfl (lv_at hl 0 rfl) ?_
    rcases e2 : sR sh q 6 with _ | q1
    · have h := h.1 e2
      refine c_get (C := RX7) (T := TX7) (N := 7) (K := 6) (v := .null) hx hb hts hinX7 hown hK hP hq hk (by decide) rfl 6 (by decide) (hts _ mwC_37) (fun _ h9 => h9) (by show some (va_rf (sR sh q 6)) = _; rw [e2]; rfl) dX7_insertPlace_61 ?_
      refine lv_iload hx hb dX7_insertPlace_64 (lv_at hl 3 rfl) ?_
      refine lv_iload_n hx hb dX7_insertPlace_66 rfl (lv_at hl 1 rfl) ?_
      exact h.elim
    · have h := h.2 q1 e2
      refine c_get (C := RX7) (T := TX7) (N := 7) (K := 6) (v := .ref q1) hx hb hts hinX7 hown hK hP hq hk (by decide) rfl 6 (by decide) (hts _ mwC_37) (fun _ h9 => h9) (by show some (va_rf (sR sh q 6)) = _; rw [e2]; rfl) dX7_insertPlace_61 ?_
      refine lv_iload hx hb dX7_insertPlace_64 (lv_at hl 3 rfl) ?_
      refine lv_iload_n hx hb dX7_insertPlace_66 rfl (lv_at hl 1 rfl) ?_
      obtain ⟨⟨hm3, hk4⟩, h⟩ := h
      obtain ⟨hi5, h⟩ := h
      refine c_iast hx hb hK hP hD hS hm3 hk4 hi5 dX7_insertPlace_67 (fun H locs hP hD hS => ?_)
      exact W.vret hx hb hr (fun t ht hW => ⟨⟨(ci, va_up ai q1 (upd (ai q1) x4.toNatClampNeg x1), al), rfl, h, by rw [ht]; exact hP, cK.moved hW.alike hK, hD⟩, hS.F ht⟩) hS.2.2 dX7_insertPlace_68
  · have h := h.2 c_14
    refine lv_aload_n hx hb dX7_insertPlace_17 rfl (lv_at hl 0 rfl) ?_
    obtain ⟨q6, e7, h⟩ := h
    refine c_get (C := RX7) (T := TX7) (N := 7) (K := 6) (v := .ref q6) hx hb hts hinX7 hown hK hP hq hk (by decide) rfl 5 (by decide) (hts _ mwC_34) (fun _ h9 => h9) (by show some (va_rf (sR sh q 5)) = _; rw [e7]; rfl) dX7_insertPlace_18 ?_
    refine lv_aload_n hx hb dX7_insertPlace_21 rfl (lv_at hl 0 rfl) ?_
    rcases e9 : sR sh q 6 with _ | q8
    · have h := h.1 e9
      refine c_get (C := RX7) (T := TX7) (N := 7) (K := 6) (v := .null) hx hb hts hinX7 hown hK hP hq hk (by decide) rfl 6 (by decide) (hts _ mwC_37) (fun _ h9 => h9) (by show some (va_rf (sR sh q 6)) = _; rw [e9]; rfl) dX7_insertPlace_22 ?_
      refine lv_iload hx hb dX7_insertPlace_25 (lv_at hl 3 rfl) ?_
      refine lv_iconst (v := 1) hx hb dX7_insertPlace_27 (by decide) ?_
      refine lv_isub hx hb dX7_insertPlace_28 ?_
      exact h.elim
    · have h := h.2 q8 e9
      refine c_get (C := RX7) (T := TX7) (N := 7) (K := 6) (v := .ref q8) hx hb hts hinX7 hown hK hP hq hk (by decide) rfl 6 (by decide) (hts _ mwC_37) (fun _ h9 => h9) (by show some (va_rf (sR sh q 6)) = _; rw [e9]; rfl) dX7_insertPlace_22 ?_
      refine lv_iload hx hb dX7_insertPlace_25 (lv_at hl 3 rfl) ?_
      refine lv_iconst (v := 1) hx hb dX7_insertPlace_27 (by decide) ?_
      refine lv_isub hx hb dX7_insertPlace_28 ?_
      obtain ⟨⟨hm10, hk11⟩, h⟩ := h
      obtain ⟨hi12, h⟩ := h
      refine c_iald hx hb hK hP hm10 hk11 hi12 dX7_insertPlace_29 ?_
      obtain ⟨⟨hm13, hk14⟩, h⟩ := h
      refine r_endl (c_runZ (rm := ({ frames := 20 + 2 * 30, cells := 0, slots := 0, locals := 300 + 50 * 30 })) (y := yX5_number) (x := ⟨"NeededLists$LazyList", "number", "(I)J"⟩) (n := 1) (bytes := cX5_number) (maxL := 3) (ret := (some .long)) (q := q6) (As := [.int (ai q8 (x4 - 1).toNatClampNeg)]) (rest := []) ⟨hx, hb, hml, hown, hts⟩ (p_X5_number_f l dC dI sh 30 _ _ _ q6 (ai q8 (x4 - 1).toNatClampNeg) _ h H.size) mwC_143 mwC_92 mwC_93 mwC_22 mwC_94 mwC_95 mwC_96 mwC_97 mwC_98 mwC_99 mwC_100 mwC_101 mwC_102 mwC_103 rfl (by decide +kernel) rfl rfl ⟨(show 20 + 2 * 30 + 1 ≤ 120 by omega), (show 8 + (3 + 11) + (300 + 50 * 30) ≤ 2400 by omega)⟩ hK hP hD hG hm13 hk14 rfl hl.1 rfl (Nat.le_of_ble_eq_true rfl) ⟨Nat.le_of_ble_eq_true rfl, Nat.le_of_ble_eq_true rfl⟩ dX7_insertPlace_30) hP hS hA (fun r15 H locs h hP hS => ?_)
      refine lv_lload_n hx hb dX7_insertPlace_33 rfl (lv_at hl 2 rfl) ?_
      refine W.lcmp hx hb dX7_insertPlace_34 ?_
      refine lv_if_le (tgt := 60) hx hb dX7_insertPlace_35 (by decide) (fun c_35 => ?_) (fun c_35 => ?_)
      · have h := h.1 c_35
        refine lv_aload_n hx hb dX7_insertPlace_60 rfl (lv_at hl 0 rfl) ?_
        refine c_get (C := RX7) (T := TX7) (N := 7) (K := 6) (v := .ref q8) hx hb hts hinX7 hown hK hP hq hk (by decide) rfl 6 (by decide) (hts _ mwC_37) (fun _ h9 => h9) (by show some (va_rf (sR sh q 6)) = _; rw [e9]; rfl) dX7_insertPlace_61 ?_
        refine lv_iload hx hb dX7_insertPlace_64 (lv_at hl 3 rfl) ?_
        refine lv_iload_n hx hb dX7_insertPlace_66 rfl (lv_at hl 1 rfl) ?_
        obtain ⟨hi16, h⟩ := h
        refine c_iast hx hb hK hP hD hS hm10 hk11 hi16 dX7_insertPlace_67 (fun H locs hP hD hS => ?_)
        exact W.vret hx hb hr (fun t ht hW => ⟨⟨(ci, va_up ai q8 (upd (ai q8) x4.toNatClampNeg x1), al), rfl, h, by rw [ht]; exact hP, cK.moved hW.alike hK, hD⟩, hS.F ht⟩) hS.2.2 dX7_insertPlace_68
      · have h := h.2 c_35
        refine lv_aload_n hx hb dX7_insertPlace_38 rfl (lv_at hl 0 rfl) ?_
        refine c_get (C := RX7) (T := TX7) (N := 7) (K := 6) (v := .ref q8) hx hb hts hinX7 hown hK hP hq hk (by decide) rfl 6 (by decide) (hts _ mwC_37) (fun _ h9 => h9) (by show some (va_rf (sR sh q 6)) = _; rw [e9]; rfl) dX7_insertPlace_39 ?_
        refine lv_iload hx hb dX7_insertPlace_42 (lv_at hl 3 rfl) ?_
        refine lv_aload_n hx hb dX7_insertPlace_44 rfl (lv_at hl 0 rfl) ?_
        refine c_get (C := RX7) (T := TX7) (N := 7) (K := 6) (v := .ref q8) hx hb hts hinX7 hown hK hP hq hk (by decide) rfl 6 (by decide) (hts _ mwC_37) (fun _ h9 => h9) (by show some (va_rf (sR sh q 6)) = _; rw [e9]; rfl) dX7_insertPlace_45 ?_
        refine lv_iload hx hb dX7_insertPlace_48 (lv_at hl 3 rfl) ?_
        refine lv_iconst (v := 1) hx hb dX7_insertPlace_50 (by decide) ?_
        refine lv_isub hx hb dX7_insertPlace_51 ?_
        obtain ⟨hi17, h⟩ := h
        refine c_iald hx hb hK hP hm10 hk11 hi17 dX7_insertPlace_52 ?_
        obtain ⟨hi18, h⟩ := h
        refine c_iast hx hb hK hP hD hS hm10 hk11 hi18 dX7_insertPlace_53 (fun H locs hP hD hS => ?_)
        refine lv_iinc (v := x4 + (-1)) (lv' := [(4, .int (x4 + (-1))), (0, .ref q), (1, .int x1), (2, .long x2)]) hx hb dX7_insertPlace_54 hl (k := 3) rfl (iinc_m1 _) (by decide) rfl (fun ls hl => ?_)
        refine lv_goto (tgt := 12) hx hb dX7_insertPlace_57 (by decide) ?_
        exact hK12 _ _ _ _ _ _ H _ ls h hP hD hS (lv_sub hl [1, 2, 3, 0] rfl)
set_option maxHeartbeats 4000000 in
set_option maxRecDepth 100000 in
theorem t_X7_insertPlace_12 {p : Program} {l : Launch} {e : Env} {s : State} {m : MethodId} {args : Array Value} {below : List Frame} {meth : Method} {c : Code} {A : Nat → Prop} {dC : Nat → ClassId} {dI : Nat → Nat → Nat} {sh : Sh} {q : Nat}  {Q : (Nat → Nat → Int32) → (Nat → Nat → Int32) → (Nat → Nat → Int64) → Prop} (hx : p.tables.exec = Jvm.exec) (hb : c.code = cX7_insertPlace) (hr : meth.sig.returnType = none) (hts : ∀ w ∈ WC, w.before args s = true) (hown : s.vm.findClass RX7 = some m.cls) (hlocks : meth.locks = false) (hml : c.maxLocals = 5) (hA : ∀ q : Nat, s.heap.size ≤ q → A q) (hK : cK dC dI sh s) (hG : Gc s) (hq : q ∈ sL sh) (hk : sK sh q = 6)  : ∀ n : Nat, ∀ (ci : Nat → Nat → Int32) (ai : Nat → Nat → Int32) (al : Nat → Nat → Int64) (x1 : Int32) (x2 : Int64) (x4 : Int32) (H : Heap) (locs : List Loc) (ls : Array Slot), P_X7_insertPlace_12 sh  Q q n ci ai al x1 x2 x4 → va_P (dC, dI) vwCl (cW sh ci ai al) H → va_D A (cW sh ci ai al) → va_S A s.heap H locs → lv_has ls 5 [(0, .ref q), (1, .int x1), (2, .long x2), (4, .int x4)] → W p l e (headSpec wmX7_insertPlace ({ frames := 120, cells := 0, slots := 0, locals := 2400 })).room s m args below meth c H locs 0 0 (MQ below (va_Qv (S := CSt) (cV Q) (cB dC dI sh A) A) args s 0 0 A) (F0 m 12 ls []) := by
  intro n
  induction n with
  | zero => intro ci ai al x1 x2 x4 H locs ls h; exact h.elim
  | succ n ih => exact b_X7_insertPlace_12 hx hb hr hts hown hlocks hml hA hK hG hq hk  ih
def P_X7_insertPlace (sh : Sh) (ci : Nat → Nat → Int32) (ai : Nat → Nat → Int32) (al : Nat → Nat → Int64) (q : Nat) (p0 : Int32) (Q : (Nat → Nat → Int32) → (Nat → Nat → Int32) → (Nat → Nat → Int64) → Prop) : Prop := (q ∈ sL sh ∧ sK sh q = 6) ∧ ∃ q1 : Nat, sR sh q 5 = some q1 ∧ (q1 ∈ sL sh ∧ isZ (sK sh q1)) ∧ P_X5_number_f sh 30 ci ai al q1 p0 (fun r5 => ∃ n9 : Nat, P_X7_insertPlace_12 sh  Q q n9 ci ai al p0 r5 p0)
set_option maxHeartbeats 4000000 in
set_option maxRecDepth 100000 in
theorem p_X7_insertPlace (l : Launch) (dC : Nat → ClassId) (dI : Nat → Nat → Nat) (sh : Sh) (ci : Nat → Nat → Int32) (ai : Nat → Nat → Int32) (al : Nat → Nat → Int64) (q : Nat) (p0 : Int32) (Q : (Nat → Nat → Int32) → (Nat → Nat → Int32) → (Nat → Nat → Int64) → Prop) (h : P_X7_insertPlace sh ci ai al q p0 Q) (sz : Nat) : Met l yX7_insertPlace wmX7_insertPlace ({ frames := 120, cells := 0, slots := 0, locals := 2400 }) (va_Pc [.ref q, .int p0] (cPre dC dI sh ci ai al sz)) (va_Qv (S := CSt) (cV Q) (cB dC dI sh (va_A (cW sh ci ai al) sz)) (va_A (cW sh ci ai al) sz)) 0 0 (va_A (cW sh ci ai al) sz) := by
  refine Met.ofW (cc := cX7_insertPlace) (maxL := 5) (ret := none) (by decide) rfl ?_
  intro p e s m args below meth c s₁ B hml hv
  obtain ⟨rfl, hsz, hP, hK, hD0, hG⟩ := hv
  have hx := B.exec
  have hb := B.bytes
  have hr := B.returns
  have hts : ∀ w ∈ WC, w.before _ s = true := fun w h => atoms_spec (ws := wmX7_insertPlace) B.pre w (List.mem_cons_of_mem _ h)
  have hown : s.vm.findClass RX7 = some m.cls := findClass_of_methodNamed B.named
  have hlocks := B.notSynchronized
  subst hsz
  have hD := hD0.self (sz := s.heap.size)
  generalize hAe : va_A (cW sh ci ai al) s.heap.size = A at hD ⊢
  have hA : ∀ q : Nat, s.heap.size ≤ q → A q := fun q h => by rw [← hAe]; exact Or.inr h
  generalize hH : s.heap = H at hP ⊢
  have hS : va_S A s.heap H [] := by rw [← hH]; exact va_S.rf
  have hl := lv_entry [.ref q, .int p0] (n := 5) (Nat.le_of_ble_eq_true rfl)
  rw [lg_entry_eq]
  generalize (lg_sl [.ref q, .int p0] ++ List.replicate (5 - (lg_sl [.ref q, .int p0]).length) Slot.unset).toArray = ls at hl ⊢
  have hl : lv_has ls 5 [(0, .ref q), (1, .int p0)] := hl
  unfold P_X7_insertPlace at h
  obtain ⟨⟨hq, hk⟩, h⟩ := h
  refine lv_aload_n hx hb dX7_insertPlace_0 rfl (lv_at hl 0 rfl) ?_
  obtain ⟨q1, e2, h⟩ := h
  refine c_get (C := RX7) (T := TX7) (N := 7) (K := 6) (v := .ref q1) hx hb hts hinX7 hown hK hP hq hk (by decide) rfl 5 (by decide) (hts _ mwC_34) (fun _ h9 => h9) (by show some (va_rf (sR sh q 5)) = _; rw [e2]; rfl) dX7_insertPlace_1 ?_
  refine lv_iload_n hx hb dX7_insertPlace_4 rfl (lv_at hl 1 rfl) ?_
  obtain ⟨⟨hm3, hk4⟩, h⟩ := h
  refine r_endl (c_runZ (rm := ({ frames := 20 + 2 * 30, cells := 0, slots := 0, locals := 300 + 50 * 30 })) (y := yX5_number) (x := ⟨"NeededLists$LazyList", "number", "(I)J"⟩) (n := 1) (bytes := cX5_number) (maxL := 3) (ret := (some .long)) (q := q1) (As := [.int p0]) (rest := []) ⟨hx, hb, hml, hown, hts⟩ (p_X5_number_f l dC dI sh 30 _ _ _ q1 p0 _ h H.size) mwC_143 mwC_92 mwC_93 mwC_22 mwC_94 mwC_95 mwC_96 mwC_97 mwC_98 mwC_99 mwC_100 mwC_101 mwC_102 mwC_103 rfl (by decide +kernel) rfl rfl ⟨(show 20 + 2 * 30 + 1 ≤ 120 by omega), (show 8 + (3 + 11) + (300 + 50 * 30) ≤ 2400 by omega)⟩ hK hP hD hG hm3 hk4 rfl hl.1 rfl (Nat.le_of_ble_eq_true rfl) ⟨Nat.le_of_ble_eq_true rfl, Nat.le_of_ble_eq_true rfl⟩ dX7_insertPlace_5) hP hS hA (fun r5 H locs h hP hS => ?_)
  refine lv_lstore_n (lv' := [(2, .long r5), (0, .ref q), (1, .int p0)]) hx hb dX7_insertPlace_8 rfl hl (by decide) rfl (fun ls hl => ?_)
  refine lv_iload_n hx hb dX7_insertPlace_9 rfl (lv_at hl 2 rfl) ?_
  refine lv_istore (lv' := [(4, .int p0), (2, .long r5), (0, .ref q), (1, .int p0)]) hx hb dX7_insertPlace_10 hl (by decide) rfl (fun ls hl => ?_)
  obtain ⟨n9, h⟩ := h
  exact t_X7_insertPlace_12 hx hb hr hts hown hlocks hml hA hK hG hq hk  n9 _ _ _ _ _ _ H _ ls h hP hD hS (lv_sub hl [2, 3, 1, 0] rfl)
