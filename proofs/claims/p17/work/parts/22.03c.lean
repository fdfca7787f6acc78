theorem dX0_workAhead_0 : decode cX0_workAhead 0 = .ok (.iload_n 1, 1) := by decide +kernel
theorem dX0_workAhead_1 : decode cX0_workAhead 1 = .ok (.iconst 1, 1) := by decide +kernel
theorem dX0_workAhead_2 : decode cX0_workAhead 2 = .ok (.isub, 1) := by decide +kernel
theorem dX0_workAhead_3 : decode cX0_workAhead 3 = .ok (.istore_n 2, 1) := by decide +kernel
theorem dX0_workAhead_4 : decode cX0_workAhead 4 = .ok (.iload_n 2, 1) := by decide +kernel
theorem dX0_workAhead_5 : decode cX0_workAhead 5 = .ok (.ifCond .le 17, 3) := by decide +kernel
theorem dX0_workAhead_8 : decode cX0_workAhead 8 = .ok (.aload_n 0, 1) := by decide +kernel
theorem dX0_workAhead_9 : decode cX0_workAhead 9 = .ok (.iload_n 2, 1) := by decide +kernel
theorem dX0_workAhead_10 : decode cX0_workAhead 10 = .ok (.invokevirtual 49, 3) := by decide +kernel
theorem dX0_workAhead_13 : decode cX0_workAhead 13 = .ok (.ifCond .ne 9, 3) := by decide +kernel
theorem dX0_workAhead_16 : decode cX0_workAhead 16 = .ok (.iinc 2 (-1), 3) := by decide +kernel
theorem dX0_workAhead_19 : decode cX0_workAhead 19 = .ok (.goto (-15), 3) := by decide +kernel
theorem dX0_workAhead_22 : decode cX0_workAhead 22 = .ok (.iconst 1, 1) := by decide +kernel
theorem dX0_workAhead_23 : decode cX0_workAhead 23 = .ok (.istore_n 3, 1) := by decide +kernel
theorem dX0_workAhead_24 : decode cX0_workAhead 24 = .ok (.iload_n 2, 1) := by decide +kernel
theorem dX0_workAhead_25 : decode cX0_workAhead 25 = .ok (.istore 4, 2) := by decide +kernel
theorem dX0_workAhead_27 : decode cX0_workAhead 27 = .ok (.iload 4, 2) := by decide +kernel
theorem dX0_workAhead_29 : decode cX0_workAhead 29 = .ok (.iload_n 1, 1) := by decide +kernel
theorem dX0_workAhead_30 : decode cX0_workAhead 30 = .ok (.if_icmp .ge 21, 3) := by decide +kernel
theorem dX0_workAhead_33 : decode cX0_workAhead 33 = .ok (.iload_n 3, 1) := by decide +kernel
theorem dX0_workAhead_34 : decode cX0_workAhead 34 = .ok (.iconst 3, 1) := by decide +kernel
theorem dX0_workAhead_35 : decode cX0_workAhead 35 = .ok (.if_icmp .eq 16, 3) := by decide +kernel
theorem dX0_workAhead_38 : decode cX0_workAhead 38 = .ok (.aload_n 0, 1) := by decide +kernel
theorem dX0_workAhead_39 : decode cX0_workAhead 39 = .ok (.iload 4, 2) := by decide +kernel
theorem dX0_workAhead_41 : decode cX0_workAhead 41 = .ok (.invokevirtual 53, 3) := by decide +kernel
theorem dX0_workAhead_44 : decode cX0_workAhead 44 = .ok (.istore_n 3, 1) := by decide +kernel
theorem dX0_workAhead_45 : decode cX0_workAhead 45 = .ok (.iinc 4 1, 3) := by decide +kernel
theorem dX0_workAhead_48 : decode cX0_workAhead 48 = .ok (.goto (-21), 3) := by decide +kernel
theorem dX0_workAhead_51 : decode cX0_workAhead 51 = .ok (.iload_n 3, 1) := by decide +kernel
theorem dX0_workAhead_52 : decode cX0_workAhead 52 = .ok (.ireturn, 1) := by decide +kernel
theorem dX5_reachAll_0 : decode cX5_reachAll 0 = .ok (.aload_n 0, 1) := by decide +kernel
theorem dX5_reachAll_1 : decode cX5_reachAll 1 = .ok (.sipush 400, 3) := by decide +kernel
theorem dX5_reachAll_4 : decode cX5_reachAll 4 = .ok (.invokevirtual 50, 3) := by decide +kernel
theorem dX5_reachAll_7 : decode cX5_reachAll 7 = .ok (.ireturn, 1) := by decide +kernel
theorem dX8_findStart_0 : decode cX8_findStart 0 = .ok (.iconst 0, 1) := by decide +kernel
theorem dX8_findStart_1 : decode cX8_findStart 1 = .ok (.istore_n 1, 1) := by decide +kernel
theorem dX8_findStart_2 : decode cX8_findStart 2 = .ok (.iload_n 1, 1) := by decide +kernel
theorem dX8_findStart_3 : decode cX8_findStart 3 = .ok (.sipush 400, 3) := by decide +kernel
theorem dX8_findStart_6 : decode cX8_findStart 6 = .ok (.if_icmp .gt 68, 3) := by decide +kernel
theorem dX8_findStart_9 : decode cX8_findStart 9 = .ok (.aload_n 0, 1) := by decide +kernel
theorem dX8_findStart_10 : decode cX8_findStart 10 = .ok (.getfield 9, 3) := by decide +kernel
theorem dX8_findStart_13 : decode cX8_findStart 13 = .ok (.iload_n 1, 1) := by decide +kernel
theorem dX8_findStart_14 : decode cX8_findStart 14 = .ok (.invokevirtual 30, 3) := by decide +kernel
theorem dX8_findStart_17 : decode cX8_findStart 17 = .ok (.istore_n 2, 1) := by decide +kernel
theorem dX8_findStart_18 : decode cX8_findStart 18 = .ok (.iload_n 2, 1) := by decide +kernel
theorem dX8_findStart_19 : decode cX8_findStart 19 = .ok (.iconst 1, 1) := by decide +kernel
theorem dX8_findStart_20 : decode cX8_findStart 20 = .ok (.if_icmp .eq 5, 3) := by decide +kernel
theorem dX8_findStart_23 : decode cX8_findStart 23 = .ok (.iload_n 2, 1) := by decide +kernel
theorem dX8_findStart_24 : decode cX8_findStart 24 = .ok (.ireturn, 1) := by decide +kernel
theorem dX8_findStart_25 : decode cX8_findStart 25 = .ok (.aload_n 0, 1) := by decide +kernel
theorem dX8_findStart_26 : decode cX8_findStart 26 = .ok (.getfield 9, 3) := by decide +kernel
theorem dX8_findStart_29 : decode cX8_findStart 29 = .ok (.iload_n 1, 1) := by decide +kernel
theorem dX8_findStart_30 : decode cX8_findStart 30 = .ok (.invokevirtual 34, 3) := by decide +kernel
theorem dX8_findStart_33 : decode cX8_findStart 33 = .ok (.istore_n 3, 1) := by decide +kernel
theorem dX8_findStart_34 : decode cX8_findStart 34 = .ok (.iload_n 3, 1) := by decide +kernel
theorem dX8_findStart_35 : decode cX8_findStart 35 = .ok (.iconst 1, 1) := by decide +kernel
theorem dX8_findStart_36 : decode cX8_findStart 36 = .ok (.if_icmp .ne 25, 3) := by decide +kernel
theorem dX8_findStart_39 : decode cX8_findStart 39 = .ok (.aload_n 0, 1) := by decide +kernel
theorem dX8_findStart_40 : decode cX8_findStart 40 = .ok (.getfield 19, 3) := by decide +kernel
theorem dX8_findStart_43 : decode cX8_findStart 43 = .ok (.aload_n 0, 1) := by decide +kernel
theorem dX8_findStart_44 : decode cX8_findStart 44 = .ok (.getfield 9, 3) := by decide +kernel
theorem dX8_findStart_47 : decode cX8_findStart 47 = .ok (.iload_n 1, 1) := by decide +kernel
theorem dX8_findStart_48 : decode cX8_findStart 48 = .ok (.invokevirtual 37, 3) := by decide +kernel
theorem dX8_findStart_51 : decode cX8_findStart 51 = .ok (.aload_n 0, 1) := by decide +kernel
theorem dX8_findStart_52 : decode cX8_findStart 52 = .ok (.getfield 22, 3) := by decide +kernel
theorem dX8_findStart_55 : decode cX8_findStart 55 = .ok (.invokestatic 41, 3) := by decide +kernel
theorem dX8_findStart_58 : decode cX8_findStart 58 = .ok (.ifCond .ne 10, 3) := by decide +kernel
theorem dX8_findStart_61 : decode cX8_findStart 61 = .ok (.aload_n 0, 1) := by decide +kernel
theorem dX8_findStart_62 : decode cX8_findStart 62 = .ok (.iload_n 1, 1) := by decide +kernel
theorem dX8_findStart_63 : decode cX8_findStart 63 = .ok (.putfield 15, 3) := by decide +kernel
theorem dX8_findStart_66 : decode cX8_findStart 66 = .ok (.iload_n 3, 1) := by decide +kernel
theorem dX8_findStart_67 : decode cX8_findStart 67 = .ok (.ireturn, 1) := by decide +kernel
theorem dX8_findStart_68 : decode cX8_findStart 68 = .ok (.iinc 1 1, 3) := by decide +kernel
theorem dX8_findStart_71 : decode cX8_findStart 71 = .ok (.goto (-69), 3) := by decide +kernel
theorem dX8_findStart_74 : decode cX8_findStart 74 = .ok (.iconst 3, 1) := by decide +kernel
theorem dX8_findStart_75 : decode cX8_findStart 75 = .ok (.ireturn, 1) := by decide +kernel
theorem dX9_lookThrough_0 : decode cX9_lookThrough 0 = .ok (.aload_n 0, 1) := by decide +kernel
theorem dX9_lookThrough_1 : decode cX9_lookThrough 1 = .ok (.getfield 9, 3) := by decide +kernel
theorem dX9_lookThrough_4 : decode cX9_lookThrough 4 = .ok (.iload_n 1, 1) := by decide +kernel
theorem dX9_lookThrough_5 : decode cX9_lookThrough 5 = .ok (.invokevirtual 34, 3) := by decide +kernel
theorem dX9_lookThrough_8 : decode cX9_lookThrough 8 = .ok (.istore_n 2, 1) := by decide +kernel
theorem dX9_lookThrough_9 : decode cX9_lookThrough 9 = .ok (.iload_n 2, 1) := by decide +kernel
theorem dX9_lookThrough_10 : decode cX9_lookThrough 10 = .ok (.iconst 1, 1) := by decide +kernel
theorem dX9_lookThrough_11 : decode cX9_lookThrough 11 = .ok (.if_icmp .eq 5, 3) := by decide +kernel
theorem dX9_lookThrough_14 : decode cX9_lookThrough 14 = .ok (.iload_n 2, 1) := by decide +kernel
theorem dX9_lookThrough_15 : decode cX9_lookThrough 15 = .ok (.ireturn, 1) := by decide +kernel
theorem dX9_lookThrough_16 : decode cX9_lookThrough 16 = .ok (.aload_n 0, 1) := by decide +kernel
theorem dX9_lookThrough_17 : decode cX9_lookThrough 17 = .ok (.getfield 9, 3) := by decide +kernel
theorem dX9_lookThrough_20 : decode cX9_lookThrough 20 = .ok (.iload_n 1, 1) := by decide +kernel
theorem dX9_lookThrough_21 : decode cX9_lookThrough 21 = .ok (.invokevirtual 37, 3) := by decide +kernel
theorem dX9_lookThrough_24 : decode cX9_lookThrough 24 = .ok (.lstore_n 3, 1) := by decide +kernel
theorem dX9_lookThrough_25 : decode cX9_lookThrough 25 = .ok (.iload_n 1, 1) := by decide +kernel
theorem dX9_lookThrough_26 : decode cX9_lookThrough 26 = .ok (.iconst 1, 1) := by decide +kernel
theorem dX9_lookThrough_27 : decode cX9_lookThrough 27 = .ok (.iadd, 1) := by decide +kernel
theorem dX9_lookThrough_28 : decode cX9_lookThrough 28 = .ok (.istore 5, 2) := by decide +kernel
theorem dX9_lookThrough_30 : decode cX9_lookThrough 30 = .ok (.iload 5, 2) := by decide +kernel
theorem dX9_lookThrough_32 : decode cX9_lookThrough 32 = .ok (.sipush 400, 3) := by decide +kernel
theorem dX9_lookThrough_35 : decode cX9_lookThrough 35 = .ok (.if_icmp .gt 66, 3) := by decide +kernel
theorem dX9_lookThrough_38 : decode cX9_lookThrough 38 = .ok (.aload_n 0, 1) := by decide +kernel
theorem dX9_lookThrough_39 : decode cX9_lookThrough 39 = .ok (.iload 5, 2) := by decide +kernel
theorem dX9_lookThrough_41 : decode cX9_lookThrough 41 = .ok (.putfield 26, 3) := by decide +kernel
theorem dX9_lookThrough_44 : decode cX9_lookThrough 44 = .ok (.aload_n 0, 1) := by decide +kernel
theorem dX9_lookThrough_45 : decode cX9_lookThrough 45 = .ok (.getfield 9, 3) := by decide +kernel
theorem dX9_lookThrough_48 : decode cX9_lookThrough 48 = .ok (.iload 5, 2) := by decide +kernel
theorem dX9_lookThrough_50 : decode cX9_lookThrough 50 = .ok (.invokevirtual 19, 3) := by decide +kernel
theorem dX9_lookThrough_53 : decode cX9_lookThrough 53 = .ok (.istore 6, 2) := by decide +kernel
theorem dX9_lookThrough_55 : decode cX9_lookThrough 55 = .ok (.iload 6, 2) := by decide +kernel
theorem dX9_lookThrough_57 : decode cX9_lookThrough 57 = .ok (.iconst 1, 1) := by decide +kernel
theorem dX9_lookThrough_58 : decode cX9_lookThrough 58 = .ok (.if_icmp .eq 6, 3) := by decide +kernel
theorem dX9_lookThrough_61 : decode cX9_lookThrough 61 = .ok (.iload 6, 2) := by decide +kernel
theorem dX9_lookThrough_63 : decode cX9_lookThrough 63 = .ok (.ireturn, 1) := by decide +kernel
theorem dX9_lookThrough_64 : decode cX9_lookThrough 64 = .ok (.aload_n 0, 1) := by decide +kernel
theorem dX9_lookThrough_65 : decode cX9_lookThrough 65 = .ok (.getfield 9, 3) := by decide +kernel
theorem dX9_lookThrough_68 : decode cX9_lookThrough 68 = .ok (.iload 5, 2) := by decide +kernel
theorem dX9_lookThrough_70 : decode cX9_lookThrough 70 = .ok (.invokevirtual 34, 3) := by decide +kernel
theorem dX9_lookThrough_73 : decode cX9_lookThrough 73 = .ok (.istore_n 2, 1) := by decide +kernel
theorem dX9_lookThrough_74 : decode cX9_lookThrough 74 = .ok (.iload_n 2, 1) := by decide +kernel
theorem dX9_lookThrough_75 : decode cX9_lookThrough 75 = .ok (.iconst 1, 1) := by decide +kernel
theorem dX9_lookThrough_76 : decode cX9_lookThrough 76 = .ok (.if_icmp .ne 17, 3) := by decide +kernel
theorem dX9_lookThrough_79 : decode cX9_lookThrough 79 = .ok (.aload_n 0, 1) := by decide +kernel
theorem dX9_lookThrough_80 : decode cX9_lookThrough 80 = .ok (.getfield 9, 3) := by decide +kernel
theorem dX9_lookThrough_83 : decode cX9_lookThrough 83 = .ok (.iload 5, 2) := by decide +kernel
theorem dX9_lookThrough_85 : decode cX9_lookThrough 85 = .ok (.invokevirtual 37, 3) := by decide +kernel
theorem dX9_lookThrough_88 : decode cX9_lookThrough 88 = .ok (.lload_n 3, 1) := by decide +kernel
theorem dX9_lookThrough_89 : decode cX9_lookThrough 89 = .ok (.lcmp, 1) := by decide +kernel
theorem dX9_lookThrough_90 : decode cX9_lookThrough 90 = .ok (.ifCond .eq 5, 3) := by decide +kernel
theorem dX9_lookThrough_93 : decode cX9_lookThrough 93 = .ok (.iload_n 2, 1) := by decide +kernel
theorem dX9_lookThrough_94 : decode cX9_lookThrough 94 = .ok (.ireturn, 1) := by decide +kernel
theorem dX9_lookThrough_95 : decode cX9_lookThrough 95 = .ok (.iinc 5 1, 3) := by decide +kernel
theorem dX9_lookThrough_98 : decode cX9_lookThrough 98 = .ok (.goto (-68), 3) := by decide +kernel
theorem dX9_lookThrough_101 : decode cX9_lookThrough 101 = .ok (.iconst 3, 1) := by decide +kernel
theorem dX9_lookThrough_102 : decode cX9_lookThrough 102 = .ok (.ireturn, 1) := by decide +kernel
abbrev wmX5_reachAll : List Cond := .code yX5_reachAll cX5_reachAll 1 (some .int) :: WC
theorem hd_X5_reachAll : yX5_reachAll.cls = RX5 ∧ yX5_reachAll.cls ≠ "java/lang/invoke/MethodHandle" ∧ yX5_reachAll.cls ≠ "java/lang/invoke/VarHandle" ∧ (parseMethodDescriptor yX5_reachAll.desc).map (fun d => d.parameters.length) = some 0 := by decide +kernel
def P_X5_reachAll (sh : Sh) (Gr Gw : (Nat → Nat → Int32) → (Nat → Nat → Int32) → (Nat → Nat → Int64) → Nat → Int32 → (Int32 → (Nat → Nat → Int32) → (Nat → Nat → Int32) → (Nat → Nat → Int64) → Prop) → Prop) (ci : Nat → Nat → Int32) (ai : Nat → Nat → Int32) (al : Nat → Nat → Int64) (q : Nat)  (Q : Int32 → (Nat → Nat → Int32) → (Nat → Nat → Int32) → (Nat → Nat → Int64) → Prop) : Prop := (q ∈ sL sh ∧ isZ (sK sh q)) ∧ Gr ci ai al q 400 (fun r1 ci1 ai1 al1 => Q r1 ci1 ai1 al1)
set_option maxHeartbeats 4000000 in
set_option maxRecDepth 100000 in
theorem p_X5_reachAll (l : Launch) (dC : Nat → ClassId) (dI : Nat → Nat → Nat) (sh : Sh) (d : Nat) {Gr Gw : (Nat → Nat → Int32) → (Nat → Nat → Int32) → (Nat → Nat → Int64) → Nat → Int32 → (Int32 → (Nat → Nat → Int32) → (Nat → Nat → Int32) → (Nat → Nat → Int64) → Prop) → Prop} (hGr : GM l dC dI sh yX5_reach wmX5_reach ({ frames := 300 + 5 * d, cells := 0, slots := 0, locals := 6000 + 200 * d }) Gr) (hGw : GM l dC dI sh yX5_work wmX5_work ({ frames := 300 + 5 * d, cells := 0, slots := 0, locals := 6000 + 200 * d }) Gw) (ci : Nat → Nat → Int32) (ai : Nat → Nat → Int32) (al : Nat → Nat → Int64) (q : Nat)  (Q : Int32 → (Nat → Nat → Int32) → (Nat → Nat → Int32) → (Nat → Nat → Int64) → Prop) (h : P_X5_reachAll sh Gr Gw ci ai al q  Q) (sz : Nat) : Met l yX5_reachAll wmX5_reachAll ({ frames := 301 + 5 * d, cells := 0, slots := 0, locals := 6040 + 200 * d }) (va_Pc [.ref q] (cPre dC dI sh ci ai al sz)) (va_Qi (S := CSt) (cI Q) (cB dC dI sh (va_A (cW sh ci ai al) sz)) (va_A (cW sh ci ai al) sz)) 0 0 (va_A (cW sh ci ai al) sz) := by
  refine Met.ofW (cc := cX5_reachAll) (maxL := 1) (ret := (some .int)) (by decide) rfl ?_
  intro p e s m args below meth c s₁ B hml hv
  obtain ⟨rfl, hsz, hP, hK, hD0, hG⟩ := hv
  have hx := B.exec
  have hb := B.bytes
  have hr := B.returns
  have hts : ∀ w ∈ WC, w.before _ s = true := fun w h => atoms_spec (ws := wmX5_reachAll) B.pre w (List.mem_cons_of_mem _ h)
  have hown : s.vm.findClass RX5 = some m.cls := findClass_of_methodNamed B.named
  have hlocks := B.notSynchronized
  subst hsz
  have hD := hD0.self (sz := s.heap.size)
  generalize hAe : va_A (cW sh ci ai al) s.heap.size = A at hD ⊢
  have hA : ∀ q : Nat, s.heap.size ≤ q → A q := fun q h => by rw [← hAe]; exact Or.inr h
  generalize hH : s.heap = H at hP ⊢
  have hS : va_S A s.heap H [] := by rw [← hH]; exact va_S.rf
  have hl := lv_entry [.ref q] (n := 1) (Nat.le_of_ble_eq_true rfl)
  rw [lg_entry_eq]
  generalize (lg_sl [.ref q] ++ List.replicate (1 - (lg_sl [.ref q]).length) Slot.unset).toArray = ls at hl ⊢
  have hl : lv_has ls 1 [(0, .ref q)] := hl
  unfold P_X5_reachAll at h
  obtain ⟨⟨hq, hk⟩, h⟩ := h
  refine lv_aload_n hx hb dX5_reachAll_0 rfl (lv_at hl 0 rfl) ?_
  refine lv_sipush (v := 400) hx hb dX5_reachAll_1 (by decide) ?_
  refine c_endi (c_runZ (rm := ({ frames := 300 + 5 * d, cells := 0, slots := 0, locals := 6000 + 200 * d })) (y := yX5_reach) (x := ⟨"NeededLists$LazyList", "reach", "(I)I"⟩) (n := 1) (bytes := cX5_reach) (maxL := 5) (ret := (some .int)) (q := q) (As := [.int 400]) (rest := []) ⟨hx, hb, hml, hown, hts⟩ (hGr _ _ _ q 400 _ h H.size) mwC_144 mwC_145 mwC_146 mwC_22 mwC_147 mwC_148 mwC_149 mwC_150 mwC_151 mwC_152 mwC_153 mwC_154 mwC_155 mwC_156 rfl (by decide +kernel) rfl rfl ⟨(show 300 + 5 * d + 1 ≤ 301 + 5 * d by omega), (show 8 + (5 + 11) + (6000 + 200 * d) ≤ 6040 + 200 * d by omega)⟩ hK hP hD hG hq hk rfl hl.1 rfl (Nat.le_of_ble_eq_true rfl) ⟨Nat.le_of_ble_eq_true rfl, Nat.le_of_ble_eq_true rfl⟩ dX5_reachAll_4) hD hS hA (fun r1 ci1 ai1 al1 H locs h hP hD hS => ?_)
  exact W.iret (v := r1) hx hb hr (fun t ht hW => ⟨⟨_, (ci1, ai1, al1), rfl, h, by rw [ht]; exact hP, cK.moved hW.alike hK, hD⟩, hS.F ht⟩) hS.2.2 dX5_reachAll_7

abbrev wmX8_findStart : List Cond := .code yX8_findStart cX8_findStart 4 (some .int) :: WC
theorem hd_X8_findStart : yX8_findStart.cls = RX8 ∧ yX8_findStart.cls ≠ "java/lang/invoke/MethodHandle" ∧ yX8_findStart.cls ≠ "java/lang/invoke/VarHandle" ∧ (parseMethodDescriptor yX8_findStart.desc).map (fun d => d.parameters.length) = some 0 := by decide +kernel
def B_X8_findStart_2 (sh : Sh) (Gr Gw : (Nat → Nat → Int32) → (Nat → Nat → Int32) → (Nat → Nat → Int64) → Nat → Int32 → (Int32 → (Nat → Nat → Int32) → (Nat → Nat → Int32) → (Nat → Nat → Int64) → Prop) → Prop)  (K2 : (Nat → Nat → Int32) → (Nat → Nat → Int32) → (Nat → Nat → Int64) → Int32 → Prop) (Q : Int32 → (Nat → Nat → Int32) → (Nat → Nat → Int32) → (Nat → Nat → Int64) → Prop) (q : Nat) (ci : Nat → Nat → Int32) (ai : Nat → Nat → Int32) (al : Nat → Nat → Int64) (x1 : Int32) : Prop := ((400 < x1) → (Q 3 ci ai al)) ∧ ((¬ 400 < x1) → (∃ q1 : Nat, sR sh q 5 = some q1 ∧ (q1 ∈ sL sh ∧ isZ (sK sh q1)) ∧ Gr ci ai al q1 x1 (fun r5 ci5 ai5 al5 => ((r5 = 1) → (Gw ci5 ai5 al5 q1 x1 (fun r6 ci6 ai6 al6 => ((¬ r6 = 1) → (Q r6 (va_up ci6 q (va_up (ci6 q) 8 x1)) ai6 al6)) ∧ ((r6 = 1) → (P_X5_number_f sh 30 ci6 ai6 al6 q1 x1 (fun r7 => P_X11_meets (ci6 q 6) r7 (sJ sh q 7) (fun r8 => ((¬ r8 = 0) → (K2 ci6 ai6 al6 (x1 + 1))) ∧ ((r8 = 0) → (Q r6 (va_up ci6 q (va_up (ci6 q) 8 x1)) ai6 al6))))))))) ∧ ((¬ r5 = 1) → (Q r5 ci5 ai5 al5)))))
def P_X8_findStart_2 (sh : Sh) (Gr Gw : (Nat → Nat → Int32) → (Nat → Nat → Int32) → (Nat → Nat → Int64) → Nat → Int32 → (Int32 → (Nat → Nat → Int32) → (Nat → Nat → Int32) → (Nat → Nat → Int64) → Prop) → Prop)  (Q : Int32 → (Nat → Nat → Int32) → (Nat → Nat → Int32) → (Nat → Nat → Int64) → Prop) (q : Nat) : Nat → (Nat → Nat → Int32) → (Nat → Nat → Int32) → (Nat → Nat → Int64) → Int32 → Prop
  | 0 => fun _ _ _ _ => False
  | n + 1 => B_X8_findStart_2 sh Gr Gw  (P_X8_findStart_2 sh Gr Gw  Q q n) Q q
set_option maxHeartbeats 4000000 in
set_option maxRecDepth 100000 in
theorem b_X8_findStart_2 {p : Program} {l : Launch} {e : Env} {s : State} {m : MethodId} {args : Array Value} {below : List Frame} {meth : Method} {c : Code} {A : Nat → Prop} {dC : Nat → ClassId} {dI : Nat → Nat → Nat} {sh : Sh} {q : Nat}  {K2 : (Nat → Nat → Int32) → (Nat → Nat → Int32) → (Nat → Nat → Int64) → Int32 → Prop} {Q : Int32 → (Nat → Nat → Int32) → (Nat → Nat → Int32) → (Nat → Nat → Int64) → Prop} (hx : p.tables.exec = Jvm.exec) (hb : c.code = cX8_findStart) (hr : meth.sig.returnType = (some .int)) (hts : ∀ w ∈ WC, w.before args s = true) (hown : s.vm.findClass RX8 = some m.cls) (hlocks : meth.locks = false) (hml : c.maxLocals = 4) (hA : ∀ q : Nat, s.heap.size ≤ q → A q) (hK : cK dC dI sh s) (hG : Gc s) (hq : q ∈ sL sh) (hk : sK sh q = 7) {d : Nat} {Gr Gw : (Nat → Nat → Int32) → (Nat → Nat → Int32) → (Nat → Nat → Int64) → Nat → Int32 → (Int32 → (Nat → Nat → Int32) → (Nat → Nat → Int32) → (Nat → Nat → Int64) → Prop) → Prop} (hGr : GM l dC dI sh yX5_reach wmX5_reach ({ frames := 300 + 5 * d, cells := 0, slots := 0, locals := 6000 + 200 * d }) Gr) (hGw : GM l dC dI sh yX5_work wmX5_work ({ frames := 300 + 5 * d, cells := 0, slots := 0, locals := 6000 + 200 * d }) Gw)  (hK2 : ∀ (ci : Nat → Nat → Int32) (ai : Nat → Nat → Int32) (al : Nat → Nat → Int64) (x1 : Int32) (H : Heap) (locs : List Loc) (ls : Array Slot), K2 ci ai al x1 → va_P (dC, dI) vwCl (cW sh ci ai al) H → va_D A (cW sh ci ai al) → va_S A s.heap H locs → lv_has ls 4 [(0, .ref q), (1, .int x1)] → W p l e (headSpec wmX8_findStart ({ frames := 302 + 5 * d, cells := 0, slots := 0, locals := 6080 + 200 * d })).room s m args below meth c H locs 0 0 (MQ below (va_Qi (S := CSt) (cI Q) (cB dC dI sh A) A) args s 0 0 A) (F0 m 2 ls [])) : ∀ (ci : Nat → Nat → Int32) (ai : Nat → Nat → Int32) (al : Nat → Nat → Int64) (x1 : Int32) (H : Heap) (locs : List Loc) (ls : Array Slot), B_X8_findStart_2 sh Gr Gw  K2 Q q ci ai al x1 → va_P (dC, dI) vwCl (cW sh ci ai al) H → va_D A (cW sh ci ai al) → va_S A s.heap H locs → lv_has ls 4 [(0, .ref q), (1, .int x1)] → W p l e (headSpec wmX8_findStart ({ frames := 302 + 5 * d, cells := 0, slots := 0, locals := 6080 + 200 * d })).room s m args below meth c H locs 0 0 (MQ below (va_Qi (S := CSt) (cI Q) (cB dC dI sh A) A) args s 0 0 A) (F0 m 2 ls []) := by
  intro ci ai al x1 H locs ls h hP hD hS hl
  unfold B_X8_findStart_2 at h
  refine lv_iload_n hx hb dX8_findStart_2 rfl (lv_at hl 1 rfl) ?_
  refine lv_sipush (v := 400) hx hb dX8_findStart_3 (by decide) ?_
  refine lv_icmp_gt (tgt := 74) hx hb dX8_findStart_6 (by decide) (fun c_6 => ?_) (fun c_6 => ?_)
  · have h := h.1 c_6
    refine lv_iconst (v := 3) hx hb dX8_findStart_74 (by decide) ?_
    exact W.iret (v := 3) hx hb hr (fun t ht hW => ⟨⟨_, (ci, ai, al), rfl, h, by rw [ht]; exact hP, cK.moved hW.alike hK, hD⟩, hS.F ht⟩) hS.2.2 dX8_findStart_75
  · have h := h.2 c_6
    refine lv_aload_n hx hb dX8_findStart_9 rfl (lv_at hl 0 rfl) ?_
    obtain ⟨q1, e2, h⟩ := h
    refine c_get (C := RX8) (T := TX8) (N := 9) (K := 7) (v := .ref q1) hx hb hts hinX8 hown hK hP hq hk (by decide) rfl 5 (by decide) (hts _ mwC_35) (fun _ h9 => h9) (by show some (va_rf (sR sh q 5)) = _; rw [e2]; rfl) dX8_findStart_10 ?_
    refine lv_iload_n hx hb dX8_findStart_13 rfl (lv_at hl 1 rfl) ?_
    obtain ⟨⟨hm3, hk4⟩, h⟩ := h
    refine c_endi (c_runZ (rm := ({ frames := 300 + 5 * d, cells := 0, slots := 0, locals := 6000 + 200 * d })) (y := yX5_reach) (x := ⟨"NeededLists$LazyList", "reach", "(I)I"⟩) (n := 1) (bytes := cX5_reach) (maxL := 5) (ret := (some .int)) (q := q1) (As := [.int x1]) (rest := []) ⟨hx, hb, hml, hown, hts⟩ (hGr _ _ _ q1 x1 _ h H.size) mwC_157 mwC_145 mwC_146 mwC_22 mwC_147 mwC_148 mwC_149 mwC_150 mwC_151 mwC_152 mwC_153 mwC_154 mwC_155 mwC_156 rfl (by decide +kernel) rfl rfl ⟨(show 300 + 5 * d + 1 ≤ 302 + 5 * d by omega), (show 8 + (5 + 11) + (6000 + 200 * d) ≤ 6080 + 200 * d by omega)⟩ hK hP hD hG hm3 hk4 rfl hl.1 rfl (Nat.le_of_ble_eq_true rfl) ⟨Nat.le_of_ble_eq_true rfl, Nat.le_of_ble_eq_true rfl⟩ dX8_findStart_14) hD hS hA (fun r5 ci5 ai5 al5 H locs h hP hD hS => ?_)
    refine lv_istore_n (lv' := [(2, .int r5), (0, .ref q), (1, .int x1)]) hx hb dX8_findStart_17 rfl hl (by decide) rfl (fun ls hl => ?_)
    refine lv_iload_n hx hb dX8_findStart_18 rfl (lv_at hl 0 rfl) ?_
    refine lv_iconst (v := 1) hx hb dX8_findStart_19 (by decide) ?_
    refine lv_icmp_eq (tgt := 25) hx hb dX8_findStart_20 (by decide) (fun c_20 => ?_) (fun c_20 => ?_)
    · have h := h.1 c_20
      refine lv_aload_n hx hb dX8_findStart_25 rfl (lv_at hl 1 rfl) ?_
      refine c_get (C := RX8) (T := TX8) (N := 9) (K := 7) (v := .ref q1) hx hb hts hinX8 hown hK hP hq hk (by decide) rfl 5 (by decide) (hts _ mwC_35) (fun _ h9 => h9) (by show some (va_rf (sR sh q 5)) = _; rw [e2]; rfl) dX8_findStart_26 ?_
      refine lv_iload_n hx hb dX8_findStart_29 rfl (lv_at hl 2 rfl) ?_
      refine c_endi (c_runZ (rm := ({ frames := 300 + 5 * d, cells := 0, slots := 0, locals := 6000 + 200 * d })) (y := yX5_work) (x := ⟨"NeededLists$LazyList", "work", "(I)I"⟩) (n := 1) (bytes := cX5_work) (maxL := 4) (ret := (some .int)) (q := q1) (As := [.int x1]) (rest := []) ⟨hx, hb, hml, hown, hts⟩ (hGw _ _ _ q1 x1 _ h H.size) mwC_158 mwC_159 mwC_160 mwC_22 mwC_161 mwC_162 mwC_163 mwC_164 mwC_165 mwC_166 mwC_167 mwC_168 mwC_169 mwC_170 rfl (by decide +kernel) rfl rfl ⟨(show 300 + 5 * d + 1 ≤ 302 + 5 * d by omega), (show 8 + (4 + 11) + (6000 + 200 * d) ≤ 6080 + 200 * d by omega)⟩ hK hP hD hG hm3 hk4 rfl hl.1 rfl (Nat.le_of_ble_eq_true rfl) ⟨Nat.le_of_ble_eq_true rfl, Nat.le_of_ble_eq_true rfl⟩ dX8_findStart_30) hD hS hA (fun r6 ci6 ai6 al6 H locs h hP hD hS => ?_)
      refine lv_istore_n (lv' := [(3, .int r6), (2, .int r5), (0, .ref q), (1, .int x1)]) hx hb dX8_findStart_33 rfl hl (by decide) rfl (fun ls hl => ?_)
      refine lv_iload_n hx hb dX8_findStart_34 rfl (lv_at hl 0 rfl) ?_
      refine lv_iconst (v := 1) hx hb dX8_findStart_35 (by decide) ?_
      refine lv_icmp_ne (tgt := 61) hx hb dX8_findStart_36 (by decide) (fun c_36 => ?_) (fun c_36 => ?_)
      · have h := h.1 c_36
        refine lv_aload_n hx hb dX8_findStart_61 rfl (lv_at hl 2 rfl) ?_
        refine lv_iload_n hx hb dX8_findStart_62 rfl (lv_at hl 3 rfl) ?_
        refine c_put (C := RX8) (T := TX8) (N := 9) (K := 7) hx hb hts hinX8 tyX8 tyX8_ok nmX8 hown hK hP hD hS hq hk (by decide) rfl 8 (by decide) (hts _ mwC_39) (fun _ h9 => h9) rfl (by decide +kernel) (Nat.le_of_ble_eq_true rfl) rfl dX8_findStart_63 (fun H locs hP hD hS => ?_)
        refine lv_iload_n hx hb dX8_findStart_66 rfl (lv_at hl 0 rfl) ?_
        exact W.iret (v := r6) hx hb hr (fun t ht hW => ⟨⟨_, (va_up ci6 q (va_up (ci6 q) 8 x1), ai6, al6), rfl, h, by rw [ht]; exact hP, cK.moved hW.alike hK, hD⟩, hS.F ht⟩) hS.2.2 dX8_findStart_67
      · have h := h.2 c_36
        refine lv_aload_n hx hb dX8_findStart_39 rfl (lv_at hl 2 rfl) ?_
        refine c_get (C := RX8) (T := TX8) (N := 9) (K := 7) (v := .int (ci6 q 6)) hx hb hts hinX8 hown hK hP hq hk (by decide) rfl 6 (by decide) (hts _ mwC_171) (fun _ h9 => h9) rfl dX8_findStart_40 ?_
        refine lv_aload_n hx hb dX8_findStart_43 rfl (lv_at hl 2 rfl) ?_
        refine c_get (C := RX8) (T := TX8) (N := 9) (K := 7) (v := .ref q1) hx hb hts hinX8 hown hK hP hq hk (by decide) rfl 5 (by decide) (hts _ mwC_35) (fun _ h9 => h9) (by show some (va_rf (sR sh q 5)) = _; rw [e2]; rfl) dX8_findStart_44 ?_
        refine lv_iload_n hx hb dX8_findStart_47 rfl (lv_at hl 3 rfl) ?_
        refine r_endl (c_runZ (rm := ({ frames := 20 + 2 * 30, cells := 0, slots := 0, locals := 300 + 50 * 30 })) (y := yX5_number) (x := ⟨"NeededLists$LazyList", "number", "(I)J"⟩) (n := 1) (bytes := cX5_number) (maxL := 3) (ret := (some .long)) (q := q1) (As := [.int x1]) (rest := [.int (ci6 q 6)]) ⟨hx, hb, hml, hown, hts⟩ (p_X5_number_f l dC dI sh 30 _ _ _ q1 x1 _ h H.size) mwC_172 mwC_92 mwC_93 mwC_22 mwC_94 mwC_95 mwC_96 mwC_97 mwC_98 mwC_99 mwC_100 mwC_101 mwC_102 mwC_103 rfl (by decide +kernel) rfl rfl ⟨(show 20 + 2 * 30 + 1 ≤ 302 + 5 * d by omega), (show 8 + (3 + 11) + (300 + 50 * 30) ≤ 6080 + 200 * d by omega)⟩ hK hP hD hG hm3 hk4 rfl hl.1 rfl (Nat.le_of_ble_eq_true rfl) ⟨Nat.le_of_ble_eq_true rfl, Nat.le_of_ble_eq_true rfl⟩ dX8_findStart_48) hP hS hA (fun r7 H locs h hP hS => ?_)
        refine lv_aload_n hx hb dX8_findStart_51 rfl (lv_at hl 2 rfl) ?_
        refine c_get (C := RX8) (T := TX8) (N := 9) (K := 7) (v := .long (sJ sh q 7)) hx hb hts hinX8 hown hK hP hq hk (by decide) rfl 7 (by decide) (hts _ mwC_173) (fun _ h9 => h9) rfl dX8_findStart_52 ?_
        refine r_endi (va_runSN (host := "NeededLists") (rm := ({ frames := 4, cells := 0, slots := 0, locals := 60 })) (As := [.int (ci6 q 6), .long r7, .long (sJ sh q 7)]) (rest := []) ⟨hx, hb, hml, hown, hts⟩ (p_X11_meets l dC dI (ci6 q 6) r7 (sJ sh q 7) _ h H.size) ⟨va_cnB 3 hts (g_C gdC mwC_138) rfl rfl rfl hG.mt8 (hts _ mwC_119) hd_X11_meets ⟨(show 4 + 1 ≤ 302 + 5 * d by omega), (show 8 + (5 + 11) + (60) ≤ 6080 + 200 * d by omega)⟩, hts _ mwC_139, trivial⟩ ⟨s_blind, fun U hU hW => ⟨rfl, congrArg Array.size hU⟩⟩ rfl rfl hl.1 rfl (lv_room (Nat.le_of_ble_eq_true rfl)) dX8_findStart_55 ⟨Nat.le_of_ble_eq_true rfl, Nat.le_of_ble_eq_true rfl⟩) hP hS hA (fun r8 H locs h hP hS => ?_)
        refine lv_if_ne (tgt := 68) hx hb dX8_findStart_58 (by decide) (fun c_58 => ?_) (fun c_58 => ?_)
        · have h := h.1 c_58
          refine lv_iinc (v := x1 + 1) (lv' := [(1, .int (x1 + 1)), (3, .int r6), (2, .int r5), (0, .ref q)]) hx hb dX8_findStart_68 hl (k := 3) rfl (iinc_1 _) (by decide) rfl (fun ls hl => ?_)
          refine lv_goto (tgt := 2) hx hb dX8_findStart_71 (by decide) ?_
          exact hK2 _ _ _ _ H _ ls h hP hD hS (lv_sub hl [3, 0] rfl)
        · have h := h.2 c_58
          refine lv_aload_n hx hb dX8_findStart_61 rfl (lv_at hl 2 rfl) ?_
          refine lv_iload_n hx hb dX8_findStart_62 rfl (lv_at hl 3 rfl) ?_
          refine c_put (C := RX8) (T := TX8) (N := 9) (K := 7) hx hb hts hinX8 tyX8 tyX8_ok nmX8 hown hK hP hD hS hq hk (by decide) rfl 8 (by decide) (hts _ mwC_39) (fun _ h9 => h9) rfl (by decide +kernel) (Nat.le_of_ble_eq_true rfl) rfl dX8_findStart_63 (fun H locs hP hD hS => ?_)
          refine lv_iload_n hx hb dX8_findStart_66 rfl (lv_at hl 0 rfl) ?_
          exact W.iret (v := r6) hx hb hr (fun t ht hW => ⟨⟨_, (va_up ci6 q (va_up (ci6 q) 8 x1), ai6, al6), rfl, h, by rw [ht]; exact hP, cK.moved hW.alike hK, hD⟩, hS.F ht⟩) hS.2.2 dX8_findStart_67
    · have h := h.2 c_20
      refine lv_iload_n hx hb dX8_findStart_23 rfl (lv_at hl 0 rfl) ?_
      exact W.iret (v := r5) hx hb hr (fun t ht hW => ⟨⟨_, (ci5, ai5, al5), rfl, h, by rw [ht]; exact hP, cK.moved hW.alike hK, hD⟩, hS.F ht⟩) hS.2.2 dX8_findStart_24
set_option maxHeartbeats 4000000 in
set_option maxRecDepth 100000 in
theorem t_X8_findStart_2 {p : Program} {l : Launch} {e : Env} {s : State} {m : MethodId} {args : Array Value} {below : List Frame} {meth : Method} {c : Code} {A : Nat → Prop} {dC : Nat → ClassId} {dI : Nat → Nat → Nat} {sh : Sh} {q : Nat}  {Q : Int32 → (Nat → Nat → Int32) → (Nat → Nat → Int32) → (Nat → Nat → Int64) → Prop} (hx : p.tables.exec = Jvm.exec) (hb : c.code = cX8_findStart) (hr : meth.sig.returnType = (some .int)) (hts : ∀ w ∈ WC, w.before args s = true) (hown : s.vm.findClass RX8 = some m.cls) (hlocks : meth.locks = false) (hml : c.maxLocals = 4) (hA : ∀ q : Nat, s.heap.size ≤ q → A q) (hK : cK dC dI sh s) (hG : Gc s) (hq : q ∈ sL sh) (hk : sK sh q = 7) {d : Nat} {Gr Gw : (Nat → Nat → Int32) → (Nat → Nat → Int32) → (Nat → Nat → Int64) → Nat → Int32 → (Int32 → (Nat → Nat → Int32) → (Nat → Nat → Int32) → (Nat → Nat → Int64) → Prop) → Prop} (hGr : GM l dC dI sh yX5_reach wmX5_reach ({ frames := 300 + 5 * d, cells := 0, slots := 0, locals := 6000 + 200 * d }) Gr) (hGw : GM l dC dI sh yX5_work wmX5_work ({ frames := 300 + 5 * d, cells := 0, slots := 0, locals := 6000 + 200 * d }) Gw)  : ∀ n : Nat, ∀ (ci : Nat → Nat → Int32) (ai : Nat → Nat → Int32) (al : Nat → Nat → Int64) (x1 : Int32) (H : Heap) (locs : List Loc) (ls : Array Slot), P_X8_findStart_2 sh Gr Gw  Q q n ci ai al x1 → va_P (dC, dI) vwCl (cW sh ci ai al) H → va_D A (cW sh ci ai al) → va_S A s.heap H locs → lv_has ls 4 [(0, .ref q), (1, .int x1)] → W p l e (headSpec wmX8_findStart ({ frames := 302 + 5 * d, cells := 0, slots := 0, locals := 6080 + 200 * d })).room s m args below meth c H locs 0 0 (MQ below (va_Qi (S := CSt) (cI Q) (cB dC dI sh A) A) args s 0 0 A) (F0 m 2 ls []) := by
  intro n
  induction n with
  | zero => intro ci ai al x1 H locs ls h; exact h.elim
  | succ n ih => exact b_X8_findStart_2 hx hb hr hts hown hlocks hml hA hK hG hq hk hGr hGw  ih
def P_X8_findStart (sh : Sh) (Gr Gw : (Nat → Nat → Int32) → (Nat → Nat → Int32) → (Nat → Nat → Int64) → Nat → Int32 → (Int32 → (Nat → Nat → Int32) → (Nat → Nat → Int32) → (Nat → Nat → Int64) → Prop) → Prop) (ci : Nat → Nat → Int32) (ai : Nat → Nat → Int32) (al : Nat → Nat → Int64) (q : Nat)  (Q : Int32 → (Nat → Nat → Int32) → (Nat → Nat → Int32) → (Nat → Nat → Int64) → Prop) : Prop := (q ∈ sL sh ∧ sK sh q = 7) ∧ ∃ n9 : Nat, P_X8_findStart_2 sh Gr Gw  Q q n9 ci ai al (0 : Int32)
set_option maxHeartbeats 4000000 in
set_option maxRecDepth 100000 in
theorem p_X8_findStart (l : Launch) (dC : Nat → ClassId) (dI : Nat → Nat → Nat) (sh : Sh) (d : Nat) {Gr Gw : (Nat → Nat → Int32) → (Nat → Nat → Int32) → (Nat → Nat → Int64) → Nat → Int32 → (Int32 → (Nat → Nat → Int32) → (Nat → Nat → Int32) → (Nat → Nat → Int64) → Prop) → Prop} (hGr : GM l dC dI sh yX5_reach wmX5_reach ({ frames := 300 + 5 * d, cells := 0, slots := 0, locals := 6000 + 200 * d }) Gr) (hGw : GM l dC dI sh yX5_work wmX5_work ({ frames := 300 + 5 * d, cells := 0, slots := 0, locals := 6000 + 200 * d }) Gw) (ci : Nat → Nat → Int32) (ai : Nat → Nat → Int32) (al : Nat → Nat → Int64) (q : Nat)  (Q : Int32 → (Nat → Nat → Int32) → (Nat → Nat → Int32) → (Nat → Nat → Int64) → Prop) (h : P_X8_findStart sh Gr Gw ci ai al q  Q) (sz : Nat) : Met l yX8_findStart wmX8_findStart ({ frames := 302 + 5 * d, cells := 0, slots := 0, locals := 6080 + 200 * d }) (va_Pc [.ref q] (cPre dC dI sh ci ai al sz)) (va_Qi (S := CSt) (cI Q) (cB dC dI sh (va_A (cW sh ci ai al) sz)) (va_A (cW sh ci ai al) sz)) 0 0 (va_A (cW sh ci ai al) sz) := by
  refine Met.ofW (cc := cX8_findStart) (maxL := 4) (ret := (some .int)) (by decide) rfl ?_
  intro p e s m args below meth c s₁ B hml hv
  obtain ⟨rfl, hsz, hP, hK, hD0, hG⟩ := hv
  have hx := B.exec
  have hb := B.bytes
  have hr := B.returns
  have hts : ∀ w ∈ WC, w.before _ s = true := fun w h => atoms_spec (ws := wmX8_findStart) B.pre w (List.mem_cons_of_mem _ h)
  have hown : s.vm.findClass RX8 = some m.cls := findClass_of_methodNamed B.named
  have hlocks := B.notSynchronized
  subst hsz
  have hD := hD0.self (sz := s.heap.size)
  generalize hAe : va_A (cW sh ci ai al) s.heap.size = A at hD ⊢
  have hA : ∀ q : Nat, s.heap.size ≤ q → A q := fun q h => by rw [← hAe]; exact Or.inr h
  generalize hH : s.heap = H at hP ⊢
  have hS : va_S A s.heap H [] := by rw [← hH]; exact va_S.rf
  have hl := lv_entry [.ref q] (n := 4) (Nat.le_of_ble_eq_true rfl)
  rw [lg_entry_eq]
  generalize (lg_sl [.ref q] ++ List.replicate (4 - (lg_sl [.ref q]).length) Slot.unset).toArray = ls at hl ⊢
  have hl : lv_has ls 4 [(0, .ref q)] := hl
  unfold P_X8_findStart at h
  obtain ⟨⟨hq, hk⟩, h⟩ := h
  refine lv_iconst (v := 0) hx hb dX8_findStart_0 (by decide) ?_
  refine lv_istore_n (lv' := [(1, .int 0), (0, .ref q)]) hx hb dX8_findStart_1 rfl hl (by decide) rfl (fun ls hl => ?_)
  obtain ⟨n9, h⟩ := h
  exact t_X8_findStart_2 hx hb hr hts hown hlocks hml hA hK hG hq hk hGr hGw  n9 _ _ _ _ H _ ls h hP hD hS (lv_sub hl [1, 0] rfl)

abbrev wmX9_lookThrough : List Cond := .code yX9_lookThrough cX9_lookThrough 7 (some .int) :: WC
theorem hd_X9_lookThrough : yX9_lookThrough.cls = RX9 ∧ yX9_lookThrough.cls ≠ "java/lang/invoke/MethodHandle" ∧ yX9_lookThrough.cls ≠ "java/lang/invoke/VarHandle" ∧ (parseMethodDescriptor yX9_lookThrough.desc).map (fun d => d.parameters.length) = some 1 := by decide +kernel
def B_X9_lookThrough_30 (sh : Sh) (Gr Gw : (Nat → Nat → Int32) → (Nat → Nat → Int32) → (Nat → Nat → Int64) → Nat → Int32 → (Int32 → (Nat → Nat → Int32) → (Nat → Nat → Int32) → (Nat → Nat → Int64) → Prop) → Prop)  (K30 : (Nat → Nat → Int32) → (Nat → Nat → Int32) → (Nat → Nat → Int64) → Int64 → Int32 → Prop) (Q : Int32 → (Nat → Nat → Int32) → (Nat → Nat → Int32) → (Nat → Nat → Int64) → Prop) (q : Nat) (ci : Nat → Nat → Int32) (ai : Nat → Nat → Int32) (al : Nat → Nat → Int64) (x3 : Int64) (x5 : Int32) : Prop := ((400 < x5) → (Q 3 ci ai al)) ∧ ((¬ 400 < x5) → (∃ q1 : Nat, sR sh q 5 = some q1 ∧ (q1 ∈ sL sh ∧ isZ (sK sh q1)) ∧ Gr (va_up ci q (va_up (ci q) 7 x5)) ai al q1 x5 (fun r5 ci5 ai5 al5 => ((r5 = 1) → (Gw ci5 ai5 al5 q1 x5 (fun r6 ci6 ai6 al6 => ((¬ r6 = 1) → (Q r6 ci6 ai6 al6)) ∧ ((r6 = 1) → (P_X5_number_f sh 30 ci6 ai6 al6 q1 x5 (fun r7 => (((lg_cmp r7 x3) = 0) → (K30 ci6 ai6 al6 x3 (x5 + 1))) ∧ ((¬ (lg_cmp r7 x3) = 0) → (Q r6 ci6 ai6 al6)))))))) ∧ ((¬ r5 = 1) → (Q r5 ci5 ai5 al5)))))
def P_X9_lookThrough_30 (sh : Sh) (Gr Gw : (Nat → Nat → Int32) → (Nat → Nat → Int32) → (Nat → Nat → Int64) → Nat → Int32 → (Int32 → (Nat → Nat → Int32) → (Nat → Nat → Int32) → (Nat → Nat → Int64) → Prop) → Prop)  (Q : Int32 → (Nat → Nat → Int32) → (Nat → Nat → Int32) → (Nat → Nat → Int64) → Prop) (q : Nat) : Nat → (Nat → Nat → Int32) → (Nat → Nat → Int32) → (Nat → Nat → Int64) → Int64 → Int32 → Prop
  | 0 => fun _ _ _ _ _ => False
  | n + 1 => B_X9_lookThrough_30 sh Gr Gw  (P_X9_lookThrough_30 sh Gr Gw  Q q n) Q q
set_option maxHeartbeats 4000000 in
set_option maxRecDepth 100000 in
theorem b_X9_lookThrough_30 {p : Program} {l : Launch} {e : Env} {s : State} {m : MethodId} {args : Array Value} {below : List Frame} {meth : Method} {c : Code} {A : Nat → Prop} {dC : Nat → ClassId} {dI : Nat → Nat → Nat} {sh : Sh} {q : Nat}  {K30 : (Nat → Nat → Int32) → (Nat → Nat → Int32) → (Nat → Nat → Int64) → Int64 → Int32 → Prop} {Q : Int32 → (Nat → Nat → Int32) → (Nat → Nat → Int32) → (Nat → Nat → Int64) → Prop} (hx : p.tables.exec = Jvm.exec) (hb : c.code = cX9_lookThrough) (hr : meth.sig.returnType = (some .int)) (hts : ∀ w ∈ WC, w.before args s = true) (hown : s.vm.findClass RX9 = some m.cls) (hlocks : meth.locks = false) (hml : c.maxLocals = 7) (hA : ∀ q : Nat, s.heap.size ≤ q → A q) (hK : cK dC dI sh s) (hG : Gc s) (hq : q ∈ sL sh) (hk : sK sh q = 8) {d : Nat} {Gr Gw : (Nat → Nat → Int32) → (Nat → Nat → Int32) → (Nat → Nat → Int64) → Nat → Int32 → (Int32 → (Nat → Nat → Int32) → (Nat → Nat → Int32) → (Nat → Nat → Int64) → Prop) → Prop} (hGr : GM l dC dI sh yX5_reach wmX5_reach ({ frames := 300 + 5 * d, cells := 0, slots := 0, locals := 6000 + 200 * d }) Gr) (hGw : GM l dC dI sh yX5_work wmX5_work ({ frames := 300 + 5 * d, cells := 0, slots := 0, locals := 6000 + 200 * d }) Gw)  (hK30 : ∀ (ci : Nat → Nat → Int32) (ai : Nat → Nat → Int32) (al : Nat → Nat → Int64) (x3 : Int64) (x5 : Int32) (H : Heap) (locs : List Loc) (ls : Array Slot), K30 ci ai al x3 x5 → va_P (dC, dI) vwCl (cW sh ci ai al) H → va_D A (cW sh ci ai al) → va_S A s.heap H locs → lv_has ls 7 [(0, .ref q), (3, .long x3), (5, .int x5)] → W p l e (headSpec wmX9_lookThrough ({ frames := 302 + 5 * d, cells := 0, slots := 0, locals := 6080 + 200 * d })).room s m args below meth c H locs 0 0 (MQ below (va_Qi (S := CSt) (cI Q) (cB dC dI sh A) A) args s 0 0 A) (F0 m 30 ls [])) : ∀ (ci : Nat → Nat → Int32) (ai : Nat → Nat → Int32) (al : Nat → Nat → Int64) (x3 : Int64) (x5 : Int32) (H : Heap) (locs : List Loc) (ls : Array Slot), B_X9_lookThrough_30 sh Gr Gw  K30 Q q ci ai al x3 x5 → va_P (dC, dI) vwCl (cW sh ci ai al) H → va_D A (cW sh ci ai al) → va_S A s.heap H locs → lv_has ls 7 [(0, .ref q), (3, .long x3), (5, .int x5)] → W p l e (headSpec wmX9_lookThrough ({ frames := 302 + 5 * d, cells := 0, slots := 0, locals := 6080 + 200 * d })).room s m args below meth c H locs 0 0 (MQ below (va_Qi (S := CSt) (cI Q) (cB dC dI sh A) A) args s 0 0 A) (F0 m 30 ls []) := by
  intro ci ai al x3 x5 H locs ls h hP hD hS hl
  unfold B_X9_lookThrough_30 at h
  refine lv_iload hx hb dX9_lookThrough_30 (lv_at hl 2 rfl) ?_
  refine lv_sipush (v := 400) hx hb dX9_lookThrough_32 (by decide) ?_
  refine lv_icmp_gt (tgt := 101) hx hb dX9_lookThrough_35 (by decide) (fun c_35 => ?_) (fun c_35 => ?_)
  · have h := h.1 c_35
    refine lv_iconst (v := 3) hx hb dX9_lookThrough_101 (by decide) ?_
    exact W.iret (v := 3) hx hb hr (fun t ht hW => ⟨⟨_, (ci, ai, al), rfl, h, by rw [ht]; exact hP, cK.moved hW.alike hK, hD⟩, hS.F ht⟩) hS.2.2 dX9_lookThrough_102
  · have h := h.2 c_35
    refine lv_aload_n hx hb dX9_lookThrough_38 rfl (lv_at hl 0 rfl) ?_
    refine lv_iload hx hb dX9_lookThrough_39 (lv_at hl 2 rfl) ?_
    refine c_put (C := RX9) (T := TX9) (N := 8) (K := 8) hx hb hts hinX9 tyX9 tyX9_ok nmX9 hown hK hP hD hS hq hk (by decide) rfl 7 (by decide) (hts _ mwC_177) (fun _ h9 => h9) rfl (by decide +kernel) (Nat.le_of_ble_eq_true rfl) rfl dX9_lookThrough_41 (fun H locs hP hD hS => ?_)
    refine lv_aload_n hx hb dX9_lookThrough_44 rfl (lv_at hl 0 rfl) ?_
    obtain ⟨q1, e2, h⟩ := h
    refine c_get (C := RX9) (T := TX9) (N := 8) (K := 8) (v := .ref q1) hx hb hts hinX9 hown hK hP hq hk (by decide) rfl 5 (by decide) (hts _ mwC_174) (fun _ h9 => h9) (by show some (va_rf (sR sh q 5)) = _; rw [e2]; rfl) dX9_lookThrough_45 ?_
    refine lv_iload hx hb dX9_lookThrough_48 (lv_at hl 2 rfl) ?_
    obtain ⟨⟨hm3, hk4⟩, h⟩ := h
    refine c_endi (c_runZ (rm := ({ frames := 300 + 5 * d, cells := 0, slots := 0, locals := 6000 + 200 * d })) (y := yX5_reach) (x := ⟨"NeededLists$LazyList", "reach", "(I)I"⟩) (n := 1) (bytes := cX5_reach) (maxL := 5) (ret := (some .int)) (q := q1) (As := [.int x5]) (rest := []) ⟨hx, hb, hml, hown, hts⟩ (hGr _ _ _ q1 x5 _ h H.size) mwC_178 mwC_145 mwC_146 mwC_22 mwC_147 mwC_148 mwC_149 mwC_150 mwC_151 mwC_152 mwC_153 mwC_154 mwC_155 mwC_156 rfl (by decide +kernel) rfl rfl ⟨(show 300 + 5 * d + 1 ≤ 302 + 5 * d by omega), (show 8 + (5 + 11) + (6000 + 200 * d) ≤ 6080 + 200 * d by omega)⟩ hK hP hD hG hm3 hk4 rfl hl.1 rfl (Nat.le_of_ble_eq_true rfl) ⟨Nat.le_of_ble_eq_true rfl, Nat.le_of_ble_eq_true rfl⟩ dX9_lookThrough_50) hD hS hA (fun r5 ci5 ai5 al5 H locs h hP hD hS => ?_)
    refine lv_istore (lv' := [(6, .int r5), (0, .ref q), (3, .long x3), (5, .int x5)]) hx hb dX9_lookThrough_53 hl (by decide) rfl (fun ls hl => ?_)
    refine lv_iload hx hb dX9_lookThrough_55 (lv_at hl 0 rfl) ?_
    refine lv_iconst (v := 1) hx hb dX9_lookThrough_57 (by decide) ?_
    refine lv_icmp_eq (tgt := 64) hx hb dX9_lookThrough_58 (by decide) (fun c_58 => ?_) (fun c_58 => ?_)
    · have h := h.1 c_58
      refine lv_aload_n hx hb dX9_lookThrough_64 rfl (lv_at hl 1 rfl) ?_
      refine c_get (C := RX9) (T := TX9) (N := 8) (K := 8) (v := .ref q1) hx hb hts hinX9 hown hK hP hq hk (by decide) rfl 5 (by decide) (hts _ mwC_174) (fun _ h9 => h9) (by show some (va_rf (sR sh q 5)) = _; rw [e2]; rfl) dX9_lookThrough_65 ?_
      refine lv_iload hx hb dX9_lookThrough_68 (lv_at hl 3 rfl) ?_
      refine c_endi (c_runZ (rm := ({ frames := 300 + 5 * d, cells := 0, slots := 0, locals := 6000 + 200 * d })) (y := yX5_work) (x := ⟨"NeededLists$LazyList", "work", "(I)I"⟩) (n := 1) (bytes := cX5_work) (maxL := 4) (ret := (some .int)) (q := q1) (As := [.int x5]) (rest := []) ⟨hx, hb, hml, hown, hts⟩ (hGw _ _ _ q1 x5 _ h H.size) mwC_175 mwC_159 mwC_160 mwC_22 mwC_161 mwC_162 mwC_163 mwC_164 mwC_165 mwC_166 mwC_167 mwC_168 mwC_169 mwC_170 rfl (by decide +kernel) rfl rfl ⟨(show 300 + 5 * d + 1 ≤ 302 + 5 * d by omega), (show 8 + (4 + 11) + (6000 + 200 * d) ≤ 6080 + 200 * d by omega)⟩ hK hP hD hG hm3 hk4 rfl hl.1 rfl (Nat.le_of_ble_eq_true rfl) ⟨Nat.le_of_ble_eq_true rfl, Nat.le_of_ble_eq_true rfl⟩ dX9_lookThrough_70) hD hS hA (fun r6 ci6 ai6 al6 H locs h hP hD hS => ?_)
      refine lv_istore_n (lv' := [(2, .int r6), (6, .int r5), (0, .ref q), (3, .long x3), (5, .int x5)]) hx hb dX9_lookThrough_73 rfl hl (by decide) rfl (fun ls hl => ?_)
      refine lv_iload_n hx hb dX9_lookThrough_74 rfl (lv_at hl 0 rfl) ?_
      refine lv_iconst (v := 1) hx hb dX9_lookThrough_75 (by decide) ?_
      refine lv_icmp_ne (tgt := 93) hx hb dX9_lookThrough_76 (by decide) (fun c_76 => ?_) (fun c_76 => ?_)
      · have h := h.1 c_76
        refine lv_iload_n hx hb dX9_lookThrough_93 rfl (lv_at hl 0 rfl) ?_
        exact W.iret (v := r6) hx hb hr (fun t ht hW => ⟨⟨_, (ci6, ai6, al6), rfl, h, by rw [ht]; exact hP, cK.moved hW.alike hK, hD⟩, hS.F ht⟩) hS.2.2 dX9_lookThrough_94
      · have h := h.2 c_76
        refine lv_aload_n hx hb dX9_lookThrough_79 rfl (lv_at hl 2 rfl) ?_
        refine c_get (C := RX9) (T := TX9) (N := 8) (K := 8) (v := .ref q1) hx hb hts hinX9 hown hK hP hq hk (by decide) rfl 5 (by decide) (hts _ mwC_174) (fun _ h9 => h9) (by show some (va_rf (sR sh q 5)) = _; rw [e2]; rfl) dX9_lookThrough_80 ?_
        refine lv_iload hx hb dX9_lookThrough_83 (lv_at hl 4 rfl) ?_
        refine r_endl (c_runZ (rm := ({ frames := 20 + 2 * 30, cells := 0, slots := 0, locals := 300 + 50 * 30 })) (y := yX5_number) (x := ⟨"NeededLists$LazyList", "number", "(I)J"⟩) (n := 1) (bytes := cX5_number) (maxL := 3) (ret := (some .long)) (q := q1) (As := [.int x5]) (rest := []) ⟨hx, hb, hml, hown, hts⟩ (p_X5_number_f l dC dI sh 30 _ _ _ q1 x5 _ h H.size) mwC_176 mwC_92 mwC_93 mwC_22 mwC_94 mwC_95 mwC_96 mwC_97 mwC_98 mwC_99 mwC_100 mwC_101 mwC_102 mwC_103 rfl (by decide +kernel) rfl rfl ⟨(show 20 + 2 * 30 + 1 ≤ 302 + 5 * d by omega), (show 8 + (3 + 11) + (300 + 50 * 30) ≤ 6080 + 200 * d by omega)⟩ hK hP hD hG hm3 hk4 rfl hl.1 rfl (Nat.le_of_ble_eq_true rfl) ⟨Nat.le_of_ble_eq_true rfl, Nat.le_of_ble_eq_true rfl⟩ dX9_lookThrough_85) hP hS hA (fun r7 H locs h hP hS => ?_)
        refine lv_lload_n hx hb dX9_lookThrough_88 rfl (lv_at hl 3 rfl) ?_
        refine W.lcmp hx hb dX9_lookThrough_89 ?_
        refine lv_if_eq (tgt := 95) hx hb dX9_lookThrough_90 (by decide) (fun c_90 => ?_) (fun c_90 => ?_)
        · have h := h.1 c_90
          refine lv_iinc (v := x5 + 1) (lv' := [(5, .int (x5 + 1)), (2, .int r6), (6, .int r5), (0, .ref q), (3, .long x3)]) hx hb dX9_lookThrough_95 hl (k := 4) rfl (iinc_1 _) (by decide) rfl (fun ls hl => ?_)
          refine lv_goto (tgt := 30) hx hb dX9_lookThrough_98 (by decide) ?_
          exact hK30 _ _ _ _ _ H _ ls h hP hD hS (lv_sub hl [3, 4, 0] rfl)
        · have h := h.2 c_90
          refine lv_iload_n hx hb dX9_lookThrough_93 rfl (lv_at hl 0 rfl) ?_
          exact W.iret (v := r6) hx hb hr (fun t ht hW => ⟨⟨_, (ci6, ai6, al6), rfl, h, by rw [ht]; exact hP, cK.moved hW.alike hK, hD⟩, hS.F ht⟩) hS.2.2 dX9_lookThrough_94
    · have h := h.2 c_58
      refine lv_iload hx hb dX9_lookThrough_61 (lv_at hl 0 rfl) ?_
      exact W.iret (v := r5) hx hb hr (fun t ht hW => ⟨⟨_, (ci5, ai5, al5), rfl, h, by rw [ht]; exact hP, cK.moved hW.alike hK, hD⟩, hS.F ht⟩) hS.2.2 dX9_lookThrough_63
set_option maxHeartbeats 4000000 in
set_option maxRecDepth 100000 in
theorem t_X9_lookThrough_30 {p : Program} {l : Launch} {e : Env} {s : State} {m : MethodId} {args : Array Value} {below : List Frame} {meth : Method} {c : Code} {A : Nat → Prop} {dC : Nat → ClassId} {dI : Nat → Nat → Nat} {sh : Sh} {q : Nat}  {Q : Int32 → (Nat → Nat → Int32) → (Nat → Nat → Int32) → (Nat → Nat → Int64) → Prop} (hx : p.tables.exec = Jvm.exec) (hb : c.code = cX9_lookThrough) (hr : meth.sig.returnType = (some .int)) (hts : ∀ w ∈ WC, w.before args s = true) (hown : s.vm.findClass RX9 = some m.cls) (hlocks : meth.locks = false) (hml : c.maxLocals = 7) (hA : ∀ q : Nat, s.heap.size ≤ q → A q) (hK : cK dC dI sh s) (hG : Gc s) (hq : q ∈ sL sh) (hk : sK sh q = 8) {d : Nat} {Gr Gw : (Nat → Nat → Int32) → (Nat → Nat → Int32) → (Nat → Nat → Int64) → Nat → Int32 → (Int32 → (Nat → Nat → Int32) → (Nat → Nat → Int32) → (Nat → Nat → Int64) → Prop) → Prop} (hGr : GM l dC dI sh yX5_reach wmX5_reach ({ frames := 300 + 5 * d, cells := 0, slots := 0, locals := 6000 + 200 * d }) Gr) (hGw : GM l dC dI sh yX5_work wmX5_work ({ frames := 300 + 5 * d, cells := 0, slots := 0, locals := 6000 + 200 * d }) Gw)  : ∀ n : Nat, ∀ (ci : Nat → Nat → Int32) (ai : Nat → Nat → Int32) (al : Nat → Nat → Int64) (x3 : Int64) (x5 : Int32) (H : Heap) (locs : List Loc) (ls : Array Slot), P_X9_lookThrough_30 sh Gr Gw  Q q n ci ai al x3 x5 → va_P (dC, dI) vwCl (cW sh ci ai al) H → va_D A (cW sh ci ai al) → va_S A s.heap H locs → lv_has ls 7 [(0, .ref q), (3, .long x3), (5, .int x5)] → W p l e (headSpec wmX9_lookThrough ({ frames := 302 + 5 * d, cells := 0, slots := 0, locals := 6080 + 200 * d })).room s m args below meth c H locs 0 0 (MQ below (va_Qi (S := CSt) (cI Q) (cB dC dI sh A) A) args s 0 0 A) (F0 m 30 ls []) := by
  intro n
  induction n with
  | zero => intro ci ai al x3 x5 H locs ls h; exact h.elim
  | succ n ih => exact b_X9_lookThrough_30 hx hb hr hts hown hlocks hml hA hK hG hq hk hGr hGw  ih
def P_X9_lookThrough (sh : Sh) (Gr Gw : (Nat → Nat → Int32) → (Nat → Nat → Int32) → (Nat → Nat → Int64) → Nat → Int32 → (Int32 → (Nat → Nat → Int32) → (Nat → Nat → Int32) → (Nat → Nat → Int64) → Prop) → Prop) (ci : Nat → Nat → Int32) (ai : Nat → Nat → Int32) (al : Nat → Nat → Int64) (q : Nat) (p0 : Int32) (Q : Int32 → (Nat → Nat → Int32) → (Nat → Nat → Int32) → (Nat → Nat → Int64) → Prop) : Prop := (q ∈ sL sh ∧ sK sh q = 8) ∧ ∃ q1 : Nat, sR sh q 5 = some q1 ∧ (q1 ∈ sL sh ∧ isZ (sK sh q1)) ∧ Gw ci ai al q1 p0 (fun r5 ci5 ai5 al5 => ((r5 = 1) → (P_X5_number_f sh 30 ci5 ai5 al5 q1 p0 (fun r6 => ∃ n9 : Nat, P_X9_lookThrough_30 sh Gr Gw  Q q n9 ci5 ai5 al5 r6 (p0 + 1)))) ∧ ((¬ r5 = 1) → (Q r5 ci5 ai5 al5)))
set_option maxHeartbeats 4000000 in
set_option maxRecDepth 100000 in
theorem p_X9_lookThrough (l : Launch) (dC : Nat → ClassId) (dI : Nat → Nat → Nat) (sh : Sh) (d : Nat) {Gr Gw : (Nat → Nat → Int32) → (Nat → Nat → Int32) → (Nat → Nat → Int64) → Nat → Int32 → (Int32 → (Nat → Nat → Int32) → (Nat → Nat → Int32) → (Nat → Nat → Int64) → Prop) → Prop} (hGr : GM l dC dI sh yX5_reach wmX5_reach ({ frames := 300 + 5 * d, cells := 0, slots := 0, locals := 6000 + 200 * d }) Gr) (hGw : GM l dC dI sh yX5_work wmX5_work ({ frames := 300 + 5 * d, cells := 0, slots := 0, locals := 6000 + 200 * d }) Gw) (ci : Nat → Nat → Int32) (ai : Nat → Nat → Int32) (al : Nat → Nat → Int64) (q : Nat) (p0 : Int32) (Q : Int32 → (Nat → Nat → Int32) → (Nat → Nat → Int32) → (Nat → Nat → Int64) → Prop) (h : P_X9_lookThrough sh Gr Gw ci ai al q p0 Q) (sz : Nat) : Met l yX9_lookThrough wmX9_lookThrough ({ frames := 302 + 5 * d, cells := 0, slots := 0, locals := 6080 + 200 * d }) (va_Pc [.ref q, .int p0] (cPre dC dI sh ci ai al sz)) (va_Qi (S := CSt) (cI Q) (cB dC dI sh (va_A (cW sh ci ai al) sz)) (va_A (cW sh ci ai al) sz)) 0 0 (va_A (cW sh ci ai al) sz) := by
  refine Met.ofW (cc := cX9_lookThrough) (maxL := 7) (ret := (some .int)) (by decide) rfl ?_
  intro p e s m args below meth c s₁ B hml hv
  obtain ⟨rfl, hsz, hP, hK, hD0, hG⟩ := hv
  have hx := B.exec
  have hb := B.bytes
  have hr := B.returns
  have hts : ∀ w ∈ WC, w.before _ s = true := fun w h => atoms_spec (ws := wmX9_lookThrough) B.pre w (List.mem_cons_of_mem _ h)
  have hown : s.vm.findClass RX9 = some m.cls := findClass_of_methodNamed B.named
  have hlocks := B.notSynchronized
  subst hsz
  have hD := hD0.self (sz := s.heap.size)
  generalize hAe : va_A (cW sh ci ai al) s.heap.size = A at hD ⊢
  have hA : ∀ q : Nat, s.heap.size ≤ q → A q := fun q h => by rw [← hAe]; exact Or.inr h
  generalize hH : s.heap = H at hP ⊢
  have hS : va_S A s.heap H [] := by rw [← hH]; exact va_S.rf
  have hl := lv_entry [.ref q, .int p0] (n := 7) (Nat.le_of_ble_eq_true rfl)
  rw [lg_entry_eq]
  generalize (lg_sl [.ref q, .int p0] ++ List.replicate (7 - (lg_sl [.ref q, .int p0]).length) Slot.unset).toArray = ls at hl ⊢
  have hl : lv_has ls 7 [(0, .ref q), (1, .int p0)] := hl
  unfold P_X9_lookThrough at h
  obtain ⟨⟨hq, hk⟩, h⟩ := h
  refine lv_aload_n hx hb dX9_lookThrough_0 rfl (lv_at hl 0 rfl) ?_
  obtain ⟨q1, e2, h⟩ := h
  refine c_get (C := RX9) (T := TX9) (N := 8) (K := 8) (v := .ref q1) hx hb hts hinX9 hown hK hP hq hk (by decide) rfl 5 (by decide) (hts _ mwC_174) (fun _ h9 => h9) (by show some (va_rf (sR sh q 5)) = _; rw [e2]; rfl) dX9_lookThrough_1 ?_
  refine lv_iload_n hx hb dX9_lookThrough_4 rfl (lv_at hl 1 rfl) ?_
  obtain ⟨⟨hm3, hk4⟩, h⟩ := h
  refine c_endi (c_runZ (rm := ({ frames := 300 + 5 * d, cells := 0, slots := 0, locals := 6000 + 200 * d })) (y := yX5_work) (x := ⟨"NeededLists$LazyList", "work", "(I)I"⟩) (n := 1) (bytes := cX5_work) (maxL := 4) (ret := (some .int)) (q := q1) (As := [.int p0]) (rest := []) ⟨hx, hb, hml, hown, hts⟩ (hGw _ _ _ q1 p0 _ h H.size) mwC_175 mwC_159 mwC_160 mwC_22 mwC_161 mwC_162 mwC_163 mwC_164 mwC_165 mwC_166 mwC_167 mwC_168 mwC_169 mwC_170 rfl (by decide +kernel) rfl rfl ⟨(show 300 + 5 * d + 1 ≤ 302 + 5 * d by omega), (show 8 + (4 + 11) + (6000 + 200 * d) ≤ 6080 + 200 * d by omega)⟩ hK hP hD hG hm3 hk4 rfl hl.1 rfl (Nat.le_of_ble_eq_true rfl) ⟨Nat.le_of_ble_eq_true rfl, Nat.le_of_ble_eq_true rfl⟩ dX9_lookThrough_5) hD hS hA (fun r5 ci5 ai5 al5 H locs h hP hD hS => ?_)
  refine lv_istore_n (lv' := [(2, .int r5), (0, .ref q), (1, .int p0)]) hx hb dX9_lookThrough_8 rfl hl (by decide) rfl (fun ls hl => ?_)
  refine lv_iload_n hx hb dX9_lookThrough_9 rfl (lv_at hl 0 rfl) ?_
  refine lv_iconst (v := 1) hx hb dX9_lookThrough_10 (by decide) ?_
  refine lv_icmp_eq (tgt := 16) hx hb dX9_lookThrough_11 (by decide) (fun c_11 => ?_) (fun c_11 => ?_)
  · have h := h.1 c_11
    refine lv_aload_n hx hb dX9_lookThrough_16 rfl (lv_at hl 1 rfl) ?_
    refine c_get (C := RX9) (T := TX9) (N := 8) (K := 8) (v := .ref q1) hx hb hts hinX9 hown hK hP hq hk (by decide) rfl 5 (by decide) (hts _ mwC_174) (fun _ h9 => h9) (by show some (va_rf (sR sh q 5)) = _; rw [e2]; rfl) dX9_lookThrough_17 ?_
    refine lv_iload_n hx hb dX9_lookThrough_20 rfl (lv_at hl 2 rfl) ?_
    refine r_endl (c_runZ (rm := ({ frames := 20 + 2 * 30, cells := 0, slots := 0, locals := 300 + 50 * 30 })) (y := yX5_number) (x := ⟨"NeededLists$LazyList", "number", "(I)J"⟩) (n := 1) (bytes := cX5_number) (maxL := 3) (ret := (some .long)) (q := q1) (As := [.int p0]) (rest := []) ⟨hx, hb, hml, hown, hts⟩ (p_X5_number_f l dC dI sh 30 _ _ _ q1 p0 _ h H.size) mwC_176 mwC_92 mwC_93 mwC_22 mwC_94 mwC_95 mwC_96 mwC_97 mwC_98 mwC_99 mwC_100 mwC_101 mwC_102 mwC_103 rfl (by decide +kernel) rfl rfl ⟨(show 20 + 2 * 30 + 1 ≤ 302 + 5 * d by omega), (show 8 + (3 + 11) + (300 + 50 * 30) ≤ 6080 + 200 * d by omega)⟩ hK hP hD hG hm3 hk4 rfl hl.1 rfl (Nat.le_of_ble_eq_true rfl) ⟨Nat.le_of_ble_eq_true rfl, Nat.le_of_ble_eq_true rfl⟩ dX9_lookThrough_21) hP hS hA (fun r6 H locs h hP hS => ?_)
    refine lv_lstore_n (lv' := [(3, .long r6), (2, .int r5), (0, .ref q), (1, .int p0)]) hx hb dX9_lookThrough_24 rfl hl (by decide) rfl (fun ls hl => ?_)
    refine lv_iload_n hx hb dX9_lookThrough_25 rfl (lv_at hl 3 rfl) ?_
    refine lv_iconst (v := 1) hx hb dX9_lookThrough_26 (by decide) ?_
    refine lv_iadd hx hb dX9_lookThrough_27 ?_
    refine lv_istore (lv' := [(5, .int (p0 + 1)), (3, .long r6), (2, .int r5), (0, .ref q), (1, .int p0)]) hx hb dX9_lookThrough_28 hl (by decide) rfl (fun ls hl => ?_)
    obtain ⟨n9, h⟩ := h
    exact t_X9_lookThrough_30 hx hb hr hts hown hlocks hml hA hK hG hq hk hGr hGw  n9 _ _ _ _ _ H _ ls h hP hD hS (lv_sub hl [3, 1, 0] rfl)
  · have h := h.2 c_11
    refine lv_iload_n hx hb dX9_lookThrough_14 rfl (lv_at hl 0 rfl) ?_
    exact W.iret (v := r5) hx hb hr (fun t ht hW => ⟨⟨_, (ci5, ai5, al5), rfl, h, by rw [ht]; exact hP, cK.moved hW.alike hK, hD⟩, hS.F ht⟩) hS.2.2 dX9_lookThrough_15

abbrev wmX0_workAhead : List Cond := .code yX0_workAhead cX0_workAhead 5 (some .int) :: WC
theorem hd_X0_workAhead : yX0_workAhead.cls = RX0 ∧ yX0_workAhead.cls ≠ "java/lang/invoke/MethodHandle" ∧ yX0_workAhead.cls ≠ "java/lang/invoke/VarHandle" ∧ (parseMethodDescriptor yX0_workAhead.desc).map (fun d => d.parameters.length) = some 1 := by decide +kernel
def B_X0_workAhead_27 (sh : Sh) (Gr Gw : (Nat → Nat → Int32) → (Nat → Nat → Int32) → (Nat → Nat → Int64) → Nat → Int32 → (Int32 → (Nat → Nat → Int32) → (Nat → Nat → Int32) → (Nat → Nat → Int64) → Prop) → Prop)  (K27 : (Nat → Nat → Int32) → (Nat → Nat → Int32) → (Nat → Nat → Int64) → Int32 → Int32 → Int32 → Prop) (Q : Int32 → (Nat → Nat → Int32) → (Nat → Nat → Int32) → (Nat → Nat → Int64) → Prop) (q : Nat) (ci : Nat → Nat → Int32) (ai : Nat → Nat → Int32) (al : Nat → Nat → Int64) (x1 : Int32) (x3 : Int32) (x4 : Int32) : Prop := ((x1 ≤ x4) → (Q x3 ci ai al)) ∧ ((¬ x1 ≤ x4) → (((x3 = 3) → (Q x3 ci ai al)) ∧ ((¬ x3 = 3) → (Gw ci ai al q x4 (fun r1 ci1 ai1 al1 => K27 ci1 ai1 al1 x1 r1 (x4 + 1))))))
def P_X0_workAhead_27 (sh : Sh) (Gr Gw : (Nat → Nat → Int32) → (Nat → Nat → Int32) → (Nat → Nat → Int64) → Nat → Int32 → (Int32 → (Nat → Nat → Int32) → (Nat → Nat → Int32) → (Nat → Nat → Int64) → Prop) → Prop)  (Q : Int32 → (Nat → Nat → Int32) → (Nat → Nat → Int32) → (Nat → Nat → Int64) → Prop) (q : Nat) : Nat → (Nat → Nat → Int32) → (Nat → Nat → Int32) → (Nat → Nat → Int64) → Int32 → Int32 → Int32 → Prop
  | 0 => fun _ _ _ _ _ _ => False
  | n + 1 => B_X0_workAhead_27 sh Gr Gw  (P_X0_workAhead_27 sh Gr Gw  Q q n) Q q
set_option maxHeartbeats 4000000 in
set_option maxRecDepth 100000 in
theorem b_X0_workAhead_27 {p : Program} {l : Launch} {e : Env} {s : State} {m : MethodId} {args : Array Value} {below : List Frame} {meth : Method} {c : Code} {A : Nat → Prop} {dC : Nat → ClassId} {dI : Nat → Nat → Nat} {sh : Sh} {q : Nat}  {K27 : (Nat → Nat → Int32) → (Nat → Nat → Int32) → (Nat → Nat → Int64) → Int32 → Int32 → Int32 → Prop} {Q : Int32 → (Nat → Nat → Int32) → (Nat → Nat → Int32) → (Nat → Nat → Int64) → Prop} (hx : p.tables.exec = Jvm.exec) (hb : c.code = cX0_workAhead) (hr : meth.sig.returnType = (some .int)) (hts : ∀ w ∈ WC, w.before args s = true) (hown : s.vm.findClass RX0 = some m.cls) (hlocks : meth.locks = false) (hml : c.maxLocals = 5) (hA : ∀ q : Nat, s.heap.size ≤ q → A q) (hK : cK dC dI sh s) (hG : Gc s) (hq : q ∈ sL sh) (hk : sK sh q = 0) {d : Nat} {Gr Gw : (Nat → Nat → Int32) → (Nat → Nat → Int32) → (Nat → Nat → Int64) → Nat → Int32 → (Int32 → (Nat → Nat → Int32) → (Nat → Nat → Int32) → (Nat → Nat → Int64) → Prop) → Prop} (hGr : GM l dC dI sh yX5_reach wmX5_reach ({ frames := 300 + 5 * d, cells := 0, slots := 0, locals := 6000 + 200 * d }) Gr) (hGw : GM l dC dI sh yX5_work wmX5_work ({ frames := 300 + 5 * d, cells := 0, slots := 0, locals := 6000 + 200 * d }) Gw)  (hK27 : ∀ (ci : Nat → Nat → Int32) (ai : Nat → Nat → Int32) (al : Nat → Nat → Int64) (x1 : Int32) (x3 : Int32) (x4 : Int32) (H : Heap) (locs : List Loc) (ls : Array Slot), K27 ci ai al x1 x3 x4 → va_P (dC, dI) vwCl (cW sh ci ai al) H → va_D A (cW sh ci ai al) → va_S A s.heap H locs → lv_has ls 5 [(0, .ref q), (1, .int x1), (3, .int x3), (4, .int x4)] → W p l e (headSpec wmX0_workAhead ({ frames := 302 + 5 * d, cells := 0, slots := 0, locals := 6080 + 200 * d })).room s m args below meth c H locs 0 0 (MQ below (va_Qi (S := CSt) (cI Q) (cB dC dI sh A) A) args s 0 0 A) (F0 m 27 ls [])) : ∀ (ci : Nat → Nat → Int32) (ai : Nat → Nat → Int32) (al : Nat → Nat → Int64) (x1 : Int32) (x3 : Int32) (x4 : Int32) (H : Heap) (locs : List Loc) (ls : Array Slot), B_X0_workAhead_27 sh Gr Gw  K27 Q q ci ai al x1 x3 x4 → va_P (dC, dI) vwCl (cW sh ci ai al) H → va_D A (cW sh ci ai al) → va_S A s.heap H locs → lv_has ls 5 [(0, .ref q), (1, .int x1), (3, .int x3), (4, .int x4)] → W p l e (headSpec wmX0_workAhead ({ frames := 302 + 5 * d, cells := 0, slots := 0, locals := 6080 + 200 * d })).room s m args below meth c H locs 0 0 (MQ below (va_Qi (S := CSt) (cI Q) (cB dC dI sh A) A) args s 0 0 A) (F0 m 27 ls []) := by
  intro ci ai al x1 x3 x4 H locs ls h hP hD hS hl
  unfold B_X0_workAhead_27 at h
  refine lv_iload hx hb dX0_workAhead_27 (lv_at hl 3 rfl) ?_
  refine lv_iload_n hx hb dX0_workAhead_29 rfl (lv_at hl 1 rfl) ?_
  refine lv_icmp_ge (tgt := 51) hx hb dX0_workAhead_30 (by decide) (fun c_30 => ?_) (fun c_30 => ?_)
  · have h := h.1 c_30
    refine lv_iload_n hx hb dX0_workAhead_51 rfl (lv_at hl 2 rfl) ?_
    exact W.iret (v := x3) hx hb hr (fun t ht hW => ⟨⟨_, (ci, ai, al), rfl, h, by rw [ht]; exact hP, cK.moved hW.alike hK, hD⟩, hS.F ht⟩) hS.2.2 dX0_workAhead_52
  · have h := h.2 c_30
    refine lv_iload_n hx hb dX0_workAhead_33 rfl (lv_at hl 2 rfl) ?_
    refine lv_iconst (v := 3) hx hb dX0_workAhead_34 (by decide) ?_
    refine lv_icmp_eq (tgt := 51) hx hb dX0_workAhead_35 (by decide) (fun c_35 => ?_) (fun c_35 => ?_)
    · have h := h.1 c_35
      refine lv_iload_n hx hb dX0_workAhead_51 rfl (lv_at hl 2 rfl) ?_
      exact W.iret (v := x3) hx hb hr (fun t ht hW => ⟨⟨_, (ci, ai, al), rfl, h, by rw [ht]; exact hP, cK.moved hW.alike hK, hD⟩, hS.F ht⟩) hS.2.2 dX0_workAhead_52
    · have h := h.2 c_35
      refine lv_aload_n hx hb dX0_workAhead_38 rfl (lv_at hl 0 rfl) ?_
      refine lv_iload hx hb dX0_workAhead_39 (lv_at hl 3 rfl) ?_
      refine c_endi (va_runU (C := RX0) (owner := "NeededLists$LazyList") (rm := ({ frames := 300 + 5 * d, cells := 0, slots := 0, locals := 6000 + 200 * d })) (As := [.int x4]) (rest := []) ⟨hx, hb, hml, hown, hts⟩ (hGw _ _ _ q x4 _ h H.size) (va_cwU (x := ⟨"NeededLists$Chained", "work", "(I)I"⟩) 1 hts (g_U gdC mwC_182 mwC_183 mwC_184 mwC_160 mwC_22 mwC_161) rfl rfl rfl rfl ⟨by decide, by decide, by decide +kernel⟩ ⟨(show 300 + 5 * d + 1 ≤ 302 + 5 * d by omega), (show 8 + (4 + 11) + (6000 + 200 * d) ≤ 6080 + 200 * d by omega)⟩) (c_preV (vc := (RX0, TX0, 9)) hK hP hD hG hq hk (by decide) rfl) rfl rfl hl.1 rfl (lv_room (Nat.le_of_ble_eq_true rfl)) dX0_workAhead_41 ⟨Nat.le_of_ble_eq_true rfl, Nat.le_of_ble_eq_true rfl⟩) hD hS hA (fun r1 ci1 ai1 al1 H locs h hP hD hS => ?_)
      refine lv_istore_n (lv' := [(3, .int r1), (0, .ref q), (1, .int x1), (4, .int x4)]) hx hb dX0_workAhead_44 rfl hl (by decide) rfl (fun ls hl => ?_)
      refine lv_iinc (v := x4 + 1) (lv' := [(4, .int (x4 + 1)), (3, .int r1), (0, .ref q), (1, .int x1)]) hx hb dX0_workAhead_45 hl (k := 3) rfl (iinc_1 _) (by decide) rfl (fun ls hl => ?_)
      refine lv_goto (tgt := 27) hx hb dX0_workAhead_48 (by decide) ?_
      exact hK27 _ _ _ _ _ _ H _ ls h hP hD hS (lv_sub hl [2, 3, 1, 0] rfl)
set_option maxHeartbeats 4000000 in
set_option maxRecDepth 100000 in
theorem t_X0_workAhead_27 {p : Program} {l : Launch} {e : Env} {s : State} {m : MethodId} {args : Array Value} {below : List Frame} {meth : Method} {c : Code} {A : Nat → Prop} {dC : Nat → ClassId} {dI : Nat → Nat → Nat} {sh : Sh} {q : Nat}  {Q : Int32 → (Nat → Nat → Int32) → (Nat → Nat → Int32) → (Nat → Nat → Int64) → Prop} (hx : p.tables.exec = Jvm.exec) (hb : c.code = cX0_workAhead) (hr : meth.sig.returnType = (some .int)) (hts : ∀ w ∈ WC, w.before args s = true) (hown : s.vm.findClass RX0 = some m.cls) (hlocks : meth.locks = false) (hml : c.maxLocals = 5) (hA : ∀ q : Nat, s.heap.size ≤ q → A q) (hK : cK dC dI sh s) (hG : Gc s) (hq : q ∈ sL sh) (hk : sK sh q = 0) {d : Nat} {Gr Gw : (Nat → Nat → Int32) → (Nat → Nat → Int32) → (Nat → Nat → Int64) → Nat → Int32 → (Int32 → (Nat → Nat → Int32) → (Nat → Nat → Int32) → (Nat → Nat → Int64) → Prop) → Prop} (hGr : GM l dC dI sh yX5_reach wmX5_reach ({ frames := 300 + 5 * d, cells := 0, slots := 0, locals := 6000 + 200 * d }) Gr) (hGw : GM l dC dI sh yX5_work wmX5_work ({ frames := 300 + 5 * d, cells := 0, slots := 0, locals := 6000 + 200 * d }) Gw)  : ∀ n : Nat, ∀ (ci : Nat → Nat → Int32) (ai : Nat → Nat → Int32) (al : Nat → Nat → Int64) (x1 : Int32) (x3 : Int32) (x4 : Int32) (H : Heap) (locs : List Loc) (ls : Array Slot), P_X0_workAhead_27 sh Gr Gw  Q q n ci ai al x1 x3 x4 → va_P (dC, dI) vwCl (cW sh ci ai al) H → va_D A (cW sh ci ai al) → va_S A s.heap H locs → lv_has ls 5 [(0, .ref q), (1, .int x1), (3, .int x3), (4, .int x4)] → W p l e (headSpec wmX0_workAhead ({ frames := 302 + 5 * d, cells := 0, slots := 0, locals := 6080 + 200 * d })).room s m args below meth c H locs 0 0 (MQ below (va_Qi (S := CSt) (cI Q) (cB dC dI sh A) A) args s 0 0 A) (F0 m 27 ls []) := by
  intro n
  induction n with
  | zero => intro ci ai al x1 x3 x4 H locs ls h; exact h.elim
  | succ n ih => exact b_X0_workAhead_27 hx hb hr hts hown hlocks hml hA hK hG hq hk hGr hGw  ih
def B_X0_workAhead_4 (sh : Sh) (Gr Gw : (Nat → Nat → Int32) → (Nat → Nat → Int32) → (Nat → Nat → Int64) → Nat → Int32 → (Int32 → (Nat → Nat → Int32) → (Nat → Nat → Int32) → (Nat → Nat → Int64) → Prop) → Prop)  (K4 : (Nat → Nat → Int32) → (Nat → Nat → Int32) → (Nat → Nat → Int64) → Int32 → Int32 → Prop) (Q : Int32 → (Nat → Nat → Int32) → (Nat → Nat → Int32) → (Nat → Nat → Int64) → Prop) (q : Nat) (ci : Nat → Nat → Int32) (ai : Nat → Nat → Int32) (al : Nat → Nat → Int64) (x1 : Int32) (x2 : Int32) : Prop := ((x2 ≤ 0) → (∃ n9 : Nat, P_X0_workAhead_27 sh Gr Gw  Q q n9 ci ai al x1 (1 : Int32) x2)) ∧ ((¬ x2 ≤ 0) → (P_X5_isWorked_f sh 30 ci ai al q x2 (fun r1 => ((¬ r1 = 0) → (∃ n9 : Nat, P_X0_workAhead_27 sh Gr Gw  Q q n9 ci ai al x1 (1 : Int32) x2)) ∧ ((r1 = 0) → (K4 ci ai al x1 (x2 + (-1)))))))
def P_X0_workAhead_4 (sh : Sh) (Gr Gw : (Nat → Nat → Int32) → (Nat → Nat → Int32) → (Nat → Nat → Int64) → Nat → Int32 → (Int32 → (Nat → Nat → Int32) → (Nat → Nat → Int32) → (Nat → Nat → Int64) → Prop) → Prop)  (Q : Int32 → (Nat → Nat → Int32) → (Nat → Nat → Int32) → (Nat → Nat → Int64) → Prop) (q : Nat) : Nat → (Nat → Nat → Int32) → (Nat → Nat → Int32) → (Nat → Nat → Int64) → Int32 → Int32 → Prop
  | 0 => fun _ _ _ _ _ => False
  | n + 1 => B_X0_workAhead_4 sh Gr Gw  (P_X0_workAhead_4 sh Gr Gw  Q q n) Q q
set_option maxHeartbeats 4000000 in
set_option maxRecDepth 100000 in
theorem b_X0_workAhead_4 {p : Program} {l : Launch} {e : Env} {s : State} {m : MethodId} {args : Array Value} {below : List Frame} {meth : Method} {c : Code} {A : Nat → Prop} {dC : Nat → ClassId} {dI : Nat → Nat → Nat} {sh : Sh} {q : Nat}  {K4 : (Nat → Nat → Int32) → (Nat → Nat → Int32) → (Nat → Nat → Int64) → Int32 → Int32 → Prop} {Q : Int32 → (Nat → Nat → Int32) → (Nat → Nat → Int32) → (Nat → Nat → Int64) → Prop} (hx : p.tables.exec = Jvm.exec) (hb : c.code = cX0_workAhead) (hr : meth.sig.returnType = (some .int)) (hts : ∀ w ∈ WC, w.before args s = true) (hown : s.vm.findClass RX0 = some m.cls) (hlocks : meth.locks = false) (hml : c.maxLocals = 5) (hA : ∀ q : Nat, s.heap.size ≤ q → A q) (hK : cK dC dI sh s) (hG : Gc s) (hq : q ∈ sL sh) (hk : sK sh q = 0) {d : Nat} {Gr Gw : (Nat → Nat → Int32) → (Nat → Nat → Int32) → (Nat → Nat → Int64) → Nat → Int32 → (Int32 → (Nat → Nat → Int32) → (Nat → Nat → Int32) → (Nat → Nat → Int64) → Prop) → Prop} (hGr : GM l dC dI sh yX5_reach wmX5_reach ({ frames := 300 + 5 * d, cells := 0, slots := 0, locals := 6000 + 200 * d }) Gr) (hGw : GM l dC dI sh yX5_work wmX5_work ({ frames := 300 + 5 * d, cells := 0, slots := 0, locals := 6000 + 200 * d }) Gw)  (hK4 : ∀ (ci : Nat → Nat → Int32) (ai : Nat → Nat → Int32) (al : Nat → Nat → Int64) (x1 : Int32) (x2 : Int32) (H : Heap) (locs : List Loc) (ls : Array Slot), K4 ci ai al x1 x2 → va_P (dC, dI) vwCl (cW sh ci ai al) H → va_D A (cW sh ci ai al) → va_S A s.heap H locs → lv_has ls 5 [(0, .ref q), (1, .int x1), (2, .int x2)] → W p l e (headSpec wmX0_workAhead ({ frames := 302 + 5 * d, cells := 0, slots := 0, locals := 6080 + 200 * d })).room s m args below meth c H locs 0 0 (MQ below (va_Qi (S := CSt) (cI Q) (cB dC dI sh A) A) args s 0 0 A) (F0 m 4 ls [])) : ∀ (ci : Nat → Nat → Int32) (ai : Nat → Nat → Int32) (al : Nat → Nat → Int64) (x1 : Int32) (x2 : Int32) (H : Heap) (locs : List Loc) (ls : Array Slot), B_X0_workAhead_4 sh Gr Gw  K4 Q q ci ai al x1 x2 → va_P (dC, dI) vwCl (cW sh ci ai al) H → va_D A (cW sh ci ai al) → va_S A s.heap H locs → lv_has ls 5 [(0, .ref q), (1, .int x1), (2, .int x2)] → W p l e (headSpec wmX0_workAhead ({ frames := 302 + 5 * d, cells := 0, slots := 0, locals := 6080 + 200 * d })).room s m args below meth c H locs 0 0 (MQ below (va_Qi (S := CSt) (cI Q) (cB dC dI sh A) A) args s 0 0 A) (F0 m 4 ls []) := by
  intro ci ai al x1 x2 H locs ls h hP hD hS hl
  unfold B_X0_workAhead_4 at h
  refine lv_iload_n hx hb dX0_workAhead_4 rfl (lv_at hl 2 rfl) ?_
  refine lv_if_le (tgt := 22) hx hb dX0_workAhead_5 (by decide) (fun c_5 => ?_) (fun c_5 => ?_)
  · have h := h.1 c_5
    refine lv_iconst (v := 1) hx hb dX0_workAhead_22 (by decide) ?_
    refine lv_istore_n (lv' := [(3, .int 1), (0, .ref q), (1, .int x1), (2, .int x2)]) hx hb dX0_workAhead_23 rfl hl (by decide) rfl (fun ls hl => ?_)
    refine lv_iload_n hx hb dX0_workAhead_24 rfl (lv_at hl 3 rfl) ?_
    refine lv_istore (lv' := [(4, .int x2), (3, .int 1), (0, .ref q), (1, .int x1), (2, .int x2)]) hx hb dX0_workAhead_25 hl (by decide) rfl (fun ls hl => ?_)
    obtain ⟨n9, h⟩ := h
    exact t_X0_workAhead_27 hx hb hr hts hown hlocks hml hA hK hG hq hk hGr hGw  n9 _ _ _ _ _ _ H _ ls h hP hD hS (lv_sub hl [2, 3, 1, 0] rfl)
  · have h := h.2 c_5
    refine lv_aload_n hx hb dX0_workAhead_8 rfl (lv_at hl 0 rfl) ?_
    refine lv_iload_n hx hb dX0_workAhead_9 rfl (lv_at hl 2 rfl) ?_
    refine r_endi (va_runU (C := RX0) (owner := "NeededLists$LazyList") (rm := ({ frames := 20 + 2 * 30, cells := 0, slots := 0, locals := 300 + 50 * 30 })) (As := [.int x2]) (rest := []) ⟨hx, hb, hml, hown, hts⟩ (p_X5_isWorked_f l dC dI sh 30 _ _ _ q x2 _ h H.size) (va_cwU (x := ⟨"NeededLists$Chained", "isWorked", "(I)Z"⟩) 1 hts (g_U gdC mwC_179 mwC_180 mwC_181 mwC_107 mwC_22 mwC_108) rfl rfl rfl rfl ⟨by decide, by decide, by decide +kernel⟩ ⟨(show 20 + 2 * 30 + 1 ≤ 302 + 5 * d by omega), (show 8 + (3 + 11) + (300 + 50 * 30) ≤ 6080 + 200 * d by omega)⟩) (c_preV (vc := (RX0, TX0, 9)) hK hP hD hG hq hk (by decide) rfl) rfl rfl hl.1 rfl (lv_room (Nat.le_of_ble_eq_true rfl)) dX0_workAhead_10 ⟨Nat.le_of_ble_eq_true rfl, Nat.le_of_ble_eq_true rfl⟩) hP hS hA (fun r1 H locs h hP hS => ?_)
    refine lv_if_ne (tgt := 22) hx hb dX0_workAhead_13 (by decide) (fun c_13 => ?_) (fun c_13 => ?_)
    · have h := h.1 c_13
      refine lv_iconst (v := 1) hx hb dX0_workAhead_22 (by decide) ?_
      refine lv_istore_n (lv' := [(3, .int 1), (0, .ref q), (1, .int x1), (2, .int x2)]) hx hb dX0_workAhead_23 rfl hl (by decide) rfl (fun ls hl => ?_)
      refine lv_iload_n hx hb dX0_workAhead_24 rfl (lv_at hl 3 rfl) ?_
      refine lv_istore (lv' := [(4, .int x2), (3, .int 1), (0, .ref q), (1, .int x1), (2, .int x2)]) hx hb dX0_workAhead_25 hl (by decide) rfl (fun ls hl => ?_)
      obtain ⟨n9, h⟩ := h
      exact t_X0_workAhead_27 hx hb hr hts hown hlocks hml hA hK hG hq hk hGr hGw  n9 _ _ _ _ _ _ H _ ls h hP hD hS (lv_sub hl [2, 3, 1, 0] rfl)
    · have h := h.2 c_13
      refine lv_iinc (v := x2 + (-1)) (lv' := [(2, .int (x2 + (-1))), (0, .ref q), (1, .int x1)]) hx hb dX0_workAhead_16 hl (k := 2) rfl (iinc_m1 _) (by decide) rfl (fun ls hl => ?_)
      refine lv_goto (tgt := 4) hx hb dX0_workAhead_19 (by decide) ?_
      exact hK4 _ _ _ _ _ H _ ls h hP hD hS (lv_sub hl [1, 2, 0] rfl)
set_option maxHeartbeats 4000000 in
set_option maxRecDepth 100000 in
theorem t_X0_workAhead_4 {p : Program} {l : Launch} {e : Env} {s : State} {m : MethodId} {args : Array Value} {below : List Frame} {meth : Method} {c : Code} {A : Nat → Prop} {dC : Nat → ClassId} {dI : Nat → Nat → Nat} {sh : Sh} {q : Nat}  {Q : Int32 → (Nat → Nat → Int32) → (Nat → Nat → Int32) → (Nat → Nat → Int64) → Prop} (hx : p.tables.exec = Jvm.exec) (hb : c.code = cX0_workAhead) (hr : meth.sig.returnType = (some .int)) (hts : ∀ w ∈ WC, w.before args s = true) (hown : s.vm.findClass RX0 = some m.cls) (hlocks : meth.locks = false) (hml : c.maxLocals = 5) (hA : ∀ q : Nat, s.heap.size ≤ q → A q) (hK : cK dC dI sh s) (hG : Gc s) (hq : q ∈ sL sh) (hk : sK sh q = 0) {d : Nat} {Gr Gw : (Nat → Nat → Int32) → (Nat → Nat → Int32) → (Nat → Nat → Int64) → Nat → Int32 → (Int32 → (Nat → Nat → Int32) → (Nat → Nat → Int32) → (Nat → Nat → Int64) → Prop) → Prop} (hGr : GM l dC dI sh yX5_reach wmX5_reach ({ frames := 300 + 5 * d, cells := 0, slots := 0, locals := 6000 + 200 * d }) Gr) (hGw : GM l dC dI sh yX5_work wmX5_work ({ frames := 300 + 5 * d, cells := 0, slots := 0, locals := 6000 + 200 * d }) Gw)  : ∀ n : Nat, ∀ (ci : Nat → Nat → Int32) (ai : Nat → Nat → Int32) (al : Nat → Nat → Int64) (x1 : Int32) (x2 : Int32) (H : Heap) (locs : List Loc) (ls : Array Slot), P_X0_workAhead_4 sh Gr Gw  Q q n ci ai al x1 x2 → va_P (dC, dI) vwCl (cW sh ci ai al) H → va_D A (cW sh ci ai al) → va_S A s.heap H locs → lv_has ls 5 [(0, .ref q), (1, .int x1), (2, .int x2)] → W p l e (headSpec wmX0_workAhead ({ frames := 302 + 5 * d, cells := 0, slots := 0, locals := 6080 + 200 * d })).room s m args below meth c H locs 0 0 (MQ below (va_Qi (S := CSt) (cI Q) (cB dC dI sh A) A) args s 0 0 A) (F0 m 4 ls []) := by
  intro n
  induction n with
  | zero => intro ci ai al x1 x2 H locs ls h; exact h.elim
  | succ n ih => exact b_X0_workAhead_4 hx hb hr hts hown hlocks hml hA hK hG hq hk hGr hGw  ih
def P_X0_workAhead (sh : Sh) (Gr Gw : (Nat → Nat → Int32) → (Nat → Nat → Int32) → (Nat → Nat → Int64) → Nat → Int32 → (Int32 → (Nat → Nat → Int32) → (Nat → Nat → Int32) → (Nat → Nat → Int64) → Prop) → Prop) (ci : Nat → Nat → Int32) (ai : Nat → Nat → Int32) (al : Nat → Nat → Int64) (q : Nat) (p0 : Int32) (Q : Int32 → (Nat → Nat → Int32) → (Nat → Nat → Int32) → (Nat → Nat → Int64) → Prop) : Prop := (q ∈ sL sh ∧ sK sh q = 0) ∧ ∃ n9 : Nat, P_X0_workAhead_4 sh Gr Gw  Q q n9 ci ai al p0 (p0 - 1)
set_option maxHeartbeats 4000000 in
set_option maxRecDepth 100000 in
theorem p_X0_workAhead (l : Launch) (dC : Nat → ClassId) (dI : Nat → Nat → Nat) (sh : Sh) (d : Nat) {Gr Gw : (Nat → Nat → Int32) → (Nat → Nat → Int32) → (Nat → Nat → Int64) → Nat → Int32 → (Int32 → (Nat → Nat → Int32) → (Nat → Nat → Int32) → (Nat → Nat → Int64) → Prop) → Prop} (hGr : GM l dC dI sh yX5_reach wmX5_reach ({ frames := 300 + 5 * d, cells := 0, slots := 0, locals := 6000 + 200 * d }) Gr) (hGw : GM l dC dI sh yX5_work wmX5_work ({ frames := 300 + 5 * d, cells := 0, slots := 0, locals := 6000 + 200 * d }) Gw) (ci : Nat → Nat → Int32) (ai : Nat → Nat → Int32) (al : Nat → Nat → Int64) (q : Nat) (p0 : Int32) (Q : Int32 → (Nat → Nat → Int32) → (Nat → Nat → Int32) → (Nat → Nat → Int64) → Prop) (h : P_X0_workAhead sh Gr Gw ci ai al q p0 Q) (sz : Nat) : Met l yX0_workAhead wmX0_workAhead ({ frames := 302 + 5 * d, cells := 0, slots := 0, locals := 6080 + 200 * d }) (va_Pc [.ref q, .int p0] (cPre dC dI sh ci ai al sz)) (va_Qi (S := CSt) (cI Q) (cB dC dI sh (va_A (cW sh ci ai al) sz)) (va_A (cW sh ci ai al) sz)) 0 0 (va_A (cW sh ci ai al) sz) := by
  refine Met.ofW (cc := cX0_workAhead) (maxL := 5) (ret := (some .int)) (by decide) rfl ?_
  intro p e s m args below meth c s₁ B hml hv
  obtain ⟨rfl, hsz, hP, hK, hD0, hG⟩ := hv
  have hx := B.exec
  have hb := B.bytes
  have hr := B.returns
  have hts : ∀ w ∈ WC, w.before _ s = true := fun w h => atoms_spec (ws := wmX0_workAhead) B.pre w (List.mem_cons_of_mem _ h)
  have hown : s.vm.findClass RX0 = some m.cls := findClass_of_methodNamed B.named
  have hlocks := B.notSynchronized
  subst hsz
  have hD := hD0.self (sz := s.heap.size)
  generalize hAe : va_A (cW sh ci ai al) s.heap.size = A at hD ⊢
  have hA : ∀ q : Nat, s.heap.size ≤ q → A q := fun q h => by rw [← hAe]; exact Or.inr h
  generalize hH : s.heap = H at hP ⊢
  have hS : va_S A s.heap H [] := by rw [← hH]; exact va_S.rf
  have hl := lv_entry [.ref q, .int p0] (n := 5) (Nat.le_of_ble_eq_true rfl)
  rw [lg_entry_eq]
  generalize (lg_sl [.ref q, .int p0] ++ List.replicate (5 - (lg_sl [.ref q, .int p0]).length) Slot.unset).toArray = ls at hl ⊢
  have hl : lv_has ls 5 [(0, .ref q), (1, .int p0)] := hl
  unfold P_X0_workAhead at h
  obtain ⟨⟨hq, hk⟩, h⟩ := h
  refine lv_iload_n hx hb dX0_workAhead_0 rfl (lv_at hl 1 rfl) ?_
  refine lv_iconst (v := 1) hx hb dX0_workAhead_1 (by decide) ?_
  refine lv_isub hx hb dX0_workAhead_2 ?_
  refine lv_istore_n (lv' := [(2, .int (p0 - 1)), (0, .ref q), (1, .int p0)]) hx hb dX0_workAhead_3 rfl hl (by decide) rfl (fun ls hl => ?_)
  obtain ⟨n9, h⟩ := h
  exact t_X0_workAhead_4 hx hb hr hts hown hlocks hml hA hK hG hq hk hGr hGw  n9 _ _ _ _ _ H _ ls h hP hD hS (lv_sub hl [1, 2, 0] rfl)
