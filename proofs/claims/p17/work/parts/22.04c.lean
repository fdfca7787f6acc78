theorem dX0_seek_0 : decode cX0_seek 0 = .ok (.aload_n 0, 1) := by decide +kernel
theorem dX0_seek_1 : decode cX0_seek 1 = .ok (.getfield 9, 3) := by decide +kernel
theorem dX0_seek_4 : decode cX0_seek 4 = .ok (.ifnull 7, 3) := by decide +kernel
theorem dX0_seek_7 : decode cX0_seek 7 = .ok (.iload_n 1, 1) := by decide +kernel
theorem dX0_seek_8 : decode cX0_seek 8 = .ok (.ifCond .ne 7, 3) := by decide +kernel
theorem dX0_seek_11 : decode cX0_seek 11 = .ok (.iconst 1, 1) := by decide +kernel
theorem dX0_seek_12 : decode cX0_seek 12 = .ok (.goto 13, 3) := by decide +kernel
theorem dX0_seek_15 : decode cX0_seek 15 = .ok (.aload_n 0, 1) := by decide +kernel
theorem dX0_seek_16 : decode cX0_seek 16 = .ok (.getfield 9, 3) := by decide +kernel
theorem dX0_seek_19 : decode cX0_seek 19 = .ok (.iload_n 1, 1) := by decide +kernel
theorem dX0_seek_20 : decode cX0_seek 20 = .ok (.iconst 1, 1) := by decide +kernel
theorem dX0_seek_21 : decode cX0_seek 21 = .ok (.isub, 1) := by decide +kernel
theorem dX0_seek_22 : decode cX0_seek 22 = .ok (.invokevirtual 26, 3) := by decide +kernel
theorem dX0_seek_25 : decode cX0_seek 25 = .ok (.ireturn, 1) := by decide +kernel
theorem dX1_seek_0 : decode cX1_seek 0 = .ok (.aload_n 0, 1) := by decide +kernel
theorem dX1_seek_1 : decode cX1_seek 1 = .ok (.getfield 9, 3) := by decide +kernel
theorem dX1_seek_4 : decode cX1_seek 4 = .ok (.iload_n 1, 1) := by decide +kernel
theorem dX1_seek_5 : decode cX1_seek 5 = .ok (.invokevirtual 26, 3) := by decide +kernel
theorem dX1_seek_8 : decode cX1_seek 8 = .ok (.istore_n 2, 1) := by decide +kernel
theorem dX1_seek_9 : decode cX1_seek 9 = .ok (.iload_n 2, 1) := by decide +kernel
theorem dX1_seek_10 : decode cX1_seek 10 = .ok (.iconst 1, 1) := by decide +kernel
theorem dX1_seek_11 : decode cX1_seek 11 = .ok (.if_icmp .ne 10, 3) := by decide +kernel
theorem dX1_seek_14 : decode cX1_seek 14 = .ok (.aload_n 0, 1) := by decide +kernel
theorem dX1_seek_15 : decode cX1_seek 15 = .ok (.getfield 15, 3) := by decide +kernel
theorem dX1_seek_18 : decode cX1_seek 18 = .ok (.ifnonnull 7, 3) := by decide +kernel
theorem dX1_seek_21 : decode cX1_seek 21 = .ok (.iload_n 2, 1) := by decide +kernel
theorem dX1_seek_22 : decode cX1_seek 22 = .ok (.goto 11, 3) := by decide +kernel
theorem dX1_seek_25 : decode cX1_seek 25 = .ok (.aload_n 0, 1) := by decide +kernel
theorem dX1_seek_26 : decode cX1_seek 26 = .ok (.getfield 15, 3) := by decide +kernel
theorem dX1_seek_29 : decode cX1_seek 29 = .ok (.iload_n 1, 1) := by decide +kernel
theorem dX1_seek_30 : decode cX1_seek 30 = .ok (.invokevirtual 26, 3) := by decide +kernel
theorem dX1_seek_33 : decode cX1_seek 33 = .ok (.ireturn, 1) := by decide +kernel
theorem dX2_seek_0 : decode cX2_seek 0 = .ok (.iload_n 1, 1) := by decide +kernel
theorem dX2_seek_1 : decode cX2_seek 1 = .ok (.aload_n 0, 1) := by decide +kernel
theorem dX2_seek_2 : decode cX2_seek 2 = .ok (.getfield 15, 3) := by decide +kernel
theorem dX2_seek_5 : decode cX2_seek 5 = .ok (.if_icmp .lt 5, 3) := by decide +kernel
theorem dX2_seek_8 : decode cX2_seek 8 = .ok (.iconst 2, 1) := by decide +kernel
theorem dX2_seek_9 : decode cX2_seek 9 = .ok (.ireturn, 1) := by decide +kernel
theorem dX2_seek_10 : decode cX2_seek 10 = .ok (.aload_n 0, 1) := by decide +kernel
theorem dX2_seek_11 : decode cX2_seek 11 = .ok (.getfield 9, 3) := by decide +kernel
theorem dX2_seek_14 : decode cX2_seek 14 = .ok (.iload_n 1, 1) := by decide +kernel
theorem dX2_seek_15 : decode cX2_seek 15 = .ok (.invokevirtual 26, 3) := by decide +kernel
theorem dX2_seek_18 : decode cX2_seek 18 = .ok (.istore_n 2, 1) := by decide +kernel
theorem dX2_seek_19 : decode cX2_seek 19 = .ok (.iload_n 2, 1) := by decide +kernel
theorem dX2_seek_20 : decode cX2_seek 20 = .ok (.iconst 1, 1) := by decide +kernel
theorem dX2_seek_21 : decode cX2_seek 21 = .ok (.if_icmp .ne 11, 3) := by decide +kernel
theorem dX2_seek_24 : decode cX2_seek 24 = .ok (.aload_n 0, 1) := by decide +kernel
theorem dX2_seek_25 : decode cX2_seek 25 = .ok (.getfield 19, 3) := by decide +kernel
theorem dX2_seek_28 : decode cX2_seek 28 = .ok (.iconst (-1), 1) := by decide +kernel
theorem dX2_seek_29 : decode cX2_seek 29 = .ok (.if_icmp .ne 5, 3) := by decide +kernel
theorem dX2_seek_32 : decode cX2_seek 32 = .ok (.iload_n 2, 1) := by decide +kernel
theorem dX2_seek_33 : decode cX2_seek 33 = .ok (.ireturn, 1) := by decide +kernel
theorem dX2_seek_34 : decode cX2_seek 34 = .ok (.aload_n 0, 1) := by decide +kernel
theorem dX2_seek_35 : decode cX2_seek 35 = .ok (.getfield 9, 3) := by decide +kernel
theorem dX2_seek_38 : decode cX2_seek 38 = .ok (.iload_n 1, 1) := by decide +kernel
theorem dX2_seek_39 : decode cX2_seek 39 = .ok (.invokevirtual 30, 3) := by decide +kernel
theorem dX2_seek_42 : decode cX2_seek 42 = .ok (.istore_n 3, 1) := by decide +kernel
theorem dX2_seek_43 : decode cX2_seek 43 = .ok (.iload_n 3, 1) := by decide +kernel
theorem dX2_seek_44 : decode cX2_seek 44 = .ok (.iconst 1, 1) := by decide +kernel
theorem dX2_seek_45 : decode cX2_seek 45 = .ok (.if_icmp .eq 5, 3) := by decide +kernel
theorem dX2_seek_48 : decode cX2_seek 48 = .ok (.iload_n 3, 1) := by decide +kernel
theorem dX2_seek_49 : decode cX2_seek 49 = .ok (.ireturn, 1) := by decide +kernel
theorem dX2_seek_50 : decode cX2_seek 50 = .ok (.aload_n 0, 1) := by decide +kernel
theorem dX2_seek_51 : decode cX2_seek 51 = .ok (.getfield 19, 3) := by decide +kernel
theorem dX2_seek_54 : decode cX2_seek 54 = .ok (.aload_n 0, 1) := by decide +kernel
theorem dX2_seek_55 : decode cX2_seek 55 = .ok (.getfield 9, 3) := by decide +kernel
theorem dX2_seek_58 : decode cX2_seek 58 = .ok (.iload_n 1, 1) := by decide +kernel
theorem dX2_seek_59 : decode cX2_seek 59 = .ok (.invokevirtual 33, 3) := by decide +kernel
theorem dX2_seek_62 : decode cX2_seek 62 = .ok (.aload_n 0, 1) := by decide +kernel
theorem dX2_seek_63 : decode cX2_seek 63 = .ok (.getfield 22, 3) := by decide +kernel
theorem dX2_seek_66 : decode cX2_seek 66 = .ok (.invokestatic 37, 3) := by decide +kernel
theorem dX2_seek_69 : decode cX2_seek 69 = .ok (.ifCond .eq 7, 3) := by decide +kernel
theorem dX2_seek_72 : decode cX2_seek 72 = .ok (.iconst 1, 1) := by decide +kernel
theorem dX2_seek_73 : decode cX2_seek 73 = .ok (.goto 4, 3) := by decide +kernel
theorem dX2_seek_76 : decode cX2_seek 76 = .ok (.iconst 2, 1) := by decide +kernel
theorem dX2_seek_77 : decode cX2_seek 77 = .ok (.ireturn, 1) := by decide +kernel
theorem dX7_sortPlaces_0 : decode cX7_sortPlaces 0 = .ok (.aload_n 0, 1) := by decide +kernel
theorem dX7_sortPlaces_1 : decode cX7_sortPlaces 1 = .ok (.getfield 9, 3) := by decide +kernel
theorem dX7_sortPlaces_4 : decode cX7_sortPlaces 4 = .ok (.invokevirtual 26, 3) := by decide +kernel
theorem dX7_sortPlaces_7 : decode cX7_sortPlaces 7 = .ok (.istore_n 1, 1) := by decide +kernel
theorem dX7_sortPlaces_8 : decode cX7_sortPlaces 8 = .ok (.iconst 0, 1) := by decide +kernel
theorem dX7_sortPlaces_9 : decode cX7_sortPlaces 9 = .ok (.istore_n 2, 1) := by decide +kernel
theorem dX7_sortPlaces_10 : decode cX7_sortPlaces 10 = .ok (.iload_n 2, 1) := by decide +kernel
theorem dX7_sortPlaces_11 : decode cX7_sortPlaces 11 = .ok (.iload_n 1, 1) := by decide +kernel
theorem dX7_sortPlaces_12 : decode cX7_sortPlaces 12 = .ok (.if_icmp .ge 25, 3) := by decide +kernel
theorem dX7_sortPlaces_15 : decode cX7_sortPlaces 15 = .ok (.aload_n 0, 1) := by decide +kernel
theorem dX7_sortPlaces_16 : decode cX7_sortPlaces 16 = .ok (.getfield 9, 3) := by decide +kernel
theorem dX7_sortPlaces_19 : decode cX7_sortPlaces 19 = .ok (.iload_n 2, 1) := by decide +kernel
theorem dX7_sortPlaces_20 : decode cX7_sortPlaces 20 = .ok (.invokevirtual 29, 3) := by decide +kernel
theorem dX7_sortPlaces_23 : decode cX7_sortPlaces 23 = .ok (.istore_n 3, 1) := by decide +kernel
theorem dX7_sortPlaces_24 : decode cX7_sortPlaces 24 = .ok (.iload_n 3, 1) := by decide +kernel
theorem dX7_sortPlaces_25 : decode cX7_sortPlaces 25 = .ok (.iconst 1, 1) := by decide +kernel
theorem dX7_sortPlaces_26 : decode cX7_sortPlaces 26 = .ok (.if_icmp .eq 5, 3) := by decide +kernel
theorem dX7_sortPlaces_29 : decode cX7_sortPlaces 29 = .ok (.iload_n 3, 1) := by decide +kernel
theorem dX7_sortPlaces_30 : decode cX7_sortPlaces 30 = .ok (.ireturn, 1) := by decide +kernel
theorem dX7_sortPlaces_31 : decode cX7_sortPlaces 31 = .ok (.iinc 2 1, 3) := by decide +kernel
theorem dX7_sortPlaces_34 : decode cX7_sortPlaces 34 = .ok (.goto (-24), 3) := by decide +kernel
theorem dX7_sortPlaces_37 : decode cX7_sortPlaces 37 = .ok (.iconst 0, 1) := by decide +kernel
theorem dX7_sortPlaces_38 : decode cX7_sortPlaces 38 = .ok (.istore_n 2, 1) := by decide +kernel
theorem dX7_sortPlaces_39 : decode cX7_sortPlaces 39 = .ok (.iload_n 2, 1) := by decide +kernel
theorem dX7_sortPlaces_40 : decode cX7_sortPlaces 40 = .ok (.iload_n 1, 1) := by decide +kernel
theorem dX7_sortPlaces_41 : decode cX7_sortPlaces 41 = .ok (.if_icmp .ge 23, 3) := by decide +kernel
theorem dX7_sortPlaces_44 : decode cX7_sortPlaces 44 = .ok (.iload_n 2, 1) := by decide +kernel
theorem dX7_sortPlaces_45 : decode cX7_sortPlaces 45 = .ok (.aload_n 0, 1) := by decide +kernel
theorem dX7_sortPlaces_46 : decode cX7_sortPlaces 46 = .ok (.getfield 15, 3) := by decide +kernel
theorem dX7_sortPlaces_49 : decode cX7_sortPlaces 49 = .ok (.arraylength, 1) := by decide +kernel
theorem dX7_sortPlaces_50 : decode cX7_sortPlaces 50 = .ok (.if_icmp .ge 14, 3) := by decide +kernel
theorem dX7_sortPlaces_53 : decode cX7_sortPlaces 53 = .ok (.aload_n 0, 1) := by decide +kernel
theorem dX7_sortPlaces_54 : decode cX7_sortPlaces 54 = .ok (.iload_n 2, 1) := by decide +kernel
theorem dX7_sortPlaces_55 : decode cX7_sortPlaces 55 = .ok (.invokevirtual 33, 3) := by decide +kernel
theorem dX7_sortPlaces_58 : decode cX7_sortPlaces 58 = .ok (.iinc 2 1, 3) := by decide +kernel
theorem dX7_sortPlaces_61 : decode cX7_sortPlaces 61 = .ok (.goto (-22), 3) := by decide +kernel
theorem dX7_sortPlaces_64 : decode cX7_sortPlaces 64 = .ok (.iconst 1, 1) := by decide +kernel
theorem dX7_sortPlaces_65 : decode cX7_sortPlaces 65 = .ok (.ireturn, 1) := by decide +kernel
abbrev wmX7_sortPlaces : List Cond := .code yX7_sortPlaces cX7_sortPlaces 4 (some .int) :: WC
theorem hd_X7_sortPlaces : yX7_sortPlaces.cls = RX7 ∧ yX7_sortPlaces.cls ≠ "java/lang/invoke/MethodHandle" ∧ yX7_sortPlaces.cls ≠ "java/lang/invoke/VarHandle" ∧ (parseMethodDescriptor yX7_sortPlaces.desc).map (fun d => d.parameters.length) = some 0 := by decide +kernel
def B_X7_sortPlaces_39 (sh : Sh) (Gr Gw : (Nat → Nat → Int32) → (Nat → Nat → Int32) → (Nat → Nat → Int64) → Nat → Int32 → (Int32 → (Nat → Nat → Int32) → (Nat → Nat → Int32) → (Nat → Nat → Int64) → Prop) → Prop)  (K39 : (Nat → Nat → Int32) → (Nat → Nat → Int32) → (Nat → Nat → Int64) → Int32 → Int32 → Prop) (Q : Int32 → (Nat → Nat → Int32) → (Nat → Nat → Int32) → (Nat → Nat → Int64) → Prop) (q : Nat) (ci : Nat → Nat → Int32) (ai : Nat → Nat → Int32) (al : Nat → Nat → Int64) (x1 : Int32) (x2 : Int32) : Prop := ((x1 ≤ x2) → (Q 1 ci ai al)) ∧ ((¬ x1 ≤ x2) → ((sR sh q 6 = none → False) ∧ (∀ q1 : Nat, sR sh q 6 = some q1 → ((q1 ∈ sL sh ∧ sK sh q1 = 20) ∧ (((nI (sN sh q1)) ≤ x2) → (Q 1 ci ai al)) ∧ ((¬ (nI (sN sh q1)) ≤ x2) → (P_X7_insertPlace sh ci ai al q x2 (fun ci5 ai5 al5 => K39 ci5 ai5 al5 x1 (x2 + 1))))))))
def P_X7_sortPlaces_39 (sh : Sh) (Gr Gw : (Nat → Nat → Int32) → (Nat → Nat → Int32) → (Nat → Nat → Int64) → Nat → Int32 → (Int32 → (Nat → Nat → Int32) → (Nat → Nat → Int32) → (Nat → Nat → Int64) → Prop) → Prop)  (Q : Int32 → (Nat → Nat → Int32) → (Nat → Nat → Int32) → (Nat → Nat → Int64) → Prop) (q : Nat) : Nat → (Nat → Nat → Int32) → (Nat → Nat → Int32) → (Nat → Nat → Int64) → Int32 → Int32 → Prop
  | 0 => fun _ _ _ _ _ => False
  | n + 1 => B_X7_sortPlaces_39 sh Gr Gw  (P_X7_sortPlaces_39 sh Gr Gw  Q q n) Q q
set_option maxHeartbeats 4000000 in
set_option maxRecDepth 100000 in
theorem b_X7_sortPlaces_39 {p : Program} {l : Launch} {e : Env} {s : State} {m : MethodId} {args : Array Value} {below : List Frame} {meth : Method} {c : Code} {A : Nat → Prop} {dC : Nat → ClassId} {dI : Nat → Nat → Nat} {sh : Sh} {q : Nat}  {K39 : (Nat → Nat → Int32) → (Nat → Nat → Int32) → (Nat → Nat → Int64) → Int32 → Int32 → Prop} {Q : Int32 → (Nat → Nat → Int32) → (Nat → Nat → Int32) → (Nat → Nat → Int64) → Prop} (hx : p.tables.exec = Jvm.exec) (hb : c.code = cX7_sortPlaces) (hr : meth.sig.returnType = (some .int)) (hts : ∀ w ∈ WC, w.before args s = true) (hown : s.vm.findClass RX7 = some m.cls) (hlocks : meth.locks = false) (hml : c.maxLocals = 4) (hA : ∀ q : Nat, s.heap.size ≤ q → A q) (hK : cK dC dI sh s) (hG : Gc s) (hq : q ∈ sL sh) (hk : sK sh q = 6) {d : Nat} {Gr Gw : (Nat → Nat → Int32) → (Nat → Nat → Int32) → (Nat → Nat → Int64) → Nat → Int32 → (Int32 → (Nat → Nat → Int32) → (Nat → Nat → Int32) → (Nat → Nat → Int64) → Prop) → Prop} (hGr : GM l dC dI sh yX5_reach wmX5_reach ({ frames := 300 + 5 * d, cells := 0, slots := 0, locals := 6000 + 200 * d }) Gr) (hGw : GM l dC dI sh yX5_work wmX5_work ({ frames := 300 + 5 * d, cells := 0, slots := 0, locals := 6000 + 200 * d }) Gw)  (hK39 : ∀ (ci : Nat → Nat → Int32) (ai : Nat → Nat → Int32) (al : Nat → Nat → Int64) (x1 : Int32) (x2 : Int32) (H : Heap) (locs : List Loc) (ls : Array Slot), K39 ci ai al x1 x2 → va_P (dC, dI) vwCl (cW sh ci ai al) H → va_D A (cW sh ci ai al) → va_S A s.heap H locs → lv_has ls 4 [(0, .ref q), (1, .int x1), (2, .int x2)] → W p l e (headSpec wmX7_sortPlaces ({ frames := 302 + 5 * d, cells := 0, slots := 0, locals := 6080 + 200 * d })).room s m args below meth c H locs 0 0 (MQ below (va_Qi (S := CSt) (cI Q) (cB dC dI sh A) A) args s 0 0 A) (F0 m 39 ls [])) : ∀ (ci : Nat → Nat → Int32) (ai : Nat → Nat → Int32) (al : Nat → Nat → Int64) (x1 : Int32) (x2 : Int32) (H : Heap) (locs : List Loc) (ls : Array Slot), B_X7_sortPlaces_39 sh Gr Gw  K39 Q q ci ai al x1 x2 → va_P (dC, dI) vwCl (cW sh ci ai al) H → va_D A (cW sh ci ai al) → va_S A s.heap H locs → lv_has ls 4 [(0, .ref q), (1, .int x1), (2, .int x2)] → W p l e (headSpec wmX7_sortPlaces ({ frames := 302 + 5 * d, cells := 0, slots := 0, locals := 6080 + 200 * d })).room s m args below meth c H locs 0 0 (MQ below (va_Qi (S := CSt) (cI Q) (cB dC dI sh A) A) args s 0 0 A) (F0 m 39 ls []) := by
  intro ci ai al x1 x2 H locs ls h hP hD hS hl
  unfold B_X7_sortPlaces_39 at h
  refine lv_iload_n hx hb dX7_sortPlaces_39 rfl (lv_at hl 2 rfl) ?_
  refine lv_iload_n hx hb dX7_sortPlaces_40 rfl (lv_at hl 1 rfl) ?_
  refine lv_icmp_ge (tgt := 64) hx hb dX7_sortPlaces_41 (by decide) (fun c_41 => ?_) (fun c_41 => ?_)
  · have h := h.1 c_41
    refine lv_iconst (v := 1) hx hb dX7_sortPlaces_64 (by decide) ?_
    exact W.iret (v := 1) hx hb hr (fun t ht hW => ⟨⟨_, (ci, ai, al), rfl, h, by rw [ht]; exact hP, cK.moved hW.alike hK, hD⟩, hS.F ht⟩) hS.2.2 dX7_sortPlaces_65
  · have h := h.2 c_41
    refine lv_iload_n hx hb dX7_sortPlaces_44 rfl (lv_at hl 2 rfl) ?_
    refine lv_aload_n hx hb dX7_sortPlaces_45 rfl (lv_at hl 0 rfl) ?_
    rcases e2 : sR sh q 6 with _ | q1
    · have h := h.1 e2
      refine c_get (C := RX7) (T := TX7) (N := 7) (K := 6) (v := .null) hx hb hts hinX7 hown hK hP hq hk (by decide) rfl 6 (by decide) (hts _ mwC_37) (fun _ h9 => h9) (by show some (va_rf (sR sh q 6)) = _; rw [e2]; rfl) dX7_sortPlaces_46 ?_
      exact h.elim
    · have h := h.2 q1 e2
      refine c_get (C := RX7) (T := TX7) (N := 7) (K := 6) (v := .ref q1) hx hb hts hinX7 hown hK hP hq hk (by decide) rfl 6 (by decide) (hts _ mwC_37) (fun _ h9 => h9) (by show some (va_rf (sR sh q 6)) = _; rw [e2]; rfl) dX7_sortPlaces_46 ?_
      obtain ⟨⟨hm3, hk4⟩, h⟩ := h
      refine c_alen hx hb hK hP hm3 (Or.inl hk4) dX7_sortPlaces_49 ?_
      refine lv_icmp_ge (tgt := 64) hx hb dX7_sortPlaces_50 (by decide) (fun c_50 => ?_) (fun c_50 => ?_)
      · have h := h.1 c_50
        refine lv_iconst (v := 1) hx hb dX7_sortPlaces_64 (by decide) ?_
        exact W.iret (v := 1) hx hb hr (fun t ht hW => ⟨⟨_, (ci, ai, al), rfl, h, by rw [ht]; exact hP, cK.moved hW.alike hK, hD⟩, hS.F ht⟩) hS.2.2 dX7_sortPlaces_65
      · have h := h.2 c_50
        refine lv_aload_n hx hb dX7_sortPlaces_53 rfl (lv_at hl 0 rfl) ?_
        refine lv_iload_n hx hb dX7_sortPlaces_54 rfl (lv_at hl 2 rfl) ?_
        refine c_endv (va_runV (rm := ({ frames := 120, cells := 0, slots := 0, locals := 2400 })) (As := [.int x2]) (rest := []) ⟨hx, hb, hml, hown, hts⟩ (p_X7_insertPlace l dC dI sh _ _ _ q x2 _ h H.size) (cwV 1 hts (g_V gdC mwC_186 mwC_187 mwC_188 mwC_58 mwC_189) rfl rfl rfl hd_X7_insertPlace ⟨(show 120 + 1 ≤ 302 + 5 * d by omega), (show 8 + (5 + 11) + (2400) ≤ 6080 + 200 * d by omega)⟩) (c_preV (vc := (RX7, TX7, 7)) hK hP hD hG hq hk (by decide) rfl) rfl rfl hl.1 rfl (lv_room (Nat.le_of_ble_eq_true rfl)) dX7_sortPlaces_55 ⟨Nat.le_of_ble_eq_true rfl, Nat.le_of_ble_eq_true rfl⟩) hD hS hA (fun ci5 ai5 al5 H locs h hP hD hS => ?_)
        refine lv_iinc (v := x2 + 1) (lv' := [(2, .int (x2 + 1)), (0, .ref q), (1, .int x1)]) hx hb dX7_sortPlaces_58 hl (k := 2) rfl (iinc_1 _) (by decide) rfl (fun ls hl => ?_)
        refine lv_goto (tgt := 39) hx hb dX7_sortPlaces_61 (by decide) ?_
        exact hK39 _ _ _ _ _ H _ ls h hP hD hS (lv_sub hl [1, 2, 0] rfl)
set_option maxHeartbeats 4000000 in
set_option maxRecDepth 100000 in
theorem t_X7_sortPlaces_39 {p : Program} {l : Launch} {e : Env} {s : State} {m : MethodId} {args : Array Value} {below : List Frame} {meth : Method} {c : Code} {A : Nat → Prop} {dC : Nat → ClassId} {dI : Nat → Nat → Nat} {sh : Sh} {q : Nat}  {Q : Int32 → (Nat → Nat → Int32) → (Nat → Nat → Int32) → (Nat → Nat → Int64) → Prop} (hx : p.tables.exec = Jvm.exec) (hb : c.code = cX7_sortPlaces) (hr : meth.sig.returnType = (some .int)) (hts : ∀ w ∈ WC, w.before args s = true) (hown : s.vm.findClass RX7 = some m.cls) (hlocks : meth.locks = false) (hml : c.maxLocals = 4) (hA : ∀ q : Nat, s.heap.size ≤ q → A q) (hK : cK dC dI sh s) (hG : Gc s) (hq : q ∈ sL sh) (hk : sK sh q = 6) {d : Nat} {Gr Gw : (Nat → Nat → Int32) → (Nat → Nat → Int32) → (Nat → Nat → Int64) → Nat → Int32 → (Int32 → (Nat → Nat → Int32) → (Nat → Nat → Int32) → (Nat → Nat → Int64) → Prop) → Prop} (hGr : GM l dC dI sh yX5_reach wmX5_reach ({ frames := 300 + 5 * d, cells := 0, slots := 0, locals := 6000 + 200 * d }) Gr) (hGw : GM l dC dI sh yX5_work wmX5_work ({ frames := 300 + 5 * d, cells := 0, slots := 0, locals := 6000 + 200 * d }) Gw)  : ∀ n : Nat, ∀ (ci : Nat → Nat → Int32) (ai : Nat → Nat → Int32) (al : Nat → Nat → Int64) (x1 : Int32) (x2 : Int32) (H : Heap) (locs : List Loc) (ls : Array Slot), P_X7_sortPlaces_39 sh Gr Gw  Q q n ci ai al x1 x2 → va_P (dC, dI) vwCl (cW sh ci ai al) H → va_D A (cW sh ci ai al) → va_S A s.heap H locs → lv_has ls 4 [(0, .ref q), (1, .int x1), (2, .int x2)] → W p l e (headSpec wmX7_sortPlaces ({ frames := 302 + 5 * d, cells := 0, slots := 0, locals := 6080 + 200 * d })).room s m args below meth c H locs 0 0 (MQ below (va_Qi (S := CSt) (cI Q) (cB dC dI sh A) A) args s 0 0 A) (F0 m 39 ls []) := by
  intro n
  induction n with
  | zero => intro ci ai al x1 x2 H locs ls h; exact h.elim
  | succ n ih => exact b_X7_sortPlaces_39 hx hb hr hts hown hlocks hml hA hK hG hq hk hGr hGw  ih
def B_X7_sortPlaces_10 (sh : Sh) (Gr Gw : (Nat → Nat → Int32) → (Nat → Nat → Int32) → (Nat → Nat → Int64) → Nat → Int32 → (Int32 → (Nat → Nat → Int32) → (Nat → Nat → Int32) → (Nat → Nat → Int64) → Prop) → Prop)  (K10 : (Nat → Nat → Int32) → (Nat → Nat → Int32) → (Nat → Nat → Int64) → Int32 → Int32 → Prop) (Q : Int32 → (Nat → Nat → Int32) → (Nat → Nat → Int32) → (Nat → Nat → Int64) → Prop) (q : Nat) (ci : Nat → Nat → Int32) (ai : Nat → Nat → Int32) (al : Nat → Nat → Int64) (x1 : Int32) (x2 : Int32) : Prop := ((x1 ≤ x2) → (∃ n9 : Nat, P_X7_sortPlaces_39 sh Gr Gw  Q q n9 ci ai al x1 (0 : Int32))) ∧ ((¬ x1 ≤ x2) → (∃ q1 : Nat, sR sh q 5 = some q1 ∧ (q1 ∈ sL sh ∧ isZ (sK sh q1)) ∧ Gw ci ai al q1 x2 (fun r5 ci5 ai5 al5 => ((r5 = 1) → (K10 ci5 ai5 al5 x1 (x2 + 1))) ∧ ((¬ r5 = 1) → (Q r5 ci5 ai5 al5)))))
def P_X7_sortPlaces_10 (sh : Sh) (Gr Gw : (Nat → Nat → Int32) → (Nat → Nat → Int32) → (Nat → Nat → Int64) → Nat → Int32 → (Int32 → (Nat → Nat → Int32) → (Nat → Nat → Int32) → (Nat → Nat → Int64) → Prop) → Prop)  (Q : Int32 → (Nat → Nat → Int32) → (Nat → Nat → Int32) → (Nat → Nat → Int64) → Prop) (q : Nat) : Nat → (Nat → Nat → Int32) → (Nat → Nat → Int32) → (Nat → Nat → Int64) → Int32 → Int32 → Prop
  | 0 => fun _ _ _ _ _ => False
  | n + 1 => B_X7_sortPlaces_10 sh Gr Gw  (P_X7_sortPlaces_10 sh Gr Gw  Q q n) Q q
set_option maxHeartbeats 4000000 in
set_option maxRecDepth 100000 in
theorem b_X7_sortPlaces_10 {p : Program} {l : Launch} {e : Env} {s : State} {m : MethodId} {args : Array Value} {below : List Frame} {meth : Method} {c : Code} {A : Nat → Prop} {dC : Nat → ClassId} {dI : Nat → Nat → Nat} {sh : Sh} {q : Nat}  {K10 : (Nat → Nat → Int32) → (Nat → Nat → Int32) → (Nat → Nat → Int64) → Int32 → Int32 → Prop} {Q : Int32 → (Nat → Nat → Int32) → (Nat → Nat → Int32) → (Nat → Nat → Int64) → Prop} (hx : p.tables.exec = Jvm.exec) (hb : c.code = cX7_sortPlaces) (hr : meth.sig.returnType = (some .int)) (hts : ∀ w ∈ WC, w.before args s = true) (hown : s.vm.findClass RX7 = some m.cls) (hlocks : meth.locks = false) (hml : c.maxLocals = 4) (hA : ∀ q : Nat, s.heap.size ≤ q → A q) (hK : cK dC dI sh s) (hG : Gc s) (hq : q ∈ sL sh) (hk : sK sh q = 6) {d : Nat} {Gr Gw : (Nat → Nat → Int32) → (Nat → Nat → Int32) → (Nat → Nat → Int64) → Nat → Int32 → (Int32 → (Nat → Nat → Int32) → (Nat → Nat → Int32) → (Nat → Nat → Int64) → Prop) → Prop} (hGr : GM l dC dI sh yX5_reach wmX5_reach ({ frames := 300 + 5 * d, cells := 0, slots := 0, locals := 6000 + 200 * d }) Gr) (hGw : GM l dC dI sh yX5_work wmX5_work ({ frames := 300 + 5 * d, cells := 0, slots := 0, locals := 6000 + 200 * d }) Gw)  (hK10 : ∀ (ci : Nat → Nat → Int32) (ai : Nat → Nat → Int32) (al : Nat → Nat → Int64) (x1 : Int32) (x2 : Int32) (H : Heap) (locs : List Loc) (ls : Array Slot), K10 ci ai al x1 x2 → va_P (dC, dI) vwCl (cW sh ci ai al) H → va_D A (cW sh ci ai al) → va_S A s.heap H locs → lv_has ls 4 [(0, .ref q), (1, .int x1), (2, .int x2)] → W p l e (headSpec wmX7_sortPlaces ({ frames := 302 + 5 * d, cells := 0, slots := 0, locals := 6080 + 200 * d })).room s m args below meth c H locs 0 0 (MQ below (va_Qi (S := CSt) (cI Q) (cB dC dI sh A) A) args s 0 0 A) (F0 m 10 ls [])) : ∀ (ci : Nat → Nat → Int32) (ai : Nat → Nat → Int32) (al : Nat → Nat → Int64) (x1 : Int32) (x2 : Int32) (H : Heap) (locs : List Loc) (ls : Array Slot), B_X7_sortPlaces_10 sh Gr Gw  K10 Q q ci ai al x1 x2 → va_P (dC, dI) vwCl (cW sh ci ai al) H → va_D A (cW sh ci ai al) → va_S A s.heap H locs → lv_has ls 4 [(0, .ref q), (1, .int x1), (2, .int x2)] → W p l e (headSpec wmX7_sortPlaces ({ frames := 302 + 5 * d, cells := 0, slots := 0, locals := 6080 + 200 * d })).room s m args below meth c H locs 0 0 (MQ below (va_Qi (S := CSt) (cI Q) (cB dC dI sh A) A) args s 0 0 A) (F0 m 10 ls []) := by
  intro ci ai al x1 x2 H locs ls h hP hD hS hl
  unfold B_X7_sortPlaces_10 at h
  refine lv_iload_n hx hb dX7_sortPlaces_10 rfl (lv_at hl 2 rfl) ?_
  refine lv_iload_n hx hb dX7_sortPlaces_11 rfl (lv_at hl 1 rfl) ?_
  refine lv_icmp_ge (tgt := 37) hx hb dX7_sortPlaces_12 (by decide) (fun c_12 => ?_) (fun c_12 => ?_)
  · have h := h.1 c_12
    refine lv_iconst (v := 0) hx hb dX7_sortPlaces_37 (by decide) ?_
    refine lv_istore_n (lv' := [(2, .int 0), (0, .ref q), (1, .int x1)]) hx hb dX7_sortPlaces_38 rfl hl (by decide) rfl (fun ls hl => ?_)
    obtain ⟨n9, h⟩ := h
    exact t_X7_sortPlaces_39 hx hb hr hts hown hlocks hml hA hK hG hq hk hGr hGw  n9 _ _ _ _ _ H _ ls h hP hD hS (lv_sub hl [1, 2, 0] rfl)
  · have h := h.2 c_12
    refine lv_aload_n hx hb dX7_sortPlaces_15 rfl (lv_at hl 0 rfl) ?_
    obtain ⟨q1, e2, h⟩ := h
    refine c_get (C := RX7) (T := TX7) (N := 7) (K := 6) (v := .ref q1) hx hb hts hinX7 hown hK hP hq hk (by decide) rfl 5 (by decide) (hts _ mwC_34) (fun _ h9 => h9) (by show some (va_rf (sR sh q 5)) = _; rw [e2]; rfl) dX7_sortPlaces_16 ?_
    refine lv_iload_n hx hb dX7_sortPlaces_19 rfl (lv_at hl 2 rfl) ?_
    obtain ⟨⟨hm3, hk4⟩, h⟩ := h
    refine c_endi (c_runZ (rm := ({ frames := 300 + 5 * d, cells := 0, slots := 0, locals := 6000 + 200 * d })) (y := yX5_work) (x := ⟨"NeededLists$LazyList", "work", "(I)I"⟩) (n := 1) (bytes := cX5_work) (maxL := 4) (ret := (some .int)) (q := q1) (As := [.int x2]) (rest := []) ⟨hx, hb, hml, hown, hts⟩ (hGw _ _ _ q1 x2 _ h H.size) mwC_185 mwC_159 mwC_160 mwC_22 mwC_161 mwC_162 mwC_163 mwC_164 mwC_165 mwC_166 mwC_167 mwC_168 mwC_169 mwC_170 rfl (by decide +kernel) rfl rfl ⟨(show 300 + 5 * d + 1 ≤ 302 + 5 * d by omega), (show 8 + (4 + 11) + (6000 + 200 * d) ≤ 6080 + 200 * d by omega)⟩ hK hP hD hG hm3 hk4 rfl hl.1 rfl (Nat.le_of_ble_eq_true rfl) ⟨Nat.le_of_ble_eq_true rfl, Nat.le_of_ble_eq_true rfl⟩ dX7_sortPlaces_20) hD hS hA (fun r5 ci5 ai5 al5 H locs h hP hD hS => ?_)
    refine lv_istore_n (lv' := [(3, .int r5), (0, .ref q), (1, .int x1), (2, .int x2)]) hx hb dX7_sortPlaces_23 rfl hl (by decide) rfl (fun ls hl => ?_)
    refine lv_iload_n hx hb dX7_sortPlaces_24 rfl (lv_at hl 0 rfl) ?_
    refine lv_iconst (v := 1) hx hb dX7_sortPlaces_25 (by decide) ?_
    refine lv_icmp_eq (tgt := 31) hx hb dX7_sortPlaces_26 (by decide) (fun c_26 => ?_) (fun c_26 => ?_)
    · have h := h.1 c_26
      refine lv_iinc (v := x2 + 1) (lv' := [(2, .int (x2 + 1)), (3, .int r5), (0, .ref q), (1, .int x1)]) hx hb dX7_sortPlaces_31 hl (k := 3) rfl (iinc_1 _) (by decide) rfl (fun ls hl => ?_)
      refine lv_goto (tgt := 10) hx hb dX7_sortPlaces_34 (by decide) ?_
      exact hK10 _ _ _ _ _ H _ ls h hP hD hS (lv_sub hl [2, 3, 0] rfl)
    · have h := h.2 c_26
      refine lv_iload_n hx hb dX7_sortPlaces_29 rfl (lv_at hl 0 rfl) ?_
      exact W.iret (v := r5) hx hb hr (fun t ht hW => ⟨⟨_, (ci5, ai5, al5), rfl, h, by rw [ht]; exact hP, cK.moved hW.alike hK, hD⟩, hS.F ht⟩) hS.2.2 dX7_sortPlaces_30
set_option maxHeartbeats 4000000 in
set_option maxRecDepth 100000 in
theorem t_X7_sortPlaces_10 {p : Program} {l : Launch} {e : Env} {s : State} {m : MethodId} {args : Array Value} {below : List Frame} {meth : Method} {c : Code} {A : Nat → Prop} {dC : Nat → ClassId} {dI : Nat → Nat → Nat} {sh : Sh} {q : Nat}  {Q : Int32 → (Nat → Nat → Int32) → (Nat → Nat → Int32) → (Nat → Nat → Int64) → Prop} (hx : p.tables.exec = Jvm.exec) (hb : c.code = cX7_sortPlaces) (hr : meth.sig.returnType = (some .int)) (hts : ∀ w ∈ WC, w.before args s = true) (hown : s.vm.findClass RX7 = some m.cls) (hlocks : meth.locks = false) (hml : c.maxLocals = 4) (hA : ∀ q : Nat, s.heap.size ≤ q → A q) (hK : cK dC dI sh s) (hG : Gc s) (hq : q ∈ sL sh) (hk : sK sh q = 6) {d : Nat} {Gr Gw : (Nat → Nat → Int32) → (Nat → Nat → Int32) → (Nat → Nat → Int64) → Nat → Int32 → (Int32 → (Nat → Nat → Int32) → (Nat → Nat → Int32) → (Nat → Nat → Int64) → Prop) → Prop} (hGr : GM l dC dI sh yX5_reach wmX5_reach ({ frames := 300 + 5 * d, cells := 0, slots := 0, locals := 6000 + 200 * d }) Gr) (hGw : GM l dC dI sh yX5_work wmX5_work ({ frames := 300 + 5 * d, cells := 0, slots := 0, locals := 6000 + 200 * d }) Gw)  : ∀ n : Nat, ∀ (ci : Nat → Nat → Int32) (ai : Nat → Nat → Int32) (al : Nat → Nat → Int64) (x1 : Int32) (x2 : Int32) (H : Heap) (locs : List Loc) (ls : Array Slot), P_X7_sortPlaces_10 sh Gr Gw  Q q n ci ai al x1 x2 → va_P (dC, dI) vwCl (cW sh ci ai al) H → va_D A (cW sh ci ai al) → va_S A s.heap H locs → lv_has ls 4 [(0, .ref q), (1, .int x1), (2, .int x2)] → W p l e (headSpec wmX7_sortPlaces ({ frames := 302 + 5 * d, cells := 0, slots := 0, locals := 6080 + 200 * d })).room s m args below meth c H locs 0 0 (MQ below (va_Qi (S := CSt) (cI Q) (cB dC dI sh A) A) args s 0 0 A) (F0 m 10 ls []) := by
  intro n
  induction n with
  | zero => intro ci ai al x1 x2 H locs ls h; exact h.elim
  | succ n ih => exact b_X7_sortPlaces_10 hx hb hr hts hown hlocks hml hA hK hG hq hk hGr hGw  ih
def P_X7_sortPlaces (sh : Sh) (Gr Gw : (Nat → Nat → Int32) → (Nat → Nat → Int32) → (Nat → Nat → Int64) → Nat → Int32 → (Int32 → (Nat → Nat → Int32) → (Nat → Nat → Int32) → (Nat → Nat → Int64) → Prop) → Prop) (ci : Nat → Nat → Int32) (ai : Nat → Nat → Int32) (al : Nat → Nat → Int64) (q : Nat)  (Q : Int32 → (Nat → Nat → Int32) → (Nat → Nat → Int32) → (Nat → Nat → Int64) → Prop) : Prop := (q ∈ sL sh ∧ sK sh q = 6) ∧ ∃ q1 : Nat, sR sh q 5 = some q1 ∧ (q1 ∈ sL sh ∧ isZ (sK sh q1)) ∧ P_X5_there sh ci ai al q1  (fun r5 => ∃ n9 : Nat, P_X7_sortPlaces_10 sh Gr Gw  Q q n9 ci ai al r5 (0 : Int32))
set_option maxHeartbeats 4000000 in
set_option maxRecDepth 100000 in
theorem p_X7_sortPlaces (l : Launch) (dC : Nat → ClassId) (dI : Nat → Nat → Nat) (sh : Sh) (d : Nat) {Gr Gw : (Nat → Nat → Int32) → (Nat → Nat → Int32) → (Nat → Nat → Int64) → Nat → Int32 → (Int32 → (Nat → Nat → Int32) → (Nat → Nat → Int32) → (Nat → Nat → Int64) → Prop) → Prop} (hGr : GM l dC dI sh yX5_reach wmX5_reach ({ frames := 300 + 5 * d, cells := 0, slots := 0, locals := 6000 + 200 * d }) Gr) (hGw : GM l dC dI sh yX5_work wmX5_work ({ frames := 300 + 5 * d, cells := 0, slots := 0, locals := 6000 + 200 * d }) Gw) (ci : Nat → Nat → Int32) (ai : Nat → Nat → Int32) (al : Nat → Nat → Int64) (q : Nat)  (Q : Int32 → (Nat → Nat → Int32) → (Nat → Nat → Int32) → (Nat → Nat → Int64) → Prop) (h : P_X7_sortPlaces sh Gr Gw ci ai al q  Q) (sz : Nat) : Met l yX7_sortPlaces wmX7_sortPlaces ({ frames := 302 + 5 * d, cells := 0, slots := 0, locals := 6080 + 200 * d }) (va_Pc [.ref q] (cPre dC dI sh ci ai al sz)) (va_Qi (S := CSt) (cI Q) (cB dC dI sh (va_A (cW sh ci ai al) sz)) (va_A (cW sh ci ai al) sz)) 0 0 (va_A (cW sh ci ai al) sz) := by
  refine Met.ofW (cc := cX7_sortPlaces) (maxL := 4) (ret := (some .int)) (by decide) rfl ?_
  intro p e s m args below meth c s₁ B hml hv
  obtain ⟨rfl, hsz, hP, hK, hD0, hG⟩ := hv
  have hx := B.exec
  have hb := B.bytes
  have hr := B.returns
  have hts : ∀ w ∈ WC, w.before _ s = true := fun w h => atoms_spec (ws := wmX7_sortPlaces) B.pre w (List.mem_cons_of_mem _ h)
  have hown : s.vm.findClass RX7 = some m.cls := findClass_of_methodNamed B.named
  have hlocks := B.notSynchronized
  subst hsz
  have hD := hD0.self (sz := s.heap.size)
  generalize hAe : va_A (cW sh ci ai al) s.heap.size = A at hD ⊢
  have hA : ∀ q : Nat, s.heap.size ≤ q → A q := fun q h => by rw [← hAe]; exact Or.inr h
  generalize hH : s.heap = H at hP ⊢
  have hS : va_S A s.heap H [] := by rw [← hH]; exact va_S.rf
  have hl := lv_entry [.ref q] (n := 4) (Nat.le_of_ble_eq_true rfl)
  rw [lg_entry_eq]
  generalize (lg_sl [.ref q] ++ List.replicate (4 - (lg_sl [.ref q]).length) Slot.unset).toArray = ls at hl ⊢
  have hl : lv_has ls 4 [(0, .ref q)] := hl
  unfold P_X7_sortPlaces at h
  obtain ⟨⟨hq, hk⟩, h⟩ := h
  refine lv_aload_n hx hb dX7_sortPlaces_0 rfl (lv_at hl 0 rfl) ?_
  obtain ⟨q1, e2, h⟩ := h
  refine c_get (C := RX7) (T := TX7) (N := 7) (K := 6) (v := .ref q1) hx hb hts hinX7 hown hK hP hq hk (by decide) rfl 5 (by decide) (hts _ mwC_34) (fun _ h9 => h9) (by show some (va_rf (sR sh q 5)) = _; rw [e2]; rfl) dX7_sortPlaces_1 ?_
  obtain ⟨⟨hm3, hk4⟩, h⟩ := h
  refine r_endi (c_runZ (rm := ({ frames := 4, cells := 0, slots := 0, locals := 60 })) (y := yX5_there) (x := ⟨"NeededLists$LazyList", "there", "()I"⟩) (n := 0) (bytes := cX5_there) (maxL := 1) (ret := (some .int)) (q := q1) (As := []) (rest := []) ⟨hx, hb, hml, hown, hts⟩ (p_X5_there l dC dI sh _ _ _ q1  _ h H.size) mwC_38 mwC_20 mwC_21 mwC_22 mwC_23 mwC_24 mwC_25 mwC_26 mwC_27 mwC_28 mwC_29 mwC_30 mwC_31 mwC_32 rfl (by decide +kernel) rfl rfl ⟨(show 4 + 1 ≤ 302 + 5 * d by omega), (show 8 + (1 + 11) + (60) ≤ 6080 + 200 * d by omega)⟩ hK hP hD hG hm3 hk4 rfl hl.1 rfl (Nat.le_of_ble_eq_true rfl) ⟨Nat.le_of_ble_eq_true rfl, Nat.le_of_ble_eq_true rfl⟩ dX7_sortPlaces_4) hP hS hA (fun r5 H locs h hP hS => ?_)
  refine lv_istore_n (lv' := [(1, .int r5), (0, .ref q)]) hx hb dX7_sortPlaces_7 rfl hl (by decide) rfl (fun ls hl => ?_)
  refine lv_iconst (v := 0) hx hb dX7_sortPlaces_8 (by decide) ?_
  refine lv_istore_n (lv' := [(2, .int 0), (1, .int r5), (0, .ref q)]) hx hb dX7_sortPlaces_9 rfl hl (by decide) rfl (fun ls hl => ?_)
  obtain ⟨n9, h⟩ := h
  exact t_X7_sortPlaces_10 hx hb hr hts hown hlocks hml hA hK hG hq hk hGr hGw  n9 _ _ _ _ _ H _ ls h hP hD hS (lv_sub hl [2, 1, 0] rfl)

abbrev wmX0_seek : List Cond := .code yX0_seek cX0_seek 2 (some .int) :: WC
theorem hd_X0_seek : yX0_seek.cls = RX0 ∧ yX0_seek.cls ≠ "java/lang/invoke/MethodHandle" ∧ yX0_seek.cls ≠ "java/lang/invoke/VarHandle" ∧ (parseMethodDescriptor yX0_seek.desc).map (fun d => d.parameters.length) = some 1 := by decide +kernel
def P_X0_seek (sh : Sh) (Gr Gw : (Nat → Nat → Int32) → (Nat → Nat → Int32) → (Nat → Nat → Int64) → Nat → Int32 → (Int32 → (Nat → Nat → Int32) → (Nat → Nat → Int32) → (Nat → Nat → Int64) → Prop) → Prop) (ci : Nat → Nat → Int32) (ai : Nat → Nat → Int32) (al : Nat → Nat → Int64) (q : Nat) (p0 : Int32) (Q : Int32 → (Nat → Nat → Int32) → (Nat → Nat → Int32) → (Nat → Nat → Int64) → Prop) : Prop := (q ∈ sL sh ∧ sK sh q = 0) ∧ ((sR sh q 5 = none → (Q 1 ci ai al)) ∧ (∀ q1 : Nat, sR sh q 5 = some q1 → (((¬ p0 = 0) → ((q1 ∈ sL sh ∧ isZ (sK sh q1)) ∧ Gr ci ai al q1 (p0 - 1) (fun r5 ci5 ai5 al5 => Q r5 ci5 ai5 al5))) ∧ ((p0 = 0) → (Q 1 ci ai al)))))
set_option maxHeartbeats 4000000 in
set_option maxRecDepth 100000 in
theorem p_X0_seek (l : Launch) (dC : Nat → ClassId) (dI : Nat → Nat → Nat) (sh : Sh) (d : Nat) {Gr Gw : (Nat → Nat → Int32) → (Nat → Nat → Int32) → (Nat → Nat → Int64) → Nat → Int32 → (Int32 → (Nat → Nat → Int32) → (Nat → Nat → Int32) → (Nat → Nat → Int64) → Prop) → Prop} (hGr : GM l dC dI sh yX5_reach wmX5_reach ({ frames := 300 + 5 * d, cells := 0, slots := 0, locals := 6000 + 200 * d }) Gr) (hGw : GM l dC dI sh yX5_work wmX5_work ({ frames := 300 + 5 * d, cells := 0, slots := 0, locals := 6000 + 200 * d }) Gw) (ci : Nat → Nat → Int32) (ai : Nat → Nat → Int32) (al : Nat → Nat → Int64) (q : Nat) (p0 : Int32) (Q : Int32 → (Nat → Nat → Int32) → (Nat → Nat → Int32) → (Nat → Nat → Int64) → Prop) (h : P_X0_seek sh Gr Gw ci ai al q p0 Q) (sz : Nat) : Met l yX0_seek wmX0_seek ({ frames := 303 + 5 * d, cells := 0, slots := 0, locals := 6120 + 200 * d }) (va_Pc [.ref q, .int p0] (cPre dC dI sh ci ai al sz)) (va_Qi (S := CSt) (cI Q) (cB dC dI sh (va_A (cW sh ci ai al) sz)) (va_A (cW sh ci ai al) sz)) 0 0 (va_A (cW sh ci ai al) sz) := by
  refine Met.ofW (cc := cX0_seek) (maxL := 2) (ret := (some .int)) (by decide) rfl ?_
  intro p e s m args below meth c s₁ B hml hv
  obtain ⟨rfl, hsz, hP, hK, hD0, hG⟩ := hv
  have hx := B.exec
  have hb := B.bytes
  have hr := B.returns
  have hts : ∀ w ∈ WC, w.before _ s = true := fun w h => atoms_spec (ws := wmX0_seek) B.pre w (List.mem_cons_of_mem _ h)
  have hown : s.vm.findClass RX0 = some m.cls := findClass_of_methodNamed B.named
  have hlocks := B.notSynchronized
  subst hsz
  have hD := hD0.self (sz := s.heap.size)
  generalize hAe : va_A (cW sh ci ai al) s.heap.size = A at hD ⊢
  have hA : ∀ q : Nat, s.heap.size ≤ q → A q := fun q h => by rw [← hAe]; exact Or.inr h
  generalize hH : s.heap = H at hP ⊢
  have hS : va_S A s.heap H [] := by rw [← hH]; exact va_S.rf
  have hl := lv_entry [.ref q, .int p0] (n := 2) (Nat.le_of_ble_eq_true rfl)
  rw [lg_entry_eq]
  generalize (lg_sl [.ref q, .int p0] ++ List.replicate (2 - (lg_sl [.ref q, .int p0]).length) Slot.unset).toArray = ls at hl ⊢
  have hl : lv_has ls 2 [(0, .ref q), (1, .int p0)] := hl
  unfold P_X0_seek at h
  obtain ⟨⟨hq, hk⟩, h⟩ := h
  refine lv_aload_n hx hb dX0_seek_0 rfl (lv_at hl 0 rfl) ?_
  rcases e2 : sR sh q 5 with _ | q1
  · have h := h.1 e2
    refine c_get (C := RX0) (T := TX0) (N := 9) (K := 0) (v := .null) hx hb hts hinX0 hown hK hP hq hk (by decide) rfl 5 (by decide) (hts _ mwC_190) (fun _ h9 => h9) (by show some (va_rf (sR sh q 5)) = _; rw [e2]; rfl) dX0_seek_1 ?_
    refine lv_ifnullN (tgt := 11) hx hb dX0_seek_4 (by decide) ?_
    refine lv_iconst (v := 1) hx hb dX0_seek_11 (by decide) ?_
    refine lv_goto (tgt := 25) hx hb dX0_seek_12 (by decide) ?_
    exact W.iret (v := 1) hx hb hr (fun t ht hW => ⟨⟨_, (ci, ai, al), rfl, h, by rw [ht]; exact hP, cK.moved hW.alike hK, hD⟩, hS.F ht⟩) hS.2.2 dX0_seek_25
  · have h := h.2 q1 e2
    refine c_get (C := RX0) (T := TX0) (N := 9) (K := 0) (v := .ref q1) hx hb hts hinX0 hown hK hP hq hk (by decide) rfl 5 (by decide) (hts _ mwC_190) (fun _ h9 => h9) (by show some (va_rf (sR sh q 5)) = _; rw [e2]; rfl) dX0_seek_1 ?_
    refine lv_ifnull hx hb dX0_seek_4 ?_
    refine lv_iload_n hx hb dX0_seek_7 rfl (lv_at hl 1 rfl) ?_
    refine lv_if_ne (tgt := 15) hx hb dX0_seek_8 (by decide) (fun c_8 => ?_) (fun c_8 => ?_)
    · have h := h.1 c_8
      refine lv_aload_n hx hb dX0_seek_15 rfl (lv_at hl 0 rfl) ?_
      refine c_get (C := RX0) (T := TX0) (N := 9) (K := 0) (v := .ref q1) hx hb hts hinX0 hown hK hP hq hk (by decide) rfl 5 (by decide) (hts _ mwC_190) (fun _ h9 => h9) (by show some (va_rf (sR sh q 5)) = _; rw [e2]; rfl) dX0_seek_16 ?_
      refine lv_iload_n hx hb dX0_seek_19 rfl (lv_at hl 1 rfl) ?_
      refine lv_iconst (v := 1) hx hb dX0_seek_20 (by decide) ?_
      refine lv_isub hx hb dX0_seek_21 ?_
      obtain ⟨⟨hm3, hk4⟩, h⟩ := h
      refine c_endi (c_runZ (rm := ({ frames := 300 + 5 * d, cells := 0, slots := 0, locals := 6000 + 200 * d })) (y := yX5_reach) (x := ⟨"NeededLists$LazyList", "reach", "(I)I"⟩) (n := 1) (bytes := cX5_reach) (maxL := 5) (ret := (some .int)) (q := q1) (As := [.int (p0 - 1)]) (rest := []) ⟨hx, hb, hml, hown, hts⟩ (hGr _ _ _ q1 (p0 - 1) _ h H.size) mwC_191 mwC_145 mwC_146 mwC_22 mwC_147 mwC_148 mwC_149 mwC_150 mwC_151 mwC_152 mwC_153 mwC_154 mwC_155 mwC_156 rfl (by decide +kernel) rfl rfl ⟨(show 300 + 5 * d + 1 ≤ 303 + 5 * d by omega), (show 8 + (5 + 11) + (6000 + 200 * d) ≤ 6120 + 200 * d by omega)⟩ hK hP hD hG hm3 hk4 rfl hl.1 rfl (Nat.le_of_ble_eq_true rfl) ⟨Nat.le_of_ble_eq_true rfl, Nat.le_of_ble_eq_true rfl⟩ dX0_seek_22) hD hS hA (fun r5 ci5 ai5 al5 H locs h hP hD hS => ?_)
      exact W.iret (v := r5) hx hb hr (fun t ht hW => ⟨⟨_, (ci5, ai5, al5), rfl, h, by rw [ht]; exact hP, cK.moved hW.alike hK, hD⟩, hS.F ht⟩) hS.2.2 dX0_seek_25
    · have h := h.2 c_8
      refine lv_iconst (v := 1) hx hb dX0_seek_11 (by decide) ?_
      refine lv_goto (tgt := 25) hx hb dX0_seek_12 (by decide) ?_
      exact W.iret (v := 1) hx hb hr (fun t ht hW => ⟨⟨_, (ci, ai, al), rfl, h, by rw [ht]; exact hP, cK.moved hW.alike hK, hD⟩, hS.F ht⟩) hS.2.2 dX0_seek_25

abbrev wmX1_seek : List Cond := .code yX1_seek cX1_seek 3 (some .int) :: WC
theorem hd_X1_seek : yX1_seek.cls = RX1 ∧ yX1_seek.cls ≠ "java/lang/invoke/MethodHandle" ∧ yX1_seek.cls ≠ "java/lang/invoke/VarHandle" ∧ (parseMethodDescriptor yX1_seek.desc).map (fun d => d.parameters.length) = some 1 := by decide +kernel
def P_X1_seek (sh : Sh) (Gr Gw : (Nat → Nat → Int32) → (Nat → Nat → Int32) → (Nat → Nat → Int64) → Nat → Int32 → (Int32 → (Nat → Nat → Int32) → (Nat → Nat → Int32) → (Nat → Nat → Int64) → Prop) → Prop) (ci : Nat → Nat → Int32) (ai : Nat → Nat → Int32) (al : Nat → Nat → Int64) (q : Nat) (p0 : Int32) (Q : Int32 → (Nat → Nat → Int32) → (Nat → Nat → Int32) → (Nat → Nat → Int64) → Prop) : Prop := (q ∈ sL sh ∧ sK sh q = 1) ∧ ∃ q1 : Nat, sR sh q 5 = some q1 ∧ (q1 ∈ sL sh ∧ isZ (sK sh q1)) ∧ Gr ci ai al q1 p0 (fun r5 ci5 ai5 al5 => ((¬ r5 = 1) → (Q r5 ci5 ai5 al5)) ∧ ((r5 = 1) → ((sR sh q 6 = none → (Q r5 ci5 ai5 al5)) ∧ (∀ q6 : Nat, sR sh q 6 = some q6 → ((q6 ∈ sL sh ∧ isZ (sK sh q6)) ∧ Gr ci5 ai5 al5 q6 p0 (fun r10 ci10 ai10 al10 => Q r10 ci10 ai10 al10))))))
set_option maxHeartbeats 4000000 in
set_option maxRecDepth 100000 in
theorem p_X1_seek (l : Launch) (dC : Nat → ClassId) (dI : Nat → Nat → Nat) (sh : Sh) (d : Nat) {Gr Gw : (Nat → Nat → Int32) → (Nat → Nat → Int32) → (Nat → Nat → Int64) → Nat → Int32 → (Int32 → (Nat → Nat → Int32) → (Nat → Nat → Int32) → (Nat → Nat → Int64) → Prop) → Prop} (hGr : GM l dC dI sh yX5_reach wmX5_reach ({ frames := 300 + 5 * d, cells := 0, slots := 0, locals := 6000 + 200 * d }) Gr) (hGw : GM l dC dI sh yX5_work wmX5_work ({ frames := 300 + 5 * d, cells := 0, slots := 0, locals := 6000 + 200 * d }) Gw) (ci : Nat → Nat → Int32) (ai : Nat → Nat → Int32) (al : Nat → Nat → Int64) (q : Nat) (p0 : Int32) (Q : Int32 → (Nat → Nat → Int32) → (Nat → Nat → Int32) → (Nat → Nat → Int64) → Prop) (h : P_X1_seek sh Gr Gw ci ai al q p0 Q) (sz : Nat) : Met l yX1_seek wmX1_seek ({ frames := 303 + 5 * d, cells := 0, slots := 0, locals := 6120 + 200 * d }) (va_Pc [.ref q, .int p0] (cPre dC dI sh ci ai al sz)) (va_Qi (S := CSt) (cI Q) (cB dC dI sh (va_A (cW sh ci ai al) sz)) (va_A (cW sh ci ai al) sz)) 0 0 (va_A (cW sh ci ai al) sz) := by
  refine Met.ofW (cc := cX1_seek) (maxL := 3) (ret := (some .int)) (by decide) rfl ?_
  intro p e s m args below meth c s₁ B hml hv
  obtain ⟨rfl, hsz, hP, hK, hD0, hG⟩ := hv
  have hx := B.exec
  have hb := B.bytes
  have hr := B.returns
  have hts : ∀ w ∈ WC, w.before _ s = true := fun w h => atoms_spec (ws := wmX1_seek) B.pre w (List.mem_cons_of_mem _ h)
  have hown : s.vm.findClass RX1 = some m.cls := findClass_of_methodNamed B.named
  have hlocks := B.notSynchronized
  subst hsz
  have hD := hD0.self (sz := s.heap.size)
  generalize hAe : va_A (cW sh ci ai al) s.heap.size = A at hD ⊢
  have hA : ∀ q : Nat, s.heap.size ≤ q → A q := fun q h => by rw [← hAe]; exact Or.inr h
  generalize hH : s.heap = H at hP ⊢
  have hS : va_S A s.heap H [] := by rw [← hH]; exact va_S.rf
  have hl := lv_entry [.ref q, .int p0] (n := 3) (Nat.le_of_ble_eq_true rfl)
  rw [lg_entry_eq]
  generalize (lg_sl [.ref q, .int p0] ++ List.replicate (3 - (lg_sl [.ref q, .int p0]).length) Slot.unset).toArray = ls at hl ⊢
  have hl : lv_has ls 3 [(0, .ref q), (1, .int p0)] := hl
  unfold P_X1_seek at h
  obtain ⟨⟨hq, hk⟩, h⟩ := h
  refine lv_aload_n hx hb dX1_seek_0 rfl (lv_at hl 0 rfl) ?_
  obtain ⟨q1, e2, h⟩ := h
  refine c_get (C := RX1) (T := TX1) (N := 9) (K := 1) (v := .ref q1) hx hb hts hinX1 hown hK hP hq hk (by decide) rfl 5 (by decide) (hts _ mwC_192) (fun _ h9 => h9) (by show some (va_rf (sR sh q 5)) = _; rw [e2]; rfl) dX1_seek_1 ?_
  refine lv_iload_n hx hb dX1_seek_4 rfl (lv_at hl 1 rfl) ?_
  obtain ⟨⟨hm3, hk4⟩, h⟩ := h
  refine c_endi (c_runZ (rm := ({ frames := 300 + 5 * d, cells := 0, slots := 0, locals := 6000 + 200 * d })) (y := yX5_reach) (x := ⟨"NeededLists$LazyList", "reach", "(I)I"⟩) (n := 1) (bytes := cX5_reach) (maxL := 5) (ret := (some .int)) (q := q1) (As := [.int p0]) (rest := []) ⟨hx, hb, hml, hown, hts⟩ (hGr _ _ _ q1 p0 _ h H.size) mwC_193 mwC_145 mwC_146 mwC_22 mwC_147 mwC_148 mwC_149 mwC_150 mwC_151 mwC_152 mwC_153 mwC_154 mwC_155 mwC_156 rfl (by decide +kernel) rfl rfl ⟨(show 300 + 5 * d + 1 ≤ 303 + 5 * d by omega), (show 8 + (5 + 11) + (6000 + 200 * d) ≤ 6120 + 200 * d by omega)⟩ hK hP hD hG hm3 hk4 rfl hl.1 rfl (Nat.le_of_ble_eq_true rfl) ⟨Nat.le_of_ble_eq_true rfl, Nat.le_of_ble_eq_true rfl⟩ dX1_seek_5) hD hS hA (fun r5 ci5 ai5 al5 H locs h hP hD hS => ?_)
  refine lv_istore_n (lv' := [(2, .int r5), (0, .ref q), (1, .int p0)]) hx hb dX1_seek_8 rfl hl (by decide) rfl (fun ls hl => ?_)
  refine lv_iload_n hx hb dX1_seek_9 rfl (lv_at hl 0 rfl) ?_
  refine lv_iconst (v := 1) hx hb dX1_seek_10 (by decide) ?_
  refine lv_icmp_ne (tgt := 21) hx hb dX1_seek_11 (by decide) (fun c_11 => ?_) (fun c_11 => ?_)
  · have h := h.1 c_11
    refine lv_iload_n hx hb dX1_seek_21 rfl (lv_at hl 0 rfl) ?_
    refine lv_goto (tgt := 33) hx hb dX1_seek_22 (by decide) ?_
    exact W.iret (v := r5) hx hb hr (fun t ht hW => ⟨⟨_, (ci5, ai5, al5), rfl, h, by rw [ht]; exact hP, cK.moved hW.alike hK, hD⟩, hS.F ht⟩) hS.2.2 dX1_seek_33
  · have h := h.2 c_11
    refine lv_aload_n hx hb dX1_seek_14 rfl (lv_at hl 1 rfl) ?_
    rcases e7 : sR sh q 6 with _ | q6
    · have h := h.1 e7
      refine c_get (C := RX1) (T := TX1) (N := 9) (K := 1) (v := .null) hx hb hts hinX1 hown hK hP hq hk (by decide) rfl 6 (by decide) (hts _ mwC_194) (fun _ h9 => h9) (by show some (va_rf (sR sh q 6)) = _; rw [e7]; rfl) dX1_seek_15 ?_
      refine lv_ifnonnullN hx hb dX1_seek_18 ?_
      refine lv_iload_n hx hb dX1_seek_21 rfl (lv_at hl 0 rfl) ?_
      refine lv_goto (tgt := 33) hx hb dX1_seek_22 (by decide) ?_
      exact W.iret (v := r5) hx hb hr (fun t ht hW => ⟨⟨_, (ci5, ai5, al5), rfl, h, by rw [ht]; exact hP, cK.moved hW.alike hK, hD⟩, hS.F ht⟩) hS.2.2 dX1_seek_33
    · have h := h.2 q6 e7
      refine c_get (C := RX1) (T := TX1) (N := 9) (K := 1) (v := .ref q6) hx hb hts hinX1 hown hK hP hq hk (by decide) rfl 6 (by decide) (hts _ mwC_194) (fun _ h9 => h9) (by show some (va_rf (sR sh q 6)) = _; rw [e7]; rfl) dX1_seek_15 ?_
      refine lv_ifnonnull (tgt := 25) hx hb dX1_seek_18 (by decide) ?_
      refine lv_aload_n hx hb dX1_seek_25 rfl (lv_at hl 1 rfl) ?_
      refine c_get (C := RX1) (T := TX1) (N := 9) (K := 1) (v := .ref q6) hx hb hts hinX1 hown hK hP hq hk (by decide) rfl 6 (by decide) (hts _ mwC_194) (fun _ h9 => h9) (by show some (va_rf (sR sh q 6)) = _; rw [e7]; rfl) dX1_seek_26 ?_
      refine lv_iload_n hx hb dX1_seek_29 rfl (lv_at hl 2 rfl) ?_
      obtain ⟨⟨hm8, hk9⟩, h⟩ := h
      refine c_endi (c_runZ (rm := ({ frames := 300 + 5 * d, cells := 0, slots := 0, locals := 6000 + 200 * d })) (y := yX5_reach) (x := ⟨"NeededLists$LazyList", "reach", "(I)I"⟩) (n := 1) (bytes := cX5_reach) (maxL := 5) (ret := (some .int)) (q := q6) (As := [.int p0]) (rest := []) ⟨hx, hb, hml, hown, hts⟩ (hGr _ _ _ q6 p0 _ h H.size) mwC_193 mwC_145 mwC_146 mwC_22 mwC_147 mwC_148 mwC_149 mwC_150 mwC_151 mwC_152 mwC_153 mwC_154 mwC_155 mwC_156 rfl (by decide +kernel) rfl rfl ⟨(show 300 + 5 * d + 1 ≤ 303 + 5 * d by omega), (show 8 + (5 + 11) + (6000 + 200 * d) ≤ 6120 + 200 * d by omega)⟩ hK hP hD hG hm8 hk9 rfl hl.1 rfl (Nat.le_of_ble_eq_true rfl) ⟨Nat.le_of_ble_eq_true rfl, Nat.le_of_ble_eq_true rfl⟩ dX1_seek_30) hD hS hA (fun r10 ci10 ai10 al10 H locs h hP hD hS => ?_)
      exact W.iret (v := r10) hx hb hr (fun t ht hW => ⟨⟨_, (ci10, ai10, al10), rfl, h, by rw [ht]; exact hP, cK.moved hW.alike hK, hD⟩, hS.F ht⟩) hS.2.2 dX1_seek_33

abbrev wmX2_seek : List Cond := .code yX2_seek cX2_seek 4 (some .int) :: WC
theorem hd_X2_seek : yX2_seek.cls = RX2 ∧ yX2_seek.cls ≠ "java/lang/invoke/MethodHandle" ∧ yX2_seek.cls ≠ "java/lang/invoke/VarHandle" ∧ (parseMethodDescriptor yX2_seek.desc).map (fun d => d.parameters.length) = some 1 := by decide +kernel
def P_X2_seek (sh : Sh) (Gr Gw : (Nat → Nat → Int32) → (Nat → Nat → Int32) → (Nat → Nat → Int64) → Nat → Int32 → (Int32 → (Nat → Nat → Int32) → (Nat → Nat → Int32) → (Nat → Nat → Int64) → Prop) → Prop) (ci : Nat → Nat → Int32) (ai : Nat → Nat → Int32) (al : Nat → Nat → Int64) (q : Nat) (p0 : Int32) (Q : Int32 → (Nat → Nat → Int32) → (Nat → Nat → Int32) → (Nat → Nat → Int64) → Prop) : Prop := (q ∈ sL sh ∧ sK sh q = 2) ∧ ((p0 < (ci q 6)) → (∃ q1 : Nat, sR sh q 5 = some q1 ∧ (q1 ∈ sL sh ∧ isZ (sK sh q1)) ∧ Gr ci ai al q1 p0 (fun r5 ci5 ai5 al5 => ((¬ r5 = 1) → (Q r5 ci5 ai5 al5)) ∧ ((r5 = 1) → (((¬ (ci5 q 7) = (-1)) → (Gw ci5 ai5 al5 q1 p0 (fun r6 ci6 ai6 al6 => ((r6 = 1) → (P_X5_number_f sh 30 ci6 ai6 al6 q1 p0 (fun r7 => P_X11_meets (ci6 q 7) r7 (sJ sh q 8) (fun r8 => ((r8 = 0) → (Q 2 ci6 ai6 al6)) ∧ ((¬ r8 = 0) → (Q 1 ci6 ai6 al6)))))) ∧ ((¬ r6 = 1) → (Q r6 ci6 ai6 al6))))) ∧ (((ci5 q 7) = (-1)) → (Q r5 ci5 ai5 al5))))))) ∧ ((¬ p0 < (ci q 6)) → (Q 2 ci ai al))
set_option maxHeartbeats 4000000 in
set_option maxRecDepth 100000 in
theorem p_X2_seek (l : Launch) (dC : Nat → ClassId) (dI : Nat → Nat → Nat) (sh : Sh) (d : Nat) {Gr Gw : (Nat → Nat → Int32) → (Nat → Nat → Int32) → (Nat → Nat → Int64) → Nat → Int32 → (Int32 → (Nat → Nat → Int32) → (Nat → Nat → Int32) → (Nat → Nat → Int64) → Prop) → Prop} (hGr : GM l dC dI sh yX5_reach wmX5_reach ({ frames := 300 + 5 * d, cells := 0, slots := 0, locals := 6000 + 200 * d }) Gr) (hGw : GM l dC dI sh yX5_work wmX5_work ({ frames := 300 + 5 * d, cells := 0, slots := 0, locals := 6000 + 200 * d }) Gw) (ci : Nat → Nat → Int32) (ai : Nat → Nat → Int32) (al : Nat → Nat → Int64) (q : Nat) (p0 : Int32) (Q : Int32 → (Nat → Nat → Int32) → (Nat → Nat → Int32) → (Nat → Nat → Int64) → Prop) (h : P_X2_seek sh Gr Gw ci ai al q p0 Q) (sz : Nat) : Met l yX2_seek wmX2_seek ({ frames := 303 + 5 * d, cells := 0, slots := 0, locals := 6120 + 200 * d }) (va_Pc [.ref q, .int p0] (cPre dC dI sh ci ai al sz)) (va_Qi (S := CSt) (cI Q) (cB dC dI sh (va_A (cW sh ci ai al) sz)) (va_A (cW sh ci ai al) sz)) 0 0 (va_A (cW sh ci ai al) sz) := by
  refine Met.ofW (cc := cX2_seek) (maxL := 4) (ret := (some .int)) (by decide) rfl ?_
  intro p e s m args below meth c s₁ B hml hv
  obtain ⟨rfl, hsz, hP, hK, hD0, hG⟩ := hv
  have hx := B.exec
  have hb := B.bytes
  have hr := B.returns
  have hts : ∀ w ∈ WC, w.before _ s = true := fun w h => atoms_spec (ws := wmX2_seek) B.pre w (List.mem_cons_of_mem _ h)
  have hown : s.vm.findClass RX2 = some m.cls := findClass_of_methodNamed B.named
  have hlocks := B.notSynchronized
  subst hsz
  have hD := hD0.self (sz := s.heap.size)
  generalize hAe : va_A (cW sh ci ai al) s.heap.size = A at hD ⊢
  have hA : ∀ q : Nat, s.heap.size ≤ q → A q := fun q h => by rw [← hAe]; exact Or.inr h
  generalize hH : s.heap = H at hP ⊢
  have hS : va_S A s.heap H [] := by rw [← hH]; exact va_S.rf
  have hl := lv_entry [.ref q, .int p0] (n := 4) (Nat.le_of_ble_eq_true rfl)
  rw [lg_entry_eq]
  generalize (lg_sl [.ref q, .int p0] ++ List.replicate (4 - (lg_sl [.ref q, .int p0]).length) Slot.unset).toArray = ls at hl ⊢
  have hl : lv_has ls 4 [(0, .ref q), (1, .int p0)] := hl
  unfold P_X2_seek at h
  obtain ⟨⟨hq, hk⟩, h⟩ := h
  refine lv_iload_n hx hb dX2_seek_0 rfl (lv_at hl 1 rfl) ?_
  refine lv_aload_n hx hb dX2_seek_1 rfl (lv_at hl 0 rfl) ?_
  refine c_get (C := RX2) (T := TX2) (N := 9) (K := 2) (v := .int (ci q 6)) hx hb hts hinX2 hown hK hP hq hk (by decide) rfl 6 (by decide) (hts _ mwC_195) (fun _ h9 => h9) rfl dX2_seek_2 ?_
  refine lv_icmp_lt (tgt := 10) hx hb dX2_seek_5 (by decide) (fun c_5 => ?_) (fun c_5 => ?_)
  · have h := h.1 c_5
    refine lv_aload_n hx hb dX2_seek_10 rfl (lv_at hl 0 rfl) ?_
    obtain ⟨q1, e2, h⟩ := h
    refine c_get (C := RX2) (T := TX2) (N := 9) (K := 2) (v := .ref q1) hx hb hts hinX2 hown hK hP hq hk (by decide) rfl 5 (by decide) (hts _ mwC_17) (fun _ h9 => h9) (by show some (va_rf (sR sh q 5)) = _; rw [e2]; rfl) dX2_seek_11 ?_
    refine lv_iload_n hx hb dX2_seek_14 rfl (lv_at hl 1 rfl) ?_
    obtain ⟨⟨hm3, hk4⟩, h⟩ := h
    refine c_endi (c_runZ (rm := ({ frames := 300 + 5 * d, cells := 0, slots := 0, locals := 6000 + 200 * d })) (y := yX5_reach) (x := ⟨"NeededLists$LazyList", "reach", "(I)I"⟩) (n := 1) (bytes := cX5_reach) (maxL := 5) (ret := (some .int)) (q := q1) (As := [.int p0]) (rest := []) ⟨hx, hb, hml, hown, hts⟩ (hGr _ _ _ q1 p0 _ h H.size) mwC_196 mwC_145 mwC_146 mwC_22 mwC_147 mwC_148 mwC_149 mwC_150 mwC_151 mwC_152 mwC_153 mwC_154 mwC_155 mwC_156 rfl (by decide +kernel) rfl rfl ⟨(show 300 + 5 * d + 1 ≤ 303 + 5 * d by omega), (show 8 + (5 + 11) + (6000 + 200 * d) ≤ 6120 + 200 * d by omega)⟩ hK hP hD hG hm3 hk4 rfl hl.1 rfl (Nat.le_of_ble_eq_true rfl) ⟨Nat.le_of_ble_eq_true rfl, Nat.le_of_ble_eq_true rfl⟩ dX2_seek_15) hD hS hA (fun r5 ci5 ai5 al5 H locs h hP hD hS => ?_)
    refine lv_istore_n (lv' := [(2, .int r5), (0, .ref q), (1, .int p0)]) hx hb dX2_seek_18 rfl hl (by decide) rfl (fun ls hl => ?_)
    refine lv_iload_n hx hb dX2_seek_19 rfl (lv_at hl 0 rfl) ?_
    refine lv_iconst (v := 1) hx hb dX2_seek_20 (by decide) ?_
    refine lv_icmp_ne (tgt := 32) hx hb dX2_seek_21 (by decide) (fun c_21 => ?_) (fun c_21 => ?_)
    · have h := h.1 c_21
      refine lv_iload_n hx hb dX2_seek_32 rfl (lv_at hl 0 rfl) ?_
      exact W.iret (v := r5) hx hb hr (fun t ht hW => ⟨⟨_, (ci5, ai5, al5), rfl, h, by rw [ht]; exact hP, cK.moved hW.alike hK, hD⟩, hS.F ht⟩) hS.2.2 dX2_seek_33
    · have h := h.2 c_21
      refine lv_aload_n hx hb dX2_seek_24 rfl (lv_at hl 1 rfl) ?_
      refine c_get (C := RX2) (T := TX2) (N := 9) (K := 2) (v := .int (ci5 q 7)) hx hb hts hinX2 hown hK hP hq hk (by decide) rfl 7 (by decide) (hts _ mwC_197) (fun _ h9 => h9) rfl dX2_seek_25 ?_
      refine lv_iconst (v := (-1)) hx hb dX2_seek_28 (by decide) ?_
      refine lv_icmp_ne (tgt := 34) hx hb dX2_seek_29 (by decide) (fun c_29 => ?_) (fun c_29 => ?_)
      · have h := h.1 c_29
        refine lv_aload_n hx hb dX2_seek_34 rfl (lv_at hl 1 rfl) ?_
        refine c_get (C := RX2) (T := TX2) (N := 9) (K := 2) (v := .ref q1) hx hb hts hinX2 hown hK hP hq hk (by decide) rfl 5 (by decide) (hts _ mwC_17) (fun _ h9 => h9) (by show some (va_rf (sR sh q 5)) = _; rw [e2]; rfl) dX2_seek_35 ?_
        refine lv_iload_n hx hb dX2_seek_38 rfl (lv_at hl 2 rfl) ?_
        refine c_endi (c_runZ (rm := ({ frames := 300 + 5 * d, cells := 0, slots := 0, locals := 6000 + 200 * d })) (y := yX5_work) (x := ⟨"NeededLists$LazyList", "work", "(I)I"⟩) (n := 1) (bytes := cX5_work) (maxL := 4) (ret := (some .int)) (q := q1) (As := [.int p0]) (rest := []) ⟨hx, hb, hml, hown, hts⟩ (hGw _ _ _ q1 p0 _ h H.size) mwC_198 mwC_159 mwC_160 mwC_22 mwC_161 mwC_162 mwC_163 mwC_164 mwC_165 mwC_166 mwC_167 mwC_168 mwC_169 mwC_170 rfl (by decide +kernel) rfl rfl ⟨(show 300 + 5 * d + 1 ≤ 303 + 5 * d by omega), (show 8 + (4 + 11) + (6000 + 200 * d) ≤ 6120 + 200 * d by omega)⟩ hK hP hD hG hm3 hk4 rfl hl.1 rfl (Nat.le_of_ble_eq_true rfl) ⟨Nat.le_of_ble_eq_true rfl, Nat.le_of_ble_eq_true rfl⟩ dX2_seek_39) hD hS hA (fun r6 ci6 ai6 al6 H locs h hP hD hS => ?_)
        refine lv_istore_n (lv' := [(3, .int r6), (2, .int r5), (0, .ref q), (1, .int p0)]) hx hb dX2_seek_42 rfl hl (by decide) rfl (fun ls hl => ?_)
        refine lv_iload_n hx hb dX2_seek_43 rfl (lv_at hl 0 rfl) ?_
        refine lv_iconst (v := 1) hx hb dX2_seek_44 (by decide) ?_
        refine lv_icmp_eq (tgt := 50) hx hb dX2_seek_45 (by decide) (fun c_45 => ?_) (fun c_45 => ?_)
        · have h := h.1 c_45
          refine lv_aload_n hx hb dX2_seek_50 rfl (lv_at hl 2 rfl) ?_
          refine c_get (C := RX2) (T := TX2) (N := 9) (K := 2) (v := .int (ci6 q 7)) hx hb hts hinX2 hown hK hP hq hk (by decide) rfl 7 (by decide) (hts _ mwC_197) (fun _ h9 => h9) rfl dX2_seek_51 ?_
          refine lv_aload_n hx hb dX2_seek_54 rfl (lv_at hl 2 rfl) ?_
          refine c_get (C := RX2) (T := TX2) (N := 9) (K := 2) (v := .ref q1) hx hb hts hinX2 hown hK hP hq hk (by decide) rfl 5 (by decide) (hts _ mwC_17) (fun _ h9 => h9) (by show some (va_rf (sR sh q 5)) = _; rw [e2]; rfl) dX2_seek_55 ?_
          refine lv_iload_n hx hb dX2_seek_58 rfl (lv_at hl 3 rfl) ?_
          refine r_endl (c_runZ (rm := ({ frames := 20 + 2 * 30, cells := 0, slots := 0, locals := 300 + 50 * 30 })) (y := yX5_number) (x := ⟨"NeededLists$LazyList", "number", "(I)J"⟩) (n := 1) (bytes := cX5_number) (maxL := 3) (ret := (some .long)) (q := q1) (As := [.int p0]) (rest := [.int (ci6 q 7)]) ⟨hx, hb, hml, hown, hts⟩ (p_X5_number_f l dC dI sh 30 _ _ _ q1 p0 _ h H.size) mwC_199 mwC_92 mwC_93 mwC_22 mwC_94 mwC_95 mwC_96 mwC_97 mwC_98 mwC_99 mwC_100 mwC_101 mwC_102 mwC_103 rfl (by decide +kernel) rfl rfl ⟨(show 20 + 2 * 30 + 1 ≤ 303 + 5 * d by omega), (show 8 + (3 + 11) + (300 + 50 * 30) ≤ 6120 + 200 * d by omega)⟩ hK hP hD hG hm3 hk4 rfl hl.1 rfl (Nat.le_of_ble_eq_true rfl) ⟨Nat.le_of_ble_eq_true rfl, Nat.le_of_ble_eq_true rfl⟩ dX2_seek_59) hP hS hA (fun r7 H locs h hP hS => ?_)
          refine lv_aload_n hx hb dX2_seek_62 rfl (lv_at hl 2 rfl) ?_
          refine c_get (C := RX2) (T := TX2) (N := 9) (K := 2) (v := .long (sJ sh q 8)) hx hb hts hinX2 hown hK hP hq hk (by decide) rfl 8 (by decide) (hts _ mwC_200) (fun _ h9 => h9) rfl dX2_seek_63 ?_
          refine r_endi (va_runSN (host := "NeededLists") (rm := ({ frames := 4, cells := 0, slots := 0, locals := 60 })) (As := [.int (ci6 q 7), .long r7, .long (sJ sh q 8)]) (rest := []) ⟨hx, hb, hml, hown, hts⟩ (p_X11_meets l dC dI (ci6 q 7) r7 (sJ sh q 8) _ h H.size) ⟨va_cnB 3 hts (g_C gdC mwC_138) rfl rfl rfl hG.mt2 (hts _ mwC_119) hd_X11_meets ⟨(show 4 + 1 ≤ 303 + 5 * d by omega), (show 8 + (5 + 11) + (60) ≤ 6120 + 200 * d by omega)⟩, hts _ mwC_139, trivial⟩ ⟨s_blind, fun U hU hW => ⟨rfl, congrArg Array.size hU⟩⟩ rfl rfl hl.1 rfl (lv_room (Nat.le_of_ble_eq_true rfl)) dX2_seek_66 ⟨Nat.le_of_ble_eq_true rfl, Nat.le_of_ble_eq_true rfl⟩) hP hS hA (fun r8 H locs h hP hS => ?_)
          refine lv_if_eq (tgt := 76) hx hb dX2_seek_69 (by decide) (fun c_69 => ?_) (fun c_69 => ?_)
          · have h := h.1 c_69
            refine lv_iconst (v := 2) hx hb dX2_seek_76 (by decide) ?_
            exact W.iret (v := 2) hx hb hr (fun t ht hW => ⟨⟨_, (ci6, ai6, al6), rfl, h, by rw [ht]; exact hP, cK.moved hW.alike hK, hD⟩, hS.F ht⟩) hS.2.2 dX2_seek_77
          · have h := h.2 c_69
            refine lv_iconst (v := 1) hx hb dX2_seek_72 (by decide) ?_
            refine lv_goto (tgt := 77) hx hb dX2_seek_73 (by decide) ?_
            exact W.iret (v := 1) hx hb hr (fun t ht hW => ⟨⟨_, (ci6, ai6, al6), rfl, h, by rw [ht]; exact hP, cK.moved hW.alike hK, hD⟩, hS.F ht⟩) hS.2.2 dX2_seek_77
        · have h := h.2 c_45
          refine lv_iload_n hx hb dX2_seek_48 rfl (lv_at hl 0 rfl) ?_
          exact W.iret (v := r6) hx hb hr (fun t ht hW => ⟨⟨_, (ci6, ai6, al6), rfl, h, by rw [ht]; exact hP, cK.moved hW.alike hK, hD⟩, hS.F ht⟩) hS.2.2 dX2_seek_49
      · have h := h.2 c_29
        refine lv_iload_n hx hb dX2_seek_32 rfl (lv_at hl 0 rfl) ?_
        exact W.iret (v := r5) hx hb hr (fun t ht hW => ⟨⟨_, (ci5, ai5, al5), rfl, h, by rw [ht]; exact hP, cK.moved hW.alike hK, hD⟩, hS.F ht⟩) hS.2.2 dX2_seek_33
  · have h := h.2 c_5
    refine lv_iconst (v := 2) hx hb dX2_seek_8 (by decide) ?_
    exact W.iret (v := 2) hx hb hr (fun t ht hW => ⟨⟨_, (ci, ai, al), rfl, h, by rw [ht]; exact hP, cK.moved hW.alike hK, hD⟩, hS.F ht⟩) hS.2.2 dX2_seek_9
