set_option maxHeartbeats 4000000 in
set_option maxRecDepth 100000 in
theorem law_case_16 {p : Program} {e : Env} {s : State} {m : MethodId} {below : List Frame} {meth : Method} {c : Code} (l : Launch) (hl0 : l.stackTraces = false) {b : Nat} {xs : Nat → Int32} (C0 : lw_At p s m meth c b 6 xs) (hG : Gw s) (hZ : Gz (lA s) s s.heap) {dC : Nat → ClassId} {dI : Nat → Nat → Nat} {h0 hm h1 h2 h3 g0 ho : Nat} {a : Nat → Nat} {ca cx : Nat → ClassId} {co : ClassId} {H : Heap} {locs : List Loc} (hK : va_K (dC, dI) vwCl [(cx 1, .object RX5), (cx 2, .long), (cx 3, .byte), (ca 1, .int), (ca 2, .int), (ca 3, .int), (ca 4, .int), (ca 5, .long), (ca 6, .long), (ca 13, .int), (ca 14, .long), (co, .long)] s) (hP : va_P (dC, dI) vwCl [(h0, .inr (10, xF hm h1 h2 h3 0 0 1000)), (hm, .inr (5, [.int 0, .int 0])), (h1, .inl (cx 1, 24, .inr (.inr (.inr (.inr (fun _ => none)))))), (h2, .inl (cx 2, 100, .inr (.inl (fun _ => 0)))), (h3, .inl (cx 3, 100, .inl (fun _ => 0))), (g0, .inr (11, mF a 0 0 1000 0)), (a 1, .inl (ca 1, 24, .inl (fun _ => 0))), (a 2, .inl (ca 2, 24, .inl (fun _ => 0))), (a 3, .inl (ca 3, 24, .inl (fun _ => 0))), (a 4, .inl (ca 4, 24, .inl (fun _ => 0))), (a 5, .inl (ca 5, 24, .inr (.inl (fun _ => 0)))), (a 6, .inl (ca 6, 24, .inr (.inl (fun _ => 0)))), (a 13, .inl (ca 13, 100, .inl (fun _ => 0))), (a 14, .inl (ca 14, 100, .inr (.inl (fun _ => 0)))), (ho, .inl (co, 1, .inr (.inl (fun _ => 0))))] H) (hD : va_D (lA s) [(h0, .inr (10, xF hm h1 h2 h3 0 0 1000)), (hm, .inr (5, [.int 0, .int 0])), (h1, .inl (cx 1, 24, .inr (.inr (.inr (.inr (fun _ => none)))))), (h2, .inl (cx 2, 100, .inr (.inl (fun _ => 0)))), (h3, .inl (cx 3, 100, .inl (fun _ => 0))), (g0, .inr (11, mF a 0 0 1000 0)), (a 1, .inl (ca 1, 24, .inl (fun _ => 0))), (a 2, .inl (ca 2, 24, .inl (fun _ => 0))), (a 3, .inl (ca 3, 24, .inl (fun _ => 0))), (a 4, .inl (ca 4, 24, .inl (fun _ => 0))), (a 5, .inl (ca 5, 24, .inr (.inl (fun _ => 0)))), (a 6, .inl (ca 6, 24, .inr (.inl (fun _ => 0)))), (a 13, .inl (ca 13, 100, .inl (fun _ => 0))), (a 14, .inl (ca 14, 100, .inr (.inl (fun _ => 0)))), (ho, .inl (co, 1, .inr (.inl (fun _ => 0))))]) (hS : va_S (lA s) s.heap H locs) {ls : Array Slot} (hl : lv_has ls 8 [(4, .int 0), (3, .ref ho), (2, .ref g0), (1, .ref h0), (0, .ref b)]) : W p l e room_1 s m #[Value.ref b] below meth c H locs 23 78342 (lw_Z below #[Value.ref b] s) (F0 m 1624 ls []) := by
  obtain ⟨hx, hb, hr, hml, hown, hts0, hX, hbl, hlocks, hgv⟩ := C0
  have hts := hts0
  have hcl := hts0 _ law_cl
  have hA : ∀ q : Nat, s.heap.size ≤ q → lA s q := fun _ h => h
  have hbA : ¬ lA s b := Nat.not_le.mpr hbl
  refine lv_aload_n hx hb dL_law_1624 rfl (lv_at hl 3 rfl) ?_
  refine lv_aload_n hx hb dL_law_1625 rfl (lv_at hl 4 rfl) ?_
  refine lv_iload hx hb dL_law_1626 (lv_at hl 0 rfl) ?_
  refine lv_iconst (v := 1) hx hb dL_law_1628 (by decide) ?_
  refine lv_iadd hx hb dL_law_1629 ?_
  refine lv_topi (fun z_1 ez_1 => ?_)
  obtain rfl : z_1 = 1 := ez_1.trans (by decide)
  refine va_sld hx hb hX hbl hbA hS (nd_in (i := 1) (n := 6) (by decide)) dL_law_1630 ?_
  refine lv_aload_n hx hb dL_law_1631 rfl (lv_at hl 4 rfl) ?_
  refine lv_iload hx hb dL_law_1632 (lv_at hl 0 rfl) ?_
  refine lv_iconst (v := 2) hx hb dL_law_1634 (by decide) ?_
  refine lv_iadd hx hb dL_law_1635 ?_
  refine lv_topi (fun z_2 ez_2 => ?_)
  obtain rfl : z_2 = 2 := ez_2.trans (by decide)
  refine va_sld hx hb hX hbl hbA hS (nd_in (i := 2) (n := 6) (by decide)) dL_law_1636 ?_
  refine lv_aload_n hx hb dL_law_1637 rfl (lv_at hl 1 rfl) ?_
  have hPc := hP.sub (ws' := [(h0, .inr (10, xF hm h1 h2 h3 0 0 1000))]) [0] rfl
  have hDc : va_D (fun _ => True) ([] : va_W) := nd_0
  have hKc := hK.sub (tys' := []) [] rfl
  have hFc := va_free (wc := []) hD hS hA [] rfl
  refine va_calli (vx_runSW (As := [.ref h0, .int (xs (1 : Int32).toNatClampNeg), .int (xs (2 : Int32).toNatClampNeg), .ref ho]) (rest := []) ⟨hx, hb, hml, hown, hts⟩ (c_L_at l hl0 dC dI h0 hm h1 h2 h3 (xs (1 : Int32).toNatClampNeg) (xs (2 : Int32).toNatClampNeg) ho H.size) (vx_cwSW 4 hts tL_law_L_at rfl rfl rfl (by decide +kernel) ⟨Nat.le_of_ble_eq_true rfl, Nat.le_of_ble_eq_true rfl⟩) ⟨fun a U g mk q => by obtain ⟨q0, q1, qP, qK, qD, qG, qZ⟩ := q; exact ⟨q0, q1, qP, va_K.moved (u := U) (U := U.calling g mk a) (Vm.Alike.refl U.vm) qK, qD, Gw.same (u := U) (U := U.calling g mk a) rfl qG, Gz.moved (u := U) (U := U.calling g mk a) (Vm.Alike.refl U.vm) qZ⟩, fun U hU hW => ⟨rfl, by rw [hU], by rw [hU]; exact hPc, va_K.moved hW.alike hKc, nd_0, Gw.warm hW hG, Gz.step hZ hS hFc hU hW.alike⟩⟩ rfl rfl hl.1 rfl (lv_room (Nat.le_of_ble_eq_true rfl)) dL_law_1638 ⟨Nat.le_of_ble_eq_true rfl, Nat.le_of_ble_eq_true rfl⟩) hS (fun q _ h => hFc q h) hFc (fun r_3 u_4 t H1 locs ht hvm hw hB hz1 hk1 hS => ?_)
  have hP := nd_keep hP hk1
  generalize H1 = H at hP hS ⊢
  have hP : va_P (dC, dI) vwCl [(h0, .inr (10, xF hm h1 h2 h3 0 0 1000)), (hm, .inr (5, [.int 0, .int 0])), (h1, .inl (cx 1, 24, .inr (.inr (.inr (.inr (fun _ => none)))))), (h2, .inl (cx 2, 100, .inr (.inl (fun _ => 0)))), (h3, .inl (cx 3, 100, .inl (fun _ => 0))), (g0, .inr (11, mF a 0 0 1000 0)), (a 1, .inl (ca 1, 24, .inl (fun _ => 0))), (a 2, .inl (ca 2, 24, .inl (fun _ => 0))), (a 3, .inl (ca 3, 24, .inl (fun _ => 0))), (a 4, .inl (ca 4, 24, .inl (fun _ => 0))), (a 5, .inl (ca 5, 24, .inr (.inl (fun _ => 0)))), (a 6, .inl (ca 6, 24, .inr (.inl (fun _ => 0)))), (a 13, .inl (ca 13, 100, .inl (fun _ => 0))), (a 14, .inl (ca 14, 100, .inr (.inl (fun _ => 0)))), (ho, .inl (co, 1, .inr (.inl (fun _ => 0))))] H := hP
  have hD : va_D (lA s) [(h0, .inr (10, xF hm h1 h2 h3 0 0 1000)), (hm, .inr (5, [.int 0, .int 0])), (h1, .inl (cx 1, 24, .inr (.inr (.inr (.inr (fun _ => none)))))), (h2, .inl (cx 2, 100, .inr (.inl (fun _ => 0)))), (h3, .inl (cx 3, 100, .inl (fun _ => 0))), (g0, .inr (11, mF a 0 0 1000 0)), (a 1, .inl (ca 1, 24, .inl (fun _ => 0))), (a 2, .inl (ca 2, 24, .inl (fun _ => 0))), (a 3, .inl (ca 3, 24, .inl (fun _ => 0))), (a 4, .inl (ca 4, 24, .inl (fun _ => 0))), (a 5, .inl (ca 5, 24, .inr (.inl (fun _ => 0)))), (a 6, .inl (ca 6, 24, .inr (.inl (fun _ => 0)))), (a 13, .inl (ca 13, 100, .inl (fun _ => 0))), (a 14, .inl (ca 14, 100, .inr (.inl (fun _ => 0)))), (ho, .inl (co, 1, .inr (.inl (fun _ => 0))))] := hD
  refine W.widen (k := 24) (n := 78348) (by decide +kernel) (by decide +kernel) ?_
  obtain rfl : r_3 = 1 := hw
  refine lv_istore (lv' := [(5, .int 1), (4, .int 0), (3, .ref ho), (2, .ref g0), (1, .ref h0), (0, .ref b)]) hx hb dL_law_1641 hl (by decide) rfl (fun ls hl => ?_)
  refine lv_aload_n hx hb dL_law_1643 rfl (lv_at hl 3 rfl) ?_
  refine lv_aload_n hx hb dL_law_1644 rfl (lv_at hl 5 rfl) ?_
  refine lv_iload hx hb dL_law_1645 (lv_at hl 1 rfl) ?_
  refine lv_iconst (v := 1) hx hb dL_law_1647 (by decide) ?_
  refine lv_iadd hx hb dL_law_1648 ?_
  refine lv_topi (fun z_5 ez_5 => ?_)
  obtain rfl : z_5 = 1 := ez_5.trans (by decide)
  refine va_sld hx hb hX hbl hbA hS (nd_in (i := 1) (n := 6) (by decide)) dL_law_1649 ?_
  refine lv_aload_n hx hb dL_law_1650 rfl (lv_at hl 5 rfl) ?_
  refine lv_iload hx hb dL_law_1651 (lv_at hl 1 rfl) ?_
  refine lv_iconst (v := 2) hx hb dL_law_1653 (by decide) ?_
  refine lv_iadd hx hb dL_law_1654 ?_
  refine lv_topi (fun z_6 ez_6 => ?_)
  obtain rfl : z_6 = 2 := ez_6.trans (by decide)
  refine va_sld hx hb hX hbl hbA hS (nd_in (i := 2) (n := 6) (by decide)) dL_law_1655 ?_
  have hPc := hP.sub (ws' := [(g0, .inr (11, mF a 0 0 1000 0))]) [5] rfl
  have hDc := hD.sub (ws' := [(g0, .inr (11, mF a 0 0 1000 0))]) [5] (by decide) rfl
  have hKc := hK.sub (tys' := []) [] rfl
  have hFc := va_free (wc := [(g0, .inr (11, mF a 0 0 1000 0))]) hD hS hA [5] rfl
  refine va_calll (va_runV (As := [.int (xs (1 : Int32).toNatClampNeg), .int (xs (2 : Int32).toNatClampNeg)]) (rest := []) ⟨hx, hb, hml, hown, hts⟩ (c_X12_at l dC dI a g0 (xs (1 : Int32).toNatClampNeg) (xs (2 : Int32).toNatClampNeg) H.size) (cwV 2 hts tL_law_X12_at rfl rfl rfl (by decide +kernel) ⟨Nat.le_of_ble_eq_true rfl, Nat.le_of_ble_eq_true rfl⟩) ⟨fun a U g mk q => by obtain ⟨q0, q1, qP, qK, qD⟩ := q; exact ⟨q0, q1, qP, va_K.moved (u := U) (U := U.calling g mk a) (Vm.Alike.refl U.vm) qK, qD⟩, va_recv hKc hPc (ci := 11) (q0 := 0) rfl rfl, fun U hU hW => ⟨rfl, by rw [hU], by rw [hU]; exact hPc, va_K.moved hW.alike hKc, hDc.weaken (fun _ _ _ _ => trivial)⟩⟩ rfl rfl hl.1 rfl (lv_room (Nat.le_of_ble_eq_true rfl)) dL_law_1656 ⟨Nat.le_of_ble_eq_true rfl, Nat.le_of_ble_eq_true rfl⟩) hS (fun q _ h => hFc q h) hFc (fun r_7 u_8 t H1 locs ht hvm hw hB hz1 hk1 hS => ?_)
  obtain ⟨ul_9, um_10, up_11, ut_12⟩ := u_8
  dsimp only at hw
  obtain ⟨hP1, hK1, hD1⟩ := hB
  rw [ht] at hP1
  have hK1 := va_K.moved hvm.symm hK1
  have hK := hK.app hK1
  obtain ⟨hP, hD⟩ := va_join (wr := [(h0, .inr (10, xF hm h1 h2 h3 0 0 1000)), (hm, .inr (5, [.int 0, .int 0])), (h1, .inl (cx 1, 24, .inr (.inr (.inr (.inr (fun _ => none)))))), (h2, .inl (cx 2, 100, .inr (.inl (fun _ => 0)))), (h3, .inl (cx 3, 100, .inl (fun _ => 0))), (a 1, .inl (ca 1, 24, .inl (fun _ => 0))), (a 2, .inl (ca 2, 24, .inl (fun _ => 0))), (a 3, .inl (ca 3, 24, .inl (fun _ => 0))), (a 4, .inl (ca 4, 24, .inl (fun _ => 0))), (a 5, .inl (ca 5, 24, .inr (.inl (fun _ => 0)))), (a 6, .inl (ca 6, 24, .inr (.inl (fun _ => 0)))), (a 13, .inl (ca 13, 100, .inl (fun _ => 0))), (a 14, .inl (ca 14, 100, .inr (.inl (fun _ => 0)))), (ho, .inl (co, 1, .inr (.inl (fun _ => 0))))]) (w1 := [(g0, .inr (11, mF a ul_9 um_10 up_11 ut_12))]) hP hD [5] [0, 1, 2, 3, 4, 6, 7, 8, 9, 10, 11, 12, 13, 14] rfl rfl (by decide) (by decide) hk1 hFc hP1 hD1
  generalize H1 = H at hP hS ⊢
  have hP : va_P (dC, dI) vwCl [(h0, .inr (10, xF hm h1 h2 h3 0 0 1000)), (hm, .inr (5, [.int 0, .int 0])), (h1, .inl (cx 1, 24, .inr (.inr (.inr (.inr (fun _ => none)))))), (h2, .inl (cx 2, 100, .inr (.inl (fun _ => 0)))), (h3, .inl (cx 3, 100, .inl (fun _ => 0))), (a 1, .inl (ca 1, 24, .inl (fun _ => 0))), (a 2, .inl (ca 2, 24, .inl (fun _ => 0))), (a 3, .inl (ca 3, 24, .inl (fun _ => 0))), (a 4, .inl (ca 4, 24, .inl (fun _ => 0))), (a 5, .inl (ca 5, 24, .inr (.inl (fun _ => 0)))), (a 6, .inl (ca 6, 24, .inr (.inl (fun _ => 0)))), (a 13, .inl (ca 13, 100, .inl (fun _ => 0))), (a 14, .inl (ca 14, 100, .inr (.inl (fun _ => 0)))), (ho, .inl (co, 1, .inr (.inl (fun _ => 0)))), (g0, .inr (11, mF a ul_9 um_10 up_11 ut_12))] H := hP
  have hD : va_D (lA s) [(h0, .inr (10, xF hm h1 h2 h3 0 0 1000)), (hm, .inr (5, [.int 0, .int 0])), (h1, .inl (cx 1, 24, .inr (.inr (.inr (.inr (fun _ => none)))))), (h2, .inl (cx 2, 100, .inr (.inl (fun _ => 0)))), (h3, .inl (cx 3, 100, .inl (fun _ => 0))), (a 1, .inl (ca 1, 24, .inl (fun _ => 0))), (a 2, .inl (ca 2, 24, .inl (fun _ => 0))), (a 3, .inl (ca 3, 24, .inl (fun _ => 0))), (a 4, .inl (ca 4, 24, .inl (fun _ => 0))), (a 5, .inl (ca 5, 24, .inr (.inl (fun _ => 0)))), (a 6, .inl (ca 6, 24, .inr (.inl (fun _ => 0)))), (a 13, .inl (ca 13, 100, .inl (fun _ => 0))), (a 14, .inl (ca 14, 100, .inr (.inl (fun _ => 0)))), (ho, .inl (co, 1, .inr (.inl (fun _ => 0)))), (g0, .inr (11, mF a ul_9 um_10 up_11 ut_12))] := hD
  have hK : va_K (dC, dI) vwCl [(cx 1, .object RX5), (cx 2, .long), (cx 3, .byte), (ca 1, .int), (ca 2, .int), (ca 3, .int), (ca 4, .int), (ca 5, .long), (ca 6, .long), (ca 13, .int), (ca 14, .long), (co, .long)] s := hK
  refine W.widen (k := 24) (n := 78348) (by decide +kernel) (by decide +kernel) ?_
  obtain rfl : ut_12 = 1 := hw
  refine lv_lstore (lv' := [(6, .long r_7), (5, .int 1), (4, .int 0), (3, .ref ho), (2, .ref g0), (1, .ref h0), (0, .ref b)]) hx hb dL_law_1659 hl (by decide) rfl (fun ls hl => ?_)
  refine lv_aload_n hx hb dL_law_1661 rfl (lv_at hl 4 rfl) ?_
  have hPc := hP.sub (ws' := [(g0, .inr (11, mF a ul_9 um_10 up_11 1))]) [14] rfl
  have hDc : va_D (fun _ => True) ([] : va_W) := nd_0
  have hKc := hK.sub (tys' := []) [] rfl
  have hFc := va_free (wc := []) hD hS hA [] rfl
  refine va_calli (va_runV (As := []) (rest := []) ⟨hx, hb, hml, hown, hts⟩ (c_X12_thrown l dC dI a g0 ul_9 um_10 up_11 1 H.size) (cwV 0 hts tL_law_X12_thrown rfl rfl rfl (by decide +kernel) ⟨Nat.le_of_ble_eq_true rfl, Nat.le_of_ble_eq_true rfl⟩) ⟨fun a U g mk q => by obtain ⟨q0, q1, qP, qK, qD⟩ := q; exact ⟨q0, q1, qP, va_K.moved (u := U) (U := U.calling g mk a) (Vm.Alike.refl U.vm) qK, qD⟩, va_recv hKc hPc (ci := 11) (q0 := 0) rfl rfl, fun U hU hW => ⟨rfl, by rw [hU], by rw [hU]; exact hPc, va_K.moved hW.alike hKc, nd_0⟩⟩ rfl rfl hl.1 rfl (lv_room (Nat.le_of_ble_eq_true rfl)) dL_law_1662 ⟨Nat.le_of_ble_eq_true rfl, Nat.le_of_ble_eq_true rfl⟩) hS (fun q _ h => hFc q h) hFc (fun r_14 u_15 t H1 locs ht hvm hw hB hz1 hk1 hS => ?_)
  have hP := nd_keep hP hk1
  generalize H1 = H at hP hS ⊢
  have hP : va_P (dC, dI) vwCl [(h0, .inr (10, xF hm h1 h2 h3 0 0 1000)), (hm, .inr (5, [.int 0, .int 0])), (h1, .inl (cx 1, 24, .inr (.inr (.inr (.inr (fun _ => none)))))), (h2, .inl (cx 2, 100, .inr (.inl (fun _ => 0)))), (h3, .inl (cx 3, 100, .inl (fun _ => 0))), (a 1, .inl (ca 1, 24, .inl (fun _ => 0))), (a 2, .inl (ca 2, 24, .inl (fun _ => 0))), (a 3, .inl (ca 3, 24, .inl (fun _ => 0))), (a 4, .inl (ca 4, 24, .inl (fun _ => 0))), (a 5, .inl (ca 5, 24, .inr (.inl (fun _ => 0)))), (a 6, .inl (ca 6, 24, .inr (.inl (fun _ => 0)))), (a 13, .inl (ca 13, 100, .inl (fun _ => 0))), (a 14, .inl (ca 14, 100, .inr (.inl (fun _ => 0)))), (ho, .inl (co, 1, .inr (.inl (fun _ => 0)))), (g0, .inr (11, mF a ul_9 um_10 up_11 1))] H := hP
  have hD : va_D (lA s) [(h0, .inr (10, xF hm h1 h2 h3 0 0 1000)), (hm, .inr (5, [.int 0, .int 0])), (h1, .inl (cx 1, 24, .inr (.inr (.inr (.inr (fun _ => none)))))), (h2, .inl (cx 2, 100, .inr (.inl (fun _ => 0)))), (h3, .inl (cx 3, 100, .inl (fun _ => 0))), (a 1, .inl (ca 1, 24, .inl (fun _ => 0))), (a 2, .inl (ca 2, 24, .inl (fun _ => 0))), (a 3, .inl (ca 3, 24, .inl (fun _ => 0))), (a 4, .inl (ca 4, 24, .inl (fun _ => 0))), (a 5, .inl (ca 5, 24, .inr (.inl (fun _ => 0)))), (a 6, .inl (ca 6, 24, .inr (.inl (fun _ => 0)))), (a 13, .inl (ca 13, 100, .inl (fun _ => 0))), (a 14, .inl (ca 14, 100, .inr (.inl (fun _ => 0)))), (ho, .inl (co, 1, .inr (.inl (fun _ => 0)))), (g0, .inr (11, mF a ul_9 um_10 up_11 1))] := hD
  refine W.widen (k := 24) (n := 78348) (by decide +kernel) (by decide +kernel) ?_
  obtain rfl : r_14 = 1 := hw
  refine lv_iload hx hb dL_law_1665 (lv_at hl 1 rfl) ?_
  refine lv_icmp_eq (tgt := 1672) hx hb dL_law_1667 (by decide) (fun c_1667 => ?_) (fun c_1667 => ?_)
  · refine lv_iload hx hb dL_law_1672 (lv_at hl 1 rfl) ?_
    refine lv_if_ne (tgt := 1688) hx hb dL_law_1674 (by decide) (fun c_1674 => ?_) (fun c_1674 => ?_)
    · refine lv_goto (tgt := 2206) hx hb dL_law_1688 (by decide) ?_
      refine W.widen (k := 100) (n := 200000) (by decide +kernel) (by decide +kernel) ?_
      exact law_end l hx hb hr hlocks hX hbl hbA hS (lv_sub hl [2, 6] rfl)
    · exact absurd c_1674 (by decide)
  · exact absurd c_1667 (by decide)
set_option maxHeartbeats 4000000 in
set_option maxRecDepth 100000 in
theorem law_case_17 {p : Program} {e : Env} {s : State} {m : MethodId} {below : List Frame} {meth : Method} {c : Code} (l : Launch) (hl0 : l.stackTraces = false) {b : Nat} {xs : Nat → Int32} (C0 : lw_At p s m meth c b 6 xs) (hG : Gw s) (hZ : Gz (lA s) s s.heap) {dC : Nat → ClassId} {dI : Nat → Nat → Nat} {h0 hm h1 h2 h3 g0 ho : Nat} {a : Nat → Nat} {ca cx : Nat → ClassId} {co : ClassId} {H : Heap} {locs : List Loc} (hK : va_K (dC, dI) vwCl [(cx 1, .object RX5), (cx 2, .long), (cx 3, .byte), (ca 1, .int), (ca 2, .int), (ca 3, .int), (ca 4, .int), (ca 5, .long), (ca 6, .long), (ca 13, .int), (ca 14, .long), (co, .long)] s) (hP : va_P (dC, dI) vwCl [(h0, .inr (10, xF hm h1 h2 h3 0 0 1000)), (hm, .inr (5, [.int 0, .int 0])), (h1, .inl (cx 1, 24, .inr (.inr (.inr (.inr (fun _ => none)))))), (h2, .inl (cx 2, 100, .inr (.inl (fun _ => 0)))), (h3, .inl (cx 3, 100, .inl (fun _ => 0))), (g0, .inr (11, mF a 0 0 1000 0)), (a 1, .inl (ca 1, 24, .inl (fun _ => 0))), (a 2, .inl (ca 2, 24, .inl (fun _ => 0))), (a 3, .inl (ca 3, 24, .inl (fun _ => 0))), (a 4, .inl (ca 4, 24, .inl (fun _ => 0))), (a 5, .inl (ca 5, 24, .inr (.inl (fun _ => 0)))), (a 6, .inl (ca 6, 24, .inr (.inl (fun _ => 0)))), (a 13, .inl (ca 13, 100, .inl (fun _ => 0))), (a 14, .inl (ca 14, 100, .inr (.inl (fun _ => 0)))), (ho, .inl (co, 1, .inr (.inl (fun _ => 0))))] H) (hD : va_D (lA s) [(h0, .inr (10, xF hm h1 h2 h3 0 0 1000)), (hm, .inr (5, [.int 0, .int 0])), (h1, .inl (cx 1, 24, .inr (.inr (.inr (.inr (fun _ => none)))))), (h2, .inl (cx 2, 100, .inr (.inl (fun _ => 0)))), (h3, .inl (cx 3, 100, .inl (fun _ => 0))), (g0, .inr (11, mF a 0 0 1000 0)), (a 1, .inl (ca 1, 24, .inl (fun _ => 0))), (a 2, .inl (ca 2, 24, .inl (fun _ => 0))), (a 3, .inl (ca 3, 24, .inl (fun _ => 0))), (a 4, .inl (ca 4, 24, .inl (fun _ => 0))), (a 5, .inl (ca 5, 24, .inr (.inl (fun _ => 0)))), (a 6, .inl (ca 6, 24, .inr (.inl (fun _ => 0)))), (a 13, .inl (ca 13, 100, .inl (fun _ => 0))), (a 14, .inl (ca 14, 100, .inr (.inl (fun _ => 0)))), (ho, .inl (co, 1, .inr (.inl (fun _ => 0))))]) (hS : va_S (lA s) s.heap H locs) {ls : Array Slot} (hl : lv_has ls 8 [(4, .int 0), (3, .ref ho), (2, .ref g0), (1, .ref h0), (0, .ref b)]) : W p l e room_1 s m #[Value.ref b] below meth c H locs 23 78342 (lw_Z below #[Value.ref b] s) (F0 m 1691 ls []) := by
  obtain ⟨hx, hb, hr, hml, hown, hts0, hX, hbl, hlocks, hgv⟩ := C0
  have hts := hts0
  have hcl := hts0 _ law_cl
  have hA : ∀ q : Nat, s.heap.size ≤ q → lA s q := fun _ h => h
  have hbA : ¬ lA s b := Nat.not_le.mpr hbl
  refine lv_aload_n hx hb dL_law_1691 rfl (lv_at hl 3 rfl) ?_
  refine lv_aload_n hx hb dL_law_1692 rfl (lv_at hl 4 rfl) ?_
  refine lv_iload hx hb dL_law_1693 (lv_at hl 0 rfl) ?_
  refine lv_iconst (v := 1) hx hb dL_law_1695 (by decide) ?_
  refine lv_iadd hx hb dL_law_1696 ?_
  refine lv_topi (fun z_1 ez_1 => ?_)
  obtain rfl : z_1 = 1 := ez_1.trans (by decide)
  refine va_sld hx hb hX hbl hbA hS (nd_in (i := 1) (n := 6) (by decide)) dL_law_1697 ?_
  refine lv_aload_n hx hb dL_law_1698 rfl (lv_at hl 1 rfl) ?_
  have hPc := hP.sub (ws' := [(h0, .inr (10, xF hm h1 h2 h3 0 0 1000))]) [0] rfl
  have hDc : va_D (fun _ => True) ([] : va_W) := nd_0
  have hKc := hK.sub (tys' := []) [] rfl
  have hFc := va_free (wc := []) hD hS hA [] rfl
  refine va_calli (vx_runSW (As := [.ref h0, .int (xs (1 : Int32).toNatClampNeg), .ref ho]) (rest := []) ⟨hx, hb, hml, hown, hts⟩ (c_L_size l hl0 dC dI h0 hm h1 h2 h3 (xs (1 : Int32).toNatClampNeg) ho H.size) (vx_cwSW 3 hts tL_law_L_size rfl rfl rfl (by decide +kernel) ⟨Nat.le_of_ble_eq_true rfl, Nat.le_of_ble_eq_true rfl⟩) ⟨fun a U g mk q => by obtain ⟨q0, q1, qP, qK, qD, qG, qZ⟩ := q; exact ⟨q0, q1, qP, va_K.moved (u := U) (U := U.calling g mk a) (Vm.Alike.refl U.vm) qK, qD, Gw.same (u := U) (U := U.calling g mk a) rfl qG, Gz.moved (u := U) (U := U.calling g mk a) (Vm.Alike.refl U.vm) qZ⟩, fun U hU hW => ⟨rfl, by rw [hU], by rw [hU]; exact hPc, va_K.moved hW.alike hKc, nd_0, Gw.warm hW hG, Gz.step hZ hS hFc hU hW.alike⟩⟩ rfl rfl hl.1 rfl (lv_room (Nat.le_of_ble_eq_true rfl)) dL_law_1699 ⟨Nat.le_of_ble_eq_true rfl, Nat.le_of_ble_eq_true rfl⟩) hS (fun q _ h => hFc q h) hFc (fun r_2 u_3 t H1 locs ht hvm hw hB hz1 hk1 hS => ?_)
  have hP := nd_keep hP hk1
  generalize H1 = H at hP hS ⊢
  have hP : va_P (dC, dI) vwCl [(h0, .inr (10, xF hm h1 h2 h3 0 0 1000)), (hm, .inr (5, [.int 0, .int 0])), (h1, .inl (cx 1, 24, .inr (.inr (.inr (.inr (fun _ => none)))))), (h2, .inl (cx 2, 100, .inr (.inl (fun _ => 0)))), (h3, .inl (cx 3, 100, .inl (fun _ => 0))), (g0, .inr (11, mF a 0 0 1000 0)), (a 1, .inl (ca 1, 24, .inl (fun _ => 0))), (a 2, .inl (ca 2, 24, .inl (fun _ => 0))), (a 3, .inl (ca 3, 24, .inl (fun _ => 0))), (a 4, .inl (ca 4, 24, .inl (fun _ => 0))), (a 5, .inl (ca 5, 24, .inr (.inl (fun _ => 0)))), (a 6, .inl (ca 6, 24, .inr (.inl (fun _ => 0)))), (a 13, .inl (ca 13, 100, .inl (fun _ => 0))), (a 14, .inl (ca 14, 100, .inr (.inl (fun _ => 0)))), (ho, .inl (co, 1, .inr (.inl (fun _ => 0))))] H := hP
  have hD : va_D (lA s) [(h0, .inr (10, xF hm h1 h2 h3 0 0 1000)), (hm, .inr (5, [.int 0, .int 0])), (h1, .inl (cx 1, 24, .inr (.inr (.inr (.inr (fun _ => none)))))), (h2, .inl (cx 2, 100, .inr (.inl (fun _ => 0)))), (h3, .inl (cx 3, 100, .inl (fun _ => 0))), (g0, .inr (11, mF a 0 0 1000 0)), (a 1, .inl (ca 1, 24, .inl (fun _ => 0))), (a 2, .inl (ca 2, 24, .inl (fun _ => 0))), (a 3, .inl (ca 3, 24, .inl (fun _ => 0))), (a 4, .inl (ca 4, 24, .inl (fun _ => 0))), (a 5, .inl (ca 5, 24, .inr (.inl (fun _ => 0)))), (a 6, .inl (ca 6, 24, .inr (.inl (fun _ => 0)))), (a 13, .inl (ca 13, 100, .inl (fun _ => 0))), (a 14, .inl (ca 14, 100, .inr (.inl (fun _ => 0)))), (ho, .inl (co, 1, .inr (.inl (fun _ => 0))))] := hD
  refine W.widen (k := 24) (n := 78348) (by decide +kernel) (by decide +kernel) ?_
  obtain rfl : r_2 = 1 := hw
  refine lv_istore (lv' := [(5, .int 1), (4, .int 0), (3, .ref ho), (2, .ref g0), (1, .ref h0), (0, .ref b)]) hx hb dL_law_1702 hl (by decide) rfl (fun ls hl => ?_)
  refine lv_aload_n hx hb dL_law_1704 rfl (lv_at hl 3 rfl) ?_
  refine lv_aload_n hx hb dL_law_1705 rfl (lv_at hl 5 rfl) ?_
  refine lv_iload hx hb dL_law_1706 (lv_at hl 1 rfl) ?_
  refine lv_iconst (v := 1) hx hb dL_law_1708 (by decide) ?_
  refine lv_iadd hx hb dL_law_1709 ?_
  refine lv_topi (fun z_4 ez_4 => ?_)
  obtain rfl : z_4 = 1 := ez_4.trans (by decide)
  refine va_sld hx hb hX hbl hbA hS (nd_in (i := 1) (n := 6) (by decide)) dL_law_1710 ?_
  have hPc := hP.sub (ws' := [(g0, .inr (11, mF a 0 0 1000 0))]) [5] rfl
  have hDc := hD.sub (ws' := [(g0, .inr (11, mF a 0 0 1000 0))]) [5] (by decide) rfl
  have hKc := hK.sub (tys' := []) [] rfl
  have hFc := va_free (wc := [(g0, .inr (11, mF a 0 0 1000 0))]) hD hS hA [5] rfl
  refine va_calll (va_runV (As := [.int (xs (1 : Int32).toNatClampNeg)]) (rest := []) ⟨hx, hb, hml, hown, hts⟩ (c_X12_size l dC dI a g0 (xs (1 : Int32).toNatClampNeg) H.size) (cwV 1 hts tL_law_X12_size rfl rfl rfl (by decide +kernel) ⟨Nat.le_of_ble_eq_true rfl, Nat.le_of_ble_eq_true rfl⟩) ⟨fun a U g mk q => by obtain ⟨q0, q1, qP, qK, qD⟩ := q; exact ⟨q0, q1, qP, va_K.moved (u := U) (U := U.calling g mk a) (Vm.Alike.refl U.vm) qK, qD⟩, va_recv hKc hPc (ci := 11) (q0 := 0) rfl rfl, fun U hU hW => ⟨rfl, by rw [hU], by rw [hU]; exact hPc, va_K.moved hW.alike hKc, hDc.weaken (fun _ _ _ _ => trivial)⟩⟩ rfl rfl hl.1 rfl (lv_room (Nat.le_of_ble_eq_true rfl)) dL_law_1711 ⟨Nat.le_of_ble_eq_true rfl, Nat.le_of_ble_eq_true rfl⟩) hS (fun q _ h => hFc q h) hFc (fun r_5 u_6 t H1 locs ht hvm hw hB hz1 hk1 hS => ?_)
  obtain ⟨ul_7, um_8, up_9, ut_10⟩ := u_6
  dsimp only at hw
  obtain ⟨hP1, hK1, hD1⟩ := hB
  rw [ht] at hP1
  have hK1 := va_K.moved hvm.symm hK1
  have hK := hK.app hK1
  obtain ⟨hP, hD⟩ := va_join (wr := [(h0, .inr (10, xF hm h1 h2 h3 0 0 1000)), (hm, .inr (5, [.int 0, .int 0])), (h1, .inl (cx 1, 24, .inr (.inr (.inr (.inr (fun _ => none)))))), (h2, .inl (cx 2, 100, .inr (.inl (fun _ => 0)))), (h3, .inl (cx 3, 100, .inl (fun _ => 0))), (a 1, .inl (ca 1, 24, .inl (fun _ => 0))), (a 2, .inl (ca 2, 24, .inl (fun _ => 0))), (a 3, .inl (ca 3, 24, .inl (fun _ => 0))), (a 4, .inl (ca 4, 24, .inl (fun _ => 0))), (a 5, .inl (ca 5, 24, .inr (.inl (fun _ => 0)))), (a 6, .inl (ca 6, 24, .inr (.inl (fun _ => 0)))), (a 13, .inl (ca 13, 100, .inl (fun _ => 0))), (a 14, .inl (ca 14, 100, .inr (.inl (fun _ => 0)))), (ho, .inl (co, 1, .inr (.inl (fun _ => 0))))]) (w1 := [(g0, .inr (11, mF a ul_7 um_8 up_9 ut_10))]) hP hD [5] [0, 1, 2, 3, 4, 6, 7, 8, 9, 10, 11, 12, 13, 14] rfl rfl (by decide) (by decide) hk1 hFc hP1 hD1
  generalize H1 = H at hP hS ⊢
  have hP : va_P (dC, dI) vwCl [(h0, .inr (10, xF hm h1 h2 h3 0 0 1000)), (hm, .inr (5, [.int 0, .int 0])), (h1, .inl (cx 1, 24, .inr (.inr (.inr (.inr (fun _ => none)))))), (h2, .inl (cx 2, 100, .inr (.inl (fun _ => 0)))), (h3, .inl (cx 3, 100, .inl (fun _ => 0))), (a 1, .inl (ca 1, 24, .inl (fun _ => 0))), (a 2, .inl (ca 2, 24, .inl (fun _ => 0))), (a 3, .inl (ca 3, 24, .inl (fun _ => 0))), (a 4, .inl (ca 4, 24, .inl (fun _ => 0))), (a 5, .inl (ca 5, 24, .inr (.inl (fun _ => 0)))), (a 6, .inl (ca 6, 24, .inr (.inl (fun _ => 0)))), (a 13, .inl (ca 13, 100, .inl (fun _ => 0))), (a 14, .inl (ca 14, 100, .inr (.inl (fun _ => 0)))), (ho, .inl (co, 1, .inr (.inl (fun _ => 0)))), (g0, .inr (11, mF a ul_7 um_8 up_9 ut_10))] H := hP
  have hD : va_D (lA s) [(h0, .inr (10, xF hm h1 h2 h3 0 0 1000)), (hm, .inr (5, [.int 0, .int 0])), (h1, .inl (cx 1, 24, .inr (.inr (.inr (.inr (fun _ => none)))))), (h2, .inl (cx 2, 100, .inr (.inl (fun _ => 0)))), (h3, .inl (cx 3, 100, .inl (fun _ => 0))), (a 1, .inl (ca 1, 24, .inl (fun _ => 0))), (a 2, .inl (ca 2, 24, .inl (fun _ => 0))), (a 3, .inl (ca 3, 24, .inl (fun _ => 0))), (a 4, .inl (ca 4, 24, .inl (fun _ => 0))), (a 5, .inl (ca 5, 24, .inr (.inl (fun _ => 0)))), (a 6, .inl (ca 6, 24, .inr (.inl (fun _ => 0)))), (a 13, .inl (ca 13, 100, .inl (fun _ => 0))), (a 14, .inl (ca 14, 100, .inr (.inl (fun _ => 0)))), (ho, .inl (co, 1, .inr (.inl (fun _ => 0)))), (g0, .inr (11, mF a ul_7 um_8 up_9 ut_10))] := hD
  have hK : va_K (dC, dI) vwCl [(cx 1, .object RX5), (cx 2, .long), (cx 3, .byte), (ca 1, .int), (ca 2, .int), (ca 3, .int), (ca 4, .int), (ca 5, .long), (ca 6, .long), (ca 13, .int), (ca 14, .long), (co, .long)] s := hK
  refine W.widen (k := 24) (n := 78348) (by decide +kernel) (by decide +kernel) ?_
  obtain rfl : ut_10 = 1 := hw
  refine lv_lstore (lv' := [(6, .long r_5), (5, .int 1), (4, .int 0), (3, .ref ho), (2, .ref g0), (1, .ref h0), (0, .ref b)]) hx hb dL_law_1714 hl (by decide) rfl (fun ls hl => ?_)
  refine lv_aload_n hx hb dL_law_1716 rfl (lv_at hl 4 rfl) ?_
  have hPc := hP.sub (ws' := [(g0, .inr (11, mF a ul_7 um_8 up_9 1))]) [14] rfl
  have hDc : va_D (fun _ => True) ([] : va_W) := nd_0
  have hKc := hK.sub (tys' := []) [] rfl
  have hFc := va_free (wc := []) hD hS hA [] rfl
  refine va_calli (va_runV (As := []) (rest := []) ⟨hx, hb, hml, hown, hts⟩ (c_X12_thrown l dC dI a g0 ul_7 um_8 up_9 1 H.size) (cwV 0 hts tL_law_X12_thrown rfl rfl rfl (by decide +kernel) ⟨Nat.le_of_ble_eq_true rfl, Nat.le_of_ble_eq_true rfl⟩) ⟨fun a U g mk q => by obtain ⟨q0, q1, qP, qK, qD⟩ := q; exact ⟨q0, q1, qP, va_K.moved (u := U) (U := U.calling g mk a) (Vm.Alike.refl U.vm) qK, qD⟩, va_recv hKc hPc (ci := 11) (q0 := 0) rfl rfl, fun U hU hW => ⟨rfl, by rw [hU], by rw [hU]; exact hPc, va_K.moved hW.alike hKc, nd_0⟩⟩ rfl rfl hl.1 rfl (lv_room (Nat.le_of_ble_eq_true rfl)) dL_law_1717 ⟨Nat.le_of_ble_eq_true rfl, Nat.le_of_ble_eq_true rfl⟩) hS (fun q _ h => hFc q h) hFc (fun r_12 u_13 t H1 locs ht hvm hw hB hz1 hk1 hS => ?_)
  have hP := nd_keep hP hk1
  generalize H1 = H at hP hS ⊢
  have hP : va_P (dC, dI) vwCl [(h0, .inr (10, xF hm h1 h2 h3 0 0 1000)), (hm, .inr (5, [.int 0, .int 0])), (h1, .inl (cx 1, 24, .inr (.inr (.inr (.inr (fun _ => none)))))), (h2, .inl (cx 2, 100, .inr (.inl (fun _ => 0)))), (h3, .inl (cx 3, 100, .inl (fun _ => 0))), (a 1, .inl (ca 1, 24, .inl (fun _ => 0))), (a 2, .inl (ca 2, 24, .inl (fun _ => 0))), (a 3, .inl (ca 3, 24, .inl (fun _ => 0))), (a 4, .inl (ca 4, 24, .inl (fun _ => 0))), (a 5, .inl (ca 5, 24, .inr (.inl (fun _ => 0)))), (a 6, .inl (ca 6, 24, .inr (.inl (fun _ => 0)))), (a 13, .inl (ca 13, 100, .inl (fun _ => 0))), (a 14, .inl (ca 14, 100, .inr (.inl (fun _ => 0)))), (ho, .inl (co, 1, .inr (.inl (fun _ => 0)))), (g0, .inr (11, mF a ul_7 um_8 up_9 1))] H := hP
  have hD : va_D (lA s) [(h0, .inr (10, xF hm h1 h2 h3 0 0 1000)), (hm, .inr (5, [.int 0, .int 0])), (h1, .inl (cx 1, 24, .inr (.inr (.inr (.inr (fun _ => none)))))), (h2, .inl (cx 2, 100, .inr (.inl (fun _ => 0)))), (h3, .inl (cx 3, 100, .inl (fun _ => 0))), (a 1, .inl (ca 1, 24, .inl (fun _ => 0))), (a 2, .inl (ca 2, 24, .inl (fun _ => 0))), (a 3, .inl (ca 3, 24, .inl (fun _ => 0))), (a 4, .inl (ca 4, 24, .inl (fun _ => 0))), (a 5, .inl (ca 5, 24, .inr (.inl (fun _ => 0)))), (a 6, .inl (ca 6, 24, .inr (.inl (fun _ => 0)))), (a 13, .inl (ca 13, 100, .inl (fun _ => 0))), (a 14, .inl (ca 14, 100, .inr (.inl (fun _ => 0)))), (ho, .inl (co, 1, .inr (.inl (fun _ => 0)))), (g0, .inr (11, mF a ul_7 um_8 up_9 1))] := hD
  refine W.widen (k := 24) (n := 78348) (by decide +kernel) (by decide +kernel) ?_
  obtain rfl : r_12 = 1 := hw
  refine lv_iload hx hb dL_law_1720 (lv_at hl 1 rfl) ?_
  refine lv_icmp_eq (tgt := 1727) hx hb dL_law_1722 (by decide) (fun c_1722 => ?_) (fun c_1722 => ?_)
  · refine lv_iload hx hb dL_law_1727 (lv_at hl 1 rfl) ?_
    refine lv_if_ne (tgt := 1743) hx hb dL_law_1729 (by decide) (fun c_1729 => ?_) (fun c_1729 => ?_)
    · refine lv_goto (tgt := 2206) hx hb dL_law_1743 (by decide) ?_
      refine W.widen (k := 100) (n := 200000) (by decide +kernel) (by decide +kernel) ?_
      exact law_end l hx hb hr hlocks hX hbl hbA hS (lv_sub hl [2, 6] rfl)
    · exact absurd c_1729 (by decide)
  · exact absurd c_1722 (by decide)
set_option maxHeartbeats 4000000 in
set_option maxRecDepth 100000 in
theorem law_case_18 {p : Program} {e : Env} {s : State} {m : MethodId} {below : List Frame} {meth : Method} {c : Code} (l : Launch) (hl0 : l.stackTraces = false) {b : Nat} {xs : Nat → Int32} (C0 : lw_At p s m meth c b 6 xs) (hG : Gw s) (hZ : Gz (lA s) s s.heap) {dC : Nat → ClassId} {dI : Nat → Nat → Nat} {h0 hm h1 h2 h3 g0 ho : Nat} {a : Nat → Nat} {ca cx : Nat → ClassId} {co : ClassId} {H : Heap} {locs : List Loc} (hK : va_K (dC, dI) vwCl [(cx 1, .object RX5), (cx 2, .long), (cx 3, .byte), (ca 1, .int), (ca 2, .int), (ca 3, .int), (ca 4, .int), (ca 5, .long), (ca 6, .long), (ca 13, .int), (ca 14, .long), (co, .long)] s) (hP : va_P (dC, dI) vwCl [(h0, .inr (10, xF hm h1 h2 h3 0 0 1000)), (hm, .inr (5, [.int 0, .int 0])), (h1, .inl (cx 1, 24, .inr (.inr (.inr (.inr (fun _ => none)))))), (h2, .inl (cx 2, 100, .inr (.inl (fun _ => 0)))), (h3, .inl (cx 3, 100, .inl (fun _ => 0))), (g0, .inr (11, mF a 0 0 1000 0)), (a 1, .inl (ca 1, 24, .inl (fun _ => 0))), (a 2, .inl (ca 2, 24, .inl (fun _ => 0))), (a 3, .inl (ca 3, 24, .inl (fun _ => 0))), (a 4, .inl (ca 4, 24, .inl (fun _ => 0))), (a 5, .inl (ca 5, 24, .inr (.inl (fun _ => 0)))), (a 6, .inl (ca 6, 24, .inr (.inl (fun _ => 0)))), (a 13, .inl (ca 13, 100, .inl (fun _ => 0))), (a 14, .inl (ca 14, 100, .inr (.inl (fun _ => 0)))), (ho, .inl (co, 1, .inr (.inl (fun _ => 0))))] H) (hD : va_D (lA s) [(h0, .inr (10, xF hm h1 h2 h3 0 0 1000)), (hm, .inr (5, [.int 0, .int 0])), (h1, .inl (cx 1, 24, .inr (.inr (.inr (.inr (fun _ => none)))))), (h2, .inl (cx 2, 100, .inr (.inl (fun _ => 0)))), (h3, .inl (cx 3, 100, .inl (fun _ => 0))), (g0, .inr (11, mF a 0 0 1000 0)), (a 1, .inl (ca 1, 24, .inl (fun _ => 0))), (a 2, .inl (ca 2, 24, .inl (fun _ => 0))), (a 3, .inl (ca 3, 24, .inl (fun _ => 0))), (a 4, .inl (ca 4, 24, .inl (fun _ => 0))), (a 5, .inl (ca 5, 24, .inr (.inl (fun _ => 0)))), (a 6, .inl (ca 6, 24, .inr (.inl (fun _ => 0)))), (a 13, .inl (ca 13, 100, .inl (fun _ => 0))), (a 14, .inl (ca 14, 100, .inr (.inl (fun _ => 0)))), (ho, .inl (co, 1, .inr (.inl (fun _ => 0))))]) (hS : va_S (lA s) s.heap H locs) {ls : Array Slot} (hl : lv_has ls 8 [(4, .int 0), (3, .ref ho), (2, .ref g0), (1, .ref h0), (0, .ref b)]) : W p l e room_1 s m #[Value.ref b] below meth c H locs 23 78342 (lw_Z below #[Value.ref b] s) (F0 m 1746 ls []) := by
  obtain ⟨hx, hb, hr, hml, hown, hts0, hX, hbl, hlocks, hgv⟩ := C0
  have hts := hts0
  have hcl := hts0 _ law_cl
  have hA : ∀ q : Nat, s.heap.size ≤ q → lA s q := fun _ h => h
  have hbA : ¬ lA s b := Nat.not_le.mpr hbl
  refine lv_aload_n hx hb dL_law_1746 rfl (lv_at hl 3 rfl) ?_
  refine lv_aload_n hx hb dL_law_1747 rfl (lv_at hl 4 rfl) ?_
  refine lv_iload hx hb dL_law_1748 (lv_at hl 0 rfl) ?_
  refine lv_iconst (v := 1) hx hb dL_law_1750 (by decide) ?_
  refine lv_iadd hx hb dL_law_1751 ?_
  refine lv_topi (fun z_1 ez_1 => ?_)
  obtain rfl : z_1 = 1 := ez_1.trans (by decide)
  refine va_sld hx hb hX hbl hbA hS (nd_in (i := 1) (n := 6) (by decide)) dL_law_1752 ?_
  refine lv_aload_n hx hb dL_law_1753 rfl (lv_at hl 4 rfl) ?_
  refine lv_iload hx hb dL_law_1754 (lv_at hl 0 rfl) ?_
  refine lv_iconst (v := 2) hx hb dL_law_1756 (by decide) ?_
  refine lv_iadd hx hb dL_law_1757 ?_
  refine lv_topi (fun z_2 ez_2 => ?_)
  obtain rfl : z_2 = 2 := ez_2.trans (by decide)
  refine va_sld hx hb hX hbl hbA hS (nd_in (i := 2) (n := 6) (by decide)) dL_law_1758 ?_
  refine lv_aload_n hx hb dL_law_1759 rfl (lv_at hl 4 rfl) ?_
  refine lv_iload hx hb dL_law_1760 (lv_at hl 0 rfl) ?_
  refine lv_iconst (v := 3) hx hb dL_law_1762 (by decide) ?_
  refine lv_iadd hx hb dL_law_1763 ?_
  refine lv_topi (fun z_3 ez_3 => ?_)
  obtain rfl : z_3 = 3 := ez_3.trans (by decide)
  refine va_sld hx hb hX hbl hbA hS (nd_in (i := 3) (n := 6) (by decide)) dL_law_1764 ?_
  refine lv_i2l hx hb dL_law_1765 rfl ?_
  refine lv_bipush (v := 32) hx hb dL_law_1766 (by decide) ?_
  refine lv_lshl hx hb dL_law_1768 rfl ?_
  refine lv_aload_n hx hb dL_law_1769 rfl (lv_at hl 4 rfl) ?_
  refine lv_iload hx hb dL_law_1770 (lv_at hl 0 rfl) ?_
  refine lv_iconst (v := 4) hx hb dL_law_1772 (by decide) ?_
  refine lv_iadd hx hb dL_law_1773 ?_
  refine lv_topi (fun z_4 ez_4 => ?_)
  obtain rfl : z_4 = 4 := ez_4.trans (by decide)
  refine va_sld hx hb hX hbl hbA hS (nd_in (i := 4) (n := 6) (by decide)) dL_law_1774 ?_
  refine lv_i2l hx hb dL_law_1775 rfl ?_
  refine lv_ldc2 (v := 4294967295) hx hb hown hcl dL_law_1776 ?_
  refine lv_land hx hb dL_law_1779 ?_
  refine lv_lor hx hb dL_law_1780 ?_
  refine lv_topl (fun z_5 ez_5 => ?_)
  refine lv_aload_n hx hb dL_law_1781 rfl (lv_at hl 1 rfl) ?_
  have hPc := hP.sub (ws' := [(h0, .inr (10, xF hm h1 h2 h3 0 0 1000))]) [0] rfl
  have hDc : va_D (fun _ => True) ([] : va_W) := nd_0
  have hKc := hK.sub (tys' := []) [] rfl
  have hFc := va_free (wc := []) hD hS hA [] rfl
  refine va_calli (vx_runSW (As := [.ref h0, .int (xs (1 : Int32).toNatClampNeg), .int (xs (2 : Int32).toNatClampNeg), .long z_5, .ref ho]) (rest := []) ⟨hx, hb, hml, hown, hts⟩ (c_L_fold l hl0 dC dI h0 hm h1 h2 h3 (xs (1 : Int32).toNatClampNeg) (xs (2 : Int32).toNatClampNeg) z_5 ho H.size) (vx_cwSW 5 hts tL_law_L_fold rfl rfl rfl (by decide +kernel) ⟨Nat.le_of_ble_eq_true rfl, Nat.le_of_ble_eq_true rfl⟩) ⟨fun a U g mk q => by obtain ⟨q0, q1, qP, qK, qD, qG, qZ⟩ := q; exact ⟨q0, q1, qP, va_K.moved (u := U) (U := U.calling g mk a) (Vm.Alike.refl U.vm) qK, qD, Gw.same (u := U) (U := U.calling g mk a) rfl qG, Gz.moved (u := U) (U := U.calling g mk a) (Vm.Alike.refl U.vm) qZ⟩, fun U hU hW => ⟨rfl, by rw [hU], by rw [hU]; exact hPc, va_K.moved hW.alike hKc, nd_0, Gw.warm hW hG, Gz.step hZ hS hFc hU hW.alike⟩⟩ rfl rfl hl.1 rfl (lv_room (Nat.le_of_ble_eq_true rfl)) dL_law_1782 ⟨Nat.le_of_ble_eq_true rfl, Nat.le_of_ble_eq_true rfl⟩) hS (fun q _ h => hFc q h) hFc (fun r_6 u_7 t H1 locs ht hvm hw hB hz1 hk1 hS => ?_)
  have hP := nd_keep hP hk1
  generalize H1 = H at hP hS ⊢
  have hP : va_P (dC, dI) vwCl [(h0, .inr (10, xF hm h1 h2 h3 0 0 1000)), (hm, .inr (5, [.int 0, .int 0])), (h1, .inl (cx 1, 24, .inr (.inr (.inr (.inr (fun _ => none)))))), (h2, .inl (cx 2, 100, .inr (.inl (fun _ => 0)))), (h3, .inl (cx 3, 100, .inl (fun _ => 0))), (g0, .inr (11, mF a 0 0 1000 0)), (a 1, .inl (ca 1, 24, .inl (fun _ => 0))), (a 2, .inl (ca 2, 24, .inl (fun _ => 0))), (a 3, .inl (ca 3, 24, .inl (fun _ => 0))), (a 4, .inl (ca 4, 24, .inl (fun _ => 0))), (a 5, .inl (ca 5, 24, .inr (.inl (fun _ => 0)))), (a 6, .inl (ca 6, 24, .inr (.inl (fun _ => 0)))), (a 13, .inl (ca 13, 100, .inl (fun _ => 0))), (a 14, .inl (ca 14, 100, .inr (.inl (fun _ => 0)))), (ho, .inl (co, 1, .inr (.inl (fun _ => 0))))] H := hP
  have hD : va_D (lA s) [(h0, .inr (10, xF hm h1 h2 h3 0 0 1000)), (hm, .inr (5, [.int 0, .int 0])), (h1, .inl (cx 1, 24, .inr (.inr (.inr (.inr (fun _ => none)))))), (h2, .inl (cx 2, 100, .inr (.inl (fun _ => 0)))), (h3, .inl (cx 3, 100, .inl (fun _ => 0))), (g0, .inr (11, mF a 0 0 1000 0)), (a 1, .inl (ca 1, 24, .inl (fun _ => 0))), (a 2, .inl (ca 2, 24, .inl (fun _ => 0))), (a 3, .inl (ca 3, 24, .inl (fun _ => 0))), (a 4, .inl (ca 4, 24, .inl (fun _ => 0))), (a 5, .inl (ca 5, 24, .inr (.inl (fun _ => 0)))), (a 6, .inl (ca 6, 24, .inr (.inl (fun _ => 0)))), (a 13, .inl (ca 13, 100, .inl (fun _ => 0))), (a 14, .inl (ca 14, 100, .inr (.inl (fun _ => 0)))), (ho, .inl (co, 1, .inr (.inl (fun _ => 0))))] := hD
  refine W.widen (k := 24) (n := 78348) (by decide +kernel) (by decide +kernel) ?_
  obtain rfl : r_6 = 1 := hw
  refine lv_istore (lv' := [(5, .int 1), (4, .int 0), (3, .ref ho), (2, .ref g0), (1, .ref h0), (0, .ref b)]) hx hb dL_law_1785 hl (by decide) rfl (fun ls hl => ?_)
  refine lv_aload_n hx hb dL_law_1787 rfl (lv_at hl 3 rfl) ?_
  refine lv_aload_n hx hb dL_law_1788 rfl (lv_at hl 5 rfl) ?_
  refine lv_iload hx hb dL_law_1789 (lv_at hl 1 rfl) ?_
  refine lv_iconst (v := 1) hx hb dL_law_1791 (by decide) ?_
  refine lv_iadd hx hb dL_law_1792 ?_
  refine lv_topi (fun z_8 ez_8 => ?_)
  obtain rfl : z_8 = 1 := ez_8.trans (by decide)
  refine va_sld hx hb hX hbl hbA hS (nd_in (i := 1) (n := 6) (by decide)) dL_law_1793 ?_
  refine lv_aload_n hx hb dL_law_1794 rfl (lv_at hl 5 rfl) ?_
  refine lv_iload hx hb dL_law_1795 (lv_at hl 1 rfl) ?_
  refine lv_iconst (v := 2) hx hb dL_law_1797 (by decide) ?_
  refine lv_iadd hx hb dL_law_1798 ?_
  refine lv_topi (fun z_9 ez_9 => ?_)
  obtain rfl : z_9 = 2 := ez_9.trans (by decide)
  refine va_sld hx hb hX hbl hbA hS (nd_in (i := 2) (n := 6) (by decide)) dL_law_1799 ?_
  refine lv_aload_n hx hb dL_law_1800 rfl (lv_at hl 5 rfl) ?_
  refine lv_iload hx hb dL_law_1801 (lv_at hl 1 rfl) ?_
  refine lv_iconst (v := 3) hx hb dL_law_1803 (by decide) ?_
  refine lv_iadd hx hb dL_law_1804 ?_
  refine lv_topi (fun z_10 ez_10 => ?_)
  obtain rfl : z_10 = 3 := ez_10.trans (by decide)
  refine va_sld hx hb hX hbl hbA hS (nd_in (i := 3) (n := 6) (by decide)) dL_law_1805 ?_
  refine lv_i2l hx hb dL_law_1806 rfl ?_
  refine lv_bipush (v := 32) hx hb dL_law_1807 (by decide) ?_
  refine lv_lshl hx hb dL_law_1809 rfl ?_
  refine lv_aload_n hx hb dL_law_1810 rfl (lv_at hl 5 rfl) ?_
  refine lv_iload hx hb dL_law_1811 (lv_at hl 1 rfl) ?_
  refine lv_iconst (v := 4) hx hb dL_law_1813 (by decide) ?_
  refine lv_iadd hx hb dL_law_1814 ?_
  refine lv_topi (fun z_11 ez_11 => ?_)
  obtain rfl : z_11 = 4 := ez_11.trans (by decide)
  refine va_sld hx hb hX hbl hbA hS (nd_in (i := 4) (n := 6) (by decide)) dL_law_1815 ?_
  refine lv_i2l hx hb dL_law_1816 rfl ?_
  refine lv_ldc2 (v := 4294967295) hx hb hown hcl dL_law_1817 ?_
  refine lv_land hx hb dL_law_1820 ?_
  refine lv_lor hx hb dL_law_1821 ?_
  refine lv_topl (fun z_12 ez_12 => ?_)
  have hPc := hP.sub (ws' := [(g0, .inr (11, mF a 0 0 1000 0))]) [5] rfl
  have hDc := hD.sub (ws' := [(g0, .inr (11, mF a 0 0 1000 0))]) [5] (by decide) rfl
  have hKc := hK.sub (tys' := []) [] rfl
  have hFc := va_free (wc := [(g0, .inr (11, mF a 0 0 1000 0))]) hD hS hA [5] rfl
  refine va_calll (va_runV (As := [.int (xs (1 : Int32).toNatClampNeg), .int (xs (2 : Int32).toNatClampNeg), .long z_12]) (rest := []) ⟨hx, hb, hml, hown, hts⟩ (c_X12_fold l dC dI a g0 (xs (1 : Int32).toNatClampNeg) (xs (2 : Int32).toNatClampNeg) z_12 H.size) (cwV 3 hts tL_law_X12_fold rfl rfl rfl (by decide +kernel) ⟨Nat.le_of_ble_eq_true rfl, Nat.le_of_ble_eq_true rfl⟩) ⟨fun a U g mk q => by obtain ⟨q0, q1, qP, qK, qD⟩ := q; exact ⟨q0, q1, qP, va_K.moved (u := U) (U := U.calling g mk a) (Vm.Alike.refl U.vm) qK, qD⟩, va_recv hKc hPc (ci := 11) (q0 := 0) rfl rfl, fun U hU hW => ⟨rfl, by rw [hU], by rw [hU]; exact hPc, va_K.moved hW.alike hKc, hDc.weaken (fun _ _ _ _ => trivial)⟩⟩ rfl rfl hl.1 rfl (lv_room (Nat.le_of_ble_eq_true rfl)) dL_law_1822 ⟨Nat.le_of_ble_eq_true rfl, Nat.le_of_ble_eq_true rfl⟩) hS (fun q _ h => hFc q h) hFc (fun r_13 u_14 t H1 locs ht hvm hw hB hz1 hk1 hS => ?_)
  obtain ⟨ul_15, um_16, up_17, ut_18⟩ := u_14
  dsimp only at hw
  obtain ⟨hP1, hK1, hD1⟩ := hB
  rw [ht] at hP1
  have hK1 := va_K.moved hvm.symm hK1
  have hK := hK.app hK1
  obtain ⟨hP, hD⟩ := va_join (wr := [(h0, .inr (10, xF hm h1 h2 h3 0 0 1000)), (hm, .inr (5, [.int 0, .int 0])), (h1, .inl (cx 1, 24, .inr (.inr (.inr (.inr (fun _ => none)))))), (h2, .inl (cx 2, 100, .inr (.inl (fun _ => 0)))), (h3, .inl (cx 3, 100, .inl (fun _ => 0))), (a 1, .inl (ca 1, 24, .inl (fun _ => 0))), (a 2, .inl (ca 2, 24, .inl (fun _ => 0))), (a 3, .inl (ca 3, 24, .inl (fun _ => 0))), (a 4, .inl (ca 4, 24, .inl (fun _ => 0))), (a 5, .inl (ca 5, 24, .inr (.inl (fun _ => 0)))), (a 6, .inl (ca 6, 24, .inr (.inl (fun _ => 0)))), (a 13, .inl (ca 13, 100, .inl (fun _ => 0))), (a 14, .inl (ca 14, 100, .inr (.inl (fun _ => 0)))), (ho, .inl (co, 1, .inr (.inl (fun _ => 0))))]) (w1 := [(g0, .inr (11, mF a ul_15 um_16 up_17 ut_18))]) hP hD [5] [0, 1, 2, 3, 4, 6, 7, 8, 9, 10, 11, 12, 13, 14] rfl rfl (by decide) (by decide) hk1 hFc hP1 hD1
  generalize H1 = H at hP hS ⊢
  have hP : va_P (dC, dI) vwCl [(h0, .inr (10, xF hm h1 h2 h3 0 0 1000)), (hm, .inr (5, [.int 0, .int 0])), (h1, .inl (cx 1, 24, .inr (.inr (.inr (.inr (fun _ => none)))))), (h2, .inl (cx 2, 100, .inr (.inl (fun _ => 0)))), (h3, .inl (cx 3, 100, .inl (fun _ => 0))), (a 1, .inl (ca 1, 24, .inl (fun _ => 0))), (a 2, .inl (ca 2, 24, .inl (fun _ => 0))), (a 3, .inl (ca 3, 24, .inl (fun _ => 0))), (a 4, .inl (ca 4, 24, .inl (fun _ => 0))), (a 5, .inl (ca 5, 24, .inr (.inl (fun _ => 0)))), (a 6, .inl (ca 6, 24, .inr (.inl (fun _ => 0)))), (a 13, .inl (ca 13, 100, .inl (fun _ => 0))), (a 14, .inl (ca 14, 100, .inr (.inl (fun _ => 0)))), (ho, .inl (co, 1, .inr (.inl (fun _ => 0)))), (g0, .inr (11, mF a ul_15 um_16 up_17 ut_18))] H := hP
  have hD : va_D (lA s) [(h0, .inr (10, xF hm h1 h2 h3 0 0 1000)), (hm, .inr (5, [.int 0, .int 0])), (h1, .inl (cx 1, 24, .inr (.inr (.inr (.inr (fun _ => none)))))), (h2, .inl (cx 2, 100, .inr (.inl (fun _ => 0)))), (h3, .inl (cx 3, 100, .inl (fun _ => 0))), (a 1, .inl (ca 1, 24, .inl (fun _ => 0))), (a 2, .inl (ca 2, 24, .inl (fun _ => 0))), (a 3, .inl (ca 3, 24, .inl (fun _ => 0))), (a 4, .inl (ca 4, 24, .inl (fun _ => 0))), (a 5, .inl (ca 5, 24, .inr (.inl (fun _ => 0)))), (a 6, .inl (ca 6, 24, .inr (.inl (fun _ => 0)))), (a 13, .inl (ca 13, 100, .inl (fun _ => 0))), (a 14, .inl (ca 14, 100, .inr (.inl (fun _ => 0)))), (ho, .inl (co, 1, .inr (.inl (fun _ => 0)))), (g0, .inr (11, mF a ul_15 um_16 up_17 ut_18))] := hD
  have hK : va_K (dC, dI) vwCl [(cx 1, .object RX5), (cx 2, .long), (cx 3, .byte), (ca 1, .int), (ca 2, .int), (ca 3, .int), (ca 4, .int), (ca 5, .long), (ca 6, .long), (ca 13, .int), (ca 14, .long), (co, .long)] s := hK
  refine W.widen (k := 24) (n := 78348) (by decide +kernel) (by decide +kernel) ?_
  obtain rfl : ut_18 = 1 := hw
  refine lv_lstore (lv' := [(6, .long r_13), (5, .int 1), (4, .int 0), (3, .ref ho), (2, .ref g0), (1, .ref h0), (0, .ref b)]) hx hb dL_law_1825 hl (by decide) rfl (fun ls hl => ?_)
  refine lv_aload_n hx hb dL_law_1827 rfl (lv_at hl 4 rfl) ?_
  have hPc := hP.sub (ws' := [(g0, .inr (11, mF a ul_15 um_16 up_17 1))]) [14] rfl
  have hDc : va_D (fun _ => True) ([] : va_W) := nd_0
  have hKc := hK.sub (tys' := []) [] rfl
  have hFc := va_free (wc := []) hD hS hA [] rfl
  refine va_calli (va_runV (As := []) (rest := []) ⟨hx, hb, hml, hown, hts⟩ (c_X12_thrown l dC dI a g0 ul_15 um_16 up_17 1 H.size) (cwV 0 hts tL_law_X12_thrown rfl rfl rfl (by decide +kernel) ⟨Nat.le_of_ble_eq_true rfl, Nat.le_of_ble_eq_true rfl⟩) ⟨fun a U g mk q => by obtain ⟨q0, q1, qP, qK, qD⟩ := q; exact ⟨q0, q1, qP, va_K.moved (u := U) (U := U.calling g mk a) (Vm.Alike.refl U.vm) qK, qD⟩, va_recv hKc hPc (ci := 11) (q0 := 0) rfl rfl, fun U hU hW => ⟨rfl, by rw [hU], by rw [hU]; exact hPc, va_K.moved hW.alike hKc, nd_0⟩⟩ rfl rfl hl.1 rfl (lv_room (Nat.le_of_ble_eq_true rfl)) dL_law_1828 ⟨Nat.le_of_ble_eq_true rfl, Nat.le_of_ble_eq_true rfl⟩) hS (fun q _ h => hFc q h) hFc (fun r_20 u_21 t H1 locs ht hvm hw hB hz1 hk1 hS => ?_)
  have hP := nd_keep hP hk1
  generalize H1 = H at hP hS ⊢
  have hP : va_P (dC, dI) vwCl [(h0, .inr (10, xF hm h1 h2 h3 0 0 1000)), (hm, .inr (5, [.int 0, .int 0])), (h1, .inl (cx 1, 24, .inr (.inr (.inr (.inr (fun _ => none)))))), (h2, .inl (cx 2, 100, .inr (.inl (fun _ => 0)))), (h3, .inl (cx 3, 100, .inl (fun _ => 0))), (a 1, .inl (ca 1, 24, .inl (fun _ => 0))), (a 2, .inl (ca 2, 24, .inl (fun _ => 0))), (a 3, .inl (ca 3, 24, .inl (fun _ => 0))), (a 4, .inl (ca 4, 24, .inl (fun _ => 0))), (a 5, .inl (ca 5, 24, .inr (.inl (fun _ => 0)))), (a 6, .inl (ca 6, 24, .inr (.inl (fun _ => 0)))), (a 13, .inl (ca 13, 100, .inl (fun _ => 0))), (a 14, .inl (ca 14, 100, .inr (.inl (fun _ => 0)))), (ho, .inl (co, 1, .inr (.inl (fun _ => 0)))), (g0, .inr (11, mF a ul_15 um_16 up_17 1))] H := hP
  have hD : va_D (lA s) [(h0, .inr (10, xF hm h1 h2 h3 0 0 1000)), (hm, .inr (5, [.int 0, .int 0])), (h1, .inl (cx 1, 24, .inr (.inr (.inr (.inr (fun _ => none)))))), (h2, .inl (cx 2, 100, .inr (.inl (fun _ => 0)))), (h3, .inl (cx 3, 100, .inl (fun _ => 0))), (a 1, .inl (ca 1, 24, .inl (fun _ => 0))), (a 2, .inl (ca 2, 24, .inl (fun _ => 0))), (a 3, .inl (ca 3, 24, .inl (fun _ => 0))), (a 4, .inl (ca 4, 24, .inl (fun _ => 0))), (a 5, .inl (ca 5, 24, .inr (.inl (fun _ => 0)))), (a 6, .inl (ca 6, 24, .inr (.inl (fun _ => 0)))), (a 13, .inl (ca 13, 100, .inl (fun _ => 0))), (a 14, .inl (ca 14, 100, .inr (.inl (fun _ => 0)))), (ho, .inl (co, 1, .inr (.inl (fun _ => 0)))), (g0, .inr (11, mF a ul_15 um_16 up_17 1))] := hD
  refine W.widen (k := 24) (n := 78348) (by decide +kernel) (by decide +kernel) ?_
  obtain rfl : r_20 = 1 := hw
  refine lv_iload hx hb dL_law_1831 (lv_at hl 1 rfl) ?_
  refine lv_icmp_eq (tgt := 1838) hx hb dL_law_1833 (by decide) (fun c_1833 => ?_) (fun c_1833 => ?_)
  · refine lv_iload hx hb dL_law_1838 (lv_at hl 1 rfl) ?_
    refine lv_if_ne (tgt := 1854) hx hb dL_law_1840 (by decide) (fun c_1840 => ?_) (fun c_1840 => ?_)
    · refine lv_goto (tgt := 2206) hx hb dL_law_1854 (by decide) ?_
      refine W.widen (k := 100) (n := 200000) (by decide +kernel) (by decide +kernel) ?_
      exact law_end l hx hb hr hlocks hX hbl hbA hS (lv_sub hl [2, 6] rfl)
    · exact absurd c_1840 (by decide)
  · exact absurd c_1833 (by decide)
set_option maxHeartbeats 4000000 in
set_option maxRecDepth 100000 in
theorem law_case_19 {p : Program} {e : Env} {s : State} {m : MethodId} {below : List Frame} {meth : Method} {c : Code} (l : Launch) (hl0 : l.stackTraces = false) {b : Nat} {xs : Nat → Int32} (C0 : lw_At p s m meth c b 6 xs) (hG : Gw s) (hZ : Gz (lA s) s s.heap) {dC : Nat → ClassId} {dI : Nat → Nat → Nat} {h0 hm h1 h2 h3 g0 ho : Nat} {a : Nat → Nat} {ca cx : Nat → ClassId} {co : ClassId} {H : Heap} {locs : List Loc} (hK : va_K (dC, dI) vwCl [(cx 1, .object RX5), (cx 2, .long), (cx 3, .byte), (ca 1, .int), (ca 2, .int), (ca 3, .int), (ca 4, .int), (ca 5, .long), (ca 6, .long), (ca 13, .int), (ca 14, .long), (co, .long)] s) (hP : va_P (dC, dI) vwCl [(h0, .inr (10, xF hm h1 h2 h3 0 0 1000)), (hm, .inr (5, [.int 0, .int 0])), (h1, .inl (cx 1, 24, .inr (.inr (.inr (.inr (fun _ => none)))))), (h2, .inl (cx 2, 100, .inr (.inl (fun _ => 0)))), (h3, .inl (cx 3, 100, .inl (fun _ => 0))), (g0, .inr (11, mF a 0 0 1000 0)), (a 1, .inl (ca 1, 24, .inl (fun _ => 0))), (a 2, .inl (ca 2, 24, .inl (fun _ => 0))), (a 3, .inl (ca 3, 24, .inl (fun _ => 0))), (a 4, .inl (ca 4, 24, .inl (fun _ => 0))), (a 5, .inl (ca 5, 24, .inr (.inl (fun _ => 0)))), (a 6, .inl (ca 6, 24, .inr (.inl (fun _ => 0)))), (a 13, .inl (ca 13, 100, .inl (fun _ => 0))), (a 14, .inl (ca 14, 100, .inr (.inl (fun _ => 0)))), (ho, .inl (co, 1, .inr (.inl (fun _ => 0))))] H) (hD : va_D (lA s) [(h0, .inr (10, xF hm h1 h2 h3 0 0 1000)), (hm, .inr (5, [.int 0, .int 0])), (h1, .inl (cx 1, 24, .inr (.inr (.inr (.inr (fun _ => none)))))), (h2, .inl (cx 2, 100, .inr (.inl (fun _ => 0)))), (h3, .inl (cx 3, 100, .inl (fun _ => 0))), (g0, .inr (11, mF a 0 0 1000 0)), (a 1, .inl (ca 1, 24, .inl (fun _ => 0))), (a 2, .inl (ca 2, 24, .inl (fun _ => 0))), (a 3, .inl (ca 3, 24, .inl (fun _ => 0))), (a 4, .inl (ca 4, 24, .inl (fun _ => 0))), (a 5, .inl (ca 5, 24, .inr (.inl (fun _ => 0)))), (a 6, .inl (ca 6, 24, .inr (.inl (fun _ => 0)))), (a 13, .inl (ca 13, 100, .inl (fun _ => 0))), (a 14, .inl (ca 14, 100, .inr (.inl (fun _ => 0)))), (ho, .inl (co, 1, .inr (.inl (fun _ => 0))))]) (hS : va_S (lA s) s.heap H locs) {ls : Array Slot} (hl : lv_has ls 8 [(4, .int 0), (3, .ref ho), (2, .ref g0), (1, .ref h0), (0, .ref b)]) : W p l e room_1 s m #[Value.ref b] below meth c H locs 23 78342 (lw_Z below #[Value.ref b] s) (F0 m 1857 ls []) := by
  obtain ⟨hx, hb, hr, hml, hown, hts0, hX, hbl, hlocks, hgv⟩ := C0
  have hts := hts0
  have hcl := hts0 _ law_cl
  have hA : ∀ q : Nat, s.heap.size ≤ q → lA s q := fun _ h => h
  have hbA : ¬ lA s b := Nat.not_le.mpr hbl
  refine lv_aload_n hx hb dL_law_1857 rfl (lv_at hl 3 rfl) ?_
  refine lv_aload_n hx hb dL_law_1858 rfl (lv_at hl 4 rfl) ?_
  refine lv_iload hx hb dL_law_1859 (lv_at hl 0 rfl) ?_
  refine lv_iconst (v := 1) hx hb dL_law_1861 (by decide) ?_
  refine lv_iadd hx hb dL_law_1862 ?_
  refine lv_topi (fun z_1 ez_1 => ?_)
  obtain rfl : z_1 = 1 := ez_1.trans (by decide)
  refine va_sld hx hb hX hbl hbA hS (nd_in (i := 1) (n := 6) (by decide)) dL_law_1863 ?_
  refine lv_aload_n hx hb dL_law_1864 rfl (lv_at hl 4 rfl) ?_
  refine lv_iload hx hb dL_law_1865 (lv_at hl 0 rfl) ?_
  refine lv_iconst (v := 2) hx hb dL_law_1867 (by decide) ?_
  refine lv_iadd hx hb dL_law_1868 ?_
  refine lv_topi (fun z_2 ez_2 => ?_)
  obtain rfl : z_2 = 2 := ez_2.trans (by decide)
  refine va_sld hx hb hX hbl hbA hS (nd_in (i := 2) (n := 6) (by decide)) dL_law_1869 ?_
  refine lv_aload_n hx hb dL_law_1870 rfl (lv_at hl 4 rfl) ?_
  refine lv_iload hx hb dL_law_1871 (lv_at hl 0 rfl) ?_
  refine lv_iconst (v := 3) hx hb dL_law_1873 (by decide) ?_
  refine lv_iadd hx hb dL_law_1874 ?_
  refine lv_topi (fun z_3 ez_3 => ?_)
  obtain rfl : z_3 = 3 := ez_3.trans (by decide)
  refine va_sld hx hb hX hbl hbA hS (nd_in (i := 3) (n := 6) (by decide)) dL_law_1875 ?_
  refine lv_i2l hx hb dL_law_1876 rfl ?_
  refine lv_bipush (v := 32) hx hb dL_law_1877 (by decide) ?_
  refine lv_lshl hx hb dL_law_1879 rfl ?_
  refine lv_aload_n hx hb dL_law_1880 rfl (lv_at hl 4 rfl) ?_
  refine lv_iload hx hb dL_law_1881 (lv_at hl 0 rfl) ?_
  refine lv_iconst (v := 4) hx hb dL_law_1883 (by decide) ?_
  refine lv_iadd hx hb dL_law_1884 ?_
  refine lv_topi (fun z_4 ez_4 => ?_)
  obtain rfl : z_4 = 4 := ez_4.trans (by decide)
  refine va_sld hx hb hX hbl hbA hS (nd_in (i := 4) (n := 6) (by decide)) dL_law_1885 ?_
  refine lv_i2l hx hb dL_law_1886 rfl ?_
  refine lv_ldc2 (v := 4294967295) hx hb hown hcl dL_law_1887 ?_
  refine lv_land hx hb dL_law_1890 ?_
  refine lv_lor hx hb dL_law_1891 ?_
  refine lv_topl (fun z_5 ez_5 => ?_)
  refine lv_aload_n hx hb dL_law_1892 rfl (lv_at hl 1 rfl) ?_
  have hPc := hP.sub (ws' := [(h0, .inr (10, xF hm h1 h2 h3 0 0 1000))]) [0] rfl
  have hDc : va_D (fun _ => True) ([] : va_W) := nd_0
  have hKc := hK.sub (tys' := []) [] rfl
  have hFc := va_free (wc := []) hD hS hA [] rfl
  refine va_calli (vx_runSW (As := [.ref h0, .int (xs (1 : Int32).toNatClampNeg), .int (xs (2 : Int32).toNatClampNeg), .long z_5, .ref ho]) (rest := []) ⟨hx, hb, hml, hown, hts⟩ (c_L_find l hl0 dC dI h0 hm h1 h2 h3 (xs (1 : Int32).toNatClampNeg) (xs (2 : Int32).toNatClampNeg) z_5 ho H.size) (vx_cwSW 5 hts tL_law_L_find rfl rfl rfl (by decide +kernel) ⟨Nat.le_of_ble_eq_true rfl, Nat.le_of_ble_eq_true rfl⟩) ⟨fun a U g mk q => by obtain ⟨q0, q1, qP, qK, qD, qG, qZ⟩ := q; exact ⟨q0, q1, qP, va_K.moved (u := U) (U := U.calling g mk a) (Vm.Alike.refl U.vm) qK, qD, Gw.same (u := U) (U := U.calling g mk a) rfl qG, Gz.moved (u := U) (U := U.calling g mk a) (Vm.Alike.refl U.vm) qZ⟩, fun U hU hW => ⟨rfl, by rw [hU], by rw [hU]; exact hPc, va_K.moved hW.alike hKc, nd_0, Gw.warm hW hG, Gz.step hZ hS hFc hU hW.alike⟩⟩ rfl rfl hl.1 rfl (lv_room (Nat.le_of_ble_eq_true rfl)) dL_law_1893 ⟨Nat.le_of_ble_eq_true rfl, Nat.le_of_ble_eq_true rfl⟩) hS (fun q _ h => hFc q h) hFc (fun r_6 u_7 t H1 locs ht hvm hw hB hz1 hk1 hS => ?_)
  have hP := nd_keep hP hk1
  generalize H1 = H at hP hS ⊢
  have hP : va_P (dC, dI) vwCl [(h0, .inr (10, xF hm h1 h2 h3 0 0 1000)), (hm, .inr (5, [.int 0, .int 0])), (h1, .inl (cx 1, 24, .inr (.inr (.inr (.inr (fun _ => none)))))), (h2, .inl (cx 2, 100, .inr (.inl (fun _ => 0)))), (h3, .inl (cx 3, 100, .inl (fun _ => 0))), (g0, .inr (11, mF a 0 0 1000 0)), (a 1, .inl (ca 1, 24, .inl (fun _ => 0))), (a 2, .inl (ca 2, 24, .inl (fun _ => 0))), (a 3, .inl (ca 3, 24, .inl (fun _ => 0))), (a 4, .inl (ca 4, 24, .inl (fun _ => 0))), (a 5, .inl (ca 5, 24, .inr (.inl (fun _ => 0)))), (a 6, .inl (ca 6, 24, .inr (.inl (fun _ => 0)))), (a 13, .inl (ca 13, 100, .inl (fun _ => 0))), (a 14, .inl (ca 14, 100, .inr (.inl (fun _ => 0)))), (ho, .inl (co, 1, .inr (.inl (fun _ => 0))))] H := hP
  have hD : va_D (lA s) [(h0, .inr (10, xF hm h1 h2 h3 0 0 1000)), (hm, .inr (5, [.int 0, .int 0])), (h1, .inl (cx 1, 24, .inr (.inr (.inr (.inr (fun _ => none)))))), (h2, .inl (cx 2, 100, .inr (.inl (fun _ => 0)))), (h3, .inl (cx 3, 100, .inl (fun _ => 0))), (g0, .inr (11, mF a 0 0 1000 0)), (a 1, .inl (ca 1, 24, .inl (fun _ => 0))), (a 2, .inl (ca 2, 24, .inl (fun _ => 0))), (a 3, .inl (ca 3, 24, .inl (fun _ => 0))), (a 4, .inl (ca 4, 24, .inl (fun _ => 0))), (a 5, .inl (ca 5, 24, .inr (.inl (fun _ => 0)))), (a 6, .inl (ca 6, 24, .inr (.inl (fun _ => 0)))), (a 13, .inl (ca 13, 100, .inl (fun _ => 0))), (a 14, .inl (ca 14, 100, .inr (.inl (fun _ => 0)))), (ho, .inl (co, 1, .inr (.inl (fun _ => 0))))] := hD
  refine W.widen (k := 24) (n := 78348) (by decide +kernel) (by decide +kernel) ?_
  obtain rfl : r_6 = 1 := hw
  refine lv_istore (lv' := [(5, .int 1), (4, .int 0), (3, .ref ho), (2, .ref g0), (1, .ref h0), (0, .ref b)]) hx hb dL_law_1896 hl (by decide) rfl (fun ls hl => ?_)
  refine lv_aload_n hx hb dL_law_1898 rfl (lv_at hl 3 rfl) ?_
  refine lv_aload_n hx hb dL_law_1899 rfl (lv_at hl 5 rfl) ?_
  refine lv_iload hx hb dL_law_1900 (lv_at hl 1 rfl) ?_
  refine lv_iconst (v := 1) hx hb dL_law_1902 (by decide) ?_
  refine lv_iadd hx hb dL_law_1903 ?_
  refine lv_topi (fun z_8 ez_8 => ?_)
  obtain rfl : z_8 = 1 := ez_8.trans (by decide)
  refine va_sld hx hb hX hbl hbA hS (nd_in (i := 1) (n := 6) (by decide)) dL_law_1904 ?_
  refine lv_aload_n hx hb dL_law_1905 rfl (lv_at hl 5 rfl) ?_
  refine lv_iload hx hb dL_law_1906 (lv_at hl 1 rfl) ?_
  refine lv_iconst (v := 2) hx hb dL_law_1908 (by decide) ?_
  refine lv_iadd hx hb dL_law_1909 ?_
  refine lv_topi (fun z_9 ez_9 => ?_)
  obtain rfl : z_9 = 2 := ez_9.trans (by decide)
  refine va_sld hx hb hX hbl hbA hS (nd_in (i := 2) (n := 6) (by decide)) dL_law_1910 ?_
  refine lv_aload_n hx hb dL_law_1911 rfl (lv_at hl 5 rfl) ?_
  refine lv_iload hx hb dL_law_1912 (lv_at hl 1 rfl) ?_
  refine lv_iconst (v := 3) hx hb dL_law_1914 (by decide) ?_
  refine lv_iadd hx hb dL_law_1915 ?_
  refine lv_topi (fun z_10 ez_10 => ?_)
  obtain rfl : z_10 = 3 := ez_10.trans (by decide)
  refine va_sld hx hb hX hbl hbA hS (nd_in (i := 3) (n := 6) (by decide)) dL_law_1916 ?_
  refine lv_i2l hx hb dL_law_1917 rfl ?_
  refine lv_bipush (v := 32) hx hb dL_law_1918 (by decide) ?_
  refine lv_lshl hx hb dL_law_1920 rfl ?_
  refine lv_aload_n hx hb dL_law_1921 rfl (lv_at hl 5 rfl) ?_
  refine lv_iload hx hb dL_law_1922 (lv_at hl 1 rfl) ?_
  refine lv_iconst (v := 4) hx hb dL_law_1924 (by decide) ?_
  refine lv_iadd hx hb dL_law_1925 ?_
  refine lv_topi (fun z_11 ez_11 => ?_)
  obtain rfl : z_11 = 4 := ez_11.trans (by decide)
  refine va_sld hx hb hX hbl hbA hS (nd_in (i := 4) (n := 6) (by decide)) dL_law_1926 ?_
  refine lv_i2l hx hb dL_law_1927 rfl ?_
  refine lv_ldc2 (v := 4294967295) hx hb hown hcl dL_law_1928 ?_
  refine lv_land hx hb dL_law_1931 ?_
  refine lv_lor hx hb dL_law_1932 ?_
  refine lv_topl (fun z_12 ez_12 => ?_)
  have hPc := hP.sub (ws' := [(g0, .inr (11, mF a 0 0 1000 0))]) [5] rfl
  have hDc := hD.sub (ws' := [(g0, .inr (11, mF a 0 0 1000 0))]) [5] (by decide) rfl
  have hKc := hK.sub (tys' := []) [] rfl
  have hFc := va_free (wc := [(g0, .inr (11, mF a 0 0 1000 0))]) hD hS hA [5] rfl
  refine va_calll (va_runV (As := [.int (xs (1 : Int32).toNatClampNeg), .int (xs (2 : Int32).toNatClampNeg), .long z_12]) (rest := []) ⟨hx, hb, hml, hown, hts⟩ (c_X12_find l dC dI a g0 (xs (1 : Int32).toNatClampNeg) (xs (2 : Int32).toNatClampNeg) z_12 H.size) (cwV 3 hts tL_law_X12_find rfl rfl rfl (by decide +kernel) ⟨Nat.le_of_ble_eq_true rfl, Nat.le_of_ble_eq_true rfl⟩) ⟨fun a U g mk q => by obtain ⟨q0, q1, qP, qK, qD⟩ := q; exact ⟨q0, q1, qP, va_K.moved (u := U) (U := U.calling g mk a) (Vm.Alike.refl U.vm) qK, qD⟩, va_recv hKc hPc (ci := 11) (q0 := 0) rfl rfl, fun U hU hW => ⟨rfl, by rw [hU], by rw [hU]; exact hPc, va_K.moved hW.alike hKc, hDc.weaken (fun _ _ _ _ => trivial)⟩⟩ rfl rfl hl.1 rfl (lv_room (Nat.le_of_ble_eq_true rfl)) dL_law_1933 ⟨Nat.le_of_ble_eq_true rfl, Nat.le_of_ble_eq_true rfl⟩) hS (fun q _ h => hFc q h) hFc (fun r_13 u_14 t H1 locs ht hvm hw hB hz1 hk1 hS => ?_)
  obtain ⟨ul_15, um_16, up_17, ut_18⟩ := u_14
  dsimp only at hw
  obtain ⟨hP1, hK1, hD1⟩ := hB
  rw [ht] at hP1
  have hK1 := va_K.moved hvm.symm hK1
  have hK := hK.app hK1
  obtain ⟨hP, hD⟩ := va_join (wr := [(h0, .inr (10, xF hm h1 h2 h3 0 0 1000)), (hm, .inr (5, [.int 0, .int 0])), (h1, .inl (cx 1, 24, .inr (.inr (.inr (.inr (fun _ => none)))))), (h2, .inl (cx 2, 100, .inr (.inl (fun _ => 0)))), (h3, .inl (cx 3, 100, .inl (fun _ => 0))), (a 1, .inl (ca 1, 24, .inl (fun _ => 0))), (a 2, .inl (ca 2, 24, .inl (fun _ => 0))), (a 3, .inl (ca 3, 24, .inl (fun _ => 0))), (a 4, .inl (ca 4, 24, .inl (fun _ => 0))), (a 5, .inl (ca 5, 24, .inr (.inl (fun _ => 0)))), (a 6, .inl (ca 6, 24, .inr (.inl (fun _ => 0)))), (a 13, .inl (ca 13, 100, .inl (fun _ => 0))), (a 14, .inl (ca 14, 100, .inr (.inl (fun _ => 0)))), (ho, .inl (co, 1, .inr (.inl (fun _ => 0))))]) (w1 := [(g0, .inr (11, mF a ul_15 um_16 up_17 ut_18))]) hP hD [5] [0, 1, 2, 3, 4, 6, 7, 8, 9, 10, 11, 12, 13, 14] rfl rfl (by decide) (by decide) hk1 hFc hP1 hD1
  generalize H1 = H at hP hS ⊢
  have hP : va_P (dC, dI) vwCl [(h0, .inr (10, xF hm h1 h2 h3 0 0 1000)), (hm, .inr (5, [.int 0, .int 0])), (h1, .inl (cx 1, 24, .inr (.inr (.inr (.inr (fun _ => none)))))), (h2, .inl (cx 2, 100, .inr (.inl (fun _ => 0)))), (h3, .inl (cx 3, 100, .inl (fun _ => 0))), (a 1, .inl (ca 1, 24, .inl (fun _ => 0))), (a 2, .inl (ca 2, 24, .inl (fun _ => 0))), (a 3, .inl (ca 3, 24, .inl (fun _ => 0))), (a 4, .inl (ca 4, 24, .inl (fun _ => 0))), (a 5, .inl (ca 5, 24, .inr (.inl (fun _ => 0)))), (a 6, .inl (ca 6, 24, .inr (.inl (fun _ => 0)))), (a 13, .inl (ca 13, 100, .inl (fun _ => 0))), (a 14, .inl (ca 14, 100, .inr (.inl (fun _ => 0)))), (ho, .inl (co, 1, .inr (.inl (fun _ => 0)))), (g0, .inr (11, mF a ul_15 um_16 up_17 ut_18))] H := hP
  have hD : va_D (lA s) [(h0, .inr (10, xF hm h1 h2 h3 0 0 1000)), (hm, .inr (5, [.int 0, .int 0])), (h1, .inl (cx 1, 24, .inr (.inr (.inr (.inr (fun _ => none)))))), (h2, .inl (cx 2, 100, .inr (.inl (fun _ => 0)))), (h3, .inl (cx 3, 100, .inl (fun _ => 0))), (a 1, .inl (ca 1, 24, .inl (fun _ => 0))), (a 2, .inl (ca 2, 24, .inl (fun _ => 0))), (a 3, .inl (ca 3, 24, .inl (fun _ => 0))), (a 4, .inl (ca 4, 24, .inl (fun _ => 0))), (a 5, .inl (ca 5, 24, .inr (.inl (fun _ => 0)))), (a 6, .inl (ca 6, 24, .inr (.inl (fun _ => 0)))), (a 13, .inl (ca 13, 100, .inl (fun _ => 0))), (a 14, .inl (ca 14, 100, .inr (.inl (fun _ => 0)))), (ho, .inl (co, 1, .inr (.inl (fun _ => 0)))), (g0, .inr (11, mF a ul_15 um_16 up_17 ut_18))] := hD
  have hK : va_K (dC, dI) vwCl [(cx 1, .object RX5), (cx 2, .long), (cx 3, .byte), (ca 1, .int), (ca 2, .int), (ca 3, .int), (ca 4, .int), (ca 5, .long), (ca 6, .long), (ca 13, .int), (ca 14, .long), (co, .long)] s := hK
  refine W.widen (k := 24) (n := 78348) (by decide +kernel) (by decide +kernel) ?_
  obtain rfl : ut_18 = 1 := hw
  refine lv_lstore (lv' := [(6, .long r_13), (5, .int 1), (4, .int 0), (3, .ref ho), (2, .ref g0), (1, .ref h0), (0, .ref b)]) hx hb dL_law_1936 hl (by decide) rfl (fun ls hl => ?_)
  refine lv_aload_n hx hb dL_law_1938 rfl (lv_at hl 4 rfl) ?_
  have hPc := hP.sub (ws' := [(g0, .inr (11, mF a ul_15 um_16 up_17 1))]) [14] rfl
  have hDc : va_D (fun _ => True) ([] : va_W) := nd_0
  have hKc := hK.sub (tys' := []) [] rfl
  have hFc := va_free (wc := []) hD hS hA [] rfl
  refine va_calli (va_runV (As := []) (rest := []) ⟨hx, hb, hml, hown, hts⟩ (c_X12_thrown l dC dI a g0 ul_15 um_16 up_17 1 H.size) (cwV 0 hts tL_law_X12_thrown rfl rfl rfl (by decide +kernel) ⟨Nat.le_of_ble_eq_true rfl, Nat.le_of_ble_eq_true rfl⟩) ⟨fun a U g mk q => by obtain ⟨q0, q1, qP, qK, qD⟩ := q; exact ⟨q0, q1, qP, va_K.moved (u := U) (U := U.calling g mk a) (Vm.Alike.refl U.vm) qK, qD⟩, va_recv hKc hPc (ci := 11) (q0 := 0) rfl rfl, fun U hU hW => ⟨rfl, by rw [hU], by rw [hU]; exact hPc, va_K.moved hW.alike hKc, nd_0⟩⟩ rfl rfl hl.1 rfl (lv_room (Nat.le_of_ble_eq_true rfl)) dL_law_1939 ⟨Nat.le_of_ble_eq_true rfl, Nat.le_of_ble_eq_true rfl⟩) hS (fun q _ h => hFc q h) hFc (fun r_20 u_21 t H1 locs ht hvm hw hB hz1 hk1 hS => ?_)
  have hP := nd_keep hP hk1
  generalize H1 = H at hP hS ⊢
  have hP : va_P (dC, dI) vwCl [(h0, .inr (10, xF hm h1 h2 h3 0 0 1000)), (hm, .inr (5, [.int 0, .int 0])), (h1, .inl (cx 1, 24, .inr (.inr (.inr (.inr (fun _ => none)))))), (h2, .inl (cx 2, 100, .inr (.inl (fun _ => 0)))), (h3, .inl (cx 3, 100, .inl (fun _ => 0))), (a 1, .inl (ca 1, 24, .inl (fun _ => 0))), (a 2, .inl (ca 2, 24, .inl (fun _ => 0))), (a 3, .inl (ca 3, 24, .inl (fun _ => 0))), (a 4, .inl (ca 4, 24, .inl (fun _ => 0))), (a 5, .inl (ca 5, 24, .inr (.inl (fun _ => 0)))), (a 6, .inl (ca 6, 24, .inr (.inl (fun _ => 0)))), (a 13, .inl (ca 13, 100, .inl (fun _ => 0))), (a 14, .inl (ca 14, 100, .inr (.inl (fun _ => 0)))), (ho, .inl (co, 1, .inr (.inl (fun _ => 0)))), (g0, .inr (11, mF a ul_15 um_16 up_17 1))] H := hP
  have hD : va_D (lA s) [(h0, .inr (10, xF hm h1 h2 h3 0 0 1000)), (hm, .inr (5, [.int 0, .int 0])), (h1, .inl (cx 1, 24, .inr (.inr (.inr (.inr (fun _ => none)))))), (h2, .inl (cx 2, 100, .inr (.inl (fun _ => 0)))), (h3, .inl (cx 3, 100, .inl (fun _ => 0))), (a 1, .inl (ca 1, 24, .inl (fun _ => 0))), (a 2, .inl (ca 2, 24, .inl (fun _ => 0))), (a 3, .inl (ca 3, 24, .inl (fun _ => 0))), (a 4, .inl (ca 4, 24, .inl (fun _ => 0))), (a 5, .inl (ca 5, 24, .inr (.inl (fun _ => 0)))), (a 6, .inl (ca 6, 24, .inr (.inl (fun _ => 0)))), (a 13, .inl (ca 13, 100, .inl (fun _ => 0))), (a 14, .inl (ca 14, 100, .inr (.inl (fun _ => 0)))), (ho, .inl (co, 1, .inr (.inl (fun _ => 0)))), (g0, .inr (11, mF a ul_15 um_16 up_17 1))] := hD
  refine W.widen (k := 24) (n := 78348) (by decide +kernel) (by decide +kernel) ?_
  obtain rfl : r_20 = 1 := hw
  refine lv_iload hx hb dL_law_1942 (lv_at hl 1 rfl) ?_
  refine lv_icmp_eq (tgt := 1949) hx hb dL_law_1944 (by decide) (fun c_1944 => ?_) (fun c_1944 => ?_)
  · refine lv_iload hx hb dL_law_1949 (lv_at hl 1 rfl) ?_
    refine lv_if_ne (tgt := 1965) hx hb dL_law_1951 (by decide) (fun c_1951 => ?_) (fun c_1951 => ?_)
    · refine lv_goto (tgt := 2206) hx hb dL_law_1965 (by decide) ?_
      refine W.widen (k := 100) (n := 200000) (by decide +kernel) (by decide +kernel) ?_
      exact law_end l hx hb hr hlocks hX hbl hbA hS (lv_sub hl [2, 6] rfl)
    · exact absurd c_1951 (by decide)
  · exact absurd c_1944 (by decide)
set_option maxHeartbeats 4000000 in
set_option maxRecDepth 100000 in
theorem law_case_20 {p : Program} {e : Env} {s : State} {m : MethodId} {below : List Frame} {meth : Method} {c : Code} (l : Launch) (hl0 : l.stackTraces = false) {b : Nat} {xs : Nat → Int32} (C0 : lw_At p s m meth c b 6 xs) (hG : Gw s) (hZ : Gz (lA s) s s.heap) {dC : Nat → ClassId} {dI : Nat → Nat → Nat} {h0 hm h1 h2 h3 g0 ho : Nat} {a : Nat → Nat} {ca cx : Nat → ClassId} {co : ClassId} {H : Heap} {locs : List Loc} (hK : va_K (dC, dI) vwCl [(cx 1, .object RX5), (cx 2, .long), (cx 3, .byte), (ca 1, .int), (ca 2, .int), (ca 3, .int), (ca 4, .int), (ca 5, .long), (ca 6, .long), (ca 13, .int), (ca 14, .long), (co, .long)] s) (hP : va_P (dC, dI) vwCl [(h0, .inr (10, xF hm h1 h2 h3 0 0 1000)), (hm, .inr (5, [.int 0, .int 0])), (h1, .inl (cx 1, 24, .inr (.inr (.inr (.inr (fun _ => none)))))), (h2, .inl (cx 2, 100, .inr (.inl (fun _ => 0)))), (h3, .inl (cx 3, 100, .inl (fun _ => 0))), (g0, .inr (11, mF a 0 0 1000 0)), (a 1, .inl (ca 1, 24, .inl (fun _ => 0))), (a 2, .inl (ca 2, 24, .inl (fun _ => 0))), (a 3, .inl (ca 3, 24, .inl (fun _ => 0))), (a 4, .inl (ca 4, 24, .inl (fun _ => 0))), (a 5, .inl (ca 5, 24, .inr (.inl (fun _ => 0)))), (a 6, .inl (ca 6, 24, .inr (.inl (fun _ => 0)))), (a 13, .inl (ca 13, 100, .inl (fun _ => 0))), (a 14, .inl (ca 14, 100, .inr (.inl (fun _ => 0)))), (ho, .inl (co, 1, .inr (.inl (fun _ => 0))))] H) (hD : va_D (lA s) [(h0, .inr (10, xF hm h1 h2 h3 0 0 1000)), (hm, .inr (5, [.int 0, .int 0])), (h1, .inl (cx 1, 24, .inr (.inr (.inr (.inr (fun _ => none)))))), (h2, .inl (cx 2, 100, .inr (.inl (fun _ => 0)))), (h3, .inl (cx 3, 100, .inl (fun _ => 0))), (g0, .inr (11, mF a 0 0 1000 0)), (a 1, .inl (ca 1, 24, .inl (fun _ => 0))), (a 2, .inl (ca 2, 24, .inl (fun _ => 0))), (a 3, .inl (ca 3, 24, .inl (fun _ => 0))), (a 4, .inl (ca 4, 24, .inl (fun _ => 0))), (a 5, .inl (ca 5, 24, .inr (.inl (fun _ => 0)))), (a 6, .inl (ca 6, 24, .inr (.inl (fun _ => 0)))), (a 13, .inl (ca 13, 100, .inl (fun _ => 0))), (a 14, .inl (ca 14, 100, .inr (.inl (fun _ => 0)))), (ho, .inl (co, 1, .inr (.inl (fun _ => 0))))]) (hS : va_S (lA s) s.heap H locs) {ls : Array Slot} (hl : lv_has ls 8 [(4, .int 0), (3, .ref ho), (2, .ref g0), (1, .ref h0), (0, .ref b)]) : W p l e room_1 s m #[Value.ref b] below meth c H locs 23 78342 (lw_Z below #[Value.ref b] s) (F0 m 1968 ls []) := by
  obtain ⟨hx, hb, hr, hml, hown, hts0, hX, hbl, hlocks, hgv⟩ := C0
  have hts := hts0
  have hcl := hts0 _ law_cl
  have hA : ∀ q : Nat, s.heap.size ≤ q → lA s q := fun _ h => h
  have hbA : ¬ lA s b := Nat.not_le.mpr hbl
  refine lv_aload_n hx hb dL_law_1968 rfl (lv_at hl 3 rfl) ?_
  refine lv_aload_n hx hb dL_law_1969 rfl (lv_at hl 4 rfl) ?_
  refine lv_iload hx hb dL_law_1970 (lv_at hl 0 rfl) ?_
  refine lv_iconst (v := 1) hx hb dL_law_1972 (by decide) ?_
  refine lv_iadd hx hb dL_law_1973 ?_
  refine lv_topi (fun z_1 ez_1 => ?_)
  obtain rfl : z_1 = 1 := ez_1.trans (by decide)
  refine va_sld hx hb hX hbl hbA hS (nd_in (i := 1) (n := 6) (by decide)) dL_law_1974 ?_
  refine lv_aload_n hx hb dL_law_1975 rfl (lv_at hl 1 rfl) ?_
  have hPc := hP.sub (ws' := [(h0, .inr (10, xF hm h1 h2 h3 0 0 1000))]) [0] rfl
  have hDc : va_D (fun _ => True) ([] : va_W) := nd_0
  have hKc := hK.sub (tys' := []) [] rfl
  have hFc := va_free (wc := []) hD hS hA [] rfl
  refine va_calli (vx_runSW (As := [.ref h0, .int (xs (1 : Int32).toNatClampNeg), .ref ho]) (rest := []) ⟨hx, hb, hml, hown, hts⟩ (c_L_last l hl0 dC dI h0 hm h1 h2 h3 (xs (1 : Int32).toNatClampNeg) ho H.size) (vx_cwSW 3 hts tL_law_L_last rfl rfl rfl (by decide +kernel) ⟨Nat.le_of_ble_eq_true rfl, Nat.le_of_ble_eq_true rfl⟩) ⟨fun a U g mk q => by obtain ⟨q0, q1, qP, qK, qD, qG, qZ⟩ := q; exact ⟨q0, q1, qP, va_K.moved (u := U) (U := U.calling g mk a) (Vm.Alike.refl U.vm) qK, qD, Gw.same (u := U) (U := U.calling g mk a) rfl qG, Gz.moved (u := U) (U := U.calling g mk a) (Vm.Alike.refl U.vm) qZ⟩, fun U hU hW => ⟨rfl, by rw [hU], by rw [hU]; exact hPc, va_K.moved hW.alike hKc, nd_0, Gw.warm hW hG, Gz.step hZ hS hFc hU hW.alike⟩⟩ rfl rfl hl.1 rfl (lv_room (Nat.le_of_ble_eq_true rfl)) dL_law_1976 ⟨Nat.le_of_ble_eq_true rfl, Nat.le_of_ble_eq_true rfl⟩) hS (fun q _ h => hFc q h) hFc (fun r_2 u_3 t H1 locs ht hvm hw hB hz1 hk1 hS => ?_)
  have hP := nd_keep hP hk1
  generalize H1 = H at hP hS ⊢
  have hP : va_P (dC, dI) vwCl [(h0, .inr (10, xF hm h1 h2 h3 0 0 1000)), (hm, .inr (5, [.int 0, .int 0])), (h1, .inl (cx 1, 24, .inr (.inr (.inr (.inr (fun _ => none)))))), (h2, .inl (cx 2, 100, .inr (.inl (fun _ => 0)))), (h3, .inl (cx 3, 100, .inl (fun _ => 0))), (g0, .inr (11, mF a 0 0 1000 0)), (a 1, .inl (ca 1, 24, .inl (fun _ => 0))), (a 2, .inl (ca 2, 24, .inl (fun _ => 0))), (a 3, .inl (ca 3, 24, .inl (fun _ => 0))), (a 4, .inl (ca 4, 24, .inl (fun _ => 0))), (a 5, .inl (ca 5, 24, .inr (.inl (fun _ => 0)))), (a 6, .inl (ca 6, 24, .inr (.inl (fun _ => 0)))), (a 13, .inl (ca 13, 100, .inl (fun _ => 0))), (a 14, .inl (ca 14, 100, .inr (.inl (fun _ => 0)))), (ho, .inl (co, 1, .inr (.inl (fun _ => 0))))] H := hP
  have hD : va_D (lA s) [(h0, .inr (10, xF hm h1 h2 h3 0 0 1000)), (hm, .inr (5, [.int 0, .int 0])), (h1, .inl (cx 1, 24, .inr (.inr (.inr (.inr (fun _ => none)))))), (h2, .inl (cx 2, 100, .inr (.inl (fun _ => 0)))), (h3, .inl (cx 3, 100, .inl (fun _ => 0))), (g0, .inr (11, mF a 0 0 1000 0)), (a 1, .inl (ca 1, 24, .inl (fun _ => 0))), (a 2, .inl (ca 2, 24, .inl (fun _ => 0))), (a 3, .inl (ca 3, 24, .inl (fun _ => 0))), (a 4, .inl (ca 4, 24, .inl (fun _ => 0))), (a 5, .inl (ca 5, 24, .inr (.inl (fun _ => 0)))), (a 6, .inl (ca 6, 24, .inr (.inl (fun _ => 0)))), (a 13, .inl (ca 13, 100, .inl (fun _ => 0))), (a 14, .inl (ca 14, 100, .inr (.inl (fun _ => 0)))), (ho, .inl (co, 1, .inr (.inl (fun _ => 0))))] := hD
  refine W.widen (k := 24) (n := 78348) (by decide +kernel) (by decide +kernel) ?_
  obtain rfl : r_2 = 1 := hw
  refine lv_istore (lv' := [(5, .int 1), (4, .int 0), (3, .ref ho), (2, .ref g0), (1, .ref h0), (0, .ref b)]) hx hb dL_law_1979 hl (by decide) rfl (fun ls hl => ?_)
  refine lv_aload_n hx hb dL_law_1981 rfl (lv_at hl 3 rfl) ?_
  refine lv_aload_n hx hb dL_law_1982 rfl (lv_at hl 5 rfl) ?_
  refine lv_iload hx hb dL_law_1983 (lv_at hl 1 rfl) ?_
  refine lv_iconst (v := 1) hx hb dL_law_1985 (by decide) ?_
  refine lv_iadd hx hb dL_law_1986 ?_
  refine lv_topi (fun z_4 ez_4 => ?_)
  obtain rfl : z_4 = 1 := ez_4.trans (by decide)
  refine va_sld hx hb hX hbl hbA hS (nd_in (i := 1) (n := 6) (by decide)) dL_law_1987 ?_
  have hPc := hP.sub (ws' := [(g0, .inr (11, mF a 0 0 1000 0))]) [5] rfl
  have hDc := hD.sub (ws' := [(g0, .inr (11, mF a 0 0 1000 0))]) [5] (by decide) rfl
  have hKc := hK.sub (tys' := []) [] rfl
  have hFc := va_free (wc := [(g0, .inr (11, mF a 0 0 1000 0))]) hD hS hA [5] rfl
  refine va_calll (va_runV (As := [.int (xs (1 : Int32).toNatClampNeg)]) (rest := []) ⟨hx, hb, hml, hown, hts⟩ (c_X12_last l dC dI a g0 (xs (1 : Int32).toNatClampNeg) H.size) (cwV 1 hts tL_law_X12_last rfl rfl rfl (by decide +kernel) ⟨Nat.le_of_ble_eq_true rfl, Nat.le_of_ble_eq_true rfl⟩) ⟨fun a U g mk q => by obtain ⟨q0, q1, qP, qK, qD⟩ := q; exact ⟨q0, q1, qP, va_K.moved (u := U) (U := U.calling g mk a) (Vm.Alike.refl U.vm) qK, qD⟩, va_recv hKc hPc (ci := 11) (q0 := 0) rfl rfl, fun U hU hW => ⟨rfl, by rw [hU], by rw [hU]; exact hPc, va_K.moved hW.alike hKc, hDc.weaken (fun _ _ _ _ => trivial)⟩⟩ rfl rfl hl.1 rfl (lv_room (Nat.le_of_ble_eq_true rfl)) dL_law_1988 ⟨Nat.le_of_ble_eq_true rfl, Nat.le_of_ble_eq_true rfl⟩) hS (fun q _ h => hFc q h) hFc (fun r_5 u_6 t H1 locs ht hvm hw hB hz1 hk1 hS => ?_)
  obtain ⟨ul_7, um_8, up_9, ut_10⟩ := u_6
  dsimp only at hw
  obtain ⟨hP1, hK1, hD1⟩ := hB
  rw [ht] at hP1
  have hK1 := va_K.moved hvm.symm hK1
  have hK := hK.app hK1
  obtain ⟨hP, hD⟩ := va_join (wr := [(h0, .inr (10, xF hm h1 h2 h3 0 0 1000)), (hm, .inr (5, [.int 0, .int 0])), (h1, .inl (cx 1, 24, .inr (.inr (.inr (.inr (fun _ => none)))))), (h2, .inl (cx 2, 100, .inr (.inl (fun _ => 0)))), (h3, .inl (cx 3, 100, .inl (fun _ => 0))), (a 1, .inl (ca 1, 24, .inl (fun _ => 0))), (a 2, .inl (ca 2, 24, .inl (fun _ => 0))), (a 3, .inl (ca 3, 24, .inl (fun _ => 0))), (a 4, .inl (ca 4, 24, .inl (fun _ => 0))), (a 5, .inl (ca 5, 24, .inr (.inl (fun _ => 0)))), (a 6, .inl (ca 6, 24, .inr (.inl (fun _ => 0)))), (a 13, .inl (ca 13, 100, .inl (fun _ => 0))), (a 14, .inl (ca 14, 100, .inr (.inl (fun _ => 0)))), (ho, .inl (co, 1, .inr (.inl (fun _ => 0))))]) (w1 := [(g0, .inr (11, mF a ul_7 um_8 up_9 ut_10))]) hP hD [5] [0, 1, 2, 3, 4, 6, 7, 8, 9, 10, 11, 12, 13, 14] rfl rfl (by decide) (by decide) hk1 hFc hP1 hD1
  generalize H1 = H at hP hS ⊢
  have hP : va_P (dC, dI) vwCl [(h0, .inr (10, xF hm h1 h2 h3 0 0 1000)), (hm, .inr (5, [.int 0, .int 0])), (h1, .inl (cx 1, 24, .inr (.inr (.inr (.inr (fun _ => none)))))), (h2, .inl (cx 2, 100, .inr (.inl (fun _ => 0)))), (h3, .inl (cx 3, 100, .inl (fun _ => 0))), (a 1, .inl (ca 1, 24, .inl (fun _ => 0))), (a 2, .inl (ca 2, 24, .inl (fun _ => 0))), (a 3, .inl (ca 3, 24, .inl (fun _ => 0))), (a 4, .inl (ca 4, 24, .inl (fun _ => 0))), (a 5, .inl (ca 5, 24, .inr (.inl (fun _ => 0)))), (a 6, .inl (ca 6, 24, .inr (.inl (fun _ => 0)))), (a 13, .inl (ca 13, 100, .inl (fun _ => 0))), (a 14, .inl (ca 14, 100, .inr (.inl (fun _ => 0)))), (ho, .inl (co, 1, .inr (.inl (fun _ => 0)))), (g0, .inr (11, mF a ul_7 um_8 up_9 ut_10))] H := hP
  have hD : va_D (lA s) [(h0, .inr (10, xF hm h1 h2 h3 0 0 1000)), (hm, .inr (5, [.int 0, .int 0])), (h1, .inl (cx 1, 24, .inr (.inr (.inr (.inr (fun _ => none)))))), (h2, .inl (cx 2, 100, .inr (.inl (fun _ => 0)))), (h3, .inl (cx 3, 100, .inl (fun _ => 0))), (a 1, .inl (ca 1, 24, .inl (fun _ => 0))), (a 2, .inl (ca 2, 24, .inl (fun _ => 0))), (a 3, .inl (ca 3, 24, .inl (fun _ => 0))), (a 4, .inl (ca 4, 24, .inl (fun _ => 0))), (a 5, .inl (ca 5, 24, .inr (.inl (fun _ => 0)))), (a 6, .inl (ca 6, 24, .inr (.inl (fun _ => 0)))), (a 13, .inl (ca 13, 100, .inl (fun _ => 0))), (a 14, .inl (ca 14, 100, .inr (.inl (fun _ => 0)))), (ho, .inl (co, 1, .inr (.inl (fun _ => 0)))), (g0, .inr (11, mF a ul_7 um_8 up_9 ut_10))] := hD
  have hK : va_K (dC, dI) vwCl [(cx 1, .object RX5), (cx 2, .long), (cx 3, .byte), (ca 1, .int), (ca 2, .int), (ca 3, .int), (ca 4, .int), (ca 5, .long), (ca 6, .long), (ca 13, .int), (ca 14, .long), (co, .long)] s := hK
  refine W.widen (k := 24) (n := 78348) (by decide +kernel) (by decide +kernel) ?_
  obtain rfl : ut_10 = 1 := hw
  refine lv_lstore (lv' := [(6, .long r_5), (5, .int 1), (4, .int 0), (3, .ref ho), (2, .ref g0), (1, .ref h0), (0, .ref b)]) hx hb dL_law_1991 hl (by decide) rfl (fun ls hl => ?_)
  refine lv_aload_n hx hb dL_law_1993 rfl (lv_at hl 4 rfl) ?_
  have hPc := hP.sub (ws' := [(g0, .inr (11, mF a ul_7 um_8 up_9 1))]) [14] rfl
  have hDc : va_D (fun _ => True) ([] : va_W) := nd_0
  have hKc := hK.sub (tys' := []) [] rfl
  have hFc := va_free (wc := []) hD hS hA [] rfl
  refine va_calli (va_runV (As := []) (rest := []) ⟨hx, hb, hml, hown, hts⟩ (c_X12_thrown l dC dI a g0 ul_7 um_8 up_9 1 H.size) (cwV 0 hts tL_law_X12_thrown rfl rfl rfl (by decide +kernel) ⟨Nat.le_of_ble_eq_true rfl, Nat.le_of_ble_eq_true rfl⟩) ⟨fun a U g mk q => by obtain ⟨q0, q1, qP, qK, qD⟩ := q; exact ⟨q0, q1, qP, va_K.moved (u := U) (U := U.calling g mk a) (Vm.Alike.refl U.vm) qK, qD⟩, va_recv hKc hPc (ci := 11) (q0 := 0) rfl rfl, fun U hU hW => ⟨rfl, by rw [hU], by rw [hU]; exact hPc, va_K.moved hW.alike hKc, nd_0⟩⟩ rfl rfl hl.1 rfl (lv_room (Nat.le_of_ble_eq_true rfl)) dL_law_1994 ⟨Nat.le_of_ble_eq_true rfl, Nat.le_of_ble_eq_true rfl⟩) hS (fun q _ h => hFc q h) hFc (fun r_12 u_13 t H1 locs ht hvm hw hB hz1 hk1 hS => ?_)
  have hP := nd_keep hP hk1
  generalize H1 = H at hP hS ⊢
  have hP : va_P (dC, dI) vwCl [(h0, .inr (10, xF hm h1 h2 h3 0 0 1000)), (hm, .inr (5, [.int 0, .int 0])), (h1, .inl (cx 1, 24, .inr (.inr (.inr (.inr (fun _ => none)))))), (h2, .inl (cx 2, 100, .inr (.inl (fun _ => 0)))), (h3, .inl (cx 3, 100, .inl (fun _ => 0))), (a 1, .inl (ca 1, 24, .inl (fun _ => 0))), (a 2, .inl (ca 2, 24, .inl (fun _ => 0))), (a 3, .inl (ca 3, 24, .inl (fun _ => 0))), (a 4, .inl (ca 4, 24, .inl (fun _ => 0))), (a 5, .inl (ca 5, 24, .inr (.inl (fun _ => 0)))), (a 6, .inl (ca 6, 24, .inr (.inl (fun _ => 0)))), (a 13, .inl (ca 13, 100, .inl (fun _ => 0))), (a 14, .inl (ca 14, 100, .inr (.inl (fun _ => 0)))), (ho, .inl (co, 1, .inr (.inl (fun _ => 0)))), (g0, .inr (11, mF a ul_7 um_8 up_9 1))] H := hP
  have hD : va_D (lA s) [(h0, .inr (10, xF hm h1 h2 h3 0 0 1000)), (hm, .inr (5, [.int 0, .int 0])), (h1, .inl (cx 1, 24, .inr (.inr (.inr (.inr (fun _ => none)))))), (h2, .inl (cx 2, 100, .inr (.inl (fun _ => 0)))), (h3, .inl (cx 3, 100, .inl (fun _ => 0))), (a 1, .inl (ca 1, 24, .inl (fun _ => 0))), (a 2, .inl (ca 2, 24, .inl (fun _ => 0))), (a 3, .inl (ca 3, 24, .inl (fun _ => 0))), (a 4, .inl (ca 4, 24, .inl (fun _ => 0))), (a 5, .inl (ca 5, 24, .inr (.inl (fun _ => 0)))), (a 6, .inl (ca 6, 24, .inr (.inl (fun _ => 0)))), (a 13, .inl (ca 13, 100, .inl (fun _ => 0))), (a 14, .inl (ca 14, 100, .inr (.inl (fun _ => 0)))), (ho, .inl (co, 1, .inr (.inl (fun _ => 0)))), (g0, .inr (11, mF a ul_7 um_8 up_9 1))] := hD
  refine W.widen (k := 24) (n := 78348) (by decide +kernel) (by decide +kernel) ?_
  obtain rfl : r_12 = 1 := hw
  refine lv_iload hx hb dL_law_1997 (lv_at hl 1 rfl) ?_
  refine lv_icmp_eq (tgt := 2004) hx hb dL_law_1999 (by decide) (fun c_1999 => ?_) (fun c_1999 => ?_)
  · refine lv_iload hx hb dL_law_2004 (lv_at hl 1 rfl) ?_
    refine lv_if_ne (tgt := 2020) hx hb dL_law_2006 (by decide) (fun c_2006 => ?_) (fun c_2006 => ?_)
    · refine lv_goto (tgt := 2206) hx hb dL_law_2020 (by decide) ?_
      refine W.widen (k := 100) (n := 200000) (by decide +kernel) (by decide +kernel) ?_
      exact law_end l hx hb hr hlocks hX hbl hbA hS (lv_sub hl [2, 6] rfl)
    · exact absurd c_2006 (by decide)
  · exact absurd c_1999 (by decide)
