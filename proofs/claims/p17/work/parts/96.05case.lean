theorem dL_law_1440 : decode cL_law 1440 = .ok (.aload_n 1, 1) := by decide +kernel
theorem dL_law_1441 : decode cL_law 1441 = .ok (.aload_n 0, 1) := by decide +kernel
theorem dL_law_1442 : decode cL_law 1442 = .ok (.iload 4, 2) := by decide +kernel
theorem dL_law_1444 : decode cL_law 1444 = .ok (.iconst 1, 1) := by decide +kernel
theorem dL_law_1445 : decode cL_law 1445 = .ok (.iadd, 1) := by decide +kernel
theorem dL_law_1446 : decode cL_law 1446 = .ok (.iaload, 1) := by decide +kernel
theorem dL_law_1447 : decode cL_law 1447 = .ok (.aload_n 3, 1) := by decide +kernel
theorem dL_law_1448 : decode cL_law 1448 = .ok (.invokestatic 176, 3) := by decide +kernel
theorem dL_law_1451 : decode cL_law 1451 = .ok (.istore 5, 2) := by decide +kernel
theorem dL_law_1453 : decode cL_law 1453 = .ok (.aload_n 2, 1) := by decide +kernel
theorem dL_law_1454 : decode cL_law 1454 = .ok (.aload_n 0, 1) := by decide +kernel
theorem dL_law_1455 : decode cL_law 1455 = .ok (.iload 4, 2) := by decide +kernel
theorem dL_law_1457 : decode cL_law 1457 = .ok (.iconst 1, 1) := by decide +kernel
theorem dL_law_1458 : decode cL_law 1458 = .ok (.iadd, 1) := by decide +kernel
theorem dL_law_1459 : decode cL_law 1459 = .ok (.iaload, 1) := by decide +kernel
theorem dL_law_1460 : decode cL_law 1460 = .ok (.invokevirtual 178, 3) := by decide +kernel
theorem dL_law_1463 : decode cL_law 1463 = .ok (.lstore 6, 2) := by decide +kernel
theorem dL_law_1465 : decode cL_law 1465 = .ok (.goto 123, 3) := by decide +kernel
theorem dL_law_1468 : decode cL_law 1468 = .ok (.aload_n 1, 1) := by decide +kernel
theorem dL_law_1469 : decode cL_law 1469 = .ok (.invokevirtual 179, 3) := by decide +kernel
theorem dL_law_1472 : decode cL_law 1472 = .ok (.pop, 1) := by decide +kernel
theorem dL_law_1473 : decode cL_law 1473 = .ok (.aload_n 2, 1) := by decide +kernel
theorem dL_law_1474 : decode cL_law 1474 = .ok (.invokevirtual 182, 3) := by decide +kernel
theorem dL_law_1477 : decode cL_law 1477 = .ok (.pop, 1) := by decide +kernel
theorem dL_law_1478 : decode cL_law 1478 = .ok (.goto 110, 3) := by decide +kernel
theorem dL_law_1481 : decode cL_law 1481 = .ok (.aload_n 1, 1) := by decide +kernel
theorem dL_law_1482 : decode cL_law 1482 = .ok (.invokevirtual 183, 3) := by decide +kernel
theorem dL_law_1485 : decode cL_law 1485 = .ok (.pop, 1) := by decide +kernel
theorem dL_law_1486 : decode cL_law 1486 = .ok (.aload_n 2, 1) := by decide +kernel
theorem dL_law_1487 : decode cL_law 1487 = .ok (.invokevirtual 186, 3) := by decide +kernel
theorem dL_law_1490 : decode cL_law 1490 = .ok (.pop, 1) := by decide +kernel
theorem dL_law_1491 : decode cL_law 1491 = .ok (.goto 97, 3) := by decide +kernel
theorem dL_law_1494 : decode cL_law 1494 = .ok (.aload_n 1, 1) := by decide +kernel
theorem dL_law_1495 : decode cL_law 1495 = .ok (.invokevirtual 187, 3) := by decide +kernel
theorem dL_law_1498 : decode cL_law 1498 = .ok (.pop, 1) := by decide +kernel
theorem dL_law_1499 : decode cL_law 1499 = .ok (.aload_n 2, 1) := by decide +kernel
theorem dL_law_1500 : decode cL_law 1500 = .ok (.invokevirtual 190, 3) := by decide +kernel
theorem dL_law_1503 : decode cL_law 1503 = .ok (.pop, 1) := by decide +kernel
theorem dL_law_1504 : decode cL_law 1504 = .ok (.goto 84, 3) := by decide +kernel
set_option maxHeartbeats 4000000 in
set_option maxRecDepth 100000 in
theorem law_case_20 {p : Program} {l : Launch} {e : Env} {s : State} {m : MethodId} {below : List Frame} {meth : Method} {c : Code} {b L : Nat} {xs : Nat → Int32} {dC : Nat → ClassId} {dI : Nat → Nat → Nat} {h0 g0 ho : Nat} {a : Nat → Nat} {ca : Nat → ClassId} {co : ClassId} (hl0 : l.stackTraces = false) (hF : LFix p s m meth c b L xs dC dI ca co) {i cl sl : Nat} (hi : i + 6 ≤ L) (hC : cl + 10 ≤ room_1.cells) (hSl : sl + 2100 ≤ room_1.slots) (go : LGo p l e s m below meth c b dC dI h0 g0 ho a ca co i 1588 (cl + 10) (sl + 2100)) : LGo p l e s m below meth c b dC dI h0 g0 ho a ca co i 1440 cl sl := by
  obtain ⟨C0, hG, hN, hZ, hKm, hO, hL⟩ := hF
  obtain ⟨hx, hb, hr, hml, hown, hts, hX, hbl, hlocks, hgv⟩ := C0
  have hA : ∀ q : Nat, s.heap.size ≤ q → lA s q := fun _ h => h
  have hbA : ¬ lA s b := Nat.not_le.mpr hbl
  intro sh rk ci ai al f v w fi fl nn mm uu H locs ls hXI hRI hK hP hD hS hl
  obtain ⟨x1, ex1⟩ : ∃ x, xs (nI i + nI 1).toNatClampNeg = x := ⟨_, rfl⟩
  refine lv_aload_n hx hb dL_law_1440 rfl (lv_at hl 3 rfl) ?_
  refine lv_aload_n hx hb dL_law_1441 rfl (lv_at hl 4 rfl) ?_
  refine lv_iload hx hb dL_law_1442 (lv_at hl 0 rfl) ?_
  refine lv_iconst (v := 1) hx hb dL_law_1444 (by decide) ?_
  refine lv_iadd hx hb dL_law_1445 ?_
  refine lw_sld (x := x1) hx hb hX hbl hbA hS (lw_in (k := 1) hi hL (by decide)) dL_law_1446 ex1 ?_
  refine lv_aload_n hx hb dL_law_1447 rfl (lv_at hl 1 rfl) ?_
  refine l_end (mc := 3) (ms := 20) (cells := cl) (slots := sl) (vx_runSW (rm := rmL_last) (As := [.ref h0, .int x1, .ref ho]) (rest := []) ⟨hx, hb, hml, hown, hts⟩ (p_L_last l hl0 dC dI _ _ _ _ h0 x1 co ho f _ (j_last (p0 := x1) hXI f) H.size) (vx_cwSW 3 hts gl_L_last rfl rfl rfl hd_L_last ⟨Nat.le_of_ble_eq_true rfl, Nat.le_of_ble_eq_true rfl⟩) (l_preS hK hO (fr_P2 hP) (fr_D2 hD) hA hS hG hN hZ) rfl rfl hl.1 rfl (lv_room (Nat.le_of_ble_eq_true rfl)) dL_law_1448 ⟨Nat.le_trans (Nat.add_le_add_left (by decide) _) hC, Nat.le_trans (Nat.add_le_add_left (by decide) _) hSl⟩) hP hD hS hA (fun k9 sh1 ci1 ai1 al1 f1 H locs h hK hP hD hS => ?_)
  obtain ⟨rk1, hXI⟩ := h
  refine lv_istore (lv' := [(5, .int k9), (4, .int (nI i)), (3, .ref ho), (2, .ref g0), (1, .ref h0), (0, .ref b)]) hx hb dL_law_1451 hl (by decide) rfl (fun ls hl => ?_)
  refine lv_aload_n hx hb dL_law_1453 rfl (lv_at hl 3 rfl) ?_
  refine lv_aload_n hx hb dL_law_1454 rfl (lv_at hl 5 rfl) ?_
  refine lv_iload hx hb dL_law_1455 (lv_at hl 1 rfl) ?_
  refine lv_iconst (v := 1) hx hb dL_law_1457 (by decide) ?_
  refine lv_iadd hx hb dL_law_1458 ?_
  refine lw_sld (x := x1) hx hb hX hbl hbA hS (lw_in (k := 1) hi hL (by decide)) dL_law_1459 ex1 ?_
  refine lm_calll (rm := ({ frames := 32, cells := 0, slots := 0, locals := 480 })) (As := [.int x1]) (rest := []) (cells := (cl + 3)) (slots := (sl + 20)) (fun sz => p_X12_last l dC dI a ca g0 _ _ _ _ x1 _ (r_last hRI (Q := fun r8 v8 w8 fi8 fl8 => RI v8 fi8 nn mm uu) (fun r8 v8 w8 fi8 fl8 h8 => h8)) sz) ⟨hx, hb, hml, hown, hts⟩ (cwV 1 hts gl_X12_last rfl rfl rfl hd_X12_last ⟨Nat.le_of_ble_eq_true rfl, Nat.le_of_ble_eq_true rfl⟩) rfl hl.1 rfl hKm hP hD hS hA (Nat.le_of_ble_eq_true rfl) ⟨Nat.le_trans (Nat.add_le_add_left (by decide) _) hC, Nat.le_trans (Nat.add_le_add_left (by decide) _) hSl⟩ dL_law_1460 (fun b1 v1 w1 fi1 fl1 H locs h hP hD hS => ?_)
  have hRI := h
  refine lv_lstore (lv' := [(6, .long b1), (5, .int k9), (4, .int (nI i)), (3, .ref ho), (2, .ref g0), (1, .ref h0), (0, .ref b)]) hx hb dL_law_1463 hl (by decide) rfl (fun ls hl => ?_)
  refine lv_goto (tgt := 1588) hx hb dL_law_1465 (by decide) ?_
  exact W.widen (k := cl + 10) (n := sl + 2100) (Nat.add_le_add_left (by decide) _) (Nat.add_le_add_left (by decide) _) (go _ _ _ _ _ _ _ _ _ _ _ _ _ H _ ls hXI hRI hK hP hD hS (lv_sub hl [2, 3, 4, 5, 6] rfl))
set_option maxHeartbeats 4000000 in
set_option maxRecDepth 100000 in
theorem law_case_21 {p : Program} {l : Launch} {e : Env} {s : State} {m : MethodId} {below : List Frame} {meth : Method} {c : Code} {b L : Nat} {xs : Nat → Int32} {dC : Nat → ClassId} {dI : Nat → Nat → Nat} {h0 g0 ho : Nat} {a : Nat → Nat} {ca : Nat → ClassId} {co : ClassId} (hl0 : l.stackTraces = false) (hF : LFix p s m meth c b L xs dC dI ca co) {i cl sl : Nat} (hi : i + 6 ≤ L) (hC : cl + 10 ≤ room_1.cells) (hSl : sl + 2100 ≤ room_1.slots) (go : LGo p l e s m below meth c b dC dI h0 g0 ho a ca co i 1588 (cl + 10) (sl + 2100)) : LGo p l e s m below meth c b dC dI h0 g0 ho a ca co i 1468 cl sl := by
  obtain ⟨C0, hG, hN, hZ, hKm, hO, hL⟩ := hF
  obtain ⟨hx, hb, hr, hml, hown, hts, hX, hbl, hlocks, hgv⟩ := C0
  have hA : ∀ q : Nat, s.heap.size ≤ q → lA s q := fun _ h => h
  have hbA : ¬ lA s b := Nat.not_le.mpr hbl
  intro sh rk ci ai al f v w fi fl nn mm uu H locs ls hXI hRI hK hP hD hS hl
  refine lv_aload_n hx hb dL_law_1468 rfl (lv_at hl 3 rfl) ?_
  refine lx_calli (mc := 0) (ms := 0) (cells := cl) (slots := sl) (wr := oW co ho f) (wm := mW a ca g0 v w fi fl) (va_runV (rm := ({ frames := 60, cells := 0, slots := 0, locals := 2000 })) (As := []) (rest := []) ⟨hx, hb, hml, hown, hts⟩ (p_X11_outcome l dC dI _ _ _ _ h0 _ (ok_outcome hXI (Q := fun r8 sh8 ci8 ai8 al8 => XI sh8 rk h0 ci8 ai8 nn mm (nI uu)) (fun _ => hXI)) H.size) (cwV 0 hts gl_X11_outcome rfl rfl rfl hd_X11_outcome ⟨Nat.le_of_ble_eq_true rfl, Nat.le_of_ble_eq_true rfl⟩) (c_preV (vc := (RX11, TX11, 9)) hK (fr_P2 (fr_P2 hP)) (fr_D2 (fr_D2 hD)) hG hXI.own.1 hXI.own.2 (by decide) rfl) rfl rfl hl.1 rfl (lv_room (Nat.le_of_ble_eq_true rfl)) dL_law_1469 ⟨Nat.le_trans (Nat.add_le_add_left (by decide) _) hC, Nat.le_trans (Nat.add_le_add_left (by decide) _) hSl⟩) hP hD hS hA (fun r1 sh1 ci1 ai1 al1 H locs h hK hP hD hS => ?_)
  have hXI := h
  refine lv_pop hx hb dL_law_1472 rfl ?_
  refine lv_aload_n hx hb dL_law_1473 rfl (lv_at hl 2 rfl) ?_
  refine lm_calli (rm := ({ frames := 4, cells := 0, slots := 0, locals := 60 })) (As := []) (rest := []) (cells := (cl + 0)) (slots := (sl + 0)) (fun sz => p_X12_outcome l dC dI a ca g0 _ _ _ _  _ (r_outcome hRI (Q := fun r8 v8 w8 fi8 fl8 => RI v8 fi8 nn mm uu) (fun r8 v8 w8 fi8 fl8 h8 => h8)) sz) ⟨hx, hb, hml, hown, hts⟩ (cwV 0 hts gl_X12_outcome rfl rfl rfl hd_X12_outcome ⟨Nat.le_of_ble_eq_true rfl, Nat.le_of_ble_eq_true rfl⟩) rfl hl.1 rfl hKm hP hD hS hA (Nat.le_of_ble_eq_true rfl) ⟨Nat.le_trans (Nat.add_le_add_left (by decide) _) hC, Nat.le_trans (Nat.add_le_add_left (by decide) _) hSl⟩ dL_law_1474 (fun b1 v1 w1 fi1 fl1 H locs h hP hD hS => ?_)
  have hRI := h
  refine lv_pop hx hb dL_law_1477 rfl ?_
  refine lv_goto (tgt := 1588) hx hb dL_law_1478 (by decide) ?_
  exact W.widen (k := cl + 10) (n := sl + 2100) (Nat.add_le_add_left (by decide) _) (Nat.add_le_add_left (by decide) _) (go _ _ _ _ _ _ _ _ _ _ _ _ _ H _ ls hXI hRI hK hP hD hS (lv_sub hl [0, 1, 2, 3, 4] rfl))
set_option maxHeartbeats 4000000 in
set_option maxRecDepth 100000 in
theorem law_case_22 {p : Program} {l : Launch} {e : Env} {s : State} {m : MethodId} {below : List Frame} {meth : Method} {c : Code} {b L : Nat} {xs : Nat → Int32} {dC : Nat → ClassId} {dI : Nat → Nat → Nat} {h0 g0 ho : Nat} {a : Nat → Nat} {ca : Nat → ClassId} {co : ClassId} (hl0 : l.stackTraces = false) (hF : LFix p s m meth c b L xs dC dI ca co) {i cl sl : Nat} (hi : i + 6 ≤ L) (hC : cl + 10 ≤ room_1.cells) (hSl : sl + 2100 ≤ room_1.slots) (go : LGo p l e s m below meth c b dC dI h0 g0 ho a ca co i 1588 (cl + 10) (sl + 2100)) : LGo p l e s m below meth c b dC dI h0 g0 ho a ca co i 1481 cl sl := by
  obtain ⟨C0, hG, hN, hZ, hKm, hO, hL⟩ := hF
  obtain ⟨hx, hb, hr, hml, hown, hts, hX, hbl, hlocks, hgv⟩ := C0
  have hA : ∀ q : Nat, s.heap.size ≤ q → lA s q := fun _ h => h
  have hbA : ¬ lA s b := Nat.not_le.mpr hbl
  intro sh rk ci ai al f v w fi fl nn mm uu H locs ls hXI hRI hK hP hD hS hl
  refine lv_aload_n hx hb dL_law_1481 rfl (lv_at hl 3 rfl) ?_
  refine lx_calli (mc := 0) (ms := 0) (cells := cl) (slots := sl) (wr := oW co ho f) (wm := mW a ca g0 v w fi fl) (va_runV (rm := ({ frames := 60, cells := 0, slots := 0, locals := 2000 })) (As := []) (rest := []) ⟨hx, hb, hml, hown, hts⟩ (p_X11_error l dC dI _ _ _ _ h0 _ (ok_error hXI (Q := fun r8 sh8 ci8 ai8 al8 => XI sh8 rk h0 ci8 ai8 nn mm (nI uu)) (fun _ => hXI)) H.size) (cwV 0 hts gl_X11_error rfl rfl rfl hd_X11_error ⟨Nat.le_of_ble_eq_true rfl, Nat.le_of_ble_eq_true rfl⟩) (c_preV (vc := (RX11, TX11, 9)) hK (fr_P2 (fr_P2 hP)) (fr_D2 (fr_D2 hD)) hG hXI.own.1 hXI.own.2 (by decide) rfl) rfl rfl hl.1 rfl (lv_room (Nat.le_of_ble_eq_true rfl)) dL_law_1482 ⟨Nat.le_trans (Nat.add_le_add_left (by decide) _) hC, Nat.le_trans (Nat.add_le_add_left (by decide) _) hSl⟩) hP hD hS hA (fun r1 sh1 ci1 ai1 al1 H locs h hK hP hD hS => ?_)
  have hXI := h
  refine lv_pop hx hb dL_law_1485 rfl ?_
  refine lv_aload_n hx hb dL_law_1486 rfl (lv_at hl 2 rfl) ?_
  refine lm_calli (rm := ({ frames := 4, cells := 0, slots := 0, locals := 60 })) (As := []) (rest := []) (cells := (cl + 0)) (slots := (sl + 0)) (fun sz => p_X12_error l dC dI a ca g0 _ _ _ _  _ (r_error hRI (Q := fun r8 v8 w8 fi8 fl8 => RI v8 fi8 nn mm uu) (fun r8 v8 w8 fi8 fl8 h8 => h8)) sz) ⟨hx, hb, hml, hown, hts⟩ (cwV 0 hts gl_X12_error rfl rfl rfl hd_X12_error ⟨Nat.le_of_ble_eq_true rfl, Nat.le_of_ble_eq_true rfl⟩) rfl hl.1 rfl hKm hP hD hS hA (Nat.le_of_ble_eq_true rfl) ⟨Nat.le_trans (Nat.add_le_add_left (by decide) _) hC, Nat.le_trans (Nat.add_le_add_left (by decide) _) hSl⟩ dL_law_1487 (fun b1 v1 w1 fi1 fl1 H locs h hP hD hS => ?_)
  have hRI := h
  refine lv_pop hx hb dL_law_1490 rfl ?_
  refine lv_goto (tgt := 1588) hx hb dL_law_1491 (by decide) ?_
  exact W.widen (k := cl + 10) (n := sl + 2100) (Nat.add_le_add_left (by decide) _) (Nat.add_le_add_left (by decide) _) (go _ _ _ _ _ _ _ _ _ _ _ _ _ H _ ls hXI hRI hK hP hD hS (lv_sub hl [0, 1, 2, 3, 4] rfl))
set_option maxHeartbeats 4000000 in
set_option maxRecDepth 100000 in
theorem law_case_23 {p : Program} {l : Launch} {e : Env} {s : State} {m : MethodId} {below : List Frame} {meth : Method} {c : Code} {b L : Nat} {xs : Nat → Int32} {dC : Nat → ClassId} {dI : Nat → Nat → Nat} {h0 g0 ho : Nat} {a : Nat → Nat} {ca : Nat → ClassId} {co : ClassId} (hl0 : l.stackTraces = false) (hF : LFix p s m meth c b L xs dC dI ca co) {i cl sl : Nat} (hi : i + 6 ≤ L) (hC : cl + 10 ≤ room_1.cells) (hSl : sl + 2100 ≤ room_1.slots) (go : LGo p l e s m below meth c b dC dI h0 g0 ho a ca co i 1588 (cl + 10) (sl + 2100)) : LGo p l e s m below meth c b dC dI h0 g0 ho a ca co i 1494 cl sl := by
  obtain ⟨C0, hG, hN, hZ, hKm, hO, hL⟩ := hF
  obtain ⟨hx, hb, hr, hml, hown, hts, hX, hbl, hlocks, hgv⟩ := C0
  have hA : ∀ q : Nat, s.heap.size ≤ q → lA s q := fun _ h => h
  have hbA : ¬ lA s b := Nat.not_le.mpr hbl
  intro sh rk ci ai al f v w fi fl nn mm uu H locs ls hXI hRI hK hP hD hS hl
  refine lv_aload_n hx hb dL_law_1494 rfl (lv_at hl 3 rfl) ?_
  refine lx_calli (mc := 0) (ms := 0) (cells := cl) (slots := sl) (wr := oW co ho f) (wm := mW a ca g0 v w fi fl) (va_runV (rm := ({ frames := 60, cells := 0, slots := 0, locals := 2000 })) (As := []) (rest := []) ⟨hx, hb, hml, hown, hts⟩ (p_X11_spent l dC dI _ _ _ _ h0 _ (ok_spent hXI (Q := fun r8 sh8 ci8 ai8 al8 => XI sh8 rk h0 ci8 ai8 nn mm (nI uu)) (fun _ => hXI)) H.size) (cwV 0 hts gl_X11_spent rfl rfl rfl hd_X11_spent ⟨Nat.le_of_ble_eq_true rfl, Nat.le_of_ble_eq_true rfl⟩) (c_preV (vc := (RX11, TX11, 9)) hK (fr_P2 (fr_P2 hP)) (fr_D2 (fr_D2 hD)) hG hXI.own.1 hXI.own.2 (by decide) rfl) rfl rfl hl.1 rfl (lv_room (Nat.le_of_ble_eq_true rfl)) dL_law_1495 ⟨Nat.le_trans (Nat.add_le_add_left (by decide) _) hC, Nat.le_trans (Nat.add_le_add_left (by decide) _) hSl⟩) hP hD hS hA (fun r1 sh1 ci1 ai1 al1 H locs h hK hP hD hS => ?_)
  have hXI := h
  refine lv_pop hx hb dL_law_1498 rfl ?_
  refine lv_aload_n hx hb dL_law_1499 rfl (lv_at hl 2 rfl) ?_
  refine lm_calli (rm := ({ frames := 4, cells := 0, slots := 0, locals := 60 })) (As := []) (rest := []) (cells := (cl + 0)) (slots := (sl + 0)) (fun sz => p_X12_spent l dC dI a ca g0 _ _ _ _  _ (r_spent hRI (Q := fun r8 v8 w8 fi8 fl8 => RI v8 fi8 nn mm uu) (fun r8 v8 w8 fi8 fl8 h8 => h8)) sz) ⟨hx, hb, hml, hown, hts⟩ (cwV 0 hts gl_X12_spent rfl rfl rfl hd_X12_spent ⟨Nat.le_of_ble_eq_true rfl, Nat.le_of_ble_eq_true rfl⟩) rfl hl.1 rfl hKm hP hD hS hA (Nat.le_of_ble_eq_true rfl) ⟨Nat.le_trans (Nat.add_le_add_left (by decide) _) hC, Nat.le_trans (Nat.add_le_add_left (by decide) _) hSl⟩ dL_law_1500 (fun b1 v1 w1 fi1 fl1 H locs h hP hD hS => ?_)
  have hRI := h
  refine lv_pop hx hb dL_law_1503 rfl ?_
  refine lv_goto (tgt := 1588) hx hb dL_law_1504 (by decide) ?_
  exact W.widen (k := cl + 10) (n := sl + 2100) (Nat.add_le_add_left (by decide) _) (Nat.add_le_add_left (by decide) _) (go _ _ _ _ _ _ _ _ _ _ _ _ _ H _ ls hXI hRI hK hP hD hS (lv_sub hl [0, 1, 2, 3, 4] rfl))
