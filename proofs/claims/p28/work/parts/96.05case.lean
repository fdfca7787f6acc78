theorem dL_law_1412 : decode cL_law 1412 = .ok (.aload_n 1, 1) := by decide +kernel
theorem dL_law_1413 : decode cL_law 1413 = .ok (.aload_n 0, 1) := by decide +kernel
theorem dL_law_1414 : decode cL_law 1414 = .ok (.iload 4, 2) := by decide +kernel
theorem dL_law_1416 : decode cL_law 1416 = .ok (.iconst 1, 1) := by decide +kernel
theorem dL_law_1417 : decode cL_law 1417 = .ok (.iadd, 1) := by decide +kernel
theorem dL_law_1418 : decode cL_law 1418 = .ok (.iaload, 1) := by decide +kernel
theorem dL_law_1419 : decode cL_law 1419 = .ok (.aload_n 3, 1) := by decide +kernel
theorem dL_law_1420 : decode cL_law 1420 = .ok (.invokestatic 172, 3) := by decide +kernel
theorem dL_law_1423 : decode cL_law 1423 = .ok (.istore 5, 2) := by decide +kernel
theorem dL_law_1425 : decode cL_law 1425 = .ok (.aload_n 2, 1) := by decide +kernel
theorem dL_law_1426 : decode cL_law 1426 = .ok (.aload_n 0, 1) := by decide +kernel
theorem dL_law_1427 : decode cL_law 1427 = .ok (.iload 4, 2) := by decide +kernel
theorem dL_law_1429 : decode cL_law 1429 = .ok (.iconst 1, 1) := by decide +kernel
theorem dL_law_1430 : decode cL_law 1430 = .ok (.iadd, 1) := by decide +kernel
theorem dL_law_1431 : decode cL_law 1431 = .ok (.iaload, 1) := by decide +kernel
theorem dL_law_1432 : decode cL_law 1432 = .ok (.invokevirtual 174, 3) := by decide +kernel
theorem dL_law_1435 : decode cL_law 1435 = .ok (.lstore 6, 2) := by decide +kernel
theorem dL_law_1437 : decode cL_law 1437 = .ok (.goto 123, 3) := by decide +kernel
theorem dL_law_1440 : decode cL_law 1440 = .ok (.aload_n 1, 1) := by decide +kernel
theorem dL_law_1441 : decode cL_law 1441 = .ok (.invokevirtual 175, 3) := by decide +kernel
theorem dL_law_1444 : decode cL_law 1444 = .ok (.pop, 1) := by decide +kernel
theorem dL_law_1445 : decode cL_law 1445 = .ok (.aload_n 2, 1) := by decide +kernel
theorem dL_law_1446 : decode cL_law 1446 = .ok (.invokevirtual 179, 3) := by decide +kernel
theorem dL_law_1449 : decode cL_law 1449 = .ok (.pop, 1) := by decide +kernel
theorem dL_law_1450 : decode cL_law 1450 = .ok (.goto 110, 3) := by decide +kernel
theorem dL_law_1453 : decode cL_law 1453 = .ok (.aload_n 1, 1) := by decide +kernel
theorem dL_law_1454 : decode cL_law 1454 = .ok (.invokevirtual 180, 3) := by decide +kernel
theorem dL_law_1457 : decode cL_law 1457 = .ok (.pop, 1) := by decide +kernel
theorem dL_law_1458 : decode cL_law 1458 = .ok (.aload_n 2, 1) := by decide +kernel
theorem dL_law_1459 : decode cL_law 1459 = .ok (.invokevirtual 183, 3) := by decide +kernel
theorem dL_law_1462 : decode cL_law 1462 = .ok (.pop, 1) := by decide +kernel
theorem dL_law_1463 : decode cL_law 1463 = .ok (.goto 97, 3) := by decide +kernel
theorem dL_law_1466 : decode cL_law 1466 = .ok (.aload_n 1, 1) := by decide +kernel
theorem dL_law_1467 : decode cL_law 1467 = .ok (.invokevirtual 184, 3) := by decide +kernel
theorem dL_law_1470 : decode cL_law 1470 = .ok (.pop, 1) := by decide +kernel
theorem dL_law_1471 : decode cL_law 1471 = .ok (.aload_n 2, 1) := by decide +kernel
theorem dL_law_1472 : decode cL_law 1472 = .ok (.invokevirtual 187, 3) := by decide +kernel
theorem dL_law_1475 : decode cL_law 1475 = .ok (.pop, 1) := by decide +kernel
theorem dL_law_1476 : decode cL_law 1476 = .ok (.goto 84, 3) := by decide +kernel
set_option maxHeartbeats 4000000 in
set_option maxRecDepth 100000 in
theorem law_case_20 {p : Program} {l : Launch} {e : Env} {s : State} {m : MethodId} {below : List Frame} {meth : Method} {c : Code} {b L : Nat} {xs : Nat → Int32} {dC : Nat → ClassId} {dI : Nat → Nat → Nat} {h0 g0 ho : Nat} {a : Nat → Nat} {ca : Nat → ClassId} {co : ClassId} (hl0 : l.stackTraces = false) (hF : LFix p s m meth c b L xs dC dI ca co) {i cl sl : Nat} (hi : i + 6 ≤ L) (hC : cl + 10 ≤ room_1.cells) (hSl : sl + 2100 ≤ room_1.slots) (go : LGo p l e s m below meth c b dC dI h0 g0 ho a ca co i 1560 (cl + 10) (sl + 2100)) : LGo p l e s m below meth c b dC dI h0 g0 ho a ca co i 1412 cl sl := by
  obtain ⟨C0, hG, hN, hZ, hKm, hO, hL⟩ := hF
  obtain ⟨hx, hb, hr, hml, hown, hts, hX, hbl, hlocks, hgv⟩ := C0
  have hA : ∀ q : Nat, s.heap.size ≤ q → lA s q := fun _ h => h
  have hbA : ¬ lA s b := Nat.not_le.mpr hbl
  intro sh rk ci ai al f v w fi fl nn mm uu H locs ls hXI hRI hK hP hD hS hl
  obtain ⟨x1, ex1⟩ : ∃ x, xs (nI i + nI 1).toNatClampNeg = x := ⟨_, rfl⟩
  refine lv_aload_n hx hb dL_law_1412 rfl (lv_at hl 3 rfl) ?_
  refine lv_aload_n hx hb dL_law_1413 rfl (lv_at hl 4 rfl) ?_
  refine lv_iload hx hb dL_law_1414 (lv_at hl 0 rfl) ?_
  refine lv_iconst (v := 1) hx hb dL_law_1416 (by decide) ?_
  refine lv_iadd hx hb dL_law_1417 ?_
  refine lw_sld (x := x1) hx hb hX hbl hbA hS (lw_in (k := 1) hi hL (by decide)) dL_law_1418 ex1 ?_
  refine lv_aload_n hx hb dL_law_1419 rfl (lv_at hl 1 rfl) ?_
  refine l_end (mc := 3) (ms := 20) (cells := cl) (slots := sl) (vx_runSW (rm := rmL_last) (As := [.ref h0, .int x1, .ref ho]) (rest := []) ⟨hx, hb, hml, hown, hts⟩ (p_L_last l hl0 dC dI _ _ _ _ h0 x1 co ho f _ (j_last (p0 := x1) hXI f) H.size) (vx_cwSW 3 hts gl_L_last rfl rfl rfl hd_L_last ⟨Nat.le_of_ble_eq_true rfl, Nat.le_of_ble_eq_true rfl⟩) (l_preS hK hO (fr_P2 hP) (fr_D2 hD) hA hS hG hN hZ) rfl rfl hl.1 rfl (lv_room (Nat.le_of_ble_eq_true rfl)) dL_law_1420 ⟨Nat.le_trans (Nat.add_le_add_left (by decide) _) hC, Nat.le_trans (Nat.add_le_add_left (by decide) _) hSl⟩) hP hD hS hA (fun k9 sh1 ci1 ai1 al1 f1 H locs h hK hP hD hS => ?_)
  obtain ⟨rk1, hXI⟩ := h
  refine lv_istore (lv' := [(5, .int k9), (4, .int (nI i)), (3, .ref ho), (2, .ref g0), (1, .ref h0), (0, .ref b)]) hx hb dL_law_1423 hl (by decide) rfl (fun ls hl => ?_)
  refine lv_aload_n hx hb dL_law_1425 rfl (lv_at hl 3 rfl) ?_
  refine lv_aload_n hx hb dL_law_1426 rfl (lv_at hl 5 rfl) ?_
  refine lv_iload hx hb dL_law_1427 (lv_at hl 1 rfl) ?_
  refine lv_iconst (v := 1) hx hb dL_law_1429 (by decide) ?_
  refine lv_iadd hx hb dL_law_1430 ?_
  refine lw_sld (x := x1) hx hb hX hbl hbA hS (lw_in (k := 1) hi hL (by decide)) dL_law_1431 ex1 ?_
  refine lm_calll (rm := ({ frames := 32, cells := 0, slots := 0, locals := 480 })) (As := [.int x1]) (rest := []) (cells := (cl + 3)) (slots := (sl + 20)) (fun sz => p_X12_last l dC dI a ca g0 _ _ _ _ x1 _ (r_last hRI (Q := fun r8 v8 w8 fi8 fl8 => RI v8 fi8 nn mm uu) (fun r8 v8 w8 fi8 fl8 h8 => h8)) sz) ⟨hx, hb, hml, hown, hts⟩ (cwV 1 hts gl_X12_last rfl rfl rfl hd_X12_last ⟨Nat.le_of_ble_eq_true rfl, Nat.le_of_ble_eq_true rfl⟩) rfl hl.1 rfl hKm hP hD hS hA (Nat.le_of_ble_eq_true rfl) ⟨Nat.le_trans (Nat.add_le_add_left (by decide) _) hC, Nat.le_trans (Nat.add_le_add_left (by decide) _) hSl⟩ dL_law_1432 (fun b1 v1 w1 fi1 fl1 H locs h hP hD hS => ?_)
  have hRI := h
  refine lv_lstore (lv' := [(6, .long b1), (5, .int k9), (4, .int (nI i)), (3, .ref ho), (2, .ref g0), (1, .ref h0), (0, .ref b)]) hx hb dL_law_1435 hl (by decide) rfl (fun ls hl => ?_)
  refine lv_goto (tgt := 1560) hx hb dL_law_1437 (by decide) ?_
  exact W.widen (k := cl + 10) (n := sl + 2100) (Nat.add_le_add_left (by decide) _) (Nat.add_le_add_left (by decide) _) (go _ _ _ _ _ _ _ _ _ _ _ _ _ H _ ls hXI hRI hK hP hD hS (lv_sub hl [2, 3, 4, 5, 6] rfl))
set_option maxHeartbeats 4000000 in
set_option maxRecDepth 100000 in
theorem law_case_21 {p : Program} {l : Launch} {e : Env} {s : State} {m : MethodId} {below : List Frame} {meth : Method} {c : Code} {b L : Nat} {xs : Nat → Int32} {dC : Nat → ClassId} {dI : Nat → Nat → Nat} {h0 g0 ho : Nat} {a : Nat → Nat} {ca : Nat → ClassId} {co : ClassId} (hl0 : l.stackTraces = false) (hF : LFix p s m meth c b L xs dC dI ca co) {i cl sl : Nat} (hi : i + 6 ≤ L) (hC : cl + 10 ≤ room_1.cells) (hSl : sl + 2100 ≤ room_1.slots) (go : LGo p l e s m below meth c b dC dI h0 g0 ho a ca co i 1560 (cl + 10) (sl + 2100)) : LGo p l e s m below meth c b dC dI h0 g0 ho a ca co i 1440 cl sl := by
  obtain ⟨C0, hG, hN, hZ, hKm, hO, hL⟩ := hF
  obtain ⟨hx, hb, hr, hml, hown, hts, hX, hbl, hlocks, hgv⟩ := C0
  have hA : ∀ q : Nat, s.heap.size ≤ q → lA s q := fun _ h => h
  have hbA : ¬ lA s b := Nat.not_le.mpr hbl
  intro sh rk ci ai al f v w fi fl nn mm uu H locs ls hXI hRI hK hP hD hS hl
  refine lv_aload_n hx hb dL_law_1440 rfl (lv_at hl 3 rfl) ?_
  refine lx_calli (mc := 0) (ms := 0) (cells := cl) (slots := sl) (wr := oW co ho f) (wm := mW a ca g0 v w fi fl) (va_runV (rm := ({ frames := 60, cells := 0, slots := 0, locals := 2000 })) (As := []) (rest := []) ⟨hx, hb, hml, hown, hts⟩ (p_X11_outcome l dC dI _ _ _ _ h0 _ (ok_outcome hXI (Q := fun r8 sh8 ci8 ai8 al8 => XI sh8 rk h0 ci8 ai8 nn mm (nI uu)) (fun _ => hXI)) H.size) (cwV 0 hts gl_X11_outcome rfl rfl rfl hd_X11_outcome ⟨Nat.le_of_ble_eq_true rfl, Nat.le_of_ble_eq_true rfl⟩) (c_preV (vc := (RX11, TX11, 9)) hK (fr_P2 (fr_P2 hP)) (fr_D2 (fr_D2 hD)) hG hXI.own.1 hXI.own.2 (by decide) rfl) rfl rfl hl.1 rfl (lv_room (Nat.le_of_ble_eq_true rfl)) dL_law_1441 ⟨Nat.le_trans (Nat.add_le_add_left (by decide) _) hC, Nat.le_trans (Nat.add_le_add_left (by decide) _) hSl⟩) hP hD hS hA (fun r1 sh1 ci1 ai1 al1 H locs h hK hP hD hS => ?_)
  have hXI := h
  refine lv_pop hx hb dL_law_1444 rfl ?_
  refine lv_aload_n hx hb dL_law_1445 rfl (lv_at hl 2 rfl) ?_
  refine lm_calli (rm := ({ frames := 4, cells := 0, slots := 0, locals := 60 })) (As := []) (rest := []) (cells := (cl + 0)) (slots := (sl + 0)) (fun sz => p_X12_outcome l dC dI a ca g0 _ _ _ _  _ (r_outcome hRI (Q := fun r8 v8 w8 fi8 fl8 => RI v8 fi8 nn mm uu) (fun r8 v8 w8 fi8 fl8 h8 => h8)) sz) ⟨hx, hb, hml, hown, hts⟩ (cwV 0 hts gl_X12_outcome rfl rfl rfl hd_X12_outcome ⟨Nat.le_of_ble_eq_true rfl, Nat.le_of_ble_eq_true rfl⟩) rfl hl.1 rfl hKm hP hD hS hA (Nat.le_of_ble_eq_true rfl) ⟨Nat.le_trans (Nat.add_le_add_left (by decide) _) hC, Nat.le_trans (Nat.add_le_add_left (by decide) _) hSl⟩ dL_law_1446 (fun b1 v1 w1 fi1 fl1 H locs h hP hD hS => ?_)
  have hRI := h
  refine lv_pop hx hb dL_law_1449 rfl ?_
  refine lv_goto (tgt := 1560) hx hb dL_law_1450 (by decide) ?_
  exact W.widen (k := cl + 10) (n := sl + 2100) (Nat.add_le_add_left (by decide) _) (Nat.add_le_add_left (by decide) _) (go _ _ _ _ _ _ _ _ _ _ _ _ _ H _ ls hXI hRI hK hP hD hS (lv_sub hl [0, 1, 2, 3, 4] rfl))
set_option maxHeartbeats 4000000 in
set_option maxRecDepth 100000 in
theorem law_case_22 {p : Program} {l : Launch} {e : Env} {s : State} {m : MethodId} {below : List Frame} {meth : Method} {c : Code} {b L : Nat} {xs : Nat → Int32} {dC : Nat → ClassId} {dI : Nat → Nat → Nat} {h0 g0 ho : Nat} {a : Nat → Nat} {ca : Nat → ClassId} {co : ClassId} (hl0 : l.stackTraces = false) (hF : LFix p s m meth c b L xs dC dI ca co) {i cl sl : Nat} (hi : i + 6 ≤ L) (hC : cl + 10 ≤ room_1.cells) (hSl : sl + 2100 ≤ room_1.slots) (go : LGo p l e s m below meth c b dC dI h0 g0 ho a ca co i 1560 (cl + 10) (sl + 2100)) : LGo p l e s m below meth c b dC dI h0 g0 ho a ca co i 1453 cl sl := by
  obtain ⟨C0, hG, hN, hZ, hKm, hO, hL⟩ := hF
  obtain ⟨hx, hb, hr, hml, hown, hts, hX, hbl, hlocks, hgv⟩ := C0
  have hA : ∀ q : Nat, s.heap.size ≤ q → lA s q := fun _ h => h
  have hbA : ¬ lA s b := Nat.not_le.mpr hbl
  intro sh rk ci ai al f v w fi fl nn mm uu H locs ls hXI hRI hK hP hD hS hl
  refine lv_aload_n hx hb dL_law_1453 rfl (lv_at hl 3 rfl) ?_
  refine lx_calli (mc := 0) (ms := 0) (cells := cl) (slots := sl) (wr := oW co ho f) (wm := mW a ca g0 v w fi fl) (va_runV (rm := ({ frames := 60, cells := 0, slots := 0, locals := 2000 })) (As := []) (rest := []) ⟨hx, hb, hml, hown, hts⟩ (p_X11_error l dC dI _ _ _ _ h0 _ (ok_error hXI (Q := fun r8 sh8 ci8 ai8 al8 => XI sh8 rk h0 ci8 ai8 nn mm (nI uu)) (fun _ => hXI)) H.size) (cwV 0 hts gl_X11_error rfl rfl rfl hd_X11_error ⟨Nat.le_of_ble_eq_true rfl, Nat.le_of_ble_eq_true rfl⟩) (c_preV (vc := (RX11, TX11, 9)) hK (fr_P2 (fr_P2 hP)) (fr_D2 (fr_D2 hD)) hG hXI.own.1 hXI.own.2 (by decide) rfl) rfl rfl hl.1 rfl (lv_room (Nat.le_of_ble_eq_true rfl)) dL_law_1454 ⟨Nat.le_trans (Nat.add_le_add_left (by decide) _) hC, Nat.le_trans (Nat.add_le_add_left (by decide) _) hSl⟩) hP hD hS hA (fun r1 sh1 ci1 ai1 al1 H locs h hK hP hD hS => ?_)
  have hXI := h
  refine lv_pop hx hb dL_law_1457 rfl ?_
  refine lv_aload_n hx hb dL_law_1458 rfl (lv_at hl 2 rfl) ?_
  refine lm_calli (rm := ({ frames := 4, cells := 0, slots := 0, locals := 60 })) (As := []) (rest := []) (cells := (cl + 0)) (slots := (sl + 0)) (fun sz => p_X12_error l dC dI a ca g0 _ _ _ _  _ (r_error hRI (Q := fun r8 v8 w8 fi8 fl8 => RI v8 fi8 nn mm uu) (fun r8 v8 w8 fi8 fl8 h8 => h8)) sz) ⟨hx, hb, hml, hown, hts⟩ (cwV 0 hts gl_X12_error rfl rfl rfl hd_X12_error ⟨Nat.le_of_ble_eq_true rfl, Nat.le_of_ble_eq_true rfl⟩) rfl hl.1 rfl hKm hP hD hS hA (Nat.le_of_ble_eq_true rfl) ⟨Nat.le_trans (Nat.add_le_add_left (by decide) _) hC, Nat.le_trans (Nat.add_le_add_left (by decide) _) hSl⟩ dL_law_1459 (fun b1 v1 w1 fi1 fl1 H locs h hP hD hS => ?_)
  have hRI := h
  refine lv_pop hx hb dL_law_1462 rfl ?_
  refine lv_goto (tgt := 1560) hx hb dL_law_1463 (by decide) ?_
  exact W.widen (k := cl + 10) (n := sl + 2100) (Nat.add_le_add_left (by decide) _) (Nat.add_le_add_left (by decide) _) (go _ _ _ _ _ _ _ _ _ _ _ _ _ H _ ls hXI hRI hK hP hD hS (lv_sub hl [0, 1, 2, 3, 4] rfl))
set_option maxHeartbeats 4000000 in
set_option maxRecDepth 100000 in
theorem law_case_23 {p : Program} {l : Launch} {e : Env} {s : State} {m : MethodId} {below : List Frame} {meth : Method} {c : Code} {b L : Nat} {xs : Nat → Int32} {dC : Nat → ClassId} {dI : Nat → Nat → Nat} {h0 g0 ho : Nat} {a : Nat → Nat} {ca : Nat → ClassId} {co : ClassId} (hl0 : l.stackTraces = false) (hF : LFix p s m meth c b L xs dC dI ca co) {i cl sl : Nat} (hi : i + 6 ≤ L) (hC : cl + 10 ≤ room_1.cells) (hSl : sl + 2100 ≤ room_1.slots) (go : LGo p l e s m below meth c b dC dI h0 g0 ho a ca co i 1560 (cl + 10) (sl + 2100)) : LGo p l e s m below meth c b dC dI h0 g0 ho a ca co i 1466 cl sl := by
  obtain ⟨C0, hG, hN, hZ, hKm, hO, hL⟩ := hF
  obtain ⟨hx, hb, hr, hml, hown, hts, hX, hbl, hlocks, hgv⟩ := C0
  have hA : ∀ q : Nat, s.heap.size ≤ q → lA s q := fun _ h => h
  have hbA : ¬ lA s b := Nat.not_le.mpr hbl
  intro sh rk ci ai al f v w fi fl nn mm uu H locs ls hXI hRI hK hP hD hS hl
  refine lv_aload_n hx hb dL_law_1466 rfl (lv_at hl 3 rfl) ?_
  refine lx_calli (mc := 0) (ms := 0) (cells := cl) (slots := sl) (wr := oW co ho f) (wm := mW a ca g0 v w fi fl) (va_runV (rm := ({ frames := 60, cells := 0, slots := 0, locals := 2000 })) (As := []) (rest := []) ⟨hx, hb, hml, hown, hts⟩ (p_X11_spent l dC dI _ _ _ _ h0 _ (ok_spent hXI (Q := fun r8 sh8 ci8 ai8 al8 => XI sh8 rk h0 ci8 ai8 nn mm (nI uu)) (fun _ => hXI)) H.size) (cwV 0 hts gl_X11_spent rfl rfl rfl hd_X11_spent ⟨Nat.le_of_ble_eq_true rfl, Nat.le_of_ble_eq_true rfl⟩) (c_preV (vc := (RX11, TX11, 9)) hK (fr_P2 (fr_P2 hP)) (fr_D2 (fr_D2 hD)) hG hXI.own.1 hXI.own.2 (by decide) rfl) rfl rfl hl.1 rfl (lv_room (Nat.le_of_ble_eq_true rfl)) dL_law_1467 ⟨Nat.le_trans (Nat.add_le_add_left (by decide) _) hC, Nat.le_trans (Nat.add_le_add_left (by decide) _) hSl⟩) hP hD hS hA (fun r1 sh1 ci1 ai1 al1 H locs h hK hP hD hS => ?_)
  have hXI := h
  refine lv_pop hx hb dL_law_1470 rfl ?_
  refine lv_aload_n hx hb dL_law_1471 rfl (lv_at hl 2 rfl) ?_
  refine lm_calli (rm := ({ frames := 4, cells := 0, slots := 0, locals := 60 })) (As := []) (rest := []) (cells := (cl + 0)) (slots := (sl + 0)) (fun sz => p_X12_spent l dC dI a ca g0 _ _ _ _  _ (r_spent hRI (Q := fun r8 v8 w8 fi8 fl8 => RI v8 fi8 nn mm uu) (fun r8 v8 w8 fi8 fl8 h8 => h8)) sz) ⟨hx, hb, hml, hown, hts⟩ (cwV 0 hts gl_X12_spent rfl rfl rfl hd_X12_spent ⟨Nat.le_of_ble_eq_true rfl, Nat.le_of_ble_eq_true rfl⟩) rfl hl.1 rfl hKm hP hD hS hA (Nat.le_of_ble_eq_true rfl) ⟨Nat.le_trans (Nat.add_le_add_left (by decide) _) hC, Nat.le_trans (Nat.add_le_add_left (by decide) _) hSl⟩ dL_law_1472 (fun b1 v1 w1 fi1 fl1 H locs h hP hD hS => ?_)
  have hRI := h
  refine lv_pop hx hb dL_law_1475 rfl ?_
  refine lv_goto (tgt := 1560) hx hb dL_law_1476 (by decide) ?_
  exact W.widen (k := cl + 10) (n := sl + 2100) (Nat.add_le_add_left (by decide) _) (Nat.add_le_add_left (by decide) _) (go _ _ _ _ _ _ _ _ _ _ _ _ _ H _ ls hXI hRI hK hP hD hS (lv_sub hl [0, 1, 2, 3, 4] rfl))
