theorem dL_law_1507 : decode cL_law 1507 = .ok (.aload_n 1, 1) := by decide +kernel
theorem dL_law_1508 : decode cL_law 1508 = .ok (.aload_n 0, 1) := by decide +kernel
theorem dL_law_1509 : decode cL_law 1509 = .ok (.iload 4, 2) := by decide +kernel
theorem dL_law_1511 : decode cL_law 1511 = .ok (.iconst 1, 1) := by decide +kernel
theorem dL_law_1512 : decode cL_law 1512 = .ok (.iadd, 1) := by decide +kernel
theorem dL_law_1513 : decode cL_law 1513 = .ok (.iaload, 1) := by decide +kernel
theorem dL_law_1514 : decode cL_law 1514 = .ok (.aload_n 3, 1) := by decide +kernel
theorem dL_law_1515 : decode cL_law 1515 = .ok (.invokestatic 191, 3) := by decide +kernel
theorem dL_law_1518 : decode cL_law 1518 = .ok (.istore 5, 2) := by decide +kernel
theorem dL_law_1520 : decode cL_law 1520 = .ok (.aload_n 2, 1) := by decide +kernel
theorem dL_law_1521 : decode cL_law 1521 = .ok (.aload_n 0, 1) := by decide +kernel
theorem dL_law_1522 : decode cL_law 1522 = .ok (.iload 4, 2) := by decide +kernel
theorem dL_law_1524 : decode cL_law 1524 = .ok (.iconst 1, 1) := by decide +kernel
theorem dL_law_1525 : decode cL_law 1525 = .ok (.iadd, 1) := by decide +kernel
theorem dL_law_1526 : decode cL_law 1526 = .ok (.iaload, 1) := by decide +kernel
theorem dL_law_1527 : decode cL_law 1527 = .ok (.invokevirtual 193, 3) := by decide +kernel
theorem dL_law_1530 : decode cL_law 1530 = .ok (.istore 6, 2) := by decide +kernel
theorem dL_law_1532 : decode cL_law 1532 = .ok (.goto 56, 3) := by decide +kernel
theorem dL_law_1535 : decode cL_law 1535 = .ok (.aload_n 1, 1) := by decide +kernel
theorem dL_law_1536 : decode cL_law 1536 = .ok (.aload_n 0, 1) := by decide +kernel
theorem dL_law_1537 : decode cL_law 1537 = .ok (.iload 4, 2) := by decide +kernel
theorem dL_law_1539 : decode cL_law 1539 = .ok (.iconst 1, 1) := by decide +kernel
theorem dL_law_1540 : decode cL_law 1540 = .ok (.iadd, 1) := by decide +kernel
theorem dL_law_1541 : decode cL_law 1541 = .ok (.iaload, 1) := by decide +kernel
theorem dL_law_1542 : decode cL_law 1542 = .ok (.aload_n 0, 1) := by decide +kernel
theorem dL_law_1543 : decode cL_law 1543 = .ok (.iload 4, 2) := by decide +kernel
theorem dL_law_1545 : decode cL_law 1545 = .ok (.iconst 2, 1) := by decide +kernel
theorem dL_law_1546 : decode cL_law 1546 = .ok (.iadd, 1) := by decide +kernel
theorem dL_law_1547 : decode cL_law 1547 = .ok (.iaload, 1) := by decide +kernel
theorem dL_law_1548 : decode cL_law 1548 = .ok (.aload_n 3, 1) := by decide +kernel
theorem dL_law_1549 : decode cL_law 1549 = .ok (.invokestatic 194, 3) := by decide +kernel
theorem dL_law_1552 : decode cL_law 1552 = .ok (.istore 5, 2) := by decide +kernel
theorem dL_law_1554 : decode cL_law 1554 = .ok (.aload_n 2, 1) := by decide +kernel
theorem dL_law_1555 : decode cL_law 1555 = .ok (.aload_n 0, 1) := by decide +kernel
theorem dL_law_1556 : decode cL_law 1556 = .ok (.iload 4, 2) := by decide +kernel
theorem dL_law_1558 : decode cL_law 1558 = .ok (.iconst 1, 1) := by decide +kernel
theorem dL_law_1559 : decode cL_law 1559 = .ok (.iadd, 1) := by decide +kernel
theorem dL_law_1560 : decode cL_law 1560 = .ok (.iaload, 1) := by decide +kernel
theorem dL_law_1561 : decode cL_law 1561 = .ok (.aload_n 0, 1) := by decide +kernel
theorem dL_law_1562 : decode cL_law 1562 = .ok (.iload 4, 2) := by decide +kernel
theorem dL_law_1564 : decode cL_law 1564 = .ok (.iconst 2, 1) := by decide +kernel
theorem dL_law_1565 : decode cL_law 1565 = .ok (.iadd, 1) := by decide +kernel
theorem dL_law_1566 : decode cL_law 1566 = .ok (.iaload, 1) := by decide +kernel
theorem dL_law_1567 : decode cL_law 1567 = .ok (.invokevirtual 196, 3) := by decide +kernel
theorem dL_law_1570 : decode cL_law 1570 = .ok (.istore 6, 2) := by decide +kernel
theorem dL_law_1572 : decode cL_law 1572 = .ok (.goto 16, 3) := by decide +kernel
theorem dL_law_1575 : decode cL_law 1575 = .ok (.aload_n 1, 1) := by decide +kernel
theorem dL_law_1576 : decode cL_law 1576 = .ok (.invokevirtual 197, 3) := by decide +kernel
theorem dL_law_1579 : decode cL_law 1579 = .ok (.pop, 1) := by decide +kernel
theorem dL_law_1580 : decode cL_law 1580 = .ok (.aload_n 2, 1) := by decide +kernel
theorem dL_law_1581 : decode cL_law 1581 = .ok (.invokevirtual 200, 3) := by decide +kernel
theorem dL_law_1584 : decode cL_law 1584 = .ok (.pop, 1) := by decide +kernel
theorem dL_law_1585 : decode cL_law 1585 = .ok (.goto 3, 3) := by decide +kernel
set_option maxHeartbeats 4000000 in
set_option maxRecDepth 100000 in
theorem law_case_24 {p : Program} {l : Launch} {e : Env} {s : State} {m : MethodId} {below : List Frame} {meth : Method} {c : Code} {b L : Nat} {xs : Nat → Int32} {dC : Nat → ClassId} {dI : Nat → Nat → Nat} {h0 g0 ho : Nat} {a : Nat → Nat} {ca : Nat → ClassId} {co : ClassId} (hl0 : l.stackTraces = false) (hF : LFix p s m meth c b L xs dC dI ca co) {i cl sl : Nat} (hi : i + 6 ≤ L) (hC : cl + 10 ≤ room_1.cells) (hSl : sl + 2100 ≤ room_1.slots) (go : LGo p l e s m below meth c b dC dI h0 g0 ho a ca co i 1588 (cl + 10) (sl + 2100)) : LGo p l e s m below meth c b dC dI h0 g0 ho a ca co i 1507 cl sl := by
  obtain ⟨C0, hG, hN, hZ, hKm, hO, hL⟩ := hF
  obtain ⟨hx, hb, hr, hml, hown, hts, hX, hbl, hlocks, hgv⟩ := C0
  have hA : ∀ q : Nat, s.heap.size ≤ q → lA s q := fun _ h => h
  have hbA : ¬ lA s b := Nat.not_le.mpr hbl
  intro sh rk ci ai al f v w fi fl nn mm uu H locs ls hXI hRI hK hP hD hS hl
  obtain ⟨x1, ex1⟩ : ∃ x, xs (nI i + nI 1).toNatClampNeg = x := ⟨_, rfl⟩
  refine lv_aload_n hx hb dL_law_1507 rfl (lv_at hl 3 rfl) ?_
  refine lv_aload_n hx hb dL_law_1508 rfl (lv_at hl 4 rfl) ?_
  refine lv_iload hx hb dL_law_1509 (lv_at hl 0 rfl) ?_
  refine lv_iconst (v := 1) hx hb dL_law_1511 (by decide) ?_
  refine lv_iadd hx hb dL_law_1512 ?_
  refine lw_sld (x := x1) hx hb hX hbl hbA hS (lw_in (k := 1) hi hL (by decide)) dL_law_1513 ex1 ?_
  refine lv_aload_n hx hb dL_law_1514 rfl (lv_at hl 1 rfl) ?_
  refine l_end (mc := 3) (ms := 20) (cells := cl) (slots := sl) (vx_runSW (rm := rmL_reached) (As := [.ref h0, .int x1, .ref ho]) (rest := []) ⟨hx, hb, hml, hown, hts⟩ (p_L_reached l hl0 dC dI _ _ _ _ h0 x1 co ho f _ (j_reached (p0 := x1) hXI f) H.size) (vx_cwSW 3 hts gl_L_reached rfl rfl rfl hd_L_reached ⟨Nat.le_of_ble_eq_true rfl, Nat.le_of_ble_eq_true rfl⟩) (l_preS hK hO (fr_P2 hP) (fr_D2 hD) hA hS hG hN hZ) rfl rfl hl.1 rfl (lv_room (Nat.le_of_ble_eq_true rfl)) dL_law_1515 ⟨Nat.le_trans (Nat.add_le_add_left (by decide) _) hC, Nat.le_trans (Nat.add_le_add_left (by decide) _) hSl⟩) hP hD hS hA (fun k9 sh1 ci1 ai1 al1 f1 H locs h hK hP hD hS => ?_)
  obtain ⟨rk1, hXI⟩ := h
  refine lv_istore (lv' := [(5, .int k9), (4, .int (nI i)), (3, .ref ho), (2, .ref g0), (1, .ref h0), (0, .ref b)]) hx hb dL_law_1518 hl (by decide) rfl (fun ls hl => ?_)
  refine lv_aload_n hx hb dL_law_1520 rfl (lv_at hl 3 rfl) ?_
  refine lv_aload_n hx hb dL_law_1521 rfl (lv_at hl 5 rfl) ?_
  refine lv_iload hx hb dL_law_1522 (lv_at hl 1 rfl) ?_
  refine lv_iconst (v := 1) hx hb dL_law_1524 (by decide) ?_
  refine lv_iadd hx hb dL_law_1525 ?_
  refine lw_sld (x := x1) hx hb hX hbl hbA hS (lw_in (k := 1) hi hL (by decide)) dL_law_1526 ex1 ?_
  refine lm_calli (rm := ({ frames := 8, cells := 0, slots := 0, locals := 120 })) (As := [.int x1]) (rest := []) (cells := (cl + 3)) (slots := (sl + 20)) (fun sz => p_X12_reached l dC dI a ca g0 _ _ _ _ x1 _ (r_reached hRI (Q := fun r8 v8 w8 fi8 fl8 => RI v8 fi8 nn mm uu) (fun r8 v8 w8 fi8 fl8 h8 => h8)) sz) ⟨hx, hb, hml, hown, hts⟩ (cwV 1 hts gl_X12_reached rfl rfl rfl hd_X12_reached ⟨Nat.le_of_ble_eq_true rfl, Nat.le_of_ble_eq_true rfl⟩) rfl hl.1 rfl hKm hP hD hS hA (Nat.le_of_ble_eq_true rfl) ⟨Nat.le_trans (Nat.add_le_add_left (by decide) _) hC, Nat.le_trans (Nat.add_le_add_left (by decide) _) hSl⟩ dL_law_1527 (fun b1 v1 w1 fi1 fl1 H locs h hP hD hS => ?_)
  have hRI := h
  refine lv_istore (lv' := [(6, .int b1), (5, .int k9), (4, .int (nI i)), (3, .ref ho), (2, .ref g0), (1, .ref h0), (0, .ref b)]) hx hb dL_law_1530 hl (by decide) rfl (fun ls hl => ?_)
  refine lv_goto (tgt := 1588) hx hb dL_law_1532 (by decide) ?_
  exact W.widen (k := cl + 10) (n := sl + 2100) (Nat.add_le_add_left (by decide) _) (Nat.add_le_add_left (by decide) _) (go _ _ _ _ _ _ _ _ _ _ _ _ _ H _ ls hXI hRI hK hP hD hS (lv_sub hl [2, 3, 4, 5, 6] rfl))
set_option maxHeartbeats 4000000 in
set_option maxRecDepth 100000 in
theorem law_case_25 {p : Program} {l : Launch} {e : Env} {s : State} {m : MethodId} {below : List Frame} {meth : Method} {c : Code} {b L : Nat} {xs : Nat → Int32} {dC : Nat → ClassId} {dI : Nat → Nat → Nat} {h0 g0 ho : Nat} {a : Nat → Nat} {ca : Nat → ClassId} {co : ClassId} (hl0 : l.stackTraces = false) (hF : LFix p s m meth c b L xs dC dI ca co) {i cl sl : Nat} (hi : i + 6 ≤ L) (hC : cl + 10 ≤ room_1.cells) (hSl : sl + 2100 ≤ room_1.slots) (go : LGo p l e s m below meth c b dC dI h0 g0 ho a ca co i 1588 (cl + 10) (sl + 2100)) : LGo p l e s m below meth c b dC dI h0 g0 ho a ca co i 1535 cl sl := by
  obtain ⟨C0, hG, hN, hZ, hKm, hO, hL⟩ := hF
  obtain ⟨hx, hb, hr, hml, hown, hts, hX, hbl, hlocks, hgv⟩ := C0
  have hA : ∀ q : Nat, s.heap.size ≤ q → lA s q := fun _ h => h
  have hbA : ¬ lA s b := Nat.not_le.mpr hbl
  intro sh rk ci ai al f v w fi fl nn mm uu H locs ls hXI hRI hK hP hD hS hl
  obtain ⟨x1, ex1⟩ : ∃ x, xs (nI i + nI 1).toNatClampNeg = x := ⟨_, rfl⟩
  obtain ⟨x2, ex2⟩ : ∃ x, xs (nI i + nI 2).toNatClampNeg = x := ⟨_, rfl⟩
  refine lv_aload_n hx hb dL_law_1535 rfl (lv_at hl 3 rfl) ?_
  refine lv_aload_n hx hb dL_law_1536 rfl (lv_at hl 4 rfl) ?_
  refine lv_iload hx hb dL_law_1537 (lv_at hl 0 rfl) ?_
  refine lv_iconst (v := 1) hx hb dL_law_1539 (by decide) ?_
  refine lv_iadd hx hb dL_law_1540 ?_
  refine lw_sld (x := x1) hx hb hX hbl hbA hS (lw_in (k := 1) hi hL (by decide)) dL_law_1541 ex1 ?_
  refine lv_aload_n hx hb dL_law_1542 rfl (lv_at hl 4 rfl) ?_
  refine lv_iload hx hb dL_law_1543 (lv_at hl 0 rfl) ?_
  refine lv_iconst (v := 2) hx hb dL_law_1545 (by decide) ?_
  refine lv_iadd hx hb dL_law_1546 ?_
  refine lw_sld (x := x2) hx hb hX hbl hbA hS (lw_in (k := 2) hi hL (by decide)) dL_law_1547 ex2 ?_
  refine lv_aload_n hx hb dL_law_1548 rfl (lv_at hl 1 rfl) ?_
  refine l_end (mc := 3) (ms := 20) (cells := cl) (slots := sl) (vx_runSW (rm := rmL_worked) (As := [.ref h0, .int x1, .int x2, .ref ho]) (rest := []) ⟨hx, hb, hml, hown, hts⟩ (p_L_worked l hl0 dC dI _ _ _ _ h0 x1 x2 co ho f _ (j_worked (p0 := x1) (p1 := x2) hXI f) H.size) (vx_cwSW 4 hts gl_L_worked rfl rfl rfl hd_L_worked ⟨Nat.le_of_ble_eq_true rfl, Nat.le_of_ble_eq_true rfl⟩) (l_preS hK hO (fr_P2 hP) (fr_D2 hD) hA hS hG hN hZ) rfl rfl hl.1 rfl (lv_room (Nat.le_of_ble_eq_true rfl)) dL_law_1549 ⟨Nat.le_trans (Nat.add_le_add_left (by decide) _) hC, Nat.le_trans (Nat.add_le_add_left (by decide) _) hSl⟩) hP hD hS hA (fun k9 sh1 ci1 ai1 al1 f1 H locs h hK hP hD hS => ?_)
  obtain ⟨rk1, hXI⟩ := h
  refine lv_istore (lv' := [(5, .int k9), (4, .int (nI i)), (3, .ref ho), (2, .ref g0), (1, .ref h0), (0, .ref b)]) hx hb dL_law_1552 hl (by decide) rfl (fun ls hl => ?_)
  refine lv_aload_n hx hb dL_law_1554 rfl (lv_at hl 3 rfl) ?_
  refine lv_aload_n hx hb dL_law_1555 rfl (lv_at hl 5 rfl) ?_
  refine lv_iload hx hb dL_law_1556 (lv_at hl 1 rfl) ?_
  refine lv_iconst (v := 1) hx hb dL_law_1558 (by decide) ?_
  refine lv_iadd hx hb dL_law_1559 ?_
  refine lw_sld (x := x1) hx hb hX hbl hbA hS (lw_in (k := 1) hi hL (by decide)) dL_law_1560 ex1 ?_
  refine lv_aload_n hx hb dL_law_1561 rfl (lv_at hl 5 rfl) ?_
  refine lv_iload hx hb dL_law_1562 (lv_at hl 1 rfl) ?_
  refine lv_iconst (v := 2) hx hb dL_law_1564 (by decide) ?_
  refine lv_iadd hx hb dL_law_1565 ?_
  refine lw_sld (x := x2) hx hb hX hbl hbA hS (lw_in (k := 2) hi hL (by decide)) dL_law_1566 ex2 ?_
  refine lm_calli (rm := ({ frames := 12, cells := 0, slots := 0, locals := 180 })) (As := [.int x1, .int x2]) (rest := []) (cells := (cl + 3)) (slots := (sl + 20)) (fun sz => p_X12_worked l dC dI a ca g0 _ _ _ _ x1 x2 _ (r_worked hRI (Q := fun r8 v8 w8 fi8 fl8 => RI v8 fi8 nn mm uu) (fun r8 v8 w8 fi8 fl8 h8 => h8)) sz) ⟨hx, hb, hml, hown, hts⟩ (cwV 2 hts gl_X12_worked rfl rfl rfl hd_X12_worked ⟨Nat.le_of_ble_eq_true rfl, Nat.le_of_ble_eq_true rfl⟩) rfl hl.1 rfl hKm hP hD hS hA (Nat.le_of_ble_eq_true rfl) ⟨Nat.le_trans (Nat.add_le_add_left (by decide) _) hC, Nat.le_trans (Nat.add_le_add_left (by decide) _) hSl⟩ dL_law_1567 (fun b1 v1 w1 fi1 fl1 H locs h hP hD hS => ?_)
  have hRI := h
  refine lv_istore (lv' := [(6, .int b1), (5, .int k9), (4, .int (nI i)), (3, .ref ho), (2, .ref g0), (1, .ref h0), (0, .ref b)]) hx hb dL_law_1570 hl (by decide) rfl (fun ls hl => ?_)
  refine lv_goto (tgt := 1588) hx hb dL_law_1572 (by decide) ?_
  exact W.widen (k := cl + 10) (n := sl + 2100) (Nat.add_le_add_left (by decide) _) (Nat.add_le_add_left (by decide) _) (go _ _ _ _ _ _ _ _ _ _ _ _ _ H _ ls hXI hRI hK hP hD hS (lv_sub hl [2, 3, 4, 5, 6] rfl))
set_option maxHeartbeats 4000000 in
set_option maxRecDepth 100000 in
theorem law_case_26 {p : Program} {l : Launch} {e : Env} {s : State} {m : MethodId} {below : List Frame} {meth : Method} {c : Code} {b L : Nat} {xs : Nat → Int32} {dC : Nat → ClassId} {dI : Nat → Nat → Nat} {h0 g0 ho : Nat} {a : Nat → Nat} {ca : Nat → ClassId} {co : ClassId} (hl0 : l.stackTraces = false) (hF : LFix p s m meth c b L xs dC dI ca co) {i cl sl : Nat} (hi : i + 6 ≤ L) (hC : cl + 10 ≤ room_1.cells) (hSl : sl + 2100 ≤ room_1.slots) (go : LGo p l e s m below meth c b dC dI h0 g0 ho a ca co i 1588 (cl + 10) (sl + 2100)) : LGo p l e s m below meth c b dC dI h0 g0 ho a ca co i 1575 cl sl := by
  obtain ⟨C0, hG, hN, hZ, hKm, hO, hL⟩ := hF
  obtain ⟨hx, hb, hr, hml, hown, hts, hX, hbl, hlocks, hgv⟩ := C0
  have hA : ∀ q : Nat, s.heap.size ≤ q → lA s q := fun _ h => h
  have hbA : ¬ lA s b := Nat.not_le.mpr hbl
  intro sh rk ci ai al f v w fi fl nn mm uu H locs ls hXI hRI hK hP hD hS hl
  refine lv_aload_n hx hb dL_law_1575 rfl (lv_at hl 3 rfl) ?_
  refine lx_calli (mc := 0) (ms := 0) (cells := cl) (slots := sl) (wr := oW co ho f) (wm := mW a ca g0 v w fi fl) (va_runV (rm := ({ frames := 60, cells := 0, slots := 0, locals := 2000 })) (As := []) (rest := []) ⟨hx, hb, hml, hown, hts⟩ (p_X11_lists l dC dI _ _ _ _ h0 _ (ok_lists hXI (Q := fun r8 sh8 ci8 ai8 al8 => r8 = nI nn ∧ XI sh8 rk h0 ci8 ai8 nn mm (nI uu)) ⟨rfl, hXI⟩) H.size) (cwV 0 hts gl_X11_lists rfl rfl rfl hd_X11_lists ⟨Nat.le_of_ble_eq_true rfl, Nat.le_of_ble_eq_true rfl⟩) (c_preV (vc := (RX11, TX11, 9)) hK (fr_P2 (fr_P2 hP)) (fr_D2 (fr_D2 hD)) hG hXI.own.1 hXI.own.2 (by decide) rfl) rfl rfl hl.1 rfl (lv_room (Nat.le_of_ble_eq_true rfl)) dL_law_1576 ⟨Nat.le_trans (Nat.add_le_add_left (by decide) _) hC, Nat.le_trans (Nat.add_le_add_left (by decide) _) hSl⟩) hP hD hS hA (fun r1 sh1 ci1 ai1 al1 H locs h hK hP hD hS => ?_)
  obtain ⟨rfl, hXI⟩ := h
  refine lv_pop hx hb dL_law_1579 rfl ?_
  refine lv_aload_n hx hb dL_law_1580 rfl (lv_at hl 2 rfl) ?_
  refine lm_calli (rm := ({ frames := 4, cells := 0, slots := 0, locals := 60 })) (As := []) (rest := []) (cells := (cl + 0)) (slots := (sl + 0)) (fun sz => p_X12_lists l dC dI a ca g0 _ _ _ _  _ (r_lists hRI (Q := fun r8 v8 w8 fi8 fl8 => r8 = nI nn ∧ RI v8 fi8 nn mm uu) (fun v8 h8 => ⟨rfl, h8⟩)) sz) ⟨hx, hb, hml, hown, hts⟩ (cwV 0 hts gl_X12_lists rfl rfl rfl hd_X12_lists ⟨Nat.le_of_ble_eq_true rfl, Nat.le_of_ble_eq_true rfl⟩) rfl hl.1 rfl hKm hP hD hS hA (Nat.le_of_ble_eq_true rfl) ⟨Nat.le_trans (Nat.add_le_add_left (by decide) _) hC, Nat.le_trans (Nat.add_le_add_left (by decide) _) hSl⟩ dL_law_1581 (fun b1 v1 w1 fi1 fl1 H locs h hP hD hS => ?_)
  obtain ⟨rfl, hRI⟩ := h
  refine lv_pop hx hb dL_law_1584 rfl ?_
  refine lv_goto (tgt := 1588) hx hb dL_law_1585 (by decide) ?_
  exact W.widen (k := cl + 10) (n := sl + 2100) (Nat.add_le_add_left (by decide) _) (Nat.add_le_add_left (by decide) _) (go _ _ _ _ _ _ _ _ _ _ _ _ _ H _ ls hXI hRI hK hP hD hS (lv_sub hl [0, 1, 2, 3, 4] rfl))
