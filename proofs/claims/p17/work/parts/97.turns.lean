theorem dL_law_23 : decode cL_law 23 = .ok (.iload 4, 2) := by decide +kernel
theorem dL_law_25 : decode cL_law 25 = .ok (.aload_n 0, 1) := by decide +kernel
theorem dL_law_26 : decode cL_law 26 = .ok (.arraylength, 1) := by decide +kernel
theorem dL_law_27 : decode cL_law 27 = .ok (.bipush 6, 2) := by decide +kernel
theorem dL_law_29 : decode cL_law 29 = .ok (.isub, 1) := by decide +kernel
theorem dL_law_30 : decode cL_law 30 = .ok (.if_icmp .gt 1564, 3) := by decide +kernel
theorem dL_law_33 : decode cL_law 33 = .ok (.aload_n 0, 1) := by decide +kernel
theorem dL_law_34 : decode cL_law 34 = .ok (.iload 4, 2) := by decide +kernel
theorem dL_law_36 : decode cL_law 36 = .ok (.iaload, 1) := by decide +kernel
theorem dL_law_37 : decode cL_law 37 = .ok (.bipush 31, 2) := by decide +kernel
theorem dL_law_39 : decode cL_law 39 = .ok (.iand, 1) := by decide +kernel
theorem dL_law_40 : decode cL_law 40 = .ok (.tableswitch 1548 0 26 #[124, 184, 212, 256, 360, 476, 560, 612, 696, 736, 776, 860, 944, 1028, 1068, 1108, 1164, 1204, 1232, 1316, 1400, 1428, 1441, 1454, 1467, 1495, 1535], 124) := by decide +kernel
theorem dL_law_1588 : decode cL_law 1588 = .ok (.iinc 4 6, 3) := by decide +kernel
theorem dL_law_1591 : decode cL_law 1591 = .ok (.goto (-1568), 3) := by decide +kernel
theorem dL_law_1594 : decode cL_law 1594 = .ok (.iconst 1, 1) := by decide +kernel
theorem dL_law_1595 : decode cL_law 1595 = .ok (.ireturn, 1) := by decide +kernel
set_option maxHeartbeats 4000000 in
set_option maxRecDepth 100000 in
theorem law_next {p : Program} {l : Launch} {e : Env} {s : State} {m : MethodId} {below : List Frame} {meth : Method} {c : Code} {b L : Nat} {xs : Nat → Int32} {dC : Nat → ClassId} {dI : Nat → Nat → Nat} {h0 g0 ho : Nat} {a : Nat → Nat} {ca : Nat → ClassId} {co : ClassId} (hl0 : l.stackTraces = false) (hF : LFix p s m meth c b L xs dC dI ca co) {i cl sl : Nat} (go : LGo p l e s m below meth c b dC dI h0 g0 ho a ca co (i + 6) 23 cl sl) : LGo p l e s m below meth c b dC dI h0 g0 ho a ca co i 1588 cl sl := by
  obtain ⟨C0, hG, hN, hZ, hKm, hO, hL⟩ := hF
  obtain ⟨hx, hb, hr, hml, hown, hts, hX, hbl, hlocks, hgv⟩ := C0
  have hA : ∀ q : Nat, s.heap.size ≤ q → lA s q := fun _ h => h
  have hbA : ¬ lA s b := Nat.not_le.mpr hbl
  intro sh rk ci ai al f v w fi fl nn mm uu H locs ls hXI hRI hK hP hD hS hl
  refine lv_iinc (v := nI (i + 6)) (lv' := [(4, .int (nI (i + 6))), (3, .ref ho), (2, .ref g0), (1, .ref h0), (0, .ref b)]) hx hb dL_law_1588 hl (k := 0) rfl (nI_add i 6) (by decide) rfl (fun ls hl => ?_)
  refine lv_goto (tgt := 23) hx hb dL_law_1591 (by decide) ?_
  exact go _ _ _ _ _ _ _ _ _ _ _ _ _ H _ ls hXI hRI hK hP hD hS hl
set_option maxHeartbeats 4000000 in
set_option maxRecDepth 100000 in
theorem law_enter {p : Program} {l : Launch} {e : Env} {s : State} {m : MethodId} {below : List Frame} {meth : Method} {c : Code} {b L : Nat} {xs : Nat → Int32} {dC : Nat → ClassId} {dI : Nat → Nat → Nat} {h0 g0 ho : Nat} {a : Nat → Nat} {ca : Nat → ClassId} {co : ClassId} (hl0 : l.stackTraces = false) (hF : LFix p s m meth c b L xs dC dI ca co) {i cl sl : Nat} (hi : i + 6 ≤ L) (go : LGo p l e s m below meth c b dC dI h0 g0 ho a ca co i 33 cl sl) : LGo p l e s m below meth c b dC dI h0 g0 ho a ca co i 23 cl sl := by
  obtain ⟨C0, hG, hN, hZ, hKm, hO, hL⟩ := hF
  obtain ⟨hx, hb, hr, hml, hown, hts, hX, hbl, hlocks, hgv⟩ := C0
  have hA : ∀ q : Nat, s.heap.size ≤ q → lA s q := fun _ h => h
  have hbA : ¬ lA s b := Nat.not_le.mpr hbl
  intro sh rk ci ai al f v w fi fl nn mm uu H locs ls hXI hRI hK hP hD hS hl
  refine lv_iload hx hb dL_law_23 (lv_at hl 0 rfl) ?_
  refine lv_aload_n hx hb dL_law_25 rfl (lv_at hl 4 rfl) ?_
  refine va_slen hx hb hX hbl hbA hS dL_law_26 ?_
  refine lv_bipush (v := 6) hx hb dL_law_27 (by decide) ?_
  refine lv_isub hx hb dL_law_29 ?_
  refine lv_icmp_gt (tgt := 1594) hx hb dL_law_30 (by decide) (fun c_30 => ?_) (fun c_30 => ?_)
  · exact absurd ((lw_cmp hL (by omega)).mp c_30) (by omega)
  · exact go _ _ _ _ _ _ _ _ _ _ _ _ _ H _ ls hXI hRI hK hP hD hS hl
set_option maxHeartbeats 4000000 in
set_option maxRecDepth 100000 in
theorem law_exit {p : Program} {l : Launch} {e : Env} {s : State} {m : MethodId} {below : List Frame} {meth : Method} {c : Code} {b L : Nat} {xs : Nat → Int32} {dC : Nat → ClassId} {dI : Nat → Nat → Nat} {h0 g0 ho : Nat} {a : Nat → Nat} {ca : Nat → ClassId} {co : ClassId} (hl0 : l.stackTraces = false) (hF : LFix p s m meth c b L xs dC dI ca co) {i cl sl : Nat} (hi : L < i + 6) (hi2 : i ≤ 3078) (hC : cl ≤ 601024) (hSl : sl ≤ 7293034) : LGo p l e s m below meth c b dC dI h0 g0 ho a ca co i 23 cl sl := by
  obtain ⟨C0, hG, hN, hZ, hKm, hO, hL⟩ := hF
  obtain ⟨hx, hb, hr, hml, hown, hts, hX, hbl, hlocks, hgv⟩ := C0
  have hA : ∀ q : Nat, s.heap.size ≤ q → lA s q := fun _ h => h
  have hbA : ¬ lA s b := Nat.not_le.mpr hbl
  intro sh rk ci ai al f v w fi fl nn mm uu H locs ls hXI hRI hK hP hD hS hl
  refine lv_iload hx hb dL_law_23 (lv_at hl 0 rfl) ?_
  refine lv_aload_n hx hb dL_law_25 rfl (lv_at hl 4 rfl) ?_
  refine va_slen hx hb hX hbl hbA hS dL_law_26 ?_
  refine lv_bipush (v := 6) hx hb dL_law_27 (by decide) ?_
  refine lv_isub hx hb dL_law_29 ?_
  refine lv_icmp_gt (tgt := 1594) hx hb dL_law_30 (by decide) (fun c_30 => ?_) (fun c_30 => ?_)
  · refine lv_iconst (v := 1) hx hb dL_law_1594 (by decide) ?_
    refine va_forget (fun q hq => hS.2.2 q hq) ?_
    refine W.widen (k := 601024) (n := 7293034) hC hSl ?_
    exact lw_ret hx hb hr hlocks dL_law_1595
  · exact absurd ((lw_cmp hL hi2).mpr hi) c_30
set_option maxHeartbeats 4000000 in
set_option maxRecDepth 100000 in
theorem law_turn {p : Program} {l : Launch} {e : Env} {s : State} {m : MethodId} {below : List Frame} {meth : Method} {c : Code} {b L : Nat} {xs : Nat → Int32} {dC : Nat → ClassId} {dI : Nat → Nat → Nat} {h0 g0 ho : Nat} {a : Nat → Nat} {ca : Nat → ClassId} {co : ClassId} (hl0 : l.stackTraces = false) (hF : LFix p s m meth c b L xs dC dI ca co) {i cl sl : Nat} (hi : i + 6 ≤ L) (hC : cl + 10 ≤ room_1.cells) (hSl : sl + 2100 ≤ room_1.slots) (go : LGo p l e s m below meth c b dC dI h0 g0 ho a ca co i 1588 (cl + 10) (sl + 2100)) : LGo p l e s m below meth c b dC dI h0 g0 ho a ca co i 33 cl sl := by
  have hF0 := hF
  obtain ⟨C0, hG, hN, hZ, hKm, hO, hL⟩ := hF
  obtain ⟨hx, hb, hr, hml, hown, hts, hX, hbl, hlocks, hgv⟩ := C0
  have hA : ∀ q : Nat, s.heap.size ≤ q → lA s q := fun _ h => h
  have hbA : ¬ lA s b := Nat.not_le.mpr hbl
  intro sh rk ci ai al f v w fi fl nn mm uu H locs ls hXI hRI hK hP hD hS hl
  refine lv_aload_n hx hb dL_law_33 rfl (lv_at hl 4 rfl) ?_
  refine lv_iload hx hb dL_law_34 (lv_at hl 0 rfl) ?_
  refine va_sld hx hb hX hbl hbA hS (vp_in_nI (by omega) (by omega)) dL_law_36 ?_
  refine lv_bipush (v := 31) hx hb dL_law_37 (by decide) ?_
  refine lv_iand hx hb dL_law_39 ?_
  refine lv_topi (fun z ez => ?_)
  obtain ⟨j, hj, ej⟩ := pk_andE (xs (nI i).toNatClampNeg) (m := 31) 5 (by decide)
  obtain rfl : z = nI j := ez.trans ej
  clear ez ej
  have hj2 : j = 0 ∨ j = 1 ∨ j = 2 ∨ j = 3 ∨ j = 4 ∨ j = 5 ∨ j = 6 ∨ j = 7 ∨ j = 8 ∨ j = 9 ∨ j = 10 ∨ j = 11 ∨ j = 12 ∨ j = 13 ∨ j = 14 ∨ j = 15 ∨ j = 16 ∨ j = 17 ∨ j = 18 ∨ j = 19 ∨ j = 20 ∨ j = 21 ∨ j = 22 ∨ j = 23 ∨ j = 24 ∨ j = 25 ∨ j = 26 ∨ j = 27 ∨ j = 28 ∨ j = 29 ∨ j = 30 ∨ j = 31 := by omega
  rcases hj2 with rfl | rfl | rfl | rfl | rfl | rfl | rfl | rfl | rfl | rfl | rfl | rfl | rfl | rfl | rfl | rfl | rfl | rfl | rfl | rfl | rfl | rfl | rfl | rfl | rfl | rfl | rfl | rfl | rfl | rfl | rfl | rfl
  · refine lv_tableIn (tgt := 164) hx hb dL_law_40 (by decide) (by decide) (off := 124) (by decide) (by decide) ?_
    exact law_case_0 hl0 hF0 hi hC hSl go _ _ _ _ _ _ _ _ _ _ _ _ _ H _ ls hXI hRI hK hP hD hS hl
  · refine lv_tableIn (tgt := 224) hx hb dL_law_40 (by decide) (by decide) (off := 184) (by decide) (by decide) ?_
    exact law_case_1 hl0 hF0 hi hC hSl go _ _ _ _ _ _ _ _ _ _ _ _ _ H _ ls hXI hRI hK hP hD hS hl
  · refine lv_tableIn (tgt := 252) hx hb dL_law_40 (by decide) (by decide) (off := 212) (by decide) (by decide) ?_
    exact law_case_2 hl0 hF0 hi hC hSl go _ _ _ _ _ _ _ _ _ _ _ _ _ H _ ls hXI hRI hK hP hD hS hl
  · refine lv_tableIn (tgt := 296) hx hb dL_law_40 (by decide) (by decide) (off := 256) (by decide) (by decide) ?_
    exact law_case_3 hl0 hF0 hi hC hSl go _ _ _ _ _ _ _ _ _ _ _ _ _ H _ ls hXI hRI hK hP hD hS hl
  · refine lv_tableIn (tgt := 400) hx hb dL_law_40 (by decide) (by decide) (off := 360) (by decide) (by decide) ?_
    exact law_case_4 hl0 hF0 hi hC hSl go _ _ _ _ _ _ _ _ _ _ _ _ _ H _ ls hXI hRI hK hP hD hS hl
  · refine lv_tableIn (tgt := 516) hx hb dL_law_40 (by decide) (by decide) (off := 476) (by decide) (by decide) ?_
    exact law_case_5 hl0 hF0 hi hC hSl go _ _ _ _ _ _ _ _ _ _ _ _ _ H _ ls hXI hRI hK hP hD hS hl
  · refine lv_tableIn (tgt := 600) hx hb dL_law_40 (by decide) (by decide) (off := 560) (by decide) (by decide) ?_
    exact law_case_6 hl0 hF0 hi hC hSl go _ _ _ _ _ _ _ _ _ _ _ _ _ H _ ls hXI hRI hK hP hD hS hl
  · refine lv_tableIn (tgt := 652) hx hb dL_law_40 (by decide) (by decide) (off := 612) (by decide) (by decide) ?_
    exact law_case_7 hl0 hF0 hi hC hSl go _ _ _ _ _ _ _ _ _ _ _ _ _ H _ ls hXI hRI hK hP hD hS hl
  · refine lv_tableIn (tgt := 736) hx hb dL_law_40 (by decide) (by decide) (off := 696) (by decide) (by decide) ?_
    exact law_case_8 hl0 hF0 hi hC hSl go _ _ _ _ _ _ _ _ _ _ _ _ _ H _ ls hXI hRI hK hP hD hS hl
  · refine lv_tableIn (tgt := 776) hx hb dL_law_40 (by decide) (by decide) (off := 736) (by decide) (by decide) ?_
    exact law_case_9 hl0 hF0 hi hC hSl go _ _ _ _ _ _ _ _ _ _ _ _ _ H _ ls hXI hRI hK hP hD hS hl
  · refine lv_tableIn (tgt := 816) hx hb dL_law_40 (by decide) (by decide) (off := 776) (by decide) (by decide) ?_
    exact law_case_10 hl0 hF0 hi hC hSl go _ _ _ _ _ _ _ _ _ _ _ _ _ H _ ls hXI hRI hK hP hD hS hl
  · refine lv_tableIn (tgt := 900) hx hb dL_law_40 (by decide) (by decide) (off := 860) (by decide) (by decide) ?_
    exact law_case_11 hl0 hF0 hi hC hSl go _ _ _ _ _ _ _ _ _ _ _ _ _ H _ ls hXI hRI hK hP hD hS hl
  · refine lv_tableIn (tgt := 984) hx hb dL_law_40 (by decide) (by decide) (off := 944) (by decide) (by decide) ?_
    exact law_case_12 hl0 hF0 hi hC hSl go _ _ _ _ _ _ _ _ _ _ _ _ _ H _ ls hXI hRI hK hP hD hS hl
  · refine lv_tableIn (tgt := 1068) hx hb dL_law_40 (by decide) (by decide) (off := 1028) (by decide) (by decide) ?_
    exact law_case_13 hl0 hF0 hi hC hSl go _ _ _ _ _ _ _ _ _ _ _ _ _ H _ ls hXI hRI hK hP hD hS hl
  · refine lv_tableIn (tgt := 1108) hx hb dL_law_40 (by decide) (by decide) (off := 1068) (by decide) (by decide) ?_
    exact law_case_14 hl0 hF0 hi hC hSl go _ _ _ _ _ _ _ _ _ _ _ _ _ H _ ls hXI hRI hK hP hD hS hl
  · refine lv_tableIn (tgt := 1148) hx hb dL_law_40 (by decide) (by decide) (off := 1108) (by decide) (by decide) ?_
    exact law_case_15 hl0 hF0 hi hC hSl go _ _ _ _ _ _ _ _ _ _ _ _ _ H _ ls hXI hRI hK hP hD hS hl
  · refine lv_tableIn (tgt := 1204) hx hb dL_law_40 (by decide) (by decide) (off := 1164) (by decide) (by decide) ?_
    exact law_case_16 hl0 hF0 hi hC hSl go _ _ _ _ _ _ _ _ _ _ _ _ _ H _ ls hXI hRI hK hP hD hS hl
  · refine lv_tableIn (tgt := 1244) hx hb dL_law_40 (by decide) (by decide) (off := 1204) (by decide) (by decide) ?_
    exact law_case_17 hl0 hF0 hi hC hSl go _ _ _ _ _ _ _ _ _ _ _ _ _ H _ ls hXI hRI hK hP hD hS hl
  · refine lv_tableIn (tgt := 1272) hx hb dL_law_40 (by decide) (by decide) (off := 1232) (by decide) (by decide) ?_
    exact law_case_18 hl0 hF0 hi hC hSl go _ _ _ _ _ _ _ _ _ _ _ _ _ H _ ls hXI hRI hK hP hD hS hl
  · refine lv_tableIn (tgt := 1356) hx hb dL_law_40 (by decide) (by decide) (off := 1316) (by decide) (by decide) ?_
    exact law_case_19 hl0 hF0 hi hC hSl go _ _ _ _ _ _ _ _ _ _ _ _ _ H _ ls hXI hRI hK hP hD hS hl
  · refine lv_tableIn (tgt := 1440) hx hb dL_law_40 (by decide) (by decide) (off := 1400) (by decide) (by decide) ?_
    exact law_case_20 hl0 hF0 hi hC hSl go _ _ _ _ _ _ _ _ _ _ _ _ _ H _ ls hXI hRI hK hP hD hS hl
  · refine lv_tableIn (tgt := 1468) hx hb dL_law_40 (by decide) (by decide) (off := 1428) (by decide) (by decide) ?_
    exact law_case_21 hl0 hF0 hi hC hSl go _ _ _ _ _ _ _ _ _ _ _ _ _ H _ ls hXI hRI hK hP hD hS hl
  · refine lv_tableIn (tgt := 1481) hx hb dL_law_40 (by decide) (by decide) (off := 1441) (by decide) (by decide) ?_
    exact law_case_22 hl0 hF0 hi hC hSl go _ _ _ _ _ _ _ _ _ _ _ _ _ H _ ls hXI hRI hK hP hD hS hl
  · refine lv_tableIn (tgt := 1494) hx hb dL_law_40 (by decide) (by decide) (off := 1454) (by decide) (by decide) ?_
    exact law_case_23 hl0 hF0 hi hC hSl go _ _ _ _ _ _ _ _ _ _ _ _ _ H _ ls hXI hRI hK hP hD hS hl
  · refine lv_tableIn (tgt := 1507) hx hb dL_law_40 (by decide) (by decide) (off := 1467) (by decide) (by decide) ?_
    exact law_case_24 hl0 hF0 hi hC hSl go _ _ _ _ _ _ _ _ _ _ _ _ _ H _ ls hXI hRI hK hP hD hS hl
  · refine lv_tableIn (tgt := 1535) hx hb dL_law_40 (by decide) (by decide) (off := 1495) (by decide) (by decide) ?_
    exact law_case_25 hl0 hF0 hi hC hSl go _ _ _ _ _ _ _ _ _ _ _ _ _ H _ ls hXI hRI hK hP hD hS hl
  · refine lv_tableIn (tgt := 1575) hx hb dL_law_40 (by decide) (by decide) (off := 1535) (by decide) (by decide) ?_
    exact law_case_26 hl0 hF0 hi hC hSl go _ _ _ _ _ _ _ _ _ _ _ _ _ H _ ls hXI hRI hK hP hD hS hl
  · refine lv_tableOut (tgt := 1588) hx hb dL_law_40 (by decide) (by decide) ?_
    exact W.widen (k := cl + 10) (n := sl + 2100) (Nat.le_add_right _ _) (Nat.le_add_right _ _) (go _ _ _ _ _ _ _ _ _ _ _ _ _ H _ ls hXI hRI hK hP hD hS hl)
  · refine lv_tableOut (tgt := 1588) hx hb dL_law_40 (by decide) (by decide) ?_
    exact W.widen (k := cl + 10) (n := sl + 2100) (Nat.le_add_right _ _) (Nat.le_add_right _ _) (go _ _ _ _ _ _ _ _ _ _ _ _ _ H _ ls hXI hRI hK hP hD hS hl)
  · refine lv_tableOut (tgt := 1588) hx hb dL_law_40 (by decide) (by decide) ?_
    exact W.widen (k := cl + 10) (n := sl + 2100) (Nat.le_add_right _ _) (Nat.le_add_right _ _) (go _ _ _ _ _ _ _ _ _ _ _ _ _ H _ ls hXI hRI hK hP hD hS hl)
  · refine lv_tableOut (tgt := 1588) hx hb dL_law_40 (by decide) (by decide) ?_
    exact W.widen (k := cl + 10) (n := sl + 2100) (Nat.le_add_right _ _) (Nat.le_add_right _ _) (go _ _ _ _ _ _ _ _ _ _ _ _ _ H _ ls hXI hRI hK hP hD hS hl)
  · refine lv_tableOut (tgt := 1588) hx hb dL_law_40 (by decide) (by decide) ?_
    exact W.widen (k := cl + 10) (n := sl + 2100) (Nat.le_add_right _ _) (Nat.le_add_right _ _) (go _ _ _ _ _ _ _ _ _ _ _ _ _ H _ ls hXI hRI hK hP hD hS hl)
set_option maxHeartbeats 4000000 in
set_option maxRecDepth 100000 in
theorem law_loop {p : Program} {l : Launch} {e : Env} {s : State} {m : MethodId} {below : List Frame} {meth : Method} {c : Code} {b L : Nat} {xs : Nat → Int32} {dC : Nat → ClassId} {dI : Nat → Nat → Nat} {h0 g0 ho : Nat} {a : Nat → Nat} {ca : Nat → ClassId} {co : ClassId} (hl0 : l.stackTraces = false) (hF : LFix p s m meth c b L xs dC dI ca co) : ∀ (t i cl sl : Nat), L < i + 6 * t + 6 → i ≤ 3078 → cl + 10 * t ≤ 601024 → sl + 2100 * t ≤ 7293034 → LGo p l e s m below meth c b dC dI h0 g0 ho a ca co i 23 cl sl := by
  intro t
  induction t with
  | zero => intro i cl sl h1 h2 h3 h4; exact law_exit hl0 hF (by omega) h2 (by omega) (by omega)
  | succ t ih =>
    intro i cl sl h1 h2 h3 h4
    have hL : L ≤ 3072 := hF.2.2.2.2.2.2
    by_cases hi : i + 6 ≤ L
    · have e1 : cl + 10 ≤ 601024 := by omega
      have e2 : sl + 2100 ≤ 7293034 := by omega
      exact law_enter hl0 hF hi (law_turn hl0 hF hi e1 e2 (law_next hl0 hF (ih (i + 6) (cl + 10) (sl + 2100) (by omega) (by omega) (by omega) (by omega))))
    · exact law_exit hl0 hF (by omega) h2 (by omega) (by omega)
