set_option maxHeartbeats 4000000 in
set_option maxRecDepth 100000 in
theorem law_G {p : Program} {s : State} {m : MethodId} {meth : Method} {c : Code} {b L : Nat} {xs : Nat → Int32} (C0 : lw_At p s m meth c b L xs) : Gw s ∧ Gz (lA s) s s.heap := by
  obtain ⟨hx, hb, hr, hml, hown, hts, hX, hbl, hlocks, hgv⟩ := C0
  have hs := flat_of_before _ hgv
  have hA : ∀ a : Nat, a < s.heap.size → ¬ lA s a := fun a h => Nat.not_le.mpr h
  have t200 : ∃ a, vk_R RX11 200 "there is no such list" a s := by
    obtain ⟨a, c9, cA, kA, q1, -⟩ := Cond.exactly_spec (args := #[Value.ref b]) (first := s) (o := none) (s := s) (idx := []) (t := .string "NeededLists" 200) (cls := "java/lang/String") (hs (.exactly (.string "NeededLists" 200) "java/lang/String") (by decide +kernel))
    exact ⟨a, vk_R.of (hts (.stringRef RX11 200 "there is no such list") (List.mem_of_getElem? (i := 378) (by decide +kernel))) q1⟩
  have t40 : ∃ a, vk_R RX11 40 "kind is not 0 or 1" a s := by
    obtain ⟨a, c9, cA, kA, q1, -⟩ := Cond.exactly_spec (args := #[Value.ref b]) (first := s) (o := none) (s := s) (idx := []) (t := .string "NeededLists" 40) (cls := "java/lang/String") (hs (.exactly (.string "NeededLists" 40) "java/lang/String") (by decide +kernel))
    exact ⟨a, vk_R.of (hts (.stringRef RX11 40 "kind is not 0 or 1") (List.mem_of_getElem? (i := 233) (by decide +kernel))) q1⟩
  have t205 : ∃ a, vk_R RX11 205 "op is not 0 .. 8" a s := by
    obtain ⟨a, c9, cA, kA, q1, -⟩ := Cond.exactly_spec (args := #[Value.ref b]) (first := s) (o := none) (s := s) (idx := []) (t := .string "NeededLists" 205) (cls := "java/lang/String") (hs (.exactly (.string "NeededLists" 205) "java/lang/String") (by decide +kernel))
    exact ⟨a, vk_R.of (hts (.stringRef RX11 205 "op is not 0 .. 8") (List.mem_of_getElem? (i := 332) (by decide +kernel))) q1⟩
  have t139 : ∃ a, vk_R RX11 139 "n is not 1 .. 5000" a s := by
    obtain ⟨a, c9, cA, kA, q1, -⟩ := Cond.exactly_spec (args := #[Value.ref b]) (first := s) (o := none) (s := s) (idx := []) (t := .string "NeededLists" 139) (cls := "java/lang/String") (hs (.exactly (.string "NeededLists" 139) "java/lang/String") (by decide +kernel))
    exact ⟨a, vk_R.of (hts (.stringRef RX11 139 "n is not 1 .. 5000") (List.mem_of_getElem? (i := 622) (by decide +kernel))) q1⟩
  refine ⟨⟨va_Nw.of rfl (hts (.methodLinkNest RX11 11 yX6_init "NeededLists") (List.mem_of_getElem? (i := 77) (by decide +kernel))), va_Nw.of rfl (hts (.fieldLinkNest RX11 188 "NeededLists$Meter" "used" "I" "NeededLists") (List.mem_of_getElem? (i := 83) (by decide +kernel))), va_AO.of (hts (.arrayOver (.object RX5)) (List.mem_of_getElem? (i := 90) (by decide +kernel))), va_Nw.of rfl (hts (.castable RX3 RX5) (List.mem_of_getElem? (i := 1343) (by decide +kernel))), va_Nw.of rfl (hts (.castable RX0 RX5) (List.mem_of_getElem? (i := 1340) (by decide +kernel))), va_Nw.of rfl (hts (.castable "java/lang/IndexOutOfBoundsException" "java/lang/IndexOutOfBoundsException") (List.mem_of_getElem? (i := 371) (by decide +kernel))), va_Nw.of rfl (hts (.castable "java/lang/IllegalArgumentException" "java/lang/IllegalArgumentException") (List.mem_of_getElem? (i := 226) (by decide +kernel))), t200, t40, t205, t139, va_Nw.of rfl (hts (.declares ⟨"java/lang/RuntimeException", "<init>", "(Ljava/lang/String;)V"⟩) (List.mem_of_getElem? (i := 153) (by decide +kernel))), va_Nw.of rfl (hts (.declares ⟨"java/lang/Exception", "<init>", "(Ljava/lang/String;)V"⟩) (List.mem_of_getElem? (i := 155) (by decide +kernel))), va_Nw.of rfl (hts (.declares ⟨"java/lang/Throwable", "<init>", "(Ljava/lang/String;)V"⟩) (List.mem_of_getElem? (i := 157) (by decide +kernel)))⟩, ?_⟩
  exact ⟨vx_Zqof (hts (.laysStatic Bundle.tN "UNASSIGNED_STACK" Bundle.steD) (List.mem_of_getElem? (i := 176) (by decide +kernel))) (hts (.initialized Bundle.tN) (List.mem_of_getElem? (i := 48) (by decide +kernel))) (hs (.isRef (.static Bundle.tN "UNASSIGNED_STACK" Bundle.steD)) (by decide +kernel)) hA, vx_Zqof (hts (.laysStatic Bundle.tN "SUPPRESSED_SENTINEL" Bundle.listD) (List.mem_of_getElem? (i := 178) (by decide +kernel))) (hts (.initialized Bundle.tN) (List.mem_of_getElem? (i := 48) (by decide +kernel))) (hs (.isRef (.static Bundle.tN "SUPPRESSED_SENTINEL" Bundle.listD)) (by decide +kernel)) hA⟩
set_option maxHeartbeats 4000000 in
set_option maxRecDepth 100000 in
theorem law_K {p : Program} {s : State} {m : MethodId} {meth : Method} {c : Code} {b L : Nat} {xs : Nat → Int32} (C0 : lw_At p s m meth c b L xs) : ∃ (dC : Nat → ClassId) (dI : Nat → Nat → Nat), va_K (dC, dI) vwCl [] s := by
  obtain ⟨hx, hb, hr, hml, hown, hts, hX, hbl, hlocks, hgv⟩ := C0
  obtain ⟨c0, iS0, hKn0⟩ := u_known (C := RX0) (T := TX0) (N := 9) (n := 9) hts (fun w h => (tw_X0 w h).1) (hts (.instantiable RX0 9) (List.mem_of_getElem? (i := 334) (by decide +kernel)))
  obtain ⟨c1, iS1, hKn1⟩ := u_known (C := RX1) (T := TX1) (N := 9) (n := 9) hts (fun w h => (tw_X1 w h).1) (hts (.instantiable RX1 9) (List.mem_of_getElem? (i := 386) (by decide +kernel)))
  obtain ⟨c2, iS2, hKn2⟩ := u_known (C := RX2) (T := TX2) (N := 9) (n := 9) hts (fun w h => (tw_X2 w h).1) (hts (.instantiable RX2 9) (List.mem_of_getElem? (i := 435) (by decide +kernel)))
  obtain ⟨c3, iS3, hKn3⟩ := u_known (C := RX3) (T := TX3) (N := 7) (n := 7) hts (fun w h => (tw_X3 w h).1) (hts (.instantiable RX3 7) (List.mem_of_getElem? (i := 277) (by decide +kernel)))
  obtain ⟨c4, iS4, hKn4⟩ := u_known (C := RX4) (T := TX4) (N := 7) (n := 7) hts (fun w h => (tw_X4 w h).1) (hts (.instantiable RX4 7) (List.mem_of_getElem? (i := 547) (by decide +kernel)))
  obtain ⟨c5, iS5, hKn5⟩ := u_known (C := RX6) (T := TX6) (N := 2) (n := 2) hts (fun w h => (tw_X6 w h).1) (hts (.instantiable RX6 2) (List.mem_of_getElem? (i := 76) (by decide +kernel)))
  obtain ⟨c6, iS6, hKn6⟩ := u_known (C := RX7) (T := TX7) (N := 7) (n := 7) hts (fun w h => (tw_X7 w h).1) (hts (.instantiable RX7 7) (List.mem_of_getElem? (i := 577) (by decide +kernel)))
  obtain ⟨c7, iS7, hKn7⟩ := u_known (C := RX8) (T := TX8) (N := 9) (n := 9) hts (fun w h => (tw_X8 w h).1) (hts (.instantiable RX8 9) (List.mem_of_getElem? (i := 466) (by decide +kernel)))
  obtain ⟨c8, iS8, hKn8⟩ := u_known (C := RX9) (T := TX9) (N := 8) (n := 8) hts (fun w h => (tw_X9 w h).1) (hts (.instantiable RX9 8) (List.mem_of_getElem? (i := 595) (by decide +kernel)))
  obtain ⟨c9, iS9, hKn9⟩ := u_known (C := RX10) (T := TX10) (N := 9) (n := 9) hts (fun w h => (tw_X10 w h).1) (hts (.instantiable RX10 9) (List.mem_of_getElem? (i := 501) (by decide +kernel)))
  obtain ⟨c10, iS10, hKn10⟩ := u_known (C := RX11) (T := TX11) (N := 9) (n := 9) hts (fun w h => (tw_X11 w h).1) (hts (.instantiable RX11 9) (List.mem_of_getElem? (i := 68) (by decide +kernel)))
  obtain ⟨c11, iS11, hKn11⟩ := u_known (C := RX12) (T := TX12) (N := 32) (n := 32) hts (fun w h => (tw_X12 w h).1) (hts (.instantiable RX12 32) (List.mem_of_getElem? (i := 954) (by decide +kernel)))
  refine ⟨fun k => match k with | 0 => c0 | 1 => c1 | 2 => c2 | 3 => c3 | 4 => c4 | 5 => c5 | 6 => c6 | 7 => c7 | 8 => c8 | 9 => c9 | 10 => c10 | _ => c11, fun k => match k with | 0 => iS0 | 1 => iS1 | 2 => iS2 | 3 => iS3 | 4 => iS4 | 5 => iS5 | 6 => iS6 | 7 => iS7 | 8 => iS8 | 9 => iS9 | 10 => iS10 | _ => iS11, ?_, fun k q h => by simp at h⟩
  intro k q hq
  match k, hq with
  | 0, hq => cases hq; exact hKn0
  | 1, hq => cases hq; exact hKn1
  | 2, hq => cases hq; exact hKn2
  | 3, hq => cases hq; exact hKn3
  | 4, hq => cases hq; exact hKn4
  | 5, hq => cases hq; exact hKn5
  | 6, hq => cases hq; exact hKn6
  | 7, hq => cases hq; exact hKn7
  | 8, hq => cases hq; exact hKn8
  | 9, hq => cases hq; exact hKn9
  | 10, hq => cases hq; exact hKn10
  | 11, hq => cases hq; exact hKn11
  | k + 12, hq => simp [vwCl] at hq
set_option maxHeartbeats 4000000 in
set_option maxRecDepth 100000 in
theorem law_switch {p : Program} {e : Env} {s : State} {m : MethodId} {below : List Frame} {meth : Method} {c : Code} (l : Launch) (hl0 : l.stackTraces = false) {b : Nat} {xs : Nat → Int32} (C0 : lw_At p s m meth c b 6 xs) (hG : Gw s) (hZ : Gz (lA s) s s.heap) {dC : Nat → ClassId} {dI : Nat → Nat → Nat} {h0 hm h1 h2 h3 g0 ho : Nat} {a : Nat → Nat} {ca cx : Nat → ClassId} {co : ClassId} {H : Heap} {locs : List Loc} (hK : va_K (dC, dI) vwCl [(cx 1, .object RX5), (cx 2, .long), (cx 3, .byte), (ca 1, .int), (ca 2, .int), (ca 3, .int), (ca 4, .int), (ca 5, .long), (ca 6, .long), (ca 13, .int), (ca 14, .long), (co, .long)] s) (hP : va_P (dC, dI) vwCl [(h0, .inr (10, xF hm h1 h2 h3 0 0 1000)), (hm, .inr (5, [.int 0, .int 0])), (h1, .inl (cx 1, 24, .inr (.inr (.inr (.inr (fun _ => none)))))), (h2, .inl (cx 2, 100, .inr (.inl (fun _ => 0)))), (h3, .inl (cx 3, 100, .inl (fun _ => 0))), (g0, .inr (11, mF a 0 0 1000 0)), (a 1, .inl (ca 1, 24, .inl (fun _ => 0))), (a 2, .inl (ca 2, 24, .inl (fun _ => 0))), (a 3, .inl (ca 3, 24, .inl (fun _ => 0))), (a 4, .inl (ca 4, 24, .inl (fun _ => 0))), (a 5, .inl (ca 5, 24, .inr (.inl (fun _ => 0)))), (a 6, .inl (ca 6, 24, .inr (.inl (fun _ => 0)))), (a 13, .inl (ca 13, 100, .inl (fun _ => 0))), (a 14, .inl (ca 14, 100, .inr (.inl (fun _ => 0)))), (ho, .inl (co, 1, .inr (.inl (fun _ => 0))))] H) (hD : va_D (lA s) [(h0, .inr (10, xF hm h1 h2 h3 0 0 1000)), (hm, .inr (5, [.int 0, .int 0])), (h1, .inl (cx 1, 24, .inr (.inr (.inr (.inr (fun _ => none)))))), (h2, .inl (cx 2, 100, .inr (.inl (fun _ => 0)))), (h3, .inl (cx 3, 100, .inl (fun _ => 0))), (g0, .inr (11, mF a 0 0 1000 0)), (a 1, .inl (ca 1, 24, .inl (fun _ => 0))), (a 2, .inl (ca 2, 24, .inl (fun _ => 0))), (a 3, .inl (ca 3, 24, .inl (fun _ => 0))), (a 4, .inl (ca 4, 24, .inl (fun _ => 0))), (a 5, .inl (ca 5, 24, .inr (.inl (fun _ => 0)))), (a 6, .inl (ca 6, 24, .inr (.inl (fun _ => 0)))), (a 13, .inl (ca 13, 100, .inl (fun _ => 0))), (a 14, .inl (ca 14, 100, .inr (.inl (fun _ => 0)))), (ho, .inl (co, 1, .inr (.inl (fun _ => 0))))]) (hS : va_S (lA s) s.heap H locs) {ls : Array Slot} (hl : lv_has ls 8 [(4, .int 0), (3, .ref ho), (2, .ref g0), (1, .ref h0), (0, .ref b)]) : W p l e room_1 s m #[Value.ref b] below meth c H locs 23 78342 (lw_Z below #[Value.ref b] s) (F0 m 33 ls []) := by
  have C1 := C0
  obtain ⟨hx, hb, hr, hml, hown, hts0, hX, hbl, hlocks, hgv⟩ := C0
  have hts := hts0
  have hcl := hts0 _ law_cl
  have hA : ∀ q : Nat, s.heap.size ≤ q → lA s q := fun _ h => h
  have hbA : ¬ lA s b := Nat.not_le.mpr hbl
  refine lv_aload_n hx hb dL_law_33 rfl (lv_at hl 4 rfl) ?_
  refine lv_iload hx hb dL_law_34 (lv_at hl 0 rfl) ?_
  refine va_sld hx hb hX hbl hbA hS (nd_in (i := 0) (n := 6) (by decide)) dL_law_36 ?_
  refine lv_bipush (v := 31) hx hb dL_law_37 (by decide) ?_
  refine lv_iand hx hb dL_law_39 ?_
  refine lv_topi (fun z ez => ?_)
  obtain ⟨j, hj, ej⟩ := pk_andE (xs (0 : Int32).toNatClampNeg) (m := 31) 5 (by decide)
  obtain rfl : z = nI j := ez.trans ej
  clear ez ej
  have hj2 : j = 0 ∨ j = 1 ∨ j = 2 ∨ j = 3 ∨ j = 4 ∨ j = 5 ∨ j = 6 ∨ j = 7 ∨ j = 8 ∨ j = 9 ∨ j = 10 ∨ j = 11 ∨ j = 12 ∨ j = 13 ∨ j = 14 ∨ j = 15 ∨ j = 16 ∨ j = 17 ∨ j = 18 ∨ j = 19 ∨ j = 20 ∨ j = 21 ∨ j = 22 ∨ j = 23 ∨ j = 24 ∨ j = 25 ∨ j = 26 ∨ j = 27 ∨ j = 28 ∨ j = 29 ∨ j = 30 ∨ j = 31 := by omega
  rcases hj2 with rfl | rfl | rfl | rfl | rfl | rfl | rfl | rfl | rfl | rfl | rfl | rfl | rfl | rfl | rfl | rfl | rfl | rfl | rfl | rfl | rfl | rfl | rfl | rfl | rfl | rfl | rfl | rfl | rfl | rfl | rfl | rfl
  · refine lv_tableIn (tgt := 164) hx hb dL_law_40 (by decide) (by decide) (off := 124) (by decide) (by decide) ?_
    exact law_case_0 l hl0 C1 hG hZ hK hP hD hS hl
  · refine lv_tableIn (tgt := 252) hx hb dL_law_40 (by decide) (by decide) (off := 212) (by decide) (by decide) ?_
    exact law_case_1 l hl0 C1 hG hZ hK hP hD hS hl
  · refine lv_tableIn (tgt := 308) hx hb dL_law_40 (by decide) (by decide) (off := 268) (by decide) (by decide) ?_
    exact law_case_2 l hl0 C1 hG hZ hK hP hD hS hl
  · refine lv_tableIn (tgt := 380) hx hb dL_law_40 (by decide) (by decide) (off := 340) (by decide) (by decide) ?_
    exact law_case_3 l hl0 C1 hG hZ hK hP hD hS hl
  · refine lv_tableIn (tgt := 512) hx hb dL_law_40 (by decide) (by decide) (off := 472) (by decide) (by decide) ?_
    exact law_case_4 l hl0 C1 hG hZ hK hP hD hS hl
  · refine lv_tableIn (tgt := 656) hx hb dL_law_40 (by decide) (by decide) (off := 616) (by decide) (by decide) ?_
    exact law_case_5 l hl0 C1 hG hZ hK hP hD hS hl
  · refine lv_tableIn (tgt := 768) hx hb dL_law_40 (by decide) (by decide) (off := 728) (by decide) (by decide) ?_
    exact law_case_6 l hl0 C1 hG hZ hK hP hD hS hl
  · refine lv_tableIn (tgt := 848) hx hb dL_law_40 (by decide) (by decide) (off := 808) (by decide) (by decide) ?_
    exact law_case_7 l hl0 C1 hG hZ hK hP hD hS hl
  · refine lv_tableIn (tgt := 960) hx hb dL_law_40 (by decide) (by decide) (off := 920) (by decide) (by decide) ?_
    exact law_case_8 l hl0 C1 hG hZ hK hP hD hS hl
  · refine lv_tableIn (tgt := 1028) hx hb dL_law_40 (by decide) (by decide) (off := 988) (by decide) (by decide) ?_
    exact law_case_9 l hl0 C1 hG hZ hK hP hD hS hl
  · refine lv_tableIn (tgt := 1096) hx hb dL_law_40 (by decide) (by decide) (off := 1056) (by decide) (by decide) ?_
    exact law_case_10 l hl0 C1 hG hZ hK hP hD hS hl
  · refine lv_tableIn (tgt := 1208) hx hb dL_law_40 (by decide) (by decide) (off := 1168) (by decide) (by decide) ?_
    exact law_case_11 l hl0 C1 hG hZ hK hP hD hS hl
  · refine lv_tableIn (tgt := 1320) hx hb dL_law_40 (by decide) (by decide) (off := 1280) (by decide) (by decide) ?_
    exact law_case_12 l hl0 C1 hG hZ hK hP hD hS hl
  · refine lv_tableIn (tgt := 1432) hx hb dL_law_40 (by decide) (by decide) (off := 1392) (by decide) (by decide) ?_
    exact law_case_13 l hl0 C1 hG hZ hK hP hD hS hl
  · refine lv_tableIn (tgt := 1500) hx hb dL_law_40 (by decide) (by decide) (off := 1460) (by decide) (by decide) ?_
    exact law_case_14 l hl0 C1 hG hZ hK hP hD hS hl
  · refine lv_tableIn (tgt := 1568) hx hb dL_law_40 (by decide) (by decide) (off := 1528) (by decide) (by decide) ?_
    exact law_case_15 l hl0 C1 hG hZ hK hP hD hS hl
  · refine lv_tableIn (tgt := 1624) hx hb dL_law_40 (by decide) (by decide) (off := 1584) (by decide) (by decide) ?_
    exact law_case_16 l hl0 C1 hG hZ hK hP hD hS hl
  · refine lv_tableIn (tgt := 1691) hx hb dL_law_40 (by decide) (by decide) (off := 1651) (by decide) (by decide) ?_
    exact law_case_17 l hl0 C1 hG hZ hK hP hD hS hl
  · refine lv_tableIn (tgt := 1746) hx hb dL_law_40 (by decide) (by decide) (off := 1706) (by decide) (by decide) ?_
    exact law_case_18 l hl0 C1 hG hZ hK hP hD hS hl
  · refine lv_tableIn (tgt := 1857) hx hb dL_law_40 (by decide) (by decide) (off := 1817) (by decide) (by decide) ?_
    exact law_case_19 l hl0 C1 hG hZ hK hP hD hS hl
  · refine lv_tableIn (tgt := 1968) hx hb dL_law_40 (by decide) (by decide) (off := 1928) (by decide) (by decide) ?_
    exact law_case_20 l hl0 C1 hG hZ hK hP hD hS hl
  · refine lv_tableIn (tgt := 2023) hx hb dL_law_40 (by decide) (by decide) (off := 1983) (by decide) (by decide) ?_
    exact law_case_21 l hl0 C1 hG hZ hK hP hD hS hl
  · refine lv_tableIn (tgt := 2036) hx hb dL_law_40 (by decide) (by decide) (off := 1996) (by decide) (by decide) ?_
    exact law_case_22 l hl0 C1 hG hZ hK hP hD hS hl
  · refine lv_tableIn (tgt := 2049) hx hb dL_law_40 (by decide) (by decide) (off := 2009) (by decide) (by decide) ?_
    exact law_case_23 l hl0 C1 hG hZ hK hP hD hS hl
  · refine lv_tableIn (tgt := 2062) hx hb dL_law_40 (by decide) (by decide) (off := 2022) (by decide) (by decide) ?_
    exact law_case_24 l hl0 C1 hG hZ hK hP hD hS hl
  · refine lv_tableIn (tgt := 2118) hx hb dL_law_40 (by decide) (by decide) (off := 2078) (by decide) (by decide) ?_
    exact law_case_25 l hl0 C1 hG hZ hK hP hD hS hl
  · refine lv_tableIn (tgt := 2193) hx hb dL_law_40 (by decide) (by decide) (off := 2153) (by decide) (by decide) ?_
    exact law_case_26 l hl0 C1 hG hZ hK hP hD hS hl
  · refine lv_tableOut (tgt := 2206) hx hb dL_law_40 (by decide) (by decide) ?_
    refine W.widen (k := 100) (n := 200000) (by decide +kernel) (by decide +kernel) ?_
    exact law_end l hx hb hr hlocks hX hbl hbA hS (lv_sub hl [0, 4] rfl)
  · refine lv_tableOut (tgt := 2206) hx hb dL_law_40 (by decide) (by decide) ?_
    refine W.widen (k := 100) (n := 200000) (by decide +kernel) (by decide +kernel) ?_
    exact law_end l hx hb hr hlocks hX hbl hbA hS (lv_sub hl [0, 4] rfl)
  · refine lv_tableOut (tgt := 2206) hx hb dL_law_40 (by decide) (by decide) ?_
    refine W.widen (k := 100) (n := 200000) (by decide +kernel) (by decide +kernel) ?_
    exact law_end l hx hb hr hlocks hX hbl hbA hS (lv_sub hl [0, 4] rfl)
  · refine lv_tableOut (tgt := 2206) hx hb dL_law_40 (by decide) (by decide) ?_
    refine W.widen (k := 100) (n := 200000) (by decide +kernel) (by decide +kernel) ?_
    exact law_end l hx hb hr hlocks hX hbl hbA hS (lv_sub hl [0, 4] rfl)
  · refine lv_tableOut (tgt := 2206) hx hb dL_law_40 (by decide) (by decide) ?_
    refine W.widen (k := 100) (n := 200000) (by decide +kernel) (by decide +kernel) ?_
    exact law_end l hx hb hr hlocks hX hbl hbA hS (lv_sub hl [0, 4] rfl)
set_option maxHeartbeats 4000000 in
set_option maxRecDepth 100000 in
theorem whole_start {p : Program} {e : Env} {s : State} {m : MethodId} {below : List Frame} {meth : Method} {c : Code} (l : Launch) (hl0 : l.stackTraces = false) {b L : Nat} {xs : Nat → Int32} (hL : L ≤ 6) (C0 : lw_At p s m meth c b L xs) : W p l e room_1 s m #[Value.ref b] below meth c s.heap [] 0 0 (lw_Z below #[Value.ref b] s) (entryFrame m ([Value.ref b] : List Value).toArray 8) := by
  obtain ⟨hG, hZ⟩ := law_G C0
  obtain ⟨dC, dI, hK⟩ := law_K C0
  have C1 := C0
  obtain ⟨hx, hb, hr, hml, hown, hts0, hX, hbl, hlocks, hgv⟩ := C0
  have hts := hts0
  have hcl := hts0 _ law_cl
  have hA : ∀ q : Nat, s.heap.size ≤ q → lA s q := fun _ h => h
  have hbA : ¬ lA s b := Nat.not_le.mpr hbl
  have hP : va_P (dC, dI) vwCl [] s.heap := nd_P0
  have hD : va_D (lA s) ([] : va_W) := nd_0
  have hS : va_S (lA s) s.heap s.heap [] := va_S.rf
  have hl := lv_entry ([.ref b]) (n := 8) (Nat.le_of_ble_eq_true rfl)
  rw [lg_entry_eq]
  generalize (lg_sl ([.ref b]) ++ List.replicate (8 - (lg_sl ([.ref b])).length) Slot.unset).toArray = ls at hl ⊢
  have hl : lv_has ls 8 [(0, .ref b)] := hl
  refine va_new (ci := 10) (fs := [.null, .null, .null, .null, .int 0, .int 0, .int 0, .int 0, .int 0]) (C := RX11) (T := TX11) (N := 9) hx hb hts (fun w h => (tw_X11 w h).1) tyX11 tyX11_ok hown (hts (.classLink RL 8 RX11) ((W1_g _ (by decide +kernel : (.classLink RL 8 RX11 : Cond) ∈ W1)).1)) (hts (.instantiable RX11 9) ((W1_g _ (by decide +kernel : (.instantiable RX11 9 : Cond) ∈ W1)).1)) (hts (.initialized RX11) ((W1_g _ (by decide +kernel : (.initialized RX11 : Cond) ∈ W1)).1)) hK hP hD hS hA rfl (fun j hj => by rcases (show j = 0 ∨ j = 1 ∨ j = 2 ∨ j = 3 ∨ j = 4 ∨ j = 5 ∨ j = 6 ∨ j = 7 ∨ j = 8 by omega) with rfl | rfl | rfl | rfl | rfl | rfl | rfl | rfl | rfl <;> rfl) (by decide +kernel) (by decide +kernel) dL_law_0 (fun q_1 H hP hD hS => ?_)
  have hP : va_P (dC, dI) vwCl [(q_1, .inr (10, [.null, .null, .null, .null, .int 0, .int 0, .int 0, .int 0, .int 0]))] H := hP
  have hD : va_D (lA s) [(q_1, .inr (10, [.null, .null, .null, .null, .int 0, .int 0, .int 0, .int 0, .int 0]))] := hD
  refine W.widen (k := 1) (n := 9) (by decide +kernel) (by decide +kernel) ?_
  refine lv_dup hx hb dL_law_3 rfl ?_
  have hPc := hP.sub (ws' := [(q_1, .inr (10, [.null, .null, .null, .null, .int 0, .int 0, .int 0, .int 0, .int 0]))]) [0] rfl
  have hDc := hD.sub (ws' := [(q_1, .inr (10, [.null, .null, .null, .null, .int 0, .int 0, .int 0, .int 0, .int 0]))]) [0] (by decide) rfl
  have hKc := hK.sub (tys' := []) [] rfl
  have hFc := va_free (wc := [(q_1, .inr (10, [.null, .null, .null, .null, .int 0, .int 0, .int 0, .int 0, .int 0]))]) hD hS hA [0] rfl
  refine va_callv (va_runI (As := []) (rest := [.ref q_1]) ⟨hx, hb, hml, hown, hts⟩ (c_X11_init l hl0 dC dI q_1 H.size) (cwI 0 hts tL_law_X11_init rfl rfl rfl (hts (.initialized RX11) ((W1_g _ (by decide +kernel : (.initialized RX11 : Cond) ∈ W1)).1)) (hts (.methodLink RL 96 yX11_init) ((W1_g _ (by decide +kernel : (.methodLink RL 96 yX11_init : Cond) ∈ W1)).1)) (hts (.instanceMethod yX11_init) ((W1_g _ (by decide +kernel : (.instanceMethod yX11_init : Cond) ∈ W1)).1)) rfl (by decide +kernel) ⟨Nat.le_of_ble_eq_true rfl, Nat.le_of_ble_eq_true rfl⟩) ⟨fun a U g mk q => by obtain ⟨q0, q1, qP, qK, qD, qG, qZ⟩ := q; exact ⟨q0, q1, qP, va_K.moved (u := U) (U := U.calling g mk a) (Vm.Alike.refl U.vm) qK, qD, Gw.same (u := U) (U := U.calling g mk a) rfl qG, Gz.moved (u := U) (U := U.calling g mk a) (Vm.Alike.refl U.vm) qZ⟩, fun U hU hW => ⟨rfl, by rw [hU], by rw [hU]; exact hPc, va_K.moved hW.alike hKc, hDc.weaken (fun _ _ _ _ => trivial), Gw.warm hW hG, Gz.step hZ hS hFc hU hW.alike⟩⟩ rfl rfl hl.1 rfl (lv_room (Nat.le_of_ble_eq_true rfl)) dL_law_4 ⟨Nat.le_of_ble_eq_true rfl, Nat.le_of_ble_eq_true rfl⟩) hS (fun q _ h => hFc q h) hFc (fun u_3 t H1 locs ht hvm hw hB hz1 hk1 hS => ?_)
  obtain ⟨hm, h1, h2, h3, cx⟩ := u_3
  obtain ⟨hP1, hK1, hD1⟩ := hB
  rw [ht] at hP1
  have hK1 := va_K.moved hvm.symm hK1
  have hK := hK.app hK1
  obtain ⟨hP, hD⟩ := va_join (wr := []) (w1 := [(q_1, .inr (10, xF hm h1 h2 h3 0 0 1000)), (hm, .inr (5, [.int 0, .int 0])), (h1, .inl (cx 1, 24, .inr (.inr (.inr (.inr (fun _ => none)))))), (h2, .inl (cx 2, 100, .inr (.inl (fun _ => 0)))), (h3, .inl (cx 3, 100, .inl (fun _ => 0)))]) hP hD [0] [] rfl rfl (by decide) (by decide) hk1 hFc hP1 hD1
  generalize H1 = H at hP hS ⊢
  have hP : va_P (dC, dI) vwCl [(q_1, .inr (10, xF hm h1 h2 h3 0 0 1000)), (hm, .inr (5, [.int 0, .int 0])), (h1, .inl (cx 1, 24, .inr (.inr (.inr (.inr (fun _ => none)))))), (h2, .inl (cx 2, 100, .inr (.inl (fun _ => 0)))), (h3, .inl (cx 3, 100, .inl (fun _ => 0)))] H := hP
  have hD : va_D (lA s) [(q_1, .inr (10, xF hm h1 h2 h3 0 0 1000)), (hm, .inr (5, [.int 0, .int 0])), (h1, .inl (cx 1, 24, .inr (.inr (.inr (.inr (fun _ => none)))))), (h2, .inl (cx 2, 100, .inr (.inl (fun _ => 0)))), (h3, .inl (cx 3, 100, .inl (fun _ => 0)))] := hD
  have hK : va_K (dC, dI) vwCl [(cx 1, .object RX5), (cx 2, .long), (cx 3, .byte)] s := hK
  refine W.widen (k := 5) (n := 309) (by decide +kernel) (by decide +kernel) ?_
  refine lv_astore_n (lv' := [(1, .ref q_1), (0, .ref b)]) hx hb dL_law_7 rfl hl (by decide) rfl (fun ls hl => ?_)
  refine va_new (ci := 11) (fs := [.int 0, .null, .null, .null, .null, .null, .null, .null, .null, .null, .null, .null, .int 0, .null, .null, .int 0, .int 0, .int 0, .int 0, .int 0, .null, .null, .long 0, .int 0, .int 0, .long 0, .int 0, .int 0, .int 0, .int 0, .long 0, .null]) (C := RX12) (T := TX12) (N := 32) hx hb hts (fun w h => (tw_X12 w h).1) tyX12 tyX12_ok hown (hts (.classLink RL 97 RX12) ((W1_g _ (by decide +kernel : (.classLink RL 97 RX12 : Cond) ∈ W1)).1)) (hts (.instantiable RX12 32) ((W1_g _ (by decide +kernel : (.instantiable RX12 32 : Cond) ∈ W1)).1)) (hts (.initialized RX12) ((W1_g _ (by decide +kernel : (.initialized RX12 : Cond) ∈ W1)).1)) hK hP hD hS hA rfl (fun j hj => by rcases (show j = 0 ∨ j = 1 ∨ j = 2 ∨ j = 3 ∨ j = 4 ∨ j = 5 ∨ j = 6 ∨ j = 7 ∨ j = 8 ∨ j = 9 ∨ j = 10 ∨ j = 11 ∨ j = 12 ∨ j = 13 ∨ j = 14 ∨ j = 15 ∨ j = 16 ∨ j = 17 ∨ j = 18 ∨ j = 19 ∨ j = 20 ∨ j = 21 ∨ j = 22 ∨ j = 23 ∨ j = 24 ∨ j = 25 ∨ j = 26 ∨ j = 27 ∨ j = 28 ∨ j = 29 ∨ j = 30 ∨ j = 31 by omega) with rfl | rfl | rfl | rfl | rfl | rfl | rfl | rfl | rfl | rfl | rfl | rfl | rfl | rfl | rfl | rfl | rfl | rfl | rfl | rfl | rfl | rfl | rfl | rfl | rfl | rfl | rfl | rfl | rfl | rfl | rfl | rfl <;> rfl) (by decide +kernel) (by decide +kernel) dL_law_8 (fun q_4 H hP hD hS => ?_)
  have hP : va_P (dC, dI) vwCl [(q_1, .inr (10, xF hm h1 h2 h3 0 0 1000)), (hm, .inr (5, [.int 0, .int 0])), (h1, .inl (cx 1, 24, .inr (.inr (.inr (.inr (fun _ => none)))))), (h2, .inl (cx 2, 100, .inr (.inl (fun _ => 0)))), (h3, .inl (cx 3, 100, .inl (fun _ => 0))), (q_4, .inr (11, [.int 0, .null, .null, .null, .null, .null, .null, .null, .null, .null, .null, .null, .int 0, .null, .null, .int 0, .int 0, .int 0, .int 0, .int 0, .null, .null, .long 0, .int 0, .int 0, .long 0, .int 0, .int 0, .int 0, .int 0, .long 0, .null]))] H := hP
  have hD : va_D (lA s) [(q_1, .inr (10, xF hm h1 h2 h3 0 0 1000)), (hm, .inr (5, [.int 0, .int 0])), (h1, .inl (cx 1, 24, .inr (.inr (.inr (.inr (fun _ => none)))))), (h2, .inl (cx 2, 100, .inr (.inl (fun _ => 0)))), (h3, .inl (cx 3, 100, .inl (fun _ => 0))), (q_4, .inr (11, [.int 0, .null, .null, .null, .null, .null, .null, .null, .null, .null, .null, .null, .int 0, .null, .null, .int 0, .int 0, .int 0, .int 0, .int 0, .null, .null, .long 0, .int 0, .int 0, .long 0, .int 0, .int 0, .int 0, .int 0, .long 0, .null]))] := hD
  refine W.widen (k := 6) (n := 341) (by decide +kernel) (by decide +kernel) ?_
  refine lv_dup hx hb dL_law_11 rfl ?_
  have hPc := hP.sub (ws' := [(q_4, .inr (11, [.int 0, .null, .null, .null, .null, .null, .null, .null, .null, .null, .null, .null, .int 0, .null, .null, .int 0, .int 0, .int 0, .int 0, .int 0, .null, .null, .long 0, .int 0, .int 0, .long 0, .int 0, .int 0, .int 0, .int 0, .long 0, .null]))]) [5] rfl
  have hDc := hD.sub (ws' := [(q_4, .inr (11, [.int 0, .null, .null, .null, .null, .null, .null, .null, .null, .null, .null, .null, .int 0, .null, .null, .int 0, .int 0, .int 0, .int 0, .int 0, .null, .null, .long 0, .int 0, .int 0, .long 0, .int 0, .int 0, .int 0, .int 0, .long 0, .null]))]) [5] (by decide) rfl
  have hKc := hK.sub (tys' := []) [] rfl
  have hFc := va_free (wc := [(q_4, .inr (11, [.int 0, .null, .null, .null, .null, .null, .null, .null, .null, .null, .null, .null, .int 0, .null, .null, .int 0, .int 0, .int 0, .int 0, .int 0, .null, .null, .long 0, .int 0, .int 0, .long 0, .int 0, .int 0, .int 0, .int 0, .long 0, .null]))]) hD hS hA [5] rfl
  refine va_callv (va_runI (As := []) (rest := [.ref q_4]) ⟨hx, hb, hml, hown, hts⟩ (c_X12_init l dC dI q_4 H.size) (cwI 0 hts tL_law_X12_init rfl rfl rfl (hts (.initialized RX12) ((W1_g _ (by decide +kernel : (.initialized RX12 : Cond) ∈ W1)).1)) (hts (.methodLink RL 99 yX12_init) ((W1_g _ (by decide +kernel : (.methodLink RL 99 yX12_init : Cond) ∈ W1)).1)) (hts (.instanceMethod yX12_init) ((W1_g _ (by decide +kernel : (.instanceMethod yX12_init : Cond) ∈ W1)).1)) rfl (by decide +kernel) ⟨Nat.le_of_ble_eq_true rfl, Nat.le_of_ble_eq_true rfl⟩) ⟨fun a U g mk q => by obtain ⟨q0, q1, qP, qK, qD⟩ := q; exact ⟨q0, q1, qP, va_K.moved (u := U) (U := U.calling g mk a) (Vm.Alike.refl U.vm) qK, qD⟩, fun U hU hW => ⟨rfl, by rw [hU], by rw [hU]; exact hPc, va_K.moved hW.alike hKc, hDc.weaken (fun _ _ _ _ => trivial)⟩⟩ rfl rfl hl.1 rfl (lv_room (Nat.le_of_ble_eq_true rfl)) dL_law_12 ⟨Nat.le_of_ble_eq_true rfl, Nat.le_of_ble_eq_true rfl⟩) hS (fun q _ h => hFc q h) hFc (fun u_6 t H1 locs ht hvm hw hB hz1 hk1 hS => ?_)
  obtain ⟨a, ca⟩ := u_6
  obtain ⟨hP1, hK1, hD1⟩ := hB
  rw [ht] at hP1
  have hK1 := va_K.moved hvm.symm hK1
  have hK := hK.app hK1
  obtain ⟨hP, hD⟩ := va_join (wr := [(q_1, .inr (10, xF hm h1 h2 h3 0 0 1000)), (hm, .inr (5, [.int 0, .int 0])), (h1, .inl (cx 1, 24, .inr (.inr (.inr (.inr (fun _ => none)))))), (h2, .inl (cx 2, 100, .inr (.inl (fun _ => 0)))), (h3, .inl (cx 3, 100, .inl (fun _ => 0)))]) (w1 := [(q_4, .inr (11, mF a 0 0 1000 0)), (a 1, .inl (ca 1, 24, .inl (fun _ => 0))), (a 2, .inl (ca 2, 24, .inl (fun _ => 0))), (a 3, .inl (ca 3, 24, .inl (fun _ => 0))), (a 4, .inl (ca 4, 24, .inl (fun _ => 0))), (a 5, .inl (ca 5, 24, .inr (.inl (fun _ => 0)))), (a 6, .inl (ca 6, 24, .inr (.inl (fun _ => 0)))), (a 13, .inl (ca 13, 100, .inl (fun _ => 0))), (a 14, .inl (ca 14, 100, .inr (.inl (fun _ => 0))))]) hP hD [5] [0, 1, 2, 3, 4] rfl rfl (by decide) (by decide) hk1 hFc hP1 hD1
  generalize H1 = H at hP hS ⊢
  have hP : va_P (dC, dI) vwCl [(q_1, .inr (10, xF hm h1 h2 h3 0 0 1000)), (hm, .inr (5, [.int 0, .int 0])), (h1, .inl (cx 1, 24, .inr (.inr (.inr (.inr (fun _ => none)))))), (h2, .inl (cx 2, 100, .inr (.inl (fun _ => 0)))), (h3, .inl (cx 3, 100, .inl (fun _ => 0))), (q_4, .inr (11, mF a 0 0 1000 0)), (a 1, .inl (ca 1, 24, .inl (fun _ => 0))), (a 2, .inl (ca 2, 24, .inl (fun _ => 0))), (a 3, .inl (ca 3, 24, .inl (fun _ => 0))), (a 4, .inl (ca 4, 24, .inl (fun _ => 0))), (a 5, .inl (ca 5, 24, .inr (.inl (fun _ => 0)))), (a 6, .inl (ca 6, 24, .inr (.inl (fun _ => 0)))), (a 13, .inl (ca 13, 100, .inl (fun _ => 0))), (a 14, .inl (ca 14, 100, .inr (.inl (fun _ => 0))))] H := hP
  have hD : va_D (lA s) [(q_1, .inr (10, xF hm h1 h2 h3 0 0 1000)), (hm, .inr (5, [.int 0, .int 0])), (h1, .inl (cx 1, 24, .inr (.inr (.inr (.inr (fun _ => none)))))), (h2, .inl (cx 2, 100, .inr (.inl (fun _ => 0)))), (h3, .inl (cx 3, 100, .inl (fun _ => 0))), (q_4, .inr (11, mF a 0 0 1000 0)), (a 1, .inl (ca 1, 24, .inl (fun _ => 0))), (a 2, .inl (ca 2, 24, .inl (fun _ => 0))), (a 3, .inl (ca 3, 24, .inl (fun _ => 0))), (a 4, .inl (ca 4, 24, .inl (fun _ => 0))), (a 5, .inl (ca 5, 24, .inr (.inl (fun _ => 0)))), (a 6, .inl (ca 6, 24, .inr (.inl (fun _ => 0)))), (a 13, .inl (ca 13, 100, .inl (fun _ => 0))), (a 14, .inl (ca 14, 100, .inr (.inl (fun _ => 0))))] := hD
  have hK : va_K (dC, dI) vwCl [(cx 1, .object RX5), (cx 2, .long), (cx 3, .byte), (ca 1, .int), (ca 2, .int), (ca 3, .int), (ca 4, .int), (ca 5, .long), (ca 6, .long), (ca 13, .int), (ca 14, .long)] s := hK
  refine W.widen (k := 22) (n := 78341) (by decide +kernel) (by decide +kernel) ?_
  refine lv_astore_n (lv' := [(2, .ref q_4), (1, .ref q_1), (0, .ref b)]) hx hb dL_law_15 rfl hl (by decide) rfl (fun ls hl => ?_)
  refine lv_iconst (v := 1) hx hb dL_law_16 (by decide) ?_
  refine va_newa (atype := .long) (ty := .long) (N' := 1) (a0 := (1, .inr (.inl (fun _ => 0)))) hx hb (hts (.arrayClass .long) ((W1_g _ (by decide +kernel : (.arrayClass .long : Cond) ∈ W1)).1)) rfl hK hP hD hS hA (nd_along 1) (by decide +kernel) (by decide +kernel) (by decide +kernel) (by decide +kernel) (by decide +kernel) dL_law_17 (fun q_7 cA_8 H hK hP hD hS => ?_)
  have hP : va_P (dC, dI) vwCl [(q_1, .inr (10, xF hm h1 h2 h3 0 0 1000)), (hm, .inr (5, [.int 0, .int 0])), (h1, .inl (cx 1, 24, .inr (.inr (.inr (.inr (fun _ => none)))))), (h2, .inl (cx 2, 100, .inr (.inl (fun _ => 0)))), (h3, .inl (cx 3, 100, .inl (fun _ => 0))), (q_4, .inr (11, mF a 0 0 1000 0)), (a 1, .inl (ca 1, 24, .inl (fun _ => 0))), (a 2, .inl (ca 2, 24, .inl (fun _ => 0))), (a 3, .inl (ca 3, 24, .inl (fun _ => 0))), (a 4, .inl (ca 4, 24, .inl (fun _ => 0))), (a 5, .inl (ca 5, 24, .inr (.inl (fun _ => 0)))), (a 6, .inl (ca 6, 24, .inr (.inl (fun _ => 0)))), (a 13, .inl (ca 13, 100, .inl (fun _ => 0))), (a 14, .inl (ca 14, 100, .inr (.inl (fun _ => 0)))), (q_7, .inl (cA_8, 1, .inr (.inl (fun _ => 0))))] H := hP
  have hD : va_D (lA s) [(q_1, .inr (10, xF hm h1 h2 h3 0 0 1000)), (hm, .inr (5, [.int 0, .int 0])), (h1, .inl (cx 1, 24, .inr (.inr (.inr (.inr (fun _ => none)))))), (h2, .inl (cx 2, 100, .inr (.inl (fun _ => 0)))), (h3, .inl (cx 3, 100, .inl (fun _ => 0))), (q_4, .inr (11, mF a 0 0 1000 0)), (a 1, .inl (ca 1, 24, .inl (fun _ => 0))), (a 2, .inl (ca 2, 24, .inl (fun _ => 0))), (a 3, .inl (ca 3, 24, .inl (fun _ => 0))), (a 4, .inl (ca 4, 24, .inl (fun _ => 0))), (a 5, .inl (ca 5, 24, .inr (.inl (fun _ => 0)))), (a 6, .inl (ca 6, 24, .inr (.inl (fun _ => 0)))), (a 13, .inl (ca 13, 100, .inl (fun _ => 0))), (a 14, .inl (ca 14, 100, .inr (.inl (fun _ => 0)))), (q_7, .inl (cA_8, 1, .inr (.inl (fun _ => 0))))] := hD
  have hK : va_K (dC, dI) vwCl [(cx 1, .object RX5), (cx 2, .long), (cx 3, .byte), (ca 1, .int), (ca 2, .int), (ca 3, .int), (ca 4, .int), (ca 5, .long), (ca 6, .long), (ca 13, .int), (ca 14, .long), (cA_8, .long)] s := hK
  refine W.widen (k := 23) (n := 78342) (by decide +kernel) (by decide +kernel) ?_
  refine lv_astore_n (lv' := [(3, .ref q_7), (2, .ref q_4), (1, .ref q_1), (0, .ref b)]) hx hb dL_law_19 rfl hl (by decide) rfl (fun ls hl => ?_)
  refine lv_iconst (v := 0) hx hb dL_law_20 (by decide) ?_
  refine lv_istore (lv' := [(4, .int 0), (3, .ref q_7), (2, .ref q_4), (1, .ref q_1), (0, .ref b)]) hx hb dL_law_21 hl (by decide) rfl (fun ls hl => ?_)
  refine W.widen (k := 23) (n := 78342) (by decide +kernel) (by decide +kernel) ?_
  have hP9 := hP.sub (ws' := [(q_1, .inr (10, xF hm h1 h2 h3 0 0 1000)), (hm, .inr (5, [.int 0, .int 0])), (h1, .inl (cx 1, 24, .inr (.inr (.inr (.inr (fun _ => none)))))), (h2, .inl (cx 2, 100, .inr (.inl (fun _ => 0)))), (h3, .inl (cx 3, 100, .inl (fun _ => 0))), (q_4, .inr (11, mF a 0 0 1000 0)), (a 1, .inl (ca 1, 24, .inl (fun _ => 0))), (a 2, .inl (ca 2, 24, .inl (fun _ => 0))), (a 3, .inl (ca 3, 24, .inl (fun _ => 0))), (a 4, .inl (ca 4, 24, .inl (fun _ => 0))), (a 5, .inl (ca 5, 24, .inr (.inl (fun _ => 0)))), (a 6, .inl (ca 6, 24, .inr (.inl (fun _ => 0)))), (a 13, .inl (ca 13, 100, .inl (fun _ => 0))), (a 14, .inl (ca 14, 100, .inr (.inl (fun _ => 0)))), (q_7, .inl (cA_8, 1, .inr (.inl (fun _ => 0))))]) [0, 1, 2, 3, 4, 5, 6, 7, 8, 9, 10, 11, 12, 13, 14] rfl
  have hD9 := hD.sub (ws' := [(q_1, .inr (10, xF hm h1 h2 h3 0 0 1000)), (hm, .inr (5, [.int 0, .int 0])), (h1, .inl (cx 1, 24, .inr (.inr (.inr (.inr (fun _ => none)))))), (h2, .inl (cx 2, 100, .inr (.inl (fun _ => 0)))), (h3, .inl (cx 3, 100, .inl (fun _ => 0))), (q_4, .inr (11, mF a 0 0 1000 0)), (a 1, .inl (ca 1, 24, .inl (fun _ => 0))), (a 2, .inl (ca 2, 24, .inl (fun _ => 0))), (a 3, .inl (ca 3, 24, .inl (fun _ => 0))), (a 4, .inl (ca 4, 24, .inl (fun _ => 0))), (a 5, .inl (ca 5, 24, .inr (.inl (fun _ => 0)))), (a 6, .inl (ca 6, 24, .inr (.inl (fun _ => 0)))), (a 13, .inl (ca 13, 100, .inl (fun _ => 0))), (a 14, .inl (ca 14, 100, .inr (.inl (fun _ => 0)))), (q_7, .inl (cA_8, 1, .inr (.inl (fun _ => 0))))]) [0, 1, 2, 3, 4, 5, 6, 7, 8, 9, 10, 11, 12, 13, 14] (by decide) rfl
  have hK9 := hK.sub (tys' := [(cx 1, .object RX5), (cx 2, .long), (cx 3, .byte), (ca 1, .int), (ca 2, .int), (ca 3, .int), (ca 4, .int), (ca 5, .long), (ca 6, .long), (ca 13, .int), (ca 14, .long), (cA_8, .long)]) [0, 1, 2, 3, 4, 5, 6, 7, 8, 9, 10, 11] rfl
  have hl := lv_sub (l' := [(4, .int 0), (3, .ref q_7), (2, .ref q_4), (1, .ref q_1), (0, .ref b)]) hl [0, 1, 2, 3, 4] rfl
  have hLs : L = 0 ∨ L = 1 ∨ L = 2 ∨ L = 3 ∨ L = 4 ∨ L = 5 ∨ L = 6 := by omega
  clear hL
  rcases hLs with rfl | rfl | rfl | rfl | rfl | rfl | rfl
  · refine lv_iload hx hb dL_law_23 (lv_at hl 0 rfl) ?_
    refine lv_aload_n hx hb dL_law_25 rfl (lv_at hl 4 rfl) ?_
    refine va_slen hx hb hX hbl hbA hS dL_law_26 ?_
    refine lv_topi (fun z_9 ez_9 => ?_)
    obtain rfl : z_9 = 0 := ez_9.trans (by decide)
    refine lv_bipush (v := 6) hx hb dL_law_27 (by decide) ?_
    refine lv_isub hx hb dL_law_29 ?_
    refine lv_topi (fun z_10 ez_10 => ?_)
    obtain rfl : z_10 = -6 := ez_10.trans (by decide)
    refine lv_icmp_gt (tgt := 2212) hx hb dL_law_30 (by decide) (fun c_30 => ?_) (fun c_30 => ?_)
    · refine lv_iconst (v := 1) hx hb dL_law_2212 (by decide) ?_
      refine va_forget (fun q hq => hS.2.2 q hq) ?_
      refine W.widen (k := 600002) (n := 7302232) (by decide +kernel) (by decide +kernel) ?_
      exact lw_ret hx hb hr hlocks dL_law_2213
    · exact absurd c_30 (by decide)
  · refine lv_iload hx hb dL_law_23 (lv_at hl 0 rfl) ?_
    refine lv_aload_n hx hb dL_law_25 rfl (lv_at hl 4 rfl) ?_
    refine va_slen hx hb hX hbl hbA hS dL_law_26 ?_
    refine lv_topi (fun z_9 ez_9 => ?_)
    obtain rfl : z_9 = 1 := ez_9.trans (by decide)
    refine lv_bipush (v := 6) hx hb dL_law_27 (by decide) ?_
    refine lv_isub hx hb dL_law_29 ?_
    refine lv_topi (fun z_10 ez_10 => ?_)
    obtain rfl : z_10 = -5 := ez_10.trans (by decide)
    refine lv_icmp_gt (tgt := 2212) hx hb dL_law_30 (by decide) (fun c_30 => ?_) (fun c_30 => ?_)
    · refine lv_iconst (v := 1) hx hb dL_law_2212 (by decide) ?_
      refine va_forget (fun q hq => hS.2.2 q hq) ?_
      refine W.widen (k := 600002) (n := 7302232) (by decide +kernel) (by decide +kernel) ?_
      exact lw_ret hx hb hr hlocks dL_law_2213
    · exact absurd c_30 (by decide)
  · refine lv_iload hx hb dL_law_23 (lv_at hl 0 rfl) ?_
    refine lv_aload_n hx hb dL_law_25 rfl (lv_at hl 4 rfl) ?_
    refine va_slen hx hb hX hbl hbA hS dL_law_26 ?_
    refine lv_topi (fun z_9 ez_9 => ?_)
    obtain rfl : z_9 = 2 := ez_9.trans (by decide)
    refine lv_bipush (v := 6) hx hb dL_law_27 (by decide) ?_
    refine lv_isub hx hb dL_law_29 ?_
    refine lv_topi (fun z_10 ez_10 => ?_)
    obtain rfl : z_10 = -4 := ez_10.trans (by decide)
    refine lv_icmp_gt (tgt := 2212) hx hb dL_law_30 (by decide) (fun c_30 => ?_) (fun c_30 => ?_)
    · refine lv_iconst (v := 1) hx hb dL_law_2212 (by decide) ?_
      refine va_forget (fun q hq => hS.2.2 q hq) ?_
      refine W.widen (k := 600002) (n := 7302232) (by decide +kernel) (by decide +kernel) ?_
      exact lw_ret hx hb hr hlocks dL_law_2213
    · exact absurd c_30 (by decide)
  · refine lv_iload hx hb dL_law_23 (lv_at hl 0 rfl) ?_
    refine lv_aload_n hx hb dL_law_25 rfl (lv_at hl 4 rfl) ?_
    refine va_slen hx hb hX hbl hbA hS dL_law_26 ?_
    refine lv_topi (fun z_9 ez_9 => ?_)
    obtain rfl : z_9 = 3 := ez_9.trans (by decide)
    refine lv_bipush (v := 6) hx hb dL_law_27 (by decide) ?_
    refine lv_isub hx hb dL_law_29 ?_
    refine lv_topi (fun z_10 ez_10 => ?_)
    obtain rfl : z_10 = -3 := ez_10.trans (by decide)
    refine lv_icmp_gt (tgt := 2212) hx hb dL_law_30 (by decide) (fun c_30 => ?_) (fun c_30 => ?_)
    · refine lv_iconst (v := 1) hx hb dL_law_2212 (by decide) ?_
      refine va_forget (fun q hq => hS.2.2 q hq) ?_
      refine W.widen (k := 600002) (n := 7302232) (by decide +kernel) (by decide +kernel) ?_
      exact lw_ret hx hb hr hlocks dL_law_2213
    · exact absurd c_30 (by decide)
  · refine lv_iload hx hb dL_law_23 (lv_at hl 0 rfl) ?_
    refine lv_aload_n hx hb dL_law_25 rfl (lv_at hl 4 rfl) ?_
    refine va_slen hx hb hX hbl hbA hS dL_law_26 ?_
    refine lv_topi (fun z_9 ez_9 => ?_)
    obtain rfl : z_9 = 4 := ez_9.trans (by decide)
    refine lv_bipush (v := 6) hx hb dL_law_27 (by decide) ?_
    refine lv_isub hx hb dL_law_29 ?_
    refine lv_topi (fun z_10 ez_10 => ?_)
    obtain rfl : z_10 = -2 := ez_10.trans (by decide)
    refine lv_icmp_gt (tgt := 2212) hx hb dL_law_30 (by decide) (fun c_30 => ?_) (fun c_30 => ?_)
    · refine lv_iconst (v := 1) hx hb dL_law_2212 (by decide) ?_
      refine va_forget (fun q hq => hS.2.2 q hq) ?_
      refine W.widen (k := 600002) (n := 7302232) (by decide +kernel) (by decide +kernel) ?_
      exact lw_ret hx hb hr hlocks dL_law_2213
    · exact absurd c_30 (by decide)
  · refine lv_iload hx hb dL_law_23 (lv_at hl 0 rfl) ?_
    refine lv_aload_n hx hb dL_law_25 rfl (lv_at hl 4 rfl) ?_
    refine va_slen hx hb hX hbl hbA hS dL_law_26 ?_
    refine lv_topi (fun z_9 ez_9 => ?_)
    obtain rfl : z_9 = 5 := ez_9.trans (by decide)
    refine lv_bipush (v := 6) hx hb dL_law_27 (by decide) ?_
    refine lv_isub hx hb dL_law_29 ?_
    refine lv_topi (fun z_10 ez_10 => ?_)
    obtain rfl : z_10 = -1 := ez_10.trans (by decide)
    refine lv_icmp_gt (tgt := 2212) hx hb dL_law_30 (by decide) (fun c_30 => ?_) (fun c_30 => ?_)
    · refine lv_iconst (v := 1) hx hb dL_law_2212 (by decide) ?_
      refine va_forget (fun q hq => hS.2.2 q hq) ?_
      refine W.widen (k := 600002) (n := 7302232) (by decide +kernel) (by decide +kernel) ?_
      exact lw_ret hx hb hr hlocks dL_law_2213
    · exact absurd c_30 (by decide)
  · refine lv_iload hx hb dL_law_23 (lv_at hl 0 rfl) ?_
    refine lv_aload_n hx hb dL_law_25 rfl (lv_at hl 4 rfl) ?_
    refine va_slen hx hb hX hbl hbA hS dL_law_26 ?_
    refine lv_topi (fun z_9 ez_9 => ?_)
    obtain rfl : z_9 = 6 := ez_9.trans (by decide)
    refine lv_bipush (v := 6) hx hb dL_law_27 (by decide) ?_
    refine lv_isub hx hb dL_law_29 ?_
    refine lv_topi (fun z_10 ez_10 => ?_)
    obtain rfl : z_10 = 0 := ez_10.trans (by decide)
    refine lv_icmp_gt (tgt := 2212) hx hb dL_law_30 (by decide) (fun c_30 => ?_) (fun c_30 => ?_)
    · exact absurd c_30 (by decide)
    · exact law_switch l hl0 C1 hG hZ hK9 hP9 hD9 hS hl
