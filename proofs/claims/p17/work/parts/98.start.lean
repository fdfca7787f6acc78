theorem dL_law_0 : decode cL_law 0 = .ok (.new 8, 3) := by decide +kernel
theorem dL_law_3 : decode cL_law 3 = .ok (.dup, 1) := by decide +kernel
theorem dL_law_4 : decode cL_law 4 = .ok (.invokespecial 96, 3) := by decide +kernel
theorem dL_law_7 : decode cL_law 7 = .ok (.astore_n 1, 1) := by decide +kernel
theorem dL_law_8 : decode cL_law 8 = .ok (.new 97, 3) := by decide +kernel
theorem dL_law_11 : decode cL_law 11 = .ok (.dup, 1) := by decide +kernel
theorem dL_law_12 : decode cL_law 12 = .ok (.invokespecial 99, 3) := by decide +kernel
theorem dL_law_15 : decode cL_law 15 = .ok (.astore_n 2, 1) := by decide +kernel
theorem dL_law_16 : decode cL_law 16 = .ok (.iconst 1, 1) := by decide +kernel
theorem dL_law_17 : decode cL_law 17 = .ok (.newarray .long, 2) := by decide +kernel
theorem dL_law_19 : decode cL_law 19 = .ok (.astore_n 3, 1) := by decide +kernel
theorem dL_law_20 : decode cL_law 20 = .ok (.iconst 0, 1) := by decide +kernel
theorem dL_law_21 : decode cL_law 21 = .ok (.istore 4, 2) := by decide +kernel
set_option maxHeartbeats 4000000 in
set_option maxRecDepth 100000 in
theorem law_G {p : Program} {s : State} {m : MethodId} {meth : Method} {c : Code} {b L : Nat} {xs : Nat → Int32} (C0 : lw_At p s m meth c b L xs) : Gc s ∧ Gn s ∧ Gz (lA s) s s.heap := by
  obtain ⟨hx, hb, hr, hml, hown, hts, hX, hbl, hlocks, hgv⟩ := C0
  have hs := flat_of_before _ hgv
  have hA : ∀ a : Nat, a < s.heap.size → ¬ lA s a := fun a h => Nat.not_le.mpr h
  have t120 : ∃ a, vk_R RX11 120 "sort is not 0 .. 4" a s := by
    obtain ⟨a, c9, cA, kA, q1, -⟩ := Cond.exactly_spec (args := #[Value.ref b]) (first := s) (o := none) (s := s) (idx := []) (t := .string "NeededLists" 120) (cls := "java/lang/String") (hs (.exactly (.string "NeededLists" 120) "java/lang/String") (by decide +kernel))
    exact ⟨a, vk_R.of (hts (.stringRef RX11 120 "sort is not 0 .. 4") (List.mem_of_getElem? (i := 571) (by decide +kernel))) q1⟩
  have t139 : ∃ a, vk_R RX11 139 "n is not 1 .. 5000" a s := by
    obtain ⟨a, c9, cA, kA, q1, -⟩ := Cond.exactly_spec (args := #[Value.ref b]) (first := s) (o := none) (s := s) (idx := []) (t := .string "NeededLists" 139) (cls := "java/lang/String") (hs (.exactly (.string "NeededLists" 139) "java/lang/String") (by decide +kernel))
    exact ⟨a, vk_R.of (hts (.stringRef RX11 139 "n is not 1 .. 5000") (List.mem_of_getElem? (i := 622) (by decide +kernel))) q1⟩
  have t141 : ∃ a, vk_R RX11 141 "k is below 0" a s := by
    obtain ⟨a, c9, cA, kA, q1, -⟩ := Cond.exactly_spec (args := #[Value.ref b]) (first := s) (o := none) (s := s) (idx := []) (t := .string "NeededLists" 141) (cls := "java/lang/String") (hs (.exactly (.string "NeededLists" 141) "java/lang/String") (by decide +kernel))
    exact ⟨a, vk_R.of (hts (.stringRef RX11 141 "k is below 0") (List.mem_of_getElem? (i := 630) (by decide +kernel))) q1⟩
  have t200 : ∃ a, vk_R RX11 200 "there is no such list" a s := by
    obtain ⟨a, c9, cA, kA, q1, -⟩ := Cond.exactly_spec (args := #[Value.ref b]) (first := s) (o := none) (s := s) (idx := []) (t := .string "NeededLists" 200) (cls := "java/lang/String") (hs (.exactly (.string "NeededLists" 200) "java/lang/String") (by decide +kernel))
    exact ⟨a, vk_R.of (hts (.stringRef RX11 200 "there is no such list") (List.mem_of_getElem? (i := 378) (by decide +kernel))) q1⟩
  have t203 : ∃ a, vk_R RX11 203 "there are 24 lists" a s := by
    obtain ⟨a, c9, cA, kA, q1, -⟩ := Cond.exactly_spec (args := #[Value.ref b]) (first := s) (o := none) (s := s) (idx := []) (t := .string "NeededLists" 203) (cls := "java/lang/String") (hs (.exactly (.string "NeededLists" 203) "java/lang/String") (by decide +kernel))
    exact ⟨a, vk_R.of (hts (.stringRef RX11 203 "there are 24 lists") (List.mem_of_getElem? (i := 251) (by decide +kernel))) q1⟩
  have t205 : ∃ a, vk_R RX11 205 "op is not 0 .. 8" a s := by
    obtain ⟨a, c9, cA, kA, q1, -⟩ := Cond.exactly_spec (args := #[Value.ref b]) (first := s) (o := none) (s := s) (idx := []) (t := .string "NeededLists" 205) (cls := "java/lang/String") (hs (.exactly (.string "NeededLists" 205) "java/lang/String") (by decide +kernel))
    exact ⟨a, vk_R.of (hts (.stringRef RX11 205 "op is not 0 .. 8") (List.mem_of_getElem? (i := 332) (by decide +kernel))) q1⟩
  have t207 : ∃ a, vk_R RX11 207 "cond is not 0 .. 3" a s := by
    obtain ⟨a, c9, cA, kA, q1, -⟩ := Cond.exactly_spec (args := #[Value.ref b]) (first := s) (o := none) (s := s) (idx := []) (t := .string "NeededLists" 207) (cls := "java/lang/String") (hs (.exactly (.string "NeededLists" 207) "java/lang/String") (by decide +kernel))
    exact ⟨a, vk_R.of (hts (.stringRef RX11 207 "cond is not 0 .. 3") (List.mem_of_getElem? (i := 499) (by decide +kernel))) q1⟩
  have t209 : ∃ a, vk_R RX11 209 "n is not 0 .. 400" a s := by
    obtain ⟨a, c9, cA, kA, q1, -⟩ := Cond.exactly_spec (args := #[Value.ref b]) (first := s) (o := none) (s := s) (idx := []) (t := .string "NeededLists" 209) (cls := "java/lang/String") (hs (.exactly (.string "NeededLists" 209) "java/lang/String") (by decide +kernel))
    exact ⟨a, vk_R.of (hts (.stringRef RX11 209 "n is not 0 .. 400") (List.mem_of_getElem? (i := 433) (by decide +kernel))) q1⟩
  have t40 : ∃ a, vk_R RX11 40 "kind is not 0 or 1" a s := by
    obtain ⟨a, c9, cA, kA, q1, -⟩ := Cond.exactly_spec (args := #[Value.ref b]) (first := s) (o := none) (s := s) (idx := []) (t := .string "NeededLists" 40) (cls := "java/lang/String") (hs (.exactly (.string "NeededLists" 40) "java/lang/String") (by decide +kernel))
    exact ⟨a, vk_R.of (hts (.stringRef RX11 40 "kind is not 0 or 1") (List.mem_of_getElem? (i := 233) (by decide +kernel))) q1⟩
  have t50 : ∃ a, vk_R RX11 50 "THE ROW is full" a s := by
    obtain ⟨a, c9, cA, kA, q1, -⟩ := Cond.exactly_spec (args := #[Value.ref b]) (first := s) (o := none) (s := s) (idx := []) (t := .string "NeededLists" 50) (cls := "java/lang/String") (hs (.exactly (.string "NeededLists" 50) "java/lang/String") (by decide +kernel))
    exact ⟨a, vk_R.of (hts (.stringRef RX11 50 "THE ROW is full") (List.mem_of_getElem? (i := 190) (by decide +kernel))) q1⟩
  refine ⟨⟨va_Nw.of rfl (hts (.declares ⟨"NeededLists$LazyList", "seek", "(I)I"⟩) (List.mem_of_getElem? (i := 650) (by decide +kernel))), va_Nw.of rfl (hts (.methodLinkNest RX5 74 yX11_dividesByNone "NeededLists") (List.mem_of_getElem? (i := 778) (by decide +kernel))), va_Nw.of rfl (hts (.methodLinkNest RX5 78 yX11_reckon "NeededLists") (List.mem_of_getElem? (i := 781) (by decide +kernel))), va_Nw.of rfl (hts (.methodLinkNest RX2 37 yX11_meets "NeededLists") (List.mem_of_getElem? (i := 832) (by decide +kernel))), va_Nw.of rfl (hts (.methodLinkNest RX8 41 yX11_meets "NeededLists") (List.mem_of_getElem? (i := 879) (by decide +kernel))), va_Nw.of rfl (hts (.methodLinkNest RX10 42 yX11_meets "NeededLists") (List.mem_of_getElem? (i := 893) (by decide +kernel))), va_Nw.of rfl (hts (.methodLinkNest RX11 11 yX6_init "NeededLists") (List.mem_of_getElem? (i := 77) (by decide +kernel))), va_Nw.of rfl (hts (.fieldLinkNest RX11 188 "NeededLists$Meter" "used" "I" "NeededLists") (List.mem_of_getElem? (i := 83) (by decide +kernel))), va_Nw.of rfl (hts (.fieldLinkNest RX11 191 "NeededLists$LazyList" "met" "I" "NeededLists") (List.mem_of_getElem? (i := 291) (by decide +kernel))), va_AO.of (hts (.arrayOver (.object RX5)) (List.mem_of_getElem? (i := 90) (by decide +kernel))), va_Nw.of rfl (hts (.castable RX0 RX5) (List.mem_of_getElem? (i := 1340) (by decide +kernel))), va_Nw.of rfl (hts (.castable RX1 RX5) (List.mem_of_getElem? (i := 1341) (by decide +kernel))), va_Nw.of rfl (hts (.castable RX2 RX5) (List.mem_of_getElem? (i := 1342) (by decide +kernel))), va_Nw.of rfl (hts (.castable RX3 RX5) (List.mem_of_getElem? (i := 1343) (by decide +kernel))), va_Nw.of rfl (hts (.castable RX4 RX5) (List.mem_of_getElem? (i := 1344) (by decide +kernel))), va_Nw.of rfl (hts (.castable RX7 RX5) (List.mem_of_getElem? (i := 1345) (by decide +kernel))), va_Nw.of rfl (hts (.castable RX8 RX5) (List.mem_of_getElem? (i := 1346) (by decide +kernel))), va_Nw.of rfl (hts (.castable RX9 RX5) (List.mem_of_getElem? (i := 1347) (by decide +kernel))), va_Nw.of rfl (hts (.castable RX10 RX5) (List.mem_of_getElem? (i := 1348) (by decide +kernel))), va_Nw.of rfl (hts (.castable "java/lang/IndexOutOfBoundsException" "java/lang/IndexOutOfBoundsException") (List.mem_of_getElem? (i := 371) (by decide +kernel))), va_Nw.of rfl (hts (.castable "java/lang/IllegalArgumentException" "java/lang/IllegalArgumentException") (List.mem_of_getElem? (i := 226) (by decide +kernel))), va_Nw.of rfl (hts (.castable "java/lang/UnsupportedOperationException" "java/lang/UnsupportedOperationException") (List.mem_of_getElem? (i := 151) (by decide +kernel))), va_Nw.of rfl (hts (.castable "[J" "java/lang/Cloneable") (List.mem_of_getElem? (i := 260) (by decide +kernel))), va_Nw.of rfl (hts (.castable "[B" "java/lang/Cloneable") (List.mem_of_getElem? (i := 274) (by decide +kernel))), va_Nw.of rfl (hts (.declares ⟨"java/lang/RuntimeException", "<init>", "(Ljava/lang/String;)V"⟩) (List.mem_of_getElem? (i := 153) (by decide +kernel))), va_Nw.of rfl (hts (.declares ⟨"java/lang/Exception", "<init>", "(Ljava/lang/String;)V"⟩) (List.mem_of_getElem? (i := 155) (by decide +kernel))), va_Nw.of rfl (hts (.declares ⟨"java/lang/Throwable", "<init>", "(Ljava/lang/String;)V"⟩) (List.mem_of_getElem? (i := 157) (by decide +kernel))), t120, t139, t141, t200, t203, t205, t207, t209, t40, t50⟩, ⟨va_Nc.of (hs (.not (.castable "java/lang/IllegalArgumentException" "java/lang/IndexOutOfBoundsException")) (by decide +kernel)), va_Nc.of (hs (.not (.castable "java/lang/UnsupportedOperationException" "java/lang/IndexOutOfBoundsException")) (by decide +kernel)), va_Nc.of (hs (.not (.castable "java/lang/UnsupportedOperationException" "java/lang/IllegalArgumentException")) (by decide +kernel))⟩, ?_⟩
  exact ⟨vx_Zqof (hts (.laysStatic Bundle.tN "UNASSIGNED_STACK" Bundle.steD) (List.mem_of_getElem? (i := 176) (by decide +kernel))) (hts (.initialized Bundle.tN) (List.mem_of_getElem? (i := 48) (by decide +kernel))) (hs (.isRef (.static Bundle.tN "UNASSIGNED_STACK" Bundle.steD)) (by decide +kernel)) hA, vx_Zqof (hts (.laysStatic Bundle.tN "SUPPRESSED_SENTINEL" Bundle.listD) (List.mem_of_getElem? (i := 178) (by decide +kernel))) (hts (.initialized Bundle.tN) (List.mem_of_getElem? (i := 48) (by decide +kernel))) (hs (.isRef (.static Bundle.tN "SUPPRESSED_SENTINEL" Bundle.listD)) (by decide +kernel)) hA⟩
set_option maxHeartbeats 4000000 in
set_option maxRecDepth 100000 in
theorem law_K {p : Program} {s : State} {m : MethodId} {meth : Method} {c : Code} {b L : Nat} {xs : Nat → Int32} (C0 : lw_At p s m meth c b L xs) : ∃ (dC : Nat → ClassId) (dI : Nat → Nat → Nat), va_K (dC, dI) vwCl [] s := by
  obtain ⟨hx, hb, hr, hml, hown, hts, hX, hbl, hlocks, hgv⟩ := C0
  obtain ⟨c0, iS0, hKn0⟩ := u_known (C := RX0) (T := TX0) (N := 9) (n := 9) hts (fun w h => (tw_X0 w h).1) (hts (.instantiable RX0 9) (List.mem_of_getElem? (i := 334) (by decide +kernel)))
  obtain ⟨c1, iS1, hKn1⟩ := u_known (C := RX1) (T := TX1) (N := 9) (n := 9) hts (fun w h => (tw_X1 w h).1) (hts (.instantiable RX1 9) (List.mem_of_getElem? (i := 386) (by decide +kernel)))
  obtain ⟨c2, iS2, hKn2⟩ := u_known (C := RX2) (T := TX2) (N := 9) (n := 9) hts (fun w h => (tw_X2 w h).1) (hts (.instantiable RX2 9) (List.mem_of_getElem? (i := 435) (by decide +kernel)))
  obtain ⟨c3, iS3, hKn3⟩ := u_known (C := RX3) (T := TX3) (N := 7) (n := 7) hts (fun w h => (tw_X3 w h).1) (hts (.instantiable RX3 7) (List.mem_of_getElem? (i := 277) (by decide +kernel)))
  obtain ⟨c4, iS4, hKn4⟩ := u_known (C := RX4) (T := TX4) (N := 7) (n := 7) hts (fun w h => (tw_X4 w h).1) (hts (.instantiable RX4 7) (List.mem_of_getElem? (i := 547) (by decide +kernel)))
  obtain ⟨c5, iS5, hKn5⟩ := u_known (C := RX6) (T := TX6) (N := 2) (n := 2) hts (fun w h => (tw_X6 w h).1) (hts (.instantiable RX6 2) (List.mem_of_getElem? (i := 76) (by decide +kernel)))
  obtain ⟨c6, iS6, hKn6⟩ := u_known (C := RX7) (T := TX7) (N := 7) (n := 7) hts (fun w h => (tw_X7 w h).1) (hts (.instantiable RX7 7) (List.mem_of_getElem? (i := 577) (by decide +kernel)))
  obtain ⟨c7, iS7, hKn7⟩ := u_known (C := RX8) (T := TX8) (N := 9) (n := 9) hts (fun w h => (tw_X8 w h).1) (hts (.instantiable RX8 9) (List.mem_of_getElem? (i := 466) (by decide +kernel)))
  obtain ⟨c8, iS8, hKn8⟩ := u_known (C := RX9) (T := TX9) (N := 8) (n := 8) hts (fun w h => (tw_X9 w h).1) (hts (.instantiable RX9 8) (List.mem_of_getElem? (i := 595) (by decide +kernel)))
  obtain ⟨c9, iS9, hKn9⟩ := u_known (C := RX10) (T := TX10) (N := 9) (n := 9) hts (fun w h => (tw_X10 w h).1) (hts (.instantiable RX10 9) (List.mem_of_getElem? (i := 501) (by decide +kernel)))
  obtain ⟨c10, iS10, hKn10⟩ := u_known (C := RX11) (T := TX11) (N := 9) (n := 9) hts (fun w h => (tw_X11 w h).1) (hts (.instantiable RX11 9) (List.mem_of_getElem? (i := 68) (by decide +kernel)))
  obtain ⟨c11, iS11, hKn11⟩ := u_known (C := RX12) (T := TX12) (N := 32) (n := 32) hts (fun w h => (tw_X12 w h).1) (hts (.instantiable RX12 32) (List.mem_of_getElem? (i := 954) (by decide +kernel)))
  refine ⟨fun k => match k with | 0 => c0 | 1 => c1 | 2 => c2 | 3 => c3 | 4 => c4 | 5 => c5 | 6 => c6 | 7 => c7 | 8 => c8 | 9 => c9 | 10 => c10 | _ => c11, fun k => match k with | 0 => iS0 | 1 => iS1 | 2 => iS2 | 3 => iS3 | 4 => iS4 | 5 => iS5 | 6 => iS6 | 7 => iS7 | 8 => iS8 | 9 => iS9 | 10 => iS10 | _ => iS11, ?_, fun k q h => by simp at h⟩
  intro k q hq
  match k, hq with
  | 0, hq => cases hq; exact hKn0
  | 1, hq => cases hq; exact hKn1
  | 2, hq => cases hq; exact hKn2
  | 3, hq => cases hq; exact hKn3
  | 4, hq => cases hq; exact hKn4
  | 5, hq => cases hq; exact hKn5
  | 6, hq => cases hq; exact hKn6
  | 7, hq => cases hq; exact hKn7
  | 8, hq => cases hq; exact hKn8
  | 9, hq => cases hq; exact hKn9
  | 10, hq => cases hq; exact hKn10
  | 11, hq => cases hq; exact hKn11
  | k + 12, hq => simp [vwCl] at hq
theorem cW_start {h0 hm h1 h2 h3 : Nat} {cx : Nat → ClassId} (n1 : hm ≠ h0) (n2 : h1 ≠ h0) (n3 : h2 ≠ h0) (n4 : h3 ≠ h0) (n5 : h1 ≠ hm) (n6 : h2 ≠ hm) (n7 : h3 ≠ hm) (n8 : h2 ≠ h1) (n9 : h3 ≠ h1) (n10 : h3 ≠ h2) : cW (sh0 h0 hm h1 h2 h3 cx) (ci0 h0) (fun _ _ => 0) (fun _ _ => 0) = [(h0, .inr (10, xF hm h1 h2 h3 0 0 1000)), (hm, .inr (5, [.int 0, .int 0])), (h1, .inl (cx 1, 24, .inr (.inr (.inr (.inr (fun _ => none)))))), (h2, .inl (cx 2, 100, .inr (.inl (fun _ => 0)))), (h3, .inl (cx 3, 100, .inl (fun _ => 0)))] := by
  have k0 : sK (sh0 h0 hm h1 h2 h3 cx) h0 = 10 := by simp [sK, sh0]
  have k1 : sK (sh0 h0 hm h1 h2 h3 cx) hm = 5 := by simp [sK, sh0, n1]
  have k2 : sK (sh0 h0 hm h1 h2 h3 cx) h1 = 23 := by simp [sK, sh0, n2, n5]
  have k3 : sK (sh0 h0 hm h1 h2 h3 cx) h2 = 22 := by simp [sK, sh0, n3, n6, n8]
  have k4 : sK (sh0 h0 hm h1 h2 h3 cx) h3 = 21 := by simp [sK, sh0, n4, n7, n9, n10]
  have e0 := cE_o (ci := ci0 h0) (ai := fun _ _ => 0) (al := fun _ _ => 0) k0 (by decide)
  have e1 := cE_o (ci := ci0 h0) (ai := fun _ _ => 0) (al := fun _ _ => 0) k1 (by decide)
  have e2 := cE_q (ci := ci0 h0) (ai := fun _ _ => 0) (al := fun _ _ => 0) k2
  have e3 := cE_l (ci := ci0 h0) (ai := fun _ _ => 0) (al := fun _ _ => 0) k3
  have e4 := cE_i (ci := ci0 h0) (ai := fun _ _ => 0) (al := fun _ _ => 0) (Or.inr k4)
  show [(h0, cE (sh0 h0 hm h1 h2 h3 cx) (ci0 h0) (fun _ _ => 0) (fun _ _ => 0) h0), (hm, cE (sh0 h0 hm h1 h2 h3 cx) (ci0 h0) (fun _ _ => 0) (fun _ _ => 0) hm), (h1, cE (sh0 h0 hm h1 h2 h3 cx) (ci0 h0) (fun _ _ => 0) (fun _ _ => 0) h1), (h2, cE (sh0 h0 hm h1 h2 h3 cx) (ci0 h0) (fun _ _ => 0) (fun _ _ => 0) h2), (h3, cE (sh0 h0 hm h1 h2 h3 cx) (ci0 h0) (fun _ _ => 0) (fun _ _ => 0) h3)] = _
  rw [e0, e1, e2, e3, e4]
  have a1 : sA (sh0 h0 hm h1 h2 h3 cx) h1 = cx 1 := by simp [sA, sh0]
  have a2 : sA (sh0 h0 hm h1 h2 h3 cx) h2 = cx 2 := by simp [sA, sh0, n8]
  have a3 : sA (sh0 h0 hm h1 h2 h3 cx) h3 = cx 3 := by simp [sA, sh0, n9, n10]
  have b1 : sN (sh0 h0 hm h1 h2 h3 cx) h1 = 24 := by simp [sN, sh0]
  have b2 : sN (sh0 h0 hm h1 h2 h3 cx) h2 = 100 := by simp [sN, sh0, n8]
  have b3 : sN (sh0 h0 hm h1 h2 h3 cx) h3 = 100 := by simp [sN, sh0, n9]
  rw [a1, a2, a3, b1, b2, b3]
  have r0 : sR (sh0 h0 hm h1 h2 h3 cx) h0 = (fun k => match k with | 0 => some hm | 1 => some h1 | 2 => some h2 | 3 => some h3 | _ => none) := by
    funext k
    simp [sR, sh0]
    rfl
  have c0 : ci0 h0 h0 = (fun k => if k = 6 then 1000 else 0) := by
    funext k
    simp [ci0]
  have c1 : ci0 h0 hm = (fun _ => 0) := by
    funext k
    simp [ci0, n1]
  rw [r0, c0, c1]
  rfl
theorem cK_start {s : State} {dC : Nat → ClassId} {dI : Nat → Nat → Nat} {h0 hm h1 h2 h3 : Nat} {cx : Nat → ClassId} (n1 : hm ≠ h0) (n2 : h1 ≠ h0) (n3 : h2 ≠ h0) (n4 : h3 ≠ h0) (n5 : h1 ≠ hm) (n6 : h2 ≠ hm) (n7 : h3 ≠ hm) (n8 : h2 ≠ h1) (n9 : h3 ≠ h1) (n10 : h3 ≠ h2) (hK : va_K (dC, dI) vwCl [(cx 1, .object RX5), (cx 2, .long), (cx 3, .byte)] s) : cK dC dI (sh0 h0 hm h1 h2 h3 cx) s := by
  refine ⟨hK.sub [] rfl, fun q hq => ?_⟩
  have k0 : sK (sh0 h0 hm h1 h2 h3 cx) h0 = 10 := by simp [sK, sh0]
  have k1 : sK (sh0 h0 hm h1 h2 h3 cx) hm = 5 := by simp [sK, sh0, n1]
  have k2 : sK (sh0 h0 hm h1 h2 h3 cx) h1 = 23 := by simp [sK, sh0, n2, n5]
  have k3 : sK (sh0 h0 hm h1 h2 h3 cx) h2 = 22 := by simp [sK, sh0, n3, n6, n8]
  have k4 : sK (sh0 h0 hm h1 h2 h3 cx) h3 = 21 := by simp [sK, sh0, n4, n7, n9, n10]
  have a1 : sA (sh0 h0 hm h1 h2 h3 cx) h1 = cx 1 := by simp [sA, sh0]
  have a2 : sA (sh0 h0 hm h1 h2 h3 cx) h2 = cx 2 := by simp [sA, sh0, n8]
  have a3 : sA (sh0 h0 hm h1 h2 h3 cx) h3 = cx 3 := by simp [sA, sh0, n9, n10]
  have hq' : q ∈ [h0, hm, h1, h2, h3] := hq
  have hq2 : q = h0 ∨ q = hm ∨ q = h1 ∨ q = h2 ∨ q = h3 := by simpa using hq'
  rcases hq2 with rfl | rfl | rfl | rfl | rfl
  · rw [k0]; exact ⟨fun h => absurd h (by decide), fun h => absurd h (by decide), fun h => absurd h (by decide), fun h => absurd h (by decide)⟩
  · rw [k1]; exact ⟨fun h => absurd h (by decide), fun h => absurd h (by decide), fun h => absurd h (by decide), fun h => absurd h (by decide)⟩
  · rw [k2, a1]; exact ⟨fun h => absurd h (by decide), fun h => absurd h (by decide), fun h => absurd h (by decide), fun _ => hK.2 0 _ rfl⟩
  · rw [k3, a2]; exact ⟨fun h => absurd h (by decide), fun h => absurd h (by decide), fun _ => hK.2 1 _ rfl, fun h => absurd h (by decide)⟩
  · rw [k4, a3]; exact ⟨fun h => absurd h (by decide), fun _ => hK.2 2 _ rfl, fun h => absurd h (by decide), fun h => absurd h (by decide)⟩
set_option maxHeartbeats 4000000 in
set_option maxRecDepth 100000 in
theorem whole_start {p : Program} {e : Env} {s : State} {m : MethodId} {below : List Frame} {meth : Method} {c : Code} (l : Launch) (hl0 : l.stackTraces = false) {b L : Nat} {xs : Nat → Int32} (hL : L ≤ 3072) (C0 : lw_At p s m meth c b L xs) : W p l e room_1 s m #[Value.ref b] below meth c s.heap [] 0 0 (lw_Z below #[Value.ref b] s) (entryFrame m ([Value.ref b] : List Value).toArray 8) := by
  obtain ⟨hG, hN, hZ⟩ := law_G C0
  obtain ⟨dC, dI, hK⟩ := law_K C0
  have C1 := C0
  obtain ⟨hx, hb, hr, hml, hown, hts, hX, hbl, hlocks, hgv⟩ := C0
  have hA : ∀ q : Nat, s.heap.size ≤ q → lA s q := fun _ h => h
  have hbA : ¬ lA s b := Nat.not_le.mpr hbl
  have hP : va_P (dC, dI) vwCl [] s.heap := nd_P0
  have hD : va_D (lA s) ([] : va_W) := nd_0
  have hS : va_S (lA s) s.heap s.heap [] := va_S.rf
  have hl := lv_entry ([.ref b]) (n := 8) (Nat.le_of_ble_eq_true rfl)
  rw [lg_entry_eq]
  generalize (lg_sl ([.ref b]) ++ List.replicate (8 - (lg_sl ([.ref b])).length) Slot.unset).toArray = ls at hl ⊢
  have hl : lv_has ls 8 [(0, .ref b)] := hl
  refine va_new (ci := 10) (fs := [.null, .null, .null, .null, .int 0, .int 0, .int 0, .int 0, .int 0]) (C := RX11) (T := TX11) (N := 9) hx hb hts (fun w h => (tw_X11 w h).1) tyX11 tyX11_ok hown (hts _ lw_w201) (hts _ lw_w202) (hts _ lw_w157) hK hP hD hS hA rfl (fun j hj => by rcases (show j = 0 ∨ j = 1 ∨ j = 2 ∨ j = 3 ∨ j = 4 ∨ j = 5 ∨ j = 6 ∨ j = 7 ∨ j = 8 by omega) with rfl | rfl | rfl | rfl | rfl | rfl | rfl | rfl | rfl <;> rfl) (by decide +kernel) (by decide +kernel) dL_law_0 (fun q_1 H hP hD hS => ?_)
  have hP : va_P (dC, dI) vwCl [(q_1, .inr (10, [.null, .null, .null, .null, .int 0, .int 0, .int 0, .int 0, .int 0]))] H := hP
  have hD : va_D (lA s) [(q_1, .inr (10, [.null, .null, .null, .null, .int 0, .int 0, .int 0, .int 0, .int 0]))] := hD
  refine W.widen (k := 1) (n := 9) (by decide +kernel) (by decide +kernel) ?_
  refine lv_dup hx hb dL_law_3 rfl ?_
  have hPc := hP.sub (ws' := [(q_1, .inr (10, [.null, .null, .null, .null, .int 0, .int 0, .int 0, .int 0, .int 0]))]) [0] rfl
  have hDc := hD.sub (ws' := [(q_1, .inr (10, [.null, .null, .null, .null, .int 0, .int 0, .int 0, .int 0, .int 0]))]) [0] (by decide) rfl
  have hKc := hK.sub (tys' := []) [] rfl
  have hFc := va_free (wc := [(q_1, .inr (10, [.null, .null, .null, .null, .int 0, .int 0, .int 0, .int 0, .int 0]))]) hD hS hA [0] rfl
  refine va_callv (va_runI (As := []) (rest := [.ref q_1]) ⟨hx, hb, hml, hown, hts⟩ (c_X11_init l hl0 dC dI q_1 H.size) (cwI 0 hts tL_X11_init rfl rfl rfl (hts _ lw_w157) (hts _ lw_w203) (hts _ lw_w204) rfl (by decide +kernel) ⟨Nat.le_of_ble_eq_true rfl, Nat.le_of_ble_eq_true rfl⟩) ⟨fun a U g mk q => by obtain ⟨q0, q1, qP, qK, qD, qG, qZ⟩ := q; exact ⟨q0, q1, qP, va_K.moved (u := U) (U := U.calling g mk a) (Vm.Alike.refl U.vm) qK, qD, Gc.same (u := U) (U := U.calling g mk a) rfl qG, Gz.moved (u := U) (U := U.calling g mk a) (Vm.Alike.refl U.vm) qZ⟩, fun U hU hW => ⟨rfl, by rw [hU], by rw [hU]; exact hPc, va_K.moved hW.alike hKc, hDc.weaken (fun _ _ _ _ => trivial), Gc.warm hW hG, Gz.step hZ hS hFc hU hW.alike⟩⟩ rfl rfl hl.1 rfl (lv_room (Nat.le_of_ble_eq_true rfl)) dL_law_4 ⟨Nat.le_of_ble_eq_true rfl, Nat.le_of_ble_eq_true rfl⟩) hS (fun q _ h => hFc q h) hFc (fun u_3 t H1 locs ht hvm hw hB hz1 hk1 hS => ?_)
  obtain ⟨hm, h1, h2, h3, cx⟩ := u_3
  obtain ⟨hP1, hK1, hD1⟩ := hB
  rw [ht] at hP1
  have hK1 := va_K.moved hvm.symm hK1
  have hK := hK.app hK1
  obtain ⟨hP, hD⟩ := va_join (wr := []) (w1 := [(q_1, .inr (10, xF hm h1 h2 h3 0 0 1000)), (hm, .inr (5, [.int 0, .int 0])), (h1, .inl (cx 1, 24, .inr (.inr (.inr (.inr (fun _ => none)))))), (h2, .inl (cx 2, 100, .inr (.inl (fun _ => 0)))), (h3, .inl (cx 3, 100, .inl (fun _ => 0)))]) hP hD [0] [] rfl rfl (by decide) (by decide) hk1 hFc hP1 hD1
  generalize H1 = H at hP hS ⊢
  have hP : va_P (dC, dI) vwCl [(q_1, .inr (10, xF hm h1 h2 h3 0 0 1000)), (hm, .inr (5, [.int 0, .int 0])), (h1, .inl (cx 1, 24, .inr (.inr (.inr (.inr (fun _ => none)))))), (h2, .inl (cx 2, 100, .inr (.inl (fun _ => 0)))), (h3, .inl (cx 3, 100, .inl (fun _ => 0)))] H := hP
  have hD : va_D (lA s) [(q_1, .inr (10, xF hm h1 h2 h3 0 0 1000)), (hm, .inr (5, [.int 0, .int 0])), (h1, .inl (cx 1, 24, .inr (.inr (.inr (.inr (fun _ => none)))))), (h2, .inl (cx 2, 100, .inr (.inl (fun _ => 0)))), (h3, .inl (cx 3, 100, .inl (fun _ => 0)))] := hD
  have hK : va_K (dC, dI) vwCl [(cx 1, .object RX5), (cx 2, .long), (cx 3, .byte)] s := hK
  refine W.widen (k := 5) (n := 309) (by decide +kernel) (by decide +kernel) ?_
  refine lv_astore_n (lv' := [(1, .ref q_1), (0, .ref b)]) hx hb dL_law_7 rfl hl (by decide) rfl (fun ls hl => ?_)
  refine va_new (ci := 11) (fs := [.int 0, .null, .null, .null, .null, .null, .null, .null, .null, .null, .null, .null, .int 0, .null, .null, .int 0, .int 0, .int 0, .int 0, .int 0, .null, .null, .long 0, .int 0, .int 0, .long 0, .int 0, .int 0, .int 0, .int 0, .long 0, .null]) (C := RX12) (T := TX12) (N := 32) hx hb hts (fun w h => (tw_X12 w h).1) tyX12 tyX12_ok hown (hts _ lw_w205) (hts _ lw_w206) (hts _ lw_w8) hK hP hD hS hA rfl (fun j hj => by rcases (show j = 0 ∨ j = 1 ∨ j = 2 ∨ j = 3 ∨ j = 4 ∨ j = 5 ∨ j = 6 ∨ j = 7 ∨ j = 8 ∨ j = 9 ∨ j = 10 ∨ j = 11 ∨ j = 12 ∨ j = 13 ∨ j = 14 ∨ j = 15 ∨ j = 16 ∨ j = 17 ∨ j = 18 ∨ j = 19 ∨ j = 20 ∨ j = 21 ∨ j = 22 ∨ j = 23 ∨ j = 24 ∨ j = 25 ∨ j = 26 ∨ j = 27 ∨ j = 28 ∨ j = 29 ∨ j = 30 ∨ j = 31 by omega) with rfl | rfl | rfl | rfl | rfl | rfl | rfl | rfl | rfl | rfl | rfl | rfl | rfl | rfl | rfl | rfl | rfl | rfl | rfl | rfl | rfl | rfl | rfl | rfl | rfl | rfl | rfl | rfl | rfl | rfl | rfl | rfl <;> rfl) (by decide +kernel) (by decide +kernel) dL_law_8 (fun q_4 H hP hD hS => ?_)
  have hP : va_P (dC, dI) vwCl [(q_1, .inr (10, xF hm h1 h2 h3 0 0 1000)), (hm, .inr (5, [.int 0, .int 0])), (h1, .inl (cx 1, 24, .inr (.inr (.inr (.inr (fun _ => none)))))), (h2, .inl (cx 2, 100, .inr (.inl (fun _ => 0)))), (h3, .inl (cx 3, 100, .inl (fun _ => 0))), (q_4, .inr (11, [.int 0, .null, .null, .null, .null, .null, .null, .null, .null, .null, .null, .null, .int 0, .null, .null, .int 0, .int 0, .int 0, .int 0, .int 0, .null, .null, .long 0, .int 0, .int 0, .long 0, .int 0, .int 0, .int 0, .int 0, .long 0, .null]))] H := hP
  have hD : va_D (lA s) [(q_1, .inr (10, xF hm h1 h2 h3 0 0 1000)), (hm, .inr (5, [.int 0, .int 0])), (h1, .inl (cx 1, 24, .inr (.inr (.inr (.inr (fun _ => none)))))), (h2, .inl (cx 2, 100, .inr (.inl (fun _ => 0)))), (h3, .inl (cx 3, 100, .inl (fun _ => 0))), (q_4, .inr (11, [.int 0, .null, .null, .null, .null, .null, .null, .null, .null, .null, .null, .null, .int 0, .null, .null, .int 0, .int 0, .int 0, .int 0, .int 0, .null, .null, .long 0, .int 0, .int 0, .long 0, .int 0, .int 0, .int 0, .int 0, .long 0, .null]))] := hD
  refine W.widen (k := 6) (n := 341) (by decide +kernel) (by decide +kernel) ?_
  refine lv_dup hx hb dL_law_11 rfl ?_
  have hPc := hP.sub (ws' := [(q_4, .inr (11, [.int 0, .null, .null, .null, .null, .null, .null, .null, .null, .null, .null, .null, .int 0, .null, .null, .int 0, .int 0, .int 0, .int 0, .int 0, .null, .null, .long 0, .int 0, .int 0, .long 0, .int 0, .int 0, .int 0, .int 0, .long 0, .null]))]) [5] rfl
  have hDc := hD.sub (ws' := [(q_4, .inr (11, [.int 0, .null, .null, .null, .null, .null, .null, .null, .null, .null, .null, .null, .int 0, .null, .null, .int 0, .int 0, .int 0, .int 0, .int 0, .null, .null, .long 0, .int 0, .int 0, .long 0, .int 0, .int 0, .int 0, .int 0, .long 0, .null]))]) [5] (by decide) rfl
  have hKc := hK.sub (tys' := []) [] rfl
  have hFc := va_free (wc := [(q_4, .inr (11, [.int 0, .null, .null, .null, .null, .null, .null, .null, .null, .null, .null, .null, .int 0, .null, .null, .int 0, .int 0, .int 0, .int 0, .int 0, .null, .null, .long 0, .int 0, .int 0, .long 0, .int 0, .int 0, .int 0, .int 0, .long 0, .null]))]) hD hS hA [5] rfl
  refine va_callv (va_runI (As := []) (rest := [.ref q_4]) ⟨hx, hb, hml, hown, hts⟩ (c_X12_init l dC dI q_4 H.size) (cwI 0 hts tL_X12_init rfl rfl rfl (hts _ lw_w8) (hts _ lw_w207) (hts _ lw_w208) rfl (by decide +kernel) ⟨Nat.le_of_ble_eq_true rfl, Nat.le_of_ble_eq_true rfl⟩) ⟨fun a U g mk q => by obtain ⟨q0, q1, qP, qK, qD⟩ := q; exact ⟨q0, q1, qP, va_K.moved (u := U) (U := U.calling g mk a) (Vm.Alike.refl U.vm) qK, qD⟩, fun U hU hW => ⟨rfl, by rw [hU], by rw [hU]; exact hPc, va_K.moved hW.alike hKc, hDc.weaken (fun _ _ _ _ => trivial)⟩⟩ rfl rfl hl.1 rfl (lv_room (Nat.le_of_ble_eq_true rfl)) dL_law_12 ⟨Nat.le_of_ble_eq_true rfl, Nat.le_of_ble_eq_true rfl⟩) hS (fun q _ h => hFc q h) hFc (fun u_6 t H1 locs ht hvm hw hB hz1 hk1 hS => ?_)
  obtain ⟨a, ca⟩ := u_6
  obtain ⟨hP1, hK1, hD1⟩ := hB
  rw [ht] at hP1
  have hK1 := va_K.moved hvm.symm hK1
  have hK := hK.app hK1
  obtain ⟨hP, hD⟩ := va_join (wr := [(q_1, .inr (10, xF hm h1 h2 h3 0 0 1000)), (hm, .inr (5, [.int 0, .int 0])), (h1, .inl (cx 1, 24, .inr (.inr (.inr (.inr (fun _ => none)))))), (h2, .inl (cx 2, 100, .inr (.inl (fun _ => 0)))), (h3, .inl (cx 3, 100, .inl (fun _ => 0)))]) (w1 := [(q_4, .inr (11, [.int 0, .ref (a 1), .ref (a 2), .ref (a 3), .ref (a 4), .ref (a 5), .ref (a 6), .ref (a 7), .ref (a 8), .ref (a 9), .ref (a 10), .ref (a 11), .int 0, .ref (a 13), .ref (a 14), .int 1000, .int 0, .int 0, .int 0, .int 0, .ref (a 20), .ref (a 21), .long 0, .int 0, .int 0, .long 0, .int 0, .int 0, .int 0, .int 0, .long 0, .ref (a 31)])), (a 1, .inl (ca 1, 24, .inl (fun _ => 0))), (a 2, .inl (ca 2, 24, .inl (fun _ => 0))), (a 3, .inl (ca 3, 24, .inl (fun _ => 0))), (a 4, .inl (ca 4, 24, .inl (fun _ => 0))), (a 5, .inl (ca 5, 24, .inr (.inl (fun _ => 0)))), (a 6, .inl (ca 6, 24, .inr (.inl (fun _ => 0)))), (a 7, .inl (ca 7, 9600, .inl (fun _ => 0))), (a 8, .inl (ca 8, 9600, .inl (fun _ => 0))), (a 9, .inl (ca 9, 9600, .inr (.inl (fun _ => 0)))), (a 10, .inl (ca 10, 9600, .inl (fun _ => 0))), (a 11, .inl (ca 11, 9600, .inl (fun _ => 0))), (a 13, .inl (ca 13, 100, .inl (fun _ => 0))), (a 14, .inl (ca 14, 100, .inr (.inl (fun _ => 0)))), (a 20, .inl (ca 20, 2400, .inl (fun _ => 0))), (a 21, .inl (ca 21, 2400, .inr (.inl (fun _ => 0)))), (a 31, .inl (ca 31, 20000, .inl (fun _ => 0)))]) hP hD [5] [0, 1, 2, 3, 4] rfl rfl (by decide) (by decide) hk1 hFc hP1 hD1
  generalize H1 = H at hP hS ⊢
  have hP : va_P (dC, dI) vwCl [(q_1, .inr (10, xF hm h1 h2 h3 0 0 1000)), (hm, .inr (5, [.int 0, .int 0])), (h1, .inl (cx 1, 24, .inr (.inr (.inr (.inr (fun _ => none)))))), (h2, .inl (cx 2, 100, .inr (.inl (fun _ => 0)))), (h3, .inl (cx 3, 100, .inl (fun _ => 0))), (q_4, .inr (11, [.int 0, .ref (a 1), .ref (a 2), .ref (a 3), .ref (a 4), .ref (a 5), .ref (a 6), .ref (a 7), .ref (a 8), .ref (a 9), .ref (a 10), .ref (a 11), .int 0, .ref (a 13), .ref (a 14), .int 1000, .int 0, .int 0, .int 0, .int 0, .ref (a 20), .ref (a 21), .long 0, .int 0, .int 0, .long 0, .int 0, .int 0, .int 0, .int 0, .long 0, .ref (a 31)])), (a 1, .inl (ca 1, 24, .inl (fun _ => 0))), (a 2, .inl (ca 2, 24, .inl (fun _ => 0))), (a 3, .inl (ca 3, 24, .inl (fun _ => 0))), (a 4, .inl (ca 4, 24, .inl (fun _ => 0))), (a 5, .inl (ca 5, 24, .inr (.inl (fun _ => 0)))), (a 6, .inl (ca 6, 24, .inr (.inl (fun _ => 0)))), (a 7, .inl (ca 7, 9600, .inl (fun _ => 0))), (a 8, .inl (ca 8, 9600, .inl (fun _ => 0))), (a 9, .inl (ca 9, 9600, .inr (.inl (fun _ => 0)))), (a 10, .inl (ca 10, 9600, .inl (fun _ => 0))), (a 11, .inl (ca 11, 9600, .inl (fun _ => 0))), (a 13, .inl (ca 13, 100, .inl (fun _ => 0))), (a 14, .inl (ca 14, 100, .inr (.inl (fun _ => 0)))), (a 20, .inl (ca 20, 2400, .inl (fun _ => 0))), (a 21, .inl (ca 21, 2400, .inr (.inl (fun _ => 0)))), (a 31, .inl (ca 31, 20000, .inl (fun _ => 0)))] H := hP
  have hD : va_D (lA s) [(q_1, .inr (10, xF hm h1 h2 h3 0 0 1000)), (hm, .inr (5, [.int 0, .int 0])), (h1, .inl (cx 1, 24, .inr (.inr (.inr (.inr (fun _ => none)))))), (h2, .inl (cx 2, 100, .inr (.inl (fun _ => 0)))), (h3, .inl (cx 3, 100, .inl (fun _ => 0))), (q_4, .inr (11, [.int 0, .ref (a 1), .ref (a 2), .ref (a 3), .ref (a 4), .ref (a 5), .ref (a 6), .ref (a 7), .ref (a 8), .ref (a 9), .ref (a 10), .ref (a 11), .int 0, .ref (a 13), .ref (a 14), .int 1000, .int 0, .int 0, .int 0, .int 0, .ref (a 20), .ref (a 21), .long 0, .int 0, .int 0, .long 0, .int 0, .int 0, .int 0, .int 0, .long 0, .ref (a 31)])), (a 1, .inl (ca 1, 24, .inl (fun _ => 0))), (a 2, .inl (ca 2, 24, .inl (fun _ => 0))), (a 3, .inl (ca 3, 24, .inl (fun _ => 0))), (a 4, .inl (ca 4, 24, .inl (fun _ => 0))), (a 5, .inl (ca 5, 24, .inr (.inl (fun _ => 0)))), (a 6, .inl (ca 6, 24, .inr (.inl (fun _ => 0)))), (a 7, .inl (ca 7, 9600, .inl (fun _ => 0))), (a 8, .inl (ca 8, 9600, .inl (fun _ => 0))), (a 9, .inl (ca 9, 9600, .inr (.inl (fun _ => 0)))), (a 10, .inl (ca 10, 9600, .inl (fun _ => 0))), (a 11, .inl (ca 11, 9600, .inl (fun _ => 0))), (a 13, .inl (ca 13, 100, .inl (fun _ => 0))), (a 14, .inl (ca 14, 100, .inr (.inl (fun _ => 0)))), (a 20, .inl (ca 20, 2400, .inl (fun _ => 0))), (a 21, .inl (ca 21, 2400, .inr (.inl (fun _ => 0)))), (a 31, .inl (ca 31, 20000, .inl (fun _ => 0)))] := hD
  have hK : va_K (dC, dI) vwCl [(cx 1, .object RX5), (cx 2, .long), (cx 3, .byte), (ca 1, .int), (ca 2, .int), (ca 3, .int), (ca 4, .int), (ca 5, .long), (ca 6, .long), (ca 7, .int), (ca 8, .int), (ca 9, .long), (ca 10, .int), (ca 11, .int), (ca 13, .int), (ca 14, .long), (ca 20, .int), (ca 21, .long), (ca 31, .int)] s := hK
  refine W.widen (k := 22) (n := 78341) (by decide +kernel) (by decide +kernel) ?_
  refine lv_astore_n (lv' := [(2, .ref q_4), (1, .ref q_1), (0, .ref b)]) hx hb dL_law_15 rfl hl (by decide) rfl (fun ls hl => ?_)
  refine lv_iconst (v := 1) hx hb dL_law_16 (by decide) ?_
  refine va_newa (atype := .long) (ty := .long) (N' := 1) (a0 := (1, .inr (.inl (fun _ => 0)))) hx hb (hts _ lw_w209) rfl hK hP hD hS hA (nd_along 1) (by decide +kernel) (by decide +kernel) (by decide +kernel) (by decide +kernel) (by decide +kernel) dL_law_17 (fun q_7 cA_8 H hK hP hD hS => ?_)
  have hP : va_P (dC, dI) vwCl [(q_1, .inr (10, xF hm h1 h2 h3 0 0 1000)), (hm, .inr (5, [.int 0, .int 0])), (h1, .inl (cx 1, 24, .inr (.inr (.inr (.inr (fun _ => none)))))), (h2, .inl (cx 2, 100, .inr (.inl (fun _ => 0)))), (h3, .inl (cx 3, 100, .inl (fun _ => 0))), (q_4, .inr (11, [.int 0, .ref (a 1), .ref (a 2), .ref (a 3), .ref (a 4), .ref (a 5), .ref (a 6), .ref (a 7), .ref (a 8), .ref (a 9), .ref (a 10), .ref (a 11), .int 0, .ref (a 13), .ref (a 14), .int 1000, .int 0, .int 0, .int 0, .int 0, .ref (a 20), .ref (a 21), .long 0, .int 0, .int 0, .long 0, .int 0, .int 0, .int 0, .int 0, .long 0, .ref (a 31)])), (a 1, .inl (ca 1, 24, .inl (fun _ => 0))), (a 2, .inl (ca 2, 24, .inl (fun _ => 0))), (a 3, .inl (ca 3, 24, .inl (fun _ => 0))), (a 4, .inl (ca 4, 24, .inl (fun _ => 0))), (a 5, .inl (ca 5, 24, .inr (.inl (fun _ => 0)))), (a 6, .inl (ca 6, 24, .inr (.inl (fun _ => 0)))), (a 7, .inl (ca 7, 9600, .inl (fun _ => 0))), (a 8, .inl (ca 8, 9600, .inl (fun _ => 0))), (a 9, .inl (ca 9, 9600, .inr (.inl (fun _ => 0)))), (a 10, .inl (ca 10, 9600, .inl (fun _ => 0))), (a 11, .inl (ca 11, 9600, .inl (fun _ => 0))), (a 13, .inl (ca 13, 100, .inl (fun _ => 0))), (a 14, .inl (ca 14, 100, .inr (.inl (fun _ => 0)))), (a 20, .inl (ca 20, 2400, .inl (fun _ => 0))), (a 21, .inl (ca 21, 2400, .inr (.inl (fun _ => 0)))), (a 31, .inl (ca 31, 20000, .inl (fun _ => 0))), (q_7, .inl (cA_8, 1, .inr (.inl (fun _ => 0))))] H := hP
  have hD : va_D (lA s) [(q_1, .inr (10, xF hm h1 h2 h3 0 0 1000)), (hm, .inr (5, [.int 0, .int 0])), (h1, .inl (cx 1, 24, .inr (.inr (.inr (.inr (fun _ => none)))))), (h2, .inl (cx 2, 100, .inr (.inl (fun _ => 0)))), (h3, .inl (cx 3, 100, .inl (fun _ => 0))), (q_4, .inr (11, [.int 0, .ref (a 1), .ref (a 2), .ref (a 3), .ref (a 4), .ref (a 5), .ref (a 6), .ref (a 7), .ref (a 8), .ref (a 9), .ref (a 10), .ref (a 11), .int 0, .ref (a 13), .ref (a 14), .int 1000, .int 0, .int 0, .int 0, .int 0, .ref (a 20), .ref (a 21), .long 0, .int 0, .int 0, .long 0, .int 0, .int 0, .int 0, .int 0, .long 0, .ref (a 31)])), (a 1, .inl (ca 1, 24, .inl (fun _ => 0))), (a 2, .inl (ca 2, 24, .inl (fun _ => 0))), (a 3, .inl (ca 3, 24, .inl (fun _ => 0))), (a 4, .inl (ca 4, 24, .inl (fun _ => 0))), (a 5, .inl (ca 5, 24, .inr (.inl (fun _ => 0)))), (a 6, .inl (ca 6, 24, .inr (.inl (fun _ => 0)))), (a 7, .inl (ca 7, 9600, .inl (fun _ => 0))), (a 8, .inl (ca 8, 9600, .inl (fun _ => 0))), (a 9, .inl (ca 9, 9600, .inr (.inl (fun _ => 0)))), (a 10, .inl (ca 10, 9600, .inl (fun _ => 0))), (a 11, .inl (ca 11, 9600, .inl (fun _ => 0))), (a 13, .inl (ca 13, 100, .inl (fun _ => 0))), (a 14, .inl (ca 14, 100, .inr (.inl (fun _ => 0)))), (a 20, .inl (ca 20, 2400, .inl (fun _ => 0))), (a 21, .inl (ca 21, 2400, .inr (.inl (fun _ => 0)))), (a 31, .inl (ca 31, 20000, .inl (fun _ => 0))), (q_7, .inl (cA_8, 1, .inr (.inl (fun _ => 0))))] := hD
  have hK : va_K (dC, dI) vwCl [(cx 1, .object RX5), (cx 2, .long), (cx 3, .byte), (ca 1, .int), (ca 2, .int), (ca 3, .int), (ca 4, .int), (ca 5, .long), (ca 6, .long), (ca 7, .int), (ca 8, .int), (ca 9, .long), (ca 10, .int), (ca 11, .int), (ca 13, .int), (ca 14, .long), (ca 20, .int), (ca 21, .long), (ca 31, .int), (cA_8, .long)] s := hK
  refine W.widen (k := 23) (n := 78342) (by decide +kernel) (by decide +kernel) ?_
  refine lv_astore_n (lv' := [(3, .ref q_7), (2, .ref q_4), (1, .ref q_1), (0, .ref b)]) hx hb dL_law_19 rfl hl (by decide) rfl (fun ls hl => ?_)
  refine lv_iconst (v := 0) hx hb dL_law_20 (by decide) ?_
  refine lv_istore (lv' := [(4, .int 0), (3, .ref q_7), (2, .ref q_4), (1, .ref q_1), (0, .ref b)]) hx hb dL_law_21 hl (by decide) rfl (fun ls hl => ?_)
  have hP9 := hP.sub (ws' := [(q_4, .inr (11, [.int 0, .ref (a 1), .ref (a 2), .ref (a 3), .ref (a 4), .ref (a 5), .ref (a 6), .ref (a 7), .ref (a 8), .ref (a 9), .ref (a 10), .ref (a 11), .int 0, .ref (a 13), .ref (a 14), .int 1000, .int 0, .int 0, .int 0, .int 0, .ref (a 20), .ref (a 21), .long 0, .int 0, .int 0, .long 0, .int 0, .int 0, .int 0, .int 0, .long 0, .ref (a 31)])), (a 1, .inl (ca 1, 24, .inl (fun _ => 0))), (a 2, .inl (ca 2, 24, .inl (fun _ => 0))), (a 3, .inl (ca 3, 24, .inl (fun _ => 0))), (a 4, .inl (ca 4, 24, .inl (fun _ => 0))), (a 5, .inl (ca 5, 24, .inr (.inl (fun _ => 0)))), (a 6, .inl (ca 6, 24, .inr (.inl (fun _ => 0)))), (a 7, .inl (ca 7, 9600, .inl (fun _ => 0))), (a 8, .inl (ca 8, 9600, .inl (fun _ => 0))), (a 9, .inl (ca 9, 9600, .inr (.inl (fun _ => 0)))), (a 10, .inl (ca 10, 9600, .inl (fun _ => 0))), (a 11, .inl (ca 11, 9600, .inl (fun _ => 0))), (a 13, .inl (ca 13, 100, .inl (fun _ => 0))), (a 14, .inl (ca 14, 100, .inr (.inl (fun _ => 0)))), (a 20, .inl (ca 20, 2400, .inl (fun _ => 0))), (a 21, .inl (ca 21, 2400, .inr (.inl (fun _ => 0)))), (a 31, .inl (ca 31, 20000, .inl (fun _ => 0))), (q_7, .inl (cA_8, 1, .inr (.inl (fun _ => 0)))), (q_1, .inr (10, xF hm h1 h2 h3 0 0 1000)), (hm, .inr (5, [.int 0, .int 0])), (h1, .inl (cx 1, 24, .inr (.inr (.inr (.inr (fun _ => none)))))), (h2, .inl (cx 2, 100, .inr (.inl (fun _ => 0)))), (h3, .inl (cx 3, 100, .inl (fun _ => 0)))]) [5, 6, 7, 8, 9, 10, 11, 12, 13, 14, 15, 16, 17, 18, 19, 20, 21, 22, 0, 1, 2, 3, 4] rfl
  have hD9 := hD.sub (ws' := [(q_4, .inr (11, [.int 0, .ref (a 1), .ref (a 2), .ref (a 3), .ref (a 4), .ref (a 5), .ref (a 6), .ref (a 7), .ref (a 8), .ref (a 9), .ref (a 10), .ref (a 11), .int 0, .ref (a 13), .ref (a 14), .int 1000, .int 0, .int 0, .int 0, .int 0, .ref (a 20), .ref (a 21), .long 0, .int 0, .int 0, .long 0, .int 0, .int 0, .int 0, .int 0, .long 0, .ref (a 31)])), (a 1, .inl (ca 1, 24, .inl (fun _ => 0))), (a 2, .inl (ca 2, 24, .inl (fun _ => 0))), (a 3, .inl (ca 3, 24, .inl (fun _ => 0))), (a 4, .inl (ca 4, 24, .inl (fun _ => 0))), (a 5, .inl (ca 5, 24, .inr (.inl (fun _ => 0)))), (a 6, .inl (ca 6, 24, .inr (.inl (fun _ => 0)))), (a 7, .inl (ca 7, 9600, .inl (fun _ => 0))), (a 8, .inl (ca 8, 9600, .inl (fun _ => 0))), (a 9, .inl (ca 9, 9600, .inr (.inl (fun _ => 0)))), (a 10, .inl (ca 10, 9600, .inl (fun _ => 0))), (a 11, .inl (ca 11, 9600, .inl (fun _ => 0))), (a 13, .inl (ca 13, 100, .inl (fun _ => 0))), (a 14, .inl (ca 14, 100, .inr (.inl (fun _ => 0)))), (a 20, .inl (ca 20, 2400, .inl (fun _ => 0))), (a 21, .inl (ca 21, 2400, .inr (.inl (fun _ => 0)))), (a 31, .inl (ca 31, 20000, .inl (fun _ => 0))), (q_7, .inl (cA_8, 1, .inr (.inl (fun _ => 0)))), (q_1, .inr (10, xF hm h1 h2 h3 0 0 1000)), (hm, .inr (5, [.int 0, .int 0])), (h1, .inl (cx 1, 24, .inr (.inr (.inr (.inr (fun _ => none)))))), (h2, .inl (cx 2, 100, .inr (.inl (fun _ => 0)))), (h3, .inl (cx 3, 100, .inl (fun _ => 0)))]) [5, 6, 7, 8, 9, 10, 11, 12, 13, 14, 15, 16, 17, 18, 19, 20, 21, 22, 0, 1, 2, 3, 4] (by decide) rfl
  have n1 : hm ≠ q_1 := fun e9 => absurd (hD9.1 19 18 _ _ rfl rfl e9) (by decide)
  have n2 : h1 ≠ q_1 := fun e9 => absurd (hD9.1 20 18 _ _ rfl rfl e9) (by decide)
  have n3 : h2 ≠ q_1 := fun e9 => absurd (hD9.1 21 18 _ _ rfl rfl e9) (by decide)
  have n4 : h3 ≠ q_1 := fun e9 => absurd (hD9.1 22 18 _ _ rfl rfl e9) (by decide)
  have n5 : h1 ≠ hm := fun e9 => absurd (hD9.1 20 19 _ _ rfl rfl e9) (by decide)
  have n6 : h2 ≠ hm := fun e9 => absurd (hD9.1 21 19 _ _ rfl rfl e9) (by decide)
  have n7 : h3 ≠ hm := fun e9 => absurd (hD9.1 22 19 _ _ rfl rfl e9) (by decide)
  have n8 : h2 ≠ h1 := fun e9 => absurd (hD9.1 21 20 _ _ rfl rfl e9) (by decide)
  have n9 : h3 ≠ h1 := fun e9 => absurd (hD9.1 22 20 _ _ rfl rfl e9) (by decide)
  have n10 : h3 ≠ h2 := fun e9 => absurd (hD9.1 22 21 _ _ rfl rfl e9) (by decide)
  have hW0 : mW a ca q_4 v0 (fun _ => 0) (fun _ _ => 0) (fun _ _ => 0) ++ (oW cA_8 q_7 (fun _ => 0) ++ cW (sh0 q_1 hm h1 h2 h3 cx) (ci0 q_1) (fun _ _ => 0) (fun _ _ => 0)) = [(q_4, .inr (11, [.int 0, .ref (a 1), .ref (a 2), .ref (a 3), .ref (a 4), .ref (a 5), .ref (a 6), .ref (a 7), .ref (a 8), .ref (a 9), .ref (a 10), .ref (a 11), .int 0, .ref (a 13), .ref (a 14), .int 1000, .int 0, .int 0, .int 0, .int 0, .ref (a 20), .ref (a 21), .long 0, .int 0, .int 0, .long 0, .int 0, .int 0, .int 0, .int 0, .long 0, .ref (a 31)])), (a 1, .inl (ca 1, 24, .inl (fun _ => 0))), (a 2, .inl (ca 2, 24, .inl (fun _ => 0))), (a 3, .inl (ca 3, 24, .inl (fun _ => 0))), (a 4, .inl (ca 4, 24, .inl (fun _ => 0))), (a 5, .inl (ca 5, 24, .inr (.inl (fun _ => 0)))), (a 6, .inl (ca 6, 24, .inr (.inl (fun _ => 0)))), (a 7, .inl (ca 7, 9600, .inl (fun _ => 0))), (a 8, .inl (ca 8, 9600, .inl (fun _ => 0))), (a 9, .inl (ca 9, 9600, .inr (.inl (fun _ => 0)))), (a 10, .inl (ca 10, 9600, .inl (fun _ => 0))), (a 11, .inl (ca 11, 9600, .inl (fun _ => 0))), (a 13, .inl (ca 13, 100, .inl (fun _ => 0))), (a 14, .inl (ca 14, 100, .inr (.inl (fun _ => 0)))), (a 20, .inl (ca 20, 2400, .inl (fun _ => 0))), (a 21, .inl (ca 21, 2400, .inr (.inl (fun _ => 0)))), (a 31, .inl (ca 31, 20000, .inl (fun _ => 0))), (q_7, .inl (cA_8, 1, .inr (.inl (fun _ => 0)))), (q_1, .inr (10, xF hm h1 h2 h3 0 0 1000)), (hm, .inr (5, [.int 0, .int 0])), (h1, .inl (cx 1, 24, .inr (.inr (.inr (.inr (fun _ => none)))))), (h2, .inl (cx 2, 100, .inr (.inl (fun _ => 0)))), (h3, .inl (cx 3, 100, .inl (fun _ => 0)))] := by
    rw [cW_start n1 n2 n3 n4 n5 n6 n7 n8 n9 n10]
    rfl
  rw [← hW0] at hP9 hD9
  have hKx := hK.sub (tys' := [(cx 1, .object RX5), (cx 2, .long), (cx 3, .byte)]) [0, 1, 2] rfl
  have hKm : va_K (dC, dI) vwCl (mT ca) s := hK.sub (tys' := mT ca) [3, 4, 5, 6, 7, 8, 9, 10, 11, 12, 13, 14, 15, 16, 17, 18] rfl
  have hO := hK.sub (tys' := [(cA_8, .long)]) [19] rfl
  have hl := lv_sub (l' := [(4, .int (nI 0)), (3, .ref q_7), (2, .ref q_4), (1, .ref q_1), (0, .ref b)]) hl [0, 1, 2, 3, 4] rfl
  exact law_loop hl0 ⟨C1, hG, hN, hZ, hKm, hO, hL⟩ 512 0 23 78342 (by omega) (by omega) (by omega) (by omega) _ _ _ _ _ _ _ _ _ _ 0 0 1000 H _ ls (XI.start n1 n2 n3 n4 n5 n6 n7 n8 n9 n10) RI.start (cK_start n1 n2 n3 n4 n5 n6 n7 n8 n9 n10 hKx) hP9 hD9 hS hl
