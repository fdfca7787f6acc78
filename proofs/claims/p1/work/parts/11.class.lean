set_option maxHeartbeats 4000000 in
set_option maxRecDepth 100000 in
theorem c_X6_init (l : Launch) (dC : Nat → ClassId) (dI : Nat → Nat → Nat) (h0 : Nat) (sz : Nat) : Met l yX6_init wsX6_init ({ frames := 10, cells := 0, slots := 0, locals := 300 }) (va_Pc [.ref h0] (fun U => U.heap.size = sz ∧ va_P (dC, dI) vwCl [(h0, .inr (5, [.int 0, .int 0]))] U.heap ∧ va_K (dC, dI) vwCl [] U ∧ va_D (fun _ => True) [(h0, .inr (5, [.int 0, .int 0]))])) (va_Qv (fun _ : Unit => True) (fun (u : Unit) (t : State) => va_P (dC, dI) vwCl [(h0, .inr (5, [.int 0, .int 0]))] t.heap ∧ va_K (dC, dI) vwCl [] t ∧ va_D (va_A [(h0, .inr (5, [.int 0, .int 0]))] sz) [(h0, .inr (5, [.int 0, .int 0]))]) (va_A [(h0, .inr (5, [.int 0, .int 0]))] sz)) 0 0 (va_A [(h0, .inr (5, [.int 0, .int 0]))] sz) := by
  refine Met.ofW (cc := cX6_init) (maxL := 1) (ret := none) (by decide) rfl ?_
  intro p e s m args below meth c s₁ B hml hv
  obtain ⟨rfl, hsz, hP, hK, hD0⟩ := hv
  have hx := B.exec
  have hb := B.bytes
  have hr := B.returns
  have hts := atoms_spec (ws := wsX6_init) B.pre
  have hown : s.vm.findClass RX6 = some m.cls := findClass_of_methodNamed B.named
  have hlocks := B.notSynchronized
  have hin : meth.name = "<init>" := (name_of_methodNamed B.named B.method).1
  subst hsz
  have hD := hD0.self (sz := s.heap.size)
  generalize hAe : va_A [(h0, .inr (5, [.int 0, .int 0]))] s.heap.size = A at hD ⊢
  have hA : ∀ q : Nat, s.heap.size ≤ q → A q := fun q h => by rw [← hAe]; exact Or.inr h
  generalize hH : s.heap = H at hP ⊢
  have hS : va_S A s.heap H [] := by rw [← hH]; exact va_S.rf
  have hl := lv_entry [.ref h0] (n := 1) (Nat.le_of_ble_eq_true rfl)
  rw [lg_entry_eq]
  generalize (lg_sl [.ref h0] ++ List.replicate (1 - (lg_sl [.ref h0]).length) Slot.unset).toArray = ls at hl ⊢
  have hl : lv_has ls 1 [(0, .ref h0)] := hl
  have hP : va_P (dC, dI) vwCl [(h0, .inr (5, [.int 0, .int 0]))] H := hP
  refine lv_aload_n hx hb dX6_init_0 rfl (lv_at hl 0 rfl) ?_
  refine W.objInit hx hb hown (hts (.methodLink RX6 1 objectInit) (by decide +kernel)) (hts (.instanceMethod objectInit) (by decide +kernel)) (hts (.code objectInit ⟨#[0xb1]⟩ 1 none) (by decide +kernel)) rfl (by rw [hml]; exact hl.1) rfl dX6_init_1 (Nat.le_of_ble_eq_true rfl) (Nat.le_of_ble_eq_true rfl) ?_
  refine W.eq (g2 := F0 m 4 ls []) rfl ?_
  refine W.widen (k := 0) (n := 0) (by decide +kernel) (by decide +kernel) ?_
  have hP9 := hP.sub (ws' := [(h0, .inr (5, [.int 0, .int 0]))]) [0] rfl
  have hD9 := hD.sub (ws' := [(h0, .inr (5, [.int 0, .int 0]))]) [0] (by decide) rfl
  have hK9 := hK.sub (tys' := []) [] rfl
  exact W.vret hx hb hr (fun t ht hW => ⟨⟨(), rfl, trivial, by rw [ht]; exact hP9, va_K.moved hW.alike hK9, hD9⟩, hS.F ht⟩) hS.2.2 dX6_init_4
set_option maxHeartbeats 4000000 in
set_option maxRecDepth 100000 in
theorem c_X11_init (l : Launch) (hl0 : l.stackTraces = false) (dC : Nat → ClassId) (dI : Nat → Nat → Nat) (h0 : Nat) (sz : Nat) : Met l yX11_init wsX11_init ({ frames := 20, cells := 4, slots := 300, locals := 600 }) (va_Pc [.ref h0] (fun U => U.heap.size = sz ∧ va_P (dC, dI) vwCl [(h0, .inr (10, [.null, .null, .null, .null, .int 0, .int 0, .int 0, .int 0, .int 0]))] U.heap ∧ va_K (dC, dI) vwCl [] U ∧ va_D (fun _ => True) [(h0, .inr (10, [.null, .null, .null, .null, .int 0, .int 0, .int 0, .int 0, .int 0]))] ∧ Gw U ∧ Gz (va_A [(h0, .inr (10, [.null, .null, .null, .null, .int 0, .int 0, .int 0, .int 0, .int 0]))] sz) U U.heap)) (va_Qv (fun _ => True) (fun (u : Nat × Nat × Nat × Nat × (Nat → ClassId)) (t : State) => va_P (dC, dI) vwCl [(h0, .inr (10, xF u.1 u.2.1 u.2.2.1 u.2.2.2.1 0 0 1000)), (u.1, .inr (5, [.int 0, .int 0])), (u.2.1, .inl (u.2.2.2.2 1, 24, .inr (.inr (.inr (.inr (fun _ => none)))))), (u.2.2.1, .inl (u.2.2.2.2 2, 100, .inr (.inl (fun _ => 0)))), (u.2.2.2.1, .inl (u.2.2.2.2 3, 100, .inl (fun _ => 0)))] t.heap ∧ va_K (dC, dI) vwCl [(u.2.2.2.2 1, .object RX5), (u.2.2.2.2 2, .long), (u.2.2.2.2 3, .byte)] t ∧ va_D (va_A [(h0, .inr (10, [.null, .null, .null, .null, .int 0, .int 0, .int 0, .int 0, .int 0]))] sz) [(h0, .inr (10, xF u.1 u.2.1 u.2.2.1 u.2.2.2.1 0 0 1000)), (u.1, .inr (5, [.int 0, .int 0])), (u.2.1, .inl (u.2.2.2.2 1, 24, .inr (.inr (.inr (.inr (fun _ => none)))))), (u.2.2.1, .inl (u.2.2.2.2 2, 100, .inr (.inl (fun _ => 0)))), (u.2.2.2.1, .inl (u.2.2.2.2 3, 100, .inl (fun _ => 0)))]) (va_A [(h0, .inr (10, [.null, .null, .null, .null, .int 0, .int 0, .int 0, .int 0, .int 0]))] sz)) 4 300 (va_A [(h0, .inr (10, [.null, .null, .null, .null, .int 0, .int 0, .int 0, .int 0, .int 0]))] sz) := by
  refine Met.ofW (cc := cX11_init) (maxL := 1) (ret := none) (by decide) rfl ?_
  intro p e s m args below meth c s₁ B hml hv
  obtain ⟨rfl, hsz, hP, hK, hD0, hG, hZ⟩ := hv
  have hx := B.exec
  have hb := B.bytes
  have hr := B.returns
  have hts := atoms_spec (ws := wsX11_init) B.pre
  have hown : s.vm.findClass RX11 = some m.cls := findClass_of_methodNamed B.named
  have hlocks := B.notSynchronized
  have hin : meth.name = "<init>" := (name_of_methodNamed B.named B.method).1
  subst hsz
  have hD := hD0.self (sz := s.heap.size)
  generalize hAe : va_A [(h0, .inr (10, [.null, .null, .null, .null, .int 0, .int 0, .int 0, .int 0, .int 0]))] s.heap.size = A at hD hZ ⊢
  have hA : ∀ q : Nat, s.heap.size ≤ q → A q := fun q h => by rw [← hAe]; exact Or.inr h
  generalize hH : s.heap = H at hP ⊢
  have hS : va_S A s.heap H [] := by rw [← hH]; exact va_S.rf
  have hl := lv_entry [.ref h0] (n := 1) (Nat.le_of_ble_eq_true rfl)
  rw [lg_entry_eq]
  generalize (lg_sl [.ref h0] ++ List.replicate (1 - (lg_sl [.ref h0]).length) Slot.unset).toArray = ls at hl ⊢
  have hl : lv_has ls 1 [(0, .ref h0)] := hl
  have hP : va_P (dC, dI) vwCl [(h0, .inr (10, [.null, .null, .null, .null, .int 0, .int 0, .int 0, .int 0, .int 0]))] H := hP
  refine lv_aload_n hx hb dX11_init_0 rfl (lv_at hl 0 rfl) ?_
  refine W.objInit hx hb hown (hts (.methodLink RX11 3 objectInit) (by decide +kernel)) (hts (.instanceMethod objectInit) (by decide +kernel)) (hts (.code objectInit ⟨#[0xb1]⟩ 1 none) (by decide +kernel)) rfl (by rw [hml]; exact hl.1) rfl dX11_init_1 (Nat.le_of_ble_eq_true rfl) (Nat.le_of_ble_eq_true rfl) ?_
  refine W.eq (g2 := F0 m 4 ls []) rfl ?_
  refine lv_aload_n hx hb dX11_init_4 rfl (lv_at hl 0 rfl) ?_
  refine va_new (ci := 5) (fs := [.int 0, .int 0]) (C := RX6) (T := TX6) (N := 2) hx hb hts (by decide +kernel) tyX6 tyX6_ok hown (hts (.classLink RX11 9 RX6) (by decide +kernel)) (hts (.instantiable RX6 2) (by decide +kernel)) (hts (.initialized RX6) (by decide +kernel)) hK hP hD hS hA rfl (fun j hj => by rcases (show j = 0 ∨ j = 1 by omega) with rfl | rfl <;> rfl) (by decide +kernel) (by decide +kernel) dX11_init_5 (fun q_1 H hP hD hS => ?_)
  have hP : va_P (dC, dI) vwCl [(h0, .inr (10, [.null, .null, .null, .null, .int 0, .int 0, .int 0, .int 0, .int 0])), (q_1, .inr (5, [.int 0, .int 0]))] H := hP
  have hD : va_D A [(h0, .inr (10, [.null, .null, .null, .null, .int 0, .int 0, .int 0, .int 0, .int 0])), (q_1, .inr (5, [.int 0, .int 0]))] := hD
  refine W.widen (k := 1) (n := 2) (by decide +kernel) (by decide +kernel) ?_
  refine lv_dup hx hb dX11_init_8 rfl ?_
  have hPc := hP.sub (ws' := [(q_1, .inr (5, [.int 0, .int 0]))]) [1] rfl
  have hDc := hD.sub (ws' := [(q_1, .inr (5, [.int 0, .int 0]))]) [1] (by decide) rfl
  have hKc := hK.sub (tys' := []) [] rfl
  have hFc := va_free (wc := [(q_1, .inr (5, [.int 0, .int 0]))]) hD hS hA [1] rfl
  refine va_callv (va_runIN (host := "NeededLists") (As := []) (rest := [.ref q_1, .ref h0]) ⟨hx, hb, hml, hown, hts⟩ (c_X6_init l dC dI q_1 H.size) ⟨va_cnB 0 hts ggX11_init_X6_init rfl rfl rfl hG.meterInit (hts (.initialized RX6) (by decide +kernel)) (by decide +kernel) ⟨Nat.le_of_ble_eq_true rfl, Nat.le_of_ble_eq_true rfl⟩, rfl, hts (.instanceMethod yX6_init) (by decide +kernel)⟩ ⟨fun a U g mk q => by obtain ⟨q0, q1, qP, qK, qD⟩ := q; exact ⟨q0, q1, qP, va_K.moved (u := U) (U := U.calling g mk a) (Vm.Alike.refl U.vm) qK, qD⟩, fun U hU hW => ⟨rfl, by rw [hU], by rw [hU]; exact hPc, va_K.moved hW.alike hKc, hDc.weaken (fun _ _ _ _ => trivial)⟩⟩ rfl rfl hl.1 rfl (lv_room (Nat.le_of_ble_eq_true rfl)) dX11_init_9 ⟨Nat.le_of_ble_eq_true rfl, Nat.le_of_ble_eq_true rfl⟩) hS (fun q _ h => hFc q h) hFc (fun u_3 t H1 locs ht hvm hw hB hz1 hk1 hS => ?_)
  obtain ⟨hP1, hK1, hD1⟩ := hB
  rw [ht] at hP1
  have hK1 := va_K.moved hvm.symm hK1
  have hK := hK.app hK1
  obtain ⟨hP, hD⟩ := va_join (wr := [(h0, .inr (10, [.null, .null, .null, .null, .int 0, .int 0, .int 0, .int 0, .int 0]))]) (w1 := [(q_1, .inr (5, [.int 0, .int 0]))]) hP hD [1] [0] rfl rfl (by decide) (by decide) hk1 hFc hP1 hD1
  generalize H1 = H at hP hS ⊢
  have hP : va_P (dC, dI) vwCl [(h0, .inr (10, [.null, .null, .null, .null, .int 0, .int 0, .int 0, .int 0, .int 0])), (q_1, .inr (5, [.int 0, .int 0]))] H := hP
  have hD : va_D A [(h0, .inr (10, [.null, .null, .null, .null, .int 0, .int 0, .int 0, .int 0, .int 0])), (q_1, .inr (5, [.int 0, .int 0]))] := hD
  have hK : va_K (dC, dI) vwCl [] s := hK
  refine W.widen (k := 1) (n := 2) (by decide +kernel) (by decide +kernel) ?_
  refine va_putF (D := (dC, dI)) (ci := 10) (v := .ref q_1) (ty := (.object "NeededLists$Meter")) (C := RX11) (T := TX11) (N := 9) hx hb hts (by decide +kernel) tyX11 tyX11_ok nmX11 hown hK hP hD hS 0 rfl rfl 0 (by decide) (hts (.fieldLink RX11 12 "NeededLists" "meter" "LNeededLists$Meter;") (by decide +kernel)) (fun _ h9 => h9) rfl hin rfl (by decide +kernel) rfl rfl (Nat.le_of_ble_eq_true rfl) dX11_init_12 (fun H locs hP hD hS => ?_)
  have hP : va_P (dC, dI) vwCl [(h0, .inr (10, [.ref q_1, .null, .null, .null, .int 0, .int 0, .int 0, .int 0, .int 0])), (q_1, .inr (5, [.int 0, .int 0]))] H := hP
  have hD : va_D A [(h0, .inr (10, [.ref q_1, .null, .null, .null, .int 0, .int 0, .int 0, .int 0, .int 0])), (q_1, .inr (5, [.int 0, .int 0]))] := hD
  refine lv_aload_n hx hb dX11_init_15 rfl (lv_at hl 0 rfl) ?_
  refine lv_bipush (v := 24) hx hb dX11_init_16 (by decide) ?_
  refine va_newq (C := RX5) (N' := 24) hx hb hown (hts (.classLink RX11 16 RX5) (by decide +kernel)) hG.over hK hP hD hS hA (by decide +kernel) (by decide +kernel) (by decide +kernel) (by decide +kernel) (by decide +kernel) dX11_init_18 (fun q_4 cA_5 H hK hP hD hS => ?_)
  have hP : va_P (dC, dI) vwCl [(h0, .inr (10, [.ref q_1, .null, .null, .null, .int 0, .int 0, .int 0, .int 0, .int 0])), (q_1, .inr (5, [.int 0, .int 0])), (q_4, .inl (cA_5, 24, .inr (.inr (.inr (.inr (fun _ => none))))))] H := hP
  have hD : va_D A [(h0, .inr (10, [.ref q_1, .null, .null, .null, .int 0, .int 0, .int 0, .int 0, .int 0])), (q_1, .inr (5, [.int 0, .int 0])), (q_4, .inl (cA_5, 24, .inr (.inr (.inr (.inr (fun _ => none))))))] := hD
  have hK : va_K (dC, dI) vwCl [(cA_5, .object RX5)] s := hK
  refine W.widen (k := 2) (n := 26) (by decide +kernel) (by decide +kernel) ?_
  refine va_putF (D := (dC, dI)) (ci := 10) (v := .ref q_4) (ty := (.array (.object "NeededLists$LazyList"))) (C := RX11) (T := TX11) (N := 9) hx hb hts (by decide +kernel) tyX11 tyX11_ok nmX11 hown hK hP hD hS 0 rfl rfl 1 (by decide) (hts (.fieldLink RX11 18 "NeededLists" "made" "[LNeededLists$LazyList;") (by decide +kernel)) (fun _ h9 => h9) rfl hin rfl (by decide +kernel) rfl rfl (Nat.le_of_ble_eq_true rfl) dX11_init_21 (fun H locs hP hD hS => ?_)
  have hP : va_P (dC, dI) vwCl [(h0, .inr (10, [.ref q_1, .ref q_4, .null, .null, .int 0, .int 0, .int 0, .int 0, .int 0])), (q_1, .inr (5, [.int 0, .int 0])), (q_4, .inl (cA_5, 24, .inr (.inr (.inr (.inr (fun _ => none))))))] H := hP
  have hD : va_D A [(h0, .inr (10, [.ref q_1, .ref q_4, .null, .null, .int 0, .int 0, .int 0, .int 0, .int 0])), (q_1, .inr (5, [.int 0, .int 0])), (q_4, .inl (cA_5, 24, .inr (.inr (.inr (.inr (fun _ => none))))))] := hD
  refine lv_aload_n hx hb dX11_init_24 rfl (lv_at hl 0 rfl) ?_
  refine lv_bipush (v := 100) hx hb dX11_init_25 (by decide) ?_
  refine va_newa (atype := .long) (ty := .long) (N' := 100) (a0 := (100, .inr (.inl (fun _ => 0)))) hx hb (hts (.arrayClass .long) (by decide +kernel)) rfl hK hP hD hS hA (nd_along 100) (by decide +kernel) (by decide +kernel) (by decide +kernel) (by decide +kernel) (by decide +kernel) dX11_init_27 (fun q_6 cA_7 H hK hP hD hS => ?_)
  have hP : va_P (dC, dI) vwCl [(h0, .inr (10, [.ref q_1, .ref q_4, .null, .null, .int 0, .int 0, .int 0, .int 0, .int 0])), (q_1, .inr (5, [.int 0, .int 0])), (q_4, .inl (cA_5, 24, .inr (.inr (.inr (.inr (fun _ => none)))))), (q_6, .inl (cA_7, 100, .inr (.inl (fun _ => 0))))] H := hP
  have hD : va_D A [(h0, .inr (10, [.ref q_1, .ref q_4, .null, .null, .int 0, .int 0, .int 0, .int 0, .int 0])), (q_1, .inr (5, [.int 0, .int 0])), (q_4, .inl (cA_5, 24, .inr (.inr (.inr (.inr (fun _ => none)))))), (q_6, .inl (cA_7, 100, .inr (.inl (fun _ => 0))))] := hD
  have hK : va_K (dC, dI) vwCl [(cA_5, .object RX5), (cA_7, .long)] s := hK
  refine W.widen (k := 3) (n := 126) (by decide +kernel) (by decide +kernel) ?_
  refine va_putF (D := (dC, dI)) (ci := 10) (v := .ref q_6) (ty := (.array .long)) (C := RX11) (T := TX11) (N := 9) hx hb hts (by decide +kernel) tyX11 tyX11_ok nmX11 hown hK hP hD hS 0 rfl rfl 2 (by decide) (hts (.fieldLink RX11 22 "NeededLists" "rowNumbers" "[J") (by decide +kernel)) (fun _ h9 => h9) rfl hin rfl (by decide +kernel) rfl rfl (Nat.le_of_ble_eq_true rfl) dX11_init_29 (fun H locs hP hD hS => ?_)
  have hP : va_P (dC, dI) vwCl [(h0, .inr (10, [.ref q_1, .ref q_4, .ref q_6, .null, .int 0, .int 0, .int 0, .int 0, .int 0])), (q_1, .inr (5, [.int 0, .int 0])), (q_4, .inl (cA_5, 24, .inr (.inr (.inr (.inr (fun _ => none)))))), (q_6, .inl (cA_7, 100, .inr (.inl (fun _ => 0))))] H := hP
  have hD : va_D A [(h0, .inr (10, [.ref q_1, .ref q_4, .ref q_6, .null, .int 0, .int 0, .int 0, .int 0, .int 0])), (q_1, .inr (5, [.int 0, .int 0])), (q_4, .inl (cA_5, 24, .inr (.inr (.inr (.inr (fun _ => none)))))), (q_6, .inl (cA_7, 100, .inr (.inl (fun _ => 0))))] := hD
  refine lv_aload_n hx hb dX11_init_32 rfl (lv_at hl 0 rfl) ?_
  refine lv_bipush (v := 100) hx hb dX11_init_33 (by decide) ?_
  refine va_newa (atype := .byte) (ty := .byte) (N' := 100) (a0 := (100, .inl (fun _ => 0))) hx hb (hts (.arrayClass .byte) (by decide +kernel)) rfl hK hP hD hS hA (nd_abyte 100) (by decide +kernel) (by decide +kernel) (by decide +kernel) (by decide +kernel) (by decide +kernel) dX11_init_35 (fun q_8 cA_9 H hK hP hD hS => ?_)
  have hP : va_P (dC, dI) vwCl [(h0, .inr (10, [.ref q_1, .ref q_4, .ref q_6, .null, .int 0, .int 0, .int 0, .int 0, .int 0])), (q_1, .inr (5, [.int 0, .int 0])), (q_4, .inl (cA_5, 24, .inr (.inr (.inr (.inr (fun _ => none)))))), (q_6, .inl (cA_7, 100, .inr (.inl (fun _ => 0)))), (q_8, .inl (cA_9, 100, .inl (fun _ => 0)))] H := hP
  have hD : va_D A [(h0, .inr (10, [.ref q_1, .ref q_4, .ref q_6, .null, .int 0, .int 0, .int 0, .int 0, .int 0])), (q_1, .inr (5, [.int 0, .int 0])), (q_4, .inl (cA_5, 24, .inr (.inr (.inr (.inr (fun _ => none)))))), (q_6, .inl (cA_7, 100, .inr (.inl (fun _ => 0)))), (q_8, .inl (cA_9, 100, .inl (fun _ => 0)))] := hD
  have hK : va_K (dC, dI) vwCl [(cA_5, .object RX5), (cA_7, .long), (cA_9, .byte)] s := hK
  refine W.widen (k := 4) (n := 226) (by decide +kernel) (by decide +kernel) ?_
  refine va_putF (D := (dC, dI)) (ci := 10) (v := .ref q_8) (ty := (.array .byte)) (C := RX11) (T := TX11) (N := 9) hx hb hts (by decide +kernel) tyX11 tyX11_ok nmX11 hown hK hP hD hS 0 rfl rfl 3 (by decide) (hts (.fieldLink RX11 26 "NeededLists" "rowFates" "[B") (by decide +kernel)) (fun _ h9 => h9) rfl hin rfl (by decide +kernel) rfl rfl (Nat.le_of_ble_eq_true rfl) dX11_init_37 (fun H locs hP hD hS => ?_)
  have hP : va_P (dC, dI) vwCl [(h0, .inr (10, xF q_1 q_4 q_6 q_8 0 0 0)), (q_1, .inr (5, [.int 0, .int 0])), (q_4, .inl (cA_5, 24, .inr (.inr (.inr (.inr (fun _ => none)))))), (q_6, .inl (cA_7, 100, .inr (.inl (fun _ => 0)))), (q_8, .inl (cA_9, 100, .inl (fun _ => 0)))] H := hP
  have hD : va_D A [(h0, .inr (10, xF q_1 q_4 q_6 q_8 0 0 0)), (q_1, .inr (5, [.int 0, .int 0])), (q_4, .inl (cA_5, 24, .inr (.inr (.inr (.inr (fun _ => none)))))), (q_6, .inl (cA_7, 100, .inr (.inl (fun _ => 0)))), (q_8, .inl (cA_9, 100, .inl (fun _ => 0)))] := hD
  refine lv_aload_n hx hb dX11_init_40 rfl (lv_at hl 0 rfl) ?_
  refine lv_sipush (v := 1000) hx hb dX11_init_41 (by decide) ?_
  refine va_put (D := (dC, dI)) (ci := 10) (v := .int 1000) (ty := .int) (C := RX11) (T := TX11) (N := 9) hx hb hts (by decide +kernel) tyX11 tyX11_ok nmX11 hown hK hP hD hS 0 rfl rfl 6 (by decide) (hts (.fieldLink RX11 30 "NeededLists" "stepsOfAsk" "I") (by decide +kernel)) (fun _ h9 => h9) rfl (by decide +kernel) rfl rfl (Nat.le_of_ble_eq_true rfl) dX11_init_44 (fun H locs hP hD hS => ?_)
  have hP : va_P (dC, dI) vwCl [(h0, .inr (10, xF q_1 q_4 q_6 q_8 0 0 1000)), (q_1, .inr (5, [.int 0, .int 0])), (q_4, .inl (cA_5, 24, .inr (.inr (.inr (.inr (fun _ => none)))))), (q_6, .inl (cA_7, 100, .inr (.inl (fun _ => 0)))), (q_8, .inl (cA_9, 100, .inl (fun _ => 0)))] H := hP
  have hD : va_D A [(h0, .inr (10, xF q_1 q_4 q_6 q_8 0 0 1000)), (q_1, .inr (5, [.int 0, .int 0])), (q_4, .inl (cA_5, 24, .inr (.inr (.inr (.inr (fun _ => none)))))), (q_6, .inl (cA_7, 100, .inr (.inl (fun _ => 0)))), (q_8, .inl (cA_9, 100, .inl (fun _ => 0)))] := hD
  refine W.widen (k := 4) (n := 300) (by decide +kernel) (by decide +kernel) ?_
  have hP9 := hP.sub (ws' := [(h0, .inr (10, xF q_1 q_4 q_6 q_8 0 0 1000)), (q_1, .inr (5, [.int 0, .int 0])), (q_4, .inl (cA_5, 24, .inr (.inr (.inr (.inr (fun _ => none)))))), (q_6, .inl (cA_7, 100, .inr (.inl (fun _ => 0)))), (q_8, .inl (cA_9, 100, .inl (fun _ => 0)))]) [0, 1, 2, 3, 4] rfl
  have hD9 := hD.sub (ws' := [(h0, .inr (10, xF q_1 q_4 q_6 q_8 0 0 1000)), (q_1, .inr (5, [.int 0, .int 0])), (q_4, .inl (cA_5, 24, .inr (.inr (.inr (.inr (fun _ => none)))))), (q_6, .inl (cA_7, 100, .inr (.inl (fun _ => 0)))), (q_8, .inl (cA_9, 100, .inl (fun _ => 0)))]) [0, 1, 2, 3, 4] (by decide) rfl
  have hK9 := hK.sub (tys' := [(cA_5, .object RX5), (cA_7, .long), (cA_9, .byte)]) [0, 1, 2] rfl
  exact W.vret hx hb hr (fun t ht hW => ⟨⟨(q_1, q_4, q_6, q_8, (fun k => match k with | 1 => cA_5 | 2 => cA_7 | 3 => cA_9 | _ => 0)), rfl, trivial, by rw [ht]; exact hP9, va_K.moved hW.alike hK9, hD9⟩, hS.F ht⟩) hS.2.2 dX11_init_47
set_option maxHeartbeats 4000000 in
set_option maxRecDepth 100000 in
theorem c_X11_addToRow (l : Launch) (dC : Nat → ClassId) (dI : Nat → Nat → Nat) (h0 : Nat) (hm : Nat) (h1 : Nat) (h2 : Nat) (h3 : Nat) (c2 : ClassId) (f2 : Nat → Int64) (c3 : ClassId) (f3 : Nat → Int32) (p0 : Int64) (p1 : Int32) (sz : Nat) : Met l yX11_addToRow wsX11_addToRow ({ frames := 10, cells := 0, slots := 0, locals := 300 }) (va_Pc [.ref h0, .long p0, .int p1] (fun U => U.heap.size = sz ∧ va_P (dC, dI) vwCl [(h0, .inr (10, xF hm h1 h2 h3 0 0 1000)), (h2, .inl (c2, 100, .inr (.inl (f2)))), (h3, .inl (c3, 100, .inl (f3)))] U.heap ∧ va_K (dC, dI) vwCl [(c2, .long), (c3, .byte)] U ∧ va_D (fun _ => True) [(h0, .inr (10, xF hm h1 h2 h3 0 0 1000)), (h2, .inl (c2, 100, .inr (.inl (f2)))), (h3, .inl (c3, 100, .inl (f3)))])) (va_Qi (fun (r : Int32) (_ : Unit) => r = 1) (fun _ _ => True) (va_A [(h0, .inr (10, xF hm h1 h2 h3 0 0 1000)), (h2, .inl (c2, 100, .inr (.inl (f2)))), (h3, .inl (c3, 100, .inl (f3)))] sz)) 0 0 (va_A [(h0, .inr (10, xF hm h1 h2 h3 0 0 1000)), (h2, .inl (c2, 100, .inr (.inl (f2)))), (h3, .inl (c3, 100, .inl (f3)))] sz) := by
  refine Met.ofW (cc := cX11_addToRow) (maxL := 4) (ret := (some .int)) (by decide) rfl ?_
  intro p e s m args below meth c s₁ B hml hv
  obtain ⟨rfl, hsz, hP, hK, hD0⟩ := hv
  have hx := B.exec
  have hb := B.bytes
  have hr := B.returns
  have hts := atoms_spec (ws := wsX11_addToRow) B.pre
  have hown : s.vm.findClass RX11 = some m.cls := findClass_of_methodNamed B.named
  have hlocks := B.notSynchronized
  subst hsz
  have hD := hD0.self (sz := s.heap.size)
  generalize hAe : va_A [(h0, .inr (10, xF hm h1 h2 h3 0 0 1000)), (h2, .inl (c2, 100, .inr (.inl (f2)))), (h3, .inl (c3, 100, .inl (f3)))] s.heap.size = A at hD ⊢
  have hA : ∀ q : Nat, s.heap.size ≤ q → A q := fun q h => by rw [← hAe]; exact Or.inr h
  generalize hH : s.heap = H at hP ⊢
  have hS : va_S A s.heap H [] := by rw [← hH]; exact va_S.rf
  have hl := lv_entry [.ref h0, .long p0, .int p1] (n := 4) (Nat.le_of_ble_eq_true rfl)
  rw [lg_entry_eq]
  generalize (lg_sl [.ref h0, .long p0, .int p1] ++ List.replicate (4 - (lg_sl [.ref h0, .long p0, .int p1]).length) Slot.unset).toArray = ls at hl ⊢
  have hl : lv_has ls 4 [(0, .ref h0), (1, .long p0), (3, .int p1)] := hl
  have hP : va_P (dC, dI) vwCl [(h0, .inr (10, xF hm h1 h2 h3 0 0 1000)), (h2, .inl (c2, 100, .inr (.inl (f2)))), (h3, .inl (c3, 100, .inl (f3)))] H := hP
  refine lv_aload_n hx hb dX11_addToRow_0 rfl (lv_at hl 0 rfl) ?_
  refine va_get (D := (dC, dI)) (ci := 10) (v := .int 0) (C := RX11) (T := TX11) (N := 9) hx hb hts (by decide +kernel) hown hK hP 0 rfl rfl 5 (by decide) (hts (.fieldLink RX11 45 "NeededLists" "rowLength" "I") (by decide +kernel)) (fun _ h9 => h9) rfl dX11_addToRow_1 ?_
  refine lv_bipush (v := 100) hx hb dX11_addToRow_4 (by decide) ?_
  refine lv_icmp_lt (tgt := 19) hx hb dX11_addToRow_6 (by decide) (fun c_6 => ?_) (fun c_6 => ?_)
  · refine lv_aload_n hx hb dX11_addToRow_19 rfl (lv_at hl 0 rfl) ?_
    refine va_get (D := (dC, dI)) (ci := 10) (v := .ref h2) (C := RX11) (T := TX11) (N := 9) hx hb hts (by decide +kernel) hown hK hP 0 rfl rfl 2 (by decide) (hts (.fieldLink RX11 22 "NeededLists" "rowNumbers" "[J") (by decide +kernel)) (fun _ h9 => h9) rfl dX11_addToRow_20 ?_
    refine lv_aload_n hx hb dX11_addToRow_23 rfl (lv_at hl 0 rfl) ?_
    refine va_get (D := (dC, dI)) (ci := 10) (v := .int 0) (C := RX11) (T := TX11) (N := 9) hx hb hts (by decide +kernel) hown hK hP 0 rfl rfl 5 (by decide) (hts (.fieldLink RX11 45 "NeededLists" "rowLength" "I") (by decide +kernel)) (fun _ h9 => h9) rfl dX11_addToRow_24 ?_
    refine lv_lload_n hx hb dX11_addToRow_27 rfl (lv_at hl 1 rfl) ?_
    refine va_last hx hb hK hP hD hS 1 0 rfl rfl (nd_in (i := 0) (n := 100) (by decide)) dX11_addToRow_28 (fun H locs hP hD hS => ?_)
    obtain ⟨f_1, ef_1⟩ : ∃ z, z = vp_updL f2 ((0 : Int32).toNatClampNeg) p0 := ⟨_, rfl⟩
    have hP : va_P (dC, dI) vwCl [(h0, .inr (10, xF hm h1 h2 h3 0 0 1000)), (h2, .inl (c2, 100, .inr (.inl (vp_updL f2 ((0 : Int32).toNatClampNeg) p0)))), (h3, .inl (c3, 100, .inl (f3)))] H := hP
    have hD : va_D A [(h0, .inr (10, xF hm h1 h2 h3 0 0 1000)), (h2, .inl (c2, 100, .inr (.inl (vp_updL f2 ((0 : Int32).toNatClampNeg) p0)))), (h3, .inl (c3, 100, .inl (f3)))] := hD
    rw [← ef_1] at hP hD
    refine lv_aload_n hx hb dX11_addToRow_29 rfl (lv_at hl 0 rfl) ?_
    refine va_get (D := (dC, dI)) (ci := 10) (v := .ref h3) (C := RX11) (T := TX11) (N := 9) hx hb hts (by decide +kernel) hown hK hP 0 rfl rfl 3 (by decide) (hts (.fieldLink RX11 26 "NeededLists" "rowFates" "[B") (by decide +kernel)) (fun _ h9 => h9) rfl dX11_addToRow_30 ?_
    refine lv_aload_n hx hb dX11_addToRow_33 rfl (lv_at hl 0 rfl) ?_
    refine va_get (D := (dC, dI)) (ci := 10) (v := .int 0) (C := RX11) (T := TX11) (N := 9) hx hb hts (by decide +kernel) hown hK hP 0 rfl rfl 5 (by decide) (hts (.fieldLink RX11 45 "NeededLists" "rowLength" "I") (by decide +kernel)) (fun _ h9 => h9) rfl dX11_addToRow_34 ?_
    refine lv_iload_n hx hb dX11_addToRow_37 rfl (lv_at hl 2 rfl) ?_
    refine lv_i2b hx hb dX11_addToRow_38 rfl ?_
    refine va_bast hx hb hK hP hD hS 2 1 rfl rfl (nd_in (i := 0) (n := 100) (by decide)) dX11_addToRow_39 (fun H locs hP hD hS => ?_)
    obtain ⟨f_2, ef_2⟩ : ∃ z, z = upd f3 ((0 : Int32).toNatClampNeg) (vp_nar .byte p1.toInt8.toInt32) := ⟨_, rfl⟩
    have hP : va_P (dC, dI) vwCl [(h0, .inr (10, xF hm h1 h2 h3 0 0 1000)), (h2, .inl (c2, 100, .inr (.inl (f_1)))), (h3, .inl (c3, 100, .inl (upd f3 ((0 : Int32).toNatClampNeg) (vp_nar .byte p1.toInt8.toInt32))))] H := hP
    have hD : va_D A [(h0, .inr (10, xF hm h1 h2 h3 0 0 1000)), (h2, .inl (c2, 100, .inr (.inl (f_1)))), (h3, .inl (c3, 100, .inl (upd f3 ((0 : Int32).toNatClampNeg) (vp_nar .byte p1.toInt8.toInt32))))] := hD
    rw [← ef_2] at hP hD
    refine lv_aload_n hx hb dX11_addToRow_40 rfl (lv_at hl 0 rfl) ?_
    refine lv_dup hx hb dX11_addToRow_41 rfl ?_
    refine va_get (D := (dC, dI)) (ci := 10) (v := .int 0) (C := RX11) (T := TX11) (N := 9) hx hb hts (by decide +kernel) hown hK hP 0 rfl rfl 5 (by decide) (hts (.fieldLink RX11 45 "NeededLists" "rowLength" "I") (by decide +kernel)) (fun _ h9 => h9) rfl dX11_addToRow_42 ?_
    refine lv_iconst (v := 1) hx hb dX11_addToRow_45 (by decide) ?_
    refine lv_iadd hx hb dX11_addToRow_46 ?_
    refine lv_topi (fun z_3 ez_3 => ?_)
    obtain rfl : z_3 = 1 := ez_3.trans (by decide)
    refine va_put (D := (dC, dI)) (ci := 10) (v := .int 1) (ty := .int) (C := RX11) (T := TX11) (N := 9) hx hb hts (by decide +kernel) tyX11 tyX11_ok nmX11 hown hK hP hD hS 0 rfl rfl 5 (by decide) (hts (.fieldLink RX11 45 "NeededLists" "rowLength" "I") (by decide +kernel)) (fun _ h9 => h9) rfl (by decide +kernel) rfl rfl (Nat.le_of_ble_eq_true rfl) dX11_addToRow_47 (fun H locs hP hD hS => ?_)
    have hP : va_P (dC, dI) vwCl [(h0, .inr (10, xF hm h1 h2 h3 0 1 1000)), (h2, .inl (c2, 100, .inr (.inl (f_1)))), (h3, .inl (c3, 100, .inl (f_2)))] H := hP
    have hD : va_D A [(h0, .inr (10, xF hm h1 h2 h3 0 1 1000)), (h2, .inl (c2, 100, .inr (.inl (f_1)))), (h3, .inl (c3, 100, .inl (f_2)))] := hD
    refine lv_aload_n hx hb dX11_addToRow_50 rfl (lv_at hl 0 rfl) ?_
    refine va_get (D := (dC, dI)) (ci := 10) (v := .int 1) (C := RX11) (T := TX11) (N := 9) hx hb hts (by decide +kernel) hown hK hP 0 rfl rfl 5 (by decide) (hts (.fieldLink RX11 45 "NeededLists" "rowLength" "I") (by decide +kernel)) (fun _ h9 => h9) rfl dX11_addToRow_51 ?_
    refine W.widen (k := 0) (n := 0) (by decide +kernel) (by decide +kernel) ?_
    exact W.iret (v := 1) hx hb hr (fun t ht hW => ⟨⟨1, (), rfl, rfl, trivial⟩, hS.F ht⟩) hS.2.2 dX11_addToRow_54
  · exact absurd c_6 (by decide)
set_option maxHeartbeats 4000000 in
set_option maxRecDepth 100000 in
theorem c_X11_put (l : Launch) (dC : Nat → ClassId) (dI : Nat → Nat → Nat) (h0 : Nat) (hm : Nat) (h1 : Nat) (h2 : Nat) (h3 : Nat) (c2 : ClassId) (f2 : Nat → Int64) (c3 : ClassId) (f3 : Nat → Int32) (p0 : Int64) (sz : Nat) : Met l yX11_put wsX11_put ({ frames := 20, cells := 0, slots := 0, locals := 600 }) (va_Pc [.ref h0, .long p0] (fun U => U.heap.size = sz ∧ va_P (dC, dI) vwCl [(h0, .inr (10, xF hm h1 h2 h3 0 0 1000)), (h2, .inl (c2, 100, .inr (.inl (f2)))), (h3, .inl (c3, 100, .inl (f3)))] U.heap ∧ va_K (dC, dI) vwCl [(c2, .long), (c3, .byte)] U ∧ va_D (fun _ => True) [(h0, .inr (10, xF hm h1 h2 h3 0 0 1000)), (h2, .inl (c2, 100, .inr (.inl (f2)))), (h3, .inl (c3, 100, .inl (f3)))])) (va_Qi (fun (r : Int32) (_ : Unit) => r = 1) (fun _ _ => True) (va_A [(h0, .inr (10, xF hm h1 h2 h3 0 0 1000)), (h2, .inl (c2, 100, .inr (.inl (f2)))), (h3, .inl (c3, 100, .inl (f3)))] sz)) 0 0 (va_A [(h0, .inr (10, xF hm h1 h2 h3 0 0 1000)), (h2, .inl (c2, 100, .inr (.inl (f2)))), (h3, .inl (c3, 100, .inl (f3)))] sz) := by
  refine Met.ofW (cc := cX11_put) (maxL := 3) (ret := (some .int)) (by decide) rfl ?_
  intro p e s m args below meth c s₁ B hml hv
  obtain ⟨rfl, hsz, hP, hK, hD0⟩ := hv
  have hx := B.exec
  have hb := B.bytes
  have hr := B.returns
  have hts := atoms_spec (ws := wsX11_put) B.pre
  have hown : s.vm.findClass RX11 = some m.cls := findClass_of_methodNamed B.named
  have hlocks := B.notSynchronized
  subst hsz
  have hD := hD0.self (sz := s.heap.size)
  generalize hAe : va_A [(h0, .inr (10, xF hm h1 h2 h3 0 0 1000)), (h2, .inl (c2, 100, .inr (.inl (f2)))), (h3, .inl (c3, 100, .inl (f3)))] s.heap.size = A at hD ⊢
  have hA : ∀ q : Nat, s.heap.size ≤ q → A q := fun q h => by rw [← hAe]; exact Or.inr h
  generalize hH : s.heap = H at hP ⊢
  have hS : va_S A s.heap H [] := by rw [← hH]; exact va_S.rf
  have hl := lv_entry [.ref h0, .long p0] (n := 3) (Nat.le_of_ble_eq_true rfl)
  rw [lg_entry_eq]
  generalize (lg_sl [.ref h0, .long p0] ++ List.replicate (3 - (lg_sl [.ref h0, .long p0]).length) Slot.unset).toArray = ls at hl ⊢
  have hl : lv_has ls 3 [(0, .ref h0), (1, .long p0)] := hl
  have hP : va_P (dC, dI) vwCl [(h0, .inr (10, xF hm h1 h2 h3 0 0 1000)), (h2, .inl (c2, 100, .inr (.inl (f2)))), (h3, .inl (c3, 100, .inl (f3)))] H := hP
  refine lv_aload_n hx hb dX11_put_0 rfl (lv_at hl 0 rfl) ?_
  refine lv_lload_n hx hb dX11_put_1 rfl (lv_at hl 1 rfl) ?_
  refine lv_iconst (v := 1) hx hb dX11_put_2 (by decide) ?_
  have hPc := hP.sub (ws' := [(h0, .inr (10, xF hm h1 h2 h3 0 0 1000)), (h2, .inl (c2, 100, .inr (.inl (f2)))), (h3, .inl (c3, 100, .inl (f3)))]) [0, 1, 2] rfl
  have hDc := hD.sub (ws' := [(h0, .inr (10, xF hm h1 h2 h3 0 0 1000)), (h2, .inl (c2, 100, .inr (.inl (f2)))), (h3, .inl (c3, 100, .inl (f3)))]) [0, 1, 2] (by decide) rfl
  have hKc := hK.sub (tys' := [(c2, .long), (c3, .byte)]) [0, 1] rfl
  have hFc := va_free (wc := [(h0, .inr (10, xF hm h1 h2 h3 0 0 1000)), (h2, .inl (c2, 100, .inr (.inl (f2)))), (h3, .inl (c3, 100, .inl (f3)))]) hD hS hA [0, 1, 2] rfl
  refine va_calli (va_runV (As := [.long p0, .int 1]) (rest := []) ⟨hx, hb, hml, hown, hts⟩ (c_X11_addToRow l dC dI h0 hm h1 h2 h3 c2 f2 c3 f3 p0 1 H.size) (cwV 2 hts gX11_put_X11_addToRow rfl rfl rfl (by decide +kernel) ⟨Nat.le_of_ble_eq_true rfl, Nat.le_of_ble_eq_true rfl⟩) ⟨fun a U g mk q => by obtain ⟨q0, q1, qP, qK, qD⟩ := q; exact ⟨q0, q1, qP, va_K.moved (u := U) (U := U.calling g mk a) (Vm.Alike.refl U.vm) qK, qD⟩, va_recv hKc hPc (ci := 10) (q0 := 0) rfl rfl, fun U hU hW => ⟨rfl, by rw [hU], by rw [hU]; exact hPc, va_K.moved hW.alike hKc, hDc.weaken (fun _ _ _ _ => trivial)⟩⟩ rfl rfl hl.1 rfl (lv_room (Nat.le_of_ble_eq_true rfl)) dX11_put_3 ⟨Nat.le_of_ble_eq_true rfl, Nat.le_of_ble_eq_true rfl⟩) hS (fun q _ h => hFc q h) hFc (fun r_1 u_2 t H1 locs ht hvm hw hB hz1 hk1 hS => ?_)
  obtain ⟨hP, hD⟩ := nd_drop (wr := []) hP hD [0, 1, 2] [] rfl rfl (by decide) (by decide) hk1 hFc
  generalize H1 = H at hP hS ⊢
  have hP : va_P (dC, dI) vwCl [] H := hP
  have hD : va_D A [] := hD
  refine W.widen (k := 0) (n := 0) (by decide +kernel) (by decide +kernel) ?_
  obtain rfl : r_1 = 1 := hw
  refine W.widen (k := 0) (n := 0) (by decide +kernel) (by decide +kernel) ?_
  exact W.iret (v := 1) hx hb hr (fun t ht hW => ⟨⟨1, (), rfl, rfl, trivial⟩, hS.F ht⟩) hS.2.2 dX11_put_6
set_option maxHeartbeats 4000000 in
set_option maxRecDepth 100000 in
theorem c_X11_hole (l : Launch) (hl0 : l.stackTraces = false) (dC : Nat → ClassId) (dI : Nat → Nat → Nat) (h0 : Nat) (hm : Nat) (h1 : Nat) (h2 : Nat) (h3 : Nat) (c2 : ClassId) (f2 : Nat → Int64) (c3 : ClassId) (f3 : Nat → Int32) (p0 : Int32) (sz : Nat) : vx_Met l yX11_hole wsX11_hole ({ frames := 20, cells := 1, slots := 6, locals := 600 }) (va_Pc [.ref h0, .int p0] (fun U => U.heap.size = sz ∧ va_P (dC, dI) vwCl [(h0, .inr (10, xF hm h1 h2 h3 0 0 1000)), (h2, .inl (c2, 100, .inr (.inl (f2)))), (h3, .inl (c3, 100, .inl (f3)))] U.heap ∧ va_K (dC, dI) vwCl [(c2, .long), (c3, .byte)] U ∧ va_D (fun _ => True) [(h0, .inr (10, xF hm h1 h2 h3 0 0 1000)), (h2, .inl (c2, 100, .inr (.inl (f2)))), (h3, .inl (c3, 100, .inl (f3)))] ∧ Gw U ∧ Gz (va_A [(h0, .inr (10, xF hm h1 h2 h3 0 0 1000)), (h2, .inl (c2, 100, .inr (.inl (f2)))), (h3, .inl (c3, 100, .inl (f3)))] sz) U U.heap)) (va_Qi (fun (r : Int32) (_ : Unit) => r = 1 ∧ kHole p0 = 0) (fun _ _ => True) (va_A [(h0, .inr (10, xF hm h1 h2 h3 0 0 1000)), (h2, .inl (c2, 100, .inr (.inl (f2)))), (h3, .inl (c3, 100, .inl (f3)))] sz)) (vx_X (fun _ : Unit => kHole p0 = 1) (fun E _ _ => E = "java/lang/IllegalArgumentException") (va_A [(h0, .inr (10, xF hm h1 h2 h3 0 0 1000)), (h2, .inl (c2, 100, .inr (.inl (f2)))), (h3, .inl (c3, 100, .inl (f3)))] sz)) 1 6 (va_A [(h0, .inr (10, xF hm h1 h2 h3 0 0 1000)), (h2, .inl (c2, 100, .inr (.inl (f2)))), (h3, .inl (c3, 100, .inl (f3)))] sz) := by
  refine vx_ofW (cc := cX11_hole) (maxL := 2) (ret := (some .int)) (by decide) rfl ?_
  intro p e s m args below meth c s₁ B hml htab hv
  obtain ⟨rfl, hsz, hP, hK, hD0, hG, hZ⟩ := hv
  have hx := B.exec
  have hb := B.bytes
  have hr := B.returns
  have hts := atoms_spec (ws := wsX11_hole) B.pre
  have hown : s.vm.findClass RX11 = some m.cls := findClass_of_methodNamed B.named
  have hlocks := B.notSynchronized
  subst hsz
  have hD := hD0.self (sz := s.heap.size)
  generalize hAe : va_A [(h0, .inr (10, xF hm h1 h2 h3 0 0 1000)), (h2, .inl (c2, 100, .inr (.inl (f2)))), (h3, .inl (c3, 100, .inl (f3)))] s.heap.size = A at hD hZ ⊢
  have hA : ∀ q : Nat, s.heap.size ≤ q → A q := fun q h => by rw [← hAe]; exact Or.inr h
  generalize hH : s.heap = H at hP ⊢
  have hS : va_S A s.heap H [] := by rw [← hH]; exact va_S.rf
  have hl := lv_entry [.ref h0, .int p0] (n := 2) (Nat.le_of_ble_eq_true rfl)
  rw [lg_entry_eq]
  generalize (lg_sl [.ref h0, .int p0] ++ List.replicate (2 - (lg_sl [.ref h0, .int p0]).length) Slot.unset).toArray = ls at hl ⊢
  have hl : lv_has ls 2 [(0, .ref h0), (1, .int p0)] := hl
  have hP : va_P (dC, dI) vwCl [(h0, .inr (10, xF hm h1 h2 h3 0 0 1000)), (h2, .inl (c2, 100, .inr (.inl (f2)))), (h3, .inl (c3, 100, .inl (f3)))] H := hP
  refine lv_iload_n hx hb dX11_hole_0 rfl (lv_at hl 1 rfl) ?_
  refine lv_if_eq (tgt := 19) hx hb dX11_hole_1 (by decide) (fun c_1 => ?_) (fun c_1 => ?_)
  · refine lv_aload_n hx hb dX11_hole_19 rfl (lv_at hl 0 rfl) ?_
    refine lv_lconst (v := 0) hx hb dX11_hole_20 (by decide) ?_
    refine lv_iload_n hx hb dX11_hole_21 rfl (lv_at hl 1 rfl) ?_
    refine lv_if_ne (tgt := 29) hx hb dX11_hole_22 (by decide) (fun c_22 => ?_) (fun c_22 => ?_)
    · refine lv_bipush (v := 8) hx hb dX11_hole_29 (by decide) ?_
      have hPc := hP.sub (ws' := [(h0, .inr (10, xF hm h1 h2 h3 0 0 1000)), (h2, .inl (c2, 100, .inr (.inl (f2)))), (h3, .inl (c3, 100, .inl (f3)))]) [0, 1, 2] rfl
      have hDc := hD.sub (ws' := [(h0, .inr (10, xF hm h1 h2 h3 0 0 1000)), (h2, .inl (c2, 100, .inr (.inl (f2)))), (h3, .inl (c3, 100, .inl (f3)))]) [0, 1, 2] (by decide) rfl
      have hKc := hK.sub (tys' := [(c2, .long), (c3, .byte)]) [0, 1] rfl
      have hFc := va_free (wc := [(h0, .inr (10, xF hm h1 h2 h3 0 0 1000)), (h2, .inl (c2, 100, .inr (.inl (f2)))), (h3, .inl (c3, 100, .inl (f3)))]) hD hS hA [0, 1, 2] rfl
      refine va_calli (va_runV (As := [.long 0, .int 8]) (rest := []) ⟨hx, hb, hml, hown, hts⟩ (c_X11_addToRow l dC dI h0 hm h1 h2 h3 c2 f2 c3 f3 0 8 H.size) (cwV 2 hts gX11_hole_X11_addToRow rfl rfl rfl (by decide +kernel) ⟨Nat.le_of_ble_eq_true rfl, Nat.le_of_ble_eq_true rfl⟩) ⟨fun a U g mk q => by obtain ⟨q0, q1, qP, qK, qD⟩ := q; exact ⟨q0, q1, qP, va_K.moved (u := U) (U := U.calling g mk a) (Vm.Alike.refl U.vm) qK, qD⟩, va_recv hKc hPc (ci := 10) (q0 := 0) rfl rfl, fun U hU hW => ⟨rfl, by rw [hU], by rw [hU]; exact hPc, va_K.moved hW.alike hKc, hDc.weaken (fun _ _ _ _ => trivial)⟩⟩ rfl rfl hl.1 rfl (lv_room (Nat.le_of_ble_eq_true rfl)) dX11_hole_31 ⟨Nat.le_of_ble_eq_true rfl, Nat.le_of_ble_eq_true rfl⟩) hS (fun q _ h => hFc q h) hFc (fun r_1 u_2 t H1 locs ht hvm hw hB hz1 hk1 hS => ?_)
      obtain ⟨hP, hD⟩ := nd_drop (wr := []) hP hD [0, 1, 2] [] rfl rfl (by decide) (by decide) hk1 hFc
      generalize H1 = H at hP hS ⊢
      have hP : va_P (dC, dI) vwCl [] H := hP
      have hD : va_D A [] := hD
      refine W.widen (k := 0) (n := 0) (by decide +kernel) (by decide +kernel) ?_
      obtain rfl : r_1 = 1 := hw
      refine vx_ret ?_
      refine W.widen (k := 1) (n := 6) (by decide +kernel) (by decide +kernel) ?_
      exact W.iret (v := 1) hx hb hr (fun t ht hW => ⟨⟨1, (), rfl, ⟨rfl, if_pos c_1⟩, trivial⟩, hS.F ht⟩) hS.2.2 dX11_hole_34
    · refine lv_iconst (v := 4) hx hb dX11_hole_25 (by decide) ?_
      refine lv_goto (tgt := 31) hx hb dX11_hole_26 (by decide) ?_
      have hPc := hP.sub (ws' := [(h0, .inr (10, xF hm h1 h2 h3 0 0 1000)), (h2, .inl (c2, 100, .inr (.inl (f2)))), (h3, .inl (c3, 100, .inl (f3)))]) [0, 1, 2] rfl
      have hDc := hD.sub (ws' := [(h0, .inr (10, xF hm h1 h2 h3 0 0 1000)), (h2, .inl (c2, 100, .inr (.inl (f2)))), (h3, .inl (c3, 100, .inl (f3)))]) [0, 1, 2] (by decide) rfl
      have hKc := hK.sub (tys' := [(c2, .long), (c3, .byte)]) [0, 1] rfl
      have hFc := va_free (wc := [(h0, .inr (10, xF hm h1 h2 h3 0 0 1000)), (h2, .inl (c2, 100, .inr (.inl (f2)))), (h3, .inl (c3, 100, .inl (f3)))]) hD hS hA [0, 1, 2] rfl
      refine va_calli (va_runV (As := [.long 0, .int 4]) (rest := []) ⟨hx, hb, hml, hown, hts⟩ (c_X11_addToRow l dC dI h0 hm h1 h2 h3 c2 f2 c3 f3 0 4 H.size) (cwV 2 hts gX11_hole_X11_addToRow rfl rfl rfl (by decide +kernel) ⟨Nat.le_of_ble_eq_true rfl, Nat.le_of_ble_eq_true rfl⟩) ⟨fun a U g mk q => by obtain ⟨q0, q1, qP, qK, qD⟩ := q; exact ⟨q0, q1, qP, va_K.moved (u := U) (U := U.calling g mk a) (Vm.Alike.refl U.vm) qK, qD⟩, va_recv hKc hPc (ci := 10) (q0 := 0) rfl rfl, fun U hU hW => ⟨rfl, by rw [hU], by rw [hU]; exact hPc, va_K.moved hW.alike hKc, hDc.weaken (fun _ _ _ _ => trivial)⟩⟩ rfl rfl hl.1 rfl (lv_room (Nat.le_of_ble_eq_true rfl)) dX11_hole_31 ⟨Nat.le_of_ble_eq_true rfl, Nat.le_of_ble_eq_true rfl⟩) hS (fun q _ h => hFc q h) hFc (fun r_3 u_4 t H1 locs ht hvm hw hB hz1 hk1 hS => ?_)
      obtain ⟨hP, hD⟩ := nd_drop (wr := []) hP hD [0, 1, 2] [] rfl rfl (by decide) (by decide) hk1 hFc
      generalize H1 = H at hP hS ⊢
      have hP : va_P (dC, dI) vwCl [] H := hP
      have hD : va_D A [] := hD
      refine W.widen (k := 0) (n := 0) (by decide +kernel) (by decide +kernel) ?_
      obtain rfl : r_3 = 1 := hw
      refine vx_ret ?_
      refine W.widen (k := 1) (n := 6) (by decide +kernel) (by decide +kernel) ?_
      exact W.iret (v := 1) hx hb hr (fun t ht hW => ⟨⟨1, (), rfl, ⟨rfl, if_pos c_1⟩, trivial⟩, hS.F ht⟩) hS.2.2 dX11_hole_34
  · refine lv_iload_n hx hb dX11_hole_4 rfl (lv_at hl 1 rfl) ?_
    refine lv_iconst (v := 1) hx hb dX11_hole_5 (by decide) ?_
    refine lv_icmp_eq (tgt := 19) hx hb dX11_hole_6 (by decide) (fun c_6 => ?_) (fun c_6 => ?_)
    · refine lv_aload_n hx hb dX11_hole_19 rfl (lv_at hl 0 rfl) ?_
      refine lv_lconst (v := 0) hx hb dX11_hole_20 (by decide) ?_
      refine lv_iload_n hx hb dX11_hole_21 rfl (lv_at hl 1 rfl) ?_
      refine lv_if_ne (tgt := 29) hx hb dX11_hole_22 (by decide) (fun c_22 => ?_) (fun c_22 => ?_)
      · refine lv_bipush (v := 8) hx hb dX11_hole_29 (by decide) ?_
        have hPc := hP.sub (ws' := [(h0, .inr (10, xF hm h1 h2 h3 0 0 1000)), (h2, .inl (c2, 100, .inr (.inl (f2)))), (h3, .inl (c3, 100, .inl (f3)))]) [0, 1, 2] rfl
        have hDc := hD.sub (ws' := [(h0, .inr (10, xF hm h1 h2 h3 0 0 1000)), (h2, .inl (c2, 100, .inr (.inl (f2)))), (h3, .inl (c3, 100, .inl (f3)))]) [0, 1, 2] (by decide) rfl
        have hKc := hK.sub (tys' := [(c2, .long), (c3, .byte)]) [0, 1] rfl
        have hFc := va_free (wc := [(h0, .inr (10, xF hm h1 h2 h3 0 0 1000)), (h2, .inl (c2, 100, .inr (.inl (f2)))), (h3, .inl (c3, 100, .inl (f3)))]) hD hS hA [0, 1, 2] rfl
        refine va_calli (va_runV (As := [.long 0, .int 8]) (rest := []) ⟨hx, hb, hml, hown, hts⟩ (c_X11_addToRow l dC dI h0 hm h1 h2 h3 c2 f2 c3 f3 0 8 H.size) (cwV 2 hts gX11_hole_X11_addToRow rfl rfl rfl (by decide +kernel) ⟨Nat.le_of_ble_eq_true rfl, Nat.le_of_ble_eq_true rfl⟩) ⟨fun a U g mk q => by obtain ⟨q0, q1, qP, qK, qD⟩ := q; exact ⟨q0, q1, qP, va_K.moved (u := U) (U := U.calling g mk a) (Vm.Alike.refl U.vm) qK, qD⟩, va_recv hKc hPc (ci := 10) (q0 := 0) rfl rfl, fun U hU hW => ⟨rfl, by rw [hU], by rw [hU]; exact hPc, va_K.moved hW.alike hKc, hDc.weaken (fun _ _ _ _ => trivial)⟩⟩ rfl rfl hl.1 rfl (lv_room (Nat.le_of_ble_eq_true rfl)) dX11_hole_31 ⟨Nat.le_of_ble_eq_true rfl, Nat.le_of_ble_eq_true rfl⟩) hS (fun q _ h => hFc q h) hFc (fun r_1 u_2 t H1 locs ht hvm hw hB hz1 hk1 hS => ?_)
        obtain ⟨hP, hD⟩ := nd_drop (wr := []) hP hD [0, 1, 2] [] rfl rfl (by decide) (by decide) hk1 hFc
        generalize H1 = H at hP hS ⊢
        have hP : va_P (dC, dI) vwCl [] H := hP
        have hD : va_D A [] := hD
        refine W.widen (k := 0) (n := 0) (by decide +kernel) (by decide +kernel) ?_
        obtain rfl : r_1 = 1 := hw
        refine vx_ret ?_
        refine W.widen (k := 1) (n := 6) (by decide +kernel) (by decide +kernel) ?_
        exact W.iret (v := 1) hx hb hr (fun t ht hW => ⟨⟨1, (), rfl, ⟨rfl, (if_neg c_1).trans (if_pos c_6)⟩, trivial⟩, hS.F ht⟩) hS.2.2 dX11_hole_34
      · refine lv_iconst (v := 4) hx hb dX11_hole_25 (by decide) ?_
        refine lv_goto (tgt := 31) hx hb dX11_hole_26 (by decide) ?_
        have hPc := hP.sub (ws' := [(h0, .inr (10, xF hm h1 h2 h3 0 0 1000)), (h2, .inl (c2, 100, .inr (.inl (f2)))), (h3, .inl (c3, 100, .inl (f3)))]) [0, 1, 2] rfl
        have hDc := hD.sub (ws' := [(h0, .inr (10, xF hm h1 h2 h3 0 0 1000)), (h2, .inl (c2, 100, .inr (.inl (f2)))), (h3, .inl (c3, 100, .inl (f3)))]) [0, 1, 2] (by decide) rfl
        have hKc := hK.sub (tys' := [(c2, .long), (c3, .byte)]) [0, 1] rfl
        have hFc := va_free (wc := [(h0, .inr (10, xF hm h1 h2 h3 0 0 1000)), (h2, .inl (c2, 100, .inr (.inl (f2)))), (h3, .inl (c3, 100, .inl (f3)))]) hD hS hA [0, 1, 2] rfl
        refine va_calli (va_runV (As := [.long 0, .int 4]) (rest := []) ⟨hx, hb, hml, hown, hts⟩ (c_X11_addToRow l dC dI h0 hm h1 h2 h3 c2 f2 c3 f3 0 4 H.size) (cwV 2 hts gX11_hole_X11_addToRow rfl rfl rfl (by decide +kernel) ⟨Nat.le_of_ble_eq_true rfl, Nat.le_of_ble_eq_true rfl⟩) ⟨fun a U g mk q => by obtain ⟨q0, q1, qP, qK, qD⟩ := q; exact ⟨q0, q1, qP, va_K.moved (u := U) (U := U.calling g mk a) (Vm.Alike.refl U.vm) qK, qD⟩, va_recv hKc hPc (ci := 10) (q0 := 0) rfl rfl, fun U hU hW => ⟨rfl, by rw [hU], by rw [hU]; exact hPc, va_K.moved hW.alike hKc, hDc.weaken (fun _ _ _ _ => trivial)⟩⟩ rfl rfl hl.1 rfl (lv_room (Nat.le_of_ble_eq_true rfl)) dX11_hole_31 ⟨Nat.le_of_ble_eq_true rfl, Nat.le_of_ble_eq_true rfl⟩) hS (fun q _ h => hFc q h) hFc (fun r_3 u_4 t H1 locs ht hvm hw hB hz1 hk1 hS => ?_)
        obtain ⟨hP, hD⟩ := nd_drop (wr := []) hP hD [0, 1, 2] [] rfl rfl (by decide) (by decide) hk1 hFc
        generalize H1 = H at hP hS ⊢
        have hP : va_P (dC, dI) vwCl [] H := hP
        have hD : va_D A [] := hD
        refine W.widen (k := 0) (n := 0) (by decide +kernel) (by decide +kernel) ?_
        obtain rfl : r_3 = 1 := hw
        refine vx_ret ?_
        refine W.widen (k := 1) (n := 6) (by decide +kernel) (by decide +kernel) ?_
        exact W.iret (v := 1) hx hb hr (fun t ht hW => ⟨⟨1, (), rfl, ⟨rfl, (if_neg c_1).trans (if_pos c_6)⟩, trivial⟩, hS.F ht⟩) hS.2.2 dX11_hole_34
    · obtain ⟨sa, hsa⟩ := hG.t40
      exact vx_throwS (A := A) (own := RX11) (cls := "java/lang/IllegalArgumentException") (text := "kind is not 0 or 1") (names := ["java/lang/RuntimeException", "java/lang/Exception"]) (sa := sa) (rest := []) hx hb hl0 hown (by decide) (by decide) (hts (.classLink RX11 38 "java/lang/IllegalArgumentException") (by decide +kernel)) (hts (.initialized "java/lang/IllegalArgumentException") (by decide +kernel)) hsa (vx_hat (B := [.castable "java/lang/IllegalArgumentException" "java/lang/IllegalArgumentException", .declares ⟨"java/lang/RuntimeException", "<init>", "(Ljava/lang/String;)V"⟩, .declares ⟨"java/lang/Exception", "<init>", "(Ljava/lang/String;)V"⟩, .declares ⟨"java/lang/Throwable", "<init>", "(Ljava/lang/String;)V"⟩]) (fun w h => hts w (List.mem_cons_of_mem _ (List.mem_append_left _ (List.mem_append_right _ h)))) (by decide +kernel) (vx_c (va_Nw.use rfl hG.cIAE) (vx_c (va_Nw.use rfl hG.dR) (vx_c (va_Nw.use rfl hG.dE) (vx_c (va_Nw.use rfl hG.dT) vx_n))))) (by decide +kernel) hZ.1 hZ.2 hS (hl.1.trans hml.symm) dX11_hole_9 dX11_hole_12 dX11_hole_13 dX11_hole_15 dX11_hole_18 (fun x h => (htab x h).elim) (Nat.le_of_ble_eq_true rfl) (Nat.le_of_ble_eq_true rfl) (Nat.le_of_ble_eq_true rfl) (Nat.le_of_ble_eq_true rfl) hlocks (fun t hvm hz hq => ⟨(), (if_neg c_1).trans (if_neg c_6), rfl, Nat.le_trans hS.1 hz, fun q h1 h2 => (hq q (Nat.lt_of_lt_of_le h1 hS.1)).trans (hS.2.1 q h1 h2)⟩) hS.2.2 (Nat.le_of_ble_eq_true rfl) (Nat.le_of_ble_eq_true rfl)
set_option maxHeartbeats 4000000 in
set_option maxRecDepth 100000 in
theorem c_X11_checkRoom (l : Launch) (dC : Nat → ClassId) (dI : Nat → Nat → Nat) (h0 : Nat) (hm : Nat) (h1 : Nat) (h2 : Nat) (h3 : Nat) (sz : Nat) : Met l yX11_checkRoom wsX11_checkRoom ({ frames := 10, cells := 0, slots := 0, locals := 300 }) (va_Pc [.ref h0] (fun U => U.heap.size = sz ∧ va_P (dC, dI) vwCl [(h0, .inr (10, xF hm h1 h2 h3 0 0 1000))] U.heap ∧ va_K (dC, dI) vwCl [] U ∧ va_D (fun _ => True) [])) (va_Qv (fun _ : Unit => True) (fun _ _ => True) (va_A [] sz)) 0 0 (va_A [] sz) := by
  refine Met.ofW (cc := cX11_checkRoom) (maxL := 1) (ret := none) (by decide) rfl ?_
  intro p e s m args below meth c s₁ B hml hv
  obtain ⟨rfl, hsz, hP, hK, hD0⟩ := hv
  have hx := B.exec
  have hb := B.bytes
  have hr := B.returns
  have hts := atoms_spec (ws := wsX11_checkRoom) B.pre
  have hown : s.vm.findClass RX11 = some m.cls := findClass_of_methodNamed B.named
  have hlocks := B.notSynchronized
  subst hsz
  have hD := hD0.self (sz := s.heap.size)
  generalize hAe : va_A [] s.heap.size = A at hD ⊢
  have hA : ∀ q : Nat, s.heap.size ≤ q → A q := fun q h => by rw [← hAe]; exact Or.inr h
  generalize hH : s.heap = H at hP ⊢
  have hS : va_S A s.heap H [] := by rw [← hH]; exact va_S.rf
  have hl := lv_entry [.ref h0] (n := 1) (Nat.le_of_ble_eq_true rfl)
  rw [lg_entry_eq]
  generalize (lg_sl [.ref h0] ++ List.replicate (1 - (lg_sl [.ref h0]).length) Slot.unset).toArray = ls at hl ⊢
  have hl : lv_has ls 1 [(0, .ref h0)] := hl
  have hP : va_P (dC, dI) vwCl [(h0, .inr (10, xF hm h1 h2 h3 0 0 1000))] H := hP
  refine lv_aload_n hx hb dX11_checkRoom_0 rfl (lv_at hl 0 rfl) ?_
  refine va_get (D := (dC, dI)) (ci := 10) (v := .int 0) (C := RX11) (T := TX11) (N := 9) hx hb hts (by decide +kernel) hown hK hP 0 rfl rfl 4 (by decide) (hts (.fieldLink RX11 136 "NeededLists" "madeCount" "I") (by decide +kernel)) (fun _ h9 => h9) rfl dX11_checkRoom_1 ?_
  refine lv_bipush (v := 24) hx hb dX11_checkRoom_4 (by decide) ?_
  refine lv_icmp_lt (tgt := 19) hx hb dX11_checkRoom_6 (by decide) (fun c_6 => ?_) (fun c_6 => ?_)
  · refine W.widen (k := 0) (n := 0) (by decide +kernel) (by decide +kernel) ?_
    exact W.vret hx hb hr (fun t ht hW => ⟨⟨(), rfl, trivial, trivial⟩, hS.F ht⟩) hS.2.2 dX11_checkRoom_19
  · exact absurd c_6 (by decide)
set_option maxHeartbeats 4000000 in
set_option maxRecDepth 100000 in
theorem c_X11_checkOp (l : Launch) (hl0 : l.stackTraces = false) (dC : Nat → ClassId) (dI : Nat → Nat → Nat) (p0 : Int32) (sz : Nat) : vx_Met l yX11_checkOp wsX11_checkOp ({ frames := 10, cells := 1, slots := 6, locals := 300 }) (va_Pc [.int p0] (fun U => U.heap.size = sz ∧ va_P (dC, dI) vwCl [] U.heap ∧ va_K (dC, dI) vwCl [] U ∧ va_D (fun _ => True) [] ∧ Gw U ∧ Gz (va_A [] sz) U U.heap)) (va_Qv (fun _ : Unit => kOp p0 = 0) (fun _ _ => True) (va_A [] sz)) (vx_X (fun _ : Unit => kOp p0 = 1) (fun E _ _ => E = "java/lang/IllegalArgumentException") (va_A [] sz)) 1 6 (va_A [] sz) := by
  refine vx_ofW (cc := cX11_checkOp) (maxL := 1) (ret := none) (by decide) rfl ?_
  intro p e s m args below meth c s₁ B hml htab hv
  obtain ⟨rfl, hsz, hP, hK, hD0, hG, hZ⟩ := hv
  have hx := B.exec
  have hb := B.bytes
  have hr := B.returns
  have hts := atoms_spec (ws := wsX11_checkOp) B.pre
  have hown : s.vm.findClass RX11 = some m.cls := findClass_of_methodNamed B.named
  have hlocks := B.notSynchronized
  subst hsz
  have hD := hD0.self (sz := s.heap.size)
  generalize hAe : va_A [] s.heap.size = A at hD hZ ⊢
  have hA : ∀ q : Nat, s.heap.size ≤ q → A q := fun q h => by rw [← hAe]; exact Or.inr h
  generalize hH : s.heap = H at hP ⊢
  have hS : va_S A s.heap H [] := by rw [← hH]; exact va_S.rf
  have hl := lv_entry [.int p0] (n := 1) (Nat.le_of_ble_eq_true rfl)
  rw [lg_entry_eq]
  generalize (lg_sl [.int p0] ++ List.replicate (1 - (lg_sl [.int p0]).length) Slot.unset).toArray = ls at hl ⊢
  have hl : lv_has ls 1 [(0, .int p0)] := hl
  have hP : va_P (dC, dI) vwCl [] H := hP
  refine lv_iload_n hx hb dX11_checkOp_0 rfl (lv_at hl 0 rfl) ?_
  refine lv_if_lt (tgt := 10) hx hb dX11_checkOp_1 (by decide) (fun c_1 => ?_) (fun c_1 => ?_)
  · obtain ⟨sa, hsa⟩ := hG.t205
    exact vx_throwS (A := A) (own := RX11) (cls := "java/lang/IllegalArgumentException") (text := "op is not 0 .. 8") (names := ["java/lang/RuntimeException", "java/lang/Exception"]) (sa := sa) (rest := []) hx hb hl0 hown (by decide) (by decide) (hts (.classLink RX11 38 "java/lang/IllegalArgumentException") (by decide +kernel)) (hts (.initialized "java/lang/IllegalArgumentException") (by decide +kernel)) hsa (vx_hat (B := [.castable "java/lang/IllegalArgumentException" "java/lang/IllegalArgumentException", .declares ⟨"java/lang/RuntimeException", "<init>", "(Ljava/lang/String;)V"⟩, .declares ⟨"java/lang/Exception", "<init>", "(Ljava/lang/String;)V"⟩, .declares ⟨"java/lang/Throwable", "<init>", "(Ljava/lang/String;)V"⟩]) (fun w h => hts w (List.mem_cons_of_mem _ (List.mem_append_right _ h))) (by decide +kernel) (vx_c (va_Nw.use rfl hG.cIAE) (vx_c (va_Nw.use rfl hG.dR) (vx_c (va_Nw.use rfl hG.dE) (vx_c (va_Nw.use rfl hG.dT) vx_n))))) (by decide +kernel) hZ.1 hZ.2 hS (hl.1.trans hml.symm) dX11_checkOp_10 dX11_checkOp_13 dX11_checkOp_14 dX11_checkOp_16 dX11_checkOp_19 (fun x h => (htab x h).elim) (Nat.le_of_ble_eq_true rfl) (Nat.le_of_ble_eq_true rfl) (Nat.le_of_ble_eq_true rfl) (Nat.le_of_ble_eq_true rfl) hlocks (fun t hvm hz hq => ⟨(), (if_pos c_1), rfl, Nat.le_trans hS.1 hz, fun q h1 h2 => (hq q (Nat.lt_of_lt_of_le h1 hS.1)).trans (hS.2.1 q h1 h2)⟩) hS.2.2 (Nat.le_of_ble_eq_true rfl) (Nat.le_of_ble_eq_true rfl)
  · refine lv_iload_n hx hb dX11_checkOp_4 rfl (lv_at hl 0 rfl) ?_
    refine lv_bipush (v := 8) hx hb dX11_checkOp_5 (by decide) ?_
    refine lv_icmp_le (tgt := 20) hx hb dX11_checkOp_7 (by decide) (fun c_7 => ?_) (fun c_7 => ?_)
    · refine vx_ret ?_
      refine W.widen (k := 1) (n := 6) (by decide +kernel) (by decide +kernel) ?_
      exact W.vret hx hb hr (fun t ht hW => ⟨⟨(), rfl, (if_neg c_1).trans (if_pos c_7), trivial⟩, hS.F ht⟩) hS.2.2 dX11_checkOp_20
    · obtain ⟨sa, hsa⟩ := hG.t205
      exact vx_throwS (A := A) (own := RX11) (cls := "java/lang/IllegalArgumentException") (text := "op is not 0 .. 8") (names := ["java/lang/RuntimeException", "java/lang/Exception"]) (sa := sa) (rest := []) hx hb hl0 hown (by decide) (by decide) (hts (.classLink RX11 38 "java/lang/IllegalArgumentException") (by decide +kernel)) (hts (.initialized "java/lang/IllegalArgumentException") (by decide +kernel)) hsa (vx_hat (B := [.castable "java/lang/IllegalArgumentException" "java/lang/IllegalArgumentException", .declares ⟨"java/lang/RuntimeException", "<init>", "(Ljava/lang/String;)V"⟩, .declares ⟨"java/lang/Exception", "<init>", "(Ljava/lang/String;)V"⟩, .declares ⟨"java/lang/Throwable", "<init>", "(Ljava/lang/String;)V"⟩]) (fun w h => hts w (List.mem_cons_of_mem _ (List.mem_append_right _ h))) (by decide +kernel) (vx_c (va_Nw.use rfl hG.cIAE) (vx_c (va_Nw.use rfl hG.dR) (vx_c (va_Nw.use rfl hG.dE) (vx_c (va_Nw.use rfl hG.dT) vx_n))))) (by decide +kernel) hZ.1 hZ.2 hS (hl.1.trans hml.symm) dX11_checkOp_10 dX11_checkOp_13 dX11_checkOp_14 dX11_checkOp_16 dX11_checkOp_19 (fun x h => (htab x h).elim) (Nat.le_of_ble_eq_true rfl) (Nat.le_of_ble_eq_true rfl) (Nat.le_of_ble_eq_true rfl) (Nat.le_of_ble_eq_true rfl) hlocks (fun t hvm hz hq => ⟨(), ((if_neg c_1).trans (if_neg c_7)), rfl, Nat.le_trans hS.1 hz, fun q h1 h2 => (hq q (Nat.lt_of_lt_of_le h1 hS.1)).trans (hS.2.1 q h1 h2)⟩) hS.2.2 (Nat.le_of_ble_eq_true rfl) (Nat.le_of_ble_eq_true rfl)
set_option maxHeartbeats 4000000 in
set_option maxRecDepth 100000 in
theorem c_X11_listOf (l : Launch) (hl0 : l.stackTraces = false) (dC : Nat → ClassId) (dI : Nat → Nat → Nat) (h0 : Nat) (hm : Nat) (h1 : Nat) (h2 : Nat) (h3 : Nat) (p0 : Int32) (sz : Nat) : vx_Met l yX11_listOf wsX11_listOf ({ frames := 10, cells := 1, slots := 6, locals := 300 }) (va_Pc [.ref h0, .int p0] (fun U => U.heap.size = sz ∧ va_P (dC, dI) vwCl [(h0, .inr (10, xF hm h1 h2 h3 0 0 1000))] U.heap ∧ va_K (dC, dI) vwCl [] U ∧ va_D (fun _ => True) [] ∧ Gw U ∧ Gz (va_A [] sz) U U.heap)) (fun _ _ _ _ => False) (vx_X (fun _ : Unit => True) (fun E _ _ => E = "java/lang/IndexOutOfBoundsException") (va_A [] sz)) 1 6 (va_A [] sz) := by
  refine vx_ofW (cc := cX11_listOf) (maxL := 3) (ret := (some (.object "NeededLists$LazyList"))) (by decide) rfl ?_
  intro p e s m args below meth c s₁ B hml htab hv
  obtain ⟨rfl, hsz, hP, hK, hD0, hG, hZ⟩ := hv
  have hx := B.exec
  have hb := B.bytes
  have hr := B.returns
  have hts := atoms_spec (ws := wsX11_listOf) B.pre
  have hown : s.vm.findClass RX11 = some m.cls := findClass_of_methodNamed B.named
  have hlocks := B.notSynchronized
  subst hsz
  have hD := hD0.self (sz := s.heap.size)
  generalize hAe : va_A [] s.heap.size = A at hD hZ ⊢
  have hA : ∀ q : Nat, s.heap.size ≤ q → A q := fun q h => by rw [← hAe]; exact Or.inr h
  generalize hH : s.heap = H at hP ⊢
  have hS : va_S A s.heap H [] := by rw [← hH]; exact va_S.rf
  have hl := lv_entry [.ref h0, .int p0] (n := 3) (Nat.le_of_ble_eq_true rfl)
  rw [lg_entry_eq]
  generalize (lg_sl [.ref h0, .int p0] ++ List.replicate (3 - (lg_sl [.ref h0, .int p0]).length) Slot.unset).toArray = ls at hl ⊢
  have hl : lv_has ls 3 [(0, .ref h0), (1, .int p0)] := hl
  have hP : va_P (dC, dI) vwCl [(h0, .inr (10, xF hm h1 h2 h3 0 0 1000))] H := hP
  refine lv_iload_n hx hb dX11_listOf_0 rfl (lv_at hl 1 rfl) ?_
  refine lv_if_lt (tgt := 30) hx hb dX11_listOf_1 (by decide) (fun c_1 => ?_) (fun c_1 => ?_)
  · refine lv_null hx hb dX11_listOf_30 ?_
    refine lv_astore_nN (lv' := [(2, .null), (0, .ref h0), (1, .int p0)]) hx hb dX11_listOf_31 rfl hl (by decide) rfl (fun ls hl => ?_)
    refine lv_aload_nN hx hb dX11_listOf_32 rfl (lv_at hl 0 rfl) ?_
    refine lv_ifnonnullN hx hb dX11_listOf_33 ?_
    obtain ⟨sa, hsa⟩ := hG.t200
    exact vx_throwS (A := A) (own := RX11) (cls := "java/lang/IndexOutOfBoundsException") (text := "there is no such list") (names := ["java/lang/RuntimeException", "java/lang/Exception"]) (sa := sa) (rest := []) hx hb hl0 hown (by decide) (by decide) (hts (.classLink RX11 198 "java/lang/IndexOutOfBoundsException") (by decide +kernel)) (hts (.initialized "java/lang/IndexOutOfBoundsException") (by decide +kernel)) hsa (vx_hat (B := [.castable "java/lang/IndexOutOfBoundsException" "java/lang/IndexOutOfBoundsException", .declares ⟨"java/lang/RuntimeException", "<init>", "(Ljava/lang/String;)V"⟩, .declares ⟨"java/lang/Exception", "<init>", "(Ljava/lang/String;)V"⟩, .declares ⟨"java/lang/Throwable", "<init>", "(Ljava/lang/String;)V"⟩]) (fun w h => hts w (List.mem_cons_of_mem _ (List.mem_append_right _ h))) (by decide +kernel) (vx_c (va_Nw.use rfl hG.cIOO) (vx_c (va_Nw.use rfl hG.dR) (vx_c (va_Nw.use rfl hG.dE) (vx_c (va_Nw.use rfl hG.dT) vx_n))))) (by decide +kernel) hZ.1 hZ.2 hS (hl.1.trans hml.symm) dX11_listOf_36 dX11_listOf_39 dX11_listOf_40 dX11_listOf_42 dX11_listOf_45 (fun x h => (htab x h).elim) (Nat.le_of_ble_eq_true rfl) (Nat.le_of_ble_eq_true rfl) (Nat.le_of_ble_eq_true rfl) (Nat.le_of_ble_eq_true rfl) hlocks (fun t hvm hz hq => ⟨(), trivial, rfl, Nat.le_trans hS.1 hz, fun q h1 h2 => (hq q (Nat.lt_of_lt_of_le h1 hS.1)).trans (hS.2.1 q h1 h2)⟩) hS.2.2 (Nat.le_of_ble_eq_true rfl) (Nat.le_of_ble_eq_true rfl)
  · refine lv_iload_n hx hb dX11_listOf_4 rfl (lv_at hl 1 rfl) ?_
    refine lv_aload_n hx hb dX11_listOf_5 rfl (lv_at hl 0 rfl) ?_
    refine va_get (D := (dC, dI)) (ci := 10) (v := .int 0) (C := RX11) (T := TX11) (N := 9) hx hb hts (by decide +kernel) hown hK hP 0 rfl rfl 4 (by decide) (hts (.fieldLink RX11 136 "NeededLists" "madeCount" "I") (by decide +kernel)) (fun _ h9 => h9) rfl dX11_listOf_6 ?_
    refine lv_icmp_ge (tgt := 30) hx hb dX11_listOf_9 (by decide) (fun c_9 => ?_) (fun c_9 => ?_)
    · refine lv_null hx hb dX11_listOf_30 ?_
      refine lv_astore_nN (lv' := [(2, .null), (0, .ref h0), (1, .int p0)]) hx hb dX11_listOf_31 rfl hl (by decide) rfl (fun ls hl => ?_)
      refine lv_aload_nN hx hb dX11_listOf_32 rfl (lv_at hl 0 rfl) ?_
      refine lv_ifnonnullN hx hb dX11_listOf_33 ?_
      obtain ⟨sa, hsa⟩ := hG.t200
      exact vx_throwS (A := A) (own := RX11) (cls := "java/lang/IndexOutOfBoundsException") (text := "there is no such list") (names := ["java/lang/RuntimeException", "java/lang/Exception"]) (sa := sa) (rest := []) hx hb hl0 hown (by decide) (by decide) (hts (.classLink RX11 198 "java/lang/IndexOutOfBoundsException") (by decide +kernel)) (hts (.initialized "java/lang/IndexOutOfBoundsException") (by decide +kernel)) hsa (vx_hat (B := [.castable "java/lang/IndexOutOfBoundsException" "java/lang/IndexOutOfBoundsException", .declares ⟨"java/lang/RuntimeException", "<init>", "(Ljava/lang/String;)V"⟩, .declares ⟨"java/lang/Exception", "<init>", "(Ljava/lang/String;)V"⟩, .declares ⟨"java/lang/Throwable", "<init>", "(Ljava/lang/String;)V"⟩]) (fun w h => hts w (List.mem_cons_of_mem _ (List.mem_append_right _ h))) (by decide +kernel) (vx_c (va_Nw.use rfl hG.cIOO) (vx_c (va_Nw.use rfl hG.dR) (vx_c (va_Nw.use rfl hG.dE) (vx_c (va_Nw.use rfl hG.dT) vx_n))))) (by decide +kernel) hZ.1 hZ.2 hS (hl.1.trans hml.symm) dX11_listOf_36 dX11_listOf_39 dX11_listOf_40 dX11_listOf_42 dX11_listOf_45 (fun x h => (htab x h).elim) (Nat.le_of_ble_eq_true rfl) (Nat.le_of_ble_eq_true rfl) (Nat.le_of_ble_eq_true rfl) (Nat.le_of_ble_eq_true rfl) hlocks (fun t hvm hz hq => ⟨(), trivial, rfl, Nat.le_trans hS.1 hz, fun q h1 h2 => (hq q (Nat.lt_of_lt_of_le h1 hS.1)).trans (hS.2.1 q h1 h2)⟩) hS.2.2 (Nat.le_of_ble_eq_true rfl) (Nat.le_of_ble_eq_true rfl)
    · exact absurd (Int32.not_lt.mp c_1) c_9
set_option maxHeartbeats 4000000 in
set_option maxRecDepth 100000 in
theorem c_X11_map (l : Launch) (hl0 : l.stackTraces = false) (dC : Nat → ClassId) (dI : Nat → Nat → Nat) (h0 : Nat) (hm : Nat) (h1 : Nat) (h2 : Nat) (h3 : Nat) (p0 : Int32) (p1 : Int32) (p2 : Int64) (sz : Nat) : vx_Met l yX11_map vsX11_map ({ frames := 20, cells := 1, slots := 6, locals := 600 }) (va_Pc [.ref h0, .int p0, .int p1, .long p2] (fun U => U.heap.size = sz ∧ va_P (dC, dI) vwCl [(h0, .inr (10, xF hm h1 h2 h3 0 0 1000))] U.heap ∧ va_K (dC, dI) vwCl [] U ∧ va_D (fun _ => True) [] ∧ Gw U ∧ Gz (va_A [] sz) U U.heap)) (fun _ _ _ _ => False) (vx_X (fun _ : Unit => True) (fun E _ _ => E = "java/lang/IndexOutOfBoundsException") (va_A [] sz)) 1 6 (va_A [] sz) := by
  refine vx_ofW (cc := cX11_map) (maxL := 6) (ret := (some .int)) (by decide) rfl ?_
  intro p e s m args below meth c s₁ B hml htab hv
  obtain ⟨rfl, hsz, hP, hK, hD0, hG, hZ⟩ := hv
  have hx := B.exec
  have hb := B.bytes
  have hr := B.returns
  have hts := atoms_spec (ws := vsX11_map) B.pre
  have hown : s.vm.findClass RX11 = some m.cls := findClass_of_methodNamed B.named
  have hlocks := B.notSynchronized
  subst hsz
  have hD := hD0.self (sz := s.heap.size)
  generalize hAe : va_A [] s.heap.size = A at hD hZ ⊢
  have hA : ∀ q : Nat, s.heap.size ≤ q → A q := fun q h => by rw [← hAe]; exact Or.inr h
  generalize hH : s.heap = H at hP ⊢
  have hS : va_S A s.heap H [] := by rw [← hH]; exact va_S.rf
  have hl := lv_entry [.ref h0, .int p0, .int p1, .long p2] (n := 6) (Nat.le_of_ble_eq_true rfl)
  rw [lg_entry_eq]
  generalize (lg_sl [.ref h0, .int p0, .int p1, .long p2] ++ List.replicate (6 - (lg_sl [.ref h0, .int p0, .int p1, .long p2]).length) Slot.unset).toArray = ls at hl ⊢
  have hl : lv_has ls 6 [(0, .ref h0), (1, .int p0), (2, .int p1), (3, .long p2)] := hl
  have hP : va_P (dC, dI) vwCl [(h0, .inr (10, xF hm h1 h2 h3 0 0 1000))] H := hP
  refine lv_aload_n hx hb dX11_map_0 rfl (lv_at hl 0 rfl) ?_
  refine lv_iload_n hx hb dX11_map_1 rfl (lv_at hl 1 rfl) ?_
  have hPc := hP.sub (ws' := [(h0, .inr (10, xF hm h1 h2 h3 0 0 1000))]) [0] rfl
  have hDc : va_D (fun _ => True) ([] : va_W) := nd_0
  have hKc := hK.sub (tys' := []) [] rfl
  have hFc := va_free (wc := []) hD hS hA [] rfl
  refine vx_callX (vx_runV (As := [.int p0]) (rest := []) ⟨hx, hb, hml, hown, hts⟩ (c_X11_listOf l hl0 dC dI h0 hm h1 h2 h3 p0 H.size) (cwV 1 hts hX11_map rfl rfl rfl (by decide +kernel) ⟨Nat.le_of_ble_eq_true rfl, Nat.le_of_ble_eq_true rfl⟩) ⟨fun a U g mk q => by obtain ⟨q0, q1, qP, qK, qD, qG, qZ⟩ := q; exact ⟨q0, q1, qP, va_K.moved (u := U) (U := U.calling g mk a) (Vm.Alike.refl U.vm) qK, qD, Gw.same (u := U) (U := U.calling g mk a) rfl qG, Gz.moved (u := U) (U := U.calling g mk a) (Vm.Alike.refl U.vm) qZ⟩, va_recv hKc hPc (ci := 10) (q0 := 0) rfl rfl, fun U hU hW => ⟨rfl, by rw [hU], by rw [hU]; exact hPc, va_K.moved hW.alike hKc, nd_0, Gw.warm hW hG, Gz.step hZ hS hFc hU hW.alike⟩⟩ rfl rfl hl.1 rfl (lv_room (Nat.le_of_ble_eq_true rfl)) dX11_map_2 ⟨Nat.le_of_ble_eq_true rfl, Nat.le_of_ble_eq_true rfl⟩) hS hFc (fun q _ h => hFc q h) (fun E ce q9 u9 t H1 locs ht hvm hpx hBX hz1 hk1 hS hce hcv hcl => ?_)
  exact vx_widen (k := 1) (n := 6) (Nat.le_of_ble_eq_true rfl) (Nat.le_of_ble_eq_true rfl) (vx_out (fun x h => (htab x h).elim) hlocks hce hcv hcl (fun t ht hvm => ⟨(), hpx, hBX, hS.F ht⟩) hS.2.2 (Nat.le_refl _) (Nat.le_refl _))
set_option maxHeartbeats 4000000 in
set_option maxRecDepth 100000 in
theorem c_X11_both (l : Launch) (hl0 : l.stackTraces = false) (dC : Nat → ClassId) (dI : Nat → Nat → Nat) (h0 : Nat) (hm : Nat) (h1 : Nat) (h2 : Nat) (h3 : Nat) (p0 : Int32) (p1 : Int32) (p2 : Int32) (sz : Nat) : vx_Met l yX11_both vsX11_both ({ frames := 20, cells := 1, slots := 6, locals := 600 }) (va_Pc [.ref h0, .int p0, .int p1, .int p2] (fun U => U.heap.size = sz ∧ va_P (dC, dI) vwCl [(h0, .inr (10, xF hm h1 h2 h3 0 0 1000))] U.heap ∧ va_K (dC, dI) vwCl [] U ∧ va_D (fun _ => True) [] ∧ Gw U ∧ Gz (va_A [] sz) U U.heap)) (fun _ _ _ _ => False) (vx_X (fun _ : Unit => True) (fun E _ _ => E = "java/lang/IndexOutOfBoundsException") (va_A [] sz)) 1 6 (va_A [] sz) := by
  refine vx_ofW (cc := cX11_both) (maxL := 6) (ret := (some .int)) (by decide) rfl ?_
  intro p e s m args below meth c s₁ B hml htab hv
  obtain ⟨rfl, hsz, hP, hK, hD0, hG, hZ⟩ := hv
  have hx := B.exec
  have hb := B.bytes
  have hr := B.returns
  have hts := atoms_spec (ws := vsX11_both) B.pre
  have hown : s.vm.findClass RX11 = some m.cls := findClass_of_methodNamed B.named
  have hlocks := B.notSynchronized
  subst hsz
  have hD := hD0.self (sz := s.heap.size)
  generalize hAe : va_A [] s.heap.size = A at hD hZ ⊢
  have hA : ∀ q : Nat, s.heap.size ≤ q → A q := fun q h => by rw [← hAe]; exact Or.inr h
  generalize hH : s.heap = H at hP ⊢
  have hS : va_S A s.heap H [] := by rw [← hH]; exact va_S.rf
  have hl := lv_entry [.ref h0, .int p0, .int p1, .int p2] (n := 6) (Nat.le_of_ble_eq_true rfl)
  rw [lg_entry_eq]
  generalize (lg_sl [.ref h0, .int p0, .int p1, .int p2] ++ List.replicate (6 - (lg_sl [.ref h0, .int p0, .int p1, .int p2]).length) Slot.unset).toArray = ls at hl ⊢
  have hl : lv_has ls 6 [(0, .ref h0), (1, .int p0), (2, .int p1), (3, .int p2)] := hl
  have hP : va_P (dC, dI) vwCl [(h0, .inr (10, xF hm h1 h2 h3 0 0 1000))] H := hP
  refine lv_aload_n hx hb dX11_both_0 rfl (lv_at hl 0 rfl) ?_
  refine lv_iload_n hx hb dX11_both_1 rfl (lv_at hl 1 rfl) ?_
  have hPc := hP.sub (ws' := [(h0, .inr (10, xF hm h1 h2 h3 0 0 1000))]) [0] rfl
  have hDc : va_D (fun _ => True) ([] : va_W) := nd_0
  have hKc := hK.sub (tys' := []) [] rfl
  have hFc := va_free (wc := []) hD hS hA [] rfl
  refine vx_callX (vx_runV (As := [.int p0]) (rest := []) ⟨hx, hb, hml, hown, hts⟩ (c_X11_listOf l hl0 dC dI h0 hm h1 h2 h3 p0 H.size) (cwV 1 hts hX11_both rfl rfl rfl (by decide +kernel) ⟨Nat.le_of_ble_eq_true rfl, Nat.le_of_ble_eq_true rfl⟩) ⟨fun a U g mk q => by obtain ⟨q0, q1, qP, qK, qD, qG, qZ⟩ := q; exact ⟨q0, q1, qP, va_K.moved (u := U) (U := U.calling g mk a) (Vm.Alike.refl U.vm) qK, qD, Gw.same (u := U) (U := U.calling g mk a) rfl qG, Gz.moved (u := U) (U := U.calling g mk a) (Vm.Alike.refl U.vm) qZ⟩, va_recv hKc hPc (ci := 10) (q0 := 0) rfl rfl, fun U hU hW => ⟨rfl, by rw [hU], by rw [hU]; exact hPc, va_K.moved hW.alike hKc, nd_0, Gw.warm hW hG, Gz.step hZ hS hFc hU hW.alike⟩⟩ rfl rfl hl.1 rfl (lv_room (Nat.le_of_ble_eq_true rfl)) dX11_both_2 ⟨Nat.le_of_ble_eq_true rfl, Nat.le_of_ble_eq_true rfl⟩) hS hFc (fun q _ h => hFc q h) (fun E ce q9 u9 t H1 locs ht hvm hpx hBX hz1 hk1 hS hce hcv hcl => ?_)
  exact vx_widen (k := 1) (n := 6) (Nat.le_of_ble_eq_true rfl) (Nat.le_of_ble_eq_true rfl) (vx_out (fun x h => (htab x h).elim) hlocks hce hcv hcl (fun t ht hvm => ⟨(), hpx, hBX, hS.F ht⟩) hS.2.2 (Nat.le_refl _) (Nat.le_refl _))
set_option maxHeartbeats 4000000 in
set_option maxRecDepth 100000 in
theorem c_X11_scan (l : Launch) (hl0 : l.stackTraces = false) (dC : Nat → ClassId) (dI : Nat → Nat → Nat) (h0 : Nat) (hm : Nat) (h1 : Nat) (h2 : Nat) (h3 : Nat) (p0 : Int32) (p1 : Int32) (p2 : Int64) (sz : Nat) : vx_Met l yX11_scan vsX11_scan ({ frames := 20, cells := 1, slots := 6, locals := 600 }) (va_Pc [.ref h0, .int p0, .int p1, .long p2] (fun U => U.heap.size = sz ∧ va_P (dC, dI) vwCl [(h0, .inr (10, xF hm h1 h2 h3 0 0 1000))] U.heap ∧ va_K (dC, dI) vwCl [] U ∧ va_D (fun _ => True) [] ∧ Gw U ∧ Gz (va_A [] sz) U U.heap)) (fun _ _ _ _ => False) (vx_X (fun _ : Unit => True) (fun E _ _ => E = "java/lang/IndexOutOfBoundsException") (va_A [] sz)) 1 6 (va_A [] sz) := by
  refine vx_ofW (cc := cX11_scan) (maxL := 6) (ret := (some .int)) (by decide) rfl ?_
  intro p e s m args below meth c s₁ B hml htab hv
  obtain ⟨rfl, hsz, hP, hK, hD0, hG, hZ⟩ := hv
  have hx := B.exec
  have hb := B.bytes
  have hr := B.returns
  have hts := atoms_spec (ws := vsX11_scan) B.pre
  have hown : s.vm.findClass RX11 = some m.cls := findClass_of_methodNamed B.named
  have hlocks := B.notSynchronized
  subst hsz
  have hD := hD0.self (sz := s.heap.size)
  generalize hAe : va_A [] s.heap.size = A at hD hZ ⊢
  have hA : ∀ q : Nat, s.heap.size ≤ q → A q := fun q h => by rw [← hAe]; exact Or.inr h
  generalize hH : s.heap = H at hP ⊢
  have hS : va_S A s.heap H [] := by rw [← hH]; exact va_S.rf
  have hl := lv_entry [.ref h0, .int p0, .int p1, .long p2] (n := 6) (Nat.le_of_ble_eq_true rfl)
  rw [lg_entry_eq]
  generalize (lg_sl [.ref h0, .int p0, .int p1, .long p2] ++ List.replicate (6 - (lg_sl [.ref h0, .int p0, .int p1, .long p2]).length) Slot.unset).toArray = ls at hl ⊢
  have hl : lv_has ls 6 [(0, .ref h0), (1, .int p0), (2, .int p1), (3, .long p2)] := hl
  have hP : va_P (dC, dI) vwCl [(h0, .inr (10, xF hm h1 h2 h3 0 0 1000))] H := hP
  refine lv_aload_n hx hb dX11_scan_0 rfl (lv_at hl 0 rfl) ?_
  refine lv_iload_n hx hb dX11_scan_1 rfl (lv_at hl 1 rfl) ?_
  have hPc := hP.sub (ws' := [(h0, .inr (10, xF hm h1 h2 h3 0 0 1000))]) [0] rfl
  have hDc : va_D (fun _ => True) ([] : va_W) := nd_0
  have hKc := hK.sub (tys' := []) [] rfl
  have hFc := va_free (wc := []) hD hS hA [] rfl
  refine vx_callX (vx_runV (As := [.int p0]) (rest := []) ⟨hx, hb, hml, hown, hts⟩ (c_X11_listOf l hl0 dC dI h0 hm h1 h2 h3 p0 H.size) (cwV 1 hts hX11_scan rfl rfl rfl (by decide +kernel) ⟨Nat.le_of_ble_eq_true rfl, Nat.le_of_ble_eq_true rfl⟩) ⟨fun a U g mk q => by obtain ⟨q0, q1, qP, qK, qD, qG, qZ⟩ := q; exact ⟨q0, q1, qP, va_K.moved (u := U) (U := U.calling g mk a) (Vm.Alike.refl U.vm) qK, qD, Gw.same (u := U) (U := U.calling g mk a) rfl qG, Gz.moved (u := U) (U := U.calling g mk a) (Vm.Alike.refl U.vm) qZ⟩, va_recv hKc hPc (ci := 10) (q0 := 0) rfl rfl, fun U hU hW => ⟨rfl, by rw [hU], by rw [hU]; exact hPc, va_K.moved hW.alike hKc, nd_0, Gw.warm hW hG, Gz.step hZ hS hFc hU hW.alike⟩⟩ rfl rfl hl.1 rfl (lv_room (Nat.le_of_ble_eq_true rfl)) dX11_scan_2 ⟨Nat.le_of_ble_eq_true rfl, Nat.le_of_ble_eq_true rfl⟩) hS hFc (fun q _ h => hFc q h) (fun E ce q9 u9 t H1 locs ht hvm hpx hBX hz1 hk1 hS hce hcv hcl => ?_)
  exact vx_widen (k := 1) (n := 6) (Nat.le_of_ble_eq_true rfl) (Nat.le_of_ble_eq_true rfl) (vx_out (fun x h => (htab x h).elim) hlocks hce hcv hcl (fun t ht hvm => ⟨(), hpx, hBX, hS.F ht⟩) hS.2.2 (Nat.le_refl _) (Nat.le_refl _))
set_option maxHeartbeats 4000000 in
set_option maxRecDepth 100000 in
theorem c_X11_take (l : Launch) (hl0 : l.stackTraces = false) (dC : Nat → ClassId) (dI : Nat → Nat → Nat) (h0 : Nat) (hm : Nat) (h1 : Nat) (h2 : Nat) (h3 : Nat) (p0 : Int32) (p1 : Int32) (sz : Nat) : vx_Met l yX11_take vsX11_take ({ frames := 20, cells := 1, slots := 6, locals := 600 }) (va_Pc [.ref h0, .int p0, .int p1] (fun U => U.heap.size = sz ∧ va_P (dC, dI) vwCl [(h0, .inr (10, xF hm h1 h2 h3 0 0 1000))] U.heap ∧ va_K (dC, dI) vwCl [] U ∧ va_D (fun _ => True) [] ∧ Gw U ∧ Gz (va_A [] sz) U U.heap)) (fun _ _ _ _ => False) (vx_X (fun _ : Unit => True) (fun E _ _ => E = "java/lang/IndexOutOfBoundsException") (va_A [] sz)) 1 6 (va_A [] sz) := by
  refine vx_ofW (cc := cX11_take) (maxL := 4) (ret := (some .int)) (by decide) rfl ?_
  intro p e s m args below meth c s₁ B hml htab hv
  obtain ⟨rfl, hsz, hP, hK, hD0, hG, hZ⟩ := hv
  have hx := B.exec
  have hb := B.bytes
  have hr := B.returns
  have hts := atoms_spec (ws := vsX11_take) B.pre
  have hown : s.vm.findClass RX11 = some m.cls := findClass_of_methodNamed B.named
  have hlocks := B.notSynchronized
  subst hsz
  have hD := hD0.self (sz := s.heap.size)
  generalize hAe : va_A [] s.heap.size = A at hD hZ ⊢
  have hA : ∀ q : Nat, s.heap.size ≤ q → A q := fun q h => by rw [← hAe]; exact Or.inr h
  generalize hH : s.heap = H at hP ⊢
  have hS : va_S A s.heap H [] := by rw [← hH]; exact va_S.rf
  have hl := lv_entry [.ref h0, .int p0, .int p1] (n := 4) (Nat.le_of_ble_eq_true rfl)
  rw [lg_entry_eq]
  generalize (lg_sl [.ref h0, .int p0, .int p1] ++ List.replicate (4 - (lg_sl [.ref h0, .int p0, .int p1]).length) Slot.unset).toArray = ls at hl ⊢
  have hl : lv_has ls 4 [(0, .ref h0), (1, .int p0), (2, .int p1)] := hl
  have hP : va_P (dC, dI) vwCl [(h0, .inr (10, xF hm h1 h2 h3 0 0 1000))] H := hP
  refine lv_aload_n hx hb dX11_take_0 rfl (lv_at hl 0 rfl) ?_
  refine lv_iload_n hx hb dX11_take_1 rfl (lv_at hl 1 rfl) ?_
  have hPc := hP.sub (ws' := [(h0, .inr (10, xF hm h1 h2 h3 0 0 1000))]) [0] rfl
  have hDc : va_D (fun _ => True) ([] : va_W) := nd_0
  have hKc := hK.sub (tys' := []) [] rfl
  have hFc := va_free (wc := []) hD hS hA [] rfl
  refine vx_callX (vx_runV (As := [.int p0]) (rest := []) ⟨hx, hb, hml, hown, hts⟩ (c_X11_listOf l hl0 dC dI h0 hm h1 h2 h3 p0 H.size) (cwV 1 hts hX11_take rfl rfl rfl (by decide +kernel) ⟨Nat.le_of_ble_eq_true rfl, Nat.le_of_ble_eq_true rfl⟩) ⟨fun a U g mk q => by obtain ⟨q0, q1, qP, qK, qD, qG, qZ⟩ := q; exact ⟨q0, q1, qP, va_K.moved (u := U) (U := U.calling g mk a) (Vm.Alike.refl U.vm) qK, qD, Gw.same (u := U) (U := U.calling g mk a) rfl qG, Gz.moved (u := U) (U := U.calling g mk a) (Vm.Alike.refl U.vm) qZ⟩, va_recv hKc hPc (ci := 10) (q0 := 0) rfl rfl, fun U hU hW => ⟨rfl, by rw [hU], by rw [hU]; exact hPc, va_K.moved hW.alike hKc, nd_0, Gw.warm hW hG, Gz.step hZ hS hFc hU hW.alike⟩⟩ rfl rfl hl.1 rfl (lv_room (Nat.le_of_ble_eq_true rfl)) dX11_take_2 ⟨Nat.le_of_ble_eq_true rfl, Nat.le_of_ble_eq_true rfl⟩) hS hFc (fun q _ h => hFc q h) (fun E ce q9 u9 t H1 locs ht hvm hpx hBX hz1 hk1 hS hce hcv hcl => ?_)
  exact vx_widen (k := 1) (n := 6) (Nat.le_of_ble_eq_true rfl) (Nat.le_of_ble_eq_true rfl) (vx_out (fun x h => (htab x h).elim) hlocks hce hcv hcl (fun t ht hvm => ⟨(), hpx, hBX, hS.F ht⟩) hS.2.2 (Nat.le_refl _) (Nat.le_refl _))
set_option maxHeartbeats 4000000 in
set_option maxRecDepth 100000 in
theorem c_X11_drop (l : Launch) (hl0 : l.stackTraces = false) (dC : Nat → ClassId) (dI : Nat → Nat → Nat) (h0 : Nat) (hm : Nat) (h1 : Nat) (h2 : Nat) (h3 : Nat) (p0 : Int32) (p1 : Int32) (sz : Nat) : vx_Met l yX11_drop vsX11_drop ({ frames := 20, cells := 1, slots := 6, locals := 600 }) (va_Pc [.ref h0, .int p0, .int p1] (fun U => U.heap.size = sz ∧ va_P (dC, dI) vwCl [(h0, .inr (10, xF hm h1 h2 h3 0 0 1000))] U.heap ∧ va_K (dC, dI) vwCl [] U ∧ va_D (fun _ => True) [] ∧ Gw U ∧ Gz (va_A [] sz) U U.heap)) (fun _ _ _ _ => False) (vx_X (fun _ : Unit => True) (fun E _ _ => E = "java/lang/IndexOutOfBoundsException") (va_A [] sz)) 1 6 (va_A [] sz) := by
  refine vx_ofW (cc := cX11_drop) (maxL := 4) (ret := (some .int)) (by decide) rfl ?_
  intro p e s m args below meth c s₁ B hml htab hv
  obtain ⟨rfl, hsz, hP, hK, hD0, hG, hZ⟩ := hv
  have hx := B.exec
  have hb := B.bytes
  have hr := B.returns
  have hts := atoms_spec (ws := vsX11_drop) B.pre
  have hown : s.vm.findClass RX11 = some m.cls := findClass_of_methodNamed B.named
  have hlocks := B.notSynchronized
  subst hsz
  have hD := hD0.self (sz := s.heap.size)
  generalize hAe : va_A [] s.heap.size = A at hD hZ ⊢
  have hA : ∀ q : Nat, s.heap.size ≤ q → A q := fun q h => by rw [← hAe]; exact Or.inr h
  generalize hH : s.heap = H at hP ⊢
  have hS : va_S A s.heap H [] := by rw [← hH]; exact va_S.rf
  have hl := lv_entry [.ref h0, .int p0, .int p1] (n := 4) (Nat.le_of_ble_eq_true rfl)
  rw [lg_entry_eq]
  generalize (lg_sl [.ref h0, .int p0, .int p1] ++ List.replicate (4 - (lg_sl [.ref h0, .int p0, .int p1]).length) Slot.unset).toArray = ls at hl ⊢
  have hl : lv_has ls 4 [(0, .ref h0), (1, .int p0), (2, .int p1)] := hl
  have hP : va_P (dC, dI) vwCl [(h0, .inr (10, xF hm h1 h2 h3 0 0 1000))] H := hP
  refine lv_aload_n hx hb dX11_drop_0 rfl (lv_at hl 0 rfl) ?_
  refine lv_iload_n hx hb dX11_drop_1 rfl (lv_at hl 1 rfl) ?_
  have hPc := hP.sub (ws' := [(h0, .inr (10, xF hm h1 h2 h3 0 0 1000))]) [0] rfl
  have hDc : va_D (fun _ => True) ([] : va_W) := nd_0
  have hKc := hK.sub (tys' := []) [] rfl
  have hFc := va_free (wc := []) hD hS hA [] rfl
  refine vx_callX (vx_runV (As := [.int p0]) (rest := []) ⟨hx, hb, hml, hown, hts⟩ (c_X11_listOf l hl0 dC dI h0 hm h1 h2 h3 p0 H.size) (cwV 1 hts hX11_drop rfl rfl rfl (by decide +kernel) ⟨Nat.le_of_ble_eq_true rfl, Nat.le_of_ble_eq_true rfl⟩) ⟨fun a U g mk q => by obtain ⟨q0, q1, qP, qK, qD, qG, qZ⟩ := q; exact ⟨q0, q1, qP, va_K.moved (u := U) (U := U.calling g mk a) (Vm.Alike.refl U.vm) qK, qD, Gw.same (u := U) (U := U.calling g mk a) rfl qG, Gz.moved (u := U) (U := U.calling g mk a) (Vm.Alike.refl U.vm) qZ⟩, va_recv hKc hPc (ci := 10) (q0 := 0) rfl rfl, fun U hU hW => ⟨rfl, by rw [hU], by rw [hU]; exact hPc, va_K.moved hW.alike hKc, nd_0, Gw.warm hW hG, Gz.step hZ hS hFc hU hW.alike⟩⟩ rfl rfl hl.1 rfl (lv_room (Nat.le_of_ble_eq_true rfl)) dX11_drop_2 ⟨Nat.le_of_ble_eq_true rfl, Nat.le_of_ble_eq_true rfl⟩) hS hFc (fun q _ h => hFc q h) (fun E ce q9 u9 t H1 locs ht hvm hpx hBX hz1 hk1 hS hce hcv hcl => ?_)
  exact vx_widen (k := 1) (n := 6) (Nat.le_of_ble_eq_true rfl) (Nat.le_of_ble_eq_true rfl) (vx_out (fun x h => (htab x h).elim) hlocks hce hcv hcl (fun t ht hvm => ⟨(), hpx, hBX, hS.F ht⟩) hS.2.2 (Nat.le_refl _) (Nat.le_refl _))
set_option maxHeartbeats 4000000 in
set_option maxRecDepth 100000 in
theorem c_X11_keep (l : Launch) (hl0 : l.stackTraces = false) (dC : Nat → ClassId) (dI : Nat → Nat → Nat) (h0 : Nat) (hm : Nat) (h1 : Nat) (h2 : Nat) (h3 : Nat) (p0 : Int32) (p1 : Int32) (p2 : Int64) (sz : Nat) : vx_Met l yX11_keep vsX11_keep ({ frames := 20, cells := 1, slots := 6, locals := 600 }) (va_Pc [.ref h0, .int p0, .int p1, .long p2] (fun U => U.heap.size = sz ∧ va_P (dC, dI) vwCl [(h0, .inr (10, xF hm h1 h2 h3 0 0 1000))] U.heap ∧ va_K (dC, dI) vwCl [] U ∧ va_D (fun _ => True) [] ∧ Gw U ∧ Gz (va_A [] sz) U U.heap)) (fun _ _ _ _ => False) (vx_X (fun _ : Unit => True) (fun E _ _ => E = "java/lang/IndexOutOfBoundsException") (va_A [] sz)) 1 6 (va_A [] sz) := by
  refine vx_ofW (cc := cX11_keep) (maxL := 6) (ret := (some .int)) (by decide) rfl ?_
  intro p e s m args below meth c s₁ B hml htab hv
  obtain ⟨rfl, hsz, hP, hK, hD0, hG, hZ⟩ := hv
  have hx := B.exec
  have hb := B.bytes
  have hr := B.returns
  have hts := atoms_spec (ws := vsX11_keep) B.pre
  have hown : s.vm.findClass RX11 = some m.cls := findClass_of_methodNamed B.named
  have hlocks := B.notSynchronized
  subst hsz
  have hD := hD0.self (sz := s.heap.size)
  generalize hAe : va_A [] s.heap.size = A at hD hZ ⊢
  have hA : ∀ q : Nat, s.heap.size ≤ q → A q := fun q h => by rw [← hAe]; exact Or.inr h
  generalize hH : s.heap = H at hP ⊢
  have hS : va_S A s.heap H [] := by rw [← hH]; exact va_S.rf
  have hl := lv_entry [.ref h0, .int p0, .int p1, .long p2] (n := 6) (Nat.le_of_ble_eq_true rfl)
  rw [lg_entry_eq]
  generalize (lg_sl [.ref h0, .int p0, .int p1, .long p2] ++ List.replicate (6 - (lg_sl [.ref h0, .int p0, .int p1, .long p2]).length) Slot.unset).toArray = ls at hl ⊢
  have hl : lv_has ls 6 [(0, .ref h0), (1, .int p0), (2, .int p1), (3, .long p2)] := hl
  have hP : va_P (dC, dI) vwCl [(h0, .inr (10, xF hm h1 h2 h3 0 0 1000))] H := hP
  refine lv_aload_n hx hb dX11_keep_0 rfl (lv_at hl 0 rfl) ?_
  refine lv_iload_n hx hb dX11_keep_1 rfl (lv_at hl 1 rfl) ?_
  have hPc := hP.sub (ws' := [(h0, .inr (10, xF hm h1 h2 h3 0 0 1000))]) [0] rfl
  have hDc : va_D (fun _ => True) ([] : va_W) := nd_0
  have hKc := hK.sub (tys' := []) [] rfl
  have hFc := va_free (wc := []) hD hS hA [] rfl
  refine vx_callX (vx_runV (As := [.int p0]) (rest := []) ⟨hx, hb, hml, hown, hts⟩ (c_X11_listOf l hl0 dC dI h0 hm h1 h2 h3 p0 H.size) (cwV 1 hts hX11_keep rfl rfl rfl (by decide +kernel) ⟨Nat.le_of_ble_eq_true rfl, Nat.le_of_ble_eq_true rfl⟩) ⟨fun a U g mk q => by obtain ⟨q0, q1, qP, qK, qD, qG, qZ⟩ := q; exact ⟨q0, q1, qP, va_K.moved (u := U) (U := U.calling g mk a) (Vm.Alike.refl U.vm) qK, qD, Gw.same (u := U) (U := U.calling g mk a) rfl qG, Gz.moved (u := U) (U := U.calling g mk a) (Vm.Alike.refl U.vm) qZ⟩, va_recv hKc hPc (ci := 10) (q0 := 0) rfl rfl, fun U hU hW => ⟨rfl, by rw [hU], by rw [hU]; exact hPc, va_K.moved hW.alike hKc, nd_0, Gw.warm hW hG, Gz.step hZ hS hFc hU hW.alike⟩⟩ rfl rfl hl.1 rfl (lv_room (Nat.le_of_ble_eq_true rfl)) dX11_keep_2 ⟨Nat.le_of_ble_eq_true rfl, Nat.le_of_ble_eq_true rfl⟩) hS hFc (fun q _ h => hFc q h) (fun E ce q9 u9 t H1 locs ht hvm hpx hBX hz1 hk1 hS hce hcv hcl => ?_)
  exact vx_widen (k := 1) (n := 6) (Nat.le_of_ble_eq_true rfl) (Nat.le_of_ble_eq_true rfl) (vx_out (fun x h => (htab x h).elim) hlocks hce hcv hcl (fun t ht hvm => ⟨(), hpx, hBX, hS.F ht⟩) hS.2.2 (Nat.le_refl _) (Nat.le_refl _))
set_option maxHeartbeats 4000000 in
set_option maxRecDepth 100000 in
theorem c_X11_during (l : Launch) (hl0 : l.stackTraces = false) (dC : Nat → ClassId) (dI : Nat → Nat → Nat) (h0 : Nat) (hm : Nat) (h1 : Nat) (h2 : Nat) (h3 : Nat) (p0 : Int32) (p1 : Int32) (p2 : Int64) (sz : Nat) : vx_Met l yX11_during vsX11_during ({ frames := 20, cells := 1, slots := 6, locals := 600 }) (va_Pc [.ref h0, .int p0, .int p1, .long p2] (fun U => U.heap.size = sz ∧ va_P (dC, dI) vwCl [(h0, .inr (10, xF hm h1 h2 h3 0 0 1000))] U.heap ∧ va_K (dC, dI) vwCl [] U ∧ va_D (fun _ => True) [] ∧ Gw U ∧ Gz (va_A [] sz) U U.heap)) (fun _ _ _ _ => False) (vx_X (fun _ : Unit => True) (fun E _ _ => E = "java/lang/IndexOutOfBoundsException") (va_A [] sz)) 1 6 (va_A [] sz) := by
  refine vx_ofW (cc := cX11_during) (maxL := 6) (ret := (some .int)) (by decide) rfl ?_
  intro p e s m args below meth c s₁ B hml htab hv
  obtain ⟨rfl, hsz, hP, hK, hD0, hG, hZ⟩ := hv
  have hx := B.exec
  have hb := B.bytes
  have hr := B.returns
  have hts := atoms_spec (ws := vsX11_during) B.pre
  have hown : s.vm.findClass RX11 = some m.cls := findClass_of_methodNamed B.named
  have hlocks := B.notSynchronized
  subst hsz
  have hD := hD0.self (sz := s.heap.size)
  generalize hAe : va_A [] s.heap.size = A at hD hZ ⊢
  have hA : ∀ q : Nat, s.heap.size ≤ q → A q := fun q h => by rw [← hAe]; exact Or.inr h
  generalize hH : s.heap = H at hP ⊢
  have hS : va_S A s.heap H [] := by rw [← hH]; exact va_S.rf
  have hl := lv_entry [.ref h0, .int p0, .int p1, .long p2] (n := 6) (Nat.le_of_ble_eq_true rfl)
  rw [lg_entry_eq]
  generalize (lg_sl [.ref h0, .int p0, .int p1, .long p2] ++ List.replicate (6 - (lg_sl [.ref h0, .int p0, .int p1, .long p2]).length) Slot.unset).toArray = ls at hl ⊢
  have hl : lv_has ls 6 [(0, .ref h0), (1, .int p0), (2, .int p1), (3, .long p2)] := hl
  have hP : va_P (dC, dI) vwCl [(h0, .inr (10, xF hm h1 h2 h3 0 0 1000))] H := hP
  refine lv_aload_n hx hb dX11_during_0 rfl (lv_at hl 0 rfl) ?_
  refine lv_iload_n hx hb dX11_during_1 rfl (lv_at hl 1 rfl) ?_
  have hPc := hP.sub (ws' := [(h0, .inr (10, xF hm h1 h2 h3 0 0 1000))]) [0] rfl
  have hDc : va_D (fun _ => True) ([] : va_W) := nd_0
  have hKc := hK.sub (tys' := []) [] rfl
  have hFc := va_free (wc := []) hD hS hA [] rfl
  refine vx_callX (vx_runV (As := [.int p0]) (rest := []) ⟨hx, hb, hml, hown, hts⟩ (c_X11_listOf l hl0 dC dI h0 hm h1 h2 h3 p0 H.size) (cwV 1 hts hX11_during rfl rfl rfl (by decide +kernel) ⟨Nat.le_of_ble_eq_true rfl, Nat.le_of_ble_eq_true rfl⟩) ⟨fun a U g mk q => by obtain ⟨q0, q1, qP, qK, qD, qG, qZ⟩ := q; exact ⟨q0, q1, qP, va_K.moved (u := U) (U := U.calling g mk a) (Vm.Alike.refl U.vm) qK, qD, Gw.same (u := U) (U := U.calling g mk a) rfl qG, Gz.moved (u := U) (U := U.calling g mk a) (Vm.Alike.refl U.vm) qZ⟩, va_recv hKc hPc (ci := 10) (q0 := 0) rfl rfl, fun U hU hW => ⟨rfl, by rw [hU], by rw [hU]; exact hPc, va_K.moved hW.alike hKc, nd_0, Gw.warm hW hG, Gz.step hZ hS hFc hU hW.alike⟩⟩ rfl rfl hl.1 rfl (lv_room (Nat.le_of_ble_eq_true rfl)) dX11_during_2 ⟨Nat.le_of_ble_eq_true rfl, Nat.le_of_ble_eq_true rfl⟩) hS hFc (fun q _ h => hFc q h) (fun E ce q9 u9 t H1 locs ht hvm hpx hBX hz1 hk1 hS hce hcv hcl => ?_)
  exact vx_widen (k := 1) (n := 6) (Nat.le_of_ble_eq_true rfl) (Nat.le_of_ble_eq_true rfl) (vx_out (fun x h => (htab x h).elim) hlocks hce hcv hcl (fun t ht hvm => ⟨(), hpx, hBX, hS.F ht⟩) hS.2.2 (Nat.le_refl _) (Nat.le_refl _))
set_option maxHeartbeats 4000000 in
set_option maxRecDepth 100000 in
theorem c_X11_after (l : Launch) (hl0 : l.stackTraces = false) (dC : Nat → ClassId) (dI : Nat → Nat → Nat) (h0 : Nat) (hm : Nat) (h1 : Nat) (h2 : Nat) (h3 : Nat) (p0 : Int32) (p1 : Int32) (p2 : Int64) (sz : Nat) : vx_Met l yX11_after vsX11_after ({ frames := 20, cells := 1, slots := 6, locals := 600 }) (va_Pc [.ref h0, .int p0, .int p1, .long p2] (fun U => U.heap.size = sz ∧ va_P (dC, dI) vwCl [(h0, .inr (10, xF hm h1 h2 h3 0 0 1000))] U.heap ∧ va_K (dC, dI) vwCl [] U ∧ va_D (fun _ => True) [] ∧ Gw U ∧ Gz (va_A [] sz) U U.heap)) (fun _ _ _ _ => False) (vx_X (fun _ : Unit => True) (fun E _ _ => E = "java/lang/IndexOutOfBoundsException") (va_A [] sz)) 1 6 (va_A [] sz) := by
  refine vx_ofW (cc := cX11_after) (maxL := 6) (ret := (some .int)) (by decide) rfl ?_
  intro p e s m args below meth c s₁ B hml htab hv
  obtain ⟨rfl, hsz, hP, hK, hD0, hG, hZ⟩ := hv
  have hx := B.exec
  have hb := B.bytes
  have hr := B.returns
  have hts := atoms_spec (ws := vsX11_after) B.pre
  have hown : s.vm.findClass RX11 = some m.cls := findClass_of_methodNamed B.named
  have hlocks := B.notSynchronized
  subst hsz
  have hD := hD0.self (sz := s.heap.size)
  generalize hAe : va_A [] s.heap.size = A at hD hZ ⊢
  have hA : ∀ q : Nat, s.heap.size ≤ q → A q := fun q h => by rw [← hAe]; exact Or.inr h
  generalize hH : s.heap = H at hP ⊢
  have hS : va_S A s.heap H [] := by rw [← hH]; exact va_S.rf
  have hl := lv_entry [.ref h0, .int p0, .int p1, .long p2] (n := 6) (Nat.le_of_ble_eq_true rfl)
  rw [lg_entry_eq]
  generalize (lg_sl [.ref h0, .int p0, .int p1, .long p2] ++ List.replicate (6 - (lg_sl [.ref h0, .int p0, .int p1, .long p2]).length) Slot.unset).toArray = ls at hl ⊢
  have hl : lv_has ls 6 [(0, .ref h0), (1, .int p0), (2, .int p1), (3, .long p2)] := hl
  have hP : va_P (dC, dI) vwCl [(h0, .inr (10, xF hm h1 h2 h3 0 0 1000))] H := hP
  refine lv_aload_n hx hb dX11_after_0 rfl (lv_at hl 0 rfl) ?_
  refine lv_iload_n hx hb dX11_after_1 rfl (lv_at hl 1 rfl) ?_
  have hPc := hP.sub (ws' := [(h0, .inr (10, xF hm h1 h2 h3 0 0 1000))]) [0] rfl
  have hDc : va_D (fun _ => True) ([] : va_W) := nd_0
  have hKc := hK.sub (tys' := []) [] rfl
  have hFc := va_free (wc := []) hD hS hA [] rfl
  refine vx_callX (vx_runV (As := [.int p0]) (rest := []) ⟨hx, hb, hml, hown, hts⟩ (c_X11_listOf l hl0 dC dI h0 hm h1 h2 h3 p0 H.size) (cwV 1 hts hX11_after rfl rfl rfl (by decide +kernel) ⟨Nat.le_of_ble_eq_true rfl, Nat.le_of_ble_eq_true rfl⟩) ⟨fun a U g mk q => by obtain ⟨q0, q1, qP, qK, qD, qG, qZ⟩ := q; exact ⟨q0, q1, qP, va_K.moved (u := U) (U := U.calling g mk a) (Vm.Alike.refl U.vm) qK, qD, Gw.same (u := U) (U := U.calling g mk a) rfl qG, Gz.moved (u := U) (U := U.calling g mk a) (Vm.Alike.refl U.vm) qZ⟩, va_recv hKc hPc (ci := 10) (q0 := 0) rfl rfl, fun U hU hW => ⟨rfl, by rw [hU], by rw [hU]; exact hPc, va_K.moved hW.alike hKc, nd_0, Gw.warm hW hG, Gz.step hZ hS hFc hU hW.alike⟩⟩ rfl rfl hl.1 rfl (lv_room (Nat.le_of_ble_eq_true rfl)) dX11_after_2 ⟨Nat.le_of_ble_eq_true rfl, Nat.le_of_ble_eq_true rfl⟩) hS hFc (fun q _ h => hFc q h) (fun E ce q9 u9 t H1 locs ht hvm hpx hBX hz1 hk1 hS hce hcv hcl => ?_)
  exact vx_widen (k := 1) (n := 6) (Nat.le_of_ble_eq_true rfl) (Nat.le_of_ble_eq_true rfl) (vx_out (fun x h => (htab x h).elim) hlocks hce hcv hcl (fun t ht hvm => ⟨(), hpx, hBX, hS.F ht⟩) hS.2.2 (Nat.le_refl _) (Nat.le_refl _))
set_option maxHeartbeats 4000000 in
set_option maxRecDepth 100000 in
theorem c_X11_join (l : Launch) (hl0 : l.stackTraces = false) (dC : Nat → ClassId) (dI : Nat → Nat → Nat) (h0 : Nat) (hm : Nat) (h1 : Nat) (h2 : Nat) (h3 : Nat) (p0 : Int32) (p1 : Int32) (sz : Nat) : vx_Met l yX11_join vsX11_join ({ frames := 20, cells := 1, slots := 6, locals := 600 }) (va_Pc [.ref h0, .int p0, .int p1] (fun U => U.heap.size = sz ∧ va_P (dC, dI) vwCl [(h0, .inr (10, xF hm h1 h2 h3 0 0 1000))] U.heap ∧ va_K (dC, dI) vwCl [] U ∧ va_D (fun _ => True) [] ∧ Gw U ∧ Gz (va_A [] sz) U U.heap)) (fun _ _ _ _ => False) (vx_X (fun _ : Unit => True) (fun E _ _ => E = "java/lang/IndexOutOfBoundsException") (va_A [] sz)) 1 6 (va_A [] sz) := by
  refine vx_ofW (cc := cX11_join) (maxL := 5) (ret := (some .int)) (by decide) rfl ?_
  intro p e s m args below meth c s₁ B hml htab hv
  obtain ⟨rfl, hsz, hP, hK, hD0, hG, hZ⟩ := hv
  have hx := B.exec
  have hb := B.bytes
  have hr := B.returns
  have hts := atoms_spec (ws := vsX11_join) B.pre
  have hown : s.vm.findClass RX11 = some m.cls := findClass_of_methodNamed B.named
  have hlocks := B.notSynchronized
  subst hsz
  have hD := hD0.self (sz := s.heap.size)
  generalize hAe : va_A [] s.heap.size = A at hD hZ ⊢
  have hA : ∀ q : Nat, s.heap.size ≤ q → A q := fun q h => by rw [← hAe]; exact Or.inr h
  generalize hH : s.heap = H at hP ⊢
  have hS : va_S A s.heap H [] := by rw [← hH]; exact va_S.rf
  have hl := lv_entry [.ref h0, .int p0, .int p1] (n := 5) (Nat.le_of_ble_eq_true rfl)
  rw [lg_entry_eq]
  generalize (lg_sl [.ref h0, .int p0, .int p1] ++ List.replicate (5 - (lg_sl [.ref h0, .int p0, .int p1]).length) Slot.unset).toArray = ls at hl ⊢
  have hl : lv_has ls 5 [(0, .ref h0), (1, .int p0), (2, .int p1)] := hl
  have hP : va_P (dC, dI) vwCl [(h0, .inr (10, xF hm h1 h2 h3 0 0 1000))] H := hP
  refine lv_aload_n hx hb dX11_join_0 rfl (lv_at hl 0 rfl) ?_
  refine lv_iload_n hx hb dX11_join_1 rfl (lv_at hl 1 rfl) ?_
  have hPc := hP.sub (ws' := [(h0, .inr (10, xF hm h1 h2 h3 0 0 1000))]) [0] rfl
  have hDc : va_D (fun _ => True) ([] : va_W) := nd_0
  have hKc := hK.sub (tys' := []) [] rfl
  have hFc := va_free (wc := []) hD hS hA [] rfl
  refine vx_callX (vx_runV (As := [.int p0]) (rest := []) ⟨hx, hb, hml, hown, hts⟩ (c_X11_listOf l hl0 dC dI h0 hm h1 h2 h3 p0 H.size) (cwV 1 hts hX11_join rfl rfl rfl (by decide +kernel) ⟨Nat.le_of_ble_eq_true rfl, Nat.le_of_ble_eq_true rfl⟩) ⟨fun a U g mk q => by obtain ⟨q0, q1, qP, qK, qD, qG, qZ⟩ := q; exact ⟨q0, q1, qP, va_K.moved (u := U) (U := U.calling g mk a) (Vm.Alike.refl U.vm) qK, qD, Gw.same (u := U) (U := U.calling g mk a) rfl qG, Gz.moved (u := U) (U := U.calling g mk a) (Vm.Alike.refl U.vm) qZ⟩, va_recv hKc hPc (ci := 10) (q0 := 0) rfl rfl, fun U hU hW => ⟨rfl, by rw [hU], by rw [hU]; exact hPc, va_K.moved hW.alike hKc, nd_0, Gw.warm hW hG, Gz.step hZ hS hFc hU hW.alike⟩⟩ rfl rfl hl.1 rfl (lv_room (Nat.le_of_ble_eq_true rfl)) dX11_join_2 ⟨Nat.le_of_ble_eq_true rfl, Nat.le_of_ble_eq_true rfl⟩) hS hFc (fun q _ h => hFc q h) (fun E ce q9 u9 t H1 locs ht hvm hpx hBX hz1 hk1 hS hce hcv hcl => ?_)
  exact vx_widen (k := 1) (n := 6) (Nat.le_of_ble_eq_true rfl) (Nat.le_of_ble_eq_true rfl) (vx_out (fun x h => (htab x h).elim) hlocks hce hcv hcl (fun t ht hvm => ⟨(), hpx, hBX, hS.F ht⟩) hS.2.2 (Nat.le_refl _) (Nat.le_refl _))
set_option maxHeartbeats 4000000 in
set_option maxRecDepth 100000 in
theorem c_X11_other (l : Launch) (hl0 : l.stackTraces = false) (dC : Nat → ClassId) (dI : Nat → Nat → Nat) (h0 : Nat) (hm : Nat) (h1 : Nat) (h2 : Nat) (h3 : Nat) (p0 : Int32) (p1 : Int32) (sz : Nat) : vx_Met l yX11_other vsX11_other ({ frames := 20, cells := 1, slots := 6, locals := 600 }) (va_Pc [.ref h0, .int p0, .int p1] (fun U => U.heap.size = sz ∧ va_P (dC, dI) vwCl [(h0, .inr (10, xF hm h1 h2 h3 0 0 1000))] U.heap ∧ va_K (dC, dI) vwCl [] U ∧ va_D (fun _ => True) [] ∧ Gw U ∧ Gz (va_A [] sz) U U.heap)) (fun _ _ _ _ => False) (vx_X (fun _ : Unit => True) (fun E _ _ => E = "java/lang/IndexOutOfBoundsException") (va_A [] sz)) 1 6 (va_A [] sz) := by
  refine vx_ofW (cc := cX11_other) (maxL := 4) (ret := (some .int)) (by decide) rfl ?_
  intro p e s m args below meth c s₁ B hml htab hv
  obtain ⟨rfl, hsz, hP, hK, hD0, hG, hZ⟩ := hv
  have hx := B.exec
  have hb := B.bytes
  have hr := B.returns
  have hts := atoms_spec (ws := vsX11_other) B.pre
  have hown : s.vm.findClass RX11 = some m.cls := findClass_of_methodNamed B.named
  have hlocks := B.notSynchronized
  subst hsz
  have hD := hD0.self (sz := s.heap.size)
  generalize hAe : va_A [] s.heap.size = A at hD hZ ⊢
  have hA : ∀ q : Nat, s.heap.size ≤ q → A q := fun q h => by rw [← hAe]; exact Or.inr h
  generalize hH : s.heap = H at hP ⊢
  have hS : va_S A s.heap H [] := by rw [← hH]; exact va_S.rf
  have hl := lv_entry [.ref h0, .int p0, .int p1] (n := 4) (Nat.le_of_ble_eq_true rfl)
  rw [lg_entry_eq]
  generalize (lg_sl [.ref h0, .int p0, .int p1] ++ List.replicate (4 - (lg_sl [.ref h0, .int p0, .int p1]).length) Slot.unset).toArray = ls at hl ⊢
  have hl : lv_has ls 4 [(0, .ref h0), (1, .int p0), (2, .int p1)] := hl
  have hP : va_P (dC, dI) vwCl [(h0, .inr (10, xF hm h1 h2 h3 0 0 1000))] H := hP
  refine lv_aload_n hx hb dX11_other_0 rfl (lv_at hl 0 rfl) ?_
  refine lv_iload_n hx hb dX11_other_1 rfl (lv_at hl 1 rfl) ?_
  have hPc := hP.sub (ws' := [(h0, .inr (10, xF hm h1 h2 h3 0 0 1000))]) [0] rfl
  have hDc : va_D (fun _ => True) ([] : va_W) := nd_0
  have hKc := hK.sub (tys' := []) [] rfl
  have hFc := va_free (wc := []) hD hS hA [] rfl
  refine vx_callX (vx_runV (As := [.int p0]) (rest := []) ⟨hx, hb, hml, hown, hts⟩ (c_X11_listOf l hl0 dC dI h0 hm h1 h2 h3 p0 H.size) (cwV 1 hts hX11_other rfl rfl rfl (by decide +kernel) ⟨Nat.le_of_ble_eq_true rfl, Nat.le_of_ble_eq_true rfl⟩) ⟨fun a U g mk q => by obtain ⟨q0, q1, qP, qK, qD, qG, qZ⟩ := q; exact ⟨q0, q1, qP, va_K.moved (u := U) (U := U.calling g mk a) (Vm.Alike.refl U.vm) qK, qD, Gw.same (u := U) (U := U.calling g mk a) rfl qG, Gz.moved (u := U) (U := U.calling g mk a) (Vm.Alike.refl U.vm) qZ⟩, va_recv hKc hPc (ci := 10) (q0 := 0) rfl rfl, fun U hU hW => ⟨rfl, by rw [hU], by rw [hU]; exact hPc, va_K.moved hW.alike hKc, nd_0, Gw.warm hW hG, Gz.step hZ hS hFc hU hW.alike⟩⟩ rfl rfl hl.1 rfl (lv_room (Nat.le_of_ble_eq_true rfl)) dX11_other_2 ⟨Nat.le_of_ble_eq_true rfl, Nat.le_of_ble_eq_true rfl⟩) hS hFc (fun q _ h => hFc q h) (fun E ce q9 u9 t H1 locs ht hvm hpx hBX hz1 hk1 hS hce hcv hcl => ?_)
  exact vx_widen (k := 1) (n := 6) (Nat.le_of_ble_eq_true rfl) (Nat.le_of_ble_eq_true rfl) (vx_out (fun x h => (htab x h).elim) hlocks hce hcv hcl (fun t ht hvm => ⟨(), hpx, hBX, hS.F ht⟩) hS.2.2 (Nat.le_refl _) (Nat.le_refl _))
set_option maxHeartbeats 4000000 in
set_option maxRecDepth 100000 in
theorem c_X11_at (l : Launch) (hl0 : l.stackTraces = false) (dC : Nat → ClassId) (dI : Nat → Nat → Nat) (h0 : Nat) (hm : Nat) (h1 : Nat) (h2 : Nat) (h3 : Nat) (p0 : Int32) (p1 : Int32) (sz : Nat) : vx_Met l yX11_at vsX11_at ({ frames := 20, cells := 1, slots := 6, locals := 600 }) (va_Pc [.ref h0, .int p0, .int p1] (fun U => U.heap.size = sz ∧ va_P (dC, dI) vwCl [(h0, .inr (10, xF hm h1 h2 h3 0 0 1000))] U.heap ∧ va_K (dC, dI) vwCl [] U ∧ va_D (fun _ => True) [] ∧ Gw U ∧ Gz (va_A [] sz) U U.heap)) (fun _ _ _ _ => False) (vx_X (fun _ : Unit => True) (fun E _ _ => E = "java/lang/IndexOutOfBoundsException") (va_A [] sz)) 1 6 (va_A [] sz) := by
  refine vx_ofW (cc := cX11_at) (maxL := 6) (ret := (some .long)) (by decide) rfl ?_
  intro p e s m args below meth c s₁ B hml htab hv
  obtain ⟨rfl, hsz, hP, hK, hD0, hG, hZ⟩ := hv
  have hx := B.exec
  have hb := B.bytes
  have hr := B.returns
  have hts := atoms_spec (ws := vsX11_at) B.pre
  have hown : s.vm.findClass RX11 = some m.cls := findClass_of_methodNamed B.named
  have hlocks := B.notSynchronized
  subst hsz
  have hD := hD0.self (sz := s.heap.size)
  generalize hAe : va_A [] s.heap.size = A at hD hZ ⊢
  have hA : ∀ q : Nat, s.heap.size ≤ q → A q := fun q h => by rw [← hAe]; exact Or.inr h
  generalize hH : s.heap = H at hP ⊢
  have hS : va_S A s.heap H [] := by rw [← hH]; exact va_S.rf
  have hl := lv_entry [.ref h0, .int p0, .int p1] (n := 6) (Nat.le_of_ble_eq_true rfl)
  rw [lg_entry_eq]
  generalize (lg_sl [.ref h0, .int p0, .int p1] ++ List.replicate (6 - (lg_sl [.ref h0, .int p0, .int p1]).length) Slot.unset).toArray = ls at hl ⊢
  have hl : lv_has ls 6 [(0, .ref h0), (1, .int p0), (2, .int p1)] := hl
  have hP : va_P (dC, dI) vwCl [(h0, .inr (10, xF hm h1 h2 h3 0 0 1000))] H := hP
  refine lv_aload_n hx hb dX11_at_0 rfl (lv_at hl 0 rfl) ?_
  refine lv_iload_n hx hb dX11_at_1 rfl (lv_at hl 1 rfl) ?_
  have hPc := hP.sub (ws' := [(h0, .inr (10, xF hm h1 h2 h3 0 0 1000))]) [0] rfl
  have hDc : va_D (fun _ => True) ([] : va_W) := nd_0
  have hKc := hK.sub (tys' := []) [] rfl
  have hFc := va_free (wc := []) hD hS hA [] rfl
  refine vx_callX (vx_runV (As := [.int p0]) (rest := []) ⟨hx, hb, hml, hown, hts⟩ (c_X11_listOf l hl0 dC dI h0 hm h1 h2 h3 p0 H.size) (cwV 1 hts hX11_at rfl rfl rfl (by decide +kernel) ⟨Nat.le_of_ble_eq_true rfl, Nat.le_of_ble_eq_true rfl⟩) ⟨fun a U g mk q => by obtain ⟨q0, q1, qP, qK, qD, qG, qZ⟩ := q; exact ⟨q0, q1, qP, va_K.moved (u := U) (U := U.calling g mk a) (Vm.Alike.refl U.vm) qK, qD, Gw.same (u := U) (U := U.calling g mk a) rfl qG, Gz.moved (u := U) (U := U.calling g mk a) (Vm.Alike.refl U.vm) qZ⟩, va_recv hKc hPc (ci := 10) (q0 := 0) rfl rfl, fun U hU hW => ⟨rfl, by rw [hU], by rw [hU]; exact hPc, va_K.moved hW.alike hKc, nd_0, Gw.warm hW hG, Gz.step hZ hS hFc hU hW.alike⟩⟩ rfl rfl hl.1 rfl (lv_room (Nat.le_of_ble_eq_true rfl)) dX11_at_2 ⟨Nat.le_of_ble_eq_true rfl, Nat.le_of_ble_eq_true rfl⟩) hS hFc (fun q _ h => hFc q h) (fun E ce q9 u9 t H1 locs ht hvm hpx hBX hz1 hk1 hS hce hcv hcl => ?_)
  exact vx_widen (k := 1) (n := 6) (Nat.le_of_ble_eq_true rfl) (Nat.le_of_ble_eq_true rfl) (vx_out (fun x h => (htab x h).elim) hlocks hce hcv hcl (fun t ht hvm => ⟨(), hpx, hBX, hS.F ht⟩) hS.2.2 (Nat.le_refl _) (Nat.le_refl _))
set_option maxHeartbeats 4000000 in
set_option maxRecDepth 100000 in
theorem c_X11_size (l : Launch) (hl0 : l.stackTraces = false) (dC : Nat → ClassId) (dI : Nat → Nat → Nat) (h0 : Nat) (hm : Nat) (h1 : Nat) (h2 : Nat) (h3 : Nat) (p0 : Int32) (sz : Nat) : vx_Met l yX11_size vsX11_size ({ frames := 20, cells := 1, slots := 6, locals := 600 }) (va_Pc [.ref h0, .int p0] (fun U => U.heap.size = sz ∧ va_P (dC, dI) vwCl [(h0, .inr (10, xF hm h1 h2 h3 0 0 1000))] U.heap ∧ va_K (dC, dI) vwCl [] U ∧ va_D (fun _ => True) [] ∧ Gw U ∧ Gz (va_A [] sz) U U.heap)) (fun _ _ _ _ => False) (vx_X (fun _ : Unit => True) (fun E _ _ => E = "java/lang/IndexOutOfBoundsException") (va_A [] sz)) 1 6 (va_A [] sz) := by
  refine vx_ofW (cc := cX11_size) (maxL := 4) (ret := (some .long)) (by decide) rfl ?_
  intro p e s m args below meth c s₁ B hml htab hv
  obtain ⟨rfl, hsz, hP, hK, hD0, hG, hZ⟩ := hv
  have hx := B.exec
  have hb := B.bytes
  have hr := B.returns
  have hts := atoms_spec (ws := vsX11_size) B.pre
  have hown : s.vm.findClass RX11 = some m.cls := findClass_of_methodNamed B.named
  have hlocks := B.notSynchronized
  subst hsz
  have hD := hD0.self (sz := s.heap.size)
  generalize hAe : va_A [] s.heap.size = A at hD hZ ⊢
  have hA : ∀ q : Nat, s.heap.size ≤ q → A q := fun q h => by rw [← hAe]; exact Or.inr h
  generalize hH : s.heap = H at hP ⊢
  have hS : va_S A s.heap H [] := by rw [← hH]; exact va_S.rf
  have hl := lv_entry [.ref h0, .int p0] (n := 4) (Nat.le_of_ble_eq_true rfl)
  rw [lg_entry_eq]
  generalize (lg_sl [.ref h0, .int p0] ++ List.replicate (4 - (lg_sl [.ref h0, .int p0]).length) Slot.unset).toArray = ls at hl ⊢
  have hl : lv_has ls 4 [(0, .ref h0), (1, .int p0)] := hl
  have hP : va_P (dC, dI) vwCl [(h0, .inr (10, xF hm h1 h2 h3 0 0 1000))] H := hP
  refine lv_aload_n hx hb dX11_size_0 rfl (lv_at hl 0 rfl) ?_
  refine lv_iload_n hx hb dX11_size_1 rfl (lv_at hl 1 rfl) ?_
  have hPc := hP.sub (ws' := [(h0, .inr (10, xF hm h1 h2 h3 0 0 1000))]) [0] rfl
  have hDc : va_D (fun _ => True) ([] : va_W) := nd_0
  have hKc := hK.sub (tys' := []) [] rfl
  have hFc := va_free (wc := []) hD hS hA [] rfl
  refine vx_callX (vx_runV (As := [.int p0]) (rest := []) ⟨hx, hb, hml, hown, hts⟩ (c_X11_listOf l hl0 dC dI h0 hm h1 h2 h3 p0 H.size) (cwV 1 hts hX11_size rfl rfl rfl (by decide +kernel) ⟨Nat.le_of_ble_eq_true rfl, Nat.le_of_ble_eq_true rfl⟩) ⟨fun a U g mk q => by obtain ⟨q0, q1, qP, qK, qD, qG, qZ⟩ := q; exact ⟨q0, q1, qP, va_K.moved (u := U) (U := U.calling g mk a) (Vm.Alike.refl U.vm) qK, qD, Gw.same (u := U) (U := U.calling g mk a) rfl qG, Gz.moved (u := U) (U := U.calling g mk a) (Vm.Alike.refl U.vm) qZ⟩, va_recv hKc hPc (ci := 10) (q0 := 0) rfl rfl, fun U hU hW => ⟨rfl, by rw [hU], by rw [hU]; exact hPc, va_K.moved hW.alike hKc, nd_0, Gw.warm hW hG, Gz.step hZ hS hFc hU hW.alike⟩⟩ rfl rfl hl.1 rfl (lv_room (Nat.le_of_ble_eq_true rfl)) dX11_size_2 ⟨Nat.le_of_ble_eq_true rfl, Nat.le_of_ble_eq_true rfl⟩) hS hFc (fun q _ h => hFc q h) (fun E ce q9 u9 t H1 locs ht hvm hpx hBX hz1 hk1 hS hce hcv hcl => ?_)
  exact vx_widen (k := 1) (n := 6) (Nat.le_of_ble_eq_true rfl) (Nat.le_of_ble_eq_true rfl) (vx_out (fun x h => (htab x h).elim) hlocks hce hcv hcl (fun t ht hvm => ⟨(), hpx, hBX, hS.F ht⟩) hS.2.2 (Nat.le_refl _) (Nat.le_refl _))
set_option maxHeartbeats 4000000 in
set_option maxRecDepth 100000 in
theorem c_X11_fold (l : Launch) (hl0 : l.stackTraces = false) (dC : Nat → ClassId) (dI : Nat → Nat → Nat) (h0 : Nat) (hm : Nat) (h1 : Nat) (h2 : Nat) (h3 : Nat) (p0 : Int32) (p1 : Int32) (p2 : Int64) (sz : Nat) : vx_Met l yX11_fold vsX11_fold ({ frames := 20, cells := 1, slots := 6, locals := 600 }) (va_Pc [.ref h0, .int p0, .int p1, .long p2] (fun U => U.heap.size = sz ∧ va_P (dC, dI) vwCl [(h0, .inr (10, xF hm h1 h2 h3 0 0 1000))] U.heap ∧ va_K (dC, dI) vwCl [] U ∧ va_D (fun _ => True) [] ∧ Gw U ∧ Gz (va_A [] sz) U U.heap)) (fun _ _ _ _ => False) (vx_X (fun _ : Unit => True) (fun E _ _ => E = "java/lang/IndexOutOfBoundsException") (va_A [] sz)) 1 6 (va_A [] sz) := by
  refine vx_ofW (cc := cX11_fold) (maxL := 13) (ret := (some .long)) (by decide) rfl ?_
  intro p e s m args below meth c s₁ B hml htab hv
  obtain ⟨rfl, hsz, hP, hK, hD0, hG, hZ⟩ := hv
  have hx := B.exec
  have hb := B.bytes
  have hr := B.returns
  have hts := atoms_spec (ws := vsX11_fold) B.pre
  have hown : s.vm.findClass RX11 = some m.cls := findClass_of_methodNamed B.named
  have hlocks := B.notSynchronized
  subst hsz
  have hD := hD0.self (sz := s.heap.size)
  generalize hAe : va_A [] s.heap.size = A at hD hZ ⊢
  have hA : ∀ q : Nat, s.heap.size ≤ q → A q := fun q h => by rw [← hAe]; exact Or.inr h
  generalize hH : s.heap = H at hP ⊢
  have hS : va_S A s.heap H [] := by rw [← hH]; exact va_S.rf
  have hl := lv_entry [.ref h0, .int p0, .int p1, .long p2] (n := 13) (Nat.le_of_ble_eq_true rfl)
  rw [lg_entry_eq]
  generalize (lg_sl [.ref h0, .int p0, .int p1, .long p2] ++ List.replicate (13 - (lg_sl [.ref h0, .int p0, .int p1, .long p2]).length) Slot.unset).toArray = ls at hl ⊢
  have hl : lv_has ls 13 [(0, .ref h0), (1, .int p0), (2, .int p1), (3, .long p2)] := hl
  have hP : va_P (dC, dI) vwCl [(h0, .inr (10, xF hm h1 h2 h3 0 0 1000))] H := hP
  refine lv_aload_n hx hb dX11_fold_0 rfl (lv_at hl 0 rfl) ?_
  refine lv_iload_n hx hb dX11_fold_1 rfl (lv_at hl 1 rfl) ?_
  have hPc := hP.sub (ws' := [(h0, .inr (10, xF hm h1 h2 h3 0 0 1000))]) [0] rfl
  have hDc : va_D (fun _ => True) ([] : va_W) := nd_0
  have hKc := hK.sub (tys' := []) [] rfl
  have hFc := va_free (wc := []) hD hS hA [] rfl
  refine vx_callX (vx_runV (As := [.int p0]) (rest := []) ⟨hx, hb, hml, hown, hts⟩ (c_X11_listOf l hl0 dC dI h0 hm h1 h2 h3 p0 H.size) (cwV 1 hts hX11_fold rfl rfl rfl (by decide +kernel) ⟨Nat.le_of_ble_eq_true rfl, Nat.le_of_ble_eq_true rfl⟩) ⟨fun a U g mk q => by obtain ⟨q0, q1, qP, qK, qD, qG, qZ⟩ := q; exact ⟨q0, q1, qP, va_K.moved (u := U) (U := U.calling g mk a) (Vm.Alike.refl U.vm) qK, qD, Gw.same (u := U) (U := U.calling g mk a) rfl qG, Gz.moved (u := U) (U := U.calling g mk a) (Vm.Alike.refl U.vm) qZ⟩, va_recv hKc hPc (ci := 10) (q0 := 0) rfl rfl, fun U hU hW => ⟨rfl, by rw [hU], by rw [hU]; exact hPc, va_K.moved hW.alike hKc, nd_0, Gw.warm hW hG, Gz.step hZ hS hFc hU hW.alike⟩⟩ rfl rfl hl.1 rfl (lv_room (Nat.le_of_ble_eq_true rfl)) dX11_fold_2 ⟨Nat.le_of_ble_eq_true rfl, Nat.le_of_ble_eq_true rfl⟩) hS hFc (fun q _ h => hFc q h) (fun E ce q9 u9 t H1 locs ht hvm hpx hBX hz1 hk1 hS hce hcv hcl => ?_)
  exact vx_widen (k := 1) (n := 6) (Nat.le_of_ble_eq_true rfl) (Nat.le_of_ble_eq_true rfl) (vx_out (fun x h => (htab x h).elim) hlocks hce hcv hcl (fun t ht hvm => ⟨(), hpx, hBX, hS.F ht⟩) hS.2.2 (Nat.le_refl _) (Nat.le_refl _))
set_option maxHeartbeats 4000000 in
set_option maxRecDepth 100000 in
theorem c_X11_find (l : Launch) (hl0 : l.stackTraces = false) (dC : Nat → ClassId) (dI : Nat → Nat → Nat) (h0 : Nat) (hm : Nat) (h1 : Nat) (h2 : Nat) (h3 : Nat) (p0 : Int32) (p1 : Int32) (p2 : Int64) (sz : Nat) : vx_Met l yX11_find vsX11_find ({ frames := 20, cells := 1, slots := 6, locals := 600 }) (va_Pc [.ref h0, .int p0, .int p1, .long p2] (fun U => U.heap.size = sz ∧ va_P (dC, dI) vwCl [(h0, .inr (10, xF hm h1 h2 h3 0 0 1000))] U.heap ∧ va_K (dC, dI) vwCl [] U ∧ va_D (fun _ => True) [] ∧ Gw U ∧ Gz (va_A [] sz) U U.heap)) (fun _ _ _ _ => False) (vx_X (fun _ : Unit => True) (fun E _ _ => E = "java/lang/IndexOutOfBoundsException") (va_A [] sz)) 1 6 (va_A [] sz) := by
  refine vx_ofW (cc := cX11_find) (maxL := 9) (ret := (some .long)) (by decide) rfl ?_
  intro p e s m args below meth c s₁ B hml htab hv
  obtain ⟨rfl, hsz, hP, hK, hD0, hG, hZ⟩ := hv
  have hx := B.exec
  have hb := B.bytes
  have hr := B.returns
  have hts := atoms_spec (ws := vsX11_find) B.pre
  have hown : s.vm.findClass RX11 = some m.cls := findClass_of_methodNamed B.named
  have hlocks := B.notSynchronized
  subst hsz
  have hD := hD0.self (sz := s.heap.size)
  generalize hAe : va_A [] s.heap.size = A at hD hZ ⊢
  have hA : ∀ q : Nat, s.heap.size ≤ q → A q := fun q h => by rw [← hAe]; exact Or.inr h
  generalize hH : s.heap = H at hP ⊢
  have hS : va_S A s.heap H [] := by rw [← hH]; exact va_S.rf
  have hl := lv_entry [.ref h0, .int p0, .int p1, .long p2] (n := 9) (Nat.le_of_ble_eq_true rfl)
  rw [lg_entry_eq]
  generalize (lg_sl [.ref h0, .int p0, .int p1, .long p2] ++ List.replicate (9 - (lg_sl [.ref h0, .int p0, .int p1, .long p2]).length) Slot.unset).toArray = ls at hl ⊢
  have hl : lv_has ls 9 [(0, .ref h0), (1, .int p0), (2, .int p1), (3, .long p2)] := hl
  have hP : va_P (dC, dI) vwCl [(h0, .inr (10, xF hm h1 h2 h3 0 0 1000))] H := hP
  refine lv_aload_n hx hb dX11_find_0 rfl (lv_at hl 0 rfl) ?_
  refine lv_iload_n hx hb dX11_find_1 rfl (lv_at hl 1 rfl) ?_
  have hPc := hP.sub (ws' := [(h0, .inr (10, xF hm h1 h2 h3 0 0 1000))]) [0] rfl
  have hDc : va_D (fun _ => True) ([] : va_W) := nd_0
  have hKc := hK.sub (tys' := []) [] rfl
  have hFc := va_free (wc := []) hD hS hA [] rfl
  refine vx_callX (vx_runV (As := [.int p0]) (rest := []) ⟨hx, hb, hml, hown, hts⟩ (c_X11_listOf l hl0 dC dI h0 hm h1 h2 h3 p0 H.size) (cwV 1 hts hX11_find rfl rfl rfl (by decide +kernel) ⟨Nat.le_of_ble_eq_true rfl, Nat.le_of_ble_eq_true rfl⟩) ⟨fun a U g mk q => by obtain ⟨q0, q1, qP, qK, qD, qG, qZ⟩ := q; exact ⟨q0, q1, qP, va_K.moved (u := U) (U := U.calling g mk a) (Vm.Alike.refl U.vm) qK, qD, Gw.same (u := U) (U := U.calling g mk a) rfl qG, Gz.moved (u := U) (U := U.calling g mk a) (Vm.Alike.refl U.vm) qZ⟩, va_recv hKc hPc (ci := 10) (q0 := 0) rfl rfl, fun U hU hW => ⟨rfl, by rw [hU], by rw [hU]; exact hPc, va_K.moved hW.alike hKc, nd_0, Gw.warm hW hG, Gz.step hZ hS hFc hU hW.alike⟩⟩ rfl rfl hl.1 rfl (lv_room (Nat.le_of_ble_eq_true rfl)) dX11_find_2 ⟨Nat.le_of_ble_eq_true rfl, Nat.le_of_ble_eq_true rfl⟩) hS hFc (fun q _ h => hFc q h) (fun E ce q9 u9 t H1 locs ht hvm hpx hBX hz1 hk1 hS hce hcv hcl => ?_)
  exact vx_widen (k := 1) (n := 6) (Nat.le_of_ble_eq_true rfl) (Nat.le_of_ble_eq_true rfl) (vx_out (fun x h => (htab x h).elim) hlocks hce hcv hcl (fun t ht hvm => ⟨(), hpx, hBX, hS.F ht⟩) hS.2.2 (Nat.le_refl _) (Nat.le_refl _))
set_option maxHeartbeats 4000000 in
set_option maxRecDepth 100000 in
theorem c_X11_last (l : Launch) (hl0 : l.stackTraces = false) (dC : Nat → ClassId) (dI : Nat → Nat → Nat) (h0 : Nat) (hm : Nat) (h1 : Nat) (h2 : Nat) (h3 : Nat) (p0 : Int32) (sz : Nat) : vx_Met l yX11_last vsX11_last ({ frames := 20, cells := 1, slots := 6, locals := 600 }) (va_Pc [.ref h0, .int p0] (fun U => U.heap.size = sz ∧ va_P (dC, dI) vwCl [(h0, .inr (10, xF hm h1 h2 h3 0 0 1000))] U.heap ∧ va_K (dC, dI) vwCl [] U ∧ va_D (fun _ => True) [] ∧ Gw U ∧ Gz (va_A [] sz) U U.heap)) (fun _ _ _ _ => False) (vx_X (fun _ : Unit => True) (fun E _ _ => E = "java/lang/IndexOutOfBoundsException") (va_A [] sz)) 1 6 (va_A [] sz) := by
  refine vx_ofW (cc := cX11_last) (maxL := 6) (ret := (some .long)) (by decide) rfl ?_
  intro p e s m args below meth c s₁ B hml htab hv
  obtain ⟨rfl, hsz, hP, hK, hD0, hG, hZ⟩ := hv
  have hx := B.exec
  have hb := B.bytes
  have hr := B.returns
  have hts := atoms_spec (ws := vsX11_last) B.pre
  have hown : s.vm.findClass RX11 = some m.cls := findClass_of_methodNamed B.named
  have hlocks := B.notSynchronized
  subst hsz
  have hD := hD0.self (sz := s.heap.size)
  generalize hAe : va_A [] s.heap.size = A at hD hZ ⊢
  have hA : ∀ q : Nat, s.heap.size ≤ q → A q := fun q h => by rw [← hAe]; exact Or.inr h
  generalize hH : s.heap = H at hP ⊢
  have hS : va_S A s.heap H [] := by rw [← hH]; exact va_S.rf
  have hl := lv_entry [.ref h0, .int p0] (n := 6) (Nat.le_of_ble_eq_true rfl)
  rw [lg_entry_eq]
  generalize (lg_sl [.ref h0, .int p0] ++ List.replicate (6 - (lg_sl [.ref h0, .int p0]).length) Slot.unset).toArray = ls at hl ⊢
  have hl : lv_has ls 6 [(0, .ref h0), (1, .int p0)] := hl
  have hP : va_P (dC, dI) vwCl [(h0, .inr (10, xF hm h1 h2 h3 0 0 1000))] H := hP
  refine lv_aload_n hx hb dX11_last_0 rfl (lv_at hl 0 rfl) ?_
  refine lv_iload_n hx hb dX11_last_1 rfl (lv_at hl 1 rfl) ?_
  have hPc := hP.sub (ws' := [(h0, .inr (10, xF hm h1 h2 h3 0 0 1000))]) [0] rfl
  have hDc : va_D (fun _ => True) ([] : va_W) := nd_0
  have hKc := hK.sub (tys' := []) [] rfl
  have hFc := va_free (wc := []) hD hS hA [] rfl
  refine vx_callX (vx_runV (As := [.int p0]) (rest := []) ⟨hx, hb, hml, hown, hts⟩ (c_X11_listOf l hl0 dC dI h0 hm h1 h2 h3 p0 H.size) (cwV 1 hts hX11_last rfl rfl rfl (by decide +kernel) ⟨Nat.le_of_ble_eq_true rfl, Nat.le_of_ble_eq_true rfl⟩) ⟨fun a U g mk q => by obtain ⟨q0, q1, qP, qK, qD, qG, qZ⟩ := q; exact ⟨q0, q1, qP, va_K.moved (u := U) (U := U.calling g mk a) (Vm.Alike.refl U.vm) qK, qD, Gw.same (u := U) (U := U.calling g mk a) rfl qG, Gz.moved (u := U) (U := U.calling g mk a) (Vm.Alike.refl U.vm) qZ⟩, va_recv hKc hPc (ci := 10) (q0 := 0) rfl rfl, fun U hU hW => ⟨rfl, by rw [hU], by rw [hU]; exact hPc, va_K.moved hW.alike hKc, nd_0, Gw.warm hW hG, Gz.step hZ hS hFc hU hW.alike⟩⟩ rfl rfl hl.1 rfl (lv_room (Nat.le_of_ble_eq_true rfl)) dX11_last_2 ⟨Nat.le_of_ble_eq_true rfl, Nat.le_of_ble_eq_true rfl⟩) hS hFc (fun q _ h => hFc q h) (fun E ce q9 u9 t H1 locs ht hvm hpx hBX hz1 hk1 hS hce hcv hcl => ?_)
  exact vx_widen (k := 1) (n := 6) (Nat.le_of_ble_eq_true rfl) (Nat.le_of_ble_eq_true rfl) (vx_out (fun x h => (htab x h).elim) hlocks hce hcv hcl (fun t ht hvm => ⟨(), hpx, hBX, hS.F ht⟩) hS.2.2 (Nat.le_refl _) (Nat.le_refl _))
set_option maxHeartbeats 4000000 in
set_option maxRecDepth 100000 in
theorem c_X11_reached (l : Launch) (hl0 : l.stackTraces = false) (dC : Nat → ClassId) (dI : Nat → Nat → Nat) (h0 : Nat) (hm : Nat) (h1 : Nat) (h2 : Nat) (h3 : Nat) (p0 : Int32) (sz : Nat) : vx_Met l yX11_reached vsX11_reached ({ frames := 20, cells := 1, slots := 6, locals := 600 }) (va_Pc [.ref h0, .int p0] (fun U => U.heap.size = sz ∧ va_P (dC, dI) vwCl [(h0, .inr (10, xF hm h1 h2 h3 0 0 1000))] U.heap ∧ va_K (dC, dI) vwCl [] U ∧ va_D (fun _ => True) [] ∧ Gw U ∧ Gz (va_A [] sz) U U.heap)) (fun _ _ _ _ => False) (vx_X (fun _ : Unit => True) (fun E _ _ => E = "java/lang/IndexOutOfBoundsException") (va_A [] sz)) 1 6 (va_A [] sz) := by
  refine vx_ofW (cc := cX11_reached) (maxL := 2) (ret := (some .int)) (by decide) rfl ?_
  intro p e s m args below meth c s₁ B hml htab hv
  obtain ⟨rfl, hsz, hP, hK, hD0, hG, hZ⟩ := hv
  have hx := B.exec
  have hb := B.bytes
  have hr := B.returns
  have hts := atoms_spec (ws := vsX11_reached) B.pre
  have hown : s.vm.findClass RX11 = some m.cls := findClass_of_methodNamed B.named
  have hlocks := B.notSynchronized
  subst hsz
  have hD := hD0.self (sz := s.heap.size)
  generalize hAe : va_A [] s.heap.size = A at hD hZ ⊢
  have hA : ∀ q : Nat, s.heap.size ≤ q → A q := fun q h => by rw [← hAe]; exact Or.inr h
  generalize hH : s.heap = H at hP ⊢
  have hS : va_S A s.heap H [] := by rw [← hH]; exact va_S.rf
  have hl := lv_entry [.ref h0, .int p0] (n := 2) (Nat.le_of_ble_eq_true rfl)
  rw [lg_entry_eq]
  generalize (lg_sl [.ref h0, .int p0] ++ List.replicate (2 - (lg_sl [.ref h0, .int p0]).length) Slot.unset).toArray = ls at hl ⊢
  have hl : lv_has ls 2 [(0, .ref h0), (1, .int p0)] := hl
  have hP : va_P (dC, dI) vwCl [(h0, .inr (10, xF hm h1 h2 h3 0 0 1000))] H := hP
  refine lv_aload_n hx hb dX11_reached_0 rfl (lv_at hl 0 rfl) ?_
  refine lv_iload_n hx hb dX11_reached_1 rfl (lv_at hl 1 rfl) ?_
  have hPc := hP.sub (ws' := [(h0, .inr (10, xF hm h1 h2 h3 0 0 1000))]) [0] rfl
  have hDc : va_D (fun _ => True) ([] : va_W) := nd_0
  have hKc := hK.sub (tys' := []) [] rfl
  have hFc := va_free (wc := []) hD hS hA [] rfl
  refine vx_callX (vx_runV (As := [.int p0]) (rest := []) ⟨hx, hb, hml, hown, hts⟩ (c_X11_listOf l hl0 dC dI h0 hm h1 h2 h3 p0 H.size) (cwV 1 hts hX11_reached rfl rfl rfl (by decide +kernel) ⟨Nat.le_of_ble_eq_true rfl, Nat.le_of_ble_eq_true rfl⟩) ⟨fun a U g mk q => by obtain ⟨q0, q1, qP, qK, qD, qG, qZ⟩ := q; exact ⟨q0, q1, qP, va_K.moved (u := U) (U := U.calling g mk a) (Vm.Alike.refl U.vm) qK, qD, Gw.same (u := U) (U := U.calling g mk a) rfl qG, Gz.moved (u := U) (U := U.calling g mk a) (Vm.Alike.refl U.vm) qZ⟩, va_recv hKc hPc (ci := 10) (q0 := 0) rfl rfl, fun U hU hW => ⟨rfl, by rw [hU], by rw [hU]; exact hPc, va_K.moved hW.alike hKc, nd_0, Gw.warm hW hG, Gz.step hZ hS hFc hU hW.alike⟩⟩ rfl rfl hl.1 rfl (lv_room (Nat.le_of_ble_eq_true rfl)) dX11_reached_2 ⟨Nat.le_of_ble_eq_true rfl, Nat.le_of_ble_eq_true rfl⟩) hS hFc (fun q _ h => hFc q h) (fun E ce q9 u9 t H1 locs ht hvm hpx hBX hz1 hk1 hS hce hcv hcl => ?_)
  exact vx_widen (k := 1) (n := 6) (Nat.le_of_ble_eq_true rfl) (Nat.le_of_ble_eq_true rfl) (vx_out (fun x h => (htab x h).elim) hlocks hce hcv hcl (fun t ht hvm => ⟨(), hpx, hBX, hS.F ht⟩) hS.2.2 (Nat.le_refl _) (Nat.le_refl _))
set_option maxHeartbeats 4000000 in
set_option maxRecDepth 100000 in
theorem c_X11_worked (l : Launch) (hl0 : l.stackTraces = false) (dC : Nat → ClassId) (dI : Nat → Nat → Nat) (h0 : Nat) (hm : Nat) (h1 : Nat) (h2 : Nat) (h3 : Nat) (p0 : Int32) (p1 : Int32) (sz : Nat) : vx_Met l yX11_worked vsX11_worked ({ frames := 20, cells := 1, slots := 6, locals := 600 }) (va_Pc [.ref h0, .int p0, .int p1] (fun U => U.heap.size = sz ∧ va_P (dC, dI) vwCl [(h0, .inr (10, xF hm h1 h2 h3 0 0 1000))] U.heap ∧ va_K (dC, dI) vwCl [] U ∧ va_D (fun _ => True) [] ∧ Gw U ∧ Gz (va_A [] sz) U U.heap)) (fun _ _ _ _ => False) (vx_X (fun _ : Unit => True) (fun E _ _ => E = "java/lang/IndexOutOfBoundsException") (va_A [] sz)) 1 6 (va_A [] sz) := by
  refine vx_ofW (cc := cX11_worked) (maxL := 4) (ret := (some .boolean)) (by decide) rfl ?_
  intro p e s m args below meth c s₁ B hml htab hv
  obtain ⟨rfl, hsz, hP, hK, hD0, hG, hZ⟩ := hv
  have hx := B.exec
  have hb := B.bytes
  have hr := B.returns
  have hts := atoms_spec (ws := vsX11_worked) B.pre
  have hown : s.vm.findClass RX11 = some m.cls := findClass_of_methodNamed B.named
  have hlocks := B.notSynchronized
  subst hsz
  have hD := hD0.self (sz := s.heap.size)
  generalize hAe : va_A [] s.heap.size = A at hD hZ ⊢
  have hA : ∀ q : Nat, s.heap.size ≤ q → A q := fun q h => by rw [← hAe]; exact Or.inr h
  generalize hH : s.heap = H at hP ⊢
  have hS : va_S A s.heap H [] := by rw [← hH]; exact va_S.rf
  have hl := lv_entry [.ref h0, .int p0, .int p1] (n := 4) (Nat.le_of_ble_eq_true rfl)
  rw [lg_entry_eq]
  generalize (lg_sl [.ref h0, .int p0, .int p1] ++ List.replicate (4 - (lg_sl [.ref h0, .int p0, .int p1]).length) Slot.unset).toArray = ls at hl ⊢
  have hl : lv_has ls 4 [(0, .ref h0), (1, .int p0), (2, .int p1)] := hl
  have hP : va_P (dC, dI) vwCl [(h0, .inr (10, xF hm h1 h2 h3 0 0 1000))] H := hP
  refine lv_aload_n hx hb dX11_worked_0 rfl (lv_at hl 0 rfl) ?_
  refine lv_iload_n hx hb dX11_worked_1 rfl (lv_at hl 1 rfl) ?_
  have hPc := hP.sub (ws' := [(h0, .inr (10, xF hm h1 h2 h3 0 0 1000))]) [0] rfl
  have hDc : va_D (fun _ => True) ([] : va_W) := nd_0
  have hKc := hK.sub (tys' := []) [] rfl
  have hFc := va_free (wc := []) hD hS hA [] rfl
  refine vx_callX (vx_runV (As := [.int p0]) (rest := []) ⟨hx, hb, hml, hown, hts⟩ (c_X11_listOf l hl0 dC dI h0 hm h1 h2 h3 p0 H.size) (cwV 1 hts hX11_worked rfl rfl rfl (by decide +kernel) ⟨Nat.le_of_ble_eq_true rfl, Nat.le_of_ble_eq_true rfl⟩) ⟨fun a U g mk q => by obtain ⟨q0, q1, qP, qK, qD, qG, qZ⟩ := q; exact ⟨q0, q1, qP, va_K.moved (u := U) (U := U.calling g mk a) (Vm.Alike.refl U.vm) qK, qD, Gw.same (u := U) (U := U.calling g mk a) rfl qG, Gz.moved (u := U) (U := U.calling g mk a) (Vm.Alike.refl U.vm) qZ⟩, va_recv hKc hPc (ci := 10) (q0 := 0) rfl rfl, fun U hU hW => ⟨rfl, by rw [hU], by rw [hU]; exact hPc, va_K.moved hW.alike hKc, nd_0, Gw.warm hW hG, Gz.step hZ hS hFc hU hW.alike⟩⟩ rfl rfl hl.1 rfl (lv_room (Nat.le_of_ble_eq_true rfl)) dX11_worked_2 ⟨Nat.le_of_ble_eq_true rfl, Nat.le_of_ble_eq_true rfl⟩) hS hFc (fun q _ h => hFc q h) (fun E ce q9 u9 t H1 locs ht hvm hpx hBX hz1 hk1 hS hce hcv hcl => ?_)
  exact vx_widen (k := 1) (n := 6) (Nat.le_of_ble_eq_true rfl) (Nat.le_of_ble_eq_true rfl) (vx_out (fun x h => (htab x h).elim) hlocks hce hcv hcl (fun t ht hvm => ⟨(), hpx, hBX, hS.F ht⟩) hS.2.2 (Nat.le_refl _) (Nat.le_refl _))
set_option maxHeartbeats 4000000 in
set_option maxRecDepth 100000 in
theorem c_X11_steps (l : Launch) (hl0 : l.stackTraces = false) (dC : Nat → ClassId) (dI : Nat → Nat → Nat) (h0 : Nat) (hm : Nat) (h1 : Nat) (h2 : Nat) (h3 : Nat) (p0 : Int32) (sz : Nat) : vx_Met l yX11_steps wsX11_steps ({ frames := 10, cells := 1, slots := 6, locals := 300 }) (va_Pc [.ref h0, .int p0] (fun U => U.heap.size = sz ∧ va_P (dC, dI) vwCl [(h0, .inr (10, xF hm h1 h2 h3 0 0 1000))] U.heap ∧ va_K (dC, dI) vwCl [] U ∧ va_D (fun _ => True) [(h0, .inr (10, xF hm h1 h2 h3 0 0 1000))] ∧ Gw U ∧ Gz (va_A [(h0, .inr (10, xF hm h1 h2 h3 0 0 1000))] sz) U U.heap)) (va_Qi (fun (r : Int32) (_ : Unit) => r = 1000 ∧ kSteps p0 = 0) (fun _ _ => True) (va_A [(h0, .inr (10, xF hm h1 h2 h3 0 0 1000))] sz)) (vx_X (fun _ : Unit => kSteps p0 = 1) (fun E _ _ => E = "java/lang/IllegalArgumentException") (va_A [(h0, .inr (10, xF hm h1 h2 h3 0 0 1000))] sz)) 1 6 (va_A [(h0, .inr (10, xF hm h1 h2 h3 0 0 1000))] sz) := by
  refine vx_ofW (cc := cX11_steps) (maxL := 3) (ret := (some .int)) (by decide) rfl ?_
  intro p e s m args below meth c s₁ B hml htab hv
  obtain ⟨rfl, hsz, hP, hK, hD0, hG, hZ⟩ := hv
  have hx := B.exec
  have hb := B.bytes
  have hr := B.returns
  have hts := atoms_spec (ws := wsX11_steps) B.pre
  have hown : s.vm.findClass RX11 = some m.cls := findClass_of_methodNamed B.named
  have hlocks := B.notSynchronized
  subst hsz
  have hD := hD0.self (sz := s.heap.size)
  generalize hAe : va_A [(h0, .inr (10, xF hm h1 h2 h3 0 0 1000))] s.heap.size = A at hD hZ ⊢
  have hA : ∀ q : Nat, s.heap.size ≤ q → A q := fun q h => by rw [← hAe]; exact Or.inr h
  generalize hH : s.heap = H at hP ⊢
  have hS : va_S A s.heap H [] := by rw [← hH]; exact va_S.rf
  have hl := lv_entry [.ref h0, .int p0] (n := 3) (Nat.le_of_ble_eq_true rfl)
  rw [lg_entry_eq]
  generalize (lg_sl [.ref h0, .int p0] ++ List.replicate (3 - (lg_sl [.ref h0, .int p0]).length) Slot.unset).toArray = ls at hl ⊢
  have hl : lv_has ls 3 [(0, .ref h0), (1, .int p0)] := hl
  have hP : va_P (dC, dI) vwCl [(h0, .inr (10, xF hm h1 h2 h3 0 0 1000))] H := hP
  refine lv_iload_n hx hb dX11_steps_0 rfl (lv_at hl 1 rfl) ?_
  refine lv_iconst (v := 1) hx hb dX11_steps_1 (by decide) ?_
  refine lv_icmp_lt (tgt := 12) hx hb dX11_steps_2 (by decide) (fun c_2 => ?_) (fun c_2 => ?_)
  · obtain ⟨sa, hsa⟩ := hG.t139
    exact vx_throwS (A := A) (own := RX11) (cls := "java/lang/IllegalArgumentException") (text := "n is not 1 .. 5000") (names := ["java/lang/RuntimeException", "java/lang/Exception"]) (sa := sa) (rest := []) hx hb hl0 hown (by decide) (by decide) (hts (.classLink RX11 38 "java/lang/IllegalArgumentException") (by decide +kernel)) (hts (.initialized "java/lang/IllegalArgumentException") (by decide +kernel)) hsa (vx_hat (B := [.castable "java/lang/IllegalArgumentException" "java/lang/IllegalArgumentException", .declares ⟨"java/lang/RuntimeException", "<init>", "(Ljava/lang/String;)V"⟩, .declares ⟨"java/lang/Exception", "<init>", "(Ljava/lang/String;)V"⟩, .declares ⟨"java/lang/Throwable", "<init>", "(Ljava/lang/String;)V"⟩]) (fun w h => hts w (List.mem_cons_of_mem _ (List.mem_append_right _ h))) (by decide +kernel) (vx_c (va_Nw.use rfl hG.cIAE) (vx_c (va_Nw.use rfl hG.dR) (vx_c (va_Nw.use rfl hG.dE) (vx_c (va_Nw.use rfl hG.dT) vx_n))))) (by decide +kernel) hZ.1 hZ.2 hS (hl.1.trans hml.symm) dX11_steps_12 dX11_steps_15 dX11_steps_16 dX11_steps_18 dX11_steps_21 (fun x h => (htab x h).elim) (Nat.le_of_ble_eq_true rfl) (Nat.le_of_ble_eq_true rfl) (Nat.le_of_ble_eq_true rfl) (Nat.le_of_ble_eq_true rfl) hlocks (fun t hvm hz hq => ⟨(), (if_pos c_2), rfl, Nat.le_trans hS.1 hz, fun q h1 h2 => (hq q (Nat.lt_of_lt_of_le h1 hS.1)).trans (hS.2.1 q h1 h2)⟩) hS.2.2 (Nat.le_of_ble_eq_true rfl) (Nat.le_of_ble_eq_true rfl)
  · refine lv_iload_n hx hb dX11_steps_5 rfl (lv_at hl 1 rfl) ?_
    refine lv_sipush (v := 5000) hx hb dX11_steps_6 (by decide) ?_
    refine lv_icmp_le (tgt := 22) hx hb dX11_steps_9 (by decide) (fun c_9 => ?_) (fun c_9 => ?_)
    · refine lv_aload_n hx hb dX11_steps_22 rfl (lv_at hl 0 rfl) ?_
      refine va_get (D := (dC, dI)) (ci := 10) (v := .int 1000) (C := RX11) (T := TX11) (N := 9) hx hb hts (by decide +kernel) hown hK hP 0 rfl rfl 6 (by decide) (hts (.fieldLink RX11 30 "NeededLists" "stepsOfAsk" "I") (by decide +kernel)) (fun _ h9 => h9) rfl dX11_steps_23 ?_
      refine lv_istore_n (lv' := [(2, .int 1000), (0, .ref h0), (1, .int p0)]) hx hb dX11_steps_26 rfl hl (by decide) rfl (fun ls hl => ?_)
      refine lv_aload_n hx hb dX11_steps_27 rfl (lv_at hl 1 rfl) ?_
      refine lv_iload_n hx hb dX11_steps_28 rfl (lv_at hl 2 rfl) ?_
      refine va_put (D := (dC, dI)) (ci := 10) (v := .int p0) (ty := .int) (C := RX11) (T := TX11) (N := 9) hx hb hts (by decide +kernel) tyX11 tyX11_ok nmX11 hown hK hP hD hS 0 rfl rfl 6 (by decide) (hts (.fieldLink RX11 30 "NeededLists" "stepsOfAsk" "I") (by decide +kernel)) (fun _ h9 => h9) rfl (by decide +kernel) rfl rfl (Nat.le_of_ble_eq_true rfl) dX11_steps_29 (fun H locs hP hD hS => ?_)
      have hP : va_P (dC, dI) vwCl [(h0, .inr (10, xF hm h1 h2 h3 0 0 p0))] H := hP
      have hD : va_D A [(h0, .inr (10, xF hm h1 h2 h3 0 0 p0))] := hD
      refine lv_iload_n hx hb dX11_steps_32 rfl (lv_at hl 0 rfl) ?_
      refine vx_ret ?_
      refine W.widen (k := 1) (n := 6) (by decide +kernel) (by decide +kernel) ?_
      exact W.iret (v := 1000) hx hb hr (fun t ht hW => ⟨⟨1000, (), rfl, ⟨rfl, (if_neg c_2).trans (if_pos c_9)⟩, trivial⟩, hS.F ht⟩) hS.2.2 dX11_steps_33
    · obtain ⟨sa, hsa⟩ := hG.t139
      exact vx_throwS (A := A) (own := RX11) (cls := "java/lang/IllegalArgumentException") (text := "n is not 1 .. 5000") (names := ["java/lang/RuntimeException", "java/lang/Exception"]) (sa := sa) (rest := []) hx hb hl0 hown (by decide) (by decide) (hts (.classLink RX11 38 "java/lang/IllegalArgumentException") (by decide +kernel)) (hts (.initialized "java/lang/IllegalArgumentException") (by decide +kernel)) hsa (vx_hat (B := [.castable "java/lang/IllegalArgumentException" "java/lang/IllegalArgumentException", .declares ⟨"java/lang/RuntimeException", "<init>", "(Ljava/lang/String;)V"⟩, .declares ⟨"java/lang/Exception", "<init>", "(Ljava/lang/String;)V"⟩, .declares ⟨"java/lang/Throwable", "<init>", "(Ljava/lang/String;)V"⟩]) (fun w h => hts w (List.mem_cons_of_mem _ (List.mem_append_right _ h))) (by decide +kernel) (vx_c (va_Nw.use rfl hG.cIAE) (vx_c (va_Nw.use rfl hG.dR) (vx_c (va_Nw.use rfl hG.dE) (vx_c (va_Nw.use rfl hG.dT) vx_n))))) (by decide +kernel) hZ.1 hZ.2 hS (hl.1.trans hml.symm) dX11_steps_12 dX11_steps_15 dX11_steps_16 dX11_steps_18 dX11_steps_21 (fun x h => (htab x h).elim) (Nat.le_of_ble_eq_true rfl) (Nat.le_of_ble_eq_true rfl) (Nat.le_of_ble_eq_true rfl) (Nat.le_of_ble_eq_true rfl) hlocks (fun t hvm hz hq => ⟨(), ((if_neg c_2).trans (if_neg c_9)), rfl, Nat.le_trans hS.1 hz, fun q h1 h2 => (hq q (Nat.lt_of_lt_of_le h1 hS.1)).trans (hS.2.1 q h1 h2)⟩) hS.2.2 (Nat.le_of_ble_eq_true rfl) (Nat.le_of_ble_eq_true rfl)
set_option maxHeartbeats 4000000 in
set_option maxRecDepth 100000 in
theorem c_X11_outcome (l : Launch) (dC : Nat → ClassId) (dI : Nat → Nat → Nat) (h0 : Nat) (hm : Nat) (h1 : Nat) (h2 : Nat) (h3 : Nat) (sz : Nat) : Met l yX11_outcome wsX11_outcome ({ frames := 10, cells := 0, slots := 0, locals := 300 }) (va_Pc [.ref h0] (fun U => U.heap.size = sz ∧ va_P (dC, dI) vwCl [(h0, .inr (10, xF hm h1 h2 h3 0 0 1000))] U.heap ∧ va_K (dC, dI) vwCl [] U ∧ va_D (fun _ => True) [])) (va_Qi (fun (r : Int32) (_ : Unit) => r = 0) (fun _ _ => True) (va_A [] sz)) 0 0 (va_A [] sz) := by
  refine Met.ofW (cc := cX11_outcome) (maxL := 1) (ret := (some .int)) (by decide) rfl ?_
  intro p e s m args below meth c s₁ B hml hv
  obtain ⟨rfl, hsz, hP, hK, hD0⟩ := hv
  have hx := B.exec
  have hb := B.bytes
  have hr := B.returns
  have hts := atoms_spec (ws := wsX11_outcome) B.pre
  have hown : s.vm.findClass RX11 = some m.cls := findClass_of_methodNamed B.named
  have hlocks := B.notSynchronized
  subst hsz
  have hD := hD0.self (sz := s.heap.size)
  generalize hAe : va_A [] s.heap.size = A at hD ⊢
  have hA : ∀ q : Nat, s.heap.size ≤ q → A q := fun q h => by rw [← hAe]; exact Or.inr h
  generalize hH : s.heap = H at hP ⊢
  have hS : va_S A s.heap H [] := by rw [← hH]; exact va_S.rf
  have hl := lv_entry [.ref h0] (n := 1) (Nat.le_of_ble_eq_true rfl)
  rw [lg_entry_eq]
  generalize (lg_sl [.ref h0] ++ List.replicate (1 - (lg_sl [.ref h0]).length) Slot.unset).toArray = ls at hl ⊢
  have hl : lv_has ls 1 [(0, .ref h0)] := hl
  have hP : va_P (dC, dI) vwCl [(h0, .inr (10, xF hm h1 h2 h3 0 0 1000))] H := hP
  refine lv_aload_n hx hb dX11_outcome_0 rfl (lv_at hl 0 rfl) ?_
  refine va_get (D := (dC, dI)) (ci := 10) (v := .int 0) (C := RX11) (T := TX11) (N := 9) hx hb hts (by decide +kernel) hown hK hP 0 rfl rfl 7 (by decide) (hts (.fieldLink RX11 182 "NeededLists" "latestOutcome" "I") (by decide +kernel)) (fun _ h9 => h9) rfl dX11_outcome_1 ?_
  refine W.widen (k := 0) (n := 0) (by decide +kernel) (by decide +kernel) ?_
  exact W.iret (v := 0) hx hb hr (fun t ht hW => ⟨⟨0, (), rfl, rfl, trivial⟩, hS.F ht⟩) hS.2.2 dX11_outcome_4
set_option maxHeartbeats 4000000 in
set_option maxRecDepth 100000 in
theorem c_X11_error (l : Launch) (dC : Nat → ClassId) (dI : Nat → Nat → Nat) (h0 : Nat) (hm : Nat) (h1 : Nat) (h2 : Nat) (h3 : Nat) (sz : Nat) : Met l yX11_error wsX11_error ({ frames := 10, cells := 0, slots := 0, locals := 300 }) (va_Pc [.ref h0] (fun U => U.heap.size = sz ∧ va_P (dC, dI) vwCl [(h0, .inr (10, xF hm h1 h2 h3 0 0 1000))] U.heap ∧ va_K (dC, dI) vwCl [] U ∧ va_D (fun _ => True) [])) (va_Qi (fun (r : Int32) (_ : Unit) => r = 0) (fun _ _ => True) (va_A [] sz)) 0 0 (va_A [] sz) := by
  refine Met.ofW (cc := cX11_error) (maxL := 1) (ret := (some .int)) (by decide) rfl ?_
  intro p e s m args below meth c s₁ B hml hv
  obtain ⟨rfl, hsz, hP, hK, hD0⟩ := hv
  have hx := B.exec
  have hb := B.bytes
  have hr := B.returns
  have hts := atoms_spec (ws := wsX11_error) B.pre
  have hown : s.vm.findClass RX11 = some m.cls := findClass_of_methodNamed B.named
  have hlocks := B.notSynchronized
  subst hsz
  have hD := hD0.self (sz := s.heap.size)
  generalize hAe : va_A [] s.heap.size = A at hD ⊢
  have hA : ∀ q : Nat, s.heap.size ≤ q → A q := fun q h => by rw [← hAe]; exact Or.inr h
  generalize hH : s.heap = H at hP ⊢
  have hS : va_S A s.heap H [] := by rw [← hH]; exact va_S.rf
  have hl := lv_entry [.ref h0] (n := 1) (Nat.le_of_ble_eq_true rfl)
  rw [lg_entry_eq]
  generalize (lg_sl [.ref h0] ++ List.replicate (1 - (lg_sl [.ref h0]).length) Slot.unset).toArray = ls at hl ⊢
  have hl : lv_has ls 1 [(0, .ref h0)] := hl
  have hP : va_P (dC, dI) vwCl [(h0, .inr (10, xF hm h1 h2 h3 0 0 1000))] H := hP
  refine lv_aload_n hx hb dX11_error_0 rfl (lv_at hl 0 rfl) ?_
  refine va_get (D := (dC, dI)) (ci := 10) (v := .int 0) (C := RX11) (T := TX11) (N := 9) hx hb hts (by decide +kernel) hown hK hP 0 rfl rfl 8 (by decide) (hts (.fieldLink RX11 185 "NeededLists" "latestError" "I") (by decide +kernel)) (fun _ h9 => h9) rfl dX11_error_1 ?_
  refine W.widen (k := 0) (n := 0) (by decide +kernel) (by decide +kernel) ?_
  exact W.iret (v := 0) hx hb hr (fun t ht hW => ⟨⟨0, (), rfl, rfl, trivial⟩, hS.F ht⟩) hS.2.2 dX11_error_4
set_option maxHeartbeats 4000000 in
set_option maxRecDepth 100000 in
theorem c_X11_lists (l : Launch) (dC : Nat → ClassId) (dI : Nat → Nat → Nat) (h0 : Nat) (hm : Nat) (h1 : Nat) (h2 : Nat) (h3 : Nat) (sz : Nat) : Met l yX11_lists wsX11_lists ({ frames := 10, cells := 0, slots := 0, locals := 300 }) (va_Pc [.ref h0] (fun U => U.heap.size = sz ∧ va_P (dC, dI) vwCl [(h0, .inr (10, xF hm h1 h2 h3 0 0 1000))] U.heap ∧ va_K (dC, dI) vwCl [] U ∧ va_D (fun _ => True) [])) (va_Qi (fun (r : Int32) (_ : Unit) => r = 0) (fun _ _ => True) (va_A [] sz)) 0 0 (va_A [] sz) := by
  refine Met.ofW (cc := cX11_lists) (maxL := 1) (ret := (some .int)) (by decide) rfl ?_
  intro p e s m args below meth c s₁ B hml hv
  obtain ⟨rfl, hsz, hP, hK, hD0⟩ := hv
  have hx := B.exec
  have hb := B.bytes
  have hr := B.returns
  have hts := atoms_spec (ws := wsX11_lists) B.pre
  have hown : s.vm.findClass RX11 = some m.cls := findClass_of_methodNamed B.named
  have hlocks := B.notSynchronized
  subst hsz
  have hD := hD0.self (sz := s.heap.size)
  generalize hAe : va_A [] s.heap.size = A at hD ⊢
  have hA : ∀ q : Nat, s.heap.size ≤ q → A q := fun q h => by rw [← hAe]; exact Or.inr h
  generalize hH : s.heap = H at hP ⊢
  have hS : va_S A s.heap H [] := by rw [← hH]; exact va_S.rf
  have hl := lv_entry [.ref h0] (n := 1) (Nat.le_of_ble_eq_true rfl)
  rw [lg_entry_eq]
  generalize (lg_sl [.ref h0] ++ List.replicate (1 - (lg_sl [.ref h0]).length) Slot.unset).toArray = ls at hl ⊢
  have hl : lv_has ls 1 [(0, .ref h0)] := hl
  have hP : va_P (dC, dI) vwCl [(h0, .inr (10, xF hm h1 h2 h3 0 0 1000))] H := hP
  refine lv_aload_n hx hb dX11_lists_0 rfl (lv_at hl 0 rfl) ?_
  refine va_get (D := (dC, dI)) (ci := 10) (v := .int 0) (C := RX11) (T := TX11) (N := 9) hx hb hts (by decide +kernel) hown hK hP 0 rfl rfl 4 (by decide) (hts (.fieldLink RX11 136 "NeededLists" "madeCount" "I") (by decide +kernel)) (fun _ h9 => h9) rfl dX11_lists_1 ?_
  refine W.widen (k := 0) (n := 0) (by decide +kernel) (by decide +kernel) ?_
  exact W.iret (v := 0) hx hb hr (fun t ht hW => ⟨⟨0, (), rfl, rfl, trivial⟩, hS.F ht⟩) hS.2.2 dX11_lists_4
set_option maxHeartbeats 4000000 in
set_option maxRecDepth 100000 in
theorem c_X11_spent (l : Launch) (hl0 : l.stackTraces = false) (dC : Nat → ClassId) (dI : Nat → Nat → Nat) (h0 : Nat) (hm : Nat) (h1 : Nat) (h2 : Nat) (h3 : Nat) (sz : Nat) : Met l yX11_spent wsX11_spent ({ frames := 10, cells := 0, slots := 0, locals := 300 }) (va_Pc [.ref h0] (fun U => U.heap.size = sz ∧ va_P (dC, dI) vwCl [(h0, .inr (10, xF hm h1 h2 h3 0 0 1000)), (hm, .inr (5, [.int 0, .int 0]))] U.heap ∧ va_K (dC, dI) vwCl [] U ∧ va_D (fun _ => True) [] ∧ Gw U ∧ Gz (va_A [] sz) U U.heap)) (va_Qi (fun (r : Int32) (_ : Unit) => r = 0) (fun _ _ => True) (va_A [] sz)) 0 0 (va_A [] sz) := by
  refine Met.ofW (cc := cX11_spent) (maxL := 1) (ret := (some .int)) (by decide) rfl ?_
  intro p e s m args below meth c s₁ B hml hv
  obtain ⟨rfl, hsz, hP, hK, hD0, hG, hZ⟩ := hv
  have hx := B.exec
  have hb := B.bytes
  have hr := B.returns
  have hts := atoms_spec (ws := wsX11_spent) B.pre
  have hown : s.vm.findClass RX11 = some m.cls := findClass_of_methodNamed B.named
  have hlocks := B.notSynchronized
  subst hsz
  have hD := hD0.self (sz := s.heap.size)
  generalize hAe : va_A [] s.heap.size = A at hD hZ ⊢
  have hA : ∀ q : Nat, s.heap.size ≤ q → A q := fun q h => by rw [← hAe]; exact Or.inr h
  generalize hH : s.heap = H at hP ⊢
  have hS : va_S A s.heap H [] := by rw [← hH]; exact va_S.rf
  have hl := lv_entry [.ref h0] (n := 1) (Nat.le_of_ble_eq_true rfl)
  rw [lg_entry_eq]
  generalize (lg_sl [.ref h0] ++ List.replicate (1 - (lg_sl [.ref h0]).length) Slot.unset).toArray = ls at hl ⊢
  have hl : lv_has ls 1 [(0, .ref h0)] := hl
  have hP : va_P (dC, dI) vwCl [(h0, .inr (10, xF hm h1 h2 h3 0 0 1000)), (hm, .inr (5, [.int 0, .int 0]))] H := hP
  refine lv_aload_n hx hb dX11_spent_0 rfl (lv_at hl 0 rfl) ?_
  refine va_get (D := (dC, dI)) (ci := 10) (v := .ref hm) (C := RX11) (T := TX11) (N := 9) hx hb hts (by decide +kernel) hown hK hP 0 rfl rfl 0 (by decide) (hts (.fieldLink RX11 12 "NeededLists" "meter" "LNeededLists$Meter;") (by decide +kernel)) (fun _ h9 => h9) rfl dX11_spent_1 ?_
  refine va_getN (D := (dC, dI)) (ci := 5) (v := .int 0) (C := RX6) (T := TX6) (N := 2) (host := "NeededLists") hx hb hts (by decide +kernel) hown hK hP 1 rfl rfl 1 (by decide) (va_Nw.use rfl (hG.spentLink)) (fun _ h9 => h9) rfl dX11_spent_4 ?_
  refine W.widen (k := 0) (n := 0) (by decide +kernel) (by decide +kernel) ?_
  exact W.iret (v := 0) hx hb hr (fun t ht hW => ⟨⟨0, (), rfl, rfl, trivial⟩, hS.F ht⟩) hS.2.2 dX11_spent_7
