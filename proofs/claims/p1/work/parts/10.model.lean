set_option maxHeartbeats 4000000 in
set_option maxRecDepth 100000 in
theorem c_X12_init (l : Launch) (dC : Nat → ClassId) (dI : Nat → Nat → Nat) (g0 : Nat) (sz : Nat) : Met l yX12_init wsX12_init ({ frames := 10, cells := 16, slots := 78000, locals := 300 }) (va_Pc [.ref g0] (fun U => U.heap.size = sz ∧ va_P (dC, dI) vwCl [(g0, .inr (11, [.int 0, .null, .null, .null, .null, .null, .null, .null, .null, .null, .null, .null, .int 0, .null, .null, .int 0, .int 0, .int 0, .int 0, .int 0, .null, .null, .long 0, .int 0, .int 0, .long 0, .int 0, .int 0, .int 0, .int 0, .long 0, .null]))] U.heap ∧ va_K (dC, dI) vwCl [] U ∧ va_D (fun _ => True) [(g0, .inr (11, [.int 0, .null, .null, .null, .null, .null, .null, .null, .null, .null, .null, .null, .int 0, .null, .null, .int 0, .int 0, .int 0, .int 0, .int 0, .null, .null, .long 0, .int 0, .int 0, .long 0, .int 0, .int 0, .int 0, .int 0, .long 0, .null]))])) (va_Qv (fun _ => True) (fun (u : (Nat → Nat) × (Nat → ClassId)) (t : State) => va_P (dC, dI) vwCl [(g0, .inr (11, mF u.1 0 0 1000 0)), (u.1 1, .inl (u.2 1, 24, .inl (fun _ => 0))), (u.1 2, .inl (u.2 2, 24, .inl (fun _ => 0))), (u.1 3, .inl (u.2 3, 24, .inl (fun _ => 0))), (u.1 4, .inl (u.2 4, 24, .inl (fun _ => 0))), (u.1 5, .inl (u.2 5, 24, .inr (.inl (fun _ => 0)))), (u.1 6, .inl (u.2 6, 24, .inr (.inl (fun _ => 0)))), (u.1 13, .inl (u.2 13, 100, .inl (fun _ => 0))), (u.1 14, .inl (u.2 14, 100, .inr (.inl (fun _ => 0))))] t.heap ∧ va_K (dC, dI) vwCl [(u.2 1, .int), (u.2 2, .int), (u.2 3, .int), (u.2 4, .int), (u.2 5, .long), (u.2 6, .long), (u.2 13, .int), (u.2 14, .long)] t ∧ va_D (va_A [(g0, .inr (11, [.int 0, .null, .null, .null, .null, .null, .null, .null, .null, .null, .null, .null, .int 0, .null, .null, .int 0, .int 0, .int 0, .int 0, .int 0, .null, .null, .long 0, .int 0, .int 0, .long 0, .int 0, .int 0, .int 0, .int 0, .long 0, .null]))] sz) [(g0, .inr (11, mF u.1 0 0 1000 0)), (u.1 1, .inl (u.2 1, 24, .inl (fun _ => 0))), (u.1 2, .inl (u.2 2, 24, .inl (fun _ => 0))), (u.1 3, .inl (u.2 3, 24, .inl (fun _ => 0))), (u.1 4, .inl (u.2 4, 24, .inl (fun _ => 0))), (u.1 5, .inl (u.2 5, 24, .inr (.inl (fun _ => 0)))), (u.1 6, .inl (u.2 6, 24, .inr (.inl (fun _ => 0)))), (u.1 13, .inl (u.2 13, 100, .inl (fun _ => 0))), (u.1 14, .inl (u.2 14, 100, .inr (.inl (fun _ => 0))))]) (va_A [(g0, .inr (11, [.int 0, .null, .null, .null, .null, .null, .null, .null, .null, .null, .null, .null, .int 0, .null, .null, .int 0, .int 0, .int 0, .int 0, .int 0, .null, .null, .long 0, .int 0, .int 0, .long 0, .int 0, .int 0, .int 0, .int 0, .long 0, .null]))] sz)) 16 78000 (va_A [(g0, .inr (11, [.int 0, .null, .null, .null, .null, .null, .null, .null, .null, .null, .null, .null, .int 0, .null, .null, .int 0, .int 0, .int 0, .int 0, .int 0, .null, .null, .long 0, .int 0, .int 0, .long 0, .int 0, .int 0, .int 0, .int 0, .long 0, .null]))] sz) := by
  refine Met.ofW (cc := cX12_init) (maxL := 1) (ret := none) (by decide) rfl ?_
  intro p e s m args below meth c s₁ B hml hv
  obtain ⟨rfl, hsz, hP, hK, hD0⟩ := hv
  have hx := B.exec
  have hb := B.bytes
  have hr := B.returns
  have hts := atoms_spec (ws := wsX12_init) B.pre
  have hown : s.vm.findClass RX12 = some m.cls := findClass_of_methodNamed B.named
  have hlocks := B.notSynchronized
  have hin : meth.name = "<init>" := (name_of_methodNamed B.named B.method).1
  subst hsz
  have hD := hD0.self (sz := s.heap.size)
  generalize hAe : va_A [(g0, .inr (11, [.int 0, .null, .null, .null, .null, .null, .null, .null, .null, .null, .null, .null, .int 0, .null, .null, .int 0, .int 0, .int 0, .int 0, .int 0, .null, .null, .long 0, .int 0, .int 0, .long 0, .int 0, .int 0, .int 0, .int 0, .long 0, .null]))] s.heap.size = A at hD ⊢
  have hA : ∀ q : Nat, s.heap.size ≤ q → A q := fun q h => by rw [← hAe]; exact Or.inr h
  generalize hH : s.heap = H at hP ⊢
  have hS : va_S A s.heap H [] := by rw [← hH]; exact va_S.rf
  have hl := lv_entry [.ref g0] (n := 1) (Nat.le_of_ble_eq_true rfl)
  rw [lg_entry_eq]
  generalize (lg_sl [.ref g0] ++ List.replicate (1 - (lg_sl [.ref g0]).length) Slot.unset).toArray = ls at hl ⊢
  have hl : lv_has ls 1 [(0, .ref g0)] := hl
  have hP : va_P (dC, dI) vwCl [(g0, .inr (11, [.int 0, .null, .null, .null, .null, .null, .null, .null, .null, .null, .null, .null, .int 0, .null, .null, .int 0, .int 0, .int 0, .int 0, .int 0, .null, .null, .long 0, .int 0, .int 0, .long 0, .int 0, .int 0, .int 0, .int 0, .long 0, .null]))] H := hP
  refine lv_aload_n hx hb dX12_init_0 rfl (lv_at hl 0 rfl) ?_
  refine W.objInit hx hb hown (hts (.methodLink RX12 1 objectInit) (by decide +kernel)) (hts (.instanceMethod objectInit) (by decide +kernel)) (hts (.code objectInit ⟨#[0xb1]⟩ 1 none) (by decide +kernel)) rfl (by rw [hml]; exact hl.1) rfl dX12_init_1 (Nat.le_of_ble_eq_true rfl) (Nat.le_of_ble_eq_true rfl) ?_
  refine W.eq (g2 := F0 m 4 ls []) rfl ?_
  refine lv_aload_n hx hb dX12_init_4 rfl (lv_at hl 0 rfl) ?_
  refine lv_bipush (v := 24) hx hb dX12_init_5 (by decide) ?_
  refine va_newa (atype := .int) (ty := .int) (N' := 24) (a0 := (24, .inl (fun _ => 0))) hx hb (hts (.arrayClass .int) (by decide +kernel)) rfl hK hP hD hS hA (nd_aint 24) (by decide +kernel) (by decide +kernel) (by decide +kernel) (by decide +kernel) (by decide +kernel) dX12_init_7 (fun q_1 cA_2 H hK hP hD hS => ?_)
  have hP : va_P (dC, dI) vwCl [(g0, .inr (11, [.int 0, .null, .null, .null, .null, .null, .null, .null, .null, .null, .null, .null, .int 0, .null, .null, .int 0, .int 0, .int 0, .int 0, .int 0, .null, .null, .long 0, .int 0, .int 0, .long 0, .int 0, .int 0, .int 0, .int 0, .long 0, .null])), (q_1, .inl (cA_2, 24, .inl (fun _ => 0)))] H := hP
  have hD : va_D A [(g0, .inr (11, [.int 0, .null, .null, .null, .null, .null, .null, .null, .null, .null, .null, .null, .int 0, .null, .null, .int 0, .int 0, .int 0, .int 0, .int 0, .null, .null, .long 0, .int 0, .int 0, .long 0, .int 0, .int 0, .int 0, .int 0, .long 0, .null])), (q_1, .inl (cA_2, 24, .inl (fun _ => 0)))] := hD
  have hK : va_K (dC, dI) vwCl [(cA_2, .int)] s := hK
  refine W.widen (k := 1) (n := 24) (by decide +kernel) (by decide +kernel) ?_
  refine va_putF (D := (dC, dI)) (ci := 11) (v := .ref q_1) (ty := (.array .int)) (C := RX12) (T := TX12) (N := 32) hx hb hts (by decide +kernel) tyX12 tyX12_ok nmX12 hown hK hP hD hS 0 rfl rfl 1 (by decide) (hts (.fieldLink RX12 7 "NeededListsModel" "sort" "[I") (by decide +kernel)) (fun _ h9 => h9) rfl hin rfl (by decide +kernel) rfl rfl (Nat.le_of_ble_eq_true rfl) dX12_init_9 (fun H locs hP hD hS => ?_)
  have hP : va_P (dC, dI) vwCl [(g0, .inr (11, [.int 0, .ref q_1, .null, .null, .null, .null, .null, .null, .null, .null, .null, .null, .int 0, .null, .null, .int 0, .int 0, .int 0, .int 0, .int 0, .null, .null, .long 0, .int 0, .int 0, .long 0, .int 0, .int 0, .int 0, .int 0, .long 0, .null])), (q_1, .inl (cA_2, 24, .inl (fun _ => 0)))] H := hP
  have hD : va_D A [(g0, .inr (11, [.int 0, .ref q_1, .null, .null, .null, .null, .null, .null, .null, .null, .null, .null, .int 0, .null, .null, .int 0, .int 0, .int 0, .int 0, .int 0, .null, .null, .long 0, .int 0, .int 0, .long 0, .int 0, .int 0, .int 0, .int 0, .long 0, .null])), (q_1, .inl (cA_2, 24, .inl (fun _ => 0)))] := hD
  refine lv_aload_n hx hb dX12_init_12 rfl (lv_at hl 0 rfl) ?_
  refine lv_bipush (v := 24) hx hb dX12_init_13 (by decide) ?_
  refine va_newa (atype := .int) (ty := .int) (N' := 24) (a0 := (24, .inl (fun _ => 0))) hx hb (hts (.arrayClass .int) (by decide +kernel)) rfl hK hP hD hS hA (nd_aint 24) (by decide +kernel) (by decide +kernel) (by decide +kernel) (by decide +kernel) (by decide +kernel) dX12_init_15 (fun q_3 cA_4 H hK hP hD hS => ?_)
  have hP : va_P (dC, dI) vwCl [(g0, .inr (11, [.int 0, .ref q_1, .null, .null, .null, .null, .null, .null, .null, .null, .null, .null, .int 0, .null, .null, .int 0, .int 0, .int 0, .int 0, .int 0, .null, .null, .long 0, .int 0, .int 0, .long 0, .int 0, .int 0, .int 0, .int 0, .long 0, .null])), (q_1, .inl (cA_2, 24, .inl (fun _ => 0))), (q_3, .inl (cA_4, 24, .inl (fun _ => 0)))] H := hP
  have hD : va_D A [(g0, .inr (11, [.int 0, .ref q_1, .null, .null, .null, .null, .null, .null, .null, .null, .null, .null, .int 0, .null, .null, .int 0, .int 0, .int 0, .int 0, .int 0, .null, .null, .long 0, .int 0, .int 0, .long 0, .int 0, .int 0, .int 0, .int 0, .long 0, .null])), (q_1, .inl (cA_2, 24, .inl (fun _ => 0))), (q_3, .inl (cA_4, 24, .inl (fun _ => 0)))] := hD
  have hK : va_K (dC, dI) vwCl [(cA_2, .int), (cA_4, .int)] s := hK
  refine W.widen (k := 2) (n := 48) (by decide +kernel) (by decide +kernel) ?_
  refine va_putF (D := (dC, dI)) (ci := 11) (v := .ref q_3) (ty := (.array .int)) (C := RX12) (T := TX12) (N := 32) hx hb hts (by decide +kernel) tyX12 tyX12_ok nmX12 hown hK hP hD hS 0 rfl rfl 2 (by decide) (hts (.fieldLink RX12 13 "NeededListsModel" "first" "[I") (by decide +kernel)) (fun _ h9 => h9) rfl hin rfl (by decide +kernel) rfl rfl (Nat.le_of_ble_eq_true rfl) dX12_init_17 (fun H locs hP hD hS => ?_)
  have hP : va_P (dC, dI) vwCl [(g0, .inr (11, [.int 0, .ref q_1, .ref q_3, .null, .null, .null, .null, .null, .null, .null, .null, .null, .int 0, .null, .null, .int 0, .int 0, .int 0, .int 0, .int 0, .null, .null, .long 0, .int 0, .int 0, .long 0, .int 0, .int 0, .int 0, .int 0, .long 0, .null])), (q_1, .inl (cA_2, 24, .inl (fun _ => 0))), (q_3, .inl (cA_4, 24, .inl (fun _ => 0)))] H := hP
  have hD : va_D A [(g0, .inr (11, [.int 0, .ref q_1, .ref q_3, .null, .null, .null, .null, .null, .null, .null, .null, .null, .int 0, .null, .null, .int 0, .int 0, .int 0, .int 0, .int 0, .null, .null, .long 0, .int 0, .int 0, .long 0, .int 0, .int 0, .int 0, .int 0, .long 0, .null])), (q_1, .inl (cA_2, 24, .inl (fun _ => 0))), (q_3, .inl (cA_4, 24, .inl (fun _ => 0)))] := hD
  refine lv_aload_n hx hb dX12_init_20 rfl (lv_at hl 0 rfl) ?_
  refine lv_bipush (v := 24) hx hb dX12_init_21 (by decide) ?_
  refine va_newa (atype := .int) (ty := .int) (N' := 24) (a0 := (24, .inl (fun _ => 0))) hx hb (hts (.arrayClass .int) (by decide +kernel)) rfl hK hP hD hS hA (nd_aint 24) (by decide +kernel) (by decide +kernel) (by decide +kernel) (by decide +kernel) (by decide +kernel) dX12_init_23 (fun q_5 cA_6 H hK hP hD hS => ?_)
  have hP : va_P (dC, dI) vwCl [(g0, .inr (11, [.int 0, .ref q_1, .ref q_3, .null, .null, .null, .null, .null, .null, .null, .null, .null, .int 0, .null, .null, .int 0, .int 0, .int 0, .int 0, .int 0, .null, .null, .long 0, .int 0, .int 0, .long 0, .int 0, .int 0, .int 0, .int 0, .long 0, .null])), (q_1, .inl (cA_2, 24, .inl (fun _ => 0))), (q_3, .inl (cA_4, 24, .inl (fun _ => 0))), (q_5, .inl (cA_6, 24, .inl (fun _ => 0)))] H := hP
  have hD : va_D A [(g0, .inr (11, [.int 0, .ref q_1, .ref q_3, .null, .null, .null, .null, .null, .null, .null, .null, .null, .int 0, .null, .null, .int 0, .int 0, .int 0, .int 0, .int 0, .null, .null, .long 0, .int 0, .int 0, .long 0, .int 0, .int 0, .int 0, .int 0, .long 0, .null])), (q_1, .inl (cA_2, 24, .inl (fun _ => 0))), (q_3, .inl (cA_4, 24, .inl (fun _ => 0))), (q_5, .inl (cA_6, 24, .inl (fun _ => 0)))] := hD
  have hK : va_K (dC, dI) vwCl [(cA_2, .int), (cA_4, .int), (cA_6, .int)] s := hK
  refine W.widen (k := 3) (n := 72) (by decide +kernel) (by decide +kernel) ?_
  refine va_putF (D := (dC, dI)) (ci := 11) (v := .ref q_5) (ty := (.array .int)) (C := RX12) (T := TX12) (N := 32) hx hb hts (by decide +kernel) tyX12 tyX12_ok nmX12 hown hK hP hD hS 0 rfl rfl 3 (by decide) (hts (.fieldLink RX12 16 "NeededListsModel" "second" "[I") (by decide +kernel)) (fun _ h9 => h9) rfl hin rfl (by decide +kernel) rfl rfl (Nat.le_of_ble_eq_true rfl) dX12_init_25 (fun H locs hP hD hS => ?_)
  have hP : va_P (dC, dI) vwCl [(g0, .inr (11, [.int 0, .ref q_1, .ref q_3, .ref q_5, .null, .null, .null, .null, .null, .null, .null, .null, .int 0, .null, .null, .int 0, .int 0, .int 0, .int 0, .int 0, .null, .null, .long 0, .int 0, .int 0, .long 0, .int 0, .int 0, .int 0, .int 0, .long 0, .null])), (q_1, .inl (cA_2, 24, .inl (fun _ => 0))), (q_3, .inl (cA_4, 24, .inl (fun _ => 0))), (q_5, .inl (cA_6, 24, .inl (fun _ => 0)))] H := hP
  have hD : va_D A [(g0, .inr (11, [.int 0, .ref q_1, .ref q_3, .ref q_5, .null, .null, .null, .null, .null, .null, .null, .null, .int 0, .null, .null, .int 0, .int 0, .int 0, .int 0, .int 0, .null, .null, .long 0, .int 0, .int 0, .long 0, .int 0, .int 0, .int 0, .int 0, .long 0, .null])), (q_1, .inl (cA_2, 24, .inl (fun _ => 0))), (q_3, .inl (cA_4, 24, .inl (fun _ => 0))), (q_5, .inl (cA_6, 24, .inl (fun _ => 0)))] := hD
  refine lv_aload_n hx hb dX12_init_28 rfl (lv_at hl 0 rfl) ?_
  refine lv_bipush (v := 24) hx hb dX12_init_29 (by decide) ?_
  refine va_newa (atype := .int) (ty := .int) (N' := 24) (a0 := (24, .inl (fun _ => 0))) hx hb (hts (.arrayClass .int) (by decide +kernel)) rfl hK hP hD hS hA (nd_aint 24) (by decide +kernel) (by decide +kernel) (by decide +kernel) (by decide +kernel) (by decide +kernel) dX12_init_31 (fun q_7 cA_8 H hK hP hD hS => ?_)
  have hP : va_P (dC, dI) vwCl [(g0, .inr (11, [.int 0, .ref q_1, .ref q_3, .ref q_5, .null, .null, .null, .null, .null, .null, .null, .null, .int 0, .null, .null, .int 0, .int 0, .int 0, .int 0, .int 0, .null, .null, .long 0, .int 0, .int 0, .long 0, .int 0, .int 0, .int 0, .int 0, .long 0, .null])), (q_1, .inl (cA_2, 24, .inl (fun _ => 0))), (q_3, .inl (cA_4, 24, .inl (fun _ => 0))), (q_5, .inl (cA_6, 24, .inl (fun _ => 0))), (q_7, .inl (cA_8, 24, .inl (fun _ => 0)))] H := hP
  have hD : va_D A [(g0, .inr (11, [.int 0, .ref q_1, .ref q_3, .ref q_5, .null, .null, .null, .null, .null, .null, .null, .null, .int 0, .null, .null, .int 0, .int 0, .int 0, .int 0, .int 0, .null, .null, .long 0, .int 0, .int 0, .long 0, .int 0, .int 0, .int 0, .int 0, .long 0, .null])), (q_1, .inl (cA_2, 24, .inl (fun _ => 0))), (q_3, .inl (cA_4, 24, .inl (fun _ => 0))), (q_5, .inl (cA_6, 24, .inl (fun _ => 0))), (q_7, .inl (cA_8, 24, .inl (fun _ => 0)))] := hD
  have hK : va_K (dC, dI) vwCl [(cA_2, .int), (cA_4, .int), (cA_6, .int), (cA_8, .int)] s := hK
  refine W.widen (k := 4) (n := 96) (by decide +kernel) (by decide +kernel) ?_
  refine va_putF (D := (dC, dI)) (ci := 11) (v := .ref q_7) (ty := (.array .int)) (C := RX12) (T := TX12) (N := 32) hx hb hts (by decide +kernel) tyX12 tyX12_ok nmX12 hown hK hP hD hS 0 rfl rfl 4 (by decide) (hts (.fieldLink RX12 19 "NeededListsModel" "code" "[I") (by decide +kernel)) (fun _ h9 => h9) rfl hin rfl (by decide +kernel) rfl rfl (Nat.le_of_ble_eq_true rfl) dX12_init_33 (fun H locs hP hD hS => ?_)
  have hP : va_P (dC, dI) vwCl [(g0, .inr (11, [.int 0, .ref q_1, .ref q_3, .ref q_5, .ref q_7, .null, .null, .null, .null, .null, .null, .null, .int 0, .null, .null, .int 0, .int 0, .int 0, .int 0, .int 0, .null, .null, .long 0, .int 0, .int 0, .long 0, .int 0, .int 0, .int 0, .int 0, .long 0, .null])), (q_1, .inl (cA_2, 24, .inl (fun _ => 0))), (q_3, .inl (cA_4, 24, .inl (fun _ => 0))), (q_5, .inl (cA_6, 24, .inl (fun _ => 0))), (q_7, .inl (cA_8, 24, .inl (fun _ => 0)))] H := hP
  have hD : va_D A [(g0, .inr (11, [.int 0, .ref q_1, .ref q_3, .ref q_5, .ref q_7, .null, .null, .null, .null, .null, .null, .null, .int 0, .null, .null, .int 0, .int 0, .int 0, .int 0, .int 0, .null, .null, .long 0, .int 0, .int 0, .long 0, .int 0, .int 0, .int 0, .int 0, .long 0, .null])), (q_1, .inl (cA_2, 24, .inl (fun _ => 0))), (q_3, .inl (cA_4, 24, .inl (fun _ => 0))), (q_5, .inl (cA_6, 24, .inl (fun _ => 0))), (q_7, .inl (cA_8, 24, .inl (fun _ => 0)))] := hD
  refine lv_aload_n hx hb dX12_init_36 rfl (lv_at hl 0 rfl) ?_
  refine lv_bipush (v := 24) hx hb dX12_init_37 (by decide) ?_
  refine va_newa (atype := .long) (ty := .long) (N' := 24) (a0 := (24, .inr (.inl (fun _ => 0)))) hx hb (hts (.arrayClass .long) (by decide +kernel)) rfl hK hP hD hS hA (nd_along 24) (by decide +kernel) (by decide +kernel) (by decide +kernel) (by decide +kernel) (by decide +kernel) dX12_init_39 (fun q_9 cA_10 H hK hP hD hS => ?_)
  have hP : va_P (dC, dI) vwCl [(g0, .inr (11, [.int 0, .ref q_1, .ref q_3, .ref q_5, .ref q_7, .null, .null, .null, .null, .null, .null, .null, .int 0, .null, .null, .int 0, .int 0, .int 0, .int 0, .int 0, .null, .null, .long 0, .int 0, .int 0, .long 0, .int 0, .int 0, .int 0, .int 0, .long 0, .null])), (q_1, .inl (cA_2, 24, .inl (fun _ => 0))), (q_3, .inl (cA_4, 24, .inl (fun _ => 0))), (q_5, .inl (cA_6, 24, .inl (fun _ => 0))), (q_7, .inl (cA_8, 24, .inl (fun _ => 0))), (q_9, .inl (cA_10, 24, .inr (.inl (fun _ => 0))))] H := hP
  have hD : va_D A [(g0, .inr (11, [.int 0, .ref q_1, .ref q_3, .ref q_5, .ref q_7, .null, .null, .null, .null, .null, .null, .null, .int 0, .null, .null, .int 0, .int 0, .int 0, .int 0, .int 0, .null, .null, .long 0, .int 0, .int 0, .long 0, .int 0, .int 0, .int 0, .int 0, .long 0, .null])), (q_1, .inl (cA_2, 24, .inl (fun _ => 0))), (q_3, .inl (cA_4, 24, .inl (fun _ => 0))), (q_5, .inl (cA_6, 24, .inl (fun _ => 0))), (q_7, .inl (cA_8, 24, .inl (fun _ => 0))), (q_9, .inl (cA_10, 24, .inr (.inl (fun _ => 0))))] := hD
  have hK : va_K (dC, dI) vwCl [(cA_2, .int), (cA_4, .int), (cA_6, .int), (cA_8, .int), (cA_10, .long)] s := hK
  refine W.widen (k := 5) (n := 120) (by decide +kernel) (by decide +kernel) ?_
  refine va_putF (D := (dC, dI)) (ci := 11) (v := .ref q_9) (ty := (.array .long)) (C := RX12) (T := TX12) (N := 32) hx hb hts (by decide +kernel) tyX12 tyX12_ok nmX12 hown hK hP hD hS 0 rfl rfl 5 (by decide) (hts (.fieldLink RX12 22 "NeededListsModel" "number" "[J") (by decide +kernel)) (fun _ h9 => h9) rfl hin rfl (by decide +kernel) rfl rfl (Nat.le_of_ble_eq_true rfl) dX12_init_41 (fun H locs hP hD hS => ?_)
  have hP : va_P (dC, dI) vwCl [(g0, .inr (11, [.int 0, .ref q_1, .ref q_3, .ref q_5, .ref q_7, .ref q_9, .null, .null, .null, .null, .null, .null, .int 0, .null, .null, .int 0, .int 0, .int 0, .int 0, .int 0, .null, .null, .long 0, .int 0, .int 0, .long 0, .int 0, .int 0, .int 0, .int 0, .long 0, .null])), (q_1, .inl (cA_2, 24, .inl (fun _ => 0))), (q_3, .inl (cA_4, 24, .inl (fun _ => 0))), (q_5, .inl (cA_6, 24, .inl (fun _ => 0))), (q_7, .inl (cA_8, 24, .inl (fun _ => 0))), (q_9, .inl (cA_10, 24, .inr (.inl (fun _ => 0))))] H := hP
  have hD : va_D A [(g0, .inr (11, [.int 0, .ref q_1, .ref q_3, .ref q_5, .ref q_7, .ref q_9, .null, .null, .null, .null, .null, .null, .int 0, .null, .null, .int 0, .int 0, .int 0, .int 0, .int 0, .null, .null, .long 0, .int 0, .int 0, .long 0, .int 0, .int 0, .int 0, .int 0, .long 0, .null])), (q_1, .inl (cA_2, 24, .inl (fun _ => 0))), (q_3, .inl (cA_4, 24, .inl (fun _ => 0))), (q_5, .inl (cA_6, 24, .inl (fun _ => 0))), (q_7, .inl (cA_8, 24, .inl (fun _ => 0))), (q_9, .inl (cA_10, 24, .inr (.inl (fun _ => 0))))] := hD
  refine lv_aload_n hx hb dX12_init_44 rfl (lv_at hl 0 rfl) ?_
  refine lv_bipush (v := 24) hx hb dX12_init_45 (by decide) ?_
  refine va_newa (atype := .long) (ty := .long) (N' := 24) (a0 := (24, .inr (.inl (fun _ => 0)))) hx hb (hts (.arrayClass .long) (by decide +kernel)) rfl hK hP hD hS hA (nd_along 24) (by decide +kernel) (by decide +kernel) (by decide +kernel) (by decide +kernel) (by decide +kernel) dX12_init_47 (fun q_11 cA_12 H hK hP hD hS => ?_)
  have hP : va_P (dC, dI) vwCl [(g0, .inr (11, [.int 0, .ref q_1, .ref q_3, .ref q_5, .ref q_7, .ref q_9, .null, .null, .null, .null, .null, .null, .int 0, .null, .null, .int 0, .int 0, .int 0, .int 0, .int 0, .null, .null, .long 0, .int 0, .int 0, .long 0, .int 0, .int 0, .int 0, .int 0, .long 0, .null])), (q_1, .inl (cA_2, 24, .inl (fun _ => 0))), (q_3, .inl (cA_4, 24, .inl (fun _ => 0))), (q_5, .inl (cA_6, 24, .inl (fun _ => 0))), (q_7, .inl (cA_8, 24, .inl (fun _ => 0))), (q_9, .inl (cA_10, 24, .inr (.inl (fun _ => 0)))), (q_11, .inl (cA_12, 24, .inr (.inl (fun _ => 0))))] H := hP
  have hD : va_D A [(g0, .inr (11, [.int 0, .ref q_1, .ref q_3, .ref q_5, .ref q_7, .ref q_9, .null, .null, .null, .null, .null, .null, .int 0, .null, .null, .int 0, .int 0, .int 0, .int 0, .int 0, .null, .null, .long 0, .int 0, .int 0, .long 0, .int 0, .int 0, .int 0, .int 0, .long 0, .null])), (q_1, .inl (cA_2, 24, .inl (fun _ => 0))), (q_3, .inl (cA_4, 24, .inl (fun _ => 0))), (q_5, .inl (cA_6, 24, .inl (fun _ => 0))), (q_7, .inl (cA_8, 24, .inl (fun _ => 0))), (q_9, .inl (cA_10, 24, .inr (.inl (fun _ => 0)))), (q_11, .inl (cA_12, 24, .inr (.inl (fun _ => 0))))] := hD
  have hK : va_K (dC, dI) vwCl [(cA_2, .int), (cA_4, .int), (cA_6, .int), (cA_8, .int), (cA_10, .long), (cA_12, .long)] s := hK
  refine W.widen (k := 6) (n := 144) (by decide +kernel) (by decide +kernel) ?_
  refine va_putF (D := (dC, dI)) (ci := 11) (v := .ref q_11) (ty := (.array .long)) (C := RX12) (T := TX12) (N := 32) hx hb hts (by decide +kernel) tyX12 tyX12_ok nmX12 hown hK hP hD hS 0 rfl rfl 6 (by decide) (hts (.fieldLink RX12 26 "NeededListsModel" "other" "[J") (by decide +kernel)) (fun _ h9 => h9) rfl hin rfl (by decide +kernel) rfl rfl (Nat.le_of_ble_eq_true rfl) dX12_init_49 (fun H locs hP hD hS => ?_)
  have hP : va_P (dC, dI) vwCl [(g0, .inr (11, [.int 0, .ref q_1, .ref q_3, .ref q_5, .ref q_7, .ref q_9, .ref q_11, .null, .null, .null, .null, .null, .int 0, .null, .null, .int 0, .int 0, .int 0, .int 0, .int 0, .null, .null, .long 0, .int 0, .int 0, .long 0, .int 0, .int 0, .int 0, .int 0, .long 0, .null])), (q_1, .inl (cA_2, 24, .inl (fun _ => 0))), (q_3, .inl (cA_4, 24, .inl (fun _ => 0))), (q_5, .inl (cA_6, 24, .inl (fun _ => 0))), (q_7, .inl (cA_8, 24, .inl (fun _ => 0))), (q_9, .inl (cA_10, 24, .inr (.inl (fun _ => 0)))), (q_11, .inl (cA_12, 24, .inr (.inl (fun _ => 0))))] H := hP
  have hD : va_D A [(g0, .inr (11, [.int 0, .ref q_1, .ref q_3, .ref q_5, .ref q_7, .ref q_9, .ref q_11, .null, .null, .null, .null, .null, .int 0, .null, .null, .int 0, .int 0, .int 0, .int 0, .int 0, .null, .null, .long 0, .int 0, .int 0, .long 0, .int 0, .int 0, .int 0, .int 0, .long 0, .null])), (q_1, .inl (cA_2, 24, .inl (fun _ => 0))), (q_3, .inl (cA_4, 24, .inl (fun _ => 0))), (q_5, .inl (cA_6, 24, .inl (fun _ => 0))), (q_7, .inl (cA_8, 24, .inl (fun _ => 0))), (q_9, .inl (cA_10, 24, .inr (.inl (fun _ => 0)))), (q_11, .inl (cA_12, 24, .inr (.inl (fun _ => 0))))] := hD
  refine lv_aload_n hx hb dX12_init_52 rfl (lv_at hl 0 rfl) ?_
  refine lv_sipush (v := 9600) hx hb dX12_init_53 (by decide) ?_
  refine va_newa (atype := .int) (ty := .int) (N' := 9600) (a0 := (9600, .inl (fun _ => 0))) hx hb (hts (.arrayClass .int) (by decide +kernel)) rfl hK hP hD hS hA (nd_aint 9600) (by decide +kernel) (by decide +kernel) (by decide +kernel) (by decide +kernel) (by decide +kernel) dX12_init_56 (fun q_13 cA_14 H hK hP hD hS => ?_)
  have hP : va_P (dC, dI) vwCl [(g0, .inr (11, [.int 0, .ref q_1, .ref q_3, .ref q_5, .ref q_7, .ref q_9, .ref q_11, .null, .null, .null, .null, .null, .int 0, .null, .null, .int 0, .int 0, .int 0, .int 0, .int 0, .null, .null, .long 0, .int 0, .int 0, .long 0, .int 0, .int 0, .int 0, .int 0, .long 0, .null])), (q_1, .inl (cA_2, 24, .inl (fun _ => 0))), (q_3, .inl (cA_4, 24, .inl (fun _ => 0))), (q_5, .inl (cA_6, 24, .inl (fun _ => 0))), (q_7, .inl (cA_8, 24, .inl (fun _ => 0))), (q_9, .inl (cA_10, 24, .inr (.inl (fun _ => 0)))), (q_11, .inl (cA_12, 24, .inr (.inl (fun _ => 0)))), (q_13, .inl (cA_14, 9600, .inl (fun _ => 0)))] H := hP
  have hD : va_D A [(g0, .inr (11, [.int 0, .ref q_1, .ref q_3, .ref q_5, .ref q_7, .ref q_9, .ref q_11, .null, .null, .null, .null, .null, .int 0, .null, .null, .int 0, .int 0, .int 0, .int 0, .int 0, .null, .null, .long 0, .int 0, .int 0, .long 0, .int 0, .int 0, .int 0, .int 0, .long 0, .null])), (q_1, .inl (cA_2, 24, .inl (fun _ => 0))), (q_3, .inl (cA_4, 24, .inl (fun _ => 0))), (q_5, .inl (cA_6, 24, .inl (fun _ => 0))), (q_7, .inl (cA_8, 24, .inl (fun _ => 0))), (q_9, .inl (cA_10, 24, .inr (.inl (fun _ => 0)))), (q_11, .inl (cA_12, 24, .inr (.inl (fun _ => 0)))), (q_13, .inl (cA_14, 9600, .inl (fun _ => 0)))] := hD
  have hK : va_K (dC, dI) vwCl [(cA_2, .int), (cA_4, .int), (cA_6, .int), (cA_8, .int), (cA_10, .long), (cA_12, .long), (cA_14, .int)] s := hK
  refine W.widen (k := 7) (n := 9744) (by decide +kernel) (by decide +kernel) ?_
  refine va_putF (D := (dC, dI)) (ci := 11) (v := .ref q_13) (ty := (.array .int)) (C := RX12) (T := TX12) (N := 32) hx hb hts (by decide +kernel) tyX12 tyX12_ok nmX12 hown hK hP hD hS 0 rfl rfl 7 (by decide) (hts (.fieldLink RX12 29 "NeededListsModel" "cell" "[I") (by decide +kernel)) (fun _ h9 => h9) rfl hin rfl (by decide +kernel) rfl rfl (Nat.le_of_ble_eq_true rfl) dX12_init_58 (fun H locs hP hD hS => ?_)
  have hP : va_P (dC, dI) vwCl [(g0, .inr (11, [.int 0, .ref q_1, .ref q_3, .ref q_5, .ref q_7, .ref q_9, .ref q_11, .ref q_13, .null, .null, .null, .null, .int 0, .null, .null, .int 0, .int 0, .int 0, .int 0, .int 0, .null, .null, .long 0, .int 0, .int 0, .long 0, .int 0, .int 0, .int 0, .int 0, .long 0, .null])), (q_1, .inl (cA_2, 24, .inl (fun _ => 0))), (q_3, .inl (cA_4, 24, .inl (fun _ => 0))), (q_5, .inl (cA_6, 24, .inl (fun _ => 0))), (q_7, .inl (cA_8, 24, .inl (fun _ => 0))), (q_9, .inl (cA_10, 24, .inr (.inl (fun _ => 0)))), (q_11, .inl (cA_12, 24, .inr (.inl (fun _ => 0)))), (q_13, .inl (cA_14, 9600, .inl (fun _ => 0)))] H := hP
  have hD : va_D A [(g0, .inr (11, [.int 0, .ref q_1, .ref q_3, .ref q_5, .ref q_7, .ref q_9, .ref q_11, .ref q_13, .null, .null, .null, .null, .int 0, .null, .null, .int 0, .int 0, .int 0, .int 0, .int 0, .null, .null, .long 0, .int 0, .int 0, .long 0, .int 0, .int 0, .int 0, .int 0, .long 0, .null])), (q_1, .inl (cA_2, 24, .inl (fun _ => 0))), (q_3, .inl (cA_4, 24, .inl (fun _ => 0))), (q_5, .inl (cA_6, 24, .inl (fun _ => 0))), (q_7, .inl (cA_8, 24, .inl (fun _ => 0))), (q_9, .inl (cA_10, 24, .inr (.inl (fun _ => 0)))), (q_11, .inl (cA_12, 24, .inr (.inl (fun _ => 0)))), (q_13, .inl (cA_14, 9600, .inl (fun _ => 0)))] := hD
  refine lv_aload_n hx hb dX12_init_61 rfl (lv_at hl 0 rfl) ?_
  refine lv_sipush (v := 9600) hx hb dX12_init_62 (by decide) ?_
  refine va_newa (atype := .int) (ty := .int) (N' := 9600) (a0 := (9600, .inl (fun _ => 0))) hx hb (hts (.arrayClass .int) (by decide +kernel)) rfl hK hP hD hS hA (nd_aint 9600) (by decide +kernel) (by decide +kernel) (by decide +kernel) (by decide +kernel) (by decide +kernel) dX12_init_65 (fun q_15 cA_16 H hK hP hD hS => ?_)
  have hP : va_P (dC, dI) vwCl [(g0, .inr (11, [.int 0, .ref q_1, .ref q_3, .ref q_5, .ref q_7, .ref q_9, .ref q_11, .ref q_13, .null, .null, .null, .null, .int 0, .null, .null, .int 0, .int 0, .int 0, .int 0, .int 0, .null, .null, .long 0, .int 0, .int 0, .long 0, .int 0, .int 0, .int 0, .int 0, .long 0, .null])), (q_1, .inl (cA_2, 24, .inl (fun _ => 0))), (q_3, .inl (cA_4, 24, .inl (fun _ => 0))), (q_5, .inl (cA_6, 24, .inl (fun _ => 0))), (q_7, .inl (cA_8, 24, .inl (fun _ => 0))), (q_9, .inl (cA_10, 24, .inr (.inl (fun _ => 0)))), (q_11, .inl (cA_12, 24, .inr (.inl (fun _ => 0)))), (q_13, .inl (cA_14, 9600, .inl (fun _ => 0))), (q_15, .inl (cA_16, 9600, .inl (fun _ => 0)))] H := hP
  have hD : va_D A [(g0, .inr (11, [.int 0, .ref q_1, .ref q_3, .ref q_5, .ref q_7, .ref q_9, .ref q_11, .ref q_13, .null, .null, .null, .null, .int 0, .null, .null, .int 0, .int 0, .int 0, .int 0, .int 0, .null, .null, .long 0, .int 0, .int 0, .long 0, .int 0, .int 0, .int 0, .int 0, .long 0, .null])), (q_1, .inl (cA_2, 24, .inl (fun _ => 0))), (q_3, .inl (cA_4, 24, .inl (fun _ => 0))), (q_5, .inl (cA_6, 24, .inl (fun _ => 0))), (q_7, .inl (cA_8, 24, .inl (fun _ => 0))), (q_9, .inl (cA_10, 24, .inr (.inl (fun _ => 0)))), (q_11, .inl (cA_12, 24, .inr (.inl (fun _ => 0)))), (q_13, .inl (cA_14, 9600, .inl (fun _ => 0))), (q_15, .inl (cA_16, 9600, .inl (fun _ => 0)))] := hD
  have hK : va_K (dC, dI) vwCl [(cA_2, .int), (cA_4, .int), (cA_6, .int), (cA_8, .int), (cA_10, .long), (cA_12, .long), (cA_14, .int), (cA_16, .int)] s := hK
  refine W.widen (k := 8) (n := 19344) (by decide +kernel) (by decide +kernel) ?_
  refine va_putF (D := (dC, dI)) (ci := 11) (v := .ref q_15) (ty := (.array .int)) (C := RX12) (T := TX12) (N := 32) hx hb hts (by decide +kernel) tyX12 tyX12_ok nmX12 hown hK hP hD hS 0 rfl rfl 8 (by decide) (hts (.fieldLink RX12 32 "NeededListsModel" "item" "[I") (by decide +kernel)) (fun _ h9 => h9) rfl hin rfl (by decide +kernel) rfl rfl (Nat.le_of_ble_eq_true rfl) dX12_init_67 (fun H locs hP hD hS => ?_)
  have hP : va_P (dC, dI) vwCl [(g0, .inr (11, [.int 0, .ref q_1, .ref q_3, .ref q_5, .ref q_7, .ref q_9, .ref q_11, .ref q_13, .ref q_15, .null, .null, .null, .int 0, .null, .null, .int 0, .int 0, .int 0, .int 0, .int 0, .null, .null, .long 0, .int 0, .int 0, .long 0, .int 0, .int 0, .int 0, .int 0, .long 0, .null])), (q_1, .inl (cA_2, 24, .inl (fun _ => 0))), (q_3, .inl (cA_4, 24, .inl (fun _ => 0))), (q_5, .inl (cA_6, 24, .inl (fun _ => 0))), (q_7, .inl (cA_8, 24, .inl (fun _ => 0))), (q_9, .inl (cA_10, 24, .inr (.inl (fun _ => 0)))), (q_11, .inl (cA_12, 24, .inr (.inl (fun _ => 0)))), (q_13, .inl (cA_14, 9600, .inl (fun _ => 0))), (q_15, .inl (cA_16, 9600, .inl (fun _ => 0)))] H := hP
  have hD : va_D A [(g0, .inr (11, [.int 0, .ref q_1, .ref q_3, .ref q_5, .ref q_7, .ref q_9, .ref q_11, .ref q_13, .ref q_15, .null, .null, .null, .int 0, .null, .null, .int 0, .int 0, .int 0, .int 0, .int 0, .null, .null, .long 0, .int 0, .int 0, .long 0, .int 0, .int 0, .int 0, .int 0, .long 0, .null])), (q_1, .inl (cA_2, 24, .inl (fun _ => 0))), (q_3, .inl (cA_4, 24, .inl (fun _ => 0))), (q_5, .inl (cA_6, 24, .inl (fun _ => 0))), (q_7, .inl (cA_8, 24, .inl (fun _ => 0))), (q_9, .inl (cA_10, 24, .inr (.inl (fun _ => 0)))), (q_11, .inl (cA_12, 24, .inr (.inl (fun _ => 0)))), (q_13, .inl (cA_14, 9600, .inl (fun _ => 0))), (q_15, .inl (cA_16, 9600, .inl (fun _ => 0)))] := hD
  refine lv_aload_n hx hb dX12_init_70 rfl (lv_at hl 0 rfl) ?_
  refine lv_sipush (v := 9600) hx hb dX12_init_71 (by decide) ?_
  refine va_newa (atype := .long) (ty := .long) (N' := 9600) (a0 := (9600, .inr (.inl (fun _ => 0)))) hx hb (hts (.arrayClass .long) (by decide +kernel)) rfl hK hP hD hS hA (nd_along 9600) (by decide +kernel) (by decide +kernel) (by decide +kernel) (by decide +kernel) (by decide +kernel) dX12_init_74 (fun q_17 cA_18 H hK hP hD hS => ?_)
  have hP : va_P (dC, dI) vwCl [(g0, .inr (11, [.int 0, .ref q_1, .ref q_3, .ref q_5, .ref q_7, .ref q_9, .ref q_11, .ref q_13, .ref q_15, .null, .null, .null, .int 0, .null, .null, .int 0, .int 0, .int 0, .int 0, .int 0, .null, .null, .long 0, .int 0, .int 0, .long 0, .int 0, .int 0, .int 0, .int 0, .long 0, .null])), (q_1, .inl (cA_2, 24, .inl (fun _ => 0))), (q_3, .inl (cA_4, 24, .inl (fun _ => 0))), (q_5, .inl (cA_6, 24, .inl (fun _ => 0))), (q_7, .inl (cA_8, 24, .inl (fun _ => 0))), (q_9, .inl (cA_10, 24, .inr (.inl (fun _ => 0)))), (q_11, .inl (cA_12, 24, .inr (.inl (fun _ => 0)))), (q_13, .inl (cA_14, 9600, .inl (fun _ => 0))), (q_15, .inl (cA_16, 9600, .inl (fun _ => 0))), (q_17, .inl (cA_18, 9600, .inr (.inl (fun _ => 0))))] H := hP
  have hD : va_D A [(g0, .inr (11, [.int 0, .ref q_1, .ref q_3, .ref q_5, .ref q_7, .ref q_9, .ref q_11, .ref q_13, .ref q_15, .null, .null, .null, .int 0, .null, .null, .int 0, .int 0, .int 0, .int 0, .int 0, .null, .null, .long 0, .int 0, .int 0, .long 0, .int 0, .int 0, .int 0, .int 0, .long 0, .null])), (q_1, .inl (cA_2, 24, .inl (fun _ => 0))), (q_3, .inl (cA_4, 24, .inl (fun _ => 0))), (q_5, .inl (cA_6, 24, .inl (fun _ => 0))), (q_7, .inl (cA_8, 24, .inl (fun _ => 0))), (q_9, .inl (cA_10, 24, .inr (.inl (fun _ => 0)))), (q_11, .inl (cA_12, 24, .inr (.inl (fun _ => 0)))), (q_13, .inl (cA_14, 9600, .inl (fun _ => 0))), (q_15, .inl (cA_16, 9600, .inl (fun _ => 0))), (q_17, .inl (cA_18, 9600, .inr (.inl (fun _ => 0))))] := hD
  have hK : va_K (dC, dI) vwCl [(cA_2, .int), (cA_4, .int), (cA_6, .int), (cA_8, .int), (cA_10, .long), (cA_12, .long), (cA_14, .int), (cA_16, .int), (cA_18, .long)] s := hK
  refine W.widen (k := 9) (n := 28944) (by decide +kernel) (by decide +kernel) ?_
  refine va_putF (D := (dC, dI)) (ci := 11) (v := .ref q_17) (ty := (.array .long)) (C := RX12) (T := TX12) (N := 32) hx hb hts (by decide +kernel) tyX12 tyX12_ok nmX12 hown hK hP hD hS 0 rfl rfl 9 (by decide) (hts (.fieldLink RX12 35 "NeededListsModel" "value" "[J") (by decide +kernel)) (fun _ h9 => h9) rfl hin rfl (by decide +kernel) rfl rfl (Nat.le_of_ble_eq_true rfl) dX12_init_76 (fun H locs hP hD hS => ?_)
  have hP : va_P (dC, dI) vwCl [(g0, .inr (11, [.int 0, .ref q_1, .ref q_3, .ref q_5, .ref q_7, .ref q_9, .ref q_11, .ref q_13, .ref q_15, .ref q_17, .null, .null, .int 0, .null, .null, .int 0, .int 0, .int 0, .int 0, .int 0, .null, .null, .long 0, .int 0, .int 0, .long 0, .int 0, .int 0, .int 0, .int 0, .long 0, .null])), (q_1, .inl (cA_2, 24, .inl (fun _ => 0))), (q_3, .inl (cA_4, 24, .inl (fun _ => 0))), (q_5, .inl (cA_6, 24, .inl (fun _ => 0))), (q_7, .inl (cA_8, 24, .inl (fun _ => 0))), (q_9, .inl (cA_10, 24, .inr (.inl (fun _ => 0)))), (q_11, .inl (cA_12, 24, .inr (.inl (fun _ => 0)))), (q_13, .inl (cA_14, 9600, .inl (fun _ => 0))), (q_15, .inl (cA_16, 9600, .inl (fun _ => 0))), (q_17, .inl (cA_18, 9600, .inr (.inl (fun _ => 0))))] H := hP
  have hD : va_D A [(g0, .inr (11, [.int 0, .ref q_1, .ref q_3, .ref q_5, .ref q_7, .ref q_9, .ref q_11, .ref q_13, .ref q_15, .ref q_17, .null, .null, .int 0, .null, .null, .int 0, .int 0, .int 0, .int 0, .int 0, .null, .null, .long 0, .int 0, .int 0, .long 0, .int 0, .int 0, .int 0, .int 0, .long 0, .null])), (q_1, .inl (cA_2, 24, .inl (fun _ => 0))), (q_3, .inl (cA_4, 24, .inl (fun _ => 0))), (q_5, .inl (cA_6, 24, .inl (fun _ => 0))), (q_7, .inl (cA_8, 24, .inl (fun _ => 0))), (q_9, .inl (cA_10, 24, .inr (.inl (fun _ => 0)))), (q_11, .inl (cA_12, 24, .inr (.inl (fun _ => 0)))), (q_13, .inl (cA_14, 9600, .inl (fun _ => 0))), (q_15, .inl (cA_16, 9600, .inl (fun _ => 0))), (q_17, .inl (cA_18, 9600, .inr (.inl (fun _ => 0))))] := hD
  refine lv_aload_n hx hb dX12_init_79 rfl (lv_at hl 0 rfl) ?_
  refine lv_sipush (v := 9600) hx hb dX12_init_80 (by decide) ?_
  refine va_newa (atype := .int) (ty := .int) (N' := 9600) (a0 := (9600, .inl (fun _ => 0))) hx hb (hts (.arrayClass .int) (by decide +kernel)) rfl hK hP hD hS hA (nd_aint 9600) (by decide +kernel) (by decide +kernel) (by decide +kernel) (by decide +kernel) (by decide +kernel) dX12_init_83 (fun q_19 cA_20 H hK hP hD hS => ?_)
  have hP : va_P (dC, dI) vwCl [(g0, .inr (11, [.int 0, .ref q_1, .ref q_3, .ref q_5, .ref q_7, .ref q_9, .ref q_11, .ref q_13, .ref q_15, .ref q_17, .null, .null, .int 0, .null, .null, .int 0, .int 0, .int 0, .int 0, .int 0, .null, .null, .long 0, .int 0, .int 0, .long 0, .int 0, .int 0, .int 0, .int 0, .long 0, .null])), (q_1, .inl (cA_2, 24, .inl (fun _ => 0))), (q_3, .inl (cA_4, 24, .inl (fun _ => 0))), (q_5, .inl (cA_6, 24, .inl (fun _ => 0))), (q_7, .inl (cA_8, 24, .inl (fun _ => 0))), (q_9, .inl (cA_10, 24, .inr (.inl (fun _ => 0)))), (q_11, .inl (cA_12, 24, .inr (.inl (fun _ => 0)))), (q_13, .inl (cA_14, 9600, .inl (fun _ => 0))), (q_15, .inl (cA_16, 9600, .inl (fun _ => 0))), (q_17, .inl (cA_18, 9600, .inr (.inl (fun _ => 0)))), (q_19, .inl (cA_20, 9600, .inl (fun _ => 0)))] H := hP
  have hD : va_D A [(g0, .inr (11, [.int 0, .ref q_1, .ref q_3, .ref q_5, .ref q_7, .ref q_9, .ref q_11, .ref q_13, .ref q_15, .ref q_17, .null, .null, .int 0, .null, .null, .int 0, .int 0, .int 0, .int 0, .int 0, .null, .null, .long 0, .int 0, .int 0, .long 0, .int 0, .int 0, .int 0, .int 0, .long 0, .null])), (q_1, .inl (cA_2, 24, .inl (fun _ => 0))), (q_3, .inl (cA_4, 24, .inl (fun _ => 0))), (q_5, .inl (cA_6, 24, .inl (fun _ => 0))), (q_7, .inl (cA_8, 24, .inl (fun _ => 0))), (q_9, .inl (cA_10, 24, .inr (.inl (fun _ => 0)))), (q_11, .inl (cA_12, 24, .inr (.inl (fun _ => 0)))), (q_13, .inl (cA_14, 9600, .inl (fun _ => 0))), (q_15, .inl (cA_16, 9600, .inl (fun _ => 0))), (q_17, .inl (cA_18, 9600, .inr (.inl (fun _ => 0)))), (q_19, .inl (cA_20, 9600, .inl (fun _ => 0)))] := hD
  have hK : va_K (dC, dI) vwCl [(cA_2, .int), (cA_4, .int), (cA_6, .int), (cA_8, .int), (cA_10, .long), (cA_12, .long), (cA_14, .int), (cA_16, .int), (cA_18, .long), (cA_20, .int)] s := hK
  refine W.widen (k := 10) (n := 38544) (by decide +kernel) (by decide +kernel) ?_
  refine va_putF (D := (dC, dI)) (ci := 11) (v := .ref q_19) (ty := (.array .int)) (C := RX12) (T := TX12) (N := 32) hx hb hts (by decide +kernel) tyX12 tyX12_ok nmX12 hown hK hP hD hS 0 rfl rfl 10 (by decide) (hts (.fieldLink RX12 38 "NeededListsModel" "shareList" "[I") (by decide +kernel)) (fun _ h9 => h9) rfl hin rfl (by decide +kernel) rfl rfl (Nat.le_of_ble_eq_true rfl) dX12_init_85 (fun H locs hP hD hS => ?_)
  have hP : va_P (dC, dI) vwCl [(g0, .inr (11, [.int 0, .ref q_1, .ref q_3, .ref q_5, .ref q_7, .ref q_9, .ref q_11, .ref q_13, .ref q_15, .ref q_17, .ref q_19, .null, .int 0, .null, .null, .int 0, .int 0, .int 0, .int 0, .int 0, .null, .null, .long 0, .int 0, .int 0, .long 0, .int 0, .int 0, .int 0, .int 0, .long 0, .null])), (q_1, .inl (cA_2, 24, .inl (fun _ => 0))), (q_3, .inl (cA_4, 24, .inl (fun _ => 0))), (q_5, .inl (cA_6, 24, .inl (fun _ => 0))), (q_7, .inl (cA_8, 24, .inl (fun _ => 0))), (q_9, .inl (cA_10, 24, .inr (.inl (fun _ => 0)))), (q_11, .inl (cA_12, 24, .inr (.inl (fun _ => 0)))), (q_13, .inl (cA_14, 9600, .inl (fun _ => 0))), (q_15, .inl (cA_16, 9600, .inl (fun _ => 0))), (q_17, .inl (cA_18, 9600, .inr (.inl (fun _ => 0)))), (q_19, .inl (cA_20, 9600, .inl (fun _ => 0)))] H := hP
  have hD : va_D A [(g0, .inr (11, [.int 0, .ref q_1, .ref q_3, .ref q_5, .ref q_7, .ref q_9, .ref q_11, .ref q_13, .ref q_15, .ref q_17, .ref q_19, .null, .int 0, .null, .null, .int 0, .int 0, .int 0, .int 0, .int 0, .null, .null, .long 0, .int 0, .int 0, .long 0, .int 0, .int 0, .int 0, .int 0, .long 0, .null])), (q_1, .inl (cA_2, 24, .inl (fun _ => 0))), (q_3, .inl (cA_4, 24, .inl (fun _ => 0))), (q_5, .inl (cA_6, 24, .inl (fun _ => 0))), (q_7, .inl (cA_8, 24, .inl (fun _ => 0))), (q_9, .inl (cA_10, 24, .inr (.inl (fun _ => 0)))), (q_11, .inl (cA_12, 24, .inr (.inl (fun _ => 0)))), (q_13, .inl (cA_14, 9600, .inl (fun _ => 0))), (q_15, .inl (cA_16, 9600, .inl (fun _ => 0))), (q_17, .inl (cA_18, 9600, .inr (.inl (fun _ => 0)))), (q_19, .inl (cA_20, 9600, .inl (fun _ => 0)))] := hD
  refine lv_aload_n hx hb dX12_init_88 rfl (lv_at hl 0 rfl) ?_
  refine lv_sipush (v := 9600) hx hb dX12_init_89 (by decide) ?_
  refine va_newa (atype := .int) (ty := .int) (N' := 9600) (a0 := (9600, .inl (fun _ => 0))) hx hb (hts (.arrayClass .int) (by decide +kernel)) rfl hK hP hD hS hA (nd_aint 9600) (by decide +kernel) (by decide +kernel) (by decide +kernel) (by decide +kernel) (by decide +kernel) dX12_init_92 (fun q_21 cA_22 H hK hP hD hS => ?_)
  have hP : va_P (dC, dI) vwCl [(g0, .inr (11, [.int 0, .ref q_1, .ref q_3, .ref q_5, .ref q_7, .ref q_9, .ref q_11, .ref q_13, .ref q_15, .ref q_17, .ref q_19, .null, .int 0, .null, .null, .int 0, .int 0, .int 0, .int 0, .int 0, .null, .null, .long 0, .int 0, .int 0, .long 0, .int 0, .int 0, .int 0, .int 0, .long 0, .null])), (q_1, .inl (cA_2, 24, .inl (fun _ => 0))), (q_3, .inl (cA_4, 24, .inl (fun _ => 0))), (q_5, .inl (cA_6, 24, .inl (fun _ => 0))), (q_7, .inl (cA_8, 24, .inl (fun _ => 0))), (q_9, .inl (cA_10, 24, .inr (.inl (fun _ => 0)))), (q_11, .inl (cA_12, 24, .inr (.inl (fun _ => 0)))), (q_13, .inl (cA_14, 9600, .inl (fun _ => 0))), (q_15, .inl (cA_16, 9600, .inl (fun _ => 0))), (q_17, .inl (cA_18, 9600, .inr (.inl (fun _ => 0)))), (q_19, .inl (cA_20, 9600, .inl (fun _ => 0))), (q_21, .inl (cA_22, 9600, .inl (fun _ => 0)))] H := hP
  have hD : va_D A [(g0, .inr (11, [.int 0, .ref q_1, .ref q_3, .ref q_5, .ref q_7, .ref q_9, .ref q_11, .ref q_13, .ref q_15, .ref q_17, .ref q_19, .null, .int 0, .null, .null, .int 0, .int 0, .int 0, .int 0, .int 0, .null, .null, .long 0, .int 0, .int 0, .long 0, .int 0, .int 0, .int 0, .int 0, .long 0, .null])), (q_1, .inl (cA_2, 24, .inl (fun _ => 0))), (q_3, .inl (cA_4, 24, .inl (fun _ => 0))), (q_5, .inl (cA_6, 24, .inl (fun _ => 0))), (q_7, .inl (cA_8, 24, .inl (fun _ => 0))), (q_9, .inl (cA_10, 24, .inr (.inl (fun _ => 0)))), (q_11, .inl (cA_12, 24, .inr (.inl (fun _ => 0)))), (q_13, .inl (cA_14, 9600, .inl (fun _ => 0))), (q_15, .inl (cA_16, 9600, .inl (fun _ => 0))), (q_17, .inl (cA_18, 9600, .inr (.inl (fun _ => 0)))), (q_19, .inl (cA_20, 9600, .inl (fun _ => 0))), (q_21, .inl (cA_22, 9600, .inl (fun _ => 0)))] := hD
  have hK : va_K (dC, dI) vwCl [(cA_2, .int), (cA_4, .int), (cA_6, .int), (cA_8, .int), (cA_10, .long), (cA_12, .long), (cA_14, .int), (cA_16, .int), (cA_18, .long), (cA_20, .int), (cA_22, .int)] s := hK
  refine W.widen (k := 11) (n := 48144) (by decide +kernel) (by decide +kernel) ?_
  refine va_putF (D := (dC, dI)) (ci := 11) (v := .ref q_21) (ty := (.array .int)) (C := RX12) (T := TX12) (N := 32) hx hb hts (by decide +kernel) tyX12 tyX12_ok nmX12 hown hK hP hD hS 0 rfl rfl 11 (by decide) (hts (.fieldLink RX12 41 "NeededListsModel" "shareCell" "[I") (by decide +kernel)) (fun _ h9 => h9) rfl hin rfl (by decide +kernel) rfl rfl (Nat.le_of_ble_eq_true rfl) dX12_init_94 (fun H locs hP hD hS => ?_)
  have hP : va_P (dC, dI) vwCl [(g0, .inr (11, [.int 0, .ref q_1, .ref q_3, .ref q_5, .ref q_7, .ref q_9, .ref q_11, .ref q_13, .ref q_15, .ref q_17, .ref q_19, .ref q_21, .int 0, .null, .null, .int 0, .int 0, .int 0, .int 0, .int 0, .null, .null, .long 0, .int 0, .int 0, .long 0, .int 0, .int 0, .int 0, .int 0, .long 0, .null])), (q_1, .inl (cA_2, 24, .inl (fun _ => 0))), (q_3, .inl (cA_4, 24, .inl (fun _ => 0))), (q_5, .inl (cA_6, 24, .inl (fun _ => 0))), (q_7, .inl (cA_8, 24, .inl (fun _ => 0))), (q_9, .inl (cA_10, 24, .inr (.inl (fun _ => 0)))), (q_11, .inl (cA_12, 24, .inr (.inl (fun _ => 0)))), (q_13, .inl (cA_14, 9600, .inl (fun _ => 0))), (q_15, .inl (cA_16, 9600, .inl (fun _ => 0))), (q_17, .inl (cA_18, 9600, .inr (.inl (fun _ => 0)))), (q_19, .inl (cA_20, 9600, .inl (fun _ => 0))), (q_21, .inl (cA_22, 9600, .inl (fun _ => 0)))] H := hP
  have hD : va_D A [(g0, .inr (11, [.int 0, .ref q_1, .ref q_3, .ref q_5, .ref q_7, .ref q_9, .ref q_11, .ref q_13, .ref q_15, .ref q_17, .ref q_19, .ref q_21, .int 0, .null, .null, .int 0, .int 0, .int 0, .int 0, .int 0, .null, .null, .long 0, .int 0, .int 0, .long 0, .int 0, .int 0, .int 0, .int 0, .long 0, .null])), (q_1, .inl (cA_2, 24, .inl (fun _ => 0))), (q_3, .inl (cA_4, 24, .inl (fun _ => 0))), (q_5, .inl (cA_6, 24, .inl (fun _ => 0))), (q_7, .inl (cA_8, 24, .inl (fun _ => 0))), (q_9, .inl (cA_10, 24, .inr (.inl (fun _ => 0)))), (q_11, .inl (cA_12, 24, .inr (.inl (fun _ => 0)))), (q_13, .inl (cA_14, 9600, .inl (fun _ => 0))), (q_15, .inl (cA_16, 9600, .inl (fun _ => 0))), (q_17, .inl (cA_18, 9600, .inr (.inl (fun _ => 0)))), (q_19, .inl (cA_20, 9600, .inl (fun _ => 0))), (q_21, .inl (cA_22, 9600, .inl (fun _ => 0)))] := hD
  refine lv_aload_n hx hb dX12_init_97 rfl (lv_at hl 0 rfl) ?_
  refine lv_bipush (v := 100) hx hb dX12_init_98 (by decide) ?_
  refine va_newa (atype := .int) (ty := .int) (N' := 100) (a0 := (100, .inl (fun _ => 0))) hx hb (hts (.arrayClass .int) (by decide +kernel)) rfl hK hP hD hS hA (nd_aint 100) (by decide +kernel) (by decide +kernel) (by decide +kernel) (by decide +kernel) (by decide +kernel) dX12_init_100 (fun q_23 cA_24 H hK hP hD hS => ?_)
  have hP : va_P (dC, dI) vwCl [(g0, .inr (11, [.int 0, .ref q_1, .ref q_3, .ref q_5, .ref q_7, .ref q_9, .ref q_11, .ref q_13, .ref q_15, .ref q_17, .ref q_19, .ref q_21, .int 0, .null, .null, .int 0, .int 0, .int 0, .int 0, .int 0, .null, .null, .long 0, .int 0, .int 0, .long 0, .int 0, .int 0, .int 0, .int 0, .long 0, .null])), (q_1, .inl (cA_2, 24, .inl (fun _ => 0))), (q_3, .inl (cA_4, 24, .inl (fun _ => 0))), (q_5, .inl (cA_6, 24, .inl (fun _ => 0))), (q_7, .inl (cA_8, 24, .inl (fun _ => 0))), (q_9, .inl (cA_10, 24, .inr (.inl (fun _ => 0)))), (q_11, .inl (cA_12, 24, .inr (.inl (fun _ => 0)))), (q_13, .inl (cA_14, 9600, .inl (fun _ => 0))), (q_15, .inl (cA_16, 9600, .inl (fun _ => 0))), (q_17, .inl (cA_18, 9600, .inr (.inl (fun _ => 0)))), (q_19, .inl (cA_20, 9600, .inl (fun _ => 0))), (q_21, .inl (cA_22, 9600, .inl (fun _ => 0))), (q_23, .inl (cA_24, 100, .inl (fun _ => 0)))] H := hP
  have hD : va_D A [(g0, .inr (11, [.int 0, .ref q_1, .ref q_3, .ref q_5, .ref q_7, .ref q_9, .ref q_11, .ref q_13, .ref q_15, .ref q_17, .ref q_19, .ref q_21, .int 0, .null, .null, .int 0, .int 0, .int 0, .int 0, .int 0, .null, .null, .long 0, .int 0, .int 0, .long 0, .int 0, .int 0, .int 0, .int 0, .long 0, .null])), (q_1, .inl (cA_2, 24, .inl (fun _ => 0))), (q_3, .inl (cA_4, 24, .inl (fun _ => 0))), (q_5, .inl (cA_6, 24, .inl (fun _ => 0))), (q_7, .inl (cA_8, 24, .inl (fun _ => 0))), (q_9, .inl (cA_10, 24, .inr (.inl (fun _ => 0)))), (q_11, .inl (cA_12, 24, .inr (.inl (fun _ => 0)))), (q_13, .inl (cA_14, 9600, .inl (fun _ => 0))), (q_15, .inl (cA_16, 9600, .inl (fun _ => 0))), (q_17, .inl (cA_18, 9600, .inr (.inl (fun _ => 0)))), (q_19, .inl (cA_20, 9600, .inl (fun _ => 0))), (q_21, .inl (cA_22, 9600, .inl (fun _ => 0))), (q_23, .inl (cA_24, 100, .inl (fun _ => 0)))] := hD
  have hK : va_K (dC, dI) vwCl [(cA_2, .int), (cA_4, .int), (cA_6, .int), (cA_8, .int), (cA_10, .long), (cA_12, .long), (cA_14, .int), (cA_16, .int), (cA_18, .long), (cA_20, .int), (cA_22, .int), (cA_24, .int)] s := hK
  refine W.widen (k := 12) (n := 48244) (by decide +kernel) (by decide +kernel) ?_
  refine va_putF (D := (dC, dI)) (ci := 11) (v := .ref q_23) (ty := (.array .int)) (C := RX12) (T := TX12) (N := 32) hx hb hts (by decide +kernel) tyX12 tyX12_ok nmX12 hown hK hP hD hS 0 rfl rfl 13 (by decide) (hts (.fieldLink RX12 44 "NeededListsModel" "rowItem" "[I") (by decide +kernel)) (fun _ h9 => h9) rfl hin rfl (by decide +kernel) rfl rfl (Nat.le_of_ble_eq_true rfl) dX12_init_102 (fun H locs hP hD hS => ?_)
  have hP : va_P (dC, dI) vwCl [(g0, .inr (11, [.int 0, .ref q_1, .ref q_3, .ref q_5, .ref q_7, .ref q_9, .ref q_11, .ref q_13, .ref q_15, .ref q_17, .ref q_19, .ref q_21, .int 0, .ref q_23, .null, .int 0, .int 0, .int 0, .int 0, .int 0, .null, .null, .long 0, .int 0, .int 0, .long 0, .int 0, .int 0, .int 0, .int 0, .long 0, .null])), (q_1, .inl (cA_2, 24, .inl (fun _ => 0))), (q_3, .inl (cA_4, 24, .inl (fun _ => 0))), (q_5, .inl (cA_6, 24, .inl (fun _ => 0))), (q_7, .inl (cA_8, 24, .inl (fun _ => 0))), (q_9, .inl (cA_10, 24, .inr (.inl (fun _ => 0)))), (q_11, .inl (cA_12, 24, .inr (.inl (fun _ => 0)))), (q_13, .inl (cA_14, 9600, .inl (fun _ => 0))), (q_15, .inl (cA_16, 9600, .inl (fun _ => 0))), (q_17, .inl (cA_18, 9600, .inr (.inl (fun _ => 0)))), (q_19, .inl (cA_20, 9600, .inl (fun _ => 0))), (q_21, .inl (cA_22, 9600, .inl (fun _ => 0))), (q_23, .inl (cA_24, 100, .inl (fun _ => 0)))] H := hP
  have hD : va_D A [(g0, .inr (11, [.int 0, .ref q_1, .ref q_3, .ref q_5, .ref q_7, .ref q_9, .ref q_11, .ref q_13, .ref q_15, .ref q_17, .ref q_19, .ref q_21, .int 0, .ref q_23, .null, .int 0, .int 0, .int 0, .int 0, .int 0, .null, .null, .long 0, .int 0, .int 0, .long 0, .int 0, .int 0, .int 0, .int 0, .long 0, .null])), (q_1, .inl (cA_2, 24, .inl (fun _ => 0))), (q_3, .inl (cA_4, 24, .inl (fun _ => 0))), (q_5, .inl (cA_6, 24, .inl (fun _ => 0))), (q_7, .inl (cA_8, 24, .inl (fun _ => 0))), (q_9, .inl (cA_10, 24, .inr (.inl (fun _ => 0)))), (q_11, .inl (cA_12, 24, .inr (.inl (fun _ => 0)))), (q_13, .inl (cA_14, 9600, .inl (fun _ => 0))), (q_15, .inl (cA_16, 9600, .inl (fun _ => 0))), (q_17, .inl (cA_18, 9600, .inr (.inl (fun _ => 0)))), (q_19, .inl (cA_20, 9600, .inl (fun _ => 0))), (q_21, .inl (cA_22, 9600, .inl (fun _ => 0))), (q_23, .inl (cA_24, 100, .inl (fun _ => 0)))] := hD
  refine lv_aload_n hx hb dX12_init_105 rfl (lv_at hl 0 rfl) ?_
  refine lv_bipush (v := 100) hx hb dX12_init_106 (by decide) ?_
  refine va_newa (atype := .long) (ty := .long) (N' := 100) (a0 := (100, .inr (.inl (fun _ => 0)))) hx hb (hts (.arrayClass .long) (by decide +kernel)) rfl hK hP hD hS hA (nd_along 100) (by decide +kernel) (by decide +kernel) (by decide +kernel) (by decide +kernel) (by decide +kernel) dX12_init_108 (fun q_25 cA_26 H hK hP hD hS => ?_)
  have hP : va_P (dC, dI) vwCl [(g0, .inr (11, [.int 0, .ref q_1, .ref q_3, .ref q_5, .ref q_7, .ref q_9, .ref q_11, .ref q_13, .ref q_15, .ref q_17, .ref q_19, .ref q_21, .int 0, .ref q_23, .null, .int 0, .int 0, .int 0, .int 0, .int 0, .null, .null, .long 0, .int 0, .int 0, .long 0, .int 0, .int 0, .int 0, .int 0, .long 0, .null])), (q_1, .inl (cA_2, 24, .inl (fun _ => 0))), (q_3, .inl (cA_4, 24, .inl (fun _ => 0))), (q_5, .inl (cA_6, 24, .inl (fun _ => 0))), (q_7, .inl (cA_8, 24, .inl (fun _ => 0))), (q_9, .inl (cA_10, 24, .inr (.inl (fun _ => 0)))), (q_11, .inl (cA_12, 24, .inr (.inl (fun _ => 0)))), (q_13, .inl (cA_14, 9600, .inl (fun _ => 0))), (q_15, .inl (cA_16, 9600, .inl (fun _ => 0))), (q_17, .inl (cA_18, 9600, .inr (.inl (fun _ => 0)))), (q_19, .inl (cA_20, 9600, .inl (fun _ => 0))), (q_21, .inl (cA_22, 9600, .inl (fun _ => 0))), (q_23, .inl (cA_24, 100, .inl (fun _ => 0))), (q_25, .inl (cA_26, 100, .inr (.inl (fun _ => 0))))] H := hP
  have hD : va_D A [(g0, .inr (11, [.int 0, .ref q_1, .ref q_3, .ref q_5, .ref q_7, .ref q_9, .ref q_11, .ref q_13, .ref q_15, .ref q_17, .ref q_19, .ref q_21, .int 0, .ref q_23, .null, .int 0, .int 0, .int 0, .int 0, .int 0, .null, .null, .long 0, .int 0, .int 0, .long 0, .int 0, .int 0, .int 0, .int 0, .long 0, .null])), (q_1, .inl (cA_2, 24, .inl (fun _ => 0))), (q_3, .inl (cA_4, 24, .inl (fun _ => 0))), (q_5, .inl (cA_6, 24, .inl (fun _ => 0))), (q_7, .inl (cA_8, 24, .inl (fun _ => 0))), (q_9, .inl (cA_10, 24, .inr (.inl (fun _ => 0)))), (q_11, .inl (cA_12, 24, .inr (.inl (fun _ => 0)))), (q_13, .inl (cA_14, 9600, .inl (fun _ => 0))), (q_15, .inl (cA_16, 9600, .inl (fun _ => 0))), (q_17, .inl (cA_18, 9600, .inr (.inl (fun _ => 0)))), (q_19, .inl (cA_20, 9600, .inl (fun _ => 0))), (q_21, .inl (cA_22, 9600, .inl (fun _ => 0))), (q_23, .inl (cA_24, 100, .inl (fun _ => 0))), (q_25, .inl (cA_26, 100, .inr (.inl (fun _ => 0))))] := hD
  have hK : va_K (dC, dI) vwCl [(cA_2, .int), (cA_4, .int), (cA_6, .int), (cA_8, .int), (cA_10, .long), (cA_12, .long), (cA_14, .int), (cA_16, .int), (cA_18, .long), (cA_20, .int), (cA_22, .int), (cA_24, .int), (cA_26, .long)] s := hK
  refine W.widen (k := 13) (n := 48344) (by decide +kernel) (by decide +kernel) ?_
  refine va_putF (D := (dC, dI)) (ci := 11) (v := .ref q_25) (ty := (.array .long)) (C := RX12) (T := TX12) (N := 32) hx hb hts (by decide +kernel) tyX12 tyX12_ok nmX12 hown hK hP hD hS 0 rfl rfl 14 (by decide) (hts (.fieldLink RX12 47 "NeededListsModel" "rowValue" "[J") (by decide +kernel)) (fun _ h9 => h9) rfl hin rfl (by decide +kernel) rfl rfl (Nat.le_of_ble_eq_true rfl) dX12_init_110 (fun H locs hP hD hS => ?_)
  have hP : va_P (dC, dI) vwCl [(g0, .inr (11, [.int 0, .ref q_1, .ref q_3, .ref q_5, .ref q_7, .ref q_9, .ref q_11, .ref q_13, .ref q_15, .ref q_17, .ref q_19, .ref q_21, .int 0, .ref q_23, .ref q_25, .int 0, .int 0, .int 0, .int 0, .int 0, .null, .null, .long 0, .int 0, .int 0, .long 0, .int 0, .int 0, .int 0, .int 0, .long 0, .null])), (q_1, .inl (cA_2, 24, .inl (fun _ => 0))), (q_3, .inl (cA_4, 24, .inl (fun _ => 0))), (q_5, .inl (cA_6, 24, .inl (fun _ => 0))), (q_7, .inl (cA_8, 24, .inl (fun _ => 0))), (q_9, .inl (cA_10, 24, .inr (.inl (fun _ => 0)))), (q_11, .inl (cA_12, 24, .inr (.inl (fun _ => 0)))), (q_13, .inl (cA_14, 9600, .inl (fun _ => 0))), (q_15, .inl (cA_16, 9600, .inl (fun _ => 0))), (q_17, .inl (cA_18, 9600, .inr (.inl (fun _ => 0)))), (q_19, .inl (cA_20, 9600, .inl (fun _ => 0))), (q_21, .inl (cA_22, 9600, .inl (fun _ => 0))), (q_23, .inl (cA_24, 100, .inl (fun _ => 0))), (q_25, .inl (cA_26, 100, .inr (.inl (fun _ => 0))))] H := hP
  have hD : va_D A [(g0, .inr (11, [.int 0, .ref q_1, .ref q_3, .ref q_5, .ref q_7, .ref q_9, .ref q_11, .ref q_13, .ref q_15, .ref q_17, .ref q_19, .ref q_21, .int 0, .ref q_23, .ref q_25, .int 0, .int 0, .int 0, .int 0, .int 0, .null, .null, .long 0, .int 0, .int 0, .long 0, .int 0, .int 0, .int 0, .int 0, .long 0, .null])), (q_1, .inl (cA_2, 24, .inl (fun _ => 0))), (q_3, .inl (cA_4, 24, .inl (fun _ => 0))), (q_5, .inl (cA_6, 24, .inl (fun _ => 0))), (q_7, .inl (cA_8, 24, .inl (fun _ => 0))), (q_9, .inl (cA_10, 24, .inr (.inl (fun _ => 0)))), (q_11, .inl (cA_12, 24, .inr (.inl (fun _ => 0)))), (q_13, .inl (cA_14, 9600, .inl (fun _ => 0))), (q_15, .inl (cA_16, 9600, .inl (fun _ => 0))), (q_17, .inl (cA_18, 9600, .inr (.inl (fun _ => 0)))), (q_19, .inl (cA_20, 9600, .inl (fun _ => 0))), (q_21, .inl (cA_22, 9600, .inl (fun _ => 0))), (q_23, .inl (cA_24, 100, .inl (fun _ => 0))), (q_25, .inl (cA_26, 100, .inr (.inl (fun _ => 0))))] := hD
  refine lv_aload_n hx hb dX12_init_113 rfl (lv_at hl 0 rfl) ?_
  refine lv_sipush (v := 1000) hx hb dX12_init_114 (by decide) ?_
  refine va_put (D := (dC, dI)) (ci := 11) (v := .int 1000) (ty := .int) (C := RX12) (T := TX12) (N := 32) hx hb hts (by decide +kernel) tyX12 tyX12_ok nmX12 hown hK hP hD hS 0 rfl rfl 15 (by decide) (hts (.fieldLink RX12 50 "NeededListsModel" "purse" "I") (by decide +kernel)) (fun _ h9 => h9) rfl (by decide +kernel) rfl rfl (Nat.le_of_ble_eq_true rfl) dX12_init_117 (fun H locs hP hD hS => ?_)
  have hP : va_P (dC, dI) vwCl [(g0, .inr (11, [.int 0, .ref q_1, .ref q_3, .ref q_5, .ref q_7, .ref q_9, .ref q_11, .ref q_13, .ref q_15, .ref q_17, .ref q_19, .ref q_21, .int 0, .ref q_23, .ref q_25, .int 1000, .int 0, .int 0, .int 0, .int 0, .null, .null, .long 0, .int 0, .int 0, .long 0, .int 0, .int 0, .int 0, .int 0, .long 0, .null])), (q_1, .inl (cA_2, 24, .inl (fun _ => 0))), (q_3, .inl (cA_4, 24, .inl (fun _ => 0))), (q_5, .inl (cA_6, 24, .inl (fun _ => 0))), (q_7, .inl (cA_8, 24, .inl (fun _ => 0))), (q_9, .inl (cA_10, 24, .inr (.inl (fun _ => 0)))), (q_11, .inl (cA_12, 24, .inr (.inl (fun _ => 0)))), (q_13, .inl (cA_14, 9600, .inl (fun _ => 0))), (q_15, .inl (cA_16, 9600, .inl (fun _ => 0))), (q_17, .inl (cA_18, 9600, .inr (.inl (fun _ => 0)))), (q_19, .inl (cA_20, 9600, .inl (fun _ => 0))), (q_21, .inl (cA_22, 9600, .inl (fun _ => 0))), (q_23, .inl (cA_24, 100, .inl (fun _ => 0))), (q_25, .inl (cA_26, 100, .inr (.inl (fun _ => 0))))] H := hP
  have hD : va_D A [(g0, .inr (11, [.int 0, .ref q_1, .ref q_3, .ref q_5, .ref q_7, .ref q_9, .ref q_11, .ref q_13, .ref q_15, .ref q_17, .ref q_19, .ref q_21, .int 0, .ref q_23, .ref q_25, .int 1000, .int 0, .int 0, .int 0, .int 0, .null, .null, .long 0, .int 0, .int 0, .long 0, .int 0, .int 0, .int 0, .int 0, .long 0, .null])), (q_1, .inl (cA_2, 24, .inl (fun _ => 0))), (q_3, .inl (cA_4, 24, .inl (fun _ => 0))), (q_5, .inl (cA_6, 24, .inl (fun _ => 0))), (q_7, .inl (cA_8, 24, .inl (fun _ => 0))), (q_9, .inl (cA_10, 24, .inr (.inl (fun _ => 0)))), (q_11, .inl (cA_12, 24, .inr (.inl (fun _ => 0)))), (q_13, .inl (cA_14, 9600, .inl (fun _ => 0))), (q_15, .inl (cA_16, 9600, .inl (fun _ => 0))), (q_17, .inl (cA_18, 9600, .inr (.inl (fun _ => 0)))), (q_19, .inl (cA_20, 9600, .inl (fun _ => 0))), (q_21, .inl (cA_22, 9600, .inl (fun _ => 0))), (q_23, .inl (cA_24, 100, .inl (fun _ => 0))), (q_25, .inl (cA_26, 100, .inr (.inl (fun _ => 0))))] := hD
  refine lv_aload_n hx hb dX12_init_120 rfl (lv_at hl 0 rfl) ?_
  refine lv_sipush (v := 2400) hx hb dX12_init_121 (by decide) ?_
  refine va_newa (atype := .int) (ty := .int) (N' := 2400) (a0 := (2400, .inl (fun _ => 0))) hx hb (hts (.arrayClass .int) (by decide +kernel)) rfl hK hP hD hS hA (nd_aint 2400) (by decide +kernel) (by decide +kernel) (by decide +kernel) (by decide +kernel) (by decide +kernel) dX12_init_124 (fun q_27 cA_28 H hK hP hD hS => ?_)
  have hP : va_P (dC, dI) vwCl [(g0, .inr (11, [.int 0, .ref q_1, .ref q_3, .ref q_5, .ref q_7, .ref q_9, .ref q_11, .ref q_13, .ref q_15, .ref q_17, .ref q_19, .ref q_21, .int 0, .ref q_23, .ref q_25, .int 1000, .int 0, .int 0, .int 0, .int 0, .null, .null, .long 0, .int 0, .int 0, .long 0, .int 0, .int 0, .int 0, .int 0, .long 0, .null])), (q_1, .inl (cA_2, 24, .inl (fun _ => 0))), (q_3, .inl (cA_4, 24, .inl (fun _ => 0))), (q_5, .inl (cA_6, 24, .inl (fun _ => 0))), (q_7, .inl (cA_8, 24, .inl (fun _ => 0))), (q_9, .inl (cA_10, 24, .inr (.inl (fun _ => 0)))), (q_11, .inl (cA_12, 24, .inr (.inl (fun _ => 0)))), (q_13, .inl (cA_14, 9600, .inl (fun _ => 0))), (q_15, .inl (cA_16, 9600, .inl (fun _ => 0))), (q_17, .inl (cA_18, 9600, .inr (.inl (fun _ => 0)))), (q_19, .inl (cA_20, 9600, .inl (fun _ => 0))), (q_21, .inl (cA_22, 9600, .inl (fun _ => 0))), (q_23, .inl (cA_24, 100, .inl (fun _ => 0))), (q_25, .inl (cA_26, 100, .inr (.inl (fun _ => 0)))), (q_27, .inl (cA_28, 2400, .inl (fun _ => 0)))] H := hP
  have hD : va_D A [(g0, .inr (11, [.int 0, .ref q_1, .ref q_3, .ref q_5, .ref q_7, .ref q_9, .ref q_11, .ref q_13, .ref q_15, .ref q_17, .ref q_19, .ref q_21, .int 0, .ref q_23, .ref q_25, .int 1000, .int 0, .int 0, .int 0, .int 0, .null, .null, .long 0, .int 0, .int 0, .long 0, .int 0, .int 0, .int 0, .int 0, .long 0, .null])), (q_1, .inl (cA_2, 24, .inl (fun _ => 0))), (q_3, .inl (cA_4, 24, .inl (fun _ => 0))), (q_5, .inl (cA_6, 24, .inl (fun _ => 0))), (q_7, .inl (cA_8, 24, .inl (fun _ => 0))), (q_9, .inl (cA_10, 24, .inr (.inl (fun _ => 0)))), (q_11, .inl (cA_12, 24, .inr (.inl (fun _ => 0)))), (q_13, .inl (cA_14, 9600, .inl (fun _ => 0))), (q_15, .inl (cA_16, 9600, .inl (fun _ => 0))), (q_17, .inl (cA_18, 9600, .inr (.inl (fun _ => 0)))), (q_19, .inl (cA_20, 9600, .inl (fun _ => 0))), (q_21, .inl (cA_22, 9600, .inl (fun _ => 0))), (q_23, .inl (cA_24, 100, .inl (fun _ => 0))), (q_25, .inl (cA_26, 100, .inr (.inl (fun _ => 0)))), (q_27, .inl (cA_28, 2400, .inl (fun _ => 0)))] := hD
  have hK : va_K (dC, dI) vwCl [(cA_2, .int), (cA_4, .int), (cA_6, .int), (cA_8, .int), (cA_10, .long), (cA_12, .long), (cA_14, .int), (cA_16, .int), (cA_18, .long), (cA_20, .int), (cA_22, .int), (cA_24, .int), (cA_26, .long), (cA_28, .int)] s := hK
  refine W.widen (k := 14) (n := 50744) (by decide +kernel) (by decide +kernel) ?_
  refine va_putF (D := (dC, dI)) (ci := 11) (v := .ref q_27) (ty := (.array .int)) (C := RX12) (T := TX12) (N := 32) hx hb hts (by decide +kernel) tyX12 tyX12_ok nmX12 hown hK hP hD hS 0 rfl rfl 20 (by decide) (hts (.fieldLink RX12 54 "NeededListsModel" "givenItem" "[I") (by decide +kernel)) (fun _ h9 => h9) rfl hin rfl (by decide +kernel) rfl rfl (Nat.le_of_ble_eq_true rfl) dX12_init_126 (fun H locs hP hD hS => ?_)
  have hP : va_P (dC, dI) vwCl [(g0, .inr (11, [.int 0, .ref q_1, .ref q_3, .ref q_5, .ref q_7, .ref q_9, .ref q_11, .ref q_13, .ref q_15, .ref q_17, .ref q_19, .ref q_21, .int 0, .ref q_23, .ref q_25, .int 1000, .int 0, .int 0, .int 0, .int 0, .ref q_27, .null, .long 0, .int 0, .int 0, .long 0, .int 0, .int 0, .int 0, .int 0, .long 0, .null])), (q_1, .inl (cA_2, 24, .inl (fun _ => 0))), (q_3, .inl (cA_4, 24, .inl (fun _ => 0))), (q_5, .inl (cA_6, 24, .inl (fun _ => 0))), (q_7, .inl (cA_8, 24, .inl (fun _ => 0))), (q_9, .inl (cA_10, 24, .inr (.inl (fun _ => 0)))), (q_11, .inl (cA_12, 24, .inr (.inl (fun _ => 0)))), (q_13, .inl (cA_14, 9600, .inl (fun _ => 0))), (q_15, .inl (cA_16, 9600, .inl (fun _ => 0))), (q_17, .inl (cA_18, 9600, .inr (.inl (fun _ => 0)))), (q_19, .inl (cA_20, 9600, .inl (fun _ => 0))), (q_21, .inl (cA_22, 9600, .inl (fun _ => 0))), (q_23, .inl (cA_24, 100, .inl (fun _ => 0))), (q_25, .inl (cA_26, 100, .inr (.inl (fun _ => 0)))), (q_27, .inl (cA_28, 2400, .inl (fun _ => 0)))] H := hP
  have hD : va_D A [(g0, .inr (11, [.int 0, .ref q_1, .ref q_3, .ref q_5, .ref q_7, .ref q_9, .ref q_11, .ref q_13, .ref q_15, .ref q_17, .ref q_19, .ref q_21, .int 0, .ref q_23, .ref q_25, .int 1000, .int 0, .int 0, .int 0, .int 0, .ref q_27, .null, .long 0, .int 0, .int 0, .long 0, .int 0, .int 0, .int 0, .int 0, .long 0, .null])), (q_1, .inl (cA_2, 24, .inl (fun _ => 0))), (q_3, .inl (cA_4, 24, .inl (fun _ => 0))), (q_5, .inl (cA_6, 24, .inl (fun _ => 0))), (q_7, .inl (cA_8, 24, .inl (fun _ => 0))), (q_9, .inl (cA_10, 24, .inr (.inl (fun _ => 0)))), (q_11, .inl (cA_12, 24, .inr (.inl (fun _ => 0)))), (q_13, .inl (cA_14, 9600, .inl (fun _ => 0))), (q_15, .inl (cA_16, 9600, .inl (fun _ => 0))), (q_17, .inl (cA_18, 9600, .inr (.inl (fun _ => 0)))), (q_19, .inl (cA_20, 9600, .inl (fun _ => 0))), (q_21, .inl (cA_22, 9600, .inl (fun _ => 0))), (q_23, .inl (cA_24, 100, .inl (fun _ => 0))), (q_25, .inl (cA_26, 100, .inr (.inl (fun _ => 0)))), (q_27, .inl (cA_28, 2400, .inl (fun _ => 0)))] := hD
  refine lv_aload_n hx hb dX12_init_129 rfl (lv_at hl 0 rfl) ?_
  refine lv_sipush (v := 2400) hx hb dX12_init_130 (by decide) ?_
  refine va_newa (atype := .long) (ty := .long) (N' := 2400) (a0 := (2400, .inr (.inl (fun _ => 0)))) hx hb (hts (.arrayClass .long) (by decide +kernel)) rfl hK hP hD hS hA (nd_along 2400) (by decide +kernel) (by decide +kernel) (by decide +kernel) (by decide +kernel) (by decide +kernel) dX12_init_133 (fun q_29 cA_30 H hK hP hD hS => ?_)
  have hP : va_P (dC, dI) vwCl [(g0, .inr (11, [.int 0, .ref q_1, .ref q_3, .ref q_5, .ref q_7, .ref q_9, .ref q_11, .ref q_13, .ref q_15, .ref q_17, .ref q_19, .ref q_21, .int 0, .ref q_23, .ref q_25, .int 1000, .int 0, .int 0, .int 0, .int 0, .ref q_27, .null, .long 0, .int 0, .int 0, .long 0, .int 0, .int 0, .int 0, .int 0, .long 0, .null])), (q_1, .inl (cA_2, 24, .inl (fun _ => 0))), (q_3, .inl (cA_4, 24, .inl (fun _ => 0))), (q_5, .inl (cA_6, 24, .inl (fun _ => 0))), (q_7, .inl (cA_8, 24, .inl (fun _ => 0))), (q_9, .inl (cA_10, 24, .inr (.inl (fun _ => 0)))), (q_11, .inl (cA_12, 24, .inr (.inl (fun _ => 0)))), (q_13, .inl (cA_14, 9600, .inl (fun _ => 0))), (q_15, .inl (cA_16, 9600, .inl (fun _ => 0))), (q_17, .inl (cA_18, 9600, .inr (.inl (fun _ => 0)))), (q_19, .inl (cA_20, 9600, .inl (fun _ => 0))), (q_21, .inl (cA_22, 9600, .inl (fun _ => 0))), (q_23, .inl (cA_24, 100, .inl (fun _ => 0))), (q_25, .inl (cA_26, 100, .inr (.inl (fun _ => 0)))), (q_27, .inl (cA_28, 2400, .inl (fun _ => 0))), (q_29, .inl (cA_30, 2400, .inr (.inl (fun _ => 0))))] H := hP
  have hD : va_D A [(g0, .inr (11, [.int 0, .ref q_1, .ref q_3, .ref q_5, .ref q_7, .ref q_9, .ref q_11, .ref q_13, .ref q_15, .ref q_17, .ref q_19, .ref q_21, .int 0, .ref q_23, .ref q_25, .int 1000, .int 0, .int 0, .int 0, .int 0, .ref q_27, .null, .long 0, .int 0, .int 0, .long 0, .int 0, .int 0, .int 0, .int 0, .long 0, .null])), (q_1, .inl (cA_2, 24, .inl (fun _ => 0))), (q_3, .inl (cA_4, 24, .inl (fun _ => 0))), (q_5, .inl (cA_6, 24, .inl (fun _ => 0))), (q_7, .inl (cA_8, 24, .inl (fun _ => 0))), (q_9, .inl (cA_10, 24, .inr (.inl (fun _ => 0)))), (q_11, .inl (cA_12, 24, .inr (.inl (fun _ => 0)))), (q_13, .inl (cA_14, 9600, .inl (fun _ => 0))), (q_15, .inl (cA_16, 9600, .inl (fun _ => 0))), (q_17, .inl (cA_18, 9600, .inr (.inl (fun _ => 0)))), (q_19, .inl (cA_20, 9600, .inl (fun _ => 0))), (q_21, .inl (cA_22, 9600, .inl (fun _ => 0))), (q_23, .inl (cA_24, 100, .inl (fun _ => 0))), (q_25, .inl (cA_26, 100, .inr (.inl (fun _ => 0)))), (q_27, .inl (cA_28, 2400, .inl (fun _ => 0))), (q_29, .inl (cA_30, 2400, .inr (.inl (fun _ => 0))))] := hD
  have hK : va_K (dC, dI) vwCl [(cA_2, .int), (cA_4, .int), (cA_6, .int), (cA_8, .int), (cA_10, .long), (cA_12, .long), (cA_14, .int), (cA_16, .int), (cA_18, .long), (cA_20, .int), (cA_22, .int), (cA_24, .int), (cA_26, .long), (cA_28, .int), (cA_30, .long)] s := hK
  refine W.widen (k := 15) (n := 53144) (by decide +kernel) (by decide +kernel) ?_
  refine va_putF (D := (dC, dI)) (ci := 11) (v := .ref q_29) (ty := (.array .long)) (C := RX12) (T := TX12) (N := 32) hx hb hts (by decide +kernel) tyX12 tyX12_ok nmX12 hown hK hP hD hS 0 rfl rfl 21 (by decide) (hts (.fieldLink RX12 57 "NeededListsModel" "givenValue" "[J") (by decide +kernel)) (fun _ h9 => h9) rfl hin rfl (by decide +kernel) rfl rfl (Nat.le_of_ble_eq_true rfl) dX12_init_135 (fun H locs hP hD hS => ?_)
  have hP : va_P (dC, dI) vwCl [(g0, .inr (11, [.int 0, .ref q_1, .ref q_3, .ref q_5, .ref q_7, .ref q_9, .ref q_11, .ref q_13, .ref q_15, .ref q_17, .ref q_19, .ref q_21, .int 0, .ref q_23, .ref q_25, .int 1000, .int 0, .int 0, .int 0, .int 0, .ref q_27, .ref q_29, .long 0, .int 0, .int 0, .long 0, .int 0, .int 0, .int 0, .int 0, .long 0, .null])), (q_1, .inl (cA_2, 24, .inl (fun _ => 0))), (q_3, .inl (cA_4, 24, .inl (fun _ => 0))), (q_5, .inl (cA_6, 24, .inl (fun _ => 0))), (q_7, .inl (cA_8, 24, .inl (fun _ => 0))), (q_9, .inl (cA_10, 24, .inr (.inl (fun _ => 0)))), (q_11, .inl (cA_12, 24, .inr (.inl (fun _ => 0)))), (q_13, .inl (cA_14, 9600, .inl (fun _ => 0))), (q_15, .inl (cA_16, 9600, .inl (fun _ => 0))), (q_17, .inl (cA_18, 9600, .inr (.inl (fun _ => 0)))), (q_19, .inl (cA_20, 9600, .inl (fun _ => 0))), (q_21, .inl (cA_22, 9600, .inl (fun _ => 0))), (q_23, .inl (cA_24, 100, .inl (fun _ => 0))), (q_25, .inl (cA_26, 100, .inr (.inl (fun _ => 0)))), (q_27, .inl (cA_28, 2400, .inl (fun _ => 0))), (q_29, .inl (cA_30, 2400, .inr (.inl (fun _ => 0))))] H := hP
  have hD : va_D A [(g0, .inr (11, [.int 0, .ref q_1, .ref q_3, .ref q_5, .ref q_7, .ref q_9, .ref q_11, .ref q_13, .ref q_15, .ref q_17, .ref q_19, .ref q_21, .int 0, .ref q_23, .ref q_25, .int 1000, .int 0, .int 0, .int 0, .int 0, .ref q_27, .ref q_29, .long 0, .int 0, .int 0, .long 0, .int 0, .int 0, .int 0, .int 0, .long 0, .null])), (q_1, .inl (cA_2, 24, .inl (fun _ => 0))), (q_3, .inl (cA_4, 24, .inl (fun _ => 0))), (q_5, .inl (cA_6, 24, .inl (fun _ => 0))), (q_7, .inl (cA_8, 24, .inl (fun _ => 0))), (q_9, .inl (cA_10, 24, .inr (.inl (fun _ => 0)))), (q_11, .inl (cA_12, 24, .inr (.inl (fun _ => 0)))), (q_13, .inl (cA_14, 9600, .inl (fun _ => 0))), (q_15, .inl (cA_16, 9600, .inl (fun _ => 0))), (q_17, .inl (cA_18, 9600, .inr (.inl (fun _ => 0)))), (q_19, .inl (cA_20, 9600, .inl (fun _ => 0))), (q_21, .inl (cA_22, 9600, .inl (fun _ => 0))), (q_23, .inl (cA_24, 100, .inl (fun _ => 0))), (q_25, .inl (cA_26, 100, .inr (.inl (fun _ => 0)))), (q_27, .inl (cA_28, 2400, .inl (fun _ => 0))), (q_29, .inl (cA_30, 2400, .inr (.inl (fun _ => 0))))] := hD
  refine lv_aload_n hx hb dX12_init_138 rfl (lv_at hl 0 rfl) ?_
  refine lv_sipush (v := 20000) hx hb dX12_init_139 (by decide) ?_
  refine va_newa (atype := .int) (ty := .int) (N' := 20000) (a0 := (20000, .inl (fun _ => 0))) hx hb (hts (.arrayClass .int) (by decide +kernel)) rfl hK hP hD hS hA (nd_aint 20000) (by decide +kernel) (by decide +kernel) (by decide +kernel) (by decide +kernel) (by decide +kernel) dX12_init_142 (fun q_31 cA_32 H hK hP hD hS => ?_)
  have hP : va_P (dC, dI) vwCl [(g0, .inr (11, [.int 0, .ref q_1, .ref q_3, .ref q_5, .ref q_7, .ref q_9, .ref q_11, .ref q_13, .ref q_15, .ref q_17, .ref q_19, .ref q_21, .int 0, .ref q_23, .ref q_25, .int 1000, .int 0, .int 0, .int 0, .int 0, .ref q_27, .ref q_29, .long 0, .int 0, .int 0, .long 0, .int 0, .int 0, .int 0, .int 0, .long 0, .null])), (q_1, .inl (cA_2, 24, .inl (fun _ => 0))), (q_3, .inl (cA_4, 24, .inl (fun _ => 0))), (q_5, .inl (cA_6, 24, .inl (fun _ => 0))), (q_7, .inl (cA_8, 24, .inl (fun _ => 0))), (q_9, .inl (cA_10, 24, .inr (.inl (fun _ => 0)))), (q_11, .inl (cA_12, 24, .inr (.inl (fun _ => 0)))), (q_13, .inl (cA_14, 9600, .inl (fun _ => 0))), (q_15, .inl (cA_16, 9600, .inl (fun _ => 0))), (q_17, .inl (cA_18, 9600, .inr (.inl (fun _ => 0)))), (q_19, .inl (cA_20, 9600, .inl (fun _ => 0))), (q_21, .inl (cA_22, 9600, .inl (fun _ => 0))), (q_23, .inl (cA_24, 100, .inl (fun _ => 0))), (q_25, .inl (cA_26, 100, .inr (.inl (fun _ => 0)))), (q_27, .inl (cA_28, 2400, .inl (fun _ => 0))), (q_29, .inl (cA_30, 2400, .inr (.inl (fun _ => 0)))), (q_31, .inl (cA_32, 20000, .inl (fun _ => 0)))] H := hP
  have hD : va_D A [(g0, .inr (11, [.int 0, .ref q_1, .ref q_3, .ref q_5, .ref q_7, .ref q_9, .ref q_11, .ref q_13, .ref q_15, .ref q_17, .ref q_19, .ref q_21, .int 0, .ref q_23, .ref q_25, .int 1000, .int 0, .int 0, .int 0, .int 0, .ref q_27, .ref q_29, .long 0, .int 0, .int 0, .long 0, .int 0, .int 0, .int 0, .int 0, .long 0, .null])), (q_1, .inl (cA_2, 24, .inl (fun _ => 0))), (q_3, .inl (cA_4, 24, .inl (fun _ => 0))), (q_5, .inl (cA_6, 24, .inl (fun _ => 0))), (q_7, .inl (cA_8, 24, .inl (fun _ => 0))), (q_9, .inl (cA_10, 24, .inr (.inl (fun _ => 0)))), (q_11, .inl (cA_12, 24, .inr (.inl (fun _ => 0)))), (q_13, .inl (cA_14, 9600, .inl (fun _ => 0))), (q_15, .inl (cA_16, 9600, .inl (fun _ => 0))), (q_17, .inl (cA_18, 9600, .inr (.inl (fun _ => 0)))), (q_19, .inl (cA_20, 9600, .inl (fun _ => 0))), (q_21, .inl (cA_22, 9600, .inl (fun _ => 0))), (q_23, .inl (cA_24, 100, .inl (fun _ => 0))), (q_25, .inl (cA_26, 100, .inr (.inl (fun _ => 0)))), (q_27, .inl (cA_28, 2400, .inl (fun _ => 0))), (q_29, .inl (cA_30, 2400, .inr (.inl (fun _ => 0)))), (q_31, .inl (cA_32, 20000, .inl (fun _ => 0)))] := hD
  have hK : va_K (dC, dI) vwCl [(cA_2, .int), (cA_4, .int), (cA_6, .int), (cA_8, .int), (cA_10, .long), (cA_12, .long), (cA_14, .int), (cA_16, .int), (cA_18, .long), (cA_20, .int), (cA_22, .int), (cA_24, .int), (cA_26, .long), (cA_28, .int), (cA_30, .long), (cA_32, .int)] s := hK
  refine W.widen (k := 16) (n := 73144) (by decide +kernel) (by decide +kernel) ?_
  refine va_putF (D := (dC, dI)) (ci := 11) (v := .ref q_31) (ty := (.array .int)) (C := RX12) (T := TX12) (N := 32) hx hb hts (by decide +kernel) tyX12 tyX12_ok nmX12 hown hK hP hD hS 0 rfl rfl 31 (by decide) (hts (.fieldLink RX12 60 "NeededListsModel" "pile" "[I") (by decide +kernel)) (fun _ h9 => h9) rfl hin rfl (by decide +kernel) rfl rfl (Nat.le_of_ble_eq_true rfl) dX12_init_144 (fun H locs hP hD hS => ?_)
  have hP : va_P (dC, dI) vwCl [(g0, .inr (11, [.int 0, .ref q_1, .ref q_3, .ref q_5, .ref q_7, .ref q_9, .ref q_11, .ref q_13, .ref q_15, .ref q_17, .ref q_19, .ref q_21, .int 0, .ref q_23, .ref q_25, .int 1000, .int 0, .int 0, .int 0, .int 0, .ref q_27, .ref q_29, .long 0, .int 0, .int 0, .long 0, .int 0, .int 0, .int 0, .int 0, .long 0, .ref q_31])), (q_1, .inl (cA_2, 24, .inl (fun _ => 0))), (q_3, .inl (cA_4, 24, .inl (fun _ => 0))), (q_5, .inl (cA_6, 24, .inl (fun _ => 0))), (q_7, .inl (cA_8, 24, .inl (fun _ => 0))), (q_9, .inl (cA_10, 24, .inr (.inl (fun _ => 0)))), (q_11, .inl (cA_12, 24, .inr (.inl (fun _ => 0)))), (q_13, .inl (cA_14, 9600, .inl (fun _ => 0))), (q_15, .inl (cA_16, 9600, .inl (fun _ => 0))), (q_17, .inl (cA_18, 9600, .inr (.inl (fun _ => 0)))), (q_19, .inl (cA_20, 9600, .inl (fun _ => 0))), (q_21, .inl (cA_22, 9600, .inl (fun _ => 0))), (q_23, .inl (cA_24, 100, .inl (fun _ => 0))), (q_25, .inl (cA_26, 100, .inr (.inl (fun _ => 0)))), (q_27, .inl (cA_28, 2400, .inl (fun _ => 0))), (q_29, .inl (cA_30, 2400, .inr (.inl (fun _ => 0)))), (q_31, .inl (cA_32, 20000, .inl (fun _ => 0)))] H := hP
  have hD : va_D A [(g0, .inr (11, [.int 0, .ref q_1, .ref q_3, .ref q_5, .ref q_7, .ref q_9, .ref q_11, .ref q_13, .ref q_15, .ref q_17, .ref q_19, .ref q_21, .int 0, .ref q_23, .ref q_25, .int 1000, .int 0, .int 0, .int 0, .int 0, .ref q_27, .ref q_29, .long 0, .int 0, .int 0, .long 0, .int 0, .int 0, .int 0, .int 0, .long 0, .ref q_31])), (q_1, .inl (cA_2, 24, .inl (fun _ => 0))), (q_3, .inl (cA_4, 24, .inl (fun _ => 0))), (q_5, .inl (cA_6, 24, .inl (fun _ => 0))), (q_7, .inl (cA_8, 24, .inl (fun _ => 0))), (q_9, .inl (cA_10, 24, .inr (.inl (fun _ => 0)))), (q_11, .inl (cA_12, 24, .inr (.inl (fun _ => 0)))), (q_13, .inl (cA_14, 9600, .inl (fun _ => 0))), (q_15, .inl (cA_16, 9600, .inl (fun _ => 0))), (q_17, .inl (cA_18, 9600, .inr (.inl (fun _ => 0)))), (q_19, .inl (cA_20, 9600, .inl (fun _ => 0))), (q_21, .inl (cA_22, 9600, .inl (fun _ => 0))), (q_23, .inl (cA_24, 100, .inl (fun _ => 0))), (q_25, .inl (cA_26, 100, .inr (.inl (fun _ => 0)))), (q_27, .inl (cA_28, 2400, .inl (fun _ => 0))), (q_29, .inl (cA_30, 2400, .inr (.inl (fun _ => 0)))), (q_31, .inl (cA_32, 20000, .inl (fun _ => 0)))] := hD
  refine W.widen (k := 16) (n := 78000) (by decide +kernel) (by decide +kernel) ?_
  have hP9 := hP.sub (ws' := [(g0, .inr (11, [.int 0, .ref q_1, .ref q_3, .ref q_5, .ref q_7, .ref q_9, .ref q_11, .ref q_13, .ref q_15, .ref q_17, .ref q_19, .ref q_21, .int 0, .ref q_23, .ref q_25, .int 1000, .int 0, .int 0, .int 0, .int 0, .ref q_27, .ref q_29, .long 0, .int 0, .int 0, .long 0, .int 0, .int 0, .int 0, .int 0, .long 0, .ref q_31])), (q_1, .inl (cA_2, 24, .inl (fun _ => 0))), (q_3, .inl (cA_4, 24, .inl (fun _ => 0))), (q_5, .inl (cA_6, 24, .inl (fun _ => 0))), (q_7, .inl (cA_8, 24, .inl (fun _ => 0))), (q_9, .inl (cA_10, 24, .inr (.inl (fun _ => 0)))), (q_11, .inl (cA_12, 24, .inr (.inl (fun _ => 0)))), (q_23, .inl (cA_24, 100, .inl (fun _ => 0))), (q_25, .inl (cA_26, 100, .inr (.inl (fun _ => 0))))]) [0, 1, 2, 3, 4, 5, 6, 12, 13] rfl
  have hD9 := hD.sub (ws' := [(g0, .inr (11, [.int 0, .ref q_1, .ref q_3, .ref q_5, .ref q_7, .ref q_9, .ref q_11, .ref q_13, .ref q_15, .ref q_17, .ref q_19, .ref q_21, .int 0, .ref q_23, .ref q_25, .int 1000, .int 0, .int 0, .int 0, .int 0, .ref q_27, .ref q_29, .long 0, .int 0, .int 0, .long 0, .int 0, .int 0, .int 0, .int 0, .long 0, .ref q_31])), (q_1, .inl (cA_2, 24, .inl (fun _ => 0))), (q_3, .inl (cA_4, 24, .inl (fun _ => 0))), (q_5, .inl (cA_6, 24, .inl (fun _ => 0))), (q_7, .inl (cA_8, 24, .inl (fun _ => 0))), (q_9, .inl (cA_10, 24, .inr (.inl (fun _ => 0)))), (q_11, .inl (cA_12, 24, .inr (.inl (fun _ => 0)))), (q_23, .inl (cA_24, 100, .inl (fun _ => 0))), (q_25, .inl (cA_26, 100, .inr (.inl (fun _ => 0))))]) [0, 1, 2, 3, 4, 5, 6, 12, 13] (by decide) rfl
  have hK9 := hK.sub (tys' := [(cA_2, .int), (cA_4, .int), (cA_6, .int), (cA_8, .int), (cA_10, .long), (cA_12, .long), (cA_24, .int), (cA_26, .long)]) [0, 1, 2, 3, 4, 5, 11, 12] rfl
  exact W.vret hx hb hr (fun t ht hW => ⟨⟨((fun k => match k with | 1 => q_1 | 2 => q_3 | 3 => q_5 | 4 => q_7 | 5 => q_9 | 6 => q_11 | 7 => q_13 | 8 => q_15 | 9 => q_17 | 10 => q_19 | 11 => q_21 | 13 => q_23 | 14 => q_25 | 20 => q_27 | 21 => q_29 | 31 => q_31 | _ => 0), (fun k => match k with | 1 => cA_2 | 2 => cA_4 | 3 => cA_6 | 4 => cA_8 | 5 => cA_10 | 6 => cA_12 | 7 => cA_14 | 8 => cA_16 | 9 => cA_18 | 10 => cA_20 | 11 => cA_22 | 13 => cA_24 | 14 => cA_26 | 20 => cA_28 | 21 => cA_30 | 31 => cA_32 | _ => 0)), rfl, trivial, by rw [ht]; exact hP9, va_K.moved hW.alike hK9, hD9⟩, hS.F ht⟩) hS.2.2 dX12_init_147
set_option maxHeartbeats 4000000 in
set_option maxRecDepth 100000 in
theorem c_X12_thrown (l : Launch) (dC : Nat → ClassId) (dI : Nat → Nat → Nat) (a : Nat → Nat) (g0 : Nat) (li : Int32) (ma : Int32) (pu : Int32) (th : Int32) (sz : Nat) : Met l yX12_thrown wsX12_thrown ({ frames := 10, cells := 0, slots := 0, locals := 300 }) (va_Pc [.ref g0] (fun U => U.heap.size = sz ∧ va_P (dC, dI) vwCl [(g0, .inr (11, mF a li ma pu th))] U.heap ∧ va_K (dC, dI) vwCl [] U ∧ va_D (fun _ => True) [])) (va_Qi (fun (r : Int32) (_ : Unit) => r = th) (fun _ _ => True) (va_A [] sz)) 0 0 (va_A [] sz) := by
  refine Met.ofW (cc := cX12_thrown) (maxL := 1) (ret := (some .int)) (by decide) rfl ?_
  intro p e s m args below meth c s₁ B hml hv
  obtain ⟨rfl, hsz, hP, hK, hD0⟩ := hv
  have hx := B.exec
  have hb := B.bytes
  have hr := B.returns
  have hts := atoms_spec (ws := wsX12_thrown) B.pre
  have hown : s.vm.findClass RX12 = some m.cls := findClass_of_methodNamed B.named
  have hlocks := B.notSynchronized
  subst hsz
  have hD := hD0.self (sz := s.heap.size)
  generalize hAe : va_A [] s.heap.size = A at hD ⊢
  have hA : ∀ q : Nat, s.heap.size ≤ q → A q := fun q h => by rw [← hAe]; exact Or.inr h
  generalize hH : s.heap = H at hP ⊢
  have hS : va_S A s.heap H [] := by rw [← hH]; exact va_S.rf
  have hl := lv_entry [.ref g0] (n := 1) (Nat.le_of_ble_eq_true rfl)
  rw [lg_entry_eq]
  generalize (lg_sl [.ref g0] ++ List.replicate (1 - (lg_sl [.ref g0]).length) Slot.unset).toArray = ls at hl ⊢
  have hl : lv_has ls 1 [(0, .ref g0)] := hl
  have hP : va_P (dC, dI) vwCl [(g0, .inr (11, mF a li ma pu th))] H := hP
  refine lv_aload_n hx hb dX12_thrown_0 rfl (lv_at hl 0 rfl) ?_
  refine va_get (D := (dC, dI)) (ci := 11) (v := .int th) (C := RX12) (T := TX12) (N := 32) hx hb hts (by decide +kernel) hown hK hP 0 rfl rfl 19 (by decide) (hts (.fieldLink RX12 63 "NeededListsModel" "thrown" "I") (by decide +kernel)) (fun _ h9 => h9) rfl dX12_thrown_1 ?_
  refine W.widen (k := 0) (n := 0) (by decide +kernel) (by decide +kernel) ?_
  exact W.iret (v := th) hx hb hr (fun t ht hW => ⟨⟨th, (), rfl, rfl, trivial⟩, hS.F ht⟩) hS.2.2 dX12_thrown_4
set_option maxHeartbeats 4000000 in
set_option maxRecDepth 100000 in
theorem c_X12_fail (l : Launch) (dC : Nat → ClassId) (dI : Nat → Nat → Nat) (a : Nat → Nat) (g0 : Nat) (li : Int32) (ma : Int32) (pu : Int32) (th : Int32) (p0 : Int32) (sz : Nat) : Met l yX12_fail wsX12_fail ({ frames := 10, cells := 0, slots := 0, locals := 300 }) (va_Pc [.ref g0, .int p0] (fun U => U.heap.size = sz ∧ va_P (dC, dI) vwCl [(g0, .inr (11, mF a li ma pu th))] U.heap ∧ va_K (dC, dI) vwCl [] U ∧ va_D (fun _ => True) [(g0, .inr (11, mF a li ma pu th))])) (va_Qi (fun (r : Int32) (_ : Unit) => r = 0) (fun (u : Unit) (t : State) => va_P (dC, dI) vwCl [(g0, .inr (11, mF a li ma pu p0))] t.heap ∧ va_K (dC, dI) vwCl [] t ∧ va_D (va_A [(g0, .inr (11, mF a li ma pu th))] sz) [(g0, .inr (11, mF a li ma pu p0))]) (va_A [(g0, .inr (11, mF a li ma pu th))] sz)) 0 0 (va_A [(g0, .inr (11, mF a li ma pu th))] sz) := by
  refine Met.ofW (cc := cX12_fail) (maxL := 2) (ret := (some .int)) (by decide) rfl ?_
  intro p e s m args below meth c s₁ B hml hv
  obtain ⟨rfl, hsz, hP, hK, hD0⟩ := hv
  have hx := B.exec
  have hb := B.bytes
  have hr := B.returns
  have hts := atoms_spec (ws := wsX12_fail) B.pre
  have hown : s.vm.findClass RX12 = some m.cls := findClass_of_methodNamed B.named
  have hlocks := B.notSynchronized
  subst hsz
  have hD := hD0.self (sz := s.heap.size)
  generalize hAe : va_A [(g0, .inr (11, mF a li ma pu th))] s.heap.size = A at hD ⊢
  have hA : ∀ q : Nat, s.heap.size ≤ q → A q := fun q h => by rw [← hAe]; exact Or.inr h
  generalize hH : s.heap = H at hP ⊢
  have hS : va_S A s.heap H [] := by rw [← hH]; exact va_S.rf
  have hl := lv_entry [.ref g0, .int p0] (n := 2) (Nat.le_of_ble_eq_true rfl)
  rw [lg_entry_eq]
  generalize (lg_sl [.ref g0, .int p0] ++ List.replicate (2 - (lg_sl [.ref g0, .int p0]).length) Slot.unset).toArray = ls at hl ⊢
  have hl : lv_has ls 2 [(0, .ref g0), (1, .int p0)] := hl
  have hP : va_P (dC, dI) vwCl [(g0, .inr (11, mF a li ma pu th))] H := hP
  refine lv_aload_n hx hb dX12_fail_0 rfl (lv_at hl 0 rfl) ?_
  refine lv_iload_n hx hb dX12_fail_1 rfl (lv_at hl 1 rfl) ?_
  refine va_put (D := (dC, dI)) (ci := 11) (v := .int p0) (ty := .int) (C := RX12) (T := TX12) (N := 32) hx hb hts (by decide +kernel) tyX12 tyX12_ok nmX12 hown hK hP hD hS 0 rfl rfl 19 (by decide) (hts (.fieldLink RX12 63 "NeededListsModel" "thrown" "I") (by decide +kernel)) (fun _ h9 => h9) rfl (by decide +kernel) rfl rfl (Nat.le_of_ble_eq_true rfl) dX12_fail_2 (fun H locs hP hD hS => ?_)
  have hP : va_P (dC, dI) vwCl [(g0, .inr (11, mF a li ma pu p0))] H := hP
  have hD : va_D A [(g0, .inr (11, mF a li ma pu p0))] := hD
  refine lv_iconst (v := 0) hx hb dX12_fail_5 (by decide) ?_
  refine W.widen (k := 0) (n := 0) (by decide +kernel) (by decide +kernel) ?_
  have hP9 := hP.sub (ws' := [(g0, .inr (11, mF a li ma pu p0))]) [0] rfl
  have hD9 := hD.sub (ws' := [(g0, .inr (11, mF a li ma pu p0))]) [0] (by decide) rfl
  have hK9 := hK.sub (tys' := []) [] rfl
  exact W.iret (v := 0) hx hb hr (fun t ht hW => ⟨⟨0, (), rfl, rfl, by rw [ht]; exact hP9, va_K.moved hW.alike hK9, hD9⟩, hS.F ht⟩) hS.2.2 dX12_fail_6
set_option maxHeartbeats 4000000 in
set_option maxRecDepth 100000 in
theorem c_X12_isList (l : Launch) (dC : Nat → ClassId) (dI : Nat → Nat → Nat) (a : Nat → Nat) (g0 : Nat) (ma : Int32) (pu : Int32) (th : Int32) (p0 : Int32) (sz : Nat) : Met l yX12_isList wsX12_isList ({ frames := 10, cells := 0, slots := 0, locals := 300 }) (va_Pc [.ref g0, .int p0] (fun U => U.heap.size = sz ∧ va_P (dC, dI) vwCl [(g0, .inr (11, mF a 0 ma pu th))] U.heap ∧ va_K (dC, dI) vwCl [] U ∧ va_D (fun _ => True) [])) (va_Qi (fun (r : Int32) (_ : Unit) => r = 0) (fun _ _ => True) (va_A [] sz)) 0 0 (va_A [] sz) := by
  refine Met.ofW (cc := cX12_isList) (maxL := 2) (ret := (some .boolean)) (by decide) rfl ?_
  intro p e s m args below meth c s₁ B hml hv
  obtain ⟨rfl, hsz, hP, hK, hD0⟩ := hv
  have hx := B.exec
  have hb := B.bytes
  have hr := B.returns
  have hts := atoms_spec (ws := wsX12_isList) B.pre
  have hown : s.vm.findClass RX12 = some m.cls := findClass_of_methodNamed B.named
  have hlocks := B.notSynchronized
  subst hsz
  have hD := hD0.self (sz := s.heap.size)
  generalize hAe : va_A [] s.heap.size = A at hD ⊢
  have hA : ∀ q : Nat, s.heap.size ≤ q → A q := fun q h => by rw [← hAe]; exact Or.inr h
  generalize hH : s.heap = H at hP ⊢
  have hS : va_S A s.heap H [] := by rw [← hH]; exact va_S.rf
  have hl := lv_entry [.ref g0, .int p0] (n := 2) (Nat.le_of_ble_eq_true rfl)
  rw [lg_entry_eq]
  generalize (lg_sl [.ref g0, .int p0] ++ List.replicate (2 - (lg_sl [.ref g0, .int p0]).length) Slot.unset).toArray = ls at hl ⊢
  have hl : lv_has ls 2 [(0, .ref g0), (1, .int p0)] := hl
  have hP : va_P (dC, dI) vwCl [(g0, .inr (11, mF a 0 ma pu th))] H := hP
  refine lv_iload_n hx hb dX12_isList_0 rfl (lv_at hl 1 rfl) ?_
  refine lv_if_lt (tgt := 16) hx hb dX12_isList_1 (by decide) (fun c_1 => ?_) (fun c_1 => ?_)
  · refine lv_iconst (v := 0) hx hb dX12_isList_16 (by decide) ?_
    refine W.widen (k := 0) (n := 0) (by decide +kernel) (by decide +kernel) ?_
    exact W.zret (v := 0) hx hb hr (by decide) (fun t ht hW => ⟨⟨0, (), rfl, rfl, trivial⟩, hS.F ht⟩) hS.2.2 dX12_isList_17
  · refine lv_iload_n hx hb dX12_isList_4 rfl (lv_at hl 1 rfl) ?_
    refine lv_aload_n hx hb dX12_isList_5 rfl (lv_at hl 0 rfl) ?_
    refine va_get (D := (dC, dI)) (ci := 11) (v := .int 0) (C := RX12) (T := TX12) (N := 32) hx hb hts (by decide +kernel) hown hK hP 0 rfl rfl 0 (by decide) (hts (.fieldLink RX12 66 "NeededListsModel" "lists" "I") (by decide +kernel)) (fun _ h9 => h9) rfl dX12_isList_6 ?_
    refine lv_icmp_ge (tgt := 16) hx hb dX12_isList_9 (by decide) (fun c_9 => ?_) (fun c_9 => ?_)
    · refine lv_iconst (v := 0) hx hb dX12_isList_16 (by decide) ?_
      refine W.widen (k := 0) (n := 0) (by decide +kernel) (by decide +kernel) ?_
      exact W.zret (v := 0) hx hb hr (by decide) (fun t ht hW => ⟨⟨0, (), rfl, rfl, trivial⟩, hS.F ht⟩) hS.2.2 dX12_isList_17
    · exact absurd (Int32.not_lt.mp c_1) c_9
set_option maxHeartbeats 4000000 in
set_option maxRecDepth 100000 in
theorem c_X12_isOp (l : Launch) (dC : Nat → ClassId) (dI : Nat → Nat → Nat) (p0 : Int32) (sz : Nat) : Met l yX12_isOp wsX12_isOp ({ frames := 10, cells := 0, slots := 0, locals := 300 }) (va_Pc [.int p0] (fun U => U.heap.size = sz ∧ va_P (dC, dI) vwCl [] U.heap ∧ va_K (dC, dI) vwCl [] U ∧ va_D (fun _ => True) [])) (va_Qi (fun (r : Int32) (_ : Unit) => r = bOp p0) (fun _ _ => True) (va_A [] sz)) 0 0 (va_A [] sz) := by
  refine Met.ofW (cc := cX12_isOp) (maxL := 1) (ret := (some .boolean)) (by decide) rfl ?_
  intro p e s m args below meth c s₁ B hml hv
  obtain ⟨rfl, hsz, hP, hK, hD0⟩ := hv
  have hx := B.exec
  have hb := B.bytes
  have hr := B.returns
  have hts := atoms_spec (ws := wsX12_isOp) B.pre
  have hown : s.vm.findClass RX12 = some m.cls := findClass_of_methodNamed B.named
  have hlocks := B.notSynchronized
  subst hsz
  have hD := hD0.self (sz := s.heap.size)
  generalize hAe : va_A [] s.heap.size = A at hD ⊢
  have hA : ∀ q : Nat, s.heap.size ≤ q → A q := fun q h => by rw [← hAe]; exact Or.inr h
  generalize hH : s.heap = H at hP ⊢
  have hS : va_S A s.heap H [] := by rw [← hH]; exact va_S.rf
  have hl := lv_entry [.int p0] (n := 1) (Nat.le_of_ble_eq_true rfl)
  rw [lg_entry_eq]
  generalize (lg_sl [.int p0] ++ List.replicate (1 - (lg_sl [.int p0]).length) Slot.unset).toArray = ls at hl ⊢
  have hl : lv_has ls 1 [(0, .int p0)] := hl
  have hP : va_P (dC, dI) vwCl [] H := hP
  refine lv_iload_n hx hb dX12_isOp_0 rfl (lv_at hl 0 rfl) ?_
  refine lv_if_lt (tgt := 14) hx hb dX12_isOp_1 (by decide) (fun c_1 => ?_) (fun c_1 => ?_)
  · refine lv_iconst (v := 0) hx hb dX12_isOp_14 (by decide) ?_
    refine W.widen (k := 0) (n := 0) (by decide +kernel) (by decide +kernel) ?_
    exact W.zret (v := 0) hx hb hr (by decide) (fun t ht hW => ⟨⟨0, (), rfl, (if_pos c_1).symm, trivial⟩, hS.F ht⟩) hS.2.2 dX12_isOp_15
  · refine lv_iload_n hx hb dX12_isOp_4 rfl (lv_at hl 0 rfl) ?_
    refine lv_bipush (v := 8) hx hb dX12_isOp_5 (by decide) ?_
    refine lv_icmp_gt (tgt := 14) hx hb dX12_isOp_7 (by decide) (fun c_7 => ?_) (fun c_7 => ?_)
    · refine lv_iconst (v := 0) hx hb dX12_isOp_14 (by decide) ?_
      refine W.widen (k := 0) (n := 0) (by decide +kernel) (by decide +kernel) ?_
      exact W.zret (v := 0) hx hb hr (by decide) (fun t ht hW => ⟨⟨0, (), rfl, ((if_neg c_1).trans (if_pos c_7)).symm, trivial⟩, hS.F ht⟩) hS.2.2 dX12_isOp_15
    · refine lv_iconst (v := 1) hx hb dX12_isOp_10 (by decide) ?_
      refine lv_goto (tgt := 15) hx hb dX12_isOp_11 (by decide) ?_
      refine W.widen (k := 0) (n := 0) (by decide +kernel) (by decide +kernel) ?_
      exact W.zret (v := 1) hx hb hr (by decide) (fun t ht hW => ⟨⟨1, (), rfl, ((if_neg c_1).trans (if_neg c_7)).symm, trivial⟩, hS.F ht⟩) hS.2.2 dX12_isOp_15
set_option maxHeartbeats 4000000 in
set_option maxRecDepth 100000 in
theorem c_X12_made (l : Launch) (dC : Nat → ClassId) (dI : Nat → Nat → Nat) (a : Nat → Nat) (g0 : Nat) (ca : Nat → ClassId) (f1 : Nat → Int32) (f2 : Nat → Int32) (f3 : Nat → Int32) (f4 : Nat → Int32) (f5 : Nat → Int64) (f6 : Nat → Int64) (ma : Int32) (pu : Int32) (th : Int32) (p0 : Int32) (p1 : Int32) (p2 : Int32) (p3 : Int32) (p4 : Int64) (p5 : Int64) (sz : Nat) : Met l yX12_made wsX12_made ({ frames := 10, cells := 0, slots := 0, locals := 300 }) (va_Pc [.ref g0, .int p0, .int p1, .int p2, .int p3, .long p4, .long p5] (fun U => U.heap.size = sz ∧ va_P (dC, dI) vwCl [(g0, .inr (11, mF a 0 ma pu th)), (a 1, .inl (ca 1, 24, .inl (f1))), (a 2, .inl (ca 2, 24, .inl (f2))), (a 3, .inl (ca 3, 24, .inl (f3))), (a 4, .inl (ca 4, 24, .inl (f4))), (a 5, .inl (ca 5, 24, .inr (.inl (f5)))), (a 6, .inl (ca 6, 24, .inr (.inl (f6))))] U.heap ∧ va_K (dC, dI) vwCl [(ca 1, .int), (ca 2, .int), (ca 3, .int), (ca 4, .int), (ca 5, .long), (ca 6, .long)] U ∧ va_D (fun _ => True) [(g0, .inr (11, mF a 0 ma pu th)), (a 1, .inl (ca 1, 24, .inl (f1))), (a 2, .inl (ca 2, 24, .inl (f2))), (a 3, .inl (ca 3, 24, .inl (f3))), (a 4, .inl (ca 4, 24, .inl (f4))), (a 5, .inl (ca 5, 24, .inr (.inl (f5)))), (a 6, .inl (ca 6, 24, .inr (.inl (f6))))])) (va_Qi (fun (r : Int32) (_ : Unit) => r = 0) (fun (u : Unit) (t : State) => va_P (dC, dI) vwCl [(g0, .inr (11, mF a 1 ma pu th))] t.heap ∧ va_K (dC, dI) vwCl [] t ∧ va_D (va_A [(g0, .inr (11, mF a 0 ma pu th)), (a 1, .inl (ca 1, 24, .inl (f1))), (a 2, .inl (ca 2, 24, .inl (f2))), (a 3, .inl (ca 3, 24, .inl (f3))), (a 4, .inl (ca 4, 24, .inl (f4))), (a 5, .inl (ca 5, 24, .inr (.inl (f5)))), (a 6, .inl (ca 6, 24, .inr (.inl (f6))))] sz) [(g0, .inr (11, mF a 1 ma pu th))]) (va_A [(g0, .inr (11, mF a 0 ma pu th)), (a 1, .inl (ca 1, 24, .inl (f1))), (a 2, .inl (ca 2, 24, .inl (f2))), (a 3, .inl (ca 3, 24, .inl (f3))), (a 4, .inl (ca 4, 24, .inl (f4))), (a 5, .inl (ca 5, 24, .inr (.inl (f5)))), (a 6, .inl (ca 6, 24, .inr (.inl (f6))))] sz)) 0 0 (va_A [(g0, .inr (11, mF a 0 ma pu th)), (a 1, .inl (ca 1, 24, .inl (f1))), (a 2, .inl (ca 2, 24, .inl (f2))), (a 3, .inl (ca 3, 24, .inl (f3))), (a 4, .inl (ca 4, 24, .inl (f4))), (a 5, .inl (ca 5, 24, .inr (.inl (f5)))), (a 6, .inl (ca 6, 24, .inr (.inl (f6))))] sz) := by
  refine Met.ofW (cc := cX12_made) (maxL := 9) (ret := (some .int)) (by decide) rfl ?_
  intro p e s m args below meth c s₁ B hml hv
  obtain ⟨rfl, hsz, hP, hK, hD0⟩ := hv
  have hx := B.exec
  have hb := B.bytes
  have hr := B.returns
  have hts := atoms_spec (ws := wsX12_made) B.pre
  have hown : s.vm.findClass RX12 = some m.cls := findClass_of_methodNamed B.named
  have hlocks := B.notSynchronized
  subst hsz
  have hD := hD0.self (sz := s.heap.size)
  generalize hAe : va_A [(g0, .inr (11, mF a 0 ma pu th)), (a 1, .inl (ca 1, 24, .inl (f1))), (a 2, .inl (ca 2, 24, .inl (f2))), (a 3, .inl (ca 3, 24, .inl (f3))), (a 4, .inl (ca 4, 24, .inl (f4))), (a 5, .inl (ca 5, 24, .inr (.inl (f5)))), (a 6, .inl (ca 6, 24, .inr (.inl (f6))))] s.heap.size = A at hD ⊢
  have hA : ∀ q : Nat, s.heap.size ≤ q → A q := fun q h => by rw [← hAe]; exact Or.inr h
  generalize hH : s.heap = H at hP ⊢
  have hS : va_S A s.heap H [] := by rw [← hH]; exact va_S.rf
  have hl := lv_entry [.ref g0, .int p0, .int p1, .int p2, .int p3, .long p4, .long p5] (n := 9) (Nat.le_of_ble_eq_true rfl)
  rw [lg_entry_eq]
  generalize (lg_sl [.ref g0, .int p0, .int p1, .int p2, .int p3, .long p4, .long p5] ++ List.replicate (9 - (lg_sl [.ref g0, .int p0, .int p1, .int p2, .int p3, .long p4, .long p5]).length) Slot.unset).toArray = ls at hl ⊢
  have hl : lv_has ls 9 [(0, .ref g0), (1, .int p0), (2, .int p1), (3, .int p2), (4, .int p3), (5, .long p4), (7, .long p5)] := hl
  have hP : va_P (dC, dI) vwCl [(g0, .inr (11, mF a 0 ma pu th)), (a 1, .inl (ca 1, 24, .inl (f1))), (a 2, .inl (ca 2, 24, .inl (f2))), (a 3, .inl (ca 3, 24, .inl (f3))), (a 4, .inl (ca 4, 24, .inl (f4))), (a 5, .inl (ca 5, 24, .inr (.inl (f5)))), (a 6, .inl (ca 6, 24, .inr (.inl (f6))))] H := hP
  refine lv_aload_n hx hb dX12_made_0 rfl (lv_at hl 0 rfl) ?_
  refine va_get (D := (dC, dI)) (ci := 11) (v := .ref (a 1)) (C := RX12) (T := TX12) (N := 32) hx hb hts (by decide +kernel) hown hK hP 0 rfl rfl 1 (by decide) (hts (.fieldLink RX12 7 "NeededListsModel" "sort" "[I") (by decide +kernel)) (fun _ h9 => h9) rfl dX12_made_1 ?_
  refine lv_aload_n hx hb dX12_made_4 rfl (lv_at hl 0 rfl) ?_
  refine va_get (D := (dC, dI)) (ci := 11) (v := .int 0) (C := RX12) (T := TX12) (N := 32) hx hb hts (by decide +kernel) hown hK hP 0 rfl rfl 0 (by decide) (hts (.fieldLink RX12 66 "NeededListsModel" "lists" "I") (by decide +kernel)) (fun _ h9 => h9) rfl dX12_made_5 ?_
  refine lv_iload_n hx hb dX12_made_8 rfl (lv_at hl 1 rfl) ?_
  refine va_iast hx hb hK hP hD hS 1 0 rfl rfl (nd_in (i := 0) (n := 24) (by decide)) dX12_made_9 (fun H locs hP hD hS => ?_)
  obtain ⟨f_1, ef_1⟩ : ∃ z, z = upd f1 ((0 : Int32).toNatClampNeg) p0 := ⟨_, rfl⟩
  have hP : va_P (dC, dI) vwCl [(g0, .inr (11, mF a 0 ma pu th)), (a 1, .inl (ca 1, 24, .inl (upd f1 ((0 : Int32).toNatClampNeg) p0))), (a 2, .inl (ca 2, 24, .inl (f2))), (a 3, .inl (ca 3, 24, .inl (f3))), (a 4, .inl (ca 4, 24, .inl (f4))), (a 5, .inl (ca 5, 24, .inr (.inl (f5)))), (a 6, .inl (ca 6, 24, .inr (.inl (f6))))] H := hP
  have hD : va_D A [(g0, .inr (11, mF a 0 ma pu th)), (a 1, .inl (ca 1, 24, .inl (upd f1 ((0 : Int32).toNatClampNeg) p0))), (a 2, .inl (ca 2, 24, .inl (f2))), (a 3, .inl (ca 3, 24, .inl (f3))), (a 4, .inl (ca 4, 24, .inl (f4))), (a 5, .inl (ca 5, 24, .inr (.inl (f5)))), (a 6, .inl (ca 6, 24, .inr (.inl (f6))))] := hD
  rw [← ef_1] at hP hD
  refine lv_aload_n hx hb dX12_made_10 rfl (lv_at hl 0 rfl) ?_
  refine va_get (D := (dC, dI)) (ci := 11) (v := .ref (a 2)) (C := RX12) (T := TX12) (N := 32) hx hb hts (by decide +kernel) hown hK hP 0 rfl rfl 2 (by decide) (hts (.fieldLink RX12 13 "NeededListsModel" "first" "[I") (by decide +kernel)) (fun _ h9 => h9) rfl dX12_made_11 ?_
  refine lv_aload_n hx hb dX12_made_14 rfl (lv_at hl 0 rfl) ?_
  refine va_get (D := (dC, dI)) (ci := 11) (v := .int 0) (C := RX12) (T := TX12) (N := 32) hx hb hts (by decide +kernel) hown hK hP 0 rfl rfl 0 (by decide) (hts (.fieldLink RX12 66 "NeededListsModel" "lists" "I") (by decide +kernel)) (fun _ h9 => h9) rfl dX12_made_15 ?_
  refine lv_iload_n hx hb dX12_made_18 rfl (lv_at hl 2 rfl) ?_
  refine va_iast hx hb hK hP hD hS 2 1 rfl rfl (nd_in (i := 0) (n := 24) (by decide)) dX12_made_19 (fun H locs hP hD hS => ?_)
  obtain ⟨f_2, ef_2⟩ : ∃ z, z = upd f2 ((0 : Int32).toNatClampNeg) p1 := ⟨_, rfl⟩
  have hP : va_P (dC, dI) vwCl [(g0, .inr (11, mF a 0 ma pu th)), (a 1, .inl (ca 1, 24, .inl (f_1))), (a 2, .inl (ca 2, 24, .inl (upd f2 ((0 : Int32).toNatClampNeg) p1))), (a 3, .inl (ca 3, 24, .inl (f3))), (a 4, .inl (ca 4, 24, .inl (f4))), (a 5, .inl (ca 5, 24, .inr (.inl (f5)))), (a 6, .inl (ca 6, 24, .inr (.inl (f6))))] H := hP
  have hD : va_D A [(g0, .inr (11, mF a 0 ma pu th)), (a 1, .inl (ca 1, 24, .inl (f_1))), (a 2, .inl (ca 2, 24, .inl (upd f2 ((0 : Int32).toNatClampNeg) p1))), (a 3, .inl (ca 3, 24, .inl (f3))), (a 4, .inl (ca 4, 24, .inl (f4))), (a 5, .inl (ca 5, 24, .inr (.inl (f5)))), (a 6, .inl (ca 6, 24, .inr (.inl (f6))))] := hD
  rw [← ef_2] at hP hD
  refine lv_aload_n hx hb dX12_made_20 rfl (lv_at hl 0 rfl) ?_
  refine va_get (D := (dC, dI)) (ci := 11) (v := .ref (a 3)) (C := RX12) (T := TX12) (N := 32) hx hb hts (by decide +kernel) hown hK hP 0 rfl rfl 3 (by decide) (hts (.fieldLink RX12 16 "NeededListsModel" "second" "[I") (by decide +kernel)) (fun _ h9 => h9) rfl dX12_made_21 ?_
  refine lv_aload_n hx hb dX12_made_24 rfl (lv_at hl 0 rfl) ?_
  refine va_get (D := (dC, dI)) (ci := 11) (v := .int 0) (C := RX12) (T := TX12) (N := 32) hx hb hts (by decide +kernel) hown hK hP 0 rfl rfl 0 (by decide) (hts (.fieldLink RX12 66 "NeededListsModel" "lists" "I") (by decide +kernel)) (fun _ h9 => h9) rfl dX12_made_25 ?_
  refine lv_iload_n hx hb dX12_made_28 rfl (lv_at hl 3 rfl) ?_
  refine va_iast hx hb hK hP hD hS 3 2 rfl rfl (nd_in (i := 0) (n := 24) (by decide)) dX12_made_29 (fun H locs hP hD hS => ?_)
  obtain ⟨f_3, ef_3⟩ : ∃ z, z = upd f3 ((0 : Int32).toNatClampNeg) p2 := ⟨_, rfl⟩
  have hP : va_P (dC, dI) vwCl [(g0, .inr (11, mF a 0 ma pu th)), (a 1, .inl (ca 1, 24, .inl (f_1))), (a 2, .inl (ca 2, 24, .inl (f_2))), (a 3, .inl (ca 3, 24, .inl (upd f3 ((0 : Int32).toNatClampNeg) p2))), (a 4, .inl (ca 4, 24, .inl (f4))), (a 5, .inl (ca 5, 24, .inr (.inl (f5)))), (a 6, .inl (ca 6, 24, .inr (.inl (f6))))] H := hP
  have hD : va_D A [(g0, .inr (11, mF a 0 ma pu th)), (a 1, .inl (ca 1, 24, .inl (f_1))), (a 2, .inl (ca 2, 24, .inl (f_2))), (a 3, .inl (ca 3, 24, .inl (upd f3 ((0 : Int32).toNatClampNeg) p2))), (a 4, .inl (ca 4, 24, .inl (f4))), (a 5, .inl (ca 5, 24, .inr (.inl (f5)))), (a 6, .inl (ca 6, 24, .inr (.inl (f6))))] := hD
  rw [← ef_3] at hP hD
  refine lv_aload_n hx hb dX12_made_30 rfl (lv_at hl 0 rfl) ?_
  refine va_get (D := (dC, dI)) (ci := 11) (v := .ref (a 4)) (C := RX12) (T := TX12) (N := 32) hx hb hts (by decide +kernel) hown hK hP 0 rfl rfl 4 (by decide) (hts (.fieldLink RX12 19 "NeededListsModel" "code" "[I") (by decide +kernel)) (fun _ h9 => h9) rfl dX12_made_31 ?_
  refine lv_aload_n hx hb dX12_made_34 rfl (lv_at hl 0 rfl) ?_
  refine va_get (D := (dC, dI)) (ci := 11) (v := .int 0) (C := RX12) (T := TX12) (N := 32) hx hb hts (by decide +kernel) hown hK hP 0 rfl rfl 0 (by decide) (hts (.fieldLink RX12 66 "NeededListsModel" "lists" "I") (by decide +kernel)) (fun _ h9 => h9) rfl dX12_made_35 ?_
  refine lv_iload hx hb dX12_made_38 (lv_at hl 4 rfl) ?_
  refine va_iast hx hb hK hP hD hS 4 3 rfl rfl (nd_in (i := 0) (n := 24) (by decide)) dX12_made_40 (fun H locs hP hD hS => ?_)
  obtain ⟨f_4, ef_4⟩ : ∃ z, z = upd f4 ((0 : Int32).toNatClampNeg) p3 := ⟨_, rfl⟩
  have hP : va_P (dC, dI) vwCl [(g0, .inr (11, mF a 0 ma pu th)), (a 1, .inl (ca 1, 24, .inl (f_1))), (a 2, .inl (ca 2, 24, .inl (f_2))), (a 3, .inl (ca 3, 24, .inl (f_3))), (a 4, .inl (ca 4, 24, .inl (upd f4 ((0 : Int32).toNatClampNeg) p3))), (a 5, .inl (ca 5, 24, .inr (.inl (f5)))), (a 6, .inl (ca 6, 24, .inr (.inl (f6))))] H := hP
  have hD : va_D A [(g0, .inr (11, mF a 0 ma pu th)), (a 1, .inl (ca 1, 24, .inl (f_1))), (a 2, .inl (ca 2, 24, .inl (f_2))), (a 3, .inl (ca 3, 24, .inl (f_3))), (a 4, .inl (ca 4, 24, .inl (upd f4 ((0 : Int32).toNatClampNeg) p3))), (a 5, .inl (ca 5, 24, .inr (.inl (f5)))), (a 6, .inl (ca 6, 24, .inr (.inl (f6))))] := hD
  rw [← ef_4] at hP hD
  refine lv_aload_n hx hb dX12_made_41 rfl (lv_at hl 0 rfl) ?_
  refine va_get (D := (dC, dI)) (ci := 11) (v := .ref (a 5)) (C := RX12) (T := TX12) (N := 32) hx hb hts (by decide +kernel) hown hK hP 0 rfl rfl 5 (by decide) (hts (.fieldLink RX12 22 "NeededListsModel" "number" "[J") (by decide +kernel)) (fun _ h9 => h9) rfl dX12_made_42 ?_
  refine lv_aload_n hx hb dX12_made_45 rfl (lv_at hl 0 rfl) ?_
  refine va_get (D := (dC, dI)) (ci := 11) (v := .int 0) (C := RX12) (T := TX12) (N := 32) hx hb hts (by decide +kernel) hown hK hP 0 rfl rfl 0 (by decide) (hts (.fieldLink RX12 66 "NeededListsModel" "lists" "I") (by decide +kernel)) (fun _ h9 => h9) rfl dX12_made_46 ?_
  refine lv_lload hx hb dX12_made_49 (lv_at hl 5 rfl) ?_
  refine va_last hx hb hK hP hD hS 5 4 rfl rfl (nd_in (i := 0) (n := 24) (by decide)) dX12_made_51 (fun H locs hP hD hS => ?_)
  obtain ⟨f_5, ef_5⟩ : ∃ z, z = vp_updL f5 ((0 : Int32).toNatClampNeg) p4 := ⟨_, rfl⟩
  have hP : va_P (dC, dI) vwCl [(g0, .inr (11, mF a 0 ma pu th)), (a 1, .inl (ca 1, 24, .inl (f_1))), (a 2, .inl (ca 2, 24, .inl (f_2))), (a 3, .inl (ca 3, 24, .inl (f_3))), (a 4, .inl (ca 4, 24, .inl (f_4))), (a 5, .inl (ca 5, 24, .inr (.inl (vp_updL f5 ((0 : Int32).toNatClampNeg) p4)))), (a 6, .inl (ca 6, 24, .inr (.inl (f6))))] H := hP
  have hD : va_D A [(g0, .inr (11, mF a 0 ma pu th)), (a 1, .inl (ca 1, 24, .inl (f_1))), (a 2, .inl (ca 2, 24, .inl (f_2))), (a 3, .inl (ca 3, 24, .inl (f_3))), (a 4, .inl (ca 4, 24, .inl (f_4))), (a 5, .inl (ca 5, 24, .inr (.inl (vp_updL f5 ((0 : Int32).toNatClampNeg) p4)))), (a 6, .inl (ca 6, 24, .inr (.inl (f6))))] := hD
  rw [← ef_5] at hP hD
  refine lv_aload_n hx hb dX12_made_52 rfl (lv_at hl 0 rfl) ?_
  refine va_get (D := (dC, dI)) (ci := 11) (v := .ref (a 6)) (C := RX12) (T := TX12) (N := 32) hx hb hts (by decide +kernel) hown hK hP 0 rfl rfl 6 (by decide) (hts (.fieldLink RX12 26 "NeededListsModel" "other" "[J") (by decide +kernel)) (fun _ h9 => h9) rfl dX12_made_53 ?_
  refine lv_aload_n hx hb dX12_made_56 rfl (lv_at hl 0 rfl) ?_
  refine va_get (D := (dC, dI)) (ci := 11) (v := .int 0) (C := RX12) (T := TX12) (N := 32) hx hb hts (by decide +kernel) hown hK hP 0 rfl rfl 0 (by decide) (hts (.fieldLink RX12 66 "NeededListsModel" "lists" "I") (by decide +kernel)) (fun _ h9 => h9) rfl dX12_made_57 ?_
  refine lv_lload hx hb dX12_made_60 (lv_at hl 6 rfl) ?_
  refine va_last hx hb hK hP hD hS 6 5 rfl rfl (nd_in (i := 0) (n := 24) (by decide)) dX12_made_62 (fun H locs hP hD hS => ?_)
  obtain ⟨f_6, ef_6⟩ : ∃ z, z = vp_updL f6 ((0 : Int32).toNatClampNeg) p5 := ⟨_, rfl⟩
  have hP : va_P (dC, dI) vwCl [(g0, .inr (11, mF a 0 ma pu th)), (a 1, .inl (ca 1, 24, .inl (f_1))), (a 2, .inl (ca 2, 24, .inl (f_2))), (a 3, .inl (ca 3, 24, .inl (f_3))), (a 4, .inl (ca 4, 24, .inl (f_4))), (a 5, .inl (ca 5, 24, .inr (.inl (f_5)))), (a 6, .inl (ca 6, 24, .inr (.inl (vp_updL f6 ((0 : Int32).toNatClampNeg) p5))))] H := hP
  have hD : va_D A [(g0, .inr (11, mF a 0 ma pu th)), (a 1, .inl (ca 1, 24, .inl (f_1))), (a 2, .inl (ca 2, 24, .inl (f_2))), (a 3, .inl (ca 3, 24, .inl (f_3))), (a 4, .inl (ca 4, 24, .inl (f_4))), (a 5, .inl (ca 5, 24, .inr (.inl (f_5)))), (a 6, .inl (ca 6, 24, .inr (.inl (vp_updL f6 ((0 : Int32).toNatClampNeg) p5))))] := hD
  rw [← ef_6] at hP hD
  refine lv_aload_n hx hb dX12_made_63 rfl (lv_at hl 0 rfl) ?_
  refine lv_dup hx hb dX12_made_64 rfl ?_
  refine va_get (D := (dC, dI)) (ci := 11) (v := .int 0) (C := RX12) (T := TX12) (N := 32) hx hb hts (by decide +kernel) hown hK hP 0 rfl rfl 0 (by decide) (hts (.fieldLink RX12 66 "NeededListsModel" "lists" "I") (by decide +kernel)) (fun _ h9 => h9) rfl dX12_made_65 ?_
  refine lv_iconst (v := 1) hx hb dX12_made_68 (by decide) ?_
  refine lv_iadd hx hb dX12_made_69 ?_
  refine lv_topi (fun z_7 ez_7 => ?_)
  obtain rfl : z_7 = 1 := ez_7.trans (by decide)
  refine va_put (D := (dC, dI)) (ci := 11) (v := .int 1) (ty := .int) (C := RX12) (T := TX12) (N := 32) hx hb hts (by decide +kernel) tyX12 tyX12_ok nmX12 hown hK hP hD hS 0 rfl rfl 0 (by decide) (hts (.fieldLink RX12 66 "NeededListsModel" "lists" "I") (by decide +kernel)) (fun _ h9 => h9) rfl (by decide +kernel) rfl rfl (Nat.le_of_ble_eq_true rfl) dX12_made_70 (fun H locs hP hD hS => ?_)
  have hP : va_P (dC, dI) vwCl [(g0, .inr (11, mF a 1 ma pu th)), (a 1, .inl (ca 1, 24, .inl (f_1))), (a 2, .inl (ca 2, 24, .inl (f_2))), (a 3, .inl (ca 3, 24, .inl (f_3))), (a 4, .inl (ca 4, 24, .inl (f_4))), (a 5, .inl (ca 5, 24, .inr (.inl (f_5)))), (a 6, .inl (ca 6, 24, .inr (.inl (f_6))))] H := hP
  have hD : va_D A [(g0, .inr (11, mF a 1 ma pu th)), (a 1, .inl (ca 1, 24, .inl (f_1))), (a 2, .inl (ca 2, 24, .inl (f_2))), (a 3, .inl (ca 3, 24, .inl (f_3))), (a 4, .inl (ca 4, 24, .inl (f_4))), (a 5, .inl (ca 5, 24, .inr (.inl (f_5)))), (a 6, .inl (ca 6, 24, .inr (.inl (f_6))))] := hD
  refine lv_aload_n hx hb dX12_made_73 rfl (lv_at hl 0 rfl) ?_
  refine va_get (D := (dC, dI)) (ci := 11) (v := .int 1) (C := RX12) (T := TX12) (N := 32) hx hb hts (by decide +kernel) hown hK hP 0 rfl rfl 0 (by decide) (hts (.fieldLink RX12 66 "NeededListsModel" "lists" "I") (by decide +kernel)) (fun _ h9 => h9) rfl dX12_made_74 ?_
  refine lv_iconst (v := 1) hx hb dX12_made_77 (by decide) ?_
  refine lv_isub hx hb dX12_made_78 ?_
  refine lv_topi (fun z_8 ez_8 => ?_)
  obtain rfl : z_8 = 0 := ez_8.trans (by decide)
  refine W.widen (k := 0) (n := 0) (by decide +kernel) (by decide +kernel) ?_
  have hP9 := hP.sub (ws' := [(g0, .inr (11, mF a 1 ma pu th))]) [0] rfl
  have hD9 := hD.sub (ws' := [(g0, .inr (11, mF a 1 ma pu th))]) [0] (by decide) rfl
  have hK9 := hK.sub (tys' := []) [] rfl
  exact W.iret (v := 0) hx hb hr (fun t ht hW => ⟨⟨0, (), rfl, rfl, by rw [ht]; exact hP9, va_K.moved hW.alike hK9, hD9⟩, hS.F ht⟩) hS.2.2 dX12_made_79
set_option maxHeartbeats 4000000 in
set_option maxRecDepth 100000 in
theorem c_X12_outcome (l : Launch) (dC : Nat → ClassId) (dI : Nat → Nat → Nat) (a : Nat → Nat) (g0 : Nat) (sz : Nat) : Met l yX12_outcome wsX12_outcome ({ frames := 20, cells := 0, slots := 0, locals := 600 }) (va_Pc [.ref g0] (fun U => U.heap.size = sz ∧ va_P (dC, dI) vwCl [(g0, .inr (11, mF a 0 0 1000 0))] U.heap ∧ va_K (dC, dI) vwCl [] U ∧ va_D (fun _ => True) [(g0, .inr (11, mF a 0 0 1000 0))])) (va_Qi (fun (r : Int32) (u : Int32 × Int32 × Int32 × Int32) => u.2.2.2 = 0 ∧ (0 = 0 → r = 0)) (fun (u : Int32 × Int32 × Int32 × Int32) (t : State) => va_P (dC, dI) vwCl [(g0, .inr (11, mF a u.1 u.2.1 u.2.2.1 u.2.2.2))] t.heap ∧ va_K (dC, dI) vwCl [] t ∧ va_D (va_A [(g0, .inr (11, mF a 0 0 1000 0))] sz) [(g0, .inr (11, mF a u.1 u.2.1 u.2.2.1 u.2.2.2))]) (va_A [(g0, .inr (11, mF a 0 0 1000 0))] sz)) 0 0 (va_A [(g0, .inr (11, mF a 0 0 1000 0))] sz) := by
  refine Met.ofW (cc := cX12_outcome) (maxL := 1) (ret := (some .int)) (by decide) rfl ?_
  intro p e s m args below meth c s₁ B hml hv
  obtain ⟨rfl, hsz, hP, hK, hD0⟩ := hv
  have hx := B.exec
  have hb := B.bytes
  have hr := B.returns
  have hts := atoms_spec (ws := wsX12_outcome) B.pre
  have hown : s.vm.findClass RX12 = some m.cls := findClass_of_methodNamed B.named
  have hlocks := B.notSynchronized
  subst hsz
  have hD := hD0.self (sz := s.heap.size)
  generalize hAe : va_A [(g0, .inr (11, mF a 0 0 1000 0))] s.heap.size = A at hD ⊢
  have hA : ∀ q : Nat, s.heap.size ≤ q → A q := fun q h => by rw [← hAe]; exact Or.inr h
  generalize hH : s.heap = H at hP ⊢
  have hS : va_S A s.heap H [] := by rw [← hH]; exact va_S.rf
  have hl := lv_entry [.ref g0] (n := 1) (Nat.le_of_ble_eq_true rfl)
  rw [lg_entry_eq]
  generalize (lg_sl [.ref g0] ++ List.replicate (1 - (lg_sl [.ref g0]).length) Slot.unset).toArray = ls at hl ⊢
  have hl : lv_has ls 1 [(0, .ref g0)] := hl
  have hP : va_P (dC, dI) vwCl [(g0, .inr (11, mF a 0 0 1000 0))] H := hP
  refine lv_aload_n hx hb dX12_outcome_0 rfl (lv_at hl 0 rfl) ?_
  refine lv_iconst (v := 0) hx hb dX12_outcome_1 (by decide) ?_
  refine va_put (D := (dC, dI)) (ci := 11) (v := .int 0) (ty := .int) (C := RX12) (T := TX12) (N := 32) hx hb hts (by decide +kernel) tyX12 tyX12_ok nmX12 hown hK hP hD hS 0 rfl rfl 19 (by decide) (hts (.fieldLink RX12 63 "NeededListsModel" "thrown" "I") (by decide +kernel)) (fun _ h9 => h9) rfl (by decide +kernel) rfl rfl (Nat.le_of_ble_eq_true rfl) dX12_outcome_2 (fun H locs hP hD hS => ?_)
  have hP : va_P (dC, dI) vwCl [(g0, .inr (11, mF a 0 0 1000 0))] H := hP
  have hD : va_D A [(g0, .inr (11, mF a 0 0 1000 0))] := hD
  refine lv_aload_n hx hb dX12_outcome_5 rfl (lv_at hl 0 rfl) ?_
  refine va_get (D := (dC, dI)) (ci := 11) (v := .int 0) (C := RX12) (T := TX12) (N := 32) hx hb hts (by decide +kernel) hown hK hP 0 rfl rfl 17 (by decide) (hts (.fieldLink RX12 203 "NeededListsModel" "outcome" "I") (by decide +kernel)) (fun _ h9 => h9) rfl dX12_outcome_6 ?_
  refine W.widen (k := 0) (n := 0) (by decide +kernel) (by decide +kernel) ?_
  have hP9 := hP.sub (ws' := [(g0, .inr (11, mF a 0 0 1000 0))]) [0] rfl
  have hD9 := hD.sub (ws' := [(g0, .inr (11, mF a 0 0 1000 0))]) [0] (by decide) rfl
  have hK9 := hK.sub (tys' := []) [] rfl
  exact W.iret (v := 0) hx hb hr (fun t ht hW => ⟨⟨0, (0, 0, 1000, 0), rfl, ⟨rfl, fun _ => rfl⟩, by rw [ht]; exact hP9, va_K.moved hW.alike hK9, hD9⟩, hS.F ht⟩) hS.2.2 dX12_outcome_9
set_option maxHeartbeats 4000000 in
set_option maxRecDepth 100000 in
theorem c_X12_error (l : Launch) (dC : Nat → ClassId) (dI : Nat → Nat → Nat) (a : Nat → Nat) (g0 : Nat) (sz : Nat) : Met l yX12_error wsX12_error ({ frames := 20, cells := 0, slots := 0, locals := 600 }) (va_Pc [.ref g0] (fun U => U.heap.size = sz ∧ va_P (dC, dI) vwCl [(g0, .inr (11, mF a 0 0 1000 0))] U.heap ∧ va_K (dC, dI) vwCl [] U ∧ va_D (fun _ => True) [(g0, .inr (11, mF a 0 0 1000 0))])) (va_Qi (fun (r : Int32) (u : Int32 × Int32 × Int32 × Int32) => u.2.2.2 = 0 ∧ (0 = 0 → r = 0)) (fun (u : Int32 × Int32 × Int32 × Int32) (t : State) => va_P (dC, dI) vwCl [(g0, .inr (11, mF a u.1 u.2.1 u.2.2.1 u.2.2.2))] t.heap ∧ va_K (dC, dI) vwCl [] t ∧ va_D (va_A [(g0, .inr (11, mF a 0 0 1000 0))] sz) [(g0, .inr (11, mF a u.1 u.2.1 u.2.2.1 u.2.2.2))]) (va_A [(g0, .inr (11, mF a 0 0 1000 0))] sz)) 0 0 (va_A [(g0, .inr (11, mF a 0 0 1000 0))] sz) := by
  refine Met.ofW (cc := cX12_error) (maxL := 1) (ret := (some .int)) (by decide) rfl ?_
  intro p e s m args below meth c s₁ B hml hv
  obtain ⟨rfl, hsz, hP, hK, hD0⟩ := hv
  have hx := B.exec
  have hb := B.bytes
  have hr := B.returns
  have hts := atoms_spec (ws := wsX12_error) B.pre
  have hown : s.vm.findClass RX12 = some m.cls := findClass_of_methodNamed B.named
  have hlocks := B.notSynchronized
  subst hsz
  have hD := hD0.self (sz := s.heap.size)
  generalize hAe : va_A [(g0, .inr (11, mF a 0 0 1000 0))] s.heap.size = A at hD ⊢
  have hA : ∀ q : Nat, s.heap.size ≤ q → A q := fun q h => by rw [← hAe]; exact Or.inr h
  generalize hH : s.heap = H at hP ⊢
  have hS : va_S A s.heap H [] := by rw [← hH]; exact va_S.rf
  have hl := lv_entry [.ref g0] (n := 1) (Nat.le_of_ble_eq_true rfl)
  rw [lg_entry_eq]
  generalize (lg_sl [.ref g0] ++ List.replicate (1 - (lg_sl [.ref g0]).length) Slot.unset).toArray = ls at hl ⊢
  have hl : lv_has ls 1 [(0, .ref g0)] := hl
  have hP : va_P (dC, dI) vwCl [(g0, .inr (11, mF a 0 0 1000 0))] H := hP
  refine lv_aload_n hx hb dX12_error_0 rfl (lv_at hl 0 rfl) ?_
  refine lv_iconst (v := 0) hx hb dX12_error_1 (by decide) ?_
  refine va_put (D := (dC, dI)) (ci := 11) (v := .int 0) (ty := .int) (C := RX12) (T := TX12) (N := 32) hx hb hts (by decide +kernel) tyX12 tyX12_ok nmX12 hown hK hP hD hS 0 rfl rfl 19 (by decide) (hts (.fieldLink RX12 63 "NeededListsModel" "thrown" "I") (by decide +kernel)) (fun _ h9 => h9) rfl (by decide +kernel) rfl rfl (Nat.le_of_ble_eq_true rfl) dX12_error_2 (fun H locs hP hD hS => ?_)
  have hP : va_P (dC, dI) vwCl [(g0, .inr (11, mF a 0 0 1000 0))] H := hP
  have hD : va_D A [(g0, .inr (11, mF a 0 0 1000 0))] := hD
  refine lv_aload_n hx hb dX12_error_5 rfl (lv_at hl 0 rfl) ?_
  refine va_get (D := (dC, dI)) (ci := 11) (v := .int 0) (C := RX12) (T := TX12) (N := 32) hx hb hts (by decide +kernel) hown hK hP 0 rfl rfl 18 (by decide) (hts (.fieldLink RX12 206 "NeededListsModel" "error" "I") (by decide +kernel)) (fun _ h9 => h9) rfl dX12_error_6 ?_
  refine W.widen (k := 0) (n := 0) (by decide +kernel) (by decide +kernel) ?_
  have hP9 := hP.sub (ws' := [(g0, .inr (11, mF a 0 0 1000 0))]) [0] rfl
  have hD9 := hD.sub (ws' := [(g0, .inr (11, mF a 0 0 1000 0))]) [0] (by decide) rfl
  have hK9 := hK.sub (tys' := []) [] rfl
  exact W.iret (v := 0) hx hb hr (fun t ht hW => ⟨⟨0, (0, 0, 1000, 0), rfl, ⟨rfl, fun _ => rfl⟩, by rw [ht]; exact hP9, va_K.moved hW.alike hK9, hD9⟩, hS.F ht⟩) hS.2.2 dX12_error_9
set_option maxHeartbeats 4000000 in
set_option maxRecDepth 100000 in
theorem c_X12_spent (l : Launch) (dC : Nat → ClassId) (dI : Nat → Nat → Nat) (a : Nat → Nat) (g0 : Nat) (sz : Nat) : Met l yX12_spent wsX12_spent ({ frames := 20, cells := 0, slots := 0, locals := 600 }) (va_Pc [.ref g0] (fun U => U.heap.size = sz ∧ va_P (dC, dI) vwCl [(g0, .inr (11, mF a 0 0 1000 0))] U.heap ∧ va_K (dC, dI) vwCl [] U ∧ va_D (fun _ => True) [(g0, .inr (11, mF a 0 0 1000 0))])) (va_Qi (fun (r : Int32) (u : Int32 × Int32 × Int32 × Int32) => u.2.2.2 = 0 ∧ (0 = 0 → r = 0)) (fun (u : Int32 × Int32 × Int32 × Int32) (t : State) => va_P (dC, dI) vwCl [(g0, .inr (11, mF a u.1 u.2.1 u.2.2.1 u.2.2.2))] t.heap ∧ va_K (dC, dI) vwCl [] t ∧ va_D (va_A [(g0, .inr (11, mF a 0 0 1000 0))] sz) [(g0, .inr (11, mF a u.1 u.2.1 u.2.2.1 u.2.2.2))]) (va_A [(g0, .inr (11, mF a 0 0 1000 0))] sz)) 0 0 (va_A [(g0, .inr (11, mF a 0 0 1000 0))] sz) := by
  refine Met.ofW (cc := cX12_spent) (maxL := 1) (ret := (some .int)) (by decide) rfl ?_
  intro p e s m args below meth c s₁ B hml hv
  obtain ⟨rfl, hsz, hP, hK, hD0⟩ := hv
  have hx := B.exec
  have hb := B.bytes
  have hr := B.returns
  have hts := atoms_spec (ws := wsX12_spent) B.pre
  have hown : s.vm.findClass RX12 = some m.cls := findClass_of_methodNamed B.named
  have hlocks := B.notSynchronized
  subst hsz
  have hD := hD0.self (sz := s.heap.size)
  generalize hAe : va_A [(g0, .inr (11, mF a 0 0 1000 0))] s.heap.size = A at hD ⊢
  have hA : ∀ q : Nat, s.heap.size ≤ q → A q := fun q h => by rw [← hAe]; exact Or.inr h
  generalize hH : s.heap = H at hP ⊢
  have hS : va_S A s.heap H [] := by rw [← hH]; exact va_S.rf
  have hl := lv_entry [.ref g0] (n := 1) (Nat.le_of_ble_eq_true rfl)
  rw [lg_entry_eq]
  generalize (lg_sl [.ref g0] ++ List.replicate (1 - (lg_sl [.ref g0]).length) Slot.unset).toArray = ls at hl ⊢
  have hl : lv_has ls 1 [(0, .ref g0)] := hl
  have hP : va_P (dC, dI) vwCl [(g0, .inr (11, mF a 0 0 1000 0))] H := hP
  refine lv_aload_n hx hb dX12_spent_0 rfl (lv_at hl 0 rfl) ?_
  refine lv_iconst (v := 0) hx hb dX12_spent_1 (by decide) ?_
  refine va_put (D := (dC, dI)) (ci := 11) (v := .int 0) (ty := .int) (C := RX12) (T := TX12) (N := 32) hx hb hts (by decide +kernel) tyX12 tyX12_ok nmX12 hown hK hP hD hS 0 rfl rfl 19 (by decide) (hts (.fieldLink RX12 63 "NeededListsModel" "thrown" "I") (by decide +kernel)) (fun _ h9 => h9) rfl (by decide +kernel) rfl rfl (Nat.le_of_ble_eq_true rfl) dX12_spent_2 (fun H locs hP hD hS => ?_)
  have hP : va_P (dC, dI) vwCl [(g0, .inr (11, mF a 0 0 1000 0))] H := hP
  have hD : va_D A [(g0, .inr (11, mF a 0 0 1000 0))] := hD
  refine lv_aload_n hx hb dX12_spent_5 rfl (lv_at hl 0 rfl) ?_
  refine va_get (D := (dC, dI)) (ci := 11) (v := .int 0) (C := RX12) (T := TX12) (N := 32) hx hb hts (by decide +kernel) hown hK hP 0 rfl rfl 16 (by decide) (hts (.fieldLink RX12 200 "NeededListsModel" "spent" "I") (by decide +kernel)) (fun _ h9 => h9) rfl dX12_spent_6 ?_
  refine W.widen (k := 0) (n := 0) (by decide +kernel) (by decide +kernel) ?_
  have hP9 := hP.sub (ws' := [(g0, .inr (11, mF a 0 0 1000 0))]) [0] rfl
  have hD9 := hD.sub (ws' := [(g0, .inr (11, mF a 0 0 1000 0))]) [0] (by decide) rfl
  have hK9 := hK.sub (tys' := []) [] rfl
  exact W.iret (v := 0) hx hb hr (fun t ht hW => ⟨⟨0, (0, 0, 1000, 0), rfl, ⟨rfl, fun _ => rfl⟩, by rw [ht]; exact hP9, va_K.moved hW.alike hK9, hD9⟩, hS.F ht⟩) hS.2.2 dX12_spent_9
set_option maxHeartbeats 4000000 in
set_option maxRecDepth 100000 in
theorem c_X12_lists (l : Launch) (dC : Nat → ClassId) (dI : Nat → Nat → Nat) (a : Nat → Nat) (g0 : Nat) (sz : Nat) : Met l yX12_lists wsX12_lists ({ frames := 20, cells := 0, slots := 0, locals := 600 }) (va_Pc [.ref g0] (fun U => U.heap.size = sz ∧ va_P (dC, dI) vwCl [(g0, .inr (11, mF a 0 0 1000 0))] U.heap ∧ va_K (dC, dI) vwCl [] U ∧ va_D (fun _ => True) [(g0, .inr (11, mF a 0 0 1000 0))])) (va_Qi (fun (r : Int32) (u : Int32 × Int32 × Int32 × Int32) => u.2.2.2 = 0 ∧ (0 = 0 → r = 0)) (fun (u : Int32 × Int32 × Int32 × Int32) (t : State) => va_P (dC, dI) vwCl [(g0, .inr (11, mF a u.1 u.2.1 u.2.2.1 u.2.2.2))] t.heap ∧ va_K (dC, dI) vwCl [] t ∧ va_D (va_A [(g0, .inr (11, mF a 0 0 1000 0))] sz) [(g0, .inr (11, mF a u.1 u.2.1 u.2.2.1 u.2.2.2))]) (va_A [(g0, .inr (11, mF a 0 0 1000 0))] sz)) 0 0 (va_A [(g0, .inr (11, mF a 0 0 1000 0))] sz) := by
  refine Met.ofW (cc := cX12_lists) (maxL := 1) (ret := (some .int)) (by decide) rfl ?_
  intro p e s m args below meth c s₁ B hml hv
  obtain ⟨rfl, hsz, hP, hK, hD0⟩ := hv
  have hx := B.exec
  have hb := B.bytes
  have hr := B.returns
  have hts := atoms_spec (ws := wsX12_lists) B.pre
  have hown : s.vm.findClass RX12 = some m.cls := findClass_of_methodNamed B.named
  have hlocks := B.notSynchronized
  subst hsz
  have hD := hD0.self (sz := s.heap.size)
  generalize hAe : va_A [(g0, .inr (11, mF a 0 0 1000 0))] s.heap.size = A at hD ⊢
  have hA : ∀ q : Nat, s.heap.size ≤ q → A q := fun q h => by rw [← hAe]; exact Or.inr h
  generalize hH : s.heap = H at hP ⊢
  have hS : va_S A s.heap H [] := by rw [← hH]; exact va_S.rf
  have hl := lv_entry [.ref g0] (n := 1) (Nat.le_of_ble_eq_true rfl)
  rw [lg_entry_eq]
  generalize (lg_sl [.ref g0] ++ List.replicate (1 - (lg_sl [.ref g0]).length) Slot.unset).toArray = ls at hl ⊢
  have hl : lv_has ls 1 [(0, .ref g0)] := hl
  have hP : va_P (dC, dI) vwCl [(g0, .inr (11, mF a 0 0 1000 0))] H := hP
  refine lv_aload_n hx hb dX12_lists_0 rfl (lv_at hl 0 rfl) ?_
  refine lv_iconst (v := 0) hx hb dX12_lists_1 (by decide) ?_
  refine va_put (D := (dC, dI)) (ci := 11) (v := .int 0) (ty := .int) (C := RX12) (T := TX12) (N := 32) hx hb hts (by decide +kernel) tyX12 tyX12_ok nmX12 hown hK hP hD hS 0 rfl rfl 19 (by decide) (hts (.fieldLink RX12 63 "NeededListsModel" "thrown" "I") (by decide +kernel)) (fun _ h9 => h9) rfl (by decide +kernel) rfl rfl (Nat.le_of_ble_eq_true rfl) dX12_lists_2 (fun H locs hP hD hS => ?_)
  have hP : va_P (dC, dI) vwCl [(g0, .inr (11, mF a 0 0 1000 0))] H := hP
  have hD : va_D A [(g0, .inr (11, mF a 0 0 1000 0))] := hD
  refine lv_aload_n hx hb dX12_lists_5 rfl (lv_at hl 0 rfl) ?_
  refine va_get (D := (dC, dI)) (ci := 11) (v := .int 0) (C := RX12) (T := TX12) (N := 32) hx hb hts (by decide +kernel) hown hK hP 0 rfl rfl 0 (by decide) (hts (.fieldLink RX12 66 "NeededListsModel" "lists" "I") (by decide +kernel)) (fun _ h9 => h9) rfl dX12_lists_6 ?_
  refine W.widen (k := 0) (n := 0) (by decide +kernel) (by decide +kernel) ?_
  have hP9 := hP.sub (ws' := [(g0, .inr (11, mF a 0 0 1000 0))]) [0] rfl
  have hD9 := hD.sub (ws' := [(g0, .inr (11, mF a 0 0 1000 0))]) [0] (by decide) rfl
  have hK9 := hK.sub (tys' := []) [] rfl
  exact W.iret (v := 0) hx hb hr (fun t ht hW => ⟨⟨0, (0, 0, 1000, 0), rfl, ⟨rfl, fun _ => rfl⟩, by rw [ht]; exact hP9, va_K.moved hW.alike hK9, hD9⟩, hS.F ht⟩) hS.2.2 dX12_lists_9
set_option maxHeartbeats 4000000 in
set_option maxRecDepth 100000 in
theorem c_X12_map (l : Launch) (dC : Nat → ClassId) (dI : Nat → Nat → Nat) (a : Nat → Nat) (g0 : Nat) (p0 : Int32) (p1 : Int32) (p2 : Int64) (sz : Nat) : Met l yX12_map wsX12_map ({ frames := 20, cells := 0, slots := 0, locals := 600 }) (va_Pc [.ref g0, .int p0, .int p1, .long p2] (fun U => U.heap.size = sz ∧ va_P (dC, dI) vwCl [(g0, .inr (11, mF a 0 0 1000 0))] U.heap ∧ va_K (dC, dI) vwCl [] U ∧ va_D (fun _ => True) [(g0, .inr (11, mF a 0 0 1000 0))])) (va_Qi (fun (r : Int32) (u : Int32 × Int32 × Int32 × Int32) => u.2.2.2 = 1) (fun (u : Int32 × Int32 × Int32 × Int32) (t : State) => va_P (dC, dI) vwCl [(g0, .inr (11, mF a u.1 u.2.1 u.2.2.1 u.2.2.2))] t.heap ∧ va_K (dC, dI) vwCl [] t ∧ va_D (va_A [(g0, .inr (11, mF a 0 0 1000 0))] sz) [(g0, .inr (11, mF a u.1 u.2.1 u.2.2.1 u.2.2.2))]) (va_A [(g0, .inr (11, mF a 0 0 1000 0))] sz)) 0 0 (va_A [(g0, .inr (11, mF a 0 0 1000 0))] sz) := by
  refine Met.ofW (cc := cX12_map) (maxL := 5) (ret := (some .int)) (by decide) rfl ?_
  intro p e s m args below meth c s₁ B hml hv
  obtain ⟨rfl, hsz, hP, hK, hD0⟩ := hv
  have hx := B.exec
  have hb := B.bytes
  have hr := B.returns
  have hts := atoms_spec (ws := wsX12_map) B.pre
  have hown : s.vm.findClass RX12 = some m.cls := findClass_of_methodNamed B.named
  have hlocks := B.notSynchronized
  subst hsz
  have hD := hD0.self (sz := s.heap.size)
  generalize hAe : va_A [(g0, .inr (11, mF a 0 0 1000 0))] s.heap.size = A at hD ⊢
  have hA : ∀ q : Nat, s.heap.size ≤ q → A q := fun q h => by rw [← hAe]; exact Or.inr h
  generalize hH : s.heap = H at hP ⊢
  have hS : va_S A s.heap H [] := by rw [← hH]; exact va_S.rf
  have hl := lv_entry [.ref g0, .int p0, .int p1, .long p2] (n := 5) (Nat.le_of_ble_eq_true rfl)
  rw [lg_entry_eq]
  generalize (lg_sl [.ref g0, .int p0, .int p1, .long p2] ++ List.replicate (5 - (lg_sl [.ref g0, .int p0, .int p1, .long p2]).length) Slot.unset).toArray = ls at hl ⊢
  have hl : lv_has ls 5 [(0, .ref g0), (1, .int p0), (2, .int p1), (3, .long p2)] := hl
  have hP : va_P (dC, dI) vwCl [(g0, .inr (11, mF a 0 0 1000 0))] H := hP
  refine lv_aload_n hx hb dX12_map_0 rfl (lv_at hl 0 rfl) ?_
  refine lv_iconst (v := 0) hx hb dX12_map_1 (by decide) ?_
  refine va_put (D := (dC, dI)) (ci := 11) (v := .int 0) (ty := .int) (C := RX12) (T := TX12) (N := 32) hx hb hts (by decide +kernel) tyX12 tyX12_ok nmX12 hown hK hP hD hS 0 rfl rfl 19 (by decide) (hts (.fieldLink RX12 63 "NeededListsModel" "thrown" "I") (by decide +kernel)) (fun _ h9 => h9) rfl (by decide +kernel) rfl rfl (Nat.le_of_ble_eq_true rfl) dX12_map_2 (fun H locs hP hD hS => ?_)
  have hP : va_P (dC, dI) vwCl [(g0, .inr (11, mF a 0 0 1000 0))] H := hP
  have hD : va_D A [(g0, .inr (11, mF a 0 0 1000 0))] := hD
  refine lv_aload_n hx hb dX12_map_5 rfl (lv_at hl 0 rfl) ?_
  refine lv_iload_n hx hb dX12_map_6 rfl (lv_at hl 1 rfl) ?_
  have hPc := hP.sub (ws' := [(g0, .inr (11, mF a 0 0 1000 0))]) [0] rfl
  have hDc : va_D (fun _ => True) ([] : va_W) := nd_0
  have hKc := hK.sub (tys' := []) [] rfl
  have hFc := va_free (wc := []) hD hS hA [] rfl
  refine va_calli (va_runV (As := [.int p0]) (rest := []) ⟨hx, hb, hml, hown, hts⟩ (c_X12_isList l dC dI a g0 0 1000 0 p0 H.size) (cwV 1 hts gX12_map_X12_isList rfl rfl rfl (by decide +kernel) ⟨Nat.le_of_ble_eq_true rfl, Nat.le_of_ble_eq_true rfl⟩) ⟨fun a U g mk q => by obtain ⟨q0, q1, qP, qK, qD⟩ := q; exact ⟨q0, q1, qP, va_K.moved (u := U) (U := U.calling g mk a) (Vm.Alike.refl U.vm) qK, qD⟩, va_recv hKc hPc (ci := 11) (q0 := 0) rfl rfl, fun U hU hW => ⟨rfl, by rw [hU], by rw [hU]; exact hPc, va_K.moved hW.alike hKc, nd_0⟩⟩ rfl rfl hl.1 rfl (lv_room (Nat.le_of_ble_eq_true rfl)) dX12_map_7 ⟨Nat.le_of_ble_eq_true rfl, Nat.le_of_ble_eq_true rfl⟩) hS (fun q _ h => hFc q h) hFc (fun r_1 u_2 t H1 locs ht hvm hw hB hz1 hk1 hS => ?_)
  have hP := nd_keep hP hk1
  generalize H1 = H at hP hS ⊢
  have hP : va_P (dC, dI) vwCl [(g0, .inr (11, mF a 0 0 1000 0))] H := hP
  have hD : va_D A [(g0, .inr (11, mF a 0 0 1000 0))] := hD
  refine W.widen (k := 0) (n := 0) (by decide +kernel) (by decide +kernel) ?_
  obtain rfl : r_1 = 0 := hw
  refine lv_if_ne (tgt := 19) hx hb dX12_map_10 (by decide) (fun c_10 => ?_) (fun c_10 => ?_)
  · exact absurd c_10 (by decide)
  · refine lv_aload_n hx hb dX12_map_13 rfl (lv_at hl 0 rfl) ?_
    refine lv_iconst (v := 1) hx hb dX12_map_14 (by decide) ?_
    have hPc := hP.sub (ws' := [(g0, .inr (11, mF a 0 0 1000 0))]) [0] rfl
    have hDc := hD.sub (ws' := [(g0, .inr (11, mF a 0 0 1000 0))]) [0] (by decide) rfl
    have hKc := hK.sub (tys' := []) [] rfl
    have hFc := va_free (wc := [(g0, .inr (11, mF a 0 0 1000 0))]) hD hS hA [0] rfl
    refine va_calli (va_runV (As := [.int 1]) (rest := []) ⟨hx, hb, hml, hown, hts⟩ (c_X12_fail l dC dI a g0 0 0 1000 0 1 H.size) (cwV 1 hts gX12_map_X12_fail rfl rfl rfl (by decide +kernel) ⟨Nat.le_of_ble_eq_true rfl, Nat.le_of_ble_eq_true rfl⟩) ⟨fun a U g mk q => by obtain ⟨q0, q1, qP, qK, qD⟩ := q; exact ⟨q0, q1, qP, va_K.moved (u := U) (U := U.calling g mk a) (Vm.Alike.refl U.vm) qK, qD⟩, va_recv hKc hPc (ci := 11) (q0 := 0) rfl rfl, fun U hU hW => ⟨rfl, by rw [hU], by rw [hU]; exact hPc, va_K.moved hW.alike hKc, hDc.weaken (fun _ _ _ _ => trivial)⟩⟩ rfl rfl hl.1 rfl (lv_room (Nat.le_of_ble_eq_true rfl)) dX12_map_15 ⟨Nat.le_of_ble_eq_true rfl, Nat.le_of_ble_eq_true rfl⟩) hS (fun q _ h => hFc q h) hFc (fun r_3 u_4 t H1 locs ht hvm hw hB hz1 hk1 hS => ?_)
    obtain ⟨hP1, hK1, hD1⟩ := hB
    rw [ht] at hP1
    have hK1 := va_K.moved hvm.symm hK1
    have hK := hK.app hK1
    obtain ⟨hP, hD⟩ := va_join (wr := []) (w1 := [(g0, .inr (11, mF a 0 0 1000 1))]) hP hD [0] [] rfl rfl (by decide) (by decide) hk1 hFc hP1 hD1
    generalize H1 = H at hP hS ⊢
    have hP : va_P (dC, dI) vwCl [(g0, .inr (11, mF a 0 0 1000 1))] H := hP
    have hD : va_D A [(g0, .inr (11, mF a 0 0 1000 1))] := hD
    have hK : va_K (dC, dI) vwCl [] s := hK
    refine W.widen (k := 0) (n := 0) (by decide +kernel) (by decide +kernel) ?_
    obtain rfl : r_3 = 0 := hw
    refine W.widen (k := 0) (n := 0) (by decide +kernel) (by decide +kernel) ?_
    have hP9 := hP.sub (ws' := [(g0, .inr (11, mF a 0 0 1000 1))]) [0] rfl
    have hD9 := hD.sub (ws' := [(g0, .inr (11, mF a 0 0 1000 1))]) [0] (by decide) rfl
    have hK9 := hK.sub (tys' := []) [] rfl
    exact W.iret (v := 0) hx hb hr (fun t ht hW => ⟨⟨0, (0, 0, 1000, 1), rfl, rfl, by rw [ht]; exact hP9, va_K.moved hW.alike hK9, hD9⟩, hS.F ht⟩) hS.2.2 dX12_map_18
set_option maxHeartbeats 4000000 in
set_option maxRecDepth 100000 in
theorem c_X12_both (l : Launch) (dC : Nat → ClassId) (dI : Nat → Nat → Nat) (a : Nat → Nat) (g0 : Nat) (p0 : Int32) (p1 : Int32) (p2 : Int32) (sz : Nat) : Met l yX12_both wsX12_both ({ frames := 20, cells := 0, slots := 0, locals := 600 }) (va_Pc [.ref g0, .int p0, .int p1, .int p2] (fun U => U.heap.size = sz ∧ va_P (dC, dI) vwCl [(g0, .inr (11, mF a 0 0 1000 0))] U.heap ∧ va_K (dC, dI) vwCl [] U ∧ va_D (fun _ => True) [(g0, .inr (11, mF a 0 0 1000 0))])) (va_Qi (fun (r : Int32) (u : Int32 × Int32 × Int32 × Int32) => u.2.2.2 = 1) (fun (u : Int32 × Int32 × Int32 × Int32) (t : State) => va_P (dC, dI) vwCl [(g0, .inr (11, mF a u.1 u.2.1 u.2.2.1 u.2.2.2))] t.heap ∧ va_K (dC, dI) vwCl [] t ∧ va_D (va_A [(g0, .inr (11, mF a 0 0 1000 0))] sz) [(g0, .inr (11, mF a u.1 u.2.1 u.2.2.1 u.2.2.2))]) (va_A [(g0, .inr (11, mF a 0 0 1000 0))] sz)) 0 0 (va_A [(g0, .inr (11, mF a 0 0 1000 0))] sz) := by
  refine Met.ofW (cc := cX12_both) (maxL := 4) (ret := (some .int)) (by decide) rfl ?_
  intro p e s m args below meth c s₁ B hml hv
  obtain ⟨rfl, hsz, hP, hK, hD0⟩ := hv
  have hx := B.exec
  have hb := B.bytes
  have hr := B.returns
  have hts := atoms_spec (ws := wsX12_both) B.pre
  have hown : s.vm.findClass RX12 = some m.cls := findClass_of_methodNamed B.named
  have hlocks := B.notSynchronized
  subst hsz
  have hD := hD0.self (sz := s.heap.size)
  generalize hAe : va_A [(g0, .inr (11, mF a 0 0 1000 0))] s.heap.size = A at hD ⊢
  have hA : ∀ q : Nat, s.heap.size ≤ q → A q := fun q h => by rw [← hAe]; exact Or.inr h
  generalize hH : s.heap = H at hP ⊢
  have hS : va_S A s.heap H [] := by rw [← hH]; exact va_S.rf
  have hl := lv_entry [.ref g0, .int p0, .int p1, .int p2] (n := 4) (Nat.le_of_ble_eq_true rfl)
  rw [lg_entry_eq]
  generalize (lg_sl [.ref g0, .int p0, .int p1, .int p2] ++ List.replicate (4 - (lg_sl [.ref g0, .int p0, .int p1, .int p2]).length) Slot.unset).toArray = ls at hl ⊢
  have hl : lv_has ls 4 [(0, .ref g0), (1, .int p0), (2, .int p1), (3, .int p2)] := hl
  have hP : va_P (dC, dI) vwCl [(g0, .inr (11, mF a 0 0 1000 0))] H := hP
  refine lv_aload_n hx hb dX12_both_0 rfl (lv_at hl 0 rfl) ?_
  refine lv_iconst (v := 0) hx hb dX12_both_1 (by decide) ?_
  refine va_put (D := (dC, dI)) (ci := 11) (v := .int 0) (ty := .int) (C := RX12) (T := TX12) (N := 32) hx hb hts (by decide +kernel) tyX12 tyX12_ok nmX12 hown hK hP hD hS 0 rfl rfl 19 (by decide) (hts (.fieldLink RX12 63 "NeededListsModel" "thrown" "I") (by decide +kernel)) (fun _ h9 => h9) rfl (by decide +kernel) rfl rfl (Nat.le_of_ble_eq_true rfl) dX12_both_2 (fun H locs hP hD hS => ?_)
  have hP : va_P (dC, dI) vwCl [(g0, .inr (11, mF a 0 0 1000 0))] H := hP
  have hD : va_D A [(g0, .inr (11, mF a 0 0 1000 0))] := hD
  refine lv_aload_n hx hb dX12_both_5 rfl (lv_at hl 0 rfl) ?_
  refine lv_iload_n hx hb dX12_both_6 rfl (lv_at hl 1 rfl) ?_
  have hPc := hP.sub (ws' := [(g0, .inr (11, mF a 0 0 1000 0))]) [0] rfl
  have hDc : va_D (fun _ => True) ([] : va_W) := nd_0
  have hKc := hK.sub (tys' := []) [] rfl
  have hFc := va_free (wc := []) hD hS hA [] rfl
  refine va_calli (va_runV (As := [.int p0]) (rest := []) ⟨hx, hb, hml, hown, hts⟩ (c_X12_isList l dC dI a g0 0 1000 0 p0 H.size) (cwV 1 hts gX12_both_X12_isList rfl rfl rfl (by decide +kernel) ⟨Nat.le_of_ble_eq_true rfl, Nat.le_of_ble_eq_true rfl⟩) ⟨fun a U g mk q => by obtain ⟨q0, q1, qP, qK, qD⟩ := q; exact ⟨q0, q1, qP, va_K.moved (u := U) (U := U.calling g mk a) (Vm.Alike.refl U.vm) qK, qD⟩, va_recv hKc hPc (ci := 11) (q0 := 0) rfl rfl, fun U hU hW => ⟨rfl, by rw [hU], by rw [hU]; exact hPc, va_K.moved hW.alike hKc, nd_0⟩⟩ rfl rfl hl.1 rfl (lv_room (Nat.le_of_ble_eq_true rfl)) dX12_both_7 ⟨Nat.le_of_ble_eq_true rfl, Nat.le_of_ble_eq_true rfl⟩) hS (fun q _ h => hFc q h) hFc (fun r_1 u_2 t H1 locs ht hvm hw hB hz1 hk1 hS => ?_)
  have hP := nd_keep hP hk1
  generalize H1 = H at hP hS ⊢
  have hP : va_P (dC, dI) vwCl [(g0, .inr (11, mF a 0 0 1000 0))] H := hP
  have hD : va_D A [(g0, .inr (11, mF a 0 0 1000 0))] := hD
  refine W.widen (k := 0) (n := 0) (by decide +kernel) (by decide +kernel) ?_
  obtain rfl : r_1 = 0 := hw
  refine lv_if_eq (tgt := 21) hx hb dX12_both_10 (by decide) (fun c_10 => ?_) (fun c_10 => ?_)
  · refine lv_aload_n hx hb dX12_both_21 rfl (lv_at hl 0 rfl) ?_
    refine lv_iconst (v := 1) hx hb dX12_both_22 (by decide) ?_
    have hPc := hP.sub (ws' := [(g0, .inr (11, mF a 0 0 1000 0))]) [0] rfl
    have hDc := hD.sub (ws' := [(g0, .inr (11, mF a 0 0 1000 0))]) [0] (by decide) rfl
    have hKc := hK.sub (tys' := []) [] rfl
    have hFc := va_free (wc := [(g0, .inr (11, mF a 0 0 1000 0))]) hD hS hA [0] rfl
    refine va_calli (va_runV (As := [.int 1]) (rest := []) ⟨hx, hb, hml, hown, hts⟩ (c_X12_fail l dC dI a g0 0 0 1000 0 1 H.size) (cwV 1 hts gX12_both_X12_fail rfl rfl rfl (by decide +kernel) ⟨Nat.le_of_ble_eq_true rfl, Nat.le_of_ble_eq_true rfl⟩) ⟨fun a U g mk q => by obtain ⟨q0, q1, qP, qK, qD⟩ := q; exact ⟨q0, q1, qP, va_K.moved (u := U) (U := U.calling g mk a) (Vm.Alike.refl U.vm) qK, qD⟩, va_recv hKc hPc (ci := 11) (q0 := 0) rfl rfl, fun U hU hW => ⟨rfl, by rw [hU], by rw [hU]; exact hPc, va_K.moved hW.alike hKc, hDc.weaken (fun _ _ _ _ => trivial)⟩⟩ rfl rfl hl.1 rfl (lv_room (Nat.le_of_ble_eq_true rfl)) dX12_both_23 ⟨Nat.le_of_ble_eq_true rfl, Nat.le_of_ble_eq_true rfl⟩) hS (fun q _ h => hFc q h) hFc (fun r_3 u_4 t H1 locs ht hvm hw hB hz1 hk1 hS => ?_)
    obtain ⟨hP1, hK1, hD1⟩ := hB
    rw [ht] at hP1
    have hK1 := va_K.moved hvm.symm hK1
    have hK := hK.app hK1
    obtain ⟨hP, hD⟩ := va_join (wr := []) (w1 := [(g0, .inr (11, mF a 0 0 1000 1))]) hP hD [0] [] rfl rfl (by decide) (by decide) hk1 hFc hP1 hD1
    generalize H1 = H at hP hS ⊢
    have hP : va_P (dC, dI) vwCl [(g0, .inr (11, mF a 0 0 1000 1))] H := hP
    have hD : va_D A [(g0, .inr (11, mF a 0 0 1000 1))] := hD
    have hK : va_K (dC, dI) vwCl [] s := hK
    refine W.widen (k := 0) (n := 0) (by decide +kernel) (by decide +kernel) ?_
    obtain rfl : r_3 = 0 := hw
    refine W.widen (k := 0) (n := 0) (by decide +kernel) (by decide +kernel) ?_
    have hP9 := hP.sub (ws' := [(g0, .inr (11, mF a 0 0 1000 1))]) [0] rfl
    have hD9 := hD.sub (ws' := [(g0, .inr (11, mF a 0 0 1000 1))]) [0] (by decide) rfl
    have hK9 := hK.sub (tys' := []) [] rfl
    exact W.iret (v := 0) hx hb hr (fun t ht hW => ⟨⟨0, (0, 0, 1000, 1), rfl, rfl, by rw [ht]; exact hP9, va_K.moved hW.alike hK9, hD9⟩, hS.F ht⟩) hS.2.2 dX12_both_26
  · exact absurd c_10 (by decide)
set_option maxHeartbeats 4000000 in
set_option maxRecDepth 100000 in
theorem c_X12_scan (l : Launch) (dC : Nat → ClassId) (dI : Nat → Nat → Nat) (a : Nat → Nat) (g0 : Nat) (p0 : Int32) (p1 : Int32) (p2 : Int64) (sz : Nat) : Met l yX12_scan wsX12_scan ({ frames := 20, cells := 0, slots := 0, locals := 600 }) (va_Pc [.ref g0, .int p0, .int p1, .long p2] (fun U => U.heap.size = sz ∧ va_P (dC, dI) vwCl [(g0, .inr (11, mF a 0 0 1000 0))] U.heap ∧ va_K (dC, dI) vwCl [] U ∧ va_D (fun _ => True) [(g0, .inr (11, mF a 0 0 1000 0))])) (va_Qi (fun (r : Int32) (u : Int32 × Int32 × Int32 × Int32) => u.2.2.2 = 1) (fun (u : Int32 × Int32 × Int32 × Int32) (t : State) => va_P (dC, dI) vwCl [(g0, .inr (11, mF a u.1 u.2.1 u.2.2.1 u.2.2.2))] t.heap ∧ va_K (dC, dI) vwCl [] t ∧ va_D (va_A [(g0, .inr (11, mF a 0 0 1000 0))] sz) [(g0, .inr (11, mF a u.1 u.2.1 u.2.2.1 u.2.2.2))]) (va_A [(g0, .inr (11, mF a 0 0 1000 0))] sz)) 0 0 (va_A [(g0, .inr (11, mF a 0 0 1000 0))] sz) := by
  refine Met.ofW (cc := cX12_scan) (maxL := 5) (ret := (some .int)) (by decide) rfl ?_
  intro p e s m args below meth c s₁ B hml hv
  obtain ⟨rfl, hsz, hP, hK, hD0⟩ := hv
  have hx := B.exec
  have hb := B.bytes
  have hr := B.returns
  have hts := atoms_spec (ws := wsX12_scan) B.pre
  have hown : s.vm.findClass RX12 = some m.cls := findClass_of_methodNamed B.named
  have hlocks := B.notSynchronized
  subst hsz
  have hD := hD0.self (sz := s.heap.size)
  generalize hAe : va_A [(g0, .inr (11, mF a 0 0 1000 0))] s.heap.size = A at hD ⊢
  have hA : ∀ q : Nat, s.heap.size ≤ q → A q := fun q h => by rw [← hAe]; exact Or.inr h
  generalize hH : s.heap = H at hP ⊢
  have hS : va_S A s.heap H [] := by rw [← hH]; exact va_S.rf
  have hl := lv_entry [.ref g0, .int p0, .int p1, .long p2] (n := 5) (Nat.le_of_ble_eq_true rfl)
  rw [lg_entry_eq]
  generalize (lg_sl [.ref g0, .int p0, .int p1, .long p2] ++ List.replicate (5 - (lg_sl [.ref g0, .int p0, .int p1, .long p2]).length) Slot.unset).toArray = ls at hl ⊢
  have hl : lv_has ls 5 [(0, .ref g0), (1, .int p0), (2, .int p1), (3, .long p2)] := hl
  have hP : va_P (dC, dI) vwCl [(g0, .inr (11, mF a 0 0 1000 0))] H := hP
  refine lv_aload_n hx hb dX12_scan_0 rfl (lv_at hl 0 rfl) ?_
  refine lv_iconst (v := 0) hx hb dX12_scan_1 (by decide) ?_
  refine va_put (D := (dC, dI)) (ci := 11) (v := .int 0) (ty := .int) (C := RX12) (T := TX12) (N := 32) hx hb hts (by decide +kernel) tyX12 tyX12_ok nmX12 hown hK hP hD hS 0 rfl rfl 19 (by decide) (hts (.fieldLink RX12 63 "NeededListsModel" "thrown" "I") (by decide +kernel)) (fun _ h9 => h9) rfl (by decide +kernel) rfl rfl (Nat.le_of_ble_eq_true rfl) dX12_scan_2 (fun H locs hP hD hS => ?_)
  have hP : va_P (dC, dI) vwCl [(g0, .inr (11, mF a 0 0 1000 0))] H := hP
  have hD : va_D A [(g0, .inr (11, mF a 0 0 1000 0))] := hD
  refine lv_aload_n hx hb dX12_scan_5 rfl (lv_at hl 0 rfl) ?_
  refine lv_iload_n hx hb dX12_scan_6 rfl (lv_at hl 1 rfl) ?_
  have hPc := hP.sub (ws' := [(g0, .inr (11, mF a 0 0 1000 0))]) [0] rfl
  have hDc : va_D (fun _ => True) ([] : va_W) := nd_0
  have hKc := hK.sub (tys' := []) [] rfl
  have hFc := va_free (wc := []) hD hS hA [] rfl
  refine va_calli (va_runV (As := [.int p0]) (rest := []) ⟨hx, hb, hml, hown, hts⟩ (c_X12_isList l dC dI a g0 0 1000 0 p0 H.size) (cwV 1 hts gX12_scan_X12_isList rfl rfl rfl (by decide +kernel) ⟨Nat.le_of_ble_eq_true rfl, Nat.le_of_ble_eq_true rfl⟩) ⟨fun a U g mk q => by obtain ⟨q0, q1, qP, qK, qD⟩ := q; exact ⟨q0, q1, qP, va_K.moved (u := U) (U := U.calling g mk a) (Vm.Alike.refl U.vm) qK, qD⟩, va_recv hKc hPc (ci := 11) (q0 := 0) rfl rfl, fun U hU hW => ⟨rfl, by rw [hU], by rw [hU]; exact hPc, va_K.moved hW.alike hKc, nd_0⟩⟩ rfl rfl hl.1 rfl (lv_room (Nat.le_of_ble_eq_true rfl)) dX12_scan_7 ⟨Nat.le_of_ble_eq_true rfl, Nat.le_of_ble_eq_true rfl⟩) hS (fun q _ h => hFc q h) hFc (fun r_1 u_2 t H1 locs ht hvm hw hB hz1 hk1 hS => ?_)
  have hP := nd_keep hP hk1
  generalize H1 = H at hP hS ⊢
  have hP : va_P (dC, dI) vwCl [(g0, .inr (11, mF a 0 0 1000 0))] H := hP
  have hD : va_D A [(g0, .inr (11, mF a 0 0 1000 0))] := hD
  refine W.widen (k := 0) (n := 0) (by decide +kernel) (by decide +kernel) ?_
  obtain rfl : r_1 = 0 := hw
  refine lv_if_ne (tgt := 19) hx hb dX12_scan_10 (by decide) (fun c_10 => ?_) (fun c_10 => ?_)
  · exact absurd c_10 (by decide)
  · refine lv_aload_n hx hb dX12_scan_13 rfl (lv_at hl 0 rfl) ?_
    refine lv_iconst (v := 1) hx hb dX12_scan_14 (by decide) ?_
    have hPc := hP.sub (ws' := [(g0, .inr (11, mF a 0 0 1000 0))]) [0] rfl
    have hDc := hD.sub (ws' := [(g0, .inr (11, mF a 0 0 1000 0))]) [0] (by decide) rfl
    have hKc := hK.sub (tys' := []) [] rfl
    have hFc := va_free (wc := [(g0, .inr (11, mF a 0 0 1000 0))]) hD hS hA [0] rfl
    refine va_calli (va_runV (As := [.int 1]) (rest := []) ⟨hx, hb, hml, hown, hts⟩ (c_X12_fail l dC dI a g0 0 0 1000 0 1 H.size) (cwV 1 hts gX12_scan_X12_fail rfl rfl rfl (by decide +kernel) ⟨Nat.le_of_ble_eq_true rfl, Nat.le_of_ble_eq_true rfl⟩) ⟨fun a U g mk q => by obtain ⟨q0, q1, qP, qK, qD⟩ := q; exact ⟨q0, q1, qP, va_K.moved (u := U) (U := U.calling g mk a) (Vm.Alike.refl U.vm) qK, qD⟩, va_recv hKc hPc (ci := 11) (q0 := 0) rfl rfl, fun U hU hW => ⟨rfl, by rw [hU], by rw [hU]; exact hPc, va_K.moved hW.alike hKc, hDc.weaken (fun _ _ _ _ => trivial)⟩⟩ rfl rfl hl.1 rfl (lv_room (Nat.le_of_ble_eq_true rfl)) dX12_scan_15 ⟨Nat.le_of_ble_eq_true rfl, Nat.le_of_ble_eq_true rfl⟩) hS (fun q _ h => hFc q h) hFc (fun r_3 u_4 t H1 locs ht hvm hw hB hz1 hk1 hS => ?_)
    obtain ⟨hP1, hK1, hD1⟩ := hB
    rw [ht] at hP1
    have hK1 := va_K.moved hvm.symm hK1
    have hK := hK.app hK1
    obtain ⟨hP, hD⟩ := va_join (wr := []) (w1 := [(g0, .inr (11, mF a 0 0 1000 1))]) hP hD [0] [] rfl rfl (by decide) (by decide) hk1 hFc hP1 hD1
    generalize H1 = H at hP hS ⊢
    have hP : va_P (dC, dI) vwCl [(g0, .inr (11, mF a 0 0 1000 1))] H := hP
    have hD : va_D A [(g0, .inr (11, mF a 0 0 1000 1))] := hD
    have hK : va_K (dC, dI) vwCl [] s := hK
    refine W.widen (k := 0) (n := 0) (by decide +kernel) (by decide +kernel) ?_
    obtain rfl : r_3 = 0 := hw
    refine W.widen (k := 0) (n := 0) (by decide +kernel) (by decide +kernel) ?_
    have hP9 := hP.sub (ws' := [(g0, .inr (11, mF a 0 0 1000 1))]) [0] rfl
    have hD9 := hD.sub (ws' := [(g0, .inr (11, mF a 0 0 1000 1))]) [0] (by decide) rfl
    have hK9 := hK.sub (tys' := []) [] rfl
    exact W.iret (v := 0) hx hb hr (fun t ht hW => ⟨⟨0, (0, 0, 1000, 1), rfl, rfl, by rw [ht]; exact hP9, va_K.moved hW.alike hK9, hD9⟩, hS.F ht⟩) hS.2.2 dX12_scan_18
set_option maxHeartbeats 4000000 in
set_option maxRecDepth 100000 in
theorem c_X12_join (l : Launch) (dC : Nat → ClassId) (dI : Nat → Nat → Nat) (a : Nat → Nat) (g0 : Nat) (p0 : Int32) (p1 : Int32) (sz : Nat) : Met l yX12_join wsX12_join ({ frames := 20, cells := 0, slots := 0, locals := 600 }) (va_Pc [.ref g0, .int p0, .int p1] (fun U => U.heap.size = sz ∧ va_P (dC, dI) vwCl [(g0, .inr (11, mF a 0 0 1000 0))] U.heap ∧ va_K (dC, dI) vwCl [] U ∧ va_D (fun _ => True) [(g0, .inr (11, mF a 0 0 1000 0))])) (va_Qi (fun (r : Int32) (u : Int32 × Int32 × Int32 × Int32) => u.2.2.2 = 1) (fun (u : Int32 × Int32 × Int32 × Int32) (t : State) => va_P (dC, dI) vwCl [(g0, .inr (11, mF a u.1 u.2.1 u.2.2.1 u.2.2.2))] t.heap ∧ va_K (dC, dI) vwCl [] t ∧ va_D (va_A [(g0, .inr (11, mF a 0 0 1000 0))] sz) [(g0, .inr (11, mF a u.1 u.2.1 u.2.2.1 u.2.2.2))]) (va_A [(g0, .inr (11, mF a 0 0 1000 0))] sz)) 0 0 (va_A [(g0, .inr (11, mF a 0 0 1000 0))] sz) := by
  refine Met.ofW (cc := cX12_join) (maxL := 3) (ret := (some .int)) (by decide) rfl ?_
  intro p e s m args below meth c s₁ B hml hv
  obtain ⟨rfl, hsz, hP, hK, hD0⟩ := hv
  have hx := B.exec
  have hb := B.bytes
  have hr := B.returns
  have hts := atoms_spec (ws := wsX12_join) B.pre
  have hown : s.vm.findClass RX12 = some m.cls := findClass_of_methodNamed B.named
  have hlocks := B.notSynchronized
  subst hsz
  have hD := hD0.self (sz := s.heap.size)
  generalize hAe : va_A [(g0, .inr (11, mF a 0 0 1000 0))] s.heap.size = A at hD ⊢
  have hA : ∀ q : Nat, s.heap.size ≤ q → A q := fun q h => by rw [← hAe]; exact Or.inr h
  generalize hH : s.heap = H at hP ⊢
  have hS : va_S A s.heap H [] := by rw [← hH]; exact va_S.rf
  have hl := lv_entry [.ref g0, .int p0, .int p1] (n := 3) (Nat.le_of_ble_eq_true rfl)
  rw [lg_entry_eq]
  generalize (lg_sl [.ref g0, .int p0, .int p1] ++ List.replicate (3 - (lg_sl [.ref g0, .int p0, .int p1]).length) Slot.unset).toArray = ls at hl ⊢
  have hl : lv_has ls 3 [(0, .ref g0), (1, .int p0), (2, .int p1)] := hl
  have hP : va_P (dC, dI) vwCl [(g0, .inr (11, mF a 0 0 1000 0))] H := hP
  refine lv_aload_n hx hb dX12_join_0 rfl (lv_at hl 0 rfl) ?_
  refine lv_iconst (v := 0) hx hb dX12_join_1 (by decide) ?_
  refine va_put (D := (dC, dI)) (ci := 11) (v := .int 0) (ty := .int) (C := RX12) (T := TX12) (N := 32) hx hb hts (by decide +kernel) tyX12 tyX12_ok nmX12 hown hK hP hD hS 0 rfl rfl 19 (by decide) (hts (.fieldLink RX12 63 "NeededListsModel" "thrown" "I") (by decide +kernel)) (fun _ h9 => h9) rfl (by decide +kernel) rfl rfl (Nat.le_of_ble_eq_true rfl) dX12_join_2 (fun H locs hP hD hS => ?_)
  have hP : va_P (dC, dI) vwCl [(g0, .inr (11, mF a 0 0 1000 0))] H := hP
  have hD : va_D A [(g0, .inr (11, mF a 0 0 1000 0))] := hD
  refine lv_aload_n hx hb dX12_join_5 rfl (lv_at hl 0 rfl) ?_
  refine lv_iload_n hx hb dX12_join_6 rfl (lv_at hl 1 rfl) ?_
  have hPc := hP.sub (ws' := [(g0, .inr (11, mF a 0 0 1000 0))]) [0] rfl
  have hDc : va_D (fun _ => True) ([] : va_W) := nd_0
  have hKc := hK.sub (tys' := []) [] rfl
  have hFc := va_free (wc := []) hD hS hA [] rfl
  refine va_calli (va_runV (As := [.int p0]) (rest := []) ⟨hx, hb, hml, hown, hts⟩ (c_X12_isList l dC dI a g0 0 1000 0 p0 H.size) (cwV 1 hts gX12_join_X12_isList rfl rfl rfl (by decide +kernel) ⟨Nat.le_of_ble_eq_true rfl, Nat.le_of_ble_eq_true rfl⟩) ⟨fun a U g mk q => by obtain ⟨q0, q1, qP, qK, qD⟩ := q; exact ⟨q0, q1, qP, va_K.moved (u := U) (U := U.calling g mk a) (Vm.Alike.refl U.vm) qK, qD⟩, va_recv hKc hPc (ci := 11) (q0 := 0) rfl rfl, fun U hU hW => ⟨rfl, by rw [hU], by rw [hU]; exact hPc, va_K.moved hW.alike hKc, nd_0⟩⟩ rfl rfl hl.1 rfl (lv_room (Nat.le_of_ble_eq_true rfl)) dX12_join_7 ⟨Nat.le_of_ble_eq_true rfl, Nat.le_of_ble_eq_true rfl⟩) hS (fun q _ h => hFc q h) hFc (fun r_1 u_2 t H1 locs ht hvm hw hB hz1 hk1 hS => ?_)
  have hP := nd_keep hP hk1
  generalize H1 = H at hP hS ⊢
  have hP : va_P (dC, dI) vwCl [(g0, .inr (11, mF a 0 0 1000 0))] H := hP
  have hD : va_D A [(g0, .inr (11, mF a 0 0 1000 0))] := hD
  refine W.widen (k := 0) (n := 0) (by decide +kernel) (by decide +kernel) ?_
  obtain rfl : r_1 = 0 := hw
  refine lv_if_eq (tgt := 21) hx hb dX12_join_10 (by decide) (fun c_10 => ?_) (fun c_10 => ?_)
  · refine lv_aload_n hx hb dX12_join_21 rfl (lv_at hl 0 rfl) ?_
    refine lv_iconst (v := 1) hx hb dX12_join_22 (by decide) ?_
    have hPc := hP.sub (ws' := [(g0, .inr (11, mF a 0 0 1000 0))]) [0] rfl
    have hDc := hD.sub (ws' := [(g0, .inr (11, mF a 0 0 1000 0))]) [0] (by decide) rfl
    have hKc := hK.sub (tys' := []) [] rfl
    have hFc := va_free (wc := [(g0, .inr (11, mF a 0 0 1000 0))]) hD hS hA [0] rfl
    refine va_calli (va_runV (As := [.int 1]) (rest := []) ⟨hx, hb, hml, hown, hts⟩ (c_X12_fail l dC dI a g0 0 0 1000 0 1 H.size) (cwV 1 hts gX12_join_X12_fail rfl rfl rfl (by decide +kernel) ⟨Nat.le_of_ble_eq_true rfl, Nat.le_of_ble_eq_true rfl⟩) ⟨fun a U g mk q => by obtain ⟨q0, q1, qP, qK, qD⟩ := q; exact ⟨q0, q1, qP, va_K.moved (u := U) (U := U.calling g mk a) (Vm.Alike.refl U.vm) qK, qD⟩, va_recv hKc hPc (ci := 11) (q0 := 0) rfl rfl, fun U hU hW => ⟨rfl, by rw [hU], by rw [hU]; exact hPc, va_K.moved hW.alike hKc, hDc.weaken (fun _ _ _ _ => trivial)⟩⟩ rfl rfl hl.1 rfl (lv_room (Nat.le_of_ble_eq_true rfl)) dX12_join_23 ⟨Nat.le_of_ble_eq_true rfl, Nat.le_of_ble_eq_true rfl⟩) hS (fun q _ h => hFc q h) hFc (fun r_3 u_4 t H1 locs ht hvm hw hB hz1 hk1 hS => ?_)
    obtain ⟨hP1, hK1, hD1⟩ := hB
    rw [ht] at hP1
    have hK1 := va_K.moved hvm.symm hK1
    have hK := hK.app hK1
    obtain ⟨hP, hD⟩ := va_join (wr := []) (w1 := [(g0, .inr (11, mF a 0 0 1000 1))]) hP hD [0] [] rfl rfl (by decide) (by decide) hk1 hFc hP1 hD1
    generalize H1 = H at hP hS ⊢
    have hP : va_P (dC, dI) vwCl [(g0, .inr (11, mF a 0 0 1000 1))] H := hP
    have hD : va_D A [(g0, .inr (11, mF a 0 0 1000 1))] := hD
    have hK : va_K (dC, dI) vwCl [] s := hK
    refine W.widen (k := 0) (n := 0) (by decide +kernel) (by decide +kernel) ?_
    obtain rfl : r_3 = 0 := hw
    refine W.widen (k := 0) (n := 0) (by decide +kernel) (by decide +kernel) ?_
    have hP9 := hP.sub (ws' := [(g0, .inr (11, mF a 0 0 1000 1))]) [0] rfl
    have hD9 := hD.sub (ws' := [(g0, .inr (11, mF a 0 0 1000 1))]) [0] (by decide) rfl
    have hK9 := hK.sub (tys' := []) [] rfl
    exact W.iret (v := 0) hx hb hr (fun t ht hW => ⟨⟨0, (0, 0, 1000, 1), rfl, rfl, by rw [ht]; exact hP9, va_K.moved hW.alike hK9, hD9⟩, hS.F ht⟩) hS.2.2 dX12_join_26
  · exact absurd c_10 (by decide)
set_option maxHeartbeats 4000000 in
set_option maxRecDepth 100000 in
theorem c_X12_other (l : Launch) (dC : Nat → ClassId) (dI : Nat → Nat → Nat) (a : Nat → Nat) (g0 : Nat) (p0 : Int32) (p1 : Int32) (sz : Nat) : Met l yX12_other wsX12_other ({ frames := 20, cells := 0, slots := 0, locals := 600 }) (va_Pc [.ref g0, .int p0, .int p1] (fun U => U.heap.size = sz ∧ va_P (dC, dI) vwCl [(g0, .inr (11, mF a 0 0 1000 0))] U.heap ∧ va_K (dC, dI) vwCl [] U ∧ va_D (fun _ => True) [(g0, .inr (11, mF a 0 0 1000 0))])) (va_Qi (fun (r : Int32) (u : Int32 × Int32 × Int32 × Int32) => u.2.2.2 = 1) (fun (u : Int32 × Int32 × Int32 × Int32) (t : State) => va_P (dC, dI) vwCl [(g0, .inr (11, mF a u.1 u.2.1 u.2.2.1 u.2.2.2))] t.heap ∧ va_K (dC, dI) vwCl [] t ∧ va_D (va_A [(g0, .inr (11, mF a 0 0 1000 0))] sz) [(g0, .inr (11, mF a u.1 u.2.1 u.2.2.1 u.2.2.2))]) (va_A [(g0, .inr (11, mF a 0 0 1000 0))] sz)) 0 0 (va_A [(g0, .inr (11, mF a 0 0 1000 0))] sz) := by
  refine Met.ofW (cc := cX12_other) (maxL := 3) (ret := (some .int)) (by decide) rfl ?_
  intro p e s m args below meth c s₁ B hml hv
  obtain ⟨rfl, hsz, hP, hK, hD0⟩ := hv
  have hx := B.exec
  have hb := B.bytes
  have hr := B.returns
  have hts := atoms_spec (ws := wsX12_other) B.pre
  have hown : s.vm.findClass RX12 = some m.cls := findClass_of_methodNamed B.named
  have hlocks := B.notSynchronized
  subst hsz
  have hD := hD0.self (sz := s.heap.size)
  generalize hAe : va_A [(g0, .inr (11, mF a 0 0 1000 0))] s.heap.size = A at hD ⊢
  have hA : ∀ q : Nat, s.heap.size ≤ q → A q := fun q h => by rw [← hAe]; exact Or.inr h
  generalize hH : s.heap = H at hP ⊢
  have hS : va_S A s.heap H [] := by rw [← hH]; exact va_S.rf
  have hl := lv_entry [.ref g0, .int p0, .int p1] (n := 3) (Nat.le_of_ble_eq_true rfl)
  rw [lg_entry_eq]
  generalize (lg_sl [.ref g0, .int p0, .int p1] ++ List.replicate (3 - (lg_sl [.ref g0, .int p0, .int p1]).length) Slot.unset).toArray = ls at hl ⊢
  have hl : lv_has ls 3 [(0, .ref g0), (1, .int p0), (2, .int p1)] := hl
  have hP : va_P (dC, dI) vwCl [(g0, .inr (11, mF a 0 0 1000 0))] H := hP
  refine lv_aload_n hx hb dX12_other_0 rfl (lv_at hl 0 rfl) ?_
  refine lv_iconst (v := 0) hx hb dX12_other_1 (by decide) ?_
  refine va_put (D := (dC, dI)) (ci := 11) (v := .int 0) (ty := .int) (C := RX12) (T := TX12) (N := 32) hx hb hts (by decide +kernel) tyX12 tyX12_ok nmX12 hown hK hP hD hS 0 rfl rfl 19 (by decide) (hts (.fieldLink RX12 63 "NeededListsModel" "thrown" "I") (by decide +kernel)) (fun _ h9 => h9) rfl (by decide +kernel) rfl rfl (Nat.le_of_ble_eq_true rfl) dX12_other_2 (fun H locs hP hD hS => ?_)
  have hP : va_P (dC, dI) vwCl [(g0, .inr (11, mF a 0 0 1000 0))] H := hP
  have hD : va_D A [(g0, .inr (11, mF a 0 0 1000 0))] := hD
  refine lv_aload_n hx hb dX12_other_5 rfl (lv_at hl 0 rfl) ?_
  refine lv_iload_n hx hb dX12_other_6 rfl (lv_at hl 1 rfl) ?_
  have hPc := hP.sub (ws' := [(g0, .inr (11, mF a 0 0 1000 0))]) [0] rfl
  have hDc : va_D (fun _ => True) ([] : va_W) := nd_0
  have hKc := hK.sub (tys' := []) [] rfl
  have hFc := va_free (wc := []) hD hS hA [] rfl
  refine va_calli (va_runV (As := [.int p0]) (rest := []) ⟨hx, hb, hml, hown, hts⟩ (c_X12_isList l dC dI a g0 0 1000 0 p0 H.size) (cwV 1 hts gX12_other_X12_isList rfl rfl rfl (by decide +kernel) ⟨Nat.le_of_ble_eq_true rfl, Nat.le_of_ble_eq_true rfl⟩) ⟨fun a U g mk q => by obtain ⟨q0, q1, qP, qK, qD⟩ := q; exact ⟨q0, q1, qP, va_K.moved (u := U) (U := U.calling g mk a) (Vm.Alike.refl U.vm) qK, qD⟩, va_recv hKc hPc (ci := 11) (q0 := 0) rfl rfl, fun U hU hW => ⟨rfl, by rw [hU], by rw [hU]; exact hPc, va_K.moved hW.alike hKc, nd_0⟩⟩ rfl rfl hl.1 rfl (lv_room (Nat.le_of_ble_eq_true rfl)) dX12_other_7 ⟨Nat.le_of_ble_eq_true rfl, Nat.le_of_ble_eq_true rfl⟩) hS (fun q _ h => hFc q h) hFc (fun r_1 u_2 t H1 locs ht hvm hw hB hz1 hk1 hS => ?_)
  have hP := nd_keep hP hk1
  generalize H1 = H at hP hS ⊢
  have hP : va_P (dC, dI) vwCl [(g0, .inr (11, mF a 0 0 1000 0))] H := hP
  have hD : va_D A [(g0, .inr (11, mF a 0 0 1000 0))] := hD
  refine W.widen (k := 0) (n := 0) (by decide +kernel) (by decide +kernel) ?_
  obtain rfl : r_1 = 0 := hw
  refine lv_if_ne (tgt := 19) hx hb dX12_other_10 (by decide) (fun c_10 => ?_) (fun c_10 => ?_)
  · exact absurd c_10 (by decide)
  · refine lv_aload_n hx hb dX12_other_13 rfl (lv_at hl 0 rfl) ?_
    refine lv_iconst (v := 1) hx hb dX12_other_14 (by decide) ?_
    have hPc := hP.sub (ws' := [(g0, .inr (11, mF a 0 0 1000 0))]) [0] rfl
    have hDc := hD.sub (ws' := [(g0, .inr (11, mF a 0 0 1000 0))]) [0] (by decide) rfl
    have hKc := hK.sub (tys' := []) [] rfl
    have hFc := va_free (wc := [(g0, .inr (11, mF a 0 0 1000 0))]) hD hS hA [0] rfl
    refine va_calli (va_runV (As := [.int 1]) (rest := []) ⟨hx, hb, hml, hown, hts⟩ (c_X12_fail l dC dI a g0 0 0 1000 0 1 H.size) (cwV 1 hts gX12_other_X12_fail rfl rfl rfl (by decide +kernel) ⟨Nat.le_of_ble_eq_true rfl, Nat.le_of_ble_eq_true rfl⟩) ⟨fun a U g mk q => by obtain ⟨q0, q1, qP, qK, qD⟩ := q; exact ⟨q0, q1, qP, va_K.moved (u := U) (U := U.calling g mk a) (Vm.Alike.refl U.vm) qK, qD⟩, va_recv hKc hPc (ci := 11) (q0 := 0) rfl rfl, fun U hU hW => ⟨rfl, by rw [hU], by rw [hU]; exact hPc, va_K.moved hW.alike hKc, hDc.weaken (fun _ _ _ _ => trivial)⟩⟩ rfl rfl hl.1 rfl (lv_room (Nat.le_of_ble_eq_true rfl)) dX12_other_15 ⟨Nat.le_of_ble_eq_true rfl, Nat.le_of_ble_eq_true rfl⟩) hS (fun q _ h => hFc q h) hFc (fun r_3 u_4 t H1 locs ht hvm hw hB hz1 hk1 hS => ?_)
    obtain ⟨hP1, hK1, hD1⟩ := hB
    rw [ht] at hP1
    have hK1 := va_K.moved hvm.symm hK1
    have hK := hK.app hK1
    obtain ⟨hP, hD⟩ := va_join (wr := []) (w1 := [(g0, .inr (11, mF a 0 0 1000 1))]) hP hD [0] [] rfl rfl (by decide) (by decide) hk1 hFc hP1 hD1
    generalize H1 = H at hP hS ⊢
    have hP : va_P (dC, dI) vwCl [(g0, .inr (11, mF a 0 0 1000 1))] H := hP
    have hD : va_D A [(g0, .inr (11, mF a 0 0 1000 1))] := hD
    have hK : va_K (dC, dI) vwCl [] s := hK
    refine W.widen (k := 0) (n := 0) (by decide +kernel) (by decide +kernel) ?_
    obtain rfl : r_3 = 0 := hw
    refine W.widen (k := 0) (n := 0) (by decide +kernel) (by decide +kernel) ?_
    have hP9 := hP.sub (ws' := [(g0, .inr (11, mF a 0 0 1000 1))]) [0] rfl
    have hD9 := hD.sub (ws' := [(g0, .inr (11, mF a 0 0 1000 1))]) [0] (by decide) rfl
    have hK9 := hK.sub (tys' := []) [] rfl
    exact W.iret (v := 0) hx hb hr (fun t ht hW => ⟨⟨0, (0, 0, 1000, 1), rfl, rfl, by rw [ht]; exact hP9, va_K.moved hW.alike hK9, hD9⟩, hS.F ht⟩) hS.2.2 dX12_other_18
set_option maxHeartbeats 4000000 in
set_option maxRecDepth 100000 in
theorem c_X12_reached (l : Launch) (dC : Nat → ClassId) (dI : Nat → Nat → Nat) (a : Nat → Nat) (g0 : Nat) (p0 : Int32) (sz : Nat) : Met l yX12_reached vsX12_reached ({ frames := 20, cells := 0, slots := 0, locals := 600 }) (va_Pc [.ref g0, .int p0] (fun U => U.heap.size = sz ∧ va_P (dC, dI) vwCl [(g0, .inr (11, mF a 0 0 1000 0))] U.heap ∧ va_K (dC, dI) vwCl [] U ∧ va_D (fun _ => True) [(g0, .inr (11, mF a 0 0 1000 0))])) (va_Qi (fun (r : Int32) (u : Int32 × Int32 × Int32 × Int32) => u.2.2.2 = 1) (fun (u : Int32 × Int32 × Int32 × Int32) (t : State) => va_P (dC, dI) vwCl [(g0, .inr (11, mF a u.1 u.2.1 u.2.2.1 u.2.2.2))] t.heap ∧ va_K (dC, dI) vwCl [] t ∧ va_D (va_A [(g0, .inr (11, mF a 0 0 1000 0))] sz) [(g0, .inr (11, mF a u.1 u.2.1 u.2.2.1 u.2.2.2))]) (va_A [(g0, .inr (11, mF a 0 0 1000 0))] sz)) 0 0 (va_A [(g0, .inr (11, mF a 0 0 1000 0))] sz) := by
  refine Met.ofW (cc := cX12_reached) (maxL := 3) (ret := (some .int)) (by decide) rfl ?_
  intro p e s m args below meth c s₁ B hml hv
  obtain ⟨rfl, hsz, hP, hK, hD0⟩ := hv
  have hx := B.exec
  have hb := B.bytes
  have hr := B.returns
  have hts := atoms_spec (ws := vsX12_reached) B.pre
  have hown : s.vm.findClass RX12 = some m.cls := findClass_of_methodNamed B.named
  have hlocks := B.notSynchronized
  subst hsz
  have hD := hD0.self (sz := s.heap.size)
  generalize hAe : va_A [(g0, .inr (11, mF a 0 0 1000 0))] s.heap.size = A at hD ⊢
  have hA : ∀ q : Nat, s.heap.size ≤ q → A q := fun q h => by rw [← hAe]; exact Or.inr h
  generalize hH : s.heap = H at hP ⊢
  have hS : va_S A s.heap H [] := by rw [← hH]; exact va_S.rf
  have hl := lv_entry [.ref g0, .int p0] (n := 3) (Nat.le_of_ble_eq_true rfl)
  rw [lg_entry_eq]
  generalize (lg_sl [.ref g0, .int p0] ++ List.replicate (3 - (lg_sl [.ref g0, .int p0]).length) Slot.unset).toArray = ls at hl ⊢
  have hl : lv_has ls 3 [(0, .ref g0), (1, .int p0)] := hl
  have hP : va_P (dC, dI) vwCl [(g0, .inr (11, mF a 0 0 1000 0))] H := hP
  refine lv_aload_n hx hb dX12_reached_0 rfl (lv_at hl 0 rfl) ?_
  refine lv_iconst (v := 0) hx hb dX12_reached_1 (by decide) ?_
  refine va_put (D := (dC, dI)) (ci := 11) (v := .int 0) (ty := .int) (C := RX12) (T := TX12) (N := 32) hx hb hts (by decide +kernel) tyX12 tyX12_ok nmX12 hown hK hP hD hS 0 rfl rfl 19 (by decide) (hts (.fieldLink RX12 63 "NeededListsModel" "thrown" "I") (by decide +kernel)) (fun _ h9 => h9) rfl (by decide +kernel) rfl rfl (Nat.le_of_ble_eq_true rfl) dX12_reached_2 (fun H locs hP hD hS => ?_)
  have hP : va_P (dC, dI) vwCl [(g0, .inr (11, mF a 0 0 1000 0))] H := hP
  have hD : va_D A [(g0, .inr (11, mF a 0 0 1000 0))] := hD
  refine lv_aload_n hx hb dX12_reached_5 rfl (lv_at hl 0 rfl) ?_
  refine lv_iload_n hx hb dX12_reached_6 rfl (lv_at hl 1 rfl) ?_
  have hPc := hP.sub (ws' := [(g0, .inr (11, mF a 0 0 1000 0))]) [0] rfl
  have hDc : va_D (fun _ => True) ([] : va_W) := nd_0
  have hKc := hK.sub (tys' := []) [] rfl
  have hFc := va_free (wc := []) hD hS hA [] rfl
  refine va_calli (va_runV (As := [.int p0]) (rest := []) ⟨hx, hb, hml, hown, hts⟩ (c_X12_isList l dC dI a g0 0 1000 0 p0 H.size) (cwV 1 hts hX12i_reached rfl rfl rfl (by decide +kernel) ⟨Nat.le_of_ble_eq_true rfl, Nat.le_of_ble_eq_true rfl⟩) ⟨fun a U g mk q => by obtain ⟨q0, q1, qP, qK, qD⟩ := q; exact ⟨q0, q1, qP, va_K.moved (u := U) (U := U.calling g mk a) (Vm.Alike.refl U.vm) qK, qD⟩, va_recv hKc hPc (ci := 11) (q0 := 0) rfl rfl, fun U hU hW => ⟨rfl, by rw [hU], by rw [hU]; exact hPc, va_K.moved hW.alike hKc, nd_0⟩⟩ rfl rfl hl.1 rfl (lv_room (Nat.le_of_ble_eq_true rfl)) dX12_reached_7 ⟨Nat.le_of_ble_eq_true rfl, Nat.le_of_ble_eq_true rfl⟩) hS (fun q _ h => hFc q h) hFc (fun r_1 u_2 t H1 locs ht hvm hw hB hz1 hk1 hS => ?_)
  have hP := nd_keep hP hk1
  generalize H1 = H at hP hS ⊢
  have hP : va_P (dC, dI) vwCl [(g0, .inr (11, mF a 0 0 1000 0))] H := hP
  have hD : va_D A [(g0, .inr (11, mF a 0 0 1000 0))] := hD
  refine W.widen (k := 0) (n := 0) (by decide +kernel) (by decide +kernel) ?_
  obtain rfl : r_1 = 0 := hw
  refine lv_if_ne (tgt := 19) hx hb dX12_reached_10 (by decide) (fun c_10 => ?_) (fun c_10 => ?_)
  · exact absurd c_10 (by decide)
  · refine lv_aload_n hx hb dX12_reached_13 rfl (lv_at hl 0 rfl) ?_
    refine lv_iconst (v := 1) hx hb dX12_reached_14 (by decide) ?_
    have hPc := hP.sub (ws' := [(g0, .inr (11, mF a 0 0 1000 0))]) [0] rfl
    have hDc := hD.sub (ws' := [(g0, .inr (11, mF a 0 0 1000 0))]) [0] (by decide) rfl
    have hKc := hK.sub (tys' := []) [] rfl
    have hFc := va_free (wc := [(g0, .inr (11, mF a 0 0 1000 0))]) hD hS hA [0] rfl
    refine va_calli (va_runV (As := [.int 1]) (rest := []) ⟨hx, hb, hml, hown, hts⟩ (c_X12_fail l dC dI a g0 0 0 1000 0 1 H.size) (cwV 1 hts hX12f_reached rfl rfl rfl (by decide +kernel) ⟨Nat.le_of_ble_eq_true rfl, Nat.le_of_ble_eq_true rfl⟩) ⟨fun a U g mk q => by obtain ⟨q0, q1, qP, qK, qD⟩ := q; exact ⟨q0, q1, qP, va_K.moved (u := U) (U := U.calling g mk a) (Vm.Alike.refl U.vm) qK, qD⟩, va_recv hKc hPc (ci := 11) (q0 := 0) rfl rfl, fun U hU hW => ⟨rfl, by rw [hU], by rw [hU]; exact hPc, va_K.moved hW.alike hKc, hDc.weaken (fun _ _ _ _ => trivial)⟩⟩ rfl rfl hl.1 rfl (lv_room (Nat.le_of_ble_eq_true rfl)) dX12_reached_15 ⟨Nat.le_of_ble_eq_true rfl, Nat.le_of_ble_eq_true rfl⟩) hS (fun q _ h => hFc q h) hFc (fun r_3 u_4 t H1 locs ht hvm hw hB hz1 hk1 hS => ?_)
    obtain ⟨hP1, hK1, hD1⟩ := hB
    rw [ht] at hP1
    have hK1 := va_K.moved hvm.symm hK1
    have hK := hK.app hK1
    obtain ⟨hP, hD⟩ := va_join (wr := []) (w1 := [(g0, .inr (11, mF a 0 0 1000 1))]) hP hD [0] [] rfl rfl (by decide) (by decide) hk1 hFc hP1 hD1
    generalize H1 = H at hP hS ⊢
    have hP : va_P (dC, dI) vwCl [(g0, .inr (11, mF a 0 0 1000 1))] H := hP
    have hD : va_D A [(g0, .inr (11, mF a 0 0 1000 1))] := hD
    have hK : va_K (dC, dI) vwCl [] s := hK
    refine W.widen (k := 0) (n := 0) (by decide +kernel) (by decide +kernel) ?_
    obtain rfl : r_3 = 0 := hw
    refine W.widen (k := 0) (n := 0) (by decide +kernel) (by decide +kernel) ?_
    have hP9 := hP.sub (ws' := [(g0, .inr (11, mF a 0 0 1000 1))]) [0] rfl
    have hD9 := hD.sub (ws' := [(g0, .inr (11, mF a 0 0 1000 1))]) [0] (by decide) rfl
    have hK9 := hK.sub (tys' := []) [] rfl
    exact W.iret (v := 0) hx hb hr (fun t ht hW => ⟨⟨0, (0, 0, 1000, 1), rfl, rfl, by rw [ht]; exact hP9, va_K.moved hW.alike hK9, hD9⟩, hS.F ht⟩) hS.2.2 dX12_reached_18
set_option maxHeartbeats 4000000 in
set_option maxRecDepth 100000 in
theorem c_X12_worked (l : Launch) (dC : Nat → ClassId) (dI : Nat → Nat → Nat) (a : Nat → Nat) (g0 : Nat) (p0 : Int32) (p1 : Int32) (sz : Nat) : Met l yX12_worked vsX12_worked ({ frames := 20, cells := 0, slots := 0, locals := 600 }) (va_Pc [.ref g0, .int p0, .int p1] (fun U => U.heap.size = sz ∧ va_P (dC, dI) vwCl [(g0, .inr (11, mF a 0 0 1000 0))] U.heap ∧ va_K (dC, dI) vwCl [] U ∧ va_D (fun _ => True) [(g0, .inr (11, mF a 0 0 1000 0))])) (va_Qi (fun (r : Int32) (u : Int32 × Int32 × Int32 × Int32) => u.2.2.2 = 1) (fun (u : Int32 × Int32 × Int32 × Int32) (t : State) => va_P (dC, dI) vwCl [(g0, .inr (11, mF a u.1 u.2.1 u.2.2.1 u.2.2.2))] t.heap ∧ va_K (dC, dI) vwCl [] t ∧ va_D (va_A [(g0, .inr (11, mF a 0 0 1000 0))] sz) [(g0, .inr (11, mF a u.1 u.2.1 u.2.2.1 u.2.2.2))]) (va_A [(g0, .inr (11, mF a 0 0 1000 0))] sz)) 0 0 (va_A [(g0, .inr (11, mF a 0 0 1000 0))] sz) := by
  refine Met.ofW (cc := cX12_worked) (maxL := 3) (ret := (some .boolean)) (by decide) rfl ?_
  intro p e s m args below meth c s₁ B hml hv
  obtain ⟨rfl, hsz, hP, hK, hD0⟩ := hv
  have hx := B.exec
  have hb := B.bytes
  have hr := B.returns
  have hts := atoms_spec (ws := vsX12_worked) B.pre
  have hown : s.vm.findClass RX12 = some m.cls := findClass_of_methodNamed B.named
  have hlocks := B.notSynchronized
  subst hsz
  have hD := hD0.self (sz := s.heap.size)
  generalize hAe : va_A [(g0, .inr (11, mF a 0 0 1000 0))] s.heap.size = A at hD ⊢
  have hA : ∀ q : Nat, s.heap.size ≤ q → A q := fun q h => by rw [← hAe]; exact Or.inr h
  generalize hH : s.heap = H at hP ⊢
  have hS : va_S A s.heap H [] := by rw [← hH]; exact va_S.rf
  have hl := lv_entry [.ref g0, .int p0, .int p1] (n := 3) (Nat.le_of_ble_eq_true rfl)
  rw [lg_entry_eq]
  generalize (lg_sl [.ref g0, .int p0, .int p1] ++ List.replicate (3 - (lg_sl [.ref g0, .int p0, .int p1]).length) Slot.unset).toArray = ls at hl ⊢
  have hl : lv_has ls 3 [(0, .ref g0), (1, .int p0), (2, .int p1)] := hl
  have hP : va_P (dC, dI) vwCl [(g0, .inr (11, mF a 0 0 1000 0))] H := hP
  refine lv_aload_n hx hb dX12_worked_0 rfl (lv_at hl 0 rfl) ?_
  refine lv_iconst (v := 0) hx hb dX12_worked_1 (by decide) ?_
  refine va_put (D := (dC, dI)) (ci := 11) (v := .int 0) (ty := .int) (C := RX12) (T := TX12) (N := 32) hx hb hts (by decide +kernel) tyX12 tyX12_ok nmX12 hown hK hP hD hS 0 rfl rfl 19 (by decide) (hts (.fieldLink RX12 63 "NeededListsModel" "thrown" "I") (by decide +kernel)) (fun _ h9 => h9) rfl (by decide +kernel) rfl rfl (Nat.le_of_ble_eq_true rfl) dX12_worked_2 (fun H locs hP hD hS => ?_)
  have hP : va_P (dC, dI) vwCl [(g0, .inr (11, mF a 0 0 1000 0))] H := hP
  have hD : va_D A [(g0, .inr (11, mF a 0 0 1000 0))] := hD
  refine lv_aload_n hx hb dX12_worked_5 rfl (lv_at hl 0 rfl) ?_
  refine lv_iload_n hx hb dX12_worked_6 rfl (lv_at hl 1 rfl) ?_
  have hPc := hP.sub (ws' := [(g0, .inr (11, mF a 0 0 1000 0))]) [0] rfl
  have hDc : va_D (fun _ => True) ([] : va_W) := nd_0
  have hKc := hK.sub (tys' := []) [] rfl
  have hFc := va_free (wc := []) hD hS hA [] rfl
  refine va_calli (va_runV (As := [.int p0]) (rest := []) ⟨hx, hb, hml, hown, hts⟩ (c_X12_isList l dC dI a g0 0 1000 0 p0 H.size) (cwV 1 hts hX12i_worked rfl rfl rfl (by decide +kernel) ⟨Nat.le_of_ble_eq_true rfl, Nat.le_of_ble_eq_true rfl⟩) ⟨fun a U g mk q => by obtain ⟨q0, q1, qP, qK, qD⟩ := q; exact ⟨q0, q1, qP, va_K.moved (u := U) (U := U.calling g mk a) (Vm.Alike.refl U.vm) qK, qD⟩, va_recv hKc hPc (ci := 11) (q0 := 0) rfl rfl, fun U hU hW => ⟨rfl, by rw [hU], by rw [hU]; exact hPc, va_K.moved hW.alike hKc, nd_0⟩⟩ rfl rfl hl.1 rfl (lv_room (Nat.le_of_ble_eq_true rfl)) dX12_worked_7 ⟨Nat.le_of_ble_eq_true rfl, Nat.le_of_ble_eq_true rfl⟩) hS (fun q _ h => hFc q h) hFc (fun r_1 u_2 t H1 locs ht hvm hw hB hz1 hk1 hS => ?_)
  have hP := nd_keep hP hk1
  generalize H1 = H at hP hS ⊢
  have hP : va_P (dC, dI) vwCl [(g0, .inr (11, mF a 0 0 1000 0))] H := hP
  have hD : va_D A [(g0, .inr (11, mF a 0 0 1000 0))] := hD
  refine W.widen (k := 0) (n := 0) (by decide +kernel) (by decide +kernel) ?_
  obtain rfl : r_1 = 0 := hw
  refine lv_if_ne (tgt := 27) hx hb dX12_worked_10 (by decide) (fun c_10 => ?_) (fun c_10 => ?_)
  · exact absurd c_10 (by decide)
  · refine lv_aload_n hx hb dX12_worked_13 rfl (lv_at hl 0 rfl) ?_
    refine lv_iconst (v := 1) hx hb dX12_worked_14 (by decide) ?_
    have hPc := hP.sub (ws' := [(g0, .inr (11, mF a 0 0 1000 0))]) [0] rfl
    have hDc := hD.sub (ws' := [(g0, .inr (11, mF a 0 0 1000 0))]) [0] (by decide) rfl
    have hKc := hK.sub (tys' := []) [] rfl
    have hFc := va_free (wc := [(g0, .inr (11, mF a 0 0 1000 0))]) hD hS hA [0] rfl
    refine va_calli (va_runV (As := [.int 1]) (rest := []) ⟨hx, hb, hml, hown, hts⟩ (c_X12_fail l dC dI a g0 0 0 1000 0 1 H.size) (cwV 1 hts hX12f_worked rfl rfl rfl (by decide +kernel) ⟨Nat.le_of_ble_eq_true rfl, Nat.le_of_ble_eq_true rfl⟩) ⟨fun a U g mk q => by obtain ⟨q0, q1, qP, qK, qD⟩ := q; exact ⟨q0, q1, qP, va_K.moved (u := U) (U := U.calling g mk a) (Vm.Alike.refl U.vm) qK, qD⟩, va_recv hKc hPc (ci := 11) (q0 := 0) rfl rfl, fun U hU hW => ⟨rfl, by rw [hU], by rw [hU]; exact hPc, va_K.moved hW.alike hKc, hDc.weaken (fun _ _ _ _ => trivial)⟩⟩ rfl rfl hl.1 rfl (lv_room (Nat.le_of_ble_eq_true rfl)) dX12_worked_15 ⟨Nat.le_of_ble_eq_true rfl, Nat.le_of_ble_eq_true rfl⟩) hS (fun q _ h => hFc q h) hFc (fun r_3 u_4 t H1 locs ht hvm hw hB hz1 hk1 hS => ?_)
    obtain ⟨hP1, hK1, hD1⟩ := hB
    rw [ht] at hP1
    have hK1 := va_K.moved hvm.symm hK1
    have hK := hK.app hK1
    obtain ⟨hP, hD⟩ := va_join (wr := []) (w1 := [(g0, .inr (11, mF a 0 0 1000 1))]) hP hD [0] [] rfl rfl (by decide) (by decide) hk1 hFc hP1 hD1
    generalize H1 = H at hP hS ⊢
    have hP : va_P (dC, dI) vwCl [(g0, .inr (11, mF a 0 0 1000 1))] H := hP
    have hD : va_D A [(g0, .inr (11, mF a 0 0 1000 1))] := hD
    have hK : va_K (dC, dI) vwCl [] s := hK
    refine W.widen (k := 0) (n := 0) (by decide +kernel) (by decide +kernel) ?_
    obtain rfl : r_3 = 0 := hw
    refine lv_if_le (tgt := 25) hx hb dX12_worked_18 (by decide) (fun c_18 => ?_) (fun c_18 => ?_)
    · refine lv_iconst (v := 0) hx hb dX12_worked_25 (by decide) ?_
      refine W.widen (k := 0) (n := 0) (by decide +kernel) (by decide +kernel) ?_
      have hP9 := hP.sub (ws' := [(g0, .inr (11, mF a 0 0 1000 1))]) [0] rfl
      have hD9 := hD.sub (ws' := [(g0, .inr (11, mF a 0 0 1000 1))]) [0] (by decide) rfl
      have hK9 := hK.sub (tys' := []) [] rfl
      exact W.zret (v := 0) hx hb hr (by decide) (fun t ht hW => ⟨⟨0, (0, 0, 1000, 1), rfl, rfl, by rw [ht]; exact hP9, va_K.moved hW.alike hK9, hD9⟩, hS.F ht⟩) hS.2.2 dX12_worked_26
    · exact absurd c_18 (by decide)
set_option maxHeartbeats 4000000 in
set_option maxRecDepth 100000 in
theorem c_X12_at (l : Launch) (dC : Nat → ClassId) (dI : Nat → Nat → Nat) (a : Nat → Nat) (g0 : Nat) (p0 : Int32) (p1 : Int32) (sz : Nat) : Met l yX12_at vsX12_at ({ frames := 20, cells := 0, slots := 0, locals := 600 }) (va_Pc [.ref g0, .int p0, .int p1] (fun U => U.heap.size = sz ∧ va_P (dC, dI) vwCl [(g0, .inr (11, mF a 0 0 1000 0))] U.heap ∧ va_K (dC, dI) vwCl [] U ∧ va_D (fun _ => True) [(g0, .inr (11, mF a 0 0 1000 0))])) (va_Ql (fun (r : Int64) (u : Int32 × Int32 × Int32 × Int32) => u.2.2.2 = 1) (fun (u : Int32 × Int32 × Int32 × Int32) (t : State) => va_P (dC, dI) vwCl [(g0, .inr (11, mF a u.1 u.2.1 u.2.2.1 u.2.2.2))] t.heap ∧ va_K (dC, dI) vwCl [] t ∧ va_D (va_A [(g0, .inr (11, mF a 0 0 1000 0))] sz) [(g0, .inr (11, mF a u.1 u.2.1 u.2.2.1 u.2.2.2))]) (va_A [(g0, .inr (11, mF a 0 0 1000 0))] sz)) 0 0 (va_A [(g0, .inr (11, mF a 0 0 1000 0))] sz) := by
  refine Met.ofW (cc := cX12_at) (maxL := 5) (ret := (some .long)) (by decide) rfl ?_
  intro p e s m args below meth c s₁ B hml hv
  obtain ⟨rfl, hsz, hP, hK, hD0⟩ := hv
  have hx := B.exec
  have hb := B.bytes
  have hr := B.returns
  have hts := atoms_spec (ws := vsX12_at) B.pre
  have hown : s.vm.findClass RX12 = some m.cls := findClass_of_methodNamed B.named
  have hlocks := B.notSynchronized
  subst hsz
  have hD := hD0.self (sz := s.heap.size)
  generalize hAe : va_A [(g0, .inr (11, mF a 0 0 1000 0))] s.heap.size = A at hD ⊢
  have hA : ∀ q : Nat, s.heap.size ≤ q → A q := fun q h => by rw [← hAe]; exact Or.inr h
  generalize hH : s.heap = H at hP ⊢
  have hS : va_S A s.heap H [] := by rw [← hH]; exact va_S.rf
  have hl := lv_entry [.ref g0, .int p0, .int p1] (n := 5) (Nat.le_of_ble_eq_true rfl)
  rw [lg_entry_eq]
  generalize (lg_sl [.ref g0, .int p0, .int p1] ++ List.replicate (5 - (lg_sl [.ref g0, .int p0, .int p1]).length) Slot.unset).toArray = ls at hl ⊢
  have hl : lv_has ls 5 [(0, .ref g0), (1, .int p0), (2, .int p1)] := hl
  have hP : va_P (dC, dI) vwCl [(g0, .inr (11, mF a 0 0 1000 0))] H := hP
  refine lv_aload_n hx hb dX12_at_0 rfl (lv_at hl 0 rfl) ?_
  refine lv_iconst (v := 0) hx hb dX12_at_1 (by decide) ?_
  refine va_put (D := (dC, dI)) (ci := 11) (v := .int 0) (ty := .int) (C := RX12) (T := TX12) (N := 32) hx hb hts (by decide +kernel) tyX12 tyX12_ok nmX12 hown hK hP hD hS 0 rfl rfl 19 (by decide) (hts (.fieldLink RX12 63 "NeededListsModel" "thrown" "I") (by decide +kernel)) (fun _ h9 => h9) rfl (by decide +kernel) rfl rfl (Nat.le_of_ble_eq_true rfl) dX12_at_2 (fun H locs hP hD hS => ?_)
  have hP : va_P (dC, dI) vwCl [(g0, .inr (11, mF a 0 0 1000 0))] H := hP
  have hD : va_D A [(g0, .inr (11, mF a 0 0 1000 0))] := hD
  refine lv_aload_n hx hb dX12_at_5 rfl (lv_at hl 0 rfl) ?_
  refine lv_iload_n hx hb dX12_at_6 rfl (lv_at hl 1 rfl) ?_
  have hPc := hP.sub (ws' := [(g0, .inr (11, mF a 0 0 1000 0))]) [0] rfl
  have hDc : va_D (fun _ => True) ([] : va_W) := nd_0
  have hKc := hK.sub (tys' := []) [] rfl
  have hFc := va_free (wc := []) hD hS hA [] rfl
  refine va_calli (va_runV (As := [.int p0]) (rest := []) ⟨hx, hb, hml, hown, hts⟩ (c_X12_isList l dC dI a g0 0 1000 0 p0 H.size) (cwV 1 hts hX12i_at rfl rfl rfl (by decide +kernel) ⟨Nat.le_of_ble_eq_true rfl, Nat.le_of_ble_eq_true rfl⟩) ⟨fun a U g mk q => by obtain ⟨q0, q1, qP, qK, qD⟩ := q; exact ⟨q0, q1, qP, va_K.moved (u := U) (U := U.calling g mk a) (Vm.Alike.refl U.vm) qK, qD⟩, va_recv hKc hPc (ci := 11) (q0 := 0) rfl rfl, fun U hU hW => ⟨rfl, by rw [hU], by rw [hU]; exact hPc, va_K.moved hW.alike hKc, nd_0⟩⟩ rfl rfl hl.1 rfl (lv_room (Nat.le_of_ble_eq_true rfl)) dX12_at_7 ⟨Nat.le_of_ble_eq_true rfl, Nat.le_of_ble_eq_true rfl⟩) hS (fun q _ h => hFc q h) hFc (fun r_1 u_2 t H1 locs ht hvm hw hB hz1 hk1 hS => ?_)
  have hP := nd_keep hP hk1
  generalize H1 = H at hP hS ⊢
  have hP : va_P (dC, dI) vwCl [(g0, .inr (11, mF a 0 0 1000 0))] H := hP
  have hD : va_D A [(g0, .inr (11, mF a 0 0 1000 0))] := hD
  refine W.widen (k := 0) (n := 0) (by decide +kernel) (by decide +kernel) ?_
  obtain rfl : r_1 = 0 := hw
  refine lv_if_ne (tgt := 20) hx hb dX12_at_10 (by decide) (fun c_10 => ?_) (fun c_10 => ?_)
  · exact absurd c_10 (by decide)
  · refine lv_aload_n hx hb dX12_at_13 rfl (lv_at hl 0 rfl) ?_
    refine lv_iconst (v := 1) hx hb dX12_at_14 (by decide) ?_
    have hPc := hP.sub (ws' := [(g0, .inr (11, mF a 0 0 1000 0))]) [0] rfl
    have hDc := hD.sub (ws' := [(g0, .inr (11, mF a 0 0 1000 0))]) [0] (by decide) rfl
    have hKc := hK.sub (tys' := []) [] rfl
    have hFc := va_free (wc := [(g0, .inr (11, mF a 0 0 1000 0))]) hD hS hA [0] rfl
    refine va_calli (va_runV (As := [.int 1]) (rest := []) ⟨hx, hb, hml, hown, hts⟩ (c_X12_fail l dC dI a g0 0 0 1000 0 1 H.size) (cwV 1 hts hX12f_at rfl rfl rfl (by decide +kernel) ⟨Nat.le_of_ble_eq_true rfl, Nat.le_of_ble_eq_true rfl⟩) ⟨fun a U g mk q => by obtain ⟨q0, q1, qP, qK, qD⟩ := q; exact ⟨q0, q1, qP, va_K.moved (u := U) (U := U.calling g mk a) (Vm.Alike.refl U.vm) qK, qD⟩, va_recv hKc hPc (ci := 11) (q0 := 0) rfl rfl, fun U hU hW => ⟨rfl, by rw [hU], by rw [hU]; exact hPc, va_K.moved hW.alike hKc, hDc.weaken (fun _ _ _ _ => trivial)⟩⟩ rfl rfl hl.1 rfl (lv_room (Nat.le_of_ble_eq_true rfl)) dX12_at_15 ⟨Nat.le_of_ble_eq_true rfl, Nat.le_of_ble_eq_true rfl⟩) hS (fun q _ h => hFc q h) hFc (fun r_3 u_4 t H1 locs ht hvm hw hB hz1 hk1 hS => ?_)
    obtain ⟨hP1, hK1, hD1⟩ := hB
    rw [ht] at hP1
    have hK1 := va_K.moved hvm.symm hK1
    have hK := hK.app hK1
    obtain ⟨hP, hD⟩ := va_join (wr := []) (w1 := [(g0, .inr (11, mF a 0 0 1000 1))]) hP hD [0] [] rfl rfl (by decide) (by decide) hk1 hFc hP1 hD1
    generalize H1 = H at hP hS ⊢
    have hP : va_P (dC, dI) vwCl [(g0, .inr (11, mF a 0 0 1000 1))] H := hP
    have hD : va_D A [(g0, .inr (11, mF a 0 0 1000 1))] := hD
    have hK : va_K (dC, dI) vwCl [] s := hK
    refine W.widen (k := 0) (n := 0) (by decide +kernel) (by decide +kernel) ?_
    obtain rfl : r_3 = 0 := hw
    refine lv_i2l (v := 0) hx hb dX12_at_18 (by decide) ?_
    refine W.widen (k := 0) (n := 0) (by decide +kernel) (by decide +kernel) ?_
    have hP9 := hP.sub (ws' := [(g0, .inr (11, mF a 0 0 1000 1))]) [0] rfl
    have hD9 := hD.sub (ws' := [(g0, .inr (11, mF a 0 0 1000 1))]) [0] (by decide) rfl
    have hK9 := hK.sub (tys' := []) [] rfl
    exact W.lret (v := 0) hx hb hr (fun t ht hW => ⟨⟨0, (0, 0, 1000, 1), rfl, rfl, by rw [ht]; exact hP9, va_K.moved hW.alike hK9, hD9⟩, hS.F ht⟩) hS.2.2 dX12_at_19
set_option maxHeartbeats 4000000 in
set_option maxRecDepth 100000 in
theorem c_X12_size (l : Launch) (dC : Nat → ClassId) (dI : Nat → Nat → Nat) (a : Nat → Nat) (g0 : Nat) (p0 : Int32) (sz : Nat) : Met l yX12_size vsX12_size ({ frames := 20, cells := 0, slots := 0, locals := 600 }) (va_Pc [.ref g0, .int p0] (fun U => U.heap.size = sz ∧ va_P (dC, dI) vwCl [(g0, .inr (11, mF a 0 0 1000 0))] U.heap ∧ va_K (dC, dI) vwCl [] U ∧ va_D (fun _ => True) [(g0, .inr (11, mF a 0 0 1000 0))])) (va_Ql (fun (r : Int64) (u : Int32 × Int32 × Int32 × Int32) => u.2.2.2 = 1) (fun (u : Int32 × Int32 × Int32 × Int32) (t : State) => va_P (dC, dI) vwCl [(g0, .inr (11, mF a u.1 u.2.1 u.2.2.1 u.2.2.2))] t.heap ∧ va_K (dC, dI) vwCl [] t ∧ va_D (va_A [(g0, .inr (11, mF a 0 0 1000 0))] sz) [(g0, .inr (11, mF a u.1 u.2.1 u.2.2.1 u.2.2.2))]) (va_A [(g0, .inr (11, mF a 0 0 1000 0))] sz)) 0 0 (va_A [(g0, .inr (11, mF a 0 0 1000 0))] sz) := by
  refine Met.ofW (cc := cX12_size) (maxL := 4) (ret := (some .long)) (by decide) rfl ?_
  intro p e s m args below meth c s₁ B hml hv
  obtain ⟨rfl, hsz, hP, hK, hD0⟩ := hv
  have hx := B.exec
  have hb := B.bytes
  have hr := B.returns
  have hts := atoms_spec (ws := vsX12_size) B.pre
  have hown : s.vm.findClass RX12 = some m.cls := findClass_of_methodNamed B.named
  have hlocks := B.notSynchronized
  subst hsz
  have hD := hD0.self (sz := s.heap.size)
  generalize hAe : va_A [(g0, .inr (11, mF a 0 0 1000 0))] s.heap.size = A at hD ⊢
  have hA : ∀ q : Nat, s.heap.size ≤ q → A q := fun q h => by rw [← hAe]; exact Or.inr h
  generalize hH : s.heap = H at hP ⊢
  have hS : va_S A s.heap H [] := by rw [← hH]; exact va_S.rf
  have hl := lv_entry [.ref g0, .int p0] (n := 4) (Nat.le_of_ble_eq_true rfl)
  rw [lg_entry_eq]
  generalize (lg_sl [.ref g0, .int p0] ++ List.replicate (4 - (lg_sl [.ref g0, .int p0]).length) Slot.unset).toArray = ls at hl ⊢
  have hl : lv_has ls 4 [(0, .ref g0), (1, .int p0)] := hl
  have hP : va_P (dC, dI) vwCl [(g0, .inr (11, mF a 0 0 1000 0))] H := hP
  refine lv_aload_n hx hb dX12_size_0 rfl (lv_at hl 0 rfl) ?_
  refine lv_iconst (v := 0) hx hb dX12_size_1 (by decide) ?_
  refine va_put (D := (dC, dI)) (ci := 11) (v := .int 0) (ty := .int) (C := RX12) (T := TX12) (N := 32) hx hb hts (by decide +kernel) tyX12 tyX12_ok nmX12 hown hK hP hD hS 0 rfl rfl 19 (by decide) (hts (.fieldLink RX12 63 "NeededListsModel" "thrown" "I") (by decide +kernel)) (fun _ h9 => h9) rfl (by decide +kernel) rfl rfl (Nat.le_of_ble_eq_true rfl) dX12_size_2 (fun H locs hP hD hS => ?_)
  have hP : va_P (dC, dI) vwCl [(g0, .inr (11, mF a 0 0 1000 0))] H := hP
  have hD : va_D A [(g0, .inr (11, mF a 0 0 1000 0))] := hD
  refine lv_aload_n hx hb dX12_size_5 rfl (lv_at hl 0 rfl) ?_
  refine lv_iload_n hx hb dX12_size_6 rfl (lv_at hl 1 rfl) ?_
  have hPc := hP.sub (ws' := [(g0, .inr (11, mF a 0 0 1000 0))]) [0] rfl
  have hDc : va_D (fun _ => True) ([] : va_W) := nd_0
  have hKc := hK.sub (tys' := []) [] rfl
  have hFc := va_free (wc := []) hD hS hA [] rfl
  refine va_calli (va_runV (As := [.int p0]) (rest := []) ⟨hx, hb, hml, hown, hts⟩ (c_X12_isList l dC dI a g0 0 1000 0 p0 H.size) (cwV 1 hts hX12i_size rfl rfl rfl (by decide +kernel) ⟨Nat.le_of_ble_eq_true rfl, Nat.le_of_ble_eq_true rfl⟩) ⟨fun a U g mk q => by obtain ⟨q0, q1, qP, qK, qD⟩ := q; exact ⟨q0, q1, qP, va_K.moved (u := U) (U := U.calling g mk a) (Vm.Alike.refl U.vm) qK, qD⟩, va_recv hKc hPc (ci := 11) (q0 := 0) rfl rfl, fun U hU hW => ⟨rfl, by rw [hU], by rw [hU]; exact hPc, va_K.moved hW.alike hKc, nd_0⟩⟩ rfl rfl hl.1 rfl (lv_room (Nat.le_of_ble_eq_true rfl)) dX12_size_7 ⟨Nat.le_of_ble_eq_true rfl, Nat.le_of_ble_eq_true rfl⟩) hS (fun q _ h => hFc q h) hFc (fun r_1 u_2 t H1 locs ht hvm hw hB hz1 hk1 hS => ?_)
  have hP := nd_keep hP hk1
  generalize H1 = H at hP hS ⊢
  have hP : va_P (dC, dI) vwCl [(g0, .inr (11, mF a 0 0 1000 0))] H := hP
  have hD : va_D A [(g0, .inr (11, mF a 0 0 1000 0))] := hD
  refine W.widen (k := 0) (n := 0) (by decide +kernel) (by decide +kernel) ?_
  obtain rfl : r_1 = 0 := hw
  refine lv_if_ne (tgt := 20) hx hb dX12_size_10 (by decide) (fun c_10 => ?_) (fun c_10 => ?_)
  · exact absurd c_10 (by decide)
  · refine lv_aload_n hx hb dX12_size_13 rfl (lv_at hl 0 rfl) ?_
    refine lv_iconst (v := 1) hx hb dX12_size_14 (by decide) ?_
    have hPc := hP.sub (ws' := [(g0, .inr (11, mF a 0 0 1000 0))]) [0] rfl
    have hDc := hD.sub (ws' := [(g0, .inr (11, mF a 0 0 1000 0))]) [0] (by decide) rfl
    have hKc := hK.sub (tys' := []) [] rfl
    have hFc := va_free (wc := [(g0, .inr (11, mF a 0 0 1000 0))]) hD hS hA [0] rfl
    refine va_calli (va_runV (As := [.int 1]) (rest := []) ⟨hx, hb, hml, hown, hts⟩ (c_X12_fail l dC dI a g0 0 0 1000 0 1 H.size) (cwV 1 hts hX12f_size rfl rfl rfl (by decide +kernel) ⟨Nat.le_of_ble_eq_true rfl, Nat.le_of_ble_eq_true rfl⟩) ⟨fun a U g mk q => by obtain ⟨q0, q1, qP, qK, qD⟩ := q; exact ⟨q0, q1, qP, va_K.moved (u := U) (U := U.calling g mk a) (Vm.Alike.refl U.vm) qK, qD⟩, va_recv hKc hPc (ci := 11) (q0 := 0) rfl rfl, fun U hU hW => ⟨rfl, by rw [hU], by rw [hU]; exact hPc, va_K.moved hW.alike hKc, hDc.weaken (fun _ _ _ _ => trivial)⟩⟩ rfl rfl hl.1 rfl (lv_room (Nat.le_of_ble_eq_true rfl)) dX12_size_15 ⟨Nat.le_of_ble_eq_true rfl, Nat.le_of_ble_eq_true rfl⟩) hS (fun q _ h => hFc q h) hFc (fun r_3 u_4 t H1 locs ht hvm hw hB hz1 hk1 hS => ?_)
    obtain ⟨hP1, hK1, hD1⟩ := hB
    rw [ht] at hP1
    have hK1 := va_K.moved hvm.symm hK1
    have hK := hK.app hK1
    obtain ⟨hP, hD⟩ := va_join (wr := []) (w1 := [(g0, .inr (11, mF a 0 0 1000 1))]) hP hD [0] [] rfl rfl (by decide) (by decide) hk1 hFc hP1 hD1
    generalize H1 = H at hP hS ⊢
    have hP : va_P (dC, dI) vwCl [(g0, .inr (11, mF a 0 0 1000 1))] H := hP
    have hD : va_D A [(g0, .inr (11, mF a 0 0 1000 1))] := hD
    have hK : va_K (dC, dI) vwCl [] s := hK
    refine W.widen (k := 0) (n := 0) (by decide +kernel) (by decide +kernel) ?_
    obtain rfl : r_3 = 0 := hw
    refine lv_i2l (v := 0) hx hb dX12_size_18 (by decide) ?_
    refine W.widen (k := 0) (n := 0) (by decide +kernel) (by decide +kernel) ?_
    have hP9 := hP.sub (ws' := [(g0, .inr (11, mF a 0 0 1000 1))]) [0] rfl
    have hD9 := hD.sub (ws' := [(g0, .inr (11, mF a 0 0 1000 1))]) [0] (by decide) rfl
    have hK9 := hK.sub (tys' := []) [] rfl
    exact W.lret (v := 0) hx hb hr (fun t ht hW => ⟨⟨0, (0, 0, 1000, 1), rfl, rfl, by rw [ht]; exact hP9, va_K.moved hW.alike hK9, hD9⟩, hS.F ht⟩) hS.2.2 dX12_size_19
set_option maxHeartbeats 4000000 in
set_option maxRecDepth 100000 in
theorem c_X12_fold (l : Launch) (dC : Nat → ClassId) (dI : Nat → Nat → Nat) (a : Nat → Nat) (g0 : Nat) (p0 : Int32) (p1 : Int32) (p2 : Int64) (sz : Nat) : Met l yX12_fold vsX12_fold ({ frames := 20, cells := 0, slots := 0, locals := 600 }) (va_Pc [.ref g0, .int p0, .int p1, .long p2] (fun U => U.heap.size = sz ∧ va_P (dC, dI) vwCl [(g0, .inr (11, mF a 0 0 1000 0))] U.heap ∧ va_K (dC, dI) vwCl [] U ∧ va_D (fun _ => True) [(g0, .inr (11, mF a 0 0 1000 0))])) (va_Ql (fun (r : Int64) (u : Int32 × Int32 × Int32 × Int32) => u.2.2.2 = 1) (fun (u : Int32 × Int32 × Int32 × Int32) (t : State) => va_P (dC, dI) vwCl [(g0, .inr (11, mF a u.1 u.2.1 u.2.2.1 u.2.2.2))] t.heap ∧ va_K (dC, dI) vwCl [] t ∧ va_D (va_A [(g0, .inr (11, mF a 0 0 1000 0))] sz) [(g0, .inr (11, mF a u.1 u.2.1 u.2.2.1 u.2.2.2))]) (va_A [(g0, .inr (11, mF a 0 0 1000 0))] sz)) 0 0 (va_A [(g0, .inr (11, mF a 0 0 1000 0))] sz) := by
  refine Met.ofW (cc := cX12_fold) (maxL := 9) (ret := (some .long)) (by decide) rfl ?_
  intro p e s m args below meth c s₁ B hml hv
  obtain ⟨rfl, hsz, hP, hK, hD0⟩ := hv
  have hx := B.exec
  have hb := B.bytes
  have hr := B.returns
  have hts := atoms_spec (ws := vsX12_fold) B.pre
  have hown : s.vm.findClass RX12 = some m.cls := findClass_of_methodNamed B.named
  have hlocks := B.notSynchronized
  subst hsz
  have hD := hD0.self (sz := s.heap.size)
  generalize hAe : va_A [(g0, .inr (11, mF a 0 0 1000 0))] s.heap.size = A at hD ⊢
  have hA : ∀ q : Nat, s.heap.size ≤ q → A q := fun q h => by rw [← hAe]; exact Or.inr h
  generalize hH : s.heap = H at hP ⊢
  have hS : va_S A s.heap H [] := by rw [← hH]; exact va_S.rf
  have hl := lv_entry [.ref g0, .int p0, .int p1, .long p2] (n := 9) (Nat.le_of_ble_eq_true rfl)
  rw [lg_entry_eq]
  generalize (lg_sl [.ref g0, .int p0, .int p1, .long p2] ++ List.replicate (9 - (lg_sl [.ref g0, .int p0, .int p1, .long p2]).length) Slot.unset).toArray = ls at hl ⊢
  have hl : lv_has ls 9 [(0, .ref g0), (1, .int p0), (2, .int p1), (3, .long p2)] := hl
  have hP : va_P (dC, dI) vwCl [(g0, .inr (11, mF a 0 0 1000 0))] H := hP
  refine lv_aload_n hx hb dX12_fold_0 rfl (lv_at hl 0 rfl) ?_
  refine lv_iconst (v := 0) hx hb dX12_fold_1 (by decide) ?_
  refine va_put (D := (dC, dI)) (ci := 11) (v := .int 0) (ty := .int) (C := RX12) (T := TX12) (N := 32) hx hb hts (by decide +kernel) tyX12 tyX12_ok nmX12 hown hK hP hD hS 0 rfl rfl 19 (by decide) (hts (.fieldLink RX12 63 "NeededListsModel" "thrown" "I") (by decide +kernel)) (fun _ h9 => h9) rfl (by decide +kernel) rfl rfl (Nat.le_of_ble_eq_true rfl) dX12_fold_2 (fun H locs hP hD hS => ?_)
  have hP : va_P (dC, dI) vwCl [(g0, .inr (11, mF a 0 0 1000 0))] H := hP
  have hD : va_D A [(g0, .inr (11, mF a 0 0 1000 0))] := hD
  refine lv_aload_n hx hb dX12_fold_5 rfl (lv_at hl 0 rfl) ?_
  refine lv_iload_n hx hb dX12_fold_6 rfl (lv_at hl 1 rfl) ?_
  have hPc := hP.sub (ws' := [(g0, .inr (11, mF a 0 0 1000 0))]) [0] rfl
  have hDc : va_D (fun _ => True) ([] : va_W) := nd_0
  have hKc := hK.sub (tys' := []) [] rfl
  have hFc := va_free (wc := []) hD hS hA [] rfl
  refine va_calli (va_runV (As := [.int p0]) (rest := []) ⟨hx, hb, hml, hown, hts⟩ (c_X12_isList l dC dI a g0 0 1000 0 p0 H.size) (cwV 1 hts hX12i_fold rfl rfl rfl (by decide +kernel) ⟨Nat.le_of_ble_eq_true rfl, Nat.le_of_ble_eq_true rfl⟩) ⟨fun a U g mk q => by obtain ⟨q0, q1, qP, qK, qD⟩ := q; exact ⟨q0, q1, qP, va_K.moved (u := U) (U := U.calling g mk a) (Vm.Alike.refl U.vm) qK, qD⟩, va_recv hKc hPc (ci := 11) (q0 := 0) rfl rfl, fun U hU hW => ⟨rfl, by rw [hU], by rw [hU]; exact hPc, va_K.moved hW.alike hKc, nd_0⟩⟩ rfl rfl hl.1 rfl (lv_room (Nat.le_of_ble_eq_true rfl)) dX12_fold_7 ⟨Nat.le_of_ble_eq_true rfl, Nat.le_of_ble_eq_true rfl⟩) hS (fun q _ h => hFc q h) hFc (fun r_1 u_2 t H1 locs ht hvm hw hB hz1 hk1 hS => ?_)
  have hP := nd_keep hP hk1
  generalize H1 = H at hP hS ⊢
  have hP : va_P (dC, dI) vwCl [(g0, .inr (11, mF a 0 0 1000 0))] H := hP
  have hD : va_D A [(g0, .inr (11, mF a 0 0 1000 0))] := hD
  refine W.widen (k := 0) (n := 0) (by decide +kernel) (by decide +kernel) ?_
  obtain rfl : r_1 = 0 := hw
  refine lv_if_ne (tgt := 20) hx hb dX12_fold_10 (by decide) (fun c_10 => ?_) (fun c_10 => ?_)
  · exact absurd c_10 (by decide)
  · refine lv_aload_n hx hb dX12_fold_13 rfl (lv_at hl 0 rfl) ?_
    refine lv_iconst (v := 1) hx hb dX12_fold_14 (by decide) ?_
    have hPc := hP.sub (ws' := [(g0, .inr (11, mF a 0 0 1000 0))]) [0] rfl
    have hDc := hD.sub (ws' := [(g0, .inr (11, mF a 0 0 1000 0))]) [0] (by decide) rfl
    have hKc := hK.sub (tys' := []) [] rfl
    have hFc := va_free (wc := [(g0, .inr (11, mF a 0 0 1000 0))]) hD hS hA [0] rfl
    refine va_calli (va_runV (As := [.int 1]) (rest := []) ⟨hx, hb, hml, hown, hts⟩ (c_X12_fail l dC dI a g0 0 0 1000 0 1 H.size) (cwV 1 hts hX12f_fold rfl rfl rfl (by decide +kernel) ⟨Nat.le_of_ble_eq_true rfl, Nat.le_of_ble_eq_true rfl⟩) ⟨fun a U g mk q => by obtain ⟨q0, q1, qP, qK, qD⟩ := q; exact ⟨q0, q1, qP, va_K.moved (u := U) (U := U.calling g mk a) (Vm.Alike.refl U.vm) qK, qD⟩, va_recv hKc hPc (ci := 11) (q0 := 0) rfl rfl, fun U hU hW => ⟨rfl, by rw [hU], by rw [hU]; exact hPc, va_K.moved hW.alike hKc, hDc.weaken (fun _ _ _ _ => trivial)⟩⟩ rfl rfl hl.1 rfl (lv_room (Nat.le_of_ble_eq_true rfl)) dX12_fold_15 ⟨Nat.le_of_ble_eq_true rfl, Nat.le_of_ble_eq_true rfl⟩) hS (fun q _ h => hFc q h) hFc (fun r_3 u_4 t H1 locs ht hvm hw hB hz1 hk1 hS => ?_)
    obtain ⟨hP1, hK1, hD1⟩ := hB
    rw [ht] at hP1
    have hK1 := va_K.moved hvm.symm hK1
    have hK := hK.app hK1
    obtain ⟨hP, hD⟩ := va_join (wr := []) (w1 := [(g0, .inr (11, mF a 0 0 1000 1))]) hP hD [0] [] rfl rfl (by decide) (by decide) hk1 hFc hP1 hD1
    generalize H1 = H at hP hS ⊢
    have hP : va_P (dC, dI) vwCl [(g0, .inr (11, mF a 0 0 1000 1))] H := hP
    have hD : va_D A [(g0, .inr (11, mF a 0 0 1000 1))] := hD
    have hK : va_K (dC, dI) vwCl [] s := hK
    refine W.widen (k := 0) (n := 0) (by decide +kernel) (by decide +kernel) ?_
    obtain rfl : r_3 = 0 := hw
    refine lv_i2l (v := 0) hx hb dX12_fold_18 (by decide) ?_
    refine W.widen (k := 0) (n := 0) (by decide +kernel) (by decide +kernel) ?_
    have hP9 := hP.sub (ws' := [(g0, .inr (11, mF a 0 0 1000 1))]) [0] rfl
    have hD9 := hD.sub (ws' := [(g0, .inr (11, mF a 0 0 1000 1))]) [0] (by decide) rfl
    have hK9 := hK.sub (tys' := []) [] rfl
    exact W.lret (v := 0) hx hb hr (fun t ht hW => ⟨⟨0, (0, 0, 1000, 1), rfl, rfl, by rw [ht]; exact hP9, va_K.moved hW.alike hK9, hD9⟩, hS.F ht⟩) hS.2.2 dX12_fold_19
set_option maxHeartbeats 4000000 in
set_option maxRecDepth 100000 in
theorem c_X12_find (l : Launch) (dC : Nat → ClassId) (dI : Nat → Nat → Nat) (a : Nat → Nat) (g0 : Nat) (p0 : Int32) (p1 : Int32) (p2 : Int64) (sz : Nat) : Met l yX12_find vsX12_find ({ frames := 20, cells := 0, slots := 0, locals := 600 }) (va_Pc [.ref g0, .int p0, .int p1, .long p2] (fun U => U.heap.size = sz ∧ va_P (dC, dI) vwCl [(g0, .inr (11, mF a 0 0 1000 0))] U.heap ∧ va_K (dC, dI) vwCl [] U ∧ va_D (fun _ => True) [(g0, .inr (11, mF a 0 0 1000 0))])) (va_Ql (fun (r : Int64) (u : Int32 × Int32 × Int32 × Int32) => u.2.2.2 = 1) (fun (u : Int32 × Int32 × Int32 × Int32) (t : State) => va_P (dC, dI) vwCl [(g0, .inr (11, mF a u.1 u.2.1 u.2.2.1 u.2.2.2))] t.heap ∧ va_K (dC, dI) vwCl [] t ∧ va_D (va_A [(g0, .inr (11, mF a 0 0 1000 0))] sz) [(g0, .inr (11, mF a u.1 u.2.1 u.2.2.1 u.2.2.2))]) (va_A [(g0, .inr (11, mF a 0 0 1000 0))] sz)) 0 0 (va_A [(g0, .inr (11, mF a 0 0 1000 0))] sz) := by
  refine Met.ofW (cc := cX12_find) (maxL := 7) (ret := (some .long)) (by decide) rfl ?_
  intro p e s m args below meth c s₁ B hml hv
  obtain ⟨rfl, hsz, hP, hK, hD0⟩ := hv
  have hx := B.exec
  have hb := B.bytes
  have hr := B.returns
  have hts := atoms_spec (ws := vsX12_find) B.pre
  have hown : s.vm.findClass RX12 = some m.cls := findClass_of_methodNamed B.named
  have hlocks := B.notSynchronized
  subst hsz
  have hD := hD0.self (sz := s.heap.size)
  generalize hAe : va_A [(g0, .inr (11, mF a 0 0 1000 0))] s.heap.size = A at hD ⊢
  have hA : ∀ q : Nat, s.heap.size ≤ q → A q := fun q h => by rw [← hAe]; exact Or.inr h
  generalize hH : s.heap = H at hP ⊢
  have hS : va_S A s.heap H [] := by rw [← hH]; exact va_S.rf
  have hl := lv_entry [.ref g0, .int p0, .int p1, .long p2] (n := 7) (Nat.le_of_ble_eq_true rfl)
  rw [lg_entry_eq]
  generalize (lg_sl [.ref g0, .int p0, .int p1, .long p2] ++ List.replicate (7 - (lg_sl [.ref g0, .int p0, .int p1, .long p2]).length) Slot.unset).toArray = ls at hl ⊢
  have hl : lv_has ls 7 [(0, .ref g0), (1, .int p0), (2, .int p1), (3, .long p2)] := hl
  have hP : va_P (dC, dI) vwCl [(g0, .inr (11, mF a 0 0 1000 0))] H := hP
  refine lv_aload_n hx hb dX12_find_0 rfl (lv_at hl 0 rfl) ?_
  refine lv_iconst (v := 0) hx hb dX12_find_1 (by decide) ?_
  refine va_put (D := (dC, dI)) (ci := 11) (v := .int 0) (ty := .int) (C := RX12) (T := TX12) (N := 32) hx hb hts (by decide +kernel) tyX12 tyX12_ok nmX12 hown hK hP hD hS 0 rfl rfl 19 (by decide) (hts (.fieldLink RX12 63 "NeededListsModel" "thrown" "I") (by decide +kernel)) (fun _ h9 => h9) rfl (by decide +kernel) rfl rfl (Nat.le_of_ble_eq_true rfl) dX12_find_2 (fun H locs hP hD hS => ?_)
  have hP : va_P (dC, dI) vwCl [(g0, .inr (11, mF a 0 0 1000 0))] H := hP
  have hD : va_D A [(g0, .inr (11, mF a 0 0 1000 0))] := hD
  refine lv_aload_n hx hb dX12_find_5 rfl (lv_at hl 0 rfl) ?_
  refine lv_iload_n hx hb dX12_find_6 rfl (lv_at hl 1 rfl) ?_
  have hPc := hP.sub (ws' := [(g0, .inr (11, mF a 0 0 1000 0))]) [0] rfl
  have hDc : va_D (fun _ => True) ([] : va_W) := nd_0
  have hKc := hK.sub (tys' := []) [] rfl
  have hFc := va_free (wc := []) hD hS hA [] rfl
  refine va_calli (va_runV (As := [.int p0]) (rest := []) ⟨hx, hb, hml, hown, hts⟩ (c_X12_isList l dC dI a g0 0 1000 0 p0 H.size) (cwV 1 hts hX12i_find rfl rfl rfl (by decide +kernel) ⟨Nat.le_of_ble_eq_true rfl, Nat.le_of_ble_eq_true rfl⟩) ⟨fun a U g mk q => by obtain ⟨q0, q1, qP, qK, qD⟩ := q; exact ⟨q0, q1, qP, va_K.moved (u := U) (U := U.calling g mk a) (Vm.Alike.refl U.vm) qK, qD⟩, va_recv hKc hPc (ci := 11) (q0 := 0) rfl rfl, fun U hU hW => ⟨rfl, by rw [hU], by rw [hU]; exact hPc, va_K.moved hW.alike hKc, nd_0⟩⟩ rfl rfl hl.1 rfl (lv_room (Nat.le_of_ble_eq_true rfl)) dX12_find_7 ⟨Nat.le_of_ble_eq_true rfl, Nat.le_of_ble_eq_true rfl⟩) hS (fun q _ h => hFc q h) hFc (fun r_1 u_2 t H1 locs ht hvm hw hB hz1 hk1 hS => ?_)
  have hP := nd_keep hP hk1
  generalize H1 = H at hP hS ⊢
  have hP : va_P (dC, dI) vwCl [(g0, .inr (11, mF a 0 0 1000 0))] H := hP
  have hD : va_D A [(g0, .inr (11, mF a 0 0 1000 0))] := hD
  refine W.widen (k := 0) (n := 0) (by decide +kernel) (by decide +kernel) ?_
  obtain rfl : r_1 = 0 := hw
  refine lv_if_ne (tgt := 20) hx hb dX12_find_10 (by decide) (fun c_10 => ?_) (fun c_10 => ?_)
  · exact absurd c_10 (by decide)
  · refine lv_aload_n hx hb dX12_find_13 rfl (lv_at hl 0 rfl) ?_
    refine lv_iconst (v := 1) hx hb dX12_find_14 (by decide) ?_
    have hPc := hP.sub (ws' := [(g0, .inr (11, mF a 0 0 1000 0))]) [0] rfl
    have hDc := hD.sub (ws' := [(g0, .inr (11, mF a 0 0 1000 0))]) [0] (by decide) rfl
    have hKc := hK.sub (tys' := []) [] rfl
    have hFc := va_free (wc := [(g0, .inr (11, mF a 0 0 1000 0))]) hD hS hA [0] rfl
    refine va_calli (va_runV (As := [.int 1]) (rest := []) ⟨hx, hb, hml, hown, hts⟩ (c_X12_fail l dC dI a g0 0 0 1000 0 1 H.size) (cwV 1 hts hX12f_find rfl rfl rfl (by decide +kernel) ⟨Nat.le_of_ble_eq_true rfl, Nat.le_of_ble_eq_true rfl⟩) ⟨fun a U g mk q => by obtain ⟨q0, q1, qP, qK, qD⟩ := q; exact ⟨q0, q1, qP, va_K.moved (u := U) (U := U.calling g mk a) (Vm.Alike.refl U.vm) qK, qD⟩, va_recv hKc hPc (ci := 11) (q0 := 0) rfl rfl, fun U hU hW => ⟨rfl, by rw [hU], by rw [hU]; exact hPc, va_K.moved hW.alike hKc, hDc.weaken (fun _ _ _ _ => trivial)⟩⟩ rfl rfl hl.1 rfl (lv_room (Nat.le_of_ble_eq_true rfl)) dX12_find_15 ⟨Nat.le_of_ble_eq_true rfl, Nat.le_of_ble_eq_true rfl⟩) hS (fun q _ h => hFc q h) hFc (fun r_3 u_4 t H1 locs ht hvm hw hB hz1 hk1 hS => ?_)
    obtain ⟨hP1, hK1, hD1⟩ := hB
    rw [ht] at hP1
    have hK1 := va_K.moved hvm.symm hK1
    have hK := hK.app hK1
    obtain ⟨hP, hD⟩ := va_join (wr := []) (w1 := [(g0, .inr (11, mF a 0 0 1000 1))]) hP hD [0] [] rfl rfl (by decide) (by decide) hk1 hFc hP1 hD1
    generalize H1 = H at hP hS ⊢
    have hP : va_P (dC, dI) vwCl [(g0, .inr (11, mF a 0 0 1000 1))] H := hP
    have hD : va_D A [(g0, .inr (11, mF a 0 0 1000 1))] := hD
    have hK : va_K (dC, dI) vwCl [] s := hK
    refine W.widen (k := 0) (n := 0) (by decide +kernel) (by decide +kernel) ?_
    obtain rfl : r_3 = 0 := hw
    refine lv_i2l (v := 0) hx hb dX12_find_18 (by decide) ?_
    refine W.widen (k := 0) (n := 0) (by decide +kernel) (by decide +kernel) ?_
    have hP9 := hP.sub (ws' := [(g0, .inr (11, mF a 0 0 1000 1))]) [0] rfl
    have hD9 := hD.sub (ws' := [(g0, .inr (11, mF a 0 0 1000 1))]) [0] (by decide) rfl
    have hK9 := hK.sub (tys' := []) [] rfl
    exact W.lret (v := 0) hx hb hr (fun t ht hW => ⟨⟨0, (0, 0, 1000, 1), rfl, rfl, by rw [ht]; exact hP9, va_K.moved hW.alike hK9, hD9⟩, hS.F ht⟩) hS.2.2 dX12_find_19
set_option maxHeartbeats 4000000 in
set_option maxRecDepth 100000 in
theorem c_X12_last (l : Launch) (dC : Nat → ClassId) (dI : Nat → Nat → Nat) (a : Nat → Nat) (g0 : Nat) (p0 : Int32) (sz : Nat) : Met l yX12_last vsX12_last ({ frames := 20, cells := 0, slots := 0, locals := 600 }) (va_Pc [.ref g0, .int p0] (fun U => U.heap.size = sz ∧ va_P (dC, dI) vwCl [(g0, .inr (11, mF a 0 0 1000 0))] U.heap ∧ va_K (dC, dI) vwCl [] U ∧ va_D (fun _ => True) [(g0, .inr (11, mF a 0 0 1000 0))])) (va_Ql (fun (r : Int64) (u : Int32 × Int32 × Int32 × Int32) => u.2.2.2 = 1) (fun (u : Int32 × Int32 × Int32 × Int32) (t : State) => va_P (dC, dI) vwCl [(g0, .inr (11, mF a u.1 u.2.1 u.2.2.1 u.2.2.2))] t.heap ∧ va_K (dC, dI) vwCl [] t ∧ va_D (va_A [(g0, .inr (11, mF a 0 0 1000 0))] sz) [(g0, .inr (11, mF a u.1 u.2.1 u.2.2.1 u.2.2.2))]) (va_A [(g0, .inr (11, mF a 0 0 1000 0))] sz)) 0 0 (va_A [(g0, .inr (11, mF a 0 0 1000 0))] sz) := by
  refine Met.ofW (cc := cX12_last) (maxL := 4) (ret := (some .long)) (by decide) rfl ?_
  intro p e s m args below meth c s₁ B hml hv
  obtain ⟨rfl, hsz, hP, hK, hD0⟩ := hv
  have hx := B.exec
  have hb := B.bytes
  have hr := B.returns
  have hts := atoms_spec (ws := vsX12_last) B.pre
  have hown : s.vm.findClass RX12 = some m.cls := findClass_of_methodNamed B.named
  have hlocks := B.notSynchronized
  subst hsz
  have hD := hD0.self (sz := s.heap.size)
  generalize hAe : va_A [(g0, .inr (11, mF a 0 0 1000 0))] s.heap.size = A at hD ⊢
  have hA : ∀ q : Nat, s.heap.size ≤ q → A q := fun q h => by rw [← hAe]; exact Or.inr h
  generalize hH : s.heap = H at hP ⊢
  have hS : va_S A s.heap H [] := by rw [← hH]; exact va_S.rf
  have hl := lv_entry [.ref g0, .int p0] (n := 4) (Nat.le_of_ble_eq_true rfl)
  rw [lg_entry_eq]
  generalize (lg_sl [.ref g0, .int p0] ++ List.replicate (4 - (lg_sl [.ref g0, .int p0]).length) Slot.unset).toArray = ls at hl ⊢
  have hl : lv_has ls 4 [(0, .ref g0), (1, .int p0)] := hl
  have hP : va_P (dC, dI) vwCl [(g0, .inr (11, mF a 0 0 1000 0))] H := hP
  refine lv_aload_n hx hb dX12_last_0 rfl (lv_at hl 0 rfl) ?_
  refine lv_iconst (v := 0) hx hb dX12_last_1 (by decide) ?_
  refine va_put (D := (dC, dI)) (ci := 11) (v := .int 0) (ty := .int) (C := RX12) (T := TX12) (N := 32) hx hb hts (by decide +kernel) tyX12 tyX12_ok nmX12 hown hK hP hD hS 0 rfl rfl 19 (by decide) (hts (.fieldLink RX12 63 "NeededListsModel" "thrown" "I") (by decide +kernel)) (fun _ h9 => h9) rfl (by decide +kernel) rfl rfl (Nat.le_of_ble_eq_true rfl) dX12_last_2 (fun H locs hP hD hS => ?_)
  have hP : va_P (dC, dI) vwCl [(g0, .inr (11, mF a 0 0 1000 0))] H := hP
  have hD : va_D A [(g0, .inr (11, mF a 0 0 1000 0))] := hD
  refine lv_aload_n hx hb dX12_last_5 rfl (lv_at hl 0 rfl) ?_
  refine lv_iload_n hx hb dX12_last_6 rfl (lv_at hl 1 rfl) ?_
  have hPc := hP.sub (ws' := [(g0, .inr (11, mF a 0 0 1000 0))]) [0] rfl
  have hDc : va_D (fun _ => True) ([] : va_W) := nd_0
  have hKc := hK.sub (tys' := []) [] rfl
  have hFc := va_free (wc := []) hD hS hA [] rfl
  refine va_calli (va_runV (As := [.int p0]) (rest := []) ⟨hx, hb, hml, hown, hts⟩ (c_X12_isList l dC dI a g0 0 1000 0 p0 H.size) (cwV 1 hts hX12i_last rfl rfl rfl (by decide +kernel) ⟨Nat.le_of_ble_eq_true rfl, Nat.le_of_ble_eq_true rfl⟩) ⟨fun a U g mk q => by obtain ⟨q0, q1, qP, qK, qD⟩ := q; exact ⟨q0, q1, qP, va_K.moved (u := U) (U := U.calling g mk a) (Vm.Alike.refl U.vm) qK, qD⟩, va_recv hKc hPc (ci := 11) (q0 := 0) rfl rfl, fun U hU hW => ⟨rfl, by rw [hU], by rw [hU]; exact hPc, va_K.moved hW.alike hKc, nd_0⟩⟩ rfl rfl hl.1 rfl (lv_room (Nat.le_of_ble_eq_true rfl)) dX12_last_7 ⟨Nat.le_of_ble_eq_true rfl, Nat.le_of_ble_eq_true rfl⟩) hS (fun q _ h => hFc q h) hFc (fun r_1 u_2 t H1 locs ht hvm hw hB hz1 hk1 hS => ?_)
  have hP := nd_keep hP hk1
  generalize H1 = H at hP hS ⊢
  have hP : va_P (dC, dI) vwCl [(g0, .inr (11, mF a 0 0 1000 0))] H := hP
  have hD : va_D A [(g0, .inr (11, mF a 0 0 1000 0))] := hD
  refine W.widen (k := 0) (n := 0) (by decide +kernel) (by decide +kernel) ?_
  obtain rfl : r_1 = 0 := hw
  refine lv_if_ne (tgt := 20) hx hb dX12_last_10 (by decide) (fun c_10 => ?_) (fun c_10 => ?_)
  · exact absurd c_10 (by decide)
  · refine lv_aload_n hx hb dX12_last_13 rfl (lv_at hl 0 rfl) ?_
    refine lv_iconst (v := 1) hx hb dX12_last_14 (by decide) ?_
    have hPc := hP.sub (ws' := [(g0, .inr (11, mF a 0 0 1000 0))]) [0] rfl
    have hDc := hD.sub (ws' := [(g0, .inr (11, mF a 0 0 1000 0))]) [0] (by decide) rfl
    have hKc := hK.sub (tys' := []) [] rfl
    have hFc := va_free (wc := [(g0, .inr (11, mF a 0 0 1000 0))]) hD hS hA [0] rfl
    refine va_calli (va_runV (As := [.int 1]) (rest := []) ⟨hx, hb, hml, hown, hts⟩ (c_X12_fail l dC dI a g0 0 0 1000 0 1 H.size) (cwV 1 hts hX12f_last rfl rfl rfl (by decide +kernel) ⟨Nat.le_of_ble_eq_true rfl, Nat.le_of_ble_eq_true rfl⟩) ⟨fun a U g mk q => by obtain ⟨q0, q1, qP, qK, qD⟩ := q; exact ⟨q0, q1, qP, va_K.moved (u := U) (U := U.calling g mk a) (Vm.Alike.refl U.vm) qK, qD⟩, va_recv hKc hPc (ci := 11) (q0 := 0) rfl rfl, fun U hU hW => ⟨rfl, by rw [hU], by rw [hU]; exact hPc, va_K.moved hW.alike hKc, hDc.weaken (fun _ _ _ _ => trivial)⟩⟩ rfl rfl hl.1 rfl (lv_room (Nat.le_of_ble_eq_true rfl)) dX12_last_15 ⟨Nat.le_of_ble_eq_true rfl, Nat.le_of_ble_eq_true rfl⟩) hS (fun q _ h => hFc q h) hFc (fun r_3 u_4 t H1 locs ht hvm hw hB hz1 hk1 hS => ?_)
    obtain ⟨hP1, hK1, hD1⟩ := hB
    rw [ht] at hP1
    have hK1 := va_K.moved hvm.symm hK1
    have hK := hK.app hK1
    obtain ⟨hP, hD⟩ := va_join (wr := []) (w1 := [(g0, .inr (11, mF a 0 0 1000 1))]) hP hD [0] [] rfl rfl (by decide) (by decide) hk1 hFc hP1 hD1
    generalize H1 = H at hP hS ⊢
    have hP : va_P (dC, dI) vwCl [(g0, .inr (11, mF a 0 0 1000 1))] H := hP
    have hD : va_D A [(g0, .inr (11, mF a 0 0 1000 1))] := hD
    have hK : va_K (dC, dI) vwCl [] s := hK
    refine W.widen (k := 0) (n := 0) (by decide +kernel) (by decide +kernel) ?_
    obtain rfl : r_3 = 0 := hw
    refine lv_i2l (v := 0) hx hb dX12_last_18 (by decide) ?_
    refine W.widen (k := 0) (n := 0) (by decide +kernel) (by decide +kernel) ?_
    have hP9 := hP.sub (ws' := [(g0, .inr (11, mF a 0 0 1000 1))]) [0] rfl
    have hD9 := hD.sub (ws' := [(g0, .inr (11, mF a 0 0 1000 1))]) [0] (by decide) rfl
    have hK9 := hK.sub (tys' := []) [] rfl
    exact W.lret (v := 0) hx hb hr (fun t ht hW => ⟨⟨0, (0, 0, 1000, 1), rfl, rfl, by rw [ht]; exact hP9, va_K.moved hW.alike hK9, hD9⟩, hS.F ht⟩) hS.2.2 dX12_last_19
set_option maxHeartbeats 4000000 in
set_option maxRecDepth 100000 in
theorem c_X12_some (l : Launch) (dC : Nat → ClassId) (dI : Nat → Nat → Nat) (a : Nat → Nat) (g0 : Nat) (p0 : Int32) (p1 : Int32) (p2 : Int32) (sz : Nat) : Met l yX12_some wsX12_some ({ frames := 20, cells := 0, slots := 0, locals := 600 }) (va_Pc [.ref g0, .int p0, .int p1, .int p2] (fun U => U.heap.size = sz ∧ va_P (dC, dI) vwCl [(g0, .inr (11, mF a 0 0 1000 0))] U.heap ∧ va_K (dC, dI) vwCl [] U ∧ va_D (fun _ => True) [(g0, .inr (11, mF a 0 0 1000 0))])) (va_Qi (fun (r : Int32) (_ : Unit) => r = 0) (fun (u : Unit) (t : State) => va_P (dC, dI) vwCl [(g0, .inr (11, mF a 0 0 1000 1))] t.heap ∧ va_K (dC, dI) vwCl [] t ∧ va_D (va_A [(g0, .inr (11, mF a 0 0 1000 0))] sz) [(g0, .inr (11, mF a 0 0 1000 1))]) (va_A [(g0, .inr (11, mF a 0 0 1000 0))] sz)) 0 0 (va_A [(g0, .inr (11, mF a 0 0 1000 0))] sz) := by
  refine Met.ofW (cc := cX12_some) (maxL := 4) (ret := (some .int)) (by decide) rfl ?_
  intro p e s m args below meth c s₁ B hml hv
  obtain ⟨rfl, hsz, hP, hK, hD0⟩ := hv
  have hx := B.exec
  have hb := B.bytes
  have hr := B.returns
  have hts := atoms_spec (ws := wsX12_some) B.pre
  have hown : s.vm.findClass RX12 = some m.cls := findClass_of_methodNamed B.named
  have hlocks := B.notSynchronized
  subst hsz
  have hD := hD0.self (sz := s.heap.size)
  generalize hAe : va_A [(g0, .inr (11, mF a 0 0 1000 0))] s.heap.size = A at hD ⊢
  have hA : ∀ q : Nat, s.heap.size ≤ q → A q := fun q h => by rw [← hAe]; exact Or.inr h
  generalize hH : s.heap = H at hP ⊢
  have hS : va_S A s.heap H [] := by rw [← hH]; exact va_S.rf
  have hl := lv_entry [.ref g0, .int p0, .int p1, .int p2] (n := 4) (Nat.le_of_ble_eq_true rfl)
  rw [lg_entry_eq]
  generalize (lg_sl [.ref g0, .int p0, .int p1, .int p2] ++ List.replicate (4 - (lg_sl [.ref g0, .int p0, .int p1, .int p2]).length) Slot.unset).toArray = ls at hl ⊢
  have hl : lv_has ls 4 [(0, .ref g0), (1, .int p0), (2, .int p1), (3, .int p2)] := hl
  have hP : va_P (dC, dI) vwCl [(g0, .inr (11, mF a 0 0 1000 0))] H := hP
  refine lv_aload_n hx hb dX12_some_0 rfl (lv_at hl 0 rfl) ?_
  refine lv_iload_n hx hb dX12_some_1 rfl (lv_at hl 2 rfl) ?_
  have hPc := hP.sub (ws' := [(g0, .inr (11, mF a 0 0 1000 0))]) [0] rfl
  have hDc : va_D (fun _ => True) ([] : va_W) := nd_0
  have hKc := hK.sub (tys' := []) [] rfl
  have hFc := va_free (wc := []) hD hS hA [] rfl
  refine va_calli (va_runV (As := [.int p1]) (rest := []) ⟨hx, hb, hml, hown, hts⟩ (c_X12_isList l dC dI a g0 0 1000 0 p1 H.size) (cwV 1 hts gX12_some_X12_isList rfl rfl rfl (by decide +kernel) ⟨Nat.le_of_ble_eq_true rfl, Nat.le_of_ble_eq_true rfl⟩) ⟨fun a U g mk q => by obtain ⟨q0, q1, qP, qK, qD⟩ := q; exact ⟨q0, q1, qP, va_K.moved (u := U) (U := U.calling g mk a) (Vm.Alike.refl U.vm) qK, qD⟩, va_recv hKc hPc (ci := 11) (q0 := 0) rfl rfl, fun U hU hW => ⟨rfl, by rw [hU], by rw [hU]; exact hPc, va_K.moved hW.alike hKc, nd_0⟩⟩ rfl rfl hl.1 rfl (lv_room (Nat.le_of_ble_eq_true rfl)) dX12_some_2 ⟨Nat.le_of_ble_eq_true rfl, Nat.le_of_ble_eq_true rfl⟩) hS (fun q _ h => hFc q h) hFc (fun r_1 u_2 t H1 locs ht hvm hw hB hz1 hk1 hS => ?_)
  have hP := nd_keep hP hk1
  generalize H1 = H at hP hS ⊢
  have hP : va_P (dC, dI) vwCl [(g0, .inr (11, mF a 0 0 1000 0))] H := hP
  have hD : va_D A [(g0, .inr (11, mF a 0 0 1000 0))] := hD
  refine W.widen (k := 0) (n := 0) (by decide +kernel) (by decide +kernel) ?_
  obtain rfl : r_1 = 0 := hw
  refine lv_if_ne (tgt := 14) hx hb dX12_some_5 (by decide) (fun c_5 => ?_) (fun c_5 => ?_)
  · exact absurd c_5 (by decide)
  · refine lv_aload_n hx hb dX12_some_8 rfl (lv_at hl 0 rfl) ?_
    refine lv_iconst (v := 1) hx hb dX12_some_9 (by decide) ?_
    have hPc := hP.sub (ws' := [(g0, .inr (11, mF a 0 0 1000 0))]) [0] rfl
    have hDc := hD.sub (ws' := [(g0, .inr (11, mF a 0 0 1000 0))]) [0] (by decide) rfl
    have hKc := hK.sub (tys' := []) [] rfl
    have hFc := va_free (wc := [(g0, .inr (11, mF a 0 0 1000 0))]) hD hS hA [0] rfl
    refine va_calli (va_runV (As := [.int 1]) (rest := []) ⟨hx, hb, hml, hown, hts⟩ (c_X12_fail l dC dI a g0 0 0 1000 0 1 H.size) (cwV 1 hts gX12_some_X12_fail rfl rfl rfl (by decide +kernel) ⟨Nat.le_of_ble_eq_true rfl, Nat.le_of_ble_eq_true rfl⟩) ⟨fun a U g mk q => by obtain ⟨q0, q1, qP, qK, qD⟩ := q; exact ⟨q0, q1, qP, va_K.moved (u := U) (U := U.calling g mk a) (Vm.Alike.refl U.vm) qK, qD⟩, va_recv hKc hPc (ci := 11) (q0 := 0) rfl rfl, fun U hU hW => ⟨rfl, by rw [hU], by rw [hU]; exact hPc, va_K.moved hW.alike hKc, hDc.weaken (fun _ _ _ _ => trivial)⟩⟩ rfl rfl hl.1 rfl (lv_room (Nat.le_of_ble_eq_true rfl)) dX12_some_10 ⟨Nat.le_of_ble_eq_true rfl, Nat.le_of_ble_eq_true rfl⟩) hS (fun q _ h => hFc q h) hFc (fun r_3 u_4 t H1 locs ht hvm hw hB hz1 hk1 hS => ?_)
    obtain ⟨hP1, hK1, hD1⟩ := hB
    rw [ht] at hP1
    have hK1 := va_K.moved hvm.symm hK1
    have hK := hK.app hK1
    obtain ⟨hP, hD⟩ := va_join (wr := []) (w1 := [(g0, .inr (11, mF a 0 0 1000 1))]) hP hD [0] [] rfl rfl (by decide) (by decide) hk1 hFc hP1 hD1
    generalize H1 = H at hP hS ⊢
    have hP : va_P (dC, dI) vwCl [(g0, .inr (11, mF a 0 0 1000 1))] H := hP
    have hD : va_D A [(g0, .inr (11, mF a 0 0 1000 1))] := hD
    have hK : va_K (dC, dI) vwCl [] s := hK
    refine W.widen (k := 0) (n := 0) (by decide +kernel) (by decide +kernel) ?_
    obtain rfl : r_3 = 0 := hw
    refine W.widen (k := 0) (n := 0) (by decide +kernel) (by decide +kernel) ?_
    have hP9 := hP.sub (ws' := [(g0, .inr (11, mF a 0 0 1000 1))]) [0] rfl
    have hD9 := hD.sub (ws' := [(g0, .inr (11, mF a 0 0 1000 1))]) [0] (by decide) rfl
    have hK9 := hK.sub (tys' := []) [] rfl
    exact W.iret (v := 0) hx hb hr (fun t ht hW => ⟨⟨0, (), rfl, rfl, by rw [ht]; exact hP9, va_K.moved hW.alike hK9, hD9⟩, hS.F ht⟩) hS.2.2 dX12_some_13
set_option maxHeartbeats 4000000 in
set_option maxRecDepth 100000 in
theorem c_X12_by (l : Launch) (dC : Nat → ClassId) (dI : Nat → Nat → Nat) (a : Nat → Nat) (g0 : Nat) (p0 : Int32) (p1 : Int32) (p2 : Int32) (p3 : Int64) (sz : Nat) : Met l yX12_by wsX12_by ({ frames := 20, cells := 0, slots := 0, locals := 600 }) (va_Pc [.ref g0, .int p0, .int p1, .int p2, .long p3] (fun U => U.heap.size = sz ∧ va_P (dC, dI) vwCl [(g0, .inr (11, mF a 0 0 1000 0))] U.heap ∧ va_K (dC, dI) vwCl [] U ∧ va_D (fun _ => True) [(g0, .inr (11, mF a 0 0 1000 0))])) (va_Qi (fun (r : Int32) (_ : Unit) => r = 0) (fun (u : Unit) (t : State) => va_P (dC, dI) vwCl [(g0, .inr (11, mF a 0 0 1000 1))] t.heap ∧ va_K (dC, dI) vwCl [] t ∧ va_D (va_A [(g0, .inr (11, mF a 0 0 1000 0))] sz) [(g0, .inr (11, mF a 0 0 1000 1))]) (va_A [(g0, .inr (11, mF a 0 0 1000 0))] sz)) 0 0 (va_A [(g0, .inr (11, mF a 0 0 1000 0))] sz) := by
  refine Met.ofW (cc := cX12_by) (maxL := 6) (ret := (some .int)) (by decide) rfl ?_
  intro p e s m args below meth c s₁ B hml hv
  obtain ⟨rfl, hsz, hP, hK, hD0⟩ := hv
  have hx := B.exec
  have hb := B.bytes
  have hr := B.returns
  have hts := atoms_spec (ws := wsX12_by) B.pre
  have hown : s.vm.findClass RX12 = some m.cls := findClass_of_methodNamed B.named
  have hlocks := B.notSynchronized
  subst hsz
  have hD := hD0.self (sz := s.heap.size)
  generalize hAe : va_A [(g0, .inr (11, mF a 0 0 1000 0))] s.heap.size = A at hD ⊢
  have hA : ∀ q : Nat, s.heap.size ≤ q → A q := fun q h => by rw [← hAe]; exact Or.inr h
  generalize hH : s.heap = H at hP ⊢
  have hS : va_S A s.heap H [] := by rw [← hH]; exact va_S.rf
  have hl := lv_entry [.ref g0, .int p0, .int p1, .int p2, .long p3] (n := 6) (Nat.le_of_ble_eq_true rfl)
  rw [lg_entry_eq]
  generalize (lg_sl [.ref g0, .int p0, .int p1, .int p2, .long p3] ++ List.replicate (6 - (lg_sl [.ref g0, .int p0, .int p1, .int p2, .long p3]).length) Slot.unset).toArray = ls at hl ⊢
  have hl : lv_has ls 6 [(0, .ref g0), (1, .int p0), (2, .int p1), (3, .int p2), (4, .long p3)] := hl
  have hP : va_P (dC, dI) vwCl [(g0, .inr (11, mF a 0 0 1000 0))] H := hP
  refine lv_aload_n hx hb dX12_by_0 rfl (lv_at hl 0 rfl) ?_
  refine lv_iload_n hx hb dX12_by_1 rfl (lv_at hl 2 rfl) ?_
  have hPc := hP.sub (ws' := [(g0, .inr (11, mF a 0 0 1000 0))]) [0] rfl
  have hDc : va_D (fun _ => True) ([] : va_W) := nd_0
  have hKc := hK.sub (tys' := []) [] rfl
  have hFc := va_free (wc := []) hD hS hA [] rfl
  refine va_calli (va_runV (As := [.int p1]) (rest := []) ⟨hx, hb, hml, hown, hts⟩ (c_X12_isList l dC dI a g0 0 1000 0 p1 H.size) (cwV 1 hts gX12_by_X12_isList rfl rfl rfl (by decide +kernel) ⟨Nat.le_of_ble_eq_true rfl, Nat.le_of_ble_eq_true rfl⟩) ⟨fun a U g mk q => by obtain ⟨q0, q1, qP, qK, qD⟩ := q; exact ⟨q0, q1, qP, va_K.moved (u := U) (U := U.calling g mk a) (Vm.Alike.refl U.vm) qK, qD⟩, va_recv hKc hPc (ci := 11) (q0 := 0) rfl rfl, fun U hU hW => ⟨rfl, by rw [hU], by rw [hU]; exact hPc, va_K.moved hW.alike hKc, nd_0⟩⟩ rfl rfl hl.1 rfl (lv_room (Nat.le_of_ble_eq_true rfl)) dX12_by_2 ⟨Nat.le_of_ble_eq_true rfl, Nat.le_of_ble_eq_true rfl⟩) hS (fun q _ h => hFc q h) hFc (fun r_1 u_2 t H1 locs ht hvm hw hB hz1 hk1 hS => ?_)
  have hP := nd_keep hP hk1
  generalize H1 = H at hP hS ⊢
  have hP : va_P (dC, dI) vwCl [(g0, .inr (11, mF a 0 0 1000 0))] H := hP
  have hD : va_D A [(g0, .inr (11, mF a 0 0 1000 0))] := hD
  refine W.widen (k := 0) (n := 0) (by decide +kernel) (by decide +kernel) ?_
  obtain rfl : r_1 = 0 := hw
  refine lv_if_ne (tgt := 14) hx hb dX12_by_5 (by decide) (fun c_5 => ?_) (fun c_5 => ?_)
  · exact absurd c_5 (by decide)
  · refine lv_aload_n hx hb dX12_by_8 rfl (lv_at hl 0 rfl) ?_
    refine lv_iconst (v := 1) hx hb dX12_by_9 (by decide) ?_
    have hPc := hP.sub (ws' := [(g0, .inr (11, mF a 0 0 1000 0))]) [0] rfl
    have hDc := hD.sub (ws' := [(g0, .inr (11, mF a 0 0 1000 0))]) [0] (by decide) rfl
    have hKc := hK.sub (tys' := []) [] rfl
    have hFc := va_free (wc := [(g0, .inr (11, mF a 0 0 1000 0))]) hD hS hA [0] rfl
    refine va_calli (va_runV (As := [.int 1]) (rest := []) ⟨hx, hb, hml, hown, hts⟩ (c_X12_fail l dC dI a g0 0 0 1000 0 1 H.size) (cwV 1 hts gX12_by_X12_fail rfl rfl rfl (by decide +kernel) ⟨Nat.le_of_ble_eq_true rfl, Nat.le_of_ble_eq_true rfl⟩) ⟨fun a U g mk q => by obtain ⟨q0, q1, qP, qK, qD⟩ := q; exact ⟨q0, q1, qP, va_K.moved (u := U) (U := U.calling g mk a) (Vm.Alike.refl U.vm) qK, qD⟩, va_recv hKc hPc (ci := 11) (q0 := 0) rfl rfl, fun U hU hW => ⟨rfl, by rw [hU], by rw [hU]; exact hPc, va_K.moved hW.alike hKc, hDc.weaken (fun _ _ _ _ => trivial)⟩⟩ rfl rfl hl.1 rfl (lv_room (Nat.le_of_ble_eq_true rfl)) dX12_by_10 ⟨Nat.le_of_ble_eq_true rfl, Nat.le_of_ble_eq_true rfl⟩) hS (fun q _ h => hFc q h) hFc (fun r_3 u_4 t H1 locs ht hvm hw hB hz1 hk1 hS => ?_)
    obtain ⟨hP1, hK1, hD1⟩ := hB
    rw [ht] at hP1
    have hK1 := va_K.moved hvm.symm hK1
    have hK := hK.app hK1
    obtain ⟨hP, hD⟩ := va_join (wr := []) (w1 := [(g0, .inr (11, mF a 0 0 1000 1))]) hP hD [0] [] rfl rfl (by decide) (by decide) hk1 hFc hP1 hD1
    generalize H1 = H at hP hS ⊢
    have hP : va_P (dC, dI) vwCl [(g0, .inr (11, mF a 0 0 1000 1))] H := hP
    have hD : va_D A [(g0, .inr (11, mF a 0 0 1000 1))] := hD
    have hK : va_K (dC, dI) vwCl [] s := hK
    refine W.widen (k := 0) (n := 0) (by decide +kernel) (by decide +kernel) ?_
    obtain rfl : r_3 = 0 := hw
    refine W.widen (k := 0) (n := 0) (by decide +kernel) (by decide +kernel) ?_
    have hP9 := hP.sub (ws' := [(g0, .inr (11, mF a 0 0 1000 1))]) [0] rfl
    have hD9 := hD.sub (ws' := [(g0, .inr (11, mF a 0 0 1000 1))]) [0] (by decide) rfl
    have hK9 := hK.sub (tys' := []) [] rfl
    exact W.iret (v := 0) hx hb hr (fun t ht hW => ⟨⟨0, (), rfl, rfl, by rw [ht]; exact hP9, va_K.moved hW.alike hK9, hD9⟩, hS.F ht⟩) hS.2.2 dX12_by_13
set_option maxHeartbeats 4000000 in
set_option maxRecDepth 100000 in
theorem c_X12_take (l : Launch) (dC : Nat → ClassId) (dI : Nat → Nat → Nat) (a : Nat → Nat) (g0 : Nat) (p0 : Int32) (p1 : Int32) (sz : Nat) : Met l yX12_take wsX12_take ({ frames := 30, cells := 0, slots := 0, locals := 900 }) (va_Pc [.ref g0, .int p0, .int p1] (fun U => U.heap.size = sz ∧ va_P (dC, dI) vwCl [(g0, .inr (11, mF a 0 0 1000 0))] U.heap ∧ va_K (dC, dI) vwCl [] U ∧ va_D (fun _ => True) [(g0, .inr (11, mF a 0 0 1000 0))])) (va_Qi (fun (r : Int32) (u : Int32 × Int32 × Int32 × Int32) => u.2.2.2 = 1) (fun (u : Int32 × Int32 × Int32 × Int32) (t : State) => va_P (dC, dI) vwCl [(g0, .inr (11, mF a u.1 u.2.1 u.2.2.1 u.2.2.2))] t.heap ∧ va_K (dC, dI) vwCl [] t ∧ va_D (va_A [(g0, .inr (11, mF a 0 0 1000 0))] sz) [(g0, .inr (11, mF a u.1 u.2.1 u.2.2.1 u.2.2.2))]) (va_A [(g0, .inr (11, mF a 0 0 1000 0))] sz)) 0 0 (va_A [(g0, .inr (11, mF a 0 0 1000 0))] sz) := by
  refine Met.ofW (cc := cX12_take) (maxL := 3) (ret := (some .int)) (by decide) rfl ?_
  intro p e s m args below meth c s₁ B hml hv
  obtain ⟨rfl, hsz, hP, hK, hD0⟩ := hv
  have hx := B.exec
  have hb := B.bytes
  have hr := B.returns
  have hts := atoms_spec (ws := wsX12_take) B.pre
  have hown : s.vm.findClass RX12 = some m.cls := findClass_of_methodNamed B.named
  have hlocks := B.notSynchronized
  subst hsz
  have hD := hD0.self (sz := s.heap.size)
  generalize hAe : va_A [(g0, .inr (11, mF a 0 0 1000 0))] s.heap.size = A at hD ⊢
  have hA : ∀ q : Nat, s.heap.size ≤ q → A q := fun q h => by rw [← hAe]; exact Or.inr h
  generalize hH : s.heap = H at hP ⊢
  have hS : va_S A s.heap H [] := by rw [← hH]; exact va_S.rf
  have hl := lv_entry [.ref g0, .int p0, .int p1] (n := 3) (Nat.le_of_ble_eq_true rfl)
  rw [lg_entry_eq]
  generalize (lg_sl [.ref g0, .int p0, .int p1] ++ List.replicate (3 - (lg_sl [.ref g0, .int p0, .int p1]).length) Slot.unset).toArray = ls at hl ⊢
  have hl : lv_has ls 3 [(0, .ref g0), (1, .int p0), (2, .int p1)] := hl
  have hP : va_P (dC, dI) vwCl [(g0, .inr (11, mF a 0 0 1000 0))] H := hP
  refine lv_aload_n hx hb dX12_take_0 rfl (lv_at hl 0 rfl) ?_
  refine lv_iconst (v := 0) hx hb dX12_take_1 (by decide) ?_
  refine va_put (D := (dC, dI)) (ci := 11) (v := .int 0) (ty := .int) (C := RX12) (T := TX12) (N := 32) hx hb hts (by decide +kernel) tyX12 tyX12_ok nmX12 hown hK hP hD hS 0 rfl rfl 19 (by decide) (hts (.fieldLink RX12 63 "NeededListsModel" "thrown" "I") (by decide +kernel)) (fun _ h9 => h9) rfl (by decide +kernel) rfl rfl (Nat.le_of_ble_eq_true rfl) dX12_take_2 (fun H locs hP hD hS => ?_)
  have hP : va_P (dC, dI) vwCl [(g0, .inr (11, mF a 0 0 1000 0))] H := hP
  have hD : va_D A [(g0, .inr (11, mF a 0 0 1000 0))] := hD
  refine lv_aload_n hx hb dX12_take_5 rfl (lv_at hl 0 rfl) ?_
  refine lv_bipush (v := 6) hx hb dX12_take_6 (by decide) ?_
  refine lv_iload_n hx hb dX12_take_8 rfl (lv_at hl 1 rfl) ?_
  refine lv_iload_n hx hb dX12_take_9 rfl (lv_at hl 2 rfl) ?_
  have hPc := hP.sub (ws' := [(g0, .inr (11, mF a 0 0 1000 0))]) [0] rfl
  have hDc := hD.sub (ws' := [(g0, .inr (11, mF a 0 0 1000 0))]) [0] (by decide) rfl
  have hKc := hK.sub (tys' := []) [] rfl
  have hFc := va_free (wc := [(g0, .inr (11, mF a 0 0 1000 0))]) hD hS hA [0] rfl
  refine va_calli (va_runV (As := [.int 6, .int p0, .int p1]) (rest := []) ⟨hx, hb, hml, hown, hts⟩ (c_X12_some l dC dI a g0 6 p0 p1 H.size) (cwV 3 hts gX12_take_X12_some rfl rfl rfl (by decide +kernel) ⟨Nat.le_of_ble_eq_true rfl, Nat.le_of_ble_eq_true rfl⟩) ⟨fun a U g mk q => by obtain ⟨q0, q1, qP, qK, qD⟩ := q; exact ⟨q0, q1, qP, va_K.moved (u := U) (U := U.calling g mk a) (Vm.Alike.refl U.vm) qK, qD⟩, va_recv hKc hPc (ci := 11) (q0 := 0) rfl rfl, fun U hU hW => ⟨rfl, by rw [hU], by rw [hU]; exact hPc, va_K.moved hW.alike hKc, hDc.weaken (fun _ _ _ _ => trivial)⟩⟩ rfl rfl hl.1 rfl (lv_room (Nat.le_of_ble_eq_true rfl)) dX12_take_10 ⟨Nat.le_of_ble_eq_true rfl, Nat.le_of_ble_eq_true rfl⟩) hS (fun q _ h => hFc q h) hFc (fun r_1 u_2 t H1 locs ht hvm hw hB hz1 hk1 hS => ?_)
  obtain ⟨hP1, hK1, hD1⟩ := hB
  rw [ht] at hP1
  have hK1 := va_K.moved hvm.symm hK1
  have hK := hK.app hK1
  obtain ⟨hP, hD⟩ := va_join (wr := []) (w1 := [(g0, .inr (11, mF a 0 0 1000 1))]) hP hD [0] [] rfl rfl (by decide) (by decide) hk1 hFc hP1 hD1
  generalize H1 = H at hP hS ⊢
  have hP : va_P (dC, dI) vwCl [(g0, .inr (11, mF a 0 0 1000 1))] H := hP
  have hD : va_D A [(g0, .inr (11, mF a 0 0 1000 1))] := hD
  have hK : va_K (dC, dI) vwCl [] s := hK
  refine W.widen (k := 0) (n := 0) (by decide +kernel) (by decide +kernel) ?_
  obtain rfl : r_1 = 0 := hw
  refine W.widen (k := 0) (n := 0) (by decide +kernel) (by decide +kernel) ?_
  have hP9 := hP.sub (ws' := [(g0, .inr (11, mF a 0 0 1000 1))]) [0] rfl
  have hD9 := hD.sub (ws' := [(g0, .inr (11, mF a 0 0 1000 1))]) [0] (by decide) rfl
  have hK9 := hK.sub (tys' := []) [] rfl
  exact W.iret (v := 0) hx hb hr (fun t ht hW => ⟨⟨0, (0, 0, 1000, 1), rfl, rfl, by rw [ht]; exact hP9, va_K.moved hW.alike hK9, hD9⟩, hS.F ht⟩) hS.2.2 dX12_take_13
set_option maxHeartbeats 4000000 in
set_option maxRecDepth 100000 in
theorem c_X12_drop (l : Launch) (dC : Nat → ClassId) (dI : Nat → Nat → Nat) (a : Nat → Nat) (g0 : Nat) (p0 : Int32) (p1 : Int32) (sz : Nat) : Met l yX12_drop wsX12_drop ({ frames := 30, cells := 0, slots := 0, locals := 900 }) (va_Pc [.ref g0, .int p0, .int p1] (fun U => U.heap.size = sz ∧ va_P (dC, dI) vwCl [(g0, .inr (11, mF a 0 0 1000 0))] U.heap ∧ va_K (dC, dI) vwCl [] U ∧ va_D (fun _ => True) [(g0, .inr (11, mF a 0 0 1000 0))])) (va_Qi (fun (r : Int32) (u : Int32 × Int32 × Int32 × Int32) => u.2.2.2 = 1) (fun (u : Int32 × Int32 × Int32 × Int32) (t : State) => va_P (dC, dI) vwCl [(g0, .inr (11, mF a u.1 u.2.1 u.2.2.1 u.2.2.2))] t.heap ∧ va_K (dC, dI) vwCl [] t ∧ va_D (va_A [(g0, .inr (11, mF a 0 0 1000 0))] sz) [(g0, .inr (11, mF a u.1 u.2.1 u.2.2.1 u.2.2.2))]) (va_A [(g0, .inr (11, mF a 0 0 1000 0))] sz)) 0 0 (va_A [(g0, .inr (11, mF a 0 0 1000 0))] sz) := by
  refine Met.ofW (cc := cX12_drop) (maxL := 3) (ret := (some .int)) (by decide) rfl ?_
  intro p e s m args below meth c s₁ B hml hv
  obtain ⟨rfl, hsz, hP, hK, hD0⟩ := hv
  have hx := B.exec
  have hb := B.bytes
  have hr := B.returns
  have hts := atoms_spec (ws := wsX12_drop) B.pre
  have hown : s.vm.findClass RX12 = some m.cls := findClass_of_methodNamed B.named
  have hlocks := B.notSynchronized
  subst hsz
  have hD := hD0.self (sz := s.heap.size)
  generalize hAe : va_A [(g0, .inr (11, mF a 0 0 1000 0))] s.heap.size = A at hD ⊢
  have hA : ∀ q : Nat, s.heap.size ≤ q → A q := fun q h => by rw [← hAe]; exact Or.inr h
  generalize hH : s.heap = H at hP ⊢
  have hS : va_S A s.heap H [] := by rw [← hH]; exact va_S.rf
  have hl := lv_entry [.ref g0, .int p0, .int p1] (n := 3) (Nat.le_of_ble_eq_true rfl)
  rw [lg_entry_eq]
  generalize (lg_sl [.ref g0, .int p0, .int p1] ++ List.replicate (3 - (lg_sl [.ref g0, .int p0, .int p1]).length) Slot.unset).toArray = ls at hl ⊢
  have hl : lv_has ls 3 [(0, .ref g0), (1, .int p0), (2, .int p1)] := hl
  have hP : va_P (dC, dI) vwCl [(g0, .inr (11, mF a 0 0 1000 0))] H := hP
  refine lv_aload_n hx hb dX12_drop_0 rfl (lv_at hl 0 rfl) ?_
  refine lv_iconst (v := 0) hx hb dX12_drop_1 (by decide) ?_
  refine va_put (D := (dC, dI)) (ci := 11) (v := .int 0) (ty := .int) (C := RX12) (T := TX12) (N := 32) hx hb hts (by decide +kernel) tyX12 tyX12_ok nmX12 hown hK hP hD hS 0 rfl rfl 19 (by decide) (hts (.fieldLink RX12 63 "NeededListsModel" "thrown" "I") (by decide +kernel)) (fun _ h9 => h9) rfl (by decide +kernel) rfl rfl (Nat.le_of_ble_eq_true rfl) dX12_drop_2 (fun H locs hP hD hS => ?_)
  have hP : va_P (dC, dI) vwCl [(g0, .inr (11, mF a 0 0 1000 0))] H := hP
  have hD : va_D A [(g0, .inr (11, mF a 0 0 1000 0))] := hD
  refine lv_aload_n hx hb dX12_drop_5 rfl (lv_at hl 0 rfl) ?_
  refine lv_bipush (v := 7) hx hb dX12_drop_6 (by decide) ?_
  refine lv_iload_n hx hb dX12_drop_8 rfl (lv_at hl 1 rfl) ?_
  refine lv_iload_n hx hb dX12_drop_9 rfl (lv_at hl 2 rfl) ?_
  have hPc := hP.sub (ws' := [(g0, .inr (11, mF a 0 0 1000 0))]) [0] rfl
  have hDc := hD.sub (ws' := [(g0, .inr (11, mF a 0 0 1000 0))]) [0] (by decide) rfl
  have hKc := hK.sub (tys' := []) [] rfl
  have hFc := va_free (wc := [(g0, .inr (11, mF a 0 0 1000 0))]) hD hS hA [0] rfl
  refine va_calli (va_runV (As := [.int 7, .int p0, .int p1]) (rest := []) ⟨hx, hb, hml, hown, hts⟩ (c_X12_some l dC dI a g0 7 p0 p1 H.size) (cwV 3 hts gX12_drop_X12_some rfl rfl rfl (by decide +kernel) ⟨Nat.le_of_ble_eq_true rfl, Nat.le_of_ble_eq_true rfl⟩) ⟨fun a U g mk q => by obtain ⟨q0, q1, qP, qK, qD⟩ := q; exact ⟨q0, q1, qP, va_K.moved (u := U) (U := U.calling g mk a) (Vm.Alike.refl U.vm) qK, qD⟩, va_recv hKc hPc (ci := 11) (q0 := 0) rfl rfl, fun U hU hW => ⟨rfl, by rw [hU], by rw [hU]; exact hPc, va_K.moved hW.alike hKc, hDc.weaken (fun _ _ _ _ => trivial)⟩⟩ rfl rfl hl.1 rfl (lv_room (Nat.le_of_ble_eq_true rfl)) dX12_drop_10 ⟨Nat.le_of_ble_eq_true rfl, Nat.le_of_ble_eq_true rfl⟩) hS (fun q _ h => hFc q h) hFc (fun r_1 u_2 t H1 locs ht hvm hw hB hz1 hk1 hS => ?_)
  obtain ⟨hP1, hK1, hD1⟩ := hB
  rw [ht] at hP1
  have hK1 := va_K.moved hvm.symm hK1
  have hK := hK.app hK1
  obtain ⟨hP, hD⟩ := va_join (wr := []) (w1 := [(g0, .inr (11, mF a 0 0 1000 1))]) hP hD [0] [] rfl rfl (by decide) (by decide) hk1 hFc hP1 hD1
  generalize H1 = H at hP hS ⊢
  have hP : va_P (dC, dI) vwCl [(g0, .inr (11, mF a 0 0 1000 1))] H := hP
  have hD : va_D A [(g0, .inr (11, mF a 0 0 1000 1))] := hD
  have hK : va_K (dC, dI) vwCl [] s := hK
  refine W.widen (k := 0) (n := 0) (by decide +kernel) (by decide +kernel) ?_
  obtain rfl : r_1 = 0 := hw
  refine W.widen (k := 0) (n := 0) (by decide +kernel) (by decide +kernel) ?_
  have hP9 := hP.sub (ws' := [(g0, .inr (11, mF a 0 0 1000 1))]) [0] rfl
  have hD9 := hD.sub (ws' := [(g0, .inr (11, mF a 0 0 1000 1))]) [0] (by decide) rfl
  have hK9 := hK.sub (tys' := []) [] rfl
  exact W.iret (v := 0) hx hb hr (fun t ht hW => ⟨⟨0, (0, 0, 1000, 1), rfl, rfl, by rw [ht]; exact hP9, va_K.moved hW.alike hK9, hD9⟩, hS.F ht⟩) hS.2.2 dX12_drop_13
set_option maxHeartbeats 4000000 in
set_option maxRecDepth 100000 in
theorem c_X12_keep (l : Launch) (dC : Nat → ClassId) (dI : Nat → Nat → Nat) (a : Nat → Nat) (g0 : Nat) (p0 : Int32) (p1 : Int32) (p2 : Int64) (sz : Nat) : Met l yX12_keep wsX12_keep ({ frames := 30, cells := 0, slots := 0, locals := 900 }) (va_Pc [.ref g0, .int p0, .int p1, .long p2] (fun U => U.heap.size = sz ∧ va_P (dC, dI) vwCl [(g0, .inr (11, mF a 0 0 1000 0))] U.heap ∧ va_K (dC, dI) vwCl [] U ∧ va_D (fun _ => True) [(g0, .inr (11, mF a 0 0 1000 0))])) (va_Qi (fun (r : Int32) (u : Int32 × Int32 × Int32 × Int32) => u.2.2.2 = 1) (fun (u : Int32 × Int32 × Int32 × Int32) (t : State) => va_P (dC, dI) vwCl [(g0, .inr (11, mF a u.1 u.2.1 u.2.2.1 u.2.2.2))] t.heap ∧ va_K (dC, dI) vwCl [] t ∧ va_D (va_A [(g0, .inr (11, mF a 0 0 1000 0))] sz) [(g0, .inr (11, mF a u.1 u.2.1 u.2.2.1 u.2.2.2))]) (va_A [(g0, .inr (11, mF a 0 0 1000 0))] sz)) 0 0 (va_A [(g0, .inr (11, mF a 0 0 1000 0))] sz) := by
  refine Met.ofW (cc := cX12_keep) (maxL := 5) (ret := (some .int)) (by decide) rfl ?_
  intro p e s m args below meth c s₁ B hml hv
  obtain ⟨rfl, hsz, hP, hK, hD0⟩ := hv
  have hx := B.exec
  have hb := B.bytes
  have hr := B.returns
  have hts := atoms_spec (ws := wsX12_keep) B.pre
  have hown : s.vm.findClass RX12 = some m.cls := findClass_of_methodNamed B.named
  have hlocks := B.notSynchronized
  subst hsz
  have hD := hD0.self (sz := s.heap.size)
  generalize hAe : va_A [(g0, .inr (11, mF a 0 0 1000 0))] s.heap.size = A at hD ⊢
  have hA : ∀ q : Nat, s.heap.size ≤ q → A q := fun q h => by rw [← hAe]; exact Or.inr h
  generalize hH : s.heap = H at hP ⊢
  have hS : va_S A s.heap H [] := by rw [← hH]; exact va_S.rf
  have hl := lv_entry [.ref g0, .int p0, .int p1, .long p2] (n := 5) (Nat.le_of_ble_eq_true rfl)
  rw [lg_entry_eq]
  generalize (lg_sl [.ref g0, .int p0, .int p1, .long p2] ++ List.replicate (5 - (lg_sl [.ref g0, .int p0, .int p1, .long p2]).length) Slot.unset).toArray = ls at hl ⊢
  have hl : lv_has ls 5 [(0, .ref g0), (1, .int p0), (2, .int p1), (3, .long p2)] := hl
  have hP : va_P (dC, dI) vwCl [(g0, .inr (11, mF a 0 0 1000 0))] H := hP
  refine lv_aload_n hx hb dX12_keep_0 rfl (lv_at hl 0 rfl) ?_
  refine lv_iconst (v := 0) hx hb dX12_keep_1 (by decide) ?_
  refine va_put (D := (dC, dI)) (ci := 11) (v := .int 0) (ty := .int) (C := RX12) (T := TX12) (N := 32) hx hb hts (by decide +kernel) tyX12 tyX12_ok nmX12 hown hK hP hD hS 0 rfl rfl 19 (by decide) (hts (.fieldLink RX12 63 "NeededListsModel" "thrown" "I") (by decide +kernel)) (fun _ h9 => h9) rfl (by decide +kernel) rfl rfl (Nat.le_of_ble_eq_true rfl) dX12_keep_2 (fun H locs hP hD hS => ?_)
  have hP : va_P (dC, dI) vwCl [(g0, .inr (11, mF a 0 0 1000 0))] H := hP
  have hD : va_D A [(g0, .inr (11, mF a 0 0 1000 0))] := hD
  refine lv_aload_n hx hb dX12_keep_5 rfl (lv_at hl 0 rfl) ?_
  refine lv_bipush (v := 8) hx hb dX12_keep_6 (by decide) ?_
  refine lv_iload_n hx hb dX12_keep_8 rfl (lv_at hl 1 rfl) ?_
  refine lv_iload_n hx hb dX12_keep_9 rfl (lv_at hl 2 rfl) ?_
  refine lv_lload_n hx hb dX12_keep_10 rfl (lv_at hl 3 rfl) ?_
  have hPc := hP.sub (ws' := [(g0, .inr (11, mF a 0 0 1000 0))]) [0] rfl
  have hDc := hD.sub (ws' := [(g0, .inr (11, mF a 0 0 1000 0))]) [0] (by decide) rfl
  have hKc := hK.sub (tys' := []) [] rfl
  have hFc := va_free (wc := [(g0, .inr (11, mF a 0 0 1000 0))]) hD hS hA [0] rfl
  refine va_calli (va_runV (As := [.int 8, .int p0, .int p1, .long p2]) (rest := []) ⟨hx, hb, hml, hown, hts⟩ (c_X12_by l dC dI a g0 8 p0 p1 p2 H.size) (cwV 4 hts gX12_keep_X12_by rfl rfl rfl (by decide +kernel) ⟨Nat.le_of_ble_eq_true rfl, Nat.le_of_ble_eq_true rfl⟩) ⟨fun a U g mk q => by obtain ⟨q0, q1, qP, qK, qD⟩ := q; exact ⟨q0, q1, qP, va_K.moved (u := U) (U := U.calling g mk a) (Vm.Alike.refl U.vm) qK, qD⟩, va_recv hKc hPc (ci := 11) (q0 := 0) rfl rfl, fun U hU hW => ⟨rfl, by rw [hU], by rw [hU]; exact hPc, va_K.moved hW.alike hKc, hDc.weaken (fun _ _ _ _ => trivial)⟩⟩ rfl rfl hl.1 rfl (lv_room (Nat.le_of_ble_eq_true rfl)) dX12_keep_11 ⟨Nat.le_of_ble_eq_true rfl, Nat.le_of_ble_eq_true rfl⟩) hS (fun q _ h => hFc q h) hFc (fun r_1 u_2 t H1 locs ht hvm hw hB hz1 hk1 hS => ?_)
  obtain ⟨hP1, hK1, hD1⟩ := hB
  rw [ht] at hP1
  have hK1 := va_K.moved hvm.symm hK1
  have hK := hK.app hK1
  obtain ⟨hP, hD⟩ := va_join (wr := []) (w1 := [(g0, .inr (11, mF a 0 0 1000 1))]) hP hD [0] [] rfl rfl (by decide) (by decide) hk1 hFc hP1 hD1
  generalize H1 = H at hP hS ⊢
  have hP : va_P (dC, dI) vwCl [(g0, .inr (11, mF a 0 0 1000 1))] H := hP
  have hD : va_D A [(g0, .inr (11, mF a 0 0 1000 1))] := hD
  have hK : va_K (dC, dI) vwCl [] s := hK
  refine W.widen (k := 0) (n := 0) (by decide +kernel) (by decide +kernel) ?_
  obtain rfl : r_1 = 0 := hw
  refine W.widen (k := 0) (n := 0) (by decide +kernel) (by decide +kernel) ?_
  have hP9 := hP.sub (ws' := [(g0, .inr (11, mF a 0 0 1000 1))]) [0] rfl
  have hD9 := hD.sub (ws' := [(g0, .inr (11, mF a 0 0 1000 1))]) [0] (by decide) rfl
  have hK9 := hK.sub (tys' := []) [] rfl
  exact W.iret (v := 0) hx hb hr (fun t ht hW => ⟨⟨0, (0, 0, 1000, 1), rfl, rfl, by rw [ht]; exact hP9, va_K.moved hW.alike hK9, hD9⟩, hS.F ht⟩) hS.2.2 dX12_keep_14
set_option maxHeartbeats 4000000 in
set_option maxRecDepth 100000 in
theorem c_X12_during (l : Launch) (dC : Nat → ClassId) (dI : Nat → Nat → Nat) (a : Nat → Nat) (g0 : Nat) (p0 : Int32) (p1 : Int32) (p2 : Int64) (sz : Nat) : Met l yX12_during wsX12_during ({ frames := 30, cells := 0, slots := 0, locals := 900 }) (va_Pc [.ref g0, .int p0, .int p1, .long p2] (fun U => U.heap.size = sz ∧ va_P (dC, dI) vwCl [(g0, .inr (11, mF a 0 0 1000 0))] U.heap ∧ va_K (dC, dI) vwCl [] U ∧ va_D (fun _ => True) [(g0, .inr (11, mF a 0 0 1000 0))])) (va_Qi (fun (r : Int32) (u : Int32 × Int32 × Int32 × Int32) => u.2.2.2 = 1) (fun (u : Int32 × Int32 × Int32 × Int32) (t : State) => va_P (dC, dI) vwCl [(g0, .inr (11, mF a u.1 u.2.1 u.2.2.1 u.2.2.2))] t.heap ∧ va_K (dC, dI) vwCl [] t ∧ va_D (va_A [(g0, .inr (11, mF a 0 0 1000 0))] sz) [(g0, .inr (11, mF a u.1 u.2.1 u.2.2.1 u.2.2.2))]) (va_A [(g0, .inr (11, mF a 0 0 1000 0))] sz)) 0 0 (va_A [(g0, .inr (11, mF a 0 0 1000 0))] sz) := by
  refine Met.ofW (cc := cX12_during) (maxL := 5) (ret := (some .int)) (by decide) rfl ?_
  intro p e s m args below meth c s₁ B hml hv
  obtain ⟨rfl, hsz, hP, hK, hD0⟩ := hv
  have hx := B.exec
  have hb := B.bytes
  have hr := B.returns
  have hts := atoms_spec (ws := wsX12_during) B.pre
  have hown : s.vm.findClass RX12 = some m.cls := findClass_of_methodNamed B.named
  have hlocks := B.notSynchronized
  subst hsz
  have hD := hD0.self (sz := s.heap.size)
  generalize hAe : va_A [(g0, .inr (11, mF a 0 0 1000 0))] s.heap.size = A at hD ⊢
  have hA : ∀ q : Nat, s.heap.size ≤ q → A q := fun q h => by rw [← hAe]; exact Or.inr h
  generalize hH : s.heap = H at hP ⊢
  have hS : va_S A s.heap H [] := by rw [← hH]; exact va_S.rf
  have hl := lv_entry [.ref g0, .int p0, .int p1, .long p2] (n := 5) (Nat.le_of_ble_eq_true rfl)
  rw [lg_entry_eq]
  generalize (lg_sl [.ref g0, .int p0, .int p1, .long p2] ++ List.replicate (5 - (lg_sl [.ref g0, .int p0, .int p1, .long p2]).length) Slot.unset).toArray = ls at hl ⊢
  have hl : lv_has ls 5 [(0, .ref g0), (1, .int p0), (2, .int p1), (3, .long p2)] := hl
  have hP : va_P (dC, dI) vwCl [(g0, .inr (11, mF a 0 0 1000 0))] H := hP
  refine lv_aload_n hx hb dX12_during_0 rfl (lv_at hl 0 rfl) ?_
  refine lv_iconst (v := 0) hx hb dX12_during_1 (by decide) ?_
  refine va_put (D := (dC, dI)) (ci := 11) (v := .int 0) (ty := .int) (C := RX12) (T := TX12) (N := 32) hx hb hts (by decide +kernel) tyX12 tyX12_ok nmX12 hown hK hP hD hS 0 rfl rfl 19 (by decide) (hts (.fieldLink RX12 63 "NeededListsModel" "thrown" "I") (by decide +kernel)) (fun _ h9 => h9) rfl (by decide +kernel) rfl rfl (Nat.le_of_ble_eq_true rfl) dX12_during_2 (fun H locs hP hD hS => ?_)
  have hP : va_P (dC, dI) vwCl [(g0, .inr (11, mF a 0 0 1000 0))] H := hP
  have hD : va_D A [(g0, .inr (11, mF a 0 0 1000 0))] := hD
  refine lv_aload_n hx hb dX12_during_5 rfl (lv_at hl 0 rfl) ?_
  refine lv_bipush (v := 9) hx hb dX12_during_6 (by decide) ?_
  refine lv_iload_n hx hb dX12_during_8 rfl (lv_at hl 1 rfl) ?_
  refine lv_iload_n hx hb dX12_during_9 rfl (lv_at hl 2 rfl) ?_
  refine lv_lload_n hx hb dX12_during_10 rfl (lv_at hl 3 rfl) ?_
  have hPc := hP.sub (ws' := [(g0, .inr (11, mF a 0 0 1000 0))]) [0] rfl
  have hDc := hD.sub (ws' := [(g0, .inr (11, mF a 0 0 1000 0))]) [0] (by decide) rfl
  have hKc := hK.sub (tys' := []) [] rfl
  have hFc := va_free (wc := [(g0, .inr (11, mF a 0 0 1000 0))]) hD hS hA [0] rfl
  refine va_calli (va_runV (As := [.int 9, .int p0, .int p1, .long p2]) (rest := []) ⟨hx, hb, hml, hown, hts⟩ (c_X12_by l dC dI a g0 9 p0 p1 p2 H.size) (cwV 4 hts gX12_during_X12_by rfl rfl rfl (by decide +kernel) ⟨Nat.le_of_ble_eq_true rfl, Nat.le_of_ble_eq_true rfl⟩) ⟨fun a U g mk q => by obtain ⟨q0, q1, qP, qK, qD⟩ := q; exact ⟨q0, q1, qP, va_K.moved (u := U) (U := U.calling g mk a) (Vm.Alike.refl U.vm) qK, qD⟩, va_recv hKc hPc (ci := 11) (q0 := 0) rfl rfl, fun U hU hW => ⟨rfl, by rw [hU], by rw [hU]; exact hPc, va_K.moved hW.alike hKc, hDc.weaken (fun _ _ _ _ => trivial)⟩⟩ rfl rfl hl.1 rfl (lv_room (Nat.le_of_ble_eq_true rfl)) dX12_during_11 ⟨Nat.le_of_ble_eq_true rfl, Nat.le_of_ble_eq_true rfl⟩) hS (fun q _ h => hFc q h) hFc (fun r_1 u_2 t H1 locs ht hvm hw hB hz1 hk1 hS => ?_)
  obtain ⟨hP1, hK1, hD1⟩ := hB
  rw [ht] at hP1
  have hK1 := va_K.moved hvm.symm hK1
  have hK := hK.app hK1
  obtain ⟨hP, hD⟩ := va_join (wr := []) (w1 := [(g0, .inr (11, mF a 0 0 1000 1))]) hP hD [0] [] rfl rfl (by decide) (by decide) hk1 hFc hP1 hD1
  generalize H1 = H at hP hS ⊢
  have hP : va_P (dC, dI) vwCl [(g0, .inr (11, mF a 0 0 1000 1))] H := hP
  have hD : va_D A [(g0, .inr (11, mF a 0 0 1000 1))] := hD
  have hK : va_K (dC, dI) vwCl [] s := hK
  refine W.widen (k := 0) (n := 0) (by decide +kernel) (by decide +kernel) ?_
  obtain rfl : r_1 = 0 := hw
  refine W.widen (k := 0) (n := 0) (by decide +kernel) (by decide +kernel) ?_
  have hP9 := hP.sub (ws' := [(g0, .inr (11, mF a 0 0 1000 1))]) [0] rfl
  have hD9 := hD.sub (ws' := [(g0, .inr (11, mF a 0 0 1000 1))]) [0] (by decide) rfl
  have hK9 := hK.sub (tys' := []) [] rfl
  exact W.iret (v := 0) hx hb hr (fun t ht hW => ⟨⟨0, (0, 0, 1000, 1), rfl, rfl, by rw [ht]; exact hP9, va_K.moved hW.alike hK9, hD9⟩, hS.F ht⟩) hS.2.2 dX12_during_14
set_option maxHeartbeats 4000000 in
set_option maxRecDepth 100000 in
theorem c_X12_after (l : Launch) (dC : Nat → ClassId) (dI : Nat → Nat → Nat) (a : Nat → Nat) (g0 : Nat) (p0 : Int32) (p1 : Int32) (p2 : Int64) (sz : Nat) : Met l yX12_after wsX12_after ({ frames := 30, cells := 0, slots := 0, locals := 900 }) (va_Pc [.ref g0, .int p0, .int p1, .long p2] (fun U => U.heap.size = sz ∧ va_P (dC, dI) vwCl [(g0, .inr (11, mF a 0 0 1000 0))] U.heap ∧ va_K (dC, dI) vwCl [] U ∧ va_D (fun _ => True) [(g0, .inr (11, mF a 0 0 1000 0))])) (va_Qi (fun (r : Int32) (u : Int32 × Int32 × Int32 × Int32) => u.2.2.2 = 1) (fun (u : Int32 × Int32 × Int32 × Int32) (t : State) => va_P (dC, dI) vwCl [(g0, .inr (11, mF a u.1 u.2.1 u.2.2.1 u.2.2.2))] t.heap ∧ va_K (dC, dI) vwCl [] t ∧ va_D (va_A [(g0, .inr (11, mF a 0 0 1000 0))] sz) [(g0, .inr (11, mF a u.1 u.2.1 u.2.2.1 u.2.2.2))]) (va_A [(g0, .inr (11, mF a 0 0 1000 0))] sz)) 0 0 (va_A [(g0, .inr (11, mF a 0 0 1000 0))] sz) := by
  refine Met.ofW (cc := cX12_after) (maxL := 5) (ret := (some .int)) (by decide) rfl ?_
  intro p e s m args below meth c s₁ B hml hv
  obtain ⟨rfl, hsz, hP, hK, hD0⟩ := hv
  have hx := B.exec
  have hb := B.bytes
  have hr := B.returns
  have hts := atoms_spec (ws := wsX12_after) B.pre
  have hown : s.vm.findClass RX12 = some m.cls := findClass_of_methodNamed B.named
  have hlocks := B.notSynchronized
  subst hsz
  have hD := hD0.self (sz := s.heap.size)
  generalize hAe : va_A [(g0, .inr (11, mF a 0 0 1000 0))] s.heap.size = A at hD ⊢
  have hA : ∀ q : Nat, s.heap.size ≤ q → A q := fun q h => by rw [← hAe]; exact Or.inr h
  generalize hH : s.heap = H at hP ⊢
  have hS : va_S A s.heap H [] := by rw [← hH]; exact va_S.rf
  have hl := lv_entry [.ref g0, .int p0, .int p1, .long p2] (n := 5) (Nat.le_of_ble_eq_true rfl)
  rw [lg_entry_eq]
  generalize (lg_sl [.ref g0, .int p0, .int p1, .long p2] ++ List.replicate (5 - (lg_sl [.ref g0, .int p0, .int p1, .long p2]).length) Slot.unset).toArray = ls at hl ⊢
  have hl : lv_has ls 5 [(0, .ref g0), (1, .int p0), (2, .int p1), (3, .long p2)] := hl
  have hP : va_P (dC, dI) vwCl [(g0, .inr (11, mF a 0 0 1000 0))] H := hP
  refine lv_aload_n hx hb dX12_after_0 rfl (lv_at hl 0 rfl) ?_
  refine lv_iconst (v := 0) hx hb dX12_after_1 (by decide) ?_
  refine va_put (D := (dC, dI)) (ci := 11) (v := .int 0) (ty := .int) (C := RX12) (T := TX12) (N := 32) hx hb hts (by decide +kernel) tyX12 tyX12_ok nmX12 hown hK hP hD hS 0 rfl rfl 19 (by decide) (hts (.fieldLink RX12 63 "NeededListsModel" "thrown" "I") (by decide +kernel)) (fun _ h9 => h9) rfl (by decide +kernel) rfl rfl (Nat.le_of_ble_eq_true rfl) dX12_after_2 (fun H locs hP hD hS => ?_)
  have hP : va_P (dC, dI) vwCl [(g0, .inr (11, mF a 0 0 1000 0))] H := hP
  have hD : va_D A [(g0, .inr (11, mF a 0 0 1000 0))] := hD
  refine lv_aload_n hx hb dX12_after_5 rfl (lv_at hl 0 rfl) ?_
  refine lv_bipush (v := 10) hx hb dX12_after_6 (by decide) ?_
  refine lv_iload_n hx hb dX12_after_8 rfl (lv_at hl 1 rfl) ?_
  refine lv_iload_n hx hb dX12_after_9 rfl (lv_at hl 2 rfl) ?_
  refine lv_lload_n hx hb dX12_after_10 rfl (lv_at hl 3 rfl) ?_
  have hPc := hP.sub (ws' := [(g0, .inr (11, mF a 0 0 1000 0))]) [0] rfl
  have hDc := hD.sub (ws' := [(g0, .inr (11, mF a 0 0 1000 0))]) [0] (by decide) rfl
  have hKc := hK.sub (tys' := []) [] rfl
  have hFc := va_free (wc := [(g0, .inr (11, mF a 0 0 1000 0))]) hD hS hA [0] rfl
  refine va_calli (va_runV (As := [.int 10, .int p0, .int p1, .long p2]) (rest := []) ⟨hx, hb, hml, hown, hts⟩ (c_X12_by l dC dI a g0 10 p0 p1 p2 H.size) (cwV 4 hts gX12_after_X12_by rfl rfl rfl (by decide +kernel) ⟨Nat.le_of_ble_eq_true rfl, Nat.le_of_ble_eq_true rfl⟩) ⟨fun a U g mk q => by obtain ⟨q0, q1, qP, qK, qD⟩ := q; exact ⟨q0, q1, qP, va_K.moved (u := U) (U := U.calling g mk a) (Vm.Alike.refl U.vm) qK, qD⟩, va_recv hKc hPc (ci := 11) (q0 := 0) rfl rfl, fun U hU hW => ⟨rfl, by rw [hU], by rw [hU]; exact hPc, va_K.moved hW.alike hKc, hDc.weaken (fun _ _ _ _ => trivial)⟩⟩ rfl rfl hl.1 rfl (lv_room (Nat.le_of_ble_eq_true rfl)) dX12_after_11 ⟨Nat.le_of_ble_eq_true rfl, Nat.le_of_ble_eq_true rfl⟩) hS (fun q _ h => hFc q h) hFc (fun r_1 u_2 t H1 locs ht hvm hw hB hz1 hk1 hS => ?_)
  obtain ⟨hP1, hK1, hD1⟩ := hB
  rw [ht] at hP1
  have hK1 := va_K.moved hvm.symm hK1
  have hK := hK.app hK1
  obtain ⟨hP, hD⟩ := va_join (wr := []) (w1 := [(g0, .inr (11, mF a 0 0 1000 1))]) hP hD [0] [] rfl rfl (by decide) (by decide) hk1 hFc hP1 hD1
  generalize H1 = H at hP hS ⊢
  have hP : va_P (dC, dI) vwCl [(g0, .inr (11, mF a 0 0 1000 1))] H := hP
  have hD : va_D A [(g0, .inr (11, mF a 0 0 1000 1))] := hD
  have hK : va_K (dC, dI) vwCl [] s := hK
  refine W.widen (k := 0) (n := 0) (by decide +kernel) (by decide +kernel) ?_
  obtain rfl : r_1 = 0 := hw
  refine W.widen (k := 0) (n := 0) (by decide +kernel) (by decide +kernel) ?_
  have hP9 := hP.sub (ws' := [(g0, .inr (11, mF a 0 0 1000 1))]) [0] rfl
  have hD9 := hD.sub (ws' := [(g0, .inr (11, mF a 0 0 1000 1))]) [0] (by decide) rfl
  have hK9 := hK.sub (tys' := []) [] rfl
  exact W.iret (v := 0) hx hb hr (fun t ht hW => ⟨⟨0, (0, 0, 1000, 1), rfl, rfl, by rw [ht]; exact hP9, va_K.moved hW.alike hK9, hD9⟩, hS.F ht⟩) hS.2.2 dX12_after_14
set_option maxHeartbeats 4000000 in
set_option maxRecDepth 100000 in
theorem c_X12_put (l : Launch) (dC : Nat → ClassId) (dI : Nat → Nat → Nat) (a : Nat → Nat) (g0 : Nat) (ca : Nat → ClassId) (f13 : Nat → Int32) (f14 : Nat → Int64) (p0 : Int64) (sz : Nat) : Met l yX12_put wsX12_put ({ frames := 20, cells := 0, slots := 0, locals := 600 }) (va_Pc [.ref g0, .long p0] (fun U => U.heap.size = sz ∧ va_P (dC, dI) vwCl [(g0, .inr (11, mF a 0 0 1000 0)), (a 13, .inl (ca 13, 100, .inl (f13))), (a 14, .inl (ca 14, 100, .inr (.inl (f14))))] U.heap ∧ va_K (dC, dI) vwCl [(ca 13, .int), (ca 14, .long)] U ∧ va_D (fun _ => True) [(g0, .inr (11, mF a 0 0 1000 0)), (a 13, .inl (ca 13, 100, .inl (f13))), (a 14, .inl (ca 14, 100, .inr (.inl (f14))))])) (va_Qi (fun (r : Int32) (u : Int32 × Int32 × Int32 × Int32) => u.2.2.2 = 0 ∧ (0 = 0 → r = 1)) (fun (u : Int32 × Int32 × Int32 × Int32) (t : State) => va_P (dC, dI) vwCl [(g0, .inr (11, mF a u.1 u.2.1 u.2.2.1 u.2.2.2))] t.heap ∧ va_K (dC, dI) vwCl [] t ∧ va_D (va_A [(g0, .inr (11, mF a 0 0 1000 0)), (a 13, .inl (ca 13, 100, .inl (f13))), (a 14, .inl (ca 14, 100, .inr (.inl (f14))))] sz) [(g0, .inr (11, mF a u.1 u.2.1 u.2.2.1 u.2.2.2))]) (va_A [(g0, .inr (11, mF a 0 0 1000 0)), (a 13, .inl (ca 13, 100, .inl (f13))), (a 14, .inl (ca 14, 100, .inr (.inl (f14))))] sz)) 0 0 (va_A [(g0, .inr (11, mF a 0 0 1000 0)), (a 13, .inl (ca 13, 100, .inl (f13))), (a 14, .inl (ca 14, 100, .inr (.inl (f14))))] sz) := by
  refine Met.ofW (cc := cX12_put) (maxL := 3) (ret := (some .int)) (by decide) rfl ?_
  intro p e s m args below meth c s₁ B hml hv
  obtain ⟨rfl, hsz, hP, hK, hD0⟩ := hv
  have hx := B.exec
  have hb := B.bytes
  have hr := B.returns
  have hts := atoms_spec (ws := wsX12_put) B.pre
  have hown : s.vm.findClass RX12 = some m.cls := findClass_of_methodNamed B.named
  have hlocks := B.notSynchronized
  subst hsz
  have hD := hD0.self (sz := s.heap.size)
  generalize hAe : va_A [(g0, .inr (11, mF a 0 0 1000 0)), (a 13, .inl (ca 13, 100, .inl (f13))), (a 14, .inl (ca 14, 100, .inr (.inl (f14))))] s.heap.size = A at hD ⊢
  have hA : ∀ q : Nat, s.heap.size ≤ q → A q := fun q h => by rw [← hAe]; exact Or.inr h
  generalize hH : s.heap = H at hP ⊢
  have hS : va_S A s.heap H [] := by rw [← hH]; exact va_S.rf
  have hl := lv_entry [.ref g0, .long p0] (n := 3) (Nat.le_of_ble_eq_true rfl)
  rw [lg_entry_eq]
  generalize (lg_sl [.ref g0, .long p0] ++ List.replicate (3 - (lg_sl [.ref g0, .long p0]).length) Slot.unset).toArray = ls at hl ⊢
  have hl : lv_has ls 3 [(0, .ref g0), (1, .long p0)] := hl
  have hP : va_P (dC, dI) vwCl [(g0, .inr (11, mF a 0 0 1000 0)), (a 13, .inl (ca 13, 100, .inl (f13))), (a 14, .inl (ca 14, 100, .inr (.inl (f14))))] H := hP
  refine lv_aload_n hx hb dX12_put_0 rfl (lv_at hl 0 rfl) ?_
  refine lv_iconst (v := 0) hx hb dX12_put_1 (by decide) ?_
  refine va_put (D := (dC, dI)) (ci := 11) (v := .int 0) (ty := .int) (C := RX12) (T := TX12) (N := 32) hx hb hts (by decide +kernel) tyX12 tyX12_ok nmX12 hown hK hP hD hS 0 rfl rfl 19 (by decide) (hts (.fieldLink RX12 63 "NeededListsModel" "thrown" "I") (by decide +kernel)) (fun _ h9 => h9) rfl (by decide +kernel) rfl rfl (Nat.le_of_ble_eq_true rfl) dX12_put_2 (fun H locs hP hD hS => ?_)
  have hP : va_P (dC, dI) vwCl [(g0, .inr (11, mF a 0 0 1000 0)), (a 13, .inl (ca 13, 100, .inl (f13))), (a 14, .inl (ca 14, 100, .inr (.inl (f14))))] H := hP
  have hD : va_D A [(g0, .inr (11, mF a 0 0 1000 0)), (a 13, .inl (ca 13, 100, .inl (f13))), (a 14, .inl (ca 14, 100, .inr (.inl (f14))))] := hD
  refine lv_aload_n hx hb dX12_put_5 rfl (lv_at hl 0 rfl) ?_
  refine va_get (D := (dC, dI)) (ci := 11) (v := .int 0) (C := RX12) (T := TX12) (N := 32) hx hb hts (by decide +kernel) hown hK hP 0 rfl rfl 12 (by decide) (hts (.fieldLink RX12 69 "NeededListsModel" "many" "I") (by decide +kernel)) (fun _ h9 => h9) rfl dX12_put_6 ?_
  refine lv_bipush (v := 100) hx hb dX12_put_9 (by decide) ?_
  refine lv_icmp_ne (tgt := 20) hx hb dX12_put_11 (by decide) (fun c_11 => ?_) (fun c_11 => ?_)
  · refine lv_aload_n hx hb dX12_put_20 rfl (lv_at hl 0 rfl) ?_
    refine va_get (D := (dC, dI)) (ci := 11) (v := .ref (a 13)) (C := RX12) (T := TX12) (N := 32) hx hb hts (by decide +kernel) hown hK hP 0 rfl rfl 13 (by decide) (hts (.fieldLink RX12 44 "NeededListsModel" "rowItem" "[I") (by decide +kernel)) (fun _ h9 => h9) rfl dX12_put_21 ?_
    refine lv_aload_n hx hb dX12_put_24 rfl (lv_at hl 0 rfl) ?_
    refine va_get (D := (dC, dI)) (ci := 11) (v := .int 0) (C := RX12) (T := TX12) (N := 32) hx hb hts (by decide +kernel) hown hK hP 0 rfl rfl 12 (by decide) (hts (.fieldLink RX12 69 "NeededListsModel" "many" "I") (by decide +kernel)) (fun _ h9 => h9) rfl dX12_put_25 ?_
    refine lv_iconst (v := 1) hx hb dX12_put_28 (by decide) ?_
    refine va_iast hx hb hK hP hD hS 1 0 rfl rfl (nd_in (i := 0) (n := 100) (by decide)) dX12_put_29 (fun H locs hP hD hS => ?_)
    obtain ⟨f_1, ef_1⟩ : ∃ z, z = upd f13 ((0 : Int32).toNatClampNeg) 1 := ⟨_, rfl⟩
    have hP : va_P (dC, dI) vwCl [(g0, .inr (11, mF a 0 0 1000 0)), (a 13, .inl (ca 13, 100, .inl (upd f13 ((0 : Int32).toNatClampNeg) 1))), (a 14, .inl (ca 14, 100, .inr (.inl (f14))))] H := hP
    have hD : va_D A [(g0, .inr (11, mF a 0 0 1000 0)), (a 13, .inl (ca 13, 100, .inl (upd f13 ((0 : Int32).toNatClampNeg) 1))), (a 14, .inl (ca 14, 100, .inr (.inl (f14))))] := hD
    rw [← ef_1] at hP hD
    refine lv_aload_n hx hb dX12_put_30 rfl (lv_at hl 0 rfl) ?_
    refine va_get (D := (dC, dI)) (ci := 11) (v := .ref (a 14)) (C := RX12) (T := TX12) (N := 32) hx hb hts (by decide +kernel) hown hK hP 0 rfl rfl 14 (by decide) (hts (.fieldLink RX12 47 "NeededListsModel" "rowValue" "[J") (by decide +kernel)) (fun _ h9 => h9) rfl dX12_put_31 ?_
    refine lv_aload_n hx hb dX12_put_34 rfl (lv_at hl 0 rfl) ?_
    refine va_get (D := (dC, dI)) (ci := 11) (v := .int 0) (C := RX12) (T := TX12) (N := 32) hx hb hts (by decide +kernel) hown hK hP 0 rfl rfl 12 (by decide) (hts (.fieldLink RX12 69 "NeededListsModel" "many" "I") (by decide +kernel)) (fun _ h9 => h9) rfl dX12_put_35 ?_
    refine lv_lload_n hx hb dX12_put_38 rfl (lv_at hl 1 rfl) ?_
    refine va_last hx hb hK hP hD hS 2 1 rfl rfl (nd_in (i := 0) (n := 100) (by decide)) dX12_put_39 (fun H locs hP hD hS => ?_)
    obtain ⟨f_2, ef_2⟩ : ∃ z, z = vp_updL f14 ((0 : Int32).toNatClampNeg) p0 := ⟨_, rfl⟩
    have hP : va_P (dC, dI) vwCl [(g0, .inr (11, mF a 0 0 1000 0)), (a 13, .inl (ca 13, 100, .inl (f_1))), (a 14, .inl (ca 14, 100, .inr (.inl (vp_updL f14 ((0 : Int32).toNatClampNeg) p0))))] H := hP
    have hD : va_D A [(g0, .inr (11, mF a 0 0 1000 0)), (a 13, .inl (ca 13, 100, .inl (f_1))), (a 14, .inl (ca 14, 100, .inr (.inl (vp_updL f14 ((0 : Int32).toNatClampNeg) p0))))] := hD
    rw [← ef_2] at hP hD
    refine lv_aload_n hx hb dX12_put_40 rfl (lv_at hl 0 rfl) ?_
    refine lv_dup hx hb dX12_put_41 rfl ?_
    refine va_get (D := (dC, dI)) (ci := 11) (v := .int 0) (C := RX12) (T := TX12) (N := 32) hx hb hts (by decide +kernel) hown hK hP 0 rfl rfl 12 (by decide) (hts (.fieldLink RX12 69 "NeededListsModel" "many" "I") (by decide +kernel)) (fun _ h9 => h9) rfl dX12_put_42 ?_
    refine lv_iconst (v := 1) hx hb dX12_put_45 (by decide) ?_
    refine lv_iadd hx hb dX12_put_46 ?_
    refine lv_topi (fun z_3 ez_3 => ?_)
    obtain rfl : z_3 = 1 := ez_3.trans (by decide)
    refine va_put (D := (dC, dI)) (ci := 11) (v := .int 1) (ty := .int) (C := RX12) (T := TX12) (N := 32) hx hb hts (by decide +kernel) tyX12 tyX12_ok nmX12 hown hK hP hD hS 0 rfl rfl 12 (by decide) (hts (.fieldLink RX12 69 "NeededListsModel" "many" "I") (by decide +kernel)) (fun _ h9 => h9) rfl (by decide +kernel) rfl rfl (Nat.le_of_ble_eq_true rfl) dX12_put_47 (fun H locs hP hD hS => ?_)
    have hP : va_P (dC, dI) vwCl [(g0, .inr (11, mF a 0 1 1000 0)), (a 13, .inl (ca 13, 100, .inl (f_1))), (a 14, .inl (ca 14, 100, .inr (.inl (f_2))))] H := hP
    have hD : va_D A [(g0, .inr (11, mF a 0 1 1000 0)), (a 13, .inl (ca 13, 100, .inl (f_1))), (a 14, .inl (ca 14, 100, .inr (.inl (f_2))))] := hD
    refine lv_aload_n hx hb dX12_put_50 rfl (lv_at hl 0 rfl) ?_
    refine va_get (D := (dC, dI)) (ci := 11) (v := .int 1) (C := RX12) (T := TX12) (N := 32) hx hb hts (by decide +kernel) hown hK hP 0 rfl rfl 12 (by decide) (hts (.fieldLink RX12 69 "NeededListsModel" "many" "I") (by decide +kernel)) (fun _ h9 => h9) rfl dX12_put_51 ?_
    refine W.widen (k := 0) (n := 0) (by decide +kernel) (by decide +kernel) ?_
    have hP9 := hP.sub (ws' := [(g0, .inr (11, mF a 0 1 1000 0))]) [0] rfl
    have hD9 := hD.sub (ws' := [(g0, .inr (11, mF a 0 1 1000 0))]) [0] (by decide) rfl
    have hK9 := hK.sub (tys' := []) [] rfl
    exact W.iret (v := 1) hx hb hr (fun t ht hW => ⟨⟨1, (0, 1, 1000, 0), rfl, ⟨rfl, fun _ => rfl⟩, by rw [ht]; exact hP9, va_K.moved hW.alike hK9, hD9⟩, hS.F ht⟩) hS.2.2 dX12_put_54
  · exact absurd c_11 (by decide)
set_option maxHeartbeats 4000000 in
set_option maxRecDepth 100000 in
theorem c_X12_hole (l : Launch) (dC : Nat → ClassId) (dI : Nat → Nat → Nat) (a : Nat → Nat) (g0 : Nat) (ca : Nat → ClassId) (f13 : Nat → Int32) (p0 : Int32) (sz : Nat) : Met l yX12_hole wsX12_hole ({ frames := 20, cells := 0, slots := 0, locals := 600 }) (va_Pc [.ref g0, .int p0] (fun U => U.heap.size = sz ∧ va_P (dC, dI) vwCl [(g0, .inr (11, mF a 0 0 1000 0)), (a 13, .inl (ca 13, 100, .inl (f13)))] U.heap ∧ va_K (dC, dI) vwCl [(ca 13, .int)] U ∧ va_D (fun _ => True) [(g0, .inr (11, mF a 0 0 1000 0)), (a 13, .inl (ca 13, 100, .inl (f13)))])) (va_Qi (fun (r : Int32) (u : Int32 × Int32 × Int32 × Int32) => u.2.2.2 = kHole p0 ∧ (kHole p0 = 0 → r = 1)) (fun (u : Int32 × Int32 × Int32 × Int32) (t : State) => va_P (dC, dI) vwCl [(g0, .inr (11, mF a u.1 u.2.1 u.2.2.1 u.2.2.2))] t.heap ∧ va_K (dC, dI) vwCl [] t ∧ va_D (va_A [(g0, .inr (11, mF a 0 0 1000 0)), (a 13, .inl (ca 13, 100, .inl (f13)))] sz) [(g0, .inr (11, mF a u.1 u.2.1 u.2.2.1 u.2.2.2))]) (va_A [(g0, .inr (11, mF a 0 0 1000 0)), (a 13, .inl (ca 13, 100, .inl (f13)))] sz)) 0 0 (va_A [(g0, .inr (11, mF a 0 0 1000 0)), (a 13, .inl (ca 13, 100, .inl (f13)))] sz) := by
  refine Met.ofW (cc := cX12_hole) (maxL := 2) (ret := (some .int)) (by decide) rfl ?_
  intro p e s m args below meth c s₁ B hml hv
  obtain ⟨rfl, hsz, hP, hK, hD0⟩ := hv
  have hx := B.exec
  have hb := B.bytes
  have hr := B.returns
  have hts := atoms_spec (ws := wsX12_hole) B.pre
  have hown : s.vm.findClass RX12 = some m.cls := findClass_of_methodNamed B.named
  have hlocks := B.notSynchronized
  subst hsz
  have hD := hD0.self (sz := s.heap.size)
  generalize hAe : va_A [(g0, .inr (11, mF a 0 0 1000 0)), (a 13, .inl (ca 13, 100, .inl (f13)))] s.heap.size = A at hD ⊢
  have hA : ∀ q : Nat, s.heap.size ≤ q → A q := fun q h => by rw [← hAe]; exact Or.inr h
  generalize hH : s.heap = H at hP ⊢
  have hS : va_S A s.heap H [] := by rw [← hH]; exact va_S.rf
  have hl := lv_entry [.ref g0, .int p0] (n := 2) (Nat.le_of_ble_eq_true rfl)
  rw [lg_entry_eq]
  generalize (lg_sl [.ref g0, .int p0] ++ List.replicate (2 - (lg_sl [.ref g0, .int p0]).length) Slot.unset).toArray = ls at hl ⊢
  have hl : lv_has ls 2 [(0, .ref g0), (1, .int p0)] := hl
  have hP : va_P (dC, dI) vwCl [(g0, .inr (11, mF a 0 0 1000 0)), (a 13, .inl (ca 13, 100, .inl (f13)))] H := hP
  refine lv_aload_n hx hb dX12_hole_0 rfl (lv_at hl 0 rfl) ?_
  refine lv_iconst (v := 0) hx hb dX12_hole_1 (by decide) ?_
  refine va_put (D := (dC, dI)) (ci := 11) (v := .int 0) (ty := .int) (C := RX12) (T := TX12) (N := 32) hx hb hts (by decide +kernel) tyX12 tyX12_ok nmX12 hown hK hP hD hS 0 rfl rfl 19 (by decide) (hts (.fieldLink RX12 63 "NeededListsModel" "thrown" "I") (by decide +kernel)) (fun _ h9 => h9) rfl (by decide +kernel) rfl rfl (Nat.le_of_ble_eq_true rfl) dX12_hole_2 (fun H locs hP hD hS => ?_)
  have hP : va_P (dC, dI) vwCl [(g0, .inr (11, mF a 0 0 1000 0)), (a 13, .inl (ca 13, 100, .inl (f13)))] H := hP
  have hD : va_D A [(g0, .inr (11, mF a 0 0 1000 0)), (a 13, .inl (ca 13, 100, .inl (f13)))] := hD
  refine lv_iload_n hx hb dX12_hole_5 rfl (lv_at hl 1 rfl) ?_
  refine lv_if_eq (tgt := 20) hx hb dX12_hole_6 (by decide) (fun c_6 => ?_) (fun c_6 => ?_)
  · refine lv_aload_n hx hb dX12_hole_20 rfl (lv_at hl 0 rfl) ?_
    refine va_get (D := (dC, dI)) (ci := 11) (v := .int 0) (C := RX12) (T := TX12) (N := 32) hx hb hts (by decide +kernel) hown hK hP 0 rfl rfl 12 (by decide) (hts (.fieldLink RX12 69 "NeededListsModel" "many" "I") (by decide +kernel)) (fun _ h9 => h9) rfl dX12_hole_21 ?_
    refine lv_bipush (v := 100) hx hb dX12_hole_24 (by decide) ?_
    refine lv_icmp_ne (tgt := 35) hx hb dX12_hole_26 (by decide) (fun c_26 => ?_) (fun c_26 => ?_)
    · refine lv_aload_n hx hb dX12_hole_35 rfl (lv_at hl 0 rfl) ?_
      refine va_get (D := (dC, dI)) (ci := 11) (v := .ref (a 13)) (C := RX12) (T := TX12) (N := 32) hx hb hts (by decide +kernel) hown hK hP 0 rfl rfl 13 (by decide) (hts (.fieldLink RX12 44 "NeededListsModel" "rowItem" "[I") (by decide +kernel)) (fun _ h9 => h9) rfl dX12_hole_36 ?_
      refine lv_aload_n hx hb dX12_hole_39 rfl (lv_at hl 0 rfl) ?_
      refine va_get (D := (dC, dI)) (ci := 11) (v := .int 0) (C := RX12) (T := TX12) (N := 32) hx hb hts (by decide +kernel) hown hK hP 0 rfl rfl 12 (by decide) (hts (.fieldLink RX12 69 "NeededListsModel" "many" "I") (by decide +kernel)) (fun _ h9 => h9) rfl dX12_hole_40 ?_
      refine lv_iload_n hx hb dX12_hole_43 rfl (lv_at hl 1 rfl) ?_
      refine lv_if_ne (tgt := 51) hx hb dX12_hole_44 (by decide) (fun c_44 => ?_) (fun c_44 => ?_)
      · refine lv_bipush (v := 7) hx hb dX12_hole_51 (by decide) ?_
        refine va_iast hx hb hK hP hD hS 1 0 rfl rfl (nd_in (i := 0) (n := 100) (by decide)) dX12_hole_53 (fun H locs hP hD hS => ?_)
        obtain ⟨f_1, ef_1⟩ : ∃ z, z = upd f13 ((0 : Int32).toNatClampNeg) 7 := ⟨_, rfl⟩
        have hP : va_P (dC, dI) vwCl [(g0, .inr (11, mF a 0 0 1000 0)), (a 13, .inl (ca 13, 100, .inl (upd f13 ((0 : Int32).toNatClampNeg) 7)))] H := hP
        have hD : va_D A [(g0, .inr (11, mF a 0 0 1000 0)), (a 13, .inl (ca 13, 100, .inl (upd f13 ((0 : Int32).toNatClampNeg) 7)))] := hD
        rw [← ef_1] at hP hD
        refine lv_aload_n hx hb dX12_hole_54 rfl (lv_at hl 0 rfl) ?_
        refine lv_dup hx hb dX12_hole_55 rfl ?_
        refine va_get (D := (dC, dI)) (ci := 11) (v := .int 0) (C := RX12) (T := TX12) (N := 32) hx hb hts (by decide +kernel) hown hK hP 0 rfl rfl 12 (by decide) (hts (.fieldLink RX12 69 "NeededListsModel" "many" "I") (by decide +kernel)) (fun _ h9 => h9) rfl dX12_hole_56 ?_
        refine lv_iconst (v := 1) hx hb dX12_hole_59 (by decide) ?_
        refine lv_iadd hx hb dX12_hole_60 ?_
        refine lv_topi (fun z_2 ez_2 => ?_)
        obtain rfl : z_2 = 1 := ez_2.trans (by decide)
        refine va_put (D := (dC, dI)) (ci := 11) (v := .int 1) (ty := .int) (C := RX12) (T := TX12) (N := 32) hx hb hts (by decide +kernel) tyX12 tyX12_ok nmX12 hown hK hP hD hS 0 rfl rfl 12 (by decide) (hts (.fieldLink RX12 69 "NeededListsModel" "many" "I") (by decide +kernel)) (fun _ h9 => h9) rfl (by decide +kernel) rfl rfl (Nat.le_of_ble_eq_true rfl) dX12_hole_61 (fun H locs hP hD hS => ?_)
        have hP : va_P (dC, dI) vwCl [(g0, .inr (11, mF a 0 1 1000 0)), (a 13, .inl (ca 13, 100, .inl (f_1)))] H := hP
        have hD : va_D A [(g0, .inr (11, mF a 0 1 1000 0)), (a 13, .inl (ca 13, 100, .inl (f_1)))] := hD
        refine lv_aload_n hx hb dX12_hole_64 rfl (lv_at hl 0 rfl) ?_
        refine va_get (D := (dC, dI)) (ci := 11) (v := .int 1) (C := RX12) (T := TX12) (N := 32) hx hb hts (by decide +kernel) hown hK hP 0 rfl rfl 12 (by decide) (hts (.fieldLink RX12 69 "NeededListsModel" "many" "I") (by decide +kernel)) (fun _ h9 => h9) rfl dX12_hole_65 ?_
        refine W.widen (k := 0) (n := 0) (by decide +kernel) (by decide +kernel) ?_
        have hP9 := hP.sub (ws' := [(g0, .inr (11, mF a 0 1 1000 0))]) [0] rfl
        have hD9 := hD.sub (ws' := [(g0, .inr (11, mF a 0 1 1000 0))]) [0] (by decide) rfl
        have hK9 := hK.sub (tys' := []) [] rfl
        exact W.iret (v := 1) hx hb hr (fun t ht hW => ⟨⟨1, (0, 1, 1000, 0), rfl, ⟨(if_pos c_6).symm, fun _ => rfl⟩, by rw [ht]; exact hP9, va_K.moved hW.alike hK9, hD9⟩, hS.F ht⟩) hS.2.2 dX12_hole_68
      · refine lv_iconst (v := 3) hx hb dX12_hole_47 (by decide) ?_
        refine lv_goto (tgt := 53) hx hb dX12_hole_48 (by decide) ?_
        refine va_iast hx hb hK hP hD hS 1 0 rfl rfl (nd_in (i := 0) (n := 100) (by decide)) dX12_hole_53 (fun H locs hP hD hS => ?_)
        obtain ⟨f_3, ef_3⟩ : ∃ z, z = upd f13 ((0 : Int32).toNatClampNeg) 3 := ⟨_, rfl⟩
        have hP : va_P (dC, dI) vwCl [(g0, .inr (11, mF a 0 0 1000 0)), (a 13, .inl (ca 13, 100, .inl (upd f13 ((0 : Int32).toNatClampNeg) 3)))] H := hP
        have hD : va_D A [(g0, .inr (11, mF a 0 0 1000 0)), (a 13, .inl (ca 13, 100, .inl (upd f13 ((0 : Int32).toNatClampNeg) 3)))] := hD
        rw [← ef_3] at hP hD
        refine lv_aload_n hx hb dX12_hole_54 rfl (lv_at hl 0 rfl) ?_
        refine lv_dup hx hb dX12_hole_55 rfl ?_
        refine va_get (D := (dC, dI)) (ci := 11) (v := .int 0) (C := RX12) (T := TX12) (N := 32) hx hb hts (by decide +kernel) hown hK hP 0 rfl rfl 12 (by decide) (hts (.fieldLink RX12 69 "NeededListsModel" "many" "I") (by decide +kernel)) (fun _ h9 => h9) rfl dX12_hole_56 ?_
        refine lv_iconst (v := 1) hx hb dX12_hole_59 (by decide) ?_
        refine lv_iadd hx hb dX12_hole_60 ?_
        refine lv_topi (fun z_4 ez_4 => ?_)
        obtain rfl : z_4 = 1 := ez_4.trans (by decide)
        refine va_put (D := (dC, dI)) (ci := 11) (v := .int 1) (ty := .int) (C := RX12) (T := TX12) (N := 32) hx hb hts (by decide +kernel) tyX12 tyX12_ok nmX12 hown hK hP hD hS 0 rfl rfl 12 (by decide) (hts (.fieldLink RX12 69 "NeededListsModel" "many" "I") (by decide +kernel)) (fun _ h9 => h9) rfl (by decide +kernel) rfl rfl (Nat.le_of_ble_eq_true rfl) dX12_hole_61 (fun H locs hP hD hS => ?_)
        have hP : va_P (dC, dI) vwCl [(g0, .inr (11, mF a 0 1 1000 0)), (a 13, .inl (ca 13, 100, .inl (f_3)))] H := hP
        have hD : va_D A [(g0, .inr (11, mF a 0 1 1000 0)), (a 13, .inl (ca 13, 100, .inl (f_3)))] := hD
        refine lv_aload_n hx hb dX12_hole_64 rfl (lv_at hl 0 rfl) ?_
        refine va_get (D := (dC, dI)) (ci := 11) (v := .int 1) (C := RX12) (T := TX12) (N := 32) hx hb hts (by decide +kernel) hown hK hP 0 rfl rfl 12 (by decide) (hts (.fieldLink RX12 69 "NeededListsModel" "many" "I") (by decide +kernel)) (fun _ h9 => h9) rfl dX12_hole_65 ?_
        refine W.widen (k := 0) (n := 0) (by decide +kernel) (by decide +kernel) ?_
        have hP9 := hP.sub (ws' := [(g0, .inr (11, mF a 0 1 1000 0))]) [0] rfl
        have hD9 := hD.sub (ws' := [(g0, .inr (11, mF a 0 1 1000 0))]) [0] (by decide) rfl
        have hK9 := hK.sub (tys' := []) [] rfl
        exact W.iret (v := 1) hx hb hr (fun t ht hW => ⟨⟨1, (0, 1, 1000, 0), rfl, ⟨(if_pos c_6).symm, fun _ => rfl⟩, by rw [ht]; exact hP9, va_K.moved hW.alike hK9, hD9⟩, hS.F ht⟩) hS.2.2 dX12_hole_68
    · exact absurd c_26 (by decide)
  · refine lv_iload_n hx hb dX12_hole_9 rfl (lv_at hl 1 rfl) ?_
    refine lv_iconst (v := 1) hx hb dX12_hole_10 (by decide) ?_
    refine lv_icmp_eq (tgt := 20) hx hb dX12_hole_11 (by decide) (fun c_11 => ?_) (fun c_11 => ?_)
    · refine lv_aload_n hx hb dX12_hole_20 rfl (lv_at hl 0 rfl) ?_
      refine va_get (D := (dC, dI)) (ci := 11) (v := .int 0) (C := RX12) (T := TX12) (N := 32) hx hb hts (by decide +kernel) hown hK hP 0 rfl rfl 12 (by decide) (hts (.fieldLink RX12 69 "NeededListsModel" "many" "I") (by decide +kernel)) (fun _ h9 => h9) rfl dX12_hole_21 ?_
      refine lv_bipush (v := 100) hx hb dX12_hole_24 (by decide) ?_
      refine lv_icmp_ne (tgt := 35) hx hb dX12_hole_26 (by decide) (fun c_26 => ?_) (fun c_26 => ?_)
      · refine lv_aload_n hx hb dX12_hole_35 rfl (lv_at hl 0 rfl) ?_
        refine va_get (D := (dC, dI)) (ci := 11) (v := .ref (a 13)) (C := RX12) (T := TX12) (N := 32) hx hb hts (by decide +kernel) hown hK hP 0 rfl rfl 13 (by decide) (hts (.fieldLink RX12 44 "NeededListsModel" "rowItem" "[I") (by decide +kernel)) (fun _ h9 => h9) rfl dX12_hole_36 ?_
        refine lv_aload_n hx hb dX12_hole_39 rfl (lv_at hl 0 rfl) ?_
        refine va_get (D := (dC, dI)) (ci := 11) (v := .int 0) (C := RX12) (T := TX12) (N := 32) hx hb hts (by decide +kernel) hown hK hP 0 rfl rfl 12 (by decide) (hts (.fieldLink RX12 69 "NeededListsModel" "many" "I") (by decide +kernel)) (fun _ h9 => h9) rfl dX12_hole_40 ?_
        refine lv_iload_n hx hb dX12_hole_43 rfl (lv_at hl 1 rfl) ?_
        refine lv_if_ne (tgt := 51) hx hb dX12_hole_44 (by decide) (fun c_44 => ?_) (fun c_44 => ?_)
        · refine lv_bipush (v := 7) hx hb dX12_hole_51 (by decide) ?_
          refine va_iast hx hb hK hP hD hS 1 0 rfl rfl (nd_in (i := 0) (n := 100) (by decide)) dX12_hole_53 (fun H locs hP hD hS => ?_)
          obtain ⟨f_1, ef_1⟩ : ∃ z, z = upd f13 ((0 : Int32).toNatClampNeg) 7 := ⟨_, rfl⟩
          have hP : va_P (dC, dI) vwCl [(g0, .inr (11, mF a 0 0 1000 0)), (a 13, .inl (ca 13, 100, .inl (upd f13 ((0 : Int32).toNatClampNeg) 7)))] H := hP
          have hD : va_D A [(g0, .inr (11, mF a 0 0 1000 0)), (a 13, .inl (ca 13, 100, .inl (upd f13 ((0 : Int32).toNatClampNeg) 7)))] := hD
          rw [← ef_1] at hP hD
          refine lv_aload_n hx hb dX12_hole_54 rfl (lv_at hl 0 rfl) ?_
          refine lv_dup hx hb dX12_hole_55 rfl ?_
          refine va_get (D := (dC, dI)) (ci := 11) (v := .int 0) (C := RX12) (T := TX12) (N := 32) hx hb hts (by decide +kernel) hown hK hP 0 rfl rfl 12 (by decide) (hts (.fieldLink RX12 69 "NeededListsModel" "many" "I") (by decide +kernel)) (fun _ h9 => h9) rfl dX12_hole_56 ?_
          refine lv_iconst (v := 1) hx hb dX12_hole_59 (by decide) ?_
          refine lv_iadd hx hb dX12_hole_60 ?_
          refine lv_topi (fun z_2 ez_2 => ?_)
          obtain rfl : z_2 = 1 := ez_2.trans (by decide)
          refine va_put (D := (dC, dI)) (ci := 11) (v := .int 1) (ty := .int) (C := RX12) (T := TX12) (N := 32) hx hb hts (by decide +kernel) tyX12 tyX12_ok nmX12 hown hK hP hD hS 0 rfl rfl 12 (by decide) (hts (.fieldLink RX12 69 "NeededListsModel" "many" "I") (by decide +kernel)) (fun _ h9 => h9) rfl (by decide +kernel) rfl rfl (Nat.le_of_ble_eq_true rfl) dX12_hole_61 (fun H locs hP hD hS => ?_)
          have hP : va_P (dC, dI) vwCl [(g0, .inr (11, mF a 0 1 1000 0)), (a 13, .inl (ca 13, 100, .inl (f_1)))] H := hP
          have hD : va_D A [(g0, .inr (11, mF a 0 1 1000 0)), (a 13, .inl (ca 13, 100, .inl (f_1)))] := hD
          refine lv_aload_n hx hb dX12_hole_64 rfl (lv_at hl 0 rfl) ?_
          refine va_get (D := (dC, dI)) (ci := 11) (v := .int 1) (C := RX12) (T := TX12) (N := 32) hx hb hts (by decide +kernel) hown hK hP 0 rfl rfl 12 (by decide) (hts (.fieldLink RX12 69 "NeededListsModel" "many" "I") (by decide +kernel)) (fun _ h9 => h9) rfl dX12_hole_65 ?_
          refine W.widen (k := 0) (n := 0) (by decide +kernel) (by decide +kernel) ?_
          have hP9 := hP.sub (ws' := [(g0, .inr (11, mF a 0 1 1000 0))]) [0] rfl
          have hD9 := hD.sub (ws' := [(g0, .inr (11, mF a 0 1 1000 0))]) [0] (by decide) rfl
          have hK9 := hK.sub (tys' := []) [] rfl
          exact W.iret (v := 1) hx hb hr (fun t ht hW => ⟨⟨1, (0, 1, 1000, 0), rfl, ⟨((if_neg c_6).trans (if_pos c_11)).symm, fun _ => rfl⟩, by rw [ht]; exact hP9, va_K.moved hW.alike hK9, hD9⟩, hS.F ht⟩) hS.2.2 dX12_hole_68
        · refine lv_iconst (v := 3) hx hb dX12_hole_47 (by decide) ?_
          refine lv_goto (tgt := 53) hx hb dX12_hole_48 (by decide) ?_
          refine va_iast hx hb hK hP hD hS 1 0 rfl rfl (nd_in (i := 0) (n := 100) (by decide)) dX12_hole_53 (fun H locs hP hD hS => ?_)
          obtain ⟨f_3, ef_3⟩ : ∃ z, z = upd f13 ((0 : Int32).toNatClampNeg) 3 := ⟨_, rfl⟩
          have hP : va_P (dC, dI) vwCl [(g0, .inr (11, mF a 0 0 1000 0)), (a 13, .inl (ca 13, 100, .inl (upd f13 ((0 : Int32).toNatClampNeg) 3)))] H := hP
          have hD : va_D A [(g0, .inr (11, mF a 0 0 1000 0)), (a 13, .inl (ca 13, 100, .inl (upd f13 ((0 : Int32).toNatClampNeg) 3)))] := hD
          rw [← ef_3] at hP hD
          refine lv_aload_n hx hb dX12_hole_54 rfl (lv_at hl 0 rfl) ?_
          refine lv_dup hx hb dX12_hole_55 rfl ?_
          refine va_get (D := (dC, dI)) (ci := 11) (v := .int 0) (C := RX12) (T := TX12) (N := 32) hx hb hts (by decide +kernel) hown hK hP 0 rfl rfl 12 (by decide) (hts (.fieldLink RX12 69 "NeededListsModel" "many" "I") (by decide +kernel)) (fun _ h9 => h9) rfl dX12_hole_56 ?_
          refine lv_iconst (v := 1) hx hb dX12_hole_59 (by decide) ?_
          refine lv_iadd hx hb dX12_hole_60 ?_
          refine lv_topi (fun z_4 ez_4 => ?_)
          obtain rfl : z_4 = 1 := ez_4.trans (by decide)
          refine va_put (D := (dC, dI)) (ci := 11) (v := .int 1) (ty := .int) (C := RX12) (T := TX12) (N := 32) hx hb hts (by decide +kernel) tyX12 tyX12_ok nmX12 hown hK hP hD hS 0 rfl rfl 12 (by decide) (hts (.fieldLink RX12 69 "NeededListsModel" "many" "I") (by decide +kernel)) (fun _ h9 => h9) rfl (by decide +kernel) rfl rfl (Nat.le_of_ble_eq_true rfl) dX12_hole_61 (fun H locs hP hD hS => ?_)
          have hP : va_P (dC, dI) vwCl [(g0, .inr (11, mF a 0 1 1000 0)), (a 13, .inl (ca 13, 100, .inl (f_3)))] H := hP
          have hD : va_D A [(g0, .inr (11, mF a 0 1 1000 0)), (a 13, .inl (ca 13, 100, .inl (f_3)))] := hD
          refine lv_aload_n hx hb dX12_hole_64 rfl (lv_at hl 0 rfl) ?_
          refine va_get (D := (dC, dI)) (ci := 11) (v := .int 1) (C := RX12) (T := TX12) (N := 32) hx hb hts (by decide +kernel) hown hK hP 0 rfl rfl 12 (by decide) (hts (.fieldLink RX12 69 "NeededListsModel" "many" "I") (by decide +kernel)) (fun _ h9 => h9) rfl dX12_hole_65 ?_
          refine W.widen (k := 0) (n := 0) (by decide +kernel) (by decide +kernel) ?_
          have hP9 := hP.sub (ws' := [(g0, .inr (11, mF a 0 1 1000 0))]) [0] rfl
          have hD9 := hD.sub (ws' := [(g0, .inr (11, mF a 0 1 1000 0))]) [0] (by decide) rfl
          have hK9 := hK.sub (tys' := []) [] rfl
          exact W.iret (v := 1) hx hb hr (fun t ht hW => ⟨⟨1, (0, 1, 1000, 0), rfl, ⟨((if_neg c_6).trans (if_pos c_11)).symm, fun _ => rfl⟩, by rw [ht]; exact hP9, va_K.moved hW.alike hK9, hD9⟩, hS.F ht⟩) hS.2.2 dX12_hole_68
      · exact absurd c_26 (by decide)
    · refine lv_aload_n hx hb dX12_hole_14 rfl (lv_at hl 0 rfl) ?_
      refine lv_iconst (v := 1) hx hb dX12_hole_15 (by decide) ?_
      have hPc := hP.sub (ws' := [(g0, .inr (11, mF a 0 0 1000 0))]) [0] rfl
      have hDc := hD.sub (ws' := [(g0, .inr (11, mF a 0 0 1000 0))]) [0] (by decide) rfl
      have hKc := hK.sub (tys' := []) [] rfl
      have hFc := va_free (wc := [(g0, .inr (11, mF a 0 0 1000 0))]) hD hS hA [0] rfl
      refine va_calli (va_runV (As := [.int 1]) (rest := []) ⟨hx, hb, hml, hown, hts⟩ (c_X12_fail l dC dI a g0 0 0 1000 0 1 H.size) (cwV 1 hts gX12_hole_X12_fail rfl rfl rfl (by decide +kernel) ⟨Nat.le_of_ble_eq_true rfl, Nat.le_of_ble_eq_true rfl⟩) ⟨fun a U g mk q => by obtain ⟨q0, q1, qP, qK, qD⟩ := q; exact ⟨q0, q1, qP, va_K.moved (u := U) (U := U.calling g mk a) (Vm.Alike.refl U.vm) qK, qD⟩, va_recv hKc hPc (ci := 11) (q0 := 0) rfl rfl, fun U hU hW => ⟨rfl, by rw [hU], by rw [hU]; exact hPc, va_K.moved hW.alike hKc, hDc.weaken (fun _ _ _ _ => trivial)⟩⟩ rfl rfl hl.1 rfl (lv_room (Nat.le_of_ble_eq_true rfl)) dX12_hole_16 ⟨Nat.le_of_ble_eq_true rfl, Nat.le_of_ble_eq_true rfl⟩) hS (fun q _ h => hFc q h) hFc (fun r_1 u_2 t H1 locs ht hvm hw hB hz1 hk1 hS => ?_)
      obtain ⟨hP1, hK1, hD1⟩ := hB
      rw [ht] at hP1
      have hK1 := va_K.moved hvm.symm hK1
      have hK := hK.app hK1
      obtain ⟨hP, hD⟩ := va_join (wr := [(a 13, .inl (ca 13, 100, .inl (f13)))]) (w1 := [(g0, .inr (11, mF a 0 0 1000 1))]) hP hD [0] [1] rfl rfl (by decide) (by decide) hk1 hFc hP1 hD1
      generalize H1 = H at hP hS ⊢
      have hP : va_P (dC, dI) vwCl [(a 13, .inl (ca 13, 100, .inl (f13))), (g0, .inr (11, mF a 0 0 1000 1))] H := hP
      have hD : va_D A [(a 13, .inl (ca 13, 100, .inl (f13))), (g0, .inr (11, mF a 0 0 1000 1))] := hD
      have hK : va_K (dC, dI) vwCl [(ca 13, .int)] s := hK
      refine W.widen (k := 0) (n := 0) (by decide +kernel) (by decide +kernel) ?_
      obtain rfl : r_1 = 0 := hw
      refine W.widen (k := 0) (n := 0) (by decide +kernel) (by decide +kernel) ?_
      have hP9 := hP.sub (ws' := [(g0, .inr (11, mF a 0 0 1000 1))]) [1] rfl
      have hD9 := hD.sub (ws' := [(g0, .inr (11, mF a 0 0 1000 1))]) [1] (by decide) rfl
      have hK9 := hK.sub (tys' := []) [] rfl
      exact W.iret (v := 0) hx hb hr (fun t ht hW => ⟨⟨0, (0, 0, 1000, 1), rfl, ⟨((if_neg c_6).trans (if_neg c_11)).symm, fun h => absurd (((if_neg c_6).trans (if_neg c_11)).symm.trans h) (by decide)⟩, by rw [ht]; exact hP9, va_K.moved hW.alike hK9, hD9⟩, hS.F ht⟩) hS.2.2 dX12_hole_19
set_option maxHeartbeats 4000000 in
set_option maxRecDepth 100000 in
theorem c_X12_given (l : Launch) (dC : Nat → ClassId) (dI : Nat → Nat → Nat) (a : Nat → Nat) (g0 : Nat) (ca : Nat → ClassId) (f1 : Nat → Int32) (f2 : Nat → Int32) (f3 : Nat → Int32) (f4 : Nat → Int32) (f5 : Nat → Int64) (f6 : Nat → Int64) (p0 : Int32) (sz : Nat) : Met l yX12_given wsX12_given ({ frames := 20, cells := 0, slots := 0, locals := 600 }) (va_Pc [.ref g0, .int p0] (fun U => U.heap.size = sz ∧ va_P (dC, dI) vwCl [(g0, .inr (11, mF a 0 0 1000 0)), (a 1, .inl (ca 1, 24, .inl (f1))), (a 2, .inl (ca 2, 24, .inl (f2))), (a 3, .inl (ca 3, 24, .inl (f3))), (a 4, .inl (ca 4, 24, .inl (f4))), (a 5, .inl (ca 5, 24, .inr (.inl (f5)))), (a 6, .inl (ca 6, 24, .inr (.inl (f6))))] U.heap ∧ va_K (dC, dI) vwCl [(ca 1, .int), (ca 2, .int), (ca 3, .int), (ca 4, .int), (ca 5, .long), (ca 6, .long)] U ∧ va_D (fun _ => True) [(g0, .inr (11, mF a 0 0 1000 0)), (a 1, .inl (ca 1, 24, .inl (f1))), (a 2, .inl (ca 2, 24, .inl (f2))), (a 3, .inl (ca 3, 24, .inl (f3))), (a 4, .inl (ca 4, 24, .inl (f4))), (a 5, .inl (ca 5, 24, .inr (.inl (f5)))), (a 6, .inl (ca 6, 24, .inr (.inl (f6))))])) (va_Qi (fun (r : Int32) (u : Int32 × Int32 × Int32 × Int32) => u.2.2.2 = 0 ∧ (0 = 0 → r = 0)) (fun (u : Int32 × Int32 × Int32 × Int32) (t : State) => va_P (dC, dI) vwCl [(g0, .inr (11, mF a u.1 u.2.1 u.2.2.1 u.2.2.2))] t.heap ∧ va_K (dC, dI) vwCl [] t ∧ va_D (va_A [(g0, .inr (11, mF a 0 0 1000 0)), (a 1, .inl (ca 1, 24, .inl (f1))), (a 2, .inl (ca 2, 24, .inl (f2))), (a 3, .inl (ca 3, 24, .inl (f3))), (a 4, .inl (ca 4, 24, .inl (f4))), (a 5, .inl (ca 5, 24, .inr (.inl (f5)))), (a 6, .inl (ca 6, 24, .inr (.inl (f6))))] sz) [(g0, .inr (11, mF a u.1 u.2.1 u.2.2.1 u.2.2.2))]) (va_A [(g0, .inr (11, mF a 0 0 1000 0)), (a 1, .inl (ca 1, 24, .inl (f1))), (a 2, .inl (ca 2, 24, .inl (f2))), (a 3, .inl (ca 3, 24, .inl (f3))), (a 4, .inl (ca 4, 24, .inl (f4))), (a 5, .inl (ca 5, 24, .inr (.inl (f5)))), (a 6, .inl (ca 6, 24, .inr (.inl (f6))))] sz)) 0 0 (va_A [(g0, .inr (11, mF a 0 0 1000 0)), (a 1, .inl (ca 1, 24, .inl (f1))), (a 2, .inl (ca 2, 24, .inl (f2))), (a 3, .inl (ca 3, 24, .inl (f3))), (a 4, .inl (ca 4, 24, .inl (f4))), (a 5, .inl (ca 5, 24, .inr (.inl (f5)))), (a 6, .inl (ca 6, 24, .inr (.inl (f6))))] sz) := by
  refine Met.ofW (cc := cX12_given) (maxL := 3) (ret := (some .int)) (by decide) rfl ?_
  intro p e s m args below meth c s₁ B hml hv
  obtain ⟨rfl, hsz, hP, hK, hD0⟩ := hv
  have hx := B.exec
  have hb := B.bytes
  have hr := B.returns
  have hts := atoms_spec (ws := wsX12_given) B.pre
  have hown : s.vm.findClass RX12 = some m.cls := findClass_of_methodNamed B.named
  have hlocks := B.notSynchronized
  subst hsz
  have hD := hD0.self (sz := s.heap.size)
  generalize hAe : va_A [(g0, .inr (11, mF a 0 0 1000 0)), (a 1, .inl (ca 1, 24, .inl (f1))), (a 2, .inl (ca 2, 24, .inl (f2))), (a 3, .inl (ca 3, 24, .inl (f3))), (a 4, .inl (ca 4, 24, .inl (f4))), (a 5, .inl (ca 5, 24, .inr (.inl (f5)))), (a 6, .inl (ca 6, 24, .inr (.inl (f6))))] s.heap.size = A at hD ⊢
  have hA : ∀ q : Nat, s.heap.size ≤ q → A q := fun q h => by rw [← hAe]; exact Or.inr h
  generalize hH : s.heap = H at hP ⊢
  have hS : va_S A s.heap H [] := by rw [← hH]; exact va_S.rf
  have hl := lv_entry [.ref g0, .int p0] (n := 3) (Nat.le_of_ble_eq_true rfl)
  rw [lg_entry_eq]
  generalize (lg_sl [.ref g0, .int p0] ++ List.replicate (3 - (lg_sl [.ref g0, .int p0]).length) Slot.unset).toArray = ls at hl ⊢
  have hl : lv_has ls 3 [(0, .ref g0), (1, .int p0)] := hl
  have hP : va_P (dC, dI) vwCl [(g0, .inr (11, mF a 0 0 1000 0)), (a 1, .inl (ca 1, 24, .inl (f1))), (a 2, .inl (ca 2, 24, .inl (f2))), (a 3, .inl (ca 3, 24, .inl (f3))), (a 4, .inl (ca 4, 24, .inl (f4))), (a 5, .inl (ca 5, 24, .inr (.inl (f5)))), (a 6, .inl (ca 6, 24, .inr (.inl (f6))))] H := hP
  refine lv_aload_n hx hb dX12_given_0 rfl (lv_at hl 0 rfl) ?_
  refine lv_iconst (v := 0) hx hb dX12_given_1 (by decide) ?_
  refine va_put (D := (dC, dI)) (ci := 11) (v := .int 0) (ty := .int) (C := RX12) (T := TX12) (N := 32) hx hb hts (by decide +kernel) tyX12 tyX12_ok nmX12 hown hK hP hD hS 0 rfl rfl 19 (by decide) (hts (.fieldLink RX12 63 "NeededListsModel" "thrown" "I") (by decide +kernel)) (fun _ h9 => h9) rfl (by decide +kernel) rfl rfl (Nat.le_of_ble_eq_true rfl) dX12_given_2 (fun H locs hP hD hS => ?_)
  have hP : va_P (dC, dI) vwCl [(g0, .inr (11, mF a 0 0 1000 0)), (a 1, .inl (ca 1, 24, .inl (f1))), (a 2, .inl (ca 2, 24, .inl (f2))), (a 3, .inl (ca 3, 24, .inl (f3))), (a 4, .inl (ca 4, 24, .inl (f4))), (a 5, .inl (ca 5, 24, .inr (.inl (f5)))), (a 6, .inl (ca 6, 24, .inr (.inl (f6))))] H := hP
  have hD : va_D A [(g0, .inr (11, mF a 0 0 1000 0)), (a 1, .inl (ca 1, 24, .inl (f1))), (a 2, .inl (ca 2, 24, .inl (f2))), (a 3, .inl (ca 3, 24, .inl (f3))), (a 4, .inl (ca 4, 24, .inl (f4))), (a 5, .inl (ca 5, 24, .inr (.inl (f5)))), (a 6, .inl (ca 6, 24, .inr (.inl (f6))))] := hD
  refine lv_aload_n hx hb dX12_given_5 rfl (lv_at hl 0 rfl) ?_
  refine va_get (D := (dC, dI)) (ci := 11) (v := .int 0) (C := RX12) (T := TX12) (N := 32) hx hb hts (by decide +kernel) hown hK hP 0 rfl rfl 0 (by decide) (hts (.fieldLink RX12 66 "NeededListsModel" "lists" "I") (by decide +kernel)) (fun _ h9 => h9) rfl dX12_given_6 ?_
  refine lv_bipush (v := 24) hx hb dX12_given_9 (by decide) ?_
  refine lv_icmp_ne (tgt := 20) hx hb dX12_given_11 (by decide) (fun c_11 => ?_) (fun c_11 => ?_)
  · refine lv_iconst (v := 0) hx hb dX12_given_20 (by decide) ?_
    refine lv_istore_n (lv' := [(2, .int 0), (0, .ref g0), (1, .int p0)]) hx hb dX12_given_21 rfl hl (by decide) rfl (fun ls hl => ?_)
    refine lv_iload_n hx hb dX12_given_22 rfl (lv_at hl 0 rfl) ?_
    refine lv_aload_n hx hb dX12_given_23 rfl (lv_at hl 1 rfl) ?_
    refine va_get (D := (dC, dI)) (ci := 11) (v := .int 0) (C := RX12) (T := TX12) (N := 32) hx hb hts (by decide +kernel) hown hK hP 0 rfl rfl 12 (by decide) (hts (.fieldLink RX12 69 "NeededListsModel" "many" "I") (by decide +kernel)) (fun _ h9 => h9) rfl dX12_given_24 ?_
    refine lv_icmp_ge (tgt := 76) hx hb dX12_given_27 (by decide) (fun c_27 => ?_) (fun c_27 => ?_)
    · refine lv_aload_n hx hb dX12_given_76 rfl (lv_at hl 1 rfl) ?_
      refine va_get (D := (dC, dI)) (ci := 11) (v := .int 0) (C := RX12) (T := TX12) (N := 32) hx hb hts (by decide +kernel) hown hK hP 0 rfl rfl 12 (by decide) (hts (.fieldLink RX12 69 "NeededListsModel" "many" "I") (by decide +kernel)) (fun _ h9 => h9) rfl dX12_given_77 ?_
      refine lv_istore_n (lv' := [(2, .int 0), (0, .ref g0), (1, .int p0)]) hx hb dX12_given_80 rfl hl (by decide) rfl (fun ls hl => ?_)
      refine lv_aload_n hx hb dX12_given_81 rfl (lv_at hl 1 rfl) ?_
      refine lv_iconst (v := 0) hx hb dX12_given_82 (by decide) ?_
      refine va_put (D := (dC, dI)) (ci := 11) (v := .int 0) (ty := .int) (C := RX12) (T := TX12) (N := 32) hx hb hts (by decide +kernel) tyX12 tyX12_ok nmX12 hown hK hP hD hS 0 rfl rfl 12 (by decide) (hts (.fieldLink RX12 69 "NeededListsModel" "many" "I") (by decide +kernel)) (fun _ h9 => h9) rfl (by decide +kernel) rfl rfl (Nat.le_of_ble_eq_true rfl) dX12_given_83 (fun H locs hP hD hS => ?_)
      have hP : va_P (dC, dI) vwCl [(g0, .inr (11, mF a 0 0 1000 0)), (a 1, .inl (ca 1, 24, .inl (f1))), (a 2, .inl (ca 2, 24, .inl (f2))), (a 3, .inl (ca 3, 24, .inl (f3))), (a 4, .inl (ca 4, 24, .inl (f4))), (a 5, .inl (ca 5, 24, .inr (.inl (f5)))), (a 6, .inl (ca 6, 24, .inr (.inl (f6))))] H := hP
      have hD : va_D A [(g0, .inr (11, mF a 0 0 1000 0)), (a 1, .inl (ca 1, 24, .inl (f1))), (a 2, .inl (ca 2, 24, .inl (f2))), (a 3, .inl (ca 3, 24, .inl (f3))), (a 4, .inl (ca 4, 24, .inl (f4))), (a 5, .inl (ca 5, 24, .inr (.inl (f5)))), (a 6, .inl (ca 6, 24, .inr (.inl (f6))))] := hD
      refine lv_aload_n hx hb dX12_given_86 rfl (lv_at hl 1 rfl) ?_
      refine lv_iconst (v := 0) hx hb dX12_given_87 (by decide) ?_
      refine lv_iload_n hx hb dX12_given_88 rfl (lv_at hl 0 rfl) ?_
      refine lv_iconst (v := 0) hx hb dX12_given_89 (by decide) ?_
      refine lv_iload_n hx hb dX12_given_90 rfl (lv_at hl 2 rfl) ?_
      refine lv_if_eq (tgt := 98) hx hb dX12_given_91 (by decide) (fun c_91 => ?_) (fun c_91 => ?_)
      · refine lv_iconst (v := 0) hx hb dX12_given_98 (by decide) ?_
        refine lv_lconst (v := 0) hx hb dX12_given_99 (by decide) ?_
        refine lv_lconst (v := 0) hx hb dX12_given_100 (by decide) ?_
        have hPc := hP.sub (ws' := [(g0, .inr (11, mF a 0 0 1000 0)), (a 1, .inl (ca 1, 24, .inl (f1))), (a 2, .inl (ca 2, 24, .inl (f2))), (a 3, .inl (ca 3, 24, .inl (f3))), (a 4, .inl (ca 4, 24, .inl (f4))), (a 5, .inl (ca 5, 24, .inr (.inl (f5)))), (a 6, .inl (ca 6, 24, .inr (.inl (f6))))]) [0, 1, 2, 3, 4, 5, 6] rfl
        have hDc := hD.sub (ws' := [(g0, .inr (11, mF a 0 0 1000 0)), (a 1, .inl (ca 1, 24, .inl (f1))), (a 2, .inl (ca 2, 24, .inl (f2))), (a 3, .inl (ca 3, 24, .inl (f3))), (a 4, .inl (ca 4, 24, .inl (f4))), (a 5, .inl (ca 5, 24, .inr (.inl (f5)))), (a 6, .inl (ca 6, 24, .inr (.inl (f6))))]) [0, 1, 2, 3, 4, 5, 6] (by decide) rfl
        have hKc := hK.sub (tys' := [(ca 1, .int), (ca 2, .int), (ca 3, .int), (ca 4, .int), (ca 5, .long), (ca 6, .long)]) [0, 1, 2, 3, 4, 5] rfl
        have hFc := va_free (wc := [(g0, .inr (11, mF a 0 0 1000 0)), (a 1, .inl (ca 1, 24, .inl (f1))), (a 2, .inl (ca 2, 24, .inl (f2))), (a 3, .inl (ca 3, 24, .inl (f3))), (a 4, .inl (ca 4, 24, .inl (f4))), (a 5, .inl (ca 5, 24, .inr (.inl (f5)))), (a 6, .inl (ca 6, 24, .inr (.inl (f6))))]) hD hS hA [0, 1, 2, 3, 4, 5, 6] rfl
        refine va_calli (va_runV (As := [.int 0, .int 0, .int 0, .int 0, .long 0, .long 0]) (rest := []) ⟨hx, hb, hml, hown, hts⟩ (c_X12_made l dC dI a g0 ca f1 f2 f3 f4 f5 f6 0 1000 0 0 0 0 0 0 0 H.size) (cwV 6 hts gX12_given_X12_made rfl rfl rfl (by decide +kernel) ⟨Nat.le_of_ble_eq_true rfl, Nat.le_of_ble_eq_true rfl⟩) ⟨fun a U g mk q => by obtain ⟨q0, q1, qP, qK, qD⟩ := q; exact ⟨q0, q1, qP, va_K.moved (u := U) (U := U.calling g mk a) (Vm.Alike.refl U.vm) qK, qD⟩, va_recv hKc hPc (ci := 11) (q0 := 0) rfl rfl, fun U hU hW => ⟨rfl, by rw [hU], by rw [hU]; exact hPc, va_K.moved hW.alike hKc, hDc.weaken (fun _ _ _ _ => trivial)⟩⟩ rfl rfl hl.1 rfl (lv_room (Nat.le_of_ble_eq_true rfl)) dX12_given_101 ⟨Nat.le_of_ble_eq_true rfl, Nat.le_of_ble_eq_true rfl⟩) hS (fun q _ h => hFc q h) hFc (fun r_1 u_2 t H1 locs ht hvm hw hB hz1 hk1 hS => ?_)
        obtain ⟨hP1, hK1, hD1⟩ := hB
        rw [ht] at hP1
        have hK1 := va_K.moved hvm.symm hK1
        have hK := hK.app hK1
        obtain ⟨hP, hD⟩ := va_join (wr := []) (w1 := [(g0, .inr (11, mF a 1 0 1000 0))]) hP hD [0, 1, 2, 3, 4, 5, 6] [] rfl rfl (by decide) (by decide) hk1 hFc hP1 hD1
        generalize H1 = H at hP hS ⊢
        have hP : va_P (dC, dI) vwCl [(g0, .inr (11, mF a 1 0 1000 0))] H := hP
        have hD : va_D A [(g0, .inr (11, mF a 1 0 1000 0))] := hD
        have hK : va_K (dC, dI) vwCl [(ca 1, .int), (ca 2, .int), (ca 3, .int), (ca 4, .int), (ca 5, .long), (ca 6, .long)] s := hK
        refine W.widen (k := 0) (n := 0) (by decide +kernel) (by decide +kernel) ?_
        obtain rfl : r_1 = 0 := hw
        refine W.widen (k := 0) (n := 0) (by decide +kernel) (by decide +kernel) ?_
        have hP9 := hP.sub (ws' := [(g0, .inr (11, mF a 1 0 1000 0))]) [0] rfl
        have hD9 := hD.sub (ws' := [(g0, .inr (11, mF a 1 0 1000 0))]) [0] (by decide) rfl
        have hK9 := hK.sub (tys' := []) [] rfl
        exact W.iret (v := 0) hx hb hr (fun t ht hW => ⟨⟨0, (1, 0, 1000, 0), rfl, ⟨rfl, fun _ => rfl⟩, by rw [ht]; exact hP9, va_K.moved hW.alike hK9, hD9⟩, hS.F ht⟩) hS.2.2 dX12_given_104
      · refine lv_iconst (v := 1) hx hb dX12_given_94 (by decide) ?_
        refine lv_goto (tgt := 99) hx hb dX12_given_95 (by decide) ?_
        refine lv_lconst (v := 0) hx hb dX12_given_99 (by decide) ?_
        refine lv_lconst (v := 0) hx hb dX12_given_100 (by decide) ?_
        have hPc := hP.sub (ws' := [(g0, .inr (11, mF a 0 0 1000 0)), (a 1, .inl (ca 1, 24, .inl (f1))), (a 2, .inl (ca 2, 24, .inl (f2))), (a 3, .inl (ca 3, 24, .inl (f3))), (a 4, .inl (ca 4, 24, .inl (f4))), (a 5, .inl (ca 5, 24, .inr (.inl (f5)))), (a 6, .inl (ca 6, 24, .inr (.inl (f6))))]) [0, 1, 2, 3, 4, 5, 6] rfl
        have hDc := hD.sub (ws' := [(g0, .inr (11, mF a 0 0 1000 0)), (a 1, .inl (ca 1, 24, .inl (f1))), (a 2, .inl (ca 2, 24, .inl (f2))), (a 3, .inl (ca 3, 24, .inl (f3))), (a 4, .inl (ca 4, 24, .inl (f4))), (a 5, .inl (ca 5, 24, .inr (.inl (f5)))), (a 6, .inl (ca 6, 24, .inr (.inl (f6))))]) [0, 1, 2, 3, 4, 5, 6] (by decide) rfl
        have hKc := hK.sub (tys' := [(ca 1, .int), (ca 2, .int), (ca 3, .int), (ca 4, .int), (ca 5, .long), (ca 6, .long)]) [0, 1, 2, 3, 4, 5] rfl
        have hFc := va_free (wc := [(g0, .inr (11, mF a 0 0 1000 0)), (a 1, .inl (ca 1, 24, .inl (f1))), (a 2, .inl (ca 2, 24, .inl (f2))), (a 3, .inl (ca 3, 24, .inl (f3))), (a 4, .inl (ca 4, 24, .inl (f4))), (a 5, .inl (ca 5, 24, .inr (.inl (f5)))), (a 6, .inl (ca 6, 24, .inr (.inl (f6))))]) hD hS hA [0, 1, 2, 3, 4, 5, 6] rfl
        refine va_calli (va_runV (As := [.int 0, .int 0, .int 0, .int 1, .long 0, .long 0]) (rest := []) ⟨hx, hb, hml, hown, hts⟩ (c_X12_made l dC dI a g0 ca f1 f2 f3 f4 f5 f6 0 1000 0 0 0 0 1 0 0 H.size) (cwV 6 hts gX12_given_X12_made rfl rfl rfl (by decide +kernel) ⟨Nat.le_of_ble_eq_true rfl, Nat.le_of_ble_eq_true rfl⟩) ⟨fun a U g mk q => by obtain ⟨q0, q1, qP, qK, qD⟩ := q; exact ⟨q0, q1, qP, va_K.moved (u := U) (U := U.calling g mk a) (Vm.Alike.refl U.vm) qK, qD⟩, va_recv hKc hPc (ci := 11) (q0 := 0) rfl rfl, fun U hU hW => ⟨rfl, by rw [hU], by rw [hU]; exact hPc, va_K.moved hW.alike hKc, hDc.weaken (fun _ _ _ _ => trivial)⟩⟩ rfl rfl hl.1 rfl (lv_room (Nat.le_of_ble_eq_true rfl)) dX12_given_101 ⟨Nat.le_of_ble_eq_true rfl, Nat.le_of_ble_eq_true rfl⟩) hS (fun q _ h => hFc q h) hFc (fun r_3 u_4 t H1 locs ht hvm hw hB hz1 hk1 hS => ?_)
        obtain ⟨hP1, hK1, hD1⟩ := hB
        rw [ht] at hP1
        have hK1 := va_K.moved hvm.symm hK1
        have hK := hK.app hK1
        obtain ⟨hP, hD⟩ := va_join (wr := []) (w1 := [(g0, .inr (11, mF a 1 0 1000 0))]) hP hD [0, 1, 2, 3, 4, 5, 6] [] rfl rfl (by decide) (by decide) hk1 hFc hP1 hD1
        generalize H1 = H at hP hS ⊢
        have hP : va_P (dC, dI) vwCl [(g0, .inr (11, mF a 1 0 1000 0))] H := hP
        have hD : va_D A [(g0, .inr (11, mF a 1 0 1000 0))] := hD
        have hK : va_K (dC, dI) vwCl [(ca 1, .int), (ca 2, .int), (ca 3, .int), (ca 4, .int), (ca 5, .long), (ca 6, .long)] s := hK
        refine W.widen (k := 0) (n := 0) (by decide +kernel) (by decide +kernel) ?_
        obtain rfl : r_3 = 0 := hw
        refine W.widen (k := 0) (n := 0) (by decide +kernel) (by decide +kernel) ?_
        have hP9 := hP.sub (ws' := [(g0, .inr (11, mF a 1 0 1000 0))]) [0] rfl
        have hD9 := hD.sub (ws' := [(g0, .inr (11, mF a 1 0 1000 0))]) [0] (by decide) rfl
        have hK9 := hK.sub (tys' := []) [] rfl
        exact W.iret (v := 0) hx hb hr (fun t ht hW => ⟨⟨0, (1, 0, 1000, 0), rfl, ⟨rfl, fun _ => rfl⟩, by rw [ht]; exact hP9, va_K.moved hW.alike hK9, hD9⟩, hS.F ht⟩) hS.2.2 dX12_given_104
    · exact absurd c_27 (by decide)
  · exact absurd c_11 (by decide)
set_option maxHeartbeats 4000000 in
set_option maxRecDepth 100000 in
theorem c_X12_count (l : Launch) (dC : Nat → ClassId) (dI : Nat → Nat → Nat) (a : Nat → Nat) (g0 : Nat) (ca : Nat → ClassId) (f1 : Nat → Int32) (f2 : Nat → Int32) (f3 : Nat → Int32) (f4 : Nat → Int32) (f5 : Nat → Int64) (f6 : Nat → Int64) (p0 : Int64) (p1 : Int64) (sz : Nat) : Met l yX12_count wsX12_count ({ frames := 20, cells := 0, slots := 0, locals := 600 }) (va_Pc [.ref g0, .long p0, .long p1] (fun U => U.heap.size = sz ∧ va_P (dC, dI) vwCl [(g0, .inr (11, mF a 0 0 1000 0)), (a 1, .inl (ca 1, 24, .inl (f1))), (a 2, .inl (ca 2, 24, .inl (f2))), (a 3, .inl (ca 3, 24, .inl (f3))), (a 4, .inl (ca 4, 24, .inl (f4))), (a 5, .inl (ca 5, 24, .inr (.inl (f5)))), (a 6, .inl (ca 6, 24, .inr (.inl (f6))))] U.heap ∧ va_K (dC, dI) vwCl [(ca 1, .int), (ca 2, .int), (ca 3, .int), (ca 4, .int), (ca 5, .long), (ca 6, .long)] U ∧ va_D (fun _ => True) [(g0, .inr (11, mF a 0 0 1000 0)), (a 1, .inl (ca 1, 24, .inl (f1))), (a 2, .inl (ca 2, 24, .inl (f2))), (a 3, .inl (ca 3, 24, .inl (f3))), (a 4, .inl (ca 4, 24, .inl (f4))), (a 5, .inl (ca 5, 24, .inr (.inl (f5)))), (a 6, .inl (ca 6, 24, .inr (.inl (f6))))])) (va_Qi (fun (r : Int32) (u : Int32 × Int32 × Int32 × Int32) => u.2.2.2 = 0 ∧ (0 = 0 → r = 0)) (fun (u : Int32 × Int32 × Int32 × Int32) (t : State) => va_P (dC, dI) vwCl [(g0, .inr (11, mF a u.1 u.2.1 u.2.2.1 u.2.2.2))] t.heap ∧ va_K (dC, dI) vwCl [] t ∧ va_D (va_A [(g0, .inr (11, mF a 0 0 1000 0)), (a 1, .inl (ca 1, 24, .inl (f1))), (a 2, .inl (ca 2, 24, .inl (f2))), (a 3, .inl (ca 3, 24, .inl (f3))), (a 4, .inl (ca 4, 24, .inl (f4))), (a 5, .inl (ca 5, 24, .inr (.inl (f5)))), (a 6, .inl (ca 6, 24, .inr (.inl (f6))))] sz) [(g0, .inr (11, mF a u.1 u.2.1 u.2.2.1 u.2.2.2))]) (va_A [(g0, .inr (11, mF a 0 0 1000 0)), (a 1, .inl (ca 1, 24, .inl (f1))), (a 2, .inl (ca 2, 24, .inl (f2))), (a 3, .inl (ca 3, 24, .inl (f3))), (a 4, .inl (ca 4, 24, .inl (f4))), (a 5, .inl (ca 5, 24, .inr (.inl (f5)))), (a 6, .inl (ca 6, 24, .inr (.inl (f6))))] sz)) 0 0 (va_A [(g0, .inr (11, mF a 0 0 1000 0)), (a 1, .inl (ca 1, 24, .inl (f1))), (a 2, .inl (ca 2, 24, .inl (f2))), (a 3, .inl (ca 3, 24, .inl (f3))), (a 4, .inl (ca 4, 24, .inl (f4))), (a 5, .inl (ca 5, 24, .inr (.inl (f5)))), (a 6, .inl (ca 6, 24, .inr (.inl (f6))))] sz) := by
  refine Met.ofW (cc := cX12_count) (maxL := 5) (ret := (some .int)) (by decide) rfl ?_
  intro p e s m args below meth c s₁ B hml hv
  obtain ⟨rfl, hsz, hP, hK, hD0⟩ := hv
  have hx := B.exec
  have hb := B.bytes
  have hr := B.returns
  have hts := atoms_spec (ws := wsX12_count) B.pre
  have hown : s.vm.findClass RX12 = some m.cls := findClass_of_methodNamed B.named
  have hlocks := B.notSynchronized
  subst hsz
  have hD := hD0.self (sz := s.heap.size)
  generalize hAe : va_A [(g0, .inr (11, mF a 0 0 1000 0)), (a 1, .inl (ca 1, 24, .inl (f1))), (a 2, .inl (ca 2, 24, .inl (f2))), (a 3, .inl (ca 3, 24, .inl (f3))), (a 4, .inl (ca 4, 24, .inl (f4))), (a 5, .inl (ca 5, 24, .inr (.inl (f5)))), (a 6, .inl (ca 6, 24, .inr (.inl (f6))))] s.heap.size = A at hD ⊢
  have hA : ∀ q : Nat, s.heap.size ≤ q → A q := fun q h => by rw [← hAe]; exact Or.inr h
  generalize hH : s.heap = H at hP ⊢
  have hS : va_S A s.heap H [] := by rw [← hH]; exact va_S.rf
  have hl := lv_entry [.ref g0, .long p0, .long p1] (n := 5) (Nat.le_of_ble_eq_true rfl)
  rw [lg_entry_eq]
  generalize (lg_sl [.ref g0, .long p0, .long p1] ++ List.replicate (5 - (lg_sl [.ref g0, .long p0, .long p1]).length) Slot.unset).toArray = ls at hl ⊢
  have hl : lv_has ls 5 [(0, .ref g0), (1, .long p0), (3, .long p1)] := hl
  have hP : va_P (dC, dI) vwCl [(g0, .inr (11, mF a 0 0 1000 0)), (a 1, .inl (ca 1, 24, .inl (f1))), (a 2, .inl (ca 2, 24, .inl (f2))), (a 3, .inl (ca 3, 24, .inl (f3))), (a 4, .inl (ca 4, 24, .inl (f4))), (a 5, .inl (ca 5, 24, .inr (.inl (f5)))), (a 6, .inl (ca 6, 24, .inr (.inl (f6))))] H := hP
  refine lv_aload_n hx hb dX12_count_0 rfl (lv_at hl 0 rfl) ?_
  refine lv_iconst (v := 0) hx hb dX12_count_1 (by decide) ?_
  refine va_put (D := (dC, dI)) (ci := 11) (v := .int 0) (ty := .int) (C := RX12) (T := TX12) (N := 32) hx hb hts (by decide +kernel) tyX12 tyX12_ok nmX12 hown hK hP hD hS 0 rfl rfl 19 (by decide) (hts (.fieldLink RX12 63 "NeededListsModel" "thrown" "I") (by decide +kernel)) (fun _ h9 => h9) rfl (by decide +kernel) rfl rfl (Nat.le_of_ble_eq_true rfl) dX12_count_2 (fun H locs hP hD hS => ?_)
  have hP : va_P (dC, dI) vwCl [(g0, .inr (11, mF a 0 0 1000 0)), (a 1, .inl (ca 1, 24, .inl (f1))), (a 2, .inl (ca 2, 24, .inl (f2))), (a 3, .inl (ca 3, 24, .inl (f3))), (a 4, .inl (ca 4, 24, .inl (f4))), (a 5, .inl (ca 5, 24, .inr (.inl (f5)))), (a 6, .inl (ca 6, 24, .inr (.inl (f6))))] H := hP
  have hD : va_D A [(g0, .inr (11, mF a 0 0 1000 0)), (a 1, .inl (ca 1, 24, .inl (f1))), (a 2, .inl (ca 2, 24, .inl (f2))), (a 3, .inl (ca 3, 24, .inl (f3))), (a 4, .inl (ca 4, 24, .inl (f4))), (a 5, .inl (ca 5, 24, .inr (.inl (f5)))), (a 6, .inl (ca 6, 24, .inr (.inl (f6))))] := hD
  refine lv_aload_n hx hb dX12_count_5 rfl (lv_at hl 0 rfl) ?_
  refine va_get (D := (dC, dI)) (ci := 11) (v := .int 0) (C := RX12) (T := TX12) (N := 32) hx hb hts (by decide +kernel) hown hK hP 0 rfl rfl 0 (by decide) (hts (.fieldLink RX12 66 "NeededListsModel" "lists" "I") (by decide +kernel)) (fun _ h9 => h9) rfl dX12_count_6 ?_
  refine lv_bipush (v := 24) hx hb dX12_count_9 (by decide) ?_
  refine lv_icmp_ne (tgt := 22) hx hb dX12_count_11 (by decide) (fun c_11 => ?_) (fun c_11 => ?_)
  · refine lv_aload_n hx hb dX12_count_22 rfl (lv_at hl 0 rfl) ?_
    refine lv_iconst (v := 1) hx hb dX12_count_23 (by decide) ?_
    refine lv_iconst (v := 0) hx hb dX12_count_24 (by decide) ?_
    refine lv_iconst (v := 0) hx hb dX12_count_25 (by decide) ?_
    refine lv_iconst (v := 0) hx hb dX12_count_26 (by decide) ?_
    refine lv_lload_n hx hb dX12_count_27 rfl (lv_at hl 1 rfl) ?_
    refine lv_lload_n hx hb dX12_count_28 rfl (lv_at hl 2 rfl) ?_
    have hPc := hP.sub (ws' := [(g0, .inr (11, mF a 0 0 1000 0)), (a 1, .inl (ca 1, 24, .inl (f1))), (a 2, .inl (ca 2, 24, .inl (f2))), (a 3, .inl (ca 3, 24, .inl (f3))), (a 4, .inl (ca 4, 24, .inl (f4))), (a 5, .inl (ca 5, 24, .inr (.inl (f5)))), (a 6, .inl (ca 6, 24, .inr (.inl (f6))))]) [0, 1, 2, 3, 4, 5, 6] rfl
    have hDc := hD.sub (ws' := [(g0, .inr (11, mF a 0 0 1000 0)), (a 1, .inl (ca 1, 24, .inl (f1))), (a 2, .inl (ca 2, 24, .inl (f2))), (a 3, .inl (ca 3, 24, .inl (f3))), (a 4, .inl (ca 4, 24, .inl (f4))), (a 5, .inl (ca 5, 24, .inr (.inl (f5)))), (a 6, .inl (ca 6, 24, .inr (.inl (f6))))]) [0, 1, 2, 3, 4, 5, 6] (by decide) rfl
    have hKc := hK.sub (tys' := [(ca 1, .int), (ca 2, .int), (ca 3, .int), (ca 4, .int), (ca 5, .long), (ca 6, .long)]) [0, 1, 2, 3, 4, 5] rfl
    have hFc := va_free (wc := [(g0, .inr (11, mF a 0 0 1000 0)), (a 1, .inl (ca 1, 24, .inl (f1))), (a 2, .inl (ca 2, 24, .inl (f2))), (a 3, .inl (ca 3, 24, .inl (f3))), (a 4, .inl (ca 4, 24, .inl (f4))), (a 5, .inl (ca 5, 24, .inr (.inl (f5)))), (a 6, .inl (ca 6, 24, .inr (.inl (f6))))]) hD hS hA [0, 1, 2, 3, 4, 5, 6] rfl
    refine va_calli (va_runV (As := [.int 1, .int 0, .int 0, .int 0, .long p0, .long p1]) (rest := []) ⟨hx, hb, hml, hown, hts⟩ (c_X12_made l dC dI a g0 ca f1 f2 f3 f4 f5 f6 0 1000 0 1 0 0 0 p0 p1 H.size) (cwV 6 hts gX12_count_X12_made rfl rfl rfl (by decide +kernel) ⟨Nat.le_of_ble_eq_true rfl, Nat.le_of_ble_eq_true rfl⟩) ⟨fun a U g mk q => by obtain ⟨q0, q1, qP, qK, qD⟩ := q; exact ⟨q0, q1, qP, va_K.moved (u := U) (U := U.calling g mk a) (Vm.Alike.refl U.vm) qK, qD⟩, va_recv hKc hPc (ci := 11) (q0 := 0) rfl rfl, fun U hU hW => ⟨rfl, by rw [hU], by rw [hU]; exact hPc, va_K.moved hW.alike hKc, hDc.weaken (fun _ _ _ _ => trivial)⟩⟩ rfl rfl hl.1 rfl (lv_room (Nat.le_of_ble_eq_true rfl)) dX12_count_29 ⟨Nat.le_of_ble_eq_true rfl, Nat.le_of_ble_eq_true rfl⟩) hS (fun q _ h => hFc q h) hFc (fun r_1 u_2 t H1 locs ht hvm hw hB hz1 hk1 hS => ?_)
    obtain ⟨hP1, hK1, hD1⟩ := hB
    rw [ht] at hP1
    have hK1 := va_K.moved hvm.symm hK1
    have hK := hK.app hK1
    obtain ⟨hP, hD⟩ := va_join (wr := []) (w1 := [(g0, .inr (11, mF a 1 0 1000 0))]) hP hD [0, 1, 2, 3, 4, 5, 6] [] rfl rfl (by decide) (by decide) hk1 hFc hP1 hD1
    generalize H1 = H at hP hS ⊢
    have hP : va_P (dC, dI) vwCl [(g0, .inr (11, mF a 1 0 1000 0))] H := hP
    have hD : va_D A [(g0, .inr (11, mF a 1 0 1000 0))] := hD
    have hK : va_K (dC, dI) vwCl [(ca 1, .int), (ca 2, .int), (ca 3, .int), (ca 4, .int), (ca 5, .long), (ca 6, .long)] s := hK
    refine W.widen (k := 0) (n := 0) (by decide +kernel) (by decide +kernel) ?_
    obtain rfl : r_1 = 0 := hw
    refine W.widen (k := 0) (n := 0) (by decide +kernel) (by decide +kernel) ?_
    have hP9 := hP.sub (ws' := [(g0, .inr (11, mF a 1 0 1000 0))]) [0] rfl
    have hD9 := hD.sub (ws' := [(g0, .inr (11, mF a 1 0 1000 0))]) [0] (by decide) rfl
    have hK9 := hK.sub (tys' := []) [] rfl
    exact W.iret (v := 0) hx hb hr (fun t ht hW => ⟨⟨0, (1, 0, 1000, 0), rfl, ⟨rfl, fun _ => rfl⟩, by rw [ht]; exact hP9, va_K.moved hW.alike hK9, hD9⟩, hS.F ht⟩) hS.2.2 dX12_count_32
  · exact absurd c_11 (by decide)
set_option maxHeartbeats 4000000 in
set_option maxRecDepth 100000 in
theorem c_X12_iterate (l : Launch) (dC : Nat → ClassId) (dI : Nat → Nat → Nat) (a : Nat → Nat) (g0 : Nat) (ca : Nat → ClassId) (f1 : Nat → Int32) (f2 : Nat → Int32) (f3 : Nat → Int32) (f4 : Nat → Int32) (f5 : Nat → Int64) (f6 : Nat → Int64) (p0 : Int32) (p1 : Int64) (p2 : Int64) (sz : Nat) : Met l yX12_iterate wsX12_iterate ({ frames := 20, cells := 0, slots := 0, locals := 600 }) (va_Pc [.ref g0, .int p0, .long p1, .long p2] (fun U => U.heap.size = sz ∧ va_P (dC, dI) vwCl [(g0, .inr (11, mF a 0 0 1000 0)), (a 1, .inl (ca 1, 24, .inl (f1))), (a 2, .inl (ca 2, 24, .inl (f2))), (a 3, .inl (ca 3, 24, .inl (f3))), (a 4, .inl (ca 4, 24, .inl (f4))), (a 5, .inl (ca 5, 24, .inr (.inl (f5)))), (a 6, .inl (ca 6, 24, .inr (.inl (f6))))] U.heap ∧ va_K (dC, dI) vwCl [(ca 1, .int), (ca 2, .int), (ca 3, .int), (ca 4, .int), (ca 5, .long), (ca 6, .long)] U ∧ va_D (fun _ => True) [(g0, .inr (11, mF a 0 0 1000 0)), (a 1, .inl (ca 1, 24, .inl (f1))), (a 2, .inl (ca 2, 24, .inl (f2))), (a 3, .inl (ca 3, 24, .inl (f3))), (a 4, .inl (ca 4, 24, .inl (f4))), (a 5, .inl (ca 5, 24, .inr (.inl (f5)))), (a 6, .inl (ca 6, 24, .inr (.inl (f6))))])) (va_Qi (fun (r : Int32) (u : Int32 × Int32 × Int32 × Int32) => u.2.2.2 = kOp p0 ∧ (kOp p0 = 0 → r = 0)) (fun (u : Int32 × Int32 × Int32 × Int32) (t : State) => va_P (dC, dI) vwCl [(g0, .inr (11, mF a u.1 u.2.1 u.2.2.1 u.2.2.2))] t.heap ∧ va_K (dC, dI) vwCl [] t ∧ va_D (va_A [(g0, .inr (11, mF a 0 0 1000 0)), (a 1, .inl (ca 1, 24, .inl (f1))), (a 2, .inl (ca 2, 24, .inl (f2))), (a 3, .inl (ca 3, 24, .inl (f3))), (a 4, .inl (ca 4, 24, .inl (f4))), (a 5, .inl (ca 5, 24, .inr (.inl (f5)))), (a 6, .inl (ca 6, 24, .inr (.inl (f6))))] sz) [(g0, .inr (11, mF a u.1 u.2.1 u.2.2.1 u.2.2.2))]) (va_A [(g0, .inr (11, mF a 0 0 1000 0)), (a 1, .inl (ca 1, 24, .inl (f1))), (a 2, .inl (ca 2, 24, .inl (f2))), (a 3, .inl (ca 3, 24, .inl (f3))), (a 4, .inl (ca 4, 24, .inl (f4))), (a 5, .inl (ca 5, 24, .inr (.inl (f5)))), (a 6, .inl (ca 6, 24, .inr (.inl (f6))))] sz)) 0 0 (va_A [(g0, .inr (11, mF a 0 0 1000 0)), (a 1, .inl (ca 1, 24, .inl (f1))), (a 2, .inl (ca 2, 24, .inl (f2))), (a 3, .inl (ca 3, 24, .inl (f3))), (a 4, .inl (ca 4, 24, .inl (f4))), (a 5, .inl (ca 5, 24, .inr (.inl (f5)))), (a 6, .inl (ca 6, 24, .inr (.inl (f6))))] sz) := by
  refine Met.ofW (cc := cX12_iterate) (maxL := 6) (ret := (some .int)) (by decide) rfl ?_
  intro p e s m args below meth c s₁ B hml hv
  obtain ⟨rfl, hsz, hP, hK, hD0⟩ := hv
  have hx := B.exec
  have hb := B.bytes
  have hr := B.returns
  have hts := atoms_spec (ws := wsX12_iterate) B.pre
  have hown : s.vm.findClass RX12 = some m.cls := findClass_of_methodNamed B.named
  have hlocks := B.notSynchronized
  subst hsz
  have hD := hD0.self (sz := s.heap.size)
  generalize hAe : va_A [(g0, .inr (11, mF a 0 0 1000 0)), (a 1, .inl (ca 1, 24, .inl (f1))), (a 2, .inl (ca 2, 24, .inl (f2))), (a 3, .inl (ca 3, 24, .inl (f3))), (a 4, .inl (ca 4, 24, .inl (f4))), (a 5, .inl (ca 5, 24, .inr (.inl (f5)))), (a 6, .inl (ca 6, 24, .inr (.inl (f6))))] s.heap.size = A at hD ⊢
  have hA : ∀ q : Nat, s.heap.size ≤ q → A q := fun q h => by rw [← hAe]; exact Or.inr h
  generalize hH : s.heap = H at hP ⊢
  have hS : va_S A s.heap H [] := by rw [← hH]; exact va_S.rf
  have hl := lv_entry [.ref g0, .int p0, .long p1, .long p2] (n := 6) (Nat.le_of_ble_eq_true rfl)
  rw [lg_entry_eq]
  generalize (lg_sl [.ref g0, .int p0, .long p1, .long p2] ++ List.replicate (6 - (lg_sl [.ref g0, .int p0, .long p1, .long p2]).length) Slot.unset).toArray = ls at hl ⊢
  have hl : lv_has ls 6 [(0, .ref g0), (1, .int p0), (2, .long p1), (4, .long p2)] := hl
  have hP : va_P (dC, dI) vwCl [(g0, .inr (11, mF a 0 0 1000 0)), (a 1, .inl (ca 1, 24, .inl (f1))), (a 2, .inl (ca 2, 24, .inl (f2))), (a 3, .inl (ca 3, 24, .inl (f3))), (a 4, .inl (ca 4, 24, .inl (f4))), (a 5, .inl (ca 5, 24, .inr (.inl (f5)))), (a 6, .inl (ca 6, 24, .inr (.inl (f6))))] H := hP
  refine lv_aload_n hx hb dX12_iterate_0 rfl (lv_at hl 0 rfl) ?_
  refine lv_iconst (v := 0) hx hb dX12_iterate_1 (by decide) ?_
  refine va_put (D := (dC, dI)) (ci := 11) (v := .int 0) (ty := .int) (C := RX12) (T := TX12) (N := 32) hx hb hts (by decide +kernel) tyX12 tyX12_ok nmX12 hown hK hP hD hS 0 rfl rfl 19 (by decide) (hts (.fieldLink RX12 63 "NeededListsModel" "thrown" "I") (by decide +kernel)) (fun _ h9 => h9) rfl (by decide +kernel) rfl rfl (Nat.le_of_ble_eq_true rfl) dX12_iterate_2 (fun H locs hP hD hS => ?_)
  have hP : va_P (dC, dI) vwCl [(g0, .inr (11, mF a 0 0 1000 0)), (a 1, .inl (ca 1, 24, .inl (f1))), (a 2, .inl (ca 2, 24, .inl (f2))), (a 3, .inl (ca 3, 24, .inl (f3))), (a 4, .inl (ca 4, 24, .inl (f4))), (a 5, .inl (ca 5, 24, .inr (.inl (f5)))), (a 6, .inl (ca 6, 24, .inr (.inl (f6))))] H := hP
  have hD : va_D A [(g0, .inr (11, mF a 0 0 1000 0)), (a 1, .inl (ca 1, 24, .inl (f1))), (a 2, .inl (ca 2, 24, .inl (f2))), (a 3, .inl (ca 3, 24, .inl (f3))), (a 4, .inl (ca 4, 24, .inl (f4))), (a 5, .inl (ca 5, 24, .inr (.inl (f5)))), (a 6, .inl (ca 6, 24, .inr (.inl (f6))))] := hD
  refine lv_iload_n hx hb dX12_iterate_5 rfl (lv_at hl 1 rfl) ?_
  have hPc := hP.sub (ws' := []) [] rfl
  have hDc : va_D (fun _ => True) ([] : va_W) := nd_0
  have hKc := hK.sub (tys' := []) [] rfl
  have hFc := va_free (wc := []) hD hS hA [] rfl
  refine va_calli (va_runS (As := [.int p0]) (rest := []) ⟨hx, hb, hml, hown, hts⟩ (c_X12_isOp l dC dI p0 H.size) (va_cwS 1 hts gX12_iterate_X12_isOp rfl rfl rfl (by decide +kernel) ⟨Nat.le_of_ble_eq_true rfl, Nat.le_of_ble_eq_true rfl⟩) ⟨fun a U g mk q => by obtain ⟨q0, q1, qP, qK, qD⟩ := q; exact ⟨q0, q1, qP, va_K.moved (u := U) (U := U.calling g mk a) (Vm.Alike.refl U.vm) qK, qD⟩, fun U hU hW => ⟨rfl, by rw [hU], by rw [hU]; exact hPc, va_K.moved hW.alike hKc, nd_0⟩⟩ rfl rfl hl.1 rfl (lv_room (Nat.le_of_ble_eq_true rfl)) dX12_iterate_6 ⟨Nat.le_of_ble_eq_true rfl, Nat.le_of_ble_eq_true rfl⟩) hS (fun q _ h => hFc q h) hFc (fun r_1 u_2 t H1 locs ht hvm hw hB hz1 hk1 hS => ?_)
  have hP := nd_keep hP hk1
  generalize H1 = H at hP hS ⊢
  have hP : va_P (dC, dI) vwCl [(g0, .inr (11, mF a 0 0 1000 0)), (a 1, .inl (ca 1, 24, .inl (f1))), (a 2, .inl (ca 2, 24, .inl (f2))), (a 3, .inl (ca 3, 24, .inl (f3))), (a 4, .inl (ca 4, 24, .inl (f4))), (a 5, .inl (ca 5, 24, .inr (.inl (f5)))), (a 6, .inl (ca 6, 24, .inr (.inl (f6))))] H := hP
  have hD : va_D A [(g0, .inr (11, mF a 0 0 1000 0)), (a 1, .inl (ca 1, 24, .inl (f1))), (a 2, .inl (ca 2, 24, .inl (f2))), (a 3, .inl (ca 3, 24, .inl (f3))), (a 4, .inl (ca 4, 24, .inl (f4))), (a 5, .inl (ca 5, 24, .inr (.inl (f5)))), (a 6, .inl (ca 6, 24, .inr (.inl (f6))))] := hD
  refine W.widen (k := 0) (n := 0) (by decide +kernel) (by decide +kernel) ?_
  obtain rfl : r_1 = bOp p0 := hw
  refine lv_if_ne (tgt := 18) hx hb dX12_iterate_9 (by decide) (fun c_9 => ?_) (fun c_9 => ?_)
  · refine lv_aload_n hx hb dX12_iterate_18 rfl (lv_at hl 0 rfl) ?_
    refine va_get (D := (dC, dI)) (ci := 11) (v := .int 0) (C := RX12) (T := TX12) (N := 32) hx hb hts (by decide +kernel) hown hK hP 0 rfl rfl 0 (by decide) (hts (.fieldLink RX12 66 "NeededListsModel" "lists" "I") (by decide +kernel)) (fun _ h9 => h9) rfl dX12_iterate_19 ?_
    refine lv_bipush (v := 24) hx hb dX12_iterate_22 (by decide) ?_
    refine lv_icmp_ne (tgt := 35) hx hb dX12_iterate_24 (by decide) (fun c_24 => ?_) (fun c_24 => ?_)
    · refine lv_aload_n hx hb dX12_iterate_35 rfl (lv_at hl 0 rfl) ?_
      refine lv_iconst (v := 2) hx hb dX12_iterate_36 (by decide) ?_
      refine lv_iconst (v := 0) hx hb dX12_iterate_37 (by decide) ?_
      refine lv_iconst (v := 0) hx hb dX12_iterate_38 (by decide) ?_
      refine lv_iload_n hx hb dX12_iterate_39 rfl (lv_at hl 1 rfl) ?_
      refine lv_lload_n hx hb dX12_iterate_40 rfl (lv_at hl 2 rfl) ?_
      refine lv_lload hx hb dX12_iterate_41 (lv_at hl 3 rfl) ?_
      have hPc := hP.sub (ws' := [(g0, .inr (11, mF a 0 0 1000 0)), (a 1, .inl (ca 1, 24, .inl (f1))), (a 2, .inl (ca 2, 24, .inl (f2))), (a 3, .inl (ca 3, 24, .inl (f3))), (a 4, .inl (ca 4, 24, .inl (f4))), (a 5, .inl (ca 5, 24, .inr (.inl (f5)))), (a 6, .inl (ca 6, 24, .inr (.inl (f6))))]) [0, 1, 2, 3, 4, 5, 6] rfl
      have hDc := hD.sub (ws' := [(g0, .inr (11, mF a 0 0 1000 0)), (a 1, .inl (ca 1, 24, .inl (f1))), (a 2, .inl (ca 2, 24, .inl (f2))), (a 3, .inl (ca 3, 24, .inl (f3))), (a 4, .inl (ca 4, 24, .inl (f4))), (a 5, .inl (ca 5, 24, .inr (.inl (f5)))), (a 6, .inl (ca 6, 24, .inr (.inl (f6))))]) [0, 1, 2, 3, 4, 5, 6] (by decide) rfl
      have hKc := hK.sub (tys' := [(ca 1, .int), (ca 2, .int), (ca 3, .int), (ca 4, .int), (ca 5, .long), (ca 6, .long)]) [0, 1, 2, 3, 4, 5] rfl
      have hFc := va_free (wc := [(g0, .inr (11, mF a 0 0 1000 0)), (a 1, .inl (ca 1, 24, .inl (f1))), (a 2, .inl (ca 2, 24, .inl (f2))), (a 3, .inl (ca 3, 24, .inl (f3))), (a 4, .inl (ca 4, 24, .inl (f4))), (a 5, .inl (ca 5, 24, .inr (.inl (f5)))), (a 6, .inl (ca 6, 24, .inr (.inl (f6))))]) hD hS hA [0, 1, 2, 3, 4, 5, 6] rfl
      refine va_calli (va_runV (As := [.int 2, .int 0, .int 0, .int p0, .long p1, .long p2]) (rest := []) ⟨hx, hb, hml, hown, hts⟩ (c_X12_made l dC dI a g0 ca f1 f2 f3 f4 f5 f6 0 1000 0 2 0 0 p0 p1 p2 H.size) (cwV 6 hts gX12_iterate_X12_made rfl rfl rfl (by decide +kernel) ⟨Nat.le_of_ble_eq_true rfl, Nat.le_of_ble_eq_true rfl⟩) ⟨fun a U g mk q => by obtain ⟨q0, q1, qP, qK, qD⟩ := q; exact ⟨q0, q1, qP, va_K.moved (u := U) (U := U.calling g mk a) (Vm.Alike.refl U.vm) qK, qD⟩, va_recv hKc hPc (ci := 11) (q0 := 0) rfl rfl, fun U hU hW => ⟨rfl, by rw [hU], by rw [hU]; exact hPc, va_K.moved hW.alike hKc, hDc.weaken (fun _ _ _ _ => trivial)⟩⟩ rfl rfl hl.1 rfl (lv_room (Nat.le_of_ble_eq_true rfl)) dX12_iterate_43 ⟨Nat.le_of_ble_eq_true rfl, Nat.le_of_ble_eq_true rfl⟩) hS (fun q _ h => hFc q h) hFc (fun r_3 u_4 t H1 locs ht hvm hw hB hz1 hk1 hS => ?_)
      obtain ⟨hP1, hK1, hD1⟩ := hB
      rw [ht] at hP1
      have hK1 := va_K.moved hvm.symm hK1
      have hK := hK.app hK1
      obtain ⟨hP, hD⟩ := va_join (wr := []) (w1 := [(g0, .inr (11, mF a 1 0 1000 0))]) hP hD [0, 1, 2, 3, 4, 5, 6] [] rfl rfl (by decide) (by decide) hk1 hFc hP1 hD1
      generalize H1 = H at hP hS ⊢
      have hP : va_P (dC, dI) vwCl [(g0, .inr (11, mF a 1 0 1000 0))] H := hP
      have hD : va_D A [(g0, .inr (11, mF a 1 0 1000 0))] := hD
      have hK : va_K (dC, dI) vwCl [(ca 1, .int), (ca 2, .int), (ca 3, .int), (ca 4, .int), (ca 5, .long), (ca 6, .long)] s := hK
      refine W.widen (k := 0) (n := 0) (by decide +kernel) (by decide +kernel) ?_
      obtain rfl : r_3 = 0 := hw
      refine W.widen (k := 0) (n := 0) (by decide +kernel) (by decide +kernel) ?_
      have hP9 := hP.sub (ws' := [(g0, .inr (11, mF a 1 0 1000 0))]) [0] rfl
      have hD9 := hD.sub (ws' := [(g0, .inr (11, mF a 1 0 1000 0))]) [0] (by decide) rfl
      have hK9 := hK.sub (tys' := []) [] rfl
      exact W.iret (v := 0) hx hb hr (fun t ht hW => ⟨⟨0, (1, 0, 1000, 0), rfl, ⟨(kOp_ok c_9).symm, fun _ => rfl⟩, by rw [ht]; exact hP9, va_K.moved hW.alike hK9, hD9⟩, hS.F ht⟩) hS.2.2 dX12_iterate_46
    · exact absurd c_24 (by decide)
  · refine lv_aload_n hx hb dX12_iterate_12 rfl (lv_at hl 0 rfl) ?_
    refine lv_iconst (v := 1) hx hb dX12_iterate_13 (by decide) ?_
    have hPc := hP.sub (ws' := [(g0, .inr (11, mF a 0 0 1000 0))]) [0] rfl
    have hDc := hD.sub (ws' := [(g0, .inr (11, mF a 0 0 1000 0))]) [0] (by decide) rfl
    have hKc := hK.sub (tys' := []) [] rfl
    have hFc := va_free (wc := [(g0, .inr (11, mF a 0 0 1000 0))]) hD hS hA [0] rfl
    refine va_calli (va_runV (As := [.int 1]) (rest := []) ⟨hx, hb, hml, hown, hts⟩ (c_X12_fail l dC dI a g0 0 0 1000 0 1 H.size) (cwV 1 hts gX12_iterate_X12_fail rfl rfl rfl (by decide +kernel) ⟨Nat.le_of_ble_eq_true rfl, Nat.le_of_ble_eq_true rfl⟩) ⟨fun a U g mk q => by obtain ⟨q0, q1, qP, qK, qD⟩ := q; exact ⟨q0, q1, qP, va_K.moved (u := U) (U := U.calling g mk a) (Vm.Alike.refl U.vm) qK, qD⟩, va_recv hKc hPc (ci := 11) (q0 := 0) rfl rfl, fun U hU hW => ⟨rfl, by rw [hU], by rw [hU]; exact hPc, va_K.moved hW.alike hKc, hDc.weaken (fun _ _ _ _ => trivial)⟩⟩ rfl rfl hl.1 rfl (lv_room (Nat.le_of_ble_eq_true rfl)) dX12_iterate_14 ⟨Nat.le_of_ble_eq_true rfl, Nat.le_of_ble_eq_true rfl⟩) hS (fun q _ h => hFc q h) hFc (fun r_3 u_4 t H1 locs ht hvm hw hB hz1 hk1 hS => ?_)
    obtain ⟨hP1, hK1, hD1⟩ := hB
    rw [ht] at hP1
    have hK1 := va_K.moved hvm.symm hK1
    have hK := hK.app hK1
    obtain ⟨hP, hD⟩ := va_join (wr := [(a 1, .inl (ca 1, 24, .inl (f1))), (a 2, .inl (ca 2, 24, .inl (f2))), (a 3, .inl (ca 3, 24, .inl (f3))), (a 4, .inl (ca 4, 24, .inl (f4))), (a 5, .inl (ca 5, 24, .inr (.inl (f5)))), (a 6, .inl (ca 6, 24, .inr (.inl (f6))))]) (w1 := [(g0, .inr (11, mF a 0 0 1000 1))]) hP hD [0] [1, 2, 3, 4, 5, 6] rfl rfl (by decide) (by decide) hk1 hFc hP1 hD1
    generalize H1 = H at hP hS ⊢
    have hP : va_P (dC, dI) vwCl [(a 1, .inl (ca 1, 24, .inl (f1))), (a 2, .inl (ca 2, 24, .inl (f2))), (a 3, .inl (ca 3, 24, .inl (f3))), (a 4, .inl (ca 4, 24, .inl (f4))), (a 5, .inl (ca 5, 24, .inr (.inl (f5)))), (a 6, .inl (ca 6, 24, .inr (.inl (f6)))), (g0, .inr (11, mF a 0 0 1000 1))] H := hP
    have hD : va_D A [(a 1, .inl (ca 1, 24, .inl (f1))), (a 2, .inl (ca 2, 24, .inl (f2))), (a 3, .inl (ca 3, 24, .inl (f3))), (a 4, .inl (ca 4, 24, .inl (f4))), (a 5, .inl (ca 5, 24, .inr (.inl (f5)))), (a 6, .inl (ca 6, 24, .inr (.inl (f6)))), (g0, .inr (11, mF a 0 0 1000 1))] := hD
    have hK : va_K (dC, dI) vwCl [(ca 1, .int), (ca 2, .int), (ca 3, .int), (ca 4, .int), (ca 5, .long), (ca 6, .long)] s := hK
    refine W.widen (k := 0) (n := 0) (by decide +kernel) (by decide +kernel) ?_
    obtain rfl : r_3 = 0 := hw
    refine W.widen (k := 0) (n := 0) (by decide +kernel) (by decide +kernel) ?_
    have hP9 := hP.sub (ws' := [(g0, .inr (11, mF a 0 0 1000 1))]) [6] rfl
    have hD9 := hD.sub (ws' := [(g0, .inr (11, mF a 0 0 1000 1))]) [6] (by decide) rfl
    have hK9 := hK.sub (tys' := []) [] rfl
    exact W.iret (v := 0) hx hb hr (fun t ht hW => ⟨⟨0, (0, 0, 1000, 1), rfl, ⟨(kOp_no c_9).symm, fun h => absurd ((kOp_no c_9).symm.trans h) (by decide)⟩, by rw [ht]; exact hP9, va_K.moved hW.alike hK9, hD9⟩, hS.F ht⟩) hS.2.2 dX12_iterate_17
set_option maxHeartbeats 4000000 in
set_option maxRecDepth 100000 in
theorem c_X12_steps (l : Launch) (dC : Nat → ClassId) (dI : Nat → Nat → Nat) (a : Nat → Nat) (g0 : Nat) (p0 : Int32) (sz : Nat) : Met l yX12_steps wsX12_steps ({ frames := 20, cells := 0, slots := 0, locals := 600 }) (va_Pc [.ref g0, .int p0] (fun U => U.heap.size = sz ∧ va_P (dC, dI) vwCl [(g0, .inr (11, mF a 0 0 1000 0))] U.heap ∧ va_K (dC, dI) vwCl [] U ∧ va_D (fun _ => True) [(g0, .inr (11, mF a 0 0 1000 0))])) (va_Qi (fun (r : Int32) (u : Int32 × Int32 × Int32 × Int32) => u.2.2.2 = kSteps p0 ∧ (kSteps p0 = 0 → r = 1000)) (fun (u : Int32 × Int32 × Int32 × Int32) (t : State) => va_P (dC, dI) vwCl [(g0, .inr (11, mF a u.1 u.2.1 u.2.2.1 u.2.2.2))] t.heap ∧ va_K (dC, dI) vwCl [] t ∧ va_D (va_A [(g0, .inr (11, mF a 0 0 1000 0))] sz) [(g0, .inr (11, mF a u.1 u.2.1 u.2.2.1 u.2.2.2))]) (va_A [(g0, .inr (11, mF a 0 0 1000 0))] sz)) 0 0 (va_A [(g0, .inr (11, mF a 0 0 1000 0))] sz) := by
  refine Met.ofW (cc := cX12_steps) (maxL := 3) (ret := (some .int)) (by decide) rfl ?_
  intro p e s m args below meth c s₁ B hml hv
  obtain ⟨rfl, hsz, hP, hK, hD0⟩ := hv
  have hx := B.exec
  have hb := B.bytes
  have hr := B.returns
  have hts := atoms_spec (ws := wsX12_steps) B.pre
  have hown : s.vm.findClass RX12 = some m.cls := findClass_of_methodNamed B.named
  have hlocks := B.notSynchronized
  subst hsz
  have hD := hD0.self (sz := s.heap.size)
  generalize hAe : va_A [(g0, .inr (11, mF a 0 0 1000 0))] s.heap.size = A at hD ⊢
  have hA : ∀ q : Nat, s.heap.size ≤ q → A q := fun q h => by rw [← hAe]; exact Or.inr h
  generalize hH : s.heap = H at hP ⊢
  have hS : va_S A s.heap H [] := by rw [← hH]; exact va_S.rf
  have hl := lv_entry [.ref g0, .int p0] (n := 3) (Nat.le_of_ble_eq_true rfl)
  rw [lg_entry_eq]
  generalize (lg_sl [.ref g0, .int p0] ++ List.replicate (3 - (lg_sl [.ref g0, .int p0]).length) Slot.unset).toArray = ls at hl ⊢
  have hl : lv_has ls 3 [(0, .ref g0), (1, .int p0)] := hl
  have hP : va_P (dC, dI) vwCl [(g0, .inr (11, mF a 0 0 1000 0))] H := hP
  refine lv_aload_n hx hb dX12_steps_0 rfl (lv_at hl 0 rfl) ?_
  refine lv_iconst (v := 0) hx hb dX12_steps_1 (by decide) ?_
  refine va_put (D := (dC, dI)) (ci := 11) (v := .int 0) (ty := .int) (C := RX12) (T := TX12) (N := 32) hx hb hts (by decide +kernel) tyX12 tyX12_ok nmX12 hown hK hP hD hS 0 rfl rfl 19 (by decide) (hts (.fieldLink RX12 63 "NeededListsModel" "thrown" "I") (by decide +kernel)) (fun _ h9 => h9) rfl (by decide +kernel) rfl rfl (Nat.le_of_ble_eq_true rfl) dX12_steps_2 (fun H locs hP hD hS => ?_)
  have hP : va_P (dC, dI) vwCl [(g0, .inr (11, mF a 0 0 1000 0))] H := hP
  have hD : va_D A [(g0, .inr (11, mF a 0 0 1000 0))] := hD
  refine lv_iload_n hx hb dX12_steps_5 rfl (lv_at hl 1 rfl) ?_
  refine lv_iconst (v := 1) hx hb dX12_steps_6 (by decide) ?_
  refine lv_icmp_lt (tgt := 17) hx hb dX12_steps_7 (by decide) (fun c_7 => ?_) (fun c_7 => ?_)
  · refine lv_aload_n hx hb dX12_steps_17 rfl (lv_at hl 0 rfl) ?_
    refine lv_iconst (v := 1) hx hb dX12_steps_18 (by decide) ?_
    have hPc := hP.sub (ws' := [(g0, .inr (11, mF a 0 0 1000 0))]) [0] rfl
    have hDc := hD.sub (ws' := [(g0, .inr (11, mF a 0 0 1000 0))]) [0] (by decide) rfl
    have hKc := hK.sub (tys' := []) [] rfl
    have hFc := va_free (wc := [(g0, .inr (11, mF a 0 0 1000 0))]) hD hS hA [0] rfl
    refine va_calli (va_runV (As := [.int 1]) (rest := []) ⟨hx, hb, hml, hown, hts⟩ (c_X12_fail l dC dI a g0 0 0 1000 0 1 H.size) (cwV 1 hts gX12_steps_X12_fail rfl rfl rfl (by decide +kernel) ⟨Nat.le_of_ble_eq_true rfl, Nat.le_of_ble_eq_true rfl⟩) ⟨fun a U g mk q => by obtain ⟨q0, q1, qP, qK, qD⟩ := q; exact ⟨q0, q1, qP, va_K.moved (u := U) (U := U.calling g mk a) (Vm.Alike.refl U.vm) qK, qD⟩, va_recv hKc hPc (ci := 11) (q0 := 0) rfl rfl, fun U hU hW => ⟨rfl, by rw [hU], by rw [hU]; exact hPc, va_K.moved hW.alike hKc, hDc.weaken (fun _ _ _ _ => trivial)⟩⟩ rfl rfl hl.1 rfl (lv_room (Nat.le_of_ble_eq_true rfl)) dX12_steps_19 ⟨Nat.le_of_ble_eq_true rfl, Nat.le_of_ble_eq_true rfl⟩) hS (fun q _ h => hFc q h) hFc (fun r_1 u_2 t H1 locs ht hvm hw hB hz1 hk1 hS => ?_)
    obtain ⟨hP1, hK1, hD1⟩ := hB
    rw [ht] at hP1
    have hK1 := va_K.moved hvm.symm hK1
    have hK := hK.app hK1
    obtain ⟨hP, hD⟩ := va_join (wr := []) (w1 := [(g0, .inr (11, mF a 0 0 1000 1))]) hP hD [0] [] rfl rfl (by decide) (by decide) hk1 hFc hP1 hD1
    generalize H1 = H at hP hS ⊢
    have hP : va_P (dC, dI) vwCl [(g0, .inr (11, mF a 0 0 1000 1))] H := hP
    have hD : va_D A [(g0, .inr (11, mF a 0 0 1000 1))] := hD
    have hK : va_K (dC, dI) vwCl [] s := hK
    refine W.widen (k := 0) (n := 0) (by decide +kernel) (by decide +kernel) ?_
    obtain rfl : r_1 = 0 := hw
    refine W.widen (k := 0) (n := 0) (by decide +kernel) (by decide +kernel) ?_
    have hP9 := hP.sub (ws' := [(g0, .inr (11, mF a 0 0 1000 1))]) [0] rfl
    have hD9 := hD.sub (ws' := [(g0, .inr (11, mF a 0 0 1000 1))]) [0] (by decide) rfl
    have hK9 := hK.sub (tys' := []) [] rfl
    exact W.iret (v := 0) hx hb hr (fun t ht hW => ⟨⟨0, (0, 0, 1000, 1), rfl, ⟨(if_pos c_7).symm, fun h => absurd ((if_pos c_7).symm.trans h) (by decide)⟩, by rw [ht]; exact hP9, va_K.moved hW.alike hK9, hD9⟩, hS.F ht⟩) hS.2.2 dX12_steps_22
  · refine lv_iload_n hx hb dX12_steps_10 rfl (lv_at hl 1 rfl) ?_
    refine lv_sipush (v := 5000) hx hb dX12_steps_11 (by decide) ?_
    refine lv_icmp_le (tgt := 23) hx hb dX12_steps_14 (by decide) (fun c_14 => ?_) (fun c_14 => ?_)
    · refine lv_aload_n hx hb dX12_steps_23 rfl (lv_at hl 0 rfl) ?_
      refine va_get (D := (dC, dI)) (ci := 11) (v := .int 1000) (C := RX12) (T := TX12) (N := 32) hx hb hts (by decide +kernel) hown hK hP 0 rfl rfl 15 (by decide) (hts (.fieldLink RX12 50 "NeededListsModel" "purse" "I") (by decide +kernel)) (fun _ h9 => h9) rfl dX12_steps_24 ?_
      refine lv_istore_n (lv' := [(2, .int 1000), (0, .ref g0), (1, .int p0)]) hx hb dX12_steps_27 rfl hl (by decide) rfl (fun ls hl => ?_)
      refine lv_aload_n hx hb dX12_steps_28 rfl (lv_at hl 1 rfl) ?_
      refine lv_iload_n hx hb dX12_steps_29 rfl (lv_at hl 2 rfl) ?_
      refine va_put (D := (dC, dI)) (ci := 11) (v := .int p0) (ty := .int) (C := RX12) (T := TX12) (N := 32) hx hb hts (by decide +kernel) tyX12 tyX12_ok nmX12 hown hK hP hD hS 0 rfl rfl 15 (by decide) (hts (.fieldLink RX12 50 "NeededListsModel" "purse" "I") (by decide +kernel)) (fun _ h9 => h9) rfl (by decide +kernel) rfl rfl (Nat.le_of_ble_eq_true rfl) dX12_steps_30 (fun H locs hP hD hS => ?_)
      have hP : va_P (dC, dI) vwCl [(g0, .inr (11, mF a 0 0 p0 0))] H := hP
      have hD : va_D A [(g0, .inr (11, mF a 0 0 p0 0))] := hD
      refine lv_iload_n hx hb dX12_steps_33 rfl (lv_at hl 0 rfl) ?_
      refine W.widen (k := 0) (n := 0) (by decide +kernel) (by decide +kernel) ?_
      have hP9 := hP.sub (ws' := [(g0, .inr (11, mF a 0 0 p0 0))]) [0] rfl
      have hD9 := hD.sub (ws' := [(g0, .inr (11, mF a 0 0 p0 0))]) [0] (by decide) rfl
      have hK9 := hK.sub (tys' := []) [] rfl
      exact W.iret (v := 1000) hx hb hr (fun t ht hW => ⟨⟨1000, (0, 0, p0, 0), rfl, ⟨((if_neg c_7).trans (if_pos c_14)).symm, fun _ => rfl⟩, by rw [ht]; exact hP9, va_K.moved hW.alike hK9, hD9⟩, hS.F ht⟩) hS.2.2 dX12_steps_34
    · refine lv_aload_n hx hb dX12_steps_17 rfl (lv_at hl 0 rfl) ?_
      refine lv_iconst (v := 1) hx hb dX12_steps_18 (by decide) ?_
      have hPc := hP.sub (ws' := [(g0, .inr (11, mF a 0 0 1000 0))]) [0] rfl
      have hDc := hD.sub (ws' := [(g0, .inr (11, mF a 0 0 1000 0))]) [0] (by decide) rfl
      have hKc := hK.sub (tys' := []) [] rfl
      have hFc := va_free (wc := [(g0, .inr (11, mF a 0 0 1000 0))]) hD hS hA [0] rfl
      refine va_calli (va_runV (As := [.int 1]) (rest := []) ⟨hx, hb, hml, hown, hts⟩ (c_X12_fail l dC dI a g0 0 0 1000 0 1 H.size) (cwV 1 hts gX12_steps_X12_fail rfl rfl rfl (by decide +kernel) ⟨Nat.le_of_ble_eq_true rfl, Nat.le_of_ble_eq_true rfl⟩) ⟨fun a U g mk q => by obtain ⟨q0, q1, qP, qK, qD⟩ := q; exact ⟨q0, q1, qP, va_K.moved (u := U) (U := U.calling g mk a) (Vm.Alike.refl U.vm) qK, qD⟩, va_recv hKc hPc (ci := 11) (q0 := 0) rfl rfl, fun U hU hW => ⟨rfl, by rw [hU], by rw [hU]; exact hPc, va_K.moved hW.alike hKc, hDc.weaken (fun _ _ _ _ => trivial)⟩⟩ rfl rfl hl.1 rfl (lv_room (Nat.le_of_ble_eq_true rfl)) dX12_steps_19 ⟨Nat.le_of_ble_eq_true rfl, Nat.le_of_ble_eq_true rfl⟩) hS (fun q _ h => hFc q h) hFc (fun r_3 u_4 t H1 locs ht hvm hw hB hz1 hk1 hS => ?_)
      obtain ⟨hP1, hK1, hD1⟩ := hB
      rw [ht] at hP1
      have hK1 := va_K.moved hvm.symm hK1
      have hK := hK.app hK1
      obtain ⟨hP, hD⟩ := va_join (wr := []) (w1 := [(g0, .inr (11, mF a 0 0 1000 1))]) hP hD [0] [] rfl rfl (by decide) (by decide) hk1 hFc hP1 hD1
      generalize H1 = H at hP hS ⊢
      have hP : va_P (dC, dI) vwCl [(g0, .inr (11, mF a 0 0 1000 1))] H := hP
      have hD : va_D A [(g0, .inr (11, mF a 0 0 1000 1))] := hD
      have hK : va_K (dC, dI) vwCl [] s := hK
      refine W.widen (k := 0) (n := 0) (by decide +kernel) (by decide +kernel) ?_
      obtain rfl : r_3 = 0 := hw
      refine W.widen (k := 0) (n := 0) (by decide +kernel) (by decide +kernel) ?_
      have hP9 := hP.sub (ws' := [(g0, .inr (11, mF a 0 0 1000 1))]) [0] rfl
      have hD9 := hD.sub (ws' := [(g0, .inr (11, mF a 0 0 1000 1))]) [0] (by decide) rfl
      have hK9 := hK.sub (tys' := []) [] rfl
      exact W.iret (v := 0) hx hb hr (fun t ht hW => ⟨⟨0, (0, 0, 1000, 1), rfl, ⟨((if_neg c_7).trans (if_neg c_14)).symm, fun h => absurd (((if_neg c_7).trans (if_neg c_14)).symm.trans h) (by decide)⟩, by rw [ht]; exact hP9, va_K.moved hW.alike hK9, hD9⟩, hS.F ht⟩) hS.2.2 dX12_steps_22
