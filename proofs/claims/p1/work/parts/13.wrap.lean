set_option maxHeartbeats 4000000 in
set_option maxRecDepth 100000 in
theorem c_L_map (l : Launch) (hl0 : l.stackTraces = false) (dC : Nat → ClassId) (dI : Nat → Nat → Nat) (h0 : Nat) (hm : Nat) (h1 : Nat) (h2 : Nat) (h3 : Nat) (p0 : Int32) (p1 : Int32) (p2 : Int64) (ho : Nat) (sz : Nat) : Met l yL_map vsL_map ({ frames := 30, cells := 1, slots := 6, locals := 900 }) (va_Pc [.ref h0, .int p0, .int p1, .long p2, .ref ho] (fun U => U.heap.size = sz ∧ va_P (dC, dI) vwCl [(h0, .inr (10, xF hm h1 h2 h3 0 0 1000))] U.heap ∧ va_K (dC, dI) vwCl [] U ∧ va_D (fun _ => True) [] ∧ Gw U ∧ Gz (va_A [] sz) U U.heap)) (va_Qi (fun (r : Int32) (_ : Unit) => r = 1) (fun _ _ => True) (va_A [] sz)) 1 6 (va_A [] sz) := by
  refine va_MetW (hh := [(0, 12, 15, 37), (0, 12, 19, 19), (0, 12, 23, 13)]) (cc := cL_map) (maxL := 7) (ret := (some .int)) (by decide) rfl ?_
  intro p e s m args below meth c s₁ B hml hv
  obtain ⟨rfl, hsz, hP, hK, hD0, hG, hZ⟩ := hv
  have hx := B.exec
  have hb := B.bytes
  have hr := B.returns
  have hts := atoms_spec (ws := vsL_map) B.pre
  have hown : s.vm.findClass RL = some m.cls := findClass_of_methodNamed B.named
  have hlocks := B.notSynchronized
  have htab := vx_table (x := yL_map) (hh := [(0, 12, 15, 37), (0, 12, 19, 19), (0, 12, 23, 13)]) (bytes := cL_map) (maxL' := 7) (ret' := (some .int)) B (hts _ List.mem_cons_self)
  subst hsz
  have hD := hD0.self (sz := s.heap.size)
  generalize hAe : va_A [] s.heap.size = A at hD hZ ⊢
  have hA : ∀ q : Nat, s.heap.size ≤ q → A q := fun q h => by rw [← hAe]; exact Or.inr h
  generalize hH : s.heap = H at hP ⊢
  have hS : va_S A s.heap H [] := by rw [← hH]; exact va_S.rf
  have hl := lv_entry [.ref h0, .int p0, .int p1, .long p2, .ref ho] (n := 7) (Nat.le_of_ble_eq_true rfl)
  rw [lg_entry_eq]
  generalize (lg_sl [.ref h0, .int p0, .int p1, .long p2, .ref ho] ++ List.replicate (7 - (lg_sl [.ref h0, .int p0, .int p1, .long p2, .ref ho]).length) Slot.unset).toArray = ls at hl ⊢
  have hl : lv_has ls 7 [(0, .ref h0), (1, .int p0), (2, .int p1), (3, .long p2), (5, .ref ho)] := hl
  have hP : va_P (dC, dI) vwCl [(h0, .inr (10, xF hm h1 h2 h3 0 0 1000))] H := hP
  refine lv_aload hx hb dL_map_0 (lv_at hl 4 rfl) ?_
  refine lv_iconst (v := 0) hx hb dL_map_2 (by decide) ?_
  refine lv_aload_n hx hb dL_map_3 rfl (lv_at hl 0 rfl) ?_
  refine lv_iload_n hx hb dL_map_4 rfl (lv_at hl 1 rfl) ?_
  refine lv_iload_n hx hb dL_map_5 rfl (lv_at hl 2 rfl) ?_
  refine lv_lload_n hx hb dL_map_6 rfl (lv_at hl 3 rfl) ?_
  have hPc := hP.sub (ws' := [(h0, .inr (10, xF hm h1 h2 h3 0 0 1000))]) [0] rfl
  have hDc : va_D (fun _ => True) ([] : va_W) := nd_0
  have hKc := hK.sub (tys' := []) [] rfl
  have hFc := va_free (wc := []) hD hS hA [] rfl
  refine vx_callX (vx_runV (As := [.int p0, .int p1, .long p2]) (rest := [.int 0, .ref ho]) ⟨hx, hb, hml, hown, hts⟩ (c_X11_map l hl0 dC dI h0 hm h1 h2 h3 p0 p1 p2 H.size) (cwV 3 hts hL_map rfl rfl rfl (by decide +kernel) ⟨Nat.le_of_ble_eq_true rfl, Nat.le_of_ble_eq_true rfl⟩) ⟨fun a U g mk q => by obtain ⟨q0, q1, qP, qK, qD, qG, qZ⟩ := q; exact ⟨q0, q1, qP, va_K.moved (u := U) (U := U.calling g mk a) (Vm.Alike.refl U.vm) qK, qD, Gw.same (u := U) (U := U.calling g mk a) rfl qG, Gz.moved (u := U) (U := U.calling g mk a) (Vm.Alike.refl U.vm) qZ⟩, va_recv hKc hPc (ci := 10) (q0 := 0) rfl rfl, fun U hU hW => ⟨rfl, by rw [hU], by rw [hU]; exact hPc, va_K.moved hW.alike hKc, nd_0, Gw.warm hW hG, Gz.step hZ hS hFc hU hW.alike⟩⟩ rfl rfl hl.1 rfl (lv_room (Nat.le_of_ble_eq_true rfl)) dL_map_7 ⟨Nat.le_of_ble_eq_true rfl, Nat.le_of_ble_eq_true rfl⟩) hS hFc (fun q _ h => hFc q h) (fun E ce q9 u9 t H1 locs ht hvm hpx hBX hz1 hk1 hS hce hcv hcl => ?_)
  obtain rfl : E = "java/lang/IndexOutOfBoundsException" := hBX
  have hP := nd_keep hP hk1
  generalize H1 = H at hP hS hce ⊢
  have hP : va_P (dC, dI) vwCl [(h0, .inr (10, xF hm h1 h2 h3 0 0 1000))] H := hP
  have hD : va_D A [] := hD
  refine vx_catch (own := RL) (name := "java/lang/IndexOutOfBoundsException") hown [] (tableOf [(0, 12, 15, 37), (0, 12, 19, 19), (0, 12, 23, 13)])[0] ((tableOf [(0, 12, 15, 37), (0, 12, 19, 19), (0, 12, 23, 13)]).drop 1) (by rw [htab]; rfl) (fun z hz => nomatch hz) (by decide) (by decide) (hts (.classLink RL 37 "java/lang/IndexOutOfBoundsException") (by decide +kernel)) (va_Nw.use rfl hG.cIOO) hce hcv hcl ?_
  refine W.eq (g2 := F0 m 15 ls [.ref q9]) rfl ?_
  refine lv_astore (lv' := [(6, .ref q9), (0, .ref h0), (1, .int p0), (2, .int p1), (3, .long p2), (5, .ref ho)]) hx hb dL_map_15 hl (by decide) rfl (fun ls hl => ?_)
  refine lv_iconst (v := 1) hx hb dL_map_17 (by decide) ?_
  refine W.widen (k := 1) (n := 6) (by decide +kernel) (by decide +kernel) ?_
  exact W.iret (v := 1) hx hb hr (fun t ht hW => ⟨⟨1, (), rfl, rfl, trivial⟩, hS.F ht⟩) hS.2.2 dL_map_18
set_option maxHeartbeats 4000000 in
set_option maxRecDepth 100000 in
theorem c_L_both (l : Launch) (hl0 : l.stackTraces = false) (dC : Nat → ClassId) (dI : Nat → Nat → Nat) (h0 : Nat) (hm : Nat) (h1 : Nat) (h2 : Nat) (h3 : Nat) (p0 : Int32) (p1 : Int32) (p2 : Int32) (ho : Nat) (sz : Nat) : Met l yL_both vsL_both ({ frames := 30, cells := 1, slots := 6, locals := 900 }) (va_Pc [.ref h0, .int p0, .int p1, .int p2, .ref ho] (fun U => U.heap.size = sz ∧ va_P (dC, dI) vwCl [(h0, .inr (10, xF hm h1 h2 h3 0 0 1000))] U.heap ∧ va_K (dC, dI) vwCl [] U ∧ va_D (fun _ => True) [] ∧ Gw U ∧ Gz (va_A [] sz) U U.heap)) (va_Qi (fun (r : Int32) (_ : Unit) => r = 1) (fun _ _ => True) (va_A [] sz)) 1 6 (va_A [] sz) := by
  refine va_MetW (hh := [(0, 12, 15, 37), (0, 12, 19, 19), (0, 12, 23, 13)]) (cc := cL_both) (maxL := 6) (ret := (some .int)) (by decide) rfl ?_
  intro p e s m args below meth c s₁ B hml hv
  obtain ⟨rfl, hsz, hP, hK, hD0, hG, hZ⟩ := hv
  have hx := B.exec
  have hb := B.bytes
  have hr := B.returns
  have hts := atoms_spec (ws := vsL_both) B.pre
  have hown : s.vm.findClass RL = some m.cls := findClass_of_methodNamed B.named
  have hlocks := B.notSynchronized
  have htab := vx_table (x := yL_both) (hh := [(0, 12, 15, 37), (0, 12, 19, 19), (0, 12, 23, 13)]) (bytes := cL_both) (maxL' := 6) (ret' := (some .int)) B (hts _ List.mem_cons_self)
  subst hsz
  have hD := hD0.self (sz := s.heap.size)
  generalize hAe : va_A [] s.heap.size = A at hD hZ ⊢
  have hA : ∀ q : Nat, s.heap.size ≤ q → A q := fun q h => by rw [← hAe]; exact Or.inr h
  generalize hH : s.heap = H at hP ⊢
  have hS : va_S A s.heap H [] := by rw [← hH]; exact va_S.rf
  have hl := lv_entry [.ref h0, .int p0, .int p1, .int p2, .ref ho] (n := 6) (Nat.le_of_ble_eq_true rfl)
  rw [lg_entry_eq]
  generalize (lg_sl [.ref h0, .int p0, .int p1, .int p2, .ref ho] ++ List.replicate (6 - (lg_sl [.ref h0, .int p0, .int p1, .int p2, .ref ho]).length) Slot.unset).toArray = ls at hl ⊢
  have hl : lv_has ls 6 [(0, .ref h0), (1, .int p0), (2, .int p1), (3, .int p2), (4, .ref ho)] := hl
  have hP : va_P (dC, dI) vwCl [(h0, .inr (10, xF hm h1 h2 h3 0 0 1000))] H := hP
  refine lv_aload hx hb dL_both_0 (lv_at hl 4 rfl) ?_
  refine lv_iconst (v := 0) hx hb dL_both_2 (by decide) ?_
  refine lv_aload_n hx hb dL_both_3 rfl (lv_at hl 0 rfl) ?_
  refine lv_iload_n hx hb dL_both_4 rfl (lv_at hl 1 rfl) ?_
  refine lv_iload_n hx hb dL_both_5 rfl (lv_at hl 2 rfl) ?_
  refine lv_iload_n hx hb dL_both_6 rfl (lv_at hl 3 rfl) ?_
  have hPc := hP.sub (ws' := [(h0, .inr (10, xF hm h1 h2 h3 0 0 1000))]) [0] rfl
  have hDc : va_D (fun _ => True) ([] : va_W) := nd_0
  have hKc := hK.sub (tys' := []) [] rfl
  have hFc := va_free (wc := []) hD hS hA [] rfl
  refine vx_callX (vx_runV (As := [.int p0, .int p1, .int p2]) (rest := [.int 0, .ref ho]) ⟨hx, hb, hml, hown, hts⟩ (c_X11_both l hl0 dC dI h0 hm h1 h2 h3 p0 p1 p2 H.size) (cwV 3 hts hL_both rfl rfl rfl (by decide +kernel) ⟨Nat.le_of_ble_eq_true rfl, Nat.le_of_ble_eq_true rfl⟩) ⟨fun a U g mk q => by obtain ⟨q0, q1, qP, qK, qD, qG, qZ⟩ := q; exact ⟨q0, q1, qP, va_K.moved (u := U) (U := U.calling g mk a) (Vm.Alike.refl U.vm) qK, qD, Gw.same (u := U) (U := U.calling g mk a) rfl qG, Gz.moved (u := U) (U := U.calling g mk a) (Vm.Alike.refl U.vm) qZ⟩, va_recv hKc hPc (ci := 10) (q0 := 0) rfl rfl, fun U hU hW => ⟨rfl, by rw [hU], by rw [hU]; exact hPc, va_K.moved hW.alike hKc, nd_0, Gw.warm hW hG, Gz.step hZ hS hFc hU hW.alike⟩⟩ rfl rfl hl.1 rfl (lv_room (Nat.le_of_ble_eq_true rfl)) dL_both_7 ⟨Nat.le_of_ble_eq_true rfl, Nat.le_of_ble_eq_true rfl⟩) hS hFc (fun q _ h => hFc q h) (fun E ce q9 u9 t H1 locs ht hvm hpx hBX hz1 hk1 hS hce hcv hcl => ?_)
  obtain rfl : E = "java/lang/IndexOutOfBoundsException" := hBX
  have hP := nd_keep hP hk1
  generalize H1 = H at hP hS hce ⊢
  have hP : va_P (dC, dI) vwCl [(h0, .inr (10, xF hm h1 h2 h3 0 0 1000))] H := hP
  have hD : va_D A [] := hD
  refine vx_catch (own := RL) (name := "java/lang/IndexOutOfBoundsException") hown [] (tableOf [(0, 12, 15, 37), (0, 12, 19, 19), (0, 12, 23, 13)])[0] ((tableOf [(0, 12, 15, 37), (0, 12, 19, 19), (0, 12, 23, 13)]).drop 1) (by rw [htab]; rfl) (fun z hz => nomatch hz) (by decide) (by decide) (hts (.classLink RL 37 "java/lang/IndexOutOfBoundsException") (by decide +kernel)) (va_Nw.use rfl hG.cIOO) hce hcv hcl ?_
  refine W.eq (g2 := F0 m 15 ls [.ref q9]) rfl ?_
  refine lv_astore (lv' := [(5, .ref q9), (0, .ref h0), (1, .int p0), (2, .int p1), (3, .int p2), (4, .ref ho)]) hx hb dL_both_15 hl (by decide) rfl (fun ls hl => ?_)
  refine lv_iconst (v := 1) hx hb dL_both_17 (by decide) ?_
  refine W.widen (k := 1) (n := 6) (by decide +kernel) (by decide +kernel) ?_
  exact W.iret (v := 1) hx hb hr (fun t ht hW => ⟨⟨1, (), rfl, rfl, trivial⟩, hS.F ht⟩) hS.2.2 dL_both_18
set_option maxHeartbeats 4000000 in
set_option maxRecDepth 100000 in
theorem c_L_scan (l : Launch) (hl0 : l.stackTraces = false) (dC : Nat → ClassId) (dI : Nat → Nat → Nat) (h0 : Nat) (hm : Nat) (h1 : Nat) (h2 : Nat) (h3 : Nat) (p0 : Int32) (p1 : Int32) (p2 : Int64) (ho : Nat) (sz : Nat) : Met l yL_scan vsL_scan ({ frames := 30, cells := 1, slots := 6, locals := 900 }) (va_Pc [.ref h0, .int p0, .int p1, .long p2, .ref ho] (fun U => U.heap.size = sz ∧ va_P (dC, dI) vwCl [(h0, .inr (10, xF hm h1 h2 h3 0 0 1000))] U.heap ∧ va_K (dC, dI) vwCl [] U ∧ va_D (fun _ => True) [] ∧ Gw U ∧ Gz (va_A [] sz) U U.heap)) (va_Qi (fun (r : Int32) (_ : Unit) => r = 1) (fun _ _ => True) (va_A [] sz)) 1 6 (va_A [] sz) := by
  refine va_MetW (hh := [(0, 12, 15, 37), (0, 12, 19, 19), (0, 12, 23, 13)]) (cc := cL_scan) (maxL := 7) (ret := (some .int)) (by decide) rfl ?_
  intro p e s m args below meth c s₁ B hml hv
  obtain ⟨rfl, hsz, hP, hK, hD0, hG, hZ⟩ := hv
  have hx := B.exec
  have hb := B.bytes
  have hr := B.returns
  have hts := atoms_spec (ws := vsL_scan) B.pre
  have hown : s.vm.findClass RL = some m.cls := findClass_of_methodNamed B.named
  have hlocks := B.notSynchronized
  have htab := vx_table (x := yL_scan) (hh := [(0, 12, 15, 37), (0, 12, 19, 19), (0, 12, 23, 13)]) (bytes := cL_scan) (maxL' := 7) (ret' := (some .int)) B (hts _ List.mem_cons_self)
  subst hsz
  have hD := hD0.self (sz := s.heap.size)
  generalize hAe : va_A [] s.heap.size = A at hD hZ ⊢
  have hA : ∀ q : Nat, s.heap.size ≤ q → A q := fun q h => by rw [← hAe]; exact Or.inr h
  generalize hH : s.heap = H at hP ⊢
  have hS : va_S A s.heap H [] := by rw [← hH]; exact va_S.rf
  have hl := lv_entry [.ref h0, .int p0, .int p1, .long p2, .ref ho] (n := 7) (Nat.le_of_ble_eq_true rfl)
  rw [lg_entry_eq]
  generalize (lg_sl [.ref h0, .int p0, .int p1, .long p2, .ref ho] ++ List.replicate (7 - (lg_sl [.ref h0, .int p0, .int p1, .long p2, .ref ho]).length) Slot.unset).toArray = ls at hl ⊢
  have hl : lv_has ls 7 [(0, .ref h0), (1, .int p0), (2, .int p1), (3, .long p2), (5, .ref ho)] := hl
  have hP : va_P (dC, dI) vwCl [(h0, .inr (10, xF hm h1 h2 h3 0 0 1000))] H := hP
  refine lv_aload hx hb dL_scan_0 (lv_at hl 4 rfl) ?_
  refine lv_iconst (v := 0) hx hb dL_scan_2 (by decide) ?_
  refine lv_aload_n hx hb dL_scan_3 rfl (lv_at hl 0 rfl) ?_
  refine lv_iload_n hx hb dL_scan_4 rfl (lv_at hl 1 rfl) ?_
  refine lv_iload_n hx hb dL_scan_5 rfl (lv_at hl 2 rfl) ?_
  refine lv_lload_n hx hb dL_scan_6 rfl (lv_at hl 3 rfl) ?_
  have hPc := hP.sub (ws' := [(h0, .inr (10, xF hm h1 h2 h3 0 0 1000))]) [0] rfl
  have hDc : va_D (fun _ => True) ([] : va_W) := nd_0
  have hKc := hK.sub (tys' := []) [] rfl
  have hFc := va_free (wc := []) hD hS hA [] rfl
  refine vx_callX (vx_runV (As := [.int p0, .int p1, .long p2]) (rest := [.int 0, .ref ho]) ⟨hx, hb, hml, hown, hts⟩ (c_X11_scan l hl0 dC dI h0 hm h1 h2 h3 p0 p1 p2 H.size) (cwV 3 hts hL_scan rfl rfl rfl (by decide +kernel) ⟨Nat.le_of_ble_eq_true rfl, Nat.le_of_ble_eq_true rfl⟩) ⟨fun a U g mk q => by obtain ⟨q0, q1, qP, qK, qD, qG, qZ⟩ := q; exact ⟨q0, q1, qP, va_K.moved (u := U) (U := U.calling g mk a) (Vm.Alike.refl U.vm) qK, qD, Gw.same (u := U) (U := U.calling g mk a) rfl qG, Gz.moved (u := U) (U := U.calling g mk a) (Vm.Alike.refl U.vm) qZ⟩, va_recv hKc hPc (ci := 10) (q0 := 0) rfl rfl, fun U hU hW => ⟨rfl, by rw [hU], by rw [hU]; exact hPc, va_K.moved hW.alike hKc, nd_0, Gw.warm hW hG, Gz.step hZ hS hFc hU hW.alike⟩⟩ rfl rfl hl.1 rfl (lv_room (Nat.le_of_ble_eq_true rfl)) dL_scan_7 ⟨Nat.le_of_ble_eq_true rfl, Nat.le_of_ble_eq_true rfl⟩) hS hFc (fun q _ h => hFc q h) (fun E ce q9 u9 t H1 locs ht hvm hpx hBX hz1 hk1 hS hce hcv hcl => ?_)
  obtain rfl : E = "java/lang/IndexOutOfBoundsException" := hBX
  have hP := nd_keep hP hk1
  generalize H1 = H at hP hS hce ⊢
  have hP : va_P (dC, dI) vwCl [(h0, .inr (10, xF hm h1 h2 h3 0 0 1000))] H := hP
  have hD : va_D A [] := hD
  refine vx_catch (own := RL) (name := "java/lang/IndexOutOfBoundsException") hown [] (tableOf [(0, 12, 15, 37), (0, 12, 19, 19), (0, 12, 23, 13)])[0] ((tableOf [(0, 12, 15, 37), (0, 12, 19, 19), (0, 12, 23, 13)]).drop 1) (by rw [htab]; rfl) (fun z hz => nomatch hz) (by decide) (by decide) (hts (.classLink RL 37 "java/lang/IndexOutOfBoundsException") (by decide +kernel)) (va_Nw.use rfl hG.cIOO) hce hcv hcl ?_
  refine W.eq (g2 := F0 m 15 ls [.ref q9]) rfl ?_
  refine lv_astore (lv' := [(6, .ref q9), (0, .ref h0), (1, .int p0), (2, .int p1), (3, .long p2), (5, .ref ho)]) hx hb dL_scan_15 hl (by decide) rfl (fun ls hl => ?_)
  refine lv_iconst (v := 1) hx hb dL_scan_17 (by decide) ?_
  refine W.widen (k := 1) (n := 6) (by decide +kernel) (by decide +kernel) ?_
  exact W.iret (v := 1) hx hb hr (fun t ht hW => ⟨⟨1, (), rfl, rfl, trivial⟩, hS.F ht⟩) hS.2.2 dL_scan_18
set_option maxHeartbeats 4000000 in
set_option maxRecDepth 100000 in
theorem c_L_take (l : Launch) (hl0 : l.stackTraces = false) (dC : Nat → ClassId) (dI : Nat → Nat → Nat) (h0 : Nat) (hm : Nat) (h1 : Nat) (h2 : Nat) (h3 : Nat) (p0 : Int32) (p1 : Int32) (ho : Nat) (sz : Nat) : Met l yL_take vsL_take ({ frames := 30, cells := 1, slots := 6, locals := 900 }) (va_Pc [.ref h0, .int p0, .int p1, .ref ho] (fun U => U.heap.size = sz ∧ va_P (dC, dI) vwCl [(h0, .inr (10, xF hm h1 h2 h3 0 0 1000))] U.heap ∧ va_K (dC, dI) vwCl [] U ∧ va_D (fun _ => True) [] ∧ Gw U ∧ Gz (va_A [] sz) U U.heap)) (va_Qi (fun (r : Int32) (_ : Unit) => r = 1) (fun _ _ => True) (va_A [] sz)) 1 6 (va_A [] sz) := by
  refine va_MetW (hh := [(0, 10, 13, 37), (0, 10, 17, 19), (0, 10, 21, 13)]) (cc := cL_take) (maxL := 5) (ret := (some .int)) (by decide) rfl ?_
  intro p e s m args below meth c s₁ B hml hv
  obtain ⟨rfl, hsz, hP, hK, hD0, hG, hZ⟩ := hv
  have hx := B.exec
  have hb := B.bytes
  have hr := B.returns
  have hts := atoms_spec (ws := vsL_take) B.pre
  have hown : s.vm.findClass RL = some m.cls := findClass_of_methodNamed B.named
  have hlocks := B.notSynchronized
  have htab := vx_table (x := yL_take) (hh := [(0, 10, 13, 37), (0, 10, 17, 19), (0, 10, 21, 13)]) (bytes := cL_take) (maxL' := 5) (ret' := (some .int)) B (hts _ List.mem_cons_self)
  subst hsz
  have hD := hD0.self (sz := s.heap.size)
  generalize hAe : va_A [] s.heap.size = A at hD hZ ⊢
  have hA : ∀ q : Nat, s.heap.size ≤ q → A q := fun q h => by rw [← hAe]; exact Or.inr h
  generalize hH : s.heap = H at hP ⊢
  have hS : va_S A s.heap H [] := by rw [← hH]; exact va_S.rf
  have hl := lv_entry [.ref h0, .int p0, .int p1, .ref ho] (n := 5) (Nat.le_of_ble_eq_true rfl)
  rw [lg_entry_eq]
  generalize (lg_sl [.ref h0, .int p0, .int p1, .ref ho] ++ List.replicate (5 - (lg_sl [.ref h0, .int p0, .int p1, .ref ho]).length) Slot.unset).toArray = ls at hl ⊢
  have hl : lv_has ls 5 [(0, .ref h0), (1, .int p0), (2, .int p1), (3, .ref ho)] := hl
  have hP : va_P (dC, dI) vwCl [(h0, .inr (10, xF hm h1 h2 h3 0 0 1000))] H := hP
  refine lv_aload_n hx hb dL_take_0 rfl (lv_at hl 3 rfl) ?_
  refine lv_iconst (v := 0) hx hb dL_take_1 (by decide) ?_
  refine lv_aload_n hx hb dL_take_2 rfl (lv_at hl 0 rfl) ?_
  refine lv_iload_n hx hb dL_take_3 rfl (lv_at hl 1 rfl) ?_
  refine lv_iload_n hx hb dL_take_4 rfl (lv_at hl 2 rfl) ?_
  have hPc := hP.sub (ws' := [(h0, .inr (10, xF hm h1 h2 h3 0 0 1000))]) [0] rfl
  have hDc : va_D (fun _ => True) ([] : va_W) := nd_0
  have hKc := hK.sub (tys' := []) [] rfl
  have hFc := va_free (wc := []) hD hS hA [] rfl
  refine vx_callX (vx_runV (As := [.int p0, .int p1]) (rest := [.int 0, .ref ho]) ⟨hx, hb, hml, hown, hts⟩ (c_X11_take l hl0 dC dI h0 hm h1 h2 h3 p0 p1 H.size) (cwV 2 hts hL_take rfl rfl rfl (by decide +kernel) ⟨Nat.le_of_ble_eq_true rfl, Nat.le_of_ble_eq_true rfl⟩) ⟨fun a U g mk q => by obtain ⟨q0, q1, qP, qK, qD, qG, qZ⟩ := q; exact ⟨q0, q1, qP, va_K.moved (u := U) (U := U.calling g mk a) (Vm.Alike.refl U.vm) qK, qD, Gw.same (u := U) (U := U.calling g mk a) rfl qG, Gz.moved (u := U) (U := U.calling g mk a) (Vm.Alike.refl U.vm) qZ⟩, va_recv hKc hPc (ci := 10) (q0 := 0) rfl rfl, fun U hU hW => ⟨rfl, by rw [hU], by rw [hU]; exact hPc, va_K.moved hW.alike hKc, nd_0, Gw.warm hW hG, Gz.step hZ hS hFc hU hW.alike⟩⟩ rfl rfl hl.1 rfl (lv_room (Nat.le_of_ble_eq_true rfl)) dL_take_5 ⟨Nat.le_of_ble_eq_true rfl, Nat.le_of_ble_eq_true rfl⟩) hS hFc (fun q _ h => hFc q h) (fun E ce q9 u9 t H1 locs ht hvm hpx hBX hz1 hk1 hS hce hcv hcl => ?_)
  obtain rfl : E = "java/lang/IndexOutOfBoundsException" := hBX
  have hP := nd_keep hP hk1
  generalize H1 = H at hP hS hce ⊢
  have hP : va_P (dC, dI) vwCl [(h0, .inr (10, xF hm h1 h2 h3 0 0 1000))] H := hP
  have hD : va_D A [] := hD
  refine vx_catch (own := RL) (name := "java/lang/IndexOutOfBoundsException") hown [] (tableOf [(0, 10, 13, 37), (0, 10, 17, 19), (0, 10, 21, 13)])[0] ((tableOf [(0, 10, 13, 37), (0, 10, 17, 19), (0, 10, 21, 13)]).drop 1) (by rw [htab]; rfl) (fun z hz => nomatch hz) (by decide) (by decide) (hts (.classLink RL 37 "java/lang/IndexOutOfBoundsException") (by decide +kernel)) (va_Nw.use rfl hG.cIOO) hce hcv hcl ?_
  refine W.eq (g2 := F0 m 13 ls [.ref q9]) rfl ?_
  refine lv_astore (lv' := [(4, .ref q9), (0, .ref h0), (1, .int p0), (2, .int p1), (3, .ref ho)]) hx hb dL_take_13 hl (by decide) rfl (fun ls hl => ?_)
  refine lv_iconst (v := 1) hx hb dL_take_15 (by decide) ?_
  refine W.widen (k := 1) (n := 6) (by decide +kernel) (by decide +kernel) ?_
  exact W.iret (v := 1) hx hb hr (fun t ht hW => ⟨⟨1, (), rfl, rfl, trivial⟩, hS.F ht⟩) hS.2.2 dL_take_16
set_option maxHeartbeats 4000000 in
set_option maxRecDepth 100000 in
theorem c_L_drop (l : Launch) (hl0 : l.stackTraces = false) (dC : Nat → ClassId) (dI : Nat → Nat → Nat) (h0 : Nat) (hm : Nat) (h1 : Nat) (h2 : Nat) (h3 : Nat) (p0 : Int32) (p1 : Int32) (ho : Nat) (sz : Nat) : Met l yL_drop vsL_drop ({ frames := 30, cells := 1, slots := 6, locals := 900 }) (va_Pc [.ref h0, .int p0, .int p1, .ref ho] (fun U => U.heap.size = sz ∧ va_P (dC, dI) vwCl [(h0, .inr (10, xF hm h1 h2 h3 0 0 1000))] U.heap ∧ va_K (dC, dI) vwCl [] U ∧ va_D (fun _ => True) [] ∧ Gw U ∧ Gz (va_A [] sz) U U.heap)) (va_Qi (fun (r : Int32) (_ : Unit) => r = 1) (fun _ _ => True) (va_A [] sz)) 1 6 (va_A [] sz) := by
  refine va_MetW (hh := [(0, 10, 13, 37), (0, 10, 17, 19), (0, 10, 21, 13)]) (cc := cL_drop) (maxL := 5) (ret := (some .int)) (by decide) rfl ?_
  intro p e s m args below meth c s₁ B hml hv
  obtain ⟨rfl, hsz, hP, hK, hD0, hG, hZ⟩ := hv
  have hx := B.exec
  have hb := B.bytes
  have hr := B.returns
  have hts := atoms_spec (ws := vsL_drop) B.pre
  have hown : s.vm.findClass RL = some m.cls := findClass_of_methodNamed B.named
  have hlocks := B.notSynchronized
  have htab := vx_table (x := yL_drop) (hh := [(0, 10, 13, 37), (0, 10, 17, 19), (0, 10, 21, 13)]) (bytes := cL_drop) (maxL' := 5) (ret' := (some .int)) B (hts _ List.mem_cons_self)
  subst hsz
  have hD := hD0.self (sz := s.heap.size)
  generalize hAe : va_A [] s.heap.size = A at hD hZ ⊢
  have hA : ∀ q : Nat, s.heap.size ≤ q → A q := fun q h => by rw [← hAe]; exact Or.inr h
  generalize hH : s.heap = H at hP ⊢
  have hS : va_S A s.heap H [] := by rw [← hH]; exact va_S.rf
  have hl := lv_entry [.ref h0, .int p0, .int p1, .ref ho] (n := 5) (Nat.le_of_ble_eq_true rfl)
  rw [lg_entry_eq]
  generalize (lg_sl [.ref h0, .int p0, .int p1, .ref ho] ++ List.replicate (5 - (lg_sl [.ref h0, .int p0, .int p1, .ref ho]).length) Slot.unset).toArray = ls at hl ⊢
  have hl : lv_has ls 5 [(0, .ref h0), (1, .int p0), (2, .int p1), (3, .ref ho)] := hl
  have hP : va_P (dC, dI) vwCl [(h0, .inr (10, xF hm h1 h2 h3 0 0 1000))] H := hP
  refine lv_aload_n hx hb dL_drop_0 rfl (lv_at hl 3 rfl) ?_
  refine lv_iconst (v := 0) hx hb dL_drop_1 (by decide) ?_
  refine lv_aload_n hx hb dL_drop_2 rfl (lv_at hl 0 rfl) ?_
  refine lv_iload_n hx hb dL_drop_3 rfl (lv_at hl 1 rfl) ?_
  refine lv_iload_n hx hb dL_drop_4 rfl (lv_at hl 2 rfl) ?_
  have hPc := hP.sub (ws' := [(h0, .inr (10, xF hm h1 h2 h3 0 0 1000))]) [0] rfl
  have hDc : va_D (fun _ => True) ([] : va_W) := nd_0
  have hKc := hK.sub (tys' := []) [] rfl
  have hFc := va_free (wc := []) hD hS hA [] rfl
  refine vx_callX (vx_runV (As := [.int p0, .int p1]) (rest := [.int 0, .ref ho]) ⟨hx, hb, hml, hown, hts⟩ (c_X11_drop l hl0 dC dI h0 hm h1 h2 h3 p0 p1 H.size) (cwV 2 hts hL_drop rfl rfl rfl (by decide +kernel) ⟨Nat.le_of_ble_eq_true rfl, Nat.le_of_ble_eq_true rfl⟩) ⟨fun a U g mk q => by obtain ⟨q0, q1, qP, qK, qD, qG, qZ⟩ := q; exact ⟨q0, q1, qP, va_K.moved (u := U) (U := U.calling g mk a) (Vm.Alike.refl U.vm) qK, qD, Gw.same (u := U) (U := U.calling g mk a) rfl qG, Gz.moved (u := U) (U := U.calling g mk a) (Vm.Alike.refl U.vm) qZ⟩, va_recv hKc hPc (ci := 10) (q0 := 0) rfl rfl, fun U hU hW => ⟨rfl, by rw [hU], by rw [hU]; exact hPc, va_K.moved hW.alike hKc, nd_0, Gw.warm hW hG, Gz.step hZ hS hFc hU hW.alike⟩⟩ rfl rfl hl.1 rfl (lv_room (Nat.le_of_ble_eq_true rfl)) dL_drop_5 ⟨Nat.le_of_ble_eq_true rfl, Nat.le_of_ble_eq_true rfl⟩) hS hFc (fun q _ h => hFc q h) (fun E ce q9 u9 t H1 locs ht hvm hpx hBX hz1 hk1 hS hce hcv hcl => ?_)
  obtain rfl : E = "java/lang/IndexOutOfBoundsException" := hBX
  have hP := nd_keep hP hk1
  generalize H1 = H at hP hS hce ⊢
  have hP : va_P (dC, dI) vwCl [(h0, .inr (10, xF hm h1 h2 h3 0 0 1000))] H := hP
  have hD : va_D A [] := hD
  refine vx_catch (own := RL) (name := "java/lang/IndexOutOfBoundsException") hown [] (tableOf [(0, 10, 13, 37), (0, 10, 17, 19), (0, 10, 21, 13)])[0] ((tableOf [(0, 10, 13, 37), (0, 10, 17, 19), (0, 10, 21, 13)]).drop 1) (by rw [htab]; rfl) (fun z hz => nomatch hz) (by decide) (by decide) (hts (.classLink RL 37 "java/lang/IndexOutOfBoundsException") (by decide +kernel)) (va_Nw.use rfl hG.cIOO) hce hcv hcl ?_
  refine W.eq (g2 := F0 m 13 ls [.ref q9]) rfl ?_
  refine lv_astore (lv' := [(4, .ref q9), (0, .ref h0), (1, .int p0), (2, .int p1), (3, .ref ho)]) hx hb dL_drop_13 hl (by decide) rfl (fun ls hl => ?_)
  refine lv_iconst (v := 1) hx hb dL_drop_15 (by decide) ?_
  refine W.widen (k := 1) (n := 6) (by decide +kernel) (by decide +kernel) ?_
  exact W.iret (v := 1) hx hb hr (fun t ht hW => ⟨⟨1, (), rfl, rfl, trivial⟩, hS.F ht⟩) hS.2.2 dL_drop_16
set_option maxHeartbeats 4000000 in
set_option maxRecDepth 100000 in
theorem c_L_keep (l : Launch) (hl0 : l.stackTraces = false) (dC : Nat → ClassId) (dI : Nat → Nat → Nat) (h0 : Nat) (hm : Nat) (h1 : Nat) (h2 : Nat) (h3 : Nat) (p0 : Int32) (p1 : Int32) (p2 : Int64) (ho : Nat) (sz : Nat) : Met l yL_keep vsL_keep ({ frames := 30, cells := 1, slots := 6, locals := 900 }) (va_Pc [.ref h0, .int p0, .int p1, .long p2, .ref ho] (fun U => U.heap.size = sz ∧ va_P (dC, dI) vwCl [(h0, .inr (10, xF hm h1 h2 h3 0 0 1000))] U.heap ∧ va_K (dC, dI) vwCl [] U ∧ va_D (fun _ => True) [] ∧ Gw U ∧ Gz (va_A [] sz) U U.heap)) (va_Qi (fun (r : Int32) (_ : Unit) => r = 1) (fun _ _ => True) (va_A [] sz)) 1 6 (va_A [] sz) := by
  refine va_MetW (hh := [(0, 12, 15, 37), (0, 12, 19, 19), (0, 12, 23, 13)]) (cc := cL_keep) (maxL := 7) (ret := (some .int)) (by decide) rfl ?_
  intro p e s m args below meth c s₁ B hml hv
  obtain ⟨rfl, hsz, hP, hK, hD0, hG, hZ⟩ := hv
  have hx := B.exec
  have hb := B.bytes
  have hr := B.returns
  have hts := atoms_spec (ws := vsL_keep) B.pre
  have hown : s.vm.findClass RL = some m.cls := findClass_of_methodNamed B.named
  have hlocks := B.notSynchronized
  have htab := vx_table (x := yL_keep) (hh := [(0, 12, 15, 37), (0, 12, 19, 19), (0, 12, 23, 13)]) (bytes := cL_keep) (maxL' := 7) (ret' := (some .int)) B (hts _ List.mem_cons_self)
  subst hsz
  have hD := hD0.self (sz := s.heap.size)
  generalize hAe : va_A [] s.heap.size = A at hD hZ ⊢
  have hA : ∀ q : Nat, s.heap.size ≤ q → A q := fun q h => by rw [← hAe]; exact Or.inr h
  generalize hH : s.heap = H at hP ⊢
  have hS : va_S A s.heap H [] := by rw [← hH]; exact va_S.rf
  have hl := lv_entry [.ref h0, .int p0, .int p1, .long p2, .ref ho] (n := 7) (Nat.le_of_ble_eq_true rfl)
  rw [lg_entry_eq]
  generalize (lg_sl [.ref h0, .int p0, .int p1, .long p2, .ref ho] ++ List.replicate (7 - (lg_sl [.ref h0, .int p0, .int p1, .long p2, .ref ho]).length) Slot.unset).toArray = ls at hl ⊢
  have hl : lv_has ls 7 [(0, .ref h0), (1, .int p0), (2, .int p1), (3, .long p2), (5, .ref ho)] := hl
  have hP : va_P (dC, dI) vwCl [(h0, .inr (10, xF hm h1 h2 h3 0 0 1000))] H := hP
  refine lv_aload hx hb dL_keep_0 (lv_at hl 4 rfl) ?_
  refine lv_iconst (v := 0) hx hb dL_keep_2 (by decide) ?_
  refine lv_aload_n hx hb dL_keep_3 rfl (lv_at hl 0 rfl) ?_
  refine lv_iload_n hx hb dL_keep_4 rfl (lv_at hl 1 rfl) ?_
  refine lv_iload_n hx hb dL_keep_5 rfl (lv_at hl 2 rfl) ?_
  refine lv_lload_n hx hb dL_keep_6 rfl (lv_at hl 3 rfl) ?_
  have hPc := hP.sub (ws' := [(h0, .inr (10, xF hm h1 h2 h3 0 0 1000))]) [0] rfl
  have hDc : va_D (fun _ => True) ([] : va_W) := nd_0
  have hKc := hK.sub (tys' := []) [] rfl
  have hFc := va_free (wc := []) hD hS hA [] rfl
  refine vx_callX (vx_runV (As := [.int p0, .int p1, .long p2]) (rest := [.int 0, .ref ho]) ⟨hx, hb, hml, hown, hts⟩ (c_X11_keep l hl0 dC dI h0 hm h1 h2 h3 p0 p1 p2 H.size) (cwV 3 hts hL_keep rfl rfl rfl (by decide +kernel) ⟨Nat.le_of_ble_eq_true rfl, Nat.le_of_ble_eq_true rfl⟩) ⟨fun a U g mk q => by obtain ⟨q0, q1, qP, qK, qD, qG, qZ⟩ := q; exact ⟨q0, q1, qP, va_K.moved (u := U) (U := U.calling g mk a) (Vm.Alike.refl U.vm) qK, qD, Gw.same (u := U) (U := U.calling g mk a) rfl qG, Gz.moved (u := U) (U := U.calling g mk a) (Vm.Alike.refl U.vm) qZ⟩, va_recv hKc hPc (ci := 10) (q0 := 0) rfl rfl, fun U hU hW => ⟨rfl, by rw [hU], by rw [hU]; exact hPc, va_K.moved hW.alike hKc, nd_0, Gw.warm hW hG, Gz.step hZ hS hFc hU hW.alike⟩⟩ rfl rfl hl.1 rfl (lv_room (Nat.le_of_ble_eq_true rfl)) dL_keep_7 ⟨Nat.le_of_ble_eq_true rfl, Nat.le_of_ble_eq_true rfl⟩) hS hFc (fun q _ h => hFc q h) (fun E ce q9 u9 t H1 locs ht hvm hpx hBX hz1 hk1 hS hce hcv hcl => ?_)
  obtain rfl : E = "java/lang/IndexOutOfBoundsException" := hBX
  have hP := nd_keep hP hk1
  generalize H1 = H at hP hS hce ⊢
  have hP : va_P (dC, dI) vwCl [(h0, .inr (10, xF hm h1 h2 h3 0 0 1000))] H := hP
  have hD : va_D A [] := hD
  refine vx_catch (own := RL) (name := "java/lang/IndexOutOfBoundsException") hown [] (tableOf [(0, 12, 15, 37), (0, 12, 19, 19), (0, 12, 23, 13)])[0] ((tableOf [(0, 12, 15, 37), (0, 12, 19, 19), (0, 12, 23, 13)]).drop 1) (by rw [htab]; rfl) (fun z hz => nomatch hz) (by decide) (by decide) (hts (.classLink RL 37 "java/lang/IndexOutOfBoundsException") (by decide +kernel)) (va_Nw.use rfl hG.cIOO) hce hcv hcl ?_
  refine W.eq (g2 := F0 m 15 ls [.ref q9]) rfl ?_
  refine lv_astore (lv' := [(6, .ref q9), (0, .ref h0), (1, .int p0), (2, .int p1), (3, .long p2), (5, .ref ho)]) hx hb dL_keep_15 hl (by decide) rfl (fun ls hl => ?_)
  refine lv_iconst (v := 1) hx hb dL_keep_17 (by decide) ?_
  refine W.widen (k := 1) (n := 6) (by decide +kernel) (by decide +kernel) ?_
  exact W.iret (v := 1) hx hb hr (fun t ht hW => ⟨⟨1, (), rfl, rfl, trivial⟩, hS.F ht⟩) hS.2.2 dL_keep_18
set_option maxHeartbeats 4000000 in
set_option maxRecDepth 100000 in
theorem c_L_during (l : Launch) (hl0 : l.stackTraces = false) (dC : Nat → ClassId) (dI : Nat → Nat → Nat) (h0 : Nat) (hm : Nat) (h1 : Nat) (h2 : Nat) (h3 : Nat) (p0 : Int32) (p1 : Int32) (p2 : Int64) (ho : Nat) (sz : Nat) : Met l yL_during vsL_during ({ frames := 30, cells := 1, slots := 6, locals := 900 }) (va_Pc [.ref h0, .int p0, .int p1, .long p2, .ref ho] (fun U => U.heap.size = sz ∧ va_P (dC, dI) vwCl [(h0, .inr (10, xF hm h1 h2 h3 0 0 1000))] U.heap ∧ va_K (dC, dI) vwCl [] U ∧ va_D (fun _ => True) [] ∧ Gw U ∧ Gz (va_A [] sz) U U.heap)) (va_Qi (fun (r : Int32) (_ : Unit) => r = 1) (fun _ _ => True) (va_A [] sz)) 1 6 (va_A [] sz) := by
  refine va_MetW (hh := [(0, 12, 15, 37), (0, 12, 19, 19), (0, 12, 23, 13)]) (cc := cL_during) (maxL := 7) (ret := (some .int)) (by decide) rfl ?_
  intro p e s m args below meth c s₁ B hml hv
  obtain ⟨rfl, hsz, hP, hK, hD0, hG, hZ⟩ := hv
  have hx := B.exec
  have hb := B.bytes
  have hr := B.returns
  have hts := atoms_spec (ws := vsL_during) B.pre
  have hown : s.vm.findClass RL = some m.cls := findClass_of_methodNamed B.named
  have hlocks := B.notSynchronized
  have htab := vx_table (x := yL_during) (hh := [(0, 12, 15, 37), (0, 12, 19, 19), (0, 12, 23, 13)]) (bytes := cL_during) (maxL' := 7) (ret' := (some .int)) B (hts _ List.mem_cons_self)
  subst hsz
  have hD := hD0.self (sz := s.heap.size)
  generalize hAe : va_A [] s.heap.size = A at hD hZ ⊢
  have hA : ∀ q : Nat, s.heap.size ≤ q → A q := fun q h => by rw [← hAe]; exact Or.inr h
  generalize hH : s.heap = H at hP ⊢
  have hS : va_S A s.heap H [] := by rw [← hH]; exact va_S.rf
  have hl := lv_entry [.ref h0, .int p0, .int p1, .long p2, .ref ho] (n := 7) (Nat.le_of_ble_eq_true rfl)
  rw [lg_entry_eq]
  generalize (lg_sl [.ref h0, .int p0, .int p1, .long p2, .ref ho] ++ List.replicate (7 - (lg_sl [.ref h0, .int p0, .int p1, .long p2, .ref ho]).length) Slot.unset).toArray = ls at hl ⊢
  have hl : lv_has ls 7 [(0, .ref h0), (1, .int p0), (2, .int p1), (3, .long p2), (5, .ref ho)] := hl
  have hP : va_P (dC, dI) vwCl [(h0, .inr (10, xF hm h1 h2 h3 0 0 1000))] H := hP
  refine lv_aload hx hb dL_during_0 (lv_at hl 4 rfl) ?_
  refine lv_iconst (v := 0) hx hb dL_during_2 (by decide) ?_
  refine lv_aload_n hx hb dL_during_3 rfl (lv_at hl 0 rfl) ?_
  refine lv_iload_n hx hb dL_during_4 rfl (lv_at hl 1 rfl) ?_
  refine lv_iload_n hx hb dL_during_5 rfl (lv_at hl 2 rfl) ?_
  refine lv_lload_n hx hb dL_during_6 rfl (lv_at hl 3 rfl) ?_
  have hPc := hP.sub (ws' := [(h0, .inr (10, xF hm h1 h2 h3 0 0 1000))]) [0] rfl
  have hDc : va_D (fun _ => True) ([] : va_W) := nd_0
  have hKc := hK.sub (tys' := []) [] rfl
  have hFc := va_free (wc := []) hD hS hA [] rfl
  refine vx_callX (vx_runV (As := [.int p0, .int p1, .long p2]) (rest := [.int 0, .ref ho]) ⟨hx, hb, hml, hown, hts⟩ (c_X11_during l hl0 dC dI h0 hm h1 h2 h3 p0 p1 p2 H.size) (cwV 3 hts hL_during rfl rfl rfl (by decide +kernel) ⟨Nat.le_of_ble_eq_true rfl, Nat.le_of_ble_eq_true rfl⟩) ⟨fun a U g mk q => by obtain ⟨q0, q1, qP, qK, qD, qG, qZ⟩ := q; exact ⟨q0, q1, qP, va_K.moved (u := U) (U := U.calling g mk a) (Vm.Alike.refl U.vm) qK, qD, Gw.same (u := U) (U := U.calling g mk a) rfl qG, Gz.moved (u := U) (U := U.calling g mk a) (Vm.Alike.refl U.vm) qZ⟩, va_recv hKc hPc (ci := 10) (q0 := 0) rfl rfl, fun U hU hW => ⟨rfl, by rw [hU], by rw [hU]; exact hPc, va_K.moved hW.alike hKc, nd_0, Gw.warm hW hG, Gz.step hZ hS hFc hU hW.alike⟩⟩ rfl rfl hl.1 rfl (lv_room (Nat.le_of_ble_eq_true rfl)) dL_during_7 ⟨Nat.le_of_ble_eq_true rfl, Nat.le_of_ble_eq_true rfl⟩) hS hFc (fun q _ h => hFc q h) (fun E ce q9 u9 t H1 locs ht hvm hpx hBX hz1 hk1 hS hce hcv hcl => ?_)
  obtain rfl : E = "java/lang/IndexOutOfBoundsException" := hBX
  have hP := nd_keep hP hk1
  generalize H1 = H at hP hS hce ⊢
  have hP : va_P (dC, dI) vwCl [(h0, .inr (10, xF hm h1 h2 h3 0 0 1000))] H := hP
  have hD : va_D A [] := hD
  refine vx_catch (own := RL) (name := "java/lang/IndexOutOfBoundsException") hown [] (tableOf [(0, 12, 15, 37), (0, 12, 19, 19), (0, 12, 23, 13)])[0] ((tableOf [(0, 12, 15, 37), (0, 12, 19, 19), (0, 12, 23, 13)]).drop 1) (by rw [htab]; rfl) (fun z hz => nomatch hz) (by decide) (by decide) (hts (.classLink RL 37 "java/lang/IndexOutOfBoundsException") (by decide +kernel)) (va_Nw.use rfl hG.cIOO) hce hcv hcl ?_
  refine W.eq (g2 := F0 m 15 ls [.ref q9]) rfl ?_
  refine lv_astore (lv' := [(6, .ref q9), (0, .ref h0), (1, .int p0), (2, .int p1), (3, .long p2), (5, .ref ho)]) hx hb dL_during_15 hl (by decide) rfl (fun ls hl => ?_)
  refine lv_iconst (v := 1) hx hb dL_during_17 (by decide) ?_
  refine W.widen (k := 1) (n := 6) (by decide +kernel) (by decide +kernel) ?_
  exact W.iret (v := 1) hx hb hr (fun t ht hW => ⟨⟨1, (), rfl, rfl, trivial⟩, hS.F ht⟩) hS.2.2 dL_during_18
set_option maxHeartbeats 4000000 in
set_option maxRecDepth 100000 in
theorem c_L_after (l : Launch) (hl0 : l.stackTraces = false) (dC : Nat → ClassId) (dI : Nat → Nat → Nat) (h0 : Nat) (hm : Nat) (h1 : Nat) (h2 : Nat) (h3 : Nat) (p0 : Int32) (p1 : Int32) (p2 : Int64) (ho : Nat) (sz : Nat) : Met l yL_after vsL_after ({ frames := 30, cells := 1, slots := 6, locals := 900 }) (va_Pc [.ref h0, .int p0, .int p1, .long p2, .ref ho] (fun U => U.heap.size = sz ∧ va_P (dC, dI) vwCl [(h0, .inr (10, xF hm h1 h2 h3 0 0 1000))] U.heap ∧ va_K (dC, dI) vwCl [] U ∧ va_D (fun _ => True) [] ∧ Gw U ∧ Gz (va_A [] sz) U U.heap)) (va_Qi (fun (r : Int32) (_ : Unit) => r = 1) (fun _ _ => True) (va_A [] sz)) 1 6 (va_A [] sz) := by
  refine va_MetW (hh := [(0, 12, 15, 37), (0, 12, 19, 19), (0, 12, 23, 13)]) (cc := cL_after) (maxL := 7) (ret := (some .int)) (by decide) rfl ?_
  intro p e s m args below meth c s₁ B hml hv
  obtain ⟨rfl, hsz, hP, hK, hD0, hG, hZ⟩ := hv
  have hx := B.exec
  have hb := B.bytes
  have hr := B.returns
  have hts := atoms_spec (ws := vsL_after) B.pre
  have hown : s.vm.findClass RL = some m.cls := findClass_of_methodNamed B.named
  have hlocks := B.notSynchronized
  have htab := vx_table (x := yL_after) (hh := [(0, 12, 15, 37), (0, 12, 19, 19), (0, 12, 23, 13)]) (bytes := cL_after) (maxL' := 7) (ret' := (some .int)) B (hts _ List.mem_cons_self)
  subst hsz
  have hD := hD0.self (sz := s.heap.size)
  generalize hAe : va_A [] s.heap.size = A at hD hZ ⊢
  have hA : ∀ q : Nat, s.heap.size ≤ q → A q := fun q h => by rw [← hAe]; exact Or.inr h
  generalize hH : s.heap = H at hP ⊢
  have hS : va_S A s.heap H [] := by rw [← hH]; exact va_S.rf
  have hl := lv_entry [.ref h0, .int p0, .int p1, .long p2, .ref ho] (n := 7) (Nat.le_of_ble_eq_true rfl)
  rw [lg_entry_eq]
  generalize (lg_sl [.ref h0, .int p0, .int p1, .long p2, .ref ho] ++ List.replicate (7 - (lg_sl [.ref h0, .int p0, .int p1, .long p2, .ref ho]).length) Slot.unset).toArray = ls at hl ⊢
  have hl : lv_has ls 7 [(0, .ref h0), (1, .int p0), (2, .int p1), (3, .long p2), (5, .ref ho)] := hl
  have hP : va_P (dC, dI) vwCl [(h0, .inr (10, xF hm h1 h2 h3 0 0 1000))] H := hP
  refine lv_aload hx hb dL_after_0 (lv_at hl 4 rfl) ?_
  refine lv_iconst (v := 0) hx hb dL_after_2 (by decide) ?_
  refine lv_aload_n hx hb dL_after_3 rfl (lv_at hl 0 rfl) ?_
  refine lv_iload_n hx hb dL_after_4 rfl (lv_at hl 1 rfl) ?_
  refine lv_iload_n hx hb dL_after_5 rfl (lv_at hl 2 rfl) ?_
  refine lv_lload_n hx hb dL_after_6 rfl (lv_at hl 3 rfl) ?_
  have hPc := hP.sub (ws' := [(h0, .inr (10, xF hm h1 h2 h3 0 0 1000))]) [0] rfl
  have hDc : va_D (fun _ => True) ([] : va_W) := nd_0
  have hKc := hK.sub (tys' := []) [] rfl
  have hFc := va_free (wc := []) hD hS hA [] rfl
  refine vx_callX (vx_runV (As := [.int p0, .int p1, .long p2]) (rest := [.int 0, .ref ho]) ⟨hx, hb, hml, hown, hts⟩ (c_X11_after l hl0 dC dI h0 hm h1 h2 h3 p0 p1 p2 H.size) (cwV 3 hts hL_after rfl rfl rfl (by decide +kernel) ⟨Nat.le_of_ble_eq_true rfl, Nat.le_of_ble_eq_true rfl⟩) ⟨fun a U g mk q => by obtain ⟨q0, q1, qP, qK, qD, qG, qZ⟩ := q; exact ⟨q0, q1, qP, va_K.moved (u := U) (U := U.calling g mk a) (Vm.Alike.refl U.vm) qK, qD, Gw.same (u := U) (U := U.calling g mk a) rfl qG, Gz.moved (u := U) (U := U.calling g mk a) (Vm.Alike.refl U.vm) qZ⟩, va_recv hKc hPc (ci := 10) (q0 := 0) rfl rfl, fun U hU hW => ⟨rfl, by rw [hU], by rw [hU]; exact hPc, va_K.moved hW.alike hKc, nd_0, Gw.warm hW hG, Gz.step hZ hS hFc hU hW.alike⟩⟩ rfl rfl hl.1 rfl (lv_room (Nat.le_of_ble_eq_true rfl)) dL_after_7 ⟨Nat.le_of_ble_eq_true rfl, Nat.le_of_ble_eq_true rfl⟩) hS hFc (fun q _ h => hFc q h) (fun E ce q9 u9 t H1 locs ht hvm hpx hBX hz1 hk1 hS hce hcv hcl => ?_)
  obtain rfl : E = "java/lang/IndexOutOfBoundsException" := hBX
  have hP := nd_keep hP hk1
  generalize H1 = H at hP hS hce ⊢
  have hP : va_P (dC, dI) vwCl [(h0, .inr (10, xF hm h1 h2 h3 0 0 1000))] H := hP
  have hD : va_D A [] := hD
  refine vx_catch (own := RL) (name := "java/lang/IndexOutOfBoundsException") hown [] (tableOf [(0, 12, 15, 37), (0, 12, 19, 19), (0, 12, 23, 13)])[0] ((tableOf [(0, 12, 15, 37), (0, 12, 19, 19), (0, 12, 23, 13)]).drop 1) (by rw [htab]; rfl) (fun z hz => nomatch hz) (by decide) (by decide) (hts (.classLink RL 37 "java/lang/IndexOutOfBoundsException") (by decide +kernel)) (va_Nw.use rfl hG.cIOO) hce hcv hcl ?_
  refine W.eq (g2 := F0 m 15 ls [.ref q9]) rfl ?_
  refine lv_astore (lv' := [(6, .ref q9), (0, .ref h0), (1, .int p0), (2, .int p1), (3, .long p2), (5, .ref ho)]) hx hb dL_after_15 hl (by decide) rfl (fun ls hl => ?_)
  refine lv_iconst (v := 1) hx hb dL_after_17 (by decide) ?_
  refine W.widen (k := 1) (n := 6) (by decide +kernel) (by decide +kernel) ?_
  exact W.iret (v := 1) hx hb hr (fun t ht hW => ⟨⟨1, (), rfl, rfl, trivial⟩, hS.F ht⟩) hS.2.2 dL_after_18
set_option maxHeartbeats 4000000 in
set_option maxRecDepth 100000 in
theorem c_L_join (l : Launch) (hl0 : l.stackTraces = false) (dC : Nat → ClassId) (dI : Nat → Nat → Nat) (h0 : Nat) (hm : Nat) (h1 : Nat) (h2 : Nat) (h3 : Nat) (p0 : Int32) (p1 : Int32) (ho : Nat) (sz : Nat) : Met l yL_join vsL_join ({ frames := 30, cells := 1, slots := 6, locals := 900 }) (va_Pc [.ref h0, .int p0, .int p1, .ref ho] (fun U => U.heap.size = sz ∧ va_P (dC, dI) vwCl [(h0, .inr (10, xF hm h1 h2 h3 0 0 1000))] U.heap ∧ va_K (dC, dI) vwCl [] U ∧ va_D (fun _ => True) [] ∧ Gw U ∧ Gz (va_A [] sz) U U.heap)) (va_Qi (fun (r : Int32) (_ : Unit) => r = 1) (fun _ _ => True) (va_A [] sz)) 1 6 (va_A [] sz) := by
  refine va_MetW (hh := [(0, 10, 13, 37), (0, 10, 17, 13)]) (cc := cL_join) (maxL := 5) (ret := (some .int)) (by decide) rfl ?_
  intro p e s m args below meth c s₁ B hml hv
  obtain ⟨rfl, hsz, hP, hK, hD0, hG, hZ⟩ := hv
  have hx := B.exec
  have hb := B.bytes
  have hr := B.returns
  have hts := atoms_spec (ws := vsL_join) B.pre
  have hown : s.vm.findClass RL = some m.cls := findClass_of_methodNamed B.named
  have hlocks := B.notSynchronized
  have htab := vx_table (x := yL_join) (hh := [(0, 10, 13, 37), (0, 10, 17, 13)]) (bytes := cL_join) (maxL' := 5) (ret' := (some .int)) B (hts _ List.mem_cons_self)
  subst hsz
  have hD := hD0.self (sz := s.heap.size)
  generalize hAe : va_A [] s.heap.size = A at hD hZ ⊢
  have hA : ∀ q : Nat, s.heap.size ≤ q → A q := fun q h => by rw [← hAe]; exact Or.inr h
  generalize hH : s.heap = H at hP ⊢
  have hS : va_S A s.heap H [] := by rw [← hH]; exact va_S.rf
  have hl := lv_entry [.ref h0, .int p0, .int p1, .ref ho] (n := 5) (Nat.le_of_ble_eq_true rfl)
  rw [lg_entry_eq]
  generalize (lg_sl [.ref h0, .int p0, .int p1, .ref ho] ++ List.replicate (5 - (lg_sl [.ref h0, .int p0, .int p1, .ref ho]).length) Slot.unset).toArray = ls at hl ⊢
  have hl : lv_has ls 5 [(0, .ref h0), (1, .int p0), (2, .int p1), (3, .ref ho)] := hl
  have hP : va_P (dC, dI) vwCl [(h0, .inr (10, xF hm h1 h2 h3 0 0 1000))] H := hP
  refine lv_aload_n hx hb dL_join_0 rfl (lv_at hl 3 rfl) ?_
  refine lv_iconst (v := 0) hx hb dL_join_1 (by decide) ?_
  refine lv_aload_n hx hb dL_join_2 rfl (lv_at hl 0 rfl) ?_
  refine lv_iload_n hx hb dL_join_3 rfl (lv_at hl 1 rfl) ?_
  refine lv_iload_n hx hb dL_join_4 rfl (lv_at hl 2 rfl) ?_
  have hPc := hP.sub (ws' := [(h0, .inr (10, xF hm h1 h2 h3 0 0 1000))]) [0] rfl
  have hDc : va_D (fun _ => True) ([] : va_W) := nd_0
  have hKc := hK.sub (tys' := []) [] rfl
  have hFc := va_free (wc := []) hD hS hA [] rfl
  refine vx_callX (vx_runV (As := [.int p0, .int p1]) (rest := [.int 0, .ref ho]) ⟨hx, hb, hml, hown, hts⟩ (c_X11_join l hl0 dC dI h0 hm h1 h2 h3 p0 p1 H.size) (cwV 2 hts hL_join rfl rfl rfl (by decide +kernel) ⟨Nat.le_of_ble_eq_true rfl, Nat.le_of_ble_eq_true rfl⟩) ⟨fun a U g mk q => by obtain ⟨q0, q1, qP, qK, qD, qG, qZ⟩ := q; exact ⟨q0, q1, qP, va_K.moved (u := U) (U := U.calling g mk a) (Vm.Alike.refl U.vm) qK, qD, Gw.same (u := U) (U := U.calling g mk a) rfl qG, Gz.moved (u := U) (U := U.calling g mk a) (Vm.Alike.refl U.vm) qZ⟩, va_recv hKc hPc (ci := 10) (q0 := 0) rfl rfl, fun U hU hW => ⟨rfl, by rw [hU], by rw [hU]; exact hPc, va_K.moved hW.alike hKc, nd_0, Gw.warm hW hG, Gz.step hZ hS hFc hU hW.alike⟩⟩ rfl rfl hl.1 rfl (lv_room (Nat.le_of_ble_eq_true rfl)) dL_join_5 ⟨Nat.le_of_ble_eq_true rfl, Nat.le_of_ble_eq_true rfl⟩) hS hFc (fun q _ h => hFc q h) (fun E ce q9 u9 t H1 locs ht hvm hpx hBX hz1 hk1 hS hce hcv hcl => ?_)
  obtain rfl : E = "java/lang/IndexOutOfBoundsException" := hBX
  have hP := nd_keep hP hk1
  generalize H1 = H at hP hS hce ⊢
  have hP : va_P (dC, dI) vwCl [(h0, .inr (10, xF hm h1 h2 h3 0 0 1000))] H := hP
  have hD : va_D A [] := hD
  refine vx_catch (own := RL) (name := "java/lang/IndexOutOfBoundsException") hown [] (tableOf [(0, 10, 13, 37), (0, 10, 17, 13)])[0] ((tableOf [(0, 10, 13, 37), (0, 10, 17, 13)]).drop 1) (by rw [htab]; rfl) (fun z hz => nomatch hz) (by decide) (by decide) (hts (.classLink RL 37 "java/lang/IndexOutOfBoundsException") (by decide +kernel)) (va_Nw.use rfl hG.cIOO) hce hcv hcl ?_
  refine W.eq (g2 := F0 m 13 ls [.ref q9]) rfl ?_
  refine lv_astore (lv' := [(4, .ref q9), (0, .ref h0), (1, .int p0), (2, .int p1), (3, .ref ho)]) hx hb dL_join_13 hl (by decide) rfl (fun ls hl => ?_)
  refine lv_iconst (v := 1) hx hb dL_join_15 (by decide) ?_
  refine W.widen (k := 1) (n := 6) (by decide +kernel) (by decide +kernel) ?_
  exact W.iret (v := 1) hx hb hr (fun t ht hW => ⟨⟨1, (), rfl, rfl, trivial⟩, hS.F ht⟩) hS.2.2 dL_join_16
set_option maxHeartbeats 4000000 in
set_option maxRecDepth 100000 in
theorem c_L_other (l : Launch) (hl0 : l.stackTraces = false) (dC : Nat → ClassId) (dI : Nat → Nat → Nat) (h0 : Nat) (hm : Nat) (h1 : Nat) (h2 : Nat) (h3 : Nat) (p0 : Int32) (p1 : Int32) (ho : Nat) (sz : Nat) : Met l yL_other vsL_other ({ frames := 30, cells := 1, slots := 6, locals := 900 }) (va_Pc [.ref h0, .int p0, .int p1, .ref ho] (fun U => U.heap.size = sz ∧ va_P (dC, dI) vwCl [(h0, .inr (10, xF hm h1 h2 h3 0 0 1000))] U.heap ∧ va_K (dC, dI) vwCl [] U ∧ va_D (fun _ => True) [] ∧ Gw U ∧ Gz (va_A [] sz) U U.heap)) (va_Qi (fun (r : Int32) (_ : Unit) => r = 1) (fun _ _ => True) (va_A [] sz)) 1 6 (va_A [] sz) := by
  refine va_MetW (hh := [(0, 10, 13, 37), (0, 10, 17, 19), (0, 10, 21, 13)]) (cc := cL_other) (maxL := 5) (ret := (some .int)) (by decide) rfl ?_
  intro p e s m args below meth c s₁ B hml hv
  obtain ⟨rfl, hsz, hP, hK, hD0, hG, hZ⟩ := hv
  have hx := B.exec
  have hb := B.bytes
  have hr := B.returns
  have hts := atoms_spec (ws := vsL_other) B.pre
  have hown : s.vm.findClass RL = some m.cls := findClass_of_methodNamed B.named
  have hlocks := B.notSynchronized
  have htab := vx_table (x := yL_other) (hh := [(0, 10, 13, 37), (0, 10, 17, 19), (0, 10, 21, 13)]) (bytes := cL_other) (maxL' := 5) (ret' := (some .int)) B (hts _ List.mem_cons_self)
  subst hsz
  have hD := hD0.self (sz := s.heap.size)
  generalize hAe : va_A [] s.heap.size = A at hD hZ ⊢
  have hA : ∀ q : Nat, s.heap.size ≤ q → A q := fun q h => by rw [← hAe]; exact Or.inr h
  generalize hH : s.heap = H at hP ⊢
  have hS : va_S A s.heap H [] := by rw [← hH]; exact va_S.rf
  have hl := lv_entry [.ref h0, .int p0, .int p1, .ref ho] (n := 5) (Nat.le_of_ble_eq_true rfl)
  rw [lg_entry_eq]
  generalize (lg_sl [.ref h0, .int p0, .int p1, .ref ho] ++ List.replicate (5 - (lg_sl [.ref h0, .int p0, .int p1, .ref ho]).length) Slot.unset).toArray = ls at hl ⊢
  have hl : lv_has ls 5 [(0, .ref h0), (1, .int p0), (2, .int p1), (3, .ref ho)] := hl
  have hP : va_P (dC, dI) vwCl [(h0, .inr (10, xF hm h1 h2 h3 0 0 1000))] H := hP
  refine lv_aload_n hx hb dL_other_0 rfl (lv_at hl 3 rfl) ?_
  refine lv_iconst (v := 0) hx hb dL_other_1 (by decide) ?_
  refine lv_aload_n hx hb dL_other_2 rfl (lv_at hl 0 rfl) ?_
  refine lv_iload_n hx hb dL_other_3 rfl (lv_at hl 1 rfl) ?_
  refine lv_iload_n hx hb dL_other_4 rfl (lv_at hl 2 rfl) ?_
  have hPc := hP.sub (ws' := [(h0, .inr (10, xF hm h1 h2 h3 0 0 1000))]) [0] rfl
  have hDc : va_D (fun _ => True) ([] : va_W) := nd_0
  have hKc := hK.sub (tys' := []) [] rfl
  have hFc := va_free (wc := []) hD hS hA [] rfl
  refine vx_callX (vx_runV (As := [.int p0, .int p1]) (rest := [.int 0, .ref ho]) ⟨hx, hb, hml, hown, hts⟩ (c_X11_other l hl0 dC dI h0 hm h1 h2 h3 p0 p1 H.size) (cwV 2 hts hL_other rfl rfl rfl (by decide +kernel) ⟨Nat.le_of_ble_eq_true rfl, Nat.le_of_ble_eq_true rfl⟩) ⟨fun a U g mk q => by obtain ⟨q0, q1, qP, qK, qD, qG, qZ⟩ := q; exact ⟨q0, q1, qP, va_K.moved (u := U) (U := U.calling g mk a) (Vm.Alike.refl U.vm) qK, qD, Gw.same (u := U) (U := U.calling g mk a) rfl qG, Gz.moved (u := U) (U := U.calling g mk a) (Vm.Alike.refl U.vm) qZ⟩, va_recv hKc hPc (ci := 10) (q0 := 0) rfl rfl, fun U hU hW => ⟨rfl, by rw [hU], by rw [hU]; exact hPc, va_K.moved hW.alike hKc, nd_0, Gw.warm hW hG, Gz.step hZ hS hFc hU hW.alike⟩⟩ rfl rfl hl.1 rfl (lv_room (Nat.le_of_ble_eq_true rfl)) dL_other_5 ⟨Nat.le_of_ble_eq_true rfl, Nat.le_of_ble_eq_true rfl⟩) hS hFc (fun q _ h => hFc q h) (fun E ce q9 u9 t H1 locs ht hvm hpx hBX hz1 hk1 hS hce hcv hcl => ?_)
  obtain rfl : E = "java/lang/IndexOutOfBoundsException" := hBX
  have hP := nd_keep hP hk1
  generalize H1 = H at hP hS hce ⊢
  have hP : va_P (dC, dI) vwCl [(h0, .inr (10, xF hm h1 h2 h3 0 0 1000))] H := hP
  have hD : va_D A [] := hD
  refine vx_catch (own := RL) (name := "java/lang/IndexOutOfBoundsException") hown [] (tableOf [(0, 10, 13, 37), (0, 10, 17, 19), (0, 10, 21, 13)])[0] ((tableOf [(0, 10, 13, 37), (0, 10, 17, 19), (0, 10, 21, 13)]).drop 1) (by rw [htab]; rfl) (fun z hz => nomatch hz) (by decide) (by decide) (hts (.classLink RL 37 "java/lang/IndexOutOfBoundsException") (by decide +kernel)) (va_Nw.use rfl hG.cIOO) hce hcv hcl ?_
  refine W.eq (g2 := F0 m 13 ls [.ref q9]) rfl ?_
  refine lv_astore (lv' := [(4, .ref q9), (0, .ref h0), (1, .int p0), (2, .int p1), (3, .ref ho)]) hx hb dL_other_13 hl (by decide) rfl (fun ls hl => ?_)
  refine lv_iconst (v := 1) hx hb dL_other_15 (by decide) ?_
  refine W.widen (k := 1) (n := 6) (by decide +kernel) (by decide +kernel) ?_
  exact W.iret (v := 1) hx hb hr (fun t ht hW => ⟨⟨1, (), rfl, rfl, trivial⟩, hS.F ht⟩) hS.2.2 dL_other_16
set_option maxHeartbeats 4000000 in
set_option maxRecDepth 100000 in
theorem c_L_at (l : Launch) (hl0 : l.stackTraces = false) (dC : Nat → ClassId) (dI : Nat → Nat → Nat) (h0 : Nat) (hm : Nat) (h1 : Nat) (h2 : Nat) (h3 : Nat) (p0 : Int32) (p1 : Int32) (ho : Nat) (sz : Nat) : Met l yL_at vsL_at ({ frames := 30, cells := 1, slots := 6, locals := 900 }) (va_Pc [.ref h0, .int p0, .int p1, .ref ho] (fun U => U.heap.size = sz ∧ va_P (dC, dI) vwCl [(h0, .inr (10, xF hm h1 h2 h3 0 0 1000))] U.heap ∧ va_K (dC, dI) vwCl [] U ∧ va_D (fun _ => True) [] ∧ Gw U ∧ Gz (va_A [] sz) U U.heap)) (va_Qi (fun (r : Int32) (_ : Unit) => r = 1) (fun _ _ => True) (va_A [] sz)) 1 6 (va_A [] sz) := by
  refine va_MetW (hh := [(0, 9, 12, 37), (0, 9, 16, 19)]) (cc := cL_at) (maxL := 5) (ret := (some .int)) (by decide) rfl ?_
  intro p e s m args below meth c s₁ B hml hv
  obtain ⟨rfl, hsz, hP, hK, hD0, hG, hZ⟩ := hv
  have hx := B.exec
  have hb := B.bytes
  have hr := B.returns
  have hts := atoms_spec (ws := vsL_at) B.pre
  have hown : s.vm.findClass RL = some m.cls := findClass_of_methodNamed B.named
  have hlocks := B.notSynchronized
  have htab := vx_table (x := yL_at) (hh := [(0, 9, 12, 37), (0, 9, 16, 19)]) (bytes := cL_at) (maxL' := 5) (ret' := (some .int)) B (hts _ List.mem_cons_self)
  subst hsz
  have hD := hD0.self (sz := s.heap.size)
  generalize hAe : va_A [] s.heap.size = A at hD hZ ⊢
  have hA : ∀ q : Nat, s.heap.size ≤ q → A q := fun q h => by rw [← hAe]; exact Or.inr h
  generalize hH : s.heap = H at hP ⊢
  have hS : va_S A s.heap H [] := by rw [← hH]; exact va_S.rf
  have hl := lv_entry [.ref h0, .int p0, .int p1, .ref ho] (n := 5) (Nat.le_of_ble_eq_true rfl)
  rw [lg_entry_eq]
  generalize (lg_sl [.ref h0, .int p0, .int p1, .ref ho] ++ List.replicate (5 - (lg_sl [.ref h0, .int p0, .int p1, .ref ho]).length) Slot.unset).toArray = ls at hl ⊢
  have hl : lv_has ls 5 [(0, .ref h0), (1, .int p0), (2, .int p1), (3, .ref ho)] := hl
  have hP : va_P (dC, dI) vwCl [(h0, .inr (10, xF hm h1 h2 h3 0 0 1000))] H := hP
  refine lv_aload_n hx hb dL_at_0 rfl (lv_at hl 3 rfl) ?_
  refine lv_iconst (v := 0) hx hb dL_at_1 (by decide) ?_
  refine lv_aload_n hx hb dL_at_2 rfl (lv_at hl 0 rfl) ?_
  refine lv_iload_n hx hb dL_at_3 rfl (lv_at hl 1 rfl) ?_
  refine lv_iload_n hx hb dL_at_4 rfl (lv_at hl 2 rfl) ?_
  have hPc := hP.sub (ws' := [(h0, .inr (10, xF hm h1 h2 h3 0 0 1000))]) [0] rfl
  have hDc : va_D (fun _ => True) ([] : va_W) := nd_0
  have hKc := hK.sub (tys' := []) [] rfl
  have hFc := va_free (wc := []) hD hS hA [] rfl
  refine vx_callX (vx_runV (As := [.int p0, .int p1]) (rest := [.int 0, .ref ho]) ⟨hx, hb, hml, hown, hts⟩ (c_X11_at l hl0 dC dI h0 hm h1 h2 h3 p0 p1 H.size) (cwV 2 hts hL_at rfl rfl rfl (by decide +kernel) ⟨Nat.le_of_ble_eq_true rfl, Nat.le_of_ble_eq_true rfl⟩) ⟨fun a U g mk q => by obtain ⟨q0, q1, qP, qK, qD, qG, qZ⟩ := q; exact ⟨q0, q1, qP, va_K.moved (u := U) (U := U.calling g mk a) (Vm.Alike.refl U.vm) qK, qD, Gw.same (u := U) (U := U.calling g mk a) rfl qG, Gz.moved (u := U) (U := U.calling g mk a) (Vm.Alike.refl U.vm) qZ⟩, va_recv hKc hPc (ci := 10) (q0 := 0) rfl rfl, fun U hU hW => ⟨rfl, by rw [hU], by rw [hU]; exact hPc, va_K.moved hW.alike hKc, nd_0, Gw.warm hW hG, Gz.step hZ hS hFc hU hW.alike⟩⟩ rfl rfl hl.1 rfl (lv_room (Nat.le_of_ble_eq_true rfl)) dL_at_5 ⟨Nat.le_of_ble_eq_true rfl, Nat.le_of_ble_eq_true rfl⟩) hS hFc (fun q _ h => hFc q h) (fun E ce q9 u9 t H1 locs ht hvm hpx hBX hz1 hk1 hS hce hcv hcl => ?_)
  obtain rfl : E = "java/lang/IndexOutOfBoundsException" := hBX
  have hP := nd_keep hP hk1
  generalize H1 = H at hP hS hce ⊢
  have hP : va_P (dC, dI) vwCl [(h0, .inr (10, xF hm h1 h2 h3 0 0 1000))] H := hP
  have hD : va_D A [] := hD
  refine vx_catch (own := RL) (name := "java/lang/IndexOutOfBoundsException") hown [] (tableOf [(0, 9, 12, 37), (0, 9, 16, 19)])[0] ((tableOf [(0, 9, 12, 37), (0, 9, 16, 19)]).drop 1) (by rw [htab]; rfl) (fun z hz => nomatch hz) (by decide) (by decide) (hts (.classLink RL 37 "java/lang/IndexOutOfBoundsException") (by decide +kernel)) (va_Nw.use rfl hG.cIOO) hce hcv hcl ?_
  refine W.eq (g2 := F0 m 12 ls [.ref q9]) rfl ?_
  refine lv_astore (lv' := [(4, .ref q9), (0, .ref h0), (1, .int p0), (2, .int p1), (3, .ref ho)]) hx hb dL_at_12 hl (by decide) rfl (fun ls hl => ?_)
  refine lv_iconst (v := 1) hx hb dL_at_14 (by decide) ?_
  refine W.widen (k := 1) (n := 6) (by decide +kernel) (by decide +kernel) ?_
  exact W.iret (v := 1) hx hb hr (fun t ht hW => ⟨⟨1, (), rfl, rfl, trivial⟩, hS.F ht⟩) hS.2.2 dL_at_15
set_option maxHeartbeats 4000000 in
set_option maxRecDepth 100000 in
theorem c_L_size (l : Launch) (hl0 : l.stackTraces = false) (dC : Nat → ClassId) (dI : Nat → Nat → Nat) (h0 : Nat) (hm : Nat) (h1 : Nat) (h2 : Nat) (h3 : Nat) (p0 : Int32) (ho : Nat) (sz : Nat) : Met l yL_size vsL_size ({ frames := 30, cells := 1, slots := 6, locals := 900 }) (va_Pc [.ref h0, .int p0, .ref ho] (fun U => U.heap.size = sz ∧ va_P (dC, dI) vwCl [(h0, .inr (10, xF hm h1 h2 h3 0 0 1000))] U.heap ∧ va_K (dC, dI) vwCl [] U ∧ va_D (fun _ => True) [] ∧ Gw U ∧ Gz (va_A [] sz) U U.heap)) (va_Qi (fun (r : Int32) (_ : Unit) => r = 1) (fun _ _ => True) (va_A [] sz)) 1 6 (va_A [] sz) := by
  refine va_MetW (hh := [(0, 8, 11, 37)]) (cc := cL_size) (maxL := 4) (ret := (some .int)) (by decide) rfl ?_
  intro p e s m args below meth c s₁ B hml hv
  obtain ⟨rfl, hsz, hP, hK, hD0, hG, hZ⟩ := hv
  have hx := B.exec
  have hb := B.bytes
  have hr := B.returns
  have hts := atoms_spec (ws := vsL_size) B.pre
  have hown : s.vm.findClass RL = some m.cls := findClass_of_methodNamed B.named
  have hlocks := B.notSynchronized
  have htab := vx_table (x := yL_size) (hh := [(0, 8, 11, 37)]) (bytes := cL_size) (maxL' := 4) (ret' := (some .int)) B (hts _ List.mem_cons_self)
  subst hsz
  have hD := hD0.self (sz := s.heap.size)
  generalize hAe : va_A [] s.heap.size = A at hD hZ ⊢
  have hA : ∀ q : Nat, s.heap.size ≤ q → A q := fun q h => by rw [← hAe]; exact Or.inr h
  generalize hH : s.heap = H at hP ⊢
  have hS : va_S A s.heap H [] := by rw [← hH]; exact va_S.rf
  have hl := lv_entry [.ref h0, .int p0, .ref ho] (n := 4) (Nat.le_of_ble_eq_true rfl)
  rw [lg_entry_eq]
  generalize (lg_sl [.ref h0, .int p0, .ref ho] ++ List.replicate (4 - (lg_sl [.ref h0, .int p0, .ref ho]).length) Slot.unset).toArray = ls at hl ⊢
  have hl : lv_has ls 4 [(0, .ref h0), (1, .int p0), (2, .ref ho)] := hl
  have hP : va_P (dC, dI) vwCl [(h0, .inr (10, xF hm h1 h2 h3 0 0 1000))] H := hP
  refine lv_aload_n hx hb dL_size_0 rfl (lv_at hl 2 rfl) ?_
  refine lv_iconst (v := 0) hx hb dL_size_1 (by decide) ?_
  refine lv_aload_n hx hb dL_size_2 rfl (lv_at hl 0 rfl) ?_
  refine lv_iload_n hx hb dL_size_3 rfl (lv_at hl 1 rfl) ?_
  have hPc := hP.sub (ws' := [(h0, .inr (10, xF hm h1 h2 h3 0 0 1000))]) [0] rfl
  have hDc : va_D (fun _ => True) ([] : va_W) := nd_0
  have hKc := hK.sub (tys' := []) [] rfl
  have hFc := va_free (wc := []) hD hS hA [] rfl
  refine vx_callX (vx_runV (As := [.int p0]) (rest := [.int 0, .ref ho]) ⟨hx, hb, hml, hown, hts⟩ (c_X11_size l hl0 dC dI h0 hm h1 h2 h3 p0 H.size) (cwV 1 hts hL_size rfl rfl rfl (by decide +kernel) ⟨Nat.le_of_ble_eq_true rfl, Nat.le_of_ble_eq_true rfl⟩) ⟨fun a U g mk q => by obtain ⟨q0, q1, qP, qK, qD, qG, qZ⟩ := q; exact ⟨q0, q1, qP, va_K.moved (u := U) (U := U.calling g mk a) (Vm.Alike.refl U.vm) qK, qD, Gw.same (u := U) (U := U.calling g mk a) rfl qG, Gz.moved (u := U) (U := U.calling g mk a) (Vm.Alike.refl U.vm) qZ⟩, va_recv hKc hPc (ci := 10) (q0 := 0) rfl rfl, fun U hU hW => ⟨rfl, by rw [hU], by rw [hU]; exact hPc, va_K.moved hW.alike hKc, nd_0, Gw.warm hW hG, Gz.step hZ hS hFc hU hW.alike⟩⟩ rfl rfl hl.1 rfl (lv_room (Nat.le_of_ble_eq_true rfl)) dL_size_4 ⟨Nat.le_of_ble_eq_true rfl, Nat.le_of_ble_eq_true rfl⟩) hS hFc (fun q _ h => hFc q h) (fun E ce q9 u9 t H1 locs ht hvm hpx hBX hz1 hk1 hS hce hcv hcl => ?_)
  obtain rfl : E = "java/lang/IndexOutOfBoundsException" := hBX
  have hP := nd_keep hP hk1
  generalize H1 = H at hP hS hce ⊢
  have hP : va_P (dC, dI) vwCl [(h0, .inr (10, xF hm h1 h2 h3 0 0 1000))] H := hP
  have hD : va_D A [] := hD
  refine vx_catch (own := RL) (name := "java/lang/IndexOutOfBoundsException") hown [] (tableOf [(0, 8, 11, 37)])[0] ((tableOf [(0, 8, 11, 37)]).drop 1) (by rw [htab]; rfl) (fun z hz => nomatch hz) (by decide) (by decide) (hts (.classLink RL 37 "java/lang/IndexOutOfBoundsException") (by decide +kernel)) (va_Nw.use rfl hG.cIOO) hce hcv hcl ?_
  refine W.eq (g2 := F0 m 11 ls [.ref q9]) rfl ?_
  refine lv_astore_n (lv' := [(3, .ref q9), (0, .ref h0), (1, .int p0), (2, .ref ho)]) hx hb dL_size_11 rfl hl (by decide) rfl (fun ls hl => ?_)
  refine lv_iconst (v := 1) hx hb dL_size_12 (by decide) ?_
  refine W.widen (k := 1) (n := 6) (by decide +kernel) (by decide +kernel) ?_
  exact W.iret (v := 1) hx hb hr (fun t ht hW => ⟨⟨1, (), rfl, rfl, trivial⟩, hS.F ht⟩) hS.2.2 dL_size_13
set_option maxHeartbeats 4000000 in
set_option maxRecDepth 100000 in
theorem c_L_fold (l : Launch) (hl0 : l.stackTraces = false) (dC : Nat → ClassId) (dI : Nat → Nat → Nat) (h0 : Nat) (hm : Nat) (h1 : Nat) (h2 : Nat) (h3 : Nat) (p0 : Int32) (p1 : Int32) (p2 : Int64) (ho : Nat) (sz : Nat) : Met l yL_fold vsL_fold ({ frames := 30, cells := 1, slots := 6, locals := 900 }) (va_Pc [.ref h0, .int p0, .int p1, .long p2, .ref ho] (fun U => U.heap.size = sz ∧ va_P (dC, dI) vwCl [(h0, .inr (10, xF hm h1 h2 h3 0 0 1000))] U.heap ∧ va_K (dC, dI) vwCl [] U ∧ va_D (fun _ => True) [] ∧ Gw U ∧ Gz (va_A [] sz) U U.heap)) (va_Qi (fun (r : Int32) (_ : Unit) => r = 1) (fun _ _ => True) (va_A [] sz)) 1 6 (va_A [] sz) := by
  refine va_MetW (hh := [(0, 11, 14, 37), (0, 11, 18, 19)]) (cc := cL_fold) (maxL := 7) (ret := (some .int)) (by decide) rfl ?_
  intro p e s m args below meth c s₁ B hml hv
  obtain ⟨rfl, hsz, hP, hK, hD0, hG, hZ⟩ := hv
  have hx := B.exec
  have hb := B.bytes
  have hr := B.returns
  have hts := atoms_spec (ws := vsL_fold) B.pre
  have hown : s.vm.findClass RL = some m.cls := findClass_of_methodNamed B.named
  have hlocks := B.notSynchronized
  have htab := vx_table (x := yL_fold) (hh := [(0, 11, 14, 37), (0, 11, 18, 19)]) (bytes := cL_fold) (maxL' := 7) (ret' := (some .int)) B (hts _ List.mem_cons_self)
  subst hsz
  have hD := hD0.self (sz := s.heap.size)
  generalize hAe : va_A [] s.heap.size = A at hD hZ ⊢
  have hA : ∀ q : Nat, s.heap.size ≤ q → A q := fun q h => by rw [← hAe]; exact Or.inr h
  generalize hH : s.heap = H at hP ⊢
  have hS : va_S A s.heap H [] := by rw [← hH]; exact va_S.rf
  have hl := lv_entry [.ref h0, .int p0, .int p1, .long p2, .ref ho] (n := 7) (Nat.le_of_ble_eq_true rfl)
  rw [lg_entry_eq]
  generalize (lg_sl [.ref h0, .int p0, .int p1, .long p2, .ref ho] ++ List.replicate (7 - (lg_sl [.ref h0, .int p0, .int p1, .long p2, .ref ho]).length) Slot.unset).toArray = ls at hl ⊢
  have hl : lv_has ls 7 [(0, .ref h0), (1, .int p0), (2, .int p1), (3, .long p2), (5, .ref ho)] := hl
  have hP : va_P (dC, dI) vwCl [(h0, .inr (10, xF hm h1 h2 h3 0 0 1000))] H := hP
  refine lv_aload hx hb dL_fold_0 (lv_at hl 4 rfl) ?_
  refine lv_iconst (v := 0) hx hb dL_fold_2 (by decide) ?_
  refine lv_aload_n hx hb dL_fold_3 rfl (lv_at hl 0 rfl) ?_
  refine lv_iload_n hx hb dL_fold_4 rfl (lv_at hl 1 rfl) ?_
  refine lv_iload_n hx hb dL_fold_5 rfl (lv_at hl 2 rfl) ?_
  refine lv_lload_n hx hb dL_fold_6 rfl (lv_at hl 3 rfl) ?_
  have hPc := hP.sub (ws' := [(h0, .inr (10, xF hm h1 h2 h3 0 0 1000))]) [0] rfl
  have hDc : va_D (fun _ => True) ([] : va_W) := nd_0
  have hKc := hK.sub (tys' := []) [] rfl
  have hFc := va_free (wc := []) hD hS hA [] rfl
  refine vx_callX (vx_runV (As := [.int p0, .int p1, .long p2]) (rest := [.int 0, .ref ho]) ⟨hx, hb, hml, hown, hts⟩ (c_X11_fold l hl0 dC dI h0 hm h1 h2 h3 p0 p1 p2 H.size) (cwV 3 hts hL_fold rfl rfl rfl (by decide +kernel) ⟨Nat.le_of_ble_eq_true rfl, Nat.le_of_ble_eq_true rfl⟩) ⟨fun a U g mk q => by obtain ⟨q0, q1, qP, qK, qD, qG, qZ⟩ := q; exact ⟨q0, q1, qP, va_K.moved (u := U) (U := U.calling g mk a) (Vm.Alike.refl U.vm) qK, qD, Gw.same (u := U) (U := U.calling g mk a) rfl qG, Gz.moved (u := U) (U := U.calling g mk a) (Vm.Alike.refl U.vm) qZ⟩, va_recv hKc hPc (ci := 10) (q0 := 0) rfl rfl, fun U hU hW => ⟨rfl, by rw [hU], by rw [hU]; exact hPc, va_K.moved hW.alike hKc, nd_0, Gw.warm hW hG, Gz.step hZ hS hFc hU hW.alike⟩⟩ rfl rfl hl.1 rfl (lv_room (Nat.le_of_ble_eq_true rfl)) dL_fold_7 ⟨Nat.le_of_ble_eq_true rfl, Nat.le_of_ble_eq_true rfl⟩) hS hFc (fun q _ h => hFc q h) (fun E ce q9 u9 t H1 locs ht hvm hpx hBX hz1 hk1 hS hce hcv hcl => ?_)
  obtain rfl : E = "java/lang/IndexOutOfBoundsException" := hBX
  have hP := nd_keep hP hk1
  generalize H1 = H at hP hS hce ⊢
  have hP : va_P (dC, dI) vwCl [(h0, .inr (10, xF hm h1 h2 h3 0 0 1000))] H := hP
  have hD : va_D A [] := hD
  refine vx_catch (own := RL) (name := "java/lang/IndexOutOfBoundsException") hown [] (tableOf [(0, 11, 14, 37), (0, 11, 18, 19)])[0] ((tableOf [(0, 11, 14, 37), (0, 11, 18, 19)]).drop 1) (by rw [htab]; rfl) (fun z hz => nomatch hz) (by decide) (by decide) (hts (.classLink RL 37 "java/lang/IndexOutOfBoundsException") (by decide +kernel)) (va_Nw.use rfl hG.cIOO) hce hcv hcl ?_
  refine W.eq (g2 := F0 m 14 ls [.ref q9]) rfl ?_
  refine lv_astore (lv' := [(6, .ref q9), (0, .ref h0), (1, .int p0), (2, .int p1), (3, .long p2), (5, .ref ho)]) hx hb dL_fold_14 hl (by decide) rfl (fun ls hl => ?_)
  refine lv_iconst (v := 1) hx hb dL_fold_16 (by decide) ?_
  refine W.widen (k := 1) (n := 6) (by decide +kernel) (by decide +kernel) ?_
  exact W.iret (v := 1) hx hb hr (fun t ht hW => ⟨⟨1, (), rfl, rfl, trivial⟩, hS.F ht⟩) hS.2.2 dL_fold_17
set_option maxHeartbeats 4000000 in
set_option maxRecDepth 100000 in
theorem c_L_find (l : Launch) (hl0 : l.stackTraces = false) (dC : Nat → ClassId) (dI : Nat → Nat → Nat) (h0 : Nat) (hm : Nat) (h1 : Nat) (h2 : Nat) (h3 : Nat) (p0 : Int32) (p1 : Int32) (p2 : Int64) (ho : Nat) (sz : Nat) : Met l yL_find vsL_find ({ frames := 30, cells := 1, slots := 6, locals := 900 }) (va_Pc [.ref h0, .int p0, .int p1, .long p2, .ref ho] (fun U => U.heap.size = sz ∧ va_P (dC, dI) vwCl [(h0, .inr (10, xF hm h1 h2 h3 0 0 1000))] U.heap ∧ va_K (dC, dI) vwCl [] U ∧ va_D (fun _ => True) [] ∧ Gw U ∧ Gz (va_A [] sz) U U.heap)) (va_Qi (fun (r : Int32) (_ : Unit) => r = 1) (fun _ _ => True) (va_A [] sz)) 1 6 (va_A [] sz) := by
  refine va_MetW (hh := [(0, 11, 14, 37), (0, 11, 18, 19)]) (cc := cL_find) (maxL := 7) (ret := (some .int)) (by decide) rfl ?_
  intro p e s m args below meth c s₁ B hml hv
  obtain ⟨rfl, hsz, hP, hK, hD0, hG, hZ⟩ := hv
  have hx := B.exec
  have hb := B.bytes
  have hr := B.returns
  have hts := atoms_spec (ws := vsL_find) B.pre
  have hown : s.vm.findClass RL = some m.cls := findClass_of_methodNamed B.named
  have hlocks := B.notSynchronized
  have htab := vx_table (x := yL_find) (hh := [(0, 11, 14, 37), (0, 11, 18, 19)]) (bytes := cL_find) (maxL' := 7) (ret' := (some .int)) B (hts _ List.mem_cons_self)
  subst hsz
  have hD := hD0.self (sz := s.heap.size)
  generalize hAe : va_A [] s.heap.size = A at hD hZ ⊢
  have hA : ∀ q : Nat, s.heap.size ≤ q → A q := fun q h => by rw [← hAe]; exact Or.inr h
  generalize hH : s.heap = H at hP ⊢
  have hS : va_S A s.heap H [] := by rw [← hH]; exact va_S.rf
  have hl := lv_entry [.ref h0, .int p0, .int p1, .long p2, .ref ho] (n := 7) (Nat.le_of_ble_eq_true rfl)
  rw [lg_entry_eq]
  generalize (lg_sl [.ref h0, .int p0, .int p1, .long p2, .ref ho] ++ List.replicate (7 - (lg_sl [.ref h0, .int p0, .int p1, .long p2, .ref ho]).length) Slot.unset).toArray = ls at hl ⊢
  have hl : lv_has ls 7 [(0, .ref h0), (1, .int p0), (2, .int p1), (3, .long p2), (5, .ref ho)] := hl
  have hP : va_P (dC, dI) vwCl [(h0, .inr (10, xF hm h1 h2 h3 0 0 1000))] H := hP
  refine lv_aload hx hb dL_find_0 (lv_at hl 4 rfl) ?_
  refine lv_iconst (v := 0) hx hb dL_find_2 (by decide) ?_
  refine lv_aload_n hx hb dL_find_3 rfl (lv_at hl 0 rfl) ?_
  refine lv_iload_n hx hb dL_find_4 rfl (lv_at hl 1 rfl) ?_
  refine lv_iload_n hx hb dL_find_5 rfl (lv_at hl 2 rfl) ?_
  refine lv_lload_n hx hb dL_find_6 rfl (lv_at hl 3 rfl) ?_
  have hPc := hP.sub (ws' := [(h0, .inr (10, xF hm h1 h2 h3 0 0 1000))]) [0] rfl
  have hDc : va_D (fun _ => True) ([] : va_W) := nd_0
  have hKc := hK.sub (tys' := []) [] rfl
  have hFc := va_free (wc := []) hD hS hA [] rfl
  refine vx_callX (vx_runV (As := [.int p0, .int p1, .long p2]) (rest := [.int 0, .ref ho]) ⟨hx, hb, hml, hown, hts⟩ (c_X11_find l hl0 dC dI h0 hm h1 h2 h3 p0 p1 p2 H.size) (cwV 3 hts hL_find rfl rfl rfl (by decide +kernel) ⟨Nat.le_of_ble_eq_true rfl, Nat.le_of_ble_eq_true rfl⟩) ⟨fun a U g mk q => by obtain ⟨q0, q1, qP, qK, qD, qG, qZ⟩ := q; exact ⟨q0, q1, qP, va_K.moved (u := U) (U := U.calling g mk a) (Vm.Alike.refl U.vm) qK, qD, Gw.same (u := U) (U := U.calling g mk a) rfl qG, Gz.moved (u := U) (U := U.calling g mk a) (Vm.Alike.refl U.vm) qZ⟩, va_recv hKc hPc (ci := 10) (q0 := 0) rfl rfl, fun U hU hW => ⟨rfl, by rw [hU], by rw [hU]; exact hPc, va_K.moved hW.alike hKc, nd_0, Gw.warm hW hG, Gz.step hZ hS hFc hU hW.alike⟩⟩ rfl rfl hl.1 rfl (lv_room (Nat.le_of_ble_eq_true rfl)) dL_find_7 ⟨Nat.le_of_ble_eq_true rfl, Nat.le_of_ble_eq_true rfl⟩) hS hFc (fun q _ h => hFc q h) (fun E ce q9 u9 t H1 locs ht hvm hpx hBX hz1 hk1 hS hce hcv hcl => ?_)
  obtain rfl : E = "java/lang/IndexOutOfBoundsException" := hBX
  have hP := nd_keep hP hk1
  generalize H1 = H at hP hS hce ⊢
  have hP : va_P (dC, dI) vwCl [(h0, .inr (10, xF hm h1 h2 h3 0 0 1000))] H := hP
  have hD : va_D A [] := hD
  refine vx_catch (own := RL) (name := "java/lang/IndexOutOfBoundsException") hown [] (tableOf [(0, 11, 14, 37), (0, 11, 18, 19)])[0] ((tableOf [(0, 11, 14, 37), (0, 11, 18, 19)]).drop 1) (by rw [htab]; rfl) (fun z hz => nomatch hz) (by decide) (by decide) (hts (.classLink RL 37 "java/lang/IndexOutOfBoundsException") (by decide +kernel)) (va_Nw.use rfl hG.cIOO) hce hcv hcl ?_
  refine W.eq (g2 := F0 m 14 ls [.ref q9]) rfl ?_
  refine lv_astore (lv' := [(6, .ref q9), (0, .ref h0), (1, .int p0), (2, .int p1), (3, .long p2), (5, .ref ho)]) hx hb dL_find_14 hl (by decide) rfl (fun ls hl => ?_)
  refine lv_iconst (v := 1) hx hb dL_find_16 (by decide) ?_
  refine W.widen (k := 1) (n := 6) (by decide +kernel) (by decide +kernel) ?_
  exact W.iret (v := 1) hx hb hr (fun t ht hW => ⟨⟨1, (), rfl, rfl, trivial⟩, hS.F ht⟩) hS.2.2 dL_find_17
set_option maxHeartbeats 4000000 in
set_option maxRecDepth 100000 in
theorem c_L_last (l : Launch) (hl0 : l.stackTraces = false) (dC : Nat → ClassId) (dI : Nat → Nat → Nat) (h0 : Nat) (hm : Nat) (h1 : Nat) (h2 : Nat) (h3 : Nat) (p0 : Int32) (ho : Nat) (sz : Nat) : Met l yL_last vsL_last ({ frames := 30, cells := 1, slots := 6, locals := 900 }) (va_Pc [.ref h0, .int p0, .ref ho] (fun U => U.heap.size = sz ∧ va_P (dC, dI) vwCl [(h0, .inr (10, xF hm h1 h2 h3 0 0 1000))] U.heap ∧ va_K (dC, dI) vwCl [] U ∧ va_D (fun _ => True) [] ∧ Gw U ∧ Gz (va_A [] sz) U U.heap)) (va_Qi (fun (r : Int32) (_ : Unit) => r = 1) (fun _ _ => True) (va_A [] sz)) 1 6 (va_A [] sz) := by
  refine va_MetW (hh := [(0, 8, 11, 37)]) (cc := cL_last) (maxL := 4) (ret := (some .int)) (by decide) rfl ?_
  intro p e s m args below meth c s₁ B hml hv
  obtain ⟨rfl, hsz, hP, hK, hD0, hG, hZ⟩ := hv
  have hx := B.exec
  have hb := B.bytes
  have hr := B.returns
  have hts := atoms_spec (ws := vsL_last) B.pre
  have hown : s.vm.findClass RL = some m.cls := findClass_of_methodNamed B.named
  have hlocks := B.notSynchronized
  have htab := vx_table (x := yL_last) (hh := [(0, 8, 11, 37)]) (bytes := cL_last) (maxL' := 4) (ret' := (some .int)) B (hts _ List.mem_cons_self)
  subst hsz
  have hD := hD0.self (sz := s.heap.size)
  generalize hAe : va_A [] s.heap.size = A at hD hZ ⊢
  have hA : ∀ q : Nat, s.heap.size ≤ q → A q := fun q h => by rw [← hAe]; exact Or.inr h
  generalize hH : s.heap = H at hP ⊢
  have hS : va_S A s.heap H [] := by rw [← hH]; exact va_S.rf
  have hl := lv_entry [.ref h0, .int p0, .ref ho] (n := 4) (Nat.le_of_ble_eq_true rfl)
  rw [lg_entry_eq]
  generalize (lg_sl [.ref h0, .int p0, .ref ho] ++ List.replicate (4 - (lg_sl [.ref h0, .int p0, .ref ho]).length) Slot.unset).toArray = ls at hl ⊢
  have hl : lv_has ls 4 [(0, .ref h0), (1, .int p0), (2, .ref ho)] := hl
  have hP : va_P (dC, dI) vwCl [(h0, .inr (10, xF hm h1 h2 h3 0 0 1000))] H := hP
  refine lv_aload_n hx hb dL_last_0 rfl (lv_at hl 2 rfl) ?_
  refine lv_iconst (v := 0) hx hb dL_last_1 (by decide) ?_
  refine lv_aload_n hx hb dL_last_2 rfl (lv_at hl 0 rfl) ?_
  refine lv_iload_n hx hb dL_last_3 rfl (lv_at hl 1 rfl) ?_
  have hPc := hP.sub (ws' := [(h0, .inr (10, xF hm h1 h2 h3 0 0 1000))]) [0] rfl
  have hDc : va_D (fun _ => True) ([] : va_W) := nd_0
  have hKc := hK.sub (tys' := []) [] rfl
  have hFc := va_free (wc := []) hD hS hA [] rfl
  refine vx_callX (vx_runV (As := [.int p0]) (rest := [.int 0, .ref ho]) ⟨hx, hb, hml, hown, hts⟩ (c_X11_last l hl0 dC dI h0 hm h1 h2 h3 p0 H.size) (cwV 1 hts hL_last rfl rfl rfl (by decide +kernel) ⟨Nat.le_of_ble_eq_true rfl, Nat.le_of_ble_eq_true rfl⟩) ⟨fun a U g mk q => by obtain ⟨q0, q1, qP, qK, qD, qG, qZ⟩ := q; exact ⟨q0, q1, qP, va_K.moved (u := U) (U := U.calling g mk a) (Vm.Alike.refl U.vm) qK, qD, Gw.same (u := U) (U := U.calling g mk a) rfl qG, Gz.moved (u := U) (U := U.calling g mk a) (Vm.Alike.refl U.vm) qZ⟩, va_recv hKc hPc (ci := 10) (q0 := 0) rfl rfl, fun U hU hW => ⟨rfl, by rw [hU], by rw [hU]; exact hPc, va_K.moved hW.alike hKc, nd_0, Gw.warm hW hG, Gz.step hZ hS hFc hU hW.alike⟩⟩ rfl rfl hl.1 rfl (lv_room (Nat.le_of_ble_eq_true rfl)) dL_last_4 ⟨Nat.le_of_ble_eq_true rfl, Nat.le_of_ble_eq_true rfl⟩) hS hFc (fun q _ h => hFc q h) (fun E ce q9 u9 t H1 locs ht hvm hpx hBX hz1 hk1 hS hce hcv hcl => ?_)
  obtain rfl : E = "java/lang/IndexOutOfBoundsException" := hBX
  have hP := nd_keep hP hk1
  generalize H1 = H at hP hS hce ⊢
  have hP : va_P (dC, dI) vwCl [(h0, .inr (10, xF hm h1 h2 h3 0 0 1000))] H := hP
  have hD : va_D A [] := hD
  refine vx_catch (own := RL) (name := "java/lang/IndexOutOfBoundsException") hown [] (tableOf [(0, 8, 11, 37)])[0] ((tableOf [(0, 8, 11, 37)]).drop 1) (by rw [htab]; rfl) (fun z hz => nomatch hz) (by decide) (by decide) (hts (.classLink RL 37 "java/lang/IndexOutOfBoundsException") (by decide +kernel)) (va_Nw.use rfl hG.cIOO) hce hcv hcl ?_
  refine W.eq (g2 := F0 m 11 ls [.ref q9]) rfl ?_
  refine lv_astore_n (lv' := [(3, .ref q9), (0, .ref h0), (1, .int p0), (2, .ref ho)]) hx hb dL_last_11 rfl hl (by decide) rfl (fun ls hl => ?_)
  refine lv_iconst (v := 1) hx hb dL_last_12 (by decide) ?_
  refine W.widen (k := 1) (n := 6) (by decide +kernel) (by decide +kernel) ?_
  exact W.iret (v := 1) hx hb hr (fun t ht hW => ⟨⟨1, (), rfl, rfl, trivial⟩, hS.F ht⟩) hS.2.2 dL_last_13
set_option maxHeartbeats 4000000 in
set_option maxRecDepth 100000 in
theorem c_L_reached (l : Launch) (hl0 : l.stackTraces = false) (dC : Nat → ClassId) (dI : Nat → Nat → Nat) (h0 : Nat) (hm : Nat) (h1 : Nat) (h2 : Nat) (h3 : Nat) (p0 : Int32) (ho : Nat) (sz : Nat) : Met l yL_reached vsL_reached ({ frames := 30, cells := 1, slots := 6, locals := 900 }) (va_Pc [.ref h0, .int p0, .ref ho] (fun U => U.heap.size = sz ∧ va_P (dC, dI) vwCl [(h0, .inr (10, xF hm h1 h2 h3 0 0 1000))] U.heap ∧ va_K (dC, dI) vwCl [] U ∧ va_D (fun _ => True) [] ∧ Gw U ∧ Gz (va_A [] sz) U U.heap)) (va_Qi (fun (r : Int32) (_ : Unit) => r = 1) (fun _ _ => True) (va_A [] sz)) 1 6 (va_A [] sz) := by
  refine va_MetW (hh := [(0, 9, 12, 37)]) (cc := cL_reached) (maxL := 4) (ret := (some .int)) (by decide) rfl ?_
  intro p e s m args below meth c s₁ B hml hv
  obtain ⟨rfl, hsz, hP, hK, hD0, hG, hZ⟩ := hv
  have hx := B.exec
  have hb := B.bytes
  have hr := B.returns
  have hts := atoms_spec (ws := vsL_reached) B.pre
  have hown : s.vm.findClass RL = some m.cls := findClass_of_methodNamed B.named
  have hlocks := B.notSynchronized
  have htab := vx_table (x := yL_reached) (hh := [(0, 9, 12, 37)]) (bytes := cL_reached) (maxL' := 4) (ret' := (some .int)) B (hts _ List.mem_cons_self)
  subst hsz
  have hD := hD0.self (sz := s.heap.size)
  generalize hAe : va_A [] s.heap.size = A at hD hZ ⊢
  have hA : ∀ q : Nat, s.heap.size ≤ q → A q := fun q h => by rw [← hAe]; exact Or.inr h
  generalize hH : s.heap = H at hP ⊢
  have hS : va_S A s.heap H [] := by rw [← hH]; exact va_S.rf
  have hl := lv_entry [.ref h0, .int p0, .ref ho] (n := 4) (Nat.le_of_ble_eq_true rfl)
  rw [lg_entry_eq]
  generalize (lg_sl [.ref h0, .int p0, .ref ho] ++ List.replicate (4 - (lg_sl [.ref h0, .int p0, .ref ho]).length) Slot.unset).toArray = ls at hl ⊢
  have hl : lv_has ls 4 [(0, .ref h0), (1, .int p0), (2, .ref ho)] := hl
  have hP : va_P (dC, dI) vwCl [(h0, .inr (10, xF hm h1 h2 h3 0 0 1000))] H := hP
  refine lv_aload_n hx hb dL_reached_0 rfl (lv_at hl 2 rfl) ?_
  refine lv_iconst (v := 0) hx hb dL_reached_1 (by decide) ?_
  refine lv_aload_n hx hb dL_reached_2 rfl (lv_at hl 0 rfl) ?_
  refine lv_iload_n hx hb dL_reached_3 rfl (lv_at hl 1 rfl) ?_
  have hPc := hP.sub (ws' := [(h0, .inr (10, xF hm h1 h2 h3 0 0 1000))]) [0] rfl
  have hDc : va_D (fun _ => True) ([] : va_W) := nd_0
  have hKc := hK.sub (tys' := []) [] rfl
  have hFc := va_free (wc := []) hD hS hA [] rfl
  refine vx_callX (vx_runV (As := [.int p0]) (rest := [.int 0, .ref ho]) ⟨hx, hb, hml, hown, hts⟩ (c_X11_reached l hl0 dC dI h0 hm h1 h2 h3 p0 H.size) (cwV 1 hts hL_reached rfl rfl rfl (by decide +kernel) ⟨Nat.le_of_ble_eq_true rfl, Nat.le_of_ble_eq_true rfl⟩) ⟨fun a U g mk q => by obtain ⟨q0, q1, qP, qK, qD, qG, qZ⟩ := q; exact ⟨q0, q1, qP, va_K.moved (u := U) (U := U.calling g mk a) (Vm.Alike.refl U.vm) qK, qD, Gw.same (u := U) (U := U.calling g mk a) rfl qG, Gz.moved (u := U) (U := U.calling g mk a) (Vm.Alike.refl U.vm) qZ⟩, va_recv hKc hPc (ci := 10) (q0 := 0) rfl rfl, fun U hU hW => ⟨rfl, by rw [hU], by rw [hU]; exact hPc, va_K.moved hW.alike hKc, nd_0, Gw.warm hW hG, Gz.step hZ hS hFc hU hW.alike⟩⟩ rfl rfl hl.1 rfl (lv_room (Nat.le_of_ble_eq_true rfl)) dL_reached_4 ⟨Nat.le_of_ble_eq_true rfl, Nat.le_of_ble_eq_true rfl⟩) hS hFc (fun q _ h => hFc q h) (fun E ce q9 u9 t H1 locs ht hvm hpx hBX hz1 hk1 hS hce hcv hcl => ?_)
  obtain rfl : E = "java/lang/IndexOutOfBoundsException" := hBX
  have hP := nd_keep hP hk1
  generalize H1 = H at hP hS hce ⊢
  have hP : va_P (dC, dI) vwCl [(h0, .inr (10, xF hm h1 h2 h3 0 0 1000))] H := hP
  have hD : va_D A [] := hD
  refine vx_catch (own := RL) (name := "java/lang/IndexOutOfBoundsException") hown [] (tableOf [(0, 9, 12, 37)])[0] ((tableOf [(0, 9, 12, 37)]).drop 1) (by rw [htab]; rfl) (fun z hz => nomatch hz) (by decide) (by decide) (hts (.classLink RL 37 "java/lang/IndexOutOfBoundsException") (by decide +kernel)) (va_Nw.use rfl hG.cIOO) hce hcv hcl ?_
  refine W.eq (g2 := F0 m 12 ls [.ref q9]) rfl ?_
  refine lv_astore_n (lv' := [(3, .ref q9), (0, .ref h0), (1, .int p0), (2, .ref ho)]) hx hb dL_reached_12 rfl hl (by decide) rfl (fun ls hl => ?_)
  refine lv_iconst (v := 1) hx hb dL_reached_13 (by decide) ?_
  refine W.widen (k := 1) (n := 6) (by decide +kernel) (by decide +kernel) ?_
  exact W.iret (v := 1) hx hb hr (fun t ht hW => ⟨⟨1, (), rfl, rfl, trivial⟩, hS.F ht⟩) hS.2.2 dL_reached_14
set_option maxHeartbeats 4000000 in
set_option maxRecDepth 100000 in
theorem c_L_worked (l : Launch) (hl0 : l.stackTraces = false) (dC : Nat → ClassId) (dI : Nat → Nat → Nat) (h0 : Nat) (hm : Nat) (h1 : Nat) (h2 : Nat) (h3 : Nat) (p0 : Int32) (p1 : Int32) (ho : Nat) (sz : Nat) : Met l yL_worked vsL_worked ({ frames := 30, cells := 1, slots := 6, locals := 900 }) (va_Pc [.ref h0, .int p0, .int p1, .ref ho] (fun U => U.heap.size = sz ∧ va_P (dC, dI) vwCl [(h0, .inr (10, xF hm h1 h2 h3 0 0 1000))] U.heap ∧ va_K (dC, dI) vwCl [] U ∧ va_D (fun _ => True) [] ∧ Gw U ∧ Gz (va_A [] sz) U U.heap)) (va_Qi (fun (r : Int32) (_ : Unit) => r = 1) (fun _ _ => True) (va_A [] sz)) 1 6 (va_A [] sz) := by
  refine va_MetW (hh := [(0, 17, 20, 37)]) (cc := cL_worked) (maxL := 5) (ret := (some .int)) (by decide) rfl ?_
  intro p e s m args below meth c s₁ B hml hv
  obtain ⟨rfl, hsz, hP, hK, hD0, hG, hZ⟩ := hv
  have hx := B.exec
  have hb := B.bytes
  have hr := B.returns
  have hts := atoms_spec (ws := vsL_worked) B.pre
  have hown : s.vm.findClass RL = some m.cls := findClass_of_methodNamed B.named
  have hlocks := B.notSynchronized
  have htab := vx_table (x := yL_worked) (hh := [(0, 17, 20, 37)]) (bytes := cL_worked) (maxL' := 5) (ret' := (some .int)) B (hts _ List.mem_cons_self)
  subst hsz
  have hD := hD0.self (sz := s.heap.size)
  generalize hAe : va_A [] s.heap.size = A at hD hZ ⊢
  have hA : ∀ q : Nat, s.heap.size ≤ q → A q := fun q h => by rw [← hAe]; exact Or.inr h
  generalize hH : s.heap = H at hP ⊢
  have hS : va_S A s.heap H [] := by rw [← hH]; exact va_S.rf
  have hl := lv_entry [.ref h0, .int p0, .int p1, .ref ho] (n := 5) (Nat.le_of_ble_eq_true rfl)
  rw [lg_entry_eq]
  generalize (lg_sl [.ref h0, .int p0, .int p1, .ref ho] ++ List.replicate (5 - (lg_sl [.ref h0, .int p0, .int p1, .ref ho]).length) Slot.unset).toArray = ls at hl ⊢
  have hl : lv_has ls 5 [(0, .ref h0), (1, .int p0), (2, .int p1), (3, .ref ho)] := hl
  have hP : va_P (dC, dI) vwCl [(h0, .inr (10, xF hm h1 h2 h3 0 0 1000))] H := hP
  refine lv_aload_n hx hb dL_worked_0 rfl (lv_at hl 3 rfl) ?_
  refine lv_iconst (v := 0) hx hb dL_worked_1 (by decide) ?_
  refine lv_aload_n hx hb dL_worked_2 rfl (lv_at hl 0 rfl) ?_
  refine lv_iload_n hx hb dL_worked_3 rfl (lv_at hl 1 rfl) ?_
  refine lv_iload_n hx hb dL_worked_4 rfl (lv_at hl 2 rfl) ?_
  have hPc := hP.sub (ws' := [(h0, .inr (10, xF hm h1 h2 h3 0 0 1000))]) [0] rfl
  have hDc : va_D (fun _ => True) ([] : va_W) := nd_0
  have hKc := hK.sub (tys' := []) [] rfl
  have hFc := va_free (wc := []) hD hS hA [] rfl
  refine vx_callX (vx_runV (As := [.int p0, .int p1]) (rest := [.int 0, .ref ho]) ⟨hx, hb, hml, hown, hts⟩ (c_X11_worked l hl0 dC dI h0 hm h1 h2 h3 p0 p1 H.size) (cwV 2 hts hL_worked rfl rfl rfl (by decide +kernel) ⟨Nat.le_of_ble_eq_true rfl, Nat.le_of_ble_eq_true rfl⟩) ⟨fun a U g mk q => by obtain ⟨q0, q1, qP, qK, qD, qG, qZ⟩ := q; exact ⟨q0, q1, qP, va_K.moved (u := U) (U := U.calling g mk a) (Vm.Alike.refl U.vm) qK, qD, Gw.same (u := U) (U := U.calling g mk a) rfl qG, Gz.moved (u := U) (U := U.calling g mk a) (Vm.Alike.refl U.vm) qZ⟩, va_recv hKc hPc (ci := 10) (q0 := 0) rfl rfl, fun U hU hW => ⟨rfl, by rw [hU], by rw [hU]; exact hPc, va_K.moved hW.alike hKc, nd_0, Gw.warm hW hG, Gz.step hZ hS hFc hU hW.alike⟩⟩ rfl rfl hl.1 rfl (lv_room (Nat.le_of_ble_eq_true rfl)) dL_worked_5 ⟨Nat.le_of_ble_eq_true rfl, Nat.le_of_ble_eq_true rfl⟩) hS hFc (fun q _ h => hFc q h) (fun E ce q9 u9 t H1 locs ht hvm hpx hBX hz1 hk1 hS hce hcv hcl => ?_)
  obtain rfl : E = "java/lang/IndexOutOfBoundsException" := hBX
  have hP := nd_keep hP hk1
  generalize H1 = H at hP hS hce ⊢
  have hP : va_P (dC, dI) vwCl [(h0, .inr (10, xF hm h1 h2 h3 0 0 1000))] H := hP
  have hD : va_D A [] := hD
  refine vx_catch (own := RL) (name := "java/lang/IndexOutOfBoundsException") hown [] (tableOf [(0, 17, 20, 37)])[0] ((tableOf [(0, 17, 20, 37)]).drop 1) (by rw [htab]; rfl) (fun z hz => nomatch hz) (by decide) (by decide) (hts (.classLink RL 37 "java/lang/IndexOutOfBoundsException") (by decide +kernel)) (va_Nw.use rfl hG.cIOO) hce hcv hcl ?_
  refine W.eq (g2 := F0 m 20 ls [.ref q9]) rfl ?_
  refine lv_astore (lv' := [(4, .ref q9), (0, .ref h0), (1, .int p0), (2, .int p1), (3, .ref ho)]) hx hb dL_worked_20 hl (by decide) rfl (fun ls hl => ?_)
  refine lv_iconst (v := 1) hx hb dL_worked_22 (by decide) ?_
  refine W.widen (k := 1) (n := 6) (by decide +kernel) (by decide +kernel) ?_
  exact W.iret (v := 1) hx hb hr (fun t ht hW => ⟨⟨1, (), rfl, rfl, trivial⟩, hS.F ht⟩) hS.2.2 dL_worked_23
set_option maxHeartbeats 4000000 in
set_option maxRecDepth 100000 in
theorem c_L_put (l : Launch) (hl0 : l.stackTraces = false) (dC : Nat → ClassId) (dI : Nat → Nat → Nat) (h0 : Nat) (hm : Nat) (h1 : Nat) (h2 : Nat) (h3 : Nat) (c2 : ClassId) (f2 : Nat → Int64) (c3 : ClassId) (f3 : Nat → Int32) (p0 : Int64) (ho : Nat) (co : ClassId) (fo : Nat → Int64) (sz : Nat) : Met l yL_put wsL_put ({ frames := 40, cells := 0, slots := 0, locals := 1200 }) (va_Pc [.ref h0, .long p0, .ref ho] (fun U => U.heap.size = sz ∧ va_P (dC, dI) vwCl [(h0, .inr (10, xF hm h1 h2 h3 0 0 1000)), (h2, .inl (c2, 100, .inr (.inl (f2)))), (h3, .inl (c3, 100, .inl (f3))), (ho, .inl (co, 1, .inr (.inl (fo))))] U.heap ∧ va_K (dC, dI) vwCl [(c2, .long), (c3, .byte), (co, .long)] U ∧ va_D (fun _ => True) [(h0, .inr (10, xF hm h1 h2 h3 0 0 1000)), (h2, .inl (c2, 100, .inr (.inl (f2)))), (h3, .inl (c3, 100, .inl (f3))), (ho, .inl (co, 1, .inr (.inl (fo))))] ∧ Gw U ∧ Gz (va_A [(h0, .inr (10, xF hm h1 h2 h3 0 0 1000)), (h2, .inl (c2, 100, .inr (.inl (f2)))), (h3, .inl (c3, 100, .inl (f3))), (ho, .inl (co, 1, .inr (.inl (fo))))] sz) U U.heap)) (va_Qi (fun (r : Int32) (u : Nat → Int64) => r = 0 ∧ (0 = 0 → u 0 = 1)) (fun (u : Nat → Int64) (t : State) => va_P (dC, dI) vwCl [(ho, .inl (co, 1, .inr (.inl (u))))] t.heap ∧ va_K (dC, dI) vwCl [(co, .long)] t ∧ va_D (va_A [(h0, .inr (10, xF hm h1 h2 h3 0 0 1000)), (h2, .inl (c2, 100, .inr (.inl (f2)))), (h3, .inl (c3, 100, .inl (f3))), (ho, .inl (co, 1, .inr (.inl (fo))))] sz) [(ho, .inl (co, 1, .inr (.inl (u))))]) (va_A [(h0, .inr (10, xF hm h1 h2 h3 0 0 1000)), (h2, .inl (c2, 100, .inr (.inl (f2)))), (h3, .inl (c3, 100, .inl (f3))), (ho, .inl (co, 1, .inr (.inl (fo))))] sz)) 0 0 (va_A [(h0, .inr (10, xF hm h1 h2 h3 0 0 1000)), (h2, .inl (c2, 100, .inr (.inl (f2)))), (h3, .inl (c3, 100, .inl (f3))), (ho, .inl (co, 1, .inr (.inl (fo))))] sz) := by
  refine va_MetW (hh := [(0, 9, 12, 13)]) (cc := cL_put) (maxL := 5) (ret := (some .int)) (by decide) rfl ?_
  intro p e s m args below meth c s₁ B hml hv
  obtain ⟨rfl, hsz, hP, hK, hD0, hG, hZ⟩ := hv
  have hx := B.exec
  have hb := B.bytes
  have hr := B.returns
  have hts := atoms_spec (ws := wsL_put) B.pre
  have hown : s.vm.findClass RL = some m.cls := findClass_of_methodNamed B.named
  have hlocks := B.notSynchronized
  have htab := vx_table (x := yL_put) (hh := [(0, 9, 12, 13)]) (bytes := cL_put) (maxL' := 5) (ret' := (some .int)) B (hts _ List.mem_cons_self)
  subst hsz
  have hD := hD0.self (sz := s.heap.size)
  generalize hAe : va_A [(h0, .inr (10, xF hm h1 h2 h3 0 0 1000)), (h2, .inl (c2, 100, .inr (.inl (f2)))), (h3, .inl (c3, 100, .inl (f3))), (ho, .inl (co, 1, .inr (.inl (fo))))] s.heap.size = A at hD hZ ⊢
  have hA : ∀ q : Nat, s.heap.size ≤ q → A q := fun q h => by rw [← hAe]; exact Or.inr h
  generalize hH : s.heap = H at hP ⊢
  have hS : va_S A s.heap H [] := by rw [← hH]; exact va_S.rf
  have hl := lv_entry [.ref h0, .long p0, .ref ho] (n := 5) (Nat.le_of_ble_eq_true rfl)
  rw [lg_entry_eq]
  generalize (lg_sl [.ref h0, .long p0, .ref ho] ++ List.replicate (5 - (lg_sl [.ref h0, .long p0, .ref ho]).length) Slot.unset).toArray = ls at hl ⊢
  have hl : lv_has ls 5 [(0, .ref h0), (1, .long p0), (3, .ref ho)] := hl
  have hP : va_P (dC, dI) vwCl [(h0, .inr (10, xF hm h1 h2 h3 0 0 1000)), (h2, .inl (c2, 100, .inr (.inl (f2)))), (h3, .inl (c3, 100, .inl (f3))), (ho, .inl (co, 1, .inr (.inl (fo))))] H := hP
  refine lv_aload_n hx hb dL_put_0 rfl (lv_at hl 2 rfl) ?_
  refine lv_iconst (v := 0) hx hb dL_put_1 (by decide) ?_
  refine lv_aload_n hx hb dL_put_2 rfl (lv_at hl 0 rfl) ?_
  refine lv_lload_n hx hb dL_put_3 rfl (lv_at hl 1 rfl) ?_
  have hPc := hP.sub (ws' := [(h0, .inr (10, xF hm h1 h2 h3 0 0 1000)), (h2, .inl (c2, 100, .inr (.inl (f2)))), (h3, .inl (c3, 100, .inl (f3)))]) [0, 1, 2] rfl
  have hDc := hD.sub (ws' := [(h0, .inr (10, xF hm h1 h2 h3 0 0 1000)), (h2, .inl (c2, 100, .inr (.inl (f2)))), (h3, .inl (c3, 100, .inl (f3)))]) [0, 1, 2] (by decide) rfl
  have hKc := hK.sub (tys' := [(c2, .long), (c3, .byte)]) [0, 1] rfl
  have hFc := va_free (wc := [(h0, .inr (10, xF hm h1 h2 h3 0 0 1000)), (h2, .inl (c2, 100, .inr (.inl (f2)))), (h3, .inl (c3, 100, .inl (f3)))]) hD hS hA [0, 1, 2] rfl
  refine va_calli (va_runV (As := [.long p0]) (rest := [.int 0, .ref ho]) ⟨hx, hb, hml, hown, hts⟩ (c_X11_put l dC dI h0 hm h1 h2 h3 c2 f2 c3 f3 p0 H.size) (cwV 1 hts gL_put_X11_put rfl rfl rfl (by decide +kernel) ⟨Nat.le_of_ble_eq_true rfl, Nat.le_of_ble_eq_true rfl⟩) ⟨fun a U g mk q => by obtain ⟨q0, q1, qP, qK, qD⟩ := q; exact ⟨q0, q1, qP, va_K.moved (u := U) (U := U.calling g mk a) (Vm.Alike.refl U.vm) qK, qD⟩, va_recv hKc hPc (ci := 10) (q0 := 0) rfl rfl, fun U hU hW => ⟨rfl, by rw [hU], by rw [hU]; exact hPc, va_K.moved hW.alike hKc, hDc.weaken (fun _ _ _ _ => trivial)⟩⟩ rfl rfl hl.1 rfl (lv_room (Nat.le_of_ble_eq_true rfl)) dL_put_4 ⟨Nat.le_of_ble_eq_true rfl, Nat.le_of_ble_eq_true rfl⟩) hS (fun q _ h => hFc q h) hFc (fun r_1 u_2 t H1 locs ht hvm hw hB hz1 hk1 hS => ?_)
  obtain ⟨hP, hD⟩ := nd_drop (wr := [(ho, .inl (co, 1, .inr (.inl (fo))))]) hP hD [0, 1, 2] [3] rfl rfl (by decide) (by decide) hk1 hFc
  generalize H1 = H at hP hS ⊢
  have hP : va_P (dC, dI) vwCl [(ho, .inl (co, 1, .inr (.inl (fo))))] H := hP
  have hD : va_D A [(ho, .inl (co, 1, .inr (.inl (fo))))] := hD
  refine W.widen (k := 0) (n := 0) (by decide +kernel) (by decide +kernel) ?_
  obtain rfl : r_1 = 1 := hw
  refine lv_i2l (v := 1) hx hb dL_put_7 (by decide) ?_
  refine va_last hx hb hK hP hD hS 0 2 rfl rfl (nd_in (i := 0) (n := 1) (by decide)) dL_put_8 (fun H locs hP hD hS => ?_)
  obtain ⟨f_3, ef_3⟩ : ∃ z, z = vp_updL fo ((0 : Int32).toNatClampNeg) 1 := ⟨_, rfl⟩
  have hP : va_P (dC, dI) vwCl [(ho, .inl (co, 1, .inr (.inl (vp_updL fo ((0 : Int32).toNatClampNeg) 1))))] H := hP
  have hD : va_D A [(ho, .inl (co, 1, .inr (.inl (vp_updL fo ((0 : Int32).toNatClampNeg) 1))))] := hD
  rw [← ef_3] at hP hD
  refine lv_goto (tgt := 16) hx hb dL_put_9 (by decide) ?_
  refine lv_iconst (v := 0) hx hb dL_put_16 (by decide) ?_
  refine W.widen (k := 0) (n := 0) (by decide +kernel) (by decide +kernel) ?_
  have hP9 := hP.sub (ws' := [(ho, .inl (co, 1, .inr (.inl (f_3))))]) [0] rfl
  have hD9 := hD.sub (ws' := [(ho, .inl (co, 1, .inr (.inl (f_3))))]) [0] (by decide) rfl
  have hK9 := hK.sub (tys' := [(co, .long)]) [2] rfl
  exact W.iret (v := 0) hx hb hr (fun t ht hW => ⟨⟨0, f_3, rfl, ⟨rfl, fun _ => by rw [ef_3]; rfl⟩, by rw [ht]; exact hP9, va_K.moved hW.alike hK9, hD9⟩, hS.F ht⟩) hS.2.2 dL_put_17
set_option maxHeartbeats 4000000 in
set_option maxRecDepth 100000 in
theorem c_L_given (l : Launch) (hl0 : l.stackTraces = false) (dC : Nat → ClassId) (dI : Nat → Nat → Nat) (h0 : Nat) (hm : Nat) (h1 : Nat) (h2 : Nat) (h3 : Nat) (c1 : ClassId) (f1 : Nat → Option Nat) (c2 : ClassId) (f2 : Nat → Int64) (c3 : ClassId) (f3 : Nat → Int32) (p0 : Int32) (ho : Nat) (co : ClassId) (fo : Nat → Int64) (sz : Nat) : Met l yL_given wsL_given ({ frames := 50, cells := 4, slots := 7, locals := 1500 }) (va_Pc [.ref h0, .int p0, .ref ho] (fun U => U.heap.size = sz ∧ va_P (dC, dI) vwCl [(h0, .inr (10, xF hm h1 h2 h3 0 0 1000)), (h1, .inl (c1, 24, .inr (.inr (.inr (.inr (f1)))))), (h2, .inl (c2, 100, .inr (.inl (f2)))), (h3, .inl (c3, 100, .inl (f3))), (ho, .inl (co, 1, .inr (.inl (fo))))] U.heap ∧ va_K (dC, dI) vwCl [(c1, .object RX5), (c2, .long), (c3, .byte), (co, .long)] U ∧ va_D (fun _ => True) [(h0, .inr (10, xF hm h1 h2 h3 0 0 1000)), (h1, .inl (c1, 24, .inr (.inr (.inr (.inr (f1)))))), (h2, .inl (c2, 100, .inr (.inl (f2)))), (h3, .inl (c3, 100, .inl (f3))), (ho, .inl (co, 1, .inr (.inl (fo))))] ∧ Gw U ∧ Gz (va_A [(h0, .inr (10, xF hm h1 h2 h3 0 0 1000)), (h1, .inl (c1, 24, .inr (.inr (.inr (.inr (f1)))))), (h2, .inl (c2, 100, .inr (.inl (f2)))), (h3, .inl (c3, 100, .inl (f3))), (ho, .inl (co, 1, .inr (.inl (fo))))] sz) U U.heap)) (va_Qi (fun (r : Int32) (u : Nat → Int64) => r = 0 ∧ (0 = 0 → u 0 = 0)) (fun (u : Nat → Int64) (t : State) => va_P (dC, dI) vwCl [(ho, .inl (co, 1, .inr (.inl (u))))] t.heap ∧ va_K (dC, dI) vwCl [(co, .long)] t ∧ va_D (va_A [(h0, .inr (10, xF hm h1 h2 h3 0 0 1000)), (h1, .inl (c1, 24, .inr (.inr (.inr (.inr (f1)))))), (h2, .inl (c2, 100, .inr (.inl (f2)))), (h3, .inl (c3, 100, .inl (f3))), (ho, .inl (co, 1, .inr (.inl (fo))))] sz) [(ho, .inl (co, 1, .inr (.inl (u))))]) (va_A [(h0, .inr (10, xF hm h1 h2 h3 0 0 1000)), (h1, .inl (c1, 24, .inr (.inr (.inr (.inr (f1)))))), (h2, .inl (c2, 100, .inr (.inl (f2)))), (h3, .inl (c3, 100, .inl (f3))), (ho, .inl (co, 1, .inr (.inl (fo))))] sz)) 4 7 (va_A [(h0, .inr (10, xF hm h1 h2 h3 0 0 1000)), (h1, .inl (c1, 24, .inr (.inr (.inr (.inr (f1)))))), (h2, .inl (c2, 100, .inr (.inl (f2)))), (h3, .inl (c3, 100, .inl (f3))), (ho, .inl (co, 1, .inr (.inl (fo))))] sz) := by
  refine va_MetW (hh := [(0, 9, 12, 13)]) (cc := cL_given) (maxL := 4) (ret := (some .int)) (by decide) rfl ?_
  intro p e s m args below meth c s₁ B hml hv
  obtain ⟨rfl, hsz, hP, hK, hD0, hG, hZ⟩ := hv
  have hx := B.exec
  have hb := B.bytes
  have hr := B.returns
  have hts := atoms_spec (ws := wsL_given) B.pre
  have hown : s.vm.findClass RL = some m.cls := findClass_of_methodNamed B.named
  have hlocks := B.notSynchronized
  have htab := vx_table (x := yL_given) (hh := [(0, 9, 12, 13)]) (bytes := cL_given) (maxL' := 4) (ret' := (some .int)) B (hts _ List.mem_cons_self)
  subst hsz
  have hD := hD0.self (sz := s.heap.size)
  generalize hAe : va_A [(h0, .inr (10, xF hm h1 h2 h3 0 0 1000)), (h1, .inl (c1, 24, .inr (.inr (.inr (.inr (f1)))))), (h2, .inl (c2, 100, .inr (.inl (f2)))), (h3, .inl (c3, 100, .inl (f3))), (ho, .inl (co, 1, .inr (.inl (fo))))] s.heap.size = A at hD hZ ⊢
  have hA : ∀ q : Nat, s.heap.size ≤ q → A q := fun q h => by rw [← hAe]; exact Or.inr h
  generalize hH : s.heap = H at hP ⊢
  have hS : va_S A s.heap H [] := by rw [← hH]; exact va_S.rf
  have hl := lv_entry [.ref h0, .int p0, .ref ho] (n := 4) (Nat.le_of_ble_eq_true rfl)
  rw [lg_entry_eq]
  generalize (lg_sl [.ref h0, .int p0, .ref ho] ++ List.replicate (4 - (lg_sl [.ref h0, .int p0, .ref ho]).length) Slot.unset).toArray = ls at hl ⊢
  have hl : lv_has ls 4 [(0, .ref h0), (1, .int p0), (2, .ref ho)] := hl
  have hP : va_P (dC, dI) vwCl [(h0, .inr (10, xF hm h1 h2 h3 0 0 1000)), (h1, .inl (c1, 24, .inr (.inr (.inr (.inr (f1)))))), (h2, .inl (c2, 100, .inr (.inl (f2)))), (h3, .inl (c3, 100, .inl (f3))), (ho, .inl (co, 1, .inr (.inl (fo))))] H := hP
  refine lv_aload_n hx hb dL_given_0 rfl (lv_at hl 2 rfl) ?_
  refine lv_iconst (v := 0) hx hb dL_given_1 (by decide) ?_
  refine lv_aload_n hx hb dL_given_2 rfl (lv_at hl 0 rfl) ?_
  refine lv_iload_n hx hb dL_given_3 rfl (lv_at hl 1 rfl) ?_
  have hPc := hP.sub (ws' := [(h0, .inr (10, xF hm h1 h2 h3 0 0 1000)), (h1, .inl (c1, 24, .inr (.inr (.inr (.inr (f1)))))), (h2, .inl (c2, 100, .inr (.inl (f2)))), (h3, .inl (c3, 100, .inl (f3)))]) [0, 1, 2, 3] rfl
  have hDc := hD.sub (ws' := [(h0, .inr (10, xF hm h1 h2 h3 0 0 1000)), (h1, .inl (c1, 24, .inr (.inr (.inr (.inr (f1)))))), (h2, .inl (c2, 100, .inr (.inl (f2)))), (h3, .inl (c3, 100, .inl (f3)))]) [0, 1, 2, 3] (by decide) rfl
  have hKc := hK.sub (tys' := [(c1, .object RX5), (c2, .long), (c3, .byte)]) [0, 1, 2] rfl
  have hFc := va_free (wc := [(h0, .inr (10, xF hm h1 h2 h3 0 0 1000)), (h1, .inl (c1, 24, .inr (.inr (.inr (.inr (f1)))))), (h2, .inl (c2, 100, .inr (.inl (f2)))), (h3, .inl (c3, 100, .inl (f3)))]) hD hS hA [0, 1, 2, 3] rfl
  refine va_calli (va_runV (As := [.int p0]) (rest := [.int 0, .ref ho]) ⟨hx, hb, hml, hown, hts⟩ (c_X11_given l hl0 dC dI h0 hm h1 h2 h3 c1 f1 c2 f2 c3 f3 p0 H.size) (cwV 1 hts gL_given_X11_given rfl rfl rfl (by decide +kernel) ⟨Nat.le_of_ble_eq_true rfl, Nat.le_of_ble_eq_true rfl⟩) ⟨fun a U g mk q => by obtain ⟨q0, q1, qP, qK, qD, qG, qZ⟩ := q; exact ⟨q0, q1, qP, va_K.moved (u := U) (U := U.calling g mk a) (Vm.Alike.refl U.vm) qK, qD, Gw.same (u := U) (U := U.calling g mk a) rfl qG, Gz.moved (u := U) (U := U.calling g mk a) (Vm.Alike.refl U.vm) qZ⟩, va_recv hKc hPc (ci := 10) (q0 := 0) rfl rfl, fun U hU hW => ⟨rfl, by rw [hU], by rw [hU]; exact hPc, va_K.moved hW.alike hKc, hDc.weaken (fun _ _ _ _ => trivial), Gw.warm hW hG, Gz.step hZ hS hFc hU hW.alike⟩⟩ rfl rfl hl.1 rfl (lv_room (Nat.le_of_ble_eq_true rfl)) dL_given_4 ⟨Nat.le_of_ble_eq_true rfl, Nat.le_of_ble_eq_true rfl⟩) hS (fun q _ h => hFc q h) hFc (fun r_1 u_2 t H1 locs ht hvm hw hB hz1 hk1 hS => ?_)
  obtain ⟨hP, hD⟩ := nd_drop (wr := [(ho, .inl (co, 1, .inr (.inl (fo))))]) hP hD [0, 1, 2, 3] [4] rfl rfl (by decide) (by decide) hk1 hFc
  generalize H1 = H at hP hS ⊢
  have hP : va_P (dC, dI) vwCl [(ho, .inl (co, 1, .inr (.inl (fo))))] H := hP
  have hD : va_D A [(ho, .inl (co, 1, .inr (.inl (fo))))] := hD
  refine W.widen (k := 4) (n := 7) (by decide +kernel) (by decide +kernel) ?_
  obtain rfl : r_1 = 0 := hw
  refine lv_i2l (v := 0) hx hb dL_given_7 (by decide) ?_
  refine va_last hx hb hK hP hD hS 0 3 rfl rfl (nd_in (i := 0) (n := 1) (by decide)) dL_given_8 (fun H locs hP hD hS => ?_)
  obtain ⟨f_3, ef_3⟩ : ∃ z, z = vp_updL fo ((0 : Int32).toNatClampNeg) 0 := ⟨_, rfl⟩
  have hP : va_P (dC, dI) vwCl [(ho, .inl (co, 1, .inr (.inl (vp_updL fo ((0 : Int32).toNatClampNeg) 0))))] H := hP
  have hD : va_D A [(ho, .inl (co, 1, .inr (.inl (vp_updL fo ((0 : Int32).toNatClampNeg) 0))))] := hD
  rw [← ef_3] at hP hD
  refine lv_goto (tgt := 15) hx hb dL_given_9 (by decide) ?_
  refine lv_iconst (v := 0) hx hb dL_given_15 (by decide) ?_
  refine W.widen (k := 4) (n := 7) (by decide +kernel) (by decide +kernel) ?_
  have hP9 := hP.sub (ws' := [(ho, .inl (co, 1, .inr (.inl (f_3))))]) [0] rfl
  have hD9 := hD.sub (ws' := [(ho, .inl (co, 1, .inr (.inl (f_3))))]) [0] (by decide) rfl
  have hK9 := hK.sub (tys' := [(co, .long)]) [3] rfl
  exact W.iret (v := 0) hx hb hr (fun t ht hW => ⟨⟨0, f_3, rfl, ⟨rfl, fun _ => by rw [ef_3]; rfl⟩, by rw [ht]; exact hP9, va_K.moved hW.alike hK9, hD9⟩, hS.F ht⟩) hS.2.2 dL_given_16
set_option maxHeartbeats 4000000 in
set_option maxRecDepth 100000 in
theorem c_L_count (l : Launch) (hl0 : l.stackTraces = false) (dC : Nat → ClassId) (dI : Nat → Nat → Nat) (h0 : Nat) (hm : Nat) (h1 : Nat) (h2 : Nat) (h3 : Nat) (c1 : ClassId) (f1 : Nat → Option Nat) (p0 : Int64) (p1 : Int64) (ho : Nat) (co : ClassId) (fo : Nat → Int64) (sz : Nat) : Met l yL_count wsL_count ({ frames := 50, cells := 4, slots := 1300, locals := 1500 }) (va_Pc [.ref h0, .long p0, .long p1, .ref ho] (fun U => U.heap.size = sz ∧ va_P (dC, dI) vwCl [(h0, .inr (10, xF hm h1 h2 h3 0 0 1000)), (h1, .inl (c1, 24, .inr (.inr (.inr (.inr (f1)))))), (ho, .inl (co, 1, .inr (.inl (fo))))] U.heap ∧ va_K (dC, dI) vwCl [(c1, .object RX5), (co, .long)] U ∧ va_D (fun _ => True) [(h0, .inr (10, xF hm h1 h2 h3 0 0 1000)), (h1, .inl (c1, 24, .inr (.inr (.inr (.inr (f1)))))), (ho, .inl (co, 1, .inr (.inl (fo))))] ∧ Gw U ∧ Gz (va_A [(h0, .inr (10, xF hm h1 h2 h3 0 0 1000)), (h1, .inl (c1, 24, .inr (.inr (.inr (.inr (f1)))))), (ho, .inl (co, 1, .inr (.inl (fo))))] sz) U U.heap)) (va_Qi (fun (r : Int32) (u : Nat → Int64) => r = 0 ∧ (0 = 0 → u 0 = 0)) (fun (u : Nat → Int64) (t : State) => va_P (dC, dI) vwCl [(ho, .inl (co, 1, .inr (.inl (u))))] t.heap ∧ va_K (dC, dI) vwCl [(co, .long)] t ∧ va_D (va_A [(h0, .inr (10, xF hm h1 h2 h3 0 0 1000)), (h1, .inl (c1, 24, .inr (.inr (.inr (.inr (f1)))))), (ho, .inl (co, 1, .inr (.inl (fo))))] sz) [(ho, .inl (co, 1, .inr (.inl (u))))]) (va_A [(h0, .inr (10, xF hm h1 h2 h3 0 0 1000)), (h1, .inl (c1, 24, .inr (.inr (.inr (.inr (f1)))))), (ho, .inl (co, 1, .inr (.inl (fo))))] sz)) 4 1300 (va_A [(h0, .inr (10, xF hm h1 h2 h3 0 0 1000)), (h1, .inl (c1, 24, .inr (.inr (.inr (.inr (f1)))))), (ho, .inl (co, 1, .inr (.inl (fo))))] sz) := by
  refine va_MetW (hh := [(0, 11, 14, 13)]) (cc := cL_count) (maxL := 7) (ret := (some .int)) (by decide) rfl ?_
  intro p e s m args below meth c s₁ B hml hv
  obtain ⟨rfl, hsz, hP, hK, hD0, hG, hZ⟩ := hv
  have hx := B.exec
  have hb := B.bytes
  have hr := B.returns
  have hts := atoms_spec (ws := wsL_count) B.pre
  have hown : s.vm.findClass RL = some m.cls := findClass_of_methodNamed B.named
  have hlocks := B.notSynchronized
  have htab := vx_table (x := yL_count) (hh := [(0, 11, 14, 13)]) (bytes := cL_count) (maxL' := 7) (ret' := (some .int)) B (hts _ List.mem_cons_self)
  subst hsz
  have hD := hD0.self (sz := s.heap.size)
  generalize hAe : va_A [(h0, .inr (10, xF hm h1 h2 h3 0 0 1000)), (h1, .inl (c1, 24, .inr (.inr (.inr (.inr (f1)))))), (ho, .inl (co, 1, .inr (.inl (fo))))] s.heap.size = A at hD hZ ⊢
  have hA : ∀ q : Nat, s.heap.size ≤ q → A q := fun q h => by rw [← hAe]; exact Or.inr h
  generalize hH : s.heap = H at hP ⊢
  have hS : va_S A s.heap H [] := by rw [← hH]; exact va_S.rf
  have hl := lv_entry [.ref h0, .long p0, .long p1, .ref ho] (n := 7) (Nat.le_of_ble_eq_true rfl)
  rw [lg_entry_eq]
  generalize (lg_sl [.ref h0, .long p0, .long p1, .ref ho] ++ List.replicate (7 - (lg_sl [.ref h0, .long p0, .long p1, .ref ho]).length) Slot.unset).toArray = ls at hl ⊢
  have hl : lv_has ls 7 [(0, .ref h0), (1, .long p0), (3, .long p1), (5, .ref ho)] := hl
  have hP : va_P (dC, dI) vwCl [(h0, .inr (10, xF hm h1 h2 h3 0 0 1000)), (h1, .inl (c1, 24, .inr (.inr (.inr (.inr (f1)))))), (ho, .inl (co, 1, .inr (.inl (fo))))] H := hP
  refine lv_aload hx hb dL_count_0 (lv_at hl 3 rfl) ?_
  refine lv_iconst (v := 0) hx hb dL_count_2 (by decide) ?_
  refine lv_aload_n hx hb dL_count_3 rfl (lv_at hl 0 rfl) ?_
  refine lv_lload_n hx hb dL_count_4 rfl (lv_at hl 1 rfl) ?_
  refine lv_lload_n hx hb dL_count_5 rfl (lv_at hl 2 rfl) ?_
  have hPc := hP.sub (ws' := [(h0, .inr (10, xF hm h1 h2 h3 0 0 1000)), (h1, .inl (c1, 24, .inr (.inr (.inr (.inr (f1))))))]) [0, 1] rfl
  have hDc := hD.sub (ws' := [(h0, .inr (10, xF hm h1 h2 h3 0 0 1000)), (h1, .inl (c1, 24, .inr (.inr (.inr (.inr (f1))))))]) [0, 1] (by decide) rfl
  have hKc := hK.sub (tys' := [(c1, .object RX5)]) [0] rfl
  have hFc := va_free (wc := [(h0, .inr (10, xF hm h1 h2 h3 0 0 1000)), (h1, .inl (c1, 24, .inr (.inr (.inr (.inr (f1))))))]) hD hS hA [0, 1] rfl
  refine va_calli (va_runV (As := [.long p0, .long p1]) (rest := [.int 0, .ref ho]) ⟨hx, hb, hml, hown, hts⟩ (c_X11_count l hl0 dC dI h0 hm h1 h2 h3 c1 f1 p0 p1 H.size) (cwV 2 hts gL_count_X11_count rfl rfl rfl (by decide +kernel) ⟨Nat.le_of_ble_eq_true rfl, Nat.le_of_ble_eq_true rfl⟩) ⟨fun a U g mk q => by obtain ⟨q0, q1, qP, qK, qD, qG, qZ⟩ := q; exact ⟨q0, q1, qP, va_K.moved (u := U) (U := U.calling g mk a) (Vm.Alike.refl U.vm) qK, qD, Gw.same (u := U) (U := U.calling g mk a) rfl qG, Gz.moved (u := U) (U := U.calling g mk a) (Vm.Alike.refl U.vm) qZ⟩, va_recv hKc hPc (ci := 10) (q0 := 0) rfl rfl, fun U hU hW => ⟨rfl, by rw [hU], by rw [hU]; exact hPc, va_K.moved hW.alike hKc, hDc.weaken (fun _ _ _ _ => trivial), Gw.warm hW hG, Gz.step hZ hS hFc hU hW.alike⟩⟩ rfl rfl hl.1 rfl (lv_room (Nat.le_of_ble_eq_true rfl)) dL_count_6 ⟨Nat.le_of_ble_eq_true rfl, Nat.le_of_ble_eq_true rfl⟩) hS (fun q _ h => hFc q h) hFc (fun r_1 u_2 t H1 locs ht hvm hw hB hz1 hk1 hS => ?_)
  obtain ⟨hP, hD⟩ := nd_drop (wr := [(ho, .inl (co, 1, .inr (.inl (fo))))]) hP hD [0, 1] [2] rfl rfl (by decide) (by decide) hk1 hFc
  generalize H1 = H at hP hS ⊢
  have hP : va_P (dC, dI) vwCl [(ho, .inl (co, 1, .inr (.inl (fo))))] H := hP
  have hD : va_D A [(ho, .inl (co, 1, .inr (.inl (fo))))] := hD
  refine W.widen (k := 4) (n := 1300) (by decide +kernel) (by decide +kernel) ?_
  obtain rfl : r_1 = 0 := hw
  refine lv_i2l (v := 0) hx hb dL_count_9 (by decide) ?_
  refine va_last hx hb hK hP hD hS 0 1 rfl rfl (nd_in (i := 0) (n := 1) (by decide)) dL_count_10 (fun H locs hP hD hS => ?_)
  obtain ⟨f_3, ef_3⟩ : ∃ z, z = vp_updL fo ((0 : Int32).toNatClampNeg) 0 := ⟨_, rfl⟩
  have hP : va_P (dC, dI) vwCl [(ho, .inl (co, 1, .inr (.inl (vp_updL fo ((0 : Int32).toNatClampNeg) 0))))] H := hP
  have hD : va_D A [(ho, .inl (co, 1, .inr (.inl (vp_updL fo ((0 : Int32).toNatClampNeg) 0))))] := hD
  rw [← ef_3] at hP hD
  refine lv_goto (tgt := 18) hx hb dL_count_11 (by decide) ?_
  refine lv_iconst (v := 0) hx hb dL_count_18 (by decide) ?_
  refine W.widen (k := 4) (n := 1300) (by decide +kernel) (by decide +kernel) ?_
  have hP9 := hP.sub (ws' := [(ho, .inl (co, 1, .inr (.inl (f_3))))]) [0] rfl
  have hD9 := hD.sub (ws' := [(ho, .inl (co, 1, .inr (.inl (f_3))))]) [0] (by decide) rfl
  have hK9 := hK.sub (tys' := [(co, .long)]) [1] rfl
  exact W.iret (v := 0) hx hb hr (fun t ht hW => ⟨⟨0, f_3, rfl, ⟨rfl, fun _ => by rw [ef_3]; rfl⟩, by rw [ht]; exact hP9, va_K.moved hW.alike hK9, hD9⟩, hS.F ht⟩) hS.2.2 dL_count_19
set_option maxHeartbeats 4000000 in
set_option maxRecDepth 100000 in
theorem c_L_hole (l : Launch) (hl0 : l.stackTraces = false) (dC : Nat → ClassId) (dI : Nat → Nat → Nat) (h0 : Nat) (hm : Nat) (h1 : Nat) (h2 : Nat) (h3 : Nat) (c2 : ClassId) (f2 : Nat → Int64) (c3 : ClassId) (f3 : Nat → Int32) (p0 : Int32) (ho : Nat) (co : ClassId) (fo : Nat → Int64) (sz : Nat) : Met l yL_hole wsL_hole ({ frames := 40, cells := 1, slots := 6, locals := 1200 }) (va_Pc [.ref h0, .int p0, .ref ho] (fun U => U.heap.size = sz ∧ va_P (dC, dI) vwCl [(h0, .inr (10, xF hm h1 h2 h3 0 0 1000)), (h2, .inl (c2, 100, .inr (.inl (f2)))), (h3, .inl (c3, 100, .inl (f3))), (ho, .inl (co, 1, .inr (.inl (fo))))] U.heap ∧ va_K (dC, dI) vwCl [(c2, .long), (c3, .byte), (co, .long)] U ∧ va_D (fun _ => True) [(h0, .inr (10, xF hm h1 h2 h3 0 0 1000)), (h2, .inl (c2, 100, .inr (.inl (f2)))), (h3, .inl (c3, 100, .inl (f3))), (ho, .inl (co, 1, .inr (.inl (fo))))] ∧ Gw U ∧ Gz (va_A [(h0, .inr (10, xF hm h1 h2 h3 0 0 1000)), (h2, .inl (c2, 100, .inr (.inl (f2)))), (h3, .inl (c3, 100, .inl (f3))), (ho, .inl (co, 1, .inr (.inl (fo))))] sz) U U.heap)) (va_Qi (fun (r : Int32) (u : Nat → Int64) => r = kHole p0 ∧ (kHole p0 = 0 → u 0 = 1)) (fun (u : Nat → Int64) (t : State) => va_P (dC, dI) vwCl [(ho, .inl (co, 1, .inr (.inl (u))))] t.heap ∧ va_K (dC, dI) vwCl [(co, .long)] t ∧ va_D (va_A [(h0, .inr (10, xF hm h1 h2 h3 0 0 1000)), (h2, .inl (c2, 100, .inr (.inl (f2)))), (h3, .inl (c3, 100, .inl (f3))), (ho, .inl (co, 1, .inr (.inl (fo))))] sz) [(ho, .inl (co, 1, .inr (.inl (u))))]) (va_A [(h0, .inr (10, xF hm h1 h2 h3 0 0 1000)), (h2, .inl (c2, 100, .inr (.inl (f2)))), (h3, .inl (c3, 100, .inl (f3))), (ho, .inl (co, 1, .inr (.inl (fo))))] sz)) 1 6 (va_A [(h0, .inr (10, xF hm h1 h2 h3 0 0 1000)), (h2, .inl (c2, 100, .inr (.inl (f2)))), (h3, .inl (c3, 100, .inl (f3))), (ho, .inl (co, 1, .inr (.inl (fo))))] sz) := by
  refine va_MetW (hh := [(0, 9, 12, 19), (0, 9, 15, 13)]) (cc := cL_hole) (maxL := 4) (ret := (some .int)) (by decide) rfl ?_
  intro p e s m args below meth c s₁ B hml hv
  obtain ⟨rfl, hsz, hP, hK, hD0, hG, hZ⟩ := hv
  have hx := B.exec
  have hb := B.bytes
  have hr := B.returns
  have hts := atoms_spec (ws := wsL_hole) B.pre
  have hown : s.vm.findClass RL = some m.cls := findClass_of_methodNamed B.named
  have hlocks := B.notSynchronized
  have htab := vx_table (x := yL_hole) (hh := [(0, 9, 12, 19), (0, 9, 15, 13)]) (bytes := cL_hole) (maxL' := 4) (ret' := (some .int)) B (hts _ List.mem_cons_self)
  subst hsz
  have hD := hD0.self (sz := s.heap.size)
  generalize hAe : va_A [(h0, .inr (10, xF hm h1 h2 h3 0 0 1000)), (h2, .inl (c2, 100, .inr (.inl (f2)))), (h3, .inl (c3, 100, .inl (f3))), (ho, .inl (co, 1, .inr (.inl (fo))))] s.heap.size = A at hD hZ ⊢
  have hA : ∀ q : Nat, s.heap.size ≤ q → A q := fun q h => by rw [← hAe]; exact Or.inr h
  generalize hH : s.heap = H at hP ⊢
  have hS : va_S A s.heap H [] := by rw [← hH]; exact va_S.rf
  have hl := lv_entry [.ref h0, .int p0, .ref ho] (n := 4) (Nat.le_of_ble_eq_true rfl)
  rw [lg_entry_eq]
  generalize (lg_sl [.ref h0, .int p0, .ref ho] ++ List.replicate (4 - (lg_sl [.ref h0, .int p0, .ref ho]).length) Slot.unset).toArray = ls at hl ⊢
  have hl : lv_has ls 4 [(0, .ref h0), (1, .int p0), (2, .ref ho)] := hl
  have hP : va_P (dC, dI) vwCl [(h0, .inr (10, xF hm h1 h2 h3 0 0 1000)), (h2, .inl (c2, 100, .inr (.inl (f2)))), (h3, .inl (c3, 100, .inl (f3))), (ho, .inl (co, 1, .inr (.inl (fo))))] H := hP
  refine lv_aload_n hx hb dL_hole_0 rfl (lv_at hl 2 rfl) ?_
  refine lv_iconst (v := 0) hx hb dL_hole_1 (by decide) ?_
  refine lv_aload_n hx hb dL_hole_2 rfl (lv_at hl 0 rfl) ?_
  refine lv_iload_n hx hb dL_hole_3 rfl (lv_at hl 1 rfl) ?_
  have hPc := hP.sub (ws' := [(h0, .inr (10, xF hm h1 h2 h3 0 0 1000)), (h2, .inl (c2, 100, .inr (.inl (f2)))), (h3, .inl (c3, 100, .inl (f3)))]) [0, 1, 2] rfl
  have hDc := hD.sub (ws' := [(h0, .inr (10, xF hm h1 h2 h3 0 0 1000)), (h2, .inl (c2, 100, .inr (.inl (f2)))), (h3, .inl (c3, 100, .inl (f3)))]) [0, 1, 2] (by decide) rfl
  have hKc := hK.sub (tys' := [(c2, .long), (c3, .byte)]) [0, 1] rfl
  have hFc := va_free (wc := [(h0, .inr (10, xF hm h1 h2 h3 0 0 1000)), (h2, .inl (c2, 100, .inr (.inl (f2)))), (h3, .inl (c3, 100, .inl (f3)))]) hD hS hA [0, 1, 2] rfl
  refine vx_calli (vx_runV (As := [.int p0]) (rest := [.int 0, .ref ho]) ⟨hx, hb, hml, hown, hts⟩ (c_X11_hole l hl0 dC dI h0 hm h1 h2 h3 c2 f2 c3 f3 p0 H.size) (cwV 1 hts gL_hole_X11_hole rfl rfl rfl (by decide +kernel) ⟨Nat.le_of_ble_eq_true rfl, Nat.le_of_ble_eq_true rfl⟩) ⟨fun a U g mk q => by obtain ⟨q0, q1, qP, qK, qD, qG, qZ⟩ := q; exact ⟨q0, q1, qP, va_K.moved (u := U) (U := U.calling g mk a) (Vm.Alike.refl U.vm) qK, qD, Gw.same (u := U) (U := U.calling g mk a) rfl qG, Gz.moved (u := U) (U := U.calling g mk a) (Vm.Alike.refl U.vm) qZ⟩, va_recv hKc hPc (ci := 10) (q0 := 0) rfl rfl, fun U hU hW => ⟨rfl, by rw [hU], by rw [hU]; exact hPc, va_K.moved hW.alike hKc, hDc.weaken (fun _ _ _ _ => trivial), Gw.warm hW hG, Gz.step hZ hS hFc hU hW.alike⟩⟩ rfl rfl hl.1 rfl (lv_room (Nat.le_of_ble_eq_true rfl)) dL_hole_4 ⟨Nat.le_of_ble_eq_true rfl, Nat.le_of_ble_eq_true rfl⟩) hS (fun q _ h => hFc q h) hFc (fun q _ h => hFc q h) (fun E ce q9 u9 t H1 locs ht hvm hpx hBX hz1 hk1 hS hce hcv hcl => ?_) (fun r_1 u_2 t H1 locs ht hvm hw hB hz1 hk1 hS => ?_)
  · obtain rfl : E = "java/lang/IllegalArgumentException" := hBX
    obtain ⟨hP, hD⟩ := nd_drop (wr := [(ho, .inl (co, 1, .inr (.inl (fo))))]) hP hD [0, 1, 2] [3] rfl rfl (by decide) (by decide) hk1 hFc
    generalize H1 = H at hP hS hce ⊢
    have hP : va_P (dC, dI) vwCl [(ho, .inl (co, 1, .inr (.inl (fo))))] H := hP
    have hD : va_D A [(ho, .inl (co, 1, .inr (.inl (fo))))] := hD
    refine vx_catch (own := RL) (name := "java/lang/IllegalArgumentException") hown [] (tableOf [(0, 9, 12, 19), (0, 9, 15, 13)])[0] ((tableOf [(0, 9, 12, 19), (0, 9, 15, 13)]).drop 1) (by rw [htab]; rfl) (fun z hz => nomatch hz) (by decide) (by decide) (hts (.classLink RL 19 "java/lang/IllegalArgumentException") (by decide +kernel)) (va_Nw.use rfl hG.cIAE) hce hcv hcl ?_
    refine W.eq (g2 := F0 m 12 ls [.ref q9]) rfl ?_
    refine lv_astore_n (lv' := [(3, .ref q9), (0, .ref h0), (1, .int p0), (2, .ref ho)]) hx hb dL_hole_12 rfl hl (by decide) rfl (fun ls hl => ?_)
    refine lv_iconst (v := 1) hx hb dL_hole_13 (by decide) ?_
    refine W.widen (k := 1) (n := 6) (by decide +kernel) (by decide +kernel) ?_
    have hP9 := hP.sub (ws' := [(ho, .inl (co, 1, .inr (.inl (fo))))]) [0] rfl
    have hD9 := hD.sub (ws' := [(ho, .inl (co, 1, .inr (.inl (fo))))]) [0] (by decide) rfl
    have hK9 := hK.sub (tys' := [(co, .long)]) [2] rfl
    exact W.iret (v := 1) hx hb hr (fun t ht hW => ⟨⟨1, fo, rfl, ⟨hpx.symm, fun h => absurd (hpx.symm.trans h) (by decide)⟩, by rw [ht]; exact hP9, va_K.moved hW.alike hK9, hD9⟩, hS.F ht⟩) hS.2.2 dL_hole_14
  · obtain ⟨hP, hD⟩ := nd_drop (wr := [(ho, .inl (co, 1, .inr (.inl (fo))))]) hP hD [0, 1, 2] [3] rfl rfl (by decide) (by decide) hk1 hFc
    generalize H1 = H at hP hS ⊢
    have hP : va_P (dC, dI) vwCl [(ho, .inl (co, 1, .inr (.inl (fo))))] H := hP
    have hD : va_D A [(ho, .inl (co, 1, .inr (.inl (fo))))] := hD
    refine W.widen (k := 1) (n := 6) (by decide +kernel) (by decide +kernel) ?_
    refine lv_i2l hx hb dL_hole_7 rfl ?_
    refine va_last hx hb hK hP hD hS 0 2 rfl rfl (nd_in (i := 0) (n := 1) (by decide)) dL_hole_8 (fun H locs hP hD hS => ?_)
    obtain ⟨f_3, ef_3⟩ : ∃ z, z = vp_updL fo ((0 : Int32).toNatClampNeg) r_1.toInt64 := ⟨_, rfl⟩
    have hP : va_P (dC, dI) vwCl [(ho, .inl (co, 1, .inr (.inl (vp_updL fo ((0 : Int32).toNatClampNeg) r_1.toInt64))))] H := hP
    have hD : va_D A [(ho, .inl (co, 1, .inr (.inl (vp_updL fo ((0 : Int32).toNatClampNeg) r_1.toInt64))))] := hD
    rw [← ef_3] at hP hD
    refine lv_goto (tgt := 18) hx hb dL_hole_9 (by decide) ?_
    refine lv_iconst (v := 0) hx hb dL_hole_18 (by decide) ?_
    refine W.widen (k := 1) (n := 6) (by decide +kernel) (by decide +kernel) ?_
    have hP9 := hP.sub (ws' := [(ho, .inl (co, 1, .inr (.inl (f_3))))]) [0] rfl
    have hD9 := hD.sub (ws' := [(ho, .inl (co, 1, .inr (.inl (f_3))))]) [0] (by decide) rfl
    have hK9 := hK.sub (tys' := [(co, .long)]) [2] rfl
    exact W.iret (v := 0) hx hb hr (fun t ht hW => ⟨⟨0, f_3, rfl, ⟨hw.2.symm, fun _ => by rw [ef_3, hw.1]; rfl⟩, by rw [ht]; exact hP9, va_K.moved hW.alike hK9, hD9⟩, hS.F ht⟩) hS.2.2 dL_hole_19
set_option maxHeartbeats 4000000 in
set_option maxRecDepth 100000 in
theorem c_L_iterate (l : Launch) (hl0 : l.stackTraces = false) (dC : Nat → ClassId) (dI : Nat → Nat → Nat) (h0 : Nat) (hm : Nat) (h1 : Nat) (h2 : Nat) (h3 : Nat) (c1 : ClassId) (f1 : Nat → Option Nat) (p0 : Int32) (p1 : Int64) (p2 : Int64) (ho : Nat) (co : ClassId) (fo : Nat → Int64) (sz : Nat) : Met l yL_iterate wsL_iterate ({ frames := 50, cells := 4, slots := 900, locals := 1500 }) (va_Pc [.ref h0, .int p0, .long p1, .long p2, .ref ho] (fun U => U.heap.size = sz ∧ va_P (dC, dI) vwCl [(h0, .inr (10, xF hm h1 h2 h3 0 0 1000)), (h1, .inl (c1, 24, .inr (.inr (.inr (.inr (f1)))))), (ho, .inl (co, 1, .inr (.inl (fo))))] U.heap ∧ va_K (dC, dI) vwCl [(c1, .object RX5), (co, .long)] U ∧ va_D (fun _ => True) [(h0, .inr (10, xF hm h1 h2 h3 0 0 1000)), (h1, .inl (c1, 24, .inr (.inr (.inr (.inr (f1)))))), (ho, .inl (co, 1, .inr (.inl (fo))))] ∧ Gw U ∧ Gz (va_A [(h0, .inr (10, xF hm h1 h2 h3 0 0 1000)), (h1, .inl (c1, 24, .inr (.inr (.inr (.inr (f1)))))), (ho, .inl (co, 1, .inr (.inl (fo))))] sz) U U.heap)) (va_Qi (fun (r : Int32) (u : Nat → Int64) => r = kOp p0 ∧ (kOp p0 = 0 → u 0 = 0)) (fun (u : Nat → Int64) (t : State) => va_P (dC, dI) vwCl [(ho, .inl (co, 1, .inr (.inl (u))))] t.heap ∧ va_K (dC, dI) vwCl [(co, .long)] t ∧ va_D (va_A [(h0, .inr (10, xF hm h1 h2 h3 0 0 1000)), (h1, .inl (c1, 24, .inr (.inr (.inr (.inr (f1)))))), (ho, .inl (co, 1, .inr (.inl (fo))))] sz) [(ho, .inl (co, 1, .inr (.inl (u))))]) (va_A [(h0, .inr (10, xF hm h1 h2 h3 0 0 1000)), (h1, .inl (c1, 24, .inr (.inr (.inr (.inr (f1)))))), (ho, .inl (co, 1, .inr (.inl (fo))))] sz)) 4 900 (va_A [(h0, .inr (10, xF hm h1 h2 h3 0 0 1000)), (h1, .inl (c1, 24, .inr (.inr (.inr (.inr (f1)))))), (ho, .inl (co, 1, .inr (.inl (fo))))] sz) := by
  refine va_MetW (hh := [(0, 13, 16, 19), (0, 13, 20, 13)]) (cc := cL_iterate) (maxL := 8) (ret := (some .int)) (by decide) rfl ?_
  intro p e s m args below meth c s₁ B hml hv
  obtain ⟨rfl, hsz, hP, hK, hD0, hG, hZ⟩ := hv
  have hx := B.exec
  have hb := B.bytes
  have hr := B.returns
  have hts := atoms_spec (ws := wsL_iterate) B.pre
  have hown : s.vm.findClass RL = some m.cls := findClass_of_methodNamed B.named
  have hlocks := B.notSynchronized
  have htab := vx_table (x := yL_iterate) (hh := [(0, 13, 16, 19), (0, 13, 20, 13)]) (bytes := cL_iterate) (maxL' := 8) (ret' := (some .int)) B (hts _ List.mem_cons_self)
  subst hsz
  have hD := hD0.self (sz := s.heap.size)
  generalize hAe : va_A [(h0, .inr (10, xF hm h1 h2 h3 0 0 1000)), (h1, .inl (c1, 24, .inr (.inr (.inr (.inr (f1)))))), (ho, .inl (co, 1, .inr (.inl (fo))))] s.heap.size = A at hD hZ ⊢
  have hA : ∀ q : Nat, s.heap.size ≤ q → A q := fun q h => by rw [← hAe]; exact Or.inr h
  generalize hH : s.heap = H at hP ⊢
  have hS : va_S A s.heap H [] := by rw [← hH]; exact va_S.rf
  have hl := lv_entry [.ref h0, .int p0, .long p1, .long p2, .ref ho] (n := 8) (Nat.le_of_ble_eq_true rfl)
  rw [lg_entry_eq]
  generalize (lg_sl [.ref h0, .int p0, .long p1, .long p2, .ref ho] ++ List.replicate (8 - (lg_sl [.ref h0, .int p0, .long p1, .long p2, .ref ho]).length) Slot.unset).toArray = ls at hl ⊢
  have hl : lv_has ls 8 [(0, .ref h0), (1, .int p0), (2, .long p1), (4, .long p2), (6, .ref ho)] := hl
  have hP : va_P (dC, dI) vwCl [(h0, .inr (10, xF hm h1 h2 h3 0 0 1000)), (h1, .inl (c1, 24, .inr (.inr (.inr (.inr (f1)))))), (ho, .inl (co, 1, .inr (.inl (fo))))] H := hP
  refine lv_aload hx hb dL_iterate_0 (lv_at hl 4 rfl) ?_
  refine lv_iconst (v := 0) hx hb dL_iterate_2 (by decide) ?_
  refine lv_aload_n hx hb dL_iterate_3 rfl (lv_at hl 0 rfl) ?_
  refine lv_iload_n hx hb dL_iterate_4 rfl (lv_at hl 1 rfl) ?_
  refine lv_lload_n hx hb dL_iterate_5 rfl (lv_at hl 2 rfl) ?_
  refine lv_lload hx hb dL_iterate_6 (lv_at hl 3 rfl) ?_
  have hPc := hP.sub (ws' := [(h0, .inr (10, xF hm h1 h2 h3 0 0 1000)), (h1, .inl (c1, 24, .inr (.inr (.inr (.inr (f1))))))]) [0, 1] rfl
  have hDc := hD.sub (ws' := [(h0, .inr (10, xF hm h1 h2 h3 0 0 1000)), (h1, .inl (c1, 24, .inr (.inr (.inr (.inr (f1))))))]) [0, 1] (by decide) rfl
  have hKc := hK.sub (tys' := [(c1, .object RX5)]) [0] rfl
  have hFc := va_free (wc := [(h0, .inr (10, xF hm h1 h2 h3 0 0 1000)), (h1, .inl (c1, 24, .inr (.inr (.inr (.inr (f1))))))]) hD hS hA [0, 1] rfl
  refine vx_calli (vx_runV (As := [.int p0, .long p1, .long p2]) (rest := [.int 0, .ref ho]) ⟨hx, hb, hml, hown, hts⟩ (c_X11_iterate l hl0 dC dI h0 hm h1 h2 h3 c1 f1 p0 p1 p2 H.size) (cwV 3 hts gL_iterate_X11_iterate rfl rfl rfl (by decide +kernel) ⟨Nat.le_of_ble_eq_true rfl, Nat.le_of_ble_eq_true rfl⟩) ⟨fun a U g mk q => by obtain ⟨q0, q1, qP, qK, qD, qG, qZ⟩ := q; exact ⟨q0, q1, qP, va_K.moved (u := U) (U := U.calling g mk a) (Vm.Alike.refl U.vm) qK, qD, Gw.same (u := U) (U := U.calling g mk a) rfl qG, Gz.moved (u := U) (U := U.calling g mk a) (Vm.Alike.refl U.vm) qZ⟩, va_recv hKc hPc (ci := 10) (q0 := 0) rfl rfl, fun U hU hW => ⟨rfl, by rw [hU], by rw [hU]; exact hPc, va_K.moved hW.alike hKc, hDc.weaken (fun _ _ _ _ => trivial), Gw.warm hW hG, Gz.step hZ hS hFc hU hW.alike⟩⟩ rfl rfl hl.1 rfl (lv_room (Nat.le_of_ble_eq_true rfl)) dL_iterate_8 ⟨Nat.le_of_ble_eq_true rfl, Nat.le_of_ble_eq_true rfl⟩) hS (fun q _ h => hFc q h) hFc (fun q _ h => hFc q h) (fun E ce q9 u9 t H1 locs ht hvm hpx hBX hz1 hk1 hS hce hcv hcl => ?_) (fun r_1 u_2 t H1 locs ht hvm hw hB hz1 hk1 hS => ?_)
  · obtain rfl : E = "java/lang/IllegalArgumentException" := hBX
    obtain ⟨hP, hD⟩ := nd_drop (wr := [(ho, .inl (co, 1, .inr (.inl (fo))))]) hP hD [0, 1] [2] rfl rfl (by decide) (by decide) hk1 hFc
    generalize H1 = H at hP hS hce ⊢
    have hP : va_P (dC, dI) vwCl [(ho, .inl (co, 1, .inr (.inl (fo))))] H := hP
    have hD : va_D A [(ho, .inl (co, 1, .inr (.inl (fo))))] := hD
    refine vx_catch (own := RL) (name := "java/lang/IllegalArgumentException") hown [] (tableOf [(0, 13, 16, 19), (0, 13, 20, 13)])[0] ((tableOf [(0, 13, 16, 19), (0, 13, 20, 13)]).drop 1) (by rw [htab]; rfl) (fun z hz => nomatch hz) (by decide) (by decide) (hts (.classLink RL 19 "java/lang/IllegalArgumentException") (by decide +kernel)) (va_Nw.use rfl hG.cIAE) hce hcv hcl ?_
    refine W.eq (g2 := F0 m 16 ls [.ref q9]) rfl ?_
    refine lv_astore (lv' := [(7, .ref q9), (0, .ref h0), (1, .int p0), (2, .long p1), (4, .long p2), (6, .ref ho)]) hx hb dL_iterate_16 hl (by decide) rfl (fun ls hl => ?_)
    refine lv_iconst (v := 1) hx hb dL_iterate_18 (by decide) ?_
    refine W.widen (k := 4) (n := 900) (by decide +kernel) (by decide +kernel) ?_
    have hP9 := hP.sub (ws' := [(ho, .inl (co, 1, .inr (.inl (fo))))]) [0] rfl
    have hD9 := hD.sub (ws' := [(ho, .inl (co, 1, .inr (.inl (fo))))]) [0] (by decide) rfl
    have hK9 := hK.sub (tys' := [(co, .long)]) [1] rfl
    exact W.iret (v := 1) hx hb hr (fun t ht hW => ⟨⟨1, fo, rfl, ⟨hpx.symm, fun h => absurd (hpx.symm.trans h) (by decide)⟩, by rw [ht]; exact hP9, va_K.moved hW.alike hK9, hD9⟩, hS.F ht⟩) hS.2.2 dL_iterate_19
  · obtain ⟨hP, hD⟩ := nd_drop (wr := [(ho, .inl (co, 1, .inr (.inl (fo))))]) hP hD [0, 1] [2] rfl rfl (by decide) (by decide) hk1 hFc
    generalize H1 = H at hP hS ⊢
    have hP : va_P (dC, dI) vwCl [(ho, .inl (co, 1, .inr (.inl (fo))))] H := hP
    have hD : va_D A [(ho, .inl (co, 1, .inr (.inl (fo))))] := hD
    refine W.widen (k := 4) (n := 900) (by decide +kernel) (by decide +kernel) ?_
    refine lv_i2l hx hb dL_iterate_11 rfl ?_
    refine va_last hx hb hK hP hD hS 0 1 rfl rfl (nd_in (i := 0) (n := 1) (by decide)) dL_iterate_12 (fun H locs hP hD hS => ?_)
    obtain ⟨f_3, ef_3⟩ : ∃ z, z = vp_updL fo ((0 : Int32).toNatClampNeg) r_1.toInt64 := ⟨_, rfl⟩
    have hP : va_P (dC, dI) vwCl [(ho, .inl (co, 1, .inr (.inl (vp_updL fo ((0 : Int32).toNatClampNeg) r_1.toInt64))))] H := hP
    have hD : va_D A [(ho, .inl (co, 1, .inr (.inl (vp_updL fo ((0 : Int32).toNatClampNeg) r_1.toInt64))))] := hD
    rw [← ef_3] at hP hD
    refine lv_goto (tgt := 24) hx hb dL_iterate_13 (by decide) ?_
    refine lv_iconst (v := 0) hx hb dL_iterate_24 (by decide) ?_
    refine W.widen (k := 4) (n := 900) (by decide +kernel) (by decide +kernel) ?_
    have hP9 := hP.sub (ws' := [(ho, .inl (co, 1, .inr (.inl (f_3))))]) [0] rfl
    have hD9 := hD.sub (ws' := [(ho, .inl (co, 1, .inr (.inl (f_3))))]) [0] (by decide) rfl
    have hK9 := hK.sub (tys' := [(co, .long)]) [1] rfl
    exact W.iret (v := 0) hx hb hr (fun t ht hW => ⟨⟨0, f_3, rfl, ⟨hw.2.symm, fun _ => by rw [ef_3, hw.1]; rfl⟩, by rw [ht]; exact hP9, va_K.moved hW.alike hK9, hD9⟩, hS.F ht⟩) hS.2.2 dL_iterate_25
set_option maxHeartbeats 4000000 in
set_option maxRecDepth 100000 in
theorem c_L_steps (l : Launch) (hl0 : l.stackTraces = false) (dC : Nat → ClassId) (dI : Nat → Nat → Nat) (h0 : Nat) (hm : Nat) (h1 : Nat) (h2 : Nat) (h3 : Nat) (p0 : Int32) (ho : Nat) (co : ClassId) (fo : Nat → Int64) (sz : Nat) : Met l yL_steps wsL_steps ({ frames := 40, cells := 1, slots := 6, locals := 1200 }) (va_Pc [.ref h0, .int p0, .ref ho] (fun U => U.heap.size = sz ∧ va_P (dC, dI) vwCl [(h0, .inr (10, xF hm h1 h2 h3 0 0 1000)), (ho, .inl (co, 1, .inr (.inl (fo))))] U.heap ∧ va_K (dC, dI) vwCl [(co, .long)] U ∧ va_D (fun _ => True) [(h0, .inr (10, xF hm h1 h2 h3 0 0 1000)), (ho, .inl (co, 1, .inr (.inl (fo))))] ∧ Gw U ∧ Gz (va_A [(h0, .inr (10, xF hm h1 h2 h3 0 0 1000)), (ho, .inl (co, 1, .inr (.inl (fo))))] sz) U U.heap)) (va_Qi (fun (r : Int32) (u : Nat → Int64) => r = kSteps p0 ∧ (kSteps p0 = 0 → u 0 = 1000)) (fun (u : Nat → Int64) (t : State) => va_P (dC, dI) vwCl [(ho, .inl (co, 1, .inr (.inl (u))))] t.heap ∧ va_K (dC, dI) vwCl [(co, .long)] t ∧ va_D (va_A [(h0, .inr (10, xF hm h1 h2 h3 0 0 1000)), (ho, .inl (co, 1, .inr (.inl (fo))))] sz) [(ho, .inl (co, 1, .inr (.inl (u))))]) (va_A [(h0, .inr (10, xF hm h1 h2 h3 0 0 1000)), (ho, .inl (co, 1, .inr (.inl (fo))))] sz)) 1 6 (va_A [(h0, .inr (10, xF hm h1 h2 h3 0 0 1000)), (ho, .inl (co, 1, .inr (.inl (fo))))] sz) := by
  refine va_MetW (hh := [(0, 9, 12, 19)]) (cc := cL_steps) (maxL := 4) (ret := (some .int)) (by decide) rfl ?_
  intro p e s m args below meth c s₁ B hml hv
  obtain ⟨rfl, hsz, hP, hK, hD0, hG, hZ⟩ := hv
  have hx := B.exec
  have hb := B.bytes
  have hr := B.returns
  have hts := atoms_spec (ws := wsL_steps) B.pre
  have hown : s.vm.findClass RL = some m.cls := findClass_of_methodNamed B.named
  have hlocks := B.notSynchronized
  have htab := vx_table (x := yL_steps) (hh := [(0, 9, 12, 19)]) (bytes := cL_steps) (maxL' := 4) (ret' := (some .int)) B (hts _ List.mem_cons_self)
  subst hsz
  have hD := hD0.self (sz := s.heap.size)
  generalize hAe : va_A [(h0, .inr (10, xF hm h1 h2 h3 0 0 1000)), (ho, .inl (co, 1, .inr (.inl (fo))))] s.heap.size = A at hD hZ ⊢
  have hA : ∀ q : Nat, s.heap.size ≤ q → A q := fun q h => by rw [← hAe]; exact Or.inr h
  generalize hH : s.heap = H at hP ⊢
  have hS : va_S A s.heap H [] := by rw [← hH]; exact va_S.rf
  have hl := lv_entry [.ref h0, .int p0, .ref ho] (n := 4) (Nat.le_of_ble_eq_true rfl)
  rw [lg_entry_eq]
  generalize (lg_sl [.ref h0, .int p0, .ref ho] ++ List.replicate (4 - (lg_sl [.ref h0, .int p0, .ref ho]).length) Slot.unset).toArray = ls at hl ⊢
  have hl : lv_has ls 4 [(0, .ref h0), (1, .int p0), (2, .ref ho)] := hl
  have hP : va_P (dC, dI) vwCl [(h0, .inr (10, xF hm h1 h2 h3 0 0 1000)), (ho, .inl (co, 1, .inr (.inl (fo))))] H := hP
  refine lv_aload_n hx hb dL_steps_0 rfl (lv_at hl 2 rfl) ?_
  refine lv_iconst (v := 0) hx hb dL_steps_1 (by decide) ?_
  refine lv_aload_n hx hb dL_steps_2 rfl (lv_at hl 0 rfl) ?_
  refine lv_iload_n hx hb dL_steps_3 rfl (lv_at hl 1 rfl) ?_
  have hPc := hP.sub (ws' := [(h0, .inr (10, xF hm h1 h2 h3 0 0 1000))]) [0] rfl
  have hDc := hD.sub (ws' := [(h0, .inr (10, xF hm h1 h2 h3 0 0 1000))]) [0] (by decide) rfl
  have hKc := hK.sub (tys' := []) [] rfl
  have hFc := va_free (wc := [(h0, .inr (10, xF hm h1 h2 h3 0 0 1000))]) hD hS hA [0] rfl
  refine vx_calli (vx_runV (As := [.int p0]) (rest := [.int 0, .ref ho]) ⟨hx, hb, hml, hown, hts⟩ (c_X11_steps l hl0 dC dI h0 hm h1 h2 h3 p0 H.size) (cwV 1 hts gL_steps_X11_steps rfl rfl rfl (by decide +kernel) ⟨Nat.le_of_ble_eq_true rfl, Nat.le_of_ble_eq_true rfl⟩) ⟨fun a U g mk q => by obtain ⟨q0, q1, qP, qK, qD, qG, qZ⟩ := q; exact ⟨q0, q1, qP, va_K.moved (u := U) (U := U.calling g mk a) (Vm.Alike.refl U.vm) qK, qD, Gw.same (u := U) (U := U.calling g mk a) rfl qG, Gz.moved (u := U) (U := U.calling g mk a) (Vm.Alike.refl U.vm) qZ⟩, va_recv hKc hPc (ci := 10) (q0 := 0) rfl rfl, fun U hU hW => ⟨rfl, by rw [hU], by rw [hU]; exact hPc, va_K.moved hW.alike hKc, hDc.weaken (fun _ _ _ _ => trivial), Gw.warm hW hG, Gz.step hZ hS hFc hU hW.alike⟩⟩ rfl rfl hl.1 rfl (lv_room (Nat.le_of_ble_eq_true rfl)) dL_steps_4 ⟨Nat.le_of_ble_eq_true rfl, Nat.le_of_ble_eq_true rfl⟩) hS (fun q _ h => hFc q h) hFc (fun q _ h => hFc q h) (fun E ce q9 u9 t H1 locs ht hvm hpx hBX hz1 hk1 hS hce hcv hcl => ?_) (fun r_1 u_2 t H1 locs ht hvm hw hB hz1 hk1 hS => ?_)
  · obtain rfl : E = "java/lang/IllegalArgumentException" := hBX
    obtain ⟨hP, hD⟩ := nd_drop (wr := [(ho, .inl (co, 1, .inr (.inl (fo))))]) hP hD [0] [1] rfl rfl (by decide) (by decide) hk1 hFc
    generalize H1 = H at hP hS hce ⊢
    have hP : va_P (dC, dI) vwCl [(ho, .inl (co, 1, .inr (.inl (fo))))] H := hP
    have hD : va_D A [(ho, .inl (co, 1, .inr (.inl (fo))))] := hD
    refine vx_catch (own := RL) (name := "java/lang/IllegalArgumentException") hown [] (tableOf [(0, 9, 12, 19)])[0] ((tableOf [(0, 9, 12, 19)]).drop 1) (by rw [htab]; rfl) (fun z hz => nomatch hz) (by decide) (by decide) (hts (.classLink RL 19 "java/lang/IllegalArgumentException") (by decide +kernel)) (va_Nw.use rfl hG.cIAE) hce hcv hcl ?_
    refine W.eq (g2 := F0 m 12 ls [.ref q9]) rfl ?_
    refine lv_astore_n (lv' := [(3, .ref q9), (0, .ref h0), (1, .int p0), (2, .ref ho)]) hx hb dL_steps_12 rfl hl (by decide) rfl (fun ls hl => ?_)
    refine lv_iconst (v := 1) hx hb dL_steps_13 (by decide) ?_
    refine W.widen (k := 1) (n := 6) (by decide +kernel) (by decide +kernel) ?_
    have hP9 := hP.sub (ws' := [(ho, .inl (co, 1, .inr (.inl (fo))))]) [0] rfl
    have hD9 := hD.sub (ws' := [(ho, .inl (co, 1, .inr (.inl (fo))))]) [0] (by decide) rfl
    have hK9 := hK.sub (tys' := [(co, .long)]) [0] rfl
    exact W.iret (v := 1) hx hb hr (fun t ht hW => ⟨⟨1, fo, rfl, ⟨hpx.symm, fun h => absurd (hpx.symm.trans h) (by decide)⟩, by rw [ht]; exact hP9, va_K.moved hW.alike hK9, hD9⟩, hS.F ht⟩) hS.2.2 dL_steps_14
  · obtain ⟨hP, hD⟩ := nd_drop (wr := [(ho, .inl (co, 1, .inr (.inl (fo))))]) hP hD [0] [1] rfl rfl (by decide) (by decide) hk1 hFc
    generalize H1 = H at hP hS ⊢
    have hP : va_P (dC, dI) vwCl [(ho, .inl (co, 1, .inr (.inl (fo))))] H := hP
    have hD : va_D A [(ho, .inl (co, 1, .inr (.inl (fo))))] := hD
    refine W.widen (k := 1) (n := 6) (by decide +kernel) (by decide +kernel) ?_
    refine lv_i2l hx hb dL_steps_7 rfl ?_
    refine va_last hx hb hK hP hD hS 0 0 rfl rfl (nd_in (i := 0) (n := 1) (by decide)) dL_steps_8 (fun H locs hP hD hS => ?_)
    obtain ⟨f_3, ef_3⟩ : ∃ z, z = vp_updL fo ((0 : Int32).toNatClampNeg) r_1.toInt64 := ⟨_, rfl⟩
    have hP : va_P (dC, dI) vwCl [(ho, .inl (co, 1, .inr (.inl (vp_updL fo ((0 : Int32).toNatClampNeg) r_1.toInt64))))] H := hP
    have hD : va_D A [(ho, .inl (co, 1, .inr (.inl (vp_updL fo ((0 : Int32).toNatClampNeg) r_1.toInt64))))] := hD
    rw [← ef_3] at hP hD
    refine lv_goto (tgt := 15) hx hb dL_steps_9 (by decide) ?_
    refine lv_iconst (v := 0) hx hb dL_steps_15 (by decide) ?_
    refine W.widen (k := 1) (n := 6) (by decide +kernel) (by decide +kernel) ?_
    have hP9 := hP.sub (ws' := [(ho, .inl (co, 1, .inr (.inl (f_3))))]) [0] rfl
    have hD9 := hD.sub (ws' := [(ho, .inl (co, 1, .inr (.inl (f_3))))]) [0] (by decide) rfl
    have hK9 := hK.sub (tys' := [(co, .long)]) [0] rfl
    exact W.iret (v := 0) hx hb hr (fun t ht hW => ⟨⟨0, f_3, rfl, ⟨hw.2.symm, fun _ => by rw [ef_3, hw.1]; rfl⟩, by rw [ht]; exact hP9, va_K.moved hW.alike hK9, hD9⟩, hS.F ht⟩) hS.2.2 dL_steps_16
