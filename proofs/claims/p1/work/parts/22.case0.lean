set_option maxHeartbeats 4000000 in
set_option maxRecDepth 100000 in
theorem law_case_0 {p : Program} {e : Env} {s : State} {m : MethodId} {below : List Frame} {meth : Method} {c : Code} (l : Launch) (hl0 : l.stackTraces = false) {b : Nat} {xs : Nat → Int32} (C0 : lw_At p s m meth c b 6 xs) (hG : Gw s) (hZ : Gz (lA s) s s.heap) {dC : Nat → ClassId} {dI : Nat → Nat → Nat} {h0 hm h1 h2 h3 g0 ho : Nat} {a : Nat → Nat} {ca cx : Nat → ClassId} {co : ClassId} {H : Heap} {locs : List Loc} (hK : va_K (dC, dI) vwCl [(cx 1, .object RX5), (cx 2, .long), (cx 3, .byte), (ca 1, .int), (ca 2, .int), (ca 3, .int), (ca 4, .int), (ca 5, .long), (ca 6, .long), (ca 13, .int), (ca 14, .long), (co, .long)] s) (hP : va_P (dC, dI) vwCl [(h0, .inr (10, xF hm h1 h2 h3 0 0 1000)), (hm, .inr (5, [.int 0, .int 0])), (h1, .inl (cx 1, 24, .inr (.inr (.inr (.inr (fun _ => none)))))), (h2, .inl (cx 2, 100, .inr (.inl (fun _ => 0)))), (h3, .inl (cx 3, 100, .inl (fun _ => 0))), (g0, .inr (11, mF a 0 0 1000 0)), (a 1, .inl (ca 1, 24, .inl (fun _ => 0))), (a 2, .inl (ca 2, 24, .inl (fun _ => 0))), (a 3, .inl (ca 3, 24, .inl (fun _ => 0))), (a 4, .inl (ca 4, 24, .inl (fun _ => 0))), (a 5, .inl (ca 5, 24, .inr (.inl (fun _ => 0)))), (a 6, .inl (ca 6, 24, .inr (.inl (fun _ => 0)))), (a 13, .inl (ca 13, 100, .inl (fun _ => 0))), (a 14, .inl (ca 14, 100, .inr (.inl (fun _ => 0)))), (ho, .inl (co, 1, .inr (.inl (fun _ => 0))))] H) (hD : va_D (lA s) [(h0, .inr (10, xF hm h1 h2 h3 0 0 1000)), (hm, .inr (5, [.int 0, .int 0])), (h1, .inl (cx 1, 24, .inr (.inr (.inr (.inr (fun _ => none)))))), (h2, .inl (cx 2, 100, .inr (.inl (fun _ => 0)))), (h3, .inl (cx 3, 100, .inl (fun _ => 0))), (g0, .inr (11, mF a 0 0 1000 0)), (a 1, .inl (ca 1, 24, .inl (fun _ => 0))), (a 2, .inl (ca 2, 24, .inl (fun _ => 0))), (a 3, .inl (ca 3, 24, .inl (fun _ => 0))), (a 4, .inl (ca 4, 24, .inl (fun _ => 0))), (a 5, .inl (ca 5, 24, .inr (.inl (fun _ => 0)))), (a 6, .inl (ca 6, 24, .inr (.inl (fun _ => 0)))), (a 13, .inl (ca 13, 100, .inl (fun _ => 0))), (a 14, .inl (ca 14, 100, .inr (.inl (fun _ => 0)))), (ho, .inl (co, 1, .inr (.inl (fun _ => 0))))]) (hS : va_S (lA s) s.heap H locs) {ls : Array Slot} (hl : lv_has ls 8 [(4, .int 0), (3, .ref ho), (2, .ref g0), (1, .ref h0), (0, .ref b)]) : W p l e room_1 s m #[Value.ref b] below meth c H locs 23 78342 (lw_Z below #[Value.ref b] s) (F0 m 164 ls []) := by
  obtain ⟨hx, hb, hr, hml, hown, hts0, hX, hbl, hlocks, hgv⟩ := C0
  have hts := hts0
  have hcl := hts0 _ law_cl
  have hA : ∀ q : Nat, s.heap.size ≤ q → lA s q := fun _ h => h
  have hbA : ¬ lA s b := Nat.not_le.mpr hbl
  refine lv_aload_n hx hb dL_law_164 rfl (lv_at hl 3 rfl) ?_
  refine lv_aload_n hx hb dL_law_165 rfl (lv_at hl 4 rfl) ?_
  refine lv_iload hx hb dL_law_166 (lv_at hl 0 rfl) ?_
  refine lv_iconst (v := 1) hx hb dL_law_168 (by decide) ?_
  refine lv_iadd hx hb dL_law_169 ?_
  refine lv_topi (fun z_1 ez_1 => ?_)
  obtain rfl : z_1 = 1 := ez_1.trans (by decide)
  refine va_sld hx hb hX hbl hbA hS (nd_in (i := 1) (n := 6) (by decide)) dL_law_170 ?_
  refine lv_i2l hx hb dL_law_171 rfl ?_
  refine lv_bipush (v := 32) hx hb dL_law_172 (by decide) ?_
  refine lv_lshl hx hb dL_law_174 rfl ?_
  refine lv_aload_n hx hb dL_law_175 rfl (lv_at hl 4 rfl) ?_
  refine lv_iload hx hb dL_law_176 (lv_at hl 0 rfl) ?_
  refine lv_iconst (v := 2) hx hb dL_law_178 (by decide) ?_
  refine lv_iadd hx hb dL_law_179 ?_
  refine lv_topi (fun z_2 ez_2 => ?_)
  obtain rfl : z_2 = 2 := ez_2.trans (by decide)
  refine va_sld hx hb hX hbl hbA hS (nd_in (i := 2) (n := 6) (by decide)) dL_law_180 ?_
  refine lv_i2l hx hb dL_law_181 rfl ?_
  refine lv_ldc2 (v := 4294967295) hx hb hown hcl dL_law_182 ?_
  refine lv_land hx hb dL_law_185 ?_
  refine lv_lor hx hb dL_law_186 ?_
  refine lv_topl (fun z_3 ez_3 => ?_)
  refine lv_aload_n hx hb dL_law_187 rfl (lv_at hl 1 rfl) ?_
  have hPc := hP.sub (ws' := [(h0, .inr (10, xF hm h1 h2 h3 0 0 1000)), (h2, .inl (cx 2, 100, .inr (.inl (fun _ => 0)))), (h3, .inl (cx 3, 100, .inl (fun _ => 0))), (ho, .inl (co, 1, .inr (.inl (fun _ => 0))))]) [0, 3, 4, 14] rfl
  have hDc := hD.sub (ws' := [(h0, .inr (10, xF hm h1 h2 h3 0 0 1000)), (h2, .inl (cx 2, 100, .inr (.inl (fun _ => 0)))), (h3, .inl (cx 3, 100, .inl (fun _ => 0))), (ho, .inl (co, 1, .inr (.inl (fun _ => 0))))]) [0, 3, 4, 14] (by decide) rfl
  have hKc := hK.sub (tys' := [(cx 2, .long), (cx 3, .byte), (co, .long)]) [1, 2, 11] rfl
  have hFc := va_free (wc := [(h0, .inr (10, xF hm h1 h2 h3 0 0 1000)), (h2, .inl (cx 2, 100, .inr (.inl (fun _ => 0)))), (h3, .inl (cx 3, 100, .inl (fun _ => 0))), (ho, .inl (co, 1, .inr (.inl (fun _ => 0))))]) hD hS hA [0, 3, 4, 14] rfl
  refine va_calli (vx_runSW (As := [.ref h0, .long z_3, .ref ho]) (rest := []) ⟨hx, hb, hml, hown, hts⟩ (c_L_put l hl0 dC dI h0 hm h1 h2 h3 (cx 2) (fun _ => 0) (cx 3) (fun _ => 0) z_3 ho co (fun _ => 0) H.size) (vx_cwSW 3 hts tL_law_L_put rfl rfl rfl (by decide +kernel) ⟨Nat.le_of_ble_eq_true rfl, Nat.le_of_ble_eq_true rfl⟩) ⟨fun a U g mk q => by obtain ⟨q0, q1, qP, qK, qD, qG, qZ⟩ := q; exact ⟨q0, q1, qP, va_K.moved (u := U) (U := U.calling g mk a) (Vm.Alike.refl U.vm) qK, qD, Gw.same (u := U) (U := U.calling g mk a) rfl qG, Gz.moved (u := U) (U := U.calling g mk a) (Vm.Alike.refl U.vm) qZ⟩, fun U hU hW => ⟨rfl, by rw [hU], by rw [hU]; exact hPc, va_K.moved hW.alike hKc, hDc.weaken (fun _ _ _ _ => trivial), Gw.warm hW hG, Gz.step hZ hS hFc hU hW.alike⟩⟩ rfl rfl hl.1 rfl (lv_room (Nat.le_of_ble_eq_true rfl)) dL_law_188 ⟨Nat.le_of_ble_eq_true rfl, Nat.le_of_ble_eq_true rfl⟩) hS (fun q _ h => hFc q h) hFc (fun r_4 u_5 t H1 locs ht hvm hw hB hz1 hk1 hS => ?_)
  obtain ⟨hP1, hK1, hD1⟩ := hB
  rw [ht] at hP1
  have hK1 := va_K.moved hvm.symm hK1
  have hK := hK.app hK1
  obtain ⟨hP, hD⟩ := va_join (wr := [(hm, .inr (5, [.int 0, .int 0])), (h1, .inl (cx 1, 24, .inr (.inr (.inr (.inr (fun _ => none)))))), (g0, .inr (11, mF a 0 0 1000 0)), (a 1, .inl (ca 1, 24, .inl (fun _ => 0))), (a 2, .inl (ca 2, 24, .inl (fun _ => 0))), (a 3, .inl (ca 3, 24, .inl (fun _ => 0))), (a 4, .inl (ca 4, 24, .inl (fun _ => 0))), (a 5, .inl (ca 5, 24, .inr (.inl (fun _ => 0)))), (a 6, .inl (ca 6, 24, .inr (.inl (fun _ => 0)))), (a 13, .inl (ca 13, 100, .inl (fun _ => 0))), (a 14, .inl (ca 14, 100, .inr (.inl (fun _ => 0))))]) (w1 := [(ho, .inl (co, 1, .inr (.inl (u_5))))]) hP hD [0, 3, 4, 14] [1, 2, 5, 6, 7, 8, 9, 10, 11, 12, 13] rfl rfl (by decide) (by decide) hk1 hFc hP1 hD1
  generalize H1 = H at hP hS ⊢
  have hP : va_P (dC, dI) vwCl [(hm, .inr (5, [.int 0, .int 0])), (h1, .inl (cx 1, 24, .inr (.inr (.inr (.inr (fun _ => none)))))), (g0, .inr (11, mF a 0 0 1000 0)), (a 1, .inl (ca 1, 24, .inl (fun _ => 0))), (a 2, .inl (ca 2, 24, .inl (fun _ => 0))), (a 3, .inl (ca 3, 24, .inl (fun _ => 0))), (a 4, .inl (ca 4, 24, .inl (fun _ => 0))), (a 5, .inl (ca 5, 24, .inr (.inl (fun _ => 0)))), (a 6, .inl (ca 6, 24, .inr (.inl (fun _ => 0)))), (a 13, .inl (ca 13, 100, .inl (fun _ => 0))), (a 14, .inl (ca 14, 100, .inr (.inl (fun _ => 0)))), (ho, .inl (co, 1, .inr (.inl (u_5))))] H := hP
  have hD : va_D (lA s) [(hm, .inr (5, [.int 0, .int 0])), (h1, .inl (cx 1, 24, .inr (.inr (.inr (.inr (fun _ => none)))))), (g0, .inr (11, mF a 0 0 1000 0)), (a 1, .inl (ca 1, 24, .inl (fun _ => 0))), (a 2, .inl (ca 2, 24, .inl (fun _ => 0))), (a 3, .inl (ca 3, 24, .inl (fun _ => 0))), (a 4, .inl (ca 4, 24, .inl (fun _ => 0))), (a 5, .inl (ca 5, 24, .inr (.inl (fun _ => 0)))), (a 6, .inl (ca 6, 24, .inr (.inl (fun _ => 0)))), (a 13, .inl (ca 13, 100, .inl (fun _ => 0))), (a 14, .inl (ca 14, 100, .inr (.inl (fun _ => 0)))), (ho, .inl (co, 1, .inr (.inl (u_5))))] := hD
  have hK : va_K (dC, dI) vwCl [(cx 1, .object RX5), (cx 2, .long), (cx 3, .byte), (ca 1, .int), (ca 2, .int), (ca 3, .int), (ca 4, .int), (ca 5, .long), (ca 6, .long), (ca 13, .int), (ca 14, .long), (co, .long), (co, .long)] s := hK
  refine W.widen (k := 23) (n := 78342) (by decide +kernel) (by decide +kernel) ?_
  obtain ⟨rfl, hv_6⟩ := hw
  refine lv_istore (lv' := [(5, .int 0), (4, .int 0), (3, .ref ho), (2, .ref g0), (1, .ref h0), (0, .ref b)]) hx hb dL_law_191 hl (by decide) rfl (fun ls hl => ?_)
  refine lv_aload_n hx hb dL_law_193 rfl (lv_at hl 3 rfl) ?_
  refine lv_aload_n hx hb dL_law_194 rfl (lv_at hl 5 rfl) ?_
  refine lv_iload hx hb dL_law_195 (lv_at hl 1 rfl) ?_
  refine lv_iconst (v := 1) hx hb dL_law_197 (by decide) ?_
  refine lv_iadd hx hb dL_law_198 ?_
  refine lv_topi (fun z_7 ez_7 => ?_)
  obtain rfl : z_7 = 1 := ez_7.trans (by decide)
  refine va_sld hx hb hX hbl hbA hS (nd_in (i := 1) (n := 6) (by decide)) dL_law_199 ?_
  refine lv_i2l hx hb dL_law_200 rfl ?_
  refine lv_bipush (v := 32) hx hb dL_law_201 (by decide) ?_
  refine lv_lshl hx hb dL_law_203 rfl ?_
  refine lv_aload_n hx hb dL_law_204 rfl (lv_at hl 5 rfl) ?_
  refine lv_iload hx hb dL_law_205 (lv_at hl 1 rfl) ?_
  refine lv_iconst (v := 2) hx hb dL_law_207 (by decide) ?_
  refine lv_iadd hx hb dL_law_208 ?_
  refine lv_topi (fun z_8 ez_8 => ?_)
  obtain rfl : z_8 = 2 := ez_8.trans (by decide)
  refine va_sld hx hb hX hbl hbA hS (nd_in (i := 2) (n := 6) (by decide)) dL_law_209 ?_
  refine lv_i2l hx hb dL_law_210 rfl ?_
  refine lv_ldc2 (v := 4294967295) hx hb hown hcl dL_law_211 ?_
  refine lv_land hx hb dL_law_214 ?_
  refine lv_lor hx hb dL_law_215 ?_
  refine lv_topl (fun z_9 ez_9 => ?_)
  have hPc := hP.sub (ws' := [(g0, .inr (11, mF a 0 0 1000 0)), (a 13, .inl (ca 13, 100, .inl (fun _ => 0))), (a 14, .inl (ca 14, 100, .inr (.inl (fun _ => 0))))]) [2, 9, 10] rfl
  have hDc := hD.sub (ws' := [(g0, .inr (11, mF a 0 0 1000 0)), (a 13, .inl (ca 13, 100, .inl (fun _ => 0))), (a 14, .inl (ca 14, 100, .inr (.inl (fun _ => 0))))]) [2, 9, 10] (by decide) rfl
  have hKc := hK.sub (tys' := [(ca 13, .int), (ca 14, .long)]) [9, 10] rfl
  have hFc := va_free (wc := [(g0, .inr (11, mF a 0 0 1000 0)), (a 13, .inl (ca 13, 100, .inl (fun _ => 0))), (a 14, .inl (ca 14, 100, .inr (.inl (fun _ => 0))))]) hD hS hA [2, 9, 10] rfl
  refine va_calli (va_runV (As := [.long z_9]) (rest := []) ⟨hx, hb, hml, hown, hts⟩ (c_X12_put l dC dI a g0 ca (fun _ => 0) (fun _ => 0) z_9 H.size) (cwV 1 hts tL_law_X12_put rfl rfl rfl (by decide +kernel) ⟨Nat.le_of_ble_eq_true rfl, Nat.le_of_ble_eq_true rfl⟩) ⟨fun a U g mk q => by obtain ⟨q0, q1, qP, qK, qD⟩ := q; exact ⟨q0, q1, qP, va_K.moved (u := U) (U := U.calling g mk a) (Vm.Alike.refl U.vm) qK, qD⟩, va_recv hKc hPc (ci := 11) (q0 := 0) rfl rfl, fun U hU hW => ⟨rfl, by rw [hU], by rw [hU]; exact hPc, va_K.moved hW.alike hKc, hDc.weaken (fun _ _ _ _ => trivial)⟩⟩ rfl rfl hl.1 rfl (lv_room (Nat.le_of_ble_eq_true rfl)) dL_law_216 ⟨Nat.le_of_ble_eq_true rfl, Nat.le_of_ble_eq_true rfl⟩) hS (fun q _ h => hFc q h) hFc (fun r_10 u_11 t H1 locs ht hvm hw hB hz1 hk1 hS => ?_)
  obtain ⟨ul_12, um_13, up_14, ut_15⟩ := u_11
  dsimp only at hw
  obtain ⟨hP1, hK1, hD1⟩ := hB
  rw [ht] at hP1
  have hK1 := va_K.moved hvm.symm hK1
  have hK := hK.app hK1
  obtain ⟨hP, hD⟩ := va_join (wr := [(hm, .inr (5, [.int 0, .int 0])), (h1, .inl (cx 1, 24, .inr (.inr (.inr (.inr (fun _ => none)))))), (a 1, .inl (ca 1, 24, .inl (fun _ => 0))), (a 2, .inl (ca 2, 24, .inl (fun _ => 0))), (a 3, .inl (ca 3, 24, .inl (fun _ => 0))), (a 4, .inl (ca 4, 24, .inl (fun _ => 0))), (a 5, .inl (ca 5, 24, .inr (.inl (fun _ => 0)))), (a 6, .inl (ca 6, 24, .inr (.inl (fun _ => 0)))), (ho, .inl (co, 1, .inr (.inl (u_5))))]) (w1 := [(g0, .inr (11, mF a ul_12 um_13 up_14 ut_15))]) hP hD [2, 9, 10] [0, 1, 3, 4, 5, 6, 7, 8, 11] rfl rfl (by decide) (by decide) hk1 hFc hP1 hD1
  generalize H1 = H at hP hS ⊢
  have hP : va_P (dC, dI) vwCl [(hm, .inr (5, [.int 0, .int 0])), (h1, .inl (cx 1, 24, .inr (.inr (.inr (.inr (fun _ => none)))))), (a 1, .inl (ca 1, 24, .inl (fun _ => 0))), (a 2, .inl (ca 2, 24, .inl (fun _ => 0))), (a 3, .inl (ca 3, 24, .inl (fun _ => 0))), (a 4, .inl (ca 4, 24, .inl (fun _ => 0))), (a 5, .inl (ca 5, 24, .inr (.inl (fun _ => 0)))), (a 6, .inl (ca 6, 24, .inr (.inl (fun _ => 0)))), (ho, .inl (co, 1, .inr (.inl (u_5)))), (g0, .inr (11, mF a ul_12 um_13 up_14 ut_15))] H := hP
  have hD : va_D (lA s) [(hm, .inr (5, [.int 0, .int 0])), (h1, .inl (cx 1, 24, .inr (.inr (.inr (.inr (fun _ => none)))))), (a 1, .inl (ca 1, 24, .inl (fun _ => 0))), (a 2, .inl (ca 2, 24, .inl (fun _ => 0))), (a 3, .inl (ca 3, 24, .inl (fun _ => 0))), (a 4, .inl (ca 4, 24, .inl (fun _ => 0))), (a 5, .inl (ca 5, 24, .inr (.inl (fun _ => 0)))), (a 6, .inl (ca 6, 24, .inr (.inl (fun _ => 0)))), (ho, .inl (co, 1, .inr (.inl (u_5)))), (g0, .inr (11, mF a ul_12 um_13 up_14 ut_15))] := hD
  have hK : va_K (dC, dI) vwCl [(cx 1, .object RX5), (cx 2, .long), (cx 3, .byte), (ca 1, .int), (ca 2, .int), (ca 3, .int), (ca 4, .int), (ca 5, .long), (ca 6, .long), (ca 13, .int), (ca 14, .long), (co, .long), (co, .long)] s := hK
  refine W.widen (k := 23) (n := 78342) (by decide +kernel) (by decide +kernel) ?_
  obtain ⟨rfl, hv_16⟩ := hw
  obtain rfl : r_10 = 1 := hv_16 rfl
  refine lv_istore (lv' := [(6, .int 1), (5, .int 0), (4, .int 0), (3, .ref ho), (2, .ref g0), (1, .ref h0), (0, .ref b)]) hx hb dL_law_219 hl (by decide) rfl (fun ls hl => ?_)
  refine lv_aload_n hx hb dL_law_221 rfl (lv_at hl 4 rfl) ?_
  have hPc := hP.sub (ws' := [(g0, .inr (11, mF a ul_12 um_13 up_14 0))]) [9] rfl
  have hDc : va_D (fun _ => True) ([] : va_W) := nd_0
  have hKc := hK.sub (tys' := []) [] rfl
  have hFc := va_free (wc := []) hD hS hA [] rfl
  refine va_calli (va_runV (As := []) (rest := []) ⟨hx, hb, hml, hown, hts⟩ (c_X12_thrown l dC dI a g0 ul_12 um_13 up_14 0 H.size) (cwV 0 hts tL_law_X12_thrown rfl rfl rfl (by decide +kernel) ⟨Nat.le_of_ble_eq_true rfl, Nat.le_of_ble_eq_true rfl⟩) ⟨fun a U g mk q => by obtain ⟨q0, q1, qP, qK, qD⟩ := q; exact ⟨q0, q1, qP, va_K.moved (u := U) (U := U.calling g mk a) (Vm.Alike.refl U.vm) qK, qD⟩, va_recv hKc hPc (ci := 11) (q0 := 0) rfl rfl, fun U hU hW => ⟨rfl, by rw [hU], by rw [hU]; exact hPc, va_K.moved hW.alike hKc, nd_0⟩⟩ rfl rfl hl.1 rfl (lv_room (Nat.le_of_ble_eq_true rfl)) dL_law_222 ⟨Nat.le_of_ble_eq_true rfl, Nat.le_of_ble_eq_true rfl⟩) hS (fun q _ h => hFc q h) hFc (fun r_17 u_18 t H1 locs ht hvm hw hB hz1 hk1 hS => ?_)
  have hP := nd_keep hP hk1
  generalize H1 = H at hP hS ⊢
  have hP : va_P (dC, dI) vwCl [(hm, .inr (5, [.int 0, .int 0])), (h1, .inl (cx 1, 24, .inr (.inr (.inr (.inr (fun _ => none)))))), (a 1, .inl (ca 1, 24, .inl (fun _ => 0))), (a 2, .inl (ca 2, 24, .inl (fun _ => 0))), (a 3, .inl (ca 3, 24, .inl (fun _ => 0))), (a 4, .inl (ca 4, 24, .inl (fun _ => 0))), (a 5, .inl (ca 5, 24, .inr (.inl (fun _ => 0)))), (a 6, .inl (ca 6, 24, .inr (.inl (fun _ => 0)))), (ho, .inl (co, 1, .inr (.inl (u_5)))), (g0, .inr (11, mF a ul_12 um_13 up_14 0))] H := hP
  have hD : va_D (lA s) [(hm, .inr (5, [.int 0, .int 0])), (h1, .inl (cx 1, 24, .inr (.inr (.inr (.inr (fun _ => none)))))), (a 1, .inl (ca 1, 24, .inl (fun _ => 0))), (a 2, .inl (ca 2, 24, .inl (fun _ => 0))), (a 3, .inl (ca 3, 24, .inl (fun _ => 0))), (a 4, .inl (ca 4, 24, .inl (fun _ => 0))), (a 5, .inl (ca 5, 24, .inr (.inl (fun _ => 0)))), (a 6, .inl (ca 6, 24, .inr (.inl (fun _ => 0)))), (ho, .inl (co, 1, .inr (.inl (u_5)))), (g0, .inr (11, mF a ul_12 um_13 up_14 0))] := hD
  refine W.widen (k := 23) (n := 78342) (by decide +kernel) (by decide +kernel) ?_
  obtain rfl : r_17 = 0 := hw
  refine lv_iload hx hb dL_law_225 (lv_at hl 1 rfl) ?_
  refine lv_icmp_eq (tgt := 232) hx hb dL_law_227 (by decide) (fun c_227 => ?_) (fun c_227 => ?_)
  · refine lv_iload hx hb dL_law_232 (lv_at hl 1 rfl) ?_
    refine lv_if_ne (tgt := 249) hx hb dL_law_234 (by decide) (fun c_234 => ?_) (fun c_234 => ?_)
    · exact absurd c_234 (by decide)
    · refine lv_aload_n hx hb dL_law_237 rfl (lv_at hl 3 rfl) ?_
      refine lv_iconst (v := 0) hx hb dL_law_238 (by decide) ?_
      refine va_lald hx hb hK hP 8 11 rfl rfl (nd_in (i := 0) (n := 1) (by decide)) dL_law_239 ?_
      refine lv_iload hx hb dL_law_240 (lv_at hl 0 rfl) ?_
      refine lv_i2l (v := 1) hx hb dL_law_242 (by decide) ?_
      refine W.lcmp hx hb dL_law_243 ?_
      refine lv_if_eq (tgt := 249) hx hb dL_law_244 (by decide) (fun c_244 => ?_) (fun c_244 => ?_)
      · refine lv_goto (tgt := 2206) hx hb dL_law_249 (by decide) ?_
        refine W.widen (k := 100) (n := 200000) (by decide +kernel) (by decide +kernel) ?_
        exact law_end l hx hb hr hlocks hX hbl hbA hS (lv_sub hl [2, 6] rfl)
      · exact absurd (lcmp0 (hv_6 rfl)) c_244
  · exact absurd c_227 (by decide)
set_option maxHeartbeats 4000000 in
set_option maxRecDepth 100000 in
theorem law_case_1 {p : Program} {e : Env} {s : State} {m : MethodId} {below : List Frame} {meth : Method} {c : Code} (l : Launch) (hl0 : l.stackTraces = false) {b : Nat} {xs : Nat → Int32} (C0 : lw_At p s m meth c b 6 xs) (hG : Gw s) (hZ : Gz (lA s) s s.heap) {dC : Nat → ClassId} {dI : Nat → Nat → Nat} {h0 hm h1 h2 h3 g0 ho : Nat} {a : Nat → Nat} {ca cx : Nat → ClassId} {co : ClassId} {H : Heap} {locs : List Loc} (hK : va_K (dC, dI) vwCl [(cx 1, .object RX5), (cx 2, .long), (cx 3, .byte), (ca 1, .int), (ca 2, .int), (ca 3, .int), (ca 4, .int), (ca 5, .long), (ca 6, .long), (ca 13, .int), (ca 14, .long), (co, .long)] s) (hP : va_P (dC, dI) vwCl [(h0, .inr (10, xF hm h1 h2 h3 0 0 1000)), (hm, .inr (5, [.int 0, .int 0])), (h1, .inl (cx 1, 24, .inr (.inr (.inr (.inr (fun _ => none)))))), (h2, .inl (cx 2, 100, .inr (.inl (fun _ => 0)))), (h3, .inl (cx 3, 100, .inl (fun _ => 0))), (g0, .inr (11, mF a 0 0 1000 0)), (a 1, .inl (ca 1, 24, .inl (fun _ => 0))), (a 2, .inl (ca 2, 24, .inl (fun _ => 0))), (a 3, .inl (ca 3, 24, .inl (fun _ => 0))), (a 4, .inl (ca 4, 24, .inl (fun _ => 0))), (a 5, .inl (ca 5, 24, .inr (.inl (fun _ => 0)))), (a 6, .inl (ca 6, 24, .inr (.inl (fun _ => 0)))), (a 13, .inl (ca 13, 100, .inl (fun _ => 0))), (a 14, .inl (ca 14, 100, .inr (.inl (fun _ => 0)))), (ho, .inl (co, 1, .inr (.inl (fun _ => 0))))] H) (hD : va_D (lA s) [(h0, .inr (10, xF hm h1 h2 h3 0 0 1000)), (hm, .inr (5, [.int 0, .int 0])), (h1, .inl (cx 1, 24, .inr (.inr (.inr (.inr (fun _ => none)))))), (h2, .inl (cx 2, 100, .inr (.inl (fun _ => 0)))), (h3, .inl (cx 3, 100, .inl (fun _ => 0))), (g0, .inr (11, mF a 0 0 1000 0)), (a 1, .inl (ca 1, 24, .inl (fun _ => 0))), (a 2, .inl (ca 2, 24, .inl (fun _ => 0))), (a 3, .inl (ca 3, 24, .inl (fun _ => 0))), (a 4, .inl (ca 4, 24, .inl (fun _ => 0))), (a 5, .inl (ca 5, 24, .inr (.inl (fun _ => 0)))), (a 6, .inl (ca 6, 24, .inr (.inl (fun _ => 0)))), (a 13, .inl (ca 13, 100, .inl (fun _ => 0))), (a 14, .inl (ca 14, 100, .inr (.inl (fun _ => 0)))), (ho, .inl (co, 1, .inr (.inl (fun _ => 0))))]) (hS : va_S (lA s) s.heap H locs) {ls : Array Slot} (hl : lv_has ls 8 [(4, .int 0), (3, .ref ho), (2, .ref g0), (1, .ref h0), (0, .ref b)]) : W p l e room_1 s m #[Value.ref b] below meth c H locs 23 78342 (lw_Z below #[Value.ref b] s) (F0 m 252 ls []) := by
  obtain ⟨hx, hb, hr, hml, hown, hts0, hX, hbl, hlocks, hgv⟩ := C0
  have hts := hts0
  have hcl := hts0 _ law_cl
  have hA : ∀ q : Nat, s.heap.size ≤ q → lA s q := fun _ h => h
  have hbA : ¬ lA s b := Nat.not_le.mpr hbl
  refine lv_aload_n hx hb dL_law_252 rfl (lv_at hl 3 rfl) ?_
  refine lv_aload_n hx hb dL_law_253 rfl (lv_at hl 4 rfl) ?_
  refine lv_iload hx hb dL_law_254 (lv_at hl 0 rfl) ?_
  refine lv_iconst (v := 1) hx hb dL_law_256 (by decide) ?_
  refine lv_iadd hx hb dL_law_257 ?_
  refine lv_topi (fun z_1 ez_1 => ?_)
  obtain rfl : z_1 = 1 := ez_1.trans (by decide)
  refine va_sld hx hb hX hbl hbA hS (nd_in (i := 1) (n := 6) (by decide)) dL_law_258 ?_
  refine lv_aload_n hx hb dL_law_259 rfl (lv_at hl 1 rfl) ?_
  have hPc := hP.sub (ws' := [(h0, .inr (10, xF hm h1 h2 h3 0 0 1000)), (h2, .inl (cx 2, 100, .inr (.inl (fun _ => 0)))), (h3, .inl (cx 3, 100, .inl (fun _ => 0))), (ho, .inl (co, 1, .inr (.inl (fun _ => 0))))]) [0, 3, 4, 14] rfl
  have hDc := hD.sub (ws' := [(h0, .inr (10, xF hm h1 h2 h3 0 0 1000)), (h2, .inl (cx 2, 100, .inr (.inl (fun _ => 0)))), (h3, .inl (cx 3, 100, .inl (fun _ => 0))), (ho, .inl (co, 1, .inr (.inl (fun _ => 0))))]) [0, 3, 4, 14] (by decide) rfl
  have hKc := hK.sub (tys' := [(cx 2, .long), (cx 3, .byte), (co, .long)]) [1, 2, 11] rfl
  have hFc := va_free (wc := [(h0, .inr (10, xF hm h1 h2 h3 0 0 1000)), (h2, .inl (cx 2, 100, .inr (.inl (fun _ => 0)))), (h3, .inl (cx 3, 100, .inl (fun _ => 0))), (ho, .inl (co, 1, .inr (.inl (fun _ => 0))))]) hD hS hA [0, 3, 4, 14] rfl
  refine va_calli (vx_runSW (As := [.ref h0, .int (xs (1 : Int32).toNatClampNeg), .ref ho]) (rest := []) ⟨hx, hb, hml, hown, hts⟩ (c_L_hole l hl0 dC dI h0 hm h1 h2 h3 (cx 2) (fun _ => 0) (cx 3) (fun _ => 0) (xs (1 : Int32).toNatClampNeg) ho co (fun _ => 0) H.size) (vx_cwSW 3 hts tL_law_L_hole rfl rfl rfl (by decide +kernel) ⟨Nat.le_of_ble_eq_true rfl, Nat.le_of_ble_eq_true rfl⟩) ⟨fun a U g mk q => by obtain ⟨q0, q1, qP, qK, qD, qG, qZ⟩ := q; exact ⟨q0, q1, qP, va_K.moved (u := U) (U := U.calling g mk a) (Vm.Alike.refl U.vm) qK, qD, Gw.same (u := U) (U := U.calling g mk a) rfl qG, Gz.moved (u := U) (U := U.calling g mk a) (Vm.Alike.refl U.vm) qZ⟩, fun U hU hW => ⟨rfl, by rw [hU], by rw [hU]; exact hPc, va_K.moved hW.alike hKc, hDc.weaken (fun _ _ _ _ => trivial), Gw.warm hW hG, Gz.step hZ hS hFc hU hW.alike⟩⟩ rfl rfl hl.1 rfl (lv_room (Nat.le_of_ble_eq_true rfl)) dL_law_260 ⟨Nat.le_of_ble_eq_true rfl, Nat.le_of_ble_eq_true rfl⟩) hS (fun q _ h => hFc q h) hFc (fun r_2 u_3 t H1 locs ht hvm hw hB hz1 hk1 hS => ?_)
  obtain ⟨hP1, hK1, hD1⟩ := hB
  rw [ht] at hP1
  have hK1 := va_K.moved hvm.symm hK1
  have hK := hK.app hK1
  obtain ⟨hP, hD⟩ := va_join (wr := [(hm, .inr (5, [.int 0, .int 0])), (h1, .inl (cx 1, 24, .inr (.inr (.inr (.inr (fun _ => none)))))), (g0, .inr (11, mF a 0 0 1000 0)), (a 1, .inl (ca 1, 24, .inl (fun _ => 0))), (a 2, .inl (ca 2, 24, .inl (fun _ => 0))), (a 3, .inl (ca 3, 24, .inl (fun _ => 0))), (a 4, .inl (ca 4, 24, .inl (fun _ => 0))), (a 5, .inl (ca 5, 24, .inr (.inl (fun _ => 0)))), (a 6, .inl (ca 6, 24, .inr (.inl (fun _ => 0)))), (a 13, .inl (ca 13, 100, .inl (fun _ => 0))), (a 14, .inl (ca 14, 100, .inr (.inl (fun _ => 0))))]) (w1 := [(ho, .inl (co, 1, .inr (.inl (u_3))))]) hP hD [0, 3, 4, 14] [1, 2, 5, 6, 7, 8, 9, 10, 11, 12, 13] rfl rfl (by decide) (by decide) hk1 hFc hP1 hD1
  generalize H1 = H at hP hS ⊢
  have hP : va_P (dC, dI) vwCl [(hm, .inr (5, [.int 0, .int 0])), (h1, .inl (cx 1, 24, .inr (.inr (.inr (.inr (fun _ => none)))))), (g0, .inr (11, mF a 0 0 1000 0)), (a 1, .inl (ca 1, 24, .inl (fun _ => 0))), (a 2, .inl (ca 2, 24, .inl (fun _ => 0))), (a 3, .inl (ca 3, 24, .inl (fun _ => 0))), (a 4, .inl (ca 4, 24, .inl (fun _ => 0))), (a 5, .inl (ca 5, 24, .inr (.inl (fun _ => 0)))), (a 6, .inl (ca 6, 24, .inr (.inl (fun _ => 0)))), (a 13, .inl (ca 13, 100, .inl (fun _ => 0))), (a 14, .inl (ca 14, 100, .inr (.inl (fun _ => 0)))), (ho, .inl (co, 1, .inr (.inl (u_3))))] H := hP
  have hD : va_D (lA s) [(hm, .inr (5, [.int 0, .int 0])), (h1, .inl (cx 1, 24, .inr (.inr (.inr (.inr (fun _ => none)))))), (g0, .inr (11, mF a 0 0 1000 0)), (a 1, .inl (ca 1, 24, .inl (fun _ => 0))), (a 2, .inl (ca 2, 24, .inl (fun _ => 0))), (a 3, .inl (ca 3, 24, .inl (fun _ => 0))), (a 4, .inl (ca 4, 24, .inl (fun _ => 0))), (a 5, .inl (ca 5, 24, .inr (.inl (fun _ => 0)))), (a 6, .inl (ca 6, 24, .inr (.inl (fun _ => 0)))), (a 13, .inl (ca 13, 100, .inl (fun _ => 0))), (a 14, .inl (ca 14, 100, .inr (.inl (fun _ => 0)))), (ho, .inl (co, 1, .inr (.inl (u_3))))] := hD
  have hK : va_K (dC, dI) vwCl [(cx 1, .object RX5), (cx 2, .long), (cx 3, .byte), (ca 1, .int), (ca 2, .int), (ca 3, .int), (ca 4, .int), (ca 5, .long), (ca 6, .long), (ca 13, .int), (ca 14, .long), (co, .long), (co, .long)] s := hK
  refine W.widen (k := 24) (n := 78348) (by decide +kernel) (by decide +kernel) ?_
  obtain ⟨rfl, hv_4⟩ := hw
  refine lv_istore (lv' := [(5, .int (kHole (xs (1 : Int32).toNatClampNeg))), (4, .int 0), (3, .ref ho), (2, .ref g0), (1, .ref h0), (0, .ref b)]) hx hb dL_law_263 hl (by decide) rfl (fun ls hl => ?_)
  refine lv_aload_n hx hb dL_law_265 rfl (lv_at hl 3 rfl) ?_
  refine lv_aload_n hx hb dL_law_266 rfl (lv_at hl 5 rfl) ?_
  refine lv_iload hx hb dL_law_267 (lv_at hl 1 rfl) ?_
  refine lv_iconst (v := 1) hx hb dL_law_269 (by decide) ?_
  refine lv_iadd hx hb dL_law_270 ?_
  refine lv_topi (fun z_5 ez_5 => ?_)
  obtain rfl : z_5 = 1 := ez_5.trans (by decide)
  refine va_sld hx hb hX hbl hbA hS (nd_in (i := 1) (n := 6) (by decide)) dL_law_271 ?_
  have hPc := hP.sub (ws' := [(g0, .inr (11, mF a 0 0 1000 0)), (a 13, .inl (ca 13, 100, .inl (fun _ => 0)))]) [2, 9] rfl
  have hDc := hD.sub (ws' := [(g0, .inr (11, mF a 0 0 1000 0)), (a 13, .inl (ca 13, 100, .inl (fun _ => 0)))]) [2, 9] (by decide) rfl
  have hKc := hK.sub (tys' := [(ca 13, .int)]) [9] rfl
  have hFc := va_free (wc := [(g0, .inr (11, mF a 0 0 1000 0)), (a 13, .inl (ca 13, 100, .inl (fun _ => 0)))]) hD hS hA [2, 9] rfl
  refine va_calli (va_runV (As := [.int (xs (1 : Int32).toNatClampNeg)]) (rest := []) ⟨hx, hb, hml, hown, hts⟩ (c_X12_hole l dC dI a g0 ca (fun _ => 0) (xs (1 : Int32).toNatClampNeg) H.size) (cwV 1 hts tL_law_X12_hole rfl rfl rfl (by decide +kernel) ⟨Nat.le_of_ble_eq_true rfl, Nat.le_of_ble_eq_true rfl⟩) ⟨fun a U g mk q => by obtain ⟨q0, q1, qP, qK, qD⟩ := q; exact ⟨q0, q1, qP, va_K.moved (u := U) (U := U.calling g mk a) (Vm.Alike.refl U.vm) qK, qD⟩, va_recv hKc hPc (ci := 11) (q0 := 0) rfl rfl, fun U hU hW => ⟨rfl, by rw [hU], by rw [hU]; exact hPc, va_K.moved hW.alike hKc, hDc.weaken (fun _ _ _ _ => trivial)⟩⟩ rfl rfl hl.1 rfl (lv_room (Nat.le_of_ble_eq_true rfl)) dL_law_272 ⟨Nat.le_of_ble_eq_true rfl, Nat.le_of_ble_eq_true rfl⟩) hS (fun q _ h => hFc q h) hFc (fun r_6 u_7 t H1 locs ht hvm hw hB hz1 hk1 hS => ?_)
  obtain ⟨ul_8, um_9, up_10, ut_11⟩ := u_7
  dsimp only at hw
  obtain ⟨hP1, hK1, hD1⟩ := hB
  rw [ht] at hP1
  have hK1 := va_K.moved hvm.symm hK1
  have hK := hK.app hK1
  obtain ⟨hP, hD⟩ := va_join (wr := [(hm, .inr (5, [.int 0, .int 0])), (h1, .inl (cx 1, 24, .inr (.inr (.inr (.inr (fun _ => none)))))), (a 1, .inl (ca 1, 24, .inl (fun _ => 0))), (a 2, .inl (ca 2, 24, .inl (fun _ => 0))), (a 3, .inl (ca 3, 24, .inl (fun _ => 0))), (a 4, .inl (ca 4, 24, .inl (fun _ => 0))), (a 5, .inl (ca 5, 24, .inr (.inl (fun _ => 0)))), (a 6, .inl (ca 6, 24, .inr (.inl (fun _ => 0)))), (a 14, .inl (ca 14, 100, .inr (.inl (fun _ => 0)))), (ho, .inl (co, 1, .inr (.inl (u_3))))]) (w1 := [(g0, .inr (11, mF a ul_8 um_9 up_10 ut_11))]) hP hD [2, 9] [0, 1, 3, 4, 5, 6, 7, 8, 10, 11] rfl rfl (by decide) (by decide) hk1 hFc hP1 hD1
  generalize H1 = H at hP hS ⊢
  have hP : va_P (dC, dI) vwCl [(hm, .inr (5, [.int 0, .int 0])), (h1, .inl (cx 1, 24, .inr (.inr (.inr (.inr (fun _ => none)))))), (a 1, .inl (ca 1, 24, .inl (fun _ => 0))), (a 2, .inl (ca 2, 24, .inl (fun _ => 0))), (a 3, .inl (ca 3, 24, .inl (fun _ => 0))), (a 4, .inl (ca 4, 24, .inl (fun _ => 0))), (a 5, .inl (ca 5, 24, .inr (.inl (fun _ => 0)))), (a 6, .inl (ca 6, 24, .inr (.inl (fun _ => 0)))), (a 14, .inl (ca 14, 100, .inr (.inl (fun _ => 0)))), (ho, .inl (co, 1, .inr (.inl (u_3)))), (g0, .inr (11, mF a ul_8 um_9 up_10 ut_11))] H := hP
  have hD : va_D (lA s) [(hm, .inr (5, [.int 0, .int 0])), (h1, .inl (cx 1, 24, .inr (.inr (.inr (.inr (fun _ => none)))))), (a 1, .inl (ca 1, 24, .inl (fun _ => 0))), (a 2, .inl (ca 2, 24, .inl (fun _ => 0))), (a 3, .inl (ca 3, 24, .inl (fun _ => 0))), (a 4, .inl (ca 4, 24, .inl (fun _ => 0))), (a 5, .inl (ca 5, 24, .inr (.inl (fun _ => 0)))), (a 6, .inl (ca 6, 24, .inr (.inl (fun _ => 0)))), (a 14, .inl (ca 14, 100, .inr (.inl (fun _ => 0)))), (ho, .inl (co, 1, .inr (.inl (u_3)))), (g0, .inr (11, mF a ul_8 um_9 up_10 ut_11))] := hD
  have hK : va_K (dC, dI) vwCl [(cx 1, .object RX5), (cx 2, .long), (cx 3, .byte), (ca 1, .int), (ca 2, .int), (ca 3, .int), (ca 4, .int), (ca 5, .long), (ca 6, .long), (ca 13, .int), (ca 14, .long), (co, .long), (co, .long)] s := hK
  refine W.widen (k := 24) (n := 78348) (by decide +kernel) (by decide +kernel) ?_
  obtain ⟨rfl, hv_12⟩ := hw
  refine lv_istore (lv' := [(6, .int r_6), (5, .int (kHole (xs (1 : Int32).toNatClampNeg))), (4, .int 0), (3, .ref ho), (2, .ref g0), (1, .ref h0), (0, .ref b)]) hx hb dL_law_275 hl (by decide) rfl (fun ls hl => ?_)
  refine lv_aload_n hx hb dL_law_277 rfl (lv_at hl 4 rfl) ?_
  have hPc := hP.sub (ws' := [(g0, .inr (11, mF a ul_8 um_9 up_10 (kHole (xs (1 : Int32).toNatClampNeg))))]) [10] rfl
  have hDc : va_D (fun _ => True) ([] : va_W) := nd_0
  have hKc := hK.sub (tys' := []) [] rfl
  have hFc := va_free (wc := []) hD hS hA [] rfl
  refine va_calli (va_runV (As := []) (rest := []) ⟨hx, hb, hml, hown, hts⟩ (c_X12_thrown l dC dI a g0 ul_8 um_9 up_10 (kHole (xs (1 : Int32).toNatClampNeg)) H.size) (cwV 0 hts tL_law_X12_thrown rfl rfl rfl (by decide +kernel) ⟨Nat.le_of_ble_eq_true rfl, Nat.le_of_ble_eq_true rfl⟩) ⟨fun a U g mk q => by obtain ⟨q0, q1, qP, qK, qD⟩ := q; exact ⟨q0, q1, qP, va_K.moved (u := U) (U := U.calling g mk a) (Vm.Alike.refl U.vm) qK, qD⟩, va_recv hKc hPc (ci := 11) (q0 := 0) rfl rfl, fun U hU hW => ⟨rfl, by rw [hU], by rw [hU]; exact hPc, va_K.moved hW.alike hKc, nd_0⟩⟩ rfl rfl hl.1 rfl (lv_room (Nat.le_of_ble_eq_true rfl)) dL_law_278 ⟨Nat.le_of_ble_eq_true rfl, Nat.le_of_ble_eq_true rfl⟩) hS (fun q _ h => hFc q h) hFc (fun r_13 u_14 t H1 locs ht hvm hw hB hz1 hk1 hS => ?_)
  have hP := nd_keep hP hk1
  generalize H1 = H at hP hS ⊢
  have hP : va_P (dC, dI) vwCl [(hm, .inr (5, [.int 0, .int 0])), (h1, .inl (cx 1, 24, .inr (.inr (.inr (.inr (fun _ => none)))))), (a 1, .inl (ca 1, 24, .inl (fun _ => 0))), (a 2, .inl (ca 2, 24, .inl (fun _ => 0))), (a 3, .inl (ca 3, 24, .inl (fun _ => 0))), (a 4, .inl (ca 4, 24, .inl (fun _ => 0))), (a 5, .inl (ca 5, 24, .inr (.inl (fun _ => 0)))), (a 6, .inl (ca 6, 24, .inr (.inl (fun _ => 0)))), (a 14, .inl (ca 14, 100, .inr (.inl (fun _ => 0)))), (ho, .inl (co, 1, .inr (.inl (u_3)))), (g0, .inr (11, mF a ul_8 um_9 up_10 (kHole (xs (1 : Int32).toNatClampNeg))))] H := hP
  have hD : va_D (lA s) [(hm, .inr (5, [.int 0, .int 0])), (h1, .inl (cx 1, 24, .inr (.inr (.inr (.inr (fun _ => none)))))), (a 1, .inl (ca 1, 24, .inl (fun _ => 0))), (a 2, .inl (ca 2, 24, .inl (fun _ => 0))), (a 3, .inl (ca 3, 24, .inl (fun _ => 0))), (a 4, .inl (ca 4, 24, .inl (fun _ => 0))), (a 5, .inl (ca 5, 24, .inr (.inl (fun _ => 0)))), (a 6, .inl (ca 6, 24, .inr (.inl (fun _ => 0)))), (a 14, .inl (ca 14, 100, .inr (.inl (fun _ => 0)))), (ho, .inl (co, 1, .inr (.inl (u_3)))), (g0, .inr (11, mF a ul_8 um_9 up_10 (kHole (xs (1 : Int32).toNatClampNeg))))] := hD
  refine W.widen (k := 24) (n := 78348) (by decide +kernel) (by decide +kernel) ?_
  obtain rfl : r_13 = kHole (xs (1 : Int32).toNatClampNeg) := hw
  refine lv_iload hx hb dL_law_281 (lv_at hl 1 rfl) ?_
  refine lv_icmp_eq (tgt := 288) hx hb dL_law_283 (by decide) (fun c_283 => ?_) (fun c_283 => ?_)
  · refine lv_iload hx hb dL_law_288 (lv_at hl 1 rfl) ?_
    refine lv_if_ne (tgt := 305) hx hb dL_law_290 (by decide) (fun c_290 => ?_) (fun c_290 => ?_)
    · refine lv_goto (tgt := 2206) hx hb dL_law_305 (by decide) ?_
      refine W.widen (k := 100) (n := 200000) (by decide +kernel) (by decide +kernel) ?_
      exact law_end l hx hb hr hlocks hX hbl hbA hS (lv_sub hl [2, 6] rfl)
    · refine lv_aload_n hx hb dL_law_293 rfl (lv_at hl 3 rfl) ?_
      refine lv_iconst (v := 0) hx hb dL_law_294 (by decide) ?_
      refine va_lald hx hb hK hP 9 11 rfl rfl (nd_in (i := 0) (n := 1) (by decide)) dL_law_295 ?_
      refine lv_iload hx hb dL_law_296 (lv_at hl 0 rfl) ?_
      refine lv_i2l hx hb dL_law_298 rfl ?_
      refine W.lcmp hx hb dL_law_299 ?_
      refine lv_if_eq (tgt := 305) hx hb dL_law_300 (by decide) (fun c_300 => ?_) (fun c_300 => ?_)
      · refine lv_goto (tgt := 2206) hx hb dL_law_305 (by decide) ?_
        refine W.widen (k := 100) (n := 200000) (by decide +kernel) (by decide +kernel) ?_
        exact law_end l hx hb hr hlocks hX hbl hbA hS (lv_sub hl [2, 6] rfl)
      · exact absurd (lcmp0 ((hv_4 c_290).trans (by rw [hv_12 c_290]; decide))) c_300
  · exact absurd rfl c_283
set_option maxHeartbeats 4000000 in
set_option maxRecDepth 100000 in
theorem law_case_2 {p : Program} {e : Env} {s : State} {m : MethodId} {below : List Frame} {meth : Method} {c : Code} (l : Launch) (hl0 : l.stackTraces = false) {b : Nat} {xs : Nat → Int32} (C0 : lw_At p s m meth c b 6 xs) (hG : Gw s) (hZ : Gz (lA s) s s.heap) {dC : Nat → ClassId} {dI : Nat → Nat → Nat} {h0 hm h1 h2 h3 g0 ho : Nat} {a : Nat → Nat} {ca cx : Nat → ClassId} {co : ClassId} {H : Heap} {locs : List Loc} (hK : va_K (dC, dI) vwCl [(cx 1, .object RX5), (cx 2, .long), (cx 3, .byte), (ca 1, .int), (ca 2, .int), (ca 3, .int), (ca 4, .int), (ca 5, .long), (ca 6, .long), (ca 13, .int), (ca 14, .long), (co, .long)] s) (hP : va_P (dC, dI) vwCl [(h0, .inr (10, xF hm h1 h2 h3 0 0 1000)), (hm, .inr (5, [.int 0, .int 0])), (h1, .inl (cx 1, 24, .inr (.inr (.inr (.inr (fun _ => none)))))), (h2, .inl (cx 2, 100, .inr (.inl (fun _ => 0)))), (h3, .inl (cx 3, 100, .inl (fun _ => 0))), (g0, .inr (11, mF a 0 0 1000 0)), (a 1, .inl (ca 1, 24, .inl (fun _ => 0))), (a 2, .inl (ca 2, 24, .inl (fun _ => 0))), (a 3, .inl (ca 3, 24, .inl (fun _ => 0))), (a 4, .inl (ca 4, 24, .inl (fun _ => 0))), (a 5, .inl (ca 5, 24, .inr (.inl (fun _ => 0)))), (a 6, .inl (ca 6, 24, .inr (.inl (fun _ => 0)))), (a 13, .inl (ca 13, 100, .inl (fun _ => 0))), (a 14, .inl (ca 14, 100, .inr (.inl (fun _ => 0)))), (ho, .inl (co, 1, .inr (.inl (fun _ => 0))))] H) (hD : va_D (lA s) [(h0, .inr (10, xF hm h1 h2 h3 0 0 1000)), (hm, .inr (5, [.int 0, .int 0])), (h1, .inl (cx 1, 24, .inr (.inr (.inr (.inr (fun _ => none)))))), (h2, .inl (cx 2, 100, .inr (.inl (fun _ => 0)))), (h3, .inl (cx 3, 100, .inl (fun _ => 0))), (g0, .inr (11, mF a 0 0 1000 0)), (a 1, .inl (ca 1, 24, .inl (fun _ => 0))), (a 2, .inl (ca 2, 24, .inl (fun _ => 0))), (a 3, .inl (ca 3, 24, .inl (fun _ => 0))), (a 4, .inl (ca 4, 24, .inl (fun _ => 0))), (a 5, .inl (ca 5, 24, .inr (.inl (fun _ => 0)))), (a 6, .inl (ca 6, 24, .inr (.inl (fun _ => 0)))), (a 13, .inl (ca 13, 100, .inl (fun _ => 0))), (a 14, .inl (ca 14, 100, .inr (.inl (fun _ => 0)))), (ho, .inl (co, 1, .inr (.inl (fun _ => 0))))]) (hS : va_S (lA s) s.heap H locs) {ls : Array Slot} (hl : lv_has ls 8 [(4, .int 0), (3, .ref ho), (2, .ref g0), (1, .ref h0), (0, .ref b)]) : W p l e room_1 s m #[Value.ref b] below meth c H locs 23 78342 (lw_Z below #[Value.ref b] s) (F0 m 308 ls []) := by
  obtain ⟨hx, hb, hr, hml, hown, hts0, hX, hbl, hlocks, hgv⟩ := C0
  have hts := hts0
  have hcl := hts0 _ law_cl
  have hA : ∀ q : Nat, s.heap.size ≤ q → lA s q := fun _ h => h
  have hbA : ¬ lA s b := Nat.not_le.mpr hbl
  refine lv_aload_n hx hb dL_law_308 rfl (lv_at hl 3 rfl) ?_
  refine lv_aload_n hx hb dL_law_309 rfl (lv_at hl 4 rfl) ?_
  refine lv_iload hx hb dL_law_310 (lv_at hl 0 rfl) ?_
  refine lv_iconst (v := 1) hx hb dL_law_312 (by decide) ?_
  refine lv_iadd hx hb dL_law_313 ?_
  refine lv_topi (fun z_1 ez_1 => ?_)
  obtain rfl : z_1 = 1 := ez_1.trans (by decide)
  refine va_sld hx hb hX hbl hbA hS (nd_in (i := 1) (n := 6) (by decide)) dL_law_314 ?_
  refine lv_if_eq (tgt := 322) hx hb dL_law_315 (by decide) (fun c_315 => ?_) (fun c_315 => ?_)
  · refine lv_iconst (v := 0) hx hb dL_law_322 (by decide) ?_
    refine lv_aload_n hx hb dL_law_323 rfl (lv_at hl 1 rfl) ?_
    have hPc := hP.sub (ws' := [(h0, .inr (10, xF hm h1 h2 h3 0 0 1000)), (h1, .inl (cx 1, 24, .inr (.inr (.inr (.inr (fun _ => none)))))), (h2, .inl (cx 2, 100, .inr (.inl (fun _ => 0)))), (h3, .inl (cx 3, 100, .inl (fun _ => 0))), (ho, .inl (co, 1, .inr (.inl (fun _ => 0))))]) [0, 2, 3, 4, 14] rfl
    have hDc := hD.sub (ws' := [(h0, .inr (10, xF hm h1 h2 h3 0 0 1000)), (h1, .inl (cx 1, 24, .inr (.inr (.inr (.inr (fun _ => none)))))), (h2, .inl (cx 2, 100, .inr (.inl (fun _ => 0)))), (h3, .inl (cx 3, 100, .inl (fun _ => 0))), (ho, .inl (co, 1, .inr (.inl (fun _ => 0))))]) [0, 2, 3, 4, 14] (by decide) rfl
    have hKc := hK.sub (tys' := [(cx 1, .object RX5), (cx 2, .long), (cx 3, .byte), (co, .long)]) [0, 1, 2, 11] rfl
    have hFc := va_free (wc := [(h0, .inr (10, xF hm h1 h2 h3 0 0 1000)), (h1, .inl (cx 1, 24, .inr (.inr (.inr (.inr (fun _ => none)))))), (h2, .inl (cx 2, 100, .inr (.inl (fun _ => 0)))), (h3, .inl (cx 3, 100, .inl (fun _ => 0))), (ho, .inl (co, 1, .inr (.inl (fun _ => 0))))]) hD hS hA [0, 2, 3, 4, 14] rfl
    refine va_calli (vx_runSW (As := [.ref h0, .int 0, .ref ho]) (rest := []) ⟨hx, hb, hml, hown, hts⟩ (c_L_given l hl0 dC dI h0 hm h1 h2 h3 (cx 1) (fun _ => none) (cx 2) (fun _ => 0) (cx 3) (fun _ => 0) 0 ho co (fun _ => 0) H.size) (vx_cwSW 3 hts tL_law_L_given rfl rfl rfl (by decide +kernel) ⟨Nat.le_of_ble_eq_true rfl, Nat.le_of_ble_eq_true rfl⟩) ⟨fun a U g mk q => by obtain ⟨q0, q1, qP, qK, qD, qG, qZ⟩ := q; exact ⟨q0, q1, qP, va_K.moved (u := U) (U := U.calling g mk a) (Vm.Alike.refl U.vm) qK, qD, Gw.same (u := U) (U := U.calling g mk a) rfl qG, Gz.moved (u := U) (U := U.calling g mk a) (Vm.Alike.refl U.vm) qZ⟩, fun U hU hW => ⟨rfl, by rw [hU], by rw [hU]; exact hPc, va_K.moved hW.alike hKc, hDc.weaken (fun _ _ _ _ => trivial), Gw.warm hW hG, Gz.step hZ hS hFc hU hW.alike⟩⟩ rfl rfl hl.1 rfl (lv_room (Nat.le_of_ble_eq_true rfl)) dL_law_324 ⟨Nat.le_of_ble_eq_true rfl, Nat.le_of_ble_eq_true rfl⟩) hS (fun q _ h => hFc q h) hFc (fun r_2 u_3 t H1 locs ht hvm hw hB hz1 hk1 hS => ?_)
    obtain ⟨hP1, hK1, hD1⟩ := hB
    rw [ht] at hP1
    have hK1 := va_K.moved hvm.symm hK1
    have hK := hK.app hK1
    obtain ⟨hP, hD⟩ := va_join (wr := [(hm, .inr (5, [.int 0, .int 0])), (g0, .inr (11, mF a 0 0 1000 0)), (a 1, .inl (ca 1, 24, .inl (fun _ => 0))), (a 2, .inl (ca 2, 24, .inl (fun _ => 0))), (a 3, .inl (ca 3, 24, .inl (fun _ => 0))), (a 4, .inl (ca 4, 24, .inl (fun _ => 0))), (a 5, .inl (ca 5, 24, .inr (.inl (fun _ => 0)))), (a 6, .inl (ca 6, 24, .inr (.inl (fun _ => 0)))), (a 13, .inl (ca 13, 100, .inl (fun _ => 0))), (a 14, .inl (ca 14, 100, .inr (.inl (fun _ => 0))))]) (w1 := [(ho, .inl (co, 1, .inr (.inl (u_3))))]) hP hD [0, 2, 3, 4, 14] [1, 5, 6, 7, 8, 9, 10, 11, 12, 13] rfl rfl (by decide) (by decide) hk1 hFc hP1 hD1
    generalize H1 = H at hP hS ⊢
    have hP : va_P (dC, dI) vwCl [(hm, .inr (5, [.int 0, .int 0])), (g0, .inr (11, mF a 0 0 1000 0)), (a 1, .inl (ca 1, 24, .inl (fun _ => 0))), (a 2, .inl (ca 2, 24, .inl (fun _ => 0))), (a 3, .inl (ca 3, 24, .inl (fun _ => 0))), (a 4, .inl (ca 4, 24, .inl (fun _ => 0))), (a 5, .inl (ca 5, 24, .inr (.inl (fun _ => 0)))), (a 6, .inl (ca 6, 24, .inr (.inl (fun _ => 0)))), (a 13, .inl (ca 13, 100, .inl (fun _ => 0))), (a 14, .inl (ca 14, 100, .inr (.inl (fun _ => 0)))), (ho, .inl (co, 1, .inr (.inl (u_3))))] H := hP
    have hD : va_D (lA s) [(hm, .inr (5, [.int 0, .int 0])), (g0, .inr (11, mF a 0 0 1000 0)), (a 1, .inl (ca 1, 24, .inl (fun _ => 0))), (a 2, .inl (ca 2, 24, .inl (fun _ => 0))), (a 3, .inl (ca 3, 24, .inl (fun _ => 0))), (a 4, .inl (ca 4, 24, .inl (fun _ => 0))), (a 5, .inl (ca 5, 24, .inr (.inl (fun _ => 0)))), (a 6, .inl (ca 6, 24, .inr (.inl (fun _ => 0)))), (a 13, .inl (ca 13, 100, .inl (fun _ => 0))), (a 14, .inl (ca 14, 100, .inr (.inl (fun _ => 0)))), (ho, .inl (co, 1, .inr (.inl (u_3))))] := hD
    have hK : va_K (dC, dI) vwCl [(cx 1, .object RX5), (cx 2, .long), (cx 3, .byte), (ca 1, .int), (ca 2, .int), (ca 3, .int), (ca 4, .int), (ca 5, .long), (ca 6, .long), (ca 13, .int), (ca 14, .long), (co, .long), (co, .long)] s := hK
    refine W.widen (k := 27) (n := 78349) (by decide +kernel) (by decide +kernel) ?_
    obtain ⟨rfl, hv_4⟩ := hw
    refine lv_istore (lv' := [(5, .int 0), (4, .int 0), (3, .ref ho), (2, .ref g0), (1, .ref h0), (0, .ref b)]) hx hb dL_law_327 hl (by decide) rfl (fun ls hl => ?_)
    refine lv_aload_n hx hb dL_law_329 rfl (lv_at hl 3 rfl) ?_
    refine lv_aload_n hx hb dL_law_330 rfl (lv_at hl 5 rfl) ?_
    refine lv_iload hx hb dL_law_331 (lv_at hl 1 rfl) ?_
    refine lv_iconst (v := 1) hx hb dL_law_333 (by decide) ?_
    refine lv_iadd hx hb dL_law_334 ?_
    refine lv_topi (fun z_5 ez_5 => ?_)
    obtain rfl : z_5 = 1 := ez_5.trans (by decide)
    refine va_sld hx hb hX hbl hbA hS (nd_in (i := 1) (n := 6) (by decide)) dL_law_335 ?_
    refine lv_if_eq (tgt := 343) hx hb dL_law_336 (by decide) (fun c_336 => ?_) (fun c_336 => ?_)
    · refine lv_iconst (v := 0) hx hb dL_law_343 (by decide) ?_
      have hPc := hP.sub (ws' := [(g0, .inr (11, mF a 0 0 1000 0)), (a 1, .inl (ca 1, 24, .inl (fun _ => 0))), (a 2, .inl (ca 2, 24, .inl (fun _ => 0))), (a 3, .inl (ca 3, 24, .inl (fun _ => 0))), (a 4, .inl (ca 4, 24, .inl (fun _ => 0))), (a 5, .inl (ca 5, 24, .inr (.inl (fun _ => 0)))), (a 6, .inl (ca 6, 24, .inr (.inl (fun _ => 0))))]) [1, 2, 3, 4, 5, 6, 7] rfl
      have hDc := hD.sub (ws' := [(g0, .inr (11, mF a 0 0 1000 0)), (a 1, .inl (ca 1, 24, .inl (fun _ => 0))), (a 2, .inl (ca 2, 24, .inl (fun _ => 0))), (a 3, .inl (ca 3, 24, .inl (fun _ => 0))), (a 4, .inl (ca 4, 24, .inl (fun _ => 0))), (a 5, .inl (ca 5, 24, .inr (.inl (fun _ => 0)))), (a 6, .inl (ca 6, 24, .inr (.inl (fun _ => 0))))]) [1, 2, 3, 4, 5, 6, 7] (by decide) rfl
      have hKc := hK.sub (tys' := [(ca 1, .int), (ca 2, .int), (ca 3, .int), (ca 4, .int), (ca 5, .long), (ca 6, .long)]) [3, 4, 5, 6, 7, 8] rfl
      have hFc := va_free (wc := [(g0, .inr (11, mF a 0 0 1000 0)), (a 1, .inl (ca 1, 24, .inl (fun _ => 0))), (a 2, .inl (ca 2, 24, .inl (fun _ => 0))), (a 3, .inl (ca 3, 24, .inl (fun _ => 0))), (a 4, .inl (ca 4, 24, .inl (fun _ => 0))), (a 5, .inl (ca 5, 24, .inr (.inl (fun _ => 0)))), (a 6, .inl (ca 6, 24, .inr (.inl (fun _ => 0))))]) hD hS hA [1, 2, 3, 4, 5, 6, 7] rfl
      refine va_calli (va_runV (As := [.int 0]) (rest := []) ⟨hx, hb, hml, hown, hts⟩ (c_X12_given l dC dI a g0 ca (fun _ => 0) (fun _ => 0) (fun _ => 0) (fun _ => 0) (fun _ => 0) (fun _ => 0) 0 H.size) (cwV 1 hts tL_law_X12_given rfl rfl rfl (by decide +kernel) ⟨Nat.le_of_ble_eq_true rfl, Nat.le_of_ble_eq_true rfl⟩) ⟨fun a U g mk q => by obtain ⟨q0, q1, qP, qK, qD⟩ := q; exact ⟨q0, q1, qP, va_K.moved (u := U) (U := U.calling g mk a) (Vm.Alike.refl U.vm) qK, qD⟩, va_recv hKc hPc (ci := 11) (q0 := 0) rfl rfl, fun U hU hW => ⟨rfl, by rw [hU], by rw [hU]; exact hPc, va_K.moved hW.alike hKc, hDc.weaken (fun _ _ _ _ => trivial)⟩⟩ rfl rfl hl.1 rfl (lv_room (Nat.le_of_ble_eq_true rfl)) dL_law_344 ⟨Nat.le_of_ble_eq_true rfl, Nat.le_of_ble_eq_true rfl⟩) hS (fun q _ h => hFc q h) hFc (fun r_6 u_7 t H1 locs ht hvm hw hB hz1 hk1 hS => ?_)
      obtain ⟨ul_8, um_9, up_10, ut_11⟩ := u_7
      dsimp only at hw
      obtain ⟨hP1, hK1, hD1⟩ := hB
      rw [ht] at hP1
      have hK1 := va_K.moved hvm.symm hK1
      have hK := hK.app hK1
      obtain ⟨hP, hD⟩ := va_join (wr := [(hm, .inr (5, [.int 0, .int 0])), (a 13, .inl (ca 13, 100, .inl (fun _ => 0))), (a 14, .inl (ca 14, 100, .inr (.inl (fun _ => 0)))), (ho, .inl (co, 1, .inr (.inl (u_3))))]) (w1 := [(g0, .inr (11, mF a ul_8 um_9 up_10 ut_11))]) hP hD [1, 2, 3, 4, 5, 6, 7] [0, 8, 9, 10] rfl rfl (by decide) (by decide) hk1 hFc hP1 hD1
      generalize H1 = H at hP hS ⊢
      have hP : va_P (dC, dI) vwCl [(hm, .inr (5, [.int 0, .int 0])), (a 13, .inl (ca 13, 100, .inl (fun _ => 0))), (a 14, .inl (ca 14, 100, .inr (.inl (fun _ => 0)))), (ho, .inl (co, 1, .inr (.inl (u_3)))), (g0, .inr (11, mF a ul_8 um_9 up_10 ut_11))] H := hP
      have hD : va_D (lA s) [(hm, .inr (5, [.int 0, .int 0])), (a 13, .inl (ca 13, 100, .inl (fun _ => 0))), (a 14, .inl (ca 14, 100, .inr (.inl (fun _ => 0)))), (ho, .inl (co, 1, .inr (.inl (u_3)))), (g0, .inr (11, mF a ul_8 um_9 up_10 ut_11))] := hD
      have hK : va_K (dC, dI) vwCl [(cx 1, .object RX5), (cx 2, .long), (cx 3, .byte), (ca 1, .int), (ca 2, .int), (ca 3, .int), (ca 4, .int), (ca 5, .long), (ca 6, .long), (ca 13, .int), (ca 14, .long), (co, .long), (co, .long)] s := hK
      refine W.widen (k := 27) (n := 78349) (by decide +kernel) (by decide +kernel) ?_
      obtain ⟨rfl, hv_12⟩ := hw
      obtain rfl : r_6 = 0 := hv_12 rfl
      refine lv_istore (lv' := [(6, .int 0), (5, .int 0), (4, .int 0), (3, .ref ho), (2, .ref g0), (1, .ref h0), (0, .ref b)]) hx hb dL_law_347 hl (by decide) rfl (fun ls hl => ?_)
      refine lv_aload_n hx hb dL_law_349 rfl (lv_at hl 4 rfl) ?_
      have hPc := hP.sub (ws' := [(g0, .inr (11, mF a ul_8 um_9 up_10 0))]) [4] rfl
      have hDc : va_D (fun _ => True) ([] : va_W) := nd_0
      have hKc := hK.sub (tys' := []) [] rfl
      have hFc := va_free (wc := []) hD hS hA [] rfl
      refine va_calli (va_runV (As := []) (rest := []) ⟨hx, hb, hml, hown, hts⟩ (c_X12_thrown l dC dI a g0 ul_8 um_9 up_10 0 H.size) (cwV 0 hts tL_law_X12_thrown rfl rfl rfl (by decide +kernel) ⟨Nat.le_of_ble_eq_true rfl, Nat.le_of_ble_eq_true rfl⟩) ⟨fun a U g mk q => by obtain ⟨q0, q1, qP, qK, qD⟩ := q; exact ⟨q0, q1, qP, va_K.moved (u := U) (U := U.calling g mk a) (Vm.Alike.refl U.vm) qK, qD⟩, va_recv hKc hPc (ci := 11) (q0 := 0) rfl rfl, fun U hU hW => ⟨rfl, by rw [hU], by rw [hU]; exact hPc, va_K.moved hW.alike hKc, nd_0⟩⟩ rfl rfl hl.1 rfl (lv_room (Nat.le_of_ble_eq_true rfl)) dL_law_350 ⟨Nat.le_of_ble_eq_true rfl, Nat.le_of_ble_eq_true rfl⟩) hS (fun q _ h => hFc q h) hFc (fun r_13 u_14 t H1 locs ht hvm hw hB hz1 hk1 hS => ?_)
      have hP := nd_keep hP hk1
      generalize H1 = H at hP hS ⊢
      have hP : va_P (dC, dI) vwCl [(hm, .inr (5, [.int 0, .int 0])), (a 13, .inl (ca 13, 100, .inl (fun _ => 0))), (a 14, .inl (ca 14, 100, .inr (.inl (fun _ => 0)))), (ho, .inl (co, 1, .inr (.inl (u_3)))), (g0, .inr (11, mF a ul_8 um_9 up_10 0))] H := hP
      have hD : va_D (lA s) [(hm, .inr (5, [.int 0, .int 0])), (a 13, .inl (ca 13, 100, .inl (fun _ => 0))), (a 14, .inl (ca 14, 100, .inr (.inl (fun _ => 0)))), (ho, .inl (co, 1, .inr (.inl (u_3)))), (g0, .inr (11, mF a ul_8 um_9 up_10 0))] := hD
      refine W.widen (k := 27) (n := 78349) (by decide +kernel) (by decide +kernel) ?_
      obtain rfl : r_13 = 0 := hw
      refine lv_iload hx hb dL_law_353 (lv_at hl 1 rfl) ?_
      refine lv_icmp_eq (tgt := 360) hx hb dL_law_355 (by decide) (fun c_355 => ?_) (fun c_355 => ?_)
      · refine lv_iload hx hb dL_law_360 (lv_at hl 1 rfl) ?_
        refine lv_if_ne (tgt := 377) hx hb dL_law_362 (by decide) (fun c_362 => ?_) (fun c_362 => ?_)
        · exact absurd c_362 (by decide)
        · refine lv_aload_n hx hb dL_law_365 rfl (lv_at hl 3 rfl) ?_
          refine lv_iconst (v := 0) hx hb dL_law_366 (by decide) ?_
          refine va_lald hx hb hK hP 3 11 rfl rfl (nd_in (i := 0) (n := 1) (by decide)) dL_law_367 ?_
          refine lv_iload hx hb dL_law_368 (lv_at hl 0 rfl) ?_
          refine lv_i2l (v := 0) hx hb dL_law_370 (by decide) ?_
          refine W.lcmp hx hb dL_law_371 ?_
          refine lv_if_eq (tgt := 377) hx hb dL_law_372 (by decide) (fun c_372 => ?_) (fun c_372 => ?_)
          · refine lv_goto (tgt := 2206) hx hb dL_law_377 (by decide) ?_
            refine W.widen (k := 100) (n := 200000) (by decide +kernel) (by decide +kernel) ?_
            exact law_end l hx hb hr hlocks hX hbl hbA hS (lv_sub hl [2, 6] rfl)
          · exact absurd (lcmp0 (hv_4 rfl)) c_372
      · exact absurd c_355 (by decide)
    · refine lv_iconst (v := 1) hx hb dL_law_339 (by decide) ?_
      refine lv_goto (tgt := 344) hx hb dL_law_340 (by decide) ?_
      have hPc := hP.sub (ws' := [(g0, .inr (11, mF a 0 0 1000 0)), (a 1, .inl (ca 1, 24, .inl (fun _ => 0))), (a 2, .inl (ca 2, 24, .inl (fun _ => 0))), (a 3, .inl (ca 3, 24, .inl (fun _ => 0))), (a 4, .inl (ca 4, 24, .inl (fun _ => 0))), (a 5, .inl (ca 5, 24, .inr (.inl (fun _ => 0)))), (a 6, .inl (ca 6, 24, .inr (.inl (fun _ => 0))))]) [1, 2, 3, 4, 5, 6, 7] rfl
      have hDc := hD.sub (ws' := [(g0, .inr (11, mF a 0 0 1000 0)), (a 1, .inl (ca 1, 24, .inl (fun _ => 0))), (a 2, .inl (ca 2, 24, .inl (fun _ => 0))), (a 3, .inl (ca 3, 24, .inl (fun _ => 0))), (a 4, .inl (ca 4, 24, .inl (fun _ => 0))), (a 5, .inl (ca 5, 24, .inr (.inl (fun _ => 0)))), (a 6, .inl (ca 6, 24, .inr (.inl (fun _ => 0))))]) [1, 2, 3, 4, 5, 6, 7] (by decide) rfl
      have hKc := hK.sub (tys' := [(ca 1, .int), (ca 2, .int), (ca 3, .int), (ca 4, .int), (ca 5, .long), (ca 6, .long)]) [3, 4, 5, 6, 7, 8] rfl
      have hFc := va_free (wc := [(g0, .inr (11, mF a 0 0 1000 0)), (a 1, .inl (ca 1, 24, .inl (fun _ => 0))), (a 2, .inl (ca 2, 24, .inl (fun _ => 0))), (a 3, .inl (ca 3, 24, .inl (fun _ => 0))), (a 4, .inl (ca 4, 24, .inl (fun _ => 0))), (a 5, .inl (ca 5, 24, .inr (.inl (fun _ => 0)))), (a 6, .inl (ca 6, 24, .inr (.inl (fun _ => 0))))]) hD hS hA [1, 2, 3, 4, 5, 6, 7] rfl
      refine va_calli (va_runV (As := [.int 1]) (rest := []) ⟨hx, hb, hml, hown, hts⟩ (c_X12_given l dC dI a g0 ca (fun _ => 0) (fun _ => 0) (fun _ => 0) (fun _ => 0) (fun _ => 0) (fun _ => 0) 1 H.size) (cwV 1 hts tL_law_X12_given rfl rfl rfl (by decide +kernel) ⟨Nat.le_of_ble_eq_true rfl, Nat.le_of_ble_eq_true rfl⟩) ⟨fun a U g mk q => by obtain ⟨q0, q1, qP, qK, qD⟩ := q; exact ⟨q0, q1, qP, va_K.moved (u := U) (U := U.calling g mk a) (Vm.Alike.refl U.vm) qK, qD⟩, va_recv hKc hPc (ci := 11) (q0 := 0) rfl rfl, fun U hU hW => ⟨rfl, by rw [hU], by rw [hU]; exact hPc, va_K.moved hW.alike hKc, hDc.weaken (fun _ _ _ _ => trivial)⟩⟩ rfl rfl hl.1 rfl (lv_room (Nat.le_of_ble_eq_true rfl)) dL_law_344 ⟨Nat.le_of_ble_eq_true rfl, Nat.le_of_ble_eq_true rfl⟩) hS (fun q _ h => hFc q h) hFc (fun r_15 u_16 t H1 locs ht hvm hw hB hz1 hk1 hS => ?_)
      obtain ⟨ul_17, um_18, up_19, ut_20⟩ := u_16
      dsimp only at hw
      obtain ⟨hP1, hK1, hD1⟩ := hB
      rw [ht] at hP1
      have hK1 := va_K.moved hvm.symm hK1
      have hK := hK.app hK1
      obtain ⟨hP, hD⟩ := va_join (wr := [(hm, .inr (5, [.int 0, .int 0])), (a 13, .inl (ca 13, 100, .inl (fun _ => 0))), (a 14, .inl (ca 14, 100, .inr (.inl (fun _ => 0)))), (ho, .inl (co, 1, .inr (.inl (u_3))))]) (w1 := [(g0, .inr (11, mF a ul_17 um_18 up_19 ut_20))]) hP hD [1, 2, 3, 4, 5, 6, 7] [0, 8, 9, 10] rfl rfl (by decide) (by decide) hk1 hFc hP1 hD1
      generalize H1 = H at hP hS ⊢
      have hP : va_P (dC, dI) vwCl [(hm, .inr (5, [.int 0, .int 0])), (a 13, .inl (ca 13, 100, .inl (fun _ => 0))), (a 14, .inl (ca 14, 100, .inr (.inl (fun _ => 0)))), (ho, .inl (co, 1, .inr (.inl (u_3)))), (g0, .inr (11, mF a ul_17 um_18 up_19 ut_20))] H := hP
      have hD : va_D (lA s) [(hm, .inr (5, [.int 0, .int 0])), (a 13, .inl (ca 13, 100, .inl (fun _ => 0))), (a 14, .inl (ca 14, 100, .inr (.inl (fun _ => 0)))), (ho, .inl (co, 1, .inr (.inl (u_3)))), (g0, .inr (11, mF a ul_17 um_18 up_19 ut_20))] := hD
      have hK : va_K (dC, dI) vwCl [(cx 1, .object RX5), (cx 2, .long), (cx 3, .byte), (ca 1, .int), (ca 2, .int), (ca 3, .int), (ca 4, .int), (ca 5, .long), (ca 6, .long), (ca 13, .int), (ca 14, .long), (co, .long), (co, .long)] s := hK
      refine W.widen (k := 27) (n := 78349) (by decide +kernel) (by decide +kernel) ?_
      obtain ⟨rfl, hv_21⟩ := hw
      obtain rfl : r_15 = 0 := hv_21 rfl
      refine lv_istore (lv' := [(6, .int 0), (5, .int 0), (4, .int 0), (3, .ref ho), (2, .ref g0), (1, .ref h0), (0, .ref b)]) hx hb dL_law_347 hl (by decide) rfl (fun ls hl => ?_)
      refine lv_aload_n hx hb dL_law_349 rfl (lv_at hl 4 rfl) ?_
      have hPc := hP.sub (ws' := [(g0, .inr (11, mF a ul_17 um_18 up_19 0))]) [4] rfl
      have hDc : va_D (fun _ => True) ([] : va_W) := nd_0
      have hKc := hK.sub (tys' := []) [] rfl
      have hFc := va_free (wc := []) hD hS hA [] rfl
      refine va_calli (va_runV (As := []) (rest := []) ⟨hx, hb, hml, hown, hts⟩ (c_X12_thrown l dC dI a g0 ul_17 um_18 up_19 0 H.size) (cwV 0 hts tL_law_X12_thrown rfl rfl rfl (by decide +kernel) ⟨Nat.le_of_ble_eq_true rfl, Nat.le_of_ble_eq_true rfl⟩) ⟨fun a U g mk q => by obtain ⟨q0, q1, qP, qK, qD⟩ := q; exact ⟨q0, q1, qP, va_K.moved (u := U) (U := U.calling g mk a) (Vm.Alike.refl U.vm) qK, qD⟩, va_recv hKc hPc (ci := 11) (q0 := 0) rfl rfl, fun U hU hW => ⟨rfl, by rw [hU], by rw [hU]; exact hPc, va_K.moved hW.alike hKc, nd_0⟩⟩ rfl rfl hl.1 rfl (lv_room (Nat.le_of_ble_eq_true rfl)) dL_law_350 ⟨Nat.le_of_ble_eq_true rfl, Nat.le_of_ble_eq_true rfl⟩) hS (fun q _ h => hFc q h) hFc (fun r_22 u_23 t H1 locs ht hvm hw hB hz1 hk1 hS => ?_)
      have hP := nd_keep hP hk1
      generalize H1 = H at hP hS ⊢
      have hP : va_P (dC, dI) vwCl [(hm, .inr (5, [.int 0, .int 0])), (a 13, .inl (ca 13, 100, .inl (fun _ => 0))), (a 14, .inl (ca 14, 100, .inr (.inl (fun _ => 0)))), (ho, .inl (co, 1, .inr (.inl (u_3)))), (g0, .inr (11, mF a ul_17 um_18 up_19 0))] H := hP
      have hD : va_D (lA s) [(hm, .inr (5, [.int 0, .int 0])), (a 13, .inl (ca 13, 100, .inl (fun _ => 0))), (a 14, .inl (ca 14, 100, .inr (.inl (fun _ => 0)))), (ho, .inl (co, 1, .inr (.inl (u_3)))), (g0, .inr (11, mF a ul_17 um_18 up_19 0))] := hD
      refine W.widen (k := 27) (n := 78349) (by decide +kernel) (by decide +kernel) ?_
      obtain rfl : r_22 = 0 := hw
      refine lv_iload hx hb dL_law_353 (lv_at hl 1 rfl) ?_
      refine lv_icmp_eq (tgt := 360) hx hb dL_law_355 (by decide) (fun c_355 => ?_) (fun c_355 => ?_)
      · refine lv_iload hx hb dL_law_360 (lv_at hl 1 rfl) ?_
        refine lv_if_ne (tgt := 377) hx hb dL_law_362 (by decide) (fun c_362 => ?_) (fun c_362 => ?_)
        · exact absurd c_362 (by decide)
        · refine lv_aload_n hx hb dL_law_365 rfl (lv_at hl 3 rfl) ?_
          refine lv_iconst (v := 0) hx hb dL_law_366 (by decide) ?_
          refine va_lald hx hb hK hP 3 11 rfl rfl (nd_in (i := 0) (n := 1) (by decide)) dL_law_367 ?_
          refine lv_iload hx hb dL_law_368 (lv_at hl 0 rfl) ?_
          refine lv_i2l (v := 0) hx hb dL_law_370 (by decide) ?_
          refine W.lcmp hx hb dL_law_371 ?_
          refine lv_if_eq (tgt := 377) hx hb dL_law_372 (by decide) (fun c_372 => ?_) (fun c_372 => ?_)
          · refine lv_goto (tgt := 2206) hx hb dL_law_377 (by decide) ?_
            refine W.widen (k := 100) (n := 200000) (by decide +kernel) (by decide +kernel) ?_
            exact law_end l hx hb hr hlocks hX hbl hbA hS (lv_sub hl [2, 6] rfl)
          · exact absurd (lcmp0 (hv_4 rfl)) c_372
      · exact absurd c_355 (by decide)
  · refine lv_iconst (v := 1) hx hb dL_law_318 (by decide) ?_
    refine lv_goto (tgt := 323) hx hb dL_law_319 (by decide) ?_
    refine lv_aload_n hx hb dL_law_323 rfl (lv_at hl 1 rfl) ?_
    have hPc := hP.sub (ws' := [(h0, .inr (10, xF hm h1 h2 h3 0 0 1000)), (h1, .inl (cx 1, 24, .inr (.inr (.inr (.inr (fun _ => none)))))), (h2, .inl (cx 2, 100, .inr (.inl (fun _ => 0)))), (h3, .inl (cx 3, 100, .inl (fun _ => 0))), (ho, .inl (co, 1, .inr (.inl (fun _ => 0))))]) [0, 2, 3, 4, 14] rfl
    have hDc := hD.sub (ws' := [(h0, .inr (10, xF hm h1 h2 h3 0 0 1000)), (h1, .inl (cx 1, 24, .inr (.inr (.inr (.inr (fun _ => none)))))), (h2, .inl (cx 2, 100, .inr (.inl (fun _ => 0)))), (h3, .inl (cx 3, 100, .inl (fun _ => 0))), (ho, .inl (co, 1, .inr (.inl (fun _ => 0))))]) [0, 2, 3, 4, 14] (by decide) rfl
    have hKc := hK.sub (tys' := [(cx 1, .object RX5), (cx 2, .long), (cx 3, .byte), (co, .long)]) [0, 1, 2, 11] rfl
    have hFc := va_free (wc := [(h0, .inr (10, xF hm h1 h2 h3 0 0 1000)), (h1, .inl (cx 1, 24, .inr (.inr (.inr (.inr (fun _ => none)))))), (h2, .inl (cx 2, 100, .inr (.inl (fun _ => 0)))), (h3, .inl (cx 3, 100, .inl (fun _ => 0))), (ho, .inl (co, 1, .inr (.inl (fun _ => 0))))]) hD hS hA [0, 2, 3, 4, 14] rfl
    refine va_calli (vx_runSW (As := [.ref h0, .int 1, .ref ho]) (rest := []) ⟨hx, hb, hml, hown, hts⟩ (c_L_given l hl0 dC dI h0 hm h1 h2 h3 (cx 1) (fun _ => none) (cx 2) (fun _ => 0) (cx 3) (fun _ => 0) 1 ho co (fun _ => 0) H.size) (vx_cwSW 3 hts tL_law_L_given rfl rfl rfl (by decide +kernel) ⟨Nat.le_of_ble_eq_true rfl, Nat.le_of_ble_eq_true rfl⟩) ⟨fun a U g mk q => by obtain ⟨q0, q1, qP, qK, qD, qG, qZ⟩ := q; exact ⟨q0, q1, qP, va_K.moved (u := U) (U := U.calling g mk a) (Vm.Alike.refl U.vm) qK, qD, Gw.same (u := U) (U := U.calling g mk a) rfl qG, Gz.moved (u := U) (U := U.calling g mk a) (Vm.Alike.refl U.vm) qZ⟩, fun U hU hW => ⟨rfl, by rw [hU], by rw [hU]; exact hPc, va_K.moved hW.alike hKc, hDc.weaken (fun _ _ _ _ => trivial), Gw.warm hW hG, Gz.step hZ hS hFc hU hW.alike⟩⟩ rfl rfl hl.1 rfl (lv_room (Nat.le_of_ble_eq_true rfl)) dL_law_324 ⟨Nat.le_of_ble_eq_true rfl, Nat.le_of_ble_eq_true rfl⟩) hS (fun q _ h => hFc q h) hFc (fun r_6 u_7 t H1 locs ht hvm hw hB hz1 hk1 hS => ?_)
    obtain ⟨hP1, hK1, hD1⟩ := hB
    rw [ht] at hP1
    have hK1 := va_K.moved hvm.symm hK1
    have hK := hK.app hK1
    obtain ⟨hP, hD⟩ := va_join (wr := [(hm, .inr (5, [.int 0, .int 0])), (g0, .inr (11, mF a 0 0 1000 0)), (a 1, .inl (ca 1, 24, .inl (fun _ => 0))), (a 2, .inl (ca 2, 24, .inl (fun _ => 0))), (a 3, .inl (ca 3, 24, .inl (fun _ => 0))), (a 4, .inl (ca 4, 24, .inl (fun _ => 0))), (a 5, .inl (ca 5, 24, .inr (.inl (fun _ => 0)))), (a 6, .inl (ca 6, 24, .inr (.inl (fun _ => 0)))), (a 13, .inl (ca 13, 100, .inl (fun _ => 0))), (a 14, .inl (ca 14, 100, .inr (.inl (fun _ => 0))))]) (w1 := [(ho, .inl (co, 1, .inr (.inl (u_7))))]) hP hD [0, 2, 3, 4, 14] [1, 5, 6, 7, 8, 9, 10, 11, 12, 13] rfl rfl (by decide) (by decide) hk1 hFc hP1 hD1
    generalize H1 = H at hP hS ⊢
    have hP : va_P (dC, dI) vwCl [(hm, .inr (5, [.int 0, .int 0])), (g0, .inr (11, mF a 0 0 1000 0)), (a 1, .inl (ca 1, 24, .inl (fun _ => 0))), (a 2, .inl (ca 2, 24, .inl (fun _ => 0))), (a 3, .inl (ca 3, 24, .inl (fun _ => 0))), (a 4, .inl (ca 4, 24, .inl (fun _ => 0))), (a 5, .inl (ca 5, 24, .inr (.inl (fun _ => 0)))), (a 6, .inl (ca 6, 24, .inr (.inl (fun _ => 0)))), (a 13, .inl (ca 13, 100, .inl (fun _ => 0))), (a 14, .inl (ca 14, 100, .inr (.inl (fun _ => 0)))), (ho, .inl (co, 1, .inr (.inl (u_7))))] H := hP
    have hD : va_D (lA s) [(hm, .inr (5, [.int 0, .int 0])), (g0, .inr (11, mF a 0 0 1000 0)), (a 1, .inl (ca 1, 24, .inl (fun _ => 0))), (a 2, .inl (ca 2, 24, .inl (fun _ => 0))), (a 3, .inl (ca 3, 24, .inl (fun _ => 0))), (a 4, .inl (ca 4, 24, .inl (fun _ => 0))), (a 5, .inl (ca 5, 24, .inr (.inl (fun _ => 0)))), (a 6, .inl (ca 6, 24, .inr (.inl (fun _ => 0)))), (a 13, .inl (ca 13, 100, .inl (fun _ => 0))), (a 14, .inl (ca 14, 100, .inr (.inl (fun _ => 0)))), (ho, .inl (co, 1, .inr (.inl (u_7))))] := hD
    have hK : va_K (dC, dI) vwCl [(cx 1, .object RX5), (cx 2, .long), (cx 3, .byte), (ca 1, .int), (ca 2, .int), (ca 3, .int), (ca 4, .int), (ca 5, .long), (ca 6, .long), (ca 13, .int), (ca 14, .long), (co, .long), (co, .long)] s := hK
    refine W.widen (k := 27) (n := 78349) (by decide +kernel) (by decide +kernel) ?_
    obtain ⟨rfl, hv_8⟩ := hw
    refine lv_istore (lv' := [(5, .int 0), (4, .int 0), (3, .ref ho), (2, .ref g0), (1, .ref h0), (0, .ref b)]) hx hb dL_law_327 hl (by decide) rfl (fun ls hl => ?_)
    refine lv_aload_n hx hb dL_law_329 rfl (lv_at hl 3 rfl) ?_
    refine lv_aload_n hx hb dL_law_330 rfl (lv_at hl 5 rfl) ?_
    refine lv_iload hx hb dL_law_331 (lv_at hl 1 rfl) ?_
    refine lv_iconst (v := 1) hx hb dL_law_333 (by decide) ?_
    refine lv_iadd hx hb dL_law_334 ?_
    refine lv_topi (fun z_9 ez_9 => ?_)
    obtain rfl : z_9 = 1 := ez_9.trans (by decide)
    refine va_sld hx hb hX hbl hbA hS (nd_in (i := 1) (n := 6) (by decide)) dL_law_335 ?_
    refine lv_if_eq (tgt := 343) hx hb dL_law_336 (by decide) (fun c_336 => ?_) (fun c_336 => ?_)
    · refine lv_iconst (v := 0) hx hb dL_law_343 (by decide) ?_
      have hPc := hP.sub (ws' := [(g0, .inr (11, mF a 0 0 1000 0)), (a 1, .inl (ca 1, 24, .inl (fun _ => 0))), (a 2, .inl (ca 2, 24, .inl (fun _ => 0))), (a 3, .inl (ca 3, 24, .inl (fun _ => 0))), (a 4, .inl (ca 4, 24, .inl (fun _ => 0))), (a 5, .inl (ca 5, 24, .inr (.inl (fun _ => 0)))), (a 6, .inl (ca 6, 24, .inr (.inl (fun _ => 0))))]) [1, 2, 3, 4, 5, 6, 7] rfl
      have hDc := hD.sub (ws' := [(g0, .inr (11, mF a 0 0 1000 0)), (a 1, .inl (ca 1, 24, .inl (fun _ => 0))), (a 2, .inl (ca 2, 24, .inl (fun _ => 0))), (a 3, .inl (ca 3, 24, .inl (fun _ => 0))), (a 4, .inl (ca 4, 24, .inl (fun _ => 0))), (a 5, .inl (ca 5, 24, .inr (.inl (fun _ => 0)))), (a 6, .inl (ca 6, 24, .inr (.inl (fun _ => 0))))]) [1, 2, 3, 4, 5, 6, 7] (by decide) rfl
      have hKc := hK.sub (tys' := [(ca 1, .int), (ca 2, .int), (ca 3, .int), (ca 4, .int), (ca 5, .long), (ca 6, .long)]) [3, 4, 5, 6, 7, 8] rfl
      have hFc := va_free (wc := [(g0, .inr (11, mF a 0 0 1000 0)), (a 1, .inl (ca 1, 24, .inl (fun _ => 0))), (a 2, .inl (ca 2, 24, .inl (fun _ => 0))), (a 3, .inl (ca 3, 24, .inl (fun _ => 0))), (a 4, .inl (ca 4, 24, .inl (fun _ => 0))), (a 5, .inl (ca 5, 24, .inr (.inl (fun _ => 0)))), (a 6, .inl (ca 6, 24, .inr (.inl (fun _ => 0))))]) hD hS hA [1, 2, 3, 4, 5, 6, 7] rfl
      refine va_calli (va_runV (As := [.int 0]) (rest := []) ⟨hx, hb, hml, hown, hts⟩ (c_X12_given l dC dI a g0 ca (fun _ => 0) (fun _ => 0) (fun _ => 0) (fun _ => 0) (fun _ => 0) (fun _ => 0) 0 H.size) (cwV 1 hts tL_law_X12_given rfl rfl rfl (by decide +kernel) ⟨Nat.le_of_ble_eq_true rfl, Nat.le_of_ble_eq_true rfl⟩) ⟨fun a U g mk q => by obtain ⟨q0, q1, qP, qK, qD⟩ := q; exact ⟨q0, q1, qP, va_K.moved (u := U) (U := U.calling g mk a) (Vm.Alike.refl U.vm) qK, qD⟩, va_recv hKc hPc (ci := 11) (q0 := 0) rfl rfl, fun U hU hW => ⟨rfl, by rw [hU], by rw [hU]; exact hPc, va_K.moved hW.alike hKc, hDc.weaken (fun _ _ _ _ => trivial)⟩⟩ rfl rfl hl.1 rfl (lv_room (Nat.le_of_ble_eq_true rfl)) dL_law_344 ⟨Nat.le_of_ble_eq_true rfl, Nat.le_of_ble_eq_true rfl⟩) hS (fun q _ h => hFc q h) hFc (fun r_10 u_11 t H1 locs ht hvm hw hB hz1 hk1 hS => ?_)
      obtain ⟨ul_12, um_13, up_14, ut_15⟩ := u_11
      dsimp only at hw
      obtain ⟨hP1, hK1, hD1⟩ := hB
      rw [ht] at hP1
      have hK1 := va_K.moved hvm.symm hK1
      have hK := hK.app hK1
      obtain ⟨hP, hD⟩ := va_join (wr := [(hm, .inr (5, [.int 0, .int 0])), (a 13, .inl (ca 13, 100, .inl (fun _ => 0))), (a 14, .inl (ca 14, 100, .inr (.inl (fun _ => 0)))), (ho, .inl (co, 1, .inr (.inl (u_7))))]) (w1 := [(g0, .inr (11, mF a ul_12 um_13 up_14 ut_15))]) hP hD [1, 2, 3, 4, 5, 6, 7] [0, 8, 9, 10] rfl rfl (by decide) (by decide) hk1 hFc hP1 hD1
      generalize H1 = H at hP hS ⊢
      have hP : va_P (dC, dI) vwCl [(hm, .inr (5, [.int 0, .int 0])), (a 13, .inl (ca 13, 100, .inl (fun _ => 0))), (a 14, .inl (ca 14, 100, .inr (.inl (fun _ => 0)))), (ho, .inl (co, 1, .inr (.inl (u_7)))), (g0, .inr (11, mF a ul_12 um_13 up_14 ut_15))] H := hP
      have hD : va_D (lA s) [(hm, .inr (5, [.int 0, .int 0])), (a 13, .inl (ca 13, 100, .inl (fun _ => 0))), (a 14, .inl (ca 14, 100, .inr (.inl (fun _ => 0)))), (ho, .inl (co, 1, .inr (.inl (u_7)))), (g0, .inr (11, mF a ul_12 um_13 up_14 ut_15))] := hD
      have hK : va_K (dC, dI) vwCl [(cx 1, .object RX5), (cx 2, .long), (cx 3, .byte), (ca 1, .int), (ca 2, .int), (ca 3, .int), (ca 4, .int), (ca 5, .long), (ca 6, .long), (ca 13, .int), (ca 14, .long), (co, .long), (co, .long)] s := hK
      refine W.widen (k := 27) (n := 78349) (by decide +kernel) (by decide +kernel) ?_
      obtain ⟨rfl, hv_16⟩ := hw
      obtain rfl : r_10 = 0 := hv_16 rfl
      refine lv_istore (lv' := [(6, .int 0), (5, .int 0), (4, .int 0), (3, .ref ho), (2, .ref g0), (1, .ref h0), (0, .ref b)]) hx hb dL_law_347 hl (by decide) rfl (fun ls hl => ?_)
      refine lv_aload_n hx hb dL_law_349 rfl (lv_at hl 4 rfl) ?_
      have hPc := hP.sub (ws' := [(g0, .inr (11, mF a ul_12 um_13 up_14 0))]) [4] rfl
      have hDc : va_D (fun _ => True) ([] : va_W) := nd_0
      have hKc := hK.sub (tys' := []) [] rfl
      have hFc := va_free (wc := []) hD hS hA [] rfl
      refine va_calli (va_runV (As := []) (rest := []) ⟨hx, hb, hml, hown, hts⟩ (c_X12_thrown l dC dI a g0 ul_12 um_13 up_14 0 H.size) (cwV 0 hts tL_law_X12_thrown rfl rfl rfl (by decide +kernel) ⟨Nat.le_of_ble_eq_true rfl, Nat.le_of_ble_eq_true rfl⟩) ⟨fun a U g mk q => by obtain ⟨q0, q1, qP, qK, qD⟩ := q; exact ⟨q0, q1, qP, va_K.moved (u := U) (U := U.calling g mk a) (Vm.Alike.refl U.vm) qK, qD⟩, va_recv hKc hPc (ci := 11) (q0 := 0) rfl rfl, fun U hU hW => ⟨rfl, by rw [hU], by rw [hU]; exact hPc, va_K.moved hW.alike hKc, nd_0⟩⟩ rfl rfl hl.1 rfl (lv_room (Nat.le_of_ble_eq_true rfl)) dL_law_350 ⟨Nat.le_of_ble_eq_true rfl, Nat.le_of_ble_eq_true rfl⟩) hS (fun q _ h => hFc q h) hFc (fun r_17 u_18 t H1 locs ht hvm hw hB hz1 hk1 hS => ?_)
      have hP := nd_keep hP hk1
      generalize H1 = H at hP hS ⊢
      have hP : va_P (dC, dI) vwCl [(hm, .inr (5, [.int 0, .int 0])), (a 13, .inl (ca 13, 100, .inl (fun _ => 0))), (a 14, .inl (ca 14, 100, .inr (.inl (fun _ => 0)))), (ho, .inl (co, 1, .inr (.inl (u_7)))), (g0, .inr (11, mF a ul_12 um_13 up_14 0))] H := hP
      have hD : va_D (lA s) [(hm, .inr (5, [.int 0, .int 0])), (a 13, .inl (ca 13, 100, .inl (fun _ => 0))), (a 14, .inl (ca 14, 100, .inr (.inl (fun _ => 0)))), (ho, .inl (co, 1, .inr (.inl (u_7)))), (g0, .inr (11, mF a ul_12 um_13 up_14 0))] := hD
      refine W.widen (k := 27) (n := 78349) (by decide +kernel) (by decide +kernel) ?_
      obtain rfl : r_17 = 0 := hw
      refine lv_iload hx hb dL_law_353 (lv_at hl 1 rfl) ?_
      refine lv_icmp_eq (tgt := 360) hx hb dL_law_355 (by decide) (fun c_355 => ?_) (fun c_355 => ?_)
      · refine lv_iload hx hb dL_law_360 (lv_at hl 1 rfl) ?_
        refine lv_if_ne (tgt := 377) hx hb dL_law_362 (by decide) (fun c_362 => ?_) (fun c_362 => ?_)
        · exact absurd c_362 (by decide)
        · refine lv_aload_n hx hb dL_law_365 rfl (lv_at hl 3 rfl) ?_
          refine lv_iconst (v := 0) hx hb dL_law_366 (by decide) ?_
          refine va_lald hx hb hK hP 3 11 rfl rfl (nd_in (i := 0) (n := 1) (by decide)) dL_law_367 ?_
          refine lv_iload hx hb dL_law_368 (lv_at hl 0 rfl) ?_
          refine lv_i2l (v := 0) hx hb dL_law_370 (by decide) ?_
          refine W.lcmp hx hb dL_law_371 ?_
          refine lv_if_eq (tgt := 377) hx hb dL_law_372 (by decide) (fun c_372 => ?_) (fun c_372 => ?_)
          · refine lv_goto (tgt := 2206) hx hb dL_law_377 (by decide) ?_
            refine W.widen (k := 100) (n := 200000) (by decide +kernel) (by decide +kernel) ?_
            exact law_end l hx hb hr hlocks hX hbl hbA hS (lv_sub hl [2, 6] rfl)
          · exact absurd (lcmp0 (hv_8 rfl)) c_372
      · exact absurd c_355 (by decide)
    · refine lv_iconst (v := 1) hx hb dL_law_339 (by decide) ?_
      refine lv_goto (tgt := 344) hx hb dL_law_340 (by decide) ?_
      have hPc := hP.sub (ws' := [(g0, .inr (11, mF a 0 0 1000 0)), (a 1, .inl (ca 1, 24, .inl (fun _ => 0))), (a 2, .inl (ca 2, 24, .inl (fun _ => 0))), (a 3, .inl (ca 3, 24, .inl (fun _ => 0))), (a 4, .inl (ca 4, 24, .inl (fun _ => 0))), (a 5, .inl (ca 5, 24, .inr (.inl (fun _ => 0)))), (a 6, .inl (ca 6, 24, .inr (.inl (fun _ => 0))))]) [1, 2, 3, 4, 5, 6, 7] rfl
      have hDc := hD.sub (ws' := [(g0, .inr (11, mF a 0 0 1000 0)), (a 1, .inl (ca 1, 24, .inl (fun _ => 0))), (a 2, .inl (ca 2, 24, .inl (fun _ => 0))), (a 3, .inl (ca 3, 24, .inl (fun _ => 0))), (a 4, .inl (ca 4, 24, .inl (fun _ => 0))), (a 5, .inl (ca 5, 24, .inr (.inl (fun _ => 0)))), (a 6, .inl (ca 6, 24, .inr (.inl (fun _ => 0))))]) [1, 2, 3, 4, 5, 6, 7] (by decide) rfl
      have hKc := hK.sub (tys' := [(ca 1, .int), (ca 2, .int), (ca 3, .int), (ca 4, .int), (ca 5, .long), (ca 6, .long)]) [3, 4, 5, 6, 7, 8] rfl
      have hFc := va_free (wc := [(g0, .inr (11, mF a 0 0 1000 0)), (a 1, .inl (ca 1, 24, .inl (fun _ => 0))), (a 2, .inl (ca 2, 24, .inl (fun _ => 0))), (a 3, .inl (ca 3, 24, .inl (fun _ => 0))), (a 4, .inl (ca 4, 24, .inl (fun _ => 0))), (a 5, .inl (ca 5, 24, .inr (.inl (fun _ => 0)))), (a 6, .inl (ca 6, 24, .inr (.inl (fun _ => 0))))]) hD hS hA [1, 2, 3, 4, 5, 6, 7] rfl
      refine va_calli (va_runV (As := [.int 1]) (rest := []) ⟨hx, hb, hml, hown, hts⟩ (c_X12_given l dC dI a g0 ca (fun _ => 0) (fun _ => 0) (fun _ => 0) (fun _ => 0) (fun _ => 0) (fun _ => 0) 1 H.size) (cwV 1 hts tL_law_X12_given rfl rfl rfl (by decide +kernel) ⟨Nat.le_of_ble_eq_true rfl, Nat.le_of_ble_eq_true rfl⟩) ⟨fun a U g mk q => by obtain ⟨q0, q1, qP, qK, qD⟩ := q; exact ⟨q0, q1, qP, va_K.moved (u := U) (U := U.calling g mk a) (Vm.Alike.refl U.vm) qK, qD⟩, va_recv hKc hPc (ci := 11) (q0 := 0) rfl rfl, fun U hU hW => ⟨rfl, by rw [hU], by rw [hU]; exact hPc, va_K.moved hW.alike hKc, hDc.weaken (fun _ _ _ _ => trivial)⟩⟩ rfl rfl hl.1 rfl (lv_room (Nat.le_of_ble_eq_true rfl)) dL_law_344 ⟨Nat.le_of_ble_eq_true rfl, Nat.le_of_ble_eq_true rfl⟩) hS (fun q _ h => hFc q h) hFc (fun r_19 u_20 t H1 locs ht hvm hw hB hz1 hk1 hS => ?_)
      obtain ⟨ul_21, um_22, up_23, ut_24⟩ := u_20
      dsimp only at hw
      obtain ⟨hP1, hK1, hD1⟩ := hB
      rw [ht] at hP1
      have hK1 := va_K.moved hvm.symm hK1
      have hK := hK.app hK1
      obtain ⟨hP, hD⟩ := va_join (wr := [(hm, .inr (5, [.int 0, .int 0])), (a 13, .inl (ca 13, 100, .inl (fun _ => 0))), (a 14, .inl (ca 14, 100, .inr (.inl (fun _ => 0)))), (ho, .inl (co, 1, .inr (.inl (u_7))))]) (w1 := [(g0, .inr (11, mF a ul_21 um_22 up_23 ut_24))]) hP hD [1, 2, 3, 4, 5, 6, 7] [0, 8, 9, 10] rfl rfl (by decide) (by decide) hk1 hFc hP1 hD1
      generalize H1 = H at hP hS ⊢
      have hP : va_P (dC, dI) vwCl [(hm, .inr (5, [.int 0, .int 0])), (a 13, .inl (ca 13, 100, .inl (fun _ => 0))), (a 14, .inl (ca 14, 100, .inr (.inl (fun _ => 0)))), (ho, .inl (co, 1, .inr (.inl (u_7)))), (g0, .inr (11, mF a ul_21 um_22 up_23 ut_24))] H := hP
      have hD : va_D (lA s) [(hm, .inr (5, [.int 0, .int 0])), (a 13, .inl (ca 13, 100, .inl (fun _ => 0))), (a 14, .inl (ca 14, 100, .inr (.inl (fun _ => 0)))), (ho, .inl (co, 1, .inr (.inl (u_7)))), (g0, .inr (11, mF a ul_21 um_22 up_23 ut_24))] := hD
      have hK : va_K (dC, dI) vwCl [(cx 1, .object RX5), (cx 2, .long), (cx 3, .byte), (ca 1, .int), (ca 2, .int), (ca 3, .int), (ca 4, .int), (ca 5, .long), (ca 6, .long), (ca 13, .int), (ca 14, .long), (co, .long), (co, .long)] s := hK
      refine W.widen (k := 27) (n := 78349) (by decide +kernel) (by decide +kernel) ?_
      obtain ⟨rfl, hv_25⟩ := hw
      obtain rfl : r_19 = 0 := hv_25 rfl
      refine lv_istore (lv' := [(6, .int 0), (5, .int 0), (4, .int 0), (3, .ref ho), (2, .ref g0), (1, .ref h0), (0, .ref b)]) hx hb dL_law_347 hl (by decide) rfl (fun ls hl => ?_)
      refine lv_aload_n hx hb dL_law_349 rfl (lv_at hl 4 rfl) ?_
      have hPc := hP.sub (ws' := [(g0, .inr (11, mF a ul_21 um_22 up_23 0))]) [4] rfl
      have hDc : va_D (fun _ => True) ([] : va_W) := nd_0
      have hKc := hK.sub (tys' := []) [] rfl
      have hFc := va_free (wc := []) hD hS hA [] rfl
      refine va_calli (va_runV (As := []) (rest := []) ⟨hx, hb, hml, hown, hts⟩ (c_X12_thrown l dC dI a g0 ul_21 um_22 up_23 0 H.size) (cwV 0 hts tL_law_X12_thrown rfl rfl rfl (by decide +kernel) ⟨Nat.le_of_ble_eq_true rfl, Nat.le_of_ble_eq_true rfl⟩) ⟨fun a U g mk q => by obtain ⟨q0, q1, qP, qK, qD⟩ := q; exact ⟨q0, q1, qP, va_K.moved (u := U) (U := U.calling g mk a) (Vm.Alike.refl U.vm) qK, qD⟩, va_recv hKc hPc (ci := 11) (q0 := 0) rfl rfl, fun U hU hW => ⟨rfl, by rw [hU], by rw [hU]; exact hPc, va_K.moved hW.alike hKc, nd_0⟩⟩ rfl rfl hl.1 rfl (lv_room (Nat.le_of_ble_eq_true rfl)) dL_law_350 ⟨Nat.le_of_ble_eq_true rfl, Nat.le_of_ble_eq_true rfl⟩) hS (fun q _ h => hFc q h) hFc (fun r_26 u_27 t H1 locs ht hvm hw hB hz1 hk1 hS => ?_)
      have hP := nd_keep hP hk1
      generalize H1 = H at hP hS ⊢
      have hP : va_P (dC, dI) vwCl [(hm, .inr (5, [.int 0, .int 0])), (a 13, .inl (ca 13, 100, .inl (fun _ => 0))), (a 14, .inl (ca 14, 100, .inr (.inl (fun _ => 0)))), (ho, .inl (co, 1, .inr (.inl (u_7)))), (g0, .inr (11, mF a ul_21 um_22 up_23 0))] H := hP
      have hD : va_D (lA s) [(hm, .inr (5, [.int 0, .int 0])), (a 13, .inl (ca 13, 100, .inl (fun _ => 0))), (a 14, .inl (ca 14, 100, .inr (.inl (fun _ => 0)))), (ho, .inl (co, 1, .inr (.inl (u_7)))), (g0, .inr (11, mF a ul_21 um_22 up_23 0))] := hD
      refine W.widen (k := 27) (n := 78349) (by decide +kernel) (by decide +kernel) ?_
      obtain rfl : r_26 = 0 := hw
      refine lv_iload hx hb dL_law_353 (lv_at hl 1 rfl) ?_
      refine lv_icmp_eq (tgt := 360) hx hb dL_law_355 (by decide) (fun c_355 => ?_) (fun c_355 => ?_)
      · refine lv_iload hx hb dL_law_360 (lv_at hl 1 rfl) ?_
        refine lv_if_ne (tgt := 377) hx hb dL_law_362 (by decide) (fun c_362 => ?_) (fun c_362 => ?_)
        · exact absurd c_362 (by decide)
        · refine lv_aload_n hx hb dL_law_365 rfl (lv_at hl 3 rfl) ?_
          refine lv_iconst (v := 0) hx hb dL_law_366 (by decide) ?_
          refine va_lald hx hb hK hP 3 11 rfl rfl (nd_in (i := 0) (n := 1) (by decide)) dL_law_367 ?_
          refine lv_iload hx hb dL_law_368 (lv_at hl 0 rfl) ?_
          refine lv_i2l (v := 0) hx hb dL_law_370 (by decide) ?_
          refine W.lcmp hx hb dL_law_371 ?_
          refine lv_if_eq (tgt := 377) hx hb dL_law_372 (by decide) (fun c_372 => ?_) (fun c_372 => ?_)
          · refine lv_goto (tgt := 2206) hx hb dL_law_377 (by decide) ?_
            refine W.widen (k := 100) (n := 200000) (by decide +kernel) (by decide +kernel) ?_
            exact law_end l hx hb hr hlocks hX hbl hbA hS (lv_sub hl [2, 6] rfl)
          · exact absurd (lcmp0 (hv_8 rfl)) c_372
      · exact absurd c_355 (by decide)
