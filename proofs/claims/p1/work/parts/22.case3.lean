set_option maxHeartbeats 4000000 in
set_option maxRecDepth 100000 in
theorem law_case_11 {p : Program} {e : Env} {s : State} {m : MethodId} {below : List Frame} {meth : Method} {c : Code} (l : Launch) (hl0 : l.stackTraces = false) {b : Nat} {xs : Nat → Int32} (C0 : lw_At p s m meth c b 6 xs) (hG : Gw s) (hZ : Gz (lA s) s s.heap) {dC : Nat → ClassId} {dI : Nat → Nat → Nat} {h0 hm h1 h2 h3 g0 ho : Nat} {a : Nat → Nat} {ca cx : Nat → ClassId} {co : ClassId} {H : Heap} {locs : List Loc} (hK : va_K (dC, dI) vwCl [(cx 1, .object RX5), (cx 2, .long), (cx 3, .byte), (ca 1, .int), (ca 2, .int), (ca 3, .int), (ca 4, .int), (ca 5, .long), (ca 6, .long), (ca 13, .int), (ca 14, .long), (co, .long)] s) (hP : va_P (dC, dI) vwCl [(h0, .inr (10, xF hm h1 h2 h3 0 0 1000)), (hm, .inr (5, [.int 0, .int 0])), (h1, .inl (cx 1, 24, .inr (.inr (.inr (.inr (fun _ => none)))))), (h2, .inl (cx 2, 100, .inr (.inl (fun _ => 0)))), (h3, .inl (cx 3, 100, .inl (fun _ => 0))), (g0, .inr (11, mF a 0 0 1000 0)), (a 1, .inl (ca 1, 24, .inl (fun _ => 0))), (a 2, .inl (ca 2, 24, .inl (fun _ => 0))), (a 3, .inl (ca 3, 24, .inl (fun _ => 0))), (a 4, .inl (ca 4, 24, .inl (fun _ => 0))), (a 5, .inl (ca 5, 24, .inr (.inl (fun _ => 0)))), (a 6, .inl (ca 6, 24, .inr (.inl (fun _ => 0)))), (a 13, .inl (ca 13, 100, .inl (fun _ => 0))), (a 14, .inl (ca 14, 100, .inr (.inl (fun _ => 0)))), (ho, .inl (co, 1, .inr (.inl (fun _ => 0))))] H) (hD : va_D (lA s) [(h0, .inr (10, xF hm h1 h2 h3 0 0 1000)), (hm, .inr (5, [.int 0, .int 0])), (h1, .inl (cx 1, 24, .inr (.inr (.inr (.inr (fun _ => none)))))), (h2, .inl (cx 2, 100, .inr (.inl (fun _ => 0)))), (h3, .inl (cx 3, 100, .inl (fun _ => 0))), (g0, .inr (11, mF a 0 0 1000 0)), (a 1, .inl (ca 1, 24, .inl (fun _ => 0))), (a 2, .inl (ca 2, 24, .inl (fun _ => 0))), (a 3, .inl (ca 3, 24, .inl (fun _ => 0))), (a 4, .inl (ca 4, 24, .inl (fun _ => 0))), (a 5, .inl (ca 5, 24, .inr (.inl (fun _ => 0)))), (a 6, .inl (ca 6, 24, .inr (.inl (fun _ => 0)))), (a 13, .inl (ca 13, 100, .inl (fun _ => 0))), (a 14, .inl (ca 14, 100, .inr (.inl (fun _ => 0)))), (ho, .inl (co, 1, .inr (.inl (fun _ => 0))))]) (hS : va_S (lA s) s.heap H locs) {ls : Array Slot} (hl : lv_has ls 8 [(4, .int 0), (3, .ref ho), (2, .ref g0), (1, .ref h0), (0, .ref b)]) : W p l e room_1 s m #[Value.ref b] below meth c H locs 23 78342 (lw_Z below #[Value.ref b] s) (F0 m 1208 ls []) := by
  obtain ⟨hx, hb, hr, hml, hown, hts0, hX, hbl, hlocks, hgv⟩ := C0
  have hts := hts0
  have hcl := hts0 _ law_cl
  have hA : ∀ q : Nat, s.heap.size ≤ q → lA s q := fun _ h => h
  have hbA : ¬ lA s b := Nat.not_le.mpr hbl
  refine lv_aload_n hx hb dL_law_1208 rfl (lv_at hl 3 rfl) ?_
  refine lv_aload_n hx hb dL_law_1209 rfl (lv_at hl 4 rfl) ?_
  refine lv_iload hx hb dL_law_1210 (lv_at hl 0 rfl) ?_
  refine lv_iconst (v := 1) hx hb dL_law_1212 (by decide) ?_
  refine lv_iadd hx hb dL_law_1213 ?_
  refine lv_topi (fun z_1 ez_1 => ?_)
  obtain rfl : z_1 = 1 := ez_1.trans (by decide)
  refine va_sld hx hb hX hbl hbA hS (nd_in (i := 1) (n := 6) (by decide)) dL_law_1214 ?_
  refine lv_aload_n hx hb dL_law_1215 rfl (lv_at hl 4 rfl) ?_
  refine lv_iload hx hb dL_law_1216 (lv_at hl 0 rfl) ?_
  refine lv_iconst (v := 2) hx hb dL_law_1218 (by decide) ?_
  refine lv_iadd hx hb dL_law_1219 ?_
  refine lv_topi (fun z_2 ez_2 => ?_)
  obtain rfl : z_2 = 2 := ez_2.trans (by decide)
  refine va_sld hx hb hX hbl hbA hS (nd_in (i := 2) (n := 6) (by decide)) dL_law_1220 ?_
  refine lv_aload_n hx hb dL_law_1221 rfl (lv_at hl 4 rfl) ?_
  refine lv_iload hx hb dL_law_1222 (lv_at hl 0 rfl) ?_
  refine lv_iconst (v := 3) hx hb dL_law_1224 (by decide) ?_
  refine lv_iadd hx hb dL_law_1225 ?_
  refine lv_topi (fun z_3 ez_3 => ?_)
  obtain rfl : z_3 = 3 := ez_3.trans (by decide)
  refine va_sld hx hb hX hbl hbA hS (nd_in (i := 3) (n := 6) (by decide)) dL_law_1226 ?_
  refine lv_i2l hx hb dL_law_1227 rfl ?_
  refine lv_bipush (v := 32) hx hb dL_law_1228 (by decide) ?_
  refine lv_lshl hx hb dL_law_1230 rfl ?_
  refine lv_aload_n hx hb dL_law_1231 rfl (lv_at hl 4 rfl) ?_
  refine lv_iload hx hb dL_law_1232 (lv_at hl 0 rfl) ?_
  refine lv_iconst (v := 4) hx hb dL_law_1234 (by decide) ?_
  refine lv_iadd hx hb dL_law_1235 ?_
  refine lv_topi (fun z_4 ez_4 => ?_)
  obtain rfl : z_4 = 4 := ez_4.trans (by decide)
  refine va_sld hx hb hX hbl hbA hS (nd_in (i := 4) (n := 6) (by decide)) dL_law_1236 ?_
  refine lv_i2l hx hb dL_law_1237 rfl ?_
  refine lv_ldc2 (v := 4294967295) hx hb hown hcl dL_law_1238 ?_
  refine lv_land hx hb dL_law_1241 ?_
  refine lv_lor hx hb dL_law_1242 ?_
  refine lv_topl (fun z_5 ez_5 => ?_)
  refine lv_aload_n hx hb dL_law_1243 rfl (lv_at hl 1 rfl) ?_
  have hPc := hP.sub (ws' := [(h0, .inr (10, xF hm h1 h2 h3 0 0 1000))]) [0] rfl
  have hDc : va_D (fun _ => True) ([] : va_W) := nd_0
  have hKc := hK.sub (tys' := []) [] rfl
  have hFc := va_free (wc := []) hD hS hA [] rfl
  refine va_calli (vx_runSW (As := [.ref h0, .int (xs (1 : Int32).toNatClampNeg), .int (xs (2 : Int32).toNatClampNeg), .long z_5, .ref ho]) (rest := []) ⟨hx, hb, hml, hown, hts⟩ (c_L_during l hl0 dC dI h0 hm h1 h2 h3 (xs (1 : Int32).toNatClampNeg) (xs (2 : Int32).toNatClampNeg) z_5 ho H.size) (vx_cwSW 5 hts tL_law_L_during rfl rfl rfl (by decide +kernel) ⟨Nat.le_of_ble_eq_true rfl, Nat.le_of_ble_eq_true rfl⟩) ⟨fun a U g mk q => by obtain ⟨q0, q1, qP, qK, qD, qG, qZ⟩ := q; exact ⟨q0, q1, qP, va_K.moved (u := U) (U := U.calling g mk a) (Vm.Alike.refl U.vm) qK, qD, Gw.same (u := U) (U := U.calling g mk a) rfl qG, Gz.moved (u := U) (U := U.calling g mk a) (Vm.Alike.refl U.vm) qZ⟩, fun U hU hW => ⟨rfl, by rw [hU], by rw [hU]; exact hPc, va_K.moved hW.alike hKc, nd_0, Gw.warm hW hG, Gz.step hZ hS hFc hU hW.alike⟩⟩ rfl rfl hl.1 rfl (lv_room (Nat.le_of_ble_eq_true rfl)) dL_law_1244 ⟨Nat.le_of_ble_eq_true rfl, Nat.le_of_ble_eq_true rfl⟩) hS (fun q _ h => hFc q h) hFc (fun r_6 u_7 t H1 locs ht hvm hw hB hz1 hk1 hS => ?_)
  have hP := nd_keep hP hk1
  generalize H1 = H at hP hS ⊢
  have hP : va_P (dC, dI) vwCl [(h0, .inr (10, xF hm h1 h2 h3 0 0 1000)), (hm, .inr (5, [.int 0, .int 0])), (h1, .inl (cx 1, 24, .inr (.inr (.inr (.inr (fun _ => none)))))), (h2, .inl (cx 2, 100, .inr (.inl (fun _ => 0)))), (h3, .inl (cx 3, 100, .inl (fun _ => 0))), (g0, .inr (11, mF a 0 0 1000 0)), (a 1, .inl (ca 1, 24, .inl (fun _ => 0))), (a 2, .inl (ca 2, 24, .inl (fun _ => 0))), (a 3, .inl (ca 3, 24, .inl (fun _ => 0))), (a 4, .inl (ca 4, 24, .inl (fun _ => 0))), (a 5, .inl (ca 5, 24, .inr (.inl (fun _ => 0)))), (a 6, .inl (ca 6, 24, .inr (.inl (fun _ => 0)))), (a 13, .inl (ca 13, 100, .inl (fun _ => 0))), (a 14, .inl (ca 14, 100, .inr (.inl (fun _ => 0)))), (ho, .inl (co, 1, .inr (.inl (fun _ => 0))))] H := hP
  have hD : va_D (lA s) [(h0, .inr (10, xF hm h1 h2 h3 0 0 1000)), (hm, .inr (5, [.int 0, .int 0])), (h1, .inl (cx 1, 24, .inr (.inr (.inr (.inr (fun _ => none)))))), (h2, .inl (cx 2, 100, .inr (.inl (fun _ => 0)))), (h3, .inl (cx 3, 100, .inl (fun _ => 0))), (g0, .inr (11, mF a 0 0 1000 0)), (a 1, .inl (ca 1, 24, .inl (fun _ => 0))), (a 2, .inl (ca 2, 24, .inl (fun _ => 0))), (a 3, .inl (ca 3, 24, .inl (fun _ => 0))), (a 4, .inl (ca 4, 24, .inl (fun _ => 0))), (a 5, .inl (ca 5, 24, .inr (.inl (fun _ => 0)))), (a 6, .inl (ca 6, 24, .inr (.inl (fun _ => 0)))), (a 13, .inl (ca 13, 100, .inl (fun _ => 0))), (a 14, .inl (ca 14, 100, .inr (.inl (fun _ => 0)))), (ho, .inl (co, 1, .inr (.inl (fun _ => 0))))] := hD
  refine W.widen (k := 24) (n := 78348) (by decide +kernel) (by decide +kernel) ?_
  obtain rfl : r_6 = 1 := hw
  refine lv_istore (lv' := [(5, .int 1), (4, .int 0), (3, .ref ho), (2, .ref g0), (1, .ref h0), (0, .ref b)]) hx hb dL_law_1247 hl (by decide) rfl (fun ls hl => ?_)
  refine lv_aload_n hx hb dL_law_1249 rfl (lv_at hl 3 rfl) ?_
  refine lv_aload_n hx hb dL_law_1250 rfl (lv_at hl 5 rfl) ?_
  refine lv_iload hx hb dL_law_1251 (lv_at hl 1 rfl) ?_
  refine lv_iconst (v := 1) hx hb dL_law_1253 (by decide) ?_
  refine lv_iadd hx hb dL_law_1254 ?_
  refine lv_topi (fun z_8 ez_8 => ?_)
  obtain rfl : z_8 = 1 := ez_8.trans (by decide)
  refine va_sld hx hb hX hbl hbA hS (nd_in (i := 1) (n := 6) (by decide)) dL_law_1255 ?_
  refine lv_aload_n hx hb dL_law_1256 rfl (lv_at hl 5 rfl) ?_
  refine lv_iload hx hb dL_law_1257 (lv_at hl 1 rfl) ?_
  refine lv_iconst (v := 2) hx hb dL_law_1259 (by decide) ?_
  refine lv_iadd hx hb dL_law_1260 ?_
  refine lv_topi (fun z_9 ez_9 => ?_)
  obtain rfl : z_9 = 2 := ez_9.trans (by decide)
  refine va_sld hx hb hX hbl hbA hS (nd_in (i := 2) (n := 6) (by decide)) dL_law_1261 ?_
  refine lv_aload_n hx hb dL_law_1262 rfl (lv_at hl 5 rfl) ?_
  refine lv_iload hx hb dL_law_1263 (lv_at hl 1 rfl) ?_
  refine lv_iconst (v := 3) hx hb dL_law_1265 (by decide) ?_
  refine lv_iadd hx hb dL_law_1266 ?_
  refine lv_topi (fun z_10 ez_10 => ?_)
  obtain rfl : z_10 = 3 := ez_10.trans (by decide)
  refine va_sld hx hb hX hbl hbA hS (nd_in (i := 3) (n := 6) (by decide)) dL_law_1267 ?_
  refine lv_i2l hx hb dL_law_1268 rfl ?_
  refine lv_bipush (v := 32) hx hb dL_law_1269 (by decide) ?_
  refine lv_lshl hx hb dL_law_1271 rfl ?_
  refine lv_aload_n hx hb dL_law_1272 rfl (lv_at hl 5 rfl) ?_
  refine lv_iload hx hb dL_law_1273 (lv_at hl 1 rfl) ?_
  refine lv_iconst (v := 4) hx hb dL_law_1275 (by decide) ?_
  refine lv_iadd hx hb dL_law_1276 ?_
  refine lv_topi (fun z_11 ez_11 => ?_)
  obtain rfl : z_11 = 4 := ez_11.trans (by decide)
  refine va_sld hx hb hX hbl hbA hS (nd_in (i := 4) (n := 6) (by decide)) dL_law_1277 ?_
  refine lv_i2l hx hb dL_law_1278 rfl ?_
  refine lv_ldc2 (v := 4294967295) hx hb hown hcl dL_law_1279 ?_
  refine lv_land hx hb dL_law_1282 ?_
  refine lv_lor hx hb dL_law_1283 ?_
  refine lv_topl (fun z_12 ez_12 => ?_)
  have hPc := hP.sub (ws' := [(g0, .inr (11, mF a 0 0 1000 0))]) [5] rfl
  have hDc := hD.sub (ws' := [(g0, .inr (11, mF a 0 0 1000 0))]) [5] (by decide) rfl
  have hKc := hK.sub (tys' := []) [] rfl
  have hFc := va_free (wc := [(g0, .inr (11, mF a 0 0 1000 0))]) hD hS hA [5] rfl
  refine va_calli (va_runV (As := [.int (xs (1 : Int32).toNatClampNeg), .int (xs (2 : Int32).toNatClampNeg), .long z_12]) (rest := []) ⟨hx, hb, hml, hown, hts⟩ (c_X12_during l dC dI a g0 (xs (1 : Int32).toNatClampNeg) (xs (2 : Int32).toNatClampNeg) z_12 H.size) (cwV 3 hts tL_law_X12_during rfl rfl rfl (by decide +kernel) ⟨Nat.le_of_ble_eq_true rfl, Nat.le_of_ble_eq_true rfl⟩) ⟨fun a U g mk q => by obtain ⟨q0, q1, qP, qK, qD⟩ := q; exact ⟨q0, q1, qP, va_K.moved (u := U) (U := U.calling g mk a) (Vm.Alike.refl U.vm) qK, qD⟩, va_recv hKc hPc (ci := 11) (q0 := 0) rfl rfl, fun U hU hW => ⟨rfl, by rw [hU], by rw [hU]; exact hPc, va_K.moved hW.alike hKc, hDc.weaken (fun _ _ _ _ => trivial)⟩⟩ rfl rfl hl.1 rfl (lv_room (Nat.le_of_ble_eq_true rfl)) dL_law_1284 ⟨Nat.le_of_ble_eq_true rfl, Nat.le_of_ble_eq_true rfl⟩) hS (fun q _ h => hFc q h) hFc (fun r_13 u_14 t H1 locs ht hvm hw hB hz1 hk1 hS => ?_)
  obtain ⟨ul_15, um_16, up_17, ut_18⟩ := u_14
  dsimp only at hw
  obtain ⟨hP1, hK1, hD1⟩ := hB
  rw [ht] at hP1
  have hK1 := va_K.moved hvm.symm hK1
  have hK := hK.app hK1
  obtain ⟨hP, hD⟩ := va_join (wr := [(h0, .inr (10, xF hm h1 h2 h3 0 0 1000)), (hm, .inr (5, [.int 0, .int 0])), (h1, .inl (cx 1, 24, .inr (.inr (.inr (.inr (fun _ => none)))))), (h2, .inl (cx 2, 100, .inr (.inl (fun _ => 0)))), (h3, .inl (cx 3, 100, .inl (fun _ => 0))), (a 1, .inl (ca 1, 24, .inl (fun _ => 0))), (a 2, .inl (ca 2, 24, .inl (fun _ => 0))), (a 3, .inl (ca 3, 24, .inl (fun _ => 0))), (a 4, .inl (ca 4, 24, .inl (fun _ => 0))), (a 5, .inl (ca 5, 24, .inr (.inl (fun _ => 0)))), (a 6, .inl (ca 6, 24, .inr (.inl (fun _ => 0)))), (a 13, .inl (ca 13, 100, .inl (fun _ => 0))), (a 14, .inl (ca 14, 100, .inr (.inl (fun _ => 0)))), (ho, .inl (co, 1, .inr (.inl (fun _ => 0))))]) (w1 := [(g0, .inr (11, mF a ul_15 um_16 up_17 ut_18))]) hP hD [5] [0, 1, 2, 3, 4, 6, 7, 8, 9, 10, 11, 12, 13, 14] rfl rfl (by decide) (by decide) hk1 hFc hP1 hD1
  generalize H1 = H at hP hS ⊢
  have hP : va_P (dC, dI) vwCl [(h0, .inr (10, xF hm h1 h2 h3 0 0 1000)), (hm, .inr (5, [.int 0, .int 0])), (h1, .inl (cx 1, 24, .inr (.inr (.inr (.inr (fun _ => none)))))), (h2, .inl (cx 2, 100, .inr (.inl (fun _ => 0)))), (h3, .inl (cx 3, 100, .inl (fun _ => 0))), (a 1, .inl (ca 1, 24, .inl (fun _ => 0))), (a 2, .inl (ca 2, 24, .inl (fun _ => 0))), (a 3, .inl (ca 3, 24, .inl (fun _ => 0))), (a 4, .inl (ca 4, 24, .inl (fun _ => 0))), (a 5, .inl (ca 5, 24, .inr (.inl (fun _ => 0)))), (a 6, .inl (ca 6, 24, .inr (.inl (fun _ => 0)))), (a 13, .inl (ca 13, 100, .inl (fun _ => 0))), (a 14, .inl (ca 14, 100, .inr (.inl (fun _ => 0)))), (ho, .inl (co, 1, .inr (.inl (fun _ => 0)))), (g0, .inr (11, mF a ul_15 um_16 up_17 ut_18))] H := hP
  have hD : va_D (lA s) [(h0, .inr (10, xF hm h1 h2 h3 0 0 1000)), (hm, .inr (5, [.int 0, .int 0])), (h1, .inl (cx 1, 24, .inr (.inr (.inr (.inr (fun _ => none)))))), (h2, .inl (cx 2, 100, .inr (.inl (fun _ => 0)))), (h3, .inl (cx 3, 100, .inl (fun _ => 0))), (a 1, .inl (ca 1, 24, .inl (fun _ => 0))), (a 2, .inl (ca 2, 24, .inl (fun _ => 0))), (a 3, .inl (ca 3, 24, .inl (fun _ => 0))), (a 4, .inl (ca 4, 24, .inl (fun _ => 0))), (a 5, .inl (ca 5, 24, .inr (.inl (fun _ => 0)))), (a 6, .inl (ca 6, 24, .inr (.inl (fun _ => 0)))), (a 13, .inl (ca 13, 100, .inl (fun _ => 0))), (a 14, .inl (ca 14, 100, .inr (.inl (fun _ => 0)))), (ho, .inl (co, 1, .inr (.inl (fun _ => 0)))), (g0, .inr (11, mF a ul_15 um_16 up_17 ut_18))] := hD
  have hK : va_K (dC, dI) vwCl [(cx 1, .object RX5), (cx 2, .long), (cx 3, .byte), (ca 1, .int), (ca 2, .int), (ca 3, .int), (ca 4, .int), (ca 5, .long), (ca 6, .long), (ca 13, .int), (ca 14, .long), (co, .long)] s := hK
  refine W.widen (k := 24) (n := 78348) (by decide +kernel) (by decide +kernel) ?_
  obtain rfl : ut_18 = 1 := hw
  refine lv_istore (lv' := [(6, .int r_13), (5, .int 1), (4, .int 0), (3, .ref ho), (2, .ref g0), (1, .ref h0), (0, .ref b)]) hx hb dL_law_1287 hl (by decide) rfl (fun ls hl => ?_)
  refine lv_aload_n hx hb dL_law_1289 rfl (lv_at hl 4 rfl) ?_
  have hPc := hP.sub (ws' := [(g0, .inr (11, mF a ul_15 um_16 up_17 1))]) [14] rfl
  have hDc : va_D (fun _ => True) ([] : va_W) := nd_0
  have hKc := hK.sub (tys' := []) [] rfl
  have hFc := va_free (wc := []) hD hS hA [] rfl
  refine va_calli (va_runV (As := []) (rest := []) ⟨hx, hb, hml, hown, hts⟩ (c_X12_thrown l dC dI a g0 ul_15 um_16 up_17 1 H.size) (cwV 0 hts tL_law_X12_thrown rfl rfl rfl (by decide +kernel) ⟨Nat.le_of_ble_eq_true rfl, Nat.le_of_ble_eq_true rfl⟩) ⟨fun a U g mk q => by obtain ⟨q0, q1, qP, qK, qD⟩ := q; exact ⟨q0, q1, qP, va_K.moved (u := U) (U := U.calling g mk a) (Vm.Alike.refl U.vm) qK, qD⟩, va_recv hKc hPc (ci := 11) (q0 := 0) rfl rfl, fun U hU hW => ⟨rfl, by rw [hU], by rw [hU]; exact hPc, va_K.moved hW.alike hKc, nd_0⟩⟩ rfl rfl hl.1 rfl (lv_room (Nat.le_of_ble_eq_true rfl)) dL_law_1290 ⟨Nat.le_of_ble_eq_true rfl, Nat.le_of_ble_eq_true rfl⟩) hS (fun q _ h => hFc q h) hFc (fun r_20 u_21 t H1 locs ht hvm hw hB hz1 hk1 hS => ?_)
  have hP := nd_keep hP hk1
  generalize H1 = H at hP hS ⊢
  have hP : va_P (dC, dI) vwCl [(h0, .inr (10, xF hm h1 h2 h3 0 0 1000)), (hm, .inr (5, [.int 0, .int 0])), (h1, .inl (cx 1, 24, .inr (.inr (.inr (.inr (fun _ => none)))))), (h2, .inl (cx 2, 100, .inr (.inl (fun _ => 0)))), (h3, .inl (cx 3, 100, .inl (fun _ => 0))), (a 1, .inl (ca 1, 24, .inl (fun _ => 0))), (a 2, .inl (ca 2, 24, .inl (fun _ => 0))), (a 3, .inl (ca 3, 24, .inl (fun _ => 0))), (a 4, .inl (ca 4, 24, .inl (fun _ => 0))), (a 5, .inl (ca 5, 24, .inr (.inl (fun _ => 0)))), (a 6, .inl (ca 6, 24, .inr (.inl (fun _ => 0)))), (a 13, .inl (ca 13, 100, .inl (fun _ => 0))), (a 14, .inl (ca 14, 100, .inr (.inl (fun _ => 0)))), (ho, .inl (co, 1, .inr (.inl (fun _ => 0)))), (g0, .inr (11, mF a ul_15 um_16 up_17 1))] H := hP
  have hD : va_D (lA s) [(h0, .inr (10, xF hm h1 h2 h3 0 0 1000)), (hm, .inr (5, [.int 0, .int 0])), (h1, .inl (cx 1, 24, .inr (.inr (.inr (.inr (fun _ => none)))))), (h2, .inl (cx 2, 100, .inr (.inl (fun _ => 0)))), (h3, .inl (cx 3, 100, .inl (fun _ => 0))), (a 1, .inl (ca 1, 24, .inl (fun _ => 0))), (a 2, .inl (ca 2, 24, .inl (fun _ => 0))), (a 3, .inl (ca 3, 24, .inl (fun _ => 0))), (a 4, .inl (ca 4, 24, .inl (fun _ => 0))), (a 5, .inl (ca 5, 24, .inr (.inl (fun _ => 0)))), (a 6, .inl (ca 6, 24, .inr (.inl (fun _ => 0)))), (a 13, .inl (ca 13, 100, .inl (fun _ => 0))), (a 14, .inl (ca 14, 100, .inr (.inl (fun _ => 0)))), (ho, .inl (co, 1, .inr (.inl (fun _ => 0)))), (g0, .inr (11, mF a ul_15 um_16 up_17 1))] := hD
  refine W.widen (k := 24) (n := 78348) (by decide +kernel) (by decide +kernel) ?_
  obtain rfl : r_20 = 1 := hw
  refine lv_iload hx hb dL_law_1293 (lv_at hl 1 rfl) ?_
  refine lv_icmp_eq (tgt := 1300) hx hb dL_law_1295 (by decide) (fun c_1295 => ?_) (fun c_1295 => ?_)
  · refine lv_iload hx hb dL_law_1300 (lv_at hl 1 rfl) ?_
    refine lv_if_ne (tgt := 1317) hx hb dL_law_1302 (by decide) (fun c_1302 => ?_) (fun c_1302 => ?_)
    · refine lv_goto (tgt := 2206) hx hb dL_law_1317 (by decide) ?_
      refine W.widen (k := 100) (n := 200000) (by decide +kernel) (by decide +kernel) ?_
      exact law_end l hx hb hr hlocks hX hbl hbA hS (lv_sub hl [2, 6] rfl)
    · exact absurd c_1302 (by decide)
  · exact absurd c_1295 (by decide)
set_option maxHeartbeats 4000000 in
set_option maxRecDepth 100000 in
theorem law_case_12 {p : Program} {e : Env} {s : State} {m : MethodId} {below : List Frame} {meth : Method} {c : Code} (l : Launch) (hl0 : l.stackTraces = false) {b : Nat} {xs : Nat → Int32} (C0 : lw_At p s m meth c b 6 xs) (hG : Gw s) (hZ : Gz (lA s) s s.heap) {dC : Nat → ClassId} {dI : Nat → Nat → Nat} {h0 hm h1 h2 h3 g0 ho : Nat} {a : Nat → Nat} {ca cx : Nat → ClassId} {co : ClassId} {H : Heap} {locs : List Loc} (hK : va_K (dC, dI) vwCl [(cx 1, .object RX5), (cx 2, .long), (cx 3, .byte), (ca 1, .int), (ca 2, .int), (ca 3, .int), (ca 4, .int), (ca 5, .long), (ca 6, .long), (ca 13, .int), (ca 14, .long), (co, .long)] s) (hP : va_P (dC, dI) vwCl [(h0, .inr (10, xF hm h1 h2 h3 0 0 1000)), (hm, .inr (5, [.int 0, .int 0])), (h1, .inl (cx 1, 24, .inr (.inr (.inr (.inr (fun _ => none)))))), (h2, .inl (cx 2, 100, .inr (.inl (fun _ => 0)))), (h3, .inl (cx 3, 100, .inl (fun _ => 0))), (g0, .inr (11, mF a 0 0 1000 0)), (a 1, .inl (ca 1, 24, .inl (fun _ => 0))), (a 2, .inl (ca 2, 24, .inl (fun _ => 0))), (a 3, .inl (ca 3, 24, .inl (fun _ => 0))), (a 4, .inl (ca 4, 24, .inl (fun _ => 0))), (a 5, .inl (ca 5, 24, .inr (.inl (fun _ => 0)))), (a 6, .inl (ca 6, 24, .inr (.inl (fun _ => 0)))), (a 13, .inl (ca 13, 100, .inl (fun _ => 0))), (a 14, .inl (ca 14, 100, .inr (.inl (fun _ => 0)))), (ho, .inl (co, 1, .inr (.inl (fun _ => 0))))] H) (hD : va_D (lA s) [(h0, .inr (10, xF hm h1 h2 h3 0 0 1000)), (hm, .inr (5, [.int 0, .int 0])), (h1, .inl (cx 1, 24, .inr (.inr (.inr (.inr (fun _ => none)))))), (h2, .inl (cx 2, 100, .inr (.inl (fun _ => 0)))), (h3, .inl (cx 3, 100, .inl (fun _ => 0))), (g0, .inr (11, mF a 0 0 1000 0)), (a 1, .inl (ca 1, 24, .inl (fun _ => 0))), (a 2, .inl (ca 2, 24, .inl (fun _ => 0))), (a 3, .inl (ca 3, 24, .inl (fun _ => 0))), (a 4, .inl (ca 4, 24, .inl (fun _ => 0))), (a 5, .inl (ca 5, 24, .inr (.inl (fun _ => 0)))), (a 6, .inl (ca 6, 24, .inr (.inl (fun _ => 0)))), (a 13, .inl (ca 13, 100, .inl (fun _ => 0))), (a 14, .inl (ca 14, 100, .inr (.inl (fun _ => 0)))), (ho, .inl (co, 1, .inr (.inl (fun _ => 0))))]) (hS : va_S (lA s) s.heap H locs) {ls : Array Slot} (hl : lv_has ls 8 [(4, .int 0), (3, .ref ho), (2, .ref g0), (1, .ref h0), (0, .ref b)]) : W p l e room_1 s m #[Value.ref b] below meth c H locs 23 78342 (lw_Z below #[Value.ref b] s) (F0 m 1320 ls []) := by
  obtain ⟨hx, hb, hr, hml, hown, hts0, hX, hbl, hlocks, hgv⟩ := C0
  have hts := hts0
  have hcl := hts0 _ law_cl
  have hA : ∀ q : Nat, s.heap.size ≤ q → lA s q := fun _ h => h
  have hbA : ¬ lA s b := Nat.not_le.mpr hbl
  refine lv_aload_n hx hb dL_law_1320 rfl (lv_at hl 3 rfl) ?_
  refine lv_aload_n hx hb dL_law_1321 rfl (lv_at hl 4 rfl) ?_
  refine lv_iload hx hb dL_law_1322 (lv_at hl 0 rfl) ?_
  refine lv_iconst (v := 1) hx hb dL_law_1324 (by decide) ?_
  refine lv_iadd hx hb dL_law_1325 ?_
  refine lv_topi (fun z_1 ez_1 => ?_)
  obtain rfl : z_1 = 1 := ez_1.trans (by decide)
  refine va_sld hx hb hX hbl hbA hS (nd_in (i := 1) (n := 6) (by decide)) dL_law_1326 ?_
  refine lv_aload_n hx hb dL_law_1327 rfl (lv_at hl 4 rfl) ?_
  refine lv_iload hx hb dL_law_1328 (lv_at hl 0 rfl) ?_
  refine lv_iconst (v := 2) hx hb dL_law_1330 (by decide) ?_
  refine lv_iadd hx hb dL_law_1331 ?_
  refine lv_topi (fun z_2 ez_2 => ?_)
  obtain rfl : z_2 = 2 := ez_2.trans (by decide)
  refine va_sld hx hb hX hbl hbA hS (nd_in (i := 2) (n := 6) (by decide)) dL_law_1332 ?_
  refine lv_aload_n hx hb dL_law_1333 rfl (lv_at hl 4 rfl) ?_
  refine lv_iload hx hb dL_law_1334 (lv_at hl 0 rfl) ?_
  refine lv_iconst (v := 3) hx hb dL_law_1336 (by decide) ?_
  refine lv_iadd hx hb dL_law_1337 ?_
  refine lv_topi (fun z_3 ez_3 => ?_)
  obtain rfl : z_3 = 3 := ez_3.trans (by decide)
  refine va_sld hx hb hX hbl hbA hS (nd_in (i := 3) (n := 6) (by decide)) dL_law_1338 ?_
  refine lv_i2l hx hb dL_law_1339 rfl ?_
  refine lv_bipush (v := 32) hx hb dL_law_1340 (by decide) ?_
  refine lv_lshl hx hb dL_law_1342 rfl ?_
  refine lv_aload_n hx hb dL_law_1343 rfl (lv_at hl 4 rfl) ?_
  refine lv_iload hx hb dL_law_1344 (lv_at hl 0 rfl) ?_
  refine lv_iconst (v := 4) hx hb dL_law_1346 (by decide) ?_
  refine lv_iadd hx hb dL_law_1347 ?_
  refine lv_topi (fun z_4 ez_4 => ?_)
  obtain rfl : z_4 = 4 := ez_4.trans (by decide)
  refine va_sld hx hb hX hbl hbA hS (nd_in (i := 4) (n := 6) (by decide)) dL_law_1348 ?_
  refine lv_i2l hx hb dL_law_1349 rfl ?_
  refine lv_ldc2 (v := 4294967295) hx hb hown hcl dL_law_1350 ?_
  refine lv_land hx hb dL_law_1353 ?_
  refine lv_lor hx hb dL_law_1354 ?_
  refine lv_topl (fun z_5 ez_5 => ?_)
  refine lv_aload_n hx hb dL_law_1355 rfl (lv_at hl 1 rfl) ?_
  have hPc := hP.sub (ws' := [(h0, .inr (10, xF hm h1 h2 h3 0 0 1000))]) [0] rfl
  have hDc : va_D (fun _ => True) ([] : va_W) := nd_0
  have hKc := hK.sub (tys' := []) [] rfl
  have hFc := va_free (wc := []) hD hS hA [] rfl
  refine va_calli (vx_runSW (As := [.ref h0, .int (xs (1 : Int32).toNatClampNeg), .int (xs (2 : Int32).toNatClampNeg), .long z_5, .ref ho]) (rest := []) ⟨hx, hb, hml, hown, hts⟩ (c_L_after l hl0 dC dI h0 hm h1 h2 h3 (xs (1 : Int32).toNatClampNeg) (xs (2 : Int32).toNatClampNeg) z_5 ho H.size) (vx_cwSW 5 hts tL_law_L_after rfl rfl rfl (by decide +kernel) ⟨Nat.le_of_ble_eq_true rfl, Nat.le_of_ble_eq_true rfl⟩) ⟨fun a U g mk q => by obtain ⟨q0, q1, qP, qK, qD, qG, qZ⟩ := q; exact ⟨q0, q1, qP, va_K.moved (u := U) (U := U.calling g mk a) (Vm.Alike.refl U.vm) qK, qD, Gw.same (u := U) (U := U.calling g mk a) rfl qG, Gz.moved (u := U) (U := U.calling g mk a) (Vm.Alike.refl U.vm) qZ⟩, fun U hU hW => ⟨rfl, by rw [hU], by rw [hU]; exact hPc, va_K.moved hW.alike hKc, nd_0, Gw.warm hW hG, Gz.step hZ hS hFc hU hW.alike⟩⟩ rfl rfl hl.1 rfl (lv_room (Nat.le_of_ble_eq_true rfl)) dL_law_1356 ⟨Nat.le_of_ble_eq_true rfl, Nat.le_of_ble_eq_true rfl⟩) hS (fun q _ h => hFc q h) hFc (fun r_6 u_7 t H1 locs ht hvm hw hB hz1 hk1 hS => ?_)
  have hP := nd_keep hP hk1
  generalize H1 = H at hP hS ⊢
  have hP : va_P (dC, dI) vwCl [(h0, .inr (10, xF hm h1 h2 h3 0 0 1000)), (hm, .inr (5, [.int 0, .int 0])), (h1, .inl (cx 1, 24, .inr (.inr (.inr (.inr (fun _ => none)))))), (h2, .inl (cx 2, 100, .inr (.inl (fun _ => 0)))), (h3, .inl (cx 3, 100, .inl (fun _ => 0))), (g0, .inr (11, mF a 0 0 1000 0)), (a 1, .inl (ca 1, 24, .inl (fun _ => 0))), (a 2, .inl (ca 2, 24, .inl (fun _ => 0))), (a 3, .inl (ca 3, 24, .inl (fun _ => 0))), (a 4, .inl (ca 4, 24, .inl (fun _ => 0))), (a 5, .inl (ca 5, 24, .inr (.inl (fun _ => 0)))), (a 6, .inl (ca 6, 24, .inr (.inl (fun _ => 0)))), (a 13, .inl (ca 13, 100, .inl (fun _ => 0))), (a 14, .inl (ca 14, 100, .inr (.inl (fun _ => 0)))), (ho, .inl (co, 1, .inr (.inl (fun _ => 0))))] H := hP
  have hD : va_D (lA s) [(h0, .inr (10, xF hm h1 h2 h3 0 0 1000)), (hm, .inr (5, [.int 0, .int 0])), (h1, .inl (cx 1, 24, .inr (.inr (.inr (.inr (fun _ => none)))))), (h2, .inl (cx 2, 100, .inr (.inl (fun _ => 0)))), (h3, .inl (cx 3, 100, .inl (fun _ => 0))), (g0, .inr (11, mF a 0 0 1000 0)), (a 1, .inl (ca 1, 24, .inl (fun _ => 0))), (a 2, .inl (ca 2, 24, .inl (fun _ => 0))), (a 3, .inl (ca 3, 24, .inl (fun _ => 0))), (a 4, .inl (ca 4, 24, .inl (fun _ => 0))), (a 5, .inl (ca 5, 24, .inr (.inl (fun _ => 0)))), (a 6, .inl (ca 6, 24, .inr (.inl (fun _ => 0)))), (a 13, .inl (ca 13, 100, .inl (fun _ => 0))), (a 14, .inl (ca 14, 100, .inr (.inl (fun _ => 0)))), (ho, .inl (co, 1, .inr (.inl (fun _ => 0))))] := hD
  refine W.widen (k := 24) (n := 78348) (by decide +kernel) (by decide +kernel) ?_
  obtain rfl : r_6 = 1 := hw
  refine lv_istore (lv' := [(5, .int 1), (4, .int 0), (3, .ref ho), (2, .ref g0), (1, .ref h0), (0, .ref b)]) hx hb dL_law_1359 hl (by decide) rfl (fun ls hl => ?_)
  refine lv_aload_n hx hb dL_law_1361 rfl (lv_at hl 3 rfl) ?_
  refine lv_aload_n hx hb dL_law_1362 rfl (lv_at hl 5 rfl) ?_
  refine lv_iload hx hb dL_law_1363 (lv_at hl 1 rfl) ?_
  refine lv_iconst (v := 1) hx hb dL_law_1365 (by decide) ?_
  refine lv_iadd hx hb dL_law_1366 ?_
  refine lv_topi (fun z_8 ez_8 => ?_)
  obtain rfl : z_8 = 1 := ez_8.trans (by decide)
  refine va_sld hx hb hX hbl hbA hS (nd_in (i := 1) (n := 6) (by decide)) dL_law_1367 ?_
  refine lv_aload_n hx hb dL_law_1368 rfl (lv_at hl 5 rfl) ?_
  refine lv_iload hx hb dL_law_1369 (lv_at hl 1 rfl) ?_
  refine lv_iconst (v := 2) hx hb dL_law_1371 (by decide) ?_
  refine lv_iadd hx hb dL_law_1372 ?_
  refine lv_topi (fun z_9 ez_9 => ?_)
  obtain rfl : z_9 = 2 := ez_9.trans (by decide)
  refine va_sld hx hb hX hbl hbA hS (nd_in (i := 2) (n := 6) (by decide)) dL_law_1373 ?_
  refine lv_aload_n hx hb dL_law_1374 rfl (lv_at hl 5 rfl) ?_
  refine lv_iload hx hb dL_law_1375 (lv_at hl 1 rfl) ?_
  refine lv_iconst (v := 3) hx hb dL_law_1377 (by decide) ?_
  refine lv_iadd hx hb dL_law_1378 ?_
  refine lv_topi (fun z_10 ez_10 => ?_)
  obtain rfl : z_10 = 3 := ez_10.trans (by decide)
  refine va_sld hx hb hX hbl hbA hS (nd_in (i := 3) (n := 6) (by decide)) dL_law_1379 ?_
  refine lv_i2l hx hb dL_law_1380 rfl ?_
  refine lv_bipush (v := 32) hx hb dL_law_1381 (by decide) ?_
  refine lv_lshl hx hb dL_law_1383 rfl ?_
  refine lv_aload_n hx hb dL_law_1384 rfl (lv_at hl 5 rfl) ?_
  refine lv_iload hx hb dL_law_1385 (lv_at hl 1 rfl) ?_
  refine lv_iconst (v := 4) hx hb dL_law_1387 (by decide) ?_
  refine lv_iadd hx hb dL_law_1388 ?_
  refine lv_topi (fun z_11 ez_11 => ?_)
  obtain rfl : z_11 = 4 := ez_11.trans (by decide)
  refine va_sld hx hb hX hbl hbA hS (nd_in (i := 4) (n := 6) (by decide)) dL_law_1389 ?_
  refine lv_i2l hx hb dL_law_1390 rfl ?_
  refine lv_ldc2 (v := 4294967295) hx hb hown hcl dL_law_1391 ?_
  refine lv_land hx hb dL_law_1394 ?_
  refine lv_lor hx hb dL_law_1395 ?_
  refine lv_topl (fun z_12 ez_12 => ?_)
  have hPc := hP.sub (ws' := [(g0, .inr (11, mF a 0 0 1000 0))]) [5] rfl
  have hDc := hD.sub (ws' := [(g0, .inr (11, mF a 0 0 1000 0))]) [5] (by decide) rfl
  have hKc := hK.sub (tys' := []) [] rfl
  have hFc := va_free (wc := [(g0, .inr (11, mF a 0 0 1000 0))]) hD hS hA [5] rfl
  refine va_calli (va_runV (As := [.int (xs (1 : Int32).toNatClampNeg), .int (xs (2 : Int32).toNatClampNeg), .long z_12]) (rest := []) ⟨hx, hb, hml, hown, hts⟩ (c_X12_after l dC dI a g0 (xs (1 : Int32).toNatClampNeg) (xs (2 : Int32).toNatClampNeg) z_12 H.size) (cwV 3 hts tL_law_X12_after rfl rfl rfl (by decide +kernel) ⟨Nat.le_of_ble_eq_true rfl, Nat.le_of_ble_eq_true rfl⟩) ⟨fun a U g mk q => by obtain ⟨q0, q1, qP, qK, qD⟩ := q; exact ⟨q0, q1, qP, va_K.moved (u := U) (U := U.calling g mk a) (Vm.Alike.refl U.vm) qK, qD⟩, va_recv hKc hPc (ci := 11) (q0 := 0) rfl rfl, fun U hU hW => ⟨rfl, by rw [hU], by rw [hU]; exact hPc, va_K.moved hW.alike hKc, hDc.weaken (fun _ _ _ _ => trivial)⟩⟩ rfl rfl hl.1 rfl (lv_room (Nat.le_of_ble_eq_true rfl)) dL_law_1396 ⟨Nat.le_of_ble_eq_true rfl, Nat.le_of_ble_eq_true rfl⟩) hS (fun q _ h => hFc q h) hFc (fun r_13 u_14 t H1 locs ht hvm hw hB hz1 hk1 hS => ?_)
  obtain ⟨ul_15, um_16, up_17, ut_18⟩ := u_14
  dsimp only at hw
  obtain ⟨hP1, hK1, hD1⟩ := hB
  rw [ht] at hP1
  have hK1 := va_K.moved hvm.symm hK1
  have hK := hK.app hK1
  obtain ⟨hP, hD⟩ := va_join (wr := [(h0, .inr (10, xF hm h1 h2 h3 0 0 1000)), (hm, .inr (5, [.int 0, .int 0])), (h1, .inl (cx 1, 24, .inr (.inr (.inr (.inr (fun _ => none)))))), (h2, .inl (cx 2, 100, .inr (.inl (fun _ => 0)))), (h3, .inl (cx 3, 100, .inl (fun _ => 0))), (a 1, .inl (ca 1, 24, .inl (fun _ => 0))), (a 2, .inl (ca 2, 24, .inl (fun _ => 0))), (a 3, .inl (ca 3, 24, .inl (fun _ => 0))), (a 4, .inl (ca 4, 24, .inl (fun _ => 0))), (a 5, .inl (ca 5, 24, .inr (.inl (fun _ => 0)))), (a 6, .inl (ca 6, 24, .inr (.inl (fun _ => 0)))), (a 13, .inl (ca 13, 100, .inl (fun _ => 0))), (a 14, .inl (ca 14, 100, .inr (.inl (fun _ => 0)))), (ho, .inl (co, 1, .inr (.inl (fun _ => 0))))]) (w1 := [(g0, .inr (11, mF a ul_15 um_16 up_17 ut_18))]) hP hD [5] [0, 1, 2, 3, 4, 6, 7, 8, 9, 10, 11, 12, 13, 14] rfl rfl (by decide) (by decide) hk1 hFc hP1 hD1
  generalize H1 = H at hP hS ⊢
  have hP : va_P (dC, dI) vwCl [(h0, .inr (10, xF hm h1 h2 h3 0 0 1000)), (hm, .inr (5, [.int 0, .int 0])), (h1, .inl (cx 1, 24, .inr (.inr (.inr (.inr (fun _ => none)))))), (h2, .inl (cx 2, 100, .inr (.inl (fun _ => 0)))), (h3, .inl (cx 3, 100, .inl (fun _ => 0))), (a 1, .inl (ca 1, 24, .inl (fun _ => 0))), (a 2, .inl (ca 2, 24, .inl (fun _ => 0))), (a 3, .inl (ca 3, 24, .inl (fun _ => 0))), (a 4, .inl (ca 4, 24, .inl (fun _ => 0))), (a 5, .inl (ca 5, 24, .inr (.inl (fun _ => 0)))), (a 6, .inl (ca 6, 24, .inr (.inl (fun _ => 0)))), (a 13, .inl (ca 13, 100, .inl (fun _ => 0))), (a 14, .inl (ca 14, 100, .inr (.inl (fun _ => 0)))), (ho, .inl (co, 1, .inr (.inl (fun _ => 0)))), (g0, .inr (11, mF a ul_15 um_16 up_17 ut_18))] H := hP
  have hD : va_D (lA s) [(h0, .inr (10, xF hm h1 h2 h3 0 0 1000)), (hm, .inr (5, [.int 0, .int 0])), (h1, .inl (cx 1, 24, .inr (.inr (.inr (.inr (fun _ => none)))))), (h2, .inl (cx 2, 100, .inr (.inl (fun _ => 0)))), (h3, .inl (cx 3, 100, .inl (fun _ => 0))), (a 1, .inl (ca 1, 24, .inl (fun _ => 0))), (a 2, .inl (ca 2, 24, .inl (fun _ => 0))), (a 3, .inl (ca 3, 24, .inl (fun _ => 0))), (a 4, .inl (ca 4, 24, .inl (fun _ => 0))), (a 5, .inl (ca 5, 24, .inr (.inl (fun _ => 0)))), (a 6, .inl (ca 6, 24, .inr (.inl (fun _ => 0)))), (a 13, .inl (ca 13, 100, .inl (fun _ => 0))), (a 14, .inl (ca 14, 100, .inr (.inl (fun _ => 0)))), (ho, .inl (co, 1, .inr (.inl (fun _ => 0)))), (g0, .inr (11, mF a ul_15 um_16 up_17 ut_18))] := hD
  have hK : va_K (dC, dI) vwCl [(cx 1, .object RX5), (cx 2, .long), (cx 3, .byte), (ca 1, .int), (ca 2, .int), (ca 3, .int), (ca 4, .int), (ca 5, .long), (ca 6, .long), (ca 13, .int), (ca 14, .long), (co, .long)] s := hK
  refine W.widen (k := 24) (n := 78348) (by decide +kernel) (by decide +kernel) ?_
  obtain rfl : ut_18 = 1 := hw
  refine lv_istore (lv' := [(6, .int r_13), (5, .int 1), (4, .int 0), (3, .ref ho), (2, .ref g0), (1, .ref h0), (0, .ref b)]) hx hb dL_law_1399 hl (by decide) rfl (fun ls hl => ?_)
  refine lv_aload_n hx hb dL_law_1401 rfl (lv_at hl 4 rfl) ?_
  have hPc := hP.sub (ws' := [(g0, .inr (11, mF a ul_15 um_16 up_17 1))]) [14] rfl
  have hDc : va_D (fun _ => True) ([] : va_W) := nd_0
  have hKc := hK.sub (tys' := []) [] rfl
  have hFc := va_free (wc := []) hD hS hA [] rfl
  refine va_calli (va_runV (As := []) (rest := []) ⟨hx, hb, hml, hown, hts⟩ (c_X12_thrown l dC dI a g0 ul_15 um_16 up_17 1 H.size) (cwV 0 hts tL_law_X12_thrown rfl rfl rfl (by decide +kernel) ⟨Nat.le_of_ble_eq_true rfl, Nat.le_of_ble_eq_true rfl⟩) ⟨fun a U g mk q => by obtain ⟨q0, q1, qP, qK, qD⟩ := q; exact ⟨q0, q1, qP, va_K.moved (u := U) (U := U.calling g mk a) (Vm.Alike.refl U.vm) qK, qD⟩, va_recv hKc hPc (ci := 11) (q0 := 0) rfl rfl, fun U hU hW => ⟨rfl, by rw [hU], by rw [hU]; exact hPc, va_K.moved hW.alike hKc, nd_0⟩⟩ rfl rfl hl.1 rfl (lv_room (Nat.le_of_ble_eq_true rfl)) dL_law_1402 ⟨Nat.le_of_ble_eq_true rfl, Nat.le_of_ble_eq_true rfl⟩) hS (fun q _ h => hFc q h) hFc (fun r_20 u_21 t H1 locs ht hvm hw hB hz1 hk1 hS => ?_)
  have hP := nd_keep hP hk1
  generalize H1 = H at hP hS ⊢
  have hP : va_P (dC, dI) vwCl [(h0, .inr (10, xF hm h1 h2 h3 0 0 1000)), (hm, .inr (5, [.int 0, .int 0])), (h1, .inl (cx 1, 24, .inr (.inr (.inr (.inr (fun _ => none)))))), (h2, .inl (cx 2, 100, .inr (.inl (fun _ => 0)))), (h3, .inl (cx 3, 100, .inl (fun _ => 0))), (a 1, .inl (ca 1, 24, .inl (fun _ => 0))), (a 2, .inl (ca 2, 24, .inl (fun _ => 0))), (a 3, .inl (ca 3, 24, .inl (fun _ => 0))), (a 4, .inl (ca 4, 24, .inl (fun _ => 0))), (a 5, .inl (ca 5, 24, .inr (.inl (fun _ => 0)))), (a 6, .inl (ca 6, 24, .inr (.inl (fun _ => 0)))), (a 13, .inl (ca 13, 100, .inl (fun _ => 0))), (a 14, .inl (ca 14, 100, .inr (.inl (fun _ => 0)))), (ho, .inl (co, 1, .inr (.inl (fun _ => 0)))), (g0, .inr (11, mF a ul_15 um_16 up_17 1))] H := hP
  have hD : va_D (lA s) [(h0, .inr (10, xF hm h1 h2 h3 0 0 1000)), (hm, .inr (5, [.int 0, .int 0])), (h1, .inl (cx 1, 24, .inr (.inr (.inr (.inr (fun _ => none)))))), (h2, .inl (cx 2, 100, .inr (.inl (fun _ => 0)))), (h3, .inl (cx 3, 100, .inl (fun _ => 0))), (a 1, .inl (ca 1, 24, .inl (fun _ => 0))), (a 2, .inl (ca 2, 24, .inl (fun _ => 0))), (a 3, .inl (ca 3, 24, .inl (fun _ => 0))), (a 4, .inl (ca 4, 24, .inl (fun _ => 0))), (a 5, .inl (ca 5, 24, .inr (.inl (fun _ => 0)))), (a 6, .inl (ca 6, 24, .inr (.inl (fun _ => 0)))), (a 13, .inl (ca 13, 100, .inl (fun _ => 0))), (a 14, .inl (ca 14, 100, .inr (.inl (fun _ => 0)))), (ho, .inl (co, 1, .inr (.inl (fun _ => 0)))), (g0, .inr (11, mF a ul_15 um_16 up_17 1))] := hD
  refine W.widen (k := 24) (n := 78348) (by decide +kernel) (by decide +kernel) ?_
  obtain rfl : r_20 = 1 := hw
  refine lv_iload hx hb dL_law_1405 (lv_at hl 1 rfl) ?_
  refine lv_icmp_eq (tgt := 1412) hx hb dL_law_1407 (by decide) (fun c_1407 => ?_) (fun c_1407 => ?_)
  · refine lv_iload hx hb dL_law_1412 (lv_at hl 1 rfl) ?_
    refine lv_if_ne (tgt := 1429) hx hb dL_law_1414 (by decide) (fun c_1414 => ?_) (fun c_1414 => ?_)
    · refine lv_goto (tgt := 2206) hx hb dL_law_1429 (by decide) ?_
      refine W.widen (k := 100) (n := 200000) (by decide +kernel) (by decide +kernel) ?_
      exact law_end l hx hb hr hlocks hX hbl hbA hS (lv_sub hl [2, 6] rfl)
    · exact absurd c_1414 (by decide)
  · exact absurd c_1407 (by decide)
set_option maxHeartbeats 4000000 in
set_option maxRecDepth 100000 in
theorem law_case_13 {p : Program} {e : Env} {s : State} {m : MethodId} {below : List Frame} {meth : Method} {c : Code} (l : Launch) (hl0 : l.stackTraces = false) {b : Nat} {xs : Nat → Int32} (C0 : lw_At p s m meth c b 6 xs) (hG : Gw s) (hZ : Gz (lA s) s s.heap) {dC : Nat → ClassId} {dI : Nat → Nat → Nat} {h0 hm h1 h2 h3 g0 ho : Nat} {a : Nat → Nat} {ca cx : Nat → ClassId} {co : ClassId} {H : Heap} {locs : List Loc} (hK : va_K (dC, dI) vwCl [(cx 1, .object RX5), (cx 2, .long), (cx 3, .byte), (ca 1, .int), (ca 2, .int), (ca 3, .int), (ca 4, .int), (ca 5, .long), (ca 6, .long), (ca 13, .int), (ca 14, .long), (co, .long)] s) (hP : va_P (dC, dI) vwCl [(h0, .inr (10, xF hm h1 h2 h3 0 0 1000)), (hm, .inr (5, [.int 0, .int 0])), (h1, .inl (cx 1, 24, .inr (.inr (.inr (.inr (fun _ => none)))))), (h2, .inl (cx 2, 100, .inr (.inl (fun _ => 0)))), (h3, .inl (cx 3, 100, .inl (fun _ => 0))), (g0, .inr (11, mF a 0 0 1000 0)), (a 1, .inl (ca 1, 24, .inl (fun _ => 0))), (a 2, .inl (ca 2, 24, .inl (fun _ => 0))), (a 3, .inl (ca 3, 24, .inl (fun _ => 0))), (a 4, .inl (ca 4, 24, .inl (fun _ => 0))), (a 5, .inl (ca 5, 24, .inr (.inl (fun _ => 0)))), (a 6, .inl (ca 6, 24, .inr (.inl (fun _ => 0)))), (a 13, .inl (ca 13, 100, .inl (fun _ => 0))), (a 14, .inl (ca 14, 100, .inr (.inl (fun _ => 0)))), (ho, .inl (co, 1, .inr (.inl (fun _ => 0))))] H) (hD : va_D (lA s) [(h0, .inr (10, xF hm h1 h2 h3 0 0 1000)), (hm, .inr (5, [.int 0, .int 0])), (h1, .inl (cx 1, 24, .inr (.inr (.inr (.inr (fun _ => none)))))), (h2, .inl (cx 2, 100, .inr (.inl (fun _ => 0)))), (h3, .inl (cx 3, 100, .inl (fun _ => 0))), (g0, .inr (11, mF a 0 0 1000 0)), (a 1, .inl (ca 1, 24, .inl (fun _ => 0))), (a 2, .inl (ca 2, 24, .inl (fun _ => 0))), (a 3, .inl (ca 3, 24, .inl (fun _ => 0))), (a 4, .inl (ca 4, 24, .inl (fun _ => 0))), (a 5, .inl (ca 5, 24, .inr (.inl (fun _ => 0)))), (a 6, .inl (ca 6, 24, .inr (.inl (fun _ => 0)))), (a 13, .inl (ca 13, 100, .inl (fun _ => 0))), (a 14, .inl (ca 14, 100, .inr (.inl (fun _ => 0)))), (ho, .inl (co, 1, .inr (.inl (fun _ => 0))))]) (hS : va_S (lA s) s.heap H locs) {ls : Array Slot} (hl : lv_has ls 8 [(4, .int 0), (3, .ref ho), (2, .ref g0), (1, .ref h0), (0, .ref b)]) : W p l e room_1 s m #[Value.ref b] below meth c H locs 23 78342 (lw_Z below #[Value.ref b] s) (F0 m 1432 ls []) := by
  obtain ⟨hx, hb, hr, hml, hown, hts0, hX, hbl, hlocks, hgv⟩ := C0
  have hts := hts0
  have hcl := hts0 _ law_cl
  have hA : ∀ q : Nat, s.heap.size ≤ q → lA s q := fun _ h => h
  have hbA : ¬ lA s b := Nat.not_le.mpr hbl
  refine lv_aload_n hx hb dL_law_1432 rfl (lv_at hl 3 rfl) ?_
  refine lv_aload_n hx hb dL_law_1433 rfl (lv_at hl 4 rfl) ?_
  refine lv_iload hx hb dL_law_1434 (lv_at hl 0 rfl) ?_
  refine lv_iconst (v := 1) hx hb dL_law_1436 (by decide) ?_
  refine lv_iadd hx hb dL_law_1437 ?_
  refine lv_topi (fun z_1 ez_1 => ?_)
  obtain rfl : z_1 = 1 := ez_1.trans (by decide)
  refine va_sld hx hb hX hbl hbA hS (nd_in (i := 1) (n := 6) (by decide)) dL_law_1438 ?_
  refine lv_aload_n hx hb dL_law_1439 rfl (lv_at hl 4 rfl) ?_
  refine lv_iload hx hb dL_law_1440 (lv_at hl 0 rfl) ?_
  refine lv_iconst (v := 2) hx hb dL_law_1442 (by decide) ?_
  refine lv_iadd hx hb dL_law_1443 ?_
  refine lv_topi (fun z_2 ez_2 => ?_)
  obtain rfl : z_2 = 2 := ez_2.trans (by decide)
  refine va_sld hx hb hX hbl hbA hS (nd_in (i := 2) (n := 6) (by decide)) dL_law_1444 ?_
  refine lv_aload_n hx hb dL_law_1445 rfl (lv_at hl 1 rfl) ?_
  have hPc := hP.sub (ws' := [(h0, .inr (10, xF hm h1 h2 h3 0 0 1000))]) [0] rfl
  have hDc : va_D (fun _ => True) ([] : va_W) := nd_0
  have hKc := hK.sub (tys' := []) [] rfl
  have hFc := va_free (wc := []) hD hS hA [] rfl
  refine va_calli (vx_runSW (As := [.ref h0, .int (xs (1 : Int32).toNatClampNeg), .int (xs (2 : Int32).toNatClampNeg), .ref ho]) (rest := []) ⟨hx, hb, hml, hown, hts⟩ (c_L_join l hl0 dC dI h0 hm h1 h2 h3 (xs (1 : Int32).toNatClampNeg) (xs (2 : Int32).toNatClampNeg) ho H.size) (vx_cwSW 4 hts tL_law_L_join rfl rfl rfl (by decide +kernel) ⟨Nat.le_of_ble_eq_true rfl, Nat.le_of_ble_eq_true rfl⟩) ⟨fun a U g mk q => by obtain ⟨q0, q1, qP, qK, qD, qG, qZ⟩ := q; exact ⟨q0, q1, qP, va_K.moved (u := U) (U := U.calling g mk a) (Vm.Alike.refl U.vm) qK, qD, Gw.same (u := U) (U := U.calling g mk a) rfl qG, Gz.moved (u := U) (U := U.calling g mk a) (Vm.Alike.refl U.vm) qZ⟩, fun U hU hW => ⟨rfl, by rw [hU], by rw [hU]; exact hPc, va_K.moved hW.alike hKc, nd_0, Gw.warm hW hG, Gz.step hZ hS hFc hU hW.alike⟩⟩ rfl rfl hl.1 rfl (lv_room (Nat.le_of_ble_eq_true rfl)) dL_law_1446 ⟨Nat.le_of_ble_eq_true rfl, Nat.le_of_ble_eq_true rfl⟩) hS (fun q _ h => hFc q h) hFc (fun r_3 u_4 t H1 locs ht hvm hw hB hz1 hk1 hS => ?_)
  have hP := nd_keep hP hk1
  generalize H1 = H at hP hS ⊢
  have hP : va_P (dC, dI) vwCl [(h0, .inr (10, xF hm h1 h2 h3 0 0 1000)), (hm, .inr (5, [.int 0, .int 0])), (h1, .inl (cx 1, 24, .inr (.inr (.inr (.inr (fun _ => none)))))), (h2, .inl (cx 2, 100, .inr (.inl (fun _ => 0)))), (h3, .inl (cx 3, 100, .inl (fun _ => 0))), (g0, .inr (11, mF a 0 0 1000 0)), (a 1, .inl (ca 1, 24, .inl (fun _ => 0))), (a 2, .inl (ca 2, 24, .inl (fun _ => 0))), (a 3, .inl (ca 3, 24, .inl (fun _ => 0))), (a 4, .inl (ca 4, 24, .inl (fun _ => 0))), (a 5, .inl (ca 5, 24, .inr (.inl (fun _ => 0)))), (a 6, .inl (ca 6, 24, .inr (.inl (fun _ => 0)))), (a 13, .inl (ca 13, 100, .inl (fun _ => 0))), (a 14, .inl (ca 14, 100, .inr (.inl (fun _ => 0)))), (ho, .inl (co, 1, .inr (.inl (fun _ => 0))))] H := hP
  have hD : va_D (lA s) [(h0, .inr (10, xF hm h1 h2 h3 0 0 1000)), (hm, .inr (5, [.int 0, .int 0])), (h1, .inl (cx 1, 24, .inr (.inr (.inr (.inr (fun _ => none)))))), (h2, .inl (cx 2, 100, .inr (.inl (fun _ => 0)))), (h3, .inl (cx 3, 100, .inl (fun _ => 0))), (g0, .inr (11, mF a 0 0 1000 0)), (a 1, .inl (ca 1, 24, .inl (fun _ => 0))), (a 2, .inl (ca 2, 24, .inl (fun _ => 0))), (a 3, .inl (ca 3, 24, .inl (fun _ => 0))), (a 4, .inl (ca 4, 24, .inl (fun _ => 0))), (a 5, .inl (ca 5, 24, .inr (.inl (fun _ => 0)))), (a 6, .inl (ca 6, 24, .inr (.inl (fun _ => 0)))), (a 13, .inl (ca 13, 100, .inl (fun _ => 0))), (a 14, .inl (ca 14, 100, .inr (.inl (fun _ => 0)))), (ho, .inl (co, 1, .inr (.inl (fun _ => 0))))] := hD
  refine W.widen (k := 24) (n := 78348) (by decide +kernel) (by decide +kernel) ?_
  obtain rfl : r_3 = 1 := hw
  refine lv_istore (lv' := [(5, .int 1), (4, .int 0), (3, .ref ho), (2, .ref g0), (1, .ref h0), (0, .ref b)]) hx hb dL_law_1449 hl (by decide) rfl (fun ls hl => ?_)
  refine lv_aload_n hx hb dL_law_1451 rfl (lv_at hl 3 rfl) ?_
  refine lv_aload_n hx hb dL_law_1452 rfl (lv_at hl 5 rfl) ?_
  refine lv_iload hx hb dL_law_1453 (lv_at hl 1 rfl) ?_
  refine lv_iconst (v := 1) hx hb dL_law_1455 (by decide) ?_
  refine lv_iadd hx hb dL_law_1456 ?_
  refine lv_topi (fun z_5 ez_5 => ?_)
  obtain rfl : z_5 = 1 := ez_5.trans (by decide)
  refine va_sld hx hb hX hbl hbA hS (nd_in (i := 1) (n := 6) (by decide)) dL_law_1457 ?_
  refine lv_aload_n hx hb dL_law_1458 rfl (lv_at hl 5 rfl) ?_
  refine lv_iload hx hb dL_law_1459 (lv_at hl 1 rfl) ?_
  refine lv_iconst (v := 2) hx hb dL_law_1461 (by decide) ?_
  refine lv_iadd hx hb dL_law_1462 ?_
  refine lv_topi (fun z_6 ez_6 => ?_)
  obtain rfl : z_6 = 2 := ez_6.trans (by decide)
  refine va_sld hx hb hX hbl hbA hS (nd_in (i := 2) (n := 6) (by decide)) dL_law_1463 ?_
  have hPc := hP.sub (ws' := [(g0, .inr (11, mF a 0 0 1000 0))]) [5] rfl
  have hDc := hD.sub (ws' := [(g0, .inr (11, mF a 0 0 1000 0))]) [5] (by decide) rfl
  have hKc := hK.sub (tys' := []) [] rfl
  have hFc := va_free (wc := [(g0, .inr (11, mF a 0 0 1000 0))]) hD hS hA [5] rfl
  refine va_calli (va_runV (As := [.int (xs (1 : Int32).toNatClampNeg), .int (xs (2 : Int32).toNatClampNeg)]) (rest := []) ⟨hx, hb, hml, hown, hts⟩ (c_X12_join l dC dI a g0 (xs (1 : Int32).toNatClampNeg) (xs (2 : Int32).toNatClampNeg) H.size) (cwV 2 hts tL_law_X12_join rfl rfl rfl (by decide +kernel) ⟨Nat.le_of_ble_eq_true rfl, Nat.le_of_ble_eq_true rfl⟩) ⟨fun a U g mk q => by obtain ⟨q0, q1, qP, qK, qD⟩ := q; exact ⟨q0, q1, qP, va_K.moved (u := U) (U := U.calling g mk a) (Vm.Alike.refl U.vm) qK, qD⟩, va_recv hKc hPc (ci := 11) (q0 := 0) rfl rfl, fun U hU hW => ⟨rfl, by rw [hU], by rw [hU]; exact hPc, va_K.moved hW.alike hKc, hDc.weaken (fun _ _ _ _ => trivial)⟩⟩ rfl rfl hl.1 rfl (lv_room (Nat.le_of_ble_eq_true rfl)) dL_law_1464 ⟨Nat.le_of_ble_eq_true rfl, Nat.le_of_ble_eq_true rfl⟩) hS (fun q _ h => hFc q h) hFc (fun r_7 u_8 t H1 locs ht hvm hw hB hz1 hk1 hS => ?_)
  obtain ⟨ul_9, um_10, up_11, ut_12⟩ := u_8
  dsimp only at hw
  obtain ⟨hP1, hK1, hD1⟩ := hB
  rw [ht] at hP1
  have hK1 := va_K.moved hvm.symm hK1
  have hK := hK.app hK1
  obtain ⟨hP, hD⟩ := va_join (wr := [(h0, .inr (10, xF hm h1 h2 h3 0 0 1000)), (hm, .inr (5, [.int 0, .int 0])), (h1, .inl (cx 1, 24, .inr (.inr (.inr (.inr (fun _ => none)))))), (h2, .inl (cx 2, 100, .inr (.inl (fun _ => 0)))), (h3, .inl (cx 3, 100, .inl (fun _ => 0))), (a 1, .inl (ca 1, 24, .inl (fun _ => 0))), (a 2, .inl (ca 2, 24, .inl (fun _ => 0))), (a 3, .inl (ca 3, 24, .inl (fun _ => 0))), (a 4, .inl (ca 4, 24, .inl (fun _ => 0))), (a 5, .inl (ca 5, 24, .inr (.inl (fun _ => 0)))), (a 6, .inl (ca 6, 24, .inr (.inl (fun _ => 0)))), (a 13, .inl (ca 13, 100, .inl (fun _ => 0))), (a 14, .inl (ca 14, 100, .inr (.inl (fun _ => 0)))), (ho, .inl (co, 1, .inr (.inl (fun _ => 0))))]) (w1 := [(g0, .inr (11, mF a ul_9 um_10 up_11 ut_12))]) hP hD [5] [0, 1, 2, 3, 4, 6, 7, 8, 9, 10, 11, 12, 13, 14] rfl rfl (by decide) (by decide) hk1 hFc hP1 hD1
  generalize H1 = H at hP hS ⊢
  have hP : va_P (dC, dI) vwCl [(h0, .inr (10, xF hm h1 h2 h3 0 0 1000)), (hm, .inr (5, [.int 0, .int 0])), (h1, .inl (cx 1, 24, .inr (.inr (.inr (.inr (fun _ => none)))))), (h2, .inl (cx 2, 100, .inr (.inl (fun _ => 0)))), (h3, .inl (cx 3, 100, .inl (fun _ => 0))), (a 1, .inl (ca 1, 24, .inl (fun _ => 0))), (a 2, .inl (ca 2, 24, .inl (fun _ => 0))), (a 3, .inl (ca 3, 24, .inl (fun _ => 0))), (a 4, .inl (ca 4, 24, .inl (fun _ => 0))), (a 5, .inl (ca 5, 24, .inr (.inl (fun _ => 0)))), (a 6, .inl (ca 6, 24, .inr (.inl (fun _ => 0)))), (a 13, .inl (ca 13, 100, .inl (fun _ => 0))), (a 14, .inl (ca 14, 100, .inr (.inl (fun _ => 0)))), (ho, .inl (co, 1, .inr (.inl (fun _ => 0)))), (g0, .inr (11, mF a ul_9 um_10 up_11 ut_12))] H := hP
  have hD : va_D (lA s) [(h0, .inr (10, xF hm h1 h2 h3 0 0 1000)), (hm, .inr (5, [.int 0, .int 0])), (h1, .inl (cx 1, 24, .inr (.inr (.inr (.inr (fun _ => none)))))), (h2, .inl (cx 2, 100, .inr (.inl (fun _ => 0)))), (h3, .inl (cx 3, 100, .inl (fun _ => 0))), (a 1, .inl (ca 1, 24, .inl (fun _ => 0))), (a 2, .inl (ca 2, 24, .inl (fun _ => 0))), (a 3, .inl (ca 3, 24, .inl (fun _ => 0))), (a 4, .inl (ca 4, 24, .inl (fun _ => 0))), (a 5, .inl (ca 5, 24, .inr (.inl (fun _ => 0)))), (a 6, .inl (ca 6, 24, .inr (.inl (fun _ => 0)))), (a 13, .inl (ca 13, 100, .inl (fun _ => 0))), (a 14, .inl (ca 14, 100, .inr (.inl (fun _ => 0)))), (ho, .inl (co, 1, .inr (.inl (fun _ => 0)))), (g0, .inr (11, mF a ul_9 um_10 up_11 ut_12))] := hD
  have hK : va_K (dC, dI) vwCl [(cx 1, .object RX5), (cx 2, .long), (cx 3, .byte), (ca 1, .int), (ca 2, .int), (ca 3, .int), (ca 4, .int), (ca 5, .long), (ca 6, .long), (ca 13, .int), (ca 14, .long), (co, .long)] s := hK
  refine W.widen (k := 24) (n := 78348) (by decide +kernel) (by decide +kernel) ?_
  obtain rfl : ut_12 = 1 := hw
  refine lv_istore (lv' := [(6, .int r_7), (5, .int 1), (4, .int 0), (3, .ref ho), (2, .ref g0), (1, .ref h0), (0, .ref b)]) hx hb dL_law_1467 hl (by decide) rfl (fun ls hl => ?_)
  refine lv_aload_n hx hb dL_law_1469 rfl (lv_at hl 4 rfl) ?_
  have hPc := hP.sub (ws' := [(g0, .inr (11, mF a ul_9 um_10 up_11 1))]) [14] rfl
  have hDc : va_D (fun _ => True) ([] : va_W) := nd_0
  have hKc := hK.sub (tys' := []) [] rfl
  have hFc := va_free (wc := []) hD hS hA [] rfl
  refine va_calli (va_runV (As := []) (rest := []) ⟨hx, hb, hml, hown, hts⟩ (c_X12_thrown l dC dI a g0 ul_9 um_10 up_11 1 H.size) (cwV 0 hts tL_law_X12_thrown rfl rfl rfl (by decide +kernel) ⟨Nat.le_of_ble_eq_true rfl, Nat.le_of_ble_eq_true rfl⟩) ⟨fun a U g mk q => by obtain ⟨q0, q1, qP, qK, qD⟩ := q; exact ⟨q0, q1, qP, va_K.moved (u := U) (U := U.calling g mk a) (Vm.Alike.refl U.vm) qK, qD⟩, va_recv hKc hPc (ci := 11) (q0 := 0) rfl rfl, fun U hU hW => ⟨rfl, by rw [hU], by rw [hU]; exact hPc, va_K.moved hW.alike hKc, nd_0⟩⟩ rfl rfl hl.1 rfl (lv_room (Nat.le_of_ble_eq_true rfl)) dL_law_1470 ⟨Nat.le_of_ble_eq_true rfl, Nat.le_of_ble_eq_true rfl⟩) hS (fun q _ h => hFc q h) hFc (fun r_14 u_15 t H1 locs ht hvm hw hB hz1 hk1 hS => ?_)
  have hP := nd_keep hP hk1
  generalize H1 = H at hP hS ⊢
  have hP : va_P (dC, dI) vwCl [(h0, .inr (10, xF hm h1 h2 h3 0 0 1000)), (hm, .inr (5, [.int 0, .int 0])), (h1, .inl (cx 1, 24, .inr (.inr (.inr (.inr (fun _ => none)))))), (h2, .inl (cx 2, 100, .inr (.inl (fun _ => 0)))), (h3, .inl (cx 3, 100, .inl (fun _ => 0))), (a 1, .inl (ca 1, 24, .inl (fun _ => 0))), (a 2, .inl (ca 2, 24, .inl (fun _ => 0))), (a 3, .inl (ca 3, 24, .inl (fun _ => 0))), (a 4, .inl (ca 4, 24, .inl (fun _ => 0))), (a 5, .inl (ca 5, 24, .inr (.inl (fun _ => 0)))), (a 6, .inl (ca 6, 24, .inr (.inl (fun _ => 0)))), (a 13, .inl (ca 13, 100, .inl (fun _ => 0))), (a 14, .inl (ca 14, 100, .inr (.inl (fun _ => 0)))), (ho, .inl (co, 1, .inr (.inl (fun _ => 0)))), (g0, .inr (11, mF a ul_9 um_10 up_11 1))] H := hP
  have hD : va_D (lA s) [(h0, .inr (10, xF hm h1 h2 h3 0 0 1000)), (hm, .inr (5, [.int 0, .int 0])), (h1, .inl (cx 1, 24, .inr (.inr (.inr (.inr (fun _ => none)))))), (h2, .inl (cx 2, 100, .inr (.inl (fun _ => 0)))), (h3, .inl (cx 3, 100, .inl (fun _ => 0))), (a 1, .inl (ca 1, 24, .inl (fun _ => 0))), (a 2, .inl (ca 2, 24, .inl (fun _ => 0))), (a 3, .inl (ca 3, 24, .inl (fun _ => 0))), (a 4, .inl (ca 4, 24, .inl (fun _ => 0))), (a 5, .inl (ca 5, 24, .inr (.inl (fun _ => 0)))), (a 6, .inl (ca 6, 24, .inr (.inl (fun _ => 0)))), (a 13, .inl (ca 13, 100, .inl (fun _ => 0))), (a 14, .inl (ca 14, 100, .inr (.inl (fun _ => 0)))), (ho, .inl (co, 1, .inr (.inl (fun _ => 0)))), (g0, .inr (11, mF a ul_9 um_10 up_11 1))] := hD
  refine W.widen (k := 24) (n := 78348) (by decide +kernel) (by decide +kernel) ?_
  obtain rfl : r_14 = 1 := hw
  refine lv_iload hx hb dL_law_1473 (lv_at hl 1 rfl) ?_
  refine lv_icmp_eq (tgt := 1480) hx hb dL_law_1475 (by decide) (fun c_1475 => ?_) (fun c_1475 => ?_)
  · refine lv_iload hx hb dL_law_1480 (lv_at hl 1 rfl) ?_
    refine lv_if_ne (tgt := 1497) hx hb dL_law_1482 (by decide) (fun c_1482 => ?_) (fun c_1482 => ?_)
    · refine lv_goto (tgt := 2206) hx hb dL_law_1497 (by decide) ?_
      refine W.widen (k := 100) (n := 200000) (by decide +kernel) (by decide +kernel) ?_
      exact law_end l hx hb hr hlocks hX hbl hbA hS (lv_sub hl [2, 6] rfl)
    · exact absurd c_1482 (by decide)
  · exact absurd c_1475 (by decide)
set_option maxHeartbeats 4000000 in
set_option maxRecDepth 100000 in
theorem law_case_14 {p : Program} {e : Env} {s : State} {m : MethodId} {below : List Frame} {meth : Method} {c : Code} (l : Launch) (hl0 : l.stackTraces = false) {b : Nat} {xs : Nat → Int32} (C0 : lw_At p s m meth c b 6 xs) (hG : Gw s) (hZ : Gz (lA s) s s.heap) {dC : Nat → ClassId} {dI : Nat → Nat → Nat} {h0 hm h1 h2 h3 g0 ho : Nat} {a : Nat → Nat} {ca cx : Nat → ClassId} {co : ClassId} {H : Heap} {locs : List Loc} (hK : va_K (dC, dI) vwCl [(cx 1, .object RX5), (cx 2, .long), (cx 3, .byte), (ca 1, .int), (ca 2, .int), (ca 3, .int), (ca 4, .int), (ca 5, .long), (ca 6, .long), (ca 13, .int), (ca 14, .long), (co, .long)] s) (hP : va_P (dC, dI) vwCl [(h0, .inr (10, xF hm h1 h2 h3 0 0 1000)), (hm, .inr (5, [.int 0, .int 0])), (h1, .inl (cx 1, 24, .inr (.inr (.inr (.inr (fun _ => none)))))), (h2, .inl (cx 2, 100, .inr (.inl (fun _ => 0)))), (h3, .inl (cx 3, 100, .inl (fun _ => 0))), (g0, .inr (11, mF a 0 0 1000 0)), (a 1, .inl (ca 1, 24, .inl (fun _ => 0))), (a 2, .inl (ca 2, 24, .inl (fun _ => 0))), (a 3, .inl (ca 3, 24, .inl (fun _ => 0))), (a 4, .inl (ca 4, 24, .inl (fun _ => 0))), (a 5, .inl (ca 5, 24, .inr (.inl (fun _ => 0)))), (a 6, .inl (ca 6, 24, .inr (.inl (fun _ => 0)))), (a 13, .inl (ca 13, 100, .inl (fun _ => 0))), (a 14, .inl (ca 14, 100, .inr (.inl (fun _ => 0)))), (ho, .inl (co, 1, .inr (.inl (fun _ => 0))))] H) (hD : va_D (lA s) [(h0, .inr (10, xF hm h1 h2 h3 0 0 1000)), (hm, .inr (5, [.int 0, .int 0])), (h1, .inl (cx 1, 24, .inr (.inr (.inr (.inr (fun _ => none)))))), (h2, .inl (cx 2, 100, .inr (.inl (fun _ => 0)))), (h3, .inl (cx 3, 100, .inl (fun _ => 0))), (g0, .inr (11, mF a 0 0 1000 0)), (a 1, .inl (ca 1, 24, .inl (fun _ => 0))), (a 2, .inl (ca 2, 24, .inl (fun _ => 0))), (a 3, .inl (ca 3, 24, .inl (fun _ => 0))), (a 4, .inl (ca 4, 24, .inl (fun _ => 0))), (a 5, .inl (ca 5, 24, .inr (.inl (fun _ => 0)))), (a 6, .inl (ca 6, 24, .inr (.inl (fun _ => 0)))), (a 13, .inl (ca 13, 100, .inl (fun _ => 0))), (a 14, .inl (ca 14, 100, .inr (.inl (fun _ => 0)))), (ho, .inl (co, 1, .inr (.inl (fun _ => 0))))]) (hS : va_S (lA s) s.heap H locs) {ls : Array Slot} (hl : lv_has ls 8 [(4, .int 0), (3, .ref ho), (2, .ref g0), (1, .ref h0), (0, .ref b)]) : W p l e room_1 s m #[Value.ref b] below meth c H locs 23 78342 (lw_Z below #[Value.ref b] s) (F0 m 1500 ls []) := by
  obtain ⟨hx, hb, hr, hml, hown, hts0, hX, hbl, hlocks, hgv⟩ := C0
  have hts := hts0
  have hcl := hts0 _ law_cl
  have hA : ∀ q : Nat, s.heap.size ≤ q → lA s q := fun _ h => h
  have hbA : ¬ lA s b := Nat.not_le.mpr hbl
  refine lv_aload_n hx hb dL_law_1500 rfl (lv_at hl 3 rfl) ?_
  refine lv_aload_n hx hb dL_law_1501 rfl (lv_at hl 4 rfl) ?_
  refine lv_iload hx hb dL_law_1502 (lv_at hl 0 rfl) ?_
  refine lv_iconst (v := 1) hx hb dL_law_1504 (by decide) ?_
  refine lv_iadd hx hb dL_law_1505 ?_
  refine lv_topi (fun z_1 ez_1 => ?_)
  obtain rfl : z_1 = 1 := ez_1.trans (by decide)
  refine va_sld hx hb hX hbl hbA hS (nd_in (i := 1) (n := 6) (by decide)) dL_law_1506 ?_
  refine lv_aload_n hx hb dL_law_1507 rfl (lv_at hl 4 rfl) ?_
  refine lv_iload hx hb dL_law_1508 (lv_at hl 0 rfl) ?_
  refine lv_iconst (v := 2) hx hb dL_law_1510 (by decide) ?_
  refine lv_iadd hx hb dL_law_1511 ?_
  refine lv_topi (fun z_2 ez_2 => ?_)
  obtain rfl : z_2 = 2 := ez_2.trans (by decide)
  refine va_sld hx hb hX hbl hbA hS (nd_in (i := 2) (n := 6) (by decide)) dL_law_1512 ?_
  refine lv_aload_n hx hb dL_law_1513 rfl (lv_at hl 1 rfl) ?_
  have hPc := hP.sub (ws' := [(h0, .inr (10, xF hm h1 h2 h3 0 0 1000))]) [0] rfl
  have hDc : va_D (fun _ => True) ([] : va_W) := nd_0
  have hKc := hK.sub (tys' := []) [] rfl
  have hFc := va_free (wc := []) hD hS hA [] rfl
  refine va_calli (vx_runSW (As := [.ref h0, .int (xs (1 : Int32).toNatClampNeg), .int (xs (2 : Int32).toNatClampNeg), .ref ho]) (rest := []) ⟨hx, hb, hml, hown, hts⟩ (c_L_other l hl0 dC dI h0 hm h1 h2 h3 (xs (1 : Int32).toNatClampNeg) (xs (2 : Int32).toNatClampNeg) ho H.size) (vx_cwSW 4 hts tL_law_L_other rfl rfl rfl (by decide +kernel) ⟨Nat.le_of_ble_eq_true rfl, Nat.le_of_ble_eq_true rfl⟩) ⟨fun a U g mk q => by obtain ⟨q0, q1, qP, qK, qD, qG, qZ⟩ := q; exact ⟨q0, q1, qP, va_K.moved (u := U) (U := U.calling g mk a) (Vm.Alike.refl U.vm) qK, qD, Gw.same (u := U) (U := U.calling g mk a) rfl qG, Gz.moved (u := U) (U := U.calling g mk a) (Vm.Alike.refl U.vm) qZ⟩, fun U hU hW => ⟨rfl, by rw [hU], by rw [hU]; exact hPc, va_K.moved hW.alike hKc, nd_0, Gw.warm hW hG, Gz.step hZ hS hFc hU hW.alike⟩⟩ rfl rfl hl.1 rfl (lv_room (Nat.le_of_ble_eq_true rfl)) dL_law_1514 ⟨Nat.le_of_ble_eq_true rfl, Nat.le_of_ble_eq_true rfl⟩) hS (fun q _ h => hFc q h) hFc (fun r_3 u_4 t H1 locs ht hvm hw hB hz1 hk1 hS => ?_)
  have hP := nd_keep hP hk1
  generalize H1 = H at hP hS ⊢
  have hP : va_P (dC, dI) vwCl [(h0, .inr (10, xF hm h1 h2 h3 0 0 1000)), (hm, .inr (5, [.int 0, .int 0])), (h1, .inl (cx 1, 24, .inr (.inr (.inr (.inr (fun _ => none)))))), (h2, .inl (cx 2, 100, .inr (.inl (fun _ => 0)))), (h3, .inl (cx 3, 100, .inl (fun _ => 0))), (g0, .inr (11, mF a 0 0 1000 0)), (a 1, .inl (ca 1, 24, .inl (fun _ => 0))), (a 2, .inl (ca 2, 24, .inl (fun _ => 0))), (a 3, .inl (ca 3, 24, .inl (fun _ => 0))), (a 4, .inl (ca 4, 24, .inl (fun _ => 0))), (a 5, .inl (ca 5, 24, .inr (.inl (fun _ => 0)))), (a 6, .inl (ca 6, 24, .inr (.inl (fun _ => 0)))), (a 13, .inl (ca 13, 100, .inl (fun _ => 0))), (a 14, .inl (ca 14, 100, .inr (.inl (fun _ => 0)))), (ho, .inl (co, 1, .inr (.inl (fun _ => 0))))] H := hP
  have hD : va_D (lA s) [(h0, .inr (10, xF hm h1 h2 h3 0 0 1000)), (hm, .inr (5, [.int 0, .int 0])), (h1, .inl (cx 1, 24, .inr (.inr (.inr (.inr (fun _ => none)))))), (h2, .inl (cx 2, 100, .inr (.inl (fun _ => 0)))), (h3, .inl (cx 3, 100, .inl (fun _ => 0))), (g0, .inr (11, mF a 0 0 1000 0)), (a 1, .inl (ca 1, 24, .inl (fun _ => 0))), (a 2, .inl (ca 2, 24, .inl (fun _ => 0))), (a 3, .inl (ca 3, 24, .inl (fun _ => 0))), (a 4, .inl (ca 4, 24, .inl (fun _ => 0))), (a 5, .inl (ca 5, 24, .inr (.inl (fun _ => 0)))), (a 6, .inl (ca 6, 24, .inr (.inl (fun _ => 0)))), (a 13, .inl (ca 13, 100, .inl (fun _ => 0))), (a 14, .inl (ca 14, 100, .inr (.inl (fun _ => 0)))), (ho, .inl (co, 1, .inr (.inl (fun _ => 0))))] := hD
  refine W.widen (k := 24) (n := 78348) (by decide +kernel) (by decide +kernel) ?_
  obtain rfl : r_3 = 1 := hw
  refine lv_istore (lv' := [(5, .int 1), (4, .int 0), (3, .ref ho), (2, .ref g0), (1, .ref h0), (0, .ref b)]) hx hb dL_law_1517 hl (by decide) rfl (fun ls hl => ?_)
  refine lv_aload_n hx hb dL_law_1519 rfl (lv_at hl 3 rfl) ?_
  refine lv_aload_n hx hb dL_law_1520 rfl (lv_at hl 5 rfl) ?_
  refine lv_iload hx hb dL_law_1521 (lv_at hl 1 rfl) ?_
  refine lv_iconst (v := 1) hx hb dL_law_1523 (by decide) ?_
  refine lv_iadd hx hb dL_law_1524 ?_
  refine lv_topi (fun z_5 ez_5 => ?_)
  obtain rfl : z_5 = 1 := ez_5.trans (by decide)
  refine va_sld hx hb hX hbl hbA hS (nd_in (i := 1) (n := 6) (by decide)) dL_law_1525 ?_
  refine lv_aload_n hx hb dL_law_1526 rfl (lv_at hl 5 rfl) ?_
  refine lv_iload hx hb dL_law_1527 (lv_at hl 1 rfl) ?_
  refine lv_iconst (v := 2) hx hb dL_law_1529 (by decide) ?_
  refine lv_iadd hx hb dL_law_1530 ?_
  refine lv_topi (fun z_6 ez_6 => ?_)
  obtain rfl : z_6 = 2 := ez_6.trans (by decide)
  refine va_sld hx hb hX hbl hbA hS (nd_in (i := 2) (n := 6) (by decide)) dL_law_1531 ?_
  have hPc := hP.sub (ws' := [(g0, .inr (11, mF a 0 0 1000 0))]) [5] rfl
  have hDc := hD.sub (ws' := [(g0, .inr (11, mF a 0 0 1000 0))]) [5] (by decide) rfl
  have hKc := hK.sub (tys' := []) [] rfl
  have hFc := va_free (wc := [(g0, .inr (11, mF a 0 0 1000 0))]) hD hS hA [5] rfl
  refine va_calli (va_runV (As := [.int (xs (1 : Int32).toNatClampNeg), .int (xs (2 : Int32).toNatClampNeg)]) (rest := []) ⟨hx, hb, hml, hown, hts⟩ (c_X12_other l dC dI a g0 (xs (1 : Int32).toNatClampNeg) (xs (2 : Int32).toNatClampNeg) H.size) (cwV 2 hts tL_law_X12_other rfl rfl rfl (by decide +kernel) ⟨Nat.le_of_ble_eq_true rfl, Nat.le_of_ble_eq_true rfl⟩) ⟨fun a U g mk q => by obtain ⟨q0, q1, qP, qK, qD⟩ := q; exact ⟨q0, q1, qP, va_K.moved (u := U) (U := U.calling g mk a) (Vm.Alike.refl U.vm) qK, qD⟩, va_recv hKc hPc (ci := 11) (q0 := 0) rfl rfl, fun U hU hW => ⟨rfl, by rw [hU], by rw [hU]; exact hPc, va_K.moved hW.alike hKc, hDc.weaken (fun _ _ _ _ => trivial)⟩⟩ rfl rfl hl.1 rfl (lv_room (Nat.le_of_ble_eq_true rfl)) dL_law_1532 ⟨Nat.le_of_ble_eq_true rfl, Nat.le_of_ble_eq_true rfl⟩) hS (fun q _ h => hFc q h) hFc (fun r_7 u_8 t H1 locs ht hvm hw hB hz1 hk1 hS => ?_)
  obtain ⟨ul_9, um_10, up_11, ut_12⟩ := u_8
  dsimp only at hw
  obtain ⟨hP1, hK1, hD1⟩ := hB
  rw [ht] at hP1
  have hK1 := va_K.moved hvm.symm hK1
  have hK := hK.app hK1
  obtain ⟨hP, hD⟩ := va_join (wr := [(h0, .inr (10, xF hm h1 h2 h3 0 0 1000)), (hm, .inr (5, [.int 0, .int 0])), (h1, .inl (cx 1, 24, .inr (.inr (.inr (.inr (fun _ => none)))))), (h2, .inl (cx 2, 100, .inr (.inl (fun _ => 0)))), (h3, .inl (cx 3, 100, .inl (fun _ => 0))), (a 1, .inl (ca 1, 24, .inl (fun _ => 0))), (a 2, .inl (ca 2, 24, .inl (fun _ => 0))), (a 3, .inl (ca 3, 24, .inl (fun _ => 0))), (a 4, .inl (ca 4, 24, .inl (fun _ => 0))), (a 5, .inl (ca 5, 24, .inr (.inl (fun _ => 0)))), (a 6, .inl (ca 6, 24, .inr (.inl (fun _ => 0)))), (a 13, .inl (ca 13, 100, .inl (fun _ => 0))), (a 14, .inl (ca 14, 100, .inr (.inl (fun _ => 0)))), (ho, .inl (co, 1, .inr (.inl (fun _ => 0))))]) (w1 := [(g0, .inr (11, mF a ul_9 um_10 up_11 ut_12))]) hP hD [5] [0, 1, 2, 3, 4, 6, 7, 8, 9, 10, 11, 12, 13, 14] rfl rfl (by decide) (by decide) hk1 hFc hP1 hD1
  generalize H1 = H at hP hS ⊢
  have hP : va_P (dC, dI) vwCl [(h0, .inr (10, xF hm h1 h2 h3 0 0 1000)), (hm, .inr (5, [.int 0, .int 0])), (h1, .inl (cx 1, 24, .inr (.inr (.inr (.inr (fun _ => none)))))), (h2, .inl (cx 2, 100, .inr (.inl (fun _ => 0)))), (h3, .inl (cx 3, 100, .inl (fun _ => 0))), (a 1, .inl (ca 1, 24, .inl (fun _ => 0))), (a 2, .inl (ca 2, 24, .inl (fun _ => 0))), (a 3, .inl (ca 3, 24, .inl (fun _ => 0))), (a 4, .inl (ca 4, 24, .inl (fun _ => 0))), (a 5, .inl (ca 5, 24, .inr (.inl (fun _ => 0)))), (a 6, .inl (ca 6, 24, .inr (.inl (fun _ => 0)))), (a 13, .inl (ca 13, 100, .inl (fun _ => 0))), (a 14, .inl (ca 14, 100, .inr (.inl (fun _ => 0)))), (ho, .inl (co, 1, .inr (.inl (fun _ => 0)))), (g0, .inr (11, mF a ul_9 um_10 up_11 ut_12))] H := hP
  have hD : va_D (lA s) [(h0, .inr (10, xF hm h1 h2 h3 0 0 1000)), (hm, .inr (5, [.int 0, .int 0])), (h1, .inl (cx 1, 24, .inr (.inr (.inr (.inr (fun _ => none)))))), (h2, .inl (cx 2, 100, .inr (.inl (fun _ => 0)))), (h3, .inl (cx 3, 100, .inl (fun _ => 0))), (a 1, .inl (ca 1, 24, .inl (fun _ => 0))), (a 2, .inl (ca 2, 24, .inl (fun _ => 0))), (a 3, .inl (ca 3, 24, .inl (fun _ => 0))), (a 4, .inl (ca 4, 24, .inl (fun _ => 0))), (a 5, .inl (ca 5, 24, .inr (.inl (fun _ => 0)))), (a 6, .inl (ca 6, 24, .inr (.inl (fun _ => 0)))), (a 13, .inl (ca 13, 100, .inl (fun _ => 0))), (a 14, .inl (ca 14, 100, .inr (.inl (fun _ => 0)))), (ho, .inl (co, 1, .inr (.inl (fun _ => 0)))), (g0, .inr (11, mF a ul_9 um_10 up_11 ut_12))] := hD
  have hK : va_K (dC, dI) vwCl [(cx 1, .object RX5), (cx 2, .long), (cx 3, .byte), (ca 1, .int), (ca 2, .int), (ca 3, .int), (ca 4, .int), (ca 5, .long), (ca 6, .long), (ca 13, .int), (ca 14, .long), (co, .long)] s := hK
  refine W.widen (k := 24) (n := 78348) (by decide +kernel) (by decide +kernel) ?_
  obtain rfl : ut_12 = 1 := hw
  refine lv_istore (lv' := [(6, .int r_7), (5, .int 1), (4, .int 0), (3, .ref ho), (2, .ref g0), (1, .ref h0), (0, .ref b)]) hx hb dL_law_1535 hl (by decide) rfl (fun ls hl => ?_)
  refine lv_aload_n hx hb dL_law_1537 rfl (lv_at hl 4 rfl) ?_
  have hPc := hP.sub (ws' := [(g0, .inr (11, mF a ul_9 um_10 up_11 1))]) [14] rfl
  have hDc : va_D (fun _ => True) ([] : va_W) := nd_0
  have hKc := hK.sub (tys' := []) [] rfl
  have hFc := va_free (wc := []) hD hS hA [] rfl
  refine va_calli (va_runV (As := []) (rest := []) ⟨hx, hb, hml, hown, hts⟩ (c_X12_thrown l dC dI a g0 ul_9 um_10 up_11 1 H.size) (cwV 0 hts tL_law_X12_thrown rfl rfl rfl (by decide +kernel) ⟨Nat.le_of_ble_eq_true rfl, Nat.le_of_ble_eq_true rfl⟩) ⟨fun a U g mk q => by obtain ⟨q0, q1, qP, qK, qD⟩ := q; exact ⟨q0, q1, qP, va_K.moved (u := U) (U := U.calling g mk a) (Vm.Alike.refl U.vm) qK, qD⟩, va_recv hKc hPc (ci := 11) (q0 := 0) rfl rfl, fun U hU hW => ⟨rfl, by rw [hU], by rw [hU]; exact hPc, va_K.moved hW.alike hKc, nd_0⟩⟩ rfl rfl hl.1 rfl (lv_room (Nat.le_of_ble_eq_true rfl)) dL_law_1538 ⟨Nat.le_of_ble_eq_true rfl, Nat.le_of_ble_eq_true rfl⟩) hS (fun q _ h => hFc q h) hFc (fun r_14 u_15 t H1 locs ht hvm hw hB hz1 hk1 hS => ?_)
  have hP := nd_keep hP hk1
  generalize H1 = H at hP hS ⊢
  have hP : va_P (dC, dI) vwCl [(h0, .inr (10, xF hm h1 h2 h3 0 0 1000)), (hm, .inr (5, [.int 0, .int 0])), (h1, .inl (cx 1, 24, .inr (.inr (.inr (.inr (fun _ => none)))))), (h2, .inl (cx 2, 100, .inr (.inl (fun _ => 0)))), (h3, .inl (cx 3, 100, .inl (fun _ => 0))), (a 1, .inl (ca 1, 24, .inl (fun _ => 0))), (a 2, .inl (ca 2, 24, .inl (fun _ => 0))), (a 3, .inl (ca 3, 24, .inl (fun _ => 0))), (a 4, .inl (ca 4, 24, .inl (fun _ => 0))), (a 5, .inl (ca 5, 24, .inr (.inl (fun _ => 0)))), (a 6, .inl (ca 6, 24, .inr (.inl (fun _ => 0)))), (a 13, .inl (ca 13, 100, .inl (fun _ => 0))), (a 14, .inl (ca 14, 100, .inr (.inl (fun _ => 0)))), (ho, .inl (co, 1, .inr (.inl (fun _ => 0)))), (g0, .inr (11, mF a ul_9 um_10 up_11 1))] H := hP
  have hD : va_D (lA s) [(h0, .inr (10, xF hm h1 h2 h3 0 0 1000)), (hm, .inr (5, [.int 0, .int 0])), (h1, .inl (cx 1, 24, .inr (.inr (.inr (.inr (fun _ => none)))))), (h2, .inl (cx 2, 100, .inr (.inl (fun _ => 0)))), (h3, .inl (cx 3, 100, .inl (fun _ => 0))), (a 1, .inl (ca 1, 24, .inl (fun _ => 0))), (a 2, .inl (ca 2, 24, .inl (fun _ => 0))), (a 3, .inl (ca 3, 24, .inl (fun _ => 0))), (a 4, .inl (ca 4, 24, .inl (fun _ => 0))), (a 5, .inl (ca 5, 24, .inr (.inl (fun _ => 0)))), (a 6, .inl (ca 6, 24, .inr (.inl (fun _ => 0)))), (a 13, .inl (ca 13, 100, .inl (fun _ => 0))), (a 14, .inl (ca 14, 100, .inr (.inl (fun _ => 0)))), (ho, .inl (co, 1, .inr (.inl (fun _ => 0)))), (g0, .inr (11, mF a ul_9 um_10 up_11 1))] := hD
  refine W.widen (k := 24) (n := 78348) (by decide +kernel) (by decide +kernel) ?_
  obtain rfl : r_14 = 1 := hw
  refine lv_iload hx hb dL_law_1541 (lv_at hl 1 rfl) ?_
  refine lv_icmp_eq (tgt := 1548) hx hb dL_law_1543 (by decide) (fun c_1543 => ?_) (fun c_1543 => ?_)
  · refine lv_iload hx hb dL_law_1548 (lv_at hl 1 rfl) ?_
    refine lv_if_ne (tgt := 1565) hx hb dL_law_1550 (by decide) (fun c_1550 => ?_) (fun c_1550 => ?_)
    · refine lv_goto (tgt := 2206) hx hb dL_law_1565 (by decide) ?_
      refine W.widen (k := 100) (n := 200000) (by decide +kernel) (by decide +kernel) ?_
      exact law_end l hx hb hr hlocks hX hbl hbA hS (lv_sub hl [2, 6] rfl)
    · exact absurd c_1550 (by decide)
  · exact absurd c_1543 (by decide)
set_option maxHeartbeats 4000000 in
set_option maxRecDepth 100000 in
theorem law_case_15 {p : Program} {e : Env} {s : State} {m : MethodId} {below : List Frame} {meth : Method} {c : Code} (l : Launch) (hl0 : l.stackTraces = false) {b : Nat} {xs : Nat → Int32} (C0 : lw_At p s m meth c b 6 xs) (hG : Gw s) (hZ : Gz (lA s) s s.heap) {dC : Nat → ClassId} {dI : Nat → Nat → Nat} {h0 hm h1 h2 h3 g0 ho : Nat} {a : Nat → Nat} {ca cx : Nat → ClassId} {co : ClassId} {H : Heap} {locs : List Loc} (hK : va_K (dC, dI) vwCl [(cx 1, .object RX5), (cx 2, .long), (cx 3, .byte), (ca 1, .int), (ca 2, .int), (ca 3, .int), (ca 4, .int), (ca 5, .long), (ca 6, .long), (ca 13, .int), (ca 14, .long), (co, .long)] s) (hP : va_P (dC, dI) vwCl [(h0, .inr (10, xF hm h1 h2 h3 0 0 1000)), (hm, .inr (5, [.int 0, .int 0])), (h1, .inl (cx 1, 24, .inr (.inr (.inr (.inr (fun _ => none)))))), (h2, .inl (cx 2, 100, .inr (.inl (fun _ => 0)))), (h3, .inl (cx 3, 100, .inl (fun _ => 0))), (g0, .inr (11, mF a 0 0 1000 0)), (a 1, .inl (ca 1, 24, .inl (fun _ => 0))), (a 2, .inl (ca 2, 24, .inl (fun _ => 0))), (a 3, .inl (ca 3, 24, .inl (fun _ => 0))), (a 4, .inl (ca 4, 24, .inl (fun _ => 0))), (a 5, .inl (ca 5, 24, .inr (.inl (fun _ => 0)))), (a 6, .inl (ca 6, 24, .inr (.inl (fun _ => 0)))), (a 13, .inl (ca 13, 100, .inl (fun _ => 0))), (a 14, .inl (ca 14, 100, .inr (.inl (fun _ => 0)))), (ho, .inl (co, 1, .inr (.inl (fun _ => 0))))] H) (hD : va_D (lA s) [(h0, .inr (10, xF hm h1 h2 h3 0 0 1000)), (hm, .inr (5, [.int 0, .int 0])), (h1, .inl (cx 1, 24, .inr (.inr (.inr (.inr (fun _ => none)))))), (h2, .inl (cx 2, 100, .inr (.inl (fun _ => 0)))), (h3, .inl (cx 3, 100, .inl (fun _ => 0))), (g0, .inr (11, mF a 0 0 1000 0)), (a 1, .inl (ca 1, 24, .inl (fun _ => 0))), (a 2, .inl (ca 2, 24, .inl (fun _ => 0))), (a 3, .inl (ca 3, 24, .inl (fun _ => 0))), (a 4, .inl (ca 4, 24, .inl (fun _ => 0))), (a 5, .inl (ca 5, 24, .inr (.inl (fun _ => 0)))), (a 6, .inl (ca 6, 24, .inr (.inl (fun _ => 0)))), (a 13, .inl (ca 13, 100, .inl (fun _ => 0))), (a 14, .inl (ca 14, 100, .inr (.inl (fun _ => 0)))), (ho, .inl (co, 1, .inr (.inl (fun _ => 0))))]) (hS : va_S (lA s) s.heap H locs) {ls : Array Slot} (hl : lv_has ls 8 [(4, .int 0), (3, .ref ho), (2, .ref g0), (1, .ref h0), (0, .ref b)]) : W p l e room_1 s m #[Value.ref b] below meth c H locs 23 78342 (lw_Z below #[Value.ref b] s) (F0 m 1568 ls []) := by
  obtain ⟨hx, hb, hr, hml, hown, hts0, hX, hbl, hlocks, hgv⟩ := C0
  have hts := hts0
  have hcl := hts0 _ law_cl
  have hA : ∀ q : Nat, s.heap.size ≤ q → lA s q := fun _ h => h
  have hbA : ¬ lA s b := Nat.not_le.mpr hbl
  refine lv_aload_n hx hb dL_law_1568 rfl (lv_at hl 3 rfl) ?_
  refine lv_aload_n hx hb dL_law_1569 rfl (lv_at hl 4 rfl) ?_
  refine lv_iload hx hb dL_law_1570 (lv_at hl 0 rfl) ?_
  refine lv_iconst (v := 1) hx hb dL_law_1572 (by decide) ?_
  refine lv_iadd hx hb dL_law_1573 ?_
  refine lv_topi (fun z_1 ez_1 => ?_)
  obtain rfl : z_1 = 1 := ez_1.trans (by decide)
  refine va_sld hx hb hX hbl hbA hS (nd_in (i := 1) (n := 6) (by decide)) dL_law_1574 ?_
  refine lv_aload_n hx hb dL_law_1575 rfl (lv_at hl 1 rfl) ?_
  have hPc := hP.sub (ws' := [(h0, .inr (10, xF hm h1 h2 h3 0 0 1000)), (ho, .inl (co, 1, .inr (.inl (fun _ => 0))))]) [0, 14] rfl
  have hDc := hD.sub (ws' := [(h0, .inr (10, xF hm h1 h2 h3 0 0 1000)), (ho, .inl (co, 1, .inr (.inl (fun _ => 0))))]) [0, 14] (by decide) rfl
  have hKc := hK.sub (tys' := [(co, .long)]) [11] rfl
  have hFc := va_free (wc := [(h0, .inr (10, xF hm h1 h2 h3 0 0 1000)), (ho, .inl (co, 1, .inr (.inl (fun _ => 0))))]) hD hS hA [0, 14] rfl
  refine va_calli (vx_runSW (As := [.ref h0, .int (xs (1 : Int32).toNatClampNeg), .ref ho]) (rest := []) ⟨hx, hb, hml, hown, hts⟩ (c_L_steps l hl0 dC dI h0 hm h1 h2 h3 (xs (1 : Int32).toNatClampNeg) ho co (fun _ => 0) H.size) (vx_cwSW 3 hts tL_law_L_steps rfl rfl rfl (by decide +kernel) ⟨Nat.le_of_ble_eq_true rfl, Nat.le_of_ble_eq_true rfl⟩) ⟨fun a U g mk q => by obtain ⟨q0, q1, qP, qK, qD, qG, qZ⟩ := q; exact ⟨q0, q1, qP, va_K.moved (u := U) (U := U.calling g mk a) (Vm.Alike.refl U.vm) qK, qD, Gw.same (u := U) (U := U.calling g mk a) rfl qG, Gz.moved (u := U) (U := U.calling g mk a) (Vm.Alike.refl U.vm) qZ⟩, fun U hU hW => ⟨rfl, by rw [hU], by rw [hU]; exact hPc, va_K.moved hW.alike hKc, hDc.weaken (fun _ _ _ _ => trivial), Gw.warm hW hG, Gz.step hZ hS hFc hU hW.alike⟩⟩ rfl rfl hl.1 rfl (lv_room (Nat.le_of_ble_eq_true rfl)) dL_law_1576 ⟨Nat.le_of_ble_eq_true rfl, Nat.le_of_ble_eq_true rfl⟩) hS (fun q _ h => hFc q h) hFc (fun r_2 u_3 t H1 locs ht hvm hw hB hz1 hk1 hS => ?_)
  obtain ⟨hP1, hK1, hD1⟩ := hB
  rw [ht] at hP1
  have hK1 := va_K.moved hvm.symm hK1
  have hK := hK.app hK1
  obtain ⟨hP, hD⟩ := va_join (wr := [(hm, .inr (5, [.int 0, .int 0])), (h1, .inl (cx 1, 24, .inr (.inr (.inr (.inr (fun _ => none)))))), (h2, .inl (cx 2, 100, .inr (.inl (fun _ => 0)))), (h3, .inl (cx 3, 100, .inl (fun _ => 0))), (g0, .inr (11, mF a 0 0 1000 0)), (a 1, .inl (ca 1, 24, .inl (fun _ => 0))), (a 2, .inl (ca 2, 24, .inl (fun _ => 0))), (a 3, .inl (ca 3, 24, .inl (fun _ => 0))), (a 4, .inl (ca 4, 24, .inl (fun _ => 0))), (a 5, .inl (ca 5, 24, .inr (.inl (fun _ => 0)))), (a 6, .inl (ca 6, 24, .inr (.inl (fun _ => 0)))), (a 13, .inl (ca 13, 100, .inl (fun _ => 0))), (a 14, .inl (ca 14, 100, .inr (.inl (fun _ => 0))))]) (w1 := [(ho, .inl (co, 1, .inr (.inl (u_3))))]) hP hD [0, 14] [1, 2, 3, 4, 5, 6, 7, 8, 9, 10, 11, 12, 13] rfl rfl (by decide) (by decide) hk1 hFc hP1 hD1
  generalize H1 = H at hP hS ⊢
  have hP : va_P (dC, dI) vwCl [(hm, .inr (5, [.int 0, .int 0])), (h1, .inl (cx 1, 24, .inr (.inr (.inr (.inr (fun _ => none)))))), (h2, .inl (cx 2, 100, .inr (.inl (fun _ => 0)))), (h3, .inl (cx 3, 100, .inl (fun _ => 0))), (g0, .inr (11, mF a 0 0 1000 0)), (a 1, .inl (ca 1, 24, .inl (fun _ => 0))), (a 2, .inl (ca 2, 24, .inl (fun _ => 0))), (a 3, .inl (ca 3, 24, .inl (fun _ => 0))), (a 4, .inl (ca 4, 24, .inl (fun _ => 0))), (a 5, .inl (ca 5, 24, .inr (.inl (fun _ => 0)))), (a 6, .inl (ca 6, 24, .inr (.inl (fun _ => 0)))), (a 13, .inl (ca 13, 100, .inl (fun _ => 0))), (a 14, .inl (ca 14, 100, .inr (.inl (fun _ => 0)))), (ho, .inl (co, 1, .inr (.inl (u_3))))] H := hP
  have hD : va_D (lA s) [(hm, .inr (5, [.int 0, .int 0])), (h1, .inl (cx 1, 24, .inr (.inr (.inr (.inr (fun _ => none)))))), (h2, .inl (cx 2, 100, .inr (.inl (fun _ => 0)))), (h3, .inl (cx 3, 100, .inl (fun _ => 0))), (g0, .inr (11, mF a 0 0 1000 0)), (a 1, .inl (ca 1, 24, .inl (fun _ => 0))), (a 2, .inl (ca 2, 24, .inl (fun _ => 0))), (a 3, .inl (ca 3, 24, .inl (fun _ => 0))), (a 4, .inl (ca 4, 24, .inl (fun _ => 0))), (a 5, .inl (ca 5, 24, .inr (.inl (fun _ => 0)))), (a 6, .inl (ca 6, 24, .inr (.inl (fun _ => 0)))), (a 13, .inl (ca 13, 100, .inl (fun _ => 0))), (a 14, .inl (ca 14, 100, .inr (.inl (fun _ => 0)))), (ho, .inl (co, 1, .inr (.inl (u_3))))] := hD
  have hK : va_K (dC, dI) vwCl [(cx 1, .object RX5), (cx 2, .long), (cx 3, .byte), (ca 1, .int), (ca 2, .int), (ca 3, .int), (ca 4, .int), (ca 5, .long), (ca 6, .long), (ca 13, .int), (ca 14, .long), (co, .long), (co, .long)] s := hK
  refine W.widen (k := 24) (n := 78348) (by decide +kernel) (by decide +kernel) ?_
  obtain ⟨rfl, hv_4⟩ := hw
  refine lv_istore (lv' := [(5, .int (kSteps (xs (1 : Int32).toNatClampNeg))), (4, .int 0), (3, .ref ho), (2, .ref g0), (1, .ref h0), (0, .ref b)]) hx hb dL_law_1579 hl (by decide) rfl (fun ls hl => ?_)
  refine lv_aload_n hx hb dL_law_1581 rfl (lv_at hl 3 rfl) ?_
  refine lv_aload_n hx hb dL_law_1582 rfl (lv_at hl 5 rfl) ?_
  refine lv_iload hx hb dL_law_1583 (lv_at hl 1 rfl) ?_
  refine lv_iconst (v := 1) hx hb dL_law_1585 (by decide) ?_
  refine lv_iadd hx hb dL_law_1586 ?_
  refine lv_topi (fun z_5 ez_5 => ?_)
  obtain rfl : z_5 = 1 := ez_5.trans (by decide)
  refine va_sld hx hb hX hbl hbA hS (nd_in (i := 1) (n := 6) (by decide)) dL_law_1587 ?_
  have hPc := hP.sub (ws' := [(g0, .inr (11, mF a 0 0 1000 0))]) [4] rfl
  have hDc := hD.sub (ws' := [(g0, .inr (11, mF a 0 0 1000 0))]) [4] (by decide) rfl
  have hKc := hK.sub (tys' := []) [] rfl
  have hFc := va_free (wc := [(g0, .inr (11, mF a 0 0 1000 0))]) hD hS hA [4] rfl
  refine va_calli (va_runV (As := [.int (xs (1 : Int32).toNatClampNeg)]) (rest := []) ⟨hx, hb, hml, hown, hts⟩ (c_X12_steps l dC dI a g0 (xs (1 : Int32).toNatClampNeg) H.size) (cwV 1 hts tL_law_X12_steps rfl rfl rfl (by decide +kernel) ⟨Nat.le_of_ble_eq_true rfl, Nat.le_of_ble_eq_true rfl⟩) ⟨fun a U g mk q => by obtain ⟨q0, q1, qP, qK, qD⟩ := q; exact ⟨q0, q1, qP, va_K.moved (u := U) (U := U.calling g mk a) (Vm.Alike.refl U.vm) qK, qD⟩, va_recv hKc hPc (ci := 11) (q0 := 0) rfl rfl, fun U hU hW => ⟨rfl, by rw [hU], by rw [hU]; exact hPc, va_K.moved hW.alike hKc, hDc.weaken (fun _ _ _ _ => trivial)⟩⟩ rfl rfl hl.1 rfl (lv_room (Nat.le_of_ble_eq_true rfl)) dL_law_1588 ⟨Nat.le_of_ble_eq_true rfl, Nat.le_of_ble_eq_true rfl⟩) hS (fun q _ h => hFc q h) hFc (fun r_6 u_7 t H1 locs ht hvm hw hB hz1 hk1 hS => ?_)
  obtain ⟨ul_8, um_9, up_10, ut_11⟩ := u_7
  dsimp only at hw
  obtain ⟨hP1, hK1, hD1⟩ := hB
  rw [ht] at hP1
  have hK1 := va_K.moved hvm.symm hK1
  have hK := hK.app hK1
  obtain ⟨hP, hD⟩ := va_join (wr := [(hm, .inr (5, [.int 0, .int 0])), (h1, .inl (cx 1, 24, .inr (.inr (.inr (.inr (fun _ => none)))))), (h2, .inl (cx 2, 100, .inr (.inl (fun _ => 0)))), (h3, .inl (cx 3, 100, .inl (fun _ => 0))), (a 1, .inl (ca 1, 24, .inl (fun _ => 0))), (a 2, .inl (ca 2, 24, .inl (fun _ => 0))), (a 3, .inl (ca 3, 24, .inl (fun _ => 0))), (a 4, .inl (ca 4, 24, .inl (fun _ => 0))), (a 5, .inl (ca 5, 24, .inr (.inl (fun _ => 0)))), (a 6, .inl (ca 6, 24, .inr (.inl (fun _ => 0)))), (a 13, .inl (ca 13, 100, .inl (fun _ => 0))), (a 14, .inl (ca 14, 100, .inr (.inl (fun _ => 0)))), (ho, .inl (co, 1, .inr (.inl (u_3))))]) (w1 := [(g0, .inr (11, mF a ul_8 um_9 up_10 ut_11))]) hP hD [4] [0, 1, 2, 3, 5, 6, 7, 8, 9, 10, 11, 12, 13] rfl rfl (by decide) (by decide) hk1 hFc hP1 hD1
  generalize H1 = H at hP hS ⊢
  have hP : va_P (dC, dI) vwCl [(hm, .inr (5, [.int 0, .int 0])), (h1, .inl (cx 1, 24, .inr (.inr (.inr (.inr (fun _ => none)))))), (h2, .inl (cx 2, 100, .inr (.inl (fun _ => 0)))), (h3, .inl (cx 3, 100, .inl (fun _ => 0))), (a 1, .inl (ca 1, 24, .inl (fun _ => 0))), (a 2, .inl (ca 2, 24, .inl (fun _ => 0))), (a 3, .inl (ca 3, 24, .inl (fun _ => 0))), (a 4, .inl (ca 4, 24, .inl (fun _ => 0))), (a 5, .inl (ca 5, 24, .inr (.inl (fun _ => 0)))), (a 6, .inl (ca 6, 24, .inr (.inl (fun _ => 0)))), (a 13, .inl (ca 13, 100, .inl (fun _ => 0))), (a 14, .inl (ca 14, 100, .inr (.inl (fun _ => 0)))), (ho, .inl (co, 1, .inr (.inl (u_3)))), (g0, .inr (11, mF a ul_8 um_9 up_10 ut_11))] H := hP
  have hD : va_D (lA s) [(hm, .inr (5, [.int 0, .int 0])), (h1, .inl (cx 1, 24, .inr (.inr (.inr (.inr (fun _ => none)))))), (h2, .inl (cx 2, 100, .inr (.inl (fun _ => 0)))), (h3, .inl (cx 3, 100, .inl (fun _ => 0))), (a 1, .inl (ca 1, 24, .inl (fun _ => 0))), (a 2, .inl (ca 2, 24, .inl (fun _ => 0))), (a 3, .inl (ca 3, 24, .inl (fun _ => 0))), (a 4, .inl (ca 4, 24, .inl (fun _ => 0))), (a 5, .inl (ca 5, 24, .inr (.inl (fun _ => 0)))), (a 6, .inl (ca 6, 24, .inr (.inl (fun _ => 0)))), (a 13, .inl (ca 13, 100, .inl (fun _ => 0))), (a 14, .inl (ca 14, 100, .inr (.inl (fun _ => 0)))), (ho, .inl (co, 1, .inr (.inl (u_3)))), (g0, .inr (11, mF a ul_8 um_9 up_10 ut_11))] := hD
  have hK : va_K (dC, dI) vwCl [(cx 1, .object RX5), (cx 2, .long), (cx 3, .byte), (ca 1, .int), (ca 2, .int), (ca 3, .int), (ca 4, .int), (ca 5, .long), (ca 6, .long), (ca 13, .int), (ca 14, .long), (co, .long), (co, .long)] s := hK
  refine W.widen (k := 24) (n := 78348) (by decide +kernel) (by decide +kernel) ?_
  obtain ⟨rfl, hv_12⟩ := hw
  refine lv_istore (lv' := [(6, .int r_6), (5, .int (kSteps (xs (1 : Int32).toNatClampNeg))), (4, .int 0), (3, .ref ho), (2, .ref g0), (1, .ref h0), (0, .ref b)]) hx hb dL_law_1591 hl (by decide) rfl (fun ls hl => ?_)
  refine lv_aload_n hx hb dL_law_1593 rfl (lv_at hl 4 rfl) ?_
  have hPc := hP.sub (ws' := [(g0, .inr (11, mF a ul_8 um_9 up_10 (kSteps (xs (1 : Int32).toNatClampNeg))))]) [13] rfl
  have hDc : va_D (fun _ => True) ([] : va_W) := nd_0
  have hKc := hK.sub (tys' := []) [] rfl
  have hFc := va_free (wc := []) hD hS hA [] rfl
  refine va_calli (va_runV (As := []) (rest := []) ⟨hx, hb, hml, hown, hts⟩ (c_X12_thrown l dC dI a g0 ul_8 um_9 up_10 (kSteps (xs (1 : Int32).toNatClampNeg)) H.size) (cwV 0 hts tL_law_X12_thrown rfl rfl rfl (by decide +kernel) ⟨Nat.le_of_ble_eq_true rfl, Nat.le_of_ble_eq_true rfl⟩) ⟨fun a U g mk q => by obtain ⟨q0, q1, qP, qK, qD⟩ := q; exact ⟨q0, q1, qP, va_K.moved (u := U) (U := U.calling g mk a) (Vm.Alike.refl U.vm) qK, qD⟩, va_recv hKc hPc (ci := 11) (q0 := 0) rfl rfl, fun U hU hW => ⟨rfl, by rw [hU], by rw [hU]; exact hPc, va_K.moved hW.alike hKc, nd_0⟩⟩ rfl rfl hl.1 rfl (lv_room (Nat.le_of_ble_eq_true rfl)) dL_law_1594 ⟨Nat.le_of_ble_eq_true rfl, Nat.le_of_ble_eq_true rfl⟩) hS (fun q _ h => hFc q h) hFc (fun r_13 u_14 t H1 locs ht hvm hw hB hz1 hk1 hS => ?_)
  have hP := nd_keep hP hk1
  generalize H1 = H at hP hS ⊢
  have hP : va_P (dC, dI) vwCl [(hm, .inr (5, [.int 0, .int 0])), (h1, .inl (cx 1, 24, .inr (.inr (.inr (.inr (fun _ => none)))))), (h2, .inl (cx 2, 100, .inr (.inl (fun _ => 0)))), (h3, .inl (cx 3, 100, .inl (fun _ => 0))), (a 1, .inl (ca 1, 24, .inl (fun _ => 0))), (a 2, .inl (ca 2, 24, .inl (fun _ => 0))), (a 3, .inl (ca 3, 24, .inl (fun _ => 0))), (a 4, .inl (ca 4, 24, .inl (fun _ => 0))), (a 5, .inl (ca 5, 24, .inr (.inl (fun _ => 0)))), (a 6, .inl (ca 6, 24, .inr (.inl (fun _ => 0)))), (a 13, .inl (ca 13, 100, .inl (fun _ => 0))), (a 14, .inl (ca 14, 100, .inr (.inl (fun _ => 0)))), (ho, .inl (co, 1, .inr (.inl (u_3)))), (g0, .inr (11, mF a ul_8 um_9 up_10 (kSteps (xs (1 : Int32).toNatClampNeg))))] H := hP
  have hD : va_D (lA s) [(hm, .inr (5, [.int 0, .int 0])), (h1, .inl (cx 1, 24, .inr (.inr (.inr (.inr (fun _ => none)))))), (h2, .inl (cx 2, 100, .inr (.inl (fun _ => 0)))), (h3, .inl (cx 3, 100, .inl (fun _ => 0))), (a 1, .inl (ca 1, 24, .inl (fun _ => 0))), (a 2, .inl (ca 2, 24, .inl (fun _ => 0))), (a 3, .inl (ca 3, 24, .inl (fun _ => 0))), (a 4, .inl (ca 4, 24, .inl (fun _ => 0))), (a 5, .inl (ca 5, 24, .inr (.inl (fun _ => 0)))), (a 6, .inl (ca 6, 24, .inr (.inl (fun _ => 0)))), (a 13, .inl (ca 13, 100, .inl (fun _ => 0))), (a 14, .inl (ca 14, 100, .inr (.inl (fun _ => 0)))), (ho, .inl (co, 1, .inr (.inl (u_3)))), (g0, .inr (11, mF a ul_8 um_9 up_10 (kSteps (xs (1 : Int32).toNatClampNeg))))] := hD
  refine W.widen (k := 24) (n := 78348) (by decide +kernel) (by decide +kernel) ?_
  obtain rfl : r_13 = kSteps (xs (1 : Int32).toNatClampNeg) := hw
  refine lv_iload hx hb dL_law_1597 (lv_at hl 1 rfl) ?_
  refine lv_icmp_eq (tgt := 1604) hx hb dL_law_1599 (by decide) (fun c_1599 => ?_) (fun c_1599 => ?_)
  · refine lv_iload hx hb dL_law_1604 (lv_at hl 1 rfl) ?_
    refine lv_if_ne (tgt := 1621) hx hb dL_law_1606 (by decide) (fun c_1606 => ?_) (fun c_1606 => ?_)
    · refine lv_goto (tgt := 2206) hx hb dL_law_1621 (by decide) ?_
      refine W.widen (k := 100) (n := 200000) (by decide +kernel) (by decide +kernel) ?_
      exact law_end l hx hb hr hlocks hX hbl hbA hS (lv_sub hl [2, 6] rfl)
    · refine lv_aload_n hx hb dL_law_1609 rfl (lv_at hl 3 rfl) ?_
      refine lv_iconst (v := 0) hx hb dL_law_1610 (by decide) ?_
      refine va_lald hx hb hK hP 12 11 rfl rfl (nd_in (i := 0) (n := 1) (by decide)) dL_law_1611 ?_
      refine lv_iload hx hb dL_law_1612 (lv_at hl 0 rfl) ?_
      refine lv_i2l hx hb dL_law_1614 rfl ?_
      refine W.lcmp hx hb dL_law_1615 ?_
      refine lv_if_eq (tgt := 1621) hx hb dL_law_1616 (by decide) (fun c_1616 => ?_) (fun c_1616 => ?_)
      · refine lv_goto (tgt := 2206) hx hb dL_law_1621 (by decide) ?_
        refine W.widen (k := 100) (n := 200000) (by decide +kernel) (by decide +kernel) ?_
        exact law_end l hx hb hr hlocks hX hbl hbA hS (lv_sub hl [2, 6] rfl)
      · exact absurd (lcmp0 ((hv_4 c_1606).trans (by rw [hv_12 c_1606]; decide))) c_1616
  · exact absurd rfl c_1599
