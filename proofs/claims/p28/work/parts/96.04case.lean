theorem dL_law_1176 : decode cL_law 1176 = .ok (.aload_n 1, 1) := by decide +kernel
theorem dL_law_1177 : decode cL_law 1177 = .ok (.aload_n 0, 1) := by decide +kernel
theorem dL_law_1178 : decode cL_law 1178 = .ok (.iload 4, 2) := by decide +kernel
theorem dL_law_1180 : decode cL_law 1180 = .ok (.iconst 1, 1) := by decide +kernel
theorem dL_law_1181 : decode cL_law 1181 = .ok (.iadd, 1) := by decide +kernel
theorem dL_law_1182 : decode cL_law 1182 = .ok (.iaload, 1) := by decide +kernel
theorem dL_law_1183 : decode cL_law 1183 = .ok (.aload_n 0, 1) := by decide +kernel
theorem dL_law_1184 : decode cL_law 1184 = .ok (.iload 4, 2) := by decide +kernel
theorem dL_law_1186 : decode cL_law 1186 = .ok (.iconst 2, 1) := by decide +kernel
theorem dL_law_1187 : decode cL_law 1187 = .ok (.iadd, 1) := by decide +kernel
theorem dL_law_1188 : decode cL_law 1188 = .ok (.iaload, 1) := by decide +kernel
theorem dL_law_1189 : decode cL_law 1189 = .ok (.aload_n 3, 1) := by decide +kernel
theorem dL_law_1190 : decode cL_law 1190 = .ok (.invokestatic 160, 3) := by decide +kernel
theorem dL_law_1193 : decode cL_law 1193 = .ok (.istore 5, 2) := by decide +kernel
theorem dL_law_1195 : decode cL_law 1195 = .ok (.aload_n 2, 1) := by decide +kernel
theorem dL_law_1196 : decode cL_law 1196 = .ok (.aload_n 0, 1) := by decide +kernel
theorem dL_law_1197 : decode cL_law 1197 = .ok (.iload 4, 2) := by decide +kernel
theorem dL_law_1199 : decode cL_law 1199 = .ok (.iconst 1, 1) := by decide +kernel
theorem dL_law_1200 : decode cL_law 1200 = .ok (.iadd, 1) := by decide +kernel
theorem dL_law_1201 : decode cL_law 1201 = .ok (.iaload, 1) := by decide +kernel
theorem dL_law_1202 : decode cL_law 1202 = .ok (.aload_n 0, 1) := by decide +kernel
theorem dL_law_1203 : decode cL_law 1203 = .ok (.iload 4, 2) := by decide +kernel
theorem dL_law_1205 : decode cL_law 1205 = .ok (.iconst 2, 1) := by decide +kernel
theorem dL_law_1206 : decode cL_law 1206 = .ok (.iadd, 1) := by decide +kernel
theorem dL_law_1207 : decode cL_law 1207 = .ok (.iaload, 1) := by decide +kernel
theorem dL_law_1208 : decode cL_law 1208 = .ok (.invokevirtual 162, 3) := by decide +kernel
theorem dL_law_1211 : decode cL_law 1211 = .ok (.lstore 6, 2) := by decide +kernel
theorem dL_law_1213 : decode cL_law 1213 = .ok (.goto 347, 3) := by decide +kernel
theorem dL_law_1216 : decode cL_law 1216 = .ok (.aload_n 1, 1) := by decide +kernel
theorem dL_law_1217 : decode cL_law 1217 = .ok (.aload_n 0, 1) := by decide +kernel
theorem dL_law_1218 : decode cL_law 1218 = .ok (.iload 4, 2) := by decide +kernel
theorem dL_law_1220 : decode cL_law 1220 = .ok (.iconst 1, 1) := by decide +kernel
theorem dL_law_1221 : decode cL_law 1221 = .ok (.iadd, 1) := by decide +kernel
theorem dL_law_1222 : decode cL_law 1222 = .ok (.iaload, 1) := by decide +kernel
theorem dL_law_1223 : decode cL_law 1223 = .ok (.aload_n 3, 1) := by decide +kernel
theorem dL_law_1224 : decode cL_law 1224 = .ok (.invokestatic 163, 3) := by decide +kernel
theorem dL_law_1227 : decode cL_law 1227 = .ok (.istore 5, 2) := by decide +kernel
theorem dL_law_1229 : decode cL_law 1229 = .ok (.aload_n 2, 1) := by decide +kernel
theorem dL_law_1230 : decode cL_law 1230 = .ok (.aload_n 0, 1) := by decide +kernel
theorem dL_law_1231 : decode cL_law 1231 = .ok (.iload 4, 2) := by decide +kernel
theorem dL_law_1233 : decode cL_law 1233 = .ok (.iconst 1, 1) := by decide +kernel
theorem dL_law_1234 : decode cL_law 1234 = .ok (.iadd, 1) := by decide +kernel
theorem dL_law_1235 : decode cL_law 1235 = .ok (.iaload, 1) := by decide +kernel
theorem dL_law_1236 : decode cL_law 1236 = .ok (.invokevirtual 165, 3) := by decide +kernel
theorem dL_law_1239 : decode cL_law 1239 = .ok (.lstore 6, 2) := by decide +kernel
theorem dL_law_1241 : decode cL_law 1241 = .ok (.goto 319, 3) := by decide +kernel
theorem dL_law_1244 : decode cL_law 1244 = .ok (.aload_n 1, 1) := by decide +kernel
theorem dL_law_1245 : decode cL_law 1245 = .ok (.aload_n 0, 1) := by decide +kernel
theorem dL_law_1246 : decode cL_law 1246 = .ok (.iload 4, 2) := by decide +kernel
theorem dL_law_1248 : decode cL_law 1248 = .ok (.iconst 1, 1) := by decide +kernel
theorem dL_law_1249 : decode cL_law 1249 = .ok (.iadd, 1) := by decide +kernel
theorem dL_law_1250 : decode cL_law 1250 = .ok (.iaload, 1) := by decide +kernel
theorem dL_law_1251 : decode cL_law 1251 = .ok (.aload_n 0, 1) := by decide +kernel
theorem dL_law_1252 : decode cL_law 1252 = .ok (.iload 4, 2) := by decide +kernel
theorem dL_law_1254 : decode cL_law 1254 = .ok (.iconst 2, 1) := by decide +kernel
theorem dL_law_1255 : decode cL_law 1255 = .ok (.iadd, 1) := by decide +kernel
theorem dL_law_1256 : decode cL_law 1256 = .ok (.iaload, 1) := by decide +kernel
theorem dL_law_1257 : decode cL_law 1257 = .ok (.aload_n 0, 1) := by decide +kernel
theorem dL_law_1258 : decode cL_law 1258 = .ok (.iload 4, 2) := by decide +kernel
theorem dL_law_1260 : decode cL_law 1260 = .ok (.iconst 3, 1) := by decide +kernel
theorem dL_law_1261 : decode cL_law 1261 = .ok (.iadd, 1) := by decide +kernel
theorem dL_law_1262 : decode cL_law 1262 = .ok (.iaload, 1) := by decide +kernel
theorem dL_law_1263 : decode cL_law 1263 = .ok (.i2l, 1) := by decide +kernel
theorem dL_law_1264 : decode cL_law 1264 = .ok (.bipush 32, 2) := by decide +kernel
theorem dL_law_1266 : decode cL_law 1266 = .ok (.lshl, 1) := by decide +kernel
theorem dL_law_1267 : decode cL_law 1267 = .ok (.aload_n 0, 1) := by decide +kernel
theorem dL_law_1268 : decode cL_law 1268 = .ok (.iload 4, 2) := by decide +kernel
theorem dL_law_1270 : decode cL_law 1270 = .ok (.iconst 4, 1) := by decide +kernel
theorem dL_law_1271 : decode cL_law 1271 = .ok (.iadd, 1) := by decide +kernel
theorem dL_law_1272 : decode cL_law 1272 = .ok (.iaload, 1) := by decide +kernel
theorem dL_law_1273 : decode cL_law 1273 = .ok (.i2l, 1) := by decide +kernel
theorem dL_law_1274 : decode cL_law 1274 = .ok (.ldc2_w 100, 3) := by decide +kernel
theorem dL_law_1277 : decode cL_law 1277 = .ok (.land, 1) := by decide +kernel
theorem dL_law_1278 : decode cL_law 1278 = .ok (.lor, 1) := by decide +kernel
theorem dL_law_1279 : decode cL_law 1279 = .ok (.aload_n 3, 1) := by decide +kernel
theorem dL_law_1280 : decode cL_law 1280 = .ok (.invokestatic 166, 3) := by decide +kernel
theorem dL_law_1283 : decode cL_law 1283 = .ok (.istore 5, 2) := by decide +kernel
theorem dL_law_1285 : decode cL_law 1285 = .ok (.aload_n 2, 1) := by decide +kernel
theorem dL_law_1286 : decode cL_law 1286 = .ok (.aload_n 0, 1) := by decide +kernel
theorem dL_law_1287 : decode cL_law 1287 = .ok (.iload 4, 2) := by decide +kernel
theorem dL_law_1289 : decode cL_law 1289 = .ok (.iconst 1, 1) := by decide +kernel
theorem dL_law_1290 : decode cL_law 1290 = .ok (.iadd, 1) := by decide +kernel
theorem dL_law_1291 : decode cL_law 1291 = .ok (.iaload, 1) := by decide +kernel
theorem dL_law_1292 : decode cL_law 1292 = .ok (.aload_n 0, 1) := by decide +kernel
theorem dL_law_1293 : decode cL_law 1293 = .ok (.iload 4, 2) := by decide +kernel
theorem dL_law_1295 : decode cL_law 1295 = .ok (.iconst 2, 1) := by decide +kernel
theorem dL_law_1296 : decode cL_law 1296 = .ok (.iadd, 1) := by decide +kernel
theorem dL_law_1297 : decode cL_law 1297 = .ok (.iaload, 1) := by decide +kernel
theorem dL_law_1298 : decode cL_law 1298 = .ok (.aload_n 0, 1) := by decide +kernel
theorem dL_law_1299 : decode cL_law 1299 = .ok (.iload 4, 2) := by decide +kernel
theorem dL_law_1301 : decode cL_law 1301 = .ok (.iconst 3, 1) := by decide +kernel
theorem dL_law_1302 : decode cL_law 1302 = .ok (.iadd, 1) := by decide +kernel
theorem dL_law_1303 : decode cL_law 1303 = .ok (.iaload, 1) := by decide +kernel
theorem dL_law_1304 : decode cL_law 1304 = .ok (.i2l, 1) := by decide +kernel
theorem dL_law_1305 : decode cL_law 1305 = .ok (.bipush 32, 2) := by decide +kernel
theorem dL_law_1307 : decode cL_law 1307 = .ok (.lshl, 1) := by decide +kernel
theorem dL_law_1308 : decode cL_law 1308 = .ok (.aload_n 0, 1) := by decide +kernel
theorem dL_law_1309 : decode cL_law 1309 = .ok (.iload 4, 2) := by decide +kernel
theorem dL_law_1311 : decode cL_law 1311 = .ok (.iconst 4, 1) := by decide +kernel
theorem dL_law_1312 : decode cL_law 1312 = .ok (.iadd, 1) := by decide +kernel
theorem dL_law_1313 : decode cL_law 1313 = .ok (.iaload, 1) := by decide +kernel
theorem dL_law_1314 : decode cL_law 1314 = .ok (.i2l, 1) := by decide +kernel
theorem dL_law_1315 : decode cL_law 1315 = .ok (.ldc2_w 100, 3) := by decide +kernel
theorem dL_law_1318 : decode cL_law 1318 = .ok (.land, 1) := by decide +kernel
theorem dL_law_1319 : decode cL_law 1319 = .ok (.lor, 1) := by decide +kernel
theorem dL_law_1320 : decode cL_law 1320 = .ok (.invokevirtual 168, 3) := by decide +kernel
theorem dL_law_1323 : decode cL_law 1323 = .ok (.lstore 6, 2) := by decide +kernel
theorem dL_law_1325 : decode cL_law 1325 = .ok (.goto 235, 3) := by decide +kernel
theorem dL_law_1328 : decode cL_law 1328 = .ok (.aload_n 1, 1) := by decide +kernel
theorem dL_law_1329 : decode cL_law 1329 = .ok (.aload_n 0, 1) := by decide +kernel
theorem dL_law_1330 : decode cL_law 1330 = .ok (.iload 4, 2) := by decide +kernel
theorem dL_law_1332 : decode cL_law 1332 = .ok (.iconst 1, 1) := by decide +kernel
theorem dL_law_1333 : decode cL_law 1333 = .ok (.iadd, 1) := by decide +kernel
theorem dL_law_1334 : decode cL_law 1334 = .ok (.iaload, 1) := by decide +kernel
theorem dL_law_1335 : decode cL_law 1335 = .ok (.aload_n 0, 1) := by decide +kernel
theorem dL_law_1336 : decode cL_law 1336 = .ok (.iload 4, 2) := by decide +kernel
theorem dL_law_1338 : decode cL_law 1338 = .ok (.iconst 2, 1) := by decide +kernel
theorem dL_law_1339 : decode cL_law 1339 = .ok (.iadd, 1) := by decide +kernel
theorem dL_law_1340 : decode cL_law 1340 = .ok (.iaload, 1) := by decide +kernel
theorem dL_law_1341 : decode cL_law 1341 = .ok (.aload_n 0, 1) := by decide +kernel
theorem dL_law_1342 : decode cL_law 1342 = .ok (.iload 4, 2) := by decide +kernel
theorem dL_law_1344 : decode cL_law 1344 = .ok (.iconst 3, 1) := by decide +kernel
theorem dL_law_1345 : decode cL_law 1345 = .ok (.iadd, 1) := by decide +kernel
theorem dL_law_1346 : decode cL_law 1346 = .ok (.iaload, 1) := by decide +kernel
theorem dL_law_1347 : decode cL_law 1347 = .ok (.i2l, 1) := by decide +kernel
theorem dL_law_1348 : decode cL_law 1348 = .ok (.bipush 32, 2) := by decide +kernel
theorem dL_law_1350 : decode cL_law 1350 = .ok (.lshl, 1) := by decide +kernel
theorem dL_law_1351 : decode cL_law 1351 = .ok (.aload_n 0, 1) := by decide +kernel
theorem dL_law_1352 : decode cL_law 1352 = .ok (.iload 4, 2) := by decide +kernel
theorem dL_law_1354 : decode cL_law 1354 = .ok (.iconst 4, 1) := by decide +kernel
theorem dL_law_1355 : decode cL_law 1355 = .ok (.iadd, 1) := by decide +kernel
theorem dL_law_1356 : decode cL_law 1356 = .ok (.iaload, 1) := by decide +kernel
theorem dL_law_1357 : decode cL_law 1357 = .ok (.i2l, 1) := by decide +kernel
theorem dL_law_1358 : decode cL_law 1358 = .ok (.ldc2_w 100, 3) := by decide +kernel
theorem dL_law_1361 : decode cL_law 1361 = .ok (.land, 1) := by decide +kernel
theorem dL_law_1362 : decode cL_law 1362 = .ok (.lor, 1) := by decide +kernel
theorem dL_law_1363 : decode cL_law 1363 = .ok (.aload_n 3, 1) := by decide +kernel
theorem dL_law_1364 : decode cL_law 1364 = .ok (.invokestatic 169, 3) := by decide +kernel
theorem dL_law_1367 : decode cL_law 1367 = .ok (.istore 5, 2) := by decide +kernel
theorem dL_law_1369 : decode cL_law 1369 = .ok (.aload_n 2, 1) := by decide +kernel
theorem dL_law_1370 : decode cL_law 1370 = .ok (.aload_n 0, 1) := by decide +kernel
theorem dL_law_1371 : decode cL_law 1371 = .ok (.iload 4, 2) := by decide +kernel
theorem dL_law_1373 : decode cL_law 1373 = .ok (.iconst 1, 1) := by decide +kernel
theorem dL_law_1374 : decode cL_law 1374 = .ok (.iadd, 1) := by decide +kernel
theorem dL_law_1375 : decode cL_law 1375 = .ok (.iaload, 1) := by decide +kernel
theorem dL_law_1376 : decode cL_law 1376 = .ok (.aload_n 0, 1) := by decide +kernel
theorem dL_law_1377 : decode cL_law 1377 = .ok (.iload 4, 2) := by decide +kernel
theorem dL_law_1379 : decode cL_law 1379 = .ok (.iconst 2, 1) := by decide +kernel
theorem dL_law_1380 : decode cL_law 1380 = .ok (.iadd, 1) := by decide +kernel
theorem dL_law_1381 : decode cL_law 1381 = .ok (.iaload, 1) := by decide +kernel
theorem dL_law_1382 : decode cL_law 1382 = .ok (.aload_n 0, 1) := by decide +kernel
theorem dL_law_1383 : decode cL_law 1383 = .ok (.iload 4, 2) := by decide +kernel
theorem dL_law_1385 : decode cL_law 1385 = .ok (.iconst 3, 1) := by decide +kernel
theorem dL_law_1386 : decode cL_law 1386 = .ok (.iadd, 1) := by decide +kernel
theorem dL_law_1387 : decode cL_law 1387 = .ok (.iaload, 1) := by decide +kernel
theorem dL_law_1388 : decode cL_law 1388 = .ok (.i2l, 1) := by decide +kernel
theorem dL_law_1389 : decode cL_law 1389 = .ok (.bipush 32, 2) := by decide +kernel
theorem dL_law_1391 : decode cL_law 1391 = .ok (.lshl, 1) := by decide +kernel
theorem dL_law_1392 : decode cL_law 1392 = .ok (.aload_n 0, 1) := by decide +kernel
theorem dL_law_1393 : decode cL_law 1393 = .ok (.iload 4, 2) := by decide +kernel
theorem dL_law_1395 : decode cL_law 1395 = .ok (.iconst 4, 1) := by decide +kernel
theorem dL_law_1396 : decode cL_law 1396 = .ok (.iadd, 1) := by decide +kernel
theorem dL_law_1397 : decode cL_law 1397 = .ok (.iaload, 1) := by decide +kernel
theorem dL_law_1398 : decode cL_law 1398 = .ok (.i2l, 1) := by decide +kernel
theorem dL_law_1399 : decode cL_law 1399 = .ok (.ldc2_w 100, 3) := by decide +kernel
theorem dL_law_1402 : decode cL_law 1402 = .ok (.land, 1) := by decide +kernel
theorem dL_law_1403 : decode cL_law 1403 = .ok (.lor, 1) := by decide +kernel
theorem dL_law_1404 : decode cL_law 1404 = .ok (.invokevirtual 171, 3) := by decide +kernel
theorem dL_law_1407 : decode cL_law 1407 = .ok (.lstore 6, 2) := by decide +kernel
theorem dL_law_1409 : decode cL_law 1409 = .ok (.goto 151, 3) := by decide +kernel
set_option maxHeartbeats 4000000 in
set_option maxRecDepth 100000 in
theorem law_case_16 {p : Program} {l : Launch} {e : Env} {s : State} {m : MethodId} {below : List Frame} {meth : Method} {c : Code} {b L : Nat} {xs : Nat → Int32} {dC : Nat → ClassId} {dI : Nat → Nat → Nat} {h0 g0 ho : Nat} {a : Nat → Nat} {ca : Nat → ClassId} {co : ClassId} (hl0 : l.stackTraces = false) (hF : LFix p s m meth c b L xs dC dI ca co) {i cl sl : Nat} (hi : i + 6 ≤ L) (hC : cl + 10 ≤ room_1.cells) (hSl : sl + 2100 ≤ room_1.slots) (go : LGo p l e s m below meth c b dC dI h0 g0 ho a ca co i 1560 (cl + 10) (sl + 2100)) : LGo p l e s m below meth c b dC dI h0 g0 ho a ca co i 1176 cl sl := by
  obtain ⟨C0, hG, hN, hZ, hKm, hO, hL⟩ := hF
  obtain ⟨hx, hb, hr, hml, hown, hts, hX, hbl, hlocks, hgv⟩ := C0
  have hA : ∀ q : Nat, s.heap.size ≤ q → lA s q := fun _ h => h
  have hbA : ¬ lA s b := Nat.not_le.mpr hbl
  intro sh rk ci ai al f v w fi fl nn mm uu H locs ls hXI hRI hK hP hD hS hl
  obtain ⟨x1, ex1⟩ : ∃ x, xs (nI i + nI 1).toNatClampNeg = x := ⟨_, rfl⟩
  obtain ⟨x2, ex2⟩ : ∃ x, xs (nI i + nI 2).toNatClampNeg = x := ⟨_, rfl⟩
  refine lv_aload_n hx hb dL_law_1176 rfl (lv_at hl 3 rfl) ?_
  refine lv_aload_n hx hb dL_law_1177 rfl (lv_at hl 4 rfl) ?_
  refine lv_iload hx hb dL_law_1178 (lv_at hl 0 rfl) ?_
  refine lv_iconst (v := 1) hx hb dL_law_1180 (by decide) ?_
  refine lv_iadd hx hb dL_law_1181 ?_
  refine lw_sld (x := x1) hx hb hX hbl hbA hS (lw_in (k := 1) hi hL (by decide)) dL_law_1182 ex1 ?_
  refine lv_aload_n hx hb dL_law_1183 rfl (lv_at hl 4 rfl) ?_
  refine lv_iload hx hb dL_law_1184 (lv_at hl 0 rfl) ?_
  refine lv_iconst (v := 2) hx hb dL_law_1186 (by decide) ?_
  refine lv_iadd hx hb dL_law_1187 ?_
  refine lw_sld (x := x2) hx hb hX hbl hbA hS (lw_in (k := 2) hi hL (by decide)) dL_law_1188 ex2 ?_
  refine lv_aload_n hx hb dL_law_1189 rfl (lv_at hl 1 rfl) ?_
  refine l_end (mc := 3) (ms := 20) (cells := cl) (slots := sl) (vx_runSW (rm := rmL_at) (As := [.ref h0, .int x1, .int x2, .ref ho]) (rest := []) ⟨hx, hb, hml, hown, hts⟩ (p_L_at l hl0 dC dI _ _ _ _ h0 x1 x2 co ho f _ (j_at (p0 := x1) (p1 := x2) hXI f) H.size) (vx_cwSW 4 hts gl_L_at rfl rfl rfl hd_L_at ⟨Nat.le_of_ble_eq_true rfl, Nat.le_of_ble_eq_true rfl⟩) (l_preS hK hO (fr_P2 hP) (fr_D2 hD) hA hS hG hN hZ) rfl rfl hl.1 rfl (lv_room (Nat.le_of_ble_eq_true rfl)) dL_law_1190 ⟨Nat.le_trans (Nat.add_le_add_left (by decide) _) hC, Nat.le_trans (Nat.add_le_add_left (by decide) _) hSl⟩) hP hD hS hA (fun k9 sh1 ci1 ai1 al1 f1 H locs h hK hP hD hS => ?_)
  obtain ⟨rk1, hXI⟩ := h
  refine lv_istore (lv' := [(5, .int k9), (4, .int (nI i)), (3, .ref ho), (2, .ref g0), (1, .ref h0), (0, .ref b)]) hx hb dL_law_1193 hl (by decide) rfl (fun ls hl => ?_)
  refine lv_aload_n hx hb dL_law_1195 rfl (lv_at hl 3 rfl) ?_
  refine lv_aload_n hx hb dL_law_1196 rfl (lv_at hl 5 rfl) ?_
  refine lv_iload hx hb dL_law_1197 (lv_at hl 1 rfl) ?_
  refine lv_iconst (v := 1) hx hb dL_law_1199 (by decide) ?_
  refine lv_iadd hx hb dL_law_1200 ?_
  refine lw_sld (x := x1) hx hb hX hbl hbA hS (lw_in (k := 1) hi hL (by decide)) dL_law_1201 ex1 ?_
  refine lv_aload_n hx hb dL_law_1202 rfl (lv_at hl 5 rfl) ?_
  refine lv_iload hx hb dL_law_1203 (lv_at hl 1 rfl) ?_
  refine lv_iconst (v := 2) hx hb dL_law_1205 (by decide) ?_
  refine lv_iadd hx hb dL_law_1206 ?_
  refine lw_sld (x := x2) hx hb hX hbl hbA hS (lw_in (k := 2) hi hL (by decide)) dL_law_1207 ex2 ?_
  refine lm_calll (rm := ({ frames := 32, cells := 0, slots := 0, locals := 480 })) (As := [.int x1, .int x2]) (rest := []) (cells := (cl + 3)) (slots := (sl + 20)) (fun sz => p_X12_at l dC dI a ca g0 _ _ _ _ x1 x2 _ (r_at hRI (Q := fun r8 v8 w8 fi8 fl8 => RI v8 fi8 nn mm uu) (fun r8 v8 w8 fi8 fl8 h8 => h8)) sz) ⟨hx, hb, hml, hown, hts⟩ (cwV 2 hts gl_X12_at rfl rfl rfl hd_X12_at ⟨Nat.le_of_ble_eq_true rfl, Nat.le_of_ble_eq_true rfl⟩) rfl hl.1 rfl hKm hP hD hS hA (Nat.le_of_ble_eq_true rfl) ⟨Nat.le_trans (Nat.add_le_add_left (by decide) _) hC, Nat.le_trans (Nat.add_le_add_left (by decide) _) hSl⟩ dL_law_1208 (fun b1 v1 w1 fi1 fl1 H locs h hP hD hS => ?_)
  have hRI := h
  refine lv_lstore (lv' := [(6, .long b1), (5, .int k9), (4, .int (nI i)), (3, .ref ho), (2, .ref g0), (1, .ref h0), (0, .ref b)]) hx hb dL_law_1211 hl (by decide) rfl (fun ls hl => ?_)
  refine lv_goto (tgt := 1560) hx hb dL_law_1213 (by decide) ?_
  exact W.widen (k := cl + 10) (n := sl + 2100) (Nat.add_le_add_left (by decide) _) (Nat.add_le_add_left (by decide) _) (go _ _ _ _ _ _ _ _ _ _ _ _ _ H _ ls hXI hRI hK hP hD hS (lv_sub hl [2, 3, 4, 5, 6] rfl))
set_option maxHeartbeats 4000000 in
set_option maxRecDepth 100000 in
theorem law_case_17 {p : Program} {l : Launch} {e : Env} {s : State} {m : MethodId} {below : List Frame} {meth : Method} {c : Code} {b L : Nat} {xs : Nat → Int32} {dC : Nat → ClassId} {dI : Nat → Nat → Nat} {h0 g0 ho : Nat} {a : Nat → Nat} {ca : Nat → ClassId} {co : ClassId} (hl0 : l.stackTraces = false) (hF : LFix p s m meth c b L xs dC dI ca co) {i cl sl : Nat} (hi : i + 6 ≤ L) (hC : cl + 10 ≤ room_1.cells) (hSl : sl + 2100 ≤ room_1.slots) (go : LGo p l e s m below meth c b dC dI h0 g0 ho a ca co i 1560 (cl + 10) (sl + 2100)) : LGo p l e s m below meth c b dC dI h0 g0 ho a ca co i 1216 cl sl := by
  obtain ⟨C0, hG, hN, hZ, hKm, hO, hL⟩ := hF
  obtain ⟨hx, hb, hr, hml, hown, hts, hX, hbl, hlocks, hgv⟩ := C0
  have hA : ∀ q : Nat, s.heap.size ≤ q → lA s q := fun _ h => h
  have hbA : ¬ lA s b := Nat.not_le.mpr hbl
  intro sh rk ci ai al f v w fi fl nn mm uu H locs ls hXI hRI hK hP hD hS hl
  obtain ⟨x1, ex1⟩ : ∃ x, xs (nI i + nI 1).toNatClampNeg = x := ⟨_, rfl⟩
  refine lv_aload_n hx hb dL_law_1216 rfl (lv_at hl 3 rfl) ?_
  refine lv_aload_n hx hb dL_law_1217 rfl (lv_at hl 4 rfl) ?_
  refine lv_iload hx hb dL_law_1218 (lv_at hl 0 rfl) ?_
  refine lv_iconst (v := 1) hx hb dL_law_1220 (by decide) ?_
  refine lv_iadd hx hb dL_law_1221 ?_
  refine lw_sld (x := x1) hx hb hX hbl hbA hS (lw_in (k := 1) hi hL (by decide)) dL_law_1222 ex1 ?_
  refine lv_aload_n hx hb dL_law_1223 rfl (lv_at hl 1 rfl) ?_
  refine l_end (mc := 3) (ms := 20) (cells := cl) (slots := sl) (vx_runSW (rm := rmL_size) (As := [.ref h0, .int x1, .ref ho]) (rest := []) ⟨hx, hb, hml, hown, hts⟩ (p_L_size l hl0 dC dI _ _ _ _ h0 x1 co ho f _ (j_size (p0 := x1) hXI f) H.size) (vx_cwSW 3 hts gl_L_size rfl rfl rfl hd_L_size ⟨Nat.le_of_ble_eq_true rfl, Nat.le_of_ble_eq_true rfl⟩) (l_preS hK hO (fr_P2 hP) (fr_D2 hD) hA hS hG hN hZ) rfl rfl hl.1 rfl (lv_room (Nat.le_of_ble_eq_true rfl)) dL_law_1224 ⟨Nat.le_trans (Nat.add_le_add_left (by decide) _) hC, Nat.le_trans (Nat.add_le_add_left (by decide) _) hSl⟩) hP hD hS hA (fun k9 sh1 ci1 ai1 al1 f1 H locs h hK hP hD hS => ?_)
  obtain ⟨rk1, hXI⟩ := h
  refine lv_istore (lv' := [(5, .int k9), (4, .int (nI i)), (3, .ref ho), (2, .ref g0), (1, .ref h0), (0, .ref b)]) hx hb dL_law_1227 hl (by decide) rfl (fun ls hl => ?_)
  refine lv_aload_n hx hb dL_law_1229 rfl (lv_at hl 3 rfl) ?_
  refine lv_aload_n hx hb dL_law_1230 rfl (lv_at hl 5 rfl) ?_
  refine lv_iload hx hb dL_law_1231 (lv_at hl 1 rfl) ?_
  refine lv_iconst (v := 1) hx hb dL_law_1233 (by decide) ?_
  refine lv_iadd hx hb dL_law_1234 ?_
  refine lw_sld (x := x1) hx hb hX hbl hbA hS (lw_in (k := 1) hi hL (by decide)) dL_law_1235 ex1 ?_
  refine lm_calll (rm := ({ frames := 32, cells := 0, slots := 0, locals := 480 })) (As := [.int x1]) (rest := []) (cells := (cl + 3)) (slots := (sl + 20)) (fun sz => p_X12_size l dC dI a ca g0 _ _ _ _ x1 _ (r_size hRI (Q := fun r8 v8 w8 fi8 fl8 => RI v8 fi8 nn mm uu) (fun r8 v8 w8 fi8 fl8 h8 => h8)) sz) ⟨hx, hb, hml, hown, hts⟩ (cwV 1 hts gl_X12_size rfl rfl rfl hd_X12_size ⟨Nat.le_of_ble_eq_true rfl, Nat.le_of_ble_eq_true rfl⟩) rfl hl.1 rfl hKm hP hD hS hA (Nat.le_of_ble_eq_true rfl) ⟨Nat.le_trans (Nat.add_le_add_left (by decide) _) hC, Nat.le_trans (Nat.add_le_add_left (by decide) _) hSl⟩ dL_law_1236 (fun b1 v1 w1 fi1 fl1 H locs h hP hD hS => ?_)
  have hRI := h
  refine lv_lstore (lv' := [(6, .long b1), (5, .int k9), (4, .int (nI i)), (3, .ref ho), (2, .ref g0), (1, .ref h0), (0, .ref b)]) hx hb dL_law_1239 hl (by decide) rfl (fun ls hl => ?_)
  refine lv_goto (tgt := 1560) hx hb dL_law_1241 (by decide) ?_
  exact W.widen (k := cl + 10) (n := sl + 2100) (Nat.add_le_add_left (by decide) _) (Nat.add_le_add_left (by decide) _) (go _ _ _ _ _ _ _ _ _ _ _ _ _ H _ ls hXI hRI hK hP hD hS (lv_sub hl [2, 3, 4, 5, 6] rfl))
set_option maxHeartbeats 4000000 in
set_option maxRecDepth 100000 in
theorem law_case_18 {p : Program} {l : Launch} {e : Env} {s : State} {m : MethodId} {below : List Frame} {meth : Method} {c : Code} {b L : Nat} {xs : Nat → Int32} {dC : Nat → ClassId} {dI : Nat → Nat → Nat} {h0 g0 ho : Nat} {a : Nat → Nat} {ca : Nat → ClassId} {co : ClassId} (hl0 : l.stackTraces = false) (hF : LFix p s m meth c b L xs dC dI ca co) {i cl sl : Nat} (hi : i + 6 ≤ L) (hC : cl + 10 ≤ room_1.cells) (hSl : sl + 2100 ≤ room_1.slots) (go : LGo p l e s m below meth c b dC dI h0 g0 ho a ca co i 1560 (cl + 10) (sl + 2100)) : LGo p l e s m below meth c b dC dI h0 g0 ho a ca co i 1244 cl sl := by
  obtain ⟨C0, hG, hN, hZ, hKm, hO, hL⟩ := hF
  obtain ⟨hx, hb, hr, hml, hown, hts, hX, hbl, hlocks, hgv⟩ := C0
  have hA : ∀ q : Nat, s.heap.size ≤ q → lA s q := fun _ h => h
  have hbA : ¬ lA s b := Nat.not_le.mpr hbl
  intro sh rk ci ai al f v w fi fl nn mm uu H locs ls hXI hRI hK hP hD hS hl
  obtain ⟨x1, ex1⟩ : ∃ x, xs (nI i + nI 1).toNatClampNeg = x := ⟨_, rfl⟩
  obtain ⟨x2, ex2⟩ : ∃ x, xs (nI i + nI 2).toNatClampNeg = x := ⟨_, rfl⟩
  obtain ⟨x3, ex3⟩ : ∃ x, xs (nI i + nI 3).toNatClampNeg = x := ⟨_, rfl⟩
  obtain ⟨x4, ex4⟩ : ∃ x, xs (nI i + nI 4).toNatClampNeg = x := ⟨_, rfl⟩
  refine lv_aload_n hx hb dL_law_1244 rfl (lv_at hl 3 rfl) ?_
  refine lv_aload_n hx hb dL_law_1245 rfl (lv_at hl 4 rfl) ?_
  refine lv_iload hx hb dL_law_1246 (lv_at hl 0 rfl) ?_
  refine lv_iconst (v := 1) hx hb dL_law_1248 (by decide) ?_
  refine lv_iadd hx hb dL_law_1249 ?_
  refine lw_sld (x := x1) hx hb hX hbl hbA hS (lw_in (k := 1) hi hL (by decide)) dL_law_1250 ex1 ?_
  refine lv_aload_n hx hb dL_law_1251 rfl (lv_at hl 4 rfl) ?_
  refine lv_iload hx hb dL_law_1252 (lv_at hl 0 rfl) ?_
  refine lv_iconst (v := 2) hx hb dL_law_1254 (by decide) ?_
  refine lv_iadd hx hb dL_law_1255 ?_
  refine lw_sld (x := x2) hx hb hX hbl hbA hS (lw_in (k := 2) hi hL (by decide)) dL_law_1256 ex2 ?_
  refine lv_aload_n hx hb dL_law_1257 rfl (lv_at hl 4 rfl) ?_
  refine lv_iload hx hb dL_law_1258 (lv_at hl 0 rfl) ?_
  refine lv_iconst (v := 3) hx hb dL_law_1260 (by decide) ?_
  refine lv_iadd hx hb dL_law_1261 ?_
  refine lw_sld (x := x3) hx hb hX hbl hbA hS (lw_in (k := 3) hi hL (by decide)) dL_law_1262 ex3 ?_
  refine lv_i2l hx hb dL_law_1263 rfl ?_
  refine lv_bipush (v := 32) hx hb dL_law_1264 (by decide) ?_
  refine lv_lshl hx hb dL_law_1266 rfl ?_
  refine lv_aload_n hx hb dL_law_1267 rfl (lv_at hl 4 rfl) ?_
  refine lv_iload hx hb dL_law_1268 (lv_at hl 0 rfl) ?_
  refine lv_iconst (v := 4) hx hb dL_law_1270 (by decide) ?_
  refine lv_iadd hx hb dL_law_1271 ?_
  refine lw_sld (x := x4) hx hb hX hbl hbA hS (lw_in (k := 4) hi hL (by decide)) dL_law_1272 ex4 ?_
  refine lv_i2l hx hb dL_law_1273 rfl ?_
  refine lv_ldc2 (v := (4294967295)) hx hb hown (hts _ lw_w0) dL_law_1274 ?_
  refine lv_land hx hb dL_law_1277 ?_
  refine lv_lor hx hb dL_law_1278 ?_
  refine lv_topl (fun z1 _ => ?_)
  refine lv_aload_n hx hb dL_law_1279 rfl (lv_at hl 1 rfl) ?_
  refine l_end (mc := 3) (ms := 20) (cells := cl) (slots := sl) (vx_runSW (rm := rmL_fold) (As := [.ref h0, .int x1, .int x2, .long z1, .ref ho]) (rest := []) ⟨hx, hb, hml, hown, hts⟩ (p_L_fold l hl0 dC dI _ _ _ _ h0 x1 x2 z1 co ho f _ (j_fold (p0 := x1) (p1 := x2) (p2 := z1) hXI f) H.size) (vx_cwSW 5 hts gl_L_fold rfl rfl rfl hd_L_fold ⟨Nat.le_of_ble_eq_true rfl, Nat.le_of_ble_eq_true rfl⟩) (l_preS hK hO (fr_P2 hP) (fr_D2 hD) hA hS hG hN hZ) rfl rfl hl.1 rfl (lv_room (Nat.le_of_ble_eq_true rfl)) dL_law_1280 ⟨Nat.le_trans (Nat.add_le_add_left (by decide) _) hC, Nat.le_trans (Nat.add_le_add_left (by decide) _) hSl⟩) hP hD hS hA (fun k9 sh1 ci1 ai1 al1 f1 H locs h hK hP hD hS => ?_)
  obtain ⟨rk1, hXI⟩ := h
  refine lv_istore (lv' := [(5, .int k9), (4, .int (nI i)), (3, .ref ho), (2, .ref g0), (1, .ref h0), (0, .ref b)]) hx hb dL_law_1283 hl (by decide) rfl (fun ls hl => ?_)
  refine lv_aload_n hx hb dL_law_1285 rfl (lv_at hl 3 rfl) ?_
  refine lv_aload_n hx hb dL_law_1286 rfl (lv_at hl 5 rfl) ?_
  refine lv_iload hx hb dL_law_1287 (lv_at hl 1 rfl) ?_
  refine lv_iconst (v := 1) hx hb dL_law_1289 (by decide) ?_
  refine lv_iadd hx hb dL_law_1290 ?_
  refine lw_sld (x := x1) hx hb hX hbl hbA hS (lw_in (k := 1) hi hL (by decide)) dL_law_1291 ex1 ?_
  refine lv_aload_n hx hb dL_law_1292 rfl (lv_at hl 5 rfl) ?_
  refine lv_iload hx hb dL_law_1293 (lv_at hl 1 rfl) ?_
  refine lv_iconst (v := 2) hx hb dL_law_1295 (by decide) ?_
  refine lv_iadd hx hb dL_law_1296 ?_
  refine lw_sld (x := x2) hx hb hX hbl hbA hS (lw_in (k := 2) hi hL (by decide)) dL_law_1297 ex2 ?_
  refine lv_aload_n hx hb dL_law_1298 rfl (lv_at hl 5 rfl) ?_
  refine lv_iload hx hb dL_law_1299 (lv_at hl 1 rfl) ?_
  refine lv_iconst (v := 3) hx hb dL_law_1301 (by decide) ?_
  refine lv_iadd hx hb dL_law_1302 ?_
  refine lw_sld (x := x3) hx hb hX hbl hbA hS (lw_in (k := 3) hi hL (by decide)) dL_law_1303 ex3 ?_
  refine lv_i2l hx hb dL_law_1304 rfl ?_
  refine lv_bipush (v := 32) hx hb dL_law_1305 (by decide) ?_
  refine lv_lshl hx hb dL_law_1307 rfl ?_
  refine lv_aload_n hx hb dL_law_1308 rfl (lv_at hl 5 rfl) ?_
  refine lv_iload hx hb dL_law_1309 (lv_at hl 1 rfl) ?_
  refine lv_iconst (v := 4) hx hb dL_law_1311 (by decide) ?_
  refine lv_iadd hx hb dL_law_1312 ?_
  refine lw_sld (x := x4) hx hb hX hbl hbA hS (lw_in (k := 4) hi hL (by decide)) dL_law_1313 ex4 ?_
  refine lv_i2l hx hb dL_law_1314 rfl ?_
  refine lv_ldc2 (v := (4294967295)) hx hb hown (hts _ lw_w0) dL_law_1315 ?_
  refine lv_land hx hb dL_law_1318 ?_
  refine lv_lor hx hb dL_law_1319 ?_
  refine lv_topl (fun z2 _ => ?_)
  refine lm_calll (rm := ({ frames := 32, cells := 0, slots := 0, locals := 480 })) (As := [.int x1, .int x2, .long z2]) (rest := []) (cells := (cl + 3)) (slots := (sl + 20)) (fun sz => p_X12_fold l dC dI a ca g0 _ _ _ _ x1 x2 z2 _ (r_fold hRI (Q := fun r8 v8 w8 fi8 fl8 => RI v8 fi8 nn mm uu) (fun r8 v8 w8 fi8 fl8 h8 => h8)) sz) ⟨hx, hb, hml, hown, hts⟩ (cwV 3 hts gl_X12_fold rfl rfl rfl hd_X12_fold ⟨Nat.le_of_ble_eq_true rfl, Nat.le_of_ble_eq_true rfl⟩) rfl hl.1 rfl hKm hP hD hS hA (Nat.le_of_ble_eq_true rfl) ⟨Nat.le_trans (Nat.add_le_add_left (by decide) _) hC, Nat.le_trans (Nat.add_le_add_left (by decide) _) hSl⟩ dL_law_1320 (fun b1 v1 w1 fi1 fl1 H locs h hP hD hS => ?_)
  have hRI := h
  refine lv_lstore (lv' := [(6, .long b1), (5, .int k9), (4, .int (nI i)), (3, .ref ho), (2, .ref g0), (1, .ref h0), (0, .ref b)]) hx hb dL_law_1323 hl (by decide) rfl (fun ls hl => ?_)
  refine lv_goto (tgt := 1560) hx hb dL_law_1325 (by decide) ?_
  exact W.widen (k := cl + 10) (n := sl + 2100) (Nat.add_le_add_left (by decide) _) (Nat.add_le_add_left (by decide) _) (go _ _ _ _ _ _ _ _ _ _ _ _ _ H _ ls hXI hRI hK hP hD hS (lv_sub hl [2, 3, 4, 5, 6] rfl))
set_option maxHeartbeats 4000000 in
set_option maxRecDepth 100000 in
theorem law_case_19 {p : Program} {l : Launch} {e : Env} {s : State} {m : MethodId} {below : List Frame} {meth : Method} {c : Code} {b L : Nat} {xs : Nat → Int32} {dC : Nat → ClassId} {dI : Nat → Nat → Nat} {h0 g0 ho : Nat} {a : Nat → Nat} {ca : Nat → ClassId} {co : ClassId} (hl0 : l.stackTraces = false) (hF : LFix p s m meth c b L xs dC dI ca co) {i cl sl : Nat} (hi : i + 6 ≤ L) (hC : cl + 10 ≤ room_1.cells) (hSl : sl + 2100 ≤ room_1.slots) (go : LGo p l e s m below meth c b dC dI h0 g0 ho a ca co i 1560 (cl + 10) (sl + 2100)) : LGo p l e s m below meth c b dC dI h0 g0 ho a ca co i 1328 cl sl := by
  obtain ⟨C0, hG, hN, hZ, hKm, hO, hL⟩ := hF
  obtain ⟨hx, hb, hr, hml, hown, hts, hX, hbl, hlocks, hgv⟩ := C0
  have hA : ∀ q : Nat, s.heap.size ≤ q → lA s q := fun _ h => h
  have hbA : ¬ lA s b := Nat.not_le.mpr hbl
  intro sh rk ci ai al f v w fi fl nn mm uu H locs ls hXI hRI hK hP hD hS hl
  obtain ⟨x1, ex1⟩ : ∃ x, xs (nI i + nI 1).toNatClampNeg = x := ⟨_, rfl⟩
  obtain ⟨x2, ex2⟩ : ∃ x, xs (nI i + nI 2).toNatClampNeg = x := ⟨_, rfl⟩
  obtain ⟨x3, ex3⟩ : ∃ x, xs (nI i + nI 3).toNatClampNeg = x := ⟨_, rfl⟩
  obtain ⟨x4, ex4⟩ : ∃ x, xs (nI i + nI 4).toNatClampNeg = x := ⟨_, rfl⟩
  refine lv_aload_n hx hb dL_law_1328 rfl (lv_at hl 3 rfl) ?_
  refine lv_aload_n hx hb dL_law_1329 rfl (lv_at hl 4 rfl) ?_
  refine lv_iload hx hb dL_law_1330 (lv_at hl 0 rfl) ?_
  refine lv_iconst (v := 1) hx hb dL_law_1332 (by decide) ?_
  refine lv_iadd hx hb dL_law_1333 ?_
  refine lw_sld (x := x1) hx hb hX hbl hbA hS (lw_in (k := 1) hi hL (by decide)) dL_law_1334 ex1 ?_
  refine lv_aload_n hx hb dL_law_1335 rfl (lv_at hl 4 rfl) ?_
  refine lv_iload hx hb dL_law_1336 (lv_at hl 0 rfl) ?_
  refine lv_iconst (v := 2) hx hb dL_law_1338 (by decide) ?_
  refine lv_iadd hx hb dL_law_1339 ?_
  refine lw_sld (x := x2) hx hb hX hbl hbA hS (lw_in (k := 2) hi hL (by decide)) dL_law_1340 ex2 ?_
  refine lv_aload_n hx hb dL_law_1341 rfl (lv_at hl 4 rfl) ?_
  refine lv_iload hx hb dL_law_1342 (lv_at hl 0 rfl) ?_
  refine lv_iconst (v := 3) hx hb dL_law_1344 (by decide) ?_
  refine lv_iadd hx hb dL_law_1345 ?_
  refine lw_sld (x := x3) hx hb hX hbl hbA hS (lw_in (k := 3) hi hL (by decide)) dL_law_1346 ex3 ?_
  refine lv_i2l hx hb dL_law_1347 rfl ?_
  refine lv_bipush (v := 32) hx hb dL_law_1348 (by decide) ?_
  refine lv_lshl hx hb dL_law_1350 rfl ?_
  refine lv_aload_n hx hb dL_law_1351 rfl (lv_at hl 4 rfl) ?_
  refine lv_iload hx hb dL_law_1352 (lv_at hl 0 rfl) ?_
  refine lv_iconst (v := 4) hx hb dL_law_1354 (by decide) ?_
  refine lv_iadd hx hb dL_law_1355 ?_
  refine lw_sld (x := x4) hx hb hX hbl hbA hS (lw_in (k := 4) hi hL (by decide)) dL_law_1356 ex4 ?_
  refine lv_i2l hx hb dL_law_1357 rfl ?_
  refine lv_ldc2 (v := (4294967295)) hx hb hown (hts _ lw_w0) dL_law_1358 ?_
  refine lv_land hx hb dL_law_1361 ?_
  refine lv_lor hx hb dL_law_1362 ?_
  refine lv_topl (fun z1 _ => ?_)
  refine lv_aload_n hx hb dL_law_1363 rfl (lv_at hl 1 rfl) ?_
  refine l_end (mc := 3) (ms := 20) (cells := cl) (slots := sl) (vx_runSW (rm := rmL_find) (As := [.ref h0, .int x1, .int x2, .long z1, .ref ho]) (rest := []) ⟨hx, hb, hml, hown, hts⟩ (p_L_find l hl0 dC dI _ _ _ _ h0 x1 x2 z1 co ho f _ (j_find (p0 := x1) (p1 := x2) (p2 := z1) hXI f) H.size) (vx_cwSW 5 hts gl_L_find rfl rfl rfl hd_L_find ⟨Nat.le_of_ble_eq_true rfl, Nat.le_of_ble_eq_true rfl⟩) (l_preS hK hO (fr_P2 hP) (fr_D2 hD) hA hS hG hN hZ) rfl rfl hl.1 rfl (lv_room (Nat.le_of_ble_eq_true rfl)) dL_law_1364 ⟨Nat.le_trans (Nat.add_le_add_left (by decide) _) hC, Nat.le_trans (Nat.add_le_add_left (by decide) _) hSl⟩) hP hD hS hA (fun k9 sh1 ci1 ai1 al1 f1 H locs h hK hP hD hS => ?_)
  obtain ⟨rk1, hXI⟩ := h
  refine lv_istore (lv' := [(5, .int k9), (4, .int (nI i)), (3, .ref ho), (2, .ref g0), (1, .ref h0), (0, .ref b)]) hx hb dL_law_1367 hl (by decide) rfl (fun ls hl => ?_)
  refine lv_aload_n hx hb dL_law_1369 rfl (lv_at hl 3 rfl) ?_
  refine lv_aload_n hx hb dL_law_1370 rfl (lv_at hl 5 rfl) ?_
  refine lv_iload hx hb dL_law_1371 (lv_at hl 1 rfl) ?_
  refine lv_iconst (v := 1) hx hb dL_law_1373 (by decide) ?_
  refine lv_iadd hx hb dL_law_1374 ?_
  refine lw_sld (x := x1) hx hb hX hbl hbA hS (lw_in (k := 1) hi hL (by decide)) dL_law_1375 ex1 ?_
  refine lv_aload_n hx hb dL_law_1376 rfl (lv_at hl 5 rfl) ?_
  refine lv_iload hx hb dL_law_1377 (lv_at hl 1 rfl) ?_
  refine lv_iconst (v := 2) hx hb dL_law_1379 (by decide) ?_
  refine lv_iadd hx hb dL_law_1380 ?_
  refine lw_sld (x := x2) hx hb hX hbl hbA hS (lw_in (k := 2) hi hL (by decide)) dL_law_1381 ex2 ?_
  refine lv_aload_n hx hb dL_law_1382 rfl (lv_at hl 5 rfl) ?_
  refine lv_iload hx hb dL_law_1383 (lv_at hl 1 rfl) ?_
  refine lv_iconst (v := 3) hx hb dL_law_1385 (by decide) ?_
  refine lv_iadd hx hb dL_law_1386 ?_
  refine lw_sld (x := x3) hx hb hX hbl hbA hS (lw_in (k := 3) hi hL (by decide)) dL_law_1387 ex3 ?_
  refine lv_i2l hx hb dL_law_1388 rfl ?_
  refine lv_bipush (v := 32) hx hb dL_law_1389 (by decide) ?_
  refine lv_lshl hx hb dL_law_1391 rfl ?_
  refine lv_aload_n hx hb dL_law_1392 rfl (lv_at hl 5 rfl) ?_
  refine lv_iload hx hb dL_law_1393 (lv_at hl 1 rfl) ?_
  refine lv_iconst (v := 4) hx hb dL_law_1395 (by decide) ?_
  refine lv_iadd hx hb dL_law_1396 ?_
  refine lw_sld (x := x4) hx hb hX hbl hbA hS (lw_in (k := 4) hi hL (by decide)) dL_law_1397 ex4 ?_
  refine lv_i2l hx hb dL_law_1398 rfl ?_
  refine lv_ldc2 (v := (4294967295)) hx hb hown (hts _ lw_w0) dL_law_1399 ?_
  refine lv_land hx hb dL_law_1402 ?_
  refine lv_lor hx hb dL_law_1403 ?_
  refine lv_topl (fun z2 _ => ?_)
  refine lm_calll (rm := ({ frames := 32, cells := 0, slots := 0, locals := 480 })) (As := [.int x1, .int x2, .long z2]) (rest := []) (cells := (cl + 3)) (slots := (sl + 20)) (fun sz => p_X12_find l dC dI a ca g0 _ _ _ _ x1 x2 z2 _ (r_find hRI (Q := fun r8 v8 w8 fi8 fl8 => RI v8 fi8 nn mm uu) (fun r8 v8 w8 fi8 fl8 h8 => h8)) sz) ⟨hx, hb, hml, hown, hts⟩ (cwV 3 hts gl_X12_find rfl rfl rfl hd_X12_find ⟨Nat.le_of_ble_eq_true rfl, Nat.le_of_ble_eq_true rfl⟩) rfl hl.1 rfl hKm hP hD hS hA (Nat.le_of_ble_eq_true rfl) ⟨Nat.le_trans (Nat.add_le_add_left (by decide) _) hC, Nat.le_trans (Nat.add_le_add_left (by decide) _) hSl⟩ dL_law_1404 (fun b1 v1 w1 fi1 fl1 H locs h hP hD hS => ?_)
  have hRI := h
  refine lv_lstore (lv' := [(6, .long b1), (5, .int k9), (4, .int (nI i)), (3, .ref ho), (2, .ref g0), (1, .ref h0), (0, .ref b)]) hx hb dL_law_1407 hl (by decide) rfl (fun ls hl => ?_)
  refine lv_goto (tgt := 1560) hx hb dL_law_1409 (by decide) ?_
  exact W.widen (k := cl + 10) (n := sl + 2100) (Nat.add_le_add_left (by decide) _) (Nat.add_le_add_left (by decide) _) (go _ _ _ _ _ _ _ _ _ _ _ _ _ H _ ls hXI hRI hK hP hD hS (lv_sub hl [2, 3, 4, 5, 6] rfl))
