theorem dL_law_1204 : decode cL_law 1204 = .ok (.aload_n 1, 1) := by decide +kernel
theorem dL_law_1205 : decode cL_law 1205 = .ok (.aload_n 0, 1) := by decide +kernel
theorem dL_law_1206 : decode cL_law 1206 = .ok (.iload 4, 2) := by decide +kernel
theorem dL_law_1208 : decode cL_law 1208 = .ok (.iconst 1, 1) := by decide +kernel
theorem dL_law_1209 : decode cL_law 1209 = .ok (.iadd, 1) := by decide +kernel
theorem dL_law_1210 : decode cL_law 1210 = .ok (.iaload, 1) := by decide +kernel
theorem dL_law_1211 : decode cL_law 1211 = .ok (.aload_n 0, 1) := by decide +kernel
theorem dL_law_1212 : decode cL_law 1212 = .ok (.iload 4, 2) := by decide +kernel
theorem dL_law_1214 : decode cL_law 1214 = .ok (.iconst 2, 1) := by decide +kernel
theorem dL_law_1215 : decode cL_law 1215 = .ok (.iadd, 1) := by decide +kernel
theorem dL_law_1216 : decode cL_law 1216 = .ok (.iaload, 1) := by decide +kernel
theorem dL_law_1217 : decode cL_law 1217 = .ok (.aload_n 3, 1) := by decide +kernel
theorem dL_law_1218 : decode cL_law 1218 = .ok (.invokestatic 164, 3) := by decide +kernel
theorem dL_law_1221 : decode cL_law 1221 = .ok (.istore 5, 2) := by decide +kernel
theorem dL_law_1223 : decode cL_law 1223 = .ok (.aload_n 2, 1) := by decide +kernel
theorem dL_law_1224 : decode cL_law 1224 = .ok (.aload_n 0, 1) := by decide +kernel
theorem dL_law_1225 : decode cL_law 1225 = .ok (.iload 4, 2) := by decide +kernel
theorem dL_law_1227 : decode cL_law 1227 = .ok (.iconst 1, 1) := by decide +kernel
theorem dL_law_1228 : decode cL_law 1228 = .ok (.iadd, 1) := by decide +kernel
theorem dL_law_1229 : decode cL_law 1229 = .ok (.iaload, 1) := by decide +kernel
theorem dL_law_1230 : decode cL_law 1230 = .ok (.aload_n 0, 1) := by decide +kernel
theorem dL_law_1231 : decode cL_law 1231 = .ok (.iload 4, 2) := by decide +kernel
theorem dL_law_1233 : decode cL_law 1233 = .ok (.iconst 2, 1) := by decide +kernel
theorem dL_law_1234 : decode cL_law 1234 = .ok (.iadd, 1) := by decide +kernel
theorem dL_law_1235 : decode cL_law 1235 = .ok (.iaload, 1) := by decide +kernel
theorem dL_law_1236 : decode cL_law 1236 = .ok (.invokevirtual 166, 3) := by decide +kernel
theorem dL_law_1239 : decode cL_law 1239 = .ok (.lstore 6, 2) := by decide +kernel
theorem dL_law_1241 : decode cL_law 1241 = .ok (.goto 347, 3) := by decide +kernel
theorem dL_law_1244 : decode cL_law 1244 = .ok (.aload_n 1, 1) := by decide +kernel
theorem dL_law_1245 : decode cL_law 1245 = .ok (.aload_n 0, 1) := by decide +kernel
theorem dL_law_1246 : decode cL_law 1246 = .ok (.iload 4, 2) := by decide +kernel
theorem dL_law_1248 : decode cL_law 1248 = .ok (.iconst 1, 1) := by decide +kernel
theorem dL_law_1249 : decode cL_law 1249 = .ok (.iadd, 1) := by decide +kernel
theorem dL_law_1250 : decode cL_law 1250 = .ok (.iaload, 1) := by decide +kernel
theorem dL_law_1251 : decode cL_law 1251 = .ok (.aload_n 3, 1) := by decide +kernel
theorem dL_law_1252 : decode cL_law 1252 = .ok (.invokestatic 167, 3) := by decide +kernel
theorem dL_law_1255 : decode cL_law 1255 = .ok (.istore 5, 2) := by decide +kernel
theorem dL_law_1257 : decode cL_law 1257 = .ok (.aload_n 2, 1) := by decide +kernel
theorem dL_law_1258 : decode cL_law 1258 = .ok (.aload_n 0, 1) := by decide +kernel
theorem dL_law_1259 : decode cL_law 1259 = .ok (.iload 4, 2) := by decide +kernel
theorem dL_law_1261 : decode cL_law 1261 = .ok (.iconst 1, 1) := by decide +kernel
theorem dL_law_1262 : decode cL_law 1262 = .ok (.iadd, 1) := by decide +kernel
theorem dL_law_1263 : decode cL_law 1263 = .ok (.iaload, 1) := by decide +kernel
theorem dL_law_1264 : decode cL_law 1264 = .ok (.invokevirtual 169, 3) := by decide +kernel
theorem dL_law_1267 : decode cL_law 1267 = .ok (.lstore 6, 2) := by decide +kernel
theorem dL_law_1269 : decode cL_law 1269 = .ok (.goto 319, 3) := by decide +kernel
theorem dL_law_1272 : decode cL_law 1272 = .ok (.aload_n 1, 1) := by decide +kernel
theorem dL_law_1273 : decode cL_law 1273 = .ok (.aload_n 0, 1) := by decide +kernel
theorem dL_law_1274 : decode cL_law 1274 = .ok (.iload 4, 2) := by decide +kernel
theorem dL_law_1276 : decode cL_law 1276 = .ok (.iconst 1, 1) := by decide +kernel
theorem dL_law_1277 : decode cL_law 1277 = .ok (.iadd, 1) := by decide +kernel
theorem dL_law_1278 : decode cL_law 1278 = .ok (.iaload, 1) := by decide +kernel
theorem dL_law_1279 : decode cL_law 1279 = .ok (.aload_n 0, 1) := by decide +kernel
theorem dL_law_1280 : decode cL_law 1280 = .ok (.iload 4, 2) := by decide +kernel
theorem dL_law_1282 : decode cL_law 1282 = .ok (.iconst 2, 1) := by decide +kernel
theorem dL_law_1283 : decode cL_law 1283 = .ok (.iadd, 1) := by decide +kernel
theorem dL_law_1284 : decode cL_law 1284 = .ok (.iaload, 1) := by decide +kernel
theorem dL_law_1285 : decode cL_law 1285 = .ok (.aload_n 0, 1) := by decide +kernel
theorem dL_law_1286 : decode cL_law 1286 = .ok (.iload 4, 2) := by decide +kernel
theorem dL_law_1288 : decode cL_law 1288 = .ok (.iconst 3, 1) := by decide +kernel
theorem dL_law_1289 : decode cL_law 1289 = .ok (.iadd, 1) := by decide +kernel
theorem dL_law_1290 : decode cL_law 1290 = .ok (.iaload, 1) := by decide +kernel
theorem dL_law_1291 : decode cL_law 1291 = .ok (.i2l, 1) := by decide +kernel
theorem dL_law_1292 : decode cL_law 1292 = .ok (.bipush 32, 2) := by decide +kernel
theorem dL_law_1294 : decode cL_law 1294 = .ok (.lshl, 1) := by decide +kernel
theorem dL_law_1295 : decode cL_law 1295 = .ok (.aload_n 0, 1) := by decide +kernel
theorem dL_law_1296 : decode cL_law 1296 = .ok (.iload 4, 2) := by decide +kernel
theorem dL_law_1298 : decode cL_law 1298 = .ok (.iconst 4, 1) := by decide +kernel
theorem dL_law_1299 : decode cL_law 1299 = .ok (.iadd, 1) := by decide +kernel
theorem dL_law_1300 : decode cL_law 1300 = .ok (.iaload, 1) := by decide +kernel
theorem dL_law_1301 : decode cL_law 1301 = .ok (.i2l, 1) := by decide +kernel
theorem dL_law_1302 : decode cL_law 1302 = .ok (.ldc2_w 100, 3) := by decide +kernel
theorem dL_law_1305 : decode cL_law 1305 = .ok (.land, 1) := by decide +kernel
theorem dL_law_1306 : decode cL_law 1306 = .ok (.lor, 1) := by decide +kernel
theorem dL_law_1307 : decode cL_law 1307 = .ok (.aload_n 3, 1) := by decide +kernel
theorem dL_law_1308 : decode cL_law 1308 = .ok (.invokestatic 170, 3) := by decide +kernel
theorem dL_law_1311 : decode cL_law 1311 = .ok (.istore 5, 2) := by decide +kernel
theorem dL_law_1313 : decode cL_law 1313 = .ok (.aload_n 2, 1) := by decide +kernel
theorem dL_law_1314 : decode cL_law 1314 = .ok (.aload_n 0, 1) := by decide +kernel
theorem dL_law_1315 : decode cL_law 1315 = .ok (.iload 4, 2) := by decide +kernel
theorem dL_law_1317 : decode cL_law 1317 = .ok (.iconst 1, 1) := by decide +kernel
theorem dL_law_1318 : decode cL_law 1318 = .ok (.iadd, 1) := by decide +kernel
theorem dL_law_1319 : decode cL_law 1319 = .ok (.iaload, 1) := by decide +kernel
theorem dL_law_1320 : decode cL_law 1320 = .ok (.aload_n 0, 1) := by decide +kernel
theorem dL_law_1321 : decode cL_law 1321 = .ok (.iload 4, 2) := by decide +kernel
theorem dL_law_1323 : decode cL_law 1323 = .ok (.iconst 2, 1) := by decide +kernel
theorem dL_law_1324 : decode cL_law 1324 = .ok (.iadd, 1) := by decide +kernel
theorem dL_law_1325 : decode cL_law 1325 = .ok (.iaload, 1) := by decide +kernel
theorem dL_law_1326 : decode cL_law 1326 = .ok (.aload_n 0, 1) := by decide +kernel
theorem dL_law_1327 : decode cL_law 1327 = .ok (.iload 4, 2) := by decide +kernel
theorem dL_law_1329 : decode cL_law 1329 = .ok (.iconst 3, 1) := by decide +kernel
theorem dL_law_1330 : decode cL_law 1330 = .ok (.iadd, 1) := by decide +kernel
theorem dL_law_1331 : decode cL_law 1331 = .ok (.iaload, 1) := by decide +kernel
theorem dL_law_1332 : decode cL_law 1332 = .ok (.i2l, 1) := by decide +kernel
theorem dL_law_1333 : decode cL_law 1333 = .ok (.bipush 32, 2) := by decide +kernel
theorem dL_law_1335 : decode cL_law 1335 = .ok (.lshl, 1) := by decide +kernel
theorem dL_law_1336 : decode cL_law 1336 = .ok (.aload_n 0, 1) := by decide +kernel
theorem dL_law_1337 : decode cL_law 1337 = .ok (.iload 4, 2) := by decide +kernel
theorem dL_law_1339 : decode cL_law 1339 = .ok (.iconst 4, 1) := by decide +kernel
theorem dL_law_1340 : decode cL_law 1340 = .ok (.iadd, 1) := by decide +kernel
theorem dL_law_1341 : decode cL_law 1341 = .ok (.iaload, 1) := by decide +kernel
theorem dL_law_1342 : decode cL_law 1342 = .ok (.i2l, 1) := by decide +kernel
theorem dL_law_1343 : decode cL_law 1343 = .ok (.ldc2_w 100, 3) := by decide +kernel
theorem dL_law_1346 : decode cL_law 1346 = .ok (.land, 1) := by decide +kernel
theorem dL_law_1347 : decode cL_law 1347 = .ok (.lor, 1) := by decide +kernel
theorem dL_law_1348 : decode cL_law 1348 = .ok (.invokevirtual 172, 3) := by decide +kernel
theorem dL_law_1351 : decode cL_law 1351 = .ok (.lstore 6, 2) := by decide +kernel
theorem dL_law_1353 : decode cL_law 1353 = .ok (.goto 235, 3) := by decide +kernel
theorem dL_law_1356 : decode cL_law 1356 = .ok (.aload_n 1, 1) := by decide +kernel
theorem dL_law_1357 : decode cL_law 1357 = .ok (.aload_n 0, 1) := by decide +kernel
theorem dL_law_1358 : decode cL_law 1358 = .ok (.iload 4, 2) := by decide +kernel
theorem dL_law_1360 : decode cL_law 1360 = .ok (.iconst 1, 1) := by decide +kernel
theorem dL_law_1361 : decode cL_law 1361 = .ok (.iadd, 1) := by decide +kernel
theorem dL_law_1362 : decode cL_law 1362 = .ok (.iaload, 1) := by decide +kernel
theorem dL_law_1363 : decode cL_law 1363 = .ok (.aload_n 0, 1) := by decide +kernel
theorem dL_law_1364 : decode cL_law 1364 = .ok (.iload 4, 2) := by decide +kernel
theorem dL_law_1366 : decode cL_law 1366 = .ok (.iconst 2, 1) := by decide +kernel
theorem dL_law_1367 : decode cL_law 1367 = .ok (.iadd, 1) := by decide +kernel
theorem dL_law_1368 : decode cL_law 1368 = .ok (.iaload, 1) := by decide +kernel
theorem dL_law_1369 : decode cL_law 1369 = .ok (.aload_n 0, 1) := by decide +kernel
theorem dL_law_1370 : decode cL_law 1370 = .ok (.iload 4, 2) := by decide +kernel
theorem dL_law_1372 : decode cL_law 1372 = .ok (.iconst 3, 1) := by decide +kernel
theorem dL_law_1373 : decode cL_law 1373 = .ok (.iadd, 1) := by decide +kernel
theorem dL_law_1374 : decode cL_law 1374 = .ok (.iaload, 1) := by decide +kernel
theorem dL_law_1375 : decode cL_law 1375 = .ok (.i2l, 1) := by decide +kernel
theorem dL_law_1376 : decode cL_law 1376 = .ok (.bipush 32, 2) := by decide +kernel
theorem dL_law_1378 : decode cL_law 1378 = .ok (.lshl, 1) := by decide +kernel
theorem dL_law_1379 : decode cL_law 1379 = .ok (.aload_n 0, 1) := by decide +kernel
theorem dL_law_1380 : decode cL_law 1380 = .ok (.iload 4, 2) := by decide +kernel
theorem dL_law_1382 : decode cL_law 1382 = .ok (.iconst 4, 1) := by decide +kernel
theorem dL_law_1383 : decode cL_law 1383 = .ok (.iadd, 1) := by decide +kernel
theorem dL_law_1384 : decode cL_law 1384 = .ok (.iaload, 1) := by decide +kernel
theorem dL_law_1385 : decode cL_law 1385 = .ok (.i2l, 1) := by decide +kernel
theorem dL_law_1386 : decode cL_law 1386 = .ok (.ldc2_w 100, 3) := by decide +kernel
theorem dL_law_1389 : decode cL_law 1389 = .ok (.land, 1) := by decide +kernel
theorem dL_law_1390 : decode cL_law 1390 = .ok (.lor, 1) := by decide +kernel
theorem dL_law_1391 : decode cL_law 1391 = .ok (.aload_n 3, 1) := by decide +kernel
theorem dL_law_1392 : decode cL_law 1392 = .ok (.invokestatic 173, 3) := by decide +kernel
theorem dL_law_1395 : decode cL_law 1395 = .ok (.istore 5, 2) := by decide +kernel
theorem dL_law_1397 : decode cL_law 1397 = .ok (.aload_n 2, 1) := by decide +kernel
theorem dL_law_1398 : decode cL_law 1398 = .ok (.aload_n 0, 1) := by decide +kernel
theorem dL_law_1399 : decode cL_law 1399 = .ok (.iload 4, 2) := by decide +kernel
theorem dL_law_1401 : decode cL_law 1401 = .ok (.iconst 1, 1) := by decide +kernel
theorem dL_law_1402 : decode cL_law 1402 = .ok (.iadd, 1) := by decide +kernel
theorem dL_law_1403 : decode cL_law 1403 = .ok (.iaload, 1) := by decide +kernel
theorem dL_law_1404 : decode cL_law 1404 = .ok (.aload_n 0, 1) := by decide +kernel
theorem dL_law_1405 : decode cL_law 1405 = .ok (.iload 4, 2) := by decide +kernel
theorem dL_law_1407 : decode cL_law 1407 = .ok (.iconst 2, 1) := by decide +kernel
theorem dL_law_1408 : decode cL_law 1408 = .ok (.iadd, 1) := by decide +kernel
theorem dL_law_1409 : decode cL_law 1409 = .ok (.iaload, 1) := by decide +kernel
theorem dL_law_1410 : decode cL_law 1410 = .ok (.aload_n 0, 1) := by decide +kernel
theorem dL_law_1411 : decode cL_law 1411 = .ok (.iload 4, 2) := by decide +kernel
theorem dL_law_1413 : decode cL_law 1413 = .ok (.iconst 3, 1) := by decide +kernel
theorem dL_law_1414 : decode cL_law 1414 = .ok (.iadd, 1) := by decide +kernel
theorem dL_law_1415 : decode cL_law 1415 = .ok (.iaload, 1) := by decide +kernel
theorem dL_law_1416 : decode cL_law 1416 = .ok (.i2l, 1) := by decide +kernel
theorem dL_law_1417 : decode cL_law 1417 = .ok (.bipush 32, 2) := by decide +kernel
theorem dL_law_1419 : decode cL_law 1419 = .ok (.lshl, 1) := by decide +kernel
theorem dL_law_1420 : decode cL_law 1420 = .ok (.aload_n 0, 1) := by decide +kernel
theorem dL_law_1421 : decode cL_law 1421 = .ok (.iload 4, 2) := by decide +kernel
theorem dL_law_1423 : decode cL_law 1423 = .ok (.iconst 4, 1) := by decide +kernel
theorem dL_law_1424 : decode cL_law 1424 = .ok (.iadd, 1) := by decide +kernel
theorem dL_law_1425 : decode cL_law 1425 = .ok (.iaload, 1) := by decide +kernel
theorem dL_law_1426 : decode cL_law 1426 = .ok (.i2l, 1) := by decide +kernel
theorem dL_law_1427 : decode cL_law 1427 = .ok (.ldc2_w 100, 3) := by decide +kernel
theorem dL_law_1430 : decode cL_law 1430 = .ok (.land, 1) := by decide +kernel
theorem dL_law_1431 : decode cL_law 1431 = .ok (.lor, 1) := by decide +kernel
theorem dL_law_1432 : decode cL_law 1432 = .ok (.invokevirtual 175, 3) := by decide +kernel
theorem dL_law_1435 : decode cL_law 1435 = .ok (.lstore 6, 2) := by decide +kernel
theorem dL_law_1437 : decode cL_law 1437 = .ok (.goto 151, 3) := by decide +kernel
set_option maxHeartbeats 4000000 in
set_option maxRecDepth 100000 in
theorem law_case_16 {p : Program} {l : Launch} {e : Env} {s : State} {m : MethodId} {below : List Frame} {meth : Method} {c : Code} {b L : Nat} {xs : Nat → Int32} {dC : Nat → ClassId} {dI : Nat → Nat → Nat} {h0 g0 ho : Nat} {a : Nat → Nat} {ca : Nat → ClassId} {co : ClassId} (hl0 : l.stackTraces = false) (hF : LFix p s m meth c b L xs dC dI ca co) {i cl sl : Nat} (hi : i + 6 ≤ L) (hC : cl + 10 ≤ room_1.cells) (hSl : sl + 2100 ≤ room_1.slots) (go : LGo p l e s m below meth c b dC dI h0 g0 ho a ca co i 1588 (cl + 10) (sl + 2100)) : LGo p l e s m below meth c b dC dI h0 g0 ho a ca co i 1204 cl sl := by
  obtain ⟨C0, hG, hN, hZ, hKm, hO, hL⟩ := hF
  obtain ⟨hx, hb, hr, hml, hown, hts, hX, hbl, hlocks, hgv⟩ := C0
  have hA : ∀ q : Nat, s.heap.size ≤ q → lA s q := fun _ h => h
  have hbA : ¬ lA s b := Nat.not_le.mpr hbl
  intro sh rk ci ai al f v w fi fl nn mm uu H locs ls hXI hRI hK hP hD hS hl
  obtain ⟨x1, ex1⟩ : ∃ x, xs (nI i + nI 1).toNatClampNeg = x := ⟨_, rfl⟩
  obtain ⟨x2, ex2⟩ : ∃ x, xs (nI i + nI 2).toNatClampNeg = x := ⟨_, rfl⟩
  refine lv_aload_n hx hb dL_law_1204 rfl (lv_at hl 3 rfl) ?_
  refine lv_aload_n hx hb dL_law_1205 rfl (lv_at hl 4 rfl) ?_
  refine lv_iload hx hb dL_law_1206 (lv_at hl 0 rfl) ?_
  refine lv_iconst (v := 1) hx hb dL_law_1208 (by decide) ?_
  refine lv_iadd hx hb dL_law_1209 ?_
  refine lw_sld (x := x1) hx hb hX hbl hbA hS (lw_in (k := 1) hi hL (by decide)) dL_law_1210 ex1 ?_
  refine lv_aload_n hx hb dL_law_1211 rfl (lv_at hl 4 rfl) ?_
  refine lv_iload hx hb dL_law_1212 (lv_at hl 0 rfl) ?_
  refine lv_iconst (v := 2) hx hb dL_law_1214 (by decide) ?_
  refine lv_iadd hx hb dL_law_1215 ?_
  refine lw_sld (x := x2) hx hb hX hbl hbA hS (lw_in (k := 2) hi hL (by decide)) dL_law_1216 ex2 ?_
  refine lv_aload_n hx hb dL_law_1217 rfl (lv_at hl 1 rfl) ?_
  refine l_end (mc := 3) (ms := 20) (cells := cl) (slots := sl) (vx_runSW (rm := rmL_at) (As := [.ref h0, .int x1, .int x2, .ref ho]) (rest := []) ⟨hx, hb, hml, hown, hts⟩ (p_L_at l hl0 dC dI _ _ _ _ h0 x1 x2 co ho f _ (j_at (p0 := x1) (p1 := x2) hXI f) H.size) (vx_cwSW 4 hts gl_L_at rfl rfl rfl hd_L_at ⟨Nat.le_of_ble_eq_true rfl, Nat.le_of_ble_eq_true rfl⟩) (l_preS hK hO (fr_P2 hP) (fr_D2 hD) hA hS hG hN hZ) rfl rfl hl.1 rfl (lv_room (Nat.le_of_ble_eq_true rfl)) dL_law_1218 ⟨Nat.le_trans (Nat.add_le_add_left (by decide) _) hC, Nat.le_trans (Nat.add_le_add_left (by decide) _) hSl⟩) hP hD hS hA (fun k9 sh1 ci1 ai1 al1 f1 H locs h hK hP hD hS => ?_)
  obtain ⟨rk1, hXI⟩ := h
  refine lv_istore (lv' := [(5, .int k9), (4, .int (nI i)), (3, .ref ho), (2, .ref g0), (1, .ref h0), (0, .ref b)]) hx hb dL_law_1221 hl (by decide) rfl (fun ls hl => ?_)
  refine lv_aload_n hx hb dL_law_1223 rfl (lv_at hl 3 rfl) ?_
  refine lv_aload_n hx hb dL_law_1224 rfl (lv_at hl 5 rfl) ?_
  refine lv_iload hx hb dL_law_1225 (lv_at hl 1 rfl) ?_
  refine lv_iconst (v := 1) hx hb dL_law_1227 (by decide) ?_
  refine lv_iadd hx hb dL_law_1228 ?_
  refine lw_sld (x := x1) hx hb hX hbl hbA hS (lw_in (k := 1) hi hL (by decide)) dL_law_1229 ex1 ?_
  refine lv_aload_n hx hb dL_law_1230 rfl (lv_at hl 5 rfl) ?_
  refine lv_iload hx hb dL_law_1231 (lv_at hl 1 rfl) ?_
  refine lv_iconst (v := 2) hx hb dL_law_1233 (by decide) ?_
  refine lv_iadd hx hb dL_law_1234 ?_
  refine lw_sld (x := x2) hx hb hX hbl hbA hS (lw_in (k := 2) hi hL (by decide)) dL_law_1235 ex2 ?_
  refine lm_calll (rm := ({ frames := 32, cells := 0, slots := 0, locals := 480 })) (As := [.int x1, .int x2]) (rest := []) (cells := (cl + 3)) (slots := (sl + 20)) (fun sz => p_X12_at l dC dI a ca g0 _ _ _ _ x1 x2 _ (r_at hRI (Q := fun r8 v8 w8 fi8 fl8 => RI v8 fi8 nn mm uu) (fun r8 v8 w8 fi8 fl8 h8 => h8)) sz) ⟨hx, hb, hml, hown, hts⟩ (cwV 2 hts gl_X12_at rfl rfl rfl hd_X12_at ⟨Nat.le_of_ble_eq_true rfl, Nat.le_of_ble_eq_true rfl⟩) rfl hl.1 rfl hKm hP hD hS hA (Nat.le_of_ble_eq_true rfl) ⟨Nat.le_trans (Nat.add_le_add_left (by decide) _) hC, Nat.le_trans (Nat.add_le_add_left (by decide) _) hSl⟩ dL_law_1236 (fun b1 v1 w1 fi1 fl1 H locs h hP hD hS => ?_)
  have hRI := h
  refine lv_lstore (lv' := [(6, .long b1), (5, .int k9), (4, .int (nI i)), (3, .ref ho), (2, .ref g0), (1, .ref h0), (0, .ref b)]) hx hb dL_law_1239 hl (by decide) rfl (fun ls hl => ?_)
  refine lv_goto (tgt := 1588) hx hb dL_law_1241 (by decide) ?_
  exact W.widen (k := cl + 10) (n := sl + 2100) (Nat.add_le_add_left (by decide) _) (Nat.add_le_add_left (by decide) _) (go _ _ _ _ _ _ _ _ _ _ _ _ _ H _ ls hXI hRI hK hP hD hS (lv_sub hl [2, 3, 4, 5, 6] rfl))
set_option maxHeartbeats 4000000 in
set_option maxRecDepth 100000 in
theorem law_case_17 {p : Program} {l : Launch} {e : Env} {s : State} {m : MethodId} {below : List Frame} {meth : Method} {c : Code} {b L : Nat} {xs : Nat → Int32} {dC : Nat → ClassId} {dI : Nat → Nat → Nat} {h0 g0 ho : Nat} {a : Nat → Nat} {ca : Nat → ClassId} {co : ClassId} (hl0 : l.stackTraces = false) (hF : LFix p s m meth c b L xs dC dI ca co) {i cl sl : Nat} (hi : i + 6 ≤ L) (hC : cl + 10 ≤ room_1.cells) (hSl : sl + 2100 ≤ room_1.slots) (go : LGo p l e s m below meth c b dC dI h0 g0 ho a ca co i 1588 (cl + 10) (sl + 2100)) : LGo p l e s m below meth c b dC dI h0 g0 ho a ca co i 1244 cl sl := by
  obtain ⟨C0, hG, hN, hZ, hKm, hO, hL⟩ := hF
  obtain ⟨hx, hb, hr, hml, hown, hts, hX, hbl, hlocks, hgv⟩ := C0
  have hA : ∀ q : Nat, s.heap.size ≤ q → lA s q := fun _ h => h
  have hbA : ¬ lA s b := Nat.not_le.mpr hbl
  intro sh rk ci ai al f v w fi fl nn mm uu H locs ls hXI hRI hK hP hD hS hl
  obtain ⟨x1, ex1⟩ : ∃ x, xs (nI i + nI 1).toNatClampNeg = x := ⟨_, rfl⟩
  refine lv_aload_n hx hb dL_law_1244 rfl (lv_at hl 3 rfl) ?_
  refine lv_aload_n hx hb dL_law_1245 rfl (lv_at hl 4 rfl) ?_
  refine lv_iload hx hb dL_law_1246 (lv_at hl 0 rfl) ?_
  refine lv_iconst (v := 1) hx hb dL_law_1248 (by decide) ?_
  refine lv_iadd hx hb dL_law_1249 ?_
  refine lw_sld (x := x1) hx hb hX hbl hbA hS (lw_in (k := 1) hi hL (by decide)) dL_law_1250 ex1 ?_
  refine lv_aload_n hx hb dL_law_1251 rfl (lv_at hl 1 rfl) ?_
  refine l_end (mc := 3) (ms := 20) (cells := cl) (slots := sl) (vx_runSW (rm := rmL_size) (As := [.ref h0, .int x1, .ref ho]) (rest := []) ⟨hx, hb, hml, hown, hts⟩ (p_L_size l hl0 dC dI _ _ _ _ h0 x1 co ho f _ (j_size (p0 := x1) hXI f) H.size) (vx_cwSW 3 hts gl_L_size rfl rfl rfl hd_L_size ⟨Nat.le_of_ble_eq_true rfl, Nat.le_of_ble_eq_true rfl⟩) (l_preS hK hO (fr_P2 hP) (fr_D2 hD) hA hS hG hN hZ) rfl rfl hl.1 rfl (lv_room (Nat.le_of_ble_eq_true rfl)) dL_law_1252 ⟨Nat.le_trans (Nat.add_le_add_left (by decide) _) hC, Nat.le_trans (Nat.add_le_add_left (by decide) _) hSl⟩) hP hD hS hA (fun k9 sh1 ci1 ai1 al1 f1 H locs h hK hP hD hS => ?_)
  obtain ⟨rk1, hXI⟩ := h
  refine lv_istore (lv' := [(5, .int k9), (4, .int (nI i)), (3, .ref ho), (2, .ref g0), (1, .ref h0), (0, .ref b)]) hx hb dL_law_1255 hl (by decide) rfl (fun ls hl => ?_)
  refine lv_aload_n hx hb dL_law_1257 rfl (lv_at hl 3 rfl) ?_
  refine lv_aload_n hx hb dL_law_1258 rfl (lv_at hl 5 rfl) ?_
  refine lv_iload hx hb dL_law_1259 (lv_at hl 1 rfl) ?_
  refine lv_iconst (v := 1) hx hb dL_law_1261 (by decide) ?_
  refine lv_iadd hx hb dL_law_1262 ?_
  refine lw_sld (x := x1) hx hb hX hbl hbA hS (lw_in (k := 1) hi hL (by decide)) dL_law_1263 ex1 ?_
  refine lm_calll (rm := ({ frames := 32, cells := 0, slots := 0, locals := 480 })) (As := [.int x1]) (rest := []) (cells := (cl + 3)) (slots := (sl + 20)) (fun sz => p_X12_size l dC dI a ca g0 _ _ _ _ x1 _ (r_size hRI (Q := fun r8 v8 w8 fi8 fl8 => RI v8 fi8 nn mm uu) (fun r8 v8 w8 fi8 fl8 h8 => h8)) sz) ⟨hx, hb, hml, hown, hts⟩ (cwV 1 hts gl_X12_size rfl rfl rfl hd_X12_size ⟨Nat.le_of_ble_eq_true rfl, Nat.le_of_ble_eq_true rfl⟩) rfl hl.1 rfl hKm hP hD hS hA (Nat.le_of_ble_eq_true rfl) ⟨Nat.le_trans (Nat.add_le_add_left (by decide) _) hC, Nat.le_trans (Nat.add_le_add_left (by decide) _) hSl⟩ dL_law_1264 (fun b1 v1 w1 fi1 fl1 H locs h hP hD hS => ?_)
  have hRI := h
  refine lv_lstore (lv' := [(6, .long b1), (5, .int k9), (4, .int (nI i)), (3, .ref ho), (2, .ref g0), (1, .ref h0), (0, .ref b)]) hx hb dL_law_1267 hl (by decide) rfl (fun ls hl => ?_)
  refine lv_goto (tgt := 1588) hx hb dL_law_1269 (by decide) ?_
  exact W.widen (k := cl + 10) (n := sl + 2100) (Nat.add_le_add_left (by decide) _) (Nat.add_le_add_left (by decide) _) (go _ _ _ _ _ _ _ _ _ _ _ _ _ H _ ls hXI hRI hK hP hD hS (lv_sub hl [2, 3, 4, 5, 6] rfl))
set_option maxHeartbeats 4000000 in
set_option maxRecDepth 100000 in
theorem law_case_18 {p : Program} {l : Launch} {e : Env} {s : State} {m : MethodId} {below : List Frame} {meth : Method} {c : Code} {b L : Nat} {xs : Nat → Int32} {dC : Nat → ClassId} {dI : Nat → Nat → Nat} {h0 g0 ho : Nat} {a : Nat → Nat} {ca : Nat → ClassId} {co : ClassId} (hl0 : l.stackTraces = false) (hF : LFix p s m meth c b L xs dC dI ca co) {i cl sl : Nat} (hi : i + 6 ≤ L) (hC : cl + 10 ≤ room_1.cells) (hSl : sl + 2100 ≤ room_1.slots) (go : LGo p l e s m below meth c b dC dI h0 g0 ho a ca co i 1588 (cl + 10) (sl + 2100)) : LGo p l e s m below meth c b dC dI h0 g0 ho a ca co i 1272 cl sl := by
  obtain ⟨C0, hG, hN, hZ, hKm, hO, hL⟩ := hF
  obtain ⟨hx, hb, hr, hml, hown, hts, hX, hbl, hlocks, hgv⟩ := C0
  have hA : ∀ q : Nat, s.heap.size ≤ q → lA s q := fun _ h => h
  have hbA : ¬ lA s b := Nat.not_le.mpr hbl
  intro sh rk ci ai al f v w fi fl nn mm uu H locs ls hXI hRI hK hP hD hS hl
  obtain ⟨x1, ex1⟩ : ∃ x, xs (nI i + nI 1).toNatClampNeg = x := ⟨_, rfl⟩
  obtain ⟨x2, ex2⟩ : ∃ x, xs (nI i + nI 2).toNatClampNeg = x := ⟨_, rfl⟩
  obtain ⟨x3, ex3⟩ : ∃ x, xs (nI i + nI 3).toNatClampNeg = x := ⟨_, rfl⟩
  obtain ⟨x4, ex4⟩ : ∃ x, xs (nI i + nI 4).toNatClampNeg = x := ⟨_, rfl⟩
  refine lv_aload_n hx hb dL_law_1272 rfl (lv_at hl 3 rfl) ?_
  refine lv_aload_n hx hb dL_law_1273 rfl (lv_at hl 4 rfl) ?_
  refine lv_iload hx hb dL_law_1274 (lv_at hl 0 rfl) ?_
  refine lv_iconst (v := 1) hx hb dL_law_1276 (by decide) ?_
  refine lv_iadd hx hb dL_law_1277 ?_
  refine lw_sld (x := x1) hx hb hX hbl hbA hS (lw_in (k := 1) hi hL (by decide)) dL_law_1278 ex1 ?_
  refine lv_aload_n hx hb dL_law_1279 rfl (lv_at hl 4 rfl) ?_
  refine lv_iload hx hb dL_law_1280 (lv_at hl 0 rfl) ?_
  refine lv_iconst (v := 2) hx hb dL_law_1282 (by decide) ?_
  refine lv_iadd hx hb dL_law_1283 ?_
  refine lw_sld (x := x2) hx hb hX hbl hbA hS (lw_in (k := 2) hi hL (by decide)) dL_law_1284 ex2 ?_
  refine lv_aload_n hx hb dL_law_1285 rfl (lv_at hl 4 rfl) ?_
  refine lv_iload hx hb dL_law_1286 (lv_at hl 0 rfl) ?_
  refine lv_iconst (v := 3) hx hb dL_law_1288 (by decide) ?_
  refine lv_iadd hx hb dL_law_1289 ?_
  refine lw_sld (x := x3) hx hb hX hbl hbA hS (lw_in (k := 3) hi hL (by decide)) dL_law_1290 ex3 ?_
  refine lv_i2l hx hb dL_law_1291 rfl ?_
  refine lv_bipush (v := 32) hx hb dL_law_1292 (by decide) ?_
  refine lv_lshl hx hb dL_law_1294 rfl ?_
  refine lv_aload_n hx hb dL_law_1295 rfl (lv_at hl 4 rfl) ?_
  refine lv_iload hx hb dL_law_1296 (lv_at hl 0 rfl) ?_
  refine lv_iconst (v := 4) hx hb dL_law_1298 (by decide) ?_
  refine lv_iadd hx hb dL_law_1299 ?_
  refine lw_sld (x := x4) hx hb hX hbl hbA hS (lw_in (k := 4) hi hL (by decide)) dL_law_1300 ex4 ?_
  refine lv_i2l hx hb dL_law_1301 rfl ?_
  refine lv_ldc2 (v := (4294967295)) hx hb hown (hts _ lw_w0) dL_law_1302 ?_
  refine lv_land hx hb dL_law_1305 ?_
  refine lv_lor hx hb dL_law_1306 ?_
  refine lv_topl (fun z1 _ => ?_)
  refine lv_aload_n hx hb dL_law_1307 rfl (lv_at hl 1 rfl) ?_
  refine l_end (mc := 3) (ms := 20) (cells := cl) (slots := sl) (vx_runSW (rm := rmL_fold) (As := [.ref h0, .int x1, .int x2, .long z1, .ref ho]) (rest := []) ⟨hx, hb, hml, hown, hts⟩ (p_L_fold l hl0 dC dI _ _ _ _ h0 x1 x2 z1 co ho f _ (j_fold (p0 := x1) (p1 := x2) (p2 := z1) hXI f) H.size) (vx_cwSW 5 hts gl_L_fold rfl rfl rfl hd_L_fold ⟨Nat.le_of_ble_eq_true rfl, Nat.le_of_ble_eq_true rfl⟩) (l_preS hK hO (fr_P2 hP) (fr_D2 hD) hA hS hG hN hZ) rfl rfl hl.1 rfl (lv_room (Nat.le_of_ble_eq_true rfl)) dL_law_1308 ⟨Nat.le_trans (Nat.add_le_add_left (by decide) _) hC, Nat.le_trans (Nat.add_le_add_left (by decide) _) hSl⟩) hP hD hS hA (fun k9 sh1 ci1 ai1 al1 f1 H locs h hK hP hD hS => ?_)
  obtain ⟨rk1, hXI⟩ := h
  refine lv_istore (lv' := [(5, .int k9), (4, .int (nI i)), (3, .ref ho), (2, .ref g0), (1, .ref h0), (0, .ref b)]) hx hb dL_law_1311 hl (by decide) rfl (fun ls hl => ?_)
  refine lv_aload_n hx hb dL_law_1313 rfl (lv_at hl 3 rfl) ?_
  refine lv_aload_n hx hb dL_law_1314 rfl (lv_at hl 5 rfl) ?_
  refine lv_iload hx hb dL_law_1315 (lv_at hl 1 rfl) ?_
  refine lv_iconst (v := 1) hx hb dL_law_1317 (by decide) ?_
  refine lv_iadd hx hb dL_law_1318 ?_
  refine lw_sld (x := x1) hx hb hX hbl hbA hS (lw_in (k := 1) hi hL (by decide)) dL_law_1319 ex1 ?_
  refine lv_aload_n hx hb dL_law_1320 rfl (lv_at hl 5 rfl) ?_
  refine lv_iload hx hb dL_law_1321 (lv_at hl 1 rfl) ?_
  refine lv_iconst (v := 2) hx hb dL_law_1323 (by decide) ?_
  refine lv_iadd hx hb dL_law_1324 ?_
  refine lw_sld (x := x2) hx hb hX hbl hbA hS (lw_in (k := 2) hi hL (by decide)) dL_law_1325 ex2 ?_
  refine lv_aload_n hx hb dL_law_1326 rfl (lv_at hl 5 rfl) ?_
  refine lv_iload hx hb dL_law_1327 (lv_at hl 1 rfl) ?_
  refine lv_iconst (v := 3) hx hb dL_law_1329 (by decide) ?_
  refine lv_iadd hx hb dL_law_1330 ?_
  refine lw_sld (x := x3) hx hb hX hbl hbA hS (lw_in (k := 3) hi hL (by decide)) dL_law_1331 ex3 ?_
  refine lv_i2l hx hb dL_law_1332 rfl ?_
  refine lv_bipush (v := 32) hx hb dL_law_1333 (by decide) ?_
  refine lv_lshl hx hb dL_law_1335 rfl ?_
  refine lv_aload_n hx hb dL_law_1336 rfl (lv_at hl 5 rfl) ?_
  refine lv_iload hx hb dL_law_1337 (lv_at hl 1 rfl) ?_
  refine lv_iconst (v := 4) hx hb dL_law_1339 (by decide) ?_
  refine lv_iadd hx hb dL_law_1340 ?_
  refine lw_sld (x := x4) hx hb hX hbl hbA hS (lw_in (k := 4) hi hL (by decide)) dL_law_1341 ex4 ?_
  refine lv_i2l hx hb dL_law_1342 rfl ?_
  refine lv_ldc2 (v := (4294967295)) hx hb hown (hts _ lw_w0) dL_law_1343 ?_
  refine lv_land hx hb dL_law_1346 ?_
  refine lv_lor hx hb dL_law_1347 ?_
  refine lv_topl (fun z2 _ => ?_)
  refine lm_calll (rm := ({ frames := 32, cells := 0, slots := 0, locals := 480 })) (As := [.int x1, .int x2, .long z2]) (rest := []) (cells := (cl + 3)) (slots := (sl + 20)) (fun sz => p_X12_fold l dC dI a ca g0 _ _ _ _ x1 x2 z2 _ (r_fold hRI (Q := fun r8 v8 w8 fi8 fl8 => RI v8 fi8 nn mm uu) (fun r8 v8 w8 fi8 fl8 h8 => h8)) sz) ⟨hx, hb, hml, hown, hts⟩ (cwV 3 hts gl_X12_fold rfl rfl rfl hd_X12_fold ⟨Nat.le_of_ble_eq_true rfl, Nat.le_of_ble_eq_true rfl⟩) rfl hl.1 rfl hKm hP hD hS hA (Nat.le_of_ble_eq_true rfl) ⟨Nat.le_trans (Nat.add_le_add_left (by decide) _) hC, Nat.le_trans (Nat.add_le_add_left (by decide) _) hSl⟩ dL_law_1348 (fun b1 v1 w1 fi1 fl1 H locs h hP hD hS => ?_)
  have hRI := h
  refine lv_lstore (lv' := [(6, .long b1), (5, .int k9), (4, .int (nI i)), (3, .ref ho), (2, .ref g0), (1, .ref h0), (0, .ref b)]) hx hb dL_law_1351 hl (by decide) rfl (fun ls hl => ?_)
  refine lv_goto (tgt := 1588) hx hb dL_law_1353 (by decide) ?_
  exact W.widen (k := cl + 10) (n := sl + 2100) (Nat.add_le_add_left (by decide) _) (Nat.add_le_add_left (by decide) _) (go _ _ _ _ _ _ _ _ _ _ _ _ _ H _ ls hXI hRI hK hP hD hS (lv_sub hl [2, 3, 4, 5, 6] rfl))
set_option maxHeartbeats 4000000 in
set_option maxRecDepth 100000 in
theorem law_case_19 {p : Program} {l : Launch} {e : Env} {s : State} {m : MethodId} {below : List Frame} {meth : Method} {c : Code} {b L : Nat} {xs : Nat → Int32} {dC : Nat → ClassId} {dI : Nat → Nat → Nat} {h0 g0 ho : Nat} {a : Nat → Nat} {ca : Nat → ClassId} {co : ClassId} (hl0 : l.stackTraces = false) (hF : LFix p s m meth c b L xs dC dI ca co) {i cl sl : Nat} (hi : i + 6 ≤ L) (hC : cl + 10 ≤ room_1.cells) (hSl : sl + 2100 ≤ room_1.slots) (go : LGo p l e s m below meth c b dC dI h0 g0 ho a ca co i 1588 (cl + 10) (sl + 2100)) : LGo p l e s m below meth c b dC dI h0 g0 ho a ca co i 1356 cl sl := by
  obtain ⟨C0, hG, hN, hZ, hKm, hO, hL⟩ := hF
  obtain ⟨hx, hb, hr, hml, hown, hts, hX, hbl, hlocks, hgv⟩ := C0
  have hA : ∀ q : Nat, s.heap.size ≤ q → lA s q := fun _ h => h
  have hbA : ¬ lA s b := Nat.not_le.mpr hbl
  intro sh rk ci ai al f v w fi fl nn mm uu H locs ls hXI hRI hK hP hD hS hl
  obtain ⟨x1, ex1⟩ : ∃ x, xs (nI i + nI 1).toNatClampNeg = x := ⟨_, rfl⟩
  obtain ⟨x2, ex2⟩ : ∃ x, xs (nI i + nI 2).toNatClampNeg = x := ⟨_, rfl⟩
  obtain ⟨x3, ex3⟩ : ∃ x, xs (nI i + nI 3).toNatClampNeg = x := ⟨_, rfl⟩
  obtain ⟨x4, ex4⟩ : ∃ x, xs (nI i + nI 4).toNatClampNeg = x := ⟨_, rfl⟩
  refine lv_aload_n hx hb dL_law_1356 rfl (lv_at hl 3 rfl) ?_
  refine lv_aload_n hx hb dL_law_1357 rfl (lv_at hl 4 rfl) ?_
  refine lv_iload hx hb dL_law_1358 (lv_at hl 0 rfl) ?_
  refine lv_iconst (v := 1) hx hb dL_law_1360 (by decide) ?_
  refine lv_iadd hx hb dL_law_1361 ?_
  refine lw_sld (x := x1) hx hb hX hbl hbA hS (lw_in (k := 1) hi hL (by decide)) dL_law_1362 ex1 ?_
  refine lv_aload_n hx hb dL_law_1363 rfl (lv_at hl 4 rfl) ?_
  refine lv_iload hx hb dL_law_1364 (lv_at hl 0 rfl) ?_
  refine lv_iconst (v := 2) hx hb dL_law_1366 (by decide) ?_
  refine lv_iadd hx hb dL_law_1367 ?_
  refine lw_sld (x := x2) hx hb hX hbl hbA hS (lw_in (k := 2) hi hL (by decide)) dL_law_1368 ex2 ?_
  refine lv_aload_n hx hb dL_law_1369 rfl (lv_at hl 4 rfl) ?_
  refine lv_iload hx hb dL_law_1370 (lv_at hl 0 rfl) ?_
  refine lv_iconst (v := 3) hx hb dL_law_1372 (by decide) ?_
  refine lv_iadd hx hb dL_law_1373 ?_
  refine lw_sld (x := x3) hx hb hX hbl hbA hS (lw_in (k := 3) hi hL (by decide)) dL_law_1374 ex3 ?_
  refine lv_i2l hx hb dL_law_1375 rfl ?_
  refine lv_bipush (v := 32) hx hb dL_law_1376 (by decide) ?_
  refine lv_lshl hx hb dL_law_1378 rfl ?_
  refine lv_aload_n hx hb dL_law_1379 rfl (lv_at hl 4 rfl) ?_
  refine lv_iload hx hb dL_law_1380 (lv_at hl 0 rfl) ?_
  refine lv_iconst (v := 4) hx hb dL_law_1382 (by decide) ?_
  refine lv_iadd hx hb dL_law_1383 ?_
  refine lw_sld (x := x4) hx hb hX hbl hbA hS (lw_in (k := 4) hi hL (by decide)) dL_law_1384 ex4 ?_
  refine lv_i2l hx hb dL_law_1385 rfl ?_
  refine lv_ldc2 (v := (4294967295)) hx hb hown (hts _ lw_w0) dL_law_1386 ?_
  refine lv_land hx hb dL_law_1389 ?_
  refine lv_lor hx hb dL_law_1390 ?_
  refine lv_topl (fun z1 _ => ?_)
  refine lv_aload_n hx hb dL_law_1391 rfl (lv_at hl 1 rfl) ?_
  refine l_end (mc := 3) (ms := 20) (cells := cl) (slots := sl) (vx_runSW (rm := rmL_find) (As := [.ref h0, .int x1, .int x2, .long z1, .ref ho]) (rest := []) ⟨hx, hb, hml, hown, hts⟩ (p_L_find l hl0 dC dI _ _ _ _ h0 x1 x2 z1 co ho f _ (j_find (p0 := x1) (p1 := x2) (p2 := z1) hXI f) H.size) (vx_cwSW 5 hts gl_L_find rfl rfl rfl hd_L_find ⟨Nat.le_of_ble_eq_true rfl, Nat.le_of_ble_eq_true rfl⟩) (l_preS hK hO (fr_P2 hP) (fr_D2 hD) hA hS hG hN hZ) rfl rfl hl.1 rfl (lv_room (Nat.le_of_ble_eq_true rfl)) dL_law_1392 ⟨Nat.le_trans (Nat.add_le_add_left (by decide) _) hC, Nat.le_trans (Nat.add_le_add_left (by decide) _) hSl⟩) hP hD hS hA (fun k9 sh1 ci1 ai1 al1 f1 H locs h hK hP hD hS => ?_)
  obtain ⟨rk1, hXI⟩ := h
  refine lv_istore (lv' := [(5, .int k9), (4, .int (nI i)), (3, .ref ho), (2, .ref g0), (1, .ref h0), (0, .ref b)]) hx hb dL_law_1395 hl (by decide) rfl (fun ls hl => ?_)
  refine lv_aload_n hx hb dL_law_1397 rfl (lv_at hl 3 rfl) ?_
  refine lv_aload_n hx hb dL_law_1398 rfl (lv_at hl 5 rfl) ?_
  refine lv_iload hx hb dL_law_1399 (lv_at hl 1 rfl) ?_
  refine lv_iconst (v := 1) hx hb dL_law_1401 (by decide) ?_
  refine lv_iadd hx hb dL_law_1402 ?_
  refine lw_sld (x := x1) hx hb hX hbl hbA hS (lw_in (k := 1) hi hL (by decide)) dL_law_1403 ex1 ?_
  refine lv_aload_n hx hb dL_law_1404 rfl (lv_at hl 5 rfl) ?_
  refine lv_iload hx hb dL_law_1405 (lv_at hl 1 rfl) ?_
  refine lv_iconst (v := 2) hx hb dL_law_1407 (by decide) ?_
  refine lv_iadd hx hb dL_law_1408 ?_
  refine lw_sld (x := x2) hx hb hX hbl hbA hS (lw_in (k := 2) hi hL (by decide)) dL_law_1409 ex2 ?_
  refine lv_aload_n hx hb dL_law_1410 rfl (lv_at hl 5 rfl) ?_
  refine lv_iload hx hb dL_law_1411 (lv_at hl 1 rfl) ?_
  refine lv_iconst (v := 3) hx hb dL_law_1413 (by decide) ?_
  refine lv_iadd hx hb dL_law_1414 ?_
  refine lw_sld (x := x3) hx hb hX hbl hbA hS (lw_in (k := 3) hi hL (by decide)) dL_law_1415 ex3 ?_
  refine lv_i2l hx hb dL_law_1416 rfl ?_
  refine lv_bipush (v := 32) hx hb dL_law_1417 (by decide) ?_
  refine lv_lshl hx hb dL_law_1419 rfl ?_
  refine lv_aload_n hx hb dL_law_1420 rfl (lv_at hl 5 rfl) ?_
  refine lv_iload hx hb dL_law_1421 (lv_at hl 1 rfl) ?_
  refine lv_iconst (v := 4) hx hb dL_law_1423 (by decide) ?_
  refine lv_iadd hx hb dL_law_1424 ?_
  refine lw_sld (x := x4) hx hb hX hbl hbA hS (lw_in (k := 4) hi hL (by decide)) dL_law_1425 ex4 ?_
  refine lv_i2l hx hb dL_law_1426 rfl ?_
  refine lv_ldc2 (v := (4294967295)) hx hb hown (hts _ lw_w0) dL_law_1427 ?_
  refine lv_land hx hb dL_law_1430 ?_
  refine lv_lor hx hb dL_law_1431 ?_
  refine lv_topl (fun z2 _ => ?_)
  refine lm_calll (rm := ({ frames := 32, cells := 0, slots := 0, locals := 480 })) (As := [.int x1, .int x2, .long z2]) (rest := []) (cells := (cl + 3)) (slots := (sl + 20)) (fun sz => p_X12_find l dC dI a ca g0 _ _ _ _ x1 x2 z2 _ (r_find hRI (Q := fun r8 v8 w8 fi8 fl8 => RI v8 fi8 nn mm uu) (fun r8 v8 w8 fi8 fl8 h8 => h8)) sz) ⟨hx, hb, hml, hown, hts⟩ (cwV 3 hts gl_X12_find rfl rfl rfl hd_X12_find ⟨Nat.le_of_ble_eq_true rfl, Nat.le_of_ble_eq_true rfl⟩) rfl hl.1 rfl hKm hP hD hS hA (Nat.le_of_ble_eq_true rfl) ⟨Nat.le_trans (Nat.add_le_add_left (by decide) _) hC, Nat.le_trans (Nat.add_le_add_left (by decide) _) hSl⟩ dL_law_1432 (fun b1 v1 w1 fi1 fl1 H locs h hP hD hS => ?_)
  have hRI := h
  refine lv_lstore (lv' := [(6, .long b1), (5, .int k9), (4, .int (nI i)), (3, .ref ho), (2, .ref g0), (1, .ref h0), (0, .ref b)]) hx hb dL_law_1435 hl (by decide) rfl (fun ls hl => ?_)
  refine lv_goto (tgt := 1588) hx hb dL_law_1437 (by decide) ?_
  exact W.widen (k := cl + 10) (n := sl + 2100) (Nat.add_le_add_left (by decide) _) (Nat.add_le_add_left (by decide) _) (go _ _ _ _ _ _ _ _ _ _ _ _ _ H _ ls hXI hRI hK hP hD hS (lv_sub hl [2, 3, 4, 5, 6] rfl))
