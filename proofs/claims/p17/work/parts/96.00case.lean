abbrev cL_law : ByteArray := code
theorem dL_law_164 : decode cL_law 164 = .ok (.aload_n 1, 1) := by decide +kernel
theorem dL_law_165 : decode cL_law 165 = .ok (.aload_n 0, 1) := by decide +kernel
theorem dL_law_166 : decode cL_law 166 = .ok (.iload 4, 2) := by decide +kernel
theorem dL_law_168 : decode cL_law 168 = .ok (.iconst 1, 1) := by decide +kernel
theorem dL_law_169 : decode cL_law 169 = .ok (.iadd, 1) := by decide +kernel
theorem dL_law_170 : decode cL_law 170 = .ok (.iaload, 1) := by decide +kernel
theorem dL_law_171 : decode cL_law 171 = .ok (.i2l, 1) := by decide +kernel
theorem dL_law_172 : decode cL_law 172 = .ok (.bipush 32, 2) := by decide +kernel
theorem dL_law_174 : decode cL_law 174 = .ok (.lshl, 1) := by decide +kernel
theorem dL_law_175 : decode cL_law 175 = .ok (.aload_n 0, 1) := by decide +kernel
theorem dL_law_176 : decode cL_law 176 = .ok (.iload 4, 2) := by decide +kernel
theorem dL_law_178 : decode cL_law 178 = .ok (.iconst 2, 1) := by decide +kernel
theorem dL_law_179 : decode cL_law 179 = .ok (.iadd, 1) := by decide +kernel
theorem dL_law_180 : decode cL_law 180 = .ok (.iaload, 1) := by decide +kernel
theorem dL_law_181 : decode cL_law 181 = .ok (.i2l, 1) := by decide +kernel
theorem dL_law_182 : decode cL_law 182 = .ok (.ldc2_w 100, 3) := by decide +kernel
theorem dL_law_185 : decode cL_law 185 = .ok (.land, 1) := by decide +kernel
theorem dL_law_186 : decode cL_law 186 = .ok (.lor, 1) := by decide +kernel
theorem dL_law_187 : decode cL_law 187 = .ok (.aload_n 3, 1) := by decide +kernel
theorem dL_law_188 : decode cL_law 188 = .ok (.invokestatic 102, 3) := by decide +kernel
theorem dL_law_191 : decode cL_law 191 = .ok (.istore 5, 2) := by decide +kernel
theorem dL_law_193 : decode cL_law 193 = .ok (.aload_n 2, 1) := by decide +kernel
theorem dL_law_194 : decode cL_law 194 = .ok (.aload_n 0, 1) := by decide +kernel
theorem dL_law_195 : decode cL_law 195 = .ok (.iload 4, 2) := by decide +kernel
theorem dL_law_197 : decode cL_law 197 = .ok (.iconst 1, 1) := by decide +kernel
theorem dL_law_198 : decode cL_law 198 = .ok (.iadd, 1) := by decide +kernel
theorem dL_law_199 : decode cL_law 199 = .ok (.iaload, 1) := by decide +kernel
theorem dL_law_200 : decode cL_law 200 = .ok (.i2l, 1) := by decide +kernel
theorem dL_law_201 : decode cL_law 201 = .ok (.bipush 32, 2) := by decide +kernel
theorem dL_law_203 : decode cL_law 203 = .ok (.lshl, 1) := by decide +kernel
theorem dL_law_204 : decode cL_law 204 = .ok (.aload_n 0, 1) := by decide +kernel
theorem dL_law_205 : decode cL_law 205 = .ok (.iload 4, 2) := by decide +kernel
theorem dL_law_207 : decode cL_law 207 = .ok (.iconst 2, 1) := by decide +kernel
theorem dL_law_208 : decode cL_law 208 = .ok (.iadd, 1) := by decide +kernel
theorem dL_law_209 : decode cL_law 209 = .ok (.iaload, 1) := by decide +kernel
theorem dL_law_210 : decode cL_law 210 = .ok (.i2l, 1) := by decide +kernel
theorem dL_law_211 : decode cL_law 211 = .ok (.ldc2_w 100, 3) := by decide +kernel
theorem dL_law_214 : decode cL_law 214 = .ok (.land, 1) := by decide +kernel
theorem dL_law_215 : decode cL_law 215 = .ok (.lor, 1) := by decide +kernel
theorem dL_law_216 : decode cL_law 216 = .ok (.invokevirtual 107, 3) := by decide +kernel
theorem dL_law_219 : decode cL_law 219 = .ok (.istore 6, 2) := by decide +kernel
theorem dL_law_221 : decode cL_law 221 = .ok (.goto 1367, 3) := by decide +kernel
theorem dL_law_224 : decode cL_law 224 = .ok (.aload_n 1, 1) := by decide +kernel
theorem dL_law_225 : decode cL_law 225 = .ok (.aload_n 0, 1) := by decide +kernel
theorem dL_law_226 : decode cL_law 226 = .ok (.iload 4, 2) := by decide +kernel
theorem dL_law_228 : decode cL_law 228 = .ok (.iconst 1, 1) := by decide +kernel
theorem dL_law_229 : decode cL_law 229 = .ok (.iadd, 1) := by decide +kernel
theorem dL_law_230 : decode cL_law 230 = .ok (.iaload, 1) := by decide +kernel
theorem dL_law_231 : decode cL_law 231 = .ok (.aload_n 3, 1) := by decide +kernel
theorem dL_law_232 : decode cL_law 232 = .ok (.invokestatic 108, 3) := by decide +kernel
theorem dL_law_235 : decode cL_law 235 = .ok (.istore 5, 2) := by decide +kernel
theorem dL_law_237 : decode cL_law 237 = .ok (.aload_n 2, 1) := by decide +kernel
theorem dL_law_238 : decode cL_law 238 = .ok (.aload_n 0, 1) := by decide +kernel
theorem dL_law_239 : decode cL_law 239 = .ok (.iload 4, 2) := by decide +kernel
theorem dL_law_241 : decode cL_law 241 = .ok (.iconst 1, 1) := by decide +kernel
theorem dL_law_242 : decode cL_law 242 = .ok (.iadd, 1) := by decide +kernel
theorem dL_law_243 : decode cL_law 243 = .ok (.iaload, 1) := by decide +kernel
theorem dL_law_244 : decode cL_law 244 = .ok (.invokevirtual 111, 3) := by decide +kernel
theorem dL_law_247 : decode cL_law 247 = .ok (.istore 6, 2) := by decide +kernel
theorem dL_law_249 : decode cL_law 249 = .ok (.goto 1339, 3) := by decide +kernel
theorem dL_law_252 : decode cL_law 252 = .ok (.aload_n 1, 1) := by decide +kernel
theorem dL_law_253 : decode cL_law 253 = .ok (.aload_n 0, 1) := by decide +kernel
theorem dL_law_254 : decode cL_law 254 = .ok (.iload 4, 2) := by decide +kernel
theorem dL_law_256 : decode cL_law 256 = .ok (.iconst 1, 1) := by decide +kernel
theorem dL_law_257 : decode cL_law 257 = .ok (.iadd, 1) := by decide +kernel
theorem dL_law_258 : decode cL_law 258 = .ok (.iaload, 1) := by decide +kernel
theorem dL_law_259 : decode cL_law 259 = .ok (.ifCond .eq 7, 3) := by decide +kernel
theorem dL_law_262 : decode cL_law 262 = .ok (.iconst 1, 1) := by decide +kernel
theorem dL_law_263 : decode cL_law 263 = .ok (.goto 4, 3) := by decide +kernel
theorem dL_law_266 : decode cL_law 266 = .ok (.iconst 0, 1) := by decide +kernel
theorem dL_law_267 : decode cL_law 267 = .ok (.aload_n 3, 1) := by decide +kernel
theorem dL_law_268 : decode cL_law 268 = .ok (.invokestatic 112, 3) := by decide +kernel
theorem dL_law_271 : decode cL_law 271 = .ok (.istore 5, 2) := by decide +kernel
theorem dL_law_273 : decode cL_law 273 = .ok (.aload_n 2, 1) := by decide +kernel
theorem dL_law_274 : decode cL_law 274 = .ok (.aload_n 0, 1) := by decide +kernel
theorem dL_law_275 : decode cL_law 275 = .ok (.iload 4, 2) := by decide +kernel
theorem dL_law_277 : decode cL_law 277 = .ok (.iconst 1, 1) := by decide +kernel
theorem dL_law_278 : decode cL_law 278 = .ok (.iadd, 1) := by decide +kernel
theorem dL_law_279 : decode cL_law 279 = .ok (.iaload, 1) := by decide +kernel
theorem dL_law_280 : decode cL_law 280 = .ok (.ifCond .eq 7, 3) := by decide +kernel
theorem dL_law_283 : decode cL_law 283 = .ok (.iconst 1, 1) := by decide +kernel
theorem dL_law_284 : decode cL_law 284 = .ok (.goto 4, 3) := by decide +kernel
theorem dL_law_287 : decode cL_law 287 = .ok (.iconst 0, 1) := by decide +kernel
theorem dL_law_288 : decode cL_law 288 = .ok (.invokevirtual 115, 3) := by decide +kernel
theorem dL_law_291 : decode cL_law 291 = .ok (.istore 6, 2) := by decide +kernel
theorem dL_law_293 : decode cL_law 293 = .ok (.goto 1295, 3) := by decide +kernel
theorem dL_law_296 : decode cL_law 296 = .ok (.aload_n 1, 1) := by decide +kernel
theorem dL_law_297 : decode cL_law 297 = .ok (.aload_n 0, 1) := by decide +kernel
theorem dL_law_298 : decode cL_law 298 = .ok (.iload 4, 2) := by decide +kernel
theorem dL_law_300 : decode cL_law 300 = .ok (.iconst 1, 1) := by decide +kernel
theorem dL_law_301 : decode cL_law 301 = .ok (.iadd, 1) := by decide +kernel
theorem dL_law_302 : decode cL_law 302 = .ok (.iaload, 1) := by decide +kernel
theorem dL_law_303 : decode cL_law 303 = .ok (.i2l, 1) := by decide +kernel
theorem dL_law_304 : decode cL_law 304 = .ok (.bipush 32, 2) := by decide +kernel
theorem dL_law_306 : decode cL_law 306 = .ok (.lshl, 1) := by decide +kernel
theorem dL_law_307 : decode cL_law 307 = .ok (.aload_n 0, 1) := by decide +kernel
theorem dL_law_308 : decode cL_law 308 = .ok (.iload 4, 2) := by decide +kernel
theorem dL_law_310 : decode cL_law 310 = .ok (.iconst 2, 1) := by decide +kernel
theorem dL_law_311 : decode cL_law 311 = .ok (.iadd, 1) := by decide +kernel
theorem dL_law_312 : decode cL_law 312 = .ok (.iaload, 1) := by decide +kernel
theorem dL_law_313 : decode cL_law 313 = .ok (.i2l, 1) := by decide +kernel
theorem dL_law_314 : decode cL_law 314 = .ok (.ldc2_w 100, 3) := by decide +kernel
theorem dL_law_317 : decode cL_law 317 = .ok (.land, 1) := by decide +kernel
theorem dL_law_318 : decode cL_law 318 = .ok (.lor, 1) := by decide +kernel
theorem dL_law_319 : decode cL_law 319 = .ok (.aload_n 0, 1) := by decide +kernel
theorem dL_law_320 : decode cL_law 320 = .ok (.iload 4, 2) := by decide +kernel
theorem dL_law_322 : decode cL_law 322 = .ok (.iconst 3, 1) := by decide +kernel
theorem dL_law_323 : decode cL_law 323 = .ok (.iadd, 1) := by decide +kernel
theorem dL_law_324 : decode cL_law 324 = .ok (.iaload, 1) := by decide +kernel
theorem dL_law_325 : decode cL_law 325 = .ok (.i2l, 1) := by decide +kernel
theorem dL_law_326 : decode cL_law 326 = .ok (.bipush 32, 2) := by decide +kernel
theorem dL_law_328 : decode cL_law 328 = .ok (.lshl, 1) := by decide +kernel
theorem dL_law_329 : decode cL_law 329 = .ok (.aload_n 0, 1) := by decide +kernel
theorem dL_law_330 : decode cL_law 330 = .ok (.iload 4, 2) := by decide +kernel
theorem dL_law_332 : decode cL_law 332 = .ok (.iconst 4, 1) := by decide +kernel
theorem dL_law_333 : decode cL_law 333 = .ok (.iadd, 1) := by decide +kernel
theorem dL_law_334 : decode cL_law 334 = .ok (.iaload, 1) := by decide +kernel
theorem dL_law_335 : decode cL_law 335 = .ok (.i2l, 1) := by decide +kernel
theorem dL_law_336 : decode cL_law 336 = .ok (.ldc2_w 100, 3) := by decide +kernel
theorem dL_law_339 : decode cL_law 339 = .ok (.land, 1) := by decide +kernel
theorem dL_law_340 : decode cL_law 340 = .ok (.lor, 1) := by decide +kernel
theorem dL_law_341 : decode cL_law 341 = .ok (.aload_n 3, 1) := by decide +kernel
theorem dL_law_342 : decode cL_law 342 = .ok (.invokestatic 116, 3) := by decide +kernel
theorem dL_law_345 : decode cL_law 345 = .ok (.istore 5, 2) := by decide +kernel
theorem dL_law_347 : decode cL_law 347 = .ok (.aload_n 2, 1) := by decide +kernel
theorem dL_law_348 : decode cL_law 348 = .ok (.aload_n 0, 1) := by decide +kernel
theorem dL_law_349 : decode cL_law 349 = .ok (.iload 4, 2) := by decide +kernel
theorem dL_law_351 : decode cL_law 351 = .ok (.iconst 1, 1) := by decide +kernel
theorem dL_law_352 : decode cL_law 352 = .ok (.iadd, 1) := by decide +kernel
theorem dL_law_353 : decode cL_law 353 = .ok (.iaload, 1) := by decide +kernel
theorem dL_law_354 : decode cL_law 354 = .ok (.i2l, 1) := by decide +kernel
theorem dL_law_355 : decode cL_law 355 = .ok (.bipush 32, 2) := by decide +kernel
theorem dL_law_357 : decode cL_law 357 = .ok (.lshl, 1) := by decide +kernel
theorem dL_law_358 : decode cL_law 358 = .ok (.aload_n 0, 1) := by decide +kernel
theorem dL_law_359 : decode cL_law 359 = .ok (.iload 4, 2) := by decide +kernel
theorem dL_law_361 : decode cL_law 361 = .ok (.iconst 2, 1) := by decide +kernel
theorem dL_law_362 : decode cL_law 362 = .ok (.iadd, 1) := by decide +kernel
theorem dL_law_363 : decode cL_law 363 = .ok (.iaload, 1) := by decide +kernel
theorem dL_law_364 : decode cL_law 364 = .ok (.i2l, 1) := by decide +kernel
theorem dL_law_365 : decode cL_law 365 = .ok (.ldc2_w 100, 3) := by decide +kernel
theorem dL_law_368 : decode cL_law 368 = .ok (.land, 1) := by decide +kernel
theorem dL_law_369 : decode cL_law 369 = .ok (.lor, 1) := by decide +kernel
theorem dL_law_370 : decode cL_law 370 = .ok (.aload_n 0, 1) := by decide +kernel
theorem dL_law_371 : decode cL_law 371 = .ok (.iload 4, 2) := by decide +kernel
theorem dL_law_373 : decode cL_law 373 = .ok (.iconst 3, 1) := by decide +kernel
theorem dL_law_374 : decode cL_law 374 = .ok (.iadd, 1) := by decide +kernel
theorem dL_law_375 : decode cL_law 375 = .ok (.iaload, 1) := by decide +kernel
theorem dL_law_376 : decode cL_law 376 = .ok (.i2l, 1) := by decide +kernel
theorem dL_law_377 : decode cL_law 377 = .ok (.bipush 32, 2) := by decide +kernel
theorem dL_law_379 : decode cL_law 379 = .ok (.lshl, 1) := by decide +kernel
theorem dL_law_380 : decode cL_law 380 = .ok (.aload_n 0, 1) := by decide +kernel
theorem dL_law_381 : decode cL_law 381 = .ok (.iload 4, 2) := by decide +kernel
theorem dL_law_383 : decode cL_law 383 = .ok (.iconst 4, 1) := by decide +kernel
theorem dL_law_384 : decode cL_law 384 = .ok (.iadd, 1) := by decide +kernel
theorem dL_law_385 : decode cL_law 385 = .ok (.iaload, 1) := by decide +kernel
theorem dL_law_386 : decode cL_law 386 = .ok (.i2l, 1) := by decide +kernel
theorem dL_law_387 : decode cL_law 387 = .ok (.ldc2_w 100, 3) := by decide +kernel
theorem dL_law_390 : decode cL_law 390 = .ok (.land, 1) := by decide +kernel
theorem dL_law_391 : decode cL_law 391 = .ok (.lor, 1) := by decide +kernel
theorem dL_law_392 : decode cL_law 392 = .ok (.invokevirtual 119, 3) := by decide +kernel
theorem dL_law_395 : decode cL_law 395 = .ok (.istore 6, 2) := by decide +kernel
theorem dL_law_397 : decode cL_law 397 = .ok (.goto 1191, 3) := by decide +kernel
set_option maxHeartbeats 4000000 in
set_option maxRecDepth 100000 in
theorem law_case_0 {p : Program} {l : Launch} {e : Env} {s : State} {m : MethodId} {below : List Frame} {meth : Method} {c : Code} {b L : Nat} {xs : Nat → Int32} {dC : Nat → ClassId} {dI : Nat → Nat → Nat} {h0 g0 ho : Nat} {a : Nat → Nat} {ca : Nat → ClassId} {co : ClassId} (hl0 : l.stackTraces = false) (hF : LFix p s m meth c b L xs dC dI ca co) {i cl sl : Nat} (hi : i + 6 ≤ L) (hC : cl + 10 ≤ room_1.cells) (hSl : sl + 2100 ≤ room_1.slots) (go : LGo p l e s m below meth c b dC dI h0 g0 ho a ca co i 1588 (cl + 10) (sl + 2100)) : LGo p l e s m below meth c b dC dI h0 g0 ho a ca co i 164 cl sl := by
  obtain ⟨C0, hG, hN, hZ, hKm, hO, hL⟩ := hF
  obtain ⟨hx, hb, hr, hml, hown, hts, hX, hbl, hlocks, hgv⟩ := C0
  have hA : ∀ q : Nat, s.heap.size ≤ q → lA s q := fun _ h => h
  have hbA : ¬ lA s b := Nat.not_le.mpr hbl
  intro sh rk ci ai al f v w fi fl nn mm uu H locs ls hXI hRI hK hP hD hS hl
  obtain ⟨x1, ex1⟩ : ∃ x, xs (nI i + nI 1).toNatClampNeg = x := ⟨_, rfl⟩
  obtain ⟨x2, ex2⟩ : ∃ x, xs (nI i + nI 2).toNatClampNeg = x := ⟨_, rfl⟩
  refine lv_aload_n hx hb dL_law_164 rfl (lv_at hl 3 rfl) ?_
  refine lv_aload_n hx hb dL_law_165 rfl (lv_at hl 4 rfl) ?_
  refine lv_iload hx hb dL_law_166 (lv_at hl 0 rfl) ?_
  refine lv_iconst (v := 1) hx hb dL_law_168 (by decide) ?_
  refine lv_iadd hx hb dL_law_169 ?_
  refine lw_sld (x := x1) hx hb hX hbl hbA hS (lw_in (k := 1) hi hL (by decide)) dL_law_170 ex1 ?_
  refine lv_i2l hx hb dL_law_171 rfl ?_
  refine lv_bipush (v := 32) hx hb dL_law_172 (by decide) ?_
  refine lv_lshl hx hb dL_law_174 rfl ?_
  refine lv_aload_n hx hb dL_law_175 rfl (lv_at hl 4 rfl) ?_
  refine lv_iload hx hb dL_law_176 (lv_at hl 0 rfl) ?_
  refine lv_iconst (v := 2) hx hb dL_law_178 (by decide) ?_
  refine lv_iadd hx hb dL_law_179 ?_
  refine lw_sld (x := x2) hx hb hX hbl hbA hS (lw_in (k := 2) hi hL (by decide)) dL_law_180 ex2 ?_
  refine lv_i2l hx hb dL_law_181 rfl ?_
  refine lv_ldc2 (v := (4294967295)) hx hb hown (hts _ lw_w0) dL_law_182 ?_
  refine lv_land hx hb dL_law_185 ?_
  refine lv_lor hx hb dL_law_186 ?_
  refine lv_topl (fun z1 _ => ?_)
  refine lv_aload_n hx hb dL_law_187 rfl (lv_at hl 1 rfl) ?_
  obtain ⟨c9, r9, n9, m9, u9, jw, jr⟩ := j_put (w := w) (fl := fl) (al := al) (p0 := z1) hXI hRI
  refine l_end (mc := 1) (ms := 6) (cells := cl) (slots := sl) (vx_runSW (rm := rmL_put) (As := [.ref h0, .long z1, .ref ho]) (rest := []) ⟨hx, hb, hml, hown, hts⟩ (p_L_put l hl0 dC dI _ _ _ _ h0 z1 co ho f _ (jw f) H.size) (vx_cwSW 3 hts gl_L_put rfl rfl rfl hd_L_put ⟨Nat.le_of_ble_eq_true rfl, Nat.le_of_ble_eq_true rfl⟩) (l_preS hK hO (fr_P2 hP) (fr_D2 hD) hA hS hG hN hZ) rfl rfl hl.1 rfl (lv_room (Nat.le_of_ble_eq_true rfl)) dL_law_188 ⟨Nat.le_trans (Nat.add_le_add_left (by decide) _) hC, Nat.le_trans (Nat.add_le_add_left (by decide) _) hSl⟩) hP hD hS hA (fun k9 sh1 ci1 ai1 al1 f1 H locs h hK hP hD hS => ?_)
  obtain ⟨hk9, ⟨rk1, hXI⟩, hf9⟩ := h
  refine lv_istore (lv' := [(5, .int k9), (4, .int (nI i)), (3, .ref ho), (2, .ref g0), (1, .ref h0), (0, .ref b)]) hx hb dL_law_191 hl (by decide) rfl (fun ls hl => ?_)
  refine lv_aload_n hx hb dL_law_193 rfl (lv_at hl 3 rfl) ?_
  refine lv_aload_n hx hb dL_law_194 rfl (lv_at hl 5 rfl) ?_
  refine lv_iload hx hb dL_law_195 (lv_at hl 1 rfl) ?_
  refine lv_iconst (v := 1) hx hb dL_law_197 (by decide) ?_
  refine lv_iadd hx hb dL_law_198 ?_
  refine lw_sld (x := x1) hx hb hX hbl hbA hS (lw_in (k := 1) hi hL (by decide)) dL_law_199 ex1 ?_
  refine lv_i2l hx hb dL_law_200 rfl ?_
  refine lv_bipush (v := 32) hx hb dL_law_201 (by decide) ?_
  refine lv_lshl hx hb dL_law_203 rfl ?_
  refine lv_aload_n hx hb dL_law_204 rfl (lv_at hl 5 rfl) ?_
  refine lv_iload hx hb dL_law_205 (lv_at hl 1 rfl) ?_
  refine lv_iconst (v := 2) hx hb dL_law_207 (by decide) ?_
  refine lv_iadd hx hb dL_law_208 ?_
  refine lw_sld (x := x2) hx hb hX hbl hbA hS (lw_in (k := 2) hi hL (by decide)) dL_law_209 ex2 ?_
  refine lv_i2l hx hb dL_law_210 rfl ?_
  refine lv_ldc2 (v := (4294967295)) hx hb hown (hts _ lw_w0) dL_law_211 ?_
  refine lv_land hx hb dL_law_214 ?_
  refine lv_lor hx hb dL_law_215 ?_
  refine lv_topl (fun z2 _ => ?_)
  refine lm_calli (rm := ({ frames := 8, cells := 0, slots := 0, locals := 120 })) (As := [.long z2]) (rest := []) (cells := (cl + 1)) (slots := (sl + 6)) (fun sz => p_X12_put l dC dI a ca g0 _ _ _ _ z2 _ (jr z2) sz) ⟨hx, hb, hml, hown, hts⟩ (cwV 1 hts gl_X12_put rfl rfl rfl hd_X12_put ⟨Nat.le_of_ble_eq_true rfl, Nat.le_of_ble_eq_true rfl⟩) rfl hl.1 rfl hKm hP hD hS hA (Nat.le_of_ble_eq_true rfl) ⟨Nat.le_trans (Nat.add_le_add_left (by decide) _) hC, Nat.le_trans (Nat.add_le_add_left (by decide) _) hSl⟩ dL_law_216 (fun b1 v1 w1 fi1 fl1 H locs h hP hD hS => ?_)
  obtain ⟨hRI, h19, hb9⟩ := h
  refine lv_istore (lv' := [(6, .int b1), (5, .int k9), (4, .int (nI i)), (3, .ref ho), (2, .ref g0), (1, .ref h0), (0, .ref b)]) hx hb dL_law_219 hl (by decide) rfl (fun ls hl => ?_)
  refine lv_goto (tgt := 1588) hx hb dL_law_221 (by decide) ?_
  exact W.widen (k := cl + 10) (n := sl + 2100) (Nat.add_le_add_left (by decide) _) (Nat.add_le_add_left (by decide) _) (go _ _ _ _ _ _ _ _ _ _ _ _ _ H _ ls hXI hRI hK hP hD hS (lv_sub hl [2, 3, 4, 5, 6] rfl))
set_option maxHeartbeats 4000000 in
set_option maxRecDepth 100000 in
theorem law_case_1 {p : Program} {l : Launch} {e : Env} {s : State} {m : MethodId} {below : List Frame} {meth : Method} {c : Code} {b L : Nat} {xs : Nat → Int32} {dC : Nat → ClassId} {dI : Nat → Nat → Nat} {h0 g0 ho : Nat} {a : Nat → Nat} {ca : Nat → ClassId} {co : ClassId} (hl0 : l.stackTraces = false) (hF : LFix p s m meth c b L xs dC dI ca co) {i cl sl : Nat} (hi : i + 6 ≤ L) (hC : cl + 10 ≤ room_1.cells) (hSl : sl + 2100 ≤ room_1.slots) (go : LGo p l e s m below meth c b dC dI h0 g0 ho a ca co i 1588 (cl + 10) (sl + 2100)) : LGo p l e s m below meth c b dC dI h0 g0 ho a ca co i 224 cl sl := by
  obtain ⟨C0, hG, hN, hZ, hKm, hO, hL⟩ := hF
  obtain ⟨hx, hb, hr, hml, hown, hts, hX, hbl, hlocks, hgv⟩ := C0
  have hA : ∀ q : Nat, s.heap.size ≤ q → lA s q := fun _ h => h
  have hbA : ¬ lA s b := Nat.not_le.mpr hbl
  intro sh rk ci ai al f v w fi fl nn mm uu H locs ls hXI hRI hK hP hD hS hl
  obtain ⟨x1, ex1⟩ : ∃ x, xs (nI i + nI 1).toNatClampNeg = x := ⟨_, rfl⟩
  refine lv_aload_n hx hb dL_law_224 rfl (lv_at hl 3 rfl) ?_
  refine lv_aload_n hx hb dL_law_225 rfl (lv_at hl 4 rfl) ?_
  refine lv_iload hx hb dL_law_226 (lv_at hl 0 rfl) ?_
  refine lv_iconst (v := 1) hx hb dL_law_228 (by decide) ?_
  refine lv_iadd hx hb dL_law_229 ?_
  refine lw_sld (x := x1) hx hb hX hbl hbA hS (lw_in (k := 1) hi hL (by decide)) dL_law_230 ex1 ?_
  refine lv_aload_n hx hb dL_law_231 rfl (lv_at hl 1 rfl) ?_
  obtain ⟨c9, r9, n9, m9, u9, jw, jr⟩ := j_hole (w := w) (fl := fl) (al := al) (p0 := x1) hXI hRI
  refine l_end (mc := 1) (ms := 6) (cells := cl) (slots := sl) (vx_runSW (rm := rmL_hole) (As := [.ref h0, .int x1, .ref ho]) (rest := []) ⟨hx, hb, hml, hown, hts⟩ (p_L_hole l hl0 dC dI _ _ _ _ h0 x1 co ho f _ (jw f) H.size) (vx_cwSW 3 hts gl_L_hole rfl rfl rfl hd_L_hole ⟨Nat.le_of_ble_eq_true rfl, Nat.le_of_ble_eq_true rfl⟩) (l_preS hK hO (fr_P2 hP) (fr_D2 hD) hA hS hG hN hZ) rfl rfl hl.1 rfl (lv_room (Nat.le_of_ble_eq_true rfl)) dL_law_232 ⟨Nat.le_trans (Nat.add_le_add_left (by decide) _) hC, Nat.le_trans (Nat.add_le_add_left (by decide) _) hSl⟩) hP hD hS hA (fun k9 sh1 ci1 ai1 al1 f1 H locs h hK hP hD hS => ?_)
  obtain ⟨hk9, ⟨rk1, hXI⟩, hf9⟩ := h
  refine lv_istore (lv' := [(5, .int k9), (4, .int (nI i)), (3, .ref ho), (2, .ref g0), (1, .ref h0), (0, .ref b)]) hx hb dL_law_235 hl (by decide) rfl (fun ls hl => ?_)
  refine lv_aload_n hx hb dL_law_237 rfl (lv_at hl 3 rfl) ?_
  refine lv_aload_n hx hb dL_law_238 rfl (lv_at hl 5 rfl) ?_
  refine lv_iload hx hb dL_law_239 (lv_at hl 1 rfl) ?_
  refine lv_iconst (v := 1) hx hb dL_law_241 (by decide) ?_
  refine lv_iadd hx hb dL_law_242 ?_
  refine lw_sld (x := x1) hx hb hX hbl hbA hS (lw_in (k := 1) hi hL (by decide)) dL_law_243 ex1 ?_
  refine lm_calli (rm := ({ frames := 8, cells := 0, slots := 0, locals := 120 })) (As := [.int x1]) (rest := []) (cells := (cl + 1)) (slots := (sl + 6)) (fun sz => p_X12_hole l dC dI a ca g0 _ _ _ _ x1 _ jr sz) ⟨hx, hb, hml, hown, hts⟩ (cwV 1 hts gl_X12_hole rfl rfl rfl hd_X12_hole ⟨Nat.le_of_ble_eq_true rfl, Nat.le_of_ble_eq_true rfl⟩) rfl hl.1 rfl hKm hP hD hS hA (Nat.le_of_ble_eq_true rfl) ⟨Nat.le_trans (Nat.add_le_add_left (by decide) _) hC, Nat.le_trans (Nat.add_le_add_left (by decide) _) hSl⟩ dL_law_244 (fun b1 v1 w1 fi1 fl1 H locs h hP hD hS => ?_)
  obtain ⟨hRI, h19, hb9⟩ := h
  refine lv_istore (lv' := [(6, .int b1), (5, .int k9), (4, .int (nI i)), (3, .ref ho), (2, .ref g0), (1, .ref h0), (0, .ref b)]) hx hb dL_law_247 hl (by decide) rfl (fun ls hl => ?_)
  refine lv_goto (tgt := 1588) hx hb dL_law_249 (by decide) ?_
  exact W.widen (k := cl + 10) (n := sl + 2100) (Nat.add_le_add_left (by decide) _) (Nat.add_le_add_left (by decide) _) (go _ _ _ _ _ _ _ _ _ _ _ _ _ H _ ls hXI hRI hK hP hD hS (lv_sub hl [2, 3, 4, 5, 6] rfl))
set_option maxHeartbeats 4000000 in
set_option maxRecDepth 100000 in
theorem law_case_2 {p : Program} {l : Launch} {e : Env} {s : State} {m : MethodId} {below : List Frame} {meth : Method} {c : Code} {b L : Nat} {xs : Nat → Int32} {dC : Nat → ClassId} {dI : Nat → Nat → Nat} {h0 g0 ho : Nat} {a : Nat → Nat} {ca : Nat → ClassId} {co : ClassId} (hl0 : l.stackTraces = false) (hF : LFix p s m meth c b L xs dC dI ca co) {i cl sl : Nat} (hi : i + 6 ≤ L) (hC : cl + 10 ≤ room_1.cells) (hSl : sl + 2100 ≤ room_1.slots) (go : LGo p l e s m below meth c b dC dI h0 g0 ho a ca co i 1588 (cl + 10) (sl + 2100)) : LGo p l e s m below meth c b dC dI h0 g0 ho a ca co i 252 cl sl := by
  obtain ⟨C0, hG, hN, hZ, hKm, hO, hL⟩ := hF
  obtain ⟨hx, hb, hr, hml, hown, hts, hX, hbl, hlocks, hgv⟩ := C0
  have hA : ∀ q : Nat, s.heap.size ≤ q → lA s q := fun _ h => h
  have hbA : ¬ lA s b := Nat.not_le.mpr hbl
  intro sh rk ci ai al f v w fi fl nn mm uu H locs ls hXI hRI hK hP hD hS hl
  obtain ⟨x1, ex1⟩ : ∃ x, xs (nI i + nI 1).toNatClampNeg = x := ⟨_, rfl⟩
  refine lv_aload_n hx hb dL_law_252 rfl (lv_at hl 3 rfl) ?_
  refine lv_aload_n hx hb dL_law_253 rfl (lv_at hl 4 rfl) ?_
  refine lv_iload hx hb dL_law_254 (lv_at hl 0 rfl) ?_
  refine lv_iconst (v := 1) hx hb dL_law_256 (by decide) ?_
  refine lv_iadd hx hb dL_law_257 ?_
  refine lw_sld (x := x1) hx hb hX hbl hbA hS (lw_in (k := 1) hi hL (by decide)) dL_law_258 ex1 ?_
  refine lv_if_eq (tgt := 266) hx hb dL_law_259 (by decide) (fun c_259 => ?_) (fun c_259 => ?_)
  · refine lv_iconst (v := 0) hx hb dL_law_266 (by decide) ?_
    refine lv_aload_n hx hb dL_law_267 rfl (lv_at hl 1 rfl) ?_
    obtain ⟨c9, r9, n9, m9, u9, jw, jr⟩ := j_given (w := w) (fl := fl) (al := al) (p0 := 0) hXI hRI
    refine l_end (mc := 8) (ms := 2000) (cells := cl) (slots := sl) (vx_runSW (rm := rmL_given) (As := [.ref h0, .int 0, .ref ho]) (rest := []) ⟨hx, hb, hml, hown, hts⟩ (p_L_given l hl0 dC dI _ _ _ _ h0 0 co ho f _ (jw f) H.size) (vx_cwSW 3 hts gl_L_given rfl rfl rfl hd_L_given ⟨Nat.le_of_ble_eq_true rfl, Nat.le_of_ble_eq_true rfl⟩) (l_preS hK hO (fr_P2 hP) (fr_D2 hD) hA hS hG hN hZ) rfl rfl hl.1 rfl (lv_room (Nat.le_of_ble_eq_true rfl)) dL_law_268 ⟨Nat.le_trans (Nat.add_le_add_left (by decide) _) hC, Nat.le_trans (Nat.add_le_add_left (by decide) _) hSl⟩) hP hD hS hA (fun k9 sh1 ci1 ai1 al1 f1 H locs h hK hP hD hS => ?_)
    obtain ⟨hk9, ⟨rk1, hXI⟩, hf9⟩ := h
    refine lv_istore (lv' := [(5, .int k9), (4, .int (nI i)), (3, .ref ho), (2, .ref g0), (1, .ref h0), (0, .ref b)]) hx hb dL_law_271 hl (by decide) rfl (fun ls hl => ?_)
    refine lv_aload_n hx hb dL_law_273 rfl (lv_at hl 3 rfl) ?_
    refine lv_aload_n hx hb dL_law_274 rfl (lv_at hl 5 rfl) ?_
    refine lv_iload hx hb dL_law_275 (lv_at hl 1 rfl) ?_
    refine lv_iconst (v := 1) hx hb dL_law_277 (by decide) ?_
    refine lv_iadd hx hb dL_law_278 ?_
    refine lw_sld (x := x1) hx hb hX hbl hbA hS (lw_in (k := 1) hi hL (by decide)) dL_law_279 ex1 ?_
    refine lv_if_eq (tgt := 287) hx hb dL_law_280 (by decide) (fun c_280 => ?_) (fun c_280 => ?_)
    · refine lv_iconst (v := 0) hx hb dL_law_287 (by decide) ?_
      refine lm_calli (rm := ({ frames := 8, cells := 0, slots := 0, locals := 120 })) (As := [.int 0]) (rest := []) (cells := (cl + 8)) (slots := (sl + 2000)) (fun sz => p_X12_given l dC dI a ca g0 _ _ _ _ 0 _ jr sz) ⟨hx, hb, hml, hown, hts⟩ (cwV 1 hts gl_X12_given rfl rfl rfl hd_X12_given ⟨Nat.le_of_ble_eq_true rfl, Nat.le_of_ble_eq_true rfl⟩) rfl hl.1 rfl hKm hP hD hS hA (Nat.le_of_ble_eq_true rfl) ⟨Nat.le_trans (Nat.add_le_add_left (by decide) _) hC, Nat.le_trans (Nat.add_le_add_left (by decide) _) hSl⟩ dL_law_288 (fun b1 v1 w1 fi1 fl1 H locs h hP hD hS => ?_)
      obtain ⟨hRI, h19, hb9⟩ := h
      refine lv_istore (lv' := [(6, .int b1), (5, .int k9), (4, .int (nI i)), (3, .ref ho), (2, .ref g0), (1, .ref h0), (0, .ref b)]) hx hb dL_law_291 hl (by decide) rfl (fun ls hl => ?_)
      refine lv_goto (tgt := 1588) hx hb dL_law_293 (by decide) ?_
      exact W.widen (k := cl + 10) (n := sl + 2100) (Nat.add_le_add_left (by decide) _) (Nat.add_le_add_left (by decide) _) (go _ _ _ _ _ _ _ _ _ _ _ _ _ H _ ls hXI hRI hK hP hD hS (lv_sub hl [2, 3, 4, 5, 6] rfl))
    · exact (c_280 c_259).elim
  · refine lv_iconst (v := 1) hx hb dL_law_262 (by decide) ?_
    refine lv_goto (tgt := 267) hx hb dL_law_263 (by decide) ?_
    refine lv_aload_n hx hb dL_law_267 rfl (lv_at hl 1 rfl) ?_
    obtain ⟨c9, r9, n9, m9, u9, jw, jr⟩ := j_given (w := w) (fl := fl) (al := al) (p0 := 1) hXI hRI
    refine l_end (mc := 8) (ms := 2000) (cells := cl) (slots := sl) (vx_runSW (rm := rmL_given) (As := [.ref h0, .int 1, .ref ho]) (rest := []) ⟨hx, hb, hml, hown, hts⟩ (p_L_given l hl0 dC dI _ _ _ _ h0 1 co ho f _ (jw f) H.size) (vx_cwSW 3 hts gl_L_given rfl rfl rfl hd_L_given ⟨Nat.le_of_ble_eq_true rfl, Nat.le_of_ble_eq_true rfl⟩) (l_preS hK hO (fr_P2 hP) (fr_D2 hD) hA hS hG hN hZ) rfl rfl hl.1 rfl (lv_room (Nat.le_of_ble_eq_true rfl)) dL_law_268 ⟨Nat.le_trans (Nat.add_le_add_left (by decide) _) hC, Nat.le_trans (Nat.add_le_add_left (by decide) _) hSl⟩) hP hD hS hA (fun k9 sh1 ci1 ai1 al1 f1 H locs h hK hP hD hS => ?_)
    obtain ⟨hk9, ⟨rk1, hXI⟩, hf9⟩ := h
    refine lv_istore (lv' := [(5, .int k9), (4, .int (nI i)), (3, .ref ho), (2, .ref g0), (1, .ref h0), (0, .ref b)]) hx hb dL_law_271 hl (by decide) rfl (fun ls hl => ?_)
    refine lv_aload_n hx hb dL_law_273 rfl (lv_at hl 3 rfl) ?_
    refine lv_aload_n hx hb dL_law_274 rfl (lv_at hl 5 rfl) ?_
    refine lv_iload hx hb dL_law_275 (lv_at hl 1 rfl) ?_
    refine lv_iconst (v := 1) hx hb dL_law_277 (by decide) ?_
    refine lv_iadd hx hb dL_law_278 ?_
    refine lw_sld (x := x1) hx hb hX hbl hbA hS (lw_in (k := 1) hi hL (by decide)) dL_law_279 ex1 ?_
    refine lv_if_eq (tgt := 287) hx hb dL_law_280 (by decide) (fun c_280 => ?_) (fun c_280 => ?_)
    · exact (c_259 c_280).elim
    · refine lv_iconst (v := 1) hx hb dL_law_283 (by decide) ?_
      refine lv_goto (tgt := 288) hx hb dL_law_284 (by decide) ?_
      refine lm_calli (rm := ({ frames := 8, cells := 0, slots := 0, locals := 120 })) (As := [.int 1]) (rest := []) (cells := (cl + 8)) (slots := (sl + 2000)) (fun sz => p_X12_given l dC dI a ca g0 _ _ _ _ 1 _ jr sz) ⟨hx, hb, hml, hown, hts⟩ (cwV 1 hts gl_X12_given rfl rfl rfl hd_X12_given ⟨Nat.le_of_ble_eq_true rfl, Nat.le_of_ble_eq_true rfl⟩) rfl hl.1 rfl hKm hP hD hS hA (Nat.le_of_ble_eq_true rfl) ⟨Nat.le_trans (Nat.add_le_add_left (by decide) _) hC, Nat.le_trans (Nat.add_le_add_left (by decide) _) hSl⟩ dL_law_288 (fun b1 v1 w1 fi1 fl1 H locs h hP hD hS => ?_)
      obtain ⟨hRI, h19, hb9⟩ := h
      refine lv_istore (lv' := [(6, .int b1), (5, .int k9), (4, .int (nI i)), (3, .ref ho), (2, .ref g0), (1, .ref h0), (0, .ref b)]) hx hb dL_law_291 hl (by decide) rfl (fun ls hl => ?_)
      refine lv_goto (tgt := 1588) hx hb dL_law_293 (by decide) ?_
      exact W.widen (k := cl + 10) (n := sl + 2100) (Nat.add_le_add_left (by decide) _) (Nat.add_le_add_left (by decide) _) (go _ _ _ _ _ _ _ _ _ _ _ _ _ H _ ls hXI hRI hK hP hD hS (lv_sub hl [2, 3, 4, 5, 6] rfl))
set_option maxHeartbeats 4000000 in
set_option maxRecDepth 100000 in
theorem law_case_3 {p : Program} {l : Launch} {e : Env} {s : State} {m : MethodId} {below : List Frame} {meth : Method} {c : Code} {b L : Nat} {xs : Nat → Int32} {dC : Nat → ClassId} {dI : Nat → Nat → Nat} {h0 g0 ho : Nat} {a : Nat → Nat} {ca : Nat → ClassId} {co : ClassId} (hl0 : l.stackTraces = false) (hF : LFix p s m meth c b L xs dC dI ca co) {i cl sl : Nat} (hi : i + 6 ≤ L) (hC : cl + 10 ≤ room_1.cells) (hSl : sl + 2100 ≤ room_1.slots) (go : LGo p l e s m below meth c b dC dI h0 g0 ho a ca co i 1588 (cl + 10) (sl + 2100)) : LGo p l e s m below meth c b dC dI h0 g0 ho a ca co i 296 cl sl := by
  obtain ⟨C0, hG, hN, hZ, hKm, hO, hL⟩ := hF
  obtain ⟨hx, hb, hr, hml, hown, hts, hX, hbl, hlocks, hgv⟩ := C0
  have hA : ∀ q : Nat, s.heap.size ≤ q → lA s q := fun _ h => h
  have hbA : ¬ lA s b := Nat.not_le.mpr hbl
  intro sh rk ci ai al f v w fi fl nn mm uu H locs ls hXI hRI hK hP hD hS hl
  obtain ⟨x1, ex1⟩ : ∃ x, xs (nI i + nI 1).toNatClampNeg = x := ⟨_, rfl⟩
  obtain ⟨x2, ex2⟩ : ∃ x, xs (nI i + nI 2).toNatClampNeg = x := ⟨_, rfl⟩
  obtain ⟨x3, ex3⟩ : ∃ x, xs (nI i + nI 3).toNatClampNeg = x := ⟨_, rfl⟩
  obtain ⟨x4, ex4⟩ : ∃ x, xs (nI i + nI 4).toNatClampNeg = x := ⟨_, rfl⟩
  refine lv_aload_n hx hb dL_law_296 rfl (lv_at hl 3 rfl) ?_
  refine lv_aload_n hx hb dL_law_297 rfl (lv_at hl 4 rfl) ?_
  refine lv_iload hx hb dL_law_298 (lv_at hl 0 rfl) ?_
  refine lv_iconst (v := 1) hx hb dL_law_300 (by decide) ?_
  refine lv_iadd hx hb dL_law_301 ?_
  refine lw_sld (x := x1) hx hb hX hbl hbA hS (lw_in (k := 1) hi hL (by decide)) dL_law_302 ex1 ?_
  refine lv_i2l hx hb dL_law_303 rfl ?_
  refine lv_bipush (v := 32) hx hb dL_law_304 (by decide) ?_
  refine lv_lshl hx hb dL_law_306 rfl ?_
  refine lv_aload_n hx hb dL_law_307 rfl (lv_at hl 4 rfl) ?_
  refine lv_iload hx hb dL_law_308 (lv_at hl 0 rfl) ?_
  refine lv_iconst (v := 2) hx hb dL_law_310 (by decide) ?_
  refine lv_iadd hx hb dL_law_311 ?_
  refine lw_sld (x := x2) hx hb hX hbl hbA hS (lw_in (k := 2) hi hL (by decide)) dL_law_312 ex2 ?_
  refine lv_i2l hx hb dL_law_313 rfl ?_
  refine lv_ldc2 (v := (4294967295)) hx hb hown (hts _ lw_w0) dL_law_314 ?_
  refine lv_land hx hb dL_law_317 ?_
  refine lv_lor hx hb dL_law_318 ?_
  refine lv_topl (fun z1 _ => ?_)
  refine lv_aload_n hx hb dL_law_319 rfl (lv_at hl 4 rfl) ?_
  refine lv_iload hx hb dL_law_320 (lv_at hl 0 rfl) ?_
  refine lv_iconst (v := 3) hx hb dL_law_322 (by decide) ?_
  refine lv_iadd hx hb dL_law_323 ?_
  refine lw_sld (x := x3) hx hb hX hbl hbA hS (lw_in (k := 3) hi hL (by decide)) dL_law_324 ex3 ?_
  refine lv_i2l hx hb dL_law_325 rfl ?_
  refine lv_bipush (v := 32) hx hb dL_law_326 (by decide) ?_
  refine lv_lshl hx hb dL_law_328 rfl ?_
  refine lv_aload_n hx hb dL_law_329 rfl (lv_at hl 4 rfl) ?_
  refine lv_iload hx hb dL_law_330 (lv_at hl 0 rfl) ?_
  refine lv_iconst (v := 4) hx hb dL_law_332 (by decide) ?_
  refine lv_iadd hx hb dL_law_333 ?_
  refine lw_sld (x := x4) hx hb hX hbl hbA hS (lw_in (k := 4) hi hL (by decide)) dL_law_334 ex4 ?_
  refine lv_i2l hx hb dL_law_335 rfl ?_
  refine lv_ldc2 (v := (4294967295)) hx hb hown (hts _ lw_w0) dL_law_336 ?_
  refine lv_land hx hb dL_law_339 ?_
  refine lv_lor hx hb dL_law_340 ?_
  refine lv_topl (fun z2 _ => ?_)
  refine lv_aload_n hx hb dL_law_341 rfl (lv_at hl 1 rfl) ?_
  obtain ⟨c9, r9, n9, m9, u9, jw, jr⟩ := j_count (w := w) (fl := fl) (al := al) (p0 := z1) (p1 := z2) hXI hRI
  refine l_end (mc := 8) (ms := 2000) (cells := cl) (slots := sl) (vx_runSW (rm := rmL_count) (As := [.ref h0, .long z1, .long z2, .ref ho]) (rest := []) ⟨hx, hb, hml, hown, hts⟩ (p_L_count l hl0 dC dI _ _ _ _ h0 z1 z2 co ho f _ (jw f) H.size) (vx_cwSW 4 hts gl_L_count rfl rfl rfl hd_L_count ⟨Nat.le_of_ble_eq_true rfl, Nat.le_of_ble_eq_true rfl⟩) (l_preS hK hO (fr_P2 hP) (fr_D2 hD) hA hS hG hN hZ) rfl rfl hl.1 rfl (lv_room (Nat.le_of_ble_eq_true rfl)) dL_law_342 ⟨Nat.le_trans (Nat.add_le_add_left (by decide) _) hC, Nat.le_trans (Nat.add_le_add_left (by decide) _) hSl⟩) hP hD hS hA (fun k9 sh1 ci1 ai1 al1 f1 H locs h hK hP hD hS => ?_)
  obtain ⟨hk9, ⟨rk1, hXI⟩, hf9⟩ := h
  refine lv_istore (lv' := [(5, .int k9), (4, .int (nI i)), (3, .ref ho), (2, .ref g0), (1, .ref h0), (0, .ref b)]) hx hb dL_law_345 hl (by decide) rfl (fun ls hl => ?_)
  refine lv_aload_n hx hb dL_law_347 rfl (lv_at hl 3 rfl) ?_
  refine lv_aload_n hx hb dL_law_348 rfl (lv_at hl 5 rfl) ?_
  refine lv_iload hx hb dL_law_349 (lv_at hl 1 rfl) ?_
  refine lv_iconst (v := 1) hx hb dL_law_351 (by decide) ?_
  refine lv_iadd hx hb dL_law_352 ?_
  refine lw_sld (x := x1) hx hb hX hbl hbA hS (lw_in (k := 1) hi hL (by decide)) dL_law_353 ex1 ?_
  refine lv_i2l hx hb dL_law_354 rfl ?_
  refine lv_bipush (v := 32) hx hb dL_law_355 (by decide) ?_
  refine lv_lshl hx hb dL_law_357 rfl ?_
  refine lv_aload_n hx hb dL_law_358 rfl (lv_at hl 5 rfl) ?_
  refine lv_iload hx hb dL_law_359 (lv_at hl 1 rfl) ?_
  refine lv_iconst (v := 2) hx hb dL_law_361 (by decide) ?_
  refine lv_iadd hx hb dL_law_362 ?_
  refine lw_sld (x := x2) hx hb hX hbl hbA hS (lw_in (k := 2) hi hL (by decide)) dL_law_363 ex2 ?_
  refine lv_i2l hx hb dL_law_364 rfl ?_
  refine lv_ldc2 (v := (4294967295)) hx hb hown (hts _ lw_w0) dL_law_365 ?_
  refine lv_land hx hb dL_law_368 ?_
  refine lv_lor hx hb dL_law_369 ?_
  refine lv_topl (fun z3 _ => ?_)
  refine lv_aload_n hx hb dL_law_370 rfl (lv_at hl 5 rfl) ?_
  refine lv_iload hx hb dL_law_371 (lv_at hl 1 rfl) ?_
  refine lv_iconst (v := 3) hx hb dL_law_373 (by decide) ?_
  refine lv_iadd hx hb dL_law_374 ?_
  refine lw_sld (x := x3) hx hb hX hbl hbA hS (lw_in (k := 3) hi hL (by decide)) dL_law_375 ex3 ?_
  refine lv_i2l hx hb dL_law_376 rfl ?_
  refine lv_bipush (v := 32) hx hb dL_law_377 (by decide) ?_
  refine lv_lshl hx hb dL_law_379 rfl ?_
  refine lv_aload_n hx hb dL_law_380 rfl (lv_at hl 5 rfl) ?_
  refine lv_iload hx hb dL_law_381 (lv_at hl 1 rfl) ?_
  refine lv_iconst (v := 4) hx hb dL_law_383 (by decide) ?_
  refine lv_iadd hx hb dL_law_384 ?_
  refine lw_sld (x := x4) hx hb hX hbl hbA hS (lw_in (k := 4) hi hL (by decide)) dL_law_385 ex4 ?_
  refine lv_i2l hx hb dL_law_386 rfl ?_
  refine lv_ldc2 (v := (4294967295)) hx hb hown (hts _ lw_w0) dL_law_387 ?_
  refine lv_land hx hb dL_law_390 ?_
  refine lv_lor hx hb dL_law_391 ?_
  refine lv_topl (fun z4 _ => ?_)
  refine lm_calli (rm := ({ frames := 8, cells := 0, slots := 0, locals := 120 })) (As := [.long z3, .long z4]) (rest := []) (cells := (cl + 8)) (slots := (sl + 2000)) (fun sz => p_X12_count l dC dI a ca g0 _ _ _ _ z3 z4 _ (jr z3 z4) sz) ⟨hx, hb, hml, hown, hts⟩ (cwV 2 hts gl_X12_count rfl rfl rfl hd_X12_count ⟨Nat.le_of_ble_eq_true rfl, Nat.le_of_ble_eq_true rfl⟩) rfl hl.1 rfl hKm hP hD hS hA (Nat.le_of_ble_eq_true rfl) ⟨Nat.le_trans (Nat.add_le_add_left (by decide) _) hC, Nat.le_trans (Nat.add_le_add_left (by decide) _) hSl⟩ dL_law_392 (fun b1 v1 w1 fi1 fl1 H locs h hP hD hS => ?_)
  obtain ⟨hRI, h19, hb9⟩ := h
  refine lv_istore (lv' := [(6, .int b1), (5, .int k9), (4, .int (nI i)), (3, .ref ho), (2, .ref g0), (1, .ref h0), (0, .ref b)]) hx hb dL_law_395 hl (by decide) rfl (fun ls hl => ?_)
  refine lv_goto (tgt := 1588) hx hb dL_law_397 (by decide) ?_
  exact W.widen (k := cl + 10) (n := sl + 2100) (Nat.add_le_add_left (by decide) _) (Nat.add_le_add_left (by decide) _) (go _ _ _ _ _ _ _ _ _ _ _ _ _ H _ ls hXI hRI hK hP hD hS (lv_sub hl [2, 3, 4, 5, 6] rfl))
