abbrev cX12_at : ByteArray := prog_14_method_55_code
def yX12_at : MethodName := ⟨RX12, "at", "(II)J"⟩
abbrev cX12_size : ByteArray := prog_14_method_56_code
def yX12_size : MethodName := ⟨RX12, "size", "(I)J"⟩
theorem dX12_lookAtCell_0 : decode cX12_lookAtCell 0 = .ok (.iload_n 2, 1) := by decide +kernel
theorem dX12_lookAtCell_1 : decode cX12_lookAtCell 1 = .ok (.sipush 400, 3) := by decide +kernel
theorem dX12_lookAtCell_4 : decode cX12_lookAtCell 4 = .ok (.if_icmp .lt 6, 3) := by decide +kernel
theorem dX12_lookAtCell_7 : decode cX12_lookAtCell 7 = .ok (.bipush (-2), 2) := by decide +kernel
theorem dX12_lookAtCell_9 : decode cX12_lookAtCell 9 = .ok (.ireturn, 1) := by decide +kernel
theorem dX12_lookAtCell_10 : decode cX12_lookAtCell 10 = .ok (.iconst 0, 1) := by decide +kernel
theorem dX12_lookAtCell_11 : decode cX12_lookAtCell 11 = .ok (.istore_n 3, 1) := by decide +kernel
theorem dX12_lookAtCell_12 : decode cX12_lookAtCell 12 = .ok (.iload_n 3, 1) := by decide +kernel
theorem dX12_lookAtCell_13 : decode cX12_lookAtCell 13 = .ok (.iload_n 2, 1) := by decide +kernel
theorem dX12_lookAtCell_14 : decode cX12_lookAtCell 14 = .ok (.if_icmp .ge 30, 3) := by decide +kernel
theorem dX12_lookAtCell_17 : decode cX12_lookAtCell 17 = .ok (.aload_n 0, 1) := by decide +kernel
theorem dX12_lookAtCell_18 : decode cX12_lookAtCell 18 = .ok (.getfield 29, 3) := by decide +kernel
theorem dX12_lookAtCell_21 : decode cX12_lookAtCell 21 = .ok (.iload_n 1, 1) := by decide +kernel
theorem dX12_lookAtCell_22 : decode cX12_lookAtCell 22 = .ok (.iload_n 3, 1) := by decide +kernel
theorem dX12_lookAtCell_23 : decode cX12_lookAtCell 23 = .ok (.invokestatic 106, 3) := by decide +kernel
theorem dX12_lookAtCell_26 : decode cX12_lookAtCell 26 = .ok (.iaload, 1) := by decide +kernel
theorem dX12_lookAtCell_27 : decode cX12_lookAtCell 27 = .ok (.ifCond .ne 11, 3) := by decide +kernel
theorem dX12_lookAtCell_30 : decode cX12_lookAtCell 30 = .ok (.iconst 2, 1) := by decide +kernel
theorem dX12_lookAtCell_31 : decode cX12_lookAtCell 31 = .ok (.iload_n 1, 1) := by decide +kernel
theorem dX12_lookAtCell_32 : decode cX12_lookAtCell 32 = .ok (.iload_n 3, 1) := by decide +kernel
theorem dX12_lookAtCell_33 : decode cX12_lookAtCell 33 = .ok (.invokestatic 106, 3) := by decide +kernel
theorem dX12_lookAtCell_36 : decode cX12_lookAtCell 36 = .ok (.imul, 1) := by decide +kernel
theorem dX12_lookAtCell_37 : decode cX12_lookAtCell 37 = .ok (.ireturn, 1) := by decide +kernel
theorem dX12_lookAtCell_38 : decode cX12_lookAtCell 38 = .ok (.iinc 3 1, 3) := by decide +kernel
theorem dX12_lookAtCell_41 : decode cX12_lookAtCell 41 = .ok (.goto (-29), 3) := by decide +kernel
theorem dX12_lookAtCell_44 : decode cX12_lookAtCell 44 = .ok (.aload_n 0, 1) := by decide +kernel
theorem dX12_lookAtCell_45 : decode cX12_lookAtCell 45 = .ok (.getfield 13, 3) := by decide +kernel
theorem dX12_lookAtCell_48 : decode cX12_lookAtCell 48 = .ok (.iload_n 1, 1) := by decide +kernel
theorem dX12_lookAtCell_49 : decode cX12_lookAtCell 49 = .ok (.iaload, 1) := by decide +kernel
theorem dX12_lookAtCell_50 : decode cX12_lookAtCell 50 = .ok (.istore_n 3, 1) := by decide +kernel
theorem dX12_lookAtCell_51 : decode cX12_lookAtCell 51 = .ok (.aload_n 0, 1) := by decide +kernel
theorem dX12_lookAtCell_52 : decode cX12_lookAtCell 52 = .ok (.getfield 7, 3) := by decide +kernel
theorem dX12_lookAtCell_55 : decode cX12_lookAtCell 55 = .ok (.iload_n 1, 1) := by decide +kernel
theorem dX12_lookAtCell_56 : decode cX12_lookAtCell 56 = .ok (.iaload, 1) := by decide +kernel
theorem dX12_lookAtCell_57 : decode cX12_lookAtCell 57 = .ok (.tableswitch 294 0 16 #[83, 112, 112, 118, 126, 139, 161, 187, 202, 210, 218, 251, 264, 294, 294, 202, 271], 83) := by decide +kernel
theorem dX12_lookAtCell_140 : decode cX12_lookAtCell 140 = .ok (.aload_n 0, 1) := by decide +kernel
theorem dX12_lookAtCell_141 : decode cX12_lookAtCell 141 = .ok (.iload_n 2, 1) := by decide +kernel
theorem dX12_lookAtCell_142 : decode cX12_lookAtCell 142 = .ok (.iload_n 3, 1) := by decide +kernel
theorem dX12_lookAtCell_143 : decode cX12_lookAtCell 143 = .ok (.if_icmp .ge 7, 3) := by decide +kernel
theorem dX12_lookAtCell_146 : decode cX12_lookAtCell 146 = .ok (.iconst 1, 1) := by decide +kernel
theorem dX12_lookAtCell_147 : decode cX12_lookAtCell 147 = .ok (.goto 18, 3) := by decide +kernel
theorem dX12_lookAtCell_150 : decode cX12_lookAtCell 150 = .ok (.aload_n 0, 1) := by decide +kernel
theorem dX12_lookAtCell_151 : decode cX12_lookAtCell 151 = .ok (.getfield 19, 3) := by decide +kernel
theorem dX12_lookAtCell_154 : decode cX12_lookAtCell 154 = .ok (.iload_n 1, 1) := by decide +kernel
theorem dX12_lookAtCell_155 : decode cX12_lookAtCell 155 = .ok (.iaload, 1) := by decide +kernel
theorem dX12_lookAtCell_156 : decode cX12_lookAtCell 156 = .ok (.iconst 1, 1) := by decide +kernel
theorem dX12_lookAtCell_157 : decode cX12_lookAtCell 157 = .ok (.if_icmp .ne 7, 3) := by decide +kernel
theorem dX12_lookAtCell_160 : decode cX12_lookAtCell 160 = .ok (.iconst 3, 1) := by decide +kernel
theorem dX12_lookAtCell_161 : decode cX12_lookAtCell 161 = .ok (.goto 4, 3) := by decide +kernel
theorem dX12_lookAtCell_164 : decode cX12_lookAtCell 164 = .ok (.iconst 2, 1) := by decide +kernel
theorem dX12_lookAtCell_165 : decode cX12_lookAtCell 165 = .ok (.invokevirtual 137, 3) := by decide +kernel
theorem dX12_lookAtCell_168 : decode cX12_lookAtCell 168 = .ok (.ireturn, 1) := by decide +kernel
theorem dX12_lookAtCell_169 : decode cX12_lookAtCell 169 = .ok (.aload_n 0, 1) := by decide +kernel
theorem dX12_lookAtCell_170 : decode cX12_lookAtCell 170 = .ok (.iconst 1, 1) := by decide +kernel
theorem dX12_lookAtCell_171 : decode cX12_lookAtCell 171 = .ok (.invokevirtual 137, 3) := by decide +kernel
theorem dX12_lookAtCell_174 : decode cX12_lookAtCell 174 = .ok (.ireturn, 1) := by decide +kernel
theorem dX12_lookAtCell_175 : decode cX12_lookAtCell 175 = .ok (.aload_n 0, 1) := by decide +kernel
theorem dX12_lookAtCell_176 : decode cX12_lookAtCell 176 = .ok (.iload_n 3, 1) := by decide +kernel
theorem dX12_lookAtCell_177 : decode cX12_lookAtCell 177 = .ok (.iload_n 2, 1) := by decide +kernel
theorem dX12_lookAtCell_178 : decode cX12_lookAtCell 178 = .ok (.iconst 0, 1) := by decide +kernel
theorem dX12_lookAtCell_179 : decode cX12_lookAtCell 179 = .ok (.invokevirtual 140, 3) := by decide +kernel
theorem dX12_lookAtCell_182 : decode cX12_lookAtCell 182 = .ok (.ireturn, 1) := by decide +kernel
theorem dX12_lookAtCell_183 : decode cX12_lookAtCell 183 = .ok (.aload_n 0, 1) := by decide +kernel
theorem dX12_lookAtCell_184 : decode cX12_lookAtCell 184 = .ok (.iload_n 3, 1) := by decide +kernel
theorem dX12_lookAtCell_185 : decode cX12_lookAtCell 185 = .ok (.aload_n 0, 1) := by decide +kernel
theorem dX12_lookAtCell_186 : decode cX12_lookAtCell 186 = .ok (.getfield 16, 3) := by decide +kernel
theorem dX12_lookAtCell_189 : decode cX12_lookAtCell 189 = .ok (.iload_n 1, 1) := by decide +kernel
theorem dX12_lookAtCell_190 : decode cX12_lookAtCell 190 = .ok (.iaload, 1) := by decide +kernel
theorem dX12_lookAtCell_191 : decode cX12_lookAtCell 191 = .ok (.iload_n 2, 1) := by decide +kernel
theorem dX12_lookAtCell_192 : decode cX12_lookAtCell 192 = .ok (.invokevirtual 144, 3) := by decide +kernel
theorem dX12_lookAtCell_195 : decode cX12_lookAtCell 195 = .ok (.ireturn, 1) := by decide +kernel
theorem dX12_lookAtCell_196 : decode cX12_lookAtCell 196 = .ok (.iload_n 2, 1) := by decide +kernel
theorem dX12_lookAtCell_197 : decode cX12_lookAtCell 197 = .ok (.ifCond .ne 11, 3) := by decide +kernel
theorem dX12_lookAtCell_200 : decode cX12_lookAtCell 200 = .ok (.aload_n 0, 1) := by decide +kernel
theorem dX12_lookAtCell_201 : decode cX12_lookAtCell 201 = .ok (.iconst 1, 1) := by decide +kernel
theorem dX12_lookAtCell_202 : decode cX12_lookAtCell 202 = .ok (.invokevirtual 137, 3) := by decide +kernel
theorem dX12_lookAtCell_205 : decode cX12_lookAtCell 205 = .ok (.goto 12, 3) := by decide +kernel
theorem dX12_lookAtCell_208 : decode cX12_lookAtCell 208 = .ok (.aload_n 0, 1) := by decide +kernel
theorem dX12_lookAtCell_209 : decode cX12_lookAtCell 209 = .ok (.iload_n 3, 1) := by decide +kernel
theorem dX12_lookAtCell_210 : decode cX12_lookAtCell 210 = .ok (.iload_n 2, 1) := by decide +kernel
theorem dX12_lookAtCell_211 : decode cX12_lookAtCell 211 = .ok (.iconst 1, 1) := by decide +kernel
theorem dX12_lookAtCell_212 : decode cX12_lookAtCell 212 = .ok (.isub, 1) := by decide +kernel
theorem dX12_lookAtCell_213 : decode cX12_lookAtCell 213 = .ok (.iconst 0, 1) := by decide +kernel
theorem dX12_lookAtCell_214 : decode cX12_lookAtCell 214 = .ok (.invokevirtual 140, 3) := by decide +kernel
theorem dX12_lookAtCell_217 : decode cX12_lookAtCell 217 = .ok (.ireturn, 1) := by decide +kernel
theorem dX12_lookAtCell_218 : decode cX12_lookAtCell 218 = .ok (.iload_n 2, 1) := by decide +kernel
theorem dX12_lookAtCell_219 : decode cX12_lookAtCell 219 = .ok (.aload_n 0, 1) := by decide +kernel
theorem dX12_lookAtCell_220 : decode cX12_lookAtCell 220 = .ok (.getfield 19, 3) := by decide +kernel
theorem dX12_lookAtCell_223 : decode cX12_lookAtCell 223 = .ok (.iload_n 1, 1) := by decide +kernel
theorem dX12_lookAtCell_224 : decode cX12_lookAtCell 224 = .ok (.iaload, 1) := by decide +kernel
theorem dX12_lookAtCell_225 : decode cX12_lookAtCell 225 = .ok (.if_icmp .ne 11, 3) := by decide +kernel
theorem dX12_lookAtCell_228 : decode cX12_lookAtCell 228 = .ok (.aload_n 0, 1) := by decide +kernel
theorem dX12_lookAtCell_229 : decode cX12_lookAtCell 229 = .ok (.iconst 2, 1) := by decide +kernel
theorem dX12_lookAtCell_230 : decode cX12_lookAtCell 230 = .ok (.invokevirtual 137, 3) := by decide +kernel
theorem dX12_lookAtCell_233 : decode cX12_lookAtCell 233 = .ok (.goto 10, 3) := by decide +kernel
theorem dX12_lookAtCell_236 : decode cX12_lookAtCell 236 = .ok (.aload_n 0, 1) := by decide +kernel
theorem dX12_lookAtCell_237 : decode cX12_lookAtCell 237 = .ok (.iload_n 3, 1) := by decide +kernel
theorem dX12_lookAtCell_238 : decode cX12_lookAtCell 238 = .ok (.iload_n 2, 1) := by decide +kernel
theorem dX12_lookAtCell_239 : decode cX12_lookAtCell 239 = .ok (.iconst 1, 1) := by decide +kernel
theorem dX12_lookAtCell_240 : decode cX12_lookAtCell 240 = .ok (.invokevirtual 140, 3) := by decide +kernel
theorem dX12_lookAtCell_243 : decode cX12_lookAtCell 243 = .ok (.ireturn, 1) := by decide +kernel
theorem dX12_lookAtCell_244 : decode cX12_lookAtCell 244 = .ok (.aload_n 0, 1) := by decide +kernel
theorem dX12_lookAtCell_245 : decode cX12_lookAtCell 245 = .ok (.iload_n 3, 1) := by decide +kernel
theorem dX12_lookAtCell_246 : decode cX12_lookAtCell 246 = .ok (.aload_n 0, 1) := by decide +kernel
theorem dX12_lookAtCell_247 : decode cX12_lookAtCell 247 = .ok (.getfield 19, 3) := by decide +kernel
theorem dX12_lookAtCell_250 : decode cX12_lookAtCell 250 = .ok (.iload_n 1, 1) := by decide +kernel
theorem dX12_lookAtCell_251 : decode cX12_lookAtCell 251 = .ok (.iaload, 1) := by decide +kernel
theorem dX12_lookAtCell_252 : decode cX12_lookAtCell 252 = .ok (.iload_n 2, 1) := by decide +kernel
theorem dX12_lookAtCell_253 : decode cX12_lookAtCell 253 = .ok (.iadd, 1) := by decide +kernel
theorem dX12_lookAtCell_254 : decode cX12_lookAtCell 254 = .ok (.iconst 1, 1) := by decide +kernel
theorem dX12_lookAtCell_255 : decode cX12_lookAtCell 255 = .ok (.invokevirtual 140, 3) := by decide +kernel
theorem dX12_lookAtCell_258 : decode cX12_lookAtCell 258 = .ok (.ireturn, 1) := by decide +kernel
theorem dX12_lookAtCell_259 : decode cX12_lookAtCell 259 = .ok (.aload_n 0, 1) := by decide +kernel
theorem dX12_lookAtCell_260 : decode cX12_lookAtCell 260 = .ok (.iload_n 1, 1) := by decide +kernel
theorem dX12_lookAtCell_261 : decode cX12_lookAtCell 261 = .ok (.iload_n 3, 1) := by decide +kernel
theorem dX12_lookAtCell_262 : decode cX12_lookAtCell 262 = .ok (.iload_n 2, 1) := by decide +kernel
theorem dX12_lookAtCell_263 : decode cX12_lookAtCell 263 = .ok (.invokevirtual 147, 3) := by decide +kernel
theorem dX12_lookAtCell_266 : decode cX12_lookAtCell 266 = .ok (.ireturn, 1) := by decide +kernel
theorem dX12_lookAtCell_267 : decode cX12_lookAtCell 267 = .ok (.aload_n 0, 1) := by decide +kernel
theorem dX12_lookAtCell_268 : decode cX12_lookAtCell 268 = .ok (.iload_n 1, 1) := by decide +kernel
theorem dX12_lookAtCell_269 : decode cX12_lookAtCell 269 = .ok (.iload_n 3, 1) := by decide +kernel
theorem dX12_lookAtCell_270 : decode cX12_lookAtCell 270 = .ok (.iload_n 2, 1) := by decide +kernel
theorem dX12_lookAtCell_271 : decode cX12_lookAtCell 271 = .ok (.invokevirtual 150, 3) := by decide +kernel
theorem dX12_lookAtCell_274 : decode cX12_lookAtCell 274 = .ok (.ireturn, 1) := by decide +kernel
theorem dX12_lookAtCell_275 : decode cX12_lookAtCell 275 = .ok (.iload_n 2, 1) := by decide +kernel
theorem dX12_lookAtCell_276 : decode cX12_lookAtCell 276 = .ok (.ifCond .le 24, 3) := by decide +kernel
theorem dX12_lookAtCell_279 : decode cX12_lookAtCell 279 = .ok (.aload_n 0, 1) := by decide +kernel
theorem dX12_lookAtCell_280 : decode cX12_lookAtCell 280 = .ok (.iload_n 3, 1) := by decide +kernel
theorem dX12_lookAtCell_281 : decode cX12_lookAtCell 281 = .ok (.aload_n 0, 1) := by decide +kernel
theorem dX12_lookAtCell_282 : decode cX12_lookAtCell 282 = .ok (.getfield 41, 3) := by decide +kernel
theorem dX12_lookAtCell_285 : decode cX12_lookAtCell 285 = .ok (.iload_n 1, 1) := by decide +kernel
theorem dX12_lookAtCell_286 : decode cX12_lookAtCell 286 = .ok (.iconst 0, 1) := by decide +kernel
theorem dX12_lookAtCell_287 : decode cX12_lookAtCell 287 = .ok (.invokestatic 106, 3) := by decide +kernel
theorem dX12_lookAtCell_290 : decode cX12_lookAtCell 290 = .ok (.iaload, 1) := by decide +kernel
theorem dX12_lookAtCell_291 : decode cX12_lookAtCell 291 = .ok (.iload_n 2, 1) := by decide +kernel
theorem dX12_lookAtCell_292 : decode cX12_lookAtCell 292 = .ok (.iadd, 1) := by decide +kernel
theorem dX12_lookAtCell_293 : decode cX12_lookAtCell 293 = .ok (.iconst 1, 1) := by decide +kernel
theorem dX12_lookAtCell_294 : decode cX12_lookAtCell 294 = .ok (.invokevirtual 140, 3) := by decide +kernel
theorem dX12_lookAtCell_297 : decode cX12_lookAtCell 297 = .ok (.goto 10, 3) := by decide +kernel
theorem dX12_lookAtCell_300 : decode cX12_lookAtCell 300 = .ok (.aload_n 0, 1) := by decide +kernel
theorem dX12_lookAtCell_301 : decode cX12_lookAtCell 301 = .ok (.iload_n 1, 1) := by decide +kernel
theorem dX12_lookAtCell_302 : decode cX12_lookAtCell 302 = .ok (.iload_n 3, 1) := by decide +kernel
theorem dX12_lookAtCell_303 : decode cX12_lookAtCell 303 = .ok (.iconst 0, 1) := by decide +kernel
theorem dX12_lookAtCell_304 : decode cX12_lookAtCell 304 = .ok (.invokevirtual 147, 3) := by decide +kernel
theorem dX12_lookAtCell_307 : decode cX12_lookAtCell 307 = .ok (.ireturn, 1) := by decide +kernel
theorem dX12_lookAtCell_308 : decode cX12_lookAtCell 308 = .ok (.aload_n 0, 1) := by decide +kernel
theorem dX12_lookAtCell_309 : decode cX12_lookAtCell 309 = .ok (.iload_n 3, 1) := by decide +kernel
theorem dX12_lookAtCell_310 : decode cX12_lookAtCell 310 = .ok (.aload_n 0, 1) := by decide +kernel
theorem dX12_lookAtCell_311 : decode cX12_lookAtCell 311 = .ok (.getfield 16, 3) := by decide +kernel
theorem dX12_lookAtCell_314 : decode cX12_lookAtCell 314 = .ok (.iload_n 1, 1) := by decide +kernel
theorem dX12_lookAtCell_315 : decode cX12_lookAtCell 315 = .ok (.iaload, 1) := by decide +kernel
theorem dX12_lookAtCell_316 : decode cX12_lookAtCell 316 = .ok (.iload_n 2, 1) := by decide +kernel
theorem dX12_lookAtCell_317 : decode cX12_lookAtCell 317 = .ok (.invokevirtual 153, 3) := by decide +kernel
theorem dX12_lookAtCell_320 : decode cX12_lookAtCell 320 = .ok (.ireturn, 1) := by decide +kernel
theorem dX12_lookAtCell_321 : decode cX12_lookAtCell 321 = .ok (.aload_n 0, 1) := by decide +kernel
theorem dX12_lookAtCell_322 : decode cX12_lookAtCell 322 = .ok (.iload_n 3, 1) := by decide +kernel
theorem dX12_lookAtCell_323 : decode cX12_lookAtCell 323 = .ok (.iload_n 2, 1) := by decide +kernel
theorem dX12_lookAtCell_324 : decode cX12_lookAtCell 324 = .ok (.invokevirtual 156, 3) := by decide +kernel
theorem dX12_lookAtCell_327 : decode cX12_lookAtCell 327 = .ok (.ireturn, 1) := by decide +kernel
theorem dX12_lookAtCell_328 : decode cX12_lookAtCell 328 = .ok (.iload_n 2, 1) := by decide +kernel
theorem dX12_lookAtCell_329 : decode cX12_lookAtCell 329 = .ok (.ifCond .ne 13, 3) := by decide +kernel
theorem dX12_lookAtCell_332 : decode cX12_lookAtCell 332 = .ok (.aload_n 0, 1) := by decide +kernel
theorem dX12_lookAtCell_333 : decode cX12_lookAtCell 333 = .ok (.iload_n 3, 1) := by decide +kernel
theorem dX12_lookAtCell_334 : decode cX12_lookAtCell 334 = .ok (.iconst 0, 1) := by decide +kernel
theorem dX12_lookAtCell_335 : decode cX12_lookAtCell 335 = .ok (.iconst 0, 1) := by decide +kernel
theorem dX12_lookAtCell_336 : decode cX12_lookAtCell 336 = .ok (.invokevirtual 140, 3) := by decide +kernel
theorem dX12_lookAtCell_339 : decode cX12_lookAtCell 339 = .ok (.goto 11, 3) := by decide +kernel
theorem dX12_lookAtCell_342 : decode cX12_lookAtCell 342 = .ok (.aload_n 0, 1) := by decide +kernel
theorem dX12_lookAtCell_343 : decode cX12_lookAtCell 343 = .ok (.iload_n 1, 1) := by decide +kernel
theorem dX12_lookAtCell_344 : decode cX12_lookAtCell 344 = .ok (.iload_n 2, 1) := by decide +kernel
theorem dX12_lookAtCell_345 : decode cX12_lookAtCell 345 = .ok (.iconst 1, 1) := by decide +kernel
theorem dX12_lookAtCell_346 : decode cX12_lookAtCell 346 = .ok (.isub, 1) := by decide +kernel
theorem dX12_lookAtCell_347 : decode cX12_lookAtCell 347 = .ok (.invokevirtual 159, 3) := by decide +kernel
theorem dX12_lookAtCell_350 : decode cX12_lookAtCell 350 = .ok (.ireturn, 1) := by decide +kernel
theorem dX12_lookAtCell_351 : decode cX12_lookAtCell 351 = .ok (.aload_n 0, 1) := by decide +kernel
theorem dX12_lookAtCell_352 : decode cX12_lookAtCell 352 = .ok (.iload_n 1, 1) := by decide +kernel
theorem dX12_lookAtCell_353 : decode cX12_lookAtCell 353 = .ok (.iload_n 3, 1) := by decide +kernel
theorem dX12_lookAtCell_354 : decode cX12_lookAtCell 354 = .ok (.iload_n 2, 1) := by decide +kernel
theorem dX12_lookAtCell_355 : decode cX12_lookAtCell 355 = .ok (.invokevirtual 162, 3) := by decide +kernel
theorem dX12_lookAtCell_358 : decode cX12_lookAtCell 358 = .ok (.ireturn, 1) := by decide +kernel
theorem dX12_lookAtItem_0 : decode cX12_lookAtItem 0 = .ok (.aload_n 0, 1) := by decide +kernel
theorem dX12_lookAtItem_1 : decode cX12_lookAtItem 1 = .ok (.getfield 13, 3) := by decide +kernel
theorem dX12_lookAtItem_4 : decode cX12_lookAtItem 4 = .ok (.iload_n 1, 1) := by decide +kernel
theorem dX12_lookAtItem_5 : decode cX12_lookAtItem 5 = .ok (.iaload, 1) := by decide +kernel
theorem dX12_lookAtItem_6 : decode cX12_lookAtItem 6 = .ok (.istore_n 3, 1) := by decide +kernel
theorem dX12_lookAtItem_7 : decode cX12_lookAtItem 7 = .ok (.aload_n 0, 1) := by decide +kernel
theorem dX12_lookAtItem_8 : decode cX12_lookAtItem 8 = .ok (.lconst 0, 1) := by decide +kernel
theorem dX12_lookAtItem_9 : decode cX12_lookAtItem 9 = .ok (.putfield 179, 3) := by decide +kernel
theorem dX12_lookAtItem_12 : decode cX12_lookAtItem 12 = .ok (.aload_n 0, 1) := by decide +kernel
theorem dX12_lookAtItem_13 : decode cX12_lookAtItem 13 = .ok (.getfield 7, 3) := by decide +kernel
theorem dX12_lookAtItem_16 : decode cX12_lookAtItem 16 = .ok (.iload_n 1, 1) := by decide +kernel
theorem dX12_lookAtItem_17 : decode cX12_lookAtItem 17 = .ok (.iaload, 1) := by decide +kernel
theorem dX12_lookAtItem_18 : decode cX12_lookAtItem 18 = .ok (.tableswitch 216 0 5 #[38, 70, 97, 137, 158, 179], 38) := by decide +kernel
theorem dX12_lookAtItem_56 : decode cX12_lookAtItem 56 = .ok (.aload_n 0, 1) := by decide +kernel
theorem dX12_lookAtItem_57 : decode cX12_lookAtItem 57 = .ok (.aload_n 0, 1) := by decide +kernel
theorem dX12_lookAtItem_58 : decode cX12_lookAtItem 58 = .ok (.getfield 54, 3) := by decide +kernel
theorem dX12_lookAtItem_61 : decode cX12_lookAtItem 61 = .ok (.bipush 100, 2) := by decide +kernel
theorem dX12_lookAtItem_63 : decode cX12_lookAtItem 63 = .ok (.iload_n 1, 1) := by decide +kernel
theorem dX12_lookAtItem_64 : decode cX12_lookAtItem 64 = .ok (.imul, 1) := by decide +kernel
theorem dX12_lookAtItem_65 : decode cX12_lookAtItem 65 = .ok (.iload_n 2, 1) := by decide +kernel
theorem dX12_lookAtItem_66 : decode cX12_lookAtItem 66 = .ok (.iadd, 1) := by decide +kernel
theorem dX12_lookAtItem_67 : decode cX12_lookAtItem 67 = .ok (.iaload, 1) := by decide +kernel
theorem dX12_lookAtItem_68 : decode cX12_lookAtItem 68 = .ok (.putfield 122, 3) := by decide +kernel
theorem dX12_lookAtItem_71 : decode cX12_lookAtItem 71 = .ok (.aload_n 0, 1) := by decide +kernel
theorem dX12_lookAtItem_72 : decode cX12_lookAtItem 72 = .ok (.aload_n 0, 1) := by decide +kernel
theorem dX12_lookAtItem_73 : decode cX12_lookAtItem 73 = .ok (.getfield 57, 3) := by decide +kernel
theorem dX12_lookAtItem_76 : decode cX12_lookAtItem 76 = .ok (.bipush 100, 2) := by decide +kernel
theorem dX12_lookAtItem_78 : decode cX12_lookAtItem 78 = .ok (.iload_n 1, 1) := by decide +kernel
theorem dX12_lookAtItem_79 : decode cX12_lookAtItem 79 = .ok (.imul, 1) := by decide +kernel
theorem dX12_lookAtItem_80 : decode cX12_lookAtItem 80 = .ok (.iload_n 2, 1) := by decide +kernel
theorem dX12_lookAtItem_81 : decode cX12_lookAtItem 81 = .ok (.iadd, 1) := by decide +kernel
theorem dX12_lookAtItem_82 : decode cX12_lookAtItem 82 = .ok (.laload, 1) := by decide +kernel
theorem dX12_lookAtItem_83 : decode cX12_lookAtItem 83 = .ok (.putfield 179, 3) := by decide +kernel
theorem dX12_lookAtItem_86 : decode cX12_lookAtItem 86 = .ok (.iconst (-1), 1) := by decide +kernel
theorem dX12_lookAtItem_87 : decode cX12_lookAtItem 87 = .ok (.ireturn, 1) := by decide +kernel
theorem dX12_lookAtItem_88 : decode cX12_lookAtItem 88 = .ok (.aload_n 0, 1) := by decide +kernel
theorem dX12_lookAtItem_89 : decode cX12_lookAtItem 89 = .ok (.iconst 1, 1) := by decide +kernel
theorem dX12_lookAtItem_90 : decode cX12_lookAtItem 90 = .ok (.putfield 122, 3) := by decide +kernel
theorem dX12_lookAtItem_93 : decode cX12_lookAtItem 93 = .ok (.aload_n 0, 1) := by decide +kernel
theorem dX12_lookAtItem_94 : decode cX12_lookAtItem 94 = .ok (.aload_n 0, 1) := by decide +kernel
theorem dX12_lookAtItem_95 : decode cX12_lookAtItem 95 = .ok (.getfield 22, 3) := by decide +kernel
theorem dX12_lookAtItem_98 : decode cX12_lookAtItem 98 = .ok (.iload_n 1, 1) := by decide +kernel
theorem dX12_lookAtItem_99 : decode cX12_lookAtItem 99 = .ok (.laload, 1) := by decide +kernel
theorem dX12_lookAtItem_100 : decode cX12_lookAtItem 100 = .ok (.iload_n 2, 1) := by decide +kernel
theorem dX12_lookAtItem_101 : decode cX12_lookAtItem 101 = .ok (.i2l, 1) := by decide +kernel
theorem dX12_lookAtItem_102 : decode cX12_lookAtItem 102 = .ok (.aload_n 0, 1) := by decide +kernel
theorem dX12_lookAtItem_103 : decode cX12_lookAtItem 103 = .ok (.getfield 26, 3) := by decide +kernel
theorem dX12_lookAtItem_106 : decode cX12_lookAtItem 106 = .ok (.iload_n 1, 1) := by decide +kernel
theorem dX12_lookAtItem_107 : decode cX12_lookAtItem 107 = .ok (.laload, 1) := by decide +kernel
theorem dX12_lookAtItem_108 : decode cX12_lookAtItem 108 = .ok (.lmul, 1) := by decide +kernel
theorem dX12_lookAtItem_109 : decode cX12_lookAtItem 109 = .ok (.ladd, 1) := by decide +kernel
theorem dX12_lookAtItem_110 : decode cX12_lookAtItem 110 = .ok (.putfield 179, 3) := by decide +kernel
theorem dX12_lookAtItem_113 : decode cX12_lookAtItem 113 = .ok (.iconst (-1), 1) := by decide +kernel
theorem dX12_lookAtItem_114 : decode cX12_lookAtItem 114 = .ok (.ireturn, 1) := by decide +kernel
theorem dX12_lookAtItem_115 : decode cX12_lookAtItem 115 = .ok (.iload_n 2, 1) := by decide +kernel
theorem dX12_lookAtItem_116 : decode cX12_lookAtItem 116 = .ok (.ifCond .ne 16, 3) := by decide +kernel
theorem dX12_lookAtItem_119 : decode cX12_lookAtItem 119 = .ok (.aload_n 0, 1) := by decide +kernel
theorem dX12_lookAtItem_120 : decode cX12_lookAtItem 120 = .ok (.aload_n 0, 1) := by decide +kernel
theorem dX12_lookAtItem_121 : decode cX12_lookAtItem 121 = .ok (.getfield 26, 3) := by decide +kernel
theorem dX12_lookAtItem_124 : decode cX12_lookAtItem 124 = .ok (.iload_n 1, 1) := by decide +kernel
theorem dX12_lookAtItem_125 : decode cX12_lookAtItem 125 = .ok (.laload, 1) := by decide +kernel
theorem dX12_lookAtItem_126 : decode cX12_lookAtItem 126 = .ok (.invokevirtual 182, 3) := by decide +kernel
theorem dX12_lookAtItem_129 : decode cX12_lookAtItem 129 = .ok (.goto 25, 3) := by decide +kernel
theorem dX12_lookAtItem_132 : decode cX12_lookAtItem 132 = .ok (.aload_n 0, 1) := by decide +kernel
theorem dX12_lookAtItem_133 : decode cX12_lookAtItem 133 = .ok (.aload_n 0, 1) := by decide +kernel
theorem dX12_lookAtItem_134 : decode cX12_lookAtItem 134 = .ok (.getfield 19, 3) := by decide +kernel
theorem dX12_lookAtItem_137 : decode cX12_lookAtItem 137 = .ok (.iload_n 1, 1) := by decide +kernel
theorem dX12_lookAtItem_138 : decode cX12_lookAtItem 138 = .ok (.iaload, 1) := by decide +kernel
theorem dX12_lookAtItem_139 : decode cX12_lookAtItem 139 = .ok (.iload_n 1, 1) := by decide +kernel
theorem dX12_lookAtItem_140 : decode cX12_lookAtItem 140 = .ok (.iload_n 2, 1) := by decide +kernel
theorem dX12_lookAtItem_141 : decode cX12_lookAtItem 141 = .ok (.iconst 1, 1) := by decide +kernel
theorem dX12_lookAtItem_142 : decode cX12_lookAtItem 142 = .ok (.isub, 1) := by decide +kernel
theorem dX12_lookAtItem_143 : decode cX12_lookAtItem 143 = .ok (.iconst (-1), 1) := by decide +kernel
theorem dX12_lookAtItem_144 : decode cX12_lookAtItem 144 = .ok (.iconst 0, 1) := by decide +kernel
theorem dX12_lookAtItem_145 : decode cX12_lookAtItem 145 = .ok (.aload_n 0, 1) := by decide +kernel
theorem dX12_lookAtItem_146 : decode cX12_lookAtItem 146 = .ok (.getfield 22, 3) := by decide +kernel
theorem dX12_lookAtItem_149 : decode cX12_lookAtItem 149 = .ok (.iload_n 1, 1) := by decide +kernel
theorem dX12_lookAtItem_150 : decode cX12_lookAtItem 150 = .ok (.laload, 1) := by decide +kernel
theorem dX12_lookAtItem_151 : decode cX12_lookAtItem 151 = .ok (.invokevirtual 186, 3) := by decide +kernel
theorem dX12_lookAtItem_154 : decode cX12_lookAtItem 154 = .ok (.ireturn, 1) := by decide +kernel
theorem dX12_lookAtItem_155 : decode cX12_lookAtItem 155 = .ok (.aload_n 0, 1) := by decide +kernel
theorem dX12_lookAtItem_156 : decode cX12_lookAtItem 156 = .ok (.aload_n 0, 1) := by decide +kernel
theorem dX12_lookAtItem_157 : decode cX12_lookAtItem 157 = .ok (.getfield 19, 3) := by decide +kernel
theorem dX12_lookAtItem_160 : decode cX12_lookAtItem 160 = .ok (.iload_n 1, 1) := by decide +kernel
theorem dX12_lookAtItem_161 : decode cX12_lookAtItem 161 = .ok (.iaload, 1) := by decide +kernel
theorem dX12_lookAtItem_162 : decode cX12_lookAtItem 162 = .ok (.iload_n 3, 1) := by decide +kernel
theorem dX12_lookAtItem_163 : decode cX12_lookAtItem 163 = .ok (.iload_n 2, 1) := by decide +kernel
theorem dX12_lookAtItem_164 : decode cX12_lookAtItem 164 = .ok (.iconst (-1), 1) := by decide +kernel
theorem dX12_lookAtItem_165 : decode cX12_lookAtItem 165 = .ok (.iconst 0, 1) := by decide +kernel
theorem dX12_lookAtItem_166 : decode cX12_lookAtItem 166 = .ok (.aload_n 0, 1) := by decide +kernel
theorem dX12_lookAtItem_167 : decode cX12_lookAtItem 167 = .ok (.getfield 22, 3) := by decide +kernel
theorem dX12_lookAtItem_170 : decode cX12_lookAtItem 170 = .ok (.iload_n 1, 1) := by decide +kernel
theorem dX12_lookAtItem_171 : decode cX12_lookAtItem 171 = .ok (.laload, 1) := by decide +kernel
theorem dX12_lookAtItem_172 : decode cX12_lookAtItem 172 = .ok (.invokevirtual 186, 3) := by decide +kernel
theorem dX12_lookAtItem_175 : decode cX12_lookAtItem 175 = .ok (.ireturn, 1) := by decide +kernel
theorem dX12_lookAtItem_176 : decode cX12_lookAtItem 176 = .ok (.aload_n 0, 1) := by decide +kernel
theorem dX12_lookAtItem_177 : decode cX12_lookAtItem 177 = .ok (.aload_n 0, 1) := by decide +kernel
theorem dX12_lookAtItem_178 : decode cX12_lookAtItem 178 = .ok (.getfield 19, 3) := by decide +kernel
theorem dX12_lookAtItem_181 : decode cX12_lookAtItem 181 = .ok (.iload_n 1, 1) := by decide +kernel
theorem dX12_lookAtItem_182 : decode cX12_lookAtItem 182 = .ok (.iaload, 1) := by decide +kernel
theorem dX12_lookAtItem_183 : decode cX12_lookAtItem 183 = .ok (.iload_n 3, 1) := by decide +kernel
theorem dX12_lookAtItem_184 : decode cX12_lookAtItem 184 = .ok (.iload_n 2, 1) := by decide +kernel
theorem dX12_lookAtItem_185 : decode cX12_lookAtItem 185 = .ok (.aload_n 0, 1) := by decide +kernel
theorem dX12_lookAtItem_186 : decode cX12_lookAtItem 186 = .ok (.getfield 16, 3) := by decide +kernel
theorem dX12_lookAtItem_189 : decode cX12_lookAtItem 189 = .ok (.iload_n 1, 1) := by decide +kernel
theorem dX12_lookAtItem_190 : decode cX12_lookAtItem 190 = .ok (.iaload, 1) := by decide +kernel
theorem dX12_lookAtItem_191 : decode cX12_lookAtItem 191 = .ok (.iload_n 2, 1) := by decide +kernel
theorem dX12_lookAtItem_192 : decode cX12_lookAtItem 192 = .ok (.lconst 0, 1) := by decide +kernel
theorem dX12_lookAtItem_193 : decode cX12_lookAtItem 193 = .ok (.invokevirtual 186, 3) := by decide +kernel
theorem dX12_lookAtItem_196 : decode cX12_lookAtItem 196 = .ok (.ireturn, 1) := by decide +kernel
theorem dX12_lookAtItem_197 : decode cX12_lookAtItem 197 = .ok (.iload_n 2, 1) := by decide +kernel
theorem dX12_lookAtItem_198 : decode cX12_lookAtItem 198 = .ok (.ifCond .ne 16, 3) := by decide +kernel
theorem dX12_lookAtItem_201 : decode cX12_lookAtItem 201 = .ok (.aload_n 0, 1) := by decide +kernel
theorem dX12_lookAtItem_202 : decode cX12_lookAtItem 202 = .ok (.aload_n 0, 1) := by decide +kernel
theorem dX12_lookAtItem_203 : decode cX12_lookAtItem 203 = .ok (.getfield 22, 3) := by decide +kernel
theorem dX12_lookAtItem_206 : decode cX12_lookAtItem 206 = .ok (.iload_n 1, 1) := by decide +kernel
theorem dX12_lookAtItem_207 : decode cX12_lookAtItem 207 = .ok (.laload, 1) := by decide +kernel
theorem dX12_lookAtItem_208 : decode cX12_lookAtItem 208 = .ok (.invokevirtual 182, 3) := by decide +kernel
theorem dX12_lookAtItem_211 : decode cX12_lookAtItem 211 = .ok (.goto 22, 3) := by decide +kernel
theorem dX12_lookAtItem_214 : decode cX12_lookAtItem 214 = .ok (.aload_n 0, 1) := by decide +kernel
theorem dX12_lookAtItem_215 : decode cX12_lookAtItem 215 = .ok (.aload_n 0, 1) := by decide +kernel
theorem dX12_lookAtItem_216 : decode cX12_lookAtItem 216 = .ok (.getfield 19, 3) := by decide +kernel
theorem dX12_lookAtItem_219 : decode cX12_lookAtItem 219 = .ok (.iload_n 1, 1) := by decide +kernel
theorem dX12_lookAtItem_220 : decode cX12_lookAtItem 220 = .ok (.iaload, 1) := by decide +kernel
theorem dX12_lookAtItem_221 : decode cX12_lookAtItem 221 = .ok (.iload_n 1, 1) := by decide +kernel
theorem dX12_lookAtItem_222 : decode cX12_lookAtItem 222 = .ok (.iload_n 2, 1) := by decide +kernel
theorem dX12_lookAtItem_223 : decode cX12_lookAtItem 223 = .ok (.iconst 1, 1) := by decide +kernel
theorem dX12_lookAtItem_224 : decode cX12_lookAtItem 224 = .ok (.isub, 1) := by decide +kernel
theorem dX12_lookAtItem_225 : decode cX12_lookAtItem 225 = .ok (.iload_n 3, 1) := by decide +kernel
theorem dX12_lookAtItem_226 : decode cX12_lookAtItem 226 = .ok (.iload_n 2, 1) := by decide +kernel
theorem dX12_lookAtItem_227 : decode cX12_lookAtItem 227 = .ok (.iconst 1, 1) := by decide +kernel
theorem dX12_lookAtItem_228 : decode cX12_lookAtItem 228 = .ok (.isub, 1) := by decide +kernel
theorem dX12_lookAtItem_229 : decode cX12_lookAtItem 229 = .ok (.lconst 0, 1) := by decide +kernel
theorem dX12_lookAtItem_230 : decode cX12_lookAtItem 230 = .ok (.invokevirtual 186, 3) := by decide +kernel
theorem dX12_lookAtItem_233 : decode cX12_lookAtItem 233 = .ok (.ireturn, 1) := by decide +kernel
theorem dX12_lookAtItem_234 : decode cX12_lookAtItem 234 = .ok (.aload_n 0, 1) := by decide +kernel
theorem dX12_lookAtItem_235 : decode cX12_lookAtItem 235 = .ok (.iload_n 1, 1) := by decide +kernel
theorem dX12_lookAtItem_236 : decode cX12_lookAtItem 236 = .ok (.iload_n 2, 1) := by decide +kernel
theorem dX12_lookAtItem_237 : decode cX12_lookAtItem 237 = .ok (.invokevirtual 159, 3) := by decide +kernel
theorem dX12_lookAtItem_240 : decode cX12_lookAtItem 240 = .ok (.istore 4, 2) := by decide +kernel
theorem dX12_lookAtItem_242 : decode cX12_lookAtItem 242 = .ok (.iload 4, 2) := by decide +kernel
theorem dX12_lookAtItem_244 : decode cX12_lookAtItem 244 = .ok (.iconst (-1), 1) := by decide +kernel
theorem dX12_lookAtItem_245 : decode cX12_lookAtItem 245 = .ok (.if_icmp .eq 6, 3) := by decide +kernel
theorem dX12_lookAtItem_248 : decode cX12_lookAtItem 248 = .ok (.iload 4, 2) := by decide +kernel
theorem dX12_lookAtItem_250 : decode cX12_lookAtItem 250 = .ok (.ireturn, 1) := by decide +kernel
theorem dX12_lookAtItem_251 : decode cX12_lookAtItem 251 = .ok (.aload_n 0, 1) := by decide +kernel
theorem dX12_lookAtItem_252 : decode cX12_lookAtItem 252 = .ok (.getfield 122, 3) := by decide +kernel
theorem dX12_lookAtItem_255 : decode cX12_lookAtItem 255 = .ok (.iconst 3, 1) := by decide +kernel
theorem dX12_lookAtItem_256 : decode cX12_lookAtItem 256 = .ok (.if_icmp .ge 13, 3) := by decide +kernel
theorem dX12_lookAtItem_259 : decode cX12_lookAtItem 259 = .ok (.aload_n 0, 1) := by decide +kernel
theorem dX12_lookAtItem_260 : decode cX12_lookAtItem 260 = .ok (.aload_n 0, 1) := by decide +kernel
theorem dX12_lookAtItem_261 : decode cX12_lookAtItem 261 = .ok (.getfield 176, 3) := by decide +kernel
theorem dX12_lookAtItem_264 : decode cX12_lookAtItem 264 = .ok (.i2l, 1) := by decide +kernel
theorem dX12_lookAtItem_265 : decode cX12_lookAtItem 265 = .ok (.invokevirtual 182, 3) := by decide +kernel
theorem dX12_lookAtItem_268 : decode cX12_lookAtItem 268 = .ok (.ireturn, 1) := by decide +kernel
theorem dX12_lookAtItem_269 : decode cX12_lookAtItem 269 = .ok (.iconst (-1), 1) := by decide +kernel
theorem dX12_lookAtItem_270 : decode cX12_lookAtItem 270 = .ok (.ireturn, 1) := by decide +kernel
theorem dX12_meet_0 : decode cX12_meet 0 = .ok (.iconst 1, 1) := by decide +kernel
theorem dX12_meet_1 : decode cX12_meet 1 = .ok (.istore_n 2, 1) := by decide +kernel
theorem dX12_meet_2 : decode cX12_meet 2 = .ok (.aload_n 0, 1) := by decide +kernel
theorem dX12_meet_3 : decode cX12_meet 3 = .ok (.getfield 60, 3) := by decide +kernel
theorem dX12_meet_6 : decode cX12_meet 6 = .ok (.iconst 0, 1) := by decide +kernel
theorem dX12_meet_7 : decode cX12_meet 7 = .ok (.iload_n 1, 1) := by decide +kernel
theorem dX12_meet_8 : decode cX12_meet 8 = .ok (.iastore, 1) := by decide +kernel
theorem dX12_meet_9 : decode cX12_meet 9 = .ok (.iload_n 2, 1) := by decide +kernel
theorem dX12_meet_10 : decode cX12_meet 10 = .ok (.ifCond .le 220, 3) := by decide +kernel
theorem dX12_meet_13 : decode cX12_meet 13 = .ok (.aload_n 0, 1) := by decide +kernel
theorem dX12_meet_14 : decode cX12_meet 14 = .ok (.getfield 60, 3) := by decide +kernel
theorem dX12_meet_17 : decode cX12_meet 17 = .ok (.iload_n 2, 1) := by decide +kernel
theorem dX12_meet_18 : decode cX12_meet 18 = .ok (.iconst 1, 1) := by decide +kernel
theorem dX12_meet_19 : decode cX12_meet 19 = .ok (.isub, 1) := by decide +kernel
theorem dX12_meet_20 : decode cX12_meet 20 = .ok (.iaload, 1) := by decide +kernel
theorem dX12_meet_21 : decode cX12_meet 21 = .ok (.iconst 2, 1) := by decide +kernel
theorem dX12_meet_22 : decode cX12_meet 22 = .ok (.idiv, 1) := by decide +kernel
theorem dX12_meet_23 : decode cX12_meet 23 = .ok (.istore_n 3, 1) := by decide +kernel
theorem dX12_meet_24 : decode cX12_meet 24 = .ok (.aload_n 0, 1) := by decide +kernel
theorem dX12_meet_25 : decode cX12_meet 25 = .ok (.getfield 60, 3) := by decide +kernel
theorem dX12_meet_28 : decode cX12_meet 28 = .ok (.iload_n 2, 1) := by decide +kernel
theorem dX12_meet_29 : decode cX12_meet 29 = .ok (.iconst 1, 1) := by decide +kernel
theorem dX12_meet_30 : decode cX12_meet 30 = .ok (.isub, 1) := by decide +kernel
theorem dX12_meet_31 : decode cX12_meet 31 = .ok (.iaload, 1) := by decide +kernel
theorem dX12_meet_32 : decode cX12_meet 32 = .ok (.iconst 2, 1) := by decide +kernel
theorem dX12_meet_33 : decode cX12_meet 33 = .ok (.irem, 1) := by decide +kernel
theorem dX12_meet_34 : decode cX12_meet 34 = .ok (.iconst 1, 1) := by decide +kernel
theorem dX12_meet_35 : decode cX12_meet 35 = .ok (.if_icmp .ne 7, 3) := by decide +kernel
theorem dX12_meet_38 : decode cX12_meet 38 = .ok (.iconst 1, 1) := by decide +kernel
theorem dX12_meet_39 : decode cX12_meet 39 = .ok (.goto 4, 3) := by decide +kernel
theorem dX12_meet_42 : decode cX12_meet 42 = .ok (.iconst 0, 1) := by decide +kernel
theorem dX12_meet_43 : decode cX12_meet 43 = .ok (.istore 4, 2) := by decide +kernel
theorem dX12_meet_45 : decode cX12_meet 45 = .ok (.iload 4, 2) := by decide +kernel
theorem dX12_meet_47 : decode cX12_meet 47 = .ok (.ifCond .eq 12, 3) := by decide +kernel
theorem dX12_meet_50 : decode cX12_meet 50 = .ok (.aload_n 0, 1) := by decide +kernel
theorem dX12_meet_51 : decode cX12_meet 51 = .ok (.getfield 32, 3) := by decide +kernel
theorem dX12_meet_54 : decode cX12_meet 54 = .ok (.iload_n 3, 1) := by decide +kernel
theorem dX12_meet_55 : decode cX12_meet 55 = .ok (.iaload, 1) := by decide +kernel
theorem dX12_meet_56 : decode cX12_meet 56 = .ok (.goto 9, 3) := by decide +kernel
theorem dX12_meet_59 : decode cX12_meet 59 = .ok (.aload_n 0, 1) := by decide +kernel
theorem dX12_meet_60 : decode cX12_meet 60 = .ok (.getfield 29, 3) := by decide +kernel
theorem dX12_meet_63 : decode cX12_meet 63 = .ok (.iload_n 3, 1) := by decide +kernel
theorem dX12_meet_64 : decode cX12_meet 64 = .ok (.iaload, 1) := by decide +kernel
theorem dX12_meet_65 : decode cX12_meet 65 = .ok (.ifCond .eq 9, 3) := by decide +kernel
theorem dX12_meet_68 : decode cX12_meet 68 = .ok (.iinc 2 (-1), 3) := by decide +kernel
theorem dX12_meet_71 : decode cX12_meet 71 = .ok (.goto (-62), 3) := by decide +kernel
theorem dX12_meet_74 : decode cX12_meet 74 = .ok (.iload 4, 2) := by decide +kernel
theorem dX12_meet_76 : decode cX12_meet 76 = .ok (.ifCond .eq 20, 3) := by decide +kernel
theorem dX12_meet_79 : decode cX12_meet 79 = .ok (.aload_n 0, 1) := by decide +kernel
theorem dX12_meet_80 : decode cX12_meet 80 = .ok (.iload_n 3, 1) := by decide +kernel
theorem dX12_meet_81 : decode cX12_meet 81 = .ok (.sipush 400, 3) := by decide +kernel
theorem dX12_meet_84 : decode cX12_meet 84 = .ok (.idiv, 1) := by decide +kernel
theorem dX12_meet_85 : decode cX12_meet 85 = .ok (.iload_n 3, 1) := by decide +kernel
theorem dX12_meet_86 : decode cX12_meet 86 = .ok (.sipush 400, 3) := by decide +kernel
theorem dX12_meet_89 : decode cX12_meet 89 = .ok (.irem, 1) := by decide +kernel
theorem dX12_meet_90 : decode cX12_meet 90 = .ok (.invokevirtual 194, 3) := by decide +kernel
theorem dX12_meet_93 : decode cX12_meet 93 = .ok (.goto 17, 3) := by decide +kernel
theorem dX12_meet_96 : decode cX12_meet 96 = .ok (.aload_n 0, 1) := by decide +kernel
theorem dX12_meet_97 : decode cX12_meet 97 = .ok (.iload_n 3, 1) := by decide +kernel
theorem dX12_meet_98 : decode cX12_meet 98 = .ok (.sipush 400, 3) := by decide +kernel
theorem dX12_meet_101 : decode cX12_meet 101 = .ok (.idiv, 1) := by decide +kernel
theorem dX12_meet_102 : decode cX12_meet 102 = .ok (.iload_n 3, 1) := by decide +kernel
theorem dX12_meet_103 : decode cX12_meet 103 = .ok (.sipush 400, 3) := by decide +kernel
theorem dX12_meet_106 : decode cX12_meet 106 = .ok (.irem, 1) := by decide +kernel
theorem dX12_meet_107 : decode cX12_meet 107 = .ok (.invokevirtual 197, 3) := by decide +kernel
theorem dX12_meet_110 : decode cX12_meet 110 = .ok (.istore 5, 2) := by decide +kernel
theorem dX12_meet_112 : decode cX12_meet 112 = .ok (.iload 5, 2) := by decide +kernel
theorem dX12_meet_114 : decode cX12_meet 114 = .ok (.bipush (-2), 2) := by decide +kernel
theorem dX12_meet_116 : decode cX12_meet 116 = .ok (.if_icmp .ne 5, 3) := by decide +kernel
theorem dX12_meet_119 : decode cX12_meet 119 = .ok (.iconst 0, 1) := by decide +kernel
theorem dX12_meet_120 : decode cX12_meet 120 = .ok (.ireturn, 1) := by decide +kernel
theorem dX12_meet_121 : decode cX12_meet 121 = .ok (.iload 5, 2) := by decide +kernel
theorem dX12_meet_123 : decode cX12_meet 123 = .ok (.iconst (-1), 1) := by decide +kernel
theorem dX12_meet_124 : decode cX12_meet 124 = .ok (.if_icmp .eq 17, 3) := by decide +kernel
theorem dX12_meet_127 : decode cX12_meet 127 = .ok (.aload_n 0, 1) := by decide +kernel
theorem dX12_meet_128 : decode cX12_meet 128 = .ok (.getfield 60, 3) := by decide +kernel
theorem dX12_meet_131 : decode cX12_meet 131 = .ok (.iload_n 2, 1) := by decide +kernel
theorem dX12_meet_132 : decode cX12_meet 132 = .ok (.iload 5, 2) := by decide +kernel
theorem dX12_meet_134 : decode cX12_meet 134 = .ok (.iastore, 1) := by decide +kernel
theorem dX12_meet_135 : decode cX12_meet 135 = .ok (.iinc 2 1, 3) := by decide +kernel
theorem dX12_meet_138 : decode cX12_meet 138 = .ok (.goto (-129), 3) := by decide +kernel
theorem dX12_meet_141 : decode cX12_meet 141 = .ok (.aload_n 0, 1) := by decide +kernel
theorem dX12_meet_142 : decode cX12_meet 142 = .ok (.getfield 200, 3) := by decide +kernel
theorem dX12_meet_145 : decode cX12_meet 145 = .ok (.aload_n 0, 1) := by decide +kernel
theorem dX12_meet_146 : decode cX12_meet 146 = .ok (.getfield 50, 3) := by decide +kernel
theorem dX12_meet_149 : decode cX12_meet 149 = .ok (.if_icmp .ne 5, 3) := by decide +kernel
theorem dX12_meet_152 : decode cX12_meet 152 = .ok (.iconst 0, 1) := by decide +kernel
theorem dX12_meet_153 : decode cX12_meet 153 = .ok (.ireturn, 1) := by decide +kernel
theorem dX12_meet_154 : decode cX12_meet 154 = .ok (.aload_n 0, 1) := by decide +kernel
theorem dX12_meet_155 : decode cX12_meet 155 = .ok (.dup, 1) := by decide +kernel
theorem dX12_meet_156 : decode cX12_meet 156 = .ok (.getfield 200, 3) := by decide +kernel
theorem dX12_meet_159 : decode cX12_meet 159 = .ok (.iconst 1, 1) := by decide +kernel
theorem dX12_meet_160 : decode cX12_meet 160 = .ok (.iadd, 1) := by decide +kernel
theorem dX12_meet_161 : decode cX12_meet 161 = .ok (.putfield 200, 3) := by decide +kernel
theorem dX12_meet_164 : decode cX12_meet 164 = .ok (.iinc 2 (-1), 3) := by decide +kernel
theorem dX12_meet_167 : decode cX12_meet 167 = .ok (.iload 4, 2) := by decide +kernel
theorem dX12_meet_169 : decode cX12_meet 169 = .ok (.ifCond .eq 26, 3) := by decide +kernel
theorem dX12_meet_172 : decode cX12_meet 172 = .ok (.aload_n 0, 1) := by decide +kernel
theorem dX12_meet_173 : decode cX12_meet 173 = .ok (.getfield 32, 3) := by decide +kernel
theorem dX12_meet_176 : decode cX12_meet 176 = .ok (.iload_n 3, 1) := by decide +kernel
theorem dX12_meet_177 : decode cX12_meet 177 = .ok (.aload_n 0, 1) := by decide +kernel
theorem dX12_meet_178 : decode cX12_meet 178 = .ok (.getfield 122, 3) := by decide +kernel
theorem dX12_meet_181 : decode cX12_meet 181 = .ok (.iastore, 1) := by decide +kernel
theorem dX12_meet_182 : decode cX12_meet 182 = .ok (.aload_n 0, 1) := by decide +kernel
theorem dX12_meet_183 : decode cX12_meet 183 = .ok (.getfield 35, 3) := by decide +kernel
theorem dX12_meet_186 : decode cX12_meet 186 = .ok (.iload_n 3, 1) := by decide +kernel
theorem dX12_meet_187 : decode cX12_meet 187 = .ok (.aload_n 0, 1) := by decide +kernel
theorem dX12_meet_188 : decode cX12_meet 188 = .ok (.getfield 179, 3) := by decide +kernel
theorem dX12_meet_191 : decode cX12_meet 191 = .ok (.lastore, 1) := by decide +kernel
theorem dX12_meet_192 : decode cX12_meet 192 = .ok (.goto 35, 3) := by decide +kernel
theorem dX12_meet_195 : decode cX12_meet 195 = .ok (.aload_n 0, 1) := by decide +kernel
theorem dX12_meet_196 : decode cX12_meet 196 = .ok (.getfield 29, 3) := by decide +kernel
theorem dX12_meet_199 : decode cX12_meet 199 = .ok (.iload_n 3, 1) := by decide +kernel
theorem dX12_meet_200 : decode cX12_meet 200 = .ok (.aload_n 0, 1) := by decide +kernel
theorem dX12_meet_201 : decode cX12_meet 201 = .ok (.getfield 122, 3) := by decide +kernel
theorem dX12_meet_204 : decode cX12_meet 204 = .ok (.iastore, 1) := by decide +kernel
theorem dX12_meet_205 : decode cX12_meet 205 = .ok (.aload_n 0, 1) := by decide +kernel
theorem dX12_meet_206 : decode cX12_meet 206 = .ok (.getfield 38, 3) := by decide +kernel
theorem dX12_meet_209 : decode cX12_meet 209 = .ok (.iload_n 3, 1) := by decide +kernel
theorem dX12_meet_210 : decode cX12_meet 210 = .ok (.aload_n 0, 1) := by decide +kernel
theorem dX12_meet_211 : decode cX12_meet 211 = .ok (.getfield 125, 3) := by decide +kernel
theorem dX12_meet_214 : decode cX12_meet 214 = .ok (.iconst 1, 1) := by decide +kernel
theorem dX12_meet_215 : decode cX12_meet 215 = .ok (.iadd, 1) := by decide +kernel
theorem dX12_meet_216 : decode cX12_meet 216 = .ok (.iastore, 1) := by decide +kernel
theorem dX12_meet_217 : decode cX12_meet 217 = .ok (.aload_n 0, 1) := by decide +kernel
theorem dX12_meet_218 : decode cX12_meet 218 = .ok (.getfield 41, 3) := by decide +kernel
theorem dX12_meet_221 : decode cX12_meet 221 = .ok (.iload_n 3, 1) := by decide +kernel
theorem dX12_meet_222 : decode cX12_meet 222 = .ok (.aload_n 0, 1) := by decide +kernel
theorem dX12_meet_223 : decode cX12_meet 223 = .ok (.getfield 128, 3) := by decide +kernel
theorem dX12_meet_226 : decode cX12_meet 226 = .ok (.iastore, 1) := by decide +kernel
theorem dX12_meet_227 : decode cX12_meet 227 = .ok (.goto (-218), 3) := by decide +kernel
theorem dX12_meet_230 : decode cX12_meet 230 = .ok (.iconst 1, 1) := by decide +kernel
theorem dX12_meet_231 : decode cX12_meet 231 = .ok (.ireturn, 1) := by decide +kernel
theorem dX12_reach_0 : decode cX12_reach 0 = .ok (.iload_n 2, 1) := by decide +kernel
theorem dX12_reach_1 : decode cX12_reach 1 = .ok (.sipush 400, 3) := by decide +kernel
theorem dX12_reach_4 : decode cX12_reach 4 = .ok (.if_icmp .lt 6, 3) := by decide +kernel
theorem dX12_reach_7 : decode cX12_reach 7 = .ok (.bipush (-2), 2) := by decide +kernel
theorem dX12_reach_9 : decode cX12_reach 9 = .ok (.ireturn, 1) := by decide +kernel
theorem dX12_reach_10 : decode cX12_reach 10 = .ok (.aload_n 0, 1) := by decide +kernel
theorem dX12_reach_11 : decode cX12_reach 11 = .ok (.iconst 2, 1) := by decide +kernel
theorem dX12_reach_12 : decode cX12_reach 12 = .ok (.iload_n 1, 1) := by decide +kernel
theorem dX12_reach_13 : decode cX12_reach 13 = .ok (.iload_n 2, 1) := by decide +kernel
theorem dX12_reach_14 : decode cX12_reach 14 = .ok (.invokestatic 106, 3) := by decide +kernel
theorem dX12_reach_17 : decode cX12_reach 17 = .ok (.imul, 1) := by decide +kernel
theorem dX12_reach_18 : decode cX12_reach 18 = .ok (.invokevirtual 209, 3) := by decide +kernel
theorem dX12_reach_21 : decode cX12_reach 21 = .ok (.ifCond .eq 16, 3) := by decide +kernel
theorem dX12_reach_24 : decode cX12_reach 24 = .ok (.aload_n 0, 1) := by decide +kernel
theorem dX12_reach_25 : decode cX12_reach 25 = .ok (.getfield 29, 3) := by decide +kernel
theorem dX12_reach_28 : decode cX12_reach 28 = .ok (.iload_n 1, 1) := by decide +kernel
theorem dX12_reach_29 : decode cX12_reach 29 = .ok (.iload_n 2, 1) := by decide +kernel
theorem dX12_reach_30 : decode cX12_reach 30 = .ok (.invokestatic 106, 3) := by decide +kernel
theorem dX12_reach_33 : decode cX12_reach 33 = .ok (.iaload, 1) := by decide +kernel
theorem dX12_reach_34 : decode cX12_reach 34 = .ok (.goto 5, 3) := by decide +kernel
theorem dX12_reach_37 : decode cX12_reach 37 = .ok (.bipush (-2), 2) := by decide +kernel
theorem dX12_reach_39 : decode cX12_reach 39 = .ok (.ireturn, 1) := by decide +kernel
theorem dX12_work_0 : decode cX12_work 0 = .ok (.aload_n 0, 1) := by decide +kernel
theorem dX12_work_1 : decode cX12_work 1 = .ok (.iload_n 1, 1) := by decide +kernel
theorem dX12_work_2 : decode cX12_work 2 = .ok (.iload_n 2, 1) := by decide +kernel
theorem dX12_work_3 : decode cX12_work 3 = .ok (.invokevirtual 116, 3) := by decide +kernel
theorem dX12_work_6 : decode cX12_work 6 = .ok (.istore_n 3, 1) := by decide +kernel
theorem dX12_work_7 : decode cX12_work 7 = .ok (.aload_n 0, 1) := by decide +kernel
theorem dX12_work_8 : decode cX12_work 8 = .ok (.iconst 2, 1) := by decide +kernel
theorem dX12_work_9 : decode cX12_work 9 = .ok (.iload_n 3, 1) := by decide +kernel
theorem dX12_work_10 : decode cX12_work 10 = .ok (.imul, 1) := by decide +kernel
theorem dX12_work_11 : decode cX12_work 11 = .ok (.iconst 1, 1) := by decide +kernel
theorem dX12_work_12 : decode cX12_work 12 = .ok (.iadd, 1) := by decide +kernel
theorem dX12_work_13 : decode cX12_work 13 = .ok (.invokevirtual 209, 3) := by decide +kernel
theorem dX12_work_16 : decode cX12_work 16 = .ok (.ifCond .ne 6, 3) := by decide +kernel
theorem dX12_work_19 : decode cX12_work 19 = .ok (.bipush (-2), 2) := by decide +kernel
theorem dX12_work_21 : decode cX12_work 21 = .ok (.ireturn, 1) := by decide +kernel
theorem dX12_work_22 : decode cX12_work 22 = .ok (.aload_n 0, 1) := by decide +kernel
theorem dX12_work_23 : decode cX12_work 23 = .ok (.aload_n 0, 1) := by decide +kernel
theorem dX12_work_24 : decode cX12_work 24 = .ok (.getfield 35, 3) := by decide +kernel
theorem dX12_work_27 : decode cX12_work 27 = .ok (.iload_n 3, 1) := by decide +kernel
theorem dX12_work_28 : decode cX12_work 28 = .ok (.laload, 1) := by decide +kernel
theorem dX12_work_29 : decode cX12_work 29 = .ok (.putfield 119, 3) := by decide +kernel
theorem dX12_work_32 : decode cX12_work 32 = .ok (.aload_n 0, 1) := by decide +kernel
theorem dX12_work_33 : decode cX12_work 33 = .ok (.getfield 32, 3) := by decide +kernel
theorem dX12_work_36 : decode cX12_work 36 = .ok (.iload_n 3, 1) := by decide +kernel
theorem dX12_work_37 : decode cX12_work 37 = .ok (.iaload, 1) := by decide +kernel
theorem dX12_work_38 : decode cX12_work 38 = .ok (.ireturn, 1) := by decide +kernel
theorem dX12_at_0 : decode cX12_at 0 = .ok (.aload_n 0, 1) := by decide +kernel
theorem dX12_at_1 : decode cX12_at 1 = .ok (.iconst 0, 1) := by decide +kernel
theorem dX12_at_2 : decode cX12_at 2 = .ok (.putfield 63, 3) := by decide +kernel
theorem dX12_at_5 : decode cX12_at 5 = .ok (.aload_n 0, 1) := by decide +kernel
theorem dX12_at_6 : decode cX12_at 6 = .ok (.iload_n 1, 1) := by decide +kernel
theorem dX12_at_7 : decode cX12_at 7 = .ok (.invokevirtual 84, 3) := by decide +kernel
theorem dX12_at_10 : decode cX12_at 10 = .ok (.ifCond .ne 10, 3) := by decide +kernel
theorem dX12_at_13 : decode cX12_at 13 = .ok (.aload_n 0, 1) := by decide +kernel
theorem dX12_at_14 : decode cX12_at 14 = .ok (.iconst 1, 1) := by decide +kernel
theorem dX12_at_15 : decode cX12_at 15 = .ok (.invokevirtual 72, 3) := by decide +kernel
theorem dX12_at_18 : decode cX12_at 18 = .ok (.i2l, 1) := by decide +kernel
theorem dX12_at_19 : decode cX12_at 19 = .ok (.lreturn, 1) := by decide +kernel
theorem dX12_at_20 : decode cX12_at 20 = .ok (.iload_n 2, 1) := by decide +kernel
theorem dX12_at_21 : decode cX12_at 21 = .ok (.ifCond .ge 10, 3) := by decide +kernel
theorem dX12_at_24 : decode cX12_at 24 = .ok (.aload_n 0, 1) := by decide +kernel
theorem dX12_at_25 : decode cX12_at 25 = .ok (.iconst 2, 1) := by decide +kernel
theorem dX12_at_26 : decode cX12_at 26 = .ok (.invokevirtual 72, 3) := by decide +kernel
theorem dX12_at_29 : decode cX12_at 29 = .ok (.i2l, 1) := by decide +kernel
theorem dX12_at_30 : decode cX12_at 30 = .ok (.lreturn, 1) := by decide +kernel
theorem dX12_at_31 : decode cX12_at 31 = .ok (.aload_n 0, 1) := by decide +kernel
theorem dX12_at_32 : decode cX12_at 32 = .ok (.invokevirtual 220, 3) := by decide +kernel
theorem dX12_at_35 : decode cX12_at 35 = .ok (.iconst 0, 1) := by decide +kernel
theorem dX12_at_36 : decode cX12_at 36 = .ok (.istore_n 3, 1) := by decide +kernel
theorem dX12_at_37 : decode cX12_at 37 = .ok (.iload_n 3, 1) := by decide +kernel
theorem dX12_at_38 : decode cX12_at 38 = .ok (.iload_n 2, 1) := by decide +kernel
theorem dX12_at_39 : decode cX12_at 39 = .ok (.if_icmp .gt 43, 3) := by decide +kernel
theorem dX12_at_42 : decode cX12_at 42 = .ok (.aload_n 0, 1) := by decide +kernel
theorem dX12_at_43 : decode cX12_at 43 = .ok (.iload_n 1, 1) := by decide +kernel
theorem dX12_at_44 : decode cX12_at 44 = .ok (.iload_n 3, 1) := by decide +kernel
theorem dX12_at_45 : decode cX12_at 45 = .ok (.invokevirtual 223, 3) := by decide +kernel
theorem dX12_at_48 : decode cX12_at 48 = .ok (.istore 4, 2) := by decide +kernel
theorem dX12_at_50 : decode cX12_at 50 = .ok (.iload 4, 2) := by decide +kernel
theorem dX12_at_52 : decode cX12_at 52 = .ok (.iconst 2, 1) := by decide +kernel
theorem dX12_at_53 : decode cX12_at 53 = .ok (.if_icmp .ne 10, 3) := by decide +kernel
theorem dX12_at_56 : decode cX12_at 56 = .ok (.aload_n 0, 1) := by decide +kernel
theorem dX12_at_57 : decode cX12_at 57 = .ok (.bipush 6, 2) := by decide +kernel
theorem dX12_at_59 : decode cX12_at 59 = .ok (.invokevirtual 216, 3) := by decide +kernel
theorem dX12_at_62 : decode cX12_at 62 = .ok (.lreturn, 1) := by decide +kernel
theorem dX12_at_63 : decode cX12_at 63 = .ok (.iload 4, 2) := by decide +kernel
theorem dX12_at_65 : decode cX12_at 65 = .ok (.iconst 1, 1) := by decide +kernel
theorem dX12_at_66 : decode cX12_at 66 = .ok (.if_icmp .eq 10, 3) := by decide +kernel
theorem dX12_at_69 : decode cX12_at 69 = .ok (.aload_n 0, 1) := by decide +kernel
theorem dX12_at_70 : decode cX12_at 70 = .ok (.iload 4, 2) := by decide +kernel
theorem dX12_at_72 : decode cX12_at 72 = .ok (.invokevirtual 226, 3) := by decide +kernel
theorem dX12_at_75 : decode cX12_at 75 = .ok (.lreturn, 1) := by decide +kernel
theorem dX12_at_76 : decode cX12_at 76 = .ok (.iinc 3 1, 3) := by decide +kernel
theorem dX12_at_79 : decode cX12_at 79 = .ok (.goto (-42), 3) := by decide +kernel
theorem dX12_at_82 : decode cX12_at 82 = .ok (.aload_n 0, 1) := by decide +kernel
theorem dX12_at_83 : decode cX12_at 83 = .ok (.aload_n 0, 1) := by decide +kernel
theorem dX12_at_84 : decode cX12_at 84 = .ok (.iload_n 1, 1) := by decide +kernel
theorem dX12_at_85 : decode cX12_at 85 = .ok (.iload_n 2, 1) := by decide +kernel
theorem dX12_at_86 : decode cX12_at 86 = .ok (.invokevirtual 229, 3) := by decide +kernel
theorem dX12_at_89 : decode cX12_at 89 = .ok (.invokevirtual 226, 3) := by decide +kernel
theorem dX12_at_92 : decode cX12_at 92 = .ok (.lreturn, 1) := by decide +kernel
theorem dX12_size_0 : decode cX12_size 0 = .ok (.aload_n 0, 1) := by decide +kernel
theorem dX12_size_1 : decode cX12_size 1 = .ok (.iconst 0, 1) := by decide +kernel
theorem dX12_size_2 : decode cX12_size 2 = .ok (.putfield 63, 3) := by decide +kernel
theorem dX12_size_5 : decode cX12_size 5 = .ok (.aload_n 0, 1) := by decide +kernel
theorem dX12_size_6 : decode cX12_size 6 = .ok (.iload_n 1, 1) := by decide +kernel
theorem dX12_size_7 : decode cX12_size 7 = .ok (.invokevirtual 84, 3) := by decide +kernel
theorem dX12_size_10 : decode cX12_size 10 = .ok (.ifCond .ne 10, 3) := by decide +kernel
theorem dX12_size_13 : decode cX12_size 13 = .ok (.aload_n 0, 1) := by decide +kernel
theorem dX12_size_14 : decode cX12_size 14 = .ok (.iconst 1, 1) := by decide +kernel
theorem dX12_size_15 : decode cX12_size 15 = .ok (.invokevirtual 72, 3) := by decide +kernel
theorem dX12_size_18 : decode cX12_size 18 = .ok (.i2l, 1) := by decide +kernel
theorem dX12_size_19 : decode cX12_size 19 = .ok (.lreturn, 1) := by decide +kernel
theorem dX12_size_20 : decode cX12_size 20 = .ok (.aload_n 0, 1) := by decide +kernel
theorem dX12_size_21 : decode cX12_size 21 = .ok (.invokevirtual 220, 3) := by decide +kernel
theorem dX12_size_24 : decode cX12_size 24 = .ok (.iconst 0, 1) := by decide +kernel
theorem dX12_size_25 : decode cX12_size 25 = .ok (.istore_n 2, 1) := by decide +kernel
theorem dX12_size_26 : decode cX12_size 26 = .ok (.aload_n 0, 1) := by decide +kernel
theorem dX12_size_27 : decode cX12_size 27 = .ok (.iload_n 1, 1) := by decide +kernel
theorem dX12_size_28 : decode cX12_size 28 = .ok (.iload_n 2, 1) := by decide +kernel
theorem dX12_size_29 : decode cX12_size 29 = .ok (.invokevirtual 223, 3) := by decide +kernel
theorem dX12_size_32 : decode cX12_size 32 = .ok (.istore_n 3, 1) := by decide +kernel
theorem dX12_size_33 : decode cX12_size 33 = .ok (.iload_n 3, 1) := by decide +kernel
theorem dX12_size_34 : decode cX12_size 34 = .ok (.iconst 2, 1) := by decide +kernel
theorem dX12_size_35 : decode cX12_size 35 = .ok (.if_icmp .ne 6, 3) := by decide +kernel
theorem dX12_size_38 : decode cX12_size 38 = .ok (.iload_n 2, 1) := by decide +kernel
theorem dX12_size_39 : decode cX12_size 39 = .ok (.i2l, 1) := by decide +kernel
theorem dX12_size_40 : decode cX12_size 40 = .ok (.lreturn, 1) := by decide +kernel
theorem dX12_size_41 : decode cX12_size 41 = .ok (.iload_n 3, 1) := by decide +kernel
theorem dX12_size_42 : decode cX12_size 42 = .ok (.iconst 1, 1) := by decide +kernel
theorem dX12_size_43 : decode cX12_size 43 = .ok (.if_icmp .eq 9, 3) := by decide +kernel
theorem dX12_size_46 : decode cX12_size 46 = .ok (.aload_n 0, 1) := by decide +kernel
theorem dX12_size_47 : decode cX12_size 47 = .ok (.iload_n 3, 1) := by decide +kernel
theorem dX12_size_48 : decode cX12_size 48 = .ok (.invokevirtual 226, 3) := by decide +kernel
theorem dX12_size_51 : decode cX12_size 51 = .ok (.lreturn, 1) := by decide +kernel
theorem dX12_size_52 : decode cX12_size 52 = .ok (.iinc 2 1, 3) := by decide +kernel
theorem dX12_size_55 : decode cX12_size 55 = .ok (.goto (-29), 3) := by decide +kernel
abbrev wmX12_lookAtCell : List Cond := .code yX12_lookAtCell cX12_lookAtCell 4 (some .int) :: WM
theorem hd_X12_lookAtCell : yX12_lookAtCell.cls = RX12 ∧ yX12_lookAtCell.cls ≠ "java/lang/invoke/MethodHandle" ∧ yX12_lookAtCell.cls ≠ "java/lang/invoke/VarHandle" ∧ (parseMethodDescriptor yX12_lookAtCell.desc).map (fun d => d.parameters.length) = some 2 := by decide +kernel
def B_X12_lookAtCell_12  (K12 : (Nat → Int32) → (Nat → Int64) → (Nat → Nat → Int32) → (Nat → Nat → Int64) → Int32 → Int32 → Int32 → Prop) (Q : Int32 → (Nat → Int32) → (Nat → Int64) → (Nat → Nat → Int32) → (Nat → Nat → Int64) → Prop) (v : Nat → Int32) (w : Nat → Int64) (fi : Nat → Nat → Int32) (fl : Nat → Nat → Int64) (x1 : Int32) (x2 : Int32) (x3 : Int32) : Prop := ((x2 ≤ x3) → (vp_in x1 24 ∧ vp_in x1 24 ∧ (((fi 1 x1.toNatClampNeg) = 0) → ((((fi 2 x1.toNatClampNeg) ≤ x2) → (vp_in x1 24 ∧ ((¬ (fi 4 x1.toNatClampNeg) = 1) → (P_X12_as v w fi fl 2 (fun r4 v4 w4 fi4 fl4 => Q r4 v4 w4 fi4 fl4))) ∧ (((fi 4 x1.toNatClampNeg) = 1) → (P_X12_as v w fi fl 3 (fun r5 v5 w5 fi5 fl5 => Q r5 v5 w5 fi5 fl5))))) ∧ ((¬ (fi 2 x1.toNatClampNeg) ≤ x2) → (P_X12_as v w fi fl 1 (fun r6 v6 w6 fi6 fl6 => Q r6 v6 w6 fi6 fl6))))) ∧ ((¬ (fi 1 x1.toNatClampNeg) = 0) → (((fi 1 x1.toNatClampNeg) = 1) → (P_X12_as v w fi fl 1 (fun r7 v7 w7 fi7 fl7 => Q r7 v7 w7 fi7 fl7))) ∧ ((¬ (fi 1 x1.toNatClampNeg) = 1) → (((fi 1 x1.toNatClampNeg) = 2) → (P_X12_as v w fi fl 1 (fun r8 v8 w8 fi8 fl8 => Q r8 v8 w8 fi8 fl8))) ∧ ((¬ (fi 1 x1.toNatClampNeg) = 2) → (((fi 1 x1.toNatClampNeg) = 3) → (P_X12_like v w fi fl (fi 2 x1.toNatClampNeg) x2 0 (fun r9 v9 w9 fi9 fl9 => Q r9 v9 w9 fi9 fl9))) ∧ ((¬ (fi 1 x1.toNatClampNeg) = 3) → (((fi 1 x1.toNatClampNeg) = 4) → (vp_in x1 24 ∧ P_X12_lookAtBoth v w fi fl (fi 2 x1.toNatClampNeg) (fi 3 x1.toNatClampNeg) x2 (fun r11 v11 w11 fi11 fl11 => Q r11 v11 w11 fi11 fl11))) ∧ ((¬ (fi 1 x1.toNatClampNeg) = 4) → (((fi 1 x1.toNatClampNeg) = 5) → (((¬ x2 = 0) → (P_X12_like v w fi fl (fi 2 x1.toNatClampNeg) (x2 - 1) 0 (fun r12 v12 w12 fi12 fl12 => Q r12 v12 w12 fi12 fl12))) ∧ ((x2 = 0) → (P_X12_as v w fi fl 1 (fun r13 v13 w13 fi13 fl13 => Q r13 v13 w13 fi13 fl13))))) ∧ ((¬ (fi 1 x1.toNatClampNeg) = 5) → (((fi 1 x1.toNatClampNeg) = 6) → (vp_in x1 24 ∧ ((¬ x2 = (fi 4 x1.toNatClampNeg)) → (P_X12_like v w fi fl (fi 2 x1.toNatClampNeg) x2 1 (fun r15 v15 w15 fi15 fl15 => Q r15 v15 w15 fi15 fl15))) ∧ ((x2 = (fi 4 x1.toNatClampNeg)) → (P_X12_as v w fi fl 2 (fun r16 v16 w16 fi16 fl16 => Q r16 v16 w16 fi16 fl16))))) ∧ ((¬ (fi 1 x1.toNatClampNeg) = 6) → (((fi 1 x1.toNatClampNeg) = 7) → (vp_in x1 24 ∧ P_X12_like v w fi fl (fi 2 x1.toNatClampNeg) ((fi 4 x1.toNatClampNeg) + x2) 1 (fun r18 v18 w18 fi18 fl18 => Q r18 v18 w18 fi18 fl18))) ∧ ((¬ (fi 1 x1.toNatClampNeg) = 7) → (((fi 1 x1.toNatClampNeg) = 8) → (P_X12_lookOn v w fi fl x1 (fi 2 x1.toNatClampNeg) x2 (fun r19 v19 w19 fi19 fl19 => Q r19 v19 w19 fi19 fl19))) ∧ ((¬ (fi 1 x1.toNatClampNeg) = 8) → (((fi 1 x1.toNatClampNeg) = 9) → (P_X12_lookAtDuring v w fi fl x1 (fi 2 x1.toNatClampNeg) x2 (fun r20 v20 w20 fi20 fl20 => Q r20 v20 w20 fi20 fl20))) ∧ ((¬ (fi 1 x1.toNatClampNeg) = 9) → (((fi 1 x1.toNatClampNeg) = 10) → (((x2 ≤ 0) → (P_X12_lookOn v w fi fl x1 (fi 2 x1.toNatClampNeg) 0 (fun r21 v21 w21 fi21 fl21 => Q r21 v21 w21 fi21 fl21))) ∧ ((¬ x2 ≤ 0) → (P_X12_place x1 0 (fun r22 => vp_in r22 9600 ∧ P_X12_like v w fi fl (fi 2 x1.toNatClampNeg) ((fi 11 r22.toNatClampNeg) + x2) 1 (fun r24 v24 w24 fi24 fl24 => Q r24 v24 w24 fi24 fl24)))))) ∧ ((¬ (fi 1 x1.toNatClampNeg) = 10) → (((fi 1 x1.toNatClampNeg) = 11) → (vp_in x1 24 ∧ P_X12_lookAtJoin v w fi fl (fi 2 x1.toNatClampNeg) (fi 3 x1.toNatClampNeg) x2 (fun r26 v26 w26 fi26 fl26 => Q r26 v26 w26 fi26 fl26))) ∧ ((¬ (fi 1 x1.toNatClampNeg) = 11) → (((fi 1 x1.toNatClampNeg) = 12) → (P_X12_lookAtRound v w fi fl (fi 2 x1.toNatClampNeg) x2 (fun r27 v27 w27 fi27 fl27 => Q r27 v27 w27 fi27 fl27))) ∧ ((¬ (fi 1 x1.toNatClampNeg) = 12) → (((fi 1 x1.toNatClampNeg) = 13) → (P_X12_lookAtAll v w fi fl x1 (fi 2 x1.toNatClampNeg) x2 (fun r28 v28 w28 fi28 fl28 => Q r28 v28 w28 fi28 fl28))) ∧ ((¬ (fi 1 x1.toNatClampNeg) = 13) → (((fi 1 x1.toNatClampNeg) = 14) → (P_X12_lookAtAll v w fi fl x1 (fi 2 x1.toNatClampNeg) x2 (fun r29 v29 w29 fi29 fl29 => Q r29 v29 w29 fi29 fl29))) ∧ ((¬ (fi 1 x1.toNatClampNeg) = 14) → (((fi 1 x1.toNatClampNeg) = 15) → (P_X12_lookOn v w fi fl x1 (fi 2 x1.toNatClampNeg) x2 (fun r30 v30 w30 fi30 fl30 => Q r30 v30 w30 fi30 fl30))) ∧ ((¬ (fi 1 x1.toNatClampNeg) = 15) → (((fi 1 x1.toNatClampNeg) = 16) → (((¬ x2 = 0) → (P_X12_lookAtRun v w fi fl x1 (x2 - 1) (fun r31 v31 w31 fi31 fl31 => Q r31 v31 w31 fi31 fl31))) ∧ ((x2 = 0) → (P_X12_like v w fi fl (fi 2 x1.toNatClampNeg) 0 0 (fun r32 v32 w32 fi32 fl32 => Q r32 v32 w32 fi32 fl32))))) ∧ ((¬ (fi 1 x1.toNatClampNeg) = 16) → (P_X12_lookAtAll v w fi fl x1 (fi 2 x1.toNatClampNeg) x2 (fun r33 v33 w33 fi33 fl33 => Q r33 v33 w33 fi33 fl33))))))))))))))))))))) ∧ ((¬ x2 ≤ x3) → (P_X12_place x1 x3 (fun r34 => vp_in r34 9600 ∧ ((¬ (fi 7 r34.toNatClampNeg) = 0) → (K12 v w fi fl x1 x2 (x3 + 1))) ∧ (((fi 7 r34.toNatClampNeg) = 0) → (P_X12_place x1 x3 (fun r36 => Q (2 * r36) v w fi fl))))))
def P_X12_lookAtCell_12  (Q : Int32 → (Nat → Int32) → (Nat → Int64) → (Nat → Nat → Int32) → (Nat → Nat → Int64) → Prop) : Nat → (Nat → Int32) → (Nat → Int64) → (Nat → Nat → Int32) → (Nat → Nat → Int64) → Int32 → Int32 → Int32 → Prop
  | 0 => fun _ _ _ _ _ _ _ => False
  | n + 1 => B_X12_lookAtCell_12  (P_X12_lookAtCell_12  Q n) Q
set_option maxHeartbeats 4000000 in
set_option maxRecDepth 100000 in
theorem b_X12_lookAtCell_12 {p : Program} {l : Launch} {e : Env} {s : State} {m : MethodId} {args : Array Value} {below : List Frame} {meth : Method} {c : Code} {A : Nat → Prop} {dC : Nat → ClassId} {dI : Nat → Nat → Nat} {a : Nat → Nat} {ca : Nat → ClassId} {g0 : Nat}  {K12 : (Nat → Int32) → (Nat → Int64) → (Nat → Nat → Int32) → (Nat → Nat → Int64) → Int32 → Int32 → Int32 → Prop} {Q : Int32 → (Nat → Int32) → (Nat → Int64) → (Nat → Nat → Int32) → (Nat → Nat → Int64) → Prop} (hx : p.tables.exec = Jvm.exec) (hb : c.code = cX12_lookAtCell) (hr : meth.sig.returnType = (some .int)) (hts : ∀ w ∈ WM, w.before args s = true) (hown : s.vm.findClass RX12 = some m.cls) (hlocks : meth.locks = false) (hml : c.maxLocals = 4) (hA : ∀ q : Nat, s.heap.size ≤ q → A q) (hK : va_K (dC, dI) vwCl (mT ca) s)  (hK12 : ∀ (v : Nat → Int32) (w : Nat → Int64) (fi : Nat → Nat → Int32) (fl : Nat → Nat → Int64) (x1 : Int32) (x2 : Int32) (x3 : Int32) (H : Heap) (locs : List Loc) (ls : Array Slot), K12 v w fi fl x1 x2 x3 → va_P (dC, dI) vwCl (mW a ca g0 v w fi fl) H → va_D A (mW a ca g0 v w fi fl) → va_S A s.heap H locs → lv_has ls 4 [(0, .ref g0), (1, .int x1), (2, .int x2), (3, .int x3)] → W p l e (headSpec wmX12_lookAtCell ({ frames := 20, cells := 0, slots := 0, locals := 300 })).room s m args below meth c H locs 0 0 (MQ below (va_Qi (S := MSt) (pI Q) (mB dC dI a ca g0 A) A) args s 0 0 A) (F0 m 12 ls [])) : ∀ (v : Nat → Int32) (w : Nat → Int64) (fi : Nat → Nat → Int32) (fl : Nat → Nat → Int64) (x1 : Int32) (x2 : Int32) (x3 : Int32) (H : Heap) (locs : List Loc) (ls : Array Slot), B_X12_lookAtCell_12  K12 Q v w fi fl x1 x2 x3 → va_P (dC, dI) vwCl (mW a ca g0 v w fi fl) H → va_D A (mW a ca g0 v w fi fl) → va_S A s.heap H locs → lv_has ls 4 [(0, .ref g0), (1, .int x1), (2, .int x2), (3, .int x3)] → W p l e (headSpec wmX12_lookAtCell ({ frames := 20, cells := 0, slots := 0, locals := 300 })).room s m args below meth c H locs 0 0 (MQ below (va_Qi (S := MSt) (pI Q) (mB dC dI a ca g0 A) A) args s 0 0 A) (F0 m 12 ls []) := by
  intro v w fi fl x1 x2 x3 H locs ls h hP hD hS hl
  unfold B_X12_lookAtCell_12 at h
  refine lv_iload_n hx hb dX12_lookAtCell_12 rfl (lv_at hl 3 rfl) ?_
  refine lv_iload_n hx hb dX12_lookAtCell_13 rfl (lv_at hl 2 rfl) ?_
  refine lv_icmp_ge (tgt := 44) hx hb dX12_lookAtCell_14 (by decide) (fun c_14 => ?_) (fun c_14 => ?_)
  · have h := h.1 c_14
    refine lv_aload_n hx hb dX12_lookAtCell_44 rfl (lv_at hl 0 rfl) ?_
    refine va_get (D := (dC, dI)) (ci := 11) (v := .ref (a 2)) (C := RX12) (T := TX12) (N := 32) hx hb hts hinM hown hK hP 0 rfl rfl 2 (by decide) (hts _ mwM_3) (fun _ h9 => h9) rfl dX12_lookAtCell_45 ?_
    refine lv_iload_n hx hb dX12_lookAtCell_48 rfl (lv_at hl 1 rfl) ?_
    obtain ⟨hi1, h⟩ := h
    refine va_iald (f := fi 2) hx hb hK hP 2 1 rfl rfl hi1 dX12_lookAtCell_49 ?_
    refine lv_istore_n (lv' := [(3, .int (fi 2 x1.toNatClampNeg)), (0, .ref g0), (1, .int x1), (2, .int x2)]) hx hb dX12_lookAtCell_50 rfl hl (by decide) rfl (fun ls hl => ?_)
    refine lv_aload_n hx hb dX12_lookAtCell_51 rfl (lv_at hl 1 rfl) ?_
    refine va_get (D := (dC, dI)) (ci := 11) (v := .ref (a 1)) (C := RX12) (T := TX12) (N := 32) hx hb hts hinM hown hK hP 0 rfl rfl 1 (by decide) (hts _ mwM_2) (fun _ h9 => h9) rfl dX12_lookAtCell_52 ?_
    refine lv_iload_n hx hb dX12_lookAtCell_55 rfl (lv_at hl 2 rfl) ?_
    obtain ⟨hi2, h⟩ := h
    refine va_iald (f := fi 1) hx hb hK hP 1 0 rfl rfl hi2 dX12_lookAtCell_56 ?_
    by_cases hs_57_0 : (fi 1 x1.toNatClampNeg) = 0
    · have h := h.1 hs_57_0
      refine lv_tableIn (tgt := 140) hx hb dX12_lookAtCell_57 (by rw [hs_57_0]; decide) (by rw [hs_57_0]; decide) (off := 83) (by rw [hs_57_0]; decide) (by decide) ?_
      refine lv_aload_n hx hb dX12_lookAtCell_140 rfl (lv_at hl 1 rfl) ?_
      refine lv_iload_n hx hb dX12_lookAtCell_141 rfl (lv_at hl 3 rfl) ?_
      refine lv_iload_n hx hb dX12_lookAtCell_142 rfl (lv_at hl 0 rfl) ?_
      refine lv_icmp_ge (tgt := 150) hx hb dX12_lookAtCell_143 (by decide) (fun c_143 => ?_) (fun c_143 => ?_)
      · have h := h.1 c_143
        refine lv_aload_n hx hb dX12_lookAtCell_150 rfl (lv_at hl 1 rfl) ?_
        refine va_get (D := (dC, dI)) (ci := 11) (v := .ref (a 4)) (C := RX12) (T := TX12) (N := 32) hx hb hts hinM hown hK hP 0 rfl rfl 4 (by decide) (hts _ mwM_5) (fun _ h9 => h9) rfl dX12_lookAtCell_151 ?_
        refine lv_iload_n hx hb dX12_lookAtCell_154 rfl (lv_at hl 2 rfl) ?_
        obtain ⟨hi3, h⟩ := h
        refine va_iald (f := fi 4) hx hb hK hP 4 3 rfl rfl hi3 dX12_lookAtCell_155 ?_
        refine lv_iconst (v := 1) hx hb dX12_lookAtCell_156 (by decide) ?_
        refine lv_icmp_ne (tgt := 164) hx hb dX12_lookAtCell_157 (by decide) (fun c_157 => ?_) (fun c_157 => ?_)
        · have h := h.1 c_157
          refine lv_iconst (v := 2) hx hb dX12_lookAtCell_164 (by decide) ?_
          refine m_calli (rm := ({ frames := 4, cells := 0, slots := 0, locals := 60 })) (As := [.int 2]) (rest := []) (fun sz => p_X12_as l dC dI a ca g0 _ _ _ _ 2 _ h sz) ⟨hx, hb, hml, hown, hts⟩ (cwV 1 hts (g_V gdM mwM_80 mwM_81 mwM_82 mwM_22 mwM_79) rfl rfl rfl hd_X12_as ⟨Nat.le_of_ble_eq_true rfl, Nat.le_of_ble_eq_true rfl⟩) rfl hl.1 rfl hK hP hD hS hA (Nat.le_of_ble_eq_true rfl) ⟨Nat.le_of_ble_eq_true rfl, Nat.le_of_ble_eq_true rfl⟩ dX12_lookAtCell_165 (fun r4 v4 w4 fi4 fl4 H locs h hP hD hS => ?_)
          exact W.iret (v := r4) hx hb hr (fun t ht hW => ⟨⟨_, (v4, w4, fi4, fl4), rfl, h, by rw [ht]; exact hP, va_K.moved hW.alike hK, hD⟩, hS.F ht⟩) hS.2.2 dX12_lookAtCell_168
        · have h := h.2 c_157
          refine lv_iconst (v := 3) hx hb dX12_lookAtCell_160 (by decide) ?_
          refine lv_goto (tgt := 165) hx hb dX12_lookAtCell_161 (by decide) ?_
          refine m_calli (rm := ({ frames := 4, cells := 0, slots := 0, locals := 60 })) (As := [.int 3]) (rest := []) (fun sz => p_X12_as l dC dI a ca g0 _ _ _ _ 3 _ h sz) ⟨hx, hb, hml, hown, hts⟩ (cwV 1 hts (g_V gdM mwM_80 mwM_81 mwM_82 mwM_22 mwM_79) rfl rfl rfl hd_X12_as ⟨Nat.le_of_ble_eq_true rfl, Nat.le_of_ble_eq_true rfl⟩) rfl hl.1 rfl hK hP hD hS hA (Nat.le_of_ble_eq_true rfl) ⟨Nat.le_of_ble_eq_true rfl, Nat.le_of_ble_eq_true rfl⟩ dX12_lookAtCell_165 (fun r5 v5 w5 fi5 fl5 H locs h hP hD hS => ?_)
          exact W.iret (v := r5) hx hb hr (fun t ht hW => ⟨⟨_, (v5, w5, fi5, fl5), rfl, h, by rw [ht]; exact hP, va_K.moved hW.alike hK, hD⟩, hS.F ht⟩) hS.2.2 dX12_lookAtCell_168
      · have h := h.2 c_143
        refine lv_iconst (v := 1) hx hb dX12_lookAtCell_146 (by decide) ?_
        refine lv_goto (tgt := 165) hx hb dX12_lookAtCell_147 (by decide) ?_
        refine m_calli (rm := ({ frames := 4, cells := 0, slots := 0, locals := 60 })) (As := [.int 1]) (rest := []) (fun sz => p_X12_as l dC dI a ca g0 _ _ _ _ 1 _ h sz) ⟨hx, hb, hml, hown, hts⟩ (cwV 1 hts (g_V gdM mwM_80 mwM_81 mwM_82 mwM_22 mwM_79) rfl rfl rfl hd_X12_as ⟨Nat.le_of_ble_eq_true rfl, Nat.le_of_ble_eq_true rfl⟩) rfl hl.1 rfl hK hP hD hS hA (Nat.le_of_ble_eq_true rfl) ⟨Nat.le_of_ble_eq_true rfl, Nat.le_of_ble_eq_true rfl⟩ dX12_lookAtCell_165 (fun r6 v6 w6 fi6 fl6 H locs h hP hD hS => ?_)
        exact W.iret (v := r6) hx hb hr (fun t ht hW => ⟨⟨_, (v6, w6, fi6, fl6), rfl, h, by rw [ht]; exact hP, va_K.moved hW.alike hK, hD⟩, hS.F ht⟩) hS.2.2 dX12_lookAtCell_168
    replace h := h.2 hs_57_0
    by_cases hs_57_1 : (fi 1 x1.toNatClampNeg) = 1
    · have h := h.1 hs_57_1
      refine lv_tableIn (tgt := 169) hx hb dX12_lookAtCell_57 (by rw [hs_57_1]; decide) (by rw [hs_57_1]; decide) (off := 112) (by rw [hs_57_1]; decide) (by decide) ?_
      refine lv_aload_n hx hb dX12_lookAtCell_169 rfl (lv_at hl 1 rfl) ?_
      refine lv_iconst (v := 1) hx hb dX12_lookAtCell_170 (by decide) ?_
      refine m_calli (rm := ({ frames := 4, cells := 0, slots := 0, locals := 60 })) (As := [.int 1]) (rest := []) (fun sz => p_X12_as l dC dI a ca g0 _ _ _ _ 1 _ h sz) ⟨hx, hb, hml, hown, hts⟩ (cwV 1 hts (g_V gdM mwM_80 mwM_81 mwM_82 mwM_22 mwM_79) rfl rfl rfl hd_X12_as ⟨Nat.le_of_ble_eq_true rfl, Nat.le_of_ble_eq_true rfl⟩) rfl hl.1 rfl hK hP hD hS hA (Nat.le_of_ble_eq_true rfl) ⟨Nat.le_of_ble_eq_true rfl, Nat.le_of_ble_eq_true rfl⟩ dX12_lookAtCell_171 (fun r7 v7 w7 fi7 fl7 H locs h hP hD hS => ?_)
      exact W.iret (v := r7) hx hb hr (fun t ht hW => ⟨⟨_, (v7, w7, fi7, fl7), rfl, h, by rw [ht]; exact hP, va_K.moved hW.alike hK, hD⟩, hS.F ht⟩) hS.2.2 dX12_lookAtCell_174
    replace h := h.2 hs_57_1
    by_cases hs_57_2 : (fi 1 x1.toNatClampNeg) = 2
    · have h := h.1 hs_57_2
      refine lv_tableIn (tgt := 169) hx hb dX12_lookAtCell_57 (by rw [hs_57_2]; decide) (by rw [hs_57_2]; decide) (off := 112) (by rw [hs_57_2]; decide) (by decide) ?_
      refine lv_aload_n hx hb dX12_lookAtCell_169 rfl (lv_at hl 1 rfl) ?_
      refine lv_iconst (v := 1) hx hb dX12_lookAtCell_170 (by decide) ?_
      refine m_calli (rm := ({ frames := 4, cells := 0, slots := 0, locals := 60 })) (As := [.int 1]) (rest := []) (fun sz => p_X12_as l dC dI a ca g0 _ _ _ _ 1 _ h sz) ⟨hx, hb, hml, hown, hts⟩ (cwV 1 hts (g_V gdM mwM_80 mwM_81 mwM_82 mwM_22 mwM_79) rfl rfl rfl hd_X12_as ⟨Nat.le_of_ble_eq_true rfl, Nat.le_of_ble_eq_true rfl⟩) rfl hl.1 rfl hK hP hD hS hA (Nat.le_of_ble_eq_true rfl) ⟨Nat.le_of_ble_eq_true rfl, Nat.le_of_ble_eq_true rfl⟩ dX12_lookAtCell_171 (fun r8 v8 w8 fi8 fl8 H locs h hP hD hS => ?_)
      exact W.iret (v := r8) hx hb hr (fun t ht hW => ⟨⟨_, (v8, w8, fi8, fl8), rfl, h, by rw [ht]; exact hP, va_K.moved hW.alike hK, hD⟩, hS.F ht⟩) hS.2.2 dX12_lookAtCell_174
    replace h := h.2 hs_57_2
    by_cases hs_57_3 : (fi 1 x1.toNatClampNeg) = 3
    · have h := h.1 hs_57_3
      refine lv_tableIn (tgt := 175) hx hb dX12_lookAtCell_57 (by rw [hs_57_3]; decide) (by rw [hs_57_3]; decide) (off := 118) (by rw [hs_57_3]; decide) (by decide) ?_
      refine lv_aload_n hx hb dX12_lookAtCell_175 rfl (lv_at hl 1 rfl) ?_
      refine lv_iload_n hx hb dX12_lookAtCell_176 rfl (lv_at hl 0 rfl) ?_
      refine lv_iload_n hx hb dX12_lookAtCell_177 rfl (lv_at hl 3 rfl) ?_
      refine lv_iconst (v := 0) hx hb dX12_lookAtCell_178 (by decide) ?_
      refine m_calli (rm := ({ frames := 12, cells := 0, slots := 0, locals := 180 })) (As := [.int (fi 2 x1.toNatClampNeg), .int x2, .int 0]) (rest := []) (fun sz => p_X12_like l dC dI a ca g0 _ _ _ _ (fi 2 x1.toNatClampNeg) x2 0 _ h sz) ⟨hx, hb, hml, hown, hts⟩ (cwV 3 hts (g_V gdM mwM_91 mwM_92 mwM_93 mwM_22 mwM_90) rfl rfl rfl hd_X12_like ⟨Nat.le_of_ble_eq_true rfl, Nat.le_of_ble_eq_true rfl⟩) rfl hl.1 rfl hK hP hD hS hA (Nat.le_of_ble_eq_true rfl) ⟨Nat.le_of_ble_eq_true rfl, Nat.le_of_ble_eq_true rfl⟩ dX12_lookAtCell_179 (fun r9 v9 w9 fi9 fl9 H locs h hP hD hS => ?_)
      exact W.iret (v := r9) hx hb hr (fun t ht hW => ⟨⟨_, (v9, w9, fi9, fl9), rfl, h, by rw [ht]; exact hP, va_K.moved hW.alike hK, hD⟩, hS.F ht⟩) hS.2.2 dX12_lookAtCell_182
    replace h := h.2 hs_57_3
    by_cases hs_57_4 : (fi 1 x1.toNatClampNeg) = 4
    · have h := h.1 hs_57_4
      refine lv_tableIn (tgt := 183) hx hb dX12_lookAtCell_57 (by rw [hs_57_4]; decide) (by rw [hs_57_4]; decide) (off := 126) (by rw [hs_57_4]; decide) (by decide) ?_
      refine lv_aload_n hx hb dX12_lookAtCell_183 rfl (lv_at hl 1 rfl) ?_
      refine lv_iload_n hx hb dX12_lookAtCell_184 rfl (lv_at hl 0 rfl) ?_
      refine lv_aload_n hx hb dX12_lookAtCell_185 rfl (lv_at hl 1 rfl) ?_
      refine va_get (D := (dC, dI)) (ci := 11) (v := .ref (a 3)) (C := RX12) (T := TX12) (N := 32) hx hb hts hinM hown hK hP 0 rfl rfl 3 (by decide) (hts _ mwM_4) (fun _ h9 => h9) rfl dX12_lookAtCell_186 ?_
      refine lv_iload_n hx hb dX12_lookAtCell_189 rfl (lv_at hl 2 rfl) ?_
      obtain ⟨hi10, h⟩ := h
      refine va_iald (f := fi 3) hx hb hK hP 3 2 rfl rfl hi10 dX12_lookAtCell_190 ?_
      refine lv_iload_n hx hb dX12_lookAtCell_191 rfl (lv_at hl 3 rfl) ?_
      refine m_calli (rm := ({ frames := 16, cells := 0, slots := 0, locals := 240 })) (As := [.int (fi 2 x1.toNatClampNeg), .int (fi 3 x1.toNatClampNeg), .int x2]) (rest := []) (fun sz => p_X12_lookAtBoth l dC dI a ca g0 _ _ _ _ (fi 2 x1.toNatClampNeg) (fi 3 x1.toNatClampNeg) x2 _ h sz) ⟨hx, hb, hml, hown, hts⟩ (cwV 3 hts (g_V gdM mwM_108 mwM_109 mwM_110 mwM_22 mwM_107) rfl rfl rfl hd_X12_lookAtBoth ⟨Nat.le_of_ble_eq_true rfl, Nat.le_of_ble_eq_true rfl⟩) rfl hl.1 rfl hK hP hD hS hA (Nat.le_of_ble_eq_true rfl) ⟨Nat.le_of_ble_eq_true rfl, Nat.le_of_ble_eq_true rfl⟩ dX12_lookAtCell_192 (fun r11 v11 w11 fi11 fl11 H locs h hP hD hS => ?_)
      exact W.iret (v := r11) hx hb hr (fun t ht hW => ⟨⟨_, (v11, w11, fi11, fl11), rfl, h, by rw [ht]; exact hP, va_K.moved hW.alike hK, hD⟩, hS.F ht⟩) hS.2.2 dX12_lookAtCell_195
    replace h := h.2 hs_57_4
    by_cases hs_57_5 : (fi 1 x1.toNatClampNeg) = 5
    · have h := h.1 hs_57_5
      refine lv_tableIn (tgt := 196) hx hb dX12_lookAtCell_57 (by rw [hs_57_5]; decide) (by rw [hs_57_5]; decide) (off := 139) (by rw [hs_57_5]; decide) (by decide) ?_
      refine lv_iload_n hx hb dX12_lookAtCell_196 rfl (lv_at hl 3 rfl) ?_
      refine lv_if_ne (tgt := 208) hx hb dX12_lookAtCell_197 (by decide) (fun c_197 => ?_) (fun c_197 => ?_)
      · have h := h.1 c_197
        refine lv_aload_n hx hb dX12_lookAtCell_208 rfl (lv_at hl 1 rfl) ?_
        refine lv_iload_n hx hb dX12_lookAtCell_209 rfl (lv_at hl 0 rfl) ?_
        refine lv_iload_n hx hb dX12_lookAtCell_210 rfl (lv_at hl 3 rfl) ?_
        refine lv_iconst (v := 1) hx hb dX12_lookAtCell_211 (by decide) ?_
        refine lv_isub hx hb dX12_lookAtCell_212 ?_
        refine lv_iconst (v := 0) hx hb dX12_lookAtCell_213 (by decide) ?_
        refine m_calli (rm := ({ frames := 12, cells := 0, slots := 0, locals := 180 })) (As := [.int (fi 2 x1.toNatClampNeg), .int (x2 - 1), .int 0]) (rest := []) (fun sz => p_X12_like l dC dI a ca g0 _ _ _ _ (fi 2 x1.toNatClampNeg) (x2 - 1) 0 _ h sz) ⟨hx, hb, hml, hown, hts⟩ (cwV 3 hts (g_V gdM mwM_91 mwM_92 mwM_93 mwM_22 mwM_90) rfl rfl rfl hd_X12_like ⟨Nat.le_of_ble_eq_true rfl, Nat.le_of_ble_eq_true rfl⟩) rfl hl.1 rfl hK hP hD hS hA (Nat.le_of_ble_eq_true rfl) ⟨Nat.le_of_ble_eq_true rfl, Nat.le_of_ble_eq_true rfl⟩ dX12_lookAtCell_214 (fun r12 v12 w12 fi12 fl12 H locs h hP hD hS => ?_)
        exact W.iret (v := r12) hx hb hr (fun t ht hW => ⟨⟨_, (v12, w12, fi12, fl12), rfl, h, by rw [ht]; exact hP, va_K.moved hW.alike hK, hD⟩, hS.F ht⟩) hS.2.2 dX12_lookAtCell_217
      · have h := h.2 c_197
        refine lv_aload_n hx hb dX12_lookAtCell_200 rfl (lv_at hl 1 rfl) ?_
        refine lv_iconst (v := 1) hx hb dX12_lookAtCell_201 (by decide) ?_
        refine m_calli (rm := ({ frames := 4, cells := 0, slots := 0, locals := 60 })) (As := [.int 1]) (rest := []) (fun sz => p_X12_as l dC dI a ca g0 _ _ _ _ 1 _ h sz) ⟨hx, hb, hml, hown, hts⟩ (cwV 1 hts (g_V gdM mwM_80 mwM_81 mwM_82 mwM_22 mwM_79) rfl rfl rfl hd_X12_as ⟨Nat.le_of_ble_eq_true rfl, Nat.le_of_ble_eq_true rfl⟩) rfl hl.1 rfl hK hP hD hS hA (Nat.le_of_ble_eq_true rfl) ⟨Nat.le_of_ble_eq_true rfl, Nat.le_of_ble_eq_true rfl⟩ dX12_lookAtCell_202 (fun r13 v13 w13 fi13 fl13 H locs h hP hD hS => ?_)
        refine lv_goto (tgt := 217) hx hb dX12_lookAtCell_205 (by decide) ?_
        exact W.iret (v := r13) hx hb hr (fun t ht hW => ⟨⟨_, (v13, w13, fi13, fl13), rfl, h, by rw [ht]; exact hP, va_K.moved hW.alike hK, hD⟩, hS.F ht⟩) hS.2.2 dX12_lookAtCell_217
    replace h := h.2 hs_57_5
    by_cases hs_57_6 : (fi 1 x1.toNatClampNeg) = 6
    · have h := h.1 hs_57_6
      refine lv_tableIn (tgt := 218) hx hb dX12_lookAtCell_57 (by rw [hs_57_6]; decide) (by rw [hs_57_6]; decide) (off := 161) (by rw [hs_57_6]; decide) (by decide) ?_
      refine lv_iload_n hx hb dX12_lookAtCell_218 rfl (lv_at hl 3 rfl) ?_
      refine lv_aload_n hx hb dX12_lookAtCell_219 rfl (lv_at hl 1 rfl) ?_
      refine va_get (D := (dC, dI)) (ci := 11) (v := .ref (a 4)) (C := RX12) (T := TX12) (N := 32) hx hb hts hinM hown hK hP 0 rfl rfl 4 (by decide) (hts _ mwM_5) (fun _ h9 => h9) rfl dX12_lookAtCell_220 ?_
      refine lv_iload_n hx hb dX12_lookAtCell_223 rfl (lv_at hl 2 rfl) ?_
      obtain ⟨hi14, h⟩ := h
      refine va_iald (f := fi 4) hx hb hK hP 4 3 rfl rfl hi14 dX12_lookAtCell_224 ?_
      refine lv_icmp_ne (tgt := 236) hx hb dX12_lookAtCell_225 (by decide) (fun c_225 => ?_) (fun c_225 => ?_)
      · have h := h.1 c_225
        refine lv_aload_n hx hb dX12_lookAtCell_236 rfl (lv_at hl 1 rfl) ?_
        refine lv_iload_n hx hb dX12_lookAtCell_237 rfl (lv_at hl 0 rfl) ?_
        refine lv_iload_n hx hb dX12_lookAtCell_238 rfl (lv_at hl 3 rfl) ?_
        refine lv_iconst (v := 1) hx hb dX12_lookAtCell_239 (by decide) ?_
        refine m_calli (rm := ({ frames := 12, cells := 0, slots := 0, locals := 180 })) (As := [.int (fi 2 x1.toNatClampNeg), .int x2, .int 1]) (rest := []) (fun sz => p_X12_like l dC dI a ca g0 _ _ _ _ (fi 2 x1.toNatClampNeg) x2 1 _ h sz) ⟨hx, hb, hml, hown, hts⟩ (cwV 3 hts (g_V gdM mwM_91 mwM_92 mwM_93 mwM_22 mwM_90) rfl rfl rfl hd_X12_like ⟨Nat.le_of_ble_eq_true rfl, Nat.le_of_ble_eq_true rfl⟩) rfl hl.1 rfl hK hP hD hS hA (Nat.le_of_ble_eq_true rfl) ⟨Nat.le_of_ble_eq_true rfl, Nat.le_of_ble_eq_true rfl⟩ dX12_lookAtCell_240 (fun r15 v15 w15 fi15 fl15 H locs h hP hD hS => ?_)
        exact W.iret (v := r15) hx hb hr (fun t ht hW => ⟨⟨_, (v15, w15, fi15, fl15), rfl, h, by rw [ht]; exact hP, va_K.moved hW.alike hK, hD⟩, hS.F ht⟩) hS.2.2 dX12_lookAtCell_243
      · have h := h.2 c_225
        refine lv_aload_n hx hb dX12_lookAtCell_228 rfl (lv_at hl 1 rfl) ?_
        refine lv_iconst (v := 2) hx hb dX12_lookAtCell_229 (by decide) ?_
        refine m_calli (rm := ({ frames := 4, cells := 0, slots := 0, locals := 60 })) (As := [.int 2]) (rest := []) (fun sz => p_X12_as l dC dI a ca g0 _ _ _ _ 2 _ h sz) ⟨hx, hb, hml, hown, hts⟩ (cwV 1 hts (g_V gdM mwM_80 mwM_81 mwM_82 mwM_22 mwM_79) rfl rfl rfl hd_X12_as ⟨Nat.le_of_ble_eq_true rfl, Nat.le_of_ble_eq_true rfl⟩) rfl hl.1 rfl hK hP hD hS hA (Nat.le_of_ble_eq_true rfl) ⟨Nat.le_of_ble_eq_true rfl, Nat.le_of_ble_eq_true rfl⟩ dX12_lookAtCell_230 (fun r16 v16 w16 fi16 fl16 H locs h hP hD hS => ?_)
        refine lv_goto (tgt := 243) hx hb dX12_lookAtCell_233 (by decide) ?_
        exact W.iret (v := r16) hx hb hr (fun t ht hW => ⟨⟨_, (v16, w16, fi16, fl16), rfl, h, by rw [ht]; exact hP, va_K.moved hW.alike hK, hD⟩, hS.F ht⟩) hS.2.2 dX12_lookAtCell_243
    replace h := h.2 hs_57_6
    by_cases hs_57_7 : (fi 1 x1.toNatClampNeg) = 7
    · have h := h.1 hs_57_7
      refine lv_tableIn (tgt := 244) hx hb dX12_lookAtCell_57 (by rw [hs_57_7]; decide) (by rw [hs_57_7]; decide) (off := 187) (by rw [hs_57_7]; decide) (by decide) ?_
      refine lv_aload_n hx hb dX12_lookAtCell_244 rfl (lv_at hl 1 rfl) ?_
      refine lv_iload_n hx hb dX12_lookAtCell_245 rfl (lv_at hl 0 rfl) ?_
      refine lv_aload_n hx hb dX12_lookAtCell_246 rfl (lv_at hl 1 rfl) ?_
      refine va_get (D := (dC, dI)) (ci := 11) (v := .ref (a 4)) (C := RX12) (T := TX12) (N := 32) hx hb hts hinM hown hK hP 0 rfl rfl 4 (by decide) (hts _ mwM_5) (fun _ h9 => h9) rfl dX12_lookAtCell_247 ?_
      refine lv_iload_n hx hb dX12_lookAtCell_250 rfl (lv_at hl 2 rfl) ?_
      obtain ⟨hi17, h⟩ := h
      refine va_iald (f := fi 4) hx hb hK hP 4 3 rfl rfl hi17 dX12_lookAtCell_251 ?_
      refine lv_iload_n hx hb dX12_lookAtCell_252 rfl (lv_at hl 3 rfl) ?_
      refine lv_iadd hx hb dX12_lookAtCell_253 ?_
      refine lv_iconst (v := 1) hx hb dX12_lookAtCell_254 (by decide) ?_
      refine m_calli (rm := ({ frames := 12, cells := 0, slots := 0, locals := 180 })) (As := [.int (fi 2 x1.toNatClampNeg), .int ((fi 4 x1.toNatClampNeg) + x2), .int 1]) (rest := []) (fun sz => p_X12_like l dC dI a ca g0 _ _ _ _ (fi 2 x1.toNatClampNeg) ((fi 4 x1.toNatClampNeg) + x2) 1 _ h sz) ⟨hx, hb, hml, hown, hts⟩ (cwV 3 hts (g_V gdM mwM_91 mwM_92 mwM_93 mwM_22 mwM_90) rfl rfl rfl hd_X12_like ⟨Nat.le_of_ble_eq_true rfl, Nat.le_of_ble_eq_true rfl⟩) rfl hl.1 rfl hK hP hD hS hA (Nat.le_of_ble_eq_true rfl) ⟨Nat.le_of_ble_eq_true rfl, Nat.le_of_ble_eq_true rfl⟩ dX12_lookAtCell_255 (fun r18 v18 w18 fi18 fl18 H locs h hP hD hS => ?_)
      exact W.iret (v := r18) hx hb hr (fun t ht hW => ⟨⟨_, (v18, w18, fi18, fl18), rfl, h, by rw [ht]; exact hP, va_K.moved hW.alike hK, hD⟩, hS.F ht⟩) hS.2.2 dX12_lookAtCell_258
    replace h := h.2 hs_57_7
    by_cases hs_57_8 : (fi 1 x1.toNatClampNeg) = 8
    · have h := h.1 hs_57_8
      refine lv_tableIn (tgt := 259) hx hb dX12_lookAtCell_57 (by rw [hs_57_8]; decide) (by rw [hs_57_8]; decide) (off := 202) (by rw [hs_57_8]; decide) (by decide) ?_
      refine lv_aload_n hx hb dX12_lookAtCell_259 rfl (lv_at hl 1 rfl) ?_
      refine lv_iload_n hx hb dX12_lookAtCell_260 rfl (lv_at hl 2 rfl) ?_
      refine lv_iload_n hx hb dX12_lookAtCell_261 rfl (lv_at hl 0 rfl) ?_
      refine lv_iload_n hx hb dX12_lookAtCell_262 rfl (lv_at hl 3 rfl) ?_
      refine m_calli (rm := ({ frames := 16, cells := 0, slots := 0, locals := 240 })) (As := [.int x1, .int (fi 2 x1.toNatClampNeg), .int x2]) (rest := []) (fun sz => p_X12_lookOn l dC dI a ca g0 _ _ _ _ x1 (fi 2 x1.toNatClampNeg) x2 _ h sz) ⟨hx, hb, hml, hown, hts⟩ (cwV 3 hts (g_V gdM mwM_112 mwM_113 mwM_114 mwM_22 mwM_111) rfl rfl rfl hd_X12_lookOn ⟨Nat.le_of_ble_eq_true rfl, Nat.le_of_ble_eq_true rfl⟩) rfl hl.1 rfl hK hP hD hS hA (Nat.le_of_ble_eq_true rfl) ⟨Nat.le_of_ble_eq_true rfl, Nat.le_of_ble_eq_true rfl⟩ dX12_lookAtCell_263 (fun r19 v19 w19 fi19 fl19 H locs h hP hD hS => ?_)
      exact W.iret (v := r19) hx hb hr (fun t ht hW => ⟨⟨_, (v19, w19, fi19, fl19), rfl, h, by rw [ht]; exact hP, va_K.moved hW.alike hK, hD⟩, hS.F ht⟩) hS.2.2 dX12_lookAtCell_266
    replace h := h.2 hs_57_8
    by_cases hs_57_9 : (fi 1 x1.toNatClampNeg) = 9
    · have h := h.1 hs_57_9
      refine lv_tableIn (tgt := 267) hx hb dX12_lookAtCell_57 (by rw [hs_57_9]; decide) (by rw [hs_57_9]; decide) (off := 210) (by rw [hs_57_9]; decide) (by decide) ?_
      refine lv_aload_n hx hb dX12_lookAtCell_267 rfl (lv_at hl 1 rfl) ?_
      refine lv_iload_n hx hb dX12_lookAtCell_268 rfl (lv_at hl 2 rfl) ?_
      refine lv_iload_n hx hb dX12_lookAtCell_269 rfl (lv_at hl 0 rfl) ?_
      refine lv_iload_n hx hb dX12_lookAtCell_270 rfl (lv_at hl 3 rfl) ?_
      refine m_calli (rm := ({ frames := 16, cells := 0, slots := 0, locals := 240 })) (As := [.int x1, .int (fi 2 x1.toNatClampNeg), .int x2]) (rest := []) (fun sz => p_X12_lookAtDuring l dC dI a ca g0 _ _ _ _ x1 (fi 2 x1.toNatClampNeg) x2 _ h sz) ⟨hx, hb, hml, hown, hts⟩ (cwV 3 hts (g_V gdM mwM_116 mwM_117 mwM_118 mwM_22 mwM_115) rfl rfl rfl hd_X12_lookAtDuring ⟨Nat.le_of_ble_eq_true rfl, Nat.le_of_ble_eq_true rfl⟩) rfl hl.1 rfl hK hP hD hS hA (Nat.le_of_ble_eq_true rfl) ⟨Nat.le_of_ble_eq_true rfl, Nat.le_of_ble_eq_true rfl⟩ dX12_lookAtCell_271 (fun r20 v20 w20 fi20 fl20 H locs h hP hD hS => ?_)
      exact W.iret (v := r20) hx hb hr (fun t ht hW => ⟨⟨_, (v20, w20, fi20, fl20), rfl, h, by rw [ht]; exact hP, va_K.moved hW.alike hK, hD⟩, hS.F ht⟩) hS.2.2 dX12_lookAtCell_274
    replace h := h.2 hs_57_9
    by_cases hs_57_10 : (fi 1 x1.toNatClampNeg) = 10
    · have h := h.1 hs_57_10
      refine lv_tableIn (tgt := 275) hx hb dX12_lookAtCell_57 (by rw [hs_57_10]; decide) (by rw [hs_57_10]; decide) (off := 218) (by rw [hs_57_10]; decide) (by decide) ?_
      refine lv_iload_n hx hb dX12_lookAtCell_275 rfl (lv_at hl 3 rfl) ?_
      refine lv_if_le (tgt := 300) hx hb dX12_lookAtCell_276 (by decide) (fun c_276 => ?_) (fun c_276 => ?_)
      · have h := h.1 c_276
        refine lv_aload_n hx hb dX12_lookAtCell_300 rfl (lv_at hl 1 rfl) ?_
        refine lv_iload_n hx hb dX12_lookAtCell_301 rfl (lv_at hl 2 rfl) ?_
        refine lv_iload_n hx hb dX12_lookAtCell_302 rfl (lv_at hl 0 rfl) ?_
        refine lv_iconst (v := 0) hx hb dX12_lookAtCell_303 (by decide) ?_
        refine m_calli (rm := ({ frames := 16, cells := 0, slots := 0, locals := 240 })) (As := [.int x1, .int (fi 2 x1.toNatClampNeg), .int 0]) (rest := []) (fun sz => p_X12_lookOn l dC dI a ca g0 _ _ _ _ x1 (fi 2 x1.toNatClampNeg) 0 _ h sz) ⟨hx, hb, hml, hown, hts⟩ (cwV 3 hts (g_V gdM mwM_112 mwM_113 mwM_114 mwM_22 mwM_111) rfl rfl rfl hd_X12_lookOn ⟨Nat.le_of_ble_eq_true rfl, Nat.le_of_ble_eq_true rfl⟩) rfl hl.1 rfl hK hP hD hS hA (Nat.le_of_ble_eq_true rfl) ⟨Nat.le_of_ble_eq_true rfl, Nat.le_of_ble_eq_true rfl⟩ dX12_lookAtCell_304 (fun r21 v21 w21 fi21 fl21 H locs h hP hD hS => ?_)
        exact W.iret (v := r21) hx hb hr (fun t ht hW => ⟨⟨_, (v21, w21, fi21, fl21), rfl, h, by rw [ht]; exact hP, va_K.moved hW.alike hK, hD⟩, hS.F ht⟩) hS.2.2 dX12_lookAtCell_307
      · have h := h.2 c_276
        refine lv_aload_n hx hb dX12_lookAtCell_279 rfl (lv_at hl 1 rfl) ?_
        refine lv_iload_n hx hb dX12_lookAtCell_280 rfl (lv_at hl 0 rfl) ?_
        refine lv_aload_n hx hb dX12_lookAtCell_281 rfl (lv_at hl 1 rfl) ?_
        refine va_get (D := (dC, dI)) (ci := 11) (v := .ref (a 11)) (C := RX12) (T := TX12) (N := 32) hx hb hts hinM hown hK hP 0 rfl rfl 11 (by decide) (hts _ mwM_50) (fun _ h9 => h9) rfl dX12_lookAtCell_282 ?_
        refine lv_iload_n hx hb dX12_lookAtCell_285 rfl (lv_at hl 2 rfl) ?_
        refine lv_iconst (v := 0) hx hb dX12_lookAtCell_286 (by decide) ?_
        refine s_calli (rm := ({ frames := 4, cells := 0, slots := 0, locals := 60 })) (As := [.int x1, .int 0]) (rest := [.ref (a 11), .int (fi 2 x1.toNatClampNeg), .ref g0]) (fun sz => p_X12_place l dC dI x1 0 _ h sz) ⟨hx, hb, hml, hown, hts⟩ (va_cwS 2 hts (g_S gdM mwM_45 mwM_46 mwM_22 mwM_44) rfl rfl rfl hd_X12_place ⟨Nat.le_of_ble_eq_true rfl, Nat.le_of_ble_eq_true rfl⟩) rfl hl.1 rfl hP hD hS hA (Nat.le_of_ble_eq_true rfl) ⟨Nat.le_of_ble_eq_true rfl, Nat.le_of_ble_eq_true rfl⟩ dX12_lookAtCell_287 (fun r22 H locs h hP hS => ?_)
        obtain ⟨hi23, h⟩ := h
        refine va_iald (f := fi 11) hx hb hK hP 11 10 rfl rfl hi23 dX12_lookAtCell_290 ?_
        refine lv_iload_n hx hb dX12_lookAtCell_291 rfl (lv_at hl 3 rfl) ?_
        refine lv_iadd hx hb dX12_lookAtCell_292 ?_
        refine lv_iconst (v := 1) hx hb dX12_lookAtCell_293 (by decide) ?_
        refine m_calli (rm := ({ frames := 12, cells := 0, slots := 0, locals := 180 })) (As := [.int (fi 2 x1.toNatClampNeg), .int ((fi 11 r22.toNatClampNeg) + x2), .int 1]) (rest := []) (fun sz => p_X12_like l dC dI a ca g0 _ _ _ _ (fi 2 x1.toNatClampNeg) ((fi 11 r22.toNatClampNeg) + x2) 1 _ h sz) ⟨hx, hb, hml, hown, hts⟩ (cwV 3 hts (g_V gdM mwM_91 mwM_92 mwM_93 mwM_22 mwM_90) rfl rfl rfl hd_X12_like ⟨Nat.le_of_ble_eq_true rfl, Nat.le_of_ble_eq_true rfl⟩) rfl hl.1 rfl hK hP hD hS hA (Nat.le_of_ble_eq_true rfl) ⟨Nat.le_of_ble_eq_true rfl, Nat.le_of_ble_eq_true rfl⟩ dX12_lookAtCell_294 (fun r24 v24 w24 fi24 fl24 H locs h hP hD hS => ?_)
        refine lv_goto (tgt := 307) hx hb dX12_lookAtCell_297 (by decide) ?_
        exact W.iret (v := r24) hx hb hr (fun t ht hW => ⟨⟨_, (v24, w24, fi24, fl24), rfl, h, by rw [ht]; exact hP, va_K.moved hW.alike hK, hD⟩, hS.F ht⟩) hS.2.2 dX12_lookAtCell_307
    replace h := h.2 hs_57_10
    by_cases hs_57_11 : (fi 1 x1.toNatClampNeg) = 11
    · have h := h.1 hs_57_11
      refine lv_tableIn (tgt := 308) hx hb dX12_lookAtCell_57 (by rw [hs_57_11]; decide) (by rw [hs_57_11]; decide) (off := 251) (by rw [hs_57_11]; decide) (by decide) ?_
      refine lv_aload_n hx hb dX12_lookAtCell_308 rfl (lv_at hl 1 rfl) ?_
      refine lv_iload_n hx hb dX12_lookAtCell_309 rfl (lv_at hl 0 rfl) ?_
      refine lv_aload_n hx hb dX12_lookAtCell_310 rfl (lv_at hl 1 rfl) ?_
      refine va_get (D := (dC, dI)) (ci := 11) (v := .ref (a 3)) (C := RX12) (T := TX12) (N := 32) hx hb hts hinM hown hK hP 0 rfl rfl 3 (by decide) (hts _ mwM_4) (fun _ h9 => h9) rfl dX12_lookAtCell_311 ?_
      refine lv_iload_n hx hb dX12_lookAtCell_314 rfl (lv_at hl 2 rfl) ?_
      obtain ⟨hi25, h⟩ := h
      refine va_iald (f := fi 3) hx hb hK hP 3 2 rfl rfl hi25 dX12_lookAtCell_315 ?_
      refine lv_iload_n hx hb dX12_lookAtCell_316 rfl (lv_at hl 3 rfl) ?_
      refine m_calli (rm := ({ frames := 16, cells := 0, slots := 0, locals := 240 })) (As := [.int (fi 2 x1.toNatClampNeg), .int (fi 3 x1.toNatClampNeg), .int x2]) (rest := []) (fun sz => p_X12_lookAtJoin l dC dI a ca g0 _ _ _ _ (fi 2 x1.toNatClampNeg) (fi 3 x1.toNatClampNeg) x2 _ h sz) ⟨hx, hb, hml, hown, hts⟩ (cwV 3 hts (g_V gdM mwM_120 mwM_121 mwM_122 mwM_22 mwM_119) rfl rfl rfl hd_X12_lookAtJoin ⟨Nat.le_of_ble_eq_true rfl, Nat.le_of_ble_eq_true rfl⟩) rfl hl.1 rfl hK hP hD hS hA (Nat.le_of_ble_eq_true rfl) ⟨Nat.le_of_ble_eq_true rfl, Nat.le_of_ble_eq_true rfl⟩ dX12_lookAtCell_317 (fun r26 v26 w26 fi26 fl26 H locs h hP hD hS => ?_)
      exact W.iret (v := r26) hx hb hr (fun t ht hW => ⟨⟨_, (v26, w26, fi26, fl26), rfl, h, by rw [ht]; exact hP, va_K.moved hW.alike hK, hD⟩, hS.F ht⟩) hS.2.2 dX12_lookAtCell_320
    replace h := h.2 hs_57_11
    by_cases hs_57_12 : (fi 1 x1.toNatClampNeg) = 12
    · have h := h.1 hs_57_12
      refine lv_tableIn (tgt := 321) hx hb dX12_lookAtCell_57 (by rw [hs_57_12]; decide) (by rw [hs_57_12]; decide) (off := 264) (by rw [hs_57_12]; decide) (by decide) ?_
      refine lv_aload_n hx hb dX12_lookAtCell_321 rfl (lv_at hl 1 rfl) ?_
      refine lv_iload_n hx hb dX12_lookAtCell_322 rfl (lv_at hl 0 rfl) ?_
      refine lv_iload_n hx hb dX12_lookAtCell_323 rfl (lv_at hl 3 rfl) ?_
      refine m_calli (rm := ({ frames := 12, cells := 0, slots := 0, locals := 180 })) (As := [.int (fi 2 x1.toNatClampNeg), .int x2]) (rest := []) (fun sz => p_X12_lookAtRound l dC dI a ca g0 _ _ _ _ (fi 2 x1.toNatClampNeg) x2 _ h sz) ⟨hx, hb, hml, hown, hts⟩ (cwV 2 hts (g_V gdM mwM_124 mwM_125 mwM_126 mwM_22 mwM_123) rfl rfl rfl hd_X12_lookAtRound ⟨Nat.le_of_ble_eq_true rfl, Nat.le_of_ble_eq_true rfl⟩) rfl hl.1 rfl hK hP hD hS hA (Nat.le_of_ble_eq_true rfl) ⟨Nat.le_of_ble_eq_true rfl, Nat.le_of_ble_eq_true rfl⟩ dX12_lookAtCell_324 (fun r27 v27 w27 fi27 fl27 H locs h hP hD hS => ?_)
      exact W.iret (v := r27) hx hb hr (fun t ht hW => ⟨⟨_, (v27, w27, fi27, fl27), rfl, h, by rw [ht]; exact hP, va_K.moved hW.alike hK, hD⟩, hS.F ht⟩) hS.2.2 dX12_lookAtCell_327
    replace h := h.2 hs_57_12
    by_cases hs_57_13 : (fi 1 x1.toNatClampNeg) = 13
    · have h := h.1 hs_57_13
      refine lv_tableIn (tgt := 351) hx hb dX12_lookAtCell_57 (by rw [hs_57_13]; decide) (by rw [hs_57_13]; decide) (off := 294) (by rw [hs_57_13]; decide) (by decide) ?_
      refine lv_aload_n hx hb dX12_lookAtCell_351 rfl (lv_at hl 1 rfl) ?_
      refine lv_iload_n hx hb dX12_lookAtCell_352 rfl (lv_at hl 2 rfl) ?_
      refine lv_iload_n hx hb dX12_lookAtCell_353 rfl (lv_at hl 0 rfl) ?_
      refine lv_iload_n hx hb dX12_lookAtCell_354 rfl (lv_at hl 3 rfl) ?_
      refine m_calli (rm := ({ frames := 16, cells := 0, slots := 0, locals := 240 })) (As := [.int x1, .int (fi 2 x1.toNatClampNeg), .int x2]) (rest := []) (fun sz => p_X12_lookAtAll l dC dI a ca g0 _ _ _ _ x1 (fi 2 x1.toNatClampNeg) x2 _ h sz) ⟨hx, hb, hml, hown, hts⟩ (cwV 3 hts (g_V gdM mwM_128 mwM_129 mwM_130 mwM_22 mwM_127) rfl rfl rfl hd_X12_lookAtAll ⟨Nat.le_of_ble_eq_true rfl, Nat.le_of_ble_eq_true rfl⟩) rfl hl.1 rfl hK hP hD hS hA (Nat.le_of_ble_eq_true rfl) ⟨Nat.le_of_ble_eq_true rfl, Nat.le_of_ble_eq_true rfl⟩ dX12_lookAtCell_355 (fun r28 v28 w28 fi28 fl28 H locs h hP hD hS => ?_)
      exact W.iret (v := r28) hx hb hr (fun t ht hW => ⟨⟨_, (v28, w28, fi28, fl28), rfl, h, by rw [ht]; exact hP, va_K.moved hW.alike hK, hD⟩, hS.F ht⟩) hS.2.2 dX12_lookAtCell_358
    replace h := h.2 hs_57_13
    by_cases hs_57_14 : (fi 1 x1.toNatClampNeg) = 14
    · have h := h.1 hs_57_14
      refine lv_tableIn (tgt := 351) hx hb dX12_lookAtCell_57 (by rw [hs_57_14]; decide) (by rw [hs_57_14]; decide) (off := 294) (by rw [hs_57_14]; decide) (by decide) ?_
      refine lv_aload_n hx hb dX12_lookAtCell_351 rfl (lv_at hl 1 rfl) ?_
      refine lv_iload_n hx hb dX12_lookAtCell_352 rfl (lv_at hl 2 rfl) ?_
      refine lv_iload_n hx hb dX12_lookAtCell_353 rfl (lv_at hl 0 rfl) ?_
      refine lv_iload_n hx hb dX12_lookAtCell_354 rfl (lv_at hl 3 rfl) ?_
      refine m_calli (rm := ({ frames := 16, cells := 0, slots := 0, locals := 240 })) (As := [.int x1, .int (fi 2 x1.toNatClampNeg), .int x2]) (rest := []) (fun sz => p_X12_lookAtAll l dC dI a ca g0 _ _ _ _ x1 (fi 2 x1.toNatClampNeg) x2 _ h sz) ⟨hx, hb, hml, hown, hts⟩ (cwV 3 hts (g_V gdM mwM_128 mwM_129 mwM_130 mwM_22 mwM_127) rfl rfl rfl hd_X12_lookAtAll ⟨Nat.le_of_ble_eq_true rfl, Nat.le_of_ble_eq_true rfl⟩) rfl hl.1 rfl hK hP hD hS hA (Nat.le_of_ble_eq_true rfl) ⟨Nat.le_of_ble_eq_true rfl, Nat.le_of_ble_eq_true rfl⟩ dX12_lookAtCell_355 (fun r29 v29 w29 fi29 fl29 H locs h hP hD hS => ?_)
      exact W.iret (v := r29) hx hb hr (fun t ht hW => ⟨⟨_, (v29, w29, fi29, fl29), rfl, h, by rw [ht]; exact hP, va_K.moved hW.alike hK, hD⟩, hS.F ht⟩) hS.2.2 dX12_lookAtCell_358
    replace h := h.2 hs_57_14
    by_cases hs_57_15 : (fi 1 x1.toNatClampNeg) = 15
    · have h := h.1 hs_57_15
      refine lv_tableIn (tgt := 259) hx hb dX12_lookAtCell_57 (by rw [hs_57_15]; decide) (by rw [hs_57_15]; decide) (off := 202) (by rw [hs_57_15]; decide) (by decide) ?_
      refine lv_aload_n hx hb dX12_lookAtCell_259 rfl (lv_at hl 1 rfl) ?_
      refine lv_iload_n hx hb dX12_lookAtCell_260 rfl (lv_at hl 2 rfl) ?_
      refine lv_iload_n hx hb dX12_lookAtCell_261 rfl (lv_at hl 0 rfl) ?_
      refine lv_iload_n hx hb dX12_lookAtCell_262 rfl (lv_at hl 3 rfl) ?_
      refine m_calli (rm := ({ frames := 16, cells := 0, slots := 0, locals := 240 })) (As := [.int x1, .int (fi 2 x1.toNatClampNeg), .int x2]) (rest := []) (fun sz => p_X12_lookOn l dC dI a ca g0 _ _ _ _ x1 (fi 2 x1.toNatClampNeg) x2 _ h sz) ⟨hx, hb, hml, hown, hts⟩ (cwV 3 hts (g_V gdM mwM_112 mwM_113 mwM_114 mwM_22 mwM_111) rfl rfl rfl hd_X12_lookOn ⟨Nat.le_of_ble_eq_true rfl, Nat.le_of_ble_eq_true rfl⟩) rfl hl.1 rfl hK hP hD hS hA (Nat.le_of_ble_eq_true rfl) ⟨Nat.le_of_ble_eq_true rfl, Nat.le_of_ble_eq_true rfl⟩ dX12_lookAtCell_263 (fun r30 v30 w30 fi30 fl30 H locs h hP hD hS => ?_)
      exact W.iret (v := r30) hx hb hr (fun t ht hW => ⟨⟨_, (v30, w30, fi30, fl30), rfl, h, by rw [ht]; exact hP, va_K.moved hW.alike hK, hD⟩, hS.F ht⟩) hS.2.2 dX12_lookAtCell_266
    replace h := h.2 hs_57_15
    by_cases hs_57_16 : (fi 1 x1.toNatClampNeg) = 16
    · have h := h.1 hs_57_16
      refine lv_tableIn (tgt := 328) hx hb dX12_lookAtCell_57 (by rw [hs_57_16]; decide) (by rw [hs_57_16]; decide) (off := 271) (by rw [hs_57_16]; decide) (by decide) ?_
      refine lv_iload_n hx hb dX12_lookAtCell_328 rfl (lv_at hl 3 rfl) ?_
      refine lv_if_ne (tgt := 342) hx hb dX12_lookAtCell_329 (by decide) (fun c_329 => ?_) (fun c_329 => ?_)
      · have h := h.1 c_329
        refine lv_aload_n hx hb dX12_lookAtCell_342 rfl (lv_at hl 1 rfl) ?_
        refine lv_iload_n hx hb dX12_lookAtCell_343 rfl (lv_at hl 2 rfl) ?_
        refine lv_iload_n hx hb dX12_lookAtCell_344 rfl (lv_at hl 3 rfl) ?_
        refine lv_iconst (v := 1) hx hb dX12_lookAtCell_345 (by decide) ?_
        refine lv_isub hx hb dX12_lookAtCell_346 ?_
        refine m_calli (rm := ({ frames := 16, cells := 0, slots := 0, locals := 240 })) (As := [.int x1, .int (x2 - 1)]) (rest := []) (fun sz => p_X12_lookAtRun l dC dI a ca g0 _ _ _ _ x1 (x2 - 1) _ h sz) ⟨hx, hb, hml, hown, hts⟩ (cwV 2 hts (g_V gdM mwM_132 mwM_133 mwM_134 mwM_22 mwM_131) rfl rfl rfl hd_X12_lookAtRun ⟨Nat.le_of_ble_eq_true rfl, Nat.le_of_ble_eq_true rfl⟩) rfl hl.1 rfl hK hP hD hS hA (Nat.le_of_ble_eq_true rfl) ⟨Nat.le_of_ble_eq_true rfl, Nat.le_of_ble_eq_true rfl⟩ dX12_lookAtCell_347 (fun r31 v31 w31 fi31 fl31 H locs h hP hD hS => ?_)
        exact W.iret (v := r31) hx hb hr (fun t ht hW => ⟨⟨_, (v31, w31, fi31, fl31), rfl, h, by rw [ht]; exact hP, va_K.moved hW.alike hK, hD⟩, hS.F ht⟩) hS.2.2 dX12_lookAtCell_350
      · have h := h.2 c_329
        refine lv_aload_n hx hb dX12_lookAtCell_332 rfl (lv_at hl 1 rfl) ?_
        refine lv_iload_n hx hb dX12_lookAtCell_333 rfl (lv_at hl 0 rfl) ?_
        refine lv_iconst (v := 0) hx hb dX12_lookAtCell_334 (by decide) ?_
        refine lv_iconst (v := 0) hx hb dX12_lookAtCell_335 (by decide) ?_
        refine m_calli (rm := ({ frames := 12, cells := 0, slots := 0, locals := 180 })) (As := [.int (fi 2 x1.toNatClampNeg), .int 0, .int 0]) (rest := []) (fun sz => p_X12_like l dC dI a ca g0 _ _ _ _ (fi 2 x1.toNatClampNeg) 0 0 _ h sz) ⟨hx, hb, hml, hown, hts⟩ (cwV 3 hts (g_V gdM mwM_91 mwM_92 mwM_93 mwM_22 mwM_90) rfl rfl rfl hd_X12_like ⟨Nat.le_of_ble_eq_true rfl, Nat.le_of_ble_eq_true rfl⟩) rfl hl.1 rfl hK hP hD hS hA (Nat.le_of_ble_eq_true rfl) ⟨Nat.le_of_ble_eq_true rfl, Nat.le_of_ble_eq_true rfl⟩ dX12_lookAtCell_336 (fun r32 v32 w32 fi32 fl32 H locs h hP hD hS => ?_)
        refine lv_goto (tgt := 350) hx hb dX12_lookAtCell_339 (by decide) ?_
        exact W.iret (v := r32) hx hb hr (fun t ht hW => ⟨⟨_, (v32, w32, fi32, fl32), rfl, h, by rw [ht]; exact hP, va_K.moved hW.alike hK, hD⟩, hS.F ht⟩) hS.2.2 dX12_lookAtCell_350
    replace h := h.2 hs_57_16
    refine lv_tableOut (tgt := 351) hx hb dX12_lookAtCell_57 (by have n0 := lv_neT hs_57_0 (a := 0) (by decide); have n1 := lv_neT hs_57_1 (a := 1) (by decide); have n2 := lv_neT hs_57_2 (a := 2) (by decide); have n3 := lv_neT hs_57_3 (a := 3) (by decide); have n4 := lv_neT hs_57_4 (a := 4) (by decide); have n5 := lv_neT hs_57_5 (a := 5) (by decide); have n6 := lv_neT hs_57_6 (a := 6) (by decide); have n7 := lv_neT hs_57_7 (a := 7) (by decide); have n8 := lv_neT hs_57_8 (a := 8) (by decide); have n9 := lv_neT hs_57_9 (a := 9) (by decide); have n10 := lv_neT hs_57_10 (a := 10) (by decide); have n11 := lv_neT hs_57_11 (a := 11) (by decide); have n12 := lv_neT hs_57_12 (a := 12) (by decide); have n13 := lv_neT hs_57_13 (a := 13) (by decide); have n14 := lv_neT hs_57_14 (a := 14) (by decide); have n15 := lv_neT hs_57_15 (a := 15) (by decide); have n16 := lv_neT hs_57_16 (a := 16) (by decide); omega) (by decide) ?_
    refine lv_aload_n hx hb dX12_lookAtCell_351 rfl (lv_at hl 1 rfl) ?_
    refine lv_iload_n hx hb dX12_lookAtCell_352 rfl (lv_at hl 2 rfl) ?_
    refine lv_iload_n hx hb dX12_lookAtCell_353 rfl (lv_at hl 0 rfl) ?_
    refine lv_iload_n hx hb dX12_lookAtCell_354 rfl (lv_at hl 3 rfl) ?_
    refine m_calli (rm := ({ frames := 16, cells := 0, slots := 0, locals := 240 })) (As := [.int x1, .int (fi 2 x1.toNatClampNeg), .int x2]) (rest := []) (fun sz => p_X12_lookAtAll l dC dI a ca g0 _ _ _ _ x1 (fi 2 x1.toNatClampNeg) x2 _ h sz) ⟨hx, hb, hml, hown, hts⟩ (cwV 3 hts (g_V gdM mwM_128 mwM_129 mwM_130 mwM_22 mwM_127) rfl rfl rfl hd_X12_lookAtAll ⟨Nat.le_of_ble_eq_true rfl, Nat.le_of_ble_eq_true rfl⟩) rfl hl.1 rfl hK hP hD hS hA (Nat.le_of_ble_eq_true rfl) ⟨Nat.le_of_ble_eq_true rfl, Nat.le_of_ble_eq_true rfl⟩ dX12_lookAtCell_355 (fun r33 v33 w33 fi33 fl33 H locs h hP hD hS => ?_)
    exact W.iret (v := r33) hx hb hr (fun t ht hW => ⟨⟨_, (v33, w33, fi33, fl33), rfl, h, by rw [ht]; exact hP, va_K.moved hW.alike hK, hD⟩, hS.F ht⟩) hS.2.2 dX12_lookAtCell_358
  · have h := h.2 c_14
    refine lv_aload_n hx hb dX12_lookAtCell_17 rfl (lv_at hl 0 rfl) ?_
    refine va_get (D := (dC, dI)) (ci := 11) (v := .ref (a 7)) (C := RX12) (T := TX12) (N := 32) hx hb hts hinM hown hK hP 0 rfl rfl 7 (by decide) (hts _ mwM_43) (fun _ h9 => h9) rfl dX12_lookAtCell_18 ?_
    refine lv_iload_n hx hb dX12_lookAtCell_21 rfl (lv_at hl 1 rfl) ?_
    refine lv_iload_n hx hb dX12_lookAtCell_22 rfl (lv_at hl 3 rfl) ?_
    refine s_calli (rm := ({ frames := 4, cells := 0, slots := 0, locals := 60 })) (As := [.int x1, .int x3]) (rest := [.ref (a 7)]) (fun sz => p_X12_place l dC dI x1 x3 _ h sz) ⟨hx, hb, hml, hown, hts⟩ (va_cwS 2 hts (g_S gdM mwM_45 mwM_46 mwM_22 mwM_44) rfl rfl rfl hd_X12_place ⟨Nat.le_of_ble_eq_true rfl, Nat.le_of_ble_eq_true rfl⟩) rfl hl.1 rfl hP hD hS hA (Nat.le_of_ble_eq_true rfl) ⟨Nat.le_of_ble_eq_true rfl, Nat.le_of_ble_eq_true rfl⟩ dX12_lookAtCell_23 (fun r34 H locs h hP hS => ?_)
    obtain ⟨hi35, h⟩ := h
    refine va_iald (f := fi 7) hx hb hK hP 7 6 rfl rfl hi35 dX12_lookAtCell_26 ?_
    refine lv_if_ne (tgt := 38) hx hb dX12_lookAtCell_27 (by decide) (fun c_27 => ?_) (fun c_27 => ?_)
    · have h := h.1 c_27
      refine lv_iinc (v := x3 + 1) (lv' := [(3, .int (x3 + 1)), (0, .ref g0), (1, .int x1), (2, .int x2)]) hx hb dX12_lookAtCell_38 hl (k := 3) rfl (iinc_1 _) (by decide) rfl (fun ls hl => ?_)
      refine lv_goto (tgt := 12) hx hb dX12_lookAtCell_41 (by decide) ?_
      exact hK12 _ _ _ _ _ _ _ H _ ls h hP hD hS (lv_sub hl [1, 2, 3, 0] rfl)
    · have h := h.2 c_27
      refine lv_iconst (v := 2) hx hb dX12_lookAtCell_30 (by decide) ?_
      refine lv_iload_n hx hb dX12_lookAtCell_31 rfl (lv_at hl 1 rfl) ?_
      refine lv_iload_n hx hb dX12_lookAtCell_32 rfl (lv_at hl 3 rfl) ?_
      refine s_calli (rm := ({ frames := 4, cells := 0, slots := 0, locals := 60 })) (As := [.int x1, .int x3]) (rest := [.int 2]) (fun sz => p_X12_place l dC dI x1 x3 _ h sz) ⟨hx, hb, hml, hown, hts⟩ (va_cwS 2 hts (g_S gdM mwM_45 mwM_46 mwM_22 mwM_44) rfl rfl rfl hd_X12_place ⟨Nat.le_of_ble_eq_true rfl, Nat.le_of_ble_eq_true rfl⟩) rfl hl.1 rfl hP hD hS hA (Nat.le_of_ble_eq_true rfl) ⟨Nat.le_of_ble_eq_true rfl, Nat.le_of_ble_eq_true rfl⟩ dX12_lookAtCell_33 (fun r36 H locs h hP hS => ?_)
      refine lv_imul hx hb dX12_lookAtCell_36 ?_
      exact W.iret (v := (2 * r36)) hx hb hr (fun t ht hW => ⟨⟨_, (v, w, fi, fl), rfl, h, by rw [ht]; exact hP, va_K.moved hW.alike hK, hD⟩, hS.F ht⟩) hS.2.2 dX12_lookAtCell_37
set_option maxHeartbeats 4000000 in
set_option maxRecDepth 100000 in
theorem t_X12_lookAtCell_12 {p : Program} {l : Launch} {e : Env} {s : State} {m : MethodId} {args : Array Value} {below : List Frame} {meth : Method} {c : Code} {A : Nat → Prop} {dC : Nat → ClassId} {dI : Nat → Nat → Nat} {a : Nat → Nat} {ca : Nat → ClassId} {g0 : Nat}  {Q : Int32 → (Nat → Int32) → (Nat → Int64) → (Nat → Nat → Int32) → (Nat → Nat → Int64) → Prop} (hx : p.tables.exec = Jvm.exec) (hb : c.code = cX12_lookAtCell) (hr : meth.sig.returnType = (some .int)) (hts : ∀ w ∈ WM, w.before args s = true) (hown : s.vm.findClass RX12 = some m.cls) (hlocks : meth.locks = false) (hml : c.maxLocals = 4) (hA : ∀ q : Nat, s.heap.size ≤ q → A q) (hK : va_K (dC, dI) vwCl (mT ca) s)  : ∀ n : Nat, ∀ (v : Nat → Int32) (w : Nat → Int64) (fi : Nat → Nat → Int32) (fl : Nat → Nat → Int64) (x1 : Int32) (x2 : Int32) (x3 : Int32) (H : Heap) (locs : List Loc) (ls : Array Slot), P_X12_lookAtCell_12  Q n v w fi fl x1 x2 x3 → va_P (dC, dI) vwCl (mW a ca g0 v w fi fl) H → va_D A (mW a ca g0 v w fi fl) → va_S A s.heap H locs → lv_has ls 4 [(0, .ref g0), (1, .int x1), (2, .int x2), (3, .int x3)] → W p l e (headSpec wmX12_lookAtCell ({ frames := 20, cells := 0, slots := 0, locals := 300 })).room s m args below meth c H locs 0 0 (MQ below (va_Qi (S := MSt) (pI Q) (mB dC dI a ca g0 A) A) args s 0 0 A) (F0 m 12 ls []) := by
  intro n
  induction n with
  | zero => intro v w fi fl x1 x2 x3 H locs ls h; exact h.elim
  | succ n ih => exact b_X12_lookAtCell_12 hx hb hr hts hown hlocks hml hA hK  ih
def P_X12_lookAtCell (v : Nat → Int32) (w : Nat → Int64) (fi : Nat → Nat → Int32) (fl : Nat → Nat → Int64) (p0 : Int32) (p1 : Int32) (Q : Int32 → (Nat → Int32) → (Nat → Int64) → (Nat → Nat → Int32) → (Nat → Nat → Int64) → Prop) : Prop := ((p1 < 400) → (∃ n9 : Nat, P_X12_lookAtCell_12  Q n9 v w fi fl p0 p1 (0 : Int32))) ∧ ((¬ p1 < 400) → (Q (-2) v w fi fl))
set_option maxHeartbeats 4000000 in
set_option maxRecDepth 100000 in
theorem p_X12_lookAtCell (l : Launch) (dC : Nat → ClassId) (dI : Nat → Nat → Nat) (a : Nat → Nat) (ca : Nat → ClassId) (g0 : Nat) (v : Nat → Int32) (w : Nat → Int64) (fi : Nat → Nat → Int32) (fl : Nat → Nat → Int64) (p0 : Int32) (p1 : Int32) (Q : Int32 → (Nat → Int32) → (Nat → Int64) → (Nat → Nat → Int32) → (Nat → Nat → Int64) → Prop) (h : P_X12_lookAtCell v w fi fl p0 p1 Q) (sz : Nat) : Met l yX12_lookAtCell wmX12_lookAtCell ({ frames := 20, cells := 0, slots := 0, locals := 300 }) (va_Pc [.ref g0, .int p0, .int p1] (mPre dC dI a ca g0 v w fi fl sz)) (va_Qi (S := MSt) (pI Q) (mB dC dI a ca g0 (va_A (mW a ca g0 v w fi fl) sz)) (va_A (mW a ca g0 v w fi fl) sz)) 0 0 (va_A (mW a ca g0 v w fi fl) sz) := by
  refine Met.ofW (cc := cX12_lookAtCell) (maxL := 4) (ret := (some .int)) (by decide) rfl ?_
  intro p e s m args below meth c s₁ B hml hv
  obtain ⟨rfl, hsz, hP, hK, hD0⟩ := hv
  have hx := B.exec
  have hb := B.bytes
  have hr := B.returns
  have hts : ∀ w ∈ WM, w.before _ s = true := fun w h => atoms_spec (ws := wmX12_lookAtCell) B.pre w (List.mem_cons_of_mem _ h)
  have hown : s.vm.findClass RX12 = some m.cls := findClass_of_methodNamed B.named
  have hlocks := B.notSynchronized
  subst hsz
  have hD := hD0.self (sz := s.heap.size)
  generalize hAe : va_A (mW a ca g0 v w fi fl) s.heap.size = A at hD ⊢
  have hA : ∀ q : Nat, s.heap.size ≤ q → A q := fun q h => by rw [← hAe]; exact Or.inr h
  generalize hH : s.heap = H at hP ⊢
  have hS : va_S A s.heap H [] := by rw [← hH]; exact va_S.rf
  have hl := lv_entry [.ref g0, .int p0, .int p1] (n := 4) (Nat.le_of_ble_eq_true rfl)
  rw [lg_entry_eq]
  generalize (lg_sl [.ref g0, .int p0, .int p1] ++ List.replicate (4 - (lg_sl [.ref g0, .int p0, .int p1]).length) Slot.unset).toArray = ls at hl ⊢
  have hl : lv_has ls 4 [(0, .ref g0), (1, .int p0), (2, .int p1)] := hl
  unfold P_X12_lookAtCell at h
  refine lv_iload_n hx hb dX12_lookAtCell_0 rfl (lv_at hl 2 rfl) ?_
  refine lv_sipush (v := 400) hx hb dX12_lookAtCell_1 (by decide) ?_
  refine lv_icmp_lt (tgt := 10) hx hb dX12_lookAtCell_4 (by decide) (fun c_4 => ?_) (fun c_4 => ?_)
  · have h := h.1 c_4
    refine lv_iconst (v := 0) hx hb dX12_lookAtCell_10 (by decide) ?_
    refine lv_istore_n (lv' := [(3, .int 0), (0, .ref g0), (1, .int p0), (2, .int p1)]) hx hb dX12_lookAtCell_11 rfl hl (by decide) rfl (fun ls hl => ?_)
    obtain ⟨n9, h⟩ := h
    exact t_X12_lookAtCell_12 hx hb hr hts hown hlocks hml hA hK  n9 _ _ _ _ _ _ _ H _ ls h hP hD hS (lv_sub hl [1, 2, 3, 0] rfl)
  · have h := h.2 c_4
    refine lv_bipush (v := (-2)) hx hb dX12_lookAtCell_7 (by decide) ?_
    exact W.iret (v := (-2)) hx hb hr (fun t ht hW => ⟨⟨_, (v, w, fi, fl), rfl, h, by rw [ht]; exact hP, va_K.moved hW.alike hK, hD⟩, hS.F ht⟩) hS.2.2 dX12_lookAtCell_9

abbrev wmX12_lookAtItem : List Cond := .code yX12_lookAtItem cX12_lookAtItem 5 (some .int) :: WM
theorem hd_X12_lookAtItem : yX12_lookAtItem.cls = RX12 ∧ yX12_lookAtItem.cls ≠ "java/lang/invoke/MethodHandle" ∧ yX12_lookAtItem.cls ≠ "java/lang/invoke/VarHandle" ∧ (parseMethodDescriptor yX12_lookAtItem.desc).map (fun d => d.parameters.length) = some 2 := by decide +kernel
def P_X12_lookAtItem (v : Nat → Int32) (w : Nat → Int64) (fi : Nat → Nat → Int32) (fl : Nat → Nat → Int64) (p0 : Int32) (p1 : Int32) (Q : Int32 → (Nat → Int32) → (Nat → Int64) → (Nat → Nat → Int32) → (Nat → Nat → Int64) → Prop) : Prop := vp_in p0 24 ∧ vp_in p0 24 ∧ (((fi 1 p0.toNatClampNeg) = 0) → (vp_in ((100 * p0) + p1) 2400 ∧ vp_in ((100 * p0) + p1) 2400 ∧ Q (-1) (va_up v 26 (fi 20 ((100 * p0) + p1).toNatClampNeg)) (va_up (va_up w 30 0) 30 (fl 21 ((100 * p0) + p1).toNatClampNeg)) fi fl)) ∧ ((¬ (fi 1 p0.toNatClampNeg) = 0) → (((fi 1 p0.toNatClampNeg) = 1) → (vp_in p0 24 ∧ vp_in p0 24 ∧ ∀ z7 : Int64, z7 = (fl 5 p0.toNatClampNeg) + (p1.toInt64 * (fl 6 p0.toNatClampNeg)) → Q (-1) (va_up v 26 1) (va_up (va_up w 30 0) 30 z7) fi fl)) ∧ ((¬ (fi 1 p0.toNatClampNeg) = 1) → (((fi 1 p0.toNatClampNeg) = 2) → (((¬ p1 = 0) → (vp_in p0 24 ∧ vp_in p0 24 ∧ P_X12_ofItems v (va_up w 30 0) fi fl (fi 4 p0.toNatClampNeg) p0 (p1 - 1) (-1) 0 (fl 5 p0.toNatClampNeg) (fun r10 v10 w10 fi10 fl10 => Q r10 v10 w10 fi10 fl10))) ∧ ((p1 = 0) → (vp_in p0 24 ∧ P_X12_is v (va_up w 30 0) fi fl (fl 6 p0.toNatClampNeg) (fun r12 v12 w12 fi12 fl12 => Q r12 v12 w12 fi12 fl12))))) ∧ ((¬ (fi 1 p0.toNatClampNeg) = 2) → (((fi 1 p0.toNatClampNeg) = 3) → (vp_in p0 24 ∧ vp_in p0 24 ∧ P_X12_ofItems v (va_up w 30 0) fi fl (fi 4 p0.toNatClampNeg) (fi 2 p0.toNatClampNeg) p1 (-1) 0 (fl 5 p0.toNatClampNeg) (fun r15 v15 w15 fi15 fl15 => Q r15 v15 w15 fi15 fl15))) ∧ ((¬ (fi 1 p0.toNatClampNeg) = 3) → (((fi 1 p0.toNatClampNeg) = 4) → (vp_in p0 24 ∧ vp_in p0 24 ∧ P_X12_ofItems v (va_up w 30 0) fi fl (fi 4 p0.toNatClampNeg) (fi 2 p0.toNatClampNeg) p1 (fi 3 p0.toNatClampNeg) p1 0 (fun r18 v18 w18 fi18 fl18 => Q r18 v18 w18 fi18 fl18))) ∧ ((¬ (fi 1 p0.toNatClampNeg) = 4) → (((fi 1 p0.toNatClampNeg) = 5) → (((¬ p1 = 0) → (vp_in p0 24 ∧ P_X12_ofItems v (va_up w 30 0) fi fl (fi 4 p0.toNatClampNeg) p0 (p1 - 1) (fi 2 p0.toNatClampNeg) (p1 - 1) 0 (fun r20 v20 w20 fi20 fl20 => Q r20 v20 w20 fi20 fl20))) ∧ ((p1 = 0) → (vp_in p0 24 ∧ P_X12_is v (va_up w 30 0) fi fl (fl 5 p0.toNatClampNeg) (fun r22 v22 w22 fi22 fl22 => Q r22 v22 w22 fi22 fl22))))) ∧ ((¬ (fi 1 p0.toNatClampNeg) = 5) → (P_X12_lookAtRun v (va_up w 30 0) fi fl p0 p1 (fun r23 v23 w23 fi23 fl23 => ((r23 = (-1)) → (((3 ≤ (v23 26)) → (Q (-1) v23 w23 fi23 fl23)) ∧ ((¬ 3 ≤ (v23 26)) → (P_X12_is v23 w23 fi23 fl23 ((v23 29).toInt64) (fun r24 v24 w24 fi24 fl24 => Q r24 v24 w24 fi24 fl24))))) ∧ ((¬ r23 = (-1)) → (Q r23 v23 w23 fi23 fl23))))))))))
set_option maxHeartbeats 4000000 in
set_option maxRecDepth 100000 in
theorem p_X12_lookAtItem (l : Launch) (dC : Nat → ClassId) (dI : Nat → Nat → Nat) (a : Nat → Nat) (ca : Nat → ClassId) (g0 : Nat) (v : Nat → Int32) (w : Nat → Int64) (fi : Nat → Nat → Int32) (fl : Nat → Nat → Int64) (p0 : Int32) (p1 : Int32) (Q : Int32 → (Nat → Int32) → (Nat → Int64) → (Nat → Nat → Int32) → (Nat → Nat → Int64) → Prop) (h : P_X12_lookAtItem v w fi fl p0 p1 Q) (sz : Nat) : Met l yX12_lookAtItem wmX12_lookAtItem ({ frames := 20, cells := 0, slots := 0, locals := 300 }) (va_Pc [.ref g0, .int p0, .int p1] (mPre dC dI a ca g0 v w fi fl sz)) (va_Qi (S := MSt) (pI Q) (mB dC dI a ca g0 (va_A (mW a ca g0 v w fi fl) sz)) (va_A (mW a ca g0 v w fi fl) sz)) 0 0 (va_A (mW a ca g0 v w fi fl) sz) := by
  refine Met.ofW (cc := cX12_lookAtItem) (maxL := 5) (ret := (some .int)) (by decide) rfl ?_
  intro p e s m args below meth c s₁ B hml hv
  obtain ⟨rfl, hsz, hP, hK, hD0⟩ := hv
  have hx := B.exec
  have hb := B.bytes
  have hr := B.returns
  have hts : ∀ w ∈ WM, w.before _ s = true := fun w h => atoms_spec (ws := wmX12_lookAtItem) B.pre w (List.mem_cons_of_mem _ h)
  have hown : s.vm.findClass RX12 = some m.cls := findClass_of_methodNamed B.named
  have hlocks := B.notSynchronized
  subst hsz
  have hD := hD0.self (sz := s.heap.size)
  generalize hAe : va_A (mW a ca g0 v w fi fl) s.heap.size = A at hD ⊢
  have hA : ∀ q : Nat, s.heap.size ≤ q → A q := fun q h => by rw [← hAe]; exact Or.inr h
  generalize hH : s.heap = H at hP ⊢
  have hS : va_S A s.heap H [] := by rw [← hH]; exact va_S.rf
  have hl := lv_entry [.ref g0, .int p0, .int p1] (n := 5) (Nat.le_of_ble_eq_true rfl)
  rw [lg_entry_eq]
  generalize (lg_sl [.ref g0, .int p0, .int p1] ++ List.replicate (5 - (lg_sl [.ref g0, .int p0, .int p1]).length) Slot.unset).toArray = ls at hl ⊢
  have hl : lv_has ls 5 [(0, .ref g0), (1, .int p0), (2, .int p1)] := hl
  unfold P_X12_lookAtItem at h
  refine lv_aload_n hx hb dX12_lookAtItem_0 rfl (lv_at hl 0 rfl) ?_
  refine va_get (D := (dC, dI)) (ci := 11) (v := .ref (a 2)) (C := RX12) (T := TX12) (N := 32) hx hb hts hinM hown hK hP 0 rfl rfl 2 (by decide) (hts _ mwM_3) (fun _ h9 => h9) rfl dX12_lookAtItem_1 ?_
  refine lv_iload_n hx hb dX12_lookAtItem_4 rfl (lv_at hl 1 rfl) ?_
  obtain ⟨hi1, h⟩ := h
  refine va_iald (f := fi 2) hx hb hK hP 2 1 rfl rfl hi1 dX12_lookAtItem_5 ?_
  refine lv_istore_n (lv' := [(3, .int (fi 2 p0.toNatClampNeg)), (0, .ref g0), (1, .int p0), (2, .int p1)]) hx hb dX12_lookAtItem_6 rfl hl (by decide) rfl (fun ls hl => ?_)
  refine lv_aload_n hx hb dX12_lookAtItem_7 rfl (lv_at hl 1 rfl) ?_
  refine lv_lconst (v := 0) hx hb dX12_lookAtItem_8 (by decide) ?_
  refine m_put_30 hx hb hts hinM hown hK hP hD hS (hts _ mwM_11) dX12_lookAtItem_9 (fun H locs hP hD hS => ?_)
  refine lv_aload_n hx hb dX12_lookAtItem_12 rfl (lv_at hl 1 rfl) ?_
  refine va_get (D := (dC, dI)) (ci := 11) (v := .ref (a 1)) (C := RX12) (T := TX12) (N := 32) hx hb hts hinM hown hK hP 0 rfl rfl 1 (by decide) (hts _ mwM_2) (fun _ h9 => h9) rfl dX12_lookAtItem_13 ?_
  refine lv_iload_n hx hb dX12_lookAtItem_16 rfl (lv_at hl 2 rfl) ?_
  obtain ⟨hi2, h⟩ := h
  refine va_iald (f := fi 1) hx hb hK hP 1 0 rfl rfl hi2 dX12_lookAtItem_17 ?_
  by_cases hs_18_0 : (fi 1 p0.toNatClampNeg) = 0
  · have h := h.1 hs_18_0
    refine lv_tableIn (tgt := 56) hx hb dX12_lookAtItem_18 (by rw [hs_18_0]; decide) (by rw [hs_18_0]; decide) (off := 38) (by rw [hs_18_0]; decide) (by decide) ?_
    refine lv_aload_n hx hb dX12_lookAtItem_56 rfl (lv_at hl 1 rfl) ?_
    refine lv_aload_n hx hb dX12_lookAtItem_57 rfl (lv_at hl 1 rfl) ?_
    refine va_get (D := (dC, dI)) (ci := 11) (v := .ref (a 20)) (C := RX12) (T := TX12) (N := 32) hx hb hts hinM hown hK hP 0 rfl rfl 20 (by decide) (hts _ mwM_27) (fun _ h9 => h9) rfl dX12_lookAtItem_58 ?_
    refine lv_bipush (v := 100) hx hb dX12_lookAtItem_61 (by decide) ?_
    refine lv_iload_n hx hb dX12_lookAtItem_63 rfl (lv_at hl 2 rfl) ?_
    refine lv_imul hx hb dX12_lookAtItem_64 ?_
    refine lv_iload_n hx hb dX12_lookAtItem_65 rfl (lv_at hl 3 rfl) ?_
    refine lv_iadd hx hb dX12_lookAtItem_66 ?_
    obtain ⟨hi3, h⟩ := h
    refine va_iald (f := fi 20) hx hb hK hP 14 13 rfl rfl hi3 dX12_lookAtItem_67 ?_
    refine m_put_26 hx hb hts hinM hown hK hP hD hS (hts _ mwM_8) dX12_lookAtItem_68 (fun H locs hP hD hS => ?_)
    refine lv_aload_n hx hb dX12_lookAtItem_71 rfl (lv_at hl 1 rfl) ?_
    refine lv_aload_n hx hb dX12_lookAtItem_72 rfl (lv_at hl 1 rfl) ?_
    refine va_get (D := (dC, dI)) (ci := 11) (v := .ref (a 21)) (C := RX12) (T := TX12) (N := 32) hx hb hts hinM hown hK hP 0 rfl rfl 21 (by decide) (hts _ mwM_28) (fun _ h9 => h9) rfl dX12_lookAtItem_73 ?_
    refine lv_bipush (v := 100) hx hb dX12_lookAtItem_76 (by decide) ?_
    refine lv_iload_n hx hb dX12_lookAtItem_78 rfl (lv_at hl 2 rfl) ?_
    refine lv_imul hx hb dX12_lookAtItem_79 ?_
    refine lv_iload_n hx hb dX12_lookAtItem_80 rfl (lv_at hl 3 rfl) ?_
    refine lv_iadd hx hb dX12_lookAtItem_81 ?_
    obtain ⟨hi4, h⟩ := h
    refine va_lald (f := fl 21) hx hb hK hP 15 14 rfl rfl hi4 dX12_lookAtItem_82 ?_
    refine m_put_30 hx hb hts hinM hown hK hP hD hS (hts _ mwM_11) dX12_lookAtItem_83 (fun H locs hP hD hS => ?_)
    refine lv_iconst (v := (-1)) hx hb dX12_lookAtItem_86 (by decide) ?_
    exact W.iret (v := (-1)) hx hb hr (fun t ht hW => ⟨⟨_, (va_up v 26 (fi 20 ((100 * p0) + p1).toNatClampNeg), va_up (va_up w 30 0) 30 (fl 21 ((100 * p0) + p1).toNatClampNeg), fi, fl), rfl, h, by rw [ht]; exact hP, va_K.moved hW.alike hK, hD⟩, hS.F ht⟩) hS.2.2 dX12_lookAtItem_87
  replace h := h.2 hs_18_0
  by_cases hs_18_1 : (fi 1 p0.toNatClampNeg) = 1
  · have h := h.1 hs_18_1
    refine lv_tableIn (tgt := 88) hx hb dX12_lookAtItem_18 (by rw [hs_18_1]; decide) (by rw [hs_18_1]; decide) (off := 70) (by rw [hs_18_1]; decide) (by decide) ?_
    refine lv_aload_n hx hb dX12_lookAtItem_88 rfl (lv_at hl 1 rfl) ?_
    refine lv_iconst (v := 1) hx hb dX12_lookAtItem_89 (by decide) ?_
    refine m_put_26 hx hb hts hinM hown hK hP hD hS (hts _ mwM_8) dX12_lookAtItem_90 (fun H locs hP hD hS => ?_)
    refine lv_aload_n hx hb dX12_lookAtItem_93 rfl (lv_at hl 1 rfl) ?_
    refine lv_aload_n hx hb dX12_lookAtItem_94 rfl (lv_at hl 1 rfl) ?_
    refine va_get (D := (dC, dI)) (ci := 11) (v := .ref (a 5)) (C := RX12) (T := TX12) (N := 32) hx hb hts hinM hown hK hP 0 rfl rfl 5 (by decide) (hts _ mwM_6) (fun _ h9 => h9) rfl dX12_lookAtItem_95 ?_
    refine lv_iload_n hx hb dX12_lookAtItem_98 rfl (lv_at hl 2 rfl) ?_
    obtain ⟨hi5, h⟩ := h
    refine va_lald (f := fl 5) hx hb hK hP 5 4 rfl rfl hi5 dX12_lookAtItem_99 ?_
    refine lv_iload_n hx hb dX12_lookAtItem_100 rfl (lv_at hl 3 rfl) ?_
    refine lv_i2l hx hb dX12_lookAtItem_101 rfl ?_
    refine lv_aload_n hx hb dX12_lookAtItem_102 rfl (lv_at hl 1 rfl) ?_
    refine va_get (D := (dC, dI)) (ci := 11) (v := .ref (a 6)) (C := RX12) (T := TX12) (N := 32) hx hb hts hinM hown hK hP 0 rfl rfl 6 (by decide) (hts _ mwM_7) (fun _ h9 => h9) rfl dX12_lookAtItem_103 ?_
    refine lv_iload_n hx hb dX12_lookAtItem_106 rfl (lv_at hl 2 rfl) ?_
    obtain ⟨hi6, h⟩ := h
    refine va_lald (f := fl 6) hx hb hK hP 6 5 rfl rfl hi6 dX12_lookAtItem_107 ?_
    refine lv_lmul hx hb dX12_lookAtItem_108 ?_
    refine lv_ladd hx hb dX12_lookAtItem_109 ?_
    refine lv_topl (fun z7 ez7 => ?_)
    have h := h z7 ez7
    refine m_put_30 hx hb hts hinM hown hK hP hD hS (hts _ mwM_11) dX12_lookAtItem_110 (fun H locs hP hD hS => ?_)
    refine lv_iconst (v := (-1)) hx hb dX12_lookAtItem_113 (by decide) ?_
    exact W.iret (v := (-1)) hx hb hr (fun t ht hW => ⟨⟨_, (va_up v 26 1, va_up (va_up w 30 0) 30 z7, fi, fl), rfl, h, by rw [ht]; exact hP, va_K.moved hW.alike hK, hD⟩, hS.F ht⟩) hS.2.2 dX12_lookAtItem_114
  replace h := h.2 hs_18_1
  by_cases hs_18_2 : (fi 1 p0.toNatClampNeg) = 2
  · have h := h.1 hs_18_2
    refine lv_tableIn (tgt := 115) hx hb dX12_lookAtItem_18 (by rw [hs_18_2]; decide) (by rw [hs_18_2]; decide) (off := 97) (by rw [hs_18_2]; decide) (by decide) ?_
    refine lv_iload_n hx hb dX12_lookAtItem_115 rfl (lv_at hl 3 rfl) ?_
    refine lv_if_ne (tgt := 132) hx hb dX12_lookAtItem_116 (by decide) (fun c_116 => ?_) (fun c_116 => ?_)
    · have h := h.1 c_116
      refine lv_aload_n hx hb dX12_lookAtItem_132 rfl (lv_at hl 1 rfl) ?_
      refine lv_aload_n hx hb dX12_lookAtItem_133 rfl (lv_at hl 1 rfl) ?_
      refine va_get (D := (dC, dI)) (ci := 11) (v := .ref (a 4)) (C := RX12) (T := TX12) (N := 32) hx hb hts hinM hown hK hP 0 rfl rfl 4 (by decide) (hts _ mwM_5) (fun _ h9 => h9) rfl dX12_lookAtItem_134 ?_
      refine lv_iload_n hx hb dX12_lookAtItem_137 rfl (lv_at hl 2 rfl) ?_
      obtain ⟨hi8, h⟩ := h
      refine va_iald (f := fi 4) hx hb hK hP 4 3 rfl rfl hi8 dX12_lookAtItem_138 ?_
      refine lv_iload_n hx hb dX12_lookAtItem_139 rfl (lv_at hl 2 rfl) ?_
      refine lv_iload_n hx hb dX12_lookAtItem_140 rfl (lv_at hl 3 rfl) ?_
      refine lv_iconst (v := 1) hx hb dX12_lookAtItem_141 (by decide) ?_
      refine lv_isub hx hb dX12_lookAtItem_142 ?_
      refine lv_iconst (v := (-1)) hx hb dX12_lookAtItem_143 (by decide) ?_
      refine lv_iconst (v := 0) hx hb dX12_lookAtItem_144 (by decide) ?_
      refine lv_aload_n hx hb dX12_lookAtItem_145 rfl (lv_at hl 1 rfl) ?_
      refine va_get (D := (dC, dI)) (ci := 11) (v := .ref (a 5)) (C := RX12) (T := TX12) (N := 32) hx hb hts hinM hown hK hP 0 rfl rfl 5 (by decide) (hts _ mwM_6) (fun _ h9 => h9) rfl dX12_lookAtItem_146 ?_
      refine lv_iload_n hx hb dX12_lookAtItem_149 rfl (lv_at hl 2 rfl) ?_
      obtain ⟨hi9, h⟩ := h
      refine va_lald (f := fl 5) hx hb hK hP 5 4 rfl rfl hi9 dX12_lookAtItem_150 ?_
      refine m_calli (rm := ({ frames := 16, cells := 0, slots := 0, locals := 240 })) (As := [.int (fi 4 p0.toNatClampNeg), .int p0, .int (p1 - 1), .int (-1), .int 0, .long (fl 5 p0.toNatClampNeg)]) (rest := []) (fun sz => p_X12_ofItems l dC dI a ca g0 _ _ _ _ (fi 4 p0.toNatClampNeg) p0 (p1 - 1) (-1) 0 (fl 5 p0.toNatClampNeg) _ h sz) ⟨hx, hb, hml, hown, hts⟩ (cwV 6 hts (g_V gdM mwM_136 mwM_137 mwM_138 mwM_22 mwM_135) rfl rfl rfl hd_X12_ofItems ⟨Nat.le_of_ble_eq_true rfl, Nat.le_of_ble_eq_true rfl⟩) rfl hl.1 rfl hK hP hD hS hA (Nat.le_of_ble_eq_true rfl) ⟨Nat.le_of_ble_eq_true rfl, Nat.le_of_ble_eq_true rfl⟩ dX12_lookAtItem_151 (fun r10 v10 w10 fi10 fl10 H locs h hP hD hS => ?_)
      exact W.iret (v := r10) hx hb hr (fun t ht hW => ⟨⟨_, (v10, w10, fi10, fl10), rfl, h, by rw [ht]; exact hP, va_K.moved hW.alike hK, hD⟩, hS.F ht⟩) hS.2.2 dX12_lookAtItem_154
    · have h := h.2 c_116
      refine lv_aload_n hx hb dX12_lookAtItem_119 rfl (lv_at hl 1 rfl) ?_
      refine lv_aload_n hx hb dX12_lookAtItem_120 rfl (lv_at hl 1 rfl) ?_
      refine va_get (D := (dC, dI)) (ci := 11) (v := .ref (a 6)) (C := RX12) (T := TX12) (N := 32) hx hb hts hinM hown hK hP 0 rfl rfl 6 (by decide) (hts _ mwM_7) (fun _ h9 => h9) rfl dX12_lookAtItem_121 ?_
      refine lv_iload_n hx hb dX12_lookAtItem_124 rfl (lv_at hl 2 rfl) ?_
      obtain ⟨hi11, h⟩ := h
      refine va_lald (f := fl 6) hx hb hK hP 6 5 rfl rfl hi11 dX12_lookAtItem_125 ?_
      refine m_calli (rm := ({ frames := 4, cells := 0, slots := 0, locals := 60 })) (As := [.long (fl 6 p0.toNatClampNeg)]) (rest := []) (fun sz => p_X12_is l dC dI a ca g0 _ _ _ _ (fl 6 p0.toNatClampNeg) _ h sz) ⟨hx, hb, hml, hown, hts⟩ (cwV 1 hts (g_V gdM mwM_140 mwM_141 mwM_142 mwM_22 mwM_139) rfl rfl rfl hd_X12_is ⟨Nat.le_of_ble_eq_true rfl, Nat.le_of_ble_eq_true rfl⟩) rfl hl.1 rfl hK hP hD hS hA (Nat.le_of_ble_eq_true rfl) ⟨Nat.le_of_ble_eq_true rfl, Nat.le_of_ble_eq_true rfl⟩ dX12_lookAtItem_126 (fun r12 v12 w12 fi12 fl12 H locs h hP hD hS => ?_)
      refine lv_goto (tgt := 154) hx hb dX12_lookAtItem_129 (by decide) ?_
      exact W.iret (v := r12) hx hb hr (fun t ht hW => ⟨⟨_, (v12, w12, fi12, fl12), rfl, h, by rw [ht]; exact hP, va_K.moved hW.alike hK, hD⟩, hS.F ht⟩) hS.2.2 dX12_lookAtItem_154
  replace h := h.2 hs_18_2
  by_cases hs_18_3 : (fi 1 p0.toNatClampNeg) = 3
  · have h := h.1 hs_18_3
    refine lv_tableIn (tgt := 155) hx hb dX12_lookAtItem_18 (by rw [hs_18_3]; decide) (by rw [hs_18_3]; decide) (off := 137) (by rw [hs_18_3]; decide) (by decide) ?_
    refine lv_aload_n hx hb dX12_lookAtItem_155 rfl (lv_at hl 1 rfl) ?_
    refine lv_aload_n hx hb dX12_lookAtItem_156 rfl (lv_at hl 1 rfl) ?_
    refine va_get (D := (dC, dI)) (ci := 11) (v := .ref (a 4)) (C := RX12) (T := TX12) (N := 32) hx hb hts hinM hown hK hP 0 rfl rfl 4 (by decide) (hts _ mwM_5) (fun _ h9 => h9) rfl dX12_lookAtItem_157 ?_
    refine lv_iload_n hx hb dX12_lookAtItem_160 rfl (lv_at hl 2 rfl) ?_
    obtain ⟨hi13, h⟩ := h
    refine va_iald (f := fi 4) hx hb hK hP 4 3 rfl rfl hi13 dX12_lookAtItem_161 ?_
    refine lv_iload_n hx hb dX12_lookAtItem_162 rfl (lv_at hl 0 rfl) ?_
    refine lv_iload_n hx hb dX12_lookAtItem_163 rfl (lv_at hl 3 rfl) ?_
    refine lv_iconst (v := (-1)) hx hb dX12_lookAtItem_164 (by decide) ?_
    refine lv_iconst (v := 0) hx hb dX12_lookAtItem_165 (by decide) ?_
    refine lv_aload_n hx hb dX12_lookAtItem_166 rfl (lv_at hl 1 rfl) ?_
    refine va_get (D := (dC, dI)) (ci := 11) (v := .ref (a 5)) (C := RX12) (T := TX12) (N := 32) hx hb hts hinM hown hK hP 0 rfl rfl 5 (by decide) (hts _ mwM_6) (fun _ h9 => h9) rfl dX12_lookAtItem_167 ?_
    refine lv_iload_n hx hb dX12_lookAtItem_170 rfl (lv_at hl 2 rfl) ?_
    obtain ⟨hi14, h⟩ := h
    refine va_lald (f := fl 5) hx hb hK hP 5 4 rfl rfl hi14 dX12_lookAtItem_171 ?_
    refine m_calli (rm := ({ frames := 16, cells := 0, slots := 0, locals := 240 })) (As := [.int (fi 4 p0.toNatClampNeg), .int (fi 2 p0.toNatClampNeg), .int p1, .int (-1), .int 0, .long (fl 5 p0.toNatClampNeg)]) (rest := []) (fun sz => p_X12_ofItems l dC dI a ca g0 _ _ _ _ (fi 4 p0.toNatClampNeg) (fi 2 p0.toNatClampNeg) p1 (-1) 0 (fl 5 p0.toNatClampNeg) _ h sz) ⟨hx, hb, hml, hown, hts⟩ (cwV 6 hts (g_V gdM mwM_136 mwM_137 mwM_138 mwM_22 mwM_135) rfl rfl rfl hd_X12_ofItems ⟨Nat.le_of_ble_eq_true rfl, Nat.le_of_ble_eq_true rfl⟩) rfl hl.1 rfl hK hP hD hS hA (Nat.le_of_ble_eq_true rfl) ⟨Nat.le_of_ble_eq_true rfl, Nat.le_of_ble_eq_true rfl⟩ dX12_lookAtItem_172 (fun r15 v15 w15 fi15 fl15 H locs h hP hD hS => ?_)
    exact W.iret (v := r15) hx hb hr (fun t ht hW => ⟨⟨_, (v15, w15, fi15, fl15), rfl, h, by rw [ht]; exact hP, va_K.moved hW.alike hK, hD⟩, hS.F ht⟩) hS.2.2 dX12_lookAtItem_175
  replace h := h.2 hs_18_3
  by_cases hs_18_4 : (fi 1 p0.toNatClampNeg) = 4
  · have h := h.1 hs_18_4
    refine lv_tableIn (tgt := 176) hx hb dX12_lookAtItem_18 (by rw [hs_18_4]; decide) (by rw [hs_18_4]; decide) (off := 158) (by rw [hs_18_4]; decide) (by decide) ?_
    refine lv_aload_n hx hb dX12_lookAtItem_176 rfl (lv_at hl 1 rfl) ?_
    refine lv_aload_n hx hb dX12_lookAtItem_177 rfl (lv_at hl 1 rfl) ?_
    refine va_get (D := (dC, dI)) (ci := 11) (v := .ref (a 4)) (C := RX12) (T := TX12) (N := 32) hx hb hts hinM hown hK hP 0 rfl rfl 4 (by decide) (hts _ mwM_5) (fun _ h9 => h9) rfl dX12_lookAtItem_178 ?_
    refine lv_iload_n hx hb dX12_lookAtItem_181 rfl (lv_at hl 2 rfl) ?_
    obtain ⟨hi16, h⟩ := h
    refine va_iald (f := fi 4) hx hb hK hP 4 3 rfl rfl hi16 dX12_lookAtItem_182 ?_
    refine lv_iload_n hx hb dX12_lookAtItem_183 rfl (lv_at hl 0 rfl) ?_
    refine lv_iload_n hx hb dX12_lookAtItem_184 rfl (lv_at hl 3 rfl) ?_
    refine lv_aload_n hx hb dX12_lookAtItem_185 rfl (lv_at hl 1 rfl) ?_
    refine va_get (D := (dC, dI)) (ci := 11) (v := .ref (a 3)) (C := RX12) (T := TX12) (N := 32) hx hb hts hinM hown hK hP 0 rfl rfl 3 (by decide) (hts _ mwM_4) (fun _ h9 => h9) rfl dX12_lookAtItem_186 ?_
    refine lv_iload_n hx hb dX12_lookAtItem_189 rfl (lv_at hl 2 rfl) ?_
    obtain ⟨hi17, h⟩ := h
    refine va_iald (f := fi 3) hx hb hK hP 3 2 rfl rfl hi17 dX12_lookAtItem_190 ?_
    refine lv_iload_n hx hb dX12_lookAtItem_191 rfl (lv_at hl 3 rfl) ?_
    refine lv_lconst (v := 0) hx hb dX12_lookAtItem_192 (by decide) ?_
    refine m_calli (rm := ({ frames := 16, cells := 0, slots := 0, locals := 240 })) (As := [.int (fi 4 p0.toNatClampNeg), .int (fi 2 p0.toNatClampNeg), .int p1, .int (fi 3 p0.toNatClampNeg), .int p1, .long 0]) (rest := []) (fun sz => p_X12_ofItems l dC dI a ca g0 _ _ _ _ (fi 4 p0.toNatClampNeg) (fi 2 p0.toNatClampNeg) p1 (fi 3 p0.toNatClampNeg) p1 0 _ h sz) ⟨hx, hb, hml, hown, hts⟩ (cwV 6 hts (g_V gdM mwM_136 mwM_137 mwM_138 mwM_22 mwM_135) rfl rfl rfl hd_X12_ofItems ⟨Nat.le_of_ble_eq_true rfl, Nat.le_of_ble_eq_true rfl⟩) rfl hl.1 rfl hK hP hD hS hA (Nat.le_of_ble_eq_true rfl) ⟨Nat.le_of_ble_eq_true rfl, Nat.le_of_ble_eq_true rfl⟩ dX12_lookAtItem_193 (fun r18 v18 w18 fi18 fl18 H locs h hP hD hS => ?_)
    exact W.iret (v := r18) hx hb hr (fun t ht hW => ⟨⟨_, (v18, w18, fi18, fl18), rfl, h, by rw [ht]; exact hP, va_K.moved hW.alike hK, hD⟩, hS.F ht⟩) hS.2.2 dX12_lookAtItem_196
  replace h := h.2 hs_18_4
  by_cases hs_18_5 : (fi 1 p0.toNatClampNeg) = 5
  · have h := h.1 hs_18_5
    refine lv_tableIn (tgt := 197) hx hb dX12_lookAtItem_18 (by rw [hs_18_5]; decide) (by rw [hs_18_5]; decide) (off := 179) (by rw [hs_18_5]; decide) (by decide) ?_
    refine lv_iload_n hx hb dX12_lookAtItem_197 rfl (lv_at hl 3 rfl) ?_
    refine lv_if_ne (tgt := 214) hx hb dX12_lookAtItem_198 (by decide) (fun c_198 => ?_) (fun c_198 => ?_)
    · have h := h.1 c_198
      refine lv_aload_n hx hb dX12_lookAtItem_214 rfl (lv_at hl 1 rfl) ?_
      refine lv_aload_n hx hb dX12_lookAtItem_215 rfl (lv_at hl 1 rfl) ?_
      refine va_get (D := (dC, dI)) (ci := 11) (v := .ref (a 4)) (C := RX12) (T := TX12) (N := 32) hx hb hts hinM hown hK hP 0 rfl rfl 4 (by decide) (hts _ mwM_5) (fun _ h9 => h9) rfl dX12_lookAtItem_216 ?_
      refine lv_iload_n hx hb dX12_lookAtItem_219 rfl (lv_at hl 2 rfl) ?_
      obtain ⟨hi19, h⟩ := h
      refine va_iald (f := fi 4) hx hb hK hP 4 3 rfl rfl hi19 dX12_lookAtItem_220 ?_
      refine lv_iload_n hx hb dX12_lookAtItem_221 rfl (lv_at hl 2 rfl) ?_
      refine lv_iload_n hx hb dX12_lookAtItem_222 rfl (lv_at hl 3 rfl) ?_
      refine lv_iconst (v := 1) hx hb dX12_lookAtItem_223 (by decide) ?_
      refine lv_isub hx hb dX12_lookAtItem_224 ?_
      refine lv_iload_n hx hb dX12_lookAtItem_225 rfl (lv_at hl 0 rfl) ?_
      refine lv_iload_n hx hb dX12_lookAtItem_226 rfl (lv_at hl 3 rfl) ?_
      refine lv_iconst (v := 1) hx hb dX12_lookAtItem_227 (by decide) ?_
      refine lv_isub hx hb dX12_lookAtItem_228 ?_
      refine lv_lconst (v := 0) hx hb dX12_lookAtItem_229 (by decide) ?_
      refine m_calli (rm := ({ frames := 16, cells := 0, slots := 0, locals := 240 })) (As := [.int (fi 4 p0.toNatClampNeg), .int p0, .int (p1 - 1), .int (fi 2 p0.toNatClampNeg), .int (p1 - 1), .long 0]) (rest := []) (fun sz => p_X12_ofItems l dC dI a ca g0 _ _ _ _ (fi 4 p0.toNatClampNeg) p0 (p1 - 1) (fi 2 p0.toNatClampNeg) (p1 - 1) 0 _ h sz) ⟨hx, hb, hml, hown, hts⟩ (cwV 6 hts (g_V gdM mwM_136 mwM_137 mwM_138 mwM_22 mwM_135) rfl rfl rfl hd_X12_ofItems ⟨Nat.le_of_ble_eq_true rfl, Nat.le_of_ble_eq_true rfl⟩) rfl hl.1 rfl hK hP hD hS hA (Nat.le_of_ble_eq_true rfl) ⟨Nat.le_of_ble_eq_true rfl, Nat.le_of_ble_eq_true rfl⟩ dX12_lookAtItem_230 (fun r20 v20 w20 fi20 fl20 H locs h hP hD hS => ?_)
      exact W.iret (v := r20) hx hb hr (fun t ht hW => ⟨⟨_, (v20, w20, fi20, fl20), rfl, h, by rw [ht]; exact hP, va_K.moved hW.alike hK, hD⟩, hS.F ht⟩) hS.2.2 dX12_lookAtItem_233
    · have h := h.2 c_198
      refine lv_aload_n hx hb dX12_lookAtItem_201 rfl (lv_at hl 1 rfl) ?_
      refine lv_aload_n hx hb dX12_lookAtItem_202 rfl (lv_at hl 1 rfl) ?_
      refine va_get (D := (dC, dI)) (ci := 11) (v := .ref (a 5)) (C := RX12) (T := TX12) (N := 32) hx hb hts hinM hown hK hP 0 rfl rfl 5 (by decide) (hts _ mwM_6) (fun _ h9 => h9) rfl dX12_lookAtItem_203 ?_
      refine lv_iload_n hx hb dX12_lookAtItem_206 rfl (lv_at hl 2 rfl) ?_
      obtain ⟨hi21, h⟩ := h
      refine va_lald (f := fl 5) hx hb hK hP 5 4 rfl rfl hi21 dX12_lookAtItem_207 ?_
      refine m_calli (rm := ({ frames := 4, cells := 0, slots := 0, locals := 60 })) (As := [.long (fl 5 p0.toNatClampNeg)]) (rest := []) (fun sz => p_X12_is l dC dI a ca g0 _ _ _ _ (fl 5 p0.toNatClampNeg) _ h sz) ⟨hx, hb, hml, hown, hts⟩ (cwV 1 hts (g_V gdM mwM_140 mwM_141 mwM_142 mwM_22 mwM_139) rfl rfl rfl hd_X12_is ⟨Nat.le_of_ble_eq_true rfl, Nat.le_of_ble_eq_true rfl⟩) rfl hl.1 rfl hK hP hD hS hA (Nat.le_of_ble_eq_true rfl) ⟨Nat.le_of_ble_eq_true rfl, Nat.le_of_ble_eq_true rfl⟩ dX12_lookAtItem_208 (fun r22 v22 w22 fi22 fl22 H locs h hP hD hS => ?_)
      refine lv_goto (tgt := 233) hx hb dX12_lookAtItem_211 (by decide) ?_
      exact W.iret (v := r22) hx hb hr (fun t ht hW => ⟨⟨_, (v22, w22, fi22, fl22), rfl, h, by rw [ht]; exact hP, va_K.moved hW.alike hK, hD⟩, hS.F ht⟩) hS.2.2 dX12_lookAtItem_233
  replace h := h.2 hs_18_5
  refine lv_tableOut (tgt := 234) hx hb dX12_lookAtItem_18 (by have n0 := lv_neT hs_18_0 (a := 0) (by decide); have n1 := lv_neT hs_18_1 (a := 1) (by decide); have n2 := lv_neT hs_18_2 (a := 2) (by decide); have n3 := lv_neT hs_18_3 (a := 3) (by decide); have n4 := lv_neT hs_18_4 (a := 4) (by decide); have n5 := lv_neT hs_18_5 (a := 5) (by decide); omega) (by decide) ?_
  refine lv_aload_n hx hb dX12_lookAtItem_234 rfl (lv_at hl 1 rfl) ?_
  refine lv_iload_n hx hb dX12_lookAtItem_235 rfl (lv_at hl 2 rfl) ?_
  refine lv_iload_n hx hb dX12_lookAtItem_236 rfl (lv_at hl 3 rfl) ?_
  refine m_calli (rm := ({ frames := 16, cells := 0, slots := 0, locals := 240 })) (As := [.int p0, .int p1]) (rest := []) (fun sz => p_X12_lookAtRun l dC dI a ca g0 _ _ _ _ p0 p1 _ h sz) ⟨hx, hb, hml, hown, hts⟩ (cwV 2 hts (g_V gdM mwM_132 mwM_133 mwM_134 mwM_22 mwM_131) rfl rfl rfl hd_X12_lookAtRun ⟨Nat.le_of_ble_eq_true rfl, Nat.le_of_ble_eq_true rfl⟩) rfl hl.1 rfl hK hP hD hS hA (Nat.le_of_ble_eq_true rfl) ⟨Nat.le_of_ble_eq_true rfl, Nat.le_of_ble_eq_true rfl⟩ dX12_lookAtItem_237 (fun r23 v23 w23 fi23 fl23 H locs h hP hD hS => ?_)
  refine lv_istore (lv' := [(4, .int r23), (3, .int (fi 2 p0.toNatClampNeg)), (0, .ref g0), (1, .int p0), (2, .int p1)]) hx hb dX12_lookAtItem_240 hl (by decide) rfl (fun ls hl => ?_)
  refine lv_iload hx hb dX12_lookAtItem_242 (lv_at hl 0 rfl) ?_
  refine lv_iconst (v := (-1)) hx hb dX12_lookAtItem_244 (by decide) ?_
  refine lv_icmp_eq (tgt := 251) hx hb dX12_lookAtItem_245 (by decide) (fun c_245 => ?_) (fun c_245 => ?_)
  · have h := h.1 c_245
    refine lv_aload_n hx hb dX12_lookAtItem_251 rfl (lv_at hl 2 rfl) ?_
    refine va_get (D := (dC, dI)) (ci := 11) (v := .int (v23 26)) (C := RX12) (T := TX12) (N := 32) hx hb hts hinM hown hK hP 0 rfl rfl 26 (by decide) (hts _ mwM_8) (fun _ h9 => h9) rfl dX12_lookAtItem_252 ?_
    refine lv_iconst (v := 3) hx hb dX12_lookAtItem_255 (by decide) ?_
    refine lv_icmp_ge (tgt := 269) hx hb dX12_lookAtItem_256 (by decide) (fun c_256 => ?_) (fun c_256 => ?_)
    · have h := h.1 c_256
      refine lv_iconst (v := (-1)) hx hb dX12_lookAtItem_269 (by decide) ?_
      exact W.iret (v := (-1)) hx hb hr (fun t ht hW => ⟨⟨_, (v23, w23, fi23, fl23), rfl, h, by rw [ht]; exact hP, va_K.moved hW.alike hK, hD⟩, hS.F ht⟩) hS.2.2 dX12_lookAtItem_270
    · have h := h.2 c_256
      refine lv_aload_n hx hb dX12_lookAtItem_259 rfl (lv_at hl 2 rfl) ?_
      refine lv_aload_n hx hb dX12_lookAtItem_260 rfl (lv_at hl 2 rfl) ?_
      refine va_get (D := (dC, dI)) (ci := 11) (v := .int (v23 29)) (C := RX12) (T := TX12) (N := 32) hx hb hts hinM hown hK hP 0 rfl rfl 29 (by decide) (hts _ mwM_102) (fun _ h9 => h9) rfl dX12_lookAtItem_261 ?_
      refine lv_i2l hx hb dX12_lookAtItem_264 rfl ?_
      refine m_calli (rm := ({ frames := 4, cells := 0, slots := 0, locals := 60 })) (As := [.long ((v23 29).toInt64)]) (rest := []) (fun sz => p_X12_is l dC dI a ca g0 _ _ _ _ ((v23 29).toInt64) _ h sz) ⟨hx, hb, hml, hown, hts⟩ (cwV 1 hts (g_V gdM mwM_140 mwM_141 mwM_142 mwM_22 mwM_139) rfl rfl rfl hd_X12_is ⟨Nat.le_of_ble_eq_true rfl, Nat.le_of_ble_eq_true rfl⟩) rfl hl.1 rfl hK hP hD hS hA (Nat.le_of_ble_eq_true rfl) ⟨Nat.le_of_ble_eq_true rfl, Nat.le_of_ble_eq_true rfl⟩ dX12_lookAtItem_265 (fun r24 v24 w24 fi24 fl24 H locs h hP hD hS => ?_)
      exact W.iret (v := r24) hx hb hr (fun t ht hW => ⟨⟨_, (v24, w24, fi24, fl24), rfl, h, by rw [ht]; exact hP, va_K.moved hW.alike hK, hD⟩, hS.F ht⟩) hS.2.2 dX12_lookAtItem_268
  · have h := h.2 c_245
    refine lv_iload hx hb dX12_lookAtItem_248 (lv_at hl 0 rfl) ?_
    exact W.iret (v := r23) hx hb hr (fun t ht hW => ⟨⟨_, (v23, w23, fi23, fl23), rfl, h, by rw [ht]; exact hP, va_K.moved hW.alike hK, hD⟩, hS.F ht⟩) hS.2.2 dX12_lookAtItem_250

abbrev wmX12_meet : List Cond := .code yX12_meet cX12_meet 6 (some .boolean) :: WM
theorem hd_X12_meet : yX12_meet.cls = RX12 ∧ yX12_meet.cls ≠ "java/lang/invoke/MethodHandle" ∧ yX12_meet.cls ≠ "java/lang/invoke/VarHandle" ∧ (parseMethodDescriptor yX12_meet.desc).map (fun d => d.parameters.length) = some 1 := by decide +kernel
def B_X12_meet_9  (K9 : (Nat → Int32) → (Nat → Int64) → (Nat → Nat → Int32) → (Nat → Nat → Int64) → Int32 → Prop) (Q : Int32 → (Nat → Int32) → (Nat → Int64) → (Nat → Nat → Int32) → (Nat → Nat → Int64) → Prop) (v : Nat → Int32) (w : Nat → Int64) (fi : Nat → Nat → Int32) (fl : Nat → Nat → Int64) (x2 : Int32) : Prop := ((x2 ≤ 0) → (Q 1 v w fi fl)) ∧ ((¬ x2 ≤ 0) → (vp_in (x2 - 1) 20000 ∧ ∀ z2 : Int32, z2 = (fi 31 (x2 - 1).toNatClampNeg) / 2 → vp_in (x2 - 1) 20000 ∧ ((¬ ((fi 31 (x2 - 1).toNatClampNeg) - (fi 31 (x2 - 1).toNatClampNeg) / 2 * 2) = 1) → (vp_in z2 9600 ∧ (((fi 7 z2.toNatClampNeg) = 0) → (P_X12_lookAtCell v w fi fl (z2 / 400) (z2 - z2 / 400 * 400) (fun r5 v5 w5 fi5 fl5 => ((¬ r5 = (-2)) → (((r5 = (-1)) → (((¬ (v5 16) = (v5 15)) → (vp_in z2 9600 ∧ vp_in z2 9600 ∧ vp_in z2 9600 ∧ K9 (va_up v5 16 ((v5 16) + 1)) w5 (va_up (va_up (va_up fi5 7 (upd (fi5 7) z2.toNatClampNeg (v5 26))) 10 (upd ((va_up fi5 7 (upd (fi5 7) z2.toNatClampNeg (v5 26))) 10) z2.toNatClampNeg ((v5 27) + 1))) 11 (upd ((va_up (va_up fi5 7 (upd (fi5 7) z2.toNatClampNeg (v5 26))) 10 (upd ((va_up fi5 7 (upd (fi5 7) z2.toNatClampNeg (v5 26))) 10) z2.toNatClampNeg ((v5 27) + 1))) 11) z2.toNatClampNeg (v5 28))) fl5 (x2 + (-1)))) ∧ (((v5 16) = (v5 15)) → (Q 0 v5 w5 fi5 fl5)))) ∧ ((¬ r5 = (-1)) → (vp_in x2 20000 ∧ K9 v5 w5 (va_up fi5 31 (upd (fi5 31) x2.toNatClampNeg r5)) fl5 (x2 + 1))))) ∧ ((r5 = (-2)) → (Q 0 v5 w5 fi5 fl5))))) ∧ ((¬ (fi 7 z2.toNatClampNeg) = 0) → (K9 v w fi fl (x2 + (-1)))))) ∧ ((((fi 31 (x2 - 1).toNatClampNeg) - (fi 31 (x2 - 1).toNatClampNeg) / 2 * 2) = 1) → (vp_in z2 9600 ∧ (((fi 8 z2.toNatClampNeg) = 0) → (P_X12_lookAtItem v w fi fl (z2 / 400) (z2 - z2 / 400 * 400) (fun r11 v11 w11 fi11 fl11 => ((¬ r11 = (-2)) → (((r11 = (-1)) → (((¬ (v11 16) = (v11 15)) → (vp_in z2 9600 ∧ vp_in z2 9600 ∧ K9 (va_up v11 16 ((v11 16) + 1)) w11 (va_up fi11 8 (upd (fi11 8) z2.toNatClampNeg (v11 26))) (va_up fl11 9 (vp_updL (fl11 9) z2.toNatClampNeg (w11 30))) (x2 + (-1)))) ∧ (((v11 16) = (v11 15)) → (Q 0 v11 w11 fi11 fl11)))) ∧ ((¬ r11 = (-1)) → (vp_in x2 20000 ∧ K9 v11 w11 (va_up fi11 31 (upd (fi11 31) x2.toNatClampNeg r11)) fl11 (x2 + 1))))) ∧ ((r11 = (-2)) → (Q 0 v11 w11 fi11 fl11))))) ∧ ((¬ (fi 8 z2.toNatClampNeg) = 0) → (K9 v w fi fl (x2 + (-1))))))))
def P_X12_meet_9  (Q : Int32 → (Nat → Int32) → (Nat → Int64) → (Nat → Nat → Int32) → (Nat → Nat → Int64) → Prop) : Nat → (Nat → Int32) → (Nat → Int64) → (Nat → Nat → Int32) → (Nat → Nat → Int64) → Int32 → Prop
  | 0 => fun _ _ _ _ _ => False
  | n + 1 => B_X12_meet_9  (P_X12_meet_9  Q n) Q
set_option maxHeartbeats 4000000 in
set_option maxRecDepth 100000 in
theorem b_X12_meet_9 {p : Program} {l : Launch} {e : Env} {s : State} {m : MethodId} {args : Array Value} {below : List Frame} {meth : Method} {c : Code} {A : Nat → Prop} {dC : Nat → ClassId} {dI : Nat → Nat → Nat} {a : Nat → Nat} {ca : Nat → ClassId} {g0 : Nat}  {K9 : (Nat → Int32) → (Nat → Int64) → (Nat → Nat → Int32) → (Nat → Nat → Int64) → Int32 → Prop} {Q : Int32 → (Nat → Int32) → (Nat → Int64) → (Nat → Nat → Int32) → (Nat → Nat → Int64) → Prop} (hx : p.tables.exec = Jvm.exec) (hb : c.code = cX12_meet) (hr : meth.sig.returnType = (some .boolean)) (hts : ∀ w ∈ WM, w.before args s = true) (hown : s.vm.findClass RX12 = some m.cls) (hlocks : meth.locks = false) (hml : c.maxLocals = 6) (hA : ∀ q : Nat, s.heap.size ≤ q → A q) (hK : va_K (dC, dI) vwCl (mT ca) s)  (hK9 : ∀ (v : Nat → Int32) (w : Nat → Int64) (fi : Nat → Nat → Int32) (fl : Nat → Nat → Int64) (x2 : Int32) (H : Heap) (locs : List Loc) (ls : Array Slot), K9 v w fi fl x2 → va_P (dC, dI) vwCl (mW a ca g0 v w fi fl) H → va_D A (mW a ca g0 v w fi fl) → va_S A s.heap H locs → lv_has ls 6 [(0, .ref g0), (2, .int x2)] → W p l e (headSpec wmX12_meet ({ frames := 24, cells := 0, slots := 0, locals := 360 })).room s m args below meth c H locs 0 0 (MQ below (va_Qi (S := MSt) (pI Q) (mB dC dI a ca g0 A) A) args s 0 0 A) (F0 m 9 ls [])) : ∀ (v : Nat → Int32) (w : Nat → Int64) (fi : Nat → Nat → Int32) (fl : Nat → Nat → Int64) (x2 : Int32) (H : Heap) (locs : List Loc) (ls : Array Slot), B_X12_meet_9  K9 Q v w fi fl x2 → va_P (dC, dI) vwCl (mW a ca g0 v w fi fl) H → va_D A (mW a ca g0 v w fi fl) → va_S A s.heap H locs → lv_has ls 6 [(0, .ref g0), (2, .int x2)] → W p l e (headSpec wmX12_meet ({ frames := 24, cells := 0, slots := 0, locals := 360 })).room s m args below meth c H locs 0 0 (MQ below (va_Qi (S := MSt) (pI Q) (mB dC dI a ca g0 A) A) args s 0 0 A) (F0 m 9 ls []) := by
  intro v w fi fl x2 H locs ls h hP hD hS hl
  unfold B_X12_meet_9 at h
  refine lv_iload_n hx hb dX12_meet_9 rfl (lv_at hl 1 rfl) ?_
  refine lv_if_le (tgt := 230) hx hb dX12_meet_10 (by decide) (fun c_10 => ?_) (fun c_10 => ?_)
  · have h := h.1 c_10
    refine lv_iconst (v := 1) hx hb dX12_meet_230 (by decide) ?_
    exact W.zret (v := 1) hx hb hr (by decide) (fun t ht hW => ⟨⟨_, (v, w, fi, fl), rfl, h, by rw [ht]; exact hP, va_K.moved hW.alike hK, hD⟩, hS.F ht⟩) hS.2.2 dX12_meet_231
  · have h := h.2 c_10
    refine lv_aload_n hx hb dX12_meet_13 rfl (lv_at hl 0 rfl) ?_
    refine va_get (D := (dC, dI)) (ci := 11) (v := .ref (a 31)) (C := RX12) (T := TX12) (N := 32) hx hb hts hinM hown hK hP 0 rfl rfl 31 (by decide) (hts _ mwM_143) (fun _ h9 => h9) rfl dX12_meet_14 ?_
    refine lv_iload_n hx hb dX12_meet_17 rfl (lv_at hl 1 rfl) ?_
    refine lv_iconst (v := 1) hx hb dX12_meet_18 (by decide) ?_
    refine lv_isub hx hb dX12_meet_19 ?_
    obtain ⟨hi1, h⟩ := h
    refine va_iald (f := fi 31) hx hb hK hP 16 15 rfl rfl hi1 dX12_meet_20 ?_
    refine lv_iconst (v := 2) hx hb dX12_meet_21 (by decide) ?_
    refine lv_idiv hx hb dX12_meet_22 (by decide) ?_
    refine lv_topi (fun z2 ez2 => ?_)
    have h := h z2 ez2
    refine lv_istore_n (lv' := [(3, .int z2), (0, .ref g0), (2, .int x2)]) hx hb dX12_meet_23 rfl hl (by decide) rfl (fun ls hl => ?_)
    refine lv_aload_n hx hb dX12_meet_24 rfl (lv_at hl 1 rfl) ?_
    refine va_get (D := (dC, dI)) (ci := 11) (v := .ref (a 31)) (C := RX12) (T := TX12) (N := 32) hx hb hts hinM hown hK hP 0 rfl rfl 31 (by decide) (hts _ mwM_143) (fun _ h9 => h9) rfl dX12_meet_25 ?_
    refine lv_iload_n hx hb dX12_meet_28 rfl (lv_at hl 2 rfl) ?_
    refine lv_iconst (v := 1) hx hb dX12_meet_29 (by decide) ?_
    refine lv_isub hx hb dX12_meet_30 ?_
    obtain ⟨hi3, h⟩ := h
    refine va_iald (f := fi 31) hx hb hK hP 16 15 rfl rfl hi3 dX12_meet_31 ?_
    refine lv_iconst (v := 2) hx hb dX12_meet_32 (by decide) ?_
    refine lv_irem hx hb dX12_meet_33 (by decide) ?_
    refine lv_iconst (v := 1) hx hb dX12_meet_34 (by decide) ?_
    refine lv_icmp_ne (tgt := 42) hx hb dX12_meet_35 (by decide) (fun c_35 => ?_) (fun c_35 => ?_)
    · have h := h.1 c_35
      refine lv_iconst (v := 0) hx hb dX12_meet_42 (by decide) ?_
      refine lv_istore (lv' := [(4, .int 0), (3, .int z2), (0, .ref g0), (2, .int x2)]) hx hb dX12_meet_43 hl (by decide) rfl (fun ls hl => ?_)
      refine lv_iload hx hb dX12_meet_45 (lv_at hl 0 rfl) ?_
      refine lv_if_eq (tgt := 59) hx hb dX12_meet_47 (by decide) (fun c_47 => ?_) (fun c_47 => ?_)
      · refine lv_aload_n hx hb dX12_meet_59 rfl (lv_at hl 2 rfl) ?_
        refine va_get (D := (dC, dI)) (ci := 11) (v := .ref (a 7)) (C := RX12) (T := TX12) (N := 32) hx hb hts hinM hown hK hP 0 rfl rfl 7 (by decide) (hts _ mwM_43) (fun _ h9 => h9) rfl dX12_meet_60 ?_
        refine lv_iload_n hx hb dX12_meet_63 rfl (lv_at hl 1 rfl) ?_
        obtain ⟨hi4, h⟩ := h
        refine va_iald (f := fi 7) hx hb hK hP 7 6 rfl rfl hi4 dX12_meet_64 ?_
        refine lv_if_eq (tgt := 74) hx hb dX12_meet_65 (by decide) (fun c_65 => ?_) (fun c_65 => ?_)
        · have h := h.1 c_65
          refine lv_iload hx hb dX12_meet_74 (lv_at hl 0 rfl) ?_
          refine lv_if_eq (tgt := 96) hx hb dX12_meet_76 (by decide) (fun c_76 => ?_) (fun c_76 => ?_)
          · refine lv_aload_n hx hb dX12_meet_96 rfl (lv_at hl 2 rfl) ?_
            refine lv_iload_n hx hb dX12_meet_97 rfl (lv_at hl 1 rfl) ?_
            refine lv_sipush (v := 400) hx hb dX12_meet_98 (by decide) ?_
            refine lv_idiv hx hb dX12_meet_101 (by decide) ?_
            refine lv_iload_n hx hb dX12_meet_102 rfl (lv_at hl 1 rfl) ?_
            refine lv_sipush (v := 400) hx hb dX12_meet_103 (by decide) ?_
            refine lv_irem hx hb dX12_meet_106 (by decide) ?_
            refine m_calli (rm := ({ frames := 20, cells := 0, slots := 0, locals := 300 })) (As := [.int (z2 / 400), .int (z2 - z2 / 400 * 400)]) (rest := []) (fun sz => p_X12_lookAtCell l dC dI a ca g0 _ _ _ _ (z2 / 400) (z2 - z2 / 400 * 400) _ h sz) ⟨hx, hb, hml, hown, hts⟩ (cwV 2 hts (g_V gdM mwM_145 mwM_146 mwM_147 mwM_22 mwM_144) rfl rfl rfl hd_X12_lookAtCell ⟨Nat.le_of_ble_eq_true rfl, Nat.le_of_ble_eq_true rfl⟩) rfl hl.1 rfl hK hP hD hS hA (Nat.le_of_ble_eq_true rfl) ⟨Nat.le_of_ble_eq_true rfl, Nat.le_of_ble_eq_true rfl⟩ dX12_meet_107 (fun r5 v5 w5 fi5 fl5 H locs h hP hD hS => ?_)
            refine lv_istore (lv' := [(5, .int r5), (4, .int 0), (3, .int z2), (0, .ref g0), (2, .int x2)]) hx hb dX12_meet_110 hl (by decide) rfl (fun ls hl => ?_)
            refine lv_iload hx hb dX12_meet_112 (lv_at hl 0 rfl) ?_
            refine lv_bipush (v := (-2)) hx hb dX12_meet_114 (by decide) ?_
            refine lv_icmp_ne (tgt := 121) hx hb dX12_meet_116 (by decide) (fun c_116 => ?_) (fun c_116 => ?_)
            · have h := h.1 c_116
              refine lv_iload hx hb dX12_meet_121 (lv_at hl 0 rfl) ?_
              refine lv_iconst (v := (-1)) hx hb dX12_meet_123 (by decide) ?_
              refine lv_icmp_eq (tgt := 141) hx hb dX12_meet_124 (by decide) (fun c_124 => ?_) (fun c_124 => ?_)
              · have h := h.1 c_124
                refine lv_aload_n hx hb dX12_meet_141 rfl (lv_at hl 3 rfl) ?_
                refine va_get (D := (dC, dI)) (ci := 11) (v := .int (v5 16)) (C := RX12) (T := TX12) (N := 32) hx hb hts hinM hown hK hP 0 rfl rfl 16 (by decide) (hts _ mwM_12) (fun _ h9 => h9) rfl dX12_meet_142 ?_
                refine lv_aload_n hx hb dX12_meet_145 rfl (lv_at hl 3 rfl) ?_
                refine va_get (D := (dC, dI)) (ci := 11) (v := .int (v5 15)) (C := RX12) (T := TX12) (N := 32) hx hb hts hinM hown hK hP 0 rfl rfl 15 (by decide) (hts _ mwM_51) (fun _ h9 => h9) rfl dX12_meet_146 ?_
                refine lv_icmp_ne (tgt := 154) hx hb dX12_meet_149 (by decide) (fun c_149 => ?_) (fun c_149 => ?_)
                · have h := h.1 c_149
                  refine lv_aload_n hx hb dX12_meet_154 rfl (lv_at hl 3 rfl) ?_
                  refine lv_dup hx hb dX12_meet_155 rfl ?_
                  refine va_get (D := (dC, dI)) (ci := 11) (v := .int (v5 16)) (C := RX12) (T := TX12) (N := 32) hx hb hts hinM hown hK hP 0 rfl rfl 16 (by decide) (hts _ mwM_12) (fun _ h9 => h9) rfl dX12_meet_156 ?_
                  refine lv_iconst (v := 1) hx hb dX12_meet_159 (by decide) ?_
                  refine lv_iadd hx hb dX12_meet_160 ?_
                  refine m_put_16 hx hb hts hinM hown hK hP hD hS (hts _ mwM_12) dX12_meet_161 (fun H locs hP hD hS => ?_)
                  refine lv_iinc (v := x2 + (-1)) (lv' := [(2, .int (x2 + (-1))), (5, .int r5), (4, .int 0), (3, .int z2), (0, .ref g0)]) hx hb dX12_meet_164 hl (k := 4) rfl (iinc_m1 _) (by decide) rfl (fun ls hl => ?_)
                  refine lv_iload hx hb dX12_meet_167 (lv_at hl 2 rfl) ?_
                  refine lv_if_eq (tgt := 195) hx hb dX12_meet_169 (by decide) (fun c_169 => ?_) (fun c_169 => ?_)
                  · refine lv_aload_n hx hb dX12_meet_195 rfl (lv_at hl 4 rfl) ?_
                    refine va_get (D := (dC, dI)) (ci := 11) (v := .ref (a 7)) (C := RX12) (T := TX12) (N := 32) hx hb hts hinM hown hK hP 0 rfl rfl 7 (by decide) (hts _ mwM_43) (fun _ h9 => h9) rfl dX12_meet_196 ?_
                    refine lv_iload_n hx hb dX12_meet_199 rfl (lv_at hl 3 rfl) ?_
                    refine lv_aload_n hx hb dX12_meet_200 rfl (lv_at hl 4 rfl) ?_
                    refine va_get (D := (dC, dI)) (ci := 11) (v := .int (v5 26)) (C := RX12) (T := TX12) (N := 32) hx hb hts hinM hown hK hP 0 rfl rfl 26 (by decide) (hts _ mwM_8) (fun _ h9 => h9) rfl dX12_meet_201 ?_
                    obtain ⟨hi6, h⟩ := h
                    refine m_ast_7 hx hb hK hP hD hS hi6 dX12_meet_204 (fun H locs hP hD hS => ?_)
                    refine lv_aload_n hx hb dX12_meet_205 rfl (lv_at hl 4 rfl) ?_
                    refine va_get (D := (dC, dI)) (ci := 11) (v := .ref (a 10)) (C := RX12) (T := TX12) (N := 32) hx hb hts hinM hown hK hP 0 rfl rfl 10 (by decide) (hts _ mwM_49) (fun _ h9 => h9) rfl dX12_meet_206 ?_
                    refine lv_iload_n hx hb dX12_meet_209 rfl (lv_at hl 3 rfl) ?_
                    refine lv_aload_n hx hb dX12_meet_210 rfl (lv_at hl 4 rfl) ?_
                    refine va_get (D := (dC, dI)) (ci := 11) (v := .int (v5 27)) (C := RX12) (T := TX12) (N := 32) hx hb hts hinM hown hK hP 0 rfl rfl 27 (by decide) (hts _ mwM_9) (fun _ h9 => h9) rfl dX12_meet_211 ?_
                    refine lv_iconst (v := 1) hx hb dX12_meet_214 (by decide) ?_
                    refine lv_iadd hx hb dX12_meet_215 ?_
                    obtain ⟨hi7, h⟩ := h
                    refine m_ast_10 hx hb hK hP hD hS hi7 dX12_meet_216 (fun H locs hP hD hS => ?_)
                    refine lv_aload_n hx hb dX12_meet_217 rfl (lv_at hl 4 rfl) ?_
                    refine va_get (D := (dC, dI)) (ci := 11) (v := .ref (a 11)) (C := RX12) (T := TX12) (N := 32) hx hb hts hinM hown hK hP 0 rfl rfl 11 (by decide) (hts _ mwM_50) (fun _ h9 => h9) rfl dX12_meet_218 ?_
                    refine lv_iload_n hx hb dX12_meet_221 rfl (lv_at hl 3 rfl) ?_
                    refine lv_aload_n hx hb dX12_meet_222 rfl (lv_at hl 4 rfl) ?_
                    refine va_get (D := (dC, dI)) (ci := 11) (v := .int (v5 28)) (C := RX12) (T := TX12) (N := 32) hx hb hts hinM hown hK hP 0 rfl rfl 28 (by decide) (hts _ mwM_10) (fun _ h9 => h9) rfl dX12_meet_223 ?_
                    obtain ⟨hi8, h⟩ := h
                    refine m_ast_11 hx hb hK hP hD hS hi8 dX12_meet_226 (fun H locs hP hD hS => ?_)
                    refine lv_goto (tgt := 9) hx hb dX12_meet_227 (by decide) ?_
                    exact hK9 _ _ _ _ _ H _ ls h hP hD hS (lv_sub hl [4, 0] rfl)
                  · exact absurd c_169 (by decide)
                · have h := h.2 c_149
                  refine lv_iconst (v := 0) hx hb dX12_meet_152 (by decide) ?_
                  exact W.zret (v := 0) hx hb hr (by decide) (fun t ht hW => ⟨⟨_, (v5, w5, fi5, fl5), rfl, h, by rw [ht]; exact hP, va_K.moved hW.alike hK, hD⟩, hS.F ht⟩) hS.2.2 dX12_meet_153
              · have h := h.2 c_124
                refine lv_aload_n hx hb dX12_meet_127 rfl (lv_at hl 3 rfl) ?_
                refine va_get (D := (dC, dI)) (ci := 11) (v := .ref (a 31)) (C := RX12) (T := TX12) (N := 32) hx hb hts hinM hown hK hP 0 rfl rfl 31 (by decide) (hts _ mwM_143) (fun _ h9 => h9) rfl dX12_meet_128 ?_
                refine lv_iload_n hx hb dX12_meet_131 rfl (lv_at hl 4 rfl) ?_
                refine lv_iload hx hb dX12_meet_132 (lv_at hl 0 rfl) ?_
                obtain ⟨hi9, h⟩ := h
                refine m_ast_31 hx hb hK hP hD hS hi9 dX12_meet_134 (fun H locs hP hD hS => ?_)
                refine lv_iinc (v := x2 + 1) (lv' := [(2, .int (x2 + 1)), (5, .int r5), (4, .int 0), (3, .int z2), (0, .ref g0)]) hx hb dX12_meet_135 hl (k := 4) rfl (iinc_1 _) (by decide) rfl (fun ls hl => ?_)
                refine lv_goto (tgt := 9) hx hb dX12_meet_138 (by decide) ?_
                exact hK9 _ _ _ _ _ H _ ls h hP hD hS (lv_sub hl [4, 0] rfl)
            · have h := h.2 c_116
              refine lv_iconst (v := 0) hx hb dX12_meet_119 (by decide) ?_
              exact W.zret (v := 0) hx hb hr (by decide) (fun t ht hW => ⟨⟨_, (v5, w5, fi5, fl5), rfl, h, by rw [ht]; exact hP, va_K.moved hW.alike hK, hD⟩, hS.F ht⟩) hS.2.2 dX12_meet_120
          · exact absurd c_76 (by decide)
        · have h := h.2 c_65
          refine lv_iinc (v := x2 + (-1)) (lv' := [(2, .int (x2 + (-1))), (4, .int 0), (3, .int z2), (0, .ref g0)]) hx hb dX12_meet_68 hl (k := 3) rfl (iinc_m1 _) (by decide) rfl (fun ls hl => ?_)
          refine lv_goto (tgt := 9) hx hb dX12_meet_71 (by decide) ?_
          exact hK9 _ _ _ _ _ H _ ls h hP hD hS (lv_sub hl [3, 0] rfl)
      · exact absurd c_47 (by decide)
    · have h := h.2 c_35
      refine lv_iconst (v := 1) hx hb dX12_meet_38 (by decide) ?_
      refine lv_goto (tgt := 43) hx hb dX12_meet_39 (by decide) ?_
      refine lv_istore (lv' := [(4, .int 1), (3, .int z2), (0, .ref g0), (2, .int x2)]) hx hb dX12_meet_43 hl (by decide) rfl (fun ls hl => ?_)
      refine lv_iload hx hb dX12_meet_45 (lv_at hl 0 rfl) ?_
      refine lv_if_eq (tgt := 59) hx hb dX12_meet_47 (by decide) (fun c_47 => ?_) (fun c_47 => ?_)
      · exact absurd c_47 (by decide)
      · refine lv_aload_n hx hb dX12_meet_50 rfl (lv_at hl 2 rfl) ?_
        refine va_get (D := (dC, dI)) (ci := 11) (v := .ref (a 8)) (C := RX12) (T := TX12) (N := 32) hx hb hts hinM hown hK hP 0 rfl rfl 8 (by decide) (hts _ mwM_73) (fun _ h9 => h9) rfl dX12_meet_51 ?_
        refine lv_iload_n hx hb dX12_meet_54 rfl (lv_at hl 1 rfl) ?_
        obtain ⟨hi10, h⟩ := h
        refine va_iald (f := fi 8) hx hb hK hP 8 7 rfl rfl hi10 dX12_meet_55 ?_
        refine lv_goto (tgt := 65) hx hb dX12_meet_56 (by decide) ?_
        refine lv_if_eq (tgt := 74) hx hb dX12_meet_65 (by decide) (fun c_65 => ?_) (fun c_65 => ?_)
        · have h := h.1 c_65
          refine lv_iload hx hb dX12_meet_74 (lv_at hl 0 rfl) ?_
          refine lv_if_eq (tgt := 96) hx hb dX12_meet_76 (by decide) (fun c_76 => ?_) (fun c_76 => ?_)
          · exact absurd c_76 (by decide)
          · refine lv_aload_n hx hb dX12_meet_79 rfl (lv_at hl 2 rfl) ?_
            refine lv_iload_n hx hb dX12_meet_80 rfl (lv_at hl 1 rfl) ?_
            refine lv_sipush (v := 400) hx hb dX12_meet_81 (by decide) ?_
            refine lv_idiv hx hb dX12_meet_84 (by decide) ?_
            refine lv_iload_n hx hb dX12_meet_85 rfl (lv_at hl 1 rfl) ?_
            refine lv_sipush (v := 400) hx hb dX12_meet_86 (by decide) ?_
            refine lv_irem hx hb dX12_meet_89 (by decide) ?_
            refine m_calli (rm := ({ frames := 20, cells := 0, slots := 0, locals := 300 })) (As := [.int (z2 / 400), .int (z2 - z2 / 400 * 400)]) (rest := []) (fun sz => p_X12_lookAtItem l dC dI a ca g0 _ _ _ _ (z2 / 400) (z2 - z2 / 400 * 400) _ h sz) ⟨hx, hb, hml, hown, hts⟩ (cwV 2 hts (g_V gdM mwM_149 mwM_150 mwM_151 mwM_22 mwM_148) rfl rfl rfl hd_X12_lookAtItem ⟨Nat.le_of_ble_eq_true rfl, Nat.le_of_ble_eq_true rfl⟩) rfl hl.1 rfl hK hP hD hS hA (Nat.le_of_ble_eq_true rfl) ⟨Nat.le_of_ble_eq_true rfl, Nat.le_of_ble_eq_true rfl⟩ dX12_meet_90 (fun r11 v11 w11 fi11 fl11 H locs h hP hD hS => ?_)
            refine lv_goto (tgt := 110) hx hb dX12_meet_93 (by decide) ?_
            refine lv_istore (lv' := [(5, .int r11), (4, .int 1), (3, .int z2), (0, .ref g0), (2, .int x2)]) hx hb dX12_meet_110 hl (by decide) rfl (fun ls hl => ?_)
            refine lv_iload hx hb dX12_meet_112 (lv_at hl 0 rfl) ?_
            refine lv_bipush (v := (-2)) hx hb dX12_meet_114 (by decide) ?_
            refine lv_icmp_ne (tgt := 121) hx hb dX12_meet_116 (by decide) (fun c_116 => ?_) (fun c_116 => ?_)
            · have h := h.1 c_116
              refine lv_iload hx hb dX12_meet_121 (lv_at hl 0 rfl) ?_
              refine lv_iconst (v := (-1)) hx hb dX12_meet_123 (by decide) ?_
              refine lv_icmp_eq (tgt := 141) hx hb dX12_meet_124 (by decide) (fun c_124 => ?_) (fun c_124 => ?_)
              · have h := h.1 c_124
                refine lv_aload_n hx hb dX12_meet_141 rfl (lv_at hl 3 rfl) ?_
                refine va_get (D := (dC, dI)) (ci := 11) (v := .int (v11 16)) (C := RX12) (T := TX12) (N := 32) hx hb hts hinM hown hK hP 0 rfl rfl 16 (by decide) (hts _ mwM_12) (fun _ h9 => h9) rfl dX12_meet_142 ?_
                refine lv_aload_n hx hb dX12_meet_145 rfl (lv_at hl 3 rfl) ?_
                refine va_get (D := (dC, dI)) (ci := 11) (v := .int (v11 15)) (C := RX12) (T := TX12) (N := 32) hx hb hts hinM hown hK hP 0 rfl rfl 15 (by decide) (hts _ mwM_51) (fun _ h9 => h9) rfl dX12_meet_146 ?_
                refine lv_icmp_ne (tgt := 154) hx hb dX12_meet_149 (by decide) (fun c_149 => ?_) (fun c_149 => ?_)
                · have h := h.1 c_149
                  refine lv_aload_n hx hb dX12_meet_154 rfl (lv_at hl 3 rfl) ?_
                  refine lv_dup hx hb dX12_meet_155 rfl ?_
                  refine va_get (D := (dC, dI)) (ci := 11) (v := .int (v11 16)) (C := RX12) (T := TX12) (N := 32) hx hb hts hinM hown hK hP 0 rfl rfl 16 (by decide) (hts _ mwM_12) (fun _ h9 => h9) rfl dX12_meet_156 ?_
                  refine lv_iconst (v := 1) hx hb dX12_meet_159 (by decide) ?_
                  refine lv_iadd hx hb dX12_meet_160 ?_
                  refine m_put_16 hx hb hts hinM hown hK hP hD hS (hts _ mwM_12) dX12_meet_161 (fun H locs hP hD hS => ?_)
                  refine lv_iinc (v := x2 + (-1)) (lv' := [(2, .int (x2 + (-1))), (5, .int r11), (4, .int 1), (3, .int z2), (0, .ref g0)]) hx hb dX12_meet_164 hl (k := 4) rfl (iinc_m1 _) (by decide) rfl (fun ls hl => ?_)
                  refine lv_iload hx hb dX12_meet_167 (lv_at hl 2 rfl) ?_
                  refine lv_if_eq (tgt := 195) hx hb dX12_meet_169 (by decide) (fun c_169 => ?_) (fun c_169 => ?_)
                  · exact absurd c_169 (by decide)
                  · refine lv_aload_n hx hb dX12_meet_172 rfl (lv_at hl 4 rfl) ?_
                    refine va_get (D := (dC, dI)) (ci := 11) (v := .ref (a 8)) (C := RX12) (T := TX12) (N := 32) hx hb hts hinM hown hK hP 0 rfl rfl 8 (by decide) (hts _ mwM_73) (fun _ h9 => h9) rfl dX12_meet_173 ?_
                    refine lv_iload_n hx hb dX12_meet_176 rfl (lv_at hl 3 rfl) ?_
                    refine lv_aload_n hx hb dX12_meet_177 rfl (lv_at hl 4 rfl) ?_
                    refine va_get (D := (dC, dI)) (ci := 11) (v := .int (v11 26)) (C := RX12) (T := TX12) (N := 32) hx hb hts hinM hown hK hP 0 rfl rfl 26 (by decide) (hts _ mwM_8) (fun _ h9 => h9) rfl dX12_meet_178 ?_
                    obtain ⟨hi12, h⟩ := h
                    refine m_ast_8 hx hb hK hP hD hS hi12 dX12_meet_181 (fun H locs hP hD hS => ?_)
                    refine lv_aload_n hx hb dX12_meet_182 rfl (lv_at hl 4 rfl) ?_
                    refine va_get (D := (dC, dI)) (ci := 11) (v := .ref (a 9)) (C := RX12) (T := TX12) (N := 32) hx hb hts hinM hown hK hP 0 rfl rfl 9 (by decide) (hts _ mwM_74) (fun _ h9 => h9) rfl dX12_meet_183 ?_
                    refine lv_iload_n hx hb dX12_meet_186 rfl (lv_at hl 3 rfl) ?_
                    refine lv_aload_n hx hb dX12_meet_187 rfl (lv_at hl 4 rfl) ?_
                    refine va_get (D := (dC, dI)) (ci := 11) (v := .long (w11 30)) (C := RX12) (T := TX12) (N := 32) hx hb hts hinM hown hK hP 0 rfl rfl 30 (by decide) (hts _ mwM_11) (fun _ h9 => h9) rfl dX12_meet_188 ?_
                    obtain ⟨hi13, h⟩ := h
                    refine m_ast_9 hx hb hK hP hD hS hi13 dX12_meet_191 (fun H locs hP hD hS => ?_)
                    refine lv_goto (tgt := 227) hx hb dX12_meet_192 (by decide) ?_
                    refine lv_goto (tgt := 9) hx hb dX12_meet_227 (by decide) ?_
                    exact hK9 _ _ _ _ _ H _ ls h hP hD hS (lv_sub hl [4, 0] rfl)
                · have h := h.2 c_149
                  refine lv_iconst (v := 0) hx hb dX12_meet_152 (by decide) ?_
                  exact W.zret (v := 0) hx hb hr (by decide) (fun t ht hW => ⟨⟨_, (v11, w11, fi11, fl11), rfl, h, by rw [ht]; exact hP, va_K.moved hW.alike hK, hD⟩, hS.F ht⟩) hS.2.2 dX12_meet_153
              · have h := h.2 c_124
                refine lv_aload_n hx hb dX12_meet_127 rfl (lv_at hl 3 rfl) ?_
                refine va_get (D := (dC, dI)) (ci := 11) (v := .ref (a 31)) (C := RX12) (T := TX12) (N := 32) hx hb hts hinM hown hK hP 0 rfl rfl 31 (by decide) (hts _ mwM_143) (fun _ h9 => h9) rfl dX12_meet_128 ?_
                refine lv_iload_n hx hb dX12_meet_131 rfl (lv_at hl 4 rfl) ?_
                refine lv_iload hx hb dX12_meet_132 (lv_at hl 0 rfl) ?_
                obtain ⟨hi14, h⟩ := h
                refine m_ast_31 hx hb hK hP hD hS hi14 dX12_meet_134 (fun H locs hP hD hS => ?_)
                refine lv_iinc (v := x2 + 1) (lv' := [(2, .int (x2 + 1)), (5, .int r11), (4, .int 1), (3, .int z2), (0, .ref g0)]) hx hb dX12_meet_135 hl (k := 4) rfl (iinc_1 _) (by decide) rfl (fun ls hl => ?_)
                refine lv_goto (tgt := 9) hx hb dX12_meet_138 (by decide) ?_
                exact hK9 _ _ _ _ _ H _ ls h hP hD hS (lv_sub hl [4, 0] rfl)
            · have h := h.2 c_116
              refine lv_iconst (v := 0) hx hb dX12_meet_119 (by decide) ?_
              exact W.zret (v := 0) hx hb hr (by decide) (fun t ht hW => ⟨⟨_, (v11, w11, fi11, fl11), rfl, h, by rw [ht]; exact hP, va_K.moved hW.alike hK, hD⟩, hS.F ht⟩) hS.2.2 dX12_meet_120
        · have h := h.2 c_65
          refine lv_iinc (v := x2 + (-1)) (lv' := [(2, .int (x2 + (-1))), (4, .int 1), (3, .int z2), (0, .ref g0)]) hx hb dX12_meet_68 hl (k := 3) rfl (iinc_m1 _) (by decide) rfl (fun ls hl => ?_)
          refine lv_goto (tgt := 9) hx hb dX12_meet_71 (by decide) ?_
          exact hK9 _ _ _ _ _ H _ ls h hP hD hS (lv_sub hl [3, 0] rfl)
set_option maxHeartbeats 4000000 in
set_option maxRecDepth 100000 in
theorem t_X12_meet_9 {p : Program} {l : Launch} {e : Env} {s : State} {m : MethodId} {args : Array Value} {below : List Frame} {meth : Method} {c : Code} {A : Nat → Prop} {dC : Nat → ClassId} {dI : Nat → Nat → Nat} {a : Nat → Nat} {ca : Nat → ClassId} {g0 : Nat}  {Q : Int32 → (Nat → Int32) → (Nat → Int64) → (Nat → Nat → Int32) → (Nat → Nat → Int64) → Prop} (hx : p.tables.exec = Jvm.exec) (hb : c.code = cX12_meet) (hr : meth.sig.returnType = (some .boolean)) (hts : ∀ w ∈ WM, w.before args s = true) (hown : s.vm.findClass RX12 = some m.cls) (hlocks : meth.locks = false) (hml : c.maxLocals = 6) (hA : ∀ q : Nat, s.heap.size ≤ q → A q) (hK : va_K (dC, dI) vwCl (mT ca) s)  : ∀ n : Nat, ∀ (v : Nat → Int32) (w : Nat → Int64) (fi : Nat → Nat → Int32) (fl : Nat → Nat → Int64) (x2 : Int32) (H : Heap) (locs : List Loc) (ls : Array Slot), P_X12_meet_9  Q n v w fi fl x2 → va_P (dC, dI) vwCl (mW a ca g0 v w fi fl) H → va_D A (mW a ca g0 v w fi fl) → va_S A s.heap H locs → lv_has ls 6 [(0, .ref g0), (2, .int x2)] → W p l e (headSpec wmX12_meet ({ frames := 24, cells := 0, slots := 0, locals := 360 })).room s m args below meth c H locs 0 0 (MQ below (va_Qi (S := MSt) (pI Q) (mB dC dI a ca g0 A) A) args s 0 0 A) (F0 m 9 ls []) := by
  intro n
  induction n with
  | zero => intro v w fi fl x2 H locs ls h; exact h.elim
  | succ n ih => exact b_X12_meet_9 hx hb hr hts hown hlocks hml hA hK  ih
def P_X12_meet (v : Nat → Int32) (w : Nat → Int64) (fi : Nat → Nat → Int32) (fl : Nat → Nat → Int64) (p0 : Int32) (Q : Int32 → (Nat → Int32) → (Nat → Int64) → (Nat → Nat → Int32) → (Nat → Nat → Int64) → Prop) : Prop := vp_in (0 : Int32) 20000 ∧ ∃ n9 : Nat, P_X12_meet_9  Q n9 v w (va_up fi 31 (upd (fi 31) (0 : Int32).toNatClampNeg p0)) fl (1 : Int32)
set_option maxHeartbeats 4000000 in
set_option maxRecDepth 100000 in
theorem p_X12_meet (l : Launch) (dC : Nat → ClassId) (dI : Nat → Nat → Nat) (a : Nat → Nat) (ca : Nat → ClassId) (g0 : Nat) (v : Nat → Int32) (w : Nat → Int64) (fi : Nat → Nat → Int32) (fl : Nat → Nat → Int64) (p0 : Int32) (Q : Int32 → (Nat → Int32) → (Nat → Int64) → (Nat → Nat → Int32) → (Nat → Nat → Int64) → Prop) (h : P_X12_meet v w fi fl p0 Q) (sz : Nat) : Met l yX12_meet wmX12_meet ({ frames := 24, cells := 0, slots := 0, locals := 360 }) (va_Pc [.ref g0, .int p0] (mPre dC dI a ca g0 v w fi fl sz)) (va_Qi (S := MSt) (pI Q) (mB dC dI a ca g0 (va_A (mW a ca g0 v w fi fl) sz)) (va_A (mW a ca g0 v w fi fl) sz)) 0 0 (va_A (mW a ca g0 v w fi fl) sz) := by
  refine Met.ofW (cc := cX12_meet) (maxL := 6) (ret := (some .boolean)) (by decide) rfl ?_
  intro p e s m args below meth c s₁ B hml hv
  obtain ⟨rfl, hsz, hP, hK, hD0⟩ := hv
  have hx := B.exec
  have hb := B.bytes
  have hr := B.returns
  have hts : ∀ w ∈ WM, w.before _ s = true := fun w h => atoms_spec (ws := wmX12_meet) B.pre w (List.mem_cons_of_mem _ h)
  have hown : s.vm.findClass RX12 = some m.cls := findClass_of_methodNamed B.named
  have hlocks := B.notSynchronized
  subst hsz
  have hD := hD0.self (sz := s.heap.size)
  generalize hAe : va_A (mW a ca g0 v w fi fl) s.heap.size = A at hD ⊢
  have hA : ∀ q : Nat, s.heap.size ≤ q → A q := fun q h => by rw [← hAe]; exact Or.inr h
  generalize hH : s.heap = H at hP ⊢
  have hS : va_S A s.heap H [] := by rw [← hH]; exact va_S.rf
  have hl := lv_entry [.ref g0, .int p0] (n := 6) (Nat.le_of_ble_eq_true rfl)
  rw [lg_entry_eq]
  generalize (lg_sl [.ref g0, .int p0] ++ List.replicate (6 - (lg_sl [.ref g0, .int p0]).length) Slot.unset).toArray = ls at hl ⊢
  have hl : lv_has ls 6 [(0, .ref g0), (1, .int p0)] := hl
  unfold P_X12_meet at h
  refine lv_iconst (v := 1) hx hb dX12_meet_0 (by decide) ?_
  refine lv_istore_n (lv' := [(2, .int 1), (0, .ref g0), (1, .int p0)]) hx hb dX12_meet_1 rfl hl (by decide) rfl (fun ls hl => ?_)
  refine lv_aload_n hx hb dX12_meet_2 rfl (lv_at hl 1 rfl) ?_
  refine va_get (D := (dC, dI)) (ci := 11) (v := .ref (a 31)) (C := RX12) (T := TX12) (N := 32) hx hb hts hinM hown hK hP 0 rfl rfl 31 (by decide) (hts _ mwM_143) (fun _ h9 => h9) rfl dX12_meet_3 ?_
  refine lv_iconst (v := 0) hx hb dX12_meet_6 (by decide) ?_
  refine lv_iload_n hx hb dX12_meet_7 rfl (lv_at hl 2 rfl) ?_
  obtain ⟨hi1, h⟩ := h
  refine m_ast_31 hx hb hK hP hD hS hi1 dX12_meet_8 (fun H locs hP hD hS => ?_)
  obtain ⟨n9, h⟩ := h
  exact t_X12_meet_9 hx hb hr hts hown hlocks hml hA hK  n9 _ _ _ _ _ H _ ls h hP hD hS (lv_sub hl [1, 0] rfl)

abbrev wmX12_reach : List Cond := .code yX12_reach cX12_reach 3 (some .int) :: WM
theorem hd_X12_reach : yX12_reach.cls = RX12 ∧ yX12_reach.cls ≠ "java/lang/invoke/MethodHandle" ∧ yX12_reach.cls ≠ "java/lang/invoke/VarHandle" ∧ (parseMethodDescriptor yX12_reach.desc).map (fun d => d.parameters.length) = some 2 := by decide +kernel
def P_X12_reach (v : Nat → Int32) (w : Nat → Int64) (fi : Nat → Nat → Int32) (fl : Nat → Nat → Int64) (p0 : Int32) (p1 : Int32) (Q : Int32 → (Nat → Int32) → (Nat → Int64) → (Nat → Nat → Int32) → (Nat → Nat → Int64) → Prop) : Prop := ((p1 < 400) → (P_X12_place p0 p1 (fun r1 => P_X12_meet v w fi fl (2 * r1) (fun r2 v2 w2 fi2 fl2 => ((r2 = 0) → (Q (-2) v2 w2 fi2 fl2)) ∧ ((¬ r2 = 0) → (P_X12_place p0 p1 (fun r3 => vp_in r3 9600 ∧ Q (fi2 7 r3.toNatClampNeg) v2 w2 fi2 fl2))))))) ∧ ((¬ p1 < 400) → (Q (-2) v w fi fl))
set_option maxHeartbeats 4000000 in
set_option maxRecDepth 100000 in
theorem p_X12_reach (l : Launch) (dC : Nat → ClassId) (dI : Nat → Nat → Nat) (a : Nat → Nat) (ca : Nat → ClassId) (g0 : Nat) (v : Nat → Int32) (w : Nat → Int64) (fi : Nat → Nat → Int32) (fl : Nat → Nat → Int64) (p0 : Int32) (p1 : Int32) (Q : Int32 → (Nat → Int32) → (Nat → Int64) → (Nat → Nat → Int32) → (Nat → Nat → Int64) → Prop) (h : P_X12_reach v w fi fl p0 p1 Q) (sz : Nat) : Met l yX12_reach wmX12_reach ({ frames := 28, cells := 0, slots := 0, locals := 420 }) (va_Pc [.ref g0, .int p0, .int p1] (mPre dC dI a ca g0 v w fi fl sz)) (va_Qi (S := MSt) (pI Q) (mB dC dI a ca g0 (va_A (mW a ca g0 v w fi fl) sz)) (va_A (mW a ca g0 v w fi fl) sz)) 0 0 (va_A (mW a ca g0 v w fi fl) sz) := by
  refine Met.ofW (cc := cX12_reach) (maxL := 3) (ret := (some .int)) (by decide) rfl ?_
  intro p e s m args below meth c s₁ B hml hv
  obtain ⟨rfl, hsz, hP, hK, hD0⟩ := hv
  have hx := B.exec
  have hb := B.bytes
  have hr := B.returns
  have hts : ∀ w ∈ WM, w.before _ s = true := fun w h => atoms_spec (ws := wmX12_reach) B.pre w (List.mem_cons_of_mem _ h)
  have hown : s.vm.findClass RX12 = some m.cls := findClass_of_methodNamed B.named
  have hlocks := B.notSynchronized
  subst hsz
  have hD := hD0.self (sz := s.heap.size)
  generalize hAe : va_A (mW a ca g0 v w fi fl) s.heap.size = A at hD ⊢
  have hA : ∀ q : Nat, s.heap.size ≤ q → A q := fun q h => by rw [← hAe]; exact Or.inr h
  generalize hH : s.heap = H at hP ⊢
  have hS : va_S A s.heap H [] := by rw [← hH]; exact va_S.rf
  have hl := lv_entry [.ref g0, .int p0, .int p1] (n := 3) (Nat.le_of_ble_eq_true rfl)
  rw [lg_entry_eq]
  generalize (lg_sl [.ref g0, .int p0, .int p1] ++ List.replicate (3 - (lg_sl [.ref g0, .int p0, .int p1]).length) Slot.unset).toArray = ls at hl ⊢
  have hl : lv_has ls 3 [(0, .ref g0), (1, .int p0), (2, .int p1)] := hl
  unfold P_X12_reach at h
  refine lv_iload_n hx hb dX12_reach_0 rfl (lv_at hl 2 rfl) ?_
  refine lv_sipush (v := 400) hx hb dX12_reach_1 (by decide) ?_
  refine lv_icmp_lt (tgt := 10) hx hb dX12_reach_4 (by decide) (fun c_4 => ?_) (fun c_4 => ?_)
  · have h := h.1 c_4
    refine lv_aload_n hx hb dX12_reach_10 rfl (lv_at hl 0 rfl) ?_
    refine lv_iconst (v := 2) hx hb dX12_reach_11 (by decide) ?_
    refine lv_iload_n hx hb dX12_reach_12 rfl (lv_at hl 1 rfl) ?_
    refine lv_iload_n hx hb dX12_reach_13 rfl (lv_at hl 2 rfl) ?_
    refine s_calli (rm := ({ frames := 4, cells := 0, slots := 0, locals := 60 })) (As := [.int p0, .int p1]) (rest := [.int 2, .ref g0]) (fun sz => p_X12_place l dC dI p0 p1 _ h sz) ⟨hx, hb, hml, hown, hts⟩ (va_cwS 2 hts (g_S gdM mwM_45 mwM_46 mwM_22 mwM_44) rfl rfl rfl hd_X12_place ⟨Nat.le_of_ble_eq_true rfl, Nat.le_of_ble_eq_true rfl⟩) rfl hl.1 rfl hP hD hS hA (Nat.le_of_ble_eq_true rfl) ⟨Nat.le_of_ble_eq_true rfl, Nat.le_of_ble_eq_true rfl⟩ dX12_reach_14 (fun r1 H locs h hP hS => ?_)
    refine lv_imul hx hb dX12_reach_17 ?_
    refine m_calli (rm := ({ frames := 24, cells := 0, slots := 0, locals := 360 })) (As := [.int (2 * r1)]) (rest := []) (fun sz => p_X12_meet l dC dI a ca g0 _ _ _ _ (2 * r1) _ h sz) ⟨hx, hb, hml, hown, hts⟩ (cwV 1 hts (g_V gdM mwM_153 mwM_154 mwM_155 mwM_22 mwM_152) rfl rfl rfl hd_X12_meet ⟨Nat.le_of_ble_eq_true rfl, Nat.le_of_ble_eq_true rfl⟩) rfl hl.1 rfl hK hP hD hS hA (Nat.le_of_ble_eq_true rfl) ⟨Nat.le_of_ble_eq_true rfl, Nat.le_of_ble_eq_true rfl⟩ dX12_reach_18 (fun r2 v2 w2 fi2 fl2 H locs h hP hD hS => ?_)
    refine lv_if_eq (tgt := 37) hx hb dX12_reach_21 (by decide) (fun c_21 => ?_) (fun c_21 => ?_)
    · have h := h.1 c_21
      refine lv_bipush (v := (-2)) hx hb dX12_reach_37 (by decide) ?_
      exact W.iret (v := (-2)) hx hb hr (fun t ht hW => ⟨⟨_, (v2, w2, fi2, fl2), rfl, h, by rw [ht]; exact hP, va_K.moved hW.alike hK, hD⟩, hS.F ht⟩) hS.2.2 dX12_reach_39
    · have h := h.2 c_21
      refine lv_aload_n hx hb dX12_reach_24 rfl (lv_at hl 0 rfl) ?_
      refine va_get (D := (dC, dI)) (ci := 11) (v := .ref (a 7)) (C := RX12) (T := TX12) (N := 32) hx hb hts hinM hown hK hP 0 rfl rfl 7 (by decide) (hts _ mwM_43) (fun _ h9 => h9) rfl dX12_reach_25 ?_
      refine lv_iload_n hx hb dX12_reach_28 rfl (lv_at hl 1 rfl) ?_
      refine lv_iload_n hx hb dX12_reach_29 rfl (lv_at hl 2 rfl) ?_
      refine s_calli (rm := ({ frames := 4, cells := 0, slots := 0, locals := 60 })) (As := [.int p0, .int p1]) (rest := [.ref (a 7)]) (fun sz => p_X12_place l dC dI p0 p1 _ h sz) ⟨hx, hb, hml, hown, hts⟩ (va_cwS 2 hts (g_S gdM mwM_45 mwM_46 mwM_22 mwM_44) rfl rfl rfl hd_X12_place ⟨Nat.le_of_ble_eq_true rfl, Nat.le_of_ble_eq_true rfl⟩) rfl hl.1 rfl hP hD hS hA (Nat.le_of_ble_eq_true rfl) ⟨Nat.le_of_ble_eq_true rfl, Nat.le_of_ble_eq_true rfl⟩ dX12_reach_30 (fun r3 H locs h hP hS => ?_)
      obtain ⟨hi4, h⟩ := h
      refine va_iald (f := fi2 7) hx hb hK hP 7 6 rfl rfl hi4 dX12_reach_33 ?_
      refine lv_goto (tgt := 39) hx hb dX12_reach_34 (by decide) ?_
      exact W.iret (v := (fi2 7 r3.toNatClampNeg)) hx hb hr (fun t ht hW => ⟨⟨_, (v2, w2, fi2, fl2), rfl, h, by rw [ht]; exact hP, va_K.moved hW.alike hK, hD⟩, hS.F ht⟩) hS.2.2 dX12_reach_39
  · have h := h.2 c_4
    refine lv_bipush (v := (-2)) hx hb dX12_reach_7 (by decide) ?_
    exact W.iret (v := (-2)) hx hb hr (fun t ht hW => ⟨⟨_, (v, w, fi, fl), rfl, h, by rw [ht]; exact hP, va_K.moved hW.alike hK, hD⟩, hS.F ht⟩) hS.2.2 dX12_reach_9

abbrev wmX12_work : List Cond := .code yX12_work cX12_work 4 (some .int) :: WM
theorem hd_X12_work : yX12_work.cls = RX12 ∧ yX12_work.cls ≠ "java/lang/invoke/MethodHandle" ∧ yX12_work.cls ≠ "java/lang/invoke/VarHandle" ∧ (parseMethodDescriptor yX12_work.desc).map (fun d => d.parameters.length) = some 2 := by decide +kernel
def P_X12_work (v : Nat → Int32) (w : Nat → Int64) (fi : Nat → Nat → Int32) (fl : Nat → Nat → Int64) (p0 : Int32) (p1 : Int32) (Q : Int32 → (Nat → Int32) → (Nat → Int64) → (Nat → Nat → Int32) → (Nat → Nat → Int64) → Prop) : Prop := P_X12_ownPlace v w fi fl p0 p1 (fun r1 v1 w1 fi1 fl1 => P_X12_meet v1 w1 fi1 fl1 ((2 * r1) + 1) (fun r2 v2 w2 fi2 fl2 => ((¬ r2 = 0) → (vp_in r1 9600 ∧ vp_in r1 9600 ∧ Q (fi2 8 r1.toNatClampNeg) v2 (va_up w2 25 (fl2 9 r1.toNatClampNeg)) fi2 fl2)) ∧ ((r2 = 0) → (Q (-2) v2 w2 fi2 fl2))))
set_option maxHeartbeats 4000000 in
set_option maxRecDepth 100000 in
theorem p_X12_work (l : Launch) (dC : Nat → ClassId) (dI : Nat → Nat → Nat) (a : Nat → Nat) (ca : Nat → ClassId) (g0 : Nat) (v : Nat → Int32) (w : Nat → Int64) (fi : Nat → Nat → Int32) (fl : Nat → Nat → Int64) (p0 : Int32) (p1 : Int32) (Q : Int32 → (Nat → Int32) → (Nat → Int64) → (Nat → Nat → Int32) → (Nat → Nat → Int64) → Prop) (h : P_X12_work v w fi fl p0 p1 Q) (sz : Nat) : Met l yX12_work wmX12_work ({ frames := 28, cells := 0, slots := 0, locals := 420 }) (va_Pc [.ref g0, .int p0, .int p1] (mPre dC dI a ca g0 v w fi fl sz)) (va_Qi (S := MSt) (pI Q) (mB dC dI a ca g0 (va_A (mW a ca g0 v w fi fl) sz)) (va_A (mW a ca g0 v w fi fl) sz)) 0 0 (va_A (mW a ca g0 v w fi fl) sz) := by
  refine Met.ofW (cc := cX12_work) (maxL := 4) (ret := (some .int)) (by decide) rfl ?_
  intro p e s m args below meth c s₁ B hml hv
  obtain ⟨rfl, hsz, hP, hK, hD0⟩ := hv
  have hx := B.exec
  have hb := B.bytes
  have hr := B.returns
  have hts : ∀ w ∈ WM, w.before _ s = true := fun w h => atoms_spec (ws := wmX12_work) B.pre w (List.mem_cons_of_mem _ h)
  have hown : s.vm.findClass RX12 = some m.cls := findClass_of_methodNamed B.named
  have hlocks := B.notSynchronized
  subst hsz
  have hD := hD0.self (sz := s.heap.size)
  generalize hAe : va_A (mW a ca g0 v w fi fl) s.heap.size = A at hD ⊢
  have hA : ∀ q : Nat, s.heap.size ≤ q → A q := fun q h => by rw [← hAe]; exact Or.inr h
  generalize hH : s.heap = H at hP ⊢
  have hS : va_S A s.heap H [] := by rw [← hH]; exact va_S.rf
  have hl := lv_entry [.ref g0, .int p0, .int p1] (n := 4) (Nat.le_of_ble_eq_true rfl)
  rw [lg_entry_eq]
  generalize (lg_sl [.ref g0, .int p0, .int p1] ++ List.replicate (4 - (lg_sl [.ref g0, .int p0, .int p1]).length) Slot.unset).toArray = ls at hl ⊢
  have hl : lv_has ls 4 [(0, .ref g0), (1, .int p0), (2, .int p1)] := hl
  unfold P_X12_work at h
  refine lv_aload_n hx hb dX12_work_0 rfl (lv_at hl 0 rfl) ?_
  refine lv_iload_n hx hb dX12_work_1 rfl (lv_at hl 1 rfl) ?_
  refine lv_iload_n hx hb dX12_work_2 rfl (lv_at hl 2 rfl) ?_
  refine m_calli (rm := ({ frames := 8, cells := 0, slots := 0, locals := 120 })) (As := [.int p0, .int p1]) (rest := []) (fun sz => p_X12_ownPlace l dC dI a ca g0 _ _ _ _ p0 p1 _ h sz) ⟨hx, hb, hml, hown, hts⟩ (cwV 2 hts (g_V gdM mwM_70 mwM_71 mwM_72 mwM_22 mwM_69) rfl rfl rfl hd_X12_ownPlace ⟨Nat.le_of_ble_eq_true rfl, Nat.le_of_ble_eq_true rfl⟩) rfl hl.1 rfl hK hP hD hS hA (Nat.le_of_ble_eq_true rfl) ⟨Nat.le_of_ble_eq_true rfl, Nat.le_of_ble_eq_true rfl⟩ dX12_work_3 (fun r1 v1 w1 fi1 fl1 H locs h hP hD hS => ?_)
  refine lv_istore_n (lv' := [(3, .int r1), (0, .ref g0), (1, .int p0), (2, .int p1)]) hx hb dX12_work_6 rfl hl (by decide) rfl (fun ls hl => ?_)
  refine lv_aload_n hx hb dX12_work_7 rfl (lv_at hl 1 rfl) ?_
  refine lv_iconst (v := 2) hx hb dX12_work_8 (by decide) ?_
  refine lv_iload_n hx hb dX12_work_9 rfl (lv_at hl 0 rfl) ?_
  refine lv_imul hx hb dX12_work_10 ?_
  refine lv_iconst (v := 1) hx hb dX12_work_11 (by decide) ?_
  refine lv_iadd hx hb dX12_work_12 ?_
  refine m_calli (rm := ({ frames := 24, cells := 0, slots := 0, locals := 360 })) (As := [.int ((2 * r1) + 1)]) (rest := []) (fun sz => p_X12_meet l dC dI a ca g0 _ _ _ _ ((2 * r1) + 1) _ h sz) ⟨hx, hb, hml, hown, hts⟩ (cwV 1 hts (g_V gdM mwM_153 mwM_154 mwM_155 mwM_22 mwM_152) rfl rfl rfl hd_X12_meet ⟨Nat.le_of_ble_eq_true rfl, Nat.le_of_ble_eq_true rfl⟩) rfl hl.1 rfl hK hP hD hS hA (Nat.le_of_ble_eq_true rfl) ⟨Nat.le_of_ble_eq_true rfl, Nat.le_of_ble_eq_true rfl⟩ dX12_work_13 (fun r2 v2 w2 fi2 fl2 H locs h hP hD hS => ?_)
  refine lv_if_ne (tgt := 22) hx hb dX12_work_16 (by decide) (fun c_16 => ?_) (fun c_16 => ?_)
  · have h := h.1 c_16
    refine lv_aload_n hx hb dX12_work_22 rfl (lv_at hl 1 rfl) ?_
    refine lv_aload_n hx hb dX12_work_23 rfl (lv_at hl 1 rfl) ?_
    refine va_get (D := (dC, dI)) (ci := 11) (v := .ref (a 9)) (C := RX12) (T := TX12) (N := 32) hx hb hts hinM hown hK hP 0 rfl rfl 9 (by decide) (hts _ mwM_74) (fun _ h9 => h9) rfl dX12_work_24 ?_
    refine lv_iload_n hx hb dX12_work_27 rfl (lv_at hl 0 rfl) ?_
    obtain ⟨hi3, h⟩ := h
    refine va_lald (f := fl2 9) hx hb hK hP 9 8 rfl rfl hi3 dX12_work_28 ?_
    refine m_put_25 hx hb hts hinM hown hK hP hD hS (hts _ mwM_56) dX12_work_29 (fun H locs hP hD hS => ?_)
    refine lv_aload_n hx hb dX12_work_32 rfl (lv_at hl 1 rfl) ?_
    refine va_get (D := (dC, dI)) (ci := 11) (v := .ref (a 8)) (C := RX12) (T := TX12) (N := 32) hx hb hts hinM hown hK hP 0 rfl rfl 8 (by decide) (hts _ mwM_73) (fun _ h9 => h9) rfl dX12_work_33 ?_
    refine lv_iload_n hx hb dX12_work_36 rfl (lv_at hl 0 rfl) ?_
    obtain ⟨hi4, h⟩ := h
    refine va_iald (f := fi2 8) hx hb hK hP 8 7 rfl rfl hi4 dX12_work_37 ?_
    exact W.iret (v := (fi2 8 r1.toNatClampNeg)) hx hb hr (fun t ht hW => ⟨⟨_, (v2, va_up w2 25 (fl2 9 r1.toNatClampNeg), fi2, fl2), rfl, h, by rw [ht]; exact hP, va_K.moved hW.alike hK, hD⟩, hS.F ht⟩) hS.2.2 dX12_work_38
  · have h := h.2 c_16
    refine lv_bipush (v := (-2)) hx hb dX12_work_19 (by decide) ?_
    exact W.iret (v := (-2)) hx hb hr (fun t ht hW => ⟨⟨_, (v2, w2, fi2, fl2), rfl, h, by rw [ht]; exact hP, va_K.moved hW.alike hK, hD⟩, hS.F ht⟩) hS.2.2 dX12_work_21

abbrev wmX12_at : List Cond := .code yX12_at cX12_at 5 (some .long) :: WM
theorem hd_X12_at : yX12_at.cls = RX12 ∧ yX12_at.cls ≠ "java/lang/invoke/MethodHandle" ∧ yX12_at.cls ≠ "java/lang/invoke/VarHandle" ∧ (parseMethodDescriptor yX12_at.desc).map (fun d => d.parameters.length) = some 2 := by decide +kernel
def B_X12_at_37  (K37 : (Nat → Int32) → (Nat → Int64) → (Nat → Nat → Int32) → (Nat → Nat → Int64) → Int32 → Int32 → Int32 → Prop) (Q : Int64 → (Nat → Int32) → (Nat → Int64) → (Nat → Nat → Int32) → (Nat → Nat → Int64) → Prop) (v : Nat → Int32) (w : Nat → Int64) (fi : Nat → Nat → Int32) (fl : Nat → Nat → Int64) (x1 : Int32) (x2 : Int32) (x3 : Int32) : Prop := ((x2 < x3) → (P_X12_work v w fi fl x1 x2 (fun r1 v1 w1 fi1 fl1 => P_X12_told v1 w1 fi1 fl1 r1 (fun r2 v2 w2 fi2 fl2 => Q r2 v2 w2 fi2 fl2)))) ∧ ((¬ x2 < x3) → (P_X12_reach v w fi fl x1 x3 (fun r3 v3 w3 fi3 fl3 => ((¬ r3 = 2) → (((r3 = 1) → (K37 v3 w3 fi3 fl3 x1 x2 (x3 + 1))) ∧ ((¬ r3 = 1) → (P_X12_told v3 w3 fi3 fl3 r3 (fun r4 v4 w4 fi4 fl4 => Q r4 v4 w4 fi4 fl4))))) ∧ ((r3 = 2) → (P_X12_failed v3 w3 fi3 fl3 6 (fun r5 v5 w5 fi5 fl5 => Q r5 v5 w5 fi5 fl5))))))
def P_X12_at_37  (Q : Int64 → (Nat → Int32) → (Nat → Int64) → (Nat → Nat → Int32) → (Nat → Nat → Int64) → Prop) : Nat → (Nat → Int32) → (Nat → Int64) → (Nat → Nat → Int32) → (Nat → Nat → Int64) → Int32 → Int32 → Int32 → Prop
  | 0 => fun _ _ _ _ _ _ _ => False
  | n + 1 => B_X12_at_37  (P_X12_at_37  Q n) Q
set_option maxHeartbeats 4000000 in
set_option maxRecDepth 100000 in
theorem b_X12_at_37 {p : Program} {l : Launch} {e : Env} {s : State} {m : MethodId} {args : Array Value} {below : List Frame} {meth : Method} {c : Code} {A : Nat → Prop} {dC : Nat → ClassId} {dI : Nat → Nat → Nat} {a : Nat → Nat} {ca : Nat → ClassId} {g0 : Nat}  {K37 : (Nat → Int32) → (Nat → Int64) → (Nat → Nat → Int32) → (Nat → Nat → Int64) → Int32 → Int32 → Int32 → Prop} {Q : Int64 → (Nat → Int32) → (Nat → Int64) → (Nat → Nat → Int32) → (Nat → Nat → Int64) → Prop} (hx : p.tables.exec = Jvm.exec) (hb : c.code = cX12_at) (hr : meth.sig.returnType = (some .long)) (hts : ∀ w ∈ WM, w.before args s = true) (hown : s.vm.findClass RX12 = some m.cls) (hlocks : meth.locks = false) (hml : c.maxLocals = 5) (hA : ∀ q : Nat, s.heap.size ≤ q → A q) (hK : va_K (dC, dI) vwCl (mT ca) s)  (hK37 : ∀ (v : Nat → Int32) (w : Nat → Int64) (fi : Nat → Nat → Int32) (fl : Nat → Nat → Int64) (x1 : Int32) (x2 : Int32) (x3 : Int32) (H : Heap) (locs : List Loc) (ls : Array Slot), K37 v w fi fl x1 x2 x3 → va_P (dC, dI) vwCl (mW a ca g0 v w fi fl) H → va_D A (mW a ca g0 v w fi fl) → va_S A s.heap H locs → lv_has ls 5 [(0, .ref g0), (1, .int x1), (2, .int x2), (3, .int x3)] → W p l e (headSpec wmX12_at ({ frames := 32, cells := 0, slots := 0, locals := 480 })).room s m args below meth c H locs 0 0 (MQ below (va_Ql (S := MSt) (pL Q) (mB dC dI a ca g0 A) A) args s 0 0 A) (F0 m 37 ls [])) : ∀ (v : Nat → Int32) (w : Nat → Int64) (fi : Nat → Nat → Int32) (fl : Nat → Nat → Int64) (x1 : Int32) (x2 : Int32) (x3 : Int32) (H : Heap) (locs : List Loc) (ls : Array Slot), B_X12_at_37  K37 Q v w fi fl x1 x2 x3 → va_P (dC, dI) vwCl (mW a ca g0 v w fi fl) H → va_D A (mW a ca g0 v w fi fl) → va_S A s.heap H locs → lv_has ls 5 [(0, .ref g0), (1, .int x1), (2, .int x2), (3, .int x3)] → W p l e (headSpec wmX12_at ({ frames := 32, cells := 0, slots := 0, locals := 480 })).room s m args below meth c H locs 0 0 (MQ below (va_Ql (S := MSt) (pL Q) (mB dC dI a ca g0 A) A) args s 0 0 A) (F0 m 37 ls []) := by
  intro v w fi fl x1 x2 x3 H locs ls h hP hD hS hl
  unfold B_X12_at_37 at h
  refine lv_iload_n hx hb dX12_at_37 rfl (lv_at hl 3 rfl) ?_
  refine lv_iload_n hx hb dX12_at_38 rfl (lv_at hl 2 rfl) ?_
  refine lv_icmp_gt (tgt := 82) hx hb dX12_at_39 (by decide) (fun c_39 => ?_) (fun c_39 => ?_)
  · have h := h.1 c_39
    refine lv_aload_n hx hb dX12_at_82 rfl (lv_at hl 0 rfl) ?_
    refine lv_aload_n hx hb dX12_at_83 rfl (lv_at hl 0 rfl) ?_
    refine lv_iload_n hx hb dX12_at_84 rfl (lv_at hl 1 rfl) ?_
    refine lv_iload_n hx hb dX12_at_85 rfl (lv_at hl 2 rfl) ?_
    refine m_calli (rm := ({ frames := 28, cells := 0, slots := 0, locals := 420 })) (As := [.int x1, .int x2]) (rest := [.ref g0]) (fun sz => p_X12_work l dC dI a ca g0 _ _ _ _ x1 x2 _ h sz) ⟨hx, hb, hml, hown, hts⟩ (cwV 2 hts (g_V gdM mwM_161 mwM_162 mwM_163 mwM_22 mwM_160) rfl rfl rfl hd_X12_work ⟨Nat.le_of_ble_eq_true rfl, Nat.le_of_ble_eq_true rfl⟩) rfl hl.1 rfl hK hP hD hS hA (Nat.le_of_ble_eq_true rfl) ⟨Nat.le_of_ble_eq_true rfl, Nat.le_of_ble_eq_true rfl⟩ dX12_at_86 (fun r1 v1 w1 fi1 fl1 H locs h hP hD hS => ?_)
    refine m_calll (rm := ({ frames := 8, cells := 0, slots := 0, locals := 120 })) (As := [.int r1]) (rest := []) (fun sz => p_X12_told l dC dI a ca g0 _ _ _ _ r1 _ h sz) ⟨hx, hb, hml, hown, hts⟩ (cwV 1 hts (g_V gdM mwM_165 mwM_166 mwM_167 mwM_22 mwM_164) rfl rfl rfl hd_X12_told ⟨Nat.le_of_ble_eq_true rfl, Nat.le_of_ble_eq_true rfl⟩) rfl hl.1 rfl hK hP hD hS hA (Nat.le_of_ble_eq_true rfl) ⟨Nat.le_of_ble_eq_true rfl, Nat.le_of_ble_eq_true rfl⟩ dX12_at_89 (fun r2 v2 w2 fi2 fl2 H locs h hP hD hS => ?_)
    exact W.lret (v := r2) hx hb hr (fun t ht hW => ⟨⟨_, (v2, w2, fi2, fl2), rfl, h, by rw [ht]; exact hP, va_K.moved hW.alike hK, hD⟩, hS.F ht⟩) hS.2.2 dX12_at_92
  · have h := h.2 c_39
    refine lv_aload_n hx hb dX12_at_42 rfl (lv_at hl 0 rfl) ?_
    refine lv_iload_n hx hb dX12_at_43 rfl (lv_at hl 1 rfl) ?_
    refine lv_iload_n hx hb dX12_at_44 rfl (lv_at hl 3 rfl) ?_
    refine m_calli (rm := ({ frames := 28, cells := 0, slots := 0, locals := 420 })) (As := [.int x1, .int x3]) (rest := []) (fun sz => p_X12_reach l dC dI a ca g0 _ _ _ _ x1 x3 _ h sz) ⟨hx, hb, hml, hown, hts⟩ (cwV 2 hts (g_V gdM mwM_169 mwM_170 mwM_171 mwM_22 mwM_168) rfl rfl rfl hd_X12_reach ⟨Nat.le_of_ble_eq_true rfl, Nat.le_of_ble_eq_true rfl⟩) rfl hl.1 rfl hK hP hD hS hA (Nat.le_of_ble_eq_true rfl) ⟨Nat.le_of_ble_eq_true rfl, Nat.le_of_ble_eq_true rfl⟩ dX12_at_45 (fun r3 v3 w3 fi3 fl3 H locs h hP hD hS => ?_)
    refine lv_istore (lv' := [(4, .int r3), (0, .ref g0), (1, .int x1), (2, .int x2), (3, .int x3)]) hx hb dX12_at_48 hl (by decide) rfl (fun ls hl => ?_)
    refine lv_iload hx hb dX12_at_50 (lv_at hl 0 rfl) ?_
    refine lv_iconst (v := 2) hx hb dX12_at_52 (by decide) ?_
    refine lv_icmp_ne (tgt := 63) hx hb dX12_at_53 (by decide) (fun c_53 => ?_) (fun c_53 => ?_)
    · have h := h.1 c_53
      refine lv_iload hx hb dX12_at_63 (lv_at hl 0 rfl) ?_
      refine lv_iconst (v := 1) hx hb dX12_at_65 (by decide) ?_
      refine lv_icmp_eq (tgt := 76) hx hb dX12_at_66 (by decide) (fun c_66 => ?_) (fun c_66 => ?_)
      · have h := h.1 c_66
        refine lv_iinc (v := x3 + 1) (lv' := [(3, .int (x3 + 1)), (4, .int r3), (0, .ref g0), (1, .int x1), (2, .int x2)]) hx hb dX12_at_76 hl (k := 4) rfl (iinc_1 _) (by decide) rfl (fun ls hl => ?_)
        refine lv_goto (tgt := 37) hx hb dX12_at_79 (by decide) ?_
        exact hK37 _ _ _ _ _ _ _ H _ ls h hP hD hS (lv_sub hl [2, 3, 4, 0] rfl)
      · have h := h.2 c_66
        refine lv_aload_n hx hb dX12_at_69 rfl (lv_at hl 1 rfl) ?_
        refine lv_iload hx hb dX12_at_70 (lv_at hl 0 rfl) ?_
        refine m_calll (rm := ({ frames := 8, cells := 0, slots := 0, locals := 120 })) (As := [.int r3]) (rest := []) (fun sz => p_X12_told l dC dI a ca g0 _ _ _ _ r3 _ h sz) ⟨hx, hb, hml, hown, hts⟩ (cwV 1 hts (g_V gdM mwM_165 mwM_166 mwM_167 mwM_22 mwM_164) rfl rfl rfl hd_X12_told ⟨Nat.le_of_ble_eq_true rfl, Nat.le_of_ble_eq_true rfl⟩) rfl hl.1 rfl hK hP hD hS hA (Nat.le_of_ble_eq_true rfl) ⟨Nat.le_of_ble_eq_true rfl, Nat.le_of_ble_eq_true rfl⟩ dX12_at_72 (fun r4 v4 w4 fi4 fl4 H locs h hP hD hS => ?_)
        exact W.lret (v := r4) hx hb hr (fun t ht hW => ⟨⟨_, (v4, w4, fi4, fl4), rfl, h, by rw [ht]; exact hP, va_K.moved hW.alike hK, hD⟩, hS.F ht⟩) hS.2.2 dX12_at_75
    · have h := h.2 c_53
      refine lv_aload_n hx hb dX12_at_56 rfl (lv_at hl 1 rfl) ?_
      refine lv_bipush (v := 6) hx hb dX12_at_57 (by decide) ?_
      refine m_calll (rm := ({ frames := 4, cells := 0, slots := 0, locals := 60 })) (As := [.int 6]) (rest := []) (fun sz => p_X12_failed l dC dI a ca g0 _ _ _ _ 6 _ h sz) ⟨hx, hb, hml, hown, hts⟩ (cwV 1 hts (g_V gdM mwM_53 mwM_54 mwM_55 mwM_22 mwM_52) rfl rfl rfl hd_X12_failed ⟨Nat.le_of_ble_eq_true rfl, Nat.le_of_ble_eq_true rfl⟩) rfl hl.1 rfl hK hP hD hS hA (Nat.le_of_ble_eq_true rfl) ⟨Nat.le_of_ble_eq_true rfl, Nat.le_of_ble_eq_true rfl⟩ dX12_at_59 (fun r5 v5 w5 fi5 fl5 H locs h hP hD hS => ?_)
      exact W.lret (v := r5) hx hb hr (fun t ht hW => ⟨⟨_, (v5, w5, fi5, fl5), rfl, h, by rw [ht]; exact hP, va_K.moved hW.alike hK, hD⟩, hS.F ht⟩) hS.2.2 dX12_at_62
set_option maxHeartbeats 4000000 in
set_option maxRecDepth 100000 in
theorem t_X12_at_37 {p : Program} {l : Launch} {e : Env} {s : State} {m : MethodId} {args : Array Value} {below : List Frame} {meth : Method} {c : Code} {A : Nat → Prop} {dC : Nat → ClassId} {dI : Nat → Nat → Nat} {a : Nat → Nat} {ca : Nat → ClassId} {g0 : Nat}  {Q : Int64 → (Nat → Int32) → (Nat → Int64) → (Nat → Nat → Int32) → (Nat → Nat → Int64) → Prop} (hx : p.tables.exec = Jvm.exec) (hb : c.code = cX12_at) (hr : meth.sig.returnType = (some .long)) (hts : ∀ w ∈ WM, w.before args s = true) (hown : s.vm.findClass RX12 = some m.cls) (hlocks : meth.locks = false) (hml : c.maxLocals = 5) (hA : ∀ q : Nat, s.heap.size ≤ q → A q) (hK : va_K (dC, dI) vwCl (mT ca) s)  : ∀ n : Nat, ∀ (v : Nat → Int32) (w : Nat → Int64) (fi : Nat → Nat → Int32) (fl : Nat → Nat → Int64) (x1 : Int32) (x2 : Int32) (x3 : Int32) (H : Heap) (locs : List Loc) (ls : Array Slot), P_X12_at_37  Q n v w fi fl x1 x2 x3 → va_P (dC, dI) vwCl (mW a ca g0 v w fi fl) H → va_D A (mW a ca g0 v w fi fl) → va_S A s.heap H locs → lv_has ls 5 [(0, .ref g0), (1, .int x1), (2, .int x2), (3, .int x3)] → W p l e (headSpec wmX12_at ({ frames := 32, cells := 0, slots := 0, locals := 480 })).room s m args below meth c H locs 0 0 (MQ below (va_Ql (S := MSt) (pL Q) (mB dC dI a ca g0 A) A) args s 0 0 A) (F0 m 37 ls []) := by
  intro n
  induction n with
  | zero => intro v w fi fl x1 x2 x3 H locs ls h; exact h.elim
  | succ n ih => exact b_X12_at_37 hx hb hr hts hown hlocks hml hA hK  ih
def P_X12_at (v : Nat → Int32) (w : Nat → Int64) (fi : Nat → Nat → Int32) (fl : Nat → Nat → Int64) (p0 : Int32) (p1 : Int32) (Q : Int64 → (Nat → Int32) → (Nat → Int64) → (Nat → Nat → Int32) → (Nat → Nat → Int64) → Prop) : Prop := P_X12_isList (va_up v 19 0) w fi fl p0 (fun r1 v1 w1 fi1 fl1 => ((¬ r1 = 0) → (((0 ≤ p1) → (P_X12_begin v1 w1 fi1 fl1 (fun v2 w2 fi2 fl2 => ∃ n9 : Nat, P_X12_at_37  Q n9 v2 w2 fi2 fl2 p0 p1 (0 : Int32)))) ∧ ((¬ 0 ≤ p1) → (P_X12_fail v1 w1 fi1 fl1 2 (fun r3 v3 w3 fi3 fl3 => Q r3.toInt64 v3 w3 fi3 fl3))))) ∧ ((r1 = 0) → (P_X12_fail v1 w1 fi1 fl1 1 (fun r4 v4 w4 fi4 fl4 => Q r4.toInt64 v4 w4 fi4 fl4))))
set_option maxHeartbeats 4000000 in
set_option maxRecDepth 100000 in
theorem p_X12_at (l : Launch) (dC : Nat → ClassId) (dI : Nat → Nat → Nat) (a : Nat → Nat) (ca : Nat → ClassId) (g0 : Nat) (v : Nat → Int32) (w : Nat → Int64) (fi : Nat → Nat → Int32) (fl : Nat → Nat → Int64) (p0 : Int32) (p1 : Int32) (Q : Int64 → (Nat → Int32) → (Nat → Int64) → (Nat → Nat → Int32) → (Nat → Nat → Int64) → Prop) (h : P_X12_at v w fi fl p0 p1 Q) (sz : Nat) : Met l yX12_at wmX12_at ({ frames := 32, cells := 0, slots := 0, locals := 480 }) (va_Pc [.ref g0, .int p0, .int p1] (mPre dC dI a ca g0 v w fi fl sz)) (va_Ql (S := MSt) (pL Q) (mB dC dI a ca g0 (va_A (mW a ca g0 v w fi fl) sz)) (va_A (mW a ca g0 v w fi fl) sz)) 0 0 (va_A (mW a ca g0 v w fi fl) sz) := by
  refine Met.ofW (cc := cX12_at) (maxL := 5) (ret := (some .long)) (by decide) rfl ?_
  intro p e s m args below meth c s₁ B hml hv
  obtain ⟨rfl, hsz, hP, hK, hD0⟩ := hv
  have hx := B.exec
  have hb := B.bytes
  have hr := B.returns
  have hts : ∀ w ∈ WM, w.before _ s = true := fun w h => atoms_spec (ws := wmX12_at) B.pre w (List.mem_cons_of_mem _ h)
  have hown : s.vm.findClass RX12 = some m.cls := findClass_of_methodNamed B.named
  have hlocks := B.notSynchronized
  subst hsz
  have hD := hD0.self (sz := s.heap.size)
  generalize hAe : va_A (mW a ca g0 v w fi fl) s.heap.size = A at hD ⊢
  have hA : ∀ q : Nat, s.heap.size ≤ q → A q := fun q h => by rw [← hAe]; exact Or.inr h
  generalize hH : s.heap = H at hP ⊢
  have hS : va_S A s.heap H [] := by rw [← hH]; exact va_S.rf
  have hl := lv_entry [.ref g0, .int p0, .int p1] (n := 5) (Nat.le_of_ble_eq_true rfl)
  rw [lg_entry_eq]
  generalize (lg_sl [.ref g0, .int p0, .int p1] ++ List.replicate (5 - (lg_sl [.ref g0, .int p0, .int p1]).length) Slot.unset).toArray = ls at hl ⊢
  have hl : lv_has ls 5 [(0, .ref g0), (1, .int p0), (2, .int p1)] := hl
  unfold P_X12_at at h
  refine lv_aload_n hx hb dX12_at_0 rfl (lv_at hl 0 rfl) ?_
  refine lv_iconst (v := 0) hx hb dX12_at_1 (by decide) ?_
  refine m_put_19 hx hb hts hinM hown hK hP hD hS (hts _ mwM_0) dX12_at_2 (fun H locs hP hD hS => ?_)
  refine lv_aload_n hx hb dX12_at_5 rfl (lv_at hl 0 rfl) ?_
  refine lv_iload_n hx hb dX12_at_6 rfl (lv_at hl 1 rfl) ?_
  refine m_calli (rm := ({ frames := 4, cells := 0, slots := 0, locals := 60 })) (As := [.int p0]) (rest := []) (fun sz => p_X12_isList l dC dI a ca g0 _ _ _ _ p0 _ h sz) ⟨hx, hb, hml, hown, hts⟩ (cwV 1 hts (g_V gdM mwM_33 mwM_34 mwM_35 mwM_22 mwM_32) rfl rfl rfl hd_X12_isList ⟨Nat.le_of_ble_eq_true rfl, Nat.le_of_ble_eq_true rfl⟩) rfl hl.1 rfl hK hP hD hS hA (Nat.le_of_ble_eq_true rfl) ⟨Nat.le_of_ble_eq_true rfl, Nat.le_of_ble_eq_true rfl⟩ dX12_at_7 (fun r1 v1 w1 fi1 fl1 H locs h hP hD hS => ?_)
  refine lv_if_ne (tgt := 20) hx hb dX12_at_10 (by decide) (fun c_10 => ?_) (fun c_10 => ?_)
  · have h := h.1 c_10
    refine lv_iload_n hx hb dX12_at_20 rfl (lv_at hl 2 rfl) ?_
    refine lv_if_ge (tgt := 31) hx hb dX12_at_21 (by decide) (fun c_21 => ?_) (fun c_21 => ?_)
    · have h := h.1 c_21
      refine lv_aload_n hx hb dX12_at_31 rfl (lv_at hl 0 rfl) ?_
      refine m_callv (rm := ({ frames := 4, cells := 0, slots := 0, locals := 60 })) (As := []) (rest := []) (fun sz => p_X12_begin l dC dI a ca g0 _ _ _ _  _ h sz) ⟨hx, hb, hml, hown, hts⟩ (cwV 0 hts (g_V gdM mwM_157 mwM_158 mwM_159 mwM_22 mwM_156) rfl rfl rfl hd_X12_begin ⟨Nat.le_of_ble_eq_true rfl, Nat.le_of_ble_eq_true rfl⟩) rfl hl.1 rfl hK hP hD hS hA (Nat.le_of_ble_eq_true rfl) ⟨Nat.le_of_ble_eq_true rfl, Nat.le_of_ble_eq_true rfl⟩ dX12_at_32 (fun v2 w2 fi2 fl2 H locs h hP hD hS => ?_)
      refine lv_iconst (v := 0) hx hb dX12_at_35 (by decide) ?_
      refine lv_istore_n (lv' := [(3, .int 0), (0, .ref g0), (1, .int p0), (2, .int p1)]) hx hb dX12_at_36 rfl hl (by decide) rfl (fun ls hl => ?_)
      obtain ⟨n9, h⟩ := h
      exact t_X12_at_37 hx hb hr hts hown hlocks hml hA hK  n9 _ _ _ _ _ _ _ H _ ls h hP hD hS (lv_sub hl [1, 2, 3, 0] rfl)
    · have h := h.2 c_21
      refine lv_aload_n hx hb dX12_at_24 rfl (lv_at hl 0 rfl) ?_
      refine lv_iconst (v := 2) hx hb dX12_at_25 (by decide) ?_
      refine m_calli (rm := ({ frames := 4, cells := 0, slots := 0, locals := 60 })) (As := [.int 2]) (rest := []) (fun sz => p_X12_fail l dC dI a ca g0 _ _ _ _ 2 _ h sz) ⟨hx, hb, hml, hown, hts⟩ (cwV 1 hts (g_V gdM mwM_19 mwM_20 mwM_21 mwM_22 mwM_18) rfl rfl rfl hd_X12_fail ⟨Nat.le_of_ble_eq_true rfl, Nat.le_of_ble_eq_true rfl⟩) rfl hl.1 rfl hK hP hD hS hA (Nat.le_of_ble_eq_true rfl) ⟨Nat.le_of_ble_eq_true rfl, Nat.le_of_ble_eq_true rfl⟩ dX12_at_26 (fun r3 v3 w3 fi3 fl3 H locs h hP hD hS => ?_)
      refine lv_i2l hx hb dX12_at_29 rfl ?_
      exact W.lret (v := r3.toInt64) hx hb hr (fun t ht hW => ⟨⟨_, (v3, w3, fi3, fl3), rfl, h, by rw [ht]; exact hP, va_K.moved hW.alike hK, hD⟩, hS.F ht⟩) hS.2.2 dX12_at_30
  · have h := h.2 c_10
    refine lv_aload_n hx hb dX12_at_13 rfl (lv_at hl 0 rfl) ?_
    refine lv_iconst (v := 1) hx hb dX12_at_14 (by decide) ?_
    refine m_calli (rm := ({ frames := 4, cells := 0, slots := 0, locals := 60 })) (As := [.int 1]) (rest := []) (fun sz => p_X12_fail l dC dI a ca g0 _ _ _ _ 1 _ h sz) ⟨hx, hb, hml, hown, hts⟩ (cwV 1 hts (g_V gdM mwM_19 mwM_20 mwM_21 mwM_22 mwM_18) rfl rfl rfl hd_X12_fail ⟨Nat.le_of_ble_eq_true rfl, Nat.le_of_ble_eq_true rfl⟩) rfl hl.1 rfl hK hP hD hS hA (Nat.le_of_ble_eq_true rfl) ⟨Nat.le_of_ble_eq_true rfl, Nat.le_of_ble_eq_true rfl⟩ dX12_at_15 (fun r4 v4 w4 fi4 fl4 H locs h hP hD hS => ?_)
    refine lv_i2l hx hb dX12_at_18 rfl ?_
    exact W.lret (v := r4.toInt64) hx hb hr (fun t ht hW => ⟨⟨_, (v4, w4, fi4, fl4), rfl, h, by rw [ht]; exact hP, va_K.moved hW.alike hK, hD⟩, hS.F ht⟩) hS.2.2 dX12_at_19

abbrev wmX12_size : List Cond := .code yX12_size cX12_size 4 (some .long) :: WM
theorem hd_X12_size : yX12_size.cls = RX12 ∧ yX12_size.cls ≠ "java/lang/invoke/MethodHandle" ∧ yX12_size.cls ≠ "java/lang/invoke/VarHandle" ∧ (parseMethodDescriptor yX12_size.desc).map (fun d => d.parameters.length) = some 1 := by decide +kernel
def B_X12_size_26  (K26 : (Nat → Int32) → (Nat → Int64) → (Nat → Nat → Int32) → (Nat → Nat → Int64) → Int32 → Int32 → Prop) (Q : Int64 → (Nat → Int32) → (Nat → Int64) → (Nat → Nat → Int32) → (Nat → Nat → Int64) → Prop) (v : Nat → Int32) (w : Nat → Int64) (fi : Nat → Nat → Int32) (fl : Nat → Nat → Int64) (x1 : Int32) (x2 : Int32) : Prop := P_X12_reach v w fi fl x1 x2 (fun r1 v1 w1 fi1 fl1 => ((¬ r1 = 2) → (((r1 = 1) → (K26 v1 w1 fi1 fl1 x1 (x2 + 1))) ∧ ((¬ r1 = 1) → (P_X12_told v1 w1 fi1 fl1 r1 (fun r2 v2 w2 fi2 fl2 => Q r2 v2 w2 fi2 fl2))))) ∧ ((r1 = 2) → (Q x2.toInt64 v1 w1 fi1 fl1)))
def P_X12_size_26  (Q : Int64 → (Nat → Int32) → (Nat → Int64) → (Nat → Nat → Int32) → (Nat → Nat → Int64) → Prop) : Nat → (Nat → Int32) → (Nat → Int64) → (Nat → Nat → Int32) → (Nat → Nat → Int64) → Int32 → Int32 → Prop
  | 0 => fun _ _ _ _ _ _ => False
  | n + 1 => B_X12_size_26  (P_X12_size_26  Q n) Q
set_option maxHeartbeats 4000000 in
set_option maxRecDepth 100000 in
theorem b_X12_size_26 {p : Program} {l : Launch} {e : Env} {s : State} {m : MethodId} {args : Array Value} {below : List Frame} {meth : Method} {c : Code} {A : Nat → Prop} {dC : Nat → ClassId} {dI : Nat → Nat → Nat} {a : Nat → Nat} {ca : Nat → ClassId} {g0 : Nat}  {K26 : (Nat → Int32) → (Nat → Int64) → (Nat → Nat → Int32) → (Nat → Nat → Int64) → Int32 → Int32 → Prop} {Q : Int64 → (Nat → Int32) → (Nat → Int64) → (Nat → Nat → Int32) → (Nat → Nat → Int64) → Prop} (hx : p.tables.exec = Jvm.exec) (hb : c.code = cX12_size) (hr : meth.sig.returnType = (some .long)) (hts : ∀ w ∈ WM, w.before args s = true) (hown : s.vm.findClass RX12 = some m.cls) (hlocks : meth.locks = false) (hml : c.maxLocals = 4) (hA : ∀ q : Nat, s.heap.size ≤ q → A q) (hK : va_K (dC, dI) vwCl (mT ca) s)  (hK26 : ∀ (v : Nat → Int32) (w : Nat → Int64) (fi : Nat → Nat → Int32) (fl : Nat → Nat → Int64) (x1 : Int32) (x2 : Int32) (H : Heap) (locs : List Loc) (ls : Array Slot), K26 v w fi fl x1 x2 → va_P (dC, dI) vwCl (mW a ca g0 v w fi fl) H → va_D A (mW a ca g0 v w fi fl) → va_S A s.heap H locs → lv_has ls 4 [(0, .ref g0), (1, .int x1), (2, .int x2)] → W p l e (headSpec wmX12_size ({ frames := 32, cells := 0, slots := 0, locals := 480 })).room s m args below meth c H locs 0 0 (MQ below (va_Ql (S := MSt) (pL Q) (mB dC dI a ca g0 A) A) args s 0 0 A) (F0 m 26 ls [])) : ∀ (v : Nat → Int32) (w : Nat → Int64) (fi : Nat → Nat → Int32) (fl : Nat → Nat → Int64) (x1 : Int32) (x2 : Int32) (H : Heap) (locs : List Loc) (ls : Array Slot), B_X12_size_26  K26 Q v w fi fl x1 x2 → va_P (dC, dI) vwCl (mW a ca g0 v w fi fl) H → va_D A (mW a ca g0 v w fi fl) → va_S A s.heap H locs → lv_has ls 4 [(0, .ref g0), (1, .int x1), (2, .int x2)] → W p l e (headSpec wmX12_size ({ frames := 32, cells := 0, slots := 0, locals := 480 })).room s m args below meth c H locs 0 0 (MQ below (va_Ql (S := MSt) (pL Q) (mB dC dI a ca g0 A) A) args s 0 0 A) (F0 m 26 ls []) := by
  intro v w fi fl x1 x2 H locs ls h hP hD hS hl
  unfold B_X12_size_26 at h
  refine lv_aload_n hx hb dX12_size_26 rfl (lv_at hl 0 rfl) ?_
  refine lv_iload_n hx hb dX12_size_27 rfl (lv_at hl 1 rfl) ?_
  refine lv_iload_n hx hb dX12_size_28 rfl (lv_at hl 2 rfl) ?_
  refine m_calli (rm := ({ frames := 28, cells := 0, slots := 0, locals := 420 })) (As := [.int x1, .int x2]) (rest := []) (fun sz => p_X12_reach l dC dI a ca g0 _ _ _ _ x1 x2 _ h sz) ⟨hx, hb, hml, hown, hts⟩ (cwV 2 hts (g_V gdM mwM_169 mwM_170 mwM_171 mwM_22 mwM_168) rfl rfl rfl hd_X12_reach ⟨Nat.le_of_ble_eq_true rfl, Nat.le_of_ble_eq_true rfl⟩) rfl hl.1 rfl hK hP hD hS hA (Nat.le_of_ble_eq_true rfl) ⟨Nat.le_of_ble_eq_true rfl, Nat.le_of_ble_eq_true rfl⟩ dX12_size_29 (fun r1 v1 w1 fi1 fl1 H locs h hP hD hS => ?_)
  refine lv_istore_n (lv' := [(3, .int r1), (0, .ref g0), (1, .int x1), (2, .int x2)]) hx hb dX12_size_32 rfl hl (by decide) rfl (fun ls hl => ?_)
  refine lv_iload_n hx hb dX12_size_33 rfl (lv_at hl 0 rfl) ?_
  refine lv_iconst (v := 2) hx hb dX12_size_34 (by decide) ?_
  refine lv_icmp_ne (tgt := 41) hx hb dX12_size_35 (by decide) (fun c_35 => ?_) (fun c_35 => ?_)
  · have h := h.1 c_35
    refine lv_iload_n hx hb dX12_size_41 rfl (lv_at hl 0 rfl) ?_
    refine lv_iconst (v := 1) hx hb dX12_size_42 (by decide) ?_
    refine lv_icmp_eq (tgt := 52) hx hb dX12_size_43 (by decide) (fun c_43 => ?_) (fun c_43 => ?_)
    · have h := h.1 c_43
      refine lv_iinc (v := x2 + 1) (lv' := [(2, .int (x2 + 1)), (3, .int r1), (0, .ref g0), (1, .int x1)]) hx hb dX12_size_52 hl (k := 3) rfl (iinc_1 _) (by decide) rfl (fun ls hl => ?_)
      refine lv_goto (tgt := 26) hx hb dX12_size_55 (by decide) ?_
      exact hK26 _ _ _ _ _ _ H _ ls h hP hD hS (lv_sub hl [2, 3, 0] rfl)
    · have h := h.2 c_43
      refine lv_aload_n hx hb dX12_size_46 rfl (lv_at hl 1 rfl) ?_
      refine lv_iload_n hx hb dX12_size_47 rfl (lv_at hl 0 rfl) ?_
      refine m_calll (rm := ({ frames := 8, cells := 0, slots := 0, locals := 120 })) (As := [.int r1]) (rest := []) (fun sz => p_X12_told l dC dI a ca g0 _ _ _ _ r1 _ h sz) ⟨hx, hb, hml, hown, hts⟩ (cwV 1 hts (g_V gdM mwM_165 mwM_166 mwM_167 mwM_22 mwM_164) rfl rfl rfl hd_X12_told ⟨Nat.le_of_ble_eq_true rfl, Nat.le_of_ble_eq_true rfl⟩) rfl hl.1 rfl hK hP hD hS hA (Nat.le_of_ble_eq_true rfl) ⟨Nat.le_of_ble_eq_true rfl, Nat.le_of_ble_eq_true rfl⟩ dX12_size_48 (fun r2 v2 w2 fi2 fl2 H locs h hP hD hS => ?_)
      exact W.lret (v := r2) hx hb hr (fun t ht hW => ⟨⟨_, (v2, w2, fi2, fl2), rfl, h, by rw [ht]; exact hP, va_K.moved hW.alike hK, hD⟩, hS.F ht⟩) hS.2.2 dX12_size_51
  · have h := h.2 c_35
    refine lv_iload_n hx hb dX12_size_38 rfl (lv_at hl 3 rfl) ?_
    refine lv_i2l hx hb dX12_size_39 rfl ?_
    exact W.lret (v := x2.toInt64) hx hb hr (fun t ht hW => ⟨⟨_, (v1, w1, fi1, fl1), rfl, h, by rw [ht]; exact hP, va_K.moved hW.alike hK, hD⟩, hS.F ht⟩) hS.2.2 dX12_size_40
set_option maxHeartbeats 4000000 in
set_option maxRecDepth 100000 in
theorem t_X12_size_26 {p : Program} {l : Launch} {e : Env} {s : State} {m : MethodId} {args : Array Value} {below : List Frame} {meth : Method} {c : Code} {A : Nat → Prop} {dC : Nat → ClassId} {dI : Nat → Nat → Nat} {a : Nat → Nat} {ca : Nat → ClassId} {g0 : Nat}  {Q : Int64 → (Nat → Int32) → (Nat → Int64) → (Nat → Nat → Int32) → (Nat → Nat → Int64) → Prop} (hx : p.tables.exec = Jvm.exec) (hb : c.code = cX12_size) (hr : meth.sig.returnType = (some .long)) (hts : ∀ w ∈ WM, w.before args s = true) (hown : s.vm.findClass RX12 = some m.cls) (hlocks : meth.locks = false) (hml : c.maxLocals = 4) (hA : ∀ q : Nat, s.heap.size ≤ q → A q) (hK : va_K (dC, dI) vwCl (mT ca) s)  : ∀ n : Nat, ∀ (v : Nat → Int32) (w : Nat → Int64) (fi : Nat → Nat → Int32) (fl : Nat → Nat → Int64) (x1 : Int32) (x2 : Int32) (H : Heap) (locs : List Loc) (ls : Array Slot), P_X12_size_26  Q n v w fi fl x1 x2 → va_P (dC, dI) vwCl (mW a ca g0 v w fi fl) H → va_D A (mW a ca g0 v w fi fl) → va_S A s.heap H locs → lv_has ls 4 [(0, .ref g0), (1, .int x1), (2, .int x2)] → W p l e (headSpec wmX12_size ({ frames := 32, cells := 0, slots := 0, locals := 480 })).room s m args below meth c H locs 0 0 (MQ below (va_Ql (S := MSt) (pL Q) (mB dC dI a ca g0 A) A) args s 0 0 A) (F0 m 26 ls []) := by
  intro n
  induction n with
  | zero => intro v w fi fl x1 x2 H locs ls h; exact h.elim
  | succ n ih => exact b_X12_size_26 hx hb hr hts hown hlocks hml hA hK  ih
def P_X12_size (v : Nat → Int32) (w : Nat → Int64) (fi : Nat → Nat → Int32) (fl : Nat → Nat → Int64) (p0 : Int32) (Q : Int64 → (Nat → Int32) → (Nat → Int64) → (Nat → Nat → Int32) → (Nat → Nat → Int64) → Prop) : Prop := P_X12_isList (va_up v 19 0) w fi fl p0 (fun r1 v1 w1 fi1 fl1 => ((¬ r1 = 0) → (P_X12_begin v1 w1 fi1 fl1 (fun v2 w2 fi2 fl2 => ∃ n9 : Nat, P_X12_size_26  Q n9 v2 w2 fi2 fl2 p0 (0 : Int32)))) ∧ ((r1 = 0) → (P_X12_fail v1 w1 fi1 fl1 1 (fun r3 v3 w3 fi3 fl3 => Q r3.toInt64 v3 w3 fi3 fl3))))
set_option maxHeartbeats 4000000 in
set_option maxRecDepth 100000 in
theorem p_X12_size (l : Launch) (dC : Nat → ClassId) (dI : Nat → Nat → Nat) (a : Nat → Nat) (ca : Nat → ClassId) (g0 : Nat) (v : Nat → Int32) (w : Nat → Int64) (fi : Nat → Nat → Int32) (fl : Nat → Nat → Int64) (p0 : Int32) (Q : Int64 → (Nat → Int32) → (Nat → Int64) → (Nat → Nat → Int32) → (Nat → Nat → Int64) → Prop) (h : P_X12_size v w fi fl p0 Q) (sz : Nat) : Met l yX12_size wmX12_size ({ frames := 32, cells := 0, slots := 0, locals := 480 }) (va_Pc [.ref g0, .int p0] (mPre dC dI a ca g0 v w fi fl sz)) (va_Ql (S := MSt) (pL Q) (mB dC dI a ca g0 (va_A (mW a ca g0 v w fi fl) sz)) (va_A (mW a ca g0 v w fi fl) sz)) 0 0 (va_A (mW a ca g0 v w fi fl) sz) := by
  refine Met.ofW (cc := cX12_size) (maxL := 4) (ret := (some .long)) (by decide) rfl ?_
  intro p e s m args below meth c s₁ B hml hv
  obtain ⟨rfl, hsz, hP, hK, hD0⟩ := hv
  have hx := B.exec
  have hb := B.bytes
  have hr := B.returns
  have hts : ∀ w ∈ WM, w.before _ s = true := fun w h => atoms_spec (ws := wmX12_size) B.pre w (List.mem_cons_of_mem _ h)
  have hown : s.vm.findClass RX12 = some m.cls := findClass_of_methodNamed B.named
  have hlocks := B.notSynchronized
  subst hsz
  have hD := hD0.self (sz := s.heap.size)
  generalize hAe : va_A (mW a ca g0 v w fi fl) s.heap.size = A at hD ⊢
  have hA : ∀ q : Nat, s.heap.size ≤ q → A q := fun q h => by rw [← hAe]; exact Or.inr h
  generalize hH : s.heap = H at hP ⊢
  have hS : va_S A s.heap H [] := by rw [← hH]; exact va_S.rf
  have hl := lv_entry [.ref g0, .int p0] (n := 4) (Nat.le_of_ble_eq_true rfl)
  rw [lg_entry_eq]
  generalize (lg_sl [.ref g0, .int p0] ++ List.replicate (4 - (lg_sl [.ref g0, .int p0]).length) Slot.unset).toArray = ls at hl ⊢
  have hl : lv_has ls 4 [(0, .ref g0), (1, .int p0)] := hl
  unfold P_X12_size at h
  refine lv_aload_n hx hb dX12_size_0 rfl (lv_at hl 0 rfl) ?_
  refine lv_iconst (v := 0) hx hb dX12_size_1 (by decide) ?_
  refine m_put_19 hx hb hts hinM hown hK hP hD hS (hts _ mwM_0) dX12_size_2 (fun H locs hP hD hS => ?_)
  refine lv_aload_n hx hb dX12_size_5 rfl (lv_at hl 0 rfl) ?_
  refine lv_iload_n hx hb dX12_size_6 rfl (lv_at hl 1 rfl) ?_
  refine m_calli (rm := ({ frames := 4, cells := 0, slots := 0, locals := 60 })) (As := [.int p0]) (rest := []) (fun sz => p_X12_isList l dC dI a ca g0 _ _ _ _ p0 _ h sz) ⟨hx, hb, hml, hown, hts⟩ (cwV 1 hts (g_V gdM mwM_33 mwM_34 mwM_35 mwM_22 mwM_32) rfl rfl rfl hd_X12_isList ⟨Nat.le_of_ble_eq_true rfl, Nat.le_of_ble_eq_true rfl⟩) rfl hl.1 rfl hK hP hD hS hA (Nat.le_of_ble_eq_true rfl) ⟨Nat.le_of_ble_eq_true rfl, Nat.le_of_ble_eq_true rfl⟩ dX12_size_7 (fun r1 v1 w1 fi1 fl1 H locs h hP hD hS => ?_)
  refine lv_if_ne (tgt := 20) hx hb dX12_size_10 (by decide) (fun c_10 => ?_) (fun c_10 => ?_)
  · have h := h.1 c_10
    refine lv_aload_n hx hb dX12_size_20 rfl (lv_at hl 0 rfl) ?_
    refine m_callv (rm := ({ frames := 4, cells := 0, slots := 0, locals := 60 })) (As := []) (rest := []) (fun sz => p_X12_begin l dC dI a ca g0 _ _ _ _  _ h sz) ⟨hx, hb, hml, hown, hts⟩ (cwV 0 hts (g_V gdM mwM_157 mwM_158 mwM_159 mwM_22 mwM_156) rfl rfl rfl hd_X12_begin ⟨Nat.le_of_ble_eq_true rfl, Nat.le_of_ble_eq_true rfl⟩) rfl hl.1 rfl hK hP hD hS hA (Nat.le_of_ble_eq_true rfl) ⟨Nat.le_of_ble_eq_true rfl, Nat.le_of_ble_eq_true rfl⟩ dX12_size_21 (fun v2 w2 fi2 fl2 H locs h hP hD hS => ?_)
    refine lv_iconst (v := 0) hx hb dX12_size_24 (by decide) ?_
    refine lv_istore_n (lv' := [(2, .int 0), (0, .ref g0), (1, .int p0)]) hx hb dX12_size_25 rfl hl (by decide) rfl (fun ls hl => ?_)
    obtain ⟨n9, h⟩ := h
    exact t_X12_size_26 hx hb hr hts hown hlocks hml hA hK  n9 _ _ _ _ _ _ H _ ls h hP hD hS (lv_sub hl [1, 2, 0] rfl)
  · have h := h.2 c_10
    refine lv_aload_n hx hb dX12_size_13 rfl (lv_at hl 0 rfl) ?_
    refine lv_iconst (v := 1) hx hb dX12_size_14 (by decide) ?_
    refine m_calli (rm := ({ frames := 4, cells := 0, slots := 0, locals := 60 })) (As := [.int 1]) (rest := []) (fun sz => p_X12_fail l dC dI a ca g0 _ _ _ _ 1 _ h sz) ⟨hx, hb, hml, hown, hts⟩ (cwV 1 hts (g_V gdM mwM_19 mwM_20 mwM_21 mwM_22 mwM_18) rfl rfl rfl hd_X12_fail ⟨Nat.le_of_ble_eq_true rfl, Nat.le_of_ble_eq_true rfl⟩) rfl hl.1 rfl hK hP hD hS hA (Nat.le_of_ble_eq_true rfl) ⟨Nat.le_of_ble_eq_true rfl, Nat.le_of_ble_eq_true rfl⟩ dX12_size_15 (fun r3 v3 w3 fi3 fl3 H locs h hP hD hS => ?_)
    refine lv_i2l hx hb dX12_size_18 rfl ?_
    exact W.lret (v := r3.toInt64) hx hb hr (fun t ht hW => ⟨⟨_, (v3, w3, fi3, fl3), rfl, h, by rw [ht]; exact hP, va_K.moved hW.alike hK, hD⟩, hS.F ht⟩) hS.2.2 dX12_size_19
