theorem dX10_who_0 : decode cX10_who 0 = .ok (.aload_n 0, 1) := by decide +kernel
theorem dX10_who_1 : decode cX10_who 1 = .ok (.iload_n 1, 1) := by decide +kernel
theorem dX10_who_2 : decode cX10_who 2 = .ok (.invokevirtual 196, 3) := by decide +kernel
theorem dX10_who_5 : decode cX10_who 5 = .ok (.ifCond .eq 19, 3) := by decide +kernel
theorem dX10_who_24 : decode cX10_who 24 = .ok (.ldc 199, 2) := by decide +kernel
theorem dX10_who_26 : decode cX10_who 26 = .ok (.ireturn, 1) := by decide +kernel
theorem dX10_who_8 : decode cX10_who 8 = .ok (.iload_n 2, 1) := by decide +kernel
theorem dX10_who_9 : decode cX10_who 9 = .ok (.iconst (-1), 1) := by decide +kernel
theorem dX10_who_10 : decode cX10_who 10 = .ok (.if_icmp .eq 17, 3) := by decide +kernel
theorem dX10_who_27 : decode cX10_who 27 = .ok (.aload_n 0, 1) := by decide +kernel
theorem dX10_who_28 : decode cX10_who 28 = .ok (.invokevirtual 271, 3) := by decide +kernel
theorem wd_689 : Cond.methodLink RX10 271 yX10_layCosts ∈ BG := BG_at 1121 (by decide +kernel) rfl
theorem wd_690 : Cond.code yX10_layCosts cX10_layCosts 4 none ∈ BG := BG_at 1124 (by decide +kernel) rfl
theorem wd_691 : Cond.instanceMethod yX10_layCosts ∈ BG := BG_at 1123 (by decide +kernel) rfl
theorem wd_692 : Cond.selects RX10 yX10_layCosts yX10_layCosts ∈ BG := BG_in (by decide +kernel) rfl
theorem okV_X10_layCosts : okV yX10_layCosts cX10_layCosts 4 none 0 := ⟨⟨wd_690, wd_497, by decide +kernel⟩, wd_691, wd_692⟩
theorem dX10_who_31 : decode cX10_who 31 = .ok (.iload_n 1, 1) := by decide +kernel
theorem dX10_who_32 : decode cX10_who 32 = .ok (.iconst 1, 1) := by decide +kernel
theorem dX10_who_33 : decode cX10_who 33 = .ok (.iadd, 1) := by decide +kernel
theorem dX10_who_34 : decode cX10_who 34 = .ok (.istore_n 3, 1) := by decide +kernel
theorem dX10_who_214 : decode cX10_who 214 = .ok (.aload_n 0, 1) := by decide +kernel
theorem wd_693 : Cond.fieldLink RX10 57 "QuarrelBridgesModel" "least" "[I" ∈ BG := BG_at 819 (by decide +kernel) rfl
theorem dX10_who_215 : decode cX10_who 215 = .ok (.getfield 57, 3) := by decide +kernel
theorem dX10_who_218 : decode cX10_who 218 = .ok (.iconst 0, 1) := by decide +kernel
theorem dX10_who_219 : decode cX10_who 219 = .ok (.iaload, 1) := by decide +kernel
theorem dX10_who_220 : decode cX10_who 220 = .ok (.ldc_w 270, 3) := by decide +kernel
theorem dX10_who_223 : decode cX10_who 223 = .ok (.if_icmp .eq 8, 3) := by decide +kernel
theorem dX10_who_231 : decode cX10_who 231 = .ok (.aload_n 0, 1) := by decide +kernel
theorem dX10_who_232 : decode cX10_who 232 = .ok (.getfield 57, 3) := by decide +kernel
theorem dX10_who_235 : decode cX10_who 235 = .ok (.iconst 0, 1) := by decide +kernel
theorem dX10_who_236 : decode cX10_who 236 = .ok (.iaload, 1) := by decide +kernel
theorem dX10_who_237 : decode cX10_who 237 = .ok (.ldc_w 270, 3) := by decide +kernel
theorem dX10_who_240 : decode cX10_who 240 = .ok (.if_icmp .ne 7, 3) := by decide +kernel
theorem dX10_who_247 : decode cX10_who 247 = .ok (.aload_n 0, 1) := by decide +kernel
theorem dX10_who_248 : decode cX10_who 248 = .ok (.getfield 57, 3) := by decide +kernel
theorem dX10_who_251 : decode cX10_who 251 = .ok (.iconst 0, 1) := by decide +kernel
theorem dX10_who_252 : decode cX10_who 252 = .ok (.iaload, 1) := by decide +kernel
theorem dX10_who_253 : decode cX10_who 253 = .ok (.ireturn, 1) := by decide +kernel
theorem dX10_who_243 : decode cX10_who 243 = .ok (.iconst (-1), 1) := by decide +kernel
theorem dX10_who_244 : decode cX10_who 244 = .ok (.goto 9, 3) := by decide +kernel
theorem dX10_who_226 : decode cX10_who 226 = .ok (.iload_n 2, 1) := by decide +kernel
theorem dX10_who_227 : decode cX10_who 227 = .ok (.iconst (-1), 1) := by decide +kernel
theorem dX10_who_228 : decode cX10_who 228 = .ok (.if_icmp .ne 26, 3) := by decide +kernel
theorem dX10_who_254 : decode cX10_who 254 = .ok (.iconst 0, 1) := by decide +kernel
theorem dX10_who_255 : decode cX10_who 255 = .ok (.istore_n 3, 1) := by decide +kernel
theorem dX10_who_256 : decode cX10_who 256 = .ok (.iconst (-1), 1) := by decide +kernel
theorem dX10_who_257 : decode cX10_who 257 = .ok (.istore 4, 2) := by decide +kernel
theorem dX10_who_259 : decode cX10_who 259 = .ok (.iconst 0, 1) := by decide +kernel
theorem dX10_who_260 : decode cX10_who 260 = .ok (.istore 5, 2) := by decide +kernel
theorem dX10_who_425 : decode cX10_who 425 = .ok (.iload 4, 2) := by decide +kernel
theorem dX10_who_427 : decode cX10_who 427 = .ok (.ireturn, 1) := by decide +kernel
theorem dX10_who_262 : decode cX10_who 262 = .ok (.iload 5, 2) := by decide +kernel
theorem dX10_who_264 : decode cX10_who 264 = .ok (.iload_n 2, 1) := by decide +kernel
theorem dX10_who_265 : decode cX10_who 265 = .ok (.if_icmp .gt 160, 3) := by decide +kernel
theorem dX10_who_268 : decode cX10_who 268 = .ok (.iconst (-1), 1) := by decide +kernel
theorem dX10_who_269 : decode cX10_who 269 = .ok (.istore 4, 2) := by decide +kernel
theorem dX10_who_271 : decode cX10_who 271 = .ok (.aload_n 0, 1) := by decide +kernel
theorem dX10_who_272 : decode cX10_who 272 = .ok (.getfield 78, 3) := by decide +kernel
theorem dX10_who_275 : decode cX10_who 275 = .ok (.iconst 1, 1) := by decide +kernel
theorem dX10_who_276 : decode cX10_who 276 = .ok (.isub, 1) := by decide +kernel
theorem dX10_who_277 : decode cX10_who 277 = .ok (.istore 6, 2) := by decide +kernel
theorem dX10_who_412 : decode cX10_who 412 = .ok (.iload_n 3, 1) := by decide +kernel
theorem dX10_who_413 : decode cX10_who 413 = .ok (.iconst 1, 1) := by decide +kernel
theorem dX10_who_414 : decode cX10_who 414 = .ok (.iload 4, 2) := by decide +kernel
theorem dX10_who_416 : decode cX10_who 416 = .ok (.ishl, 1) := by decide +kernel
theorem dX10_who_417 : decode cX10_who 417 = .ok (.ior, 1) := by decide +kernel
theorem dX10_who_418 : decode cX10_who 418 = .ok (.istore_n 3, 1) := by decide +kernel
theorem dX10_who_419 : decode cX10_who 419 = .ok (.iinc 5 1, 3) := by decide +kernel
theorem dX10_who_422 : decode cX10_who 422 = .ok (.goto (-160), 3) := by decide +kernel
theorem dX10_who_279 : decode cX10_who 279 = .ok (.iload 6, 2) := by decide +kernel
theorem dX10_who_281 : decode cX10_who 281 = .ok (.ifCond .lt 131, 3) := by decide +kernel
theorem dX10_who_284 : decode cX10_who 284 = .ok (.iload_n 3, 1) := by decide +kernel
theorem dX10_who_285 : decode cX10_who 285 = .ok (.iload 6, 2) := by decide +kernel
theorem dX10_who_287 : decode cX10_who 287 = .ok (.invokestatic 183, 3) := by decide +kernel
theorem dX10_who_290 : decode cX10_who 290 = .ok (.ifCond .ne 51, 3) := by decide +kernel
theorem dX10_who_341 : decode cX10_who 341 = .ok (.iconst 0, 1) := by decide +kernel
theorem dX10_who_342 : decode cX10_who 342 = .ok (.istore 7, 2) := by decide +kernel
theorem dX10_who_344 : decode cX10_who 344 = .ok (.iload 7, 2) := by decide +kernel
theorem dX10_who_346 : decode cX10_who 346 = .ok (.ifCond .eq 56, 3) := by decide +kernel
theorem dX10_who_402 : decode cX10_who 402 = .ok (.iload 4, 2) := by decide +kernel
theorem dX10_who_404 : decode cX10_who 404 = .ok (.istore 4, 2) := by decide +kernel
theorem dX10_who_406 : decode cX10_who 406 = .ok (.iinc 6 (-1), 3) := by decide +kernel
theorem dX10_who_409 : decode cX10_who 409 = .ok (.goto (-130), 3) := by decide +kernel
theorem dX10_who_293 : decode cX10_who 293 = .ok (.aload_n 0, 1) := by decide +kernel
theorem dX10_who_294 : decode cX10_who 294 = .ok (.getfield 60, 3) := by decide +kernel
theorem dX10_who_297 : decode cX10_who 297 = .ok (.bipush 6, 2) := by decide +kernel
theorem dX10_who_299 : decode cX10_who 299 = .ok (.iload 5, 2) := by decide +kernel
theorem dX10_who_301 : decode cX10_who 301 = .ok (.imul, 1) := by decide +kernel
theorem dX10_who_302 : decode cX10_who 302 = .ok (.iload 6, 2) := by decide +kernel
theorem dX10_who_304 : decode cX10_who 304 = .ok (.iadd, 1) := by decide +kernel
theorem dX10_who_305 : decode cX10_who 305 = .ok (.iaload, 1) := by decide +kernel
theorem dX10_who_306 : decode cX10_who 306 = .ok (.ldc_w 270, 3) := by decide +kernel
theorem dX10_who_309 : decode cX10_who 309 = .ok (.if_icmp .eq 32, 3) := by decide +kernel
theorem dX10_who_312 : decode cX10_who 312 = .ok (.aload_n 0, 1) := by decide +kernel
theorem dX10_who_313 : decode cX10_who 313 = .ok (.getfield 57, 3) := by decide +kernel
theorem dX10_who_316 : decode cX10_who 316 = .ok (.bipush 64, 2) := by decide +kernel
theorem dX10_who_318 : decode cX10_who 318 = .ok (.iload 5, 2) := by decide +kernel
theorem dX10_who_320 : decode cX10_who 320 = .ok (.iconst 1, 1) := by decide +kernel
theorem dX10_who_321 : decode cX10_who 321 = .ok (.iadd, 1) := by decide +kernel
theorem dX10_who_322 : decode cX10_who 322 = .ok (.imul, 1) := by decide +kernel
theorem dX10_who_323 : decode cX10_who 323 = .ok (.iload_n 3, 1) := by decide +kernel
theorem dX10_who_324 : decode cX10_who 324 = .ok (.iconst 1, 1) := by decide +kernel
theorem dX10_who_325 : decode cX10_who 325 = .ok (.iload 6, 2) := by decide +kernel
theorem dX10_who_327 : decode cX10_who 327 = .ok (.ishl, 1) := by decide +kernel
theorem dX10_who_328 : decode cX10_who 328 = .ok (.ior, 1) := by decide +kernel
theorem dX10_who_329 : decode cX10_who 329 = .ok (.iadd, 1) := by decide +kernel
theorem dX10_who_330 : decode cX10_who 330 = .ok (.iaload, 1) := by decide +kernel
theorem dX10_who_331 : decode cX10_who 331 = .ok (.ldc_w 270, 3) := by decide +kernel
theorem dX10_who_334 : decode cX10_who 334 = .ok (.if_icmp .eq 7, 3) := by decide +kernel
theorem dX10_who_337 : decode cX10_who 337 = .ok (.iconst 1, 1) := by decide +kernel
theorem dX10_who_338 : decode cX10_who 338 = .ok (.goto 4, 3) := by decide +kernel
theorem dX10_who_349 : decode cX10_who 349 = .ok (.aload_n 0, 1) := by decide +kernel
theorem dX10_who_350 : decode cX10_who 350 = .ok (.getfield 60, 3) := by decide +kernel
theorem dX10_who_353 : decode cX10_who 353 = .ok (.bipush 6, 2) := by decide +kernel
theorem dX10_who_355 : decode cX10_who 355 = .ok (.iload 5, 2) := by decide +kernel
theorem dX10_who_357 : decode cX10_who 357 = .ok (.imul, 1) := by decide +kernel
theorem dX10_who_358 : decode cX10_who 358 = .ok (.iload 6, 2) := by decide +kernel
theorem dX10_who_360 : decode cX10_who 360 = .ok (.iadd, 1) := by decide +kernel
theorem dX10_who_361 : decode cX10_who 361 = .ok (.iaload, 1) := by decide +kernel
theorem dX10_who_362 : decode cX10_who 362 = .ok (.aload_n 0, 1) := by decide +kernel
theorem dX10_who_363 : decode cX10_who 363 = .ok (.getfield 57, 3) := by decide +kernel
theorem dX10_who_366 : decode cX10_who 366 = .ok (.bipush 64, 2) := by decide +kernel
theorem dX10_who_368 : decode cX10_who 368 = .ok (.iload 5, 2) := by decide +kernel
theorem dX10_who_370 : decode cX10_who 370 = .ok (.iconst 1, 1) := by decide +kernel
theorem dX10_who_371 : decode cX10_who 371 = .ok (.iadd, 1) := by decide +kernel
theorem dX10_who_372 : decode cX10_who 372 = .ok (.imul, 1) := by decide +kernel
theorem dX10_who_373 : decode cX10_who 373 = .ok (.iload_n 3, 1) := by decide +kernel
theorem dX10_who_374 : decode cX10_who 374 = .ok (.iconst 1, 1) := by decide +kernel
theorem dX10_who_375 : decode cX10_who 375 = .ok (.iload 6, 2) := by decide +kernel
theorem dX10_who_377 : decode cX10_who 377 = .ok (.ishl, 1) := by decide +kernel
theorem dX10_who_378 : decode cX10_who 378 = .ok (.ior, 1) := by decide +kernel
theorem dX10_who_379 : decode cX10_who 379 = .ok (.iadd, 1) := by decide +kernel
theorem dX10_who_380 : decode cX10_who 380 = .ok (.iaload, 1) := by decide +kernel
theorem dX10_who_381 : decode cX10_who 381 = .ok (.iadd, 1) := by decide +kernel
theorem dX10_who_382 : decode cX10_who 382 = .ok (.aload_n 0, 1) := by decide +kernel
theorem dX10_who_383 : decode cX10_who 383 = .ok (.getfield 57, 3) := by decide +kernel
theorem dX10_who_386 : decode cX10_who 386 = .ok (.bipush 64, 2) := by decide +kernel
theorem dX10_who_388 : decode cX10_who 388 = .ok (.iload 5, 2) := by decide +kernel
theorem dX10_who_390 : decode cX10_who 390 = .ok (.imul, 1) := by decide +kernel
theorem dX10_who_391 : decode cX10_who 391 = .ok (.iload_n 3, 1) := by decide +kernel
theorem dX10_who_392 : decode cX10_who 392 = .ok (.iadd, 1) := by decide +kernel
theorem dX10_who_393 : decode cX10_who 393 = .ok (.iaload, 1) := by decide +kernel
theorem dX10_who_394 : decode cX10_who 394 = .ok (.if_icmp .ne 8, 3) := by decide +kernel
theorem dX10_who_397 : decode cX10_who 397 = .ok (.iload 6, 2) := by decide +kernel
theorem dX10_who_399 : decode cX10_who 399 = .ok (.goto 5, 3) := by decide +kernel
theorem dX10_who_35 : decode cX10_who 35 = .ok (.iload_n 3, 1) := by decide +kernel
theorem dX10_who_36 : decode cX10_who 36 = .ok (.ifCond .lt 178, 3) := by decide +kernel
theorem dX10_who_39 : decode cX10_who 39 = .ok (.iconst 0, 1) := by decide +kernel
theorem dX10_who_40 : decode cX10_who 40 = .ok (.istore 4, 2) := by decide +kernel
theorem dX10_who_208 : decode cX10_who 208 = .ok (.iinc 3 (-1), 3) := by decide +kernel
theorem dX10_who_211 : decode cX10_who 211 = .ok (.goto (-176), 3) := by decide +kernel
theorem dX10_who_42 : decode cX10_who 42 = .ok (.iload 4, 2) := by decide +kernel
theorem dX10_who_44 : decode cX10_who 44 = .ok (.bipush 64, 2) := by decide +kernel
theorem dX10_who_46 : decode cX10_who 46 = .ok (.if_icmp .ge 162, 3) := by decide +kernel
theorem dX10_who_49 : decode cX10_who 49 = .ok (.iload_n 3, 1) := by decide +kernel
theorem dX10_who_50 : decode cX10_who 50 = .ok (.iload_n 1, 1) := by decide +kernel
theorem dX10_who_51 : decode cX10_who 51 = .ok (.if_icmp .le 7, 3) := by decide +kernel
theorem dX10_who_58 : decode cX10_who 58 = .ok (.ldc_w 270, 3) := by decide +kernel
theorem dX10_who_61 : decode cX10_who 61 = .ok (.istore 5, 2) := by decide +kernel
theorem dX10_who_63 : decode cX10_who 63 = .ok (.iconst 0, 1) := by decide +kernel
theorem dX10_who_64 : decode cX10_who 64 = .ok (.istore 6, 2) := by decide +kernel
theorem dX10_who_188 : decode cX10_who 188 = .ok (.aload_n 0, 1) := by decide +kernel
theorem dX10_who_189 : decode cX10_who 189 = .ok (.getfield 57, 3) := by decide +kernel
theorem dX10_who_192 : decode cX10_who 192 = .ok (.bipush 64, 2) := by decide +kernel
theorem dX10_who_194 : decode cX10_who 194 = .ok (.iload_n 3, 1) := by decide +kernel
theorem dX10_who_195 : decode cX10_who 195 = .ok (.imul, 1) := by decide +kernel
theorem dX10_who_196 : decode cX10_who 196 = .ok (.iload 4, 2) := by decide +kernel
theorem dX10_who_198 : decode cX10_who 198 = .ok (.iadd, 1) := by decide +kernel
theorem dX10_who_199 : decode cX10_who 199 = .ok (.iload 5, 2) := by decide +kernel
theorem dX10_who_201 : decode cX10_who 201 = .ok (.iastore, 1) := by decide +kernel
theorem dX10_who_202 : decode cX10_who 202 = .ok (.iinc 4 1, 3) := by decide +kernel
theorem dX10_who_205 : decode cX10_who 205 = .ok (.goto (-163), 3) := by decide +kernel
theorem dX10_who_66 : decode cX10_who 66 = .ok (.iload 6, 2) := by decide +kernel
theorem dX10_who_68 : decode cX10_who 68 = .ok (.aload_n 0, 1) := by decide +kernel
theorem dX10_who_69 : decode cX10_who 69 = .ok (.getfield 78, 3) := by decide +kernel
theorem dX10_who_72 : decode cX10_who 72 = .ok (.if_icmp .ge 116, 3) := by decide +kernel
theorem dX10_who_75 : decode cX10_who 75 = .ok (.iload_n 3, 1) := by decide +kernel
theorem dX10_who_76 : decode cX10_who 76 = .ok (.iload_n 1, 1) := by decide +kernel
theorem dX10_who_77 : decode cX10_who 77 = .ok (.if_icmp .gt 111, 3) := by decide +kernel
theorem dX10_who_80 : decode cX10_who 80 = .ok (.iload 4, 2) := by decide +kernel
theorem dX10_who_82 : decode cX10_who 82 = .ok (.iload 6, 2) := by decide +kernel
theorem dX10_who_84 : decode cX10_who 84 = .ok (.invokestatic 183, 3) := by decide +kernel
theorem dX10_who_87 : decode cX10_who 87 = .ok (.ifCond .eq 9, 3) := by decide +kernel
theorem dX10_who_96 : decode cX10_who 96 = .ok (.aload_n 0, 1) := by decide +kernel
theorem dX10_who_97 : decode cX10_who 97 = .ok (.getfield 57, 3) := by decide +kernel
theorem dX10_who_100 : decode cX10_who 100 = .ok (.bipush 64, 2) := by decide +kernel
theorem dX10_who_102 : decode cX10_who 102 = .ok (.iload_n 3, 1) := by decide +kernel
theorem dX10_who_103 : decode cX10_who 103 = .ok (.iconst 1, 1) := by decide +kernel
theorem dX10_who_104 : decode cX10_who 104 = .ok (.iadd, 1) := by decide +kernel
theorem dX10_who_105 : decode cX10_who 105 = .ok (.imul, 1) := by decide +kernel
theorem dX10_who_106 : decode cX10_who 106 = .ok (.iload 4, 2) := by decide +kernel
theorem dX10_who_108 : decode cX10_who 108 = .ok (.iconst 1, 1) := by decide +kernel
theorem dX10_who_109 : decode cX10_who 109 = .ok (.iload 6, 2) := by decide +kernel
theorem dX10_who_111 : decode cX10_who 111 = .ok (.ishl, 1) := by decide +kernel
theorem dX10_who_112 : decode cX10_who 112 = .ok (.ior, 1) := by decide +kernel
theorem dX10_who_113 : decode cX10_who 113 = .ok (.iadd, 1) := by decide +kernel
theorem dX10_who_114 : decode cX10_who 114 = .ok (.iaload, 1) := by decide +kernel
theorem dX10_who_115 : decode cX10_who 115 = .ok (.istore 7, 2) := by decide +kernel
theorem dX10_who_117 : decode cX10_who 117 = .ok (.iload 7, 2) := by decide +kernel
theorem dX10_who_119 : decode cX10_who 119 = .ok (.ldc_w 270, 3) := by decide +kernel
theorem dX10_who_122 : decode cX10_who 122 = .ok (.if_icmp .eq 21, 3) := by decide +kernel
theorem dX10_who_143 : decode cX10_who 143 = .ok (.ldc_w 270, 3) := by decide +kernel
theorem dX10_who_146 : decode cX10_who 146 = .ok (.goto 18, 3) := by decide +kernel
theorem dX10_who_164 : decode cX10_who 164 = .ok (.istore 8, 2) := by decide +kernel
theorem dX10_who_166 : decode cX10_who 166 = .ok (.iload 8, 2) := by decide +kernel
theorem dX10_who_168 : decode cX10_who 168 = .ok (.iload 5, 2) := by decide +kernel
theorem dX10_who_170 : decode cX10_who 170 = .ok (.if_icmp .ge 8, 3) := by decide +kernel
theorem dX10_who_178 : decode cX10_who 178 = .ok (.iload 5, 2) := by decide +kernel
theorem dX10_who_180 : decode cX10_who 180 = .ok (.istore 5, 2) := by decide +kernel
theorem dX10_who_182 : decode cX10_who 182 = .ok (.iinc 6 1, 3) := by decide +kernel
theorem dX10_who_185 : decode cX10_who 185 = .ok (.goto (-119), 3) := by decide +kernel
theorem dX10_who_173 : decode cX10_who 173 = .ok (.iload 8, 2) := by decide +kernel
theorem dX10_who_175 : decode cX10_who 175 = .ok (.goto 5, 3) := by decide +kernel
theorem dX10_who_125 : decode cX10_who 125 = .ok (.aload_n 0, 1) := by decide +kernel
theorem dX10_who_126 : decode cX10_who 126 = .ok (.getfield 60, 3) := by decide +kernel
theorem dX10_who_129 : decode cX10_who 129 = .ok (.bipush 6, 2) := by decide +kernel
theorem dX10_who_131 : decode cX10_who 131 = .ok (.iload_n 3, 1) := by decide +kernel
theorem dX10_who_132 : decode cX10_who 132 = .ok (.imul, 1) := by decide +kernel
theorem dX10_who_133 : decode cX10_who 133 = .ok (.iload 6, 2) := by decide +kernel
theorem dX10_who_135 : decode cX10_who 135 = .ok (.iadd, 1) := by decide +kernel
theorem dX10_who_136 : decode cX10_who 136 = .ok (.iaload, 1) := by decide +kernel
theorem dX10_who_137 : decode cX10_who 137 = .ok (.ldc_w 270, 3) := by decide +kernel
theorem dX10_who_140 : decode cX10_who 140 = .ok (.if_icmp .ne 9, 3) := by decide +kernel
theorem dX10_who_149 : decode cX10_who 149 = .ok (.iload 7, 2) := by decide +kernel
theorem dX10_who_151 : decode cX10_who 151 = .ok (.aload_n 0, 1) := by decide +kernel
theorem dX10_who_152 : decode cX10_who 152 = .ok (.getfield 60, 3) := by decide +kernel
theorem dX10_who_155 : decode cX10_who 155 = .ok (.bipush 6, 2) := by decide +kernel
theorem dX10_who_157 : decode cX10_who 157 = .ok (.iload_n 3, 1) := by decide +kernel
theorem dX10_who_158 : decode cX10_who 158 = .ok (.imul, 1) := by decide +kernel
theorem dX10_who_159 : decode cX10_who 159 = .ok (.iload 6, 2) := by decide +kernel
theorem dX10_who_161 : decode cX10_who 161 = .ok (.iadd, 1) := by decide +kernel
theorem dX10_who_162 : decode cX10_who 162 = .ok (.iaload, 1) := by decide +kernel
theorem dX10_who_163 : decode cX10_who 163 = .ok (.iadd, 1) := by decide +kernel
theorem dX10_who_90 : decode cX10_who 90 = .ok (.ldc_w 270, 3) := by decide +kernel
theorem dX10_who_93 : decode cX10_who 93 = .ok (.goto 22, 3) := by decide +kernel
theorem dX10_who_54 : decode cX10_who 54 = .ok (.iconst 0, 1) := by decide +kernel
theorem dX10_who_55 : decode cX10_who 55 = .ok (.goto 6, 3) := by decide +kernel
theorem dX10_who_13 : decode cX10_who 13 = .ok (.iload_n 2, 1) := by decide +kernel
theorem dX10_who_14 : decode cX10_who 14 = .ok (.i2l, 1) := by decide +kernel
theorem dX10_who_15 : decode cX10_who 15 = .ok (.lconst 0, 1) := by decide +kernel
theorem dX10_who_16 : decode cX10_who 16 = .ok (.iload_n 1, 1) := by decide +kernel
theorem dX10_who_17 : decode cX10_who 17 = .ok (.i2l, 1) := by decide +kernel
theorem dX10_who_18 : decode cX10_who 18 = .ok (.invokestatic 84, 3) := by decide +kernel
theorem dX10_who_21 : decode cX10_who 21 = .ok (.ifCond .ne 6, 3) := by decide +kernel
noncomputable def f_m_who_279 (w262xl5 : Int32) (w262xl3 : Int32) (n : Nat) : Int32 → Int32 → (Nat → Int32) → (Nat → Int32) → (Nat → Int32) → Int32 × Int32 × (Nat → Int32) × (Nat → Int32) × (Nat → Int32) := Nat.rec (motive := fun _ => Int32 → Int32 → (Nat → Int32) → (Nat → Int32) → (Nat → Int32) → Int32 × Int32 × (Nat → Int32) × (Nat → Int32) × (Nat → Int32)) (fun w279xl6 w279xl4 w279xm0 w279xm1 w279xm2 => (w279xl6, w279xl4, w279xm0, w279xm1, w279xm2)) (fun n ih w279xl6 w279xl4 w279xm0 w279xm1 w279xm2 => (if w279xl6 < 0 then (w279xl6, w279xl4, w279xm0, w279xm1, w279xm2) else (if (f_m_has w262xl3 w279xl6) = 0 then (if (w279xm1 (((6 * w262xl5) + w279xl6) : Int32).toNatClampNeg) = 1000000000 then (ih (w279xl6 + (-1)) w279xl4 w279xm0 w279xm1 w279xm2) else (if (w279xm2 (((64 * (w262xl5 + 1)) + (w262xl3 ||| ((1 : Int32) <<< (w279xl6 &&& 31)))) : Int32).toNatClampNeg) = 1000000000 then (ih (w279xl6 + (-1)) w279xl4 w279xm0 w279xm1 w279xm2) else (if ((w279xm1 (((6 * w262xl5) + w279xl6) : Int32).toNatClampNeg) + (w279xm2 (((64 * (w262xl5 + 1)) + (w262xl3 ||| ((1 : Int32) <<< (w279xl6 &&& 31)))) : Int32).toNatClampNeg)) = (w279xm2 (((64 * w262xl5) + w262xl3) : Int32).toNatClampNeg) then (ih (w279xl6 + (-1)) w279xl6 w279xm0 w279xm1 w279xm2) else (ih (w279xl6 + (-1)) w279xl4 w279xm0 w279xm1 w279xm2)))) else (ih (w279xl6 + (-1)) w279xl4 w279xm0 w279xm1 w279xm2)))) n
theorem f_m_who_279_s (w262xl5 : Int32) (w262xl3 : Int32) (n : Nat) (w279xl6 : Int32) (w279xl4 : Int32) (w279xm0 : (Nat → Int32)) (w279xm1 : (Nat → Int32)) (w279xm2 : (Nat → Int32)) : f_m_who_279 w262xl5 w262xl3 (n + 1) w279xl6 w279xl4 w279xm0 w279xm1 w279xm2 = (if w279xl6 < 0 then (w279xl6, w279xl4, w279xm0, w279xm1, w279xm2) else (if (f_m_has w262xl3 w279xl6) = 0 then (if (w279xm1 (((6 * w262xl5) + w279xl6) : Int32).toNatClampNeg) = 1000000000 then (f_m_who_279 w262xl5 w262xl3 n (w279xl6 + (-1)) w279xl4 w279xm0 w279xm1 w279xm2) else (if (w279xm2 (((64 * (w262xl5 + 1)) + (w262xl3 ||| ((1 : Int32) <<< (w279xl6 &&& 31)))) : Int32).toNatClampNeg) = 1000000000 then (f_m_who_279 w262xl5 w262xl3 n (w279xl6 + (-1)) w279xl4 w279xm0 w279xm1 w279xm2) else (if ((w279xm1 (((6 * w262xl5) + w279xl6) : Int32).toNatClampNeg) + (w279xm2 (((64 * (w262xl5 + 1)) + (w262xl3 ||| ((1 : Int32) <<< (w279xl6 &&& 31)))) : Int32).toNatClampNeg)) = (w279xm2 (((64 * w262xl5) + w262xl3) : Int32).toNatClampNeg) then (f_m_who_279 w262xl5 w262xl3 n (w279xl6 + (-1)) w279xl6 w279xm0 w279xm1 w279xm2) else (f_m_who_279 w262xl5 w262xl3 n (w279xl6 + (-1)) w279xl4 w279xm0 w279xm1 w279xm2)))) else (f_m_who_279 w262xl5 w262xl3 n (w279xl6 + (-1)) w279xl4 w279xm0 w279xm1 w279xm2))) := rfl
def S_m_who_279 (w262xl5 : Int32) (w262xl3 : Int32) (K : Int32 → Int32 → (Nat → Int32) → (Nat → Int32) → (Nat → Int32) → Prop) (n : Nat) : Int32 → Int32 → (Nat → Int32) → (Nat → Int32) → (Nat → Int32) → Prop := Nat.rec (motive := fun _ => Int32 → Int32 → (Nat → Int32) → (Nat → Int32) → (Nat → Int32) → Prop) (fun _ _ _ _ _ => False) (fun n ih w279xl6 w279xl4 w279xm0 w279xm1 w279xm2 => ((w279xl6 < 0 → (K w279xl6 w279xl4 w279xm0 w279xm1 w279xm2)) ∧ (¬ w279xl6 < 0 → ((S_m_has w262xl3 w279xl6) ∧ (((f_m_has w262xl3 w279xl6) = 0 → (vp_in ((6 * w262xl5) + w279xl6) 36 ∧ (((w279xm1 (((6 * w262xl5) + w279xl6) : Int32).toNatClampNeg) = 1000000000 → (ih (w279xl6 + (-1)) w279xl4 w279xm0 w279xm1 w279xm2)) ∧ (¬ (w279xm1 (((6 * w262xl5) + w279xl6) : Int32).toNatClampNeg) = 1000000000 → (vp_in ((64 * (w262xl5 + 1)) + (w262xl3 ||| ((1 : Int32) <<< (w279xl6 &&& 31)))) 448 ∧ (((w279xm2 (((64 * (w262xl5 + 1)) + (w262xl3 ||| ((1 : Int32) <<< (w279xl6 &&& 31)))) : Int32).toNatClampNeg) = 1000000000 → (ih (w279xl6 + (-1)) w279xl4 w279xm0 w279xm1 w279xm2)) ∧ (¬ (w279xm2 (((64 * (w262xl5 + 1)) + (w262xl3 ||| ((1 : Int32) <<< (w279xl6 &&& 31)))) : Int32).toNatClampNeg) = 1000000000 → (vp_in ((6 * w262xl5) + w279xl6) 36 ∧ (vp_in ((64 * (w262xl5 + 1)) + (w262xl3 ||| ((1 : Int32) <<< (w279xl6 &&& 31)))) 448 ∧ (vp_in ((64 * w262xl5) + w262xl3) 448 ∧ ((((w279xm1 (((6 * w262xl5) + w279xl6) : Int32).toNatClampNeg) + (w279xm2 (((64 * (w262xl5 + 1)) + (w262xl3 ||| ((1 : Int32) <<< (w279xl6 &&& 31)))) : Int32).toNatClampNeg)) = (w279xm2 (((64 * w262xl5) + w262xl3) : Int32).toNatClampNeg) → (ih (w279xl6 + (-1)) w279xl6 w279xm0 w279xm1 w279xm2)) ∧ (¬ ((w279xm1 (((6 * w262xl5) + w279xl6) : Int32).toNatClampNeg) + (w279xm2 (((64 * (w262xl5 + 1)) + (w262xl3 ||| ((1 : Int32) <<< (w279xl6 &&& 31)))) : Int32).toNatClampNeg)) = (w279xm2 (((64 * w262xl5) + w262xl3) : Int32).toNatClampNeg) → (ih (w279xl6 + (-1)) w279xl4 w279xm0 w279xm1 w279xm2))))))))))))) ∧ (¬ (f_m_has w262xl3 w279xl6) = 0 → (ih (w279xl6 + (-1)) w279xl4 w279xm0 w279xm1 w279xm2))))))) n
theorem S_m_who_279_s (w262xl5 : Int32) (w262xl3 : Int32) (K : Int32 → Int32 → (Nat → Int32) → (Nat → Int32) → (Nat → Int32) → Prop) (n : Nat) (w279xl6 : Int32) (w279xl4 : Int32) (w279xm0 : (Nat → Int32)) (w279xm1 : (Nat → Int32)) (w279xm2 : (Nat → Int32)) : S_m_who_279 w262xl5 w262xl3 K (n + 1) w279xl6 w279xl4 w279xm0 w279xm1 w279xm2 = (((w279xl6 < 0 → (K w279xl6 w279xl4 w279xm0 w279xm1 w279xm2)) ∧ (¬ w279xl6 < 0 → ((S_m_has w262xl3 w279xl6) ∧ (((f_m_has w262xl3 w279xl6) = 0 → (vp_in ((6 * w262xl5) + w279xl6) 36 ∧ (((w279xm1 (((6 * w262xl5) + w279xl6) : Int32).toNatClampNeg) = 1000000000 → (S_m_who_279 w262xl5 w262xl3 K n (w279xl6 + (-1)) w279xl4 w279xm0 w279xm1 w279xm2)) ∧ (¬ (w279xm1 (((6 * w262xl5) + w279xl6) : Int32).toNatClampNeg) = 1000000000 → (vp_in ((64 * (w262xl5 + 1)) + (w262xl3 ||| ((1 : Int32) <<< (w279xl6 &&& 31)))) 448 ∧ (((w279xm2 (((64 * (w262xl5 + 1)) + (w262xl3 ||| ((1 : Int32) <<< (w279xl6 &&& 31)))) : Int32).toNatClampNeg) = 1000000000 → (S_m_who_279 w262xl5 w262xl3 K n (w279xl6 + (-1)) w279xl4 w279xm0 w279xm1 w279xm2)) ∧ (¬ (w279xm2 (((64 * (w262xl5 + 1)) + (w262xl3 ||| ((1 : Int32) <<< (w279xl6 &&& 31)))) : Int32).toNatClampNeg) = 1000000000 → (vp_in ((6 * w262xl5) + w279xl6) 36 ∧ (vp_in ((64 * (w262xl5 + 1)) + (w262xl3 ||| ((1 : Int32) <<< (w279xl6 &&& 31)))) 448 ∧ (vp_in ((64 * w262xl5) + w262xl3) 448 ∧ ((((w279xm1 (((6 * w262xl5) + w279xl6) : Int32).toNatClampNeg) + (w279xm2 (((64 * (w262xl5 + 1)) + (w262xl3 ||| ((1 : Int32) <<< (w279xl6 &&& 31)))) : Int32).toNatClampNeg)) = (w279xm2 (((64 * w262xl5) + w262xl3) : Int32).toNatClampNeg) → (S_m_who_279 w262xl5 w262xl3 K n (w279xl6 + (-1)) w279xl6 w279xm0 w279xm1 w279xm2)) ∧ (¬ ((w279xm1 (((6 * w262xl5) + w279xl6) : Int32).toNatClampNeg) + (w279xm2 (((64 * (w262xl5 + 1)) + (w262xl3 ||| ((1 : Int32) <<< (w279xl6 &&& 31)))) : Int32).toNatClampNeg)) = (w279xm2 (((64 * w262xl5) + w262xl3) : Int32).toNatClampNeg) → (S_m_who_279 w262xl5 w262xl3 K n (w279xl6 + (-1)) w279xl4 w279xm0 w279xm1 w279xm2))))))))))))) ∧ (¬ (f_m_has w262xl3 w279xl6) = 0 → (S_m_who_279 w262xl5 w262xl3 K n (w279xl6 + (-1)) w279xl4 w279xm0 w279xm1 w279xm2))))))) := rfl
noncomputable def f_m_who_262 (b_ : Int32) (n : Nat) : Int32 → Int32 → Int32 → (Nat → Int32) → (Nat → Int32) → (Nat → Int32) → Int32 × Int32 × Int32 × (Nat → Int32) × (Nat → Int32) × (Nat → Int32) := Nat.rec (motive := fun _ => Int32 → Int32 → Int32 → (Nat → Int32) → (Nat → Int32) → (Nat → Int32) → Int32 × Int32 × Int32 × (Nat → Int32) × (Nat → Int32) × (Nat → Int32)) (fun w262xl5 w262xl4 w262xl3 w262xm0 w262xm1 w262xm2 => (w262xl5, w262xl4, w262xl3, w262xm0, w262xm1, w262xm2)) (fun n ih w262xl5 w262xl4 w262xl3 w262xm0 w262xm1 w262xm2 => (if b_ < w262xl5 then (w262xl5, w262xl4, w262xl3, w262xm0, w262xm1, w262xm2) else (match ((f_m_who_279 w262xl5 w262xl3 10 ((w262xm0 5) - 1) (-1) w262xm0 w262xm1 w262xm2) : Int32 × Int32 × (Nat → Int32) × (Nat → Int32) × (Nat → Int32)) with | (w279xl6, w279xl4, w279xm0, w279xm1, w279xm2) => (ih (w262xl5 + 1) w279xl4 (w262xl3 ||| ((1 : Int32) <<< (w279xl4 &&& 31))) w279xm0 w279xm1 w279xm2)))) n
theorem f_m_who_262_s (b_ : Int32) (n : Nat) (w262xl5 : Int32) (w262xl4 : Int32) (w262xl3 : Int32) (w262xm0 : (Nat → Int32)) (w262xm1 : (Nat → Int32)) (w262xm2 : (Nat → Int32)) : f_m_who_262 b_ (n + 1) w262xl5 w262xl4 w262xl3 w262xm0 w262xm1 w262xm2 = (if b_ < w262xl5 then (w262xl5, w262xl4, w262xl3, w262xm0, w262xm1, w262xm2) else (match ((f_m_who_279 w262xl5 w262xl3 10 ((w262xm0 5) - 1) (-1) w262xm0 w262xm1 w262xm2) : Int32 × Int32 × (Nat → Int32) × (Nat → Int32) × (Nat → Int32)) with | (w279xl6, w279xl4, w279xm0, w279xm1, w279xm2) => (f_m_who_262 b_ n (w262xl5 + 1) w279xl4 (w262xl3 ||| ((1 : Int32) <<< (w279xl4 &&& 31))) w279xm0 w279xm1 w279xm2))) := rfl
def S_m_who_262 (b_ : Int32) (K : Int32 → Int32 → Int32 → (Nat → Int32) → (Nat → Int32) → (Nat → Int32) → Prop) (n : Nat) : Int32 → Int32 → Int32 → (Nat → Int32) → (Nat → Int32) → (Nat → Int32) → Prop := Nat.rec (motive := fun _ => Int32 → Int32 → Int32 → (Nat → Int32) → (Nat → Int32) → (Nat → Int32) → Prop) (fun _ _ _ _ _ _ => False) (fun n ih w262xl5 w262xl4 w262xl3 w262xm0 w262xm1 w262xm2 => ((b_ < w262xl5 → (K w262xl5 w262xl4 w262xl3 w262xm0 w262xm1 w262xm2)) ∧ (¬ b_ < w262xl5 → (S_m_who_279 w262xl5 w262xl3 (fun (w279xl6 : Int32) (w279xl4 : Int32) (w279xm0 : (Nat → Int32)) (w279xm1 : (Nat → Int32)) (w279xm2 : (Nat → Int32)) => (ih (w262xl5 + 1) w279xl4 (w262xl3 ||| ((1 : Int32) <<< (w279xl4 &&& 31))) w279xm0 w279xm1 w279xm2)) 10 ((w262xm0 5) - 1) (-1) w262xm0 w262xm1 w262xm2)))) n
theorem S_m_who_262_s (b_ : Int32) (K : Int32 → Int32 → Int32 → (Nat → Int32) → (Nat → Int32) → (Nat → Int32) → Prop) (n : Nat) (w262xl5 : Int32) (w262xl4 : Int32) (w262xl3 : Int32) (w262xm0 : (Nat → Int32)) (w262xm1 : (Nat → Int32)) (w262xm2 : (Nat → Int32)) : S_m_who_262 b_ K (n + 1) w262xl5 w262xl4 w262xl3 w262xm0 w262xm1 w262xm2 = (((b_ < w262xl5 → (K w262xl5 w262xl4 w262xl3 w262xm0 w262xm1 w262xm2)) ∧ (¬ b_ < w262xl5 → (S_m_who_279 w262xl5 w262xl3 (fun (w279xl6 : Int32) (w279xl4 : Int32) (w279xm0 : (Nat → Int32)) (w279xm1 : (Nat → Int32)) (w279xm2 : (Nat → Int32)) => (S_m_who_262 b_ K n (w262xl5 + 1) w279xl4 (w262xl3 ||| ((1 : Int32) <<< (w279xl4 &&& 31))) w279xm0 w279xm1 w279xm2)) 10 ((w262xm0 5) - 1) (-1) w262xm0 w262xm1 w262xm2)))) := rfl
noncomputable def f_m_who_66 (m_ : Int32) (w35xl3 : Int32) (w42xl4 : Int32) (n : Nat) : Int32 → Int32 → (Nat → Int32) → (Nat → Int32) → (Nat → Int32) → Int32 × Int32 × (Nat → Int32) × (Nat → Int32) × (Nat → Int32) := Nat.rec (motive := fun _ => Int32 → Int32 → (Nat → Int32) → (Nat → Int32) → (Nat → Int32) → Int32 × Int32 × (Nat → Int32) × (Nat → Int32) × (Nat → Int32)) (fun w66xl6 w66xl5 w66xm0 w66xm1 w66xm2 => (w66xl6, w66xl5, w66xm0, w66xm1, w66xm2)) (fun n ih w66xl6 w66xl5 w66xm0 w66xm1 w66xm2 => (if (w66xm0 5) ≤ w66xl6 then (w66xl6, w66xl5, w66xm0, w66xm1, w66xm2) else (if m_ < w35xl3 then (w66xl6, w66xl5, w66xm0, w66xm1, w66xm2) else (if (f_m_has w42xl4 w66xl6) = 0 then (if (w66xm2 (((64 * (w35xl3 + 1)) + (w42xl4 ||| ((1 : Int32) <<< (w66xl6 &&& 31)))) : Int32).toNatClampNeg) = 1000000000 then (if w66xl5 ≤ 1000000000 then (ih (w66xl6 + 1) w66xl5 w66xm0 w66xm1 w66xm2) else (ih (w66xl6 + 1) 1000000000 w66xm0 w66xm1 w66xm2)) else (if (w66xm1 (((6 * w35xl3) + w66xl6) : Int32).toNatClampNeg) = 1000000000 then (if w66xl5 ≤ 1000000000 then (ih (w66xl6 + 1) w66xl5 w66xm0 w66xm1 w66xm2) else (ih (w66xl6 + 1) 1000000000 w66xm0 w66xm1 w66xm2)) else (if w66xl5 ≤ ((w66xm2 (((64 * (w35xl3 + 1)) + (w42xl4 ||| ((1 : Int32) <<< (w66xl6 &&& 31)))) : Int32).toNatClampNeg) + (w66xm1 (((6 * w35xl3) + w66xl6) : Int32).toNatClampNeg)) then (ih (w66xl6 + 1) w66xl5 w66xm0 w66xm1 w66xm2) else (ih (w66xl6 + 1) ((w66xm2 (((64 * (w35xl3 + 1)) + (w42xl4 ||| ((1 : Int32) <<< (w66xl6 &&& 31)))) : Int32).toNatClampNeg) + (w66xm1 (((6 * w35xl3) + w66xl6) : Int32).toNatClampNeg)) w66xm0 w66xm1 w66xm2)))) else (if w66xl5 ≤ 1000000000 then (ih (w66xl6 + 1) w66xl5 w66xm0 w66xm1 w66xm2) else (ih (w66xl6 + 1) 1000000000 w66xm0 w66xm1 w66xm2)))))) n
theorem f_m_who_66_s (m_ : Int32) (w35xl3 : Int32) (w42xl4 : Int32) (n : Nat) (w66xl6 : Int32) (w66xl5 : Int32) (w66xm0 : (Nat → Int32)) (w66xm1 : (Nat → Int32)) (w66xm2 : (Nat → Int32)) : f_m_who_66 m_ w35xl3 w42xl4 (n + 1) w66xl6 w66xl5 w66xm0 w66xm1 w66xm2 = (if (w66xm0 5) ≤ w66xl6 then (w66xl6, w66xl5, w66xm0, w66xm1, w66xm2) else (if m_ < w35xl3 then (w66xl6, w66xl5, w66xm0, w66xm1, w66xm2) else (if (f_m_has w42xl4 w66xl6) = 0 then (if (w66xm2 (((64 * (w35xl3 + 1)) + (w42xl4 ||| ((1 : Int32) <<< (w66xl6 &&& 31)))) : Int32).toNatClampNeg) = 1000000000 then (if w66xl5 ≤ 1000000000 then (f_m_who_66 m_ w35xl3 w42xl4 n (w66xl6 + 1) w66xl5 w66xm0 w66xm1 w66xm2) else (f_m_who_66 m_ w35xl3 w42xl4 n (w66xl6 + 1) 1000000000 w66xm0 w66xm1 w66xm2)) else (if (w66xm1 (((6 * w35xl3) + w66xl6) : Int32).toNatClampNeg) = 1000000000 then (if w66xl5 ≤ 1000000000 then (f_m_who_66 m_ w35xl3 w42xl4 n (w66xl6 + 1) w66xl5 w66xm0 w66xm1 w66xm2) else (f_m_who_66 m_ w35xl3 w42xl4 n (w66xl6 + 1) 1000000000 w66xm0 w66xm1 w66xm2)) else (if w66xl5 ≤ ((w66xm2 (((64 * (w35xl3 + 1)) + (w42xl4 ||| ((1 : Int32) <<< (w66xl6 &&& 31)))) : Int32).toNatClampNeg) + (w66xm1 (((6 * w35xl3) + w66xl6) : Int32).toNatClampNeg)) then (f_m_who_66 m_ w35xl3 w42xl4 n (w66xl6 + 1) w66xl5 w66xm0 w66xm1 w66xm2) else (f_m_who_66 m_ w35xl3 w42xl4 n (w66xl6 + 1) ((w66xm2 (((64 * (w35xl3 + 1)) + (w42xl4 ||| ((1 : Int32) <<< (w66xl6 &&& 31)))) : Int32).toNatClampNeg) + (w66xm1 (((6 * w35xl3) + w66xl6) : Int32).toNatClampNeg)) w66xm0 w66xm1 w66xm2)))) else (if w66xl5 ≤ 1000000000 then (f_m_who_66 m_ w35xl3 w42xl4 n (w66xl6 + 1) w66xl5 w66xm0 w66xm1 w66xm2) else (f_m_who_66 m_ w35xl3 w42xl4 n (w66xl6 + 1) 1000000000 w66xm0 w66xm1 w66xm2))))) := rfl
def S_m_who_66 (m_ : Int32) (w35xl3 : Int32) (w42xl4 : Int32) (K : Int32 → Int32 → (Nat → Int32) → (Nat → Int32) → (Nat → Int32) → Prop) (n : Nat) : Int32 → Int32 → (Nat → Int32) → (Nat → Int32) → (Nat → Int32) → Prop := Nat.rec (motive := fun _ => Int32 → Int32 → (Nat → Int32) → (Nat → Int32) → (Nat → Int32) → Prop) (fun _ _ _ _ _ => False) (fun n ih w66xl6 w66xl5 w66xm0 w66xm1 w66xm2 => (((w66xm0 5) ≤ w66xl6 → (K w66xl6 w66xl5 w66xm0 w66xm1 w66xm2)) ∧ (¬ (w66xm0 5) ≤ w66xl6 → ((m_ < w35xl3 → (K w66xl6 w66xl5 w66xm0 w66xm1 w66xm2)) ∧ (¬ m_ < w35xl3 → ((S_m_has w42xl4 w66xl6) ∧ (((f_m_has w42xl4 w66xl6) = 0 → (vp_in ((64 * (w35xl3 + 1)) + (w42xl4 ||| ((1 : Int32) <<< (w66xl6 &&& 31)))) 448 ∧ (((w66xm2 (((64 * (w35xl3 + 1)) + (w42xl4 ||| ((1 : Int32) <<< (w66xl6 &&& 31)))) : Int32).toNatClampNeg) = 1000000000 → ((w66xl5 ≤ 1000000000 → (ih (w66xl6 + 1) w66xl5 w66xm0 w66xm1 w66xm2)) ∧ (¬ w66xl5 ≤ 1000000000 → (ih (w66xl6 + 1) 1000000000 w66xm0 w66xm1 w66xm2)))) ∧ (¬ (w66xm2 (((64 * (w35xl3 + 1)) + (w42xl4 ||| ((1 : Int32) <<< (w66xl6 &&& 31)))) : Int32).toNatClampNeg) = 1000000000 → (vp_in ((6 * w35xl3) + w66xl6) 36 ∧ (((w66xm1 (((6 * w35xl3) + w66xl6) : Int32).toNatClampNeg) = 1000000000 → ((w66xl5 ≤ 1000000000 → (ih (w66xl6 + 1) w66xl5 w66xm0 w66xm1 w66xm2)) ∧ (¬ w66xl5 ≤ 1000000000 → (ih (w66xl6 + 1) 1000000000 w66xm0 w66xm1 w66xm2)))) ∧ (¬ (w66xm1 (((6 * w35xl3) + w66xl6) : Int32).toNatClampNeg) = 1000000000 → (vp_in ((6 * w35xl3) + w66xl6) 36 ∧ ((w66xl5 ≤ ((w66xm2 (((64 * (w35xl3 + 1)) + (w42xl4 ||| ((1 : Int32) <<< (w66xl6 &&& 31)))) : Int32).toNatClampNeg) + (w66xm1 (((6 * w35xl3) + w66xl6) : Int32).toNatClampNeg)) → (ih (w66xl6 + 1) w66xl5 w66xm0 w66xm1 w66xm2)) ∧ (¬ w66xl5 ≤ ((w66xm2 (((64 * (w35xl3 + 1)) + (w42xl4 ||| ((1 : Int32) <<< (w66xl6 &&& 31)))) : Int32).toNatClampNeg) + (w66xm1 (((6 * w35xl3) + w66xl6) : Int32).toNatClampNeg)) → (ih (w66xl6 + 1) ((w66xm2 (((64 * (w35xl3 + 1)) + (w42xl4 ||| ((1 : Int32) <<< (w66xl6 &&& 31)))) : Int32).toNatClampNeg) + (w66xm1 (((6 * w35xl3) + w66xl6) : Int32).toNatClampNeg)) w66xm0 w66xm1 w66xm2))))))))))) ∧ (¬ (f_m_has w42xl4 w66xl6) = 0 → ((w66xl5 ≤ 1000000000 → (ih (w66xl6 + 1) w66xl5 w66xm0 w66xm1 w66xm2)) ∧ (¬ w66xl5 ≤ 1000000000 → (ih (w66xl6 + 1) 1000000000 w66xm0 w66xm1 w66xm2))))))))))) n
theorem S_m_who_66_s (m_ : Int32) (w35xl3 : Int32) (w42xl4 : Int32) (K : Int32 → Int32 → (Nat → Int32) → (Nat → Int32) → (Nat → Int32) → Prop) (n : Nat) (w66xl6 : Int32) (w66xl5 : Int32) (w66xm0 : (Nat → Int32)) (w66xm1 : (Nat → Int32)) (w66xm2 : (Nat → Int32)) : S_m_who_66 m_ w35xl3 w42xl4 K (n + 1) w66xl6 w66xl5 w66xm0 w66xm1 w66xm2 = ((((w66xm0 5) ≤ w66xl6 → (K w66xl6 w66xl5 w66xm0 w66xm1 w66xm2)) ∧ (¬ (w66xm0 5) ≤ w66xl6 → ((m_ < w35xl3 → (K w66xl6 w66xl5 w66xm0 w66xm1 w66xm2)) ∧ (¬ m_ < w35xl3 → ((S_m_has w42xl4 w66xl6) ∧ (((f_m_has w42xl4 w66xl6) = 0 → (vp_in ((64 * (w35xl3 + 1)) + (w42xl4 ||| ((1 : Int32) <<< (w66xl6 &&& 31)))) 448 ∧ (((w66xm2 (((64 * (w35xl3 + 1)) + (w42xl4 ||| ((1 : Int32) <<< (w66xl6 &&& 31)))) : Int32).toNatClampNeg) = 1000000000 → ((w66xl5 ≤ 1000000000 → (S_m_who_66 m_ w35xl3 w42xl4 K n (w66xl6 + 1) w66xl5 w66xm0 w66xm1 w66xm2)) ∧ (¬ w66xl5 ≤ 1000000000 → (S_m_who_66 m_ w35xl3 w42xl4 K n (w66xl6 + 1) 1000000000 w66xm0 w66xm1 w66xm2)))) ∧ (¬ (w66xm2 (((64 * (w35xl3 + 1)) + (w42xl4 ||| ((1 : Int32) <<< (w66xl6 &&& 31)))) : Int32).toNatClampNeg) = 1000000000 → (vp_in ((6 * w35xl3) + w66xl6) 36 ∧ (((w66xm1 (((6 * w35xl3) + w66xl6) : Int32).toNatClampNeg) = 1000000000 → ((w66xl5 ≤ 1000000000 → (S_m_who_66 m_ w35xl3 w42xl4 K n (w66xl6 + 1) w66xl5 w66xm0 w66xm1 w66xm2)) ∧ (¬ w66xl5 ≤ 1000000000 → (S_m_who_66 m_ w35xl3 w42xl4 K n (w66xl6 + 1) 1000000000 w66xm0 w66xm1 w66xm2)))) ∧ (¬ (w66xm1 (((6 * w35xl3) + w66xl6) : Int32).toNatClampNeg) = 1000000000 → (vp_in ((6 * w35xl3) + w66xl6) 36 ∧ ((w66xl5 ≤ ((w66xm2 (((64 * (w35xl3 + 1)) + (w42xl4 ||| ((1 : Int32) <<< (w66xl6 &&& 31)))) : Int32).toNatClampNeg) + (w66xm1 (((6 * w35xl3) + w66xl6) : Int32).toNatClampNeg)) → (S_m_who_66 m_ w35xl3 w42xl4 K n (w66xl6 + 1) w66xl5 w66xm0 w66xm1 w66xm2)) ∧ (¬ w66xl5 ≤ ((w66xm2 (((64 * (w35xl3 + 1)) + (w42xl4 ||| ((1 : Int32) <<< (w66xl6 &&& 31)))) : Int32).toNatClampNeg) + (w66xm1 (((6 * w35xl3) + w66xl6) : Int32).toNatClampNeg)) → (S_m_who_66 m_ w35xl3 w42xl4 K n (w66xl6 + 1) ((w66xm2 (((64 * (w35xl3 + 1)) + (w42xl4 ||| ((1 : Int32) <<< (w66xl6 &&& 31)))) : Int32).toNatClampNeg) + (w66xm1 (((6 * w35xl3) + w66xl6) : Int32).toNatClampNeg)) w66xm0 w66xm1 w66xm2))))))))))) ∧ (¬ (f_m_has w42xl4 w66xl6) = 0 → ((w66xl5 ≤ 1000000000 → (S_m_who_66 m_ w35xl3 w42xl4 K n (w66xl6 + 1) w66xl5 w66xm0 w66xm1 w66xm2)) ∧ (¬ w66xl5 ≤ 1000000000 → (S_m_who_66 m_ w35xl3 w42xl4 K n (w66xl6 + 1) 1000000000 w66xm0 w66xm1 w66xm2))))))))))) := rfl
noncomputable def f_m_who_42 (m_ : Int32) (w35xl3 : Int32) (n : Nat) : Int32 → (Nat → Int32) → (Nat → Int32) → (Nat → Int32) → Int32 × (Nat → Int32) × (Nat → Int32) × (Nat → Int32) := Nat.rec (motive := fun _ => Int32 → (Nat → Int32) → (Nat → Int32) → (Nat → Int32) → Int32 × (Nat → Int32) × (Nat → Int32) × (Nat → Int32)) (fun w42xl4 w42xm0 w42xm1 w42xm2 => (w42xl4, w42xm0, w42xm1, w42xm2)) (fun n ih w42xl4 w42xm0 w42xm1 w42xm2 => (if 64 ≤ w42xl4 then (w42xl4, w42xm0, w42xm1, w42xm2) else (if w35xl3 ≤ m_ then (match ((f_m_who_66 m_ w35xl3 w42xl4 10 0 1000000000 w42xm0 w42xm1 w42xm2) : Int32 × Int32 × (Nat → Int32) × (Nat → Int32) × (Nat → Int32)) with | (w66xl6, w66xl5, w66xm0, w66xm1, w66xm2) => (ih (w42xl4 + 1) w66xm0 w66xm1 (upd w66xm2 (((64 * w35xl3) + w42xl4) : Int32).toNatClampNeg w66xl5))) else (match ((f_m_who_66 m_ w35xl3 w42xl4 10 0 0 w42xm0 w42xm1 w42xm2) : Int32 × Int32 × (Nat → Int32) × (Nat → Int32) × (Nat → Int32)) with | (w66xl6, w66xl5, w66xm0, w66xm1, w66xm2) => (ih (w42xl4 + 1) w66xm0 w66xm1 (upd w66xm2 (((64 * w35xl3) + w42xl4) : Int32).toNatClampNeg w66xl5)))))) n
theorem f_m_who_42_s (m_ : Int32) (w35xl3 : Int32) (n : Nat) (w42xl4 : Int32) (w42xm0 : (Nat → Int32)) (w42xm1 : (Nat → Int32)) (w42xm2 : (Nat → Int32)) : f_m_who_42 m_ w35xl3 (n + 1) w42xl4 w42xm0 w42xm1 w42xm2 = (if 64 ≤ w42xl4 then (w42xl4, w42xm0, w42xm1, w42xm2) else (if w35xl3 ≤ m_ then (match ((f_m_who_66 m_ w35xl3 w42xl4 10 0 1000000000 w42xm0 w42xm1 w42xm2) : Int32 × Int32 × (Nat → Int32) × (Nat → Int32) × (Nat → Int32)) with | (w66xl6, w66xl5, w66xm0, w66xm1, w66xm2) => (f_m_who_42 m_ w35xl3 n (w42xl4 + 1) w66xm0 w66xm1 (upd w66xm2 (((64 * w35xl3) + w42xl4) : Int32).toNatClampNeg w66xl5))) else (match ((f_m_who_66 m_ w35xl3 w42xl4 10 0 0 w42xm0 w42xm1 w42xm2) : Int32 × Int32 × (Nat → Int32) × (Nat → Int32) × (Nat → Int32)) with | (w66xl6, w66xl5, w66xm0, w66xm1, w66xm2) => (f_m_who_42 m_ w35xl3 n (w42xl4 + 1) w66xm0 w66xm1 (upd w66xm2 (((64 * w35xl3) + w42xl4) : Int32).toNatClampNeg w66xl5))))) := rfl
def S_m_who_42 (m_ : Int32) (w35xl3 : Int32) (K : Int32 → (Nat → Int32) → (Nat → Int32) → (Nat → Int32) → Prop) (n : Nat) : Int32 → (Nat → Int32) → (Nat → Int32) → (Nat → Int32) → Prop := Nat.rec (motive := fun _ => Int32 → (Nat → Int32) → (Nat → Int32) → (Nat → Int32) → Prop) (fun _ _ _ _ => True) (fun n ih w42xl4 w42xm0 w42xm1 w42xm2 => ((64 ≤ w42xl4 → (K w42xl4 w42xm0 w42xm1 w42xm2)) ∧ (¬ 64 ≤ w42xl4 → ((w35xl3 ≤ m_ → (S_m_who_66 m_ w35xl3 w42xl4 (fun (w66xl6 : Int32) (w66xl5 : Int32) (w66xm0 : (Nat → Int32)) (w66xm1 : (Nat → Int32)) (w66xm2 : (Nat → Int32)) => (vp_in ((64 * w35xl3) + w42xl4) 448 ∧ (ih (w42xl4 + 1) w66xm0 w66xm1 (upd w66xm2 (((64 * w35xl3) + w42xl4) : Int32).toNatClampNeg w66xl5)))) 10 0 1000000000 w42xm0 w42xm1 w42xm2)) ∧ (¬ w35xl3 ≤ m_ → (S_m_who_66 m_ w35xl3 w42xl4 (fun (w66xl6 : Int32) (w66xl5 : Int32) (w66xm0 : (Nat → Int32)) (w66xm1 : (Nat → Int32)) (w66xm2 : (Nat → Int32)) => (vp_in ((64 * w35xl3) + w42xl4) 448 ∧ (ih (w42xl4 + 1) w66xm0 w66xm1 (upd w66xm2 (((64 * w35xl3) + w42xl4) : Int32).toNatClampNeg w66xl5)))) 10 0 0 w42xm0 w42xm1 w42xm2)))))) n
theorem S_m_who_42_s (m_ : Int32) (w35xl3 : Int32) (K : Int32 → (Nat → Int32) → (Nat → Int32) → (Nat → Int32) → Prop) (n : Nat) (w42xl4 : Int32) (w42xm0 : (Nat → Int32)) (w42xm1 : (Nat → Int32)) (w42xm2 : (Nat → Int32)) : S_m_who_42 m_ w35xl3 K (n + 1) w42xl4 w42xm0 w42xm1 w42xm2 = (((64 ≤ w42xl4 → (K w42xl4 w42xm0 w42xm1 w42xm2)) ∧ (¬ 64 ≤ w42xl4 → ((w35xl3 ≤ m_ → (S_m_who_66 m_ w35xl3 w42xl4 (fun (w66xl6 : Int32) (w66xl5 : Int32) (w66xm0 : (Nat → Int32)) (w66xm1 : (Nat → Int32)) (w66xm2 : (Nat → Int32)) => (vp_in ((64 * w35xl3) + w42xl4) 448 ∧ (S_m_who_42 m_ w35xl3 K n (w42xl4 + 1) w66xm0 w66xm1 (upd w66xm2 (((64 * w35xl3) + w42xl4) : Int32).toNatClampNeg w66xl5)))) 10 0 1000000000 w42xm0 w42xm1 w42xm2)) ∧ (¬ w35xl3 ≤ m_ → (S_m_who_66 m_ w35xl3 w42xl4 (fun (w66xl6 : Int32) (w66xl5 : Int32) (w66xm0 : (Nat → Int32)) (w66xm1 : (Nat → Int32)) (w66xm2 : (Nat → Int32)) => (vp_in ((64 * w35xl3) + w42xl4) 448 ∧ (S_m_who_42 m_ w35xl3 K n (w42xl4 + 1) w66xm0 w66xm1 (upd w66xm2 (((64 * w35xl3) + w42xl4) : Int32).toNatClampNeg w66xl5)))) 10 0 0 w42xm0 w42xm1 w42xm2)))))) := rfl
noncomputable def f_m_who_35 (m_ : Int32) (n : Nat) : Int32 → (Nat → Int32) → (Nat → Int32) → (Nat → Int32) → Int32 × (Nat → Int32) × (Nat → Int32) × (Nat → Int32) := Nat.rec (motive := fun _ => Int32 → (Nat → Int32) → (Nat → Int32) → (Nat → Int32) → Int32 × (Nat → Int32) × (Nat → Int32) × (Nat → Int32)) (fun w35xl3 w35xm0 w35xm1 w35xm2 => (w35xl3, w35xm0, w35xm1, w35xm2)) (fun n ih w35xl3 w35xm0 w35xm1 w35xm2 => (if w35xl3 < 0 then (w35xl3, w35xm0, w35xm1, w35xm2) else (match ((f_m_who_42 m_ w35xl3 (((64 : Int32).toInt - (0 : Int32).toInt).toNat + 1) 0 w35xm0 w35xm1 w35xm2) : Int32 × (Nat → Int32) × (Nat → Int32) × (Nat → Int32)) with | (w42xl4, w42xm0, w42xm1, w42xm2) => (ih (w35xl3 + (-1)) w42xm0 w42xm1 w42xm2)))) n
theorem f_m_who_35_s (m_ : Int32) (n : Nat) (w35xl3 : Int32) (w35xm0 : (Nat → Int32)) (w35xm1 : (Nat → Int32)) (w35xm2 : (Nat → Int32)) : f_m_who_35 m_ (n + 1) w35xl3 w35xm0 w35xm1 w35xm2 = (if w35xl3 < 0 then (w35xl3, w35xm0, w35xm1, w35xm2) else (match ((f_m_who_42 m_ w35xl3 (((64 : Int32).toInt - (0 : Int32).toInt).toNat + 1) 0 w35xm0 w35xm1 w35xm2) : Int32 × (Nat → Int32) × (Nat → Int32) × (Nat → Int32)) with | (w42xl4, w42xm0, w42xm1, w42xm2) => (f_m_who_35 m_ n (w35xl3 + (-1)) w42xm0 w42xm1 w42xm2))) := rfl
def S_m_who_35 (m_ : Int32) (K : Int32 → (Nat → Int32) → (Nat → Int32) → (Nat → Int32) → Prop) (n : Nat) : Int32 → (Nat → Int32) → (Nat → Int32) → (Nat → Int32) → Prop := Nat.rec (motive := fun _ => Int32 → (Nat → Int32) → (Nat → Int32) → (Nat → Int32) → Prop) (fun _ _ _ _ => False) (fun n ih w35xl3 w35xm0 w35xm1 w35xm2 => ((w35xl3 < 0 → (K w35xl3 w35xm0 w35xm1 w35xm2)) ∧ (¬ w35xl3 < 0 → (S_m_who_42 m_ w35xl3 (fun (w42xl4 : Int32) (w42xm0 : (Nat → Int32)) (w42xm1 : (Nat → Int32)) (w42xm2 : (Nat → Int32)) => (ih (w35xl3 + (-1)) w42xm0 w42xm1 w42xm2)) (((64 : Int32).toInt - (0 : Int32).toInt).toNat + 1) 0 w35xm0 w35xm1 w35xm2)))) n
theorem S_m_who_35_s (m_ : Int32) (K : Int32 → (Nat → Int32) → (Nat → Int32) → (Nat → Int32) → Prop) (n : Nat) (w35xl3 : Int32) (w35xm0 : (Nat → Int32)) (w35xm1 : (Nat → Int32)) (w35xm2 : (Nat → Int32)) : S_m_who_35 m_ K (n + 1) w35xl3 w35xm0 w35xm1 w35xm2 = (((w35xl3 < 0 → (K w35xl3 w35xm0 w35xm1 w35xm2)) ∧ (¬ w35xl3 < 0 → (S_m_who_42 m_ w35xl3 (fun (w42xl4 : Int32) (w42xm0 : (Nat → Int32)) (w42xm1 : (Nat → Int32)) (w42xm2 : (Nat → Int32)) => (S_m_who_35 m_ K n (w35xl3 + (-1)) w42xm0 w42xm1 w42xm2)) (((64 : Int32).toInt - (0 : Int32).toInt).toNat + 1) 0 w35xm0 w35xm1 w35xm2)))) := rfl
noncomputable def f_m_who (G : Nat → Int32) (f0 : Nat → Int32) (f10 : Nat → Int32) (f8 : Nat → Int32) (f37 : Nat → Int32) (f36 : Nat → Int32) (m_ : Int32) (b_ : Int32) : Int32 × (Nat → Int32) × (Nat → Int32) × (Nat → Int32) := (if (f_m_isBridge G m_) = 0 then ((-1000000001), G, f37, f36) else (if b_ = (-1) then (match (f_m_layCosts G f0 f10 f8 f37) with | (o_9, o_10) => (match ((f_m_who_35 m_ 10 (m_ + 1) o_9 o_10 f36) : Int32 × (Nat → Int32) × (Nat → Int32) × (Nat → Int32)) with | (w35xl3, w35xm0, w35xm1, w35xm2) => (if (w35xm2 (0 : Int32).toNatClampNeg) = 1000000000 then (if (w35xm2 (0 : Int32).toNatClampNeg) = 1000000000 then ((-1), w35xm0, w35xm1, w35xm2) else ((w35xm2 (0 : Int32).toNatClampNeg), w35xm0, w35xm1, w35xm2)) else (if b_ = (-1) then (if (w35xm2 (0 : Int32).toNatClampNeg) = 1000000000 then ((-1), w35xm0, w35xm1, w35xm2) else ((w35xm2 (0 : Int32).toNatClampNeg), w35xm0, w35xm1, w35xm2)) else (match ((f_m_who_262 b_ 10 0 (-1) 0 w35xm0 w35xm1 w35xm2) : Int32 × Int32 × Int32 × (Nat → Int32) × (Nat → Int32) × (Nat → Int32)) with | (w262xl5, w262xl4, w262xl3, w262xm0, w262xm1, w262xm2) => (w262xl4, w262xm0, w262xm1, w262xm2)))))) else (if (f_m_in b_.toInt64 0 m_.toInt64) = 0 then ((-1000000001), G, f37, f36) else (match (f_m_layCosts G f0 f10 f8 f37) with | (o_77, o_78) => (match ((f_m_who_35 m_ 10 (m_ + 1) o_77 o_78 f36) : Int32 × (Nat → Int32) × (Nat → Int32) × (Nat → Int32)) with | (w35xl3, w35xm0, w35xm1, w35xm2) => (if (w35xm2 (0 : Int32).toNatClampNeg) = 1000000000 then (if (w35xm2 (0 : Int32).toNatClampNeg) = 1000000000 then ((-1), w35xm0, w35xm1, w35xm2) else ((w35xm2 (0 : Int32).toNatClampNeg), w35xm0, w35xm1, w35xm2)) else (if b_ = (-1) then (if (w35xm2 (0 : Int32).toNatClampNeg) = 1000000000 then ((-1), w35xm0, w35xm1, w35xm2) else ((w35xm2 (0 : Int32).toNatClampNeg), w35xm0, w35xm1, w35xm2)) else (match ((f_m_who_262 b_ 10 0 (-1) 0 w35xm0 w35xm1 w35xm2) : Int32 × Int32 × Int32 × (Nat → Int32) × (Nat → Int32) × (Nat → Int32)) with | (w262xl5, w262xl4, w262xl3, w262xm0, w262xm1, w262xm2) => (w262xl4, w262xm0, w262xm1, w262xm2)))))))))
def S_m_who (G : Nat → Int32) (f0 : Nat → Int32) (f10 : Nat → Int32) (f8 : Nat → Int32) (f37 : Nat → Int32) (f36 : Nat → Int32) (m_ : Int32) (b_ : Int32) : Prop := ((S_m_isBridge G m_) ∧ (((f_m_isBridge G m_) = 0 → True) ∧ (¬ (f_m_isBridge G m_) = 0 → ((b_ = (-1) → ((S_m_layCosts G f0 f10 f8 f37) ∧ (∀ (o_9 : (Nat → Int32)) (o_10 : (Nat → Int32)), (o_9, o_10) = (f_m_layCosts G f0 f10 f8 f37) → (S_m_who_35 m_ (fun (w35xl3 : Int32) (w35xm0 : (Nat → Int32)) (w35xm1 : (Nat → Int32)) (w35xm2 : (Nat → Int32)) => (((w35xm2 (0 : Int32).toNatClampNeg) = 1000000000 → (((w35xm2 (0 : Int32).toNatClampNeg) = 1000000000 → True) ∧ (¬ (w35xm2 (0 : Int32).toNatClampNeg) = 1000000000 → True))) ∧ (¬ (w35xm2 (0 : Int32).toNatClampNeg) = 1000000000 → ((b_ = (-1) → (((w35xm2 (0 : Int32).toNatClampNeg) = 1000000000 → True) ∧ (¬ (w35xm2 (0 : Int32).toNatClampNeg) = 1000000000 → True))) ∧ (¬ b_ = (-1) → (S_m_who_262 b_ (fun (w262xl5 : Int32) (w262xl4 : Int32) (w262xl3 : Int32) (w262xm0 : (Nat → Int32)) (w262xm1 : (Nat → Int32)) (w262xm2 : (Nat → Int32)) => True) 10 0 (-1) 0 w35xm0 w35xm1 w35xm2)))))) 10 (m_ + 1) o_9 o_10 f36)))) ∧ (¬ b_ = (-1) → ((S_m_in b_.toInt64 0 m_.toInt64) ∧ (((f_m_in b_.toInt64 0 m_.toInt64) = 0 → True) ∧ (¬ (f_m_in b_.toInt64 0 m_.toInt64) = 0 → ((S_m_layCosts G f0 f10 f8 f37) ∧ (∀ (o_77 : (Nat → Int32)) (o_78 : (Nat → Int32)), (o_77, o_78) = (f_m_layCosts G f0 f10 f8 f37) → (S_m_who_35 m_ (fun (w35xl3 : Int32) (w35xm0 : (Nat → Int32)) (w35xm1 : (Nat → Int32)) (w35xm2 : (Nat → Int32)) => (((w35xm2 (0 : Int32).toNatClampNeg) = 1000000000 → (((w35xm2 (0 : Int32).toNatClampNeg) = 1000000000 → True) ∧ (¬ (w35xm2 (0 : Int32).toNatClampNeg) = 1000000000 → True))) ∧ (¬ (w35xm2 (0 : Int32).toNatClampNeg) = 1000000000 → ((b_ = (-1) → (((w35xm2 (0 : Int32).toNatClampNeg) = 1000000000 → True) ∧ (¬ (w35xm2 (0 : Int32).toNatClampNeg) = 1000000000 → True))) ∧ (¬ b_ = (-1) → (S_m_who_262 b_ (fun (w262xl5 : Int32) (w262xl4 : Int32) (w262xl3 : Int32) (w262xm0 : (Nat → Int32)) (w262xm1 : (Nat → Int32)) (w262xm2 : (Nat → Int32)) => True) 10 0 (-1) 0 w35xm0 w35xm1 w35xm2)))))) 10 (m_ + 1) o_77 o_78 f36)))))))))))
def rm_m_who : Room := { frames := 5, cells := 0, slots := 0, locals := 123 }
set_option maxHeartbeats 4000000 in
set_option maxRecDepth 100000 in
theorem m_who {l : Launch} {D : va_G} {cI cZ : ClassId} {sz : Nat} (Rf : Nat → Nat) (h : Nat) (G : Nat → Int32) (f0 : Nat → Int32) (f10 : Nat → Int32) (f8 : Nat → Int32) (f37 : Nat → Int32) (f36 : Nat → Int32) (m_ : Int32) (b_ : Int32) (hF : S_m_who G f0 f10 f8 f37 f36 m_ b_) : KI l yX10_who cX10_who 9 (some .int) rm_m_who D cI cZ [.ref h, .int m_, .int b_] sz [(h, .inr (10, ML G Rf)), ((Rf 0), .inl (cI, 1302, .inl f0)), ((Rf 10), .inl (cI, 30, .inl f10)), ((Rf 8), .inl (cI, 6, .inl f8)), ((Rf 37), .inl (cI, 36, .inl f37)), ((Rf 36), .inl (cI, 448, .inl f36))] (fun (r : Int32) (u : (Nat → Int32) × (Nat → Int32) × (Nat → Int32)) => (r, u) = f_m_who G f0 f10 f8 f37 f36 m_ b_) (fun (u : (Nat → Int32) × (Nat → Int32) × (Nat → Int32)) => [(h, .inr (10, ML u.1 Rf)), ((Rf 0), .inl (cI, 1302, .inl f0)), ((Rf 10), .inl (cI, 30, .inl f10)), ((Rf 8), .inl (cI, 6, .inl f8)), ((Rf 37), .inl (cI, 36, .inl u.2.1)), ((Rf 36), .inl (cI, 448, .inl u.2.2))]) := by
  refine KI.go rfl (Nat.le_of_ble_eq_true rfl) ?_
  intro p e s m args below meth c ls A Q hx hb hml hts hown hin hP hK hD hS hA hN hl hret
  have hl : lv_has ls 9 [(0, .ref h), (1, .int m_), (2, .int b_)] := hl
  rw [S_m_who] at hF
  obtain ⟨RES, hE⟩ : ∃ xRES, f_m_who G f0 f10 f8 f37 f36 m_ b_ = xRES := ⟨_, rfl⟩
  rw [hE] at hret
  rw [f_m_who] at hE
  refine lv_aload_n hx hb dX10_who_0 rfl (lv_at hl 0 rfl) ?_
  refine lv_iload_n hx hb dX10_who_1 rfl (lv_at hl 1 rfl) ?_
  obtain ⟨hs_1, hF⟩ := hF
  refine cVi (wr := [((Rf 0), .inl (cI, 1302, .inl f0)), ((Rf 10), .inl (cI, 30, .inl f10)), ((Rf 8), .inl (cI, 6, .inl f8)), ((Rf 37), .inl (cI, 36, .inl f37)), ((Rf 36), .inl (cI, 448, .inl f36))]) (rest := []) (m_isBridge Rf h G m_ hs_1) okV_X10_isBridge wd_571 hx hb hml hown hts hK hP hD hS hA hN hl.1 [0] [1, 2, 3, 4, 5] rfl rfl rfl rfl (by decide) rfl rfl rfl (Nat.le_of_ble_eq_true rfl) (Nat.le_of_ble_eq_true rfl) (Nat.le_of_ble_eq_true rfl) (Nat.le_of_ble_eq_true rfl) (Nat.le_of_ble_eq_true rfl) dX10_who_2 (fun r_3 u_2 H locs hw_u_2 hP hD hS => ?_)
  replace hw_u_2 : r_3 = (f_m_isBridge G m_) := hw_u_2
  rw [hw_u_2]
  clear hw_u_2
  have hP : va_P D classes [((Rf 0), .inl (cI, 1302, .inl f0)), ((Rf 10), .inl (cI, 30, .inl f10)), ((Rf 8), .inl (cI, 6, .inl f8)), ((Rf 37), .inl (cI, 36, .inl f37)), ((Rf 36), .inl (cI, 448, .inl f36)), (h, .inr (10, ML G Rf))] H := hP
  have hD : va_D A [((Rf 0), .inl (cI, 1302, .inl f0)), ((Rf 10), .inl (cI, 30, .inl f10)), ((Rf 8), .inl (cI, 6, .inl f8)), ((Rf 37), .inl (cI, 36, .inl f37)), ((Rf 36), .inl (cI, 448, .inl f36)), (h, .inr (10, ML G Rf))] := hD
  refine lv_if_eq (tgt := 24) hx hb dX10_who_5 (by decide) (fun c_4 => ?_) (fun c_4 => ?_)
  · replace hF := hF.1 c_4
    rw [if_pos c_4] at hE
    refine lv_ldc (v := (-1000000001)) hx hb hown (hts _ wd_580) dX10_who_24 ?_
    exact hret (-1000000001) (G, f37, f36) _ _ _ _ dX10_who_26 rfl hE (cutP (isC := [5, 0, 1, 2, 3, 4]) hP rfl) (cutD (isC := [5, 0, 1, 2, 3, 4]) hD rfl rfl) hS
  · replace hF := hF.2 c_4
    rw [if_neg c_4] at hE
    refine lv_iload_n hx hb dX10_who_8 rfl (lv_at hl 2 rfl) ?_
    refine lv_iconst (v := (-1)) hx hb dX10_who_9 (by decide) ?_
    refine lv_icmp_eq (tgt := 27) hx hb dX10_who_10 (by decide) (fun c_5 => ?_) (fun c_5 => ?_)
    · replace hF := hF.1 c_5
      rw [if_pos c_5] at hE
      refine lv_aload_n hx hb dX10_who_27 rfl (lv_at hl 0 rfl) ?_
      obtain ⟨hs_6, hF⟩ := hF
      refine cVv (wr := [((Rf 36), .inl (cI, 448, .inl f36))]) (rest := []) (m_layCosts Rf h G f0 f10 f8 f37 hs_6) okV_X10_layCosts wd_689 hx hb hml hown hts hK hP hD hS hA hN hl.1 [5, 0, 1, 2, 3] [4] rfl rfl rfl rfl (by decide) rfl rfl rfl (Nat.le_of_ble_eq_true rfl) (Nat.le_of_ble_eq_true rfl) (Nat.le_of_ble_eq_true rfl) (Nat.le_of_ble_eq_true rfl) (Nat.le_of_ble_eq_true rfl) dX10_who_28 (fun u_7 H locs hw_u_7 hP hD hS => ?_)
      obtain ⟨o_9, o_10⟩ := u_7
      replace hw_u_7 : (o_9, o_10) = (f_m_layCosts G f0 f10 f8 f37) := hw_u_7
      replace hF := hF o_9 o_10 hw_u_7
      rw [← hw_u_7] at hE
      replace hE : ((match ((f_m_who_35 m_ 10 (m_ + 1) o_9 o_10 f36) : Int32 × (Nat → Int32) × (Nat → Int32) × (Nat → Int32)) with | (w35xl3, w35xm0, w35xm1, w35xm2) => (if (w35xm2 (0 : Int32).toNatClampNeg) = 1000000000 then (if (w35xm2 (0 : Int32).toNatClampNeg) = 1000000000 then ((-1), w35xm0, w35xm1, w35xm2) else ((w35xm2 (0 : Int32).toNatClampNeg), w35xm0, w35xm1, w35xm2)) else (if b_ = (-1) then (if (w35xm2 (0 : Int32).toNatClampNeg) = 1000000000 then ((-1), w35xm0, w35xm1, w35xm2) else ((w35xm2 (0 : Int32).toNatClampNeg), w35xm0, w35xm1, w35xm2)) else (match ((f_m_who_262 b_ 10 0 (-1) 0 w35xm0 w35xm1 w35xm2) : Int32 × Int32 × Int32 × (Nat → Int32) × (Nat → Int32) × (Nat → Int32)) with | (w262xl5, w262xl4, w262xl3, w262xm0, w262xm1, w262xm2) => (w262xl4, w262xm0, w262xm1, w262xm2))))) : Int32 × (Nat → Int32) × (Nat → Int32) × (Nat → Int32)) = RES := hE
      have hP : va_P D classes [((Rf 36), .inl (cI, 448, .inl f36)), (h, .inr (10, ML o_9 Rf)), ((Rf 0), .inl (cI, 1302, .inl f0)), ((Rf 10), .inl (cI, 30, .inl f10)), ((Rf 8), .inl (cI, 6, .inl f8)), ((Rf 37), .inl (cI, 36, .inl o_10))] H := hP
      have hD : va_D A [((Rf 36), .inl (cI, 448, .inl f36)), (h, .inr (10, ML o_9 Rf)), ((Rf 0), .inl (cI, 1302, .inl f0)), ((Rf 10), .inl (cI, 30, .inl f10)), ((Rf 8), .inl (cI, 6, .inl f8)), ((Rf 37), .inl (cI, 36, .inl o_10))] := hD
      refine lv_iload_n hx hb dX10_who_31 rfl (lv_at hl 1 rfl) ?_
      refine lv_iconst (v := 1) hx hb dX10_who_32 (by decide) ?_
      refine lv_iadd hx hb dX10_who_33 ?_
      refine lv_istore_n (lv' := [(3, .int (m_ + 1)), (0, .ref h), (1, .int m_), (2, .int b_)]) hx hb dX10_who_34 rfl hl (by decide) rfl (fun ls hl => ?_)
      have ex_35_w35x : ∀ (w35xl3 : Int32) (w35xm0 : (Nat → Int32)) (w35xm1 : (Nat → Int32)) (w35xm2 : (Nat → Int32)) (H : Heap) (locs : List Loc) (ls : Array Slot), va_P D classes [((Rf 36), .inl (cI, 448, .inl w35xm2)), (h, .inr (10, ML w35xm0 Rf)), ((Rf 0), .inl (cI, 1302, .inl f0)), ((Rf 10), .inl (cI, 30, .inl f10)), ((Rf 8), .inl (cI, 6, .inl f8)), ((Rf 37), .inl (cI, 36, .inl w35xm1))] H → va_D A [((Rf 36), .inl (cI, 448, .inl w35xm2)), (h, .inr (10, ML w35xm0 Rf)), ((Rf 0), .inl (cI, 1302, .inl f0)), ((Rf 10), .inl (cI, 30, .inl f10)), ((Rf 8), .inl (cI, 6, .inl f8)), ((Rf 37), .inl (cI, 36, .inl w35xm1))] → va_S A s.heap H locs → lv_has ls 9 [(3, .int w35xl3), (0, .ref h), (1, .int m_), (2, .int b_)] → ((((w35xm2 (0 : Int32).toNatClampNeg) = 1000000000 → (((w35xm2 (0 : Int32).toNatClampNeg) = 1000000000 → True) ∧ (¬ (w35xm2 (0 : Int32).toNatClampNeg) = 1000000000 → True))) ∧ (¬ (w35xm2 (0 : Int32).toNatClampNeg) = 1000000000 → ((b_ = (-1) → (((w35xm2 (0 : Int32).toNatClampNeg) = 1000000000 → True) ∧ (¬ (w35xm2 (0 : Int32).toNatClampNeg) = 1000000000 → True))) ∧ (¬ b_ = (-1) → (S_m_who_262 b_ (fun (w262xl5 : Int32) (w262xl4 : Int32) (w262xl3 : Int32) (w262xm0 : (Nat → Int32)) (w262xm1 : (Nat → Int32)) (w262xm2 : (Nat → Int32)) => True) 10 0 (-1) 0 w35xm0 w35xm1 w35xm2)))))) → (((if (w35xm2 (0 : Int32).toNatClampNeg) = 1000000000 then (if (w35xm2 (0 : Int32).toNatClampNeg) = 1000000000 then ((-1), w35xm0, w35xm1, w35xm2) else ((w35xm2 (0 : Int32).toNatClampNeg), w35xm0, w35xm1, w35xm2)) else (if b_ = (-1) then (if (w35xm2 (0 : Int32).toNatClampNeg) = 1000000000 then ((-1), w35xm0, w35xm1, w35xm2) else ((w35xm2 (0 : Int32).toNatClampNeg), w35xm0, w35xm1, w35xm2)) else (match ((f_m_who_262 b_ 10 0 (-1) 0 w35xm0 w35xm1 w35xm2) : Int32 × Int32 × Int32 × (Nat → Int32) × (Nat → Int32) × (Nat → Int32)) with | (w262xl5, w262xl4, w262xl3, w262xm0, w262xm1, w262xm2) => (w262xl4, w262xm0, w262xm1, w262xm2))))) : Int32 × (Nat → Int32) × (Nat → Int32) × (Nat → Int32)) = RES → W p l e rm_m_who s m args below meth c H locs 0 0 Q (F0 m 214 ls []) := by
        intro w35xl3 w35xm0 w35xm1 w35xm2 H locs ls hP hD hS hl hF hE
        refine lv_aload_n hx hb dX10_who_214 rfl (lv_at hl 1 rfl) ?_
        refine va_get (D := D) (ci := 10) (v := .ref (Rf 36)) (C := RX10) (T := TX10) (N := 45) hx hb hts iX10 hown hK hP 1 rfl rfl 36 (by decide) (hts _ wd_693) (fun _ h9 => h9) rfl dX10_who_215 ?_
        refine lv_iconst (v := 0) hx hb dX10_who_218 (by decide) ?_
        refine va_iald hx hb hK hP 0 0 rfl rfl (show ¬ ((0 : Int32) < 0 ∨ 448 ≤ (0 : Int32).toNatClampNeg) by decide +kernel) dX10_who_219 ?_
        refine lv_ldcw (v := 1000000000) hx hb hown (hts _ wd_651) dX10_who_220 ?_
        refine lv_icmp_eq (tgt := 231) hx hb dX10_who_223 (by decide) (fun c_11 => ?_) (fun c_11 => ?_)
        · replace hF := hF.1 c_11
          rw [if_pos c_11] at hE
          refine lv_aload_n hx hb dX10_who_231 rfl (lv_at hl 1 rfl) ?_
          refine va_get (D := D) (ci := 10) (v := .ref (Rf 36)) (C := RX10) (T := TX10) (N := 45) hx hb hts iX10 hown hK hP 1 rfl rfl 36 (by decide) (hts _ wd_693) (fun _ h9 => h9) rfl dX10_who_232 ?_
          refine lv_iconst (v := 0) hx hb dX10_who_235 (by decide) ?_
          refine va_iald hx hb hK hP 0 0 rfl rfl (show ¬ ((0 : Int32) < 0 ∨ 448 ≤ (0 : Int32).toNatClampNeg) by decide +kernel) dX10_who_236 ?_
          refine lv_ldcw (v := 1000000000) hx hb hown (hts _ wd_651) dX10_who_237 ?_
          refine lv_icmp_ne (tgt := 247) hx hb dX10_who_240 (by decide) (fun c_12 => ?_) (fun c_12 => ?_)
          · replace hF := hF.2 c_12
            rw [if_neg c_12] at hE
            refine lv_aload_n hx hb dX10_who_247 rfl (lv_at hl 1 rfl) ?_
            refine va_get (D := D) (ci := 10) (v := .ref (Rf 36)) (C := RX10) (T := TX10) (N := 45) hx hb hts iX10 hown hK hP 1 rfl rfl 36 (by decide) (hts _ wd_693) (fun _ h9 => h9) rfl dX10_who_248 ?_
            refine lv_iconst (v := 0) hx hb dX10_who_251 (by decide) ?_
            refine va_iald hx hb hK hP 0 0 rfl rfl (show ¬ ((0 : Int32) < 0 ∨ 448 ≤ (0 : Int32).toNatClampNeg) by decide +kernel) dX10_who_252 ?_
            exact hret (w35xm2 (0 : Int32).toNatClampNeg) (w35xm0, w35xm1, w35xm2) _ _ _ _ dX10_who_253 rfl hE (cutP (isC := [1, 2, 3, 4, 5, 0]) hP rfl) (cutD (isC := [1, 2, 3, 4, 5, 0]) hD rfl rfl) hS
          · replace hF := hF.1 c_12
            rw [if_pos c_12] at hE
            refine lv_iconst (v := (-1)) hx hb dX10_who_243 (by decide) ?_
            refine lv_goto (tgt := 253) hx hb dX10_who_244 (by decide) ?_
            exact hret (-1) (w35xm0, w35xm1, w35xm2) _ _ _ _ dX10_who_253 rfl hE (cutP (isC := [1, 2, 3, 4, 5, 0]) hP rfl) (cutD (isC := [1, 2, 3, 4, 5, 0]) hD rfl rfl) hS
        · replace hF := hF.2 c_11
          rw [if_neg c_11] at hE
          refine lv_iload_n hx hb dX10_who_226 rfl (lv_at hl 3 rfl) ?_
          refine lv_iconst (v := (-1)) hx hb dX10_who_227 (by decide) ?_
          refine lv_icmp_ne (tgt := 254) hx hb dX10_who_228 (by decide) (fun c_13 => ?_) (fun c_13 => ?_)
          · replace hF := hF.2 c_13
            rw [if_neg c_13] at hE
            refine lv_iconst (v := 0) hx hb dX10_who_254 (by decide) ?_
            refine lv_istore_n (lv' := [(3, .int 0), (0, .ref h), (1, .int m_), (2, .int b_)]) hx hb dX10_who_255 rfl hl (by decide) rfl (fun ls hl => ?_)
            refine lv_iconst (v := (-1)) hx hb dX10_who_256 (by decide) ?_
            refine lv_istore (lv' := [(4, .int (-1)), (3, .int 0), (0, .ref h), (1, .int m_), (2, .int b_)]) hx hb dX10_who_257 hl (by decide) rfl (fun ls hl => ?_)
            refine lv_iconst (v := 0) hx hb dX10_who_259 (by decide) ?_
            refine lv_istore (lv' := [(5, .int 0), (4, .int (-1)), (3, .int 0), (0, .ref h), (1, .int m_), (2, .int b_)]) hx hb dX10_who_260 hl (by decide) rfl (fun ls hl => ?_)
            have ex_262_w262x : ∀ (w262xl5 : Int32) (w262xl4 : Int32) (w262xl3 : Int32) (w262xm0 : (Nat → Int32)) (w262xm1 : (Nat → Int32)) (w262xm2 : (Nat → Int32)) (H : Heap) (locs : List Loc) (ls : Array Slot), va_P D classes [((Rf 36), .inl (cI, 448, .inl w262xm2)), (h, .inr (10, ML w262xm0 Rf)), ((Rf 0), .inl (cI, 1302, .inl f0)), ((Rf 10), .inl (cI, 30, .inl f10)), ((Rf 8), .inl (cI, 6, .inl f8)), ((Rf 37), .inl (cI, 36, .inl w262xm1))] H → va_D A [((Rf 36), .inl (cI, 448, .inl w262xm2)), (h, .inr (10, ML w262xm0 Rf)), ((Rf 0), .inl (cI, 1302, .inl f0)), ((Rf 10), .inl (cI, 30, .inl f10)), ((Rf 8), .inl (cI, 6, .inl f8)), ((Rf 37), .inl (cI, 36, .inl w262xm1))] → va_S A s.heap H locs → lv_has ls 9 [(5, .int w262xl5), (4, .int w262xl4), (3, .int w262xl3), (0, .ref h), (1, .int m_), (2, .int b_)] → (True) → (((w262xl4, w262xm0, w262xm1, w262xm2)) : Int32 × (Nat → Int32) × (Nat → Int32) × (Nat → Int32)) = RES → W p l e rm_m_who s m args below meth c H locs 0 0 Q (F0 m 425 ls []) := by
              intro w262xl5 w262xl4 w262xl3 w262xm0 w262xm1 w262xm2 H locs ls hP hD hS hl hF hE
              refine lv_iload hx hb dX10_who_425 (lv_at hl 1 rfl) ?_
              exact hret w262xl4 (w262xm0, w262xm1, w262xm2) _ _ _ _ dX10_who_427 rfl hE (cutP (isC := [1, 2, 3, 4, 5, 0]) hP rfl) (cutD (isC := [1, 2, 3, 4, 5, 0]) hD rfl rfl) hS
            have lp_262_w262x : ∀ (n_w262x : Nat) (w262xl5 : Int32) (w262xl4 : Int32) (w262xl3 : Int32) (w262xm0 : (Nat → Int32)) (w262xm1 : (Nat → Int32)) (w262xm2 : (Nat → Int32)) (H : Heap) (locs : List Loc) (ls : Array Slot), va_P D classes [((Rf 36), .inl (cI, 448, .inl w262xm2)), (h, .inr (10, ML w262xm0 Rf)), ((Rf 0), .inl (cI, 1302, .inl f0)), ((Rf 10), .inl (cI, 30, .inl f10)), ((Rf 8), .inl (cI, 6, .inl f8)), ((Rf 37), .inl (cI, 36, .inl w262xm1))] H → va_D A [((Rf 36), .inl (cI, 448, .inl w262xm2)), (h, .inr (10, ML w262xm0 Rf)), ((Rf 0), .inl (cI, 1302, .inl f0)), ((Rf 10), .inl (cI, 30, .inl f10)), ((Rf 8), .inl (cI, 6, .inl f8)), ((Rf 37), .inl (cI, 36, .inl w262xm1))] → va_S A s.heap H locs → lv_has ls 9 [(5, .int w262xl5), (4, .int w262xl4), (3, .int w262xl3), (0, .ref h), (1, .int m_), (2, .int b_)] → (S_m_who_262 b_ (fun (w262xl5 : Int32) (w262xl4 : Int32) (w262xl3 : Int32) (w262xm0 : (Nat → Int32)) (w262xm1 : (Nat → Int32)) (w262xm2 : (Nat → Int32)) => True) n_w262x w262xl5 w262xl4 w262xl3 w262xm0 w262xm1 w262xm2) → ((match ((f_m_who_262 b_ n_w262x w262xl5 w262xl4 w262xl3 w262xm0 w262xm1 w262xm2) : Int32 × Int32 × Int32 × (Nat → Int32) × (Nat → Int32) × (Nat → Int32)) with | (w262xl5, w262xl4, w262xl3, w262xm0, w262xm1, w262xm2) => (w262xl4, w262xm0, w262xm1, w262xm2)) : Int32 × (Nat → Int32) × (Nat → Int32) × (Nat → Int32)) = RES → W p l e rm_m_who s m args below meth c H locs 0 0 Q (F0 m 262 ls []) := by
              intro n_w262x
              induction n_w262x with
              | zero => intro w262xl5 w262xl4 w262xl3 w262xm0 w262xm1 w262xm2 H locs ls hP hD hS hl hF hE; exact False.elim hF
              | succ n_w262x ih_w262x =>
                intro w262xl5 w262xl4 w262xl3 w262xm0 w262xm1 w262xm2 H locs ls hP hD hS hl hF hE
                rw [S_m_who_262_s] at hF
                rw [f_m_who_262_s] at hE
                refine lv_iload hx hb dX10_who_262 (lv_at hl 0 rfl) ?_
                refine lv_iload_n hx hb dX10_who_264 rfl (lv_at hl 5 rfl) ?_
                refine lv_icmp_gt (tgt := 425) hx hb dX10_who_265 (by decide) (fun c_14 => ?_) (fun c_14 => ?_)
                · replace hF := hF.1 c_14
                  rw [if_pos c_14] at hE
                  exact ex_262_w262x w262xl5 w262xl4 w262xl3 w262xm0 w262xm1 w262xm2 _ _ ls hP hD hS (lv_sub hl [0, 1, 2, 3, 4, 5] rfl) hF hE
                · replace hF := hF.2 c_14
                  rw [if_neg c_14] at hE
                  refine lv_iconst (v := (-1)) hx hb dX10_who_268 (by decide) ?_
                  refine lv_istore (lv' := [(4, .int (-1)), (5, .int w262xl5), (3, .int w262xl3), (0, .ref h), (1, .int m_), (2, .int b_)]) hx hb dX10_who_269 hl (by decide) rfl (fun ls hl => ?_)
                  refine lv_aload_n hx hb dX10_who_271 rfl (lv_at hl 3 rfl) ?_
                  refine va_get (D := D) (ci := 10) (v := .int (w262xm0 5)) (C := RX10) (T := TX10) (N := 45) hx hb hts iX10 hown hK hP 1 rfl rfl 5 (by decide) (hts _ wd_499) (fun _ h9 => h9) rfl dX10_who_272 ?_
                  refine lv_iconst (v := 1) hx hb dX10_who_275 (by decide) ?_
                  refine lv_isub hx hb dX10_who_276 ?_
                  refine lv_istore (lv' := [(6, .int ((w262xm0 5) - 1)), (4, .int (-1)), (5, .int w262xl5), (3, .int w262xl3), (0, .ref h), (1, .int m_), (2, .int b_)]) hx hb dX10_who_277 hl (by decide) rfl (fun ls hl => ?_)
                  have ex_279_w279x : ∀ (w279xl6 : Int32) (w279xl4 : Int32) (w279xm0 : (Nat → Int32)) (w279xm1 : (Nat → Int32)) (w279xm2 : (Nat → Int32)) (H : Heap) (locs : List Loc) (ls : Array Slot), va_P D classes [((Rf 36), .inl (cI, 448, .inl w279xm2)), (h, .inr (10, ML w279xm0 Rf)), ((Rf 0), .inl (cI, 1302, .inl f0)), ((Rf 10), .inl (cI, 30, .inl f10)), ((Rf 8), .inl (cI, 6, .inl f8)), ((Rf 37), .inl (cI, 36, .inl w279xm1))] H → va_D A [((Rf 36), .inl (cI, 448, .inl w279xm2)), (h, .inr (10, ML w279xm0 Rf)), ((Rf 0), .inl (cI, 1302, .inl f0)), ((Rf 10), .inl (cI, 30, .inl f10)), ((Rf 8), .inl (cI, 6, .inl f8)), ((Rf 37), .inl (cI, 36, .inl w279xm1))] → va_S A s.heap H locs → lv_has ls 9 [(6, .int w279xl6), (4, .int w279xl4), (5, .int w262xl5), (3, .int w262xl3), (0, .ref h), (1, .int m_), (2, .int b_)] → ((S_m_who_262 b_ (fun (w262xl5 : Int32) (w262xl4 : Int32) (w262xl3 : Int32) (w262xm0 : (Nat → Int32)) (w262xm1 : (Nat → Int32)) (w262xm2 : (Nat → Int32)) => True) n_w262x (w262xl5 + 1) w279xl4 (w262xl3 ||| ((1 : Int32) <<< (w279xl4 &&& 31))) w279xm0 w279xm1 w279xm2)) → (((match ((f_m_who_262 b_ n_w262x (w262xl5 + 1) w279xl4 (w262xl3 ||| ((1 : Int32) <<< (w279xl4 &&& 31))) w279xm0 w279xm1 w279xm2) : Int32 × Int32 × Int32 × (Nat → Int32) × (Nat → Int32) × (Nat → Int32)) with | (w262xl5, w262xl4, w262xl3, w262xm0, w262xm1, w262xm2) => (w262xl4, w262xm0, w262xm1, w262xm2))) : Int32 × (Nat → Int32) × (Nat → Int32) × (Nat → Int32)) = RES → W p l e rm_m_who s m args below meth c H locs 0 0 Q (F0 m 412 ls []) := by
                    intro w279xl6 w279xl4 w279xm0 w279xm1 w279xm2 H locs ls hP hD hS hl hF hE
                    refine lv_iload_n hx hb dX10_who_412 rfl (lv_at hl 3 rfl) ?_
                    refine lv_iconst (v := 1) hx hb dX10_who_413 (by decide) ?_
                    refine lv_iload hx hb dX10_who_414 (lv_at hl 1 rfl) ?_
                    refine lv_ishl hx hb dX10_who_416 ?_
                    refine lv_ior hx hb dX10_who_417 ?_
                    refine lv_istore_n (lv' := [(3, .int (w262xl3 ||| ((1 : Int32) <<< (w279xl4 &&& 31)))), (6, .int w279xl6), (4, .int w279xl4), (5, .int w262xl5), (0, .ref h), (1, .int m_), (2, .int b_)]) hx hb dX10_who_418 rfl hl (by decide) rfl (fun ls hl => ?_)
                    refine lv_iinc (v := (w262xl5 + 1)) (lv' := [(5, .int (w262xl5 + 1)), (3, .int (w262xl3 ||| ((1 : Int32) <<< (w279xl4 &&& 31)))), (6, .int w279xl6), (4, .int w279xl4), (0, .ref h), (1, .int m_), (2, .int b_)]) hx hb dX10_who_419 hl (k := 3) rfl rfl (by decide) rfl (fun ls hl => ?_)
                    refine lv_goto (tgt := 262) hx hb dX10_who_422 (by decide) ?_
                    exact ih_w262x (w262xl5 + 1) w279xl4 (w262xl3 ||| ((1 : Int32) <<< (w279xl4 &&& 31))) w279xm0 w279xm1 w279xm2 _ _ ls hP hD hS (lv_sub hl [0, 3, 1, 4, 5, 6] rfl) hF hE
                  have lp_279_w279x : ∀ (n_w279x : Nat) (w279xl6 : Int32) (w279xl4 : Int32) (w279xm0 : (Nat → Int32)) (w279xm1 : (Nat → Int32)) (w279xm2 : (Nat → Int32)) (H : Heap) (locs : List Loc) (ls : Array Slot), va_P D classes [((Rf 36), .inl (cI, 448, .inl w279xm2)), (h, .inr (10, ML w279xm0 Rf)), ((Rf 0), .inl (cI, 1302, .inl f0)), ((Rf 10), .inl (cI, 30, .inl f10)), ((Rf 8), .inl (cI, 6, .inl f8)), ((Rf 37), .inl (cI, 36, .inl w279xm1))] H → va_D A [((Rf 36), .inl (cI, 448, .inl w279xm2)), (h, .inr (10, ML w279xm0 Rf)), ((Rf 0), .inl (cI, 1302, .inl f0)), ((Rf 10), .inl (cI, 30, .inl f10)), ((Rf 8), .inl (cI, 6, .inl f8)), ((Rf 37), .inl (cI, 36, .inl w279xm1))] → va_S A s.heap H locs → lv_has ls 9 [(6, .int w279xl6), (4, .int w279xl4), (5, .int w262xl5), (3, .int w262xl3), (0, .ref h), (1, .int m_), (2, .int b_)] → (S_m_who_279 w262xl5 w262xl3 (fun (w279xl6 : Int32) (w279xl4 : Int32) (w279xm0 : (Nat → Int32)) (w279xm1 : (Nat → Int32)) (w279xm2 : (Nat → Int32)) => (S_m_who_262 b_ (fun (w262xl5 : Int32) (w262xl4 : Int32) (w262xl3 : Int32) (w262xm0 : (Nat → Int32)) (w262xm1 : (Nat → Int32)) (w262xm2 : (Nat → Int32)) => True) n_w262x (w262xl5 + 1) w279xl4 (w262xl3 ||| ((1 : Int32) <<< (w279xl4 &&& 31))) w279xm0 w279xm1 w279xm2)) n_w279x w279xl6 w279xl4 w279xm0 w279xm1 w279xm2) → ((match ((match ((f_m_who_279 w262xl5 w262xl3 n_w279x w279xl6 w279xl4 w279xm0 w279xm1 w279xm2) : Int32 × Int32 × (Nat → Int32) × (Nat → Int32) × (Nat → Int32)) with | (w279xl6, w279xl4, w279xm0, w279xm1, w279xm2) => (f_m_who_262 b_ n_w262x (w262xl5 + 1) w279xl4 (w262xl3 ||| ((1 : Int32) <<< (w279xl4 &&& 31))) w279xm0 w279xm1 w279xm2)) : Int32 × Int32 × Int32 × (Nat → Int32) × (Nat → Int32) × (Nat → Int32)) with | (w262xl5, w262xl4, w262xl3, w262xm0, w262xm1, w262xm2) => (w262xl4, w262xm0, w262xm1, w262xm2)) : Int32 × (Nat → Int32) × (Nat → Int32) × (Nat → Int32)) = RES → W p l e rm_m_who s m args below meth c H locs 0 0 Q (F0 m 279 ls []) := by
                    intro n_w279x
                    induction n_w279x with
                    | zero => intro w279xl6 w279xl4 w279xm0 w279xm1 w279xm2 H locs ls hP hD hS hl hF hE; exact False.elim hF
                    | succ n_w279x ih_w279x =>
                      intro w279xl6 w279xl4 w279xm0 w279xm1 w279xm2 H locs ls hP hD hS hl hF hE
                      rw [S_m_who_279_s] at hF
                      rw [f_m_who_279_s] at hE
                      refine lv_iload hx hb dX10_who_279 (lv_at hl 0 rfl) ?_
                      refine lv_if_lt (tgt := 412) hx hb dX10_who_281 (by decide) (fun c_15 => ?_) (fun c_15 => ?_)
                      · replace hF := hF.1 c_15
                        rw [if_pos c_15] at hE
                        exact ex_279_w279x w279xl6 w279xl4 w279xm0 w279xm1 w279xm2 _ _ ls hP hD hS (lv_sub hl [0, 1, 2, 3, 4, 5, 6] rfl) hF hE
                      · replace hF := hF.2 c_15
                        rw [if_neg c_15] at hE
                        refine lv_iload_n hx hb dX10_who_284 rfl (lv_at hl 3 rfl) ?_
                        refine lv_iload hx hb dX10_who_285 (lv_at hl 0 rfl) ?_
                        obtain ⟨hs_16, hF⟩ := hF
                        refine cSi (wr := [((Rf 36), .inl (cI, 448, .inl w279xm2)), (h, .inr (10, ML w279xm0 Rf)), ((Rf 0), .inl (cI, 1302, .inl f0)), ((Rf 10), .inl (cI, 30, .inl f10)), ((Rf 8), .inl (cI, 6, .inl f8)), ((Rf 37), .inl (cI, 36, .inl w279xm1))]) (rest := []) (m_has w262xl3 w279xl6 hs_16) okS_X10_has wd_502 hx hb hml hown hts hK hP hD hS hA hN hl.1 [] [0, 1, 2, 3, 4, 5] rfl rfl rfl rfl (by decide) rfl (Nat.le_of_ble_eq_true rfl) (Nat.le_of_ble_eq_true rfl) (Nat.le_of_ble_eq_true rfl) (Nat.le_of_ble_eq_true rfl) (Nat.le_of_ble_eq_true rfl) dX10_who_287 (fun r_18 u_17 H locs hw_u_17 hP hD hS => ?_)
                        replace hw_u_17 : r_18 = (f_m_has w262xl3 w279xl6) := hw_u_17
                        rw [hw_u_17]
                        clear hw_u_17
                        have hP : va_P D classes [((Rf 36), .inl (cI, 448, .inl w279xm2)), (h, .inr (10, ML w279xm0 Rf)), ((Rf 0), .inl (cI, 1302, .inl f0)), ((Rf 10), .inl (cI, 30, .inl f10)), ((Rf 8), .inl (cI, 6, .inl f8)), ((Rf 37), .inl (cI, 36, .inl w279xm1))] H := hP
                        have hD : va_D A [((Rf 36), .inl (cI, 448, .inl w279xm2)), (h, .inr (10, ML w279xm0 Rf)), ((Rf 0), .inl (cI, 1302, .inl f0)), ((Rf 10), .inl (cI, 30, .inl f10)), ((Rf 8), .inl (cI, 6, .inl f8)), ((Rf 37), .inl (cI, 36, .inl w279xm1))] := hD
                        refine lv_if_ne (tgt := 341) hx hb dX10_who_290 (by decide) (fun c_19 => ?_) (fun c_19 => ?_)
                        · replace hF := hF.2 c_19
                          rw [if_neg c_19] at hE
                          refine lv_iconst (v := 0) hx hb dX10_who_341 (by decide) ?_
                          refine lv_istore (lv' := [(7, .int 0), (6, .int w279xl6), (4, .int w279xl4), (5, .int w262xl5), (3, .int w262xl3), (0, .ref h), (1, .int m_), (2, .int b_)]) hx hb dX10_who_342 hl (by decide) rfl (fun ls hl => ?_)
                          refine lv_iload hx hb dX10_who_344 (lv_at hl 0 rfl) ?_
                          refine lv_if_eq (tgt := 402) hx hb dX10_who_346 (by decide) (fun c_20 => ?_) (fun c_20 => absurd (by decide +kernel) c_20)
                          refine lv_iload hx hb dX10_who_402 (lv_at hl 2 rfl) ?_
                          refine lv_istore (lv' := [(4, .int w279xl4), (7, .int 0), (6, .int w279xl6), (5, .int w262xl5), (3, .int w262xl3), (0, .ref h), (1, .int m_), (2, .int b_)]) hx hb dX10_who_404 hl (by decide) rfl (fun ls hl => ?_)
                          refine lv_iinc (v := (w279xl6 + (-1))) (lv' := [(6, .int (w279xl6 + (-1))), (4, .int w279xl4), (7, .int 0), (5, .int w262xl5), (3, .int w262xl3), (0, .ref h), (1, .int m_), (2, .int b_)]) hx hb dX10_who_406 hl (k := 2) rfl rfl (by decide) rfl (fun ls hl => ?_)
                          refine lv_goto (tgt := 279) hx hb dX10_who_409 (by decide) ?_
                          exact ih_w279x (w279xl6 + (-1)) w279xl4 w279xm0 w279xm1 w279xm2 _ _ ls hP hD hS (lv_sub hl [0, 1, 3, 4, 5, 6, 7] rfl) hF hE
                        · replace hF := hF.1 c_19
                          rw [if_pos c_19] at hE
                          refine lv_aload_n hx hb dX10_who_293 rfl (lv_at hl 4 rfl) ?_
                          refine va_get (D := D) (ci := 10) (v := .ref (Rf 37)) (C := RX10) (T := TX10) (N := 45) hx hb hts iX10 hown hK hP 1 rfl rfl 37 (by decide) (hts _ wd_672) (fun _ h9 => h9) rfl dX10_who_294 ?_
                          refine lv_bipush (v := 6) hx hb dX10_who_297 (by decide) ?_
                          refine lv_iload hx hb dX10_who_299 (lv_at hl 2 rfl) ?_
                          refine lv_imul hx hb dX10_who_301 ?_
                          refine lv_iload hx hb dX10_who_302 (lv_at hl 0 rfl) ?_
                          refine lv_iadd hx hb dX10_who_304 ?_
                          obtain ⟨hv_21, hF⟩ := hF
                          refine va_iald hx hb hK hP 5 0 rfl rfl hv_21 dX10_who_305 ?_
                          refine lv_ldcw (v := 1000000000) hx hb hown (hts _ wd_651) dX10_who_306 ?_
                          refine lv_icmp_eq (tgt := 341) hx hb dX10_who_309 (by decide) (fun c_22 => ?_) (fun c_22 => ?_)
                          · replace hF := hF.1 c_22
                            rw [if_pos c_22] at hE
                            refine lv_iconst (v := 0) hx hb dX10_who_341 (by decide) ?_
                            refine lv_istore (lv' := [(7, .int 0), (6, .int w279xl6), (4, .int w279xl4), (5, .int w262xl5), (3, .int w262xl3), (0, .ref h), (1, .int m_), (2, .int b_)]) hx hb dX10_who_342 hl (by decide) rfl (fun ls hl => ?_)
                            refine lv_iload hx hb dX10_who_344 (lv_at hl 0 rfl) ?_
                            refine lv_if_eq (tgt := 402) hx hb dX10_who_346 (by decide) (fun c_23 => ?_) (fun c_23 => absurd (by decide +kernel) c_23)
                            refine lv_iload hx hb dX10_who_402 (lv_at hl 2 rfl) ?_
                            refine lv_istore (lv' := [(4, .int w279xl4), (7, .int 0), (6, .int w279xl6), (5, .int w262xl5), (3, .int w262xl3), (0, .ref h), (1, .int m_), (2, .int b_)]) hx hb dX10_who_404 hl (by decide) rfl (fun ls hl => ?_)
                            refine lv_iinc (v := (w279xl6 + (-1))) (lv' := [(6, .int (w279xl6 + (-1))), (4, .int w279xl4), (7, .int 0), (5, .int w262xl5), (3, .int w262xl3), (0, .ref h), (1, .int m_), (2, .int b_)]) hx hb dX10_who_406 hl (k := 2) rfl rfl (by decide) rfl (fun ls hl => ?_)
                            refine lv_goto (tgt := 279) hx hb dX10_who_409 (by decide) ?_
                            exact ih_w279x (w279xl6 + (-1)) w279xl4 w279xm0 w279xm1 w279xm2 _ _ ls hP hD hS (lv_sub hl [0, 1, 3, 4, 5, 6, 7] rfl) hF hE
                          · replace hF := hF.2 c_22
                            rw [if_neg c_22] at hE
                            refine lv_aload_n hx hb dX10_who_312 rfl (lv_at hl 4 rfl) ?_
                            refine va_get (D := D) (ci := 10) (v := .ref (Rf 36)) (C := RX10) (T := TX10) (N := 45) hx hb hts iX10 hown hK hP 1 rfl rfl 36 (by decide) (hts _ wd_693) (fun _ h9 => h9) rfl dX10_who_313 ?_
                            refine lv_bipush (v := 64) hx hb dX10_who_316 (by decide) ?_
                            refine lv_iload hx hb dX10_who_318 (lv_at hl 2 rfl) ?_
                            refine lv_iconst (v := 1) hx hb dX10_who_320 (by decide) ?_
                            refine lv_iadd hx hb dX10_who_321 ?_
                            refine lv_imul hx hb dX10_who_322 ?_
                            refine lv_iload_n hx hb dX10_who_323 rfl (lv_at hl 3 rfl) ?_
                            refine lv_iconst (v := 1) hx hb dX10_who_324 (by decide) ?_
                            refine lv_iload hx hb dX10_who_325 (lv_at hl 0 rfl) ?_
                            refine lv_ishl hx hb dX10_who_327 ?_
                            refine lv_ior hx hb dX10_who_328 ?_
                            refine lv_iadd hx hb dX10_who_329 ?_
                            obtain ⟨hv_24, hF⟩ := hF
                            refine va_iald hx hb hK hP 0 0 rfl rfl hv_24 dX10_who_330 ?_
                            refine lv_ldcw (v := 1000000000) hx hb hown (hts _ wd_651) dX10_who_331 ?_
                            refine lv_icmp_eq (tgt := 341) hx hb dX10_who_334 (by decide) (fun c_25 => ?_) (fun c_25 => ?_)
                            · replace hF := hF.1 c_25
                              rw [if_pos c_25] at hE
                              refine lv_iconst (v := 0) hx hb dX10_who_341 (by decide) ?_
                              refine lv_istore (lv' := [(7, .int 0), (6, .int w279xl6), (4, .int w279xl4), (5, .int w262xl5), (3, .int w262xl3), (0, .ref h), (1, .int m_), (2, .int b_)]) hx hb dX10_who_342 hl (by decide) rfl (fun ls hl => ?_)
                              refine lv_iload hx hb dX10_who_344 (lv_at hl 0 rfl) ?_
                              refine lv_if_eq (tgt := 402) hx hb dX10_who_346 (by decide) (fun c_26 => ?_) (fun c_26 => absurd (by decide +kernel) c_26)
                              refine lv_iload hx hb dX10_who_402 (lv_at hl 2 rfl) ?_
                              refine lv_istore (lv' := [(4, .int w279xl4), (7, .int 0), (6, .int w279xl6), (5, .int w262xl5), (3, .int w262xl3), (0, .ref h), (1, .int m_), (2, .int b_)]) hx hb dX10_who_404 hl (by decide) rfl (fun ls hl => ?_)
                              refine lv_iinc (v := (w279xl6 + (-1))) (lv' := [(6, .int (w279xl6 + (-1))), (4, .int w279xl4), (7, .int 0), (5, .int w262xl5), (3, .int w262xl3), (0, .ref h), (1, .int m_), (2, .int b_)]) hx hb dX10_who_406 hl (k := 2) rfl rfl (by decide) rfl (fun ls hl => ?_)
                              refine lv_goto (tgt := 279) hx hb dX10_who_409 (by decide) ?_
                              exact ih_w279x (w279xl6 + (-1)) w279xl4 w279xm0 w279xm1 w279xm2 _ _ ls hP hD hS (lv_sub hl [0, 1, 3, 4, 5, 6, 7] rfl) hF hE
                            · replace hF := hF.2 c_25
                              rw [if_neg c_25] at hE
                              refine lv_iconst (v := 1) hx hb dX10_who_337 (by decide) ?_
                              refine lv_goto (tgt := 342) hx hb dX10_who_338 (by decide) ?_
                              refine lv_istore (lv' := [(7, .int 1), (6, .int w279xl6), (4, .int w279xl4), (5, .int w262xl5), (3, .int w262xl3), (0, .ref h), (1, .int m_), (2, .int b_)]) hx hb dX10_who_342 hl (by decide) rfl (fun ls hl => ?_)
                              refine lv_iload hx hb dX10_who_344 (lv_at hl 0 rfl) ?_
                              refine lv_if_eq (tgt := 402) hx hb dX10_who_346 (by decide) (fun c_27 => absurd c_27 (by decide +kernel)) (fun c_27 => ?_)
                              refine lv_aload_n hx hb dX10_who_349 rfl (lv_at hl 5 rfl) ?_
                              refine va_get (D := D) (ci := 10) (v := .ref (Rf 37)) (C := RX10) (T := TX10) (N := 45) hx hb hts iX10 hown hK hP 1 rfl rfl 37 (by decide) (hts _ wd_672) (fun _ h9 => h9) rfl dX10_who_350 ?_
                              refine lv_bipush (v := 6) hx hb dX10_who_353 (by decide) ?_
                              refine lv_iload hx hb dX10_who_355 (lv_at hl 3 rfl) ?_
                              refine lv_imul hx hb dX10_who_357 ?_
                              refine lv_iload hx hb dX10_who_358 (lv_at hl 1 rfl) ?_
                              refine lv_iadd hx hb dX10_who_360 ?_
                              obtain ⟨hv_28, hF⟩ := hF
                              refine va_iald hx hb hK hP 5 0 rfl rfl hv_28 dX10_who_361 ?_
                              refine lv_aload_n hx hb dX10_who_362 rfl (lv_at hl 5 rfl) ?_
                              refine va_get (D := D) (ci := 10) (v := .ref (Rf 36)) (C := RX10) (T := TX10) (N := 45) hx hb hts iX10 hown hK hP 1 rfl rfl 36 (by decide) (hts _ wd_693) (fun _ h9 => h9) rfl dX10_who_363 ?_
                              refine lv_bipush (v := 64) hx hb dX10_who_366 (by decide) ?_
                              refine lv_iload hx hb dX10_who_368 (lv_at hl 3 rfl) ?_
                              refine lv_iconst (v := 1) hx hb dX10_who_370 (by decide) ?_
                              refine lv_iadd hx hb dX10_who_371 ?_
                              refine lv_imul hx hb dX10_who_372 ?_
                              refine lv_iload_n hx hb dX10_who_373 rfl (lv_at hl 4 rfl) ?_
                              refine lv_iconst (v := 1) hx hb dX10_who_374 (by decide) ?_
                              refine lv_iload hx hb dX10_who_375 (lv_at hl 1 rfl) ?_
                              refine lv_ishl hx hb dX10_who_377 ?_
                              refine lv_ior hx hb dX10_who_378 ?_
                              refine lv_iadd hx hb dX10_who_379 ?_
                              obtain ⟨hv_29, hF⟩ := hF
                              refine va_iald hx hb hK hP 0 0 rfl rfl hv_29 dX10_who_380 ?_
                              refine lv_iadd hx hb dX10_who_381 ?_
                              refine lv_aload_n hx hb dX10_who_382 rfl (lv_at hl 5 rfl) ?_
                              refine va_get (D := D) (ci := 10) (v := .ref (Rf 36)) (C := RX10) (T := TX10) (N := 45) hx hb hts iX10 hown hK hP 1 rfl rfl 36 (by decide) (hts _ wd_693) (fun _ h9 => h9) rfl dX10_who_383 ?_
                              refine lv_bipush (v := 64) hx hb dX10_who_386 (by decide) ?_
                              refine lv_iload hx hb dX10_who_388 (lv_at hl 3 rfl) ?_
                              refine lv_imul hx hb dX10_who_390 ?_
                              refine lv_iload_n hx hb dX10_who_391 rfl (lv_at hl 4 rfl) ?_
                              refine lv_iadd hx hb dX10_who_392 ?_
                              obtain ⟨hv_30, hF⟩ := hF
                              refine va_iald hx hb hK hP 0 0 rfl rfl hv_30 dX10_who_393 ?_
                              refine lv_icmp_ne (tgt := 402) hx hb dX10_who_394 (by decide) (fun c_31 => ?_) (fun c_31 => ?_)
                              · replace hF := hF.2 c_31
                                rw [if_neg c_31] at hE
                                refine lv_iload hx hb dX10_who_402 (lv_at hl 2 rfl) ?_
                                refine lv_istore (lv' := [(4, .int w279xl4), (7, .int 1), (6, .int w279xl6), (5, .int w262xl5), (3, .int w262xl3), (0, .ref h), (1, .int m_), (2, .int b_)]) hx hb dX10_who_404 hl (by decide) rfl (fun ls hl => ?_)
                                refine lv_iinc (v := (w279xl6 + (-1))) (lv' := [(6, .int (w279xl6 + (-1))), (4, .int w279xl4), (7, .int 1), (5, .int w262xl5), (3, .int w262xl3), (0, .ref h), (1, .int m_), (2, .int b_)]) hx hb dX10_who_406 hl (k := 2) rfl rfl (by decide) rfl (fun ls hl => ?_)
                                refine lv_goto (tgt := 279) hx hb dX10_who_409 (by decide) ?_
                                exact ih_w279x (w279xl6 + (-1)) w279xl4 w279xm0 w279xm1 w279xm2 _ _ ls hP hD hS (lv_sub hl [0, 1, 3, 4, 5, 6, 7] rfl) hF hE
                              · replace hF := hF.1 c_31
                                rw [if_pos c_31] at hE
                                refine lv_iload hx hb dX10_who_397 (lv_at hl 1 rfl) ?_
                                refine lv_goto (tgt := 404) hx hb dX10_who_399 (by decide) ?_
                                refine lv_istore (lv' := [(4, .int w279xl6), (7, .int 1), (6, .int w279xl6), (5, .int w262xl5), (3, .int w262xl3), (0, .ref h), (1, .int m_), (2, .int b_)]) hx hb dX10_who_404 hl (by decide) rfl (fun ls hl => ?_)
                                refine lv_iinc (v := (w279xl6 + (-1))) (lv' := [(6, .int (w279xl6 + (-1))), (4, .int w279xl6), (7, .int 1), (5, .int w262xl5), (3, .int w262xl3), (0, .ref h), (1, .int m_), (2, .int b_)]) hx hb dX10_who_406 hl (k := 2) rfl rfl (by decide) rfl (fun ls hl => ?_)
                                refine lv_goto (tgt := 279) hx hb dX10_who_409 (by decide) ?_
                                exact ih_w279x (w279xl6 + (-1)) w279xl6 w279xm0 w279xm1 w279xm2 _ _ ls hP hD hS (lv_sub hl [0, 1, 3, 4, 5, 6, 7] rfl) hF hE
                  exact lp_279_w279x 10 ((w262xm0 5) - 1) (-1) w262xm0 w262xm1 w262xm2 _ _ ls hP hD hS hl hF hE
            exact lp_262_w262x 10 0 (-1) 0 w35xm0 w35xm1 w35xm2 _ _ ls hP hD hS hl hF hE
          · replace hF := hF.1 c_13
            rw [if_pos c_13] at hE
            refine lv_aload_n hx hb dX10_who_231 rfl (lv_at hl 1 rfl) ?_
            refine va_get (D := D) (ci := 10) (v := .ref (Rf 36)) (C := RX10) (T := TX10) (N := 45) hx hb hts iX10 hown hK hP 1 rfl rfl 36 (by decide) (hts _ wd_693) (fun _ h9 => h9) rfl dX10_who_232 ?_
            refine lv_iconst (v := 0) hx hb dX10_who_235 (by decide) ?_
            refine va_iald hx hb hK hP 0 0 rfl rfl (show ¬ ((0 : Int32) < 0 ∨ 448 ≤ (0 : Int32).toNatClampNeg) by decide +kernel) dX10_who_236 ?_
            refine lv_ldcw (v := 1000000000) hx hb hown (hts _ wd_651) dX10_who_237 ?_
            refine lv_icmp_ne (tgt := 247) hx hb dX10_who_240 (by decide) (fun c_32 => ?_) (fun c_32 => ?_)
            · replace hF := hF.2 c_32
              rw [if_neg c_32] at hE
              refine lv_aload_n hx hb dX10_who_247 rfl (lv_at hl 1 rfl) ?_
              refine va_get (D := D) (ci := 10) (v := .ref (Rf 36)) (C := RX10) (T := TX10) (N := 45) hx hb hts iX10 hown hK hP 1 rfl rfl 36 (by decide) (hts _ wd_693) (fun _ h9 => h9) rfl dX10_who_248 ?_
              refine lv_iconst (v := 0) hx hb dX10_who_251 (by decide) ?_
              refine va_iald hx hb hK hP 0 0 rfl rfl (show ¬ ((0 : Int32) < 0 ∨ 448 ≤ (0 : Int32).toNatClampNeg) by decide +kernel) dX10_who_252 ?_
              exact hret (w35xm2 (0 : Int32).toNatClampNeg) (w35xm0, w35xm1, w35xm2) _ _ _ _ dX10_who_253 rfl hE (cutP (isC := [1, 2, 3, 4, 5, 0]) hP rfl) (cutD (isC := [1, 2, 3, 4, 5, 0]) hD rfl rfl) hS
            · replace hF := hF.1 c_32
              rw [if_pos c_32] at hE
              refine lv_iconst (v := (-1)) hx hb dX10_who_243 (by decide) ?_
              refine lv_goto (tgt := 253) hx hb dX10_who_244 (by decide) ?_
              exact hret (-1) (w35xm0, w35xm1, w35xm2) _ _ _ _ dX10_who_253 rfl hE (cutP (isC := [1, 2, 3, 4, 5, 0]) hP rfl) (cutD (isC := [1, 2, 3, 4, 5, 0]) hD rfl rfl) hS
      have lp_35_w35x : ∀ (n_w35x : Nat) (w35xl3 : Int32) (w35xm0 : (Nat → Int32)) (w35xm1 : (Nat → Int32)) (w35xm2 : (Nat → Int32)) (H : Heap) (locs : List Loc) (ls : Array Slot), va_P D classes [((Rf 36), .inl (cI, 448, .inl w35xm2)), (h, .inr (10, ML w35xm0 Rf)), ((Rf 0), .inl (cI, 1302, .inl f0)), ((Rf 10), .inl (cI, 30, .inl f10)), ((Rf 8), .inl (cI, 6, .inl f8)), ((Rf 37), .inl (cI, 36, .inl w35xm1))] H → va_D A [((Rf 36), .inl (cI, 448, .inl w35xm2)), (h, .inr (10, ML w35xm0 Rf)), ((Rf 0), .inl (cI, 1302, .inl f0)), ((Rf 10), .inl (cI, 30, .inl f10)), ((Rf 8), .inl (cI, 6, .inl f8)), ((Rf 37), .inl (cI, 36, .inl w35xm1))] → va_S A s.heap H locs → lv_has ls 9 [(3, .int w35xl3), (0, .ref h), (1, .int m_), (2, .int b_)] → (S_m_who_35 m_ (fun (w35xl3 : Int32) (w35xm0 : (Nat → Int32)) (w35xm1 : (Nat → Int32)) (w35xm2 : (Nat → Int32)) => (((w35xm2 (0 : Int32).toNatClampNeg) = 1000000000 → (((w35xm2 (0 : Int32).toNatClampNeg) = 1000000000 → True) ∧ (¬ (w35xm2 (0 : Int32).toNatClampNeg) = 1000000000 → True))) ∧ (¬ (w35xm2 (0 : Int32).toNatClampNeg) = 1000000000 → ((b_ = (-1) → (((w35xm2 (0 : Int32).toNatClampNeg) = 1000000000 → True) ∧ (¬ (w35xm2 (0 : Int32).toNatClampNeg) = 1000000000 → True))) ∧ (¬ b_ = (-1) → (S_m_who_262 b_ (fun (w262xl5 : Int32) (w262xl4 : Int32) (w262xl3 : Int32) (w262xm0 : (Nat → Int32)) (w262xm1 : (Nat → Int32)) (w262xm2 : (Nat → Int32)) => True) 10 0 (-1) 0 w35xm0 w35xm1 w35xm2)))))) n_w35x w35xl3 w35xm0 w35xm1 w35xm2) → ((match ((f_m_who_35 m_ n_w35x w35xl3 w35xm0 w35xm1 w35xm2) : Int32 × (Nat → Int32) × (Nat → Int32) × (Nat → Int32)) with | (w35xl3, w35xm0, w35xm1, w35xm2) => (if (w35xm2 (0 : Int32).toNatClampNeg) = 1000000000 then (if (w35xm2 (0 : Int32).toNatClampNeg) = 1000000000 then ((-1), w35xm0, w35xm1, w35xm2) else ((w35xm2 (0 : Int32).toNatClampNeg), w35xm0, w35xm1, w35xm2)) else (if b_ = (-1) then (if (w35xm2 (0 : Int32).toNatClampNeg) = 1000000000 then ((-1), w35xm0, w35xm1, w35xm2) else ((w35xm2 (0 : Int32).toNatClampNeg), w35xm0, w35xm1, w35xm2)) else (match ((f_m_who_262 b_ 10 0 (-1) 0 w35xm0 w35xm1 w35xm2) : Int32 × Int32 × Int32 × (Nat → Int32) × (Nat → Int32) × (Nat → Int32)) with | (w262xl5, w262xl4, w262xl3, w262xm0, w262xm1, w262xm2) => (w262xl4, w262xm0, w262xm1, w262xm2))))) : Int32 × (Nat → Int32) × (Nat → Int32) × (Nat → Int32)) = RES → W p l e rm_m_who s m args below meth c H locs 0 0 Q (F0 m 35 ls []) := by
        intro n_w35x
        induction n_w35x with
        | zero => intro w35xl3 w35xm0 w35xm1 w35xm2 H locs ls hP hD hS hl hF hE; exact False.elim hF
        | succ n_w35x ih_w35x =>
          intro w35xl3 w35xm0 w35xm1 w35xm2 H locs ls hP hD hS hl hF hE
          rw [S_m_who_35_s] at hF
          rw [f_m_who_35_s] at hE
          refine lv_iload_n hx hb dX10_who_35 rfl (lv_at hl 0 rfl) ?_
          refine lv_if_lt (tgt := 214) hx hb dX10_who_36 (by decide) (fun c_33 => ?_) (fun c_33 => ?_)
          · replace hF := hF.1 c_33
            rw [if_pos c_33] at hE
            exact ex_35_w35x w35xl3 w35xm0 w35xm1 w35xm2 _ _ ls hP hD hS (lv_sub hl [0, 1, 2, 3] rfl) hF hE
          · replace hF := hF.2 c_33
            rw [if_neg c_33] at hE
            refine lv_iconst (v := 0) hx hb dX10_who_39 (by decide) ?_
            refine lv_istore (lv' := [(4, .int 0), (3, .int w35xl3), (0, .ref h), (1, .int m_), (2, .int b_)]) hx hb dX10_who_40 hl (by decide) rfl (fun ls hl => ?_)
            have ex_42_w42x : ∀ (w42xl4 : Int32) (w42xm0 : (Nat → Int32)) (w42xm1 : (Nat → Int32)) (w42xm2 : (Nat → Int32)) (H : Heap) (locs : List Loc) (ls : Array Slot), va_P D classes [((Rf 36), .inl (cI, 448, .inl w42xm2)), (h, .inr (10, ML w42xm0 Rf)), ((Rf 0), .inl (cI, 1302, .inl f0)), ((Rf 10), .inl (cI, 30, .inl f10)), ((Rf 8), .inl (cI, 6, .inl f8)), ((Rf 37), .inl (cI, 36, .inl w42xm1))] H → va_D A [((Rf 36), .inl (cI, 448, .inl w42xm2)), (h, .inr (10, ML w42xm0 Rf)), ((Rf 0), .inl (cI, 1302, .inl f0)), ((Rf 10), .inl (cI, 30, .inl f10)), ((Rf 8), .inl (cI, 6, .inl f8)), ((Rf 37), .inl (cI, 36, .inl w42xm1))] → va_S A s.heap H locs → lv_has ls 9 [(4, .int w42xl4), (3, .int w35xl3), (0, .ref h), (1, .int m_), (2, .int b_)] → ((S_m_who_35 m_ (fun (w35xl3 : Int32) (w35xm0 : (Nat → Int32)) (w35xm1 : (Nat → Int32)) (w35xm2 : (Nat → Int32)) => (((w35xm2 (0 : Int32).toNatClampNeg) = 1000000000 → (((w35xm2 (0 : Int32).toNatClampNeg) = 1000000000 → True) ∧ (¬ (w35xm2 (0 : Int32).toNatClampNeg) = 1000000000 → True))) ∧ (¬ (w35xm2 (0 : Int32).toNatClampNeg) = 1000000000 → ((b_ = (-1) → (((w35xm2 (0 : Int32).toNatClampNeg) = 1000000000 → True) ∧ (¬ (w35xm2 (0 : Int32).toNatClampNeg) = 1000000000 → True))) ∧ (¬ b_ = (-1) → (S_m_who_262 b_ (fun (w262xl5 : Int32) (w262xl4 : Int32) (w262xl3 : Int32) (w262xm0 : (Nat → Int32)) (w262xm1 : (Nat → Int32)) (w262xm2 : (Nat → Int32)) => True) 10 0 (-1) 0 w35xm0 w35xm1 w35xm2)))))) n_w35x (w35xl3 + (-1)) w42xm0 w42xm1 w42xm2)) → (((match ((f_m_who_35 m_ n_w35x (w35xl3 + (-1)) w42xm0 w42xm1 w42xm2) : Int32 × (Nat → Int32) × (Nat → Int32) × (Nat → Int32)) with | (w35xl3, w35xm0, w35xm1, w35xm2) => (if (w35xm2 (0 : Int32).toNatClampNeg) = 1000000000 then (if (w35xm2 (0 : Int32).toNatClampNeg) = 1000000000 then ((-1), w35xm0, w35xm1, w35xm2) else ((w35xm2 (0 : Int32).toNatClampNeg), w35xm0, w35xm1, w35xm2)) else (if b_ = (-1) then (if (w35xm2 (0 : Int32).toNatClampNeg) = 1000000000 then ((-1), w35xm0, w35xm1, w35xm2) else ((w35xm2 (0 : Int32).toNatClampNeg), w35xm0, w35xm1, w35xm2)) else (match ((f_m_who_262 b_ 10 0 (-1) 0 w35xm0 w35xm1 w35xm2) : Int32 × Int32 × Int32 × (Nat → Int32) × (Nat → Int32) × (Nat → Int32)) with | (w262xl5, w262xl4, w262xl3, w262xm0, w262xm1, w262xm2) => (w262xl4, w262xm0, w262xm1, w262xm2)))))) : Int32 × (Nat → Int32) × (Nat → Int32) × (Nat → Int32)) = RES → W p l e rm_m_who s m args below meth c H locs 0 0 Q (F0 m 208 ls []) := by
              intro w42xl4 w42xm0 w42xm1 w42xm2 H locs ls hP hD hS hl hF hE
              refine lv_iinc (v := (w35xl3 + (-1))) (lv' := [(3, .int (w35xl3 + (-1))), (4, .int w42xl4), (0, .ref h), (1, .int m_), (2, .int b_)]) hx hb dX10_who_208 hl (k := 1) rfl rfl (by decide) rfl (fun ls hl => ?_)
              refine lv_goto (tgt := 35) hx hb dX10_who_211 (by decide) ?_
              exact ih_w35x (w35xl3 + (-1)) w42xm0 w42xm1 w42xm2 _ _ ls hP hD hS (lv_sub hl [0, 2, 3, 4] rfl) hF hE
            have lp_42_w42x : ∀ (n_w42x : Nat) (w42xl4 : Int32) (w42xm0 : (Nat → Int32)) (w42xm1 : (Nat → Int32)) (w42xm2 : (Nat → Int32)) (H : Heap) (locs : List Loc) (ls : Array Slot), va_P D classes [((Rf 36), .inl (cI, 448, .inl w42xm2)), (h, .inr (10, ML w42xm0 Rf)), ((Rf 0), .inl (cI, 1302, .inl f0)), ((Rf 10), .inl (cI, 30, .inl f10)), ((Rf 8), .inl (cI, 6, .inl f8)), ((Rf 37), .inl (cI, 36, .inl w42xm1))] H → va_D A [((Rf 36), .inl (cI, 448, .inl w42xm2)), (h, .inr (10, ML w42xm0 Rf)), ((Rf 0), .inl (cI, 1302, .inl f0)), ((Rf 10), .inl (cI, 30, .inl f10)), ((Rf 8), .inl (cI, 6, .inl f8)), ((Rf 37), .inl (cI, 36, .inl w42xm1))] → va_S A s.heap H locs → lv_has ls 9 [(4, .int w42xl4), (3, .int w35xl3), (0, .ref h), (1, .int m_), (2, .int b_)] → (S_m_who_42 m_ w35xl3 (fun (w42xl4 : Int32) (w42xm0 : (Nat → Int32)) (w42xm1 : (Nat → Int32)) (w42xm2 : (Nat → Int32)) => (S_m_who_35 m_ (fun (w35xl3 : Int32) (w35xm0 : (Nat → Int32)) (w35xm1 : (Nat → Int32)) (w35xm2 : (Nat → Int32)) => (((w35xm2 (0 : Int32).toNatClampNeg) = 1000000000 → (((w35xm2 (0 : Int32).toNatClampNeg) = 1000000000 → True) ∧ (¬ (w35xm2 (0 : Int32).toNatClampNeg) = 1000000000 → True))) ∧ (¬ (w35xm2 (0 : Int32).toNatClampNeg) = 1000000000 → ((b_ = (-1) → (((w35xm2 (0 : Int32).toNatClampNeg) = 1000000000 → True) ∧ (¬ (w35xm2 (0 : Int32).toNatClampNeg) = 1000000000 → True))) ∧ (¬ b_ = (-1) → (S_m_who_262 b_ (fun (w262xl5 : Int32) (w262xl4 : Int32) (w262xl3 : Int32) (w262xm0 : (Nat → Int32)) (w262xm1 : (Nat → Int32)) (w262xm2 : (Nat → Int32)) => True) 10 0 (-1) 0 w35xm0 w35xm1 w35xm2)))))) n_w35x (w35xl3 + (-1)) w42xm0 w42xm1 w42xm2)) n_w42x w42xl4 w42xm0 w42xm1 w42xm2) → ((64 : Int32).toInt - (w42xl4 : Int32).toInt).toNat < n_w42x → ((match ((match ((f_m_who_42 m_ w35xl3 n_w42x w42xl4 w42xm0 w42xm1 w42xm2) : Int32 × (Nat → Int32) × (Nat → Int32) × (Nat → Int32)) with | (w42xl4, w42xm0, w42xm1, w42xm2) => (f_m_who_35 m_ n_w35x (w35xl3 + (-1)) w42xm0 w42xm1 w42xm2)) : Int32 × (Nat → Int32) × (Nat → Int32) × (Nat → Int32)) with | (w35xl3, w35xm0, w35xm1, w35xm2) => (if (w35xm2 (0 : Int32).toNatClampNeg) = 1000000000 then (if (w35xm2 (0 : Int32).toNatClampNeg) = 1000000000 then ((-1), w35xm0, w35xm1, w35xm2) else ((w35xm2 (0 : Int32).toNatClampNeg), w35xm0, w35xm1, w35xm2)) else (if b_ = (-1) then (if (w35xm2 (0 : Int32).toNatClampNeg) = 1000000000 then ((-1), w35xm0, w35xm1, w35xm2) else ((w35xm2 (0 : Int32).toNatClampNeg), w35xm0, w35xm1, w35xm2)) else (match ((f_m_who_262 b_ 10 0 (-1) 0 w35xm0 w35xm1 w35xm2) : Int32 × Int32 × Int32 × (Nat → Int32) × (Nat → Int32) × (Nat → Int32)) with | (w262xl5, w262xl4, w262xl3, w262xm0, w262xm1, w262xm2) => (w262xl4, w262xm0, w262xm1, w262xm2))))) : Int32 × (Nat → Int32) × (Nat → Int32) × (Nat → Int32)) = RES → W p l e rm_m_who s m args below meth c H locs 0 0 Q (F0 m 42 ls []) := by
              intro n_w42x
              induction n_w42x with
              | zero => intro w42xl4 w42xm0 w42xm1 w42xm2 H locs ls hP hD hS hl hF hm; exact absurd hm (Nat.not_lt_zero _)
              | succ n_w42x ih_w42x =>
                intro w42xl4 w42xm0 w42xm1 w42xm2 H locs ls hP hD hS hl hF hm hE
                rw [S_m_who_42_s] at hF
                rw [f_m_who_42_s] at hE
                refine lv_iload hx hb dX10_who_42 (lv_at hl 0 rfl) ?_
                refine lv_bipush (v := 64) hx hb dX10_who_44 (by decide) ?_
                refine lv_icmp_ge (tgt := 208) hx hb dX10_who_46 (by decide) (fun c_34 => ?_) (fun c_34 => ?_)
                · replace hF := hF.1 c_34
                  rw [if_pos c_34] at hE
                  exact ex_42_w42x w42xl4 w42xm0 w42xm1 w42xm2 _ _ ls hP hD hS (lv_sub hl [0, 1, 2, 3, 4] rfl) hF hE
                · replace hF := hF.2 c_34
                  rw [if_neg c_34] at hE
                  refine lv_iload_n hx hb dX10_who_49 rfl (lv_at hl 1 rfl) ?_
                  refine lv_iload_n hx hb dX10_who_50 rfl (lv_at hl 3 rfl) ?_
                  refine lv_icmp_le (tgt := 58) hx hb dX10_who_51 (by decide) (fun c_35 => ?_) (fun c_35 => ?_)
                  · replace hF := hF.1 c_35
                    rw [if_pos c_35] at hE
                    refine lv_ldcw (v := 1000000000) hx hb hown (hts _ wd_651) dX10_who_58 ?_
                    refine lv_istore (lv' := [(5, .int 1000000000), (4, .int w42xl4), (3, .int w35xl3), (0, .ref h), (1, .int m_), (2, .int b_)]) hx hb dX10_who_61 hl (by decide) rfl (fun ls hl => ?_)
                    refine lv_iconst (v := 0) hx hb dX10_who_63 (by decide) ?_
                    refine lv_istore (lv' := [(6, .int 0), (5, .int 1000000000), (4, .int w42xl4), (3, .int w35xl3), (0, .ref h), (1, .int m_), (2, .int b_)]) hx hb dX10_who_64 hl (by decide) rfl (fun ls hl => ?_)
                    have ex_66_w66x : ∀ (w66xl6 : Int32) (w66xl5 : Int32) (w66xm0 : (Nat → Int32)) (w66xm1 : (Nat → Int32)) (w66xm2 : (Nat → Int32)) (H : Heap) (locs : List Loc) (ls : Array Slot), va_P D classes [((Rf 36), .inl (cI, 448, .inl w66xm2)), (h, .inr (10, ML w66xm0 Rf)), ((Rf 0), .inl (cI, 1302, .inl f0)), ((Rf 10), .inl (cI, 30, .inl f10)), ((Rf 8), .inl (cI, 6, .inl f8)), ((Rf 37), .inl (cI, 36, .inl w66xm1))] H → va_D A [((Rf 36), .inl (cI, 448, .inl w66xm2)), (h, .inr (10, ML w66xm0 Rf)), ((Rf 0), .inl (cI, 1302, .inl f0)), ((Rf 10), .inl (cI, 30, .inl f10)), ((Rf 8), .inl (cI, 6, .inl f8)), ((Rf 37), .inl (cI, 36, .inl w66xm1))] → va_S A s.heap H locs → lv_has ls 9 [(6, .int w66xl6), (5, .int w66xl5), (4, .int w42xl4), (3, .int w35xl3), (0, .ref h), (1, .int m_), (2, .int b_)] → ((vp_in ((64 * w35xl3) + w42xl4) 448 ∧ (S_m_who_42 m_ w35xl3 (fun (w42xl4 : Int32) (w42xm0 : (Nat → Int32)) (w42xm1 : (Nat → Int32)) (w42xm2 : (Nat → Int32)) => (S_m_who_35 m_ (fun (w35xl3 : Int32) (w35xm0 : (Nat → Int32)) (w35xm1 : (Nat → Int32)) (w35xm2 : (Nat → Int32)) => (((w35xm2 (0 : Int32).toNatClampNeg) = 1000000000 → (((w35xm2 (0 : Int32).toNatClampNeg) = 1000000000 → True) ∧ (¬ (w35xm2 (0 : Int32).toNatClampNeg) = 1000000000 → True))) ∧ (¬ (w35xm2 (0 : Int32).toNatClampNeg) = 1000000000 → ((b_ = (-1) → (((w35xm2 (0 : Int32).toNatClampNeg) = 1000000000 → True) ∧ (¬ (w35xm2 (0 : Int32).toNatClampNeg) = 1000000000 → True))) ∧ (¬ b_ = (-1) → (S_m_who_262 b_ (fun (w262xl5 : Int32) (w262xl4 : Int32) (w262xl3 : Int32) (w262xm0 : (Nat → Int32)) (w262xm1 : (Nat → Int32)) (w262xm2 : (Nat → Int32)) => True) 10 0 (-1) 0 w35xm0 w35xm1 w35xm2)))))) n_w35x (w35xl3 + (-1)) w42xm0 w42xm1 w42xm2)) n_w42x (w42xl4 + 1) w66xm0 w66xm1 (upd w66xm2 (((64 * w35xl3) + w42xl4) : Int32).toNatClampNeg w66xl5)))) → (((match ((match ((f_m_who_42 m_ w35xl3 n_w42x (w42xl4 + 1) w66xm0 w66xm1 (upd w66xm2 (((64 * w35xl3) + w42xl4) : Int32).toNatClampNeg w66xl5)) : Int32 × (Nat → Int32) × (Nat → Int32) × (Nat → Int32)) with | (w42xl4, w42xm0, w42xm1, w42xm2) => (f_m_who_35 m_ n_w35x (w35xl3 + (-1)) w42xm0 w42xm1 w42xm2)) : Int32 × (Nat → Int32) × (Nat → Int32) × (Nat → Int32)) with | (w35xl3, w35xm0, w35xm1, w35xm2) => (if (w35xm2 (0 : Int32).toNatClampNeg) = 1000000000 then (if (w35xm2 (0 : Int32).toNatClampNeg) = 1000000000 then ((-1), w35xm0, w35xm1, w35xm2) else ((w35xm2 (0 : Int32).toNatClampNeg), w35xm0, w35xm1, w35xm2)) else (if b_ = (-1) then (if (w35xm2 (0 : Int32).toNatClampNeg) = 1000000000 then ((-1), w35xm0, w35xm1, w35xm2) else ((w35xm2 (0 : Int32).toNatClampNeg), w35xm0, w35xm1, w35xm2)) else (match ((f_m_who_262 b_ 10 0 (-1) 0 w35xm0 w35xm1 w35xm2) : Int32 × Int32 × Int32 × (Nat → Int32) × (Nat → Int32) × (Nat → Int32)) with | (w262xl5, w262xl4, w262xl3, w262xm0, w262xm1, w262xm2) => (w262xl4, w262xm0, w262xm1, w262xm2)))))) : Int32 × (Nat → Int32) × (Nat → Int32) × (Nat → Int32)) = RES → W p l e rm_m_who s m args below meth c H locs 0 0 Q (F0 m 188 ls []) := by
                      intro w66xl6 w66xl5 w66xm0 w66xm1 w66xm2 H locs ls hP hD hS hl hF hE
                      refine lv_aload_n hx hb dX10_who_188 rfl (lv_at hl 4 rfl) ?_
                      refine va_get (D := D) (ci := 10) (v := .ref (Rf 36)) (C := RX10) (T := TX10) (N := 45) hx hb hts iX10 hown hK hP 1 rfl rfl 36 (by decide) (hts _ wd_693) (fun _ h9 => h9) rfl dX10_who_189 ?_
                      refine lv_bipush (v := 64) hx hb dX10_who_192 (by decide) ?_
                      refine lv_iload_n hx hb dX10_who_194 rfl (lv_at hl 3 rfl) ?_
                      refine lv_imul hx hb dX10_who_195 ?_
                      refine lv_iload hx hb dX10_who_196 (lv_at hl 2 rfl) ?_
                      refine lv_iadd hx hb dX10_who_198 ?_
                      refine lv_iload hx hb dX10_who_199 (lv_at hl 1 rfl) ?_
                      obtain ⟨hv_36, hF⟩ := hF
                      refine va_iast hx hb hK hP hD hS 0 0 rfl rfl hv_36 dX10_who_201 (fun H locs hP hD hS => ?_)
                      have hP : va_P D classes [((Rf 36), .inl (cI, 448, .inl (upd w66xm2 (((64 * w35xl3) + w42xl4) : Int32).toNatClampNeg w66xl5))), (h, .inr (10, ML w66xm0 Rf)), ((Rf 0), .inl (cI, 1302, .inl f0)), ((Rf 10), .inl (cI, 30, .inl f10)), ((Rf 8), .inl (cI, 6, .inl f8)), ((Rf 37), .inl (cI, 36, .inl w66xm1))] H := hP
                      have hD : va_D A [((Rf 36), .inl (cI, 448, .inl (upd w66xm2 (((64 * w35xl3) + w42xl4) : Int32).toNatClampNeg w66xl5))), (h, .inr (10, ML w66xm0 Rf)), ((Rf 0), .inl (cI, 1302, .inl f0)), ((Rf 10), .inl (cI, 30, .inl f10)), ((Rf 8), .inl (cI, 6, .inl f8)), ((Rf 37), .inl (cI, 36, .inl w66xm1))] := hD
                      refine lv_iinc (v := (w42xl4 + 1)) (lv' := [(4, .int (w42xl4 + 1)), (6, .int w66xl6), (5, .int w66xl5), (3, .int w35xl3), (0, .ref h), (1, .int m_), (2, .int b_)]) hx hb dX10_who_202 hl (k := 2) rfl rfl (by decide) rfl (fun ls hl => ?_)
                      refine lv_goto (tgt := 42) hx hb dX10_who_205 (by decide) ?_
                      exact ih_w42x (w42xl4 + 1) w66xm0 w66xm1 (upd w66xm2 (((64 * w35xl3) + w42xl4) : Int32).toNatClampNeg w66xl5) _ _ ls hP hD hS (lv_sub hl [0, 3, 4, 5, 6] rfl) hF (up_step c_34 hm) hE
                    have lp_66_w66x : ∀ (n_w66x : Nat) (w66xl6 : Int32) (w66xl5 : Int32) (w66xm0 : (Nat → Int32)) (w66xm1 : (Nat → Int32)) (w66xm2 : (Nat → Int32)) (H : Heap) (locs : List Loc) (ls : Array Slot), va_P D classes [((Rf 36), .inl (cI, 448, .inl w66xm2)), (h, .inr (10, ML w66xm0 Rf)), ((Rf 0), .inl (cI, 1302, .inl f0)), ((Rf 10), .inl (cI, 30, .inl f10)), ((Rf 8), .inl (cI, 6, .inl f8)), ((Rf 37), .inl (cI, 36, .inl w66xm1))] H → va_D A [((Rf 36), .inl (cI, 448, .inl w66xm2)), (h, .inr (10, ML w66xm0 Rf)), ((Rf 0), .inl (cI, 1302, .inl f0)), ((Rf 10), .inl (cI, 30, .inl f10)), ((Rf 8), .inl (cI, 6, .inl f8)), ((Rf 37), .inl (cI, 36, .inl w66xm1))] → va_S A s.heap H locs → lv_has ls 9 [(6, .int w66xl6), (5, .int w66xl5), (4, .int w42xl4), (3, .int w35xl3), (0, .ref h), (1, .int m_), (2, .int b_)] → (S_m_who_66 m_ w35xl3 w42xl4 (fun (w66xl6 : Int32) (w66xl5 : Int32) (w66xm0 : (Nat → Int32)) (w66xm1 : (Nat → Int32)) (w66xm2 : (Nat → Int32)) => (vp_in ((64 * w35xl3) + w42xl4) 448 ∧ (S_m_who_42 m_ w35xl3 (fun (w42xl4 : Int32) (w42xm0 : (Nat → Int32)) (w42xm1 : (Nat → Int32)) (w42xm2 : (Nat → Int32)) => (S_m_who_35 m_ (fun (w35xl3 : Int32) (w35xm0 : (Nat → Int32)) (w35xm1 : (Nat → Int32)) (w35xm2 : (Nat → Int32)) => (((w35xm2 (0 : Int32).toNatClampNeg) = 1000000000 → (((w35xm2 (0 : Int32).toNatClampNeg) = 1000000000 → True) ∧ (¬ (w35xm2 (0 : Int32).toNatClampNeg) = 1000000000 → True))) ∧ (¬ (w35xm2 (0 : Int32).toNatClampNeg) = 1000000000 → ((b_ = (-1) → (((w35xm2 (0 : Int32).toNatClampNeg) = 1000000000 → True) ∧ (¬ (w35xm2 (0 : Int32).toNatClampNeg) = 1000000000 → True))) ∧ (¬ b_ = (-1) → (S_m_who_262 b_ (fun (w262xl5 : Int32) (w262xl4 : Int32) (w262xl3 : Int32) (w262xm0 : (Nat → Int32)) (w262xm1 : (Nat → Int32)) (w262xm2 : (Nat → Int32)) => True) 10 0 (-1) 0 w35xm0 w35xm1 w35xm2)))))) n_w35x (w35xl3 + (-1)) w42xm0 w42xm1 w42xm2)) n_w42x (w42xl4 + 1) w66xm0 w66xm1 (upd w66xm2 (((64 * w35xl3) + w42xl4) : Int32).toNatClampNeg w66xl5)))) n_w66x w66xl6 w66xl5 w66xm0 w66xm1 w66xm2) → ((match ((match ((match ((f_m_who_66 m_ w35xl3 w42xl4 n_w66x w66xl6 w66xl5 w66xm0 w66xm1 w66xm2) : Int32 × Int32 × (Nat → Int32) × (Nat → Int32) × (Nat → Int32)) with | (w66xl6, w66xl5, w66xm0, w66xm1, w66xm2) => (f_m_who_42 m_ w35xl3 n_w42x (w42xl4 + 1) w66xm0 w66xm1 (upd w66xm2 (((64 * w35xl3) + w42xl4) : Int32).toNatClampNeg w66xl5))) : Int32 × (Nat → Int32) × (Nat → Int32) × (Nat → Int32)) with | (w42xl4, w42xm0, w42xm1, w42xm2) => (f_m_who_35 m_ n_w35x (w35xl3 + (-1)) w42xm0 w42xm1 w42xm2)) : Int32 × (Nat → Int32) × (Nat → Int32) × (Nat → Int32)) with | (w35xl3, w35xm0, w35xm1, w35xm2) => (if (w35xm2 (0 : Int32).toNatClampNeg) = 1000000000 then (if (w35xm2 (0 : Int32).toNatClampNeg) = 1000000000 then ((-1), w35xm0, w35xm1, w35xm2) else ((w35xm2 (0 : Int32).toNatClampNeg), w35xm0, w35xm1, w35xm2)) else (if b_ = (-1) then (if (w35xm2 (0 : Int32).toNatClampNeg) = 1000000000 then ((-1), w35xm0, w35xm1, w35xm2) else ((w35xm2 (0 : Int32).toNatClampNeg), w35xm0, w35xm1, w35xm2)) else (match ((f_m_who_262 b_ 10 0 (-1) 0 w35xm0 w35xm1 w35xm2) : Int32 × Int32 × Int32 × (Nat → Int32) × (Nat → Int32) × (Nat → Int32)) with | (w262xl5, w262xl4, w262xl3, w262xm0, w262xm1, w262xm2) => (w262xl4, w262xm0, w262xm1, w262xm2))))) : Int32 × (Nat → Int32) × (Nat → Int32) × (Nat → Int32)) = RES → W p l e rm_m_who s m args below meth c H locs 0 0 Q (F0 m 66 ls []) := by
                      intro n_w66x
                      induction n_w66x with
                      | zero => intro w66xl6 w66xl5 w66xm0 w66xm1 w66xm2 H locs ls hP hD hS hl hF hE; exact False.elim hF
                      | succ n_w66x ih_w66x =>
                        intro w66xl6 w66xl5 w66xm0 w66xm1 w66xm2 H locs ls hP hD hS hl hF hE
                        rw [S_m_who_66_s] at hF
                        rw [f_m_who_66_s] at hE
                        refine lv_iload hx hb dX10_who_66 (lv_at hl 0 rfl) ?_
                        refine lv_aload_n hx hb dX10_who_68 rfl (lv_at hl 4 rfl) ?_
                        refine va_get (D := D) (ci := 10) (v := .int (w66xm0 5)) (C := RX10) (T := TX10) (N := 45) hx hb hts iX10 hown hK hP 1 rfl rfl 5 (by decide) (hts _ wd_499) (fun _ h9 => h9) rfl dX10_who_69 ?_
                        refine lv_icmp_ge (tgt := 188) hx hb dX10_who_72 (by decide) (fun c_37 => ?_) (fun c_37 => ?_)
                        · replace hF := hF.1 c_37
                          rw [if_pos c_37] at hE
                          exact ex_66_w66x w66xl6 w66xl5 w66xm0 w66xm1 w66xm2 _ _ ls hP hD hS (lv_sub hl [0, 1, 2, 3, 4, 5, 6] rfl) hF hE
                        · replace hF := hF.2 c_37
                          rw [if_neg c_37] at hE
                          refine lv_iload_n hx hb dX10_who_75 rfl (lv_at hl 3 rfl) ?_
                          refine lv_iload_n hx hb dX10_who_76 rfl (lv_at hl 5 rfl) ?_
                          refine lv_icmp_gt (tgt := 188) hx hb dX10_who_77 (by decide) (fun c_38 => ?_) (fun c_38 => ?_)
                          · replace hF := hF.1 c_38
                            rw [if_pos c_38] at hE
                            exact ex_66_w66x w66xl6 w66xl5 w66xm0 w66xm1 w66xm2 _ _ ls hP hD hS (lv_sub hl [0, 1, 2, 3, 4, 5, 6] rfl) hF hE
                          · replace hF := hF.2 c_38
                            rw [if_neg c_38] at hE
                            refine lv_iload hx hb dX10_who_80 (lv_at hl 2 rfl) ?_
                            refine lv_iload hx hb dX10_who_82 (lv_at hl 0 rfl) ?_
                            obtain ⟨hs_39, hF⟩ := hF
                            refine cSi (wr := [((Rf 36), .inl (cI, 448, .inl w66xm2)), (h, .inr (10, ML w66xm0 Rf)), ((Rf 0), .inl (cI, 1302, .inl f0)), ((Rf 10), .inl (cI, 30, .inl f10)), ((Rf 8), .inl (cI, 6, .inl f8)), ((Rf 37), .inl (cI, 36, .inl w66xm1))]) (rest := []) (m_has w42xl4 w66xl6 hs_39) okS_X10_has wd_502 hx hb hml hown hts hK hP hD hS hA hN hl.1 [] [0, 1, 2, 3, 4, 5] rfl rfl rfl rfl (by decide) rfl (Nat.le_of_ble_eq_true rfl) (Nat.le_of_ble_eq_true rfl) (Nat.le_of_ble_eq_true rfl) (Nat.le_of_ble_eq_true rfl) (Nat.le_of_ble_eq_true rfl) dX10_who_84 (fun r_41 u_40 H locs hw_u_40 hP hD hS => ?_)
                            replace hw_u_40 : r_41 = (f_m_has w42xl4 w66xl6) := hw_u_40
                            rw [hw_u_40]
                            clear hw_u_40
                            have hP : va_P D classes [((Rf 36), .inl (cI, 448, .inl w66xm2)), (h, .inr (10, ML w66xm0 Rf)), ((Rf 0), .inl (cI, 1302, .inl f0)), ((Rf 10), .inl (cI, 30, .inl f10)), ((Rf 8), .inl (cI, 6, .inl f8)), ((Rf 37), .inl (cI, 36, .inl w66xm1))] H := hP
                            have hD : va_D A [((Rf 36), .inl (cI, 448, .inl w66xm2)), (h, .inr (10, ML w66xm0 Rf)), ((Rf 0), .inl (cI, 1302, .inl f0)), ((Rf 10), .inl (cI, 30, .inl f10)), ((Rf 8), .inl (cI, 6, .inl f8)), ((Rf 37), .inl (cI, 36, .inl w66xm1))] := hD
                            refine lv_if_eq (tgt := 96) hx hb dX10_who_87 (by decide) (fun c_42 => ?_) (fun c_42 => ?_)
                            · replace hF := hF.1 c_42
                              rw [if_pos c_42] at hE
                              refine lv_aload_n hx hb dX10_who_96 rfl (lv_at hl 4 rfl) ?_
                              refine va_get (D := D) (ci := 10) (v := .ref (Rf 36)) (C := RX10) (T := TX10) (N := 45) hx hb hts iX10 hown hK hP 1 rfl rfl 36 (by decide) (hts _ wd_693) (fun _ h9 => h9) rfl dX10_who_97 ?_
                              refine lv_bipush (v := 64) hx hb dX10_who_100 (by decide) ?_
                              refine lv_iload_n hx hb dX10_who_102 rfl (lv_at hl 3 rfl) ?_
                              refine lv_iconst (v := 1) hx hb dX10_who_103 (by decide) ?_
                              refine lv_iadd hx hb dX10_who_104 ?_
                              refine lv_imul hx hb dX10_who_105 ?_
                              refine lv_iload hx hb dX10_who_106 (lv_at hl 2 rfl) ?_
                              refine lv_iconst (v := 1) hx hb dX10_who_108 (by decide) ?_
                              refine lv_iload hx hb dX10_who_109 (lv_at hl 0 rfl) ?_
                              refine lv_ishl hx hb dX10_who_111 ?_
                              refine lv_ior hx hb dX10_who_112 ?_
                              refine lv_iadd hx hb dX10_who_113 ?_
                              obtain ⟨hv_43, hF⟩ := hF
                              refine va_iald hx hb hK hP 0 0 rfl rfl hv_43 dX10_who_114 ?_
                              refine lv_istore (lv' := [(7, .int (w66xm2 (((64 * (w35xl3 + 1)) + (w42xl4 ||| ((1 : Int32) <<< (w66xl6 &&& 31)))) : Int32).toNatClampNeg)), (6, .int w66xl6), (5, .int w66xl5), (4, .int w42xl4), (3, .int w35xl3), (0, .ref h), (1, .int m_), (2, .int b_)]) hx hb dX10_who_115 hl (by decide) rfl (fun ls hl => ?_)
                              refine lv_iload hx hb dX10_who_117 (lv_at hl 0 rfl) ?_
                              refine lv_ldcw (v := 1000000000) hx hb hown (hts _ wd_651) dX10_who_119 ?_
                              refine lv_icmp_eq (tgt := 143) hx hb dX10_who_122 (by decide) (fun c_44 => ?_) (fun c_44 => ?_)
                              · replace hF := hF.1 c_44
                                rw [if_pos c_44] at hE
                                refine lv_ldcw (v := 1000000000) hx hb hown (hts _ wd_651) dX10_who_143 ?_
                                refine lv_goto (tgt := 164) hx hb dX10_who_146 (by decide) ?_
                                refine lv_istore (lv' := [(8, .int 1000000000), (7, .int (w66xm2 (((64 * (w35xl3 + 1)) + (w42xl4 ||| ((1 : Int32) <<< (w66xl6 &&& 31)))) : Int32).toNatClampNeg)), (6, .int w66xl6), (5, .int w66xl5), (4, .int w42xl4), (3, .int w35xl3), (0, .ref h), (1, .int m_), (2, .int b_)]) hx hb dX10_who_164 hl (by decide) rfl (fun ls hl => ?_)
                                refine lv_iload hx hb dX10_who_166 (lv_at hl 0 rfl) ?_
                                refine lv_iload hx hb dX10_who_168 (lv_at hl 3 rfl) ?_
                                refine lv_icmp_ge (tgt := 178) hx hb dX10_who_170 (by decide) (fun c_45 => ?_) (fun c_45 => ?_)
                                · replace hF := hF.1 c_45
                                  rw [if_pos c_45] at hE
                                  refine lv_iload hx hb dX10_who_178 (lv_at hl 3 rfl) ?_
                                  refine lv_istore (lv' := [(5, .int w66xl5), (8, .int 1000000000), (7, .int (w66xm2 (((64 * (w35xl3 + 1)) + (w42xl4 ||| ((1 : Int32) <<< (w66xl6 &&& 31)))) : Int32).toNatClampNeg)), (6, .int w66xl6), (4, .int w42xl4), (3, .int w35xl3), (0, .ref h), (1, .int m_), (2, .int b_)]) hx hb dX10_who_180 hl (by decide) rfl (fun ls hl => ?_)
                                  refine lv_iinc (v := (w66xl6 + 1)) (lv' := [(6, .int (w66xl6 + 1)), (5, .int w66xl5), (8, .int 1000000000), (7, .int (w66xm2 (((64 * (w35xl3 + 1)) + (w42xl4 ||| ((1 : Int32) <<< (w66xl6 &&& 31)))) : Int32).toNatClampNeg)), (4, .int w42xl4), (3, .int w35xl3), (0, .ref h), (1, .int m_), (2, .int b_)]) hx hb dX10_who_182 hl (k := 3) rfl rfl (by decide) rfl (fun ls hl => ?_)
                                  refine lv_goto (tgt := 66) hx hb dX10_who_185 (by decide) ?_
                                  exact ih_w66x (w66xl6 + 1) w66xl5 w66xm0 w66xm1 w66xm2 _ _ ls hP hD hS (lv_sub hl [0, 1, 4, 5, 6, 7, 8] rfl) hF hE
                                · replace hF := hF.2 c_45
                                  rw [if_neg c_45] at hE
                                  refine lv_iload hx hb dX10_who_173 (lv_at hl 0 rfl) ?_
                                  refine lv_goto (tgt := 180) hx hb dX10_who_175 (by decide) ?_
                                  refine lv_istore (lv' := [(5, .int 1000000000), (8, .int 1000000000), (7, .int (w66xm2 (((64 * (w35xl3 + 1)) + (w42xl4 ||| ((1 : Int32) <<< (w66xl6 &&& 31)))) : Int32).toNatClampNeg)), (6, .int w66xl6), (4, .int w42xl4), (3, .int w35xl3), (0, .ref h), (1, .int m_), (2, .int b_)]) hx hb dX10_who_180 hl (by decide) rfl (fun ls hl => ?_)
                                  refine lv_iinc (v := (w66xl6 + 1)) (lv' := [(6, .int (w66xl6 + 1)), (5, .int 1000000000), (8, .int 1000000000), (7, .int (w66xm2 (((64 * (w35xl3 + 1)) + (w42xl4 ||| ((1 : Int32) <<< (w66xl6 &&& 31)))) : Int32).toNatClampNeg)), (4, .int w42xl4), (3, .int w35xl3), (0, .ref h), (1, .int m_), (2, .int b_)]) hx hb dX10_who_182 hl (k := 3) rfl rfl (by decide) rfl (fun ls hl => ?_)
                                  refine lv_goto (tgt := 66) hx hb dX10_who_185 (by decide) ?_
                                  exact ih_w66x (w66xl6 + 1) 1000000000 w66xm0 w66xm1 w66xm2 _ _ ls hP hD hS (lv_sub hl [0, 1, 4, 5, 6, 7, 8] rfl) hF hE
                              · replace hF := hF.2 c_44
                                rw [if_neg c_44] at hE
                                refine lv_aload_n hx hb dX10_who_125 rfl (lv_at hl 5 rfl) ?_
                                refine va_get (D := D) (ci := 10) (v := .ref (Rf 37)) (C := RX10) (T := TX10) (N := 45) hx hb hts iX10 hown hK hP 1 rfl rfl 37 (by decide) (hts _ wd_672) (fun _ h9 => h9) rfl dX10_who_126 ?_
                                refine lv_bipush (v := 6) hx hb dX10_who_129 (by decide) ?_
                                refine lv_iload_n hx hb dX10_who_131 rfl (lv_at hl 4 rfl) ?_
                                refine lv_imul hx hb dX10_who_132 ?_
                                refine lv_iload hx hb dX10_who_133 (lv_at hl 1 rfl) ?_
                                refine lv_iadd hx hb dX10_who_135 ?_
                                obtain ⟨hv_46, hF⟩ := hF
                                refine va_iald hx hb hK hP 5 0 rfl rfl hv_46 dX10_who_136 ?_
                                refine lv_ldcw (v := 1000000000) hx hb hown (hts _ wd_651) dX10_who_137 ?_
                                refine lv_icmp_ne (tgt := 149) hx hb dX10_who_140 (by decide) (fun c_47 => ?_) (fun c_47 => ?_)
                                · replace hF := hF.2 c_47
                                  rw [if_neg c_47] at hE
                                  refine lv_iload hx hb dX10_who_149 (lv_at hl 0 rfl) ?_
                                  refine lv_aload_n hx hb dX10_who_151 rfl (lv_at hl 5 rfl) ?_
                                  refine va_get (D := D) (ci := 10) (v := .ref (Rf 37)) (C := RX10) (T := TX10) (N := 45) hx hb hts iX10 hown hK hP 1 rfl rfl 37 (by decide) (hts _ wd_672) (fun _ h9 => h9) rfl dX10_who_152 ?_
                                  refine lv_bipush (v := 6) hx hb dX10_who_155 (by decide) ?_
                                  refine lv_iload_n hx hb dX10_who_157 rfl (lv_at hl 4 rfl) ?_
                                  refine lv_imul hx hb dX10_who_158 ?_
                                  refine lv_iload hx hb dX10_who_159 (lv_at hl 1 rfl) ?_
                                  refine lv_iadd hx hb dX10_who_161 ?_
                                  obtain ⟨hv_48, hF⟩ := hF
                                  refine va_iald hx hb hK hP 5 0 rfl rfl hv_48 dX10_who_162 ?_
                                  refine lv_iadd hx hb dX10_who_163 ?_
                                  refine lv_istore (lv' := [(8, .int ((w66xm2 (((64 * (w35xl3 + 1)) + (w42xl4 ||| ((1 : Int32) <<< (w66xl6 &&& 31)))) : Int32).toNatClampNeg) + (w66xm1 (((6 * w35xl3) + w66xl6) : Int32).toNatClampNeg))), (7, .int (w66xm2 (((64 * (w35xl3 + 1)) + (w42xl4 ||| ((1 : Int32) <<< (w66xl6 &&& 31)))) : Int32).toNatClampNeg)), (6, .int w66xl6), (5, .int w66xl5), (4, .int w42xl4), (3, .int w35xl3), (0, .ref h), (1, .int m_), (2, .int b_)]) hx hb dX10_who_164 hl (by decide) rfl (fun ls hl => ?_)
                                  refine lv_iload hx hb dX10_who_166 (lv_at hl 0 rfl) ?_
                                  refine lv_iload hx hb dX10_who_168 (lv_at hl 3 rfl) ?_
                                  refine lv_icmp_ge (tgt := 178) hx hb dX10_who_170 (by decide) (fun c_49 => ?_) (fun c_49 => ?_)
                                  · replace hF := hF.1 c_49
                                    rw [if_pos c_49] at hE
                                    refine lv_iload hx hb dX10_who_178 (lv_at hl 3 rfl) ?_
                                    refine lv_istore (lv' := [(5, .int w66xl5), (8, .int ((w66xm2 (((64 * (w35xl3 + 1)) + (w42xl4 ||| ((1 : Int32) <<< (w66xl6 &&& 31)))) : Int32).toNatClampNeg) + (w66xm1 (((6 * w35xl3) + w66xl6) : Int32).toNatClampNeg))), (7, .int (w66xm2 (((64 * (w35xl3 + 1)) + (w42xl4 ||| ((1 : Int32) <<< (w66xl6 &&& 31)))) : Int32).toNatClampNeg)), (6, .int w66xl6), (4, .int w42xl4), (3, .int w35xl3), (0, .ref h), (1, .int m_), (2, .int b_)]) hx hb dX10_who_180 hl (by decide) rfl (fun ls hl => ?_)
                                    refine lv_iinc (v := (w66xl6 + 1)) (lv' := [(6, .int (w66xl6 + 1)), (5, .int w66xl5), (8, .int ((w66xm2 (((64 * (w35xl3 + 1)) + (w42xl4 ||| ((1 : Int32) <<< (w66xl6 &&& 31)))) : Int32).toNatClampNeg) + (w66xm1 (((6 * w35xl3) + w66xl6) : Int32).toNatClampNeg))), (7, .int (w66xm2 (((64 * (w35xl3 + 1)) + (w42xl4 ||| ((1 : Int32) <<< (w66xl6 &&& 31)))) : Int32).toNatClampNeg)), (4, .int w42xl4), (3, .int w35xl3), (0, .ref h), (1, .int m_), (2, .int b_)]) hx hb dX10_who_182 hl (k := 3) rfl rfl (by decide) rfl (fun ls hl => ?_)
                                    refine lv_goto (tgt := 66) hx hb dX10_who_185 (by decide) ?_
                                    exact ih_w66x (w66xl6 + 1) w66xl5 w66xm0 w66xm1 w66xm2 _ _ ls hP hD hS (lv_sub hl [0, 1, 4, 5, 6, 7, 8] rfl) hF hE
                                  · replace hF := hF.2 c_49
                                    rw [if_neg c_49] at hE
                                    refine lv_iload hx hb dX10_who_173 (lv_at hl 0 rfl) ?_
                                    refine lv_goto (tgt := 180) hx hb dX10_who_175 (by decide) ?_
                                    refine lv_istore (lv' := [(5, .int ((w66xm2 (((64 * (w35xl3 + 1)) + (w42xl4 ||| ((1 : Int32) <<< (w66xl6 &&& 31)))) : Int32).toNatClampNeg) + (w66xm1 (((6 * w35xl3) + w66xl6) : Int32).toNatClampNeg))), (8, .int ((w66xm2 (((64 * (w35xl3 + 1)) + (w42xl4 ||| ((1 : Int32) <<< (w66xl6 &&& 31)))) : Int32).toNatClampNeg) + (w66xm1 (((6 * w35xl3) + w66xl6) : Int32).toNatClampNeg))), (7, .int (w66xm2 (((64 * (w35xl3 + 1)) + (w42xl4 ||| ((1 : Int32) <<< (w66xl6 &&& 31)))) : Int32).toNatClampNeg)), (6, .int w66xl6), (4, .int w42xl4), (3, .int w35xl3), (0, .ref h), (1, .int m_), (2, .int b_)]) hx hb dX10_who_180 hl (by decide) rfl (fun ls hl => ?_)
                                    refine lv_iinc (v := (w66xl6 + 1)) (lv' := [(6, .int (w66xl6 + 1)), (5, .int ((w66xm2 (((64 * (w35xl3 + 1)) + (w42xl4 ||| ((1 : Int32) <<< (w66xl6 &&& 31)))) : Int32).toNatClampNeg) + (w66xm1 (((6 * w35xl3) + w66xl6) : Int32).toNatClampNeg))), (8, .int ((w66xm2 (((64 * (w35xl3 + 1)) + (w42xl4 ||| ((1 : Int32) <<< (w66xl6 &&& 31)))) : Int32).toNatClampNeg) + (w66xm1 (((6 * w35xl3) + w66xl6) : Int32).toNatClampNeg))), (7, .int (w66xm2 (((64 * (w35xl3 + 1)) + (w42xl4 ||| ((1 : Int32) <<< (w66xl6 &&& 31)))) : Int32).toNatClampNeg)), (4, .int w42xl4), (3, .int w35xl3), (0, .ref h), (1, .int m_), (2, .int b_)]) hx hb dX10_who_182 hl (k := 3) rfl rfl (by decide) rfl (fun ls hl => ?_)
                                    refine lv_goto (tgt := 66) hx hb dX10_who_185 (by decide) ?_
                                    exact ih_w66x (w66xl6 + 1) ((w66xm2 (((64 * (w35xl3 + 1)) + (w42xl4 ||| ((1 : Int32) <<< (w66xl6 &&& 31)))) : Int32).toNatClampNeg) + (w66xm1 (((6 * w35xl3) + w66xl6) : Int32).toNatClampNeg)) w66xm0 w66xm1 w66xm2 _ _ ls hP hD hS (lv_sub hl [0, 1, 4, 5, 6, 7, 8] rfl) hF hE
                                · replace hF := hF.1 c_47
                                  rw [if_pos c_47] at hE
                                  refine lv_ldcw (v := 1000000000) hx hb hown (hts _ wd_651) dX10_who_143 ?_
                                  refine lv_goto (tgt := 164) hx hb dX10_who_146 (by decide) ?_
                                  refine lv_istore (lv' := [(8, .int 1000000000), (7, .int (w66xm2 (((64 * (w35xl3 + 1)) + (w42xl4 ||| ((1 : Int32) <<< (w66xl6 &&& 31)))) : Int32).toNatClampNeg)), (6, .int w66xl6), (5, .int w66xl5), (4, .int w42xl4), (3, .int w35xl3), (0, .ref h), (1, .int m_), (2, .int b_)]) hx hb dX10_who_164 hl (by decide) rfl (fun ls hl => ?_)
                                  refine lv_iload hx hb dX10_who_166 (lv_at hl 0 rfl) ?_
                                  refine lv_iload hx hb dX10_who_168 (lv_at hl 3 rfl) ?_
                                  refine lv_icmp_ge (tgt := 178) hx hb dX10_who_170 (by decide) (fun c_50 => ?_) (fun c_50 => ?_)
                                  · replace hF := hF.1 c_50
                                    rw [if_pos c_50] at hE
                                    refine lv_iload hx hb dX10_who_178 (lv_at hl 3 rfl) ?_
                                    refine lv_istore (lv' := [(5, .int w66xl5), (8, .int 1000000000), (7, .int (w66xm2 (((64 * (w35xl3 + 1)) + (w42xl4 ||| ((1 : Int32) <<< (w66xl6 &&& 31)))) : Int32).toNatClampNeg)), (6, .int w66xl6), (4, .int w42xl4), (3, .int w35xl3), (0, .ref h), (1, .int m_), (2, .int b_)]) hx hb dX10_who_180 hl (by decide) rfl (fun ls hl => ?_)
                                    refine lv_iinc (v := (w66xl6 + 1)) (lv' := [(6, .int (w66xl6 + 1)), (5, .int w66xl5), (8, .int 1000000000), (7, .int (w66xm2 (((64 * (w35xl3 + 1)) + (w42xl4 ||| ((1 : Int32) <<< (w66xl6 &&& 31)))) : Int32).toNatClampNeg)), (4, .int w42xl4), (3, .int w35xl3), (0, .ref h), (1, .int m_), (2, .int b_)]) hx hb dX10_who_182 hl (k := 3) rfl rfl (by decide) rfl (fun ls hl => ?_)
                                    refine lv_goto (tgt := 66) hx hb dX10_who_185 (by decide) ?_
                                    exact ih_w66x (w66xl6 + 1) w66xl5 w66xm0 w66xm1 w66xm2 _ _ ls hP hD hS (lv_sub hl [0, 1, 4, 5, 6, 7, 8] rfl) hF hE
                                  · replace hF := hF.2 c_50
                                    rw [if_neg c_50] at hE
                                    refine lv_iload hx hb dX10_who_173 (lv_at hl 0 rfl) ?_
                                    refine lv_goto (tgt := 180) hx hb dX10_who_175 (by decide) ?_
                                    refine lv_istore (lv' := [(5, .int 1000000000), (8, .int 1000000000), (7, .int (w66xm2 (((64 * (w35xl3 + 1)) + (w42xl4 ||| ((1 : Int32) <<< (w66xl6 &&& 31)))) : Int32).toNatClampNeg)), (6, .int w66xl6), (4, .int w42xl4), (3, .int w35xl3), (0, .ref h), (1, .int m_), (2, .int b_)]) hx hb dX10_who_180 hl (by decide) rfl (fun ls hl => ?_)
                                    refine lv_iinc (v := (w66xl6 + 1)) (lv' := [(6, .int (w66xl6 + 1)), (5, .int 1000000000), (8, .int 1000000000), (7, .int (w66xm2 (((64 * (w35xl3 + 1)) + (w42xl4 ||| ((1 : Int32) <<< (w66xl6 &&& 31)))) : Int32).toNatClampNeg)), (4, .int w42xl4), (3, .int w35xl3), (0, .ref h), (1, .int m_), (2, .int b_)]) hx hb dX10_who_182 hl (k := 3) rfl rfl (by decide) rfl (fun ls hl => ?_)
                                    refine lv_goto (tgt := 66) hx hb dX10_who_185 (by decide) ?_
                                    exact ih_w66x (w66xl6 + 1) 1000000000 w66xm0 w66xm1 w66xm2 _ _ ls hP hD hS (lv_sub hl [0, 1, 4, 5, 6, 7, 8] rfl) hF hE
                            · replace hF := hF.2 c_42
                              rw [if_neg c_42] at hE
                              refine lv_ldcw (v := 1000000000) hx hb hown (hts _ wd_651) dX10_who_90 ?_
                              refine lv_goto (tgt := 115) hx hb dX10_who_93 (by decide) ?_
                              refine lv_istore (lv' := [(7, .int 1000000000), (6, .int w66xl6), (5, .int w66xl5), (4, .int w42xl4), (3, .int w35xl3), (0, .ref h), (1, .int m_), (2, .int b_)]) hx hb dX10_who_115 hl (by decide) rfl (fun ls hl => ?_)
                              refine lv_iload hx hb dX10_who_117 (lv_at hl 0 rfl) ?_
                              refine lv_ldcw (v := 1000000000) hx hb hown (hts _ wd_651) dX10_who_119 ?_
                              refine lv_icmp_eq (tgt := 143) hx hb dX10_who_122 (by decide) (fun c_51 => ?_) (fun c_51 => absurd (by decide +kernel) c_51)
                              refine lv_ldcw (v := 1000000000) hx hb hown (hts _ wd_651) dX10_who_143 ?_
                              refine lv_goto (tgt := 164) hx hb dX10_who_146 (by decide) ?_
                              refine lv_istore (lv' := [(8, .int 1000000000), (7, .int 1000000000), (6, .int w66xl6), (5, .int w66xl5), (4, .int w42xl4), (3, .int w35xl3), (0, .ref h), (1, .int m_), (2, .int b_)]) hx hb dX10_who_164 hl (by decide) rfl (fun ls hl => ?_)
                              refine lv_iload hx hb dX10_who_166 (lv_at hl 0 rfl) ?_
                              refine lv_iload hx hb dX10_who_168 (lv_at hl 3 rfl) ?_
                              refine lv_icmp_ge (tgt := 178) hx hb dX10_who_170 (by decide) (fun c_52 => ?_) (fun c_52 => ?_)
                              · replace hF := hF.1 c_52
                                rw [if_pos c_52] at hE
                                refine lv_iload hx hb dX10_who_178 (lv_at hl 3 rfl) ?_
                                refine lv_istore (lv' := [(5, .int w66xl5), (8, .int 1000000000), (7, .int 1000000000), (6, .int w66xl6), (4, .int w42xl4), (3, .int w35xl3), (0, .ref h), (1, .int m_), (2, .int b_)]) hx hb dX10_who_180 hl (by decide) rfl (fun ls hl => ?_)
                                refine lv_iinc (v := (w66xl6 + 1)) (lv' := [(6, .int (w66xl6 + 1)), (5, .int w66xl5), (8, .int 1000000000), (7, .int 1000000000), (4, .int w42xl4), (3, .int w35xl3), (0, .ref h), (1, .int m_), (2, .int b_)]) hx hb dX10_who_182 hl (k := 3) rfl rfl (by decide) rfl (fun ls hl => ?_)
                                refine lv_goto (tgt := 66) hx hb dX10_who_185 (by decide) ?_
                                exact ih_w66x (w66xl6 + 1) w66xl5 w66xm0 w66xm1 w66xm2 _ _ ls hP hD hS (lv_sub hl [0, 1, 4, 5, 6, 7, 8] rfl) hF hE
                              · replace hF := hF.2 c_52
                                rw [if_neg c_52] at hE
                                refine lv_iload hx hb dX10_who_173 (lv_at hl 0 rfl) ?_
                                refine lv_goto (tgt := 180) hx hb dX10_who_175 (by decide) ?_
                                refine lv_istore (lv' := [(5, .int 1000000000), (8, .int 1000000000), (7, .int 1000000000), (6, .int w66xl6), (4, .int w42xl4), (3, .int w35xl3), (0, .ref h), (1, .int m_), (2, .int b_)]) hx hb dX10_who_180 hl (by decide) rfl (fun ls hl => ?_)
                                refine lv_iinc (v := (w66xl6 + 1)) (lv' := [(6, .int (w66xl6 + 1)), (5, .int 1000000000), (8, .int 1000000000), (7, .int 1000000000), (4, .int w42xl4), (3, .int w35xl3), (0, .ref h), (1, .int m_), (2, .int b_)]) hx hb dX10_who_182 hl (k := 3) rfl rfl (by decide) rfl (fun ls hl => ?_)
                                refine lv_goto (tgt := 66) hx hb dX10_who_185 (by decide) ?_
                                exact ih_w66x (w66xl6 + 1) 1000000000 w66xm0 w66xm1 w66xm2 _ _ ls hP hD hS (lv_sub hl [0, 1, 4, 5, 6, 7, 8] rfl) hF hE
                    exact lp_66_w66x 10 0 1000000000 w42xm0 w42xm1 w42xm2 _ _ ls hP hD hS hl hF hE
                  · replace hF := hF.2 c_35
                    rw [if_neg c_35] at hE
                    refine lv_iconst (v := 0) hx hb dX10_who_54 (by decide) ?_
                    refine lv_goto (tgt := 61) hx hb dX10_who_55 (by decide) ?_
                    refine lv_istore (lv' := [(5, .int 0), (4, .int w42xl4), (3, .int w35xl3), (0, .ref h), (1, .int m_), (2, .int b_)]) hx hb dX10_who_61 hl (by decide) rfl (fun ls hl => ?_)
                    refine lv_iconst (v := 0) hx hb dX10_who_63 (by decide) ?_
                    refine lv_istore (lv' := [(6, .int 0), (5, .int 0), (4, .int w42xl4), (3, .int w35xl3), (0, .ref h), (1, .int m_), (2, .int b_)]) hx hb dX10_who_64 hl (by decide) rfl (fun ls hl => ?_)
                    have ex_66_w66x : ∀ (w66xl6 : Int32) (w66xl5 : Int32) (w66xm0 : (Nat → Int32)) (w66xm1 : (Nat → Int32)) (w66xm2 : (Nat → Int32)) (H : Heap) (locs : List Loc) (ls : Array Slot), va_P D classes [((Rf 36), .inl (cI, 448, .inl w66xm2)), (h, .inr (10, ML w66xm0 Rf)), ((Rf 0), .inl (cI, 1302, .inl f0)), ((Rf 10), .inl (cI, 30, .inl f10)), ((Rf 8), .inl (cI, 6, .inl f8)), ((Rf 37), .inl (cI, 36, .inl w66xm1))] H → va_D A [((Rf 36), .inl (cI, 448, .inl w66xm2)), (h, .inr (10, ML w66xm0 Rf)), ((Rf 0), .inl (cI, 1302, .inl f0)), ((Rf 10), .inl (cI, 30, .inl f10)), ((Rf 8), .inl (cI, 6, .inl f8)), ((Rf 37), .inl (cI, 36, .inl w66xm1))] → va_S A s.heap H locs → lv_has ls 9 [(6, .int w66xl6), (5, .int w66xl5), (4, .int w42xl4), (3, .int w35xl3), (0, .ref h), (1, .int m_), (2, .int b_)] → ((vp_in ((64 * w35xl3) + w42xl4) 448 ∧ (S_m_who_42 m_ w35xl3 (fun (w42xl4 : Int32) (w42xm0 : (Nat → Int32)) (w42xm1 : (Nat → Int32)) (w42xm2 : (Nat → Int32)) => (S_m_who_35 m_ (fun (w35xl3 : Int32) (w35xm0 : (Nat → Int32)) (w35xm1 : (Nat → Int32)) (w35xm2 : (Nat → Int32)) => (((w35xm2 (0 : Int32).toNatClampNeg) = 1000000000 → (((w35xm2 (0 : Int32).toNatClampNeg) = 1000000000 → True) ∧ (¬ (w35xm2 (0 : Int32).toNatClampNeg) = 1000000000 → True))) ∧ (¬ (w35xm2 (0 : Int32).toNatClampNeg) = 1000000000 → ((b_ = (-1) → (((w35xm2 (0 : Int32).toNatClampNeg) = 1000000000 → True) ∧ (¬ (w35xm2 (0 : Int32).toNatClampNeg) = 1000000000 → True))) ∧ (¬ b_ = (-1) → (S_m_who_262 b_ (fun (w262xl5 : Int32) (w262xl4 : Int32) (w262xl3 : Int32) (w262xm0 : (Nat → Int32)) (w262xm1 : (Nat → Int32)) (w262xm2 : (Nat → Int32)) => True) 10 0 (-1) 0 w35xm0 w35xm1 w35xm2)))))) n_w35x (w35xl3 + (-1)) w42xm0 w42xm1 w42xm2)) n_w42x (w42xl4 + 1) w66xm0 w66xm1 (upd w66xm2 (((64 * w35xl3) + w42xl4) : Int32).toNatClampNeg w66xl5)))) → (((match ((match ((f_m_who_42 m_ w35xl3 n_w42x (w42xl4 + 1) w66xm0 w66xm1 (upd w66xm2 (((64 * w35xl3) + w42xl4) : Int32).toNatClampNeg w66xl5)) : Int32 × (Nat → Int32) × (Nat → Int32) × (Nat → Int32)) with | (w42xl4, w42xm0, w42xm1, w42xm2) => (f_m_who_35 m_ n_w35x (w35xl3 + (-1)) w42xm0 w42xm1 w42xm2)) : Int32 × (Nat → Int32) × (Nat → Int32) × (Nat → Int32)) with | (w35xl3, w35xm0, w35xm1, w35xm2) => (if (w35xm2 (0 : Int32).toNatClampNeg) = 1000000000 then (if (w35xm2 (0 : Int32).toNatClampNeg) = 1000000000 then ((-1), w35xm0, w35xm1, w35xm2) else ((w35xm2 (0 : Int32).toNatClampNeg), w35xm0, w35xm1, w35xm2)) else (if b_ = (-1) then (if (w35xm2 (0 : Int32).toNatClampNeg) = 1000000000 then ((-1), w35xm0, w35xm1, w35xm2) else ((w35xm2 (0 : Int32).toNatClampNeg), w35xm0, w35xm1, w35xm2)) else (match ((f_m_who_262 b_ 10 0 (-1) 0 w35xm0 w35xm1 w35xm2) : Int32 × Int32 × Int32 × (Nat → Int32) × (Nat → Int32) × (Nat → Int32)) with | (w262xl5, w262xl4, w262xl3, w262xm0, w262xm1, w262xm2) => (w262xl4, w262xm0, w262xm1, w262xm2)))))) : Int32 × (Nat → Int32) × (Nat → Int32) × (Nat → Int32)) = RES → W p l e rm_m_who s m args below meth c H locs 0 0 Q (F0 m 188 ls []) := by
                      intro w66xl6 w66xl5 w66xm0 w66xm1 w66xm2 H locs ls hP hD hS hl hF hE
                      refine lv_aload_n hx hb dX10_who_188 rfl (lv_at hl 4 rfl) ?_
                      refine va_get (D := D) (ci := 10) (v := .ref (Rf 36)) (C := RX10) (T := TX10) (N := 45) hx hb hts iX10 hown hK hP 1 rfl rfl 36 (by decide) (hts _ wd_693) (fun _ h9 => h9) rfl dX10_who_189 ?_
                      refine lv_bipush (v := 64) hx hb dX10_who_192 (by decide) ?_
                      refine lv_iload_n hx hb dX10_who_194 rfl (lv_at hl 3 rfl) ?_
                      refine lv_imul hx hb dX10_who_195 ?_
                      refine lv_iload hx hb dX10_who_196 (lv_at hl 2 rfl) ?_
                      refine lv_iadd hx hb dX10_who_198 ?_
                      refine lv_iload hx hb dX10_who_199 (lv_at hl 1 rfl) ?_
                      obtain ⟨hv_53, hF⟩ := hF
                      refine va_iast hx hb hK hP hD hS 0 0 rfl rfl hv_53 dX10_who_201 (fun H locs hP hD hS => ?_)
                      have hP : va_P D classes [((Rf 36), .inl (cI, 448, .inl (upd w66xm2 (((64 * w35xl3) + w42xl4) : Int32).toNatClampNeg w66xl5))), (h, .inr (10, ML w66xm0 Rf)), ((Rf 0), .inl (cI, 1302, .inl f0)), ((Rf 10), .inl (cI, 30, .inl f10)), ((Rf 8), .inl (cI, 6, .inl f8)), ((Rf 37), .inl (cI, 36, .inl w66xm1))] H := hP
                      have hD : va_D A [((Rf 36), .inl (cI, 448, .inl (upd w66xm2 (((64 * w35xl3) + w42xl4) : Int32).toNatClampNeg w66xl5))), (h, .inr (10, ML w66xm0 Rf)), ((Rf 0), .inl (cI, 1302, .inl f0)), ((Rf 10), .inl (cI, 30, .inl f10)), ((Rf 8), .inl (cI, 6, .inl f8)), ((Rf 37), .inl (cI, 36, .inl w66xm1))] := hD
                      refine lv_iinc (v := (w42xl4 + 1)) (lv' := [(4, .int (w42xl4 + 1)), (6, .int w66xl6), (5, .int w66xl5), (3, .int w35xl3), (0, .ref h), (1, .int m_), (2, .int b_)]) hx hb dX10_who_202 hl (k := 2) rfl rfl (by decide) rfl (fun ls hl => ?_)
                      refine lv_goto (tgt := 42) hx hb dX10_who_205 (by decide) ?_
                      exact ih_w42x (w42xl4 + 1) w66xm0 w66xm1 (upd w66xm2 (((64 * w35xl3) + w42xl4) : Int32).toNatClampNeg w66xl5) _ _ ls hP hD hS (lv_sub hl [0, 3, 4, 5, 6] rfl) hF (up_step c_34 hm) hE
                    have lp_66_w66x : ∀ (n_w66x : Nat) (w66xl6 : Int32) (w66xl5 : Int32) (w66xm0 : (Nat → Int32)) (w66xm1 : (Nat → Int32)) (w66xm2 : (Nat → Int32)) (H : Heap) (locs : List Loc) (ls : Array Slot), va_P D classes [((Rf 36), .inl (cI, 448, .inl w66xm2)), (h, .inr (10, ML w66xm0 Rf)), ((Rf 0), .inl (cI, 1302, .inl f0)), ((Rf 10), .inl (cI, 30, .inl f10)), ((Rf 8), .inl (cI, 6, .inl f8)), ((Rf 37), .inl (cI, 36, .inl w66xm1))] H → va_D A [((Rf 36), .inl (cI, 448, .inl w66xm2)), (h, .inr (10, ML w66xm0 Rf)), ((Rf 0), .inl (cI, 1302, .inl f0)), ((Rf 10), .inl (cI, 30, .inl f10)), ((Rf 8), .inl (cI, 6, .inl f8)), ((Rf 37), .inl (cI, 36, .inl w66xm1))] → va_S A s.heap H locs → lv_has ls 9 [(6, .int w66xl6), (5, .int w66xl5), (4, .int w42xl4), (3, .int w35xl3), (0, .ref h), (1, .int m_), (2, .int b_)] → (S_m_who_66 m_ w35xl3 w42xl4 (fun (w66xl6 : Int32) (w66xl5 : Int32) (w66xm0 : (Nat → Int32)) (w66xm1 : (Nat → Int32)) (w66xm2 : (Nat → Int32)) => (vp_in ((64 * w35xl3) + w42xl4) 448 ∧ (S_m_who_42 m_ w35xl3 (fun (w42xl4 : Int32) (w42xm0 : (Nat → Int32)) (w42xm1 : (Nat → Int32)) (w42xm2 : (Nat → Int32)) => (S_m_who_35 m_ (fun (w35xl3 : Int32) (w35xm0 : (Nat → Int32)) (w35xm1 : (Nat → Int32)) (w35xm2 : (Nat → Int32)) => (((w35xm2 (0 : Int32).toNatClampNeg) = 1000000000 → (((w35xm2 (0 : Int32).toNatClampNeg) = 1000000000 → True) ∧ (¬ (w35xm2 (0 : Int32).toNatClampNeg) = 1000000000 → True))) ∧ (¬ (w35xm2 (0 : Int32).toNatClampNeg) = 1000000000 → ((b_ = (-1) → (((w35xm2 (0 : Int32).toNatClampNeg) = 1000000000 → True) ∧ (¬ (w35xm2 (0 : Int32).toNatClampNeg) = 1000000000 → True))) ∧ (¬ b_ = (-1) → (S_m_who_262 b_ (fun (w262xl5 : Int32) (w262xl4 : Int32) (w262xl3 : Int32) (w262xm0 : (Nat → Int32)) (w262xm1 : (Nat → Int32)) (w262xm2 : (Nat → Int32)) => True) 10 0 (-1) 0 w35xm0 w35xm1 w35xm2)))))) n_w35x (w35xl3 + (-1)) w42xm0 w42xm1 w42xm2)) n_w42x (w42xl4 + 1) w66xm0 w66xm1 (upd w66xm2 (((64 * w35xl3) + w42xl4) : Int32).toNatClampNeg w66xl5)))) n_w66x w66xl6 w66xl5 w66xm0 w66xm1 w66xm2) → ((match ((match ((match ((f_m_who_66 m_ w35xl3 w42xl4 n_w66x w66xl6 w66xl5 w66xm0 w66xm1 w66xm2) : Int32 × Int32 × (Nat → Int32) × (Nat → Int32) × (Nat → Int32)) with | (w66xl6, w66xl5, w66xm0, w66xm1, w66xm2) => (f_m_who_42 m_ w35xl3 n_w42x (w42xl4 + 1) w66xm0 w66xm1 (upd w66xm2 (((64 * w35xl3) + w42xl4) : Int32).toNatClampNeg w66xl5))) : Int32 × (Nat → Int32) × (Nat → Int32) × (Nat → Int32)) with | (w42xl4, w42xm0, w42xm1, w42xm2) => (f_m_who_35 m_ n_w35x (w35xl3 + (-1)) w42xm0 w42xm1 w42xm2)) : Int32 × (Nat → Int32) × (Nat → Int32) × (Nat → Int32)) with | (w35xl3, w35xm0, w35xm1, w35xm2) => (if (w35xm2 (0 : Int32).toNatClampNeg) = 1000000000 then (if (w35xm2 (0 : Int32).toNatClampNeg) = 1000000000 then ((-1), w35xm0, w35xm1, w35xm2) else ((w35xm2 (0 : Int32).toNatClampNeg), w35xm0, w35xm1, w35xm2)) else (if b_ = (-1) then (if (w35xm2 (0 : Int32).toNatClampNeg) = 1000000000 then ((-1), w35xm0, w35xm1, w35xm2) else ((w35xm2 (0 : Int32).toNatClampNeg), w35xm0, w35xm1, w35xm2)) else (match ((f_m_who_262 b_ 10 0 (-1) 0 w35xm0 w35xm1 w35xm2) : Int32 × Int32 × Int32 × (Nat → Int32) × (Nat → Int32) × (Nat → Int32)) with | (w262xl5, w262xl4, w262xl3, w262xm0, w262xm1, w262xm2) => (w262xl4, w262xm0, w262xm1, w262xm2))))) : Int32 × (Nat → Int32) × (Nat → Int32) × (Nat → Int32)) = RES → W p l e rm_m_who s m args below meth c H locs 0 0 Q (F0 m 66 ls []) := by
                      intro n_w66x
                      induction n_w66x with
                      | zero => intro w66xl6 w66xl5 w66xm0 w66xm1 w66xm2 H locs ls hP hD hS hl hF hE; exact False.elim hF
                      | succ n_w66x ih_w66x =>
                        intro w66xl6 w66xl5 w66xm0 w66xm1 w66xm2 H locs ls hP hD hS hl hF hE
                        rw [S_m_who_66_s] at hF
                        rw [f_m_who_66_s] at hE
                        refine lv_iload hx hb dX10_who_66 (lv_at hl 0 rfl) ?_
                        refine lv_aload_n hx hb dX10_who_68 rfl (lv_at hl 4 rfl) ?_
                        refine va_get (D := D) (ci := 10) (v := .int (w66xm0 5)) (C := RX10) (T := TX10) (N := 45) hx hb hts iX10 hown hK hP 1 rfl rfl 5 (by decide) (hts _ wd_499) (fun _ h9 => h9) rfl dX10_who_69 ?_
                        refine lv_icmp_ge (tgt := 188) hx hb dX10_who_72 (by decide) (fun c_54 => ?_) (fun c_54 => ?_)
                        · replace hF := hF.1 c_54
                          rw [if_pos c_54] at hE
                          exact ex_66_w66x w66xl6 w66xl5 w66xm0 w66xm1 w66xm2 _ _ ls hP hD hS (lv_sub hl [0, 1, 2, 3, 4, 5, 6] rfl) hF hE
                        · replace hF := hF.2 c_54
                          rw [if_neg c_54] at hE
                          refine lv_iload_n hx hb dX10_who_75 rfl (lv_at hl 3 rfl) ?_
                          refine lv_iload_n hx hb dX10_who_76 rfl (lv_at hl 5 rfl) ?_
                          refine lv_icmp_gt (tgt := 188) hx hb dX10_who_77 (by decide) (fun c_55 => ?_) (fun c_55 => ?_)
                          · replace hF := hF.1 c_55
                            rw [if_pos c_55] at hE
                            exact ex_66_w66x w66xl6 w66xl5 w66xm0 w66xm1 w66xm2 _ _ ls hP hD hS (lv_sub hl [0, 1, 2, 3, 4, 5, 6] rfl) hF hE
                          · replace hF := hF.2 c_55
                            rw [if_neg c_55] at hE
                            refine lv_iload hx hb dX10_who_80 (lv_at hl 2 rfl) ?_
                            refine lv_iload hx hb dX10_who_82 (lv_at hl 0 rfl) ?_
                            obtain ⟨hs_56, hF⟩ := hF
                            refine cSi (wr := [((Rf 36), .inl (cI, 448, .inl w66xm2)), (h, .inr (10, ML w66xm0 Rf)), ((Rf 0), .inl (cI, 1302, .inl f0)), ((Rf 10), .inl (cI, 30, .inl f10)), ((Rf 8), .inl (cI, 6, .inl f8)), ((Rf 37), .inl (cI, 36, .inl w66xm1))]) (rest := []) (m_has w42xl4 w66xl6 hs_56) okS_X10_has wd_502 hx hb hml hown hts hK hP hD hS hA hN hl.1 [] [0, 1, 2, 3, 4, 5] rfl rfl rfl rfl (by decide) rfl (Nat.le_of_ble_eq_true rfl) (Nat.le_of_ble_eq_true rfl) (Nat.le_of_ble_eq_true rfl) (Nat.le_of_ble_eq_true rfl) (Nat.le_of_ble_eq_true rfl) dX10_who_84 (fun r_58 u_57 H locs hw_u_57 hP hD hS => ?_)
                            replace hw_u_57 : r_58 = (f_m_has w42xl4 w66xl6) := hw_u_57
                            rw [hw_u_57]
                            clear hw_u_57
                            have hP : va_P D classes [((Rf 36), .inl (cI, 448, .inl w66xm2)), (h, .inr (10, ML w66xm0 Rf)), ((Rf 0), .inl (cI, 1302, .inl f0)), ((Rf 10), .inl (cI, 30, .inl f10)), ((Rf 8), .inl (cI, 6, .inl f8)), ((Rf 37), .inl (cI, 36, .inl w66xm1))] H := hP
                            have hD : va_D A [((Rf 36), .inl (cI, 448, .inl w66xm2)), (h, .inr (10, ML w66xm0 Rf)), ((Rf 0), .inl (cI, 1302, .inl f0)), ((Rf 10), .inl (cI, 30, .inl f10)), ((Rf 8), .inl (cI, 6, .inl f8)), ((Rf 37), .inl (cI, 36, .inl w66xm1))] := hD
                            refine lv_if_eq (tgt := 96) hx hb dX10_who_87 (by decide) (fun c_59 => ?_) (fun c_59 => ?_)
                            · replace hF := hF.1 c_59
                              rw [if_pos c_59] at hE
                              refine lv_aload_n hx hb dX10_who_96 rfl (lv_at hl 4 rfl) ?_
                              refine va_get (D := D) (ci := 10) (v := .ref (Rf 36)) (C := RX10) (T := TX10) (N := 45) hx hb hts iX10 hown hK hP 1 rfl rfl 36 (by decide) (hts _ wd_693) (fun _ h9 => h9) rfl dX10_who_97 ?_
                              refine lv_bipush (v := 64) hx hb dX10_who_100 (by decide) ?_
                              refine lv_iload_n hx hb dX10_who_102 rfl (lv_at hl 3 rfl) ?_
                              refine lv_iconst (v := 1) hx hb dX10_who_103 (by decide) ?_
                              refine lv_iadd hx hb dX10_who_104 ?_
                              refine lv_imul hx hb dX10_who_105 ?_
                              refine lv_iload hx hb dX10_who_106 (lv_at hl 2 rfl) ?_
                              refine lv_iconst (v := 1) hx hb dX10_who_108 (by decide) ?_
                              refine lv_iload hx hb dX10_who_109 (lv_at hl 0 rfl) ?_
                              refine lv_ishl hx hb dX10_who_111 ?_
                              refine lv_ior hx hb dX10_who_112 ?_
                              refine lv_iadd hx hb dX10_who_113 ?_
                              obtain ⟨hv_60, hF⟩ := hF
                              refine va_iald hx hb hK hP 0 0 rfl rfl hv_60 dX10_who_114 ?_
                              refine lv_istore (lv' := [(7, .int (w66xm2 (((64 * (w35xl3 + 1)) + (w42xl4 ||| ((1 : Int32) <<< (w66xl6 &&& 31)))) : Int32).toNatClampNeg)), (6, .int w66xl6), (5, .int w66xl5), (4, .int w42xl4), (3, .int w35xl3), (0, .ref h), (1, .int m_), (2, .int b_)]) hx hb dX10_who_115 hl (by decide) rfl (fun ls hl => ?_)
                              refine lv_iload hx hb dX10_who_117 (lv_at hl 0 rfl) ?_
                              refine lv_ldcw (v := 1000000000) hx hb hown (hts _ wd_651) dX10_who_119 ?_
                              refine lv_icmp_eq (tgt := 143) hx hb dX10_who_122 (by decide) (fun c_61 => ?_) (fun c_61 => ?_)
                              · replace hF := hF.1 c_61
                                rw [if_pos c_61] at hE
                                refine lv_ldcw (v := 1000000000) hx hb hown (hts _ wd_651) dX10_who_143 ?_
                                refine lv_goto (tgt := 164) hx hb dX10_who_146 (by decide) ?_
                                refine lv_istore (lv' := [(8, .int 1000000000), (7, .int (w66xm2 (((64 * (w35xl3 + 1)) + (w42xl4 ||| ((1 : Int32) <<< (w66xl6 &&& 31)))) : Int32).toNatClampNeg)), (6, .int w66xl6), (5, .int w66xl5), (4, .int w42xl4), (3, .int w35xl3), (0, .ref h), (1, .int m_), (2, .int b_)]) hx hb dX10_who_164 hl (by decide) rfl (fun ls hl => ?_)
                                refine lv_iload hx hb dX10_who_166 (lv_at hl 0 rfl) ?_
                                refine lv_iload hx hb dX10_who_168 (lv_at hl 3 rfl) ?_
                                refine lv_icmp_ge (tgt := 178) hx hb dX10_who_170 (by decide) (fun c_62 => ?_) (fun c_62 => ?_)
                                · replace hF := hF.1 c_62
                                  rw [if_pos c_62] at hE
                                  refine lv_iload hx hb dX10_who_178 (lv_at hl 3 rfl) ?_
                                  refine lv_istore (lv' := [(5, .int w66xl5), (8, .int 1000000000), (7, .int (w66xm2 (((64 * (w35xl3 + 1)) + (w42xl4 ||| ((1 : Int32) <<< (w66xl6 &&& 31)))) : Int32).toNatClampNeg)), (6, .int w66xl6), (4, .int w42xl4), (3, .int w35xl3), (0, .ref h), (1, .int m_), (2, .int b_)]) hx hb dX10_who_180 hl (by decide) rfl (fun ls hl => ?_)
                                  refine lv_iinc (v := (w66xl6 + 1)) (lv' := [(6, .int (w66xl6 + 1)), (5, .int w66xl5), (8, .int 1000000000), (7, .int (w66xm2 (((64 * (w35xl3 + 1)) + (w42xl4 ||| ((1 : Int32) <<< (w66xl6 &&& 31)))) : Int32).toNatClampNeg)), (4, .int w42xl4), (3, .int w35xl3), (0, .ref h), (1, .int m_), (2, .int b_)]) hx hb dX10_who_182 hl (k := 3) rfl rfl (by decide) rfl (fun ls hl => ?_)
                                  refine lv_goto (tgt := 66) hx hb dX10_who_185 (by decide) ?_
                                  exact ih_w66x (w66xl6 + 1) w66xl5 w66xm0 w66xm1 w66xm2 _ _ ls hP hD hS (lv_sub hl [0, 1, 4, 5, 6, 7, 8] rfl) hF hE
                                · replace hF := hF.2 c_62
                                  rw [if_neg c_62] at hE
                                  refine lv_iload hx hb dX10_who_173 (lv_at hl 0 rfl) ?_
                                  refine lv_goto (tgt := 180) hx hb dX10_who_175 (by decide) ?_
                                  refine lv_istore (lv' := [(5, .int 1000000000), (8, .int 1000000000), (7, .int (w66xm2 (((64 * (w35xl3 + 1)) + (w42xl4 ||| ((1 : Int32) <<< (w66xl6 &&& 31)))) : Int32).toNatClampNeg)), (6, .int w66xl6), (4, .int w42xl4), (3, .int w35xl3), (0, .ref h), (1, .int m_), (2, .int b_)]) hx hb dX10_who_180 hl (by decide) rfl (fun ls hl => ?_)
                                  refine lv_iinc (v := (w66xl6 + 1)) (lv' := [(6, .int (w66xl6 + 1)), (5, .int 1000000000), (8, .int 1000000000), (7, .int (w66xm2 (((64 * (w35xl3 + 1)) + (w42xl4 ||| ((1 : Int32) <<< (w66xl6 &&& 31)))) : Int32).toNatClampNeg)), (4, .int w42xl4), (3, .int w35xl3), (0, .ref h), (1, .int m_), (2, .int b_)]) hx hb dX10_who_182 hl (k := 3) rfl rfl (by decide) rfl (fun ls hl => ?_)
                                  refine lv_goto (tgt := 66) hx hb dX10_who_185 (by decide) ?_
                                  exact ih_w66x (w66xl6 + 1) 1000000000 w66xm0 w66xm1 w66xm2 _ _ ls hP hD hS (lv_sub hl [0, 1, 4, 5, 6, 7, 8] rfl) hF hE
                              · replace hF := hF.2 c_61
                                rw [if_neg c_61] at hE
                                refine lv_aload_n hx hb dX10_who_125 rfl (lv_at hl 5 rfl) ?_
                                refine va_get (D := D) (ci := 10) (v := .ref (Rf 37)) (C := RX10) (T := TX10) (N := 45) hx hb hts iX10 hown hK hP 1 rfl rfl 37 (by decide) (hts _ wd_672) (fun _ h9 => h9) rfl dX10_who_126 ?_
                                refine lv_bipush (v := 6) hx hb dX10_who_129 (by decide) ?_
                                refine lv_iload_n hx hb dX10_who_131 rfl (lv_at hl 4 rfl) ?_
                                refine lv_imul hx hb dX10_who_132 ?_
                                refine lv_iload hx hb dX10_who_133 (lv_at hl 1 rfl) ?_
                                refine lv_iadd hx hb dX10_who_135 ?_
                                obtain ⟨hv_63, hF⟩ := hF
                                refine va_iald hx hb hK hP 5 0 rfl rfl hv_63 dX10_who_136 ?_
                                refine lv_ldcw (v := 1000000000) hx hb hown (hts _ wd_651) dX10_who_137 ?_
                                refine lv_icmp_ne (tgt := 149) hx hb dX10_who_140 (by decide) (fun c_64 => ?_) (fun c_64 => ?_)
                                · replace hF := hF.2 c_64
                                  rw [if_neg c_64] at hE
                                  refine lv_iload hx hb dX10_who_149 (lv_at hl 0 rfl) ?_
                                  refine lv_aload_n hx hb dX10_who_151 rfl (lv_at hl 5 rfl) ?_
                                  refine va_get (D := D) (ci := 10) (v := .ref (Rf 37)) (C := RX10) (T := TX10) (N := 45) hx hb hts iX10 hown hK hP 1 rfl rfl 37 (by decide) (hts _ wd_672) (fun _ h9 => h9) rfl dX10_who_152 ?_
                                  refine lv_bipush (v := 6) hx hb dX10_who_155 (by decide) ?_
                                  refine lv_iload_n hx hb dX10_who_157 rfl (lv_at hl 4 rfl) ?_
                                  refine lv_imul hx hb dX10_who_158 ?_
                                  refine lv_iload hx hb dX10_who_159 (lv_at hl 1 rfl) ?_
                                  refine lv_iadd hx hb dX10_who_161 ?_
                                  obtain ⟨hv_65, hF⟩ := hF
                                  refine va_iald hx hb hK hP 5 0 rfl rfl hv_65 dX10_who_162 ?_
                                  refine lv_iadd hx hb dX10_who_163 ?_
                                  refine lv_istore (lv' := [(8, .int ((w66xm2 (((64 * (w35xl3 + 1)) + (w42xl4 ||| ((1 : Int32) <<< (w66xl6 &&& 31)))) : Int32).toNatClampNeg) + (w66xm1 (((6 * w35xl3) + w66xl6) : Int32).toNatClampNeg))), (7, .int (w66xm2 (((64 * (w35xl3 + 1)) + (w42xl4 ||| ((1 : Int32) <<< (w66xl6 &&& 31)))) : Int32).toNatClampNeg)), (6, .int w66xl6), (5, .int w66xl5), (4, .int w42xl4), (3, .int w35xl3), (0, .ref h), (1, .int m_), (2, .int b_)]) hx hb dX10_who_164 hl (by decide) rfl (fun ls hl => ?_)
                                  refine lv_iload hx hb dX10_who_166 (lv_at hl 0 rfl) ?_
                                  refine lv_iload hx hb dX10_who_168 (lv_at hl 3 rfl) ?_
                                  refine lv_icmp_ge (tgt := 178) hx hb dX10_who_170 (by decide) (fun c_66 => ?_) (fun c_66 => ?_)
                                  · replace hF := hF.1 c_66
                                    rw [if_pos c_66] at hE
                                    refine lv_iload hx hb dX10_who_178 (lv_at hl 3 rfl) ?_
                                    refine lv_istore (lv' := [(5, .int w66xl5), (8, .int ((w66xm2 (((64 * (w35xl3 + 1)) + (w42xl4 ||| ((1 : Int32) <<< (w66xl6 &&& 31)))) : Int32).toNatClampNeg) + (w66xm1 (((6 * w35xl3) + w66xl6) : Int32).toNatClampNeg))), (7, .int (w66xm2 (((64 * (w35xl3 + 1)) + (w42xl4 ||| ((1 : Int32) <<< (w66xl6 &&& 31)))) : Int32).toNatClampNeg)), (6, .int w66xl6), (4, .int w42xl4), (3, .int w35xl3), (0, .ref h), (1, .int m_), (2, .int b_)]) hx hb dX10_who_180 hl (by decide) rfl (fun ls hl => ?_)
                                    refine lv_iinc (v := (w66xl6 + 1)) (lv' := [(6, .int (w66xl6 + 1)), (5, .int w66xl5), (8, .int ((w66xm2 (((64 * (w35xl3 + 1)) + (w42xl4 ||| ((1 : Int32) <<< (w66xl6 &&& 31)))) : Int32).toNatClampNeg) + (w66xm1 (((6 * w35xl3) + w66xl6) : Int32).toNatClampNeg))), (7, .int (w66xm2 (((64 * (w35xl3 + 1)) + (w42xl4 ||| ((1 : Int32) <<< (w66xl6 &&& 31)))) : Int32).toNatClampNeg)), (4, .int w42xl4), (3, .int w35xl3), (0, .ref h), (1, .int m_), (2, .int b_)]) hx hb dX10_who_182 hl (k := 3) rfl rfl (by decide) rfl (fun ls hl => ?_)
                                    refine lv_goto (tgt := 66) hx hb dX10_who_185 (by decide) ?_
                                    exact ih_w66x (w66xl6 + 1) w66xl5 w66xm0 w66xm1 w66xm2 _ _ ls hP hD hS (lv_sub hl [0, 1, 4, 5, 6, 7, 8] rfl) hF hE
                                  · replace hF := hF.2 c_66
                                    rw [if_neg c_66] at hE
                                    refine lv_iload hx hb dX10_who_173 (lv_at hl 0 rfl) ?_
                                    refine lv_goto (tgt := 180) hx hb dX10_who_175 (by decide) ?_
                                    refine lv_istore (lv' := [(5, .int ((w66xm2 (((64 * (w35xl3 + 1)) + (w42xl4 ||| ((1 : Int32) <<< (w66xl6 &&& 31)))) : Int32).toNatClampNeg) + (w66xm1 (((6 * w35xl3) + w66xl6) : Int32).toNatClampNeg))), (8, .int ((w66xm2 (((64 * (w35xl3 + 1)) + (w42xl4 ||| ((1 : Int32) <<< (w66xl6 &&& 31)))) : Int32).toNatClampNeg) + (w66xm1 (((6 * w35xl3) + w66xl6) : Int32).toNatClampNeg))), (7, .int (w66xm2 (((64 * (w35xl3 + 1)) + (w42xl4 ||| ((1 : Int32) <<< (w66xl6 &&& 31)))) : Int32).toNatClampNeg)), (6, .int w66xl6), (4, .int w42xl4), (3, .int w35xl3), (0, .ref h), (1, .int m_), (2, .int b_)]) hx hb dX10_who_180 hl (by decide) rfl (fun ls hl => ?_)
                                    refine lv_iinc (v := (w66xl6 + 1)) (lv' := [(6, .int (w66xl6 + 1)), (5, .int ((w66xm2 (((64 * (w35xl3 + 1)) + (w42xl4 ||| ((1 : Int32) <<< (w66xl6 &&& 31)))) : Int32).toNatClampNeg) + (w66xm1 (((6 * w35xl3) + w66xl6) : Int32).toNatClampNeg))), (8, .int ((w66xm2 (((64 * (w35xl3 + 1)) + (w42xl4 ||| ((1 : Int32) <<< (w66xl6 &&& 31)))) : Int32).toNatClampNeg) + (w66xm1 (((6 * w35xl3) + w66xl6) : Int32).toNatClampNeg))), (7, .int (w66xm2 (((64 * (w35xl3 + 1)) + (w42xl4 ||| ((1 : Int32) <<< (w66xl6 &&& 31)))) : Int32).toNatClampNeg)), (4, .int w42xl4), (3, .int w35xl3), (0, .ref h), (1, .int m_), (2, .int b_)]) hx hb dX10_who_182 hl (k := 3) rfl rfl (by decide) rfl (fun ls hl => ?_)
                                    refine lv_goto (tgt := 66) hx hb dX10_who_185 (by decide) ?_
                                    exact ih_w66x (w66xl6 + 1) ((w66xm2 (((64 * (w35xl3 + 1)) + (w42xl4 ||| ((1 : Int32) <<< (w66xl6 &&& 31)))) : Int32).toNatClampNeg) + (w66xm1 (((6 * w35xl3) + w66xl6) : Int32).toNatClampNeg)) w66xm0 w66xm1 w66xm2 _ _ ls hP hD hS (lv_sub hl [0, 1, 4, 5, 6, 7, 8] rfl) hF hE
                                · replace hF := hF.1 c_64
                                  rw [if_pos c_64] at hE
                                  refine lv_ldcw (v := 1000000000) hx hb hown (hts _ wd_651) dX10_who_143 ?_
                                  refine lv_goto (tgt := 164) hx hb dX10_who_146 (by decide) ?_
                                  refine lv_istore (lv' := [(8, .int 1000000000), (7, .int (w66xm2 (((64 * (w35xl3 + 1)) + (w42xl4 ||| ((1 : Int32) <<< (w66xl6 &&& 31)))) : Int32).toNatClampNeg)), (6, .int w66xl6), (5, .int w66xl5), (4, .int w42xl4), (3, .int w35xl3), (0, .ref h), (1, .int m_), (2, .int b_)]) hx hb dX10_who_164 hl (by decide) rfl (fun ls hl => ?_)
                                  refine lv_iload hx hb dX10_who_166 (lv_at hl 0 rfl) ?_
                                  refine lv_iload hx hb dX10_who_168 (lv_at hl 3 rfl) ?_
                                  refine lv_icmp_ge (tgt := 178) hx hb dX10_who_170 (by decide) (fun c_67 => ?_) (fun c_67 => ?_)
                                  · replace hF := hF.1 c_67
                                    rw [if_pos c_67] at hE
                                    refine lv_iload hx hb dX10_who_178 (lv_at hl 3 rfl) ?_
                                    refine lv_istore (lv' := [(5, .int w66xl5), (8, .int 1000000000), (7, .int (w66xm2 (((64 * (w35xl3 + 1)) + (w42xl4 ||| ((1 : Int32) <<< (w66xl6 &&& 31)))) : Int32).toNatClampNeg)), (6, .int w66xl6), (4, .int w42xl4), (3, .int w35xl3), (0, .ref h), (1, .int m_), (2, .int b_)]) hx hb dX10_who_180 hl (by decide) rfl (fun ls hl => ?_)
                                    refine lv_iinc (v := (w66xl6 + 1)) (lv' := [(6, .int (w66xl6 + 1)), (5, .int w66xl5), (8, .int 1000000000), (7, .int (w66xm2 (((64 * (w35xl3 + 1)) + (w42xl4 ||| ((1 : Int32) <<< (w66xl6 &&& 31)))) : Int32).toNatClampNeg)), (4, .int w42xl4), (3, .int w35xl3), (0, .ref h), (1, .int m_), (2, .int b_)]) hx hb dX10_who_182 hl (k := 3) rfl rfl (by decide) rfl (fun ls hl => ?_)
                                    refine lv_goto (tgt := 66) hx hb dX10_who_185 (by decide) ?_
                                    exact ih_w66x (w66xl6 + 1) w66xl5 w66xm0 w66xm1 w66xm2 _ _ ls hP hD hS (lv_sub hl [0, 1, 4, 5, 6, 7, 8] rfl) hF hE
                                  · replace hF := hF.2 c_67
                                    rw [if_neg c_67] at hE
                                    refine lv_iload hx hb dX10_who_173 (lv_at hl 0 rfl) ?_
                                    refine lv_goto (tgt := 180) hx hb dX10_who_175 (by decide) ?_
                                    refine lv_istore (lv' := [(5, .int 1000000000), (8, .int 1000000000), (7, .int (w66xm2 (((64 * (w35xl3 + 1)) + (w42xl4 ||| ((1 : Int32) <<< (w66xl6 &&& 31)))) : Int32).toNatClampNeg)), (6, .int w66xl6), (4, .int w42xl4), (3, .int w35xl3), (0, .ref h), (1, .int m_), (2, .int b_)]) hx hb dX10_who_180 hl (by decide) rfl (fun ls hl => ?_)
                                    refine lv_iinc (v := (w66xl6 + 1)) (lv' := [(6, .int (w66xl6 + 1)), (5, .int 1000000000), (8, .int 1000000000), (7, .int (w66xm2 (((64 * (w35xl3 + 1)) + (w42xl4 ||| ((1 : Int32) <<< (w66xl6 &&& 31)))) : Int32).toNatClampNeg)), (4, .int w42xl4), (3, .int w35xl3), (0, .ref h), (1, .int m_), (2, .int b_)]) hx hb dX10_who_182 hl (k := 3) rfl rfl (by decide) rfl (fun ls hl => ?_)
                                    refine lv_goto (tgt := 66) hx hb dX10_who_185 (by decide) ?_
                                    exact ih_w66x (w66xl6 + 1) 1000000000 w66xm0 w66xm1 w66xm2 _ _ ls hP hD hS (lv_sub hl [0, 1, 4, 5, 6, 7, 8] rfl) hF hE
                            · replace hF := hF.2 c_59
                              rw [if_neg c_59] at hE
                              refine lv_ldcw (v := 1000000000) hx hb hown (hts _ wd_651) dX10_who_90 ?_
                              refine lv_goto (tgt := 115) hx hb dX10_who_93 (by decide) ?_
                              refine lv_istore (lv' := [(7, .int 1000000000), (6, .int w66xl6), (5, .int w66xl5), (4, .int w42xl4), (3, .int w35xl3), (0, .ref h), (1, .int m_), (2, .int b_)]) hx hb dX10_who_115 hl (by decide) rfl (fun ls hl => ?_)
                              refine lv_iload hx hb dX10_who_117 (lv_at hl 0 rfl) ?_
                              refine lv_ldcw (v := 1000000000) hx hb hown (hts _ wd_651) dX10_who_119 ?_
                              refine lv_icmp_eq (tgt := 143) hx hb dX10_who_122 (by decide) (fun c_68 => ?_) (fun c_68 => absurd (by decide +kernel) c_68)
                              refine lv_ldcw (v := 1000000000) hx hb hown (hts _ wd_651) dX10_who_143 ?_
                              refine lv_goto (tgt := 164) hx hb dX10_who_146 (by decide) ?_
                              refine lv_istore (lv' := [(8, .int 1000000000), (7, .int 1000000000), (6, .int w66xl6), (5, .int w66xl5), (4, .int w42xl4), (3, .int w35xl3), (0, .ref h), (1, .int m_), (2, .int b_)]) hx hb dX10_who_164 hl (by decide) rfl (fun ls hl => ?_)
                              refine lv_iload hx hb dX10_who_166 (lv_at hl 0 rfl) ?_
                              refine lv_iload hx hb dX10_who_168 (lv_at hl 3 rfl) ?_
                              refine lv_icmp_ge (tgt := 178) hx hb dX10_who_170 (by decide) (fun c_69 => ?_) (fun c_69 => ?_)
                              · replace hF := hF.1 c_69
                                rw [if_pos c_69] at hE
                                refine lv_iload hx hb dX10_who_178 (lv_at hl 3 rfl) ?_
                                refine lv_istore (lv' := [(5, .int w66xl5), (8, .int 1000000000), (7, .int 1000000000), (6, .int w66xl6), (4, .int w42xl4), (3, .int w35xl3), (0, .ref h), (1, .int m_), (2, .int b_)]) hx hb dX10_who_180 hl (by decide) rfl (fun ls hl => ?_)
                                refine lv_iinc (v := (w66xl6 + 1)) (lv' := [(6, .int (w66xl6 + 1)), (5, .int w66xl5), (8, .int 1000000000), (7, .int 1000000000), (4, .int w42xl4), (3, .int w35xl3), (0, .ref h), (1, .int m_), (2, .int b_)]) hx hb dX10_who_182 hl (k := 3) rfl rfl (by decide) rfl (fun ls hl => ?_)
                                refine lv_goto (tgt := 66) hx hb dX10_who_185 (by decide) ?_
                                exact ih_w66x (w66xl6 + 1) w66xl5 w66xm0 w66xm1 w66xm2 _ _ ls hP hD hS (lv_sub hl [0, 1, 4, 5, 6, 7, 8] rfl) hF hE
                              · replace hF := hF.2 c_69
                                rw [if_neg c_69] at hE
                                refine lv_iload hx hb dX10_who_173 (lv_at hl 0 rfl) ?_
                                refine lv_goto (tgt := 180) hx hb dX10_who_175 (by decide) ?_
                                refine lv_istore (lv' := [(5, .int 1000000000), (8, .int 1000000000), (7, .int 1000000000), (6, .int w66xl6), (4, .int w42xl4), (3, .int w35xl3), (0, .ref h), (1, .int m_), (2, .int b_)]) hx hb dX10_who_180 hl (by decide) rfl (fun ls hl => ?_)
                                refine lv_iinc (v := (w66xl6 + 1)) (lv' := [(6, .int (w66xl6 + 1)), (5, .int 1000000000), (8, .int 1000000000), (7, .int 1000000000), (4, .int w42xl4), (3, .int w35xl3), (0, .ref h), (1, .int m_), (2, .int b_)]) hx hb dX10_who_182 hl (k := 3) rfl rfl (by decide) rfl (fun ls hl => ?_)
                                refine lv_goto (tgt := 66) hx hb dX10_who_185 (by decide) ?_
                                exact ih_w66x (w66xl6 + 1) 1000000000 w66xm0 w66xm1 w66xm2 _ _ ls hP hD hS (lv_sub hl [0, 1, 4, 5, 6, 7, 8] rfl) hF hE
                    exact lp_66_w66x 10 0 0 w42xm0 w42xm1 w42xm2 _ _ ls hP hD hS hl hF hE
            exact lp_42_w42x (((64 : Int32).toInt - (0 : Int32).toInt).toNat + 1) 0 w35xm0 w35xm1 w35xm2 _ _ ls hP hD hS hl hF (Nat.lt_succ_self _) hE
      exact lp_35_w35x 10 (m_ + 1) o_9 o_10 f36 _ _ ls hP hD hS hl hF hE
    · replace hF := hF.2 c_5
      rw [if_neg c_5] at hE
      refine lv_iload_n hx hb dX10_who_13 rfl (lv_at hl 2 rfl) ?_
      refine lv_i2l (v := b_.toInt64) hx hb dX10_who_14 rfl ?_
      refine lv_lconst (v := 0) hx hb dX10_who_15 (by decide) ?_
      refine lv_iload_n hx hb dX10_who_16 rfl (lv_at hl 1 rfl) ?_
      refine lv_i2l (v := m_.toInt64) hx hb dX10_who_17 rfl ?_
      obtain ⟨hs_70, hF⟩ := hF
      refine cSi (wr := [((Rf 0), .inl (cI, 1302, .inl f0)), ((Rf 10), .inl (cI, 30, .inl f10)), ((Rf 8), .inl (cI, 6, .inl f8)), ((Rf 37), .inl (cI, 36, .inl f37)), ((Rf 36), .inl (cI, 448, .inl f36)), (h, .inr (10, ML G Rf))]) (rest := []) (m_in b_.toInt64 0 m_.toInt64 hs_70) okS_X10_in wd_495 hx hb hml hown hts hK hP hD hS hA hN hl.1 [] [0, 1, 2, 3, 4, 5] rfl rfl rfl rfl (by decide) rfl (Nat.le_of_ble_eq_true rfl) (Nat.le_of_ble_eq_true rfl) (Nat.le_of_ble_eq_true rfl) (Nat.le_of_ble_eq_true rfl) (Nat.le_of_ble_eq_true rfl) dX10_who_18 (fun r_72 u_71 H locs hw_u_71 hP hD hS => ?_)
      replace hw_u_71 : r_72 = (f_m_in b_.toInt64 0 m_.toInt64) := hw_u_71
      rw [hw_u_71]
      clear hw_u_71
      have hP : va_P D classes [((Rf 0), .inl (cI, 1302, .inl f0)), ((Rf 10), .inl (cI, 30, .inl f10)), ((Rf 8), .inl (cI, 6, .inl f8)), ((Rf 37), .inl (cI, 36, .inl f37)), ((Rf 36), .inl (cI, 448, .inl f36)), (h, .inr (10, ML G Rf))] H := hP
      have hD : va_D A [((Rf 0), .inl (cI, 1302, .inl f0)), ((Rf 10), .inl (cI, 30, .inl f10)), ((Rf 8), .inl (cI, 6, .inl f8)), ((Rf 37), .inl (cI, 36, .inl f37)), ((Rf 36), .inl (cI, 448, .inl f36)), (h, .inr (10, ML G Rf))] := hD
      refine lv_if_ne (tgt := 27) hx hb dX10_who_21 (by decide) (fun c_73 => ?_) (fun c_73 => ?_)
      · replace hF := hF.2 c_73
        rw [if_neg c_73] at hE
        refine lv_aload_n hx hb dX10_who_27 rfl (lv_at hl 0 rfl) ?_
        obtain ⟨hs_74, hF⟩ := hF
        refine cVv (wr := [((Rf 36), .inl (cI, 448, .inl f36))]) (rest := []) (m_layCosts Rf h G f0 f10 f8 f37 hs_74) okV_X10_layCosts wd_689 hx hb hml hown hts hK hP hD hS hA hN hl.1 [5, 0, 1, 2, 3] [4] rfl rfl rfl rfl (by decide) rfl rfl rfl (Nat.le_of_ble_eq_true rfl) (Nat.le_of_ble_eq_true rfl) (Nat.le_of_ble_eq_true rfl) (Nat.le_of_ble_eq_true rfl) (Nat.le_of_ble_eq_true rfl) dX10_who_28 (fun u_75 H locs hw_u_75 hP hD hS => ?_)
        obtain ⟨o_77, o_78⟩ := u_75
        replace hw_u_75 : (o_77, o_78) = (f_m_layCosts G f0 f10 f8 f37) := hw_u_75
        replace hF := hF o_77 o_78 hw_u_75
        rw [← hw_u_75] at hE
        replace hE : ((match ((f_m_who_35 m_ 10 (m_ + 1) o_77 o_78 f36) : Int32 × (Nat → Int32) × (Nat → Int32) × (Nat → Int32)) with | (w35xl3, w35xm0, w35xm1, w35xm2) => (if (w35xm2 (0 : Int32).toNatClampNeg) = 1000000000 then (if (w35xm2 (0 : Int32).toNatClampNeg) = 1000000000 then ((-1), w35xm0, w35xm1, w35xm2) else ((w35xm2 (0 : Int32).toNatClampNeg), w35xm0, w35xm1, w35xm2)) else (if b_ = (-1) then (if (w35xm2 (0 : Int32).toNatClampNeg) = 1000000000 then ((-1), w35xm0, w35xm1, w35xm2) else ((w35xm2 (0 : Int32).toNatClampNeg), w35xm0, w35xm1, w35xm2)) else (match ((f_m_who_262 b_ 10 0 (-1) 0 w35xm0 w35xm1 w35xm2) : Int32 × Int32 × Int32 × (Nat → Int32) × (Nat → Int32) × (Nat → Int32)) with | (w262xl5, w262xl4, w262xl3, w262xm0, w262xm1, w262xm2) => (w262xl4, w262xm0, w262xm1, w262xm2))))) : Int32 × (Nat → Int32) × (Nat → Int32) × (Nat → Int32)) = RES := hE
        have hP : va_P D classes [((Rf 36), .inl (cI, 448, .inl f36)), (h, .inr (10, ML o_77 Rf)), ((Rf 0), .inl (cI, 1302, .inl f0)), ((Rf 10), .inl (cI, 30, .inl f10)), ((Rf 8), .inl (cI, 6, .inl f8)), ((Rf 37), .inl (cI, 36, .inl o_78))] H := hP
        have hD : va_D A [((Rf 36), .inl (cI, 448, .inl f36)), (h, .inr (10, ML o_77 Rf)), ((Rf 0), .inl (cI, 1302, .inl f0)), ((Rf 10), .inl (cI, 30, .inl f10)), ((Rf 8), .inl (cI, 6, .inl f8)), ((Rf 37), .inl (cI, 36, .inl o_78))] := hD
        refine lv_iload_n hx hb dX10_who_31 rfl (lv_at hl 1 rfl) ?_
        refine lv_iconst (v := 1) hx hb dX10_who_32 (by decide) ?_
        refine lv_iadd hx hb dX10_who_33 ?_
        refine lv_istore_n (lv' := [(3, .int (m_ + 1)), (0, .ref h), (1, .int m_), (2, .int b_)]) hx hb dX10_who_34 rfl hl (by decide) rfl (fun ls hl => ?_)
        have ex_35_w35x : ∀ (w35xl3 : Int32) (w35xm0 : (Nat → Int32)) (w35xm1 : (Nat → Int32)) (w35xm2 : (Nat → Int32)) (H : Heap) (locs : List Loc) (ls : Array Slot), va_P D classes [((Rf 36), .inl (cI, 448, .inl w35xm2)), (h, .inr (10, ML w35xm0 Rf)), ((Rf 0), .inl (cI, 1302, .inl f0)), ((Rf 10), .inl (cI, 30, .inl f10)), ((Rf 8), .inl (cI, 6, .inl f8)), ((Rf 37), .inl (cI, 36, .inl w35xm1))] H → va_D A [((Rf 36), .inl (cI, 448, .inl w35xm2)), (h, .inr (10, ML w35xm0 Rf)), ((Rf 0), .inl (cI, 1302, .inl f0)), ((Rf 10), .inl (cI, 30, .inl f10)), ((Rf 8), .inl (cI, 6, .inl f8)), ((Rf 37), .inl (cI, 36, .inl w35xm1))] → va_S A s.heap H locs → lv_has ls 9 [(3, .int w35xl3), (0, .ref h), (1, .int m_), (2, .int b_)] → ((((w35xm2 (0 : Int32).toNatClampNeg) = 1000000000 → (((w35xm2 (0 : Int32).toNatClampNeg) = 1000000000 → True) ∧ (¬ (w35xm2 (0 : Int32).toNatClampNeg) = 1000000000 → True))) ∧ (¬ (w35xm2 (0 : Int32).toNatClampNeg) = 1000000000 → ((b_ = (-1) → (((w35xm2 (0 : Int32).toNatClampNeg) = 1000000000 → True) ∧ (¬ (w35xm2 (0 : Int32).toNatClampNeg) = 1000000000 → True))) ∧ (¬ b_ = (-1) → (S_m_who_262 b_ (fun (w262xl5 : Int32) (w262xl4 : Int32) (w262xl3 : Int32) (w262xm0 : (Nat → Int32)) (w262xm1 : (Nat → Int32)) (w262xm2 : (Nat → Int32)) => True) 10 0 (-1) 0 w35xm0 w35xm1 w35xm2)))))) → (((if (w35xm2 (0 : Int32).toNatClampNeg) = 1000000000 then (if (w35xm2 (0 : Int32).toNatClampNeg) = 1000000000 then ((-1), w35xm0, w35xm1, w35xm2) else ((w35xm2 (0 : Int32).toNatClampNeg), w35xm0, w35xm1, w35xm2)) else (if b_ = (-1) then (if (w35xm2 (0 : Int32).toNatClampNeg) = 1000000000 then ((-1), w35xm0, w35xm1, w35xm2) else ((w35xm2 (0 : Int32).toNatClampNeg), w35xm0, w35xm1, w35xm2)) else (match ((f_m_who_262 b_ 10 0 (-1) 0 w35xm0 w35xm1 w35xm2) : Int32 × Int32 × Int32 × (Nat → Int32) × (Nat → Int32) × (Nat → Int32)) with | (w262xl5, w262xl4, w262xl3, w262xm0, w262xm1, w262xm2) => (w262xl4, w262xm0, w262xm1, w262xm2))))) : Int32 × (Nat → Int32) × (Nat → Int32) × (Nat → Int32)) = RES → W p l e rm_m_who s m args below meth c H locs 0 0 Q (F0 m 214 ls []) := by
          intro w35xl3 w35xm0 w35xm1 w35xm2 H locs ls hP hD hS hl hF hE
          refine lv_aload_n hx hb dX10_who_214 rfl (lv_at hl 1 rfl) ?_
          refine va_get (D := D) (ci := 10) (v := .ref (Rf 36)) (C := RX10) (T := TX10) (N := 45) hx hb hts iX10 hown hK hP 1 rfl rfl 36 (by decide) (hts _ wd_693) (fun _ h9 => h9) rfl dX10_who_215 ?_
          refine lv_iconst (v := 0) hx hb dX10_who_218 (by decide) ?_
          refine va_iald hx hb hK hP 0 0 rfl rfl (show ¬ ((0 : Int32) < 0 ∨ 448 ≤ (0 : Int32).toNatClampNeg) by decide +kernel) dX10_who_219 ?_
          refine lv_ldcw (v := 1000000000) hx hb hown (hts _ wd_651) dX10_who_220 ?_
          refine lv_icmp_eq (tgt := 231) hx hb dX10_who_223 (by decide) (fun c_79 => ?_) (fun c_79 => ?_)
          · replace hF := hF.1 c_79
            rw [if_pos c_79] at hE
            refine lv_aload_n hx hb dX10_who_231 rfl (lv_at hl 1 rfl) ?_
            refine va_get (D := D) (ci := 10) (v := .ref (Rf 36)) (C := RX10) (T := TX10) (N := 45) hx hb hts iX10 hown hK hP 1 rfl rfl 36 (by decide) (hts _ wd_693) (fun _ h9 => h9) rfl dX10_who_232 ?_
            refine lv_iconst (v := 0) hx hb dX10_who_235 (by decide) ?_
            refine va_iald hx hb hK hP 0 0 rfl rfl (show ¬ ((0 : Int32) < 0 ∨ 448 ≤ (0 : Int32).toNatClampNeg) by decide +kernel) dX10_who_236 ?_
            refine lv_ldcw (v := 1000000000) hx hb hown (hts _ wd_651) dX10_who_237 ?_
            refine lv_icmp_ne (tgt := 247) hx hb dX10_who_240 (by decide) (fun c_80 => ?_) (fun c_80 => ?_)
            · replace hF := hF.2 c_80
              rw [if_neg c_80] at hE
              refine lv_aload_n hx hb dX10_who_247 rfl (lv_at hl 1 rfl) ?_
              refine va_get (D := D) (ci := 10) (v := .ref (Rf 36)) (C := RX10) (T := TX10) (N := 45) hx hb hts iX10 hown hK hP 1 rfl rfl 36 (by decide) (hts _ wd_693) (fun _ h9 => h9) rfl dX10_who_248 ?_
              refine lv_iconst (v := 0) hx hb dX10_who_251 (by decide) ?_
              refine va_iald hx hb hK hP 0 0 rfl rfl (show ¬ ((0 : Int32) < 0 ∨ 448 ≤ (0 : Int32).toNatClampNeg) by decide +kernel) dX10_who_252 ?_
              exact hret (w35xm2 (0 : Int32).toNatClampNeg) (w35xm0, w35xm1, w35xm2) _ _ _ _ dX10_who_253 rfl hE (cutP (isC := [1, 2, 3, 4, 5, 0]) hP rfl) (cutD (isC := [1, 2, 3, 4, 5, 0]) hD rfl rfl) hS
            · replace hF := hF.1 c_80
              rw [if_pos c_80] at hE
              refine lv_iconst (v := (-1)) hx hb dX10_who_243 (by decide) ?_
              refine lv_goto (tgt := 253) hx hb dX10_who_244 (by decide) ?_
              exact hret (-1) (w35xm0, w35xm1, w35xm2) _ _ _ _ dX10_who_253 rfl hE (cutP (isC := [1, 2, 3, 4, 5, 0]) hP rfl) (cutD (isC := [1, 2, 3, 4, 5, 0]) hD rfl rfl) hS
          · replace hF := hF.2 c_79
            rw [if_neg c_79] at hE
            refine lv_iload_n hx hb dX10_who_226 rfl (lv_at hl 3 rfl) ?_
            refine lv_iconst (v := (-1)) hx hb dX10_who_227 (by decide) ?_
            refine lv_icmp_ne (tgt := 254) hx hb dX10_who_228 (by decide) (fun c_81 => ?_) (fun c_81 => ?_)
            · replace hF := hF.2 c_81
              rw [if_neg c_81] at hE
              refine lv_iconst (v := 0) hx hb dX10_who_254 (by decide) ?_
              refine lv_istore_n (lv' := [(3, .int 0), (0, .ref h), (1, .int m_), (2, .int b_)]) hx hb dX10_who_255 rfl hl (by decide) rfl (fun ls hl => ?_)
              refine lv_iconst (v := (-1)) hx hb dX10_who_256 (by decide) ?_
              refine lv_istore (lv' := [(4, .int (-1)), (3, .int 0), (0, .ref h), (1, .int m_), (2, .int b_)]) hx hb dX10_who_257 hl (by decide) rfl (fun ls hl => ?_)
              refine lv_iconst (v := 0) hx hb dX10_who_259 (by decide) ?_
              refine lv_istore (lv' := [(5, .int 0), (4, .int (-1)), (3, .int 0), (0, .ref h), (1, .int m_), (2, .int b_)]) hx hb dX10_who_260 hl (by decide) rfl (fun ls hl => ?_)
              have ex_262_w262x : ∀ (w262xl5 : Int32) (w262xl4 : Int32) (w262xl3 : Int32) (w262xm0 : (Nat → Int32)) (w262xm1 : (Nat → Int32)) (w262xm2 : (Nat → Int32)) (H : Heap) (locs : List Loc) (ls : Array Slot), va_P D classes [((Rf 36), .inl (cI, 448, .inl w262xm2)), (h, .inr (10, ML w262xm0 Rf)), ((Rf 0), .inl (cI, 1302, .inl f0)), ((Rf 10), .inl (cI, 30, .inl f10)), ((Rf 8), .inl (cI, 6, .inl f8)), ((Rf 37), .inl (cI, 36, .inl w262xm1))] H → va_D A [((Rf 36), .inl (cI, 448, .inl w262xm2)), (h, .inr (10, ML w262xm0 Rf)), ((Rf 0), .inl (cI, 1302, .inl f0)), ((Rf 10), .inl (cI, 30, .inl f10)), ((Rf 8), .inl (cI, 6, .inl f8)), ((Rf 37), .inl (cI, 36, .inl w262xm1))] → va_S A s.heap H locs → lv_has ls 9 [(5, .int w262xl5), (4, .int w262xl4), (3, .int w262xl3), (0, .ref h), (1, .int m_), (2, .int b_)] → (True) → (((w262xl4, w262xm0, w262xm1, w262xm2)) : Int32 × (Nat → Int32) × (Nat → Int32) × (Nat → Int32)) = RES → W p l e rm_m_who s m args below meth c H locs 0 0 Q (F0 m 425 ls []) := by
                intro w262xl5 w262xl4 w262xl3 w262xm0 w262xm1 w262xm2 H locs ls hP hD hS hl hF hE
                refine lv_iload hx hb dX10_who_425 (lv_at hl 1 rfl) ?_
                exact hret w262xl4 (w262xm0, w262xm1, w262xm2) _ _ _ _ dX10_who_427 rfl hE (cutP (isC := [1, 2, 3, 4, 5, 0]) hP rfl) (cutD (isC := [1, 2, 3, 4, 5, 0]) hD rfl rfl) hS
              have lp_262_w262x : ∀ (n_w262x : Nat) (w262xl5 : Int32) (w262xl4 : Int32) (w262xl3 : Int32) (w262xm0 : (Nat → Int32)) (w262xm1 : (Nat → Int32)) (w262xm2 : (Nat → Int32)) (H : Heap) (locs : List Loc) (ls : Array Slot), va_P D classes [((Rf 36), .inl (cI, 448, .inl w262xm2)), (h, .inr (10, ML w262xm0 Rf)), ((Rf 0), .inl (cI, 1302, .inl f0)), ((Rf 10), .inl (cI, 30, .inl f10)), ((Rf 8), .inl (cI, 6, .inl f8)), ((Rf 37), .inl (cI, 36, .inl w262xm1))] H → va_D A [((Rf 36), .inl (cI, 448, .inl w262xm2)), (h, .inr (10, ML w262xm0 Rf)), ((Rf 0), .inl (cI, 1302, .inl f0)), ((Rf 10), .inl (cI, 30, .inl f10)), ((Rf 8), .inl (cI, 6, .inl f8)), ((Rf 37), .inl (cI, 36, .inl w262xm1))] → va_S A s.heap H locs → lv_has ls 9 [(5, .int w262xl5), (4, .int w262xl4), (3, .int w262xl3), (0, .ref h), (1, .int m_), (2, .int b_)] → (S_m_who_262 b_ (fun (w262xl5 : Int32) (w262xl4 : Int32) (w262xl3 : Int32) (w262xm0 : (Nat → Int32)) (w262xm1 : (Nat → Int32)) (w262xm2 : (Nat → Int32)) => True) n_w262x w262xl5 w262xl4 w262xl3 w262xm0 w262xm1 w262xm2) → ((match ((f_m_who_262 b_ n_w262x w262xl5 w262xl4 w262xl3 w262xm0 w262xm1 w262xm2) : Int32 × Int32 × Int32 × (Nat → Int32) × (Nat → Int32) × (Nat → Int32)) with | (w262xl5, w262xl4, w262xl3, w262xm0, w262xm1, w262xm2) => (w262xl4, w262xm0, w262xm1, w262xm2)) : Int32 × (Nat → Int32) × (Nat → Int32) × (Nat → Int32)) = RES → W p l e rm_m_who s m args below meth c H locs 0 0 Q (F0 m 262 ls []) := by
                intro n_w262x
                induction n_w262x with
                | zero => intro w262xl5 w262xl4 w262xl3 w262xm0 w262xm1 w262xm2 H locs ls hP hD hS hl hF hE; exact False.elim hF
                | succ n_w262x ih_w262x =>
                  intro w262xl5 w262xl4 w262xl3 w262xm0 w262xm1 w262xm2 H locs ls hP hD hS hl hF hE
                  rw [S_m_who_262_s] at hF
                  rw [f_m_who_262_s] at hE
                  refine lv_iload hx hb dX10_who_262 (lv_at hl 0 rfl) ?_
                  refine lv_iload_n hx hb dX10_who_264 rfl (lv_at hl 5 rfl) ?_
                  refine lv_icmp_gt (tgt := 425) hx hb dX10_who_265 (by decide) (fun c_82 => ?_) (fun c_82 => ?_)
                  · replace hF := hF.1 c_82
                    rw [if_pos c_82] at hE
                    exact ex_262_w262x w262xl5 w262xl4 w262xl3 w262xm0 w262xm1 w262xm2 _ _ ls hP hD hS (lv_sub hl [0, 1, 2, 3, 4, 5] rfl) hF hE
                  · replace hF := hF.2 c_82
                    rw [if_neg c_82] at hE
                    refine lv_iconst (v := (-1)) hx hb dX10_who_268 (by decide) ?_
                    refine lv_istore (lv' := [(4, .int (-1)), (5, .int w262xl5), (3, .int w262xl3), (0, .ref h), (1, .int m_), (2, .int b_)]) hx hb dX10_who_269 hl (by decide) rfl (fun ls hl => ?_)
                    refine lv_aload_n hx hb dX10_who_271 rfl (lv_at hl 3 rfl) ?_
                    refine va_get (D := D) (ci := 10) (v := .int (w262xm0 5)) (C := RX10) (T := TX10) (N := 45) hx hb hts iX10 hown hK hP 1 rfl rfl 5 (by decide) (hts _ wd_499) (fun _ h9 => h9) rfl dX10_who_272 ?_
                    refine lv_iconst (v := 1) hx hb dX10_who_275 (by decide) ?_
                    refine lv_isub hx hb dX10_who_276 ?_
                    refine lv_istore (lv' := [(6, .int ((w262xm0 5) - 1)), (4, .int (-1)), (5, .int w262xl5), (3, .int w262xl3), (0, .ref h), (1, .int m_), (2, .int b_)]) hx hb dX10_who_277 hl (by decide) rfl (fun ls hl => ?_)
                    have ex_279_w279x : ∀ (w279xl6 : Int32) (w279xl4 : Int32) (w279xm0 : (Nat → Int32)) (w279xm1 : (Nat → Int32)) (w279xm2 : (Nat → Int32)) (H : Heap) (locs : List Loc) (ls : Array Slot), va_P D classes [((Rf 36), .inl (cI, 448, .inl w279xm2)), (h, .inr (10, ML w279xm0 Rf)), ((Rf 0), .inl (cI, 1302, .inl f0)), ((Rf 10), .inl (cI, 30, .inl f10)), ((Rf 8), .inl (cI, 6, .inl f8)), ((Rf 37), .inl (cI, 36, .inl w279xm1))] H → va_D A [((Rf 36), .inl (cI, 448, .inl w279xm2)), (h, .inr (10, ML w279xm0 Rf)), ((Rf 0), .inl (cI, 1302, .inl f0)), ((Rf 10), .inl (cI, 30, .inl f10)), ((Rf 8), .inl (cI, 6, .inl f8)), ((Rf 37), .inl (cI, 36, .inl w279xm1))] → va_S A s.heap H locs → lv_has ls 9 [(6, .int w279xl6), (4, .int w279xl4), (5, .int w262xl5), (3, .int w262xl3), (0, .ref h), (1, .int m_), (2, .int b_)] → ((S_m_who_262 b_ (fun (w262xl5 : Int32) (w262xl4 : Int32) (w262xl3 : Int32) (w262xm0 : (Nat → Int32)) (w262xm1 : (Nat → Int32)) (w262xm2 : (Nat → Int32)) => True) n_w262x (w262xl5 + 1) w279xl4 (w262xl3 ||| ((1 : Int32) <<< (w279xl4 &&& 31))) w279xm0 w279xm1 w279xm2)) → (((match ((f_m_who_262 b_ n_w262x (w262xl5 + 1) w279xl4 (w262xl3 ||| ((1 : Int32) <<< (w279xl4 &&& 31))) w279xm0 w279xm1 w279xm2) : Int32 × Int32 × Int32 × (Nat → Int32) × (Nat → Int32) × (Nat → Int32)) with | (w262xl5, w262xl4, w262xl3, w262xm0, w262xm1, w262xm2) => (w262xl4, w262xm0, w262xm1, w262xm2))) : Int32 × (Nat → Int32) × (Nat → Int32) × (Nat → Int32)) = RES → W p l e rm_m_who s m args below meth c H locs 0 0 Q (F0 m 412 ls []) := by
                      intro w279xl6 w279xl4 w279xm0 w279xm1 w279xm2 H locs ls hP hD hS hl hF hE
                      refine lv_iload_n hx hb dX10_who_412 rfl (lv_at hl 3 rfl) ?_
                      refine lv_iconst (v := 1) hx hb dX10_who_413 (by decide) ?_
                      refine lv_iload hx hb dX10_who_414 (lv_at hl 1 rfl) ?_
                      refine lv_ishl hx hb dX10_who_416 ?_
                      refine lv_ior hx hb dX10_who_417 ?_
                      refine lv_istore_n (lv' := [(3, .int (w262xl3 ||| ((1 : Int32) <<< (w279xl4 &&& 31)))), (6, .int w279xl6), (4, .int w279xl4), (5, .int w262xl5), (0, .ref h), (1, .int m_), (2, .int b_)]) hx hb dX10_who_418 rfl hl (by decide) rfl (fun ls hl => ?_)
                      refine lv_iinc (v := (w262xl5 + 1)) (lv' := [(5, .int (w262xl5 + 1)), (3, .int (w262xl3 ||| ((1 : Int32) <<< (w279xl4 &&& 31)))), (6, .int w279xl6), (4, .int w279xl4), (0, .ref h), (1, .int m_), (2, .int b_)]) hx hb dX10_who_419 hl (k := 3) rfl rfl (by decide) rfl (fun ls hl => ?_)
                      refine lv_goto (tgt := 262) hx hb dX10_who_422 (by decide) ?_
                      exact ih_w262x (w262xl5 + 1) w279xl4 (w262xl3 ||| ((1 : Int32) <<< (w279xl4 &&& 31))) w279xm0 w279xm1 w279xm2 _ _ ls hP hD hS (lv_sub hl [0, 3, 1, 4, 5, 6] rfl) hF hE
                    have lp_279_w279x : ∀ (n_w279x : Nat) (w279xl6 : Int32) (w279xl4 : Int32) (w279xm0 : (Nat → Int32)) (w279xm1 : (Nat → Int32)) (w279xm2 : (Nat → Int32)) (H : Heap) (locs : List Loc) (ls : Array Slot), va_P D classes [((Rf 36), .inl (cI, 448, .inl w279xm2)), (h, .inr (10, ML w279xm0 Rf)), ((Rf 0), .inl (cI, 1302, .inl f0)), ((Rf 10), .inl (cI, 30, .inl f10)), ((Rf 8), .inl (cI, 6, .inl f8)), ((Rf 37), .inl (cI, 36, .inl w279xm1))] H → va_D A [((Rf 36), .inl (cI, 448, .inl w279xm2)), (h, .inr (10, ML w279xm0 Rf)), ((Rf 0), .inl (cI, 1302, .inl f0)), ((Rf 10), .inl (cI, 30, .inl f10)), ((Rf 8), .inl (cI, 6, .inl f8)), ((Rf 37), .inl (cI, 36, .inl w279xm1))] → va_S A s.heap H locs → lv_has ls 9 [(6, .int w279xl6), (4, .int w279xl4), (5, .int w262xl5), (3, .int w262xl3), (0, .ref h), (1, .int m_), (2, .int b_)] → (S_m_who_279 w262xl5 w262xl3 (fun (w279xl6 : Int32) (w279xl4 : Int32) (w279xm0 : (Nat → Int32)) (w279xm1 : (Nat → Int32)) (w279xm2 : (Nat → Int32)) => (S_m_who_262 b_ (fun (w262xl5 : Int32) (w262xl4 : Int32) (w262xl3 : Int32) (w262xm0 : (Nat → Int32)) (w262xm1 : (Nat → Int32)) (w262xm2 : (Nat → Int32)) => True) n_w262x (w262xl5 + 1) w279xl4 (w262xl3 ||| ((1 : Int32) <<< (w279xl4 &&& 31))) w279xm0 w279xm1 w279xm2)) n_w279x w279xl6 w279xl4 w279xm0 w279xm1 w279xm2) → ((match ((match ((f_m_who_279 w262xl5 w262xl3 n_w279x w279xl6 w279xl4 w279xm0 w279xm1 w279xm2) : Int32 × Int32 × (Nat → Int32) × (Nat → Int32) × (Nat → Int32)) with | (w279xl6, w279xl4, w279xm0, w279xm1, w279xm2) => (f_m_who_262 b_ n_w262x (w262xl5 + 1) w279xl4 (w262xl3 ||| ((1 : Int32) <<< (w279xl4 &&& 31))) w279xm0 w279xm1 w279xm2)) : Int32 × Int32 × Int32 × (Nat → Int32) × (Nat → Int32) × (Nat → Int32)) with | (w262xl5, w262xl4, w262xl3, w262xm0, w262xm1, w262xm2) => (w262xl4, w262xm0, w262xm1, w262xm2)) : Int32 × (Nat → Int32) × (Nat → Int32) × (Nat → Int32)) = RES → W p l e rm_m_who s m args below meth c H locs 0 0 Q (F0 m 279 ls []) := by
                      intro n_w279x
                      induction n_w279x with
                      | zero => intro w279xl6 w279xl4 w279xm0 w279xm1 w279xm2 H locs ls hP hD hS hl hF hE; exact False.elim hF
                      | succ n_w279x ih_w279x =>
                        intro w279xl6 w279xl4 w279xm0 w279xm1 w279xm2 H locs ls hP hD hS hl hF hE
                        rw [S_m_who_279_s] at hF
                        rw [f_m_who_279_s] at hE
                        refine lv_iload hx hb dX10_who_279 (lv_at hl 0 rfl) ?_
                        refine lv_if_lt (tgt := 412) hx hb dX10_who_281 (by decide) (fun c_83 => ?_) (fun c_83 => ?_)
                        · replace hF := hF.1 c_83
                          rw [if_pos c_83] at hE
                          exact ex_279_w279x w279xl6 w279xl4 w279xm0 w279xm1 w279xm2 _ _ ls hP hD hS (lv_sub hl [0, 1, 2, 3, 4, 5, 6] rfl) hF hE
                        · replace hF := hF.2 c_83
                          rw [if_neg c_83] at hE
                          refine lv_iload_n hx hb dX10_who_284 rfl (lv_at hl 3 rfl) ?_
                          refine lv_iload hx hb dX10_who_285 (lv_at hl 0 rfl) ?_
                          obtain ⟨hs_84, hF⟩ := hF
                          refine cSi (wr := [((Rf 36), .inl (cI, 448, .inl w279xm2)), (h, .inr (10, ML w279xm0 Rf)), ((Rf 0), .inl (cI, 1302, .inl f0)), ((Rf 10), .inl (cI, 30, .inl f10)), ((Rf 8), .inl (cI, 6, .inl f8)), ((Rf 37), .inl (cI, 36, .inl w279xm1))]) (rest := []) (m_has w262xl3 w279xl6 hs_84) okS_X10_has wd_502 hx hb hml hown hts hK hP hD hS hA hN hl.1 [] [0, 1, 2, 3, 4, 5] rfl rfl rfl rfl (by decide) rfl (Nat.le_of_ble_eq_true rfl) (Nat.le_of_ble_eq_true rfl) (Nat.le_of_ble_eq_true rfl) (Nat.le_of_ble_eq_true rfl) (Nat.le_of_ble_eq_true rfl) dX10_who_287 (fun r_86 u_85 H locs hw_u_85 hP hD hS => ?_)
                          replace hw_u_85 : r_86 = (f_m_has w262xl3 w279xl6) := hw_u_85
                          rw [hw_u_85]
                          clear hw_u_85
                          have hP : va_P D classes [((Rf 36), .inl (cI, 448, .inl w279xm2)), (h, .inr (10, ML w279xm0 Rf)), ((Rf 0), .inl (cI, 1302, .inl f0)), ((Rf 10), .inl (cI, 30, .inl f10)), ((Rf 8), .inl (cI, 6, .inl f8)), ((Rf 37), .inl (cI, 36, .inl w279xm1))] H := hP
                          have hD : va_D A [((Rf 36), .inl (cI, 448, .inl w279xm2)), (h, .inr (10, ML w279xm0 Rf)), ((Rf 0), .inl (cI, 1302, .inl f0)), ((Rf 10), .inl (cI, 30, .inl f10)), ((Rf 8), .inl (cI, 6, .inl f8)), ((Rf 37), .inl (cI, 36, .inl w279xm1))] := hD
                          refine lv_if_ne (tgt := 341) hx hb dX10_who_290 (by decide) (fun c_87 => ?_) (fun c_87 => ?_)
                          · replace hF := hF.2 c_87
                            rw [if_neg c_87] at hE
                            refine lv_iconst (v := 0) hx hb dX10_who_341 (by decide) ?_
                            refine lv_istore (lv' := [(7, .int 0), (6, .int w279xl6), (4, .int w279xl4), (5, .int w262xl5), (3, .int w262xl3), (0, .ref h), (1, .int m_), (2, .int b_)]) hx hb dX10_who_342 hl (by decide) rfl (fun ls hl => ?_)
                            refine lv_iload hx hb dX10_who_344 (lv_at hl 0 rfl) ?_
                            refine lv_if_eq (tgt := 402) hx hb dX10_who_346 (by decide) (fun c_88 => ?_) (fun c_88 => absurd (by decide +kernel) c_88)
                            refine lv_iload hx hb dX10_who_402 (lv_at hl 2 rfl) ?_
                            refine lv_istore (lv' := [(4, .int w279xl4), (7, .int 0), (6, .int w279xl6), (5, .int w262xl5), (3, .int w262xl3), (0, .ref h), (1, .int m_), (2, .int b_)]) hx hb dX10_who_404 hl (by decide) rfl (fun ls hl => ?_)
                            refine lv_iinc (v := (w279xl6 + (-1))) (lv' := [(6, .int (w279xl6 + (-1))), (4, .int w279xl4), (7, .int 0), (5, .int w262xl5), (3, .int w262xl3), (0, .ref h), (1, .int m_), (2, .int b_)]) hx hb dX10_who_406 hl (k := 2) rfl rfl (by decide) rfl (fun ls hl => ?_)
                            refine lv_goto (tgt := 279) hx hb dX10_who_409 (by decide) ?_
                            exact ih_w279x (w279xl6 + (-1)) w279xl4 w279xm0 w279xm1 w279xm2 _ _ ls hP hD hS (lv_sub hl [0, 1, 3, 4, 5, 6, 7] rfl) hF hE
                          · replace hF := hF.1 c_87
                            rw [if_pos c_87] at hE
                            refine lv_aload_n hx hb dX10_who_293 rfl (lv_at hl 4 rfl) ?_
                            refine va_get (D := D) (ci := 10) (v := .ref (Rf 37)) (C := RX10) (T := TX10) (N := 45) hx hb hts iX10 hown hK hP 1 rfl rfl 37 (by decide) (hts _ wd_672) (fun _ h9 => h9) rfl dX10_who_294 ?_
                            refine lv_bipush (v := 6) hx hb dX10_who_297 (by decide) ?_
                            refine lv_iload hx hb dX10_who_299 (lv_at hl 2 rfl) ?_
                            refine lv_imul hx hb dX10_who_301 ?_
                            refine lv_iload hx hb dX10_who_302 (lv_at hl 0 rfl) ?_
                            refine lv_iadd hx hb dX10_who_304 ?_
                            obtain ⟨hv_89, hF⟩ := hF
                            refine va_iald hx hb hK hP 5 0 rfl rfl hv_89 dX10_who_305 ?_
                            refine lv_ldcw (v := 1000000000) hx hb hown (hts _ wd_651) dX10_who_306 ?_
                            refine lv_icmp_eq (tgt := 341) hx hb dX10_who_309 (by decide) (fun c_90 => ?_) (fun c_90 => ?_)
                            · replace hF := hF.1 c_90
                              rw [if_pos c_90] at hE
                              refine lv_iconst (v := 0) hx hb dX10_who_341 (by decide) ?_
                              refine lv_istore (lv' := [(7, .int 0), (6, .int w279xl6), (4, .int w279xl4), (5, .int w262xl5), (3, .int w262xl3), (0, .ref h), (1, .int m_), (2, .int b_)]) hx hb dX10_who_342 hl (by decide) rfl (fun ls hl => ?_)
                              refine lv_iload hx hb dX10_who_344 (lv_at hl 0 rfl) ?_
                              refine lv_if_eq (tgt := 402) hx hb dX10_who_346 (by decide) (fun c_91 => ?_) (fun c_91 => absurd (by decide +kernel) c_91)
                              refine lv_iload hx hb dX10_who_402 (lv_at hl 2 rfl) ?_
                              refine lv_istore (lv' := [(4, .int w279xl4), (7, .int 0), (6, .int w279xl6), (5, .int w262xl5), (3, .int w262xl3), (0, .ref h), (1, .int m_), (2, .int b_)]) hx hb dX10_who_404 hl (by decide) rfl (fun ls hl => ?_)
                              refine lv_iinc (v := (w279xl6 + (-1))) (lv' := [(6, .int (w279xl6 + (-1))), (4, .int w279xl4), (7, .int 0), (5, .int w262xl5), (3, .int w262xl3), (0, .ref h), (1, .int m_), (2, .int b_)]) hx hb dX10_who_406 hl (k := 2) rfl rfl (by decide) rfl (fun ls hl => ?_)
                              refine lv_goto (tgt := 279) hx hb dX10_who_409 (by decide) ?_
                              exact ih_w279x (w279xl6 + (-1)) w279xl4 w279xm0 w279xm1 w279xm2 _ _ ls hP hD hS (lv_sub hl [0, 1, 3, 4, 5, 6, 7] rfl) hF hE
                            · replace hF := hF.2 c_90
                              rw [if_neg c_90] at hE
                              refine lv_aload_n hx hb dX10_who_312 rfl (lv_at hl 4 rfl) ?_
                              refine va_get (D := D) (ci := 10) (v := .ref (Rf 36)) (C := RX10) (T := TX10) (N := 45) hx hb hts iX10 hown hK hP 1 rfl rfl 36 (by decide) (hts _ wd_693) (fun _ h9 => h9) rfl dX10_who_313 ?_
                              refine lv_bipush (v := 64) hx hb dX10_who_316 (by decide) ?_
                              refine lv_iload hx hb dX10_who_318 (lv_at hl 2 rfl) ?_
                              refine lv_iconst (v := 1) hx hb dX10_who_320 (by decide) ?_
                              refine lv_iadd hx hb dX10_who_321 ?_
                              refine lv_imul hx hb dX10_who_322 ?_
                              refine lv_iload_n hx hb dX10_who_323 rfl (lv_at hl 3 rfl) ?_
                              refine lv_iconst (v := 1) hx hb dX10_who_324 (by decide) ?_
                              refine lv_iload hx hb dX10_who_325 (lv_at hl 0 rfl) ?_
                              refine lv_ishl hx hb dX10_who_327 ?_
                              refine lv_ior hx hb dX10_who_328 ?_
                              refine lv_iadd hx hb dX10_who_329 ?_
                              obtain ⟨hv_92, hF⟩ := hF
                              refine va_iald hx hb hK hP 0 0 rfl rfl hv_92 dX10_who_330 ?_
                              refine lv_ldcw (v := 1000000000) hx hb hown (hts _ wd_651) dX10_who_331 ?_
                              refine lv_icmp_eq (tgt := 341) hx hb dX10_who_334 (by decide) (fun c_93 => ?_) (fun c_93 => ?_)
                              · replace hF := hF.1 c_93
                                rw [if_pos c_93] at hE
                                refine lv_iconst (v := 0) hx hb dX10_who_341 (by decide) ?_
                                refine lv_istore (lv' := [(7, .int 0), (6, .int w279xl6), (4, .int w279xl4), (5, .int w262xl5), (3, .int w262xl3), (0, .ref h), (1, .int m_), (2, .int b_)]) hx hb dX10_who_342 hl (by decide) rfl (fun ls hl => ?_)
                                refine lv_iload hx hb dX10_who_344 (lv_at hl 0 rfl) ?_
                                refine lv_if_eq (tgt := 402) hx hb dX10_who_346 (by decide) (fun c_94 => ?_) (fun c_94 => absurd (by decide +kernel) c_94)
                                refine lv_iload hx hb dX10_who_402 (lv_at hl 2 rfl) ?_
                                refine lv_istore (lv' := [(4, .int w279xl4), (7, .int 0), (6, .int w279xl6), (5, .int w262xl5), (3, .int w262xl3), (0, .ref h), (1, .int m_), (2, .int b_)]) hx hb dX10_who_404 hl (by decide) rfl (fun ls hl => ?_)
                                refine lv_iinc (v := (w279xl6 + (-1))) (lv' := [(6, .int (w279xl6 + (-1))), (4, .int w279xl4), (7, .int 0), (5, .int w262xl5), (3, .int w262xl3), (0, .ref h), (1, .int m_), (2, .int b_)]) hx hb dX10_who_406 hl (k := 2) rfl rfl (by decide) rfl (fun ls hl => ?_)
                                refine lv_goto (tgt := 279) hx hb dX10_who_409 (by decide) ?_
                                exact ih_w279x (w279xl6 + (-1)) w279xl4 w279xm0 w279xm1 w279xm2 _ _ ls hP hD hS (lv_sub hl [0, 1, 3, 4, 5, 6, 7] rfl) hF hE
                              · replace hF := hF.2 c_93
                                rw [if_neg c_93] at hE
                                refine lv_iconst (v := 1) hx hb dX10_who_337 (by decide) ?_
                                refine lv_goto (tgt := 342) hx hb dX10_who_338 (by decide) ?_
                                refine lv_istore (lv' := [(7, .int 1), (6, .int w279xl6), (4, .int w279xl4), (5, .int w262xl5), (3, .int w262xl3), (0, .ref h), (1, .int m_), (2, .int b_)]) hx hb dX10_who_342 hl (by decide) rfl (fun ls hl => ?_)
                                refine lv_iload hx hb dX10_who_344 (lv_at hl 0 rfl) ?_
                                refine lv_if_eq (tgt := 402) hx hb dX10_who_346 (by decide) (fun c_95 => absurd c_95 (by decide +kernel)) (fun c_95 => ?_)
                                refine lv_aload_n hx hb dX10_who_349 rfl (lv_at hl 5 rfl) ?_
                                refine va_get (D := D) (ci := 10) (v := .ref (Rf 37)) (C := RX10) (T := TX10) (N := 45) hx hb hts iX10 hown hK hP 1 rfl rfl 37 (by decide) (hts _ wd_672) (fun _ h9 => h9) rfl dX10_who_350 ?_
                                refine lv_bipush (v := 6) hx hb dX10_who_353 (by decide) ?_
                                refine lv_iload hx hb dX10_who_355 (lv_at hl 3 rfl) ?_
                                refine lv_imul hx hb dX10_who_357 ?_
                                refine lv_iload hx hb dX10_who_358 (lv_at hl 1 rfl) ?_
                                refine lv_iadd hx hb dX10_who_360 ?_
                                obtain ⟨hv_96, hF⟩ := hF
                                refine va_iald hx hb hK hP 5 0 rfl rfl hv_96 dX10_who_361 ?_
                                refine lv_aload_n hx hb dX10_who_362 rfl (lv_at hl 5 rfl) ?_
                                refine va_get (D := D) (ci := 10) (v := .ref (Rf 36)) (C := RX10) (T := TX10) (N := 45) hx hb hts iX10 hown hK hP 1 rfl rfl 36 (by decide) (hts _ wd_693) (fun _ h9 => h9) rfl dX10_who_363 ?_
                                refine lv_bipush (v := 64) hx hb dX10_who_366 (by decide) ?_
                                refine lv_iload hx hb dX10_who_368 (lv_at hl 3 rfl) ?_
                                refine lv_iconst (v := 1) hx hb dX10_who_370 (by decide) ?_
                                refine lv_iadd hx hb dX10_who_371 ?_
                                refine lv_imul hx hb dX10_who_372 ?_
                                refine lv_iload_n hx hb dX10_who_373 rfl (lv_at hl 4 rfl) ?_
                                refine lv_iconst (v := 1) hx hb dX10_who_374 (by decide) ?_
                                refine lv_iload hx hb dX10_who_375 (lv_at hl 1 rfl) ?_
                                refine lv_ishl hx hb dX10_who_377 ?_
                                refine lv_ior hx hb dX10_who_378 ?_
                                refine lv_iadd hx hb dX10_who_379 ?_
                                obtain ⟨hv_97, hF⟩ := hF
                                refine va_iald hx hb hK hP 0 0 rfl rfl hv_97 dX10_who_380 ?_
                                refine lv_iadd hx hb dX10_who_381 ?_
                                refine lv_aload_n hx hb dX10_who_382 rfl (lv_at hl 5 rfl) ?_
                                refine va_get (D := D) (ci := 10) (v := .ref (Rf 36)) (C := RX10) (T := TX10) (N := 45) hx hb hts iX10 hown hK hP 1 rfl rfl 36 (by decide) (hts _ wd_693) (fun _ h9 => h9) rfl dX10_who_383 ?_
                                refine lv_bipush (v := 64) hx hb dX10_who_386 (by decide) ?_
                                refine lv_iload hx hb dX10_who_388 (lv_at hl 3 rfl) ?_
                                refine lv_imul hx hb dX10_who_390 ?_
                                refine lv_iload_n hx hb dX10_who_391 rfl (lv_at hl 4 rfl) ?_
                                refine lv_iadd hx hb dX10_who_392 ?_
                                obtain ⟨hv_98, hF⟩ := hF
                                refine va_iald hx hb hK hP 0 0 rfl rfl hv_98 dX10_who_393 ?_
                                refine lv_icmp_ne (tgt := 402) hx hb dX10_who_394 (by decide) (fun c_99 => ?_) (fun c_99 => ?_)
                                · replace hF := hF.2 c_99
                                  rw [if_neg c_99] at hE
                                  refine lv_iload hx hb dX10_who_402 (lv_at hl 2 rfl) ?_
                                  refine lv_istore (lv' := [(4, .int w279xl4), (7, .int 1), (6, .int w279xl6), (5, .int w262xl5), (3, .int w262xl3), (0, .ref h), (1, .int m_), (2, .int b_)]) hx hb dX10_who_404 hl (by decide) rfl (fun ls hl => ?_)
                                  refine lv_iinc (v := (w279xl6 + (-1))) (lv' := [(6, .int (w279xl6 + (-1))), (4, .int w279xl4), (7, .int 1), (5, .int w262xl5), (3, .int w262xl3), (0, .ref h), (1, .int m_), (2, .int b_)]) hx hb dX10_who_406 hl (k := 2) rfl rfl (by decide) rfl (fun ls hl => ?_)
                                  refine lv_goto (tgt := 279) hx hb dX10_who_409 (by decide) ?_
                                  exact ih_w279x (w279xl6 + (-1)) w279xl4 w279xm0 w279xm1 w279xm2 _ _ ls hP hD hS (lv_sub hl [0, 1, 3, 4, 5, 6, 7] rfl) hF hE
                                · replace hF := hF.1 c_99
                                  rw [if_pos c_99] at hE
                                  refine lv_iload hx hb dX10_who_397 (lv_at hl 1 rfl) ?_
                                  refine lv_goto (tgt := 404) hx hb dX10_who_399 (by decide) ?_
                                  refine lv_istore (lv' := [(4, .int w279xl6), (7, .int 1), (6, .int w279xl6), (5, .int w262xl5), (3, .int w262xl3), (0, .ref h), (1, .int m_), (2, .int b_)]) hx hb dX10_who_404 hl (by decide) rfl (fun ls hl => ?_)
                                  refine lv_iinc (v := (w279xl6 + (-1))) (lv' := [(6, .int (w279xl6 + (-1))), (4, .int w279xl6), (7, .int 1), (5, .int w262xl5), (3, .int w262xl3), (0, .ref h), (1, .int m_), (2, .int b_)]) hx hb dX10_who_406 hl (k := 2) rfl rfl (by decide) rfl (fun ls hl => ?_)
                                  refine lv_goto (tgt := 279) hx hb dX10_who_409 (by decide) ?_
                                  exact ih_w279x (w279xl6 + (-1)) w279xl6 w279xm0 w279xm1 w279xm2 _ _ ls hP hD hS (lv_sub hl [0, 1, 3, 4, 5, 6, 7] rfl) hF hE
                    exact lp_279_w279x 10 ((w262xm0 5) - 1) (-1) w262xm0 w262xm1 w262xm2 _ _ ls hP hD hS hl hF hE
              exact lp_262_w262x 10 0 (-1) 0 w35xm0 w35xm1 w35xm2 _ _ ls hP hD hS hl hF hE
            · replace hF := hF.1 c_81
              rw [if_pos c_81] at hE
              refine lv_aload_n hx hb dX10_who_231 rfl (lv_at hl 1 rfl) ?_
              refine va_get (D := D) (ci := 10) (v := .ref (Rf 36)) (C := RX10) (T := TX10) (N := 45) hx hb hts iX10 hown hK hP 1 rfl rfl 36 (by decide) (hts _ wd_693) (fun _ h9 => h9) rfl dX10_who_232 ?_
              refine lv_iconst (v := 0) hx hb dX10_who_235 (by decide) ?_
              refine va_iald hx hb hK hP 0 0 rfl rfl (show ¬ ((0 : Int32) < 0 ∨ 448 ≤ (0 : Int32).toNatClampNeg) by decide +kernel) dX10_who_236 ?_
              refine lv_ldcw (v := 1000000000) hx hb hown (hts _ wd_651) dX10_who_237 ?_
              refine lv_icmp_ne (tgt := 247) hx hb dX10_who_240 (by decide) (fun c_100 => ?_) (fun c_100 => ?_)
              · replace hF := hF.2 c_100
                rw [if_neg c_100] at hE
                refine lv_aload_n hx hb dX10_who_247 rfl (lv_at hl 1 rfl) ?_
                refine va_get (D := D) (ci := 10) (v := .ref (Rf 36)) (C := RX10) (T := TX10) (N := 45) hx hb hts iX10 hown hK hP 1 rfl rfl 36 (by decide) (hts _ wd_693) (fun _ h9 => h9) rfl dX10_who_248 ?_
                refine lv_iconst (v := 0) hx hb dX10_who_251 (by decide) ?_
                refine va_iald hx hb hK hP 0 0 rfl rfl (show ¬ ((0 : Int32) < 0 ∨ 448 ≤ (0 : Int32).toNatClampNeg) by decide +kernel) dX10_who_252 ?_
                exact hret (w35xm2 (0 : Int32).toNatClampNeg) (w35xm0, w35xm1, w35xm2) _ _ _ _ dX10_who_253 rfl hE (cutP (isC := [1, 2, 3, 4, 5, 0]) hP rfl) (cutD (isC := [1, 2, 3, 4, 5, 0]) hD rfl rfl) hS
              · replace hF := hF.1 c_100
                rw [if_pos c_100] at hE
                refine lv_iconst (v := (-1)) hx hb dX10_who_243 (by decide) ?_
                refine lv_goto (tgt := 253) hx hb dX10_who_244 (by decide) ?_
                exact hret (-1) (w35xm0, w35xm1, w35xm2) _ _ _ _ dX10_who_253 rfl hE (cutP (isC := [1, 2, 3, 4, 5, 0]) hP rfl) (cutD (isC := [1, 2, 3, 4, 5, 0]) hD rfl rfl) hS
        have lp_35_w35x : ∀ (n_w35x : Nat) (w35xl3 : Int32) (w35xm0 : (Nat → Int32)) (w35xm1 : (Nat → Int32)) (w35xm2 : (Nat → Int32)) (H : Heap) (locs : List Loc) (ls : Array Slot), va_P D classes [((Rf 36), .inl (cI, 448, .inl w35xm2)), (h, .inr (10, ML w35xm0 Rf)), ((Rf 0), .inl (cI, 1302, .inl f0)), ((Rf 10), .inl (cI, 30, .inl f10)), ((Rf 8), .inl (cI, 6, .inl f8)), ((Rf 37), .inl (cI, 36, .inl w35xm1))] H → va_D A [((Rf 36), .inl (cI, 448, .inl w35xm2)), (h, .inr (10, ML w35xm0 Rf)), ((Rf 0), .inl (cI, 1302, .inl f0)), ((Rf 10), .inl (cI, 30, .inl f10)), ((Rf 8), .inl (cI, 6, .inl f8)), ((Rf 37), .inl (cI, 36, .inl w35xm1))] → va_S A s.heap H locs → lv_has ls 9 [(3, .int w35xl3), (0, .ref h), (1, .int m_), (2, .int b_)] → (S_m_who_35 m_ (fun (w35xl3 : Int32) (w35xm0 : (Nat → Int32)) (w35xm1 : (Nat → Int32)) (w35xm2 : (Nat → Int32)) => (((w35xm2 (0 : Int32).toNatClampNeg) = 1000000000 → (((w35xm2 (0 : Int32).toNatClampNeg) = 1000000000 → True) ∧ (¬ (w35xm2 (0 : Int32).toNatClampNeg) = 1000000000 → True))) ∧ (¬ (w35xm2 (0 : Int32).toNatClampNeg) = 1000000000 → ((b_ = (-1) → (((w35xm2 (0 : Int32).toNatClampNeg) = 1000000000 → True) ∧ (¬ (w35xm2 (0 : Int32).toNatClampNeg) = 1000000000 → True))) ∧ (¬ b_ = (-1) → (S_m_who_262 b_ (fun (w262xl5 : Int32) (w262xl4 : Int32) (w262xl3 : Int32) (w262xm0 : (Nat → Int32)) (w262xm1 : (Nat → Int32)) (w262xm2 : (Nat → Int32)) => True) 10 0 (-1) 0 w35xm0 w35xm1 w35xm2)))))) n_w35x w35xl3 w35xm0 w35xm1 w35xm2) → ((match ((f_m_who_35 m_ n_w35x w35xl3 w35xm0 w35xm1 w35xm2) : Int32 × (Nat → Int32) × (Nat → Int32) × (Nat → Int32)) with | (w35xl3, w35xm0, w35xm1, w35xm2) => (if (w35xm2 (0 : Int32).toNatClampNeg) = 1000000000 then (if (w35xm2 (0 : Int32).toNatClampNeg) = 1000000000 then ((-1), w35xm0, w35xm1, w35xm2) else ((w35xm2 (0 : Int32).toNatClampNeg), w35xm0, w35xm1, w35xm2)) else (if b_ = (-1) then (if (w35xm2 (0 : Int32).toNatClampNeg) = 1000000000 then ((-1), w35xm0, w35xm1, w35xm2) else ((w35xm2 (0 : Int32).toNatClampNeg), w35xm0, w35xm1, w35xm2)) else (match ((f_m_who_262 b_ 10 0 (-1) 0 w35xm0 w35xm1 w35xm2) : Int32 × Int32 × Int32 × (Nat → Int32) × (Nat → Int32) × (Nat → Int32)) with | (w262xl5, w262xl4, w262xl3, w262xm0, w262xm1, w262xm2) => (w262xl4, w262xm0, w262xm1, w262xm2))))) : Int32 × (Nat → Int32) × (Nat → Int32) × (Nat → Int32)) = RES → W p l e rm_m_who s m args below meth c H locs 0 0 Q (F0 m 35 ls []) := by
          intro n_w35x
          induction n_w35x with
          | zero => intro w35xl3 w35xm0 w35xm1 w35xm2 H locs ls hP hD hS hl hF hE; exact False.elim hF
          | succ n_w35x ih_w35x =>
            intro w35xl3 w35xm0 w35xm1 w35xm2 H locs ls hP hD hS hl hF hE
            rw [S_m_who_35_s] at hF
            rw [f_m_who_35_s] at hE
            refine lv_iload_n hx hb dX10_who_35 rfl (lv_at hl 0 rfl) ?_
            refine lv_if_lt (tgt := 214) hx hb dX10_who_36 (by decide) (fun c_101 => ?_) (fun c_101 => ?_)
            · replace hF := hF.1 c_101
              rw [if_pos c_101] at hE
              exact ex_35_w35x w35xl3 w35xm0 w35xm1 w35xm2 _ _ ls hP hD hS (lv_sub hl [0, 1, 2, 3] rfl) hF hE
            · replace hF := hF.2 c_101
              rw [if_neg c_101] at hE
              refine lv_iconst (v := 0) hx hb dX10_who_39 (by decide) ?_
              refine lv_istore (lv' := [(4, .int 0), (3, .int w35xl3), (0, .ref h), (1, .int m_), (2, .int b_)]) hx hb dX10_who_40 hl (by decide) rfl (fun ls hl => ?_)
              have ex_42_w42x : ∀ (w42xl4 : Int32) (w42xm0 : (Nat → Int32)) (w42xm1 : (Nat → Int32)) (w42xm2 : (Nat → Int32)) (H : Heap) (locs : List Loc) (ls : Array Slot), va_P D classes [((Rf 36), .inl (cI, 448, .inl w42xm2)), (h, .inr (10, ML w42xm0 Rf)), ((Rf 0), .inl (cI, 1302, .inl f0)), ((Rf 10), .inl (cI, 30, .inl f10)), ((Rf 8), .inl (cI, 6, .inl f8)), ((Rf 37), .inl (cI, 36, .inl w42xm1))] H → va_D A [((Rf 36), .inl (cI, 448, .inl w42xm2)), (h, .inr (10, ML w42xm0 Rf)), ((Rf 0), .inl (cI, 1302, .inl f0)), ((Rf 10), .inl (cI, 30, .inl f10)), ((Rf 8), .inl (cI, 6, .inl f8)), ((Rf 37), .inl (cI, 36, .inl w42xm1))] → va_S A s.heap H locs → lv_has ls 9 [(4, .int w42xl4), (3, .int w35xl3), (0, .ref h), (1, .int m_), (2, .int b_)] → ((S_m_who_35 m_ (fun (w35xl3 : Int32) (w35xm0 : (Nat → Int32)) (w35xm1 : (Nat → Int32)) (w35xm2 : (Nat → Int32)) => (((w35xm2 (0 : Int32).toNatClampNeg) = 1000000000 → (((w35xm2 (0 : Int32).toNatClampNeg) = 1000000000 → True) ∧ (¬ (w35xm2 (0 : Int32).toNatClampNeg) = 1000000000 → True))) ∧ (¬ (w35xm2 (0 : Int32).toNatClampNeg) = 1000000000 → ((b_ = (-1) → (((w35xm2 (0 : Int32).toNatClampNeg) = 1000000000 → True) ∧ (¬ (w35xm2 (0 : Int32).toNatClampNeg) = 1000000000 → True))) ∧ (¬ b_ = (-1) → (S_m_who_262 b_ (fun (w262xl5 : Int32) (w262xl4 : Int32) (w262xl3 : Int32) (w262xm0 : (Nat → Int32)) (w262xm1 : (Nat → Int32)) (w262xm2 : (Nat → Int32)) => True) 10 0 (-1) 0 w35xm0 w35xm1 w35xm2)))))) n_w35x (w35xl3 + (-1)) w42xm0 w42xm1 w42xm2)) → (((match ((f_m_who_35 m_ n_w35x (w35xl3 + (-1)) w42xm0 w42xm1 w42xm2) : Int32 × (Nat → Int32) × (Nat → Int32) × (Nat → Int32)) with | (w35xl3, w35xm0, w35xm1, w35xm2) => (if (w35xm2 (0 : Int32).toNatClampNeg) = 1000000000 then (if (w35xm2 (0 : Int32).toNatClampNeg) = 1000000000 then ((-1), w35xm0, w35xm1, w35xm2) else ((w35xm2 (0 : Int32).toNatClampNeg), w35xm0, w35xm1, w35xm2)) else (if b_ = (-1) then (if (w35xm2 (0 : Int32).toNatClampNeg) = 1000000000 then ((-1), w35xm0, w35xm1, w35xm2) else ((w35xm2 (0 : Int32).toNatClampNeg), w35xm0, w35xm1, w35xm2)) else (match ((f_m_who_262 b_ 10 0 (-1) 0 w35xm0 w35xm1 w35xm2) : Int32 × Int32 × Int32 × (Nat → Int32) × (Nat → Int32) × (Nat → Int32)) with | (w262xl5, w262xl4, w262xl3, w262xm0, w262xm1, w262xm2) => (w262xl4, w262xm0, w262xm1, w262xm2)))))) : Int32 × (Nat → Int32) × (Nat → Int32) × (Nat → Int32)) = RES → W p l e rm_m_who s m args below meth c H locs 0 0 Q (F0 m 208 ls []) := by
                intro w42xl4 w42xm0 w42xm1 w42xm2 H locs ls hP hD hS hl hF hE
                refine lv_iinc (v := (w35xl3 + (-1))) (lv' := [(3, .int (w35xl3 + (-1))), (4, .int w42xl4), (0, .ref h), (1, .int m_), (2, .int b_)]) hx hb dX10_who_208 hl (k := 1) rfl rfl (by decide) rfl (fun ls hl => ?_)
                refine lv_goto (tgt := 35) hx hb dX10_who_211 (by decide) ?_
                exact ih_w35x (w35xl3 + (-1)) w42xm0 w42xm1 w42xm2 _ _ ls hP hD hS (lv_sub hl [0, 2, 3, 4] rfl) hF hE
              have lp_42_w42x : ∀ (n_w42x : Nat) (w42xl4 : Int32) (w42xm0 : (Nat → Int32)) (w42xm1 : (Nat → Int32)) (w42xm2 : (Nat → Int32)) (H : Heap) (locs : List Loc) (ls : Array Slot), va_P D classes [((Rf 36), .inl (cI, 448, .inl w42xm2)), (h, .inr (10, ML w42xm0 Rf)), ((Rf 0), .inl (cI, 1302, .inl f0)), ((Rf 10), .inl (cI, 30, .inl f10)), ((Rf 8), .inl (cI, 6, .inl f8)), ((Rf 37), .inl (cI, 36, .inl w42xm1))] H → va_D A [((Rf 36), .inl (cI, 448, .inl w42xm2)), (h, .inr (10, ML w42xm0 Rf)), ((Rf 0), .inl (cI, 1302, .inl f0)), ((Rf 10), .inl (cI, 30, .inl f10)), ((Rf 8), .inl (cI, 6, .inl f8)), ((Rf 37), .inl (cI, 36, .inl w42xm1))] → va_S A s.heap H locs → lv_has ls 9 [(4, .int w42xl4), (3, .int w35xl3), (0, .ref h), (1, .int m_), (2, .int b_)] → (S_m_who_42 m_ w35xl3 (fun (w42xl4 : Int32) (w42xm0 : (Nat → Int32)) (w42xm1 : (Nat → Int32)) (w42xm2 : (Nat → Int32)) => (S_m_who_35 m_ (fun (w35xl3 : Int32) (w35xm0 : (Nat → Int32)) (w35xm1 : (Nat → Int32)) (w35xm2 : (Nat → Int32)) => (((w35xm2 (0 : Int32).toNatClampNeg) = 1000000000 → (((w35xm2 (0 : Int32).toNatClampNeg) = 1000000000 → True) ∧ (¬ (w35xm2 (0 : Int32).toNatClampNeg) = 1000000000 → True))) ∧ (¬ (w35xm2 (0 : Int32).toNatClampNeg) = 1000000000 → ((b_ = (-1) → (((w35xm2 (0 : Int32).toNatClampNeg) = 1000000000 → True) ∧ (¬ (w35xm2 (0 : Int32).toNatClampNeg) = 1000000000 → True))) ∧ (¬ b_ = (-1) → (S_m_who_262 b_ (fun (w262xl5 : Int32) (w262xl4 : Int32) (w262xl3 : Int32) (w262xm0 : (Nat → Int32)) (w262xm1 : (Nat → Int32)) (w262xm2 : (Nat → Int32)) => True) 10 0 (-1) 0 w35xm0 w35xm1 w35xm2)))))) n_w35x (w35xl3 + (-1)) w42xm0 w42xm1 w42xm2)) n_w42x w42xl4 w42xm0 w42xm1 w42xm2) → ((64 : Int32).toInt - (w42xl4 : Int32).toInt).toNat < n_w42x → ((match ((match ((f_m_who_42 m_ w35xl3 n_w42x w42xl4 w42xm0 w42xm1 w42xm2) : Int32 × (Nat → Int32) × (Nat → Int32) × (Nat → Int32)) with | (w42xl4, w42xm0, w42xm1, w42xm2) => (f_m_who_35 m_ n_w35x (w35xl3 + (-1)) w42xm0 w42xm1 w42xm2)) : Int32 × (Nat → Int32) × (Nat → Int32) × (Nat → Int32)) with | (w35xl3, w35xm0, w35xm1, w35xm2) => (if (w35xm2 (0 : Int32).toNatClampNeg) = 1000000000 then (if (w35xm2 (0 : Int32).toNatClampNeg) = 1000000000 then ((-1), w35xm0, w35xm1, w35xm2) else ((w35xm2 (0 : Int32).toNatClampNeg), w35xm0, w35xm1, w35xm2)) else (if b_ = (-1) then (if (w35xm2 (0 : Int32).toNatClampNeg) = 1000000000 then ((-1), w35xm0, w35xm1, w35xm2) else ((w35xm2 (0 : Int32).toNatClampNeg), w35xm0, w35xm1, w35xm2)) else (match ((f_m_who_262 b_ 10 0 (-1) 0 w35xm0 w35xm1 w35xm2) : Int32 × Int32 × Int32 × (Nat → Int32) × (Nat → Int32) × (Nat → Int32)) with | (w262xl5, w262xl4, w262xl3, w262xm0, w262xm1, w262xm2) => (w262xl4, w262xm0, w262xm1, w262xm2))))) : Int32 × (Nat → Int32) × (Nat → Int32) × (Nat → Int32)) = RES → W p l e rm_m_who s m args below meth c H locs 0 0 Q (F0 m 42 ls []) := by
                intro n_w42x
                induction n_w42x with
                | zero => intro w42xl4 w42xm0 w42xm1 w42xm2 H locs ls hP hD hS hl hF hm; exact absurd hm (Nat.not_lt_zero _)
                | succ n_w42x ih_w42x =>
                  intro w42xl4 w42xm0 w42xm1 w42xm2 H locs ls hP hD hS hl hF hm hE
                  rw [S_m_who_42_s] at hF
                  rw [f_m_who_42_s] at hE
                  refine lv_iload hx hb dX10_who_42 (lv_at hl 0 rfl) ?_
                  refine lv_bipush (v := 64) hx hb dX10_who_44 (by decide) ?_
                  refine lv_icmp_ge (tgt := 208) hx hb dX10_who_46 (by decide) (fun c_102 => ?_) (fun c_102 => ?_)
                  · replace hF := hF.1 c_102
                    rw [if_pos c_102] at hE
                    exact ex_42_w42x w42xl4 w42xm0 w42xm1 w42xm2 _ _ ls hP hD hS (lv_sub hl [0, 1, 2, 3, 4] rfl) hF hE
                  · replace hF := hF.2 c_102
                    rw [if_neg c_102] at hE
                    refine lv_iload_n hx hb dX10_who_49 rfl (lv_at hl 1 rfl) ?_
                    refine lv_iload_n hx hb dX10_who_50 rfl (lv_at hl 3 rfl) ?_
                    refine lv_icmp_le (tgt := 58) hx hb dX10_who_51 (by decide) (fun c_103 => ?_) (fun c_103 => ?_)
                    · replace hF := hF.1 c_103
                      rw [if_pos c_103] at hE
                      refine lv_ldcw (v := 1000000000) hx hb hown (hts _ wd_651) dX10_who_58 ?_
                      refine lv_istore (lv' := [(5, .int 1000000000), (4, .int w42xl4), (3, .int w35xl3), (0, .ref h), (1, .int m_), (2, .int b_)]) hx hb dX10_who_61 hl (by decide) rfl (fun ls hl => ?_)
                      refine lv_iconst (v := 0) hx hb dX10_who_63 (by decide) ?_
                      refine lv_istore (lv' := [(6, .int 0), (5, .int 1000000000), (4, .int w42xl4), (3, .int w35xl3), (0, .ref h), (1, .int m_), (2, .int b_)]) hx hb dX10_who_64 hl (by decide) rfl (fun ls hl => ?_)
                      have ex_66_w66x : ∀ (w66xl6 : Int32) (w66xl5 : Int32) (w66xm0 : (Nat → Int32)) (w66xm1 : (Nat → Int32)) (w66xm2 : (Nat → Int32)) (H : Heap) (locs : List Loc) (ls : Array Slot), va_P D classes [((Rf 36), .inl (cI, 448, .inl w66xm2)), (h, .inr (10, ML w66xm0 Rf)), ((Rf 0), .inl (cI, 1302, .inl f0)), ((Rf 10), .inl (cI, 30, .inl f10)), ((Rf 8), .inl (cI, 6, .inl f8)), ((Rf 37), .inl (cI, 36, .inl w66xm1))] H → va_D A [((Rf 36), .inl (cI, 448, .inl w66xm2)), (h, .inr (10, ML w66xm0 Rf)), ((Rf 0), .inl (cI, 1302, .inl f0)), ((Rf 10), .inl (cI, 30, .inl f10)), ((Rf 8), .inl (cI, 6, .inl f8)), ((Rf 37), .inl (cI, 36, .inl w66xm1))] → va_S A s.heap H locs → lv_has ls 9 [(6, .int w66xl6), (5, .int w66xl5), (4, .int w42xl4), (3, .int w35xl3), (0, .ref h), (1, .int m_), (2, .int b_)] → ((vp_in ((64 * w35xl3) + w42xl4) 448 ∧ (S_m_who_42 m_ w35xl3 (fun (w42xl4 : Int32) (w42xm0 : (Nat → Int32)) (w42xm1 : (Nat → Int32)) (w42xm2 : (Nat → Int32)) => (S_m_who_35 m_ (fun (w35xl3 : Int32) (w35xm0 : (Nat → Int32)) (w35xm1 : (Nat → Int32)) (w35xm2 : (Nat → Int32)) => (((w35xm2 (0 : Int32).toNatClampNeg) = 1000000000 → (((w35xm2 (0 : Int32).toNatClampNeg) = 1000000000 → True) ∧ (¬ (w35xm2 (0 : Int32).toNatClampNeg) = 1000000000 → True))) ∧ (¬ (w35xm2 (0 : Int32).toNatClampNeg) = 1000000000 → ((b_ = (-1) → (((w35xm2 (0 : Int32).toNatClampNeg) = 1000000000 → True) ∧ (¬ (w35xm2 (0 : Int32).toNatClampNeg) = 1000000000 → True))) ∧ (¬ b_ = (-1) → (S_m_who_262 b_ (fun (w262xl5 : Int32) (w262xl4 : Int32) (w262xl3 : Int32) (w262xm0 : (Nat → Int32)) (w262xm1 : (Nat → Int32)) (w262xm2 : (Nat → Int32)) => True) 10 0 (-1) 0 w35xm0 w35xm1 w35xm2)))))) n_w35x (w35xl3 + (-1)) w42xm0 w42xm1 w42xm2)) n_w42x (w42xl4 + 1) w66xm0 w66xm1 (upd w66xm2 (((64 * w35xl3) + w42xl4) : Int32).toNatClampNeg w66xl5)))) → (((match ((match ((f_m_who_42 m_ w35xl3 n_w42x (w42xl4 + 1) w66xm0 w66xm1 (upd w66xm2 (((64 * w35xl3) + w42xl4) : Int32).toNatClampNeg w66xl5)) : Int32 × (Nat → Int32) × (Nat → Int32) × (Nat → Int32)) with | (w42xl4, w42xm0, w42xm1, w42xm2) => (f_m_who_35 m_ n_w35x (w35xl3 + (-1)) w42xm0 w42xm1 w42xm2)) : Int32 × (Nat → Int32) × (Nat → Int32) × (Nat → Int32)) with | (w35xl3, w35xm0, w35xm1, w35xm2) => (if (w35xm2 (0 : Int32).toNatClampNeg) = 1000000000 then (if (w35xm2 (0 : Int32).toNatClampNeg) = 1000000000 then ((-1), w35xm0, w35xm1, w35xm2) else ((w35xm2 (0 : Int32).toNatClampNeg), w35xm0, w35xm1, w35xm2)) else (if b_ = (-1) then (if (w35xm2 (0 : Int32).toNatClampNeg) = 1000000000 then ((-1), w35xm0, w35xm1, w35xm2) else ((w35xm2 (0 : Int32).toNatClampNeg), w35xm0, w35xm1, w35xm2)) else (match ((f_m_who_262 b_ 10 0 (-1) 0 w35xm0 w35xm1 w35xm2) : Int32 × Int32 × Int32 × (Nat → Int32) × (Nat → Int32) × (Nat → Int32)) with | (w262xl5, w262xl4, w262xl3, w262xm0, w262xm1, w262xm2) => (w262xl4, w262xm0, w262xm1, w262xm2)))))) : Int32 × (Nat → Int32) × (Nat → Int32) × (Nat → Int32)) = RES → W p l e rm_m_who s m args below meth c H locs 0 0 Q (F0 m 188 ls []) := by
                        intro w66xl6 w66xl5 w66xm0 w66xm1 w66xm2 H locs ls hP hD hS hl hF hE
                        refine lv_aload_n hx hb dX10_who_188 rfl (lv_at hl 4 rfl) ?_
                        refine va_get (D := D) (ci := 10) (v := .ref (Rf 36)) (C := RX10) (T := TX10) (N := 45) hx hb hts iX10 hown hK hP 1 rfl rfl 36 (by decide) (hts _ wd_693) (fun _ h9 => h9) rfl dX10_who_189 ?_
                        refine lv_bipush (v := 64) hx hb dX10_who_192 (by decide) ?_
                        refine lv_iload_n hx hb dX10_who_194 rfl (lv_at hl 3 rfl) ?_
                        refine lv_imul hx hb dX10_who_195 ?_
                        refine lv_iload hx hb dX10_who_196 (lv_at hl 2 rfl) ?_
                        refine lv_iadd hx hb dX10_who_198 ?_
                        refine lv_iload hx hb dX10_who_199 (lv_at hl 1 rfl) ?_
                        obtain ⟨hv_104, hF⟩ := hF
                        refine va_iast hx hb hK hP hD hS 0 0 rfl rfl hv_104 dX10_who_201 (fun H locs hP hD hS => ?_)
                        have hP : va_P D classes [((Rf 36), .inl (cI, 448, .inl (upd w66xm2 (((64 * w35xl3) + w42xl4) : Int32).toNatClampNeg w66xl5))), (h, .inr (10, ML w66xm0 Rf)), ((Rf 0), .inl (cI, 1302, .inl f0)), ((Rf 10), .inl (cI, 30, .inl f10)), ((Rf 8), .inl (cI, 6, .inl f8)), ((Rf 37), .inl (cI, 36, .inl w66xm1))] H := hP
                        have hD : va_D A [((Rf 36), .inl (cI, 448, .inl (upd w66xm2 (((64 * w35xl3) + w42xl4) : Int32).toNatClampNeg w66xl5))), (h, .inr (10, ML w66xm0 Rf)), ((Rf 0), .inl (cI, 1302, .inl f0)), ((Rf 10), .inl (cI, 30, .inl f10)), ((Rf 8), .inl (cI, 6, .inl f8)), ((Rf 37), .inl (cI, 36, .inl w66xm1))] := hD
                        refine lv_iinc (v := (w42xl4 + 1)) (lv' := [(4, .int (w42xl4 + 1)), (6, .int w66xl6), (5, .int w66xl5), (3, .int w35xl3), (0, .ref h), (1, .int m_), (2, .int b_)]) hx hb dX10_who_202 hl (k := 2) rfl rfl (by decide) rfl (fun ls hl => ?_)
                        refine lv_goto (tgt := 42) hx hb dX10_who_205 (by decide) ?_
                        exact ih_w42x (w42xl4 + 1) w66xm0 w66xm1 (upd w66xm2 (((64 * w35xl3) + w42xl4) : Int32).toNatClampNeg w66xl5) _ _ ls hP hD hS (lv_sub hl [0, 3, 4, 5, 6] rfl) hF (up_step c_102 hm) hE
                      have lp_66_w66x : ∀ (n_w66x : Nat) (w66xl6 : Int32) (w66xl5 : Int32) (w66xm0 : (Nat → Int32)) (w66xm1 : (Nat → Int32)) (w66xm2 : (Nat → Int32)) (H : Heap) (locs : List Loc) (ls : Array Slot), va_P D classes [((Rf 36), .inl (cI, 448, .inl w66xm2)), (h, .inr (10, ML w66xm0 Rf)), ((Rf 0), .inl (cI, 1302, .inl f0)), ((Rf 10), .inl (cI, 30, .inl f10)), ((Rf 8), .inl (cI, 6, .inl f8)), ((Rf 37), .inl (cI, 36, .inl w66xm1))] H → va_D A [((Rf 36), .inl (cI, 448, .inl w66xm2)), (h, .inr (10, ML w66xm0 Rf)), ((Rf 0), .inl (cI, 1302, .inl f0)), ((Rf 10), .inl (cI, 30, .inl f10)), ((Rf 8), .inl (cI, 6, .inl f8)), ((Rf 37), .inl (cI, 36, .inl w66xm1))] → va_S A s.heap H locs → lv_has ls 9 [(6, .int w66xl6), (5, .int w66xl5), (4, .int w42xl4), (3, .int w35xl3), (0, .ref h), (1, .int m_), (2, .int b_)] → (S_m_who_66 m_ w35xl3 w42xl4 (fun (w66xl6 : Int32) (w66xl5 : Int32) (w66xm0 : (Nat → Int32)) (w66xm1 : (Nat → Int32)) (w66xm2 : (Nat → Int32)) => (vp_in ((64 * w35xl3) + w42xl4) 448 ∧ (S_m_who_42 m_ w35xl3 (fun (w42xl4 : Int32) (w42xm0 : (Nat → Int32)) (w42xm1 : (Nat → Int32)) (w42xm2 : (Nat → Int32)) => (S_m_who_35 m_ (fun (w35xl3 : Int32) (w35xm0 : (Nat → Int32)) (w35xm1 : (Nat → Int32)) (w35xm2 : (Nat → Int32)) => (((w35xm2 (0 : Int32).toNatClampNeg) = 1000000000 → (((w35xm2 (0 : Int32).toNatClampNeg) = 1000000000 → True) ∧ (¬ (w35xm2 (0 : Int32).toNatClampNeg) = 1000000000 → True))) ∧ (¬ (w35xm2 (0 : Int32).toNatClampNeg) = 1000000000 → ((b_ = (-1) → (((w35xm2 (0 : Int32).toNatClampNeg) = 1000000000 → True) ∧ (¬ (w35xm2 (0 : Int32).toNatClampNeg) = 1000000000 → True))) ∧ (¬ b_ = (-1) → (S_m_who_262 b_ (fun (w262xl5 : Int32) (w262xl4 : Int32) (w262xl3 : Int32) (w262xm0 : (Nat → Int32)) (w262xm1 : (Nat → Int32)) (w262xm2 : (Nat → Int32)) => True) 10 0 (-1) 0 w35xm0 w35xm1 w35xm2)))))) n_w35x (w35xl3 + (-1)) w42xm0 w42xm1 w42xm2)) n_w42x (w42xl4 + 1) w66xm0 w66xm1 (upd w66xm2 (((64 * w35xl3) + w42xl4) : Int32).toNatClampNeg w66xl5)))) n_w66x w66xl6 w66xl5 w66xm0 w66xm1 w66xm2) → ((match ((match ((match ((f_m_who_66 m_ w35xl3 w42xl4 n_w66x w66xl6 w66xl5 w66xm0 w66xm1 w66xm2) : Int32 × Int32 × (Nat → Int32) × (Nat → Int32) × (Nat → Int32)) with | (w66xl6, w66xl5, w66xm0, w66xm1, w66xm2) => (f_m_who_42 m_ w35xl3 n_w42x (w42xl4 + 1) w66xm0 w66xm1 (upd w66xm2 (((64 * w35xl3) + w42xl4) : Int32).toNatClampNeg w66xl5))) : Int32 × (Nat → Int32) × (Nat → Int32) × (Nat → Int32)) with | (w42xl4, w42xm0, w42xm1, w42xm2) => (f_m_who_35 m_ n_w35x (w35xl3 + (-1)) w42xm0 w42xm1 w42xm2)) : Int32 × (Nat → Int32) × (Nat → Int32) × (Nat → Int32)) with | (w35xl3, w35xm0, w35xm1, w35xm2) => (if (w35xm2 (0 : Int32).toNatClampNeg) = 1000000000 then (if (w35xm2 (0 : Int32).toNatClampNeg) = 1000000000 then ((-1), w35xm0, w35xm1, w35xm2) else ((w35xm2 (0 : Int32).toNatClampNeg), w35xm0, w35xm1, w35xm2)) else (if b_ = (-1) then (if (w35xm2 (0 : Int32).toNatClampNeg) = 1000000000 then ((-1), w35xm0, w35xm1, w35xm2) else ((w35xm2 (0 : Int32).toNatClampNeg), w35xm0, w35xm1, w35xm2)) else (match ((f_m_who_262 b_ 10 0 (-1) 0 w35xm0 w35xm1 w35xm2) : Int32 × Int32 × Int32 × (Nat → Int32) × (Nat → Int32) × (Nat → Int32)) with | (w262xl5, w262xl4, w262xl3, w262xm0, w262xm1, w262xm2) => (w262xl4, w262xm0, w262xm1, w262xm2))))) : Int32 × (Nat → Int32) × (Nat → Int32) × (Nat → Int32)) = RES → W p l e rm_m_who s m args below meth c H locs 0 0 Q (F0 m 66 ls []) := by
                        intro n_w66x
                        induction n_w66x with
                        | zero => intro w66xl6 w66xl5 w66xm0 w66xm1 w66xm2 H locs ls hP hD hS hl hF hE; exact False.elim hF
                        | succ n_w66x ih_w66x =>
                          intro w66xl6 w66xl5 w66xm0 w66xm1 w66xm2 H locs ls hP hD hS hl hF hE
                          rw [S_m_who_66_s] at hF
                          rw [f_m_who_66_s] at hE
                          refine lv_iload hx hb dX10_who_66 (lv_at hl 0 rfl) ?_
                          refine lv_aload_n hx hb dX10_who_68 rfl (lv_at hl 4 rfl) ?_
                          refine va_get (D := D) (ci := 10) (v := .int (w66xm0 5)) (C := RX10) (T := TX10) (N := 45) hx hb hts iX10 hown hK hP 1 rfl rfl 5 (by decide) (hts _ wd_499) (fun _ h9 => h9) rfl dX10_who_69 ?_
                          refine lv_icmp_ge (tgt := 188) hx hb dX10_who_72 (by decide) (fun c_105 => ?_) (fun c_105 => ?_)
                          · replace hF := hF.1 c_105
                            rw [if_pos c_105] at hE
                            exact ex_66_w66x w66xl6 w66xl5 w66xm0 w66xm1 w66xm2 _ _ ls hP hD hS (lv_sub hl [0, 1, 2, 3, 4, 5, 6] rfl) hF hE
                          · replace hF := hF.2 c_105
                            rw [if_neg c_105] at hE
                            refine lv_iload_n hx hb dX10_who_75 rfl (lv_at hl 3 rfl) ?_
                            refine lv_iload_n hx hb dX10_who_76 rfl (lv_at hl 5 rfl) ?_
                            refine lv_icmp_gt (tgt := 188) hx hb dX10_who_77 (by decide) (fun c_106 => ?_) (fun c_106 => ?_)
                            · replace hF := hF.1 c_106
                              rw [if_pos c_106] at hE
                              exact ex_66_w66x w66xl6 w66xl5 w66xm0 w66xm1 w66xm2 _ _ ls hP hD hS (lv_sub hl [0, 1, 2, 3, 4, 5, 6] rfl) hF hE
                            · replace hF := hF.2 c_106
                              rw [if_neg c_106] at hE
                              refine lv_iload hx hb dX10_who_80 (lv_at hl 2 rfl) ?_
                              refine lv_iload hx hb dX10_who_82 (lv_at hl 0 rfl) ?_
                              obtain ⟨hs_107, hF⟩ := hF
                              refine cSi (wr := [((Rf 36), .inl (cI, 448, .inl w66xm2)), (h, .inr (10, ML w66xm0 Rf)), ((Rf 0), .inl (cI, 1302, .inl f0)), ((Rf 10), .inl (cI, 30, .inl f10)), ((Rf 8), .inl (cI, 6, .inl f8)), ((Rf 37), .inl (cI, 36, .inl w66xm1))]) (rest := []) (m_has w42xl4 w66xl6 hs_107) okS_X10_has wd_502 hx hb hml hown hts hK hP hD hS hA hN hl.1 [] [0, 1, 2, 3, 4, 5] rfl rfl rfl rfl (by decide) rfl (Nat.le_of_ble_eq_true rfl) (Nat.le_of_ble_eq_true rfl) (Nat.le_of_ble_eq_true rfl) (Nat.le_of_ble_eq_true rfl) (Nat.le_of_ble_eq_true rfl) dX10_who_84 (fun r_109 u_108 H locs hw_u_108 hP hD hS => ?_)
                              replace hw_u_108 : r_109 = (f_m_has w42xl4 w66xl6) := hw_u_108
                              rw [hw_u_108]
                              clear hw_u_108
                              have hP : va_P D classes [((Rf 36), .inl (cI, 448, .inl w66xm2)), (h, .inr (10, ML w66xm0 Rf)), ((Rf 0), .inl (cI, 1302, .inl f0)), ((Rf 10), .inl (cI, 30, .inl f10)), ((Rf 8), .inl (cI, 6, .inl f8)), ((Rf 37), .inl (cI, 36, .inl w66xm1))] H := hP
                              have hD : va_D A [((Rf 36), .inl (cI, 448, .inl w66xm2)), (h, .inr (10, ML w66xm0 Rf)), ((Rf 0), .inl (cI, 1302, .inl f0)), ((Rf 10), .inl (cI, 30, .inl f10)), ((Rf 8), .inl (cI, 6, .inl f8)), ((Rf 37), .inl (cI, 36, .inl w66xm1))] := hD
                              refine lv_if_eq (tgt := 96) hx hb dX10_who_87 (by decide) (fun c_110 => ?_) (fun c_110 => ?_)
                              · replace hF := hF.1 c_110
                                rw [if_pos c_110] at hE
                                refine lv_aload_n hx hb dX10_who_96 rfl (lv_at hl 4 rfl) ?_
                                refine va_get (D := D) (ci := 10) (v := .ref (Rf 36)) (C := RX10) (T := TX10) (N := 45) hx hb hts iX10 hown hK hP 1 rfl rfl 36 (by decide) (hts _ wd_693) (fun _ h9 => h9) rfl dX10_who_97 ?_
                                refine lv_bipush (v := 64) hx hb dX10_who_100 (by decide) ?_
                                refine lv_iload_n hx hb dX10_who_102 rfl (lv_at hl 3 rfl) ?_
                                refine lv_iconst (v := 1) hx hb dX10_who_103 (by decide) ?_
                                refine lv_iadd hx hb dX10_who_104 ?_
                                refine lv_imul hx hb dX10_who_105 ?_
                                refine lv_iload hx hb dX10_who_106 (lv_at hl 2 rfl) ?_
                                refine lv_iconst (v := 1) hx hb dX10_who_108 (by decide) ?_
                                refine lv_iload hx hb dX10_who_109 (lv_at hl 0 rfl) ?_
                                refine lv_ishl hx hb dX10_who_111 ?_
                                refine lv_ior hx hb dX10_who_112 ?_
                                refine lv_iadd hx hb dX10_who_113 ?_
                                obtain ⟨hv_111, hF⟩ := hF
                                refine va_iald hx hb hK hP 0 0 rfl rfl hv_111 dX10_who_114 ?_
                                refine lv_istore (lv' := [(7, .int (w66xm2 (((64 * (w35xl3 + 1)) + (w42xl4 ||| ((1 : Int32) <<< (w66xl6 &&& 31)))) : Int32).toNatClampNeg)), (6, .int w66xl6), (5, .int w66xl5), (4, .int w42xl4), (3, .int w35xl3), (0, .ref h), (1, .int m_), (2, .int b_)]) hx hb dX10_who_115 hl (by decide) rfl (fun ls hl => ?_)
                                refine lv_iload hx hb dX10_who_117 (lv_at hl 0 rfl) ?_
                                refine lv_ldcw (v := 1000000000) hx hb hown (hts _ wd_651) dX10_who_119 ?_
                                refine lv_icmp_eq (tgt := 143) hx hb dX10_who_122 (by decide) (fun c_112 => ?_) (fun c_112 => ?_)
                                · replace hF := hF.1 c_112
                                  rw [if_pos c_112] at hE
                                  refine lv_ldcw (v := 1000000000) hx hb hown (hts _ wd_651) dX10_who_143 ?_
                                  refine lv_goto (tgt := 164) hx hb dX10_who_146 (by decide) ?_
                                  refine lv_istore (lv' := [(8, .int 1000000000), (7, .int (w66xm2 (((64 * (w35xl3 + 1)) + (w42xl4 ||| ((1 : Int32) <<< (w66xl6 &&& 31)))) : Int32).toNatClampNeg)), (6, .int w66xl6), (5, .int w66xl5), (4, .int w42xl4), (3, .int w35xl3), (0, .ref h), (1, .int m_), (2, .int b_)]) hx hb dX10_who_164 hl (by decide) rfl (fun ls hl => ?_)
                                  refine lv_iload hx hb dX10_who_166 (lv_at hl 0 rfl) ?_
                                  refine lv_iload hx hb dX10_who_168 (lv_at hl 3 rfl) ?_
                                  refine lv_icmp_ge (tgt := 178) hx hb dX10_who_170 (by decide) (fun c_113 => ?_) (fun c_113 => ?_)
                                  · replace hF := hF.1 c_113
                                    rw [if_pos c_113] at hE
                                    refine lv_iload hx hb dX10_who_178 (lv_at hl 3 rfl) ?_
                                    refine lv_istore (lv' := [(5, .int w66xl5), (8, .int 1000000000), (7, .int (w66xm2 (((64 * (w35xl3 + 1)) + (w42xl4 ||| ((1 : Int32) <<< (w66xl6 &&& 31)))) : Int32).toNatClampNeg)), (6, .int w66xl6), (4, .int w42xl4), (3, .int w35xl3), (0, .ref h), (1, .int m_), (2, .int b_)]) hx hb dX10_who_180 hl (by decide) rfl (fun ls hl => ?_)
                                    refine lv_iinc (v := (w66xl6 + 1)) (lv' := [(6, .int (w66xl6 + 1)), (5, .int w66xl5), (8, .int 1000000000), (7, .int (w66xm2 (((64 * (w35xl3 + 1)) + (w42xl4 ||| ((1 : Int32) <<< (w66xl6 &&& 31)))) : Int32).toNatClampNeg)), (4, .int w42xl4), (3, .int w35xl3), (0, .ref h), (1, .int m_), (2, .int b_)]) hx hb dX10_who_182 hl (k := 3) rfl rfl (by decide) rfl (fun ls hl => ?_)
                                    refine lv_goto (tgt := 66) hx hb dX10_who_185 (by decide) ?_
                                    exact ih_w66x (w66xl6 + 1) w66xl5 w66xm0 w66xm1 w66xm2 _ _ ls hP hD hS (lv_sub hl [0, 1, 4, 5, 6, 7, 8] rfl) hF hE
                                  · replace hF := hF.2 c_113
                                    rw [if_neg c_113] at hE
                                    refine lv_iload hx hb dX10_who_173 (lv_at hl 0 rfl) ?_
                                    refine lv_goto (tgt := 180) hx hb dX10_who_175 (by decide) ?_
                                    refine lv_istore (lv' := [(5, .int 1000000000), (8, .int 1000000000), (7, .int (w66xm2 (((64 * (w35xl3 + 1)) + (w42xl4 ||| ((1 : Int32) <<< (w66xl6 &&& 31)))) : Int32).toNatClampNeg)), (6, .int w66xl6), (4, .int w42xl4), (3, .int w35xl3), (0, .ref h), (1, .int m_), (2, .int b_)]) hx hb dX10_who_180 hl (by decide) rfl (fun ls hl => ?_)
                                    refine lv_iinc (v := (w66xl6 + 1)) (lv' := [(6, .int (w66xl6 + 1)), (5, .int 1000000000), (8, .int 1000000000), (7, .int (w66xm2 (((64 * (w35xl3 + 1)) + (w42xl4 ||| ((1 : Int32) <<< (w66xl6 &&& 31)))) : Int32).toNatClampNeg)), (4, .int w42xl4), (3, .int w35xl3), (0, .ref h), (1, .int m_), (2, .int b_)]) hx hb dX10_who_182 hl (k := 3) rfl rfl (by decide) rfl (fun ls hl => ?_)
                                    refine lv_goto (tgt := 66) hx hb dX10_who_185 (by decide) ?_
                                    exact ih_w66x (w66xl6 + 1) 1000000000 w66xm0 w66xm1 w66xm2 _ _ ls hP hD hS (lv_sub hl [0, 1, 4, 5, 6, 7, 8] rfl) hF hE
                                · replace hF := hF.2 c_112
                                  rw [if_neg c_112] at hE
                                  refine lv_aload_n hx hb dX10_who_125 rfl (lv_at hl 5 rfl) ?_
                                  refine va_get (D := D) (ci := 10) (v := .ref (Rf 37)) (C := RX10) (T := TX10) (N := 45) hx hb hts iX10 hown hK hP 1 rfl rfl 37 (by decide) (hts _ wd_672) (fun _ h9 => h9) rfl dX10_who_126 ?_
                                  refine lv_bipush (v := 6) hx hb dX10_who_129 (by decide) ?_
                                  refine lv_iload_n hx hb dX10_who_131 rfl (lv_at hl 4 rfl) ?_
                                  refine lv_imul hx hb dX10_who_132 ?_
                                  refine lv_iload hx hb dX10_who_133 (lv_at hl 1 rfl) ?_
                                  refine lv_iadd hx hb dX10_who_135 ?_
                                  obtain ⟨hv_114, hF⟩ := hF
                                  refine va_iald hx hb hK hP 5 0 rfl rfl hv_114 dX10_who_136 ?_
                                  refine lv_ldcw (v := 1000000000) hx hb hown (hts _ wd_651) dX10_who_137 ?_
                                  refine lv_icmp_ne (tgt := 149) hx hb dX10_who_140 (by decide) (fun c_115 => ?_) (fun c_115 => ?_)
                                  · replace hF := hF.2 c_115
                                    rw [if_neg c_115] at hE
                                    refine lv_iload hx hb dX10_who_149 (lv_at hl 0 rfl) ?_
                                    refine lv_aload_n hx hb dX10_who_151 rfl (lv_at hl 5 rfl) ?_
                                    refine va_get (D := D) (ci := 10) (v := .ref (Rf 37)) (C := RX10) (T := TX10) (N := 45) hx hb hts iX10 hown hK hP 1 rfl rfl 37 (by decide) (hts _ wd_672) (fun _ h9 => h9) rfl dX10_who_152 ?_
                                    refine lv_bipush (v := 6) hx hb dX10_who_155 (by decide) ?_
                                    refine lv_iload_n hx hb dX10_who_157 rfl (lv_at hl 4 rfl) ?_
                                    refine lv_imul hx hb dX10_who_158 ?_
                                    refine lv_iload hx hb dX10_who_159 (lv_at hl 1 rfl) ?_
                                    refine lv_iadd hx hb dX10_who_161 ?_
                                    obtain ⟨hv_116, hF⟩ := hF
                                    refine va_iald hx hb hK hP 5 0 rfl rfl hv_116 dX10_who_162 ?_
                                    refine lv_iadd hx hb dX10_who_163 ?_
                                    refine lv_istore (lv' := [(8, .int ((w66xm2 (((64 * (w35xl3 + 1)) + (w42xl4 ||| ((1 : Int32) <<< (w66xl6 &&& 31)))) : Int32).toNatClampNeg) + (w66xm1 (((6 * w35xl3) + w66xl6) : Int32).toNatClampNeg))), (7, .int (w66xm2 (((64 * (w35xl3 + 1)) + (w42xl4 ||| ((1 : Int32) <<< (w66xl6 &&& 31)))) : Int32).toNatClampNeg)), (6, .int w66xl6), (5, .int w66xl5), (4, .int w42xl4), (3, .int w35xl3), (0, .ref h), (1, .int m_), (2, .int b_)]) hx hb dX10_who_164 hl (by decide) rfl (fun ls hl => ?_)
                                    refine lv_iload hx hb dX10_who_166 (lv_at hl 0 rfl) ?_
                                    refine lv_iload hx hb dX10_who_168 (lv_at hl 3 rfl) ?_
                                    refine lv_icmp_ge (tgt := 178) hx hb dX10_who_170 (by decide) (fun c_117 => ?_) (fun c_117 => ?_)
                                    · replace hF := hF.1 c_117
                                      rw [if_pos c_117] at hE
                                      refine lv_iload hx hb dX10_who_178 (lv_at hl 3 rfl) ?_
                                      refine lv_istore (lv' := [(5, .int w66xl5), (8, .int ((w66xm2 (((64 * (w35xl3 + 1)) + (w42xl4 ||| ((1 : Int32) <<< (w66xl6 &&& 31)))) : Int32).toNatClampNeg) + (w66xm1 (((6 * w35xl3) + w66xl6) : Int32).toNatClampNeg))), (7, .int (w66xm2 (((64 * (w35xl3 + 1)) + (w42xl4 ||| ((1 : Int32) <<< (w66xl6 &&& 31)))) : Int32).toNatClampNeg)), (6, .int w66xl6), (4, .int w42xl4), (3, .int w35xl3), (0, .ref h), (1, .int m_), (2, .int b_)]) hx hb dX10_who_180 hl (by decide) rfl (fun ls hl => ?_)
                                      refine lv_iinc (v := (w66xl6 + 1)) (lv' := [(6, .int (w66xl6 + 1)), (5, .int w66xl5), (8, .int ((w66xm2 (((64 * (w35xl3 + 1)) + (w42xl4 ||| ((1 : Int32) <<< (w66xl6 &&& 31)))) : Int32).toNatClampNeg) + (w66xm1 (((6 * w35xl3) + w66xl6) : Int32).toNatClampNeg))), (7, .int (w66xm2 (((64 * (w35xl3 + 1)) + (w42xl4 ||| ((1 : Int32) <<< (w66xl6 &&& 31)))) : Int32).toNatClampNeg)), (4, .int w42xl4), (3, .int w35xl3), (0, .ref h), (1, .int m_), (2, .int b_)]) hx hb dX10_who_182 hl (k := 3) rfl rfl (by decide) rfl (fun ls hl => ?_)
                                      refine lv_goto (tgt := 66) hx hb dX10_who_185 (by decide) ?_
                                      exact ih_w66x (w66xl6 + 1) w66xl5 w66xm0 w66xm1 w66xm2 _ _ ls hP hD hS (lv_sub hl [0, 1, 4, 5, 6, 7, 8] rfl) hF hE
                                    · replace hF := hF.2 c_117
                                      rw [if_neg c_117] at hE
                                      refine lv_iload hx hb dX10_who_173 (lv_at hl 0 rfl) ?_
                                      refine lv_goto (tgt := 180) hx hb dX10_who_175 (by decide) ?_
                                      refine lv_istore (lv' := [(5, .int ((w66xm2 (((64 * (w35xl3 + 1)) + (w42xl4 ||| ((1 : Int32) <<< (w66xl6 &&& 31)))) : Int32).toNatClampNeg) + (w66xm1 (((6 * w35xl3) + w66xl6) : Int32).toNatClampNeg))), (8, .int ((w66xm2 (((64 * (w35xl3 + 1)) + (w42xl4 ||| ((1 : Int32) <<< (w66xl6 &&& 31)))) : Int32).toNatClampNeg) + (w66xm1 (((6 * w35xl3) + w66xl6) : Int32).toNatClampNeg))), (7, .int (w66xm2 (((64 * (w35xl3 + 1)) + (w42xl4 ||| ((1 : Int32) <<< (w66xl6 &&& 31)))) : Int32).toNatClampNeg)), (6, .int w66xl6), (4, .int w42xl4), (3, .int w35xl3), (0, .ref h), (1, .int m_), (2, .int b_)]) hx hb dX10_who_180 hl (by decide) rfl (fun ls hl => ?_)
                                      refine lv_iinc (v := (w66xl6 + 1)) (lv' := [(6, .int (w66xl6 + 1)), (5, .int ((w66xm2 (((64 * (w35xl3 + 1)) + (w42xl4 ||| ((1 : Int32) <<< (w66xl6 &&& 31)))) : Int32).toNatClampNeg) + (w66xm1 (((6 * w35xl3) + w66xl6) : Int32).toNatClampNeg))), (8, .int ((w66xm2 (((64 * (w35xl3 + 1)) + (w42xl4 ||| ((1 : Int32) <<< (w66xl6 &&& 31)))) : Int32).toNatClampNeg) + (w66xm1 (((6 * w35xl3) + w66xl6) : Int32).toNatClampNeg))), (7, .int (w66xm2 (((64 * (w35xl3 + 1)) + (w42xl4 ||| ((1 : Int32) <<< (w66xl6 &&& 31)))) : Int32).toNatClampNeg)), (4, .int w42xl4), (3, .int w35xl3), (0, .ref h), (1, .int m_), (2, .int b_)]) hx hb dX10_who_182 hl (k := 3) rfl rfl (by decide) rfl (fun ls hl => ?_)
                                      refine lv_goto (tgt := 66) hx hb dX10_who_185 (by decide) ?_
                                      exact ih_w66x (w66xl6 + 1) ((w66xm2 (((64 * (w35xl3 + 1)) + (w42xl4 ||| ((1 : Int32) <<< (w66xl6 &&& 31)))) : Int32).toNatClampNeg) + (w66xm1 (((6 * w35xl3) + w66xl6) : Int32).toNatClampNeg)) w66xm0 w66xm1 w66xm2 _ _ ls hP hD hS (lv_sub hl [0, 1, 4, 5, 6, 7, 8] rfl) hF hE
                                  · replace hF := hF.1 c_115
                                    rw [if_pos c_115] at hE
                                    refine lv_ldcw (v := 1000000000) hx hb hown (hts _ wd_651) dX10_who_143 ?_
                                    refine lv_goto (tgt := 164) hx hb dX10_who_146 (by decide) ?_
                                    refine lv_istore (lv' := [(8, .int 1000000000), (7, .int (w66xm2 (((64 * (w35xl3 + 1)) + (w42xl4 ||| ((1 : Int32) <<< (w66xl6 &&& 31)))) : Int32).toNatClampNeg)), (6, .int w66xl6), (5, .int w66xl5), (4, .int w42xl4), (3, .int w35xl3), (0, .ref h), (1, .int m_), (2, .int b_)]) hx hb dX10_who_164 hl (by decide) rfl (fun ls hl => ?_)
                                    refine lv_iload hx hb dX10_who_166 (lv_at hl 0 rfl) ?_
                                    refine lv_iload hx hb dX10_who_168 (lv_at hl 3 rfl) ?_
                                    refine lv_icmp_ge (tgt := 178) hx hb dX10_who_170 (by decide) (fun c_118 => ?_) (fun c_118 => ?_)
                                    · replace hF := hF.1 c_118
                                      rw [if_pos c_118] at hE
                                      refine lv_iload hx hb dX10_who_178 (lv_at hl 3 rfl) ?_
                                      refine lv_istore (lv' := [(5, .int w66xl5), (8, .int 1000000000), (7, .int (w66xm2 (((64 * (w35xl3 + 1)) + (w42xl4 ||| ((1 : Int32) <<< (w66xl6 &&& 31)))) : Int32).toNatClampNeg)), (6, .int w66xl6), (4, .int w42xl4), (3, .int w35xl3), (0, .ref h), (1, .int m_), (2, .int b_)]) hx hb dX10_who_180 hl (by decide) rfl (fun ls hl => ?_)
                                      refine lv_iinc (v := (w66xl6 + 1)) (lv' := [(6, .int (w66xl6 + 1)), (5, .int w66xl5), (8, .int 1000000000), (7, .int (w66xm2 (((64 * (w35xl3 + 1)) + (w42xl4 ||| ((1 : Int32) <<< (w66xl6 &&& 31)))) : Int32).toNatClampNeg)), (4, .int w42xl4), (3, .int w35xl3), (0, .ref h), (1, .int m_), (2, .int b_)]) hx hb dX10_who_182 hl (k := 3) rfl rfl (by decide) rfl (fun ls hl => ?_)
                                      refine lv_goto (tgt := 66) hx hb dX10_who_185 (by decide) ?_
                                      exact ih_w66x (w66xl6 + 1) w66xl5 w66xm0 w66xm1 w66xm2 _ _ ls hP hD hS (lv_sub hl [0, 1, 4, 5, 6, 7, 8] rfl) hF hE
                                    · replace hF := hF.2 c_118
                                      rw [if_neg c_118] at hE
                                      refine lv_iload hx hb dX10_who_173 (lv_at hl 0 rfl) ?_
                                      refine lv_goto (tgt := 180) hx hb dX10_who_175 (by decide) ?_
                                      refine lv_istore (lv' := [(5, .int 1000000000), (8, .int 1000000000), (7, .int (w66xm2 (((64 * (w35xl3 + 1)) + (w42xl4 ||| ((1 : Int32) <<< (w66xl6 &&& 31)))) : Int32).toNatClampNeg)), (6, .int w66xl6), (4, .int w42xl4), (3, .int w35xl3), (0, .ref h), (1, .int m_), (2, .int b_)]) hx hb dX10_who_180 hl (by decide) rfl (fun ls hl => ?_)
                                      refine lv_iinc (v := (w66xl6 + 1)) (lv' := [(6, .int (w66xl6 + 1)), (5, .int 1000000000), (8, .int 1000000000), (7, .int (w66xm2 (((64 * (w35xl3 + 1)) + (w42xl4 ||| ((1 : Int32) <<< (w66xl6 &&& 31)))) : Int32).toNatClampNeg)), (4, .int w42xl4), (3, .int w35xl3), (0, .ref h), (1, .int m_), (2, .int b_)]) hx hb dX10_who_182 hl (k := 3) rfl rfl (by decide) rfl (fun ls hl => ?_)
                                      refine lv_goto (tgt := 66) hx hb dX10_who_185 (by decide) ?_
                                      exact ih_w66x (w66xl6 + 1) 1000000000 w66xm0 w66xm1 w66xm2 _ _ ls hP hD hS (lv_sub hl [0, 1, 4, 5, 6, 7, 8] rfl) hF hE
                              · replace hF := hF.2 c_110
                                rw [if_neg c_110] at hE
                                refine lv_ldcw (v := 1000000000) hx hb hown (hts _ wd_651) dX10_who_90 ?_
                                refine lv_goto (tgt := 115) hx hb dX10_who_93 (by decide) ?_
                                refine lv_istore (lv' := [(7, .int 1000000000), (6, .int w66xl6), (5, .int w66xl5), (4, .int w42xl4), (3, .int w35xl3), (0, .ref h), (1, .int m_), (2, .int b_)]) hx hb dX10_who_115 hl (by decide) rfl (fun ls hl => ?_)
                                refine lv_iload hx hb dX10_who_117 (lv_at hl 0 rfl) ?_
                                refine lv_ldcw (v := 1000000000) hx hb hown (hts _ wd_651) dX10_who_119 ?_
                                refine lv_icmp_eq (tgt := 143) hx hb dX10_who_122 (by decide) (fun c_119 => ?_) (fun c_119 => absurd (by decide +kernel) c_119)
                                refine lv_ldcw (v := 1000000000) hx hb hown (hts _ wd_651) dX10_who_143 ?_
                                refine lv_goto (tgt := 164) hx hb dX10_who_146 (by decide) ?_
                                refine lv_istore (lv' := [(8, .int 1000000000), (7, .int 1000000000), (6, .int w66xl6), (5, .int w66xl5), (4, .int w42xl4), (3, .int w35xl3), (0, .ref h), (1, .int m_), (2, .int b_)]) hx hb dX10_who_164 hl (by decide) rfl (fun ls hl => ?_)
                                refine lv_iload hx hb dX10_who_166 (lv_at hl 0 rfl) ?_
                                refine lv_iload hx hb dX10_who_168 (lv_at hl 3 rfl) ?_
                                refine lv_icmp_ge (tgt := 178) hx hb dX10_who_170 (by decide) (fun c_120 => ?_) (fun c_120 => ?_)
                                · replace hF := hF.1 c_120
                                  rw [if_pos c_120] at hE
                                  refine lv_iload hx hb dX10_who_178 (lv_at hl 3 rfl) ?_
                                  refine lv_istore (lv' := [(5, .int w66xl5), (8, .int 1000000000), (7, .int 1000000000), (6, .int w66xl6), (4, .int w42xl4), (3, .int w35xl3), (0, .ref h), (1, .int m_), (2, .int b_)]) hx hb dX10_who_180 hl (by decide) rfl (fun ls hl => ?_)
                                  refine lv_iinc (v := (w66xl6 + 1)) (lv' := [(6, .int (w66xl6 + 1)), (5, .int w66xl5), (8, .int 1000000000), (7, .int 1000000000), (4, .int w42xl4), (3, .int w35xl3), (0, .ref h), (1, .int m_), (2, .int b_)]) hx hb dX10_who_182 hl (k := 3) rfl rfl (by decide) rfl (fun ls hl => ?_)
                                  refine lv_goto (tgt := 66) hx hb dX10_who_185 (by decide) ?_
                                  exact ih_w66x (w66xl6 + 1) w66xl5 w66xm0 w66xm1 w66xm2 _ _ ls hP hD hS (lv_sub hl [0, 1, 4, 5, 6, 7, 8] rfl) hF hE
                                · replace hF := hF.2 c_120
                                  rw [if_neg c_120] at hE
                                  refine lv_iload hx hb dX10_who_173 (lv_at hl 0 rfl) ?_
                                  refine lv_goto (tgt := 180) hx hb dX10_who_175 (by decide) ?_
                                  refine lv_istore (lv' := [(5, .int 1000000000), (8, .int 1000000000), (7, .int 1000000000), (6, .int w66xl6), (4, .int w42xl4), (3, .int w35xl3), (0, .ref h), (1, .int m_), (2, .int b_)]) hx hb dX10_who_180 hl (by decide) rfl (fun ls hl => ?_)
                                  refine lv_iinc (v := (w66xl6 + 1)) (lv' := [(6, .int (w66xl6 + 1)), (5, .int 1000000000), (8, .int 1000000000), (7, .int 1000000000), (4, .int w42xl4), (3, .int w35xl3), (0, .ref h), (1, .int m_), (2, .int b_)]) hx hb dX10_who_182 hl (k := 3) rfl rfl (by decide) rfl (fun ls hl => ?_)
                                  refine lv_goto (tgt := 66) hx hb dX10_who_185 (by decide) ?_
                                  exact ih_w66x (w66xl6 + 1) 1000000000 w66xm0 w66xm1 w66xm2 _ _ ls hP hD hS (lv_sub hl [0, 1, 4, 5, 6, 7, 8] rfl) hF hE
                      exact lp_66_w66x 10 0 1000000000 w42xm0 w42xm1 w42xm2 _ _ ls hP hD hS hl hF hE
                    · replace hF := hF.2 c_103
                      rw [if_neg c_103] at hE
                      refine lv_iconst (v := 0) hx hb dX10_who_54 (by decide) ?_
                      refine lv_goto (tgt := 61) hx hb dX10_who_55 (by decide) ?_
                      refine lv_istore (lv' := [(5, .int 0), (4, .int w42xl4), (3, .int w35xl3), (0, .ref h), (1, .int m_), (2, .int b_)]) hx hb dX10_who_61 hl (by decide) rfl (fun ls hl => ?_)
                      refine lv_iconst (v := 0) hx hb dX10_who_63 (by decide) ?_
                      refine lv_istore (lv' := [(6, .int 0), (5, .int 0), (4, .int w42xl4), (3, .int w35xl3), (0, .ref h), (1, .int m_), (2, .int b_)]) hx hb dX10_who_64 hl (by decide) rfl (fun ls hl => ?_)
                      have ex_66_w66x : ∀ (w66xl6 : Int32) (w66xl5 : Int32) (w66xm0 : (Nat → Int32)) (w66xm1 : (Nat → Int32)) (w66xm2 : (Nat → Int32)) (H : Heap) (locs : List Loc) (ls : Array Slot), va_P D classes [((Rf 36), .inl (cI, 448, .inl w66xm2)), (h, .inr (10, ML w66xm0 Rf)), ((Rf 0), .inl (cI, 1302, .inl f0)), ((Rf 10), .inl (cI, 30, .inl f10)), ((Rf 8), .inl (cI, 6, .inl f8)), ((Rf 37), .inl (cI, 36, .inl w66xm1))] H → va_D A [((Rf 36), .inl (cI, 448, .inl w66xm2)), (h, .inr (10, ML w66xm0 Rf)), ((Rf 0), .inl (cI, 1302, .inl f0)), ((Rf 10), .inl (cI, 30, .inl f10)), ((Rf 8), .inl (cI, 6, .inl f8)), ((Rf 37), .inl (cI, 36, .inl w66xm1))] → va_S A s.heap H locs → lv_has ls 9 [(6, .int w66xl6), (5, .int w66xl5), (4, .int w42xl4), (3, .int w35xl3), (0, .ref h), (1, .int m_), (2, .int b_)] → ((vp_in ((64 * w35xl3) + w42xl4) 448 ∧ (S_m_who_42 m_ w35xl3 (fun (w42xl4 : Int32) (w42xm0 : (Nat → Int32)) (w42xm1 : (Nat → Int32)) (w42xm2 : (Nat → Int32)) => (S_m_who_35 m_ (fun (w35xl3 : Int32) (w35xm0 : (Nat → Int32)) (w35xm1 : (Nat → Int32)) (w35xm2 : (Nat → Int32)) => (((w35xm2 (0 : Int32).toNatClampNeg) = 1000000000 → (((w35xm2 (0 : Int32).toNatClampNeg) = 1000000000 → True) ∧ (¬ (w35xm2 (0 : Int32).toNatClampNeg) = 1000000000 → True))) ∧ (¬ (w35xm2 (0 : Int32).toNatClampNeg) = 1000000000 → ((b_ = (-1) → (((w35xm2 (0 : Int32).toNatClampNeg) = 1000000000 → True) ∧ (¬ (w35xm2 (0 : Int32).toNatClampNeg) = 1000000000 → True))) ∧ (¬ b_ = (-1) → (S_m_who_262 b_ (fun (w262xl5 : Int32) (w262xl4 : Int32) (w262xl3 : Int32) (w262xm0 : (Nat → Int32)) (w262xm1 : (Nat → Int32)) (w262xm2 : (Nat → Int32)) => True) 10 0 (-1) 0 w35xm0 w35xm1 w35xm2)))))) n_w35x (w35xl3 + (-1)) w42xm0 w42xm1 w42xm2)) n_w42x (w42xl4 + 1) w66xm0 w66xm1 (upd w66xm2 (((64 * w35xl3) + w42xl4) : Int32).toNatClampNeg w66xl5)))) → (((match ((match ((f_m_who_42 m_ w35xl3 n_w42x (w42xl4 + 1) w66xm0 w66xm1 (upd w66xm2 (((64 * w35xl3) + w42xl4) : Int32).toNatClampNeg w66xl5)) : Int32 × (Nat → Int32) × (Nat → Int32) × (Nat → Int32)) with | (w42xl4, w42xm0, w42xm1, w42xm2) => (f_m_who_35 m_ n_w35x (w35xl3 + (-1)) w42xm0 w42xm1 w42xm2)) : Int32 × (Nat → Int32) × (Nat → Int32) × (Nat → Int32)) with | (w35xl3, w35xm0, w35xm1, w35xm2) => (if (w35xm2 (0 : Int32).toNatClampNeg) = 1000000000 then (if (w35xm2 (0 : Int32).toNatClampNeg) = 1000000000 then ((-1), w35xm0, w35xm1, w35xm2) else ((w35xm2 (0 : Int32).toNatClampNeg), w35xm0, w35xm1, w35xm2)) else (if b_ = (-1) then (if (w35xm2 (0 : Int32).toNatClampNeg) = 1000000000 then ((-1), w35xm0, w35xm1, w35xm2) else ((w35xm2 (0 : Int32).toNatClampNeg), w35xm0, w35xm1, w35xm2)) else (match ((f_m_who_262 b_ 10 0 (-1) 0 w35xm0 w35xm1 w35xm2) : Int32 × Int32 × Int32 × (Nat → Int32) × (Nat → Int32) × (Nat → Int32)) with | (w262xl5, w262xl4, w262xl3, w262xm0, w262xm1, w262xm2) => (w262xl4, w262xm0, w262xm1, w262xm2)))))) : Int32 × (Nat → Int32) × (Nat → Int32) × (Nat → Int32)) = RES → W p l e rm_m_who s m args below meth c H locs 0 0 Q (F0 m 188 ls []) := by
                        intro w66xl6 w66xl5 w66xm0 w66xm1 w66xm2 H locs ls hP hD hS hl hF hE
                        refine lv_aload_n hx hb dX10_who_188 rfl (lv_at hl 4 rfl) ?_
                        refine va_get (D := D) (ci := 10) (v := .ref (Rf 36)) (C := RX10) (T := TX10) (N := 45) hx hb hts iX10 hown hK hP 1 rfl rfl 36 (by decide) (hts _ wd_693) (fun _ h9 => h9) rfl dX10_who_189 ?_
                        refine lv_bipush (v := 64) hx hb dX10_who_192 (by decide) ?_
                        refine lv_iload_n hx hb dX10_who_194 rfl (lv_at hl 3 rfl) ?_
                        refine lv_imul hx hb dX10_who_195 ?_
                        refine lv_iload hx hb dX10_who_196 (lv_at hl 2 rfl) ?_
                        refine lv_iadd hx hb dX10_who_198 ?_
                        refine lv_iload hx hb dX10_who_199 (lv_at hl 1 rfl) ?_
                        obtain ⟨hv_121, hF⟩ := hF
                        refine va_iast hx hb hK hP hD hS 0 0 rfl rfl hv_121 dX10_who_201 (fun H locs hP hD hS => ?_)
                        have hP : va_P D classes [((Rf 36), .inl (cI, 448, .inl (upd w66xm2 (((64 * w35xl3) + w42xl4) : Int32).toNatClampNeg w66xl5))), (h, .inr (10, ML w66xm0 Rf)), ((Rf 0), .inl (cI, 1302, .inl f0)), ((Rf 10), .inl (cI, 30, .inl f10)), ((Rf 8), .inl (cI, 6, .inl f8)), ((Rf 37), .inl (cI, 36, .inl w66xm1))] H := hP
                        have hD : va_D A [((Rf 36), .inl (cI, 448, .inl (upd w66xm2 (((64 * w35xl3) + w42xl4) : Int32).toNatClampNeg w66xl5))), (h, .inr (10, ML w66xm0 Rf)), ((Rf 0), .inl (cI, 1302, .inl f0)), ((Rf 10), .inl (cI, 30, .inl f10)), ((Rf 8), .inl (cI, 6, .inl f8)), ((Rf 37), .inl (cI, 36, .inl w66xm1))] := hD
                        refine lv_iinc (v := (w42xl4 + 1)) (lv' := [(4, .int (w42xl4 + 1)), (6, .int w66xl6), (5, .int w66xl5), (3, .int w35xl3), (0, .ref h), (1, .int m_), (2, .int b_)]) hx hb dX10_who_202 hl (k := 2) rfl rfl (by decide) rfl (fun ls hl => ?_)
                        refine lv_goto (tgt := 42) hx hb dX10_who_205 (by decide) ?_
                        exact ih_w42x (w42xl4 + 1) w66xm0 w66xm1 (upd w66xm2 (((64 * w35xl3) + w42xl4) : Int32).toNatClampNeg w66xl5) _ _ ls hP hD hS (lv_sub hl [0, 3, 4, 5, 6] rfl) hF (up_step c_102 hm) hE
                      have lp_66_w66x : ∀ (n_w66x : Nat) (w66xl6 : Int32) (w66xl5 : Int32) (w66xm0 : (Nat → Int32)) (w66xm1 : (Nat → Int32)) (w66xm2 : (Nat → Int32)) (H : Heap) (locs : List Loc) (ls : Array Slot), va_P D classes [((Rf 36), .inl (cI, 448, .inl w66xm2)), (h, .inr (10, ML w66xm0 Rf)), ((Rf 0), .inl (cI, 1302, .inl f0)), ((Rf 10), .inl (cI, 30, .inl f10)), ((Rf 8), .inl (cI, 6, .inl f8)), ((Rf 37), .inl (cI, 36, .inl w66xm1))] H → va_D A [((Rf 36), .inl (cI, 448, .inl w66xm2)), (h, .inr (10, ML w66xm0 Rf)), ((Rf 0), .inl (cI, 1302, .inl f0)), ((Rf 10), .inl (cI, 30, .inl f10)), ((Rf 8), .inl (cI, 6, .inl f8)), ((Rf 37), .inl (cI, 36, .inl w66xm1))] → va_S A s.heap H locs → lv_has ls 9 [(6, .int w66xl6), (5, .int w66xl5), (4, .int w42xl4), (3, .int w35xl3), (0, .ref h), (1, .int m_), (2, .int b_)] → (S_m_who_66 m_ w35xl3 w42xl4 (fun (w66xl6 : Int32) (w66xl5 : Int32) (w66xm0 : (Nat → Int32)) (w66xm1 : (Nat → Int32)) (w66xm2 : (Nat → Int32)) => (vp_in ((64 * w35xl3) + w42xl4) 448 ∧ (S_m_who_42 m_ w35xl3 (fun (w42xl4 : Int32) (w42xm0 : (Nat → Int32)) (w42xm1 : (Nat → Int32)) (w42xm2 : (Nat → Int32)) => (S_m_who_35 m_ (fun (w35xl3 : Int32) (w35xm0 : (Nat → Int32)) (w35xm1 : (Nat → Int32)) (w35xm2 : (Nat → Int32)) => (((w35xm2 (0 : Int32).toNatClampNeg) = 1000000000 → (((w35xm2 (0 : Int32).toNatClampNeg) = 1000000000 → True) ∧ (¬ (w35xm2 (0 : Int32).toNatClampNeg) = 1000000000 → True))) ∧ (¬ (w35xm2 (0 : Int32).toNatClampNeg) = 1000000000 → ((b_ = (-1) → (((w35xm2 (0 : Int32).toNatClampNeg) = 1000000000 → True) ∧ (¬ (w35xm2 (0 : Int32).toNatClampNeg) = 1000000000 → True))) ∧ (¬ b_ = (-1) → (S_m_who_262 b_ (fun (w262xl5 : Int32) (w262xl4 : Int32) (w262xl3 : Int32) (w262xm0 : (Nat → Int32)) (w262xm1 : (Nat → Int32)) (w262xm2 : (Nat → Int32)) => True) 10 0 (-1) 0 w35xm0 w35xm1 w35xm2)))))) n_w35x (w35xl3 + (-1)) w42xm0 w42xm1 w42xm2)) n_w42x (w42xl4 + 1) w66xm0 w66xm1 (upd w66xm2 (((64 * w35xl3) + w42xl4) : Int32).toNatClampNeg w66xl5)))) n_w66x w66xl6 w66xl5 w66xm0 w66xm1 w66xm2) → ((match ((match ((match ((f_m_who_66 m_ w35xl3 w42xl4 n_w66x w66xl6 w66xl5 w66xm0 w66xm1 w66xm2) : Int32 × Int32 × (Nat → Int32) × (Nat → Int32) × (Nat → Int32)) with | (w66xl6, w66xl5, w66xm0, w66xm1, w66xm2) => (f_m_who_42 m_ w35xl3 n_w42x (w42xl4 + 1) w66xm0 w66xm1 (upd w66xm2 (((64 * w35xl3) + w42xl4) : Int32).toNatClampNeg w66xl5))) : Int32 × (Nat → Int32) × (Nat → Int32) × (Nat → Int32)) with | (w42xl4, w42xm0, w42xm1, w42xm2) => (f_m_who_35 m_ n_w35x (w35xl3 + (-1)) w42xm0 w42xm1 w42xm2)) : Int32 × (Nat → Int32) × (Nat → Int32) × (Nat → Int32)) with | (w35xl3, w35xm0, w35xm1, w35xm2) => (if (w35xm2 (0 : Int32).toNatClampNeg) = 1000000000 then (if (w35xm2 (0 : Int32).toNatClampNeg) = 1000000000 then ((-1), w35xm0, w35xm1, w35xm2) else ((w35xm2 (0 : Int32).toNatClampNeg), w35xm0, w35xm1, w35xm2)) else (if b_ = (-1) then (if (w35xm2 (0 : Int32).toNatClampNeg) = 1000000000 then ((-1), w35xm0, w35xm1, w35xm2) else ((w35xm2 (0 : Int32).toNatClampNeg), w35xm0, w35xm1, w35xm2)) else (match ((f_m_who_262 b_ 10 0 (-1) 0 w35xm0 w35xm1 w35xm2) : Int32 × Int32 × Int32 × (Nat → Int32) × (Nat → Int32) × (Nat → Int32)) with | (w262xl5, w262xl4, w262xl3, w262xm0, w262xm1, w262xm2) => (w262xl4, w262xm0, w262xm1, w262xm2))))) : Int32 × (Nat → Int32) × (Nat → Int32) × (Nat → Int32)) = RES → W p l e rm_m_who s m args below meth c H locs 0 0 Q (F0 m 66 ls []) := by
                        intro n_w66x
                        induction n_w66x with
                        | zero => intro w66xl6 w66xl5 w66xm0 w66xm1 w66xm2 H locs ls hP hD hS hl hF hE; exact False.elim hF
                        | succ n_w66x ih_w66x =>
                          intro w66xl6 w66xl5 w66xm0 w66xm1 w66xm2 H locs ls hP hD hS hl hF hE
                          rw [S_m_who_66_s] at hF
                          rw [f_m_who_66_s] at hE
                          refine lv_iload hx hb dX10_who_66 (lv_at hl 0 rfl) ?_
                          refine lv_aload_n hx hb dX10_who_68 rfl (lv_at hl 4 rfl) ?_
                          refine va_get (D := D) (ci := 10) (v := .int (w66xm0 5)) (C := RX10) (T := TX10) (N := 45) hx hb hts iX10 hown hK hP 1 rfl rfl 5 (by decide) (hts _ wd_499) (fun _ h9 => h9) rfl dX10_who_69 ?_
                          refine lv_icmp_ge (tgt := 188) hx hb dX10_who_72 (by decide) (fun c_122 => ?_) (fun c_122 => ?_)
                          · replace hF := hF.1 c_122
                            rw [if_pos c_122] at hE
                            exact ex_66_w66x w66xl6 w66xl5 w66xm0 w66xm1 w66xm2 _ _ ls hP hD hS (lv_sub hl [0, 1, 2, 3, 4, 5, 6] rfl) hF hE
                          · replace hF := hF.2 c_122
                            rw [if_neg c_122] at hE
                            refine lv_iload_n hx hb dX10_who_75 rfl (lv_at hl 3 rfl) ?_
                            refine lv_iload_n hx hb dX10_who_76 rfl (lv_at hl 5 rfl) ?_
                            refine lv_icmp_gt (tgt := 188) hx hb dX10_who_77 (by decide) (fun c_123 => ?_) (fun c_123 => ?_)
                            · replace hF := hF.1 c_123
                              rw [if_pos c_123] at hE
                              exact ex_66_w66x w66xl6 w66xl5 w66xm0 w66xm1 w66xm2 _ _ ls hP hD hS (lv_sub hl [0, 1, 2, 3, 4, 5, 6] rfl) hF hE
                            · replace hF := hF.2 c_123
                              rw [if_neg c_123] at hE
                              refine lv_iload hx hb dX10_who_80 (lv_at hl 2 rfl) ?_
                              refine lv_iload hx hb dX10_who_82 (lv_at hl 0 rfl) ?_
                              obtain ⟨hs_124, hF⟩ := hF
                              refine cSi (wr := [((Rf 36), .inl (cI, 448, .inl w66xm2)), (h, .inr (10, ML w66xm0 Rf)), ((Rf 0), .inl (cI, 1302, .inl f0)), ((Rf 10), .inl (cI, 30, .inl f10)), ((Rf 8), .inl (cI, 6, .inl f8)), ((Rf 37), .inl (cI, 36, .inl w66xm1))]) (rest := []) (m_has w42xl4 w66xl6 hs_124) okS_X10_has wd_502 hx hb hml hown hts hK hP hD hS hA hN hl.1 [] [0, 1, 2, 3, 4, 5] rfl rfl rfl rfl (by decide) rfl (Nat.le_of_ble_eq_true rfl) (Nat.le_of_ble_eq_true rfl) (Nat.le_of_ble_eq_true rfl) (Nat.le_of_ble_eq_true rfl) (Nat.le_of_ble_eq_true rfl) dX10_who_84 (fun r_126 u_125 H locs hw_u_125 hP hD hS => ?_)
                              replace hw_u_125 : r_126 = (f_m_has w42xl4 w66xl6) := hw_u_125
                              rw [hw_u_125]
                              clear hw_u_125
                              have hP : va_P D classes [((Rf 36), .inl (cI, 448, .inl w66xm2)), (h, .inr (10, ML w66xm0 Rf)), ((Rf 0), .inl (cI, 1302, .inl f0)), ((Rf 10), .inl (cI, 30, .inl f10)), ((Rf 8), .inl (cI, 6, .inl f8)), ((Rf 37), .inl (cI, 36, .inl w66xm1))] H := hP
                              have hD : va_D A [((Rf 36), .inl (cI, 448, .inl w66xm2)), (h, .inr (10, ML w66xm0 Rf)), ((Rf 0), .inl (cI, 1302, .inl f0)), ((Rf 10), .inl (cI, 30, .inl f10)), ((Rf 8), .inl (cI, 6, .inl f8)), ((Rf 37), .inl (cI, 36, .inl w66xm1))] := hD
                              refine lv_if_eq (tgt := 96) hx hb dX10_who_87 (by decide) (fun c_127 => ?_) (fun c_127 => ?_)
                              · replace hF := hF.1 c_127
                                rw [if_pos c_127] at hE
                                refine lv_aload_n hx hb dX10_who_96 rfl (lv_at hl 4 rfl) ?_
                                refine va_get (D := D) (ci := 10) (v := .ref (Rf 36)) (C := RX10) (T := TX10) (N := 45) hx hb hts iX10 hown hK hP 1 rfl rfl 36 (by decide) (hts _ wd_693) (fun _ h9 => h9) rfl dX10_who_97 ?_
                                refine lv_bipush (v := 64) hx hb dX10_who_100 (by decide) ?_
                                refine lv_iload_n hx hb dX10_who_102 rfl (lv_at hl 3 rfl) ?_
                                refine lv_iconst (v := 1) hx hb dX10_who_103 (by decide) ?_
                                refine lv_iadd hx hb dX10_who_104 ?_
                                refine lv_imul hx hb dX10_who_105 ?_
                                refine lv_iload hx hb dX10_who_106 (lv_at hl 2 rfl) ?_
                                refine lv_iconst (v := 1) hx hb dX10_who_108 (by decide) ?_
                                refine lv_iload hx hb dX10_who_109 (lv_at hl 0 rfl) ?_
                                refine lv_ishl hx hb dX10_who_111 ?_
                                refine lv_ior hx hb dX10_who_112 ?_
                                refine lv_iadd hx hb dX10_who_113 ?_
                                obtain ⟨hv_128, hF⟩ := hF
                                refine va_iald hx hb hK hP 0 0 rfl rfl hv_128 dX10_who_114 ?_
                                refine lv_istore (lv' := [(7, .int (w66xm2 (((64 * (w35xl3 + 1)) + (w42xl4 ||| ((1 : Int32) <<< (w66xl6 &&& 31)))) : Int32).toNatClampNeg)), (6, .int w66xl6), (5, .int w66xl5), (4, .int w42xl4), (3, .int w35xl3), (0, .ref h), (1, .int m_), (2, .int b_)]) hx hb dX10_who_115 hl (by decide) rfl (fun ls hl => ?_)
                                refine lv_iload hx hb dX10_who_117 (lv_at hl 0 rfl) ?_
                                refine lv_ldcw (v := 1000000000) hx hb hown (hts _ wd_651) dX10_who_119 ?_
                                refine lv_icmp_eq (tgt := 143) hx hb dX10_who_122 (by decide) (fun c_129 => ?_) (fun c_129 => ?_)
                                · replace hF := hF.1 c_129
                                  rw [if_pos c_129] at hE
                                  refine lv_ldcw (v := 1000000000) hx hb hown (hts _ wd_651) dX10_who_143 ?_
                                  refine lv_goto (tgt := 164) hx hb dX10_who_146 (by decide) ?_
                                  refine lv_istore (lv' := [(8, .int 1000000000), (7, .int (w66xm2 (((64 * (w35xl3 + 1)) + (w42xl4 ||| ((1 : Int32) <<< (w66xl6 &&& 31)))) : Int32).toNatClampNeg)), (6, .int w66xl6), (5, .int w66xl5), (4, .int w42xl4), (3, .int w35xl3), (0, .ref h), (1, .int m_), (2, .int b_)]) hx hb dX10_who_164 hl (by decide) rfl (fun ls hl => ?_)
                                  refine lv_iload hx hb dX10_who_166 (lv_at hl 0 rfl) ?_
                                  refine lv_iload hx hb dX10_who_168 (lv_at hl 3 rfl) ?_
                                  refine lv_icmp_ge (tgt := 178) hx hb dX10_who_170 (by decide) (fun c_130 => ?_) (fun c_130 => ?_)
                                  · replace hF := hF.1 c_130
                                    rw [if_pos c_130] at hE
                                    refine lv_iload hx hb dX10_who_178 (lv_at hl 3 rfl) ?_
                                    refine lv_istore (lv' := [(5, .int w66xl5), (8, .int 1000000000), (7, .int (w66xm2 (((64 * (w35xl3 + 1)) + (w42xl4 ||| ((1 : Int32) <<< (w66xl6 &&& 31)))) : Int32).toNatClampNeg)), (6, .int w66xl6), (4, .int w42xl4), (3, .int w35xl3), (0, .ref h), (1, .int m_), (2, .int b_)]) hx hb dX10_who_180 hl (by decide) rfl (fun ls hl => ?_)
                                    refine lv_iinc (v := (w66xl6 + 1)) (lv' := [(6, .int (w66xl6 + 1)), (5, .int w66xl5), (8, .int 1000000000), (7, .int (w66xm2 (((64 * (w35xl3 + 1)) + (w42xl4 ||| ((1 : Int32) <<< (w66xl6 &&& 31)))) : Int32).toNatClampNeg)), (4, .int w42xl4), (3, .int w35xl3), (0, .ref h), (1, .int m_), (2, .int b_)]) hx hb dX10_who_182 hl (k := 3) rfl rfl (by decide) rfl (fun ls hl => ?_)
                                    refine lv_goto (tgt := 66) hx hb dX10_who_185 (by decide) ?_
                                    exact ih_w66x (w66xl6 + 1) w66xl5 w66xm0 w66xm1 w66xm2 _ _ ls hP hD hS (lv_sub hl [0, 1, 4, 5, 6, 7, 8] rfl) hF hE
                                  · replace hF := hF.2 c_130
                                    rw [if_neg c_130] at hE
                                    refine lv_iload hx hb dX10_who_173 (lv_at hl 0 rfl) ?_
                                    refine lv_goto (tgt := 180) hx hb dX10_who_175 (by decide) ?_
                                    refine lv_istore (lv' := [(5, .int 1000000000), (8, .int 1000000000), (7, .int (w66xm2 (((64 * (w35xl3 + 1)) + (w42xl4 ||| ((1 : Int32) <<< (w66xl6 &&& 31)))) : Int32).toNatClampNeg)), (6, .int w66xl6), (4, .int w42xl4), (3, .int w35xl3), (0, .ref h), (1, .int m_), (2, .int b_)]) hx hb dX10_who_180 hl (by decide) rfl (fun ls hl => ?_)
                                    refine lv_iinc (v := (w66xl6 + 1)) (lv' := [(6, .int (w66xl6 + 1)), (5, .int 1000000000), (8, .int 1000000000), (7, .int (w66xm2 (((64 * (w35xl3 + 1)) + (w42xl4 ||| ((1 : Int32) <<< (w66xl6 &&& 31)))) : Int32).toNatClampNeg)), (4, .int w42xl4), (3, .int w35xl3), (0, .ref h), (1, .int m_), (2, .int b_)]) hx hb dX10_who_182 hl (k := 3) rfl rfl (by decide) rfl (fun ls hl => ?_)
                                    refine lv_goto (tgt := 66) hx hb dX10_who_185 (by decide) ?_
                                    exact ih_w66x (w66xl6 + 1) 1000000000 w66xm0 w66xm1 w66xm2 _ _ ls hP hD hS (lv_sub hl [0, 1, 4, 5, 6, 7, 8] rfl) hF hE
                                · replace hF := hF.2 c_129
                                  rw [if_neg c_129] at hE
                                  refine lv_aload_n hx hb dX10_who_125 rfl (lv_at hl 5 rfl) ?_
                                  refine va_get (D := D) (ci := 10) (v := .ref (Rf 37)) (C := RX10) (T := TX10) (N := 45) hx hb hts iX10 hown hK hP 1 rfl rfl 37 (by decide) (hts _ wd_672) (fun _ h9 => h9) rfl dX10_who_126 ?_
                                  refine lv_bipush (v := 6) hx hb dX10_who_129 (by decide) ?_
                                  refine lv_iload_n hx hb dX10_who_131 rfl (lv_at hl 4 rfl) ?_
                                  refine lv_imul hx hb dX10_who_132 ?_
                                  refine lv_iload hx hb dX10_who_133 (lv_at hl 1 rfl) ?_
                                  refine lv_iadd hx hb dX10_who_135 ?_
                                  obtain ⟨hv_131, hF⟩ := hF
                                  refine va_iald hx hb hK hP 5 0 rfl rfl hv_131 dX10_who_136 ?_
                                  refine lv_ldcw (v := 1000000000) hx hb hown (hts _ wd_651) dX10_who_137 ?_
                                  refine lv_icmp_ne (tgt := 149) hx hb dX10_who_140 (by decide) (fun c_132 => ?_) (fun c_132 => ?_)
                                  · replace hF := hF.2 c_132
                                    rw [if_neg c_132] at hE
                                    refine lv_iload hx hb dX10_who_149 (lv_at hl 0 rfl) ?_
                                    refine lv_aload_n hx hb dX10_who_151 rfl (lv_at hl 5 rfl) ?_
                                    refine va_get (D := D) (ci := 10) (v := .ref (Rf 37)) (C := RX10) (T := TX10) (N := 45) hx hb hts iX10 hown hK hP 1 rfl rfl 37 (by decide) (hts _ wd_672) (fun _ h9 => h9) rfl dX10_who_152 ?_
                                    refine lv_bipush (v := 6) hx hb dX10_who_155 (by decide) ?_
                                    refine lv_iload_n hx hb dX10_who_157 rfl (lv_at hl 4 rfl) ?_
                                    refine lv_imul hx hb dX10_who_158 ?_
                                    refine lv_iload hx hb dX10_who_159 (lv_at hl 1 rfl) ?_
                                    refine lv_iadd hx hb dX10_who_161 ?_
                                    obtain ⟨hv_133, hF⟩ := hF
                                    refine va_iald hx hb hK hP 5 0 rfl rfl hv_133 dX10_who_162 ?_
                                    refine lv_iadd hx hb dX10_who_163 ?_
                                    refine lv_istore (lv' := [(8, .int ((w66xm2 (((64 * (w35xl3 + 1)) + (w42xl4 ||| ((1 : Int32) <<< (w66xl6 &&& 31)))) : Int32).toNatClampNeg) + (w66xm1 (((6 * w35xl3) + w66xl6) : Int32).toNatClampNeg))), (7, .int (w66xm2 (((64 * (w35xl3 + 1)) + (w42xl4 ||| ((1 : Int32) <<< (w66xl6 &&& 31)))) : Int32).toNatClampNeg)), (6, .int w66xl6), (5, .int w66xl5), (4, .int w42xl4), (3, .int w35xl3), (0, .ref h), (1, .int m_), (2, .int b_)]) hx hb dX10_who_164 hl (by decide) rfl (fun ls hl => ?_)
                                    refine lv_iload hx hb dX10_who_166 (lv_at hl 0 rfl) ?_
                                    refine lv_iload hx hb dX10_who_168 (lv_at hl 3 rfl) ?_
                                    refine lv_icmp_ge (tgt := 178) hx hb dX10_who_170 (by decide) (fun c_134 => ?_) (fun c_134 => ?_)
                                    · replace hF := hF.1 c_134
                                      rw [if_pos c_134] at hE
                                      refine lv_iload hx hb dX10_who_178 (lv_at hl 3 rfl) ?_
                                      refine lv_istore (lv' := [(5, .int w66xl5), (8, .int ((w66xm2 (((64 * (w35xl3 + 1)) + (w42xl4 ||| ((1 : Int32) <<< (w66xl6 &&& 31)))) : Int32).toNatClampNeg) + (w66xm1 (((6 * w35xl3) + w66xl6) : Int32).toNatClampNeg))), (7, .int (w66xm2 (((64 * (w35xl3 + 1)) + (w42xl4 ||| ((1 : Int32) <<< (w66xl6 &&& 31)))) : Int32).toNatClampNeg)), (6, .int w66xl6), (4, .int w42xl4), (3, .int w35xl3), (0, .ref h), (1, .int m_), (2, .int b_)]) hx hb dX10_who_180 hl (by decide) rfl (fun ls hl => ?_)
                                      refine lv_iinc (v := (w66xl6 + 1)) (lv' := [(6, .int (w66xl6 + 1)), (5, .int w66xl5), (8, .int ((w66xm2 (((64 * (w35xl3 + 1)) + (w42xl4 ||| ((1 : Int32) <<< (w66xl6 &&& 31)))) : Int32).toNatClampNeg) + (w66xm1 (((6 * w35xl3) + w66xl6) : Int32).toNatClampNeg))), (7, .int (w66xm2 (((64 * (w35xl3 + 1)) + (w42xl4 ||| ((1 : Int32) <<< (w66xl6 &&& 31)))) : Int32).toNatClampNeg)), (4, .int w42xl4), (3, .int w35xl3), (0, .ref h), (1, .int m_), (2, .int b_)]) hx hb dX10_who_182 hl (k := 3) rfl rfl (by decide) rfl (fun ls hl => ?_)
                                      refine lv_goto (tgt := 66) hx hb dX10_who_185 (by decide) ?_
                                      exact ih_w66x (w66xl6 + 1) w66xl5 w66xm0 w66xm1 w66xm2 _ _ ls hP hD hS (lv_sub hl [0, 1, 4, 5, 6, 7, 8] rfl) hF hE
                                    · replace hF := hF.2 c_134
                                      rw [if_neg c_134] at hE
                                      refine lv_iload hx hb dX10_who_173 (lv_at hl 0 rfl) ?_
                                      refine lv_goto (tgt := 180) hx hb dX10_who_175 (by decide) ?_
                                      refine lv_istore (lv' := [(5, .int ((w66xm2 (((64 * (w35xl3 + 1)) + (w42xl4 ||| ((1 : Int32) <<< (w66xl6 &&& 31)))) : Int32).toNatClampNeg) + (w66xm1 (((6 * w35xl3) + w66xl6) : Int32).toNatClampNeg))), (8, .int ((w66xm2 (((64 * (w35xl3 + 1)) + (w42xl4 ||| ((1 : Int32) <<< (w66xl6 &&& 31)))) : Int32).toNatClampNeg) + (w66xm1 (((6 * w35xl3) + w66xl6) : Int32).toNatClampNeg))), (7, .int (w66xm2 (((64 * (w35xl3 + 1)) + (w42xl4 ||| ((1 : Int32) <<< (w66xl6 &&& 31)))) : Int32).toNatClampNeg)), (6, .int w66xl6), (4, .int w42xl4), (3, .int w35xl3), (0, .ref h), (1, .int m_), (2, .int b_)]) hx hb dX10_who_180 hl (by decide) rfl (fun ls hl => ?_)
                                      refine lv_iinc (v := (w66xl6 + 1)) (lv' := [(6, .int (w66xl6 + 1)), (5, .int ((w66xm2 (((64 * (w35xl3 + 1)) + (w42xl4 ||| ((1 : Int32) <<< (w66xl6 &&& 31)))) : Int32).toNatClampNeg) + (w66xm1 (((6 * w35xl3) + w66xl6) : Int32).toNatClampNeg))), (8, .int ((w66xm2 (((64 * (w35xl3 + 1)) + (w42xl4 ||| ((1 : Int32) <<< (w66xl6 &&& 31)))) : Int32).toNatClampNeg) + (w66xm1 (((6 * w35xl3) + w66xl6) : Int32).toNatClampNeg))), (7, .int (w66xm2 (((64 * (w35xl3 + 1)) + (w42xl4 ||| ((1 : Int32) <<< (w66xl6 &&& 31)))) : Int32).toNatClampNeg)), (4, .int w42xl4), (3, .int w35xl3), (0, .ref h), (1, .int m_), (2, .int b_)]) hx hb dX10_who_182 hl (k := 3) rfl rfl (by decide) rfl (fun ls hl => ?_)
                                      refine lv_goto (tgt := 66) hx hb dX10_who_185 (by decide) ?_
                                      exact ih_w66x (w66xl6 + 1) ((w66xm2 (((64 * (w35xl3 + 1)) + (w42xl4 ||| ((1 : Int32) <<< (w66xl6 &&& 31)))) : Int32).toNatClampNeg) + (w66xm1 (((6 * w35xl3) + w66xl6) : Int32).toNatClampNeg)) w66xm0 w66xm1 w66xm2 _ _ ls hP hD hS (lv_sub hl [0, 1, 4, 5, 6, 7, 8] rfl) hF hE
                                  · replace hF := hF.1 c_132
                                    rw [if_pos c_132] at hE
                                    refine lv_ldcw (v := 1000000000) hx hb hown (hts _ wd_651) dX10_who_143 ?_
                                    refine lv_goto (tgt := 164) hx hb dX10_who_146 (by decide) ?_
                                    refine lv_istore (lv' := [(8, .int 1000000000), (7, .int (w66xm2 (((64 * (w35xl3 + 1)) + (w42xl4 ||| ((1 : Int32) <<< (w66xl6 &&& 31)))) : Int32).toNatClampNeg)), (6, .int w66xl6), (5, .int w66xl5), (4, .int w42xl4), (3, .int w35xl3), (0, .ref h), (1, .int m_), (2, .int b_)]) hx hb dX10_who_164 hl (by decide) rfl (fun ls hl => ?_)
                                    refine lv_iload hx hb dX10_who_166 (lv_at hl 0 rfl) ?_
                                    refine lv_iload hx hb dX10_who_168 (lv_at hl 3 rfl) ?_
                                    refine lv_icmp_ge (tgt := 178) hx hb dX10_who_170 (by decide) (fun c_135 => ?_) (fun c_135 => ?_)
                                    · replace hF := hF.1 c_135
                                      rw [if_pos c_135] at hE
                                      refine lv_iload hx hb dX10_who_178 (lv_at hl 3 rfl) ?_
                                      refine lv_istore (lv' := [(5, .int w66xl5), (8, .int 1000000000), (7, .int (w66xm2 (((64 * (w35xl3 + 1)) + (w42xl4 ||| ((1 : Int32) <<< (w66xl6 &&& 31)))) : Int32).toNatClampNeg)), (6, .int w66xl6), (4, .int w42xl4), (3, .int w35xl3), (0, .ref h), (1, .int m_), (2, .int b_)]) hx hb dX10_who_180 hl (by decide) rfl (fun ls hl => ?_)
                                      refine lv_iinc (v := (w66xl6 + 1)) (lv' := [(6, .int (w66xl6 + 1)), (5, .int w66xl5), (8, .int 1000000000), (7, .int (w66xm2 (((64 * (w35xl3 + 1)) + (w42xl4 ||| ((1 : Int32) <<< (w66xl6 &&& 31)))) : Int32).toNatClampNeg)), (4, .int w42xl4), (3, .int w35xl3), (0, .ref h), (1, .int m_), (2, .int b_)]) hx hb dX10_who_182 hl (k := 3) rfl rfl (by decide) rfl (fun ls hl => ?_)
                                      refine lv_goto (tgt := 66) hx hb dX10_who_185 (by decide) ?_
                                      exact ih_w66x (w66xl6 + 1) w66xl5 w66xm0 w66xm1 w66xm2 _ _ ls hP hD hS (lv_sub hl [0, 1, 4, 5, 6, 7, 8] rfl) hF hE
                                    · replace hF := hF.2 c_135
                                      rw [if_neg c_135] at hE
                                      refine lv_iload hx hb dX10_who_173 (lv_at hl 0 rfl) ?_
                                      refine lv_goto (tgt := 180) hx hb dX10_who_175 (by decide) ?_
                                      refine lv_istore (lv' := [(5, .int 1000000000), (8, .int 1000000000), (7, .int (w66xm2 (((64 * (w35xl3 + 1)) + (w42xl4 ||| ((1 : Int32) <<< (w66xl6 &&& 31)))) : Int32).toNatClampNeg)), (6, .int w66xl6), (4, .int w42xl4), (3, .int w35xl3), (0, .ref h), (1, .int m_), (2, .int b_)]) hx hb dX10_who_180 hl (by decide) rfl (fun ls hl => ?_)
                                      refine lv_iinc (v := (w66xl6 + 1)) (lv' := [(6, .int (w66xl6 + 1)), (5, .int 1000000000), (8, .int 1000000000), (7, .int (w66xm2 (((64 * (w35xl3 + 1)) + (w42xl4 ||| ((1 : Int32) <<< (w66xl6 &&& 31)))) : Int32).toNatClampNeg)), (4, .int w42xl4), (3, .int w35xl3), (0, .ref h), (1, .int m_), (2, .int b_)]) hx hb dX10_who_182 hl (k := 3) rfl rfl (by decide) rfl (fun ls hl => ?_)
                                      refine lv_goto (tgt := 66) hx hb dX10_who_185 (by decide) ?_
                                      exact ih_w66x (w66xl6 + 1) 1000000000 w66xm0 w66xm1 w66xm2 _ _ ls hP hD hS (lv_sub hl [0, 1, 4, 5, 6, 7, 8] rfl) hF hE
                              · replace hF := hF.2 c_127
                                rw [if_neg c_127] at hE
                                refine lv_ldcw (v := 1000000000) hx hb hown (hts _ wd_651) dX10_who_90 ?_
                                refine lv_goto (tgt := 115) hx hb dX10_who_93 (by decide) ?_
                                refine lv_istore (lv' := [(7, .int 1000000000), (6, .int w66xl6), (5, .int w66xl5), (4, .int w42xl4), (3, .int w35xl3), (0, .ref h), (1, .int m_), (2, .int b_)]) hx hb dX10_who_115 hl (by decide) rfl (fun ls hl => ?_)
                                refine lv_iload hx hb dX10_who_117 (lv_at hl 0 rfl) ?_
                                refine lv_ldcw (v := 1000000000) hx hb hown (hts _ wd_651) dX10_who_119 ?_
                                refine lv_icmp_eq (tgt := 143) hx hb dX10_who_122 (by decide) (fun c_136 => ?_) (fun c_136 => absurd (by decide +kernel) c_136)
                                refine lv_ldcw (v := 1000000000) hx hb hown (hts _ wd_651) dX10_who_143 ?_
                                refine lv_goto (tgt := 164) hx hb dX10_who_146 (by decide) ?_
                                refine lv_istore (lv' := [(8, .int 1000000000), (7, .int 1000000000), (6, .int w66xl6), (5, .int w66xl5), (4, .int w42xl4), (3, .int w35xl3), (0, .ref h), (1, .int m_), (2, .int b_)]) hx hb dX10_who_164 hl (by decide) rfl (fun ls hl => ?_)
                                refine lv_iload hx hb dX10_who_166 (lv_at hl 0 rfl) ?_
                                refine lv_iload hx hb dX10_who_168 (lv_at hl 3 rfl) ?_
                                refine lv_icmp_ge (tgt := 178) hx hb dX10_who_170 (by decide) (fun c_137 => ?_) (fun c_137 => ?_)
                                · replace hF := hF.1 c_137
                                  rw [if_pos c_137] at hE
                                  refine lv_iload hx hb dX10_who_178 (lv_at hl 3 rfl) ?_
                                  refine lv_istore (lv' := [(5, .int w66xl5), (8, .int 1000000000), (7, .int 1000000000), (6, .int w66xl6), (4, .int w42xl4), (3, .int w35xl3), (0, .ref h), (1, .int m_), (2, .int b_)]) hx hb dX10_who_180 hl (by decide) rfl (fun ls hl => ?_)
                                  refine lv_iinc (v := (w66xl6 + 1)) (lv' := [(6, .int (w66xl6 + 1)), (5, .int w66xl5), (8, .int 1000000000), (7, .int 1000000000), (4, .int w42xl4), (3, .int w35xl3), (0, .ref h), (1, .int m_), (2, .int b_)]) hx hb dX10_who_182 hl (k := 3) rfl rfl (by decide) rfl (fun ls hl => ?_)
                                  refine lv_goto (tgt := 66) hx hb dX10_who_185 (by decide) ?_
                                  exact ih_w66x (w66xl6 + 1) w66xl5 w66xm0 w66xm1 w66xm2 _ _ ls hP hD hS (lv_sub hl [0, 1, 4, 5, 6, 7, 8] rfl) hF hE
                                · replace hF := hF.2 c_137
                                  rw [if_neg c_137] at hE
                                  refine lv_iload hx hb dX10_who_173 (lv_at hl 0 rfl) ?_
                                  refine lv_goto (tgt := 180) hx hb dX10_who_175 (by decide) ?_
                                  refine lv_istore (lv' := [(5, .int 1000000000), (8, .int 1000000000), (7, .int 1000000000), (6, .int w66xl6), (4, .int w42xl4), (3, .int w35xl3), (0, .ref h), (1, .int m_), (2, .int b_)]) hx hb dX10_who_180 hl (by decide) rfl (fun ls hl => ?_)
                                  refine lv_iinc (v := (w66xl6 + 1)) (lv' := [(6, .int (w66xl6 + 1)), (5, .int 1000000000), (8, .int 1000000000), (7, .int 1000000000), (4, .int w42xl4), (3, .int w35xl3), (0, .ref h), (1, .int m_), (2, .int b_)]) hx hb dX10_who_182 hl (k := 3) rfl rfl (by decide) rfl (fun ls hl => ?_)
                                  refine lv_goto (tgt := 66) hx hb dX10_who_185 (by decide) ?_
                                  exact ih_w66x (w66xl6 + 1) 1000000000 w66xm0 w66xm1 w66xm2 _ _ ls hP hD hS (lv_sub hl [0, 1, 4, 5, 6, 7, 8] rfl) hF hE
                      exact lp_66_w66x 10 0 0 w42xm0 w42xm1 w42xm2 _ _ ls hP hD hS hl hF hE
              exact lp_42_w42x (((64 : Int32).toInt - (0 : Int32).toInt).toNat + 1) 0 w35xm0 w35xm1 w35xm2 _ _ ls hP hD hS hl hF (Nat.lt_succ_self _) hE
        exact lp_35_w35x 10 (m_ + 1) o_77 o_78 f36 _ _ ls hP hD hS hl hF hE
      · replace hF := hF.1 c_73
        rw [if_pos c_73] at hE
        refine lv_ldc (v := (-1000000001)) hx hb hown (hts _ wd_580) dX10_who_24 ?_
        exact hret (-1000000001) (G, f37, f36) _ _ _ _ dX10_who_26 rfl hE (cutP (isC := [5, 0, 1, 2, 3, 4]) hP rfl) (cutD (isC := [5, 0, 1, 2, 3, 4]) hD rfl rfl) hS
