theorem dL_law_172 : decode cL_law 172 = .ok (.aload_n 1, 1) := by decide +kernel
theorem dL_law_173 : decode cL_law 173 = .ok (.aload_n 0, 1) := by decide +kernel
theorem dL_law_174 : decode cL_law 174 = .ok (.iload_n 3, 1) := by decide +kernel
theorem dL_law_175 : decode cL_law 175 = .ok (.iconst 1, 1) := by decide +kernel
theorem dL_law_176 : decode cL_law 176 = .ok (.iadd, 1) := by decide +kernel
theorem dL_law_177 : decode cL_law 177 = .ok (.iaload, 1) := by decide +kernel
theorem dL_law_178 : decode cL_law 178 = .ok (.invokevirtual 13, 3) := by decide +kernel
theorem wd_368 : Cond.methodLink RL 13 yX9_feed ∈ BG := BG_in (by decide +kernel) rfl
theorem wd_369 : Cond.code yX9_feed cX9_feed 2 (some .int) ∈ BG := BG_in (by decide +kernel) rfl
theorem wd_370 : Cond.instanceMethod yX9_feed ∈ BG := BG_in (by decide +kernel) rfl
theorem wd_371 : Cond.selects RX9 yX9_feed yX9_feed ∈ BG := BG_in (by decide +kernel) rfl
theorem okV_X9_feed : okV yX9_feed cX9_feed 2 (some .int) 1 := ⟨⟨wd_369, wd_71, by decide +kernel⟩, wd_370, wd_371⟩
theorem dL_law_181 : decode cL_law 181 = .ok (.aload_n 2, 1) := by decide +kernel
theorem dL_law_182 : decode cL_law 182 = .ok (.aload_n 0, 1) := by decide +kernel
theorem dL_law_183 : decode cL_law 183 = .ok (.iload_n 3, 1) := by decide +kernel
theorem dL_law_184 : decode cL_law 184 = .ok (.iconst 1, 1) := by decide +kernel
theorem dL_law_185 : decode cL_law 185 = .ok (.iadd, 1) := by decide +kernel
theorem dL_law_186 : decode cL_law 186 = .ok (.iaload, 1) := by decide +kernel
theorem dL_law_187 : decode cL_law 187 = .ok (.invokevirtual 17, 3) := by decide +kernel
theorem wd_372 : Cond.methodLink RL 17 yX10_feed ∈ BG := BG_in (by decide +kernel) rfl
theorem wd_373 : Cond.code yX10_feed cX10_feed 2 (some .int) ∈ BG := BG_in (by decide +kernel) rfl
theorem wd_374 : Cond.instanceMethod yX10_feed ∈ BG := BG_in (by decide +kernel) rfl
theorem wd_375 : Cond.selects RX10 yX10_feed yX10_feed ∈ BG := BG_in (by decide +kernel) rfl
theorem okV_X10_feed : okV yX10_feed cX10_feed 2 (some .int) 1 := ⟨⟨wd_373, wd_295, by decide +kernel⟩, wd_374, wd_375⟩
theorem dL_law_190 : decode cL_law 190 = .ok (.if_icmp .eq 825, 3) := by decide +kernel
theorem dL_law_195 : decode cL_law 195 = .ok (.aload_n 1, 1) := by decide +kernel
theorem dL_law_196 : decode cL_law 196 = .ok (.invokevirtual 18, 3) := by decide +kernel
theorem wd_376 : Cond.methodLink RL 18 yX9_town ∈ BG := BG_in (by decide +kernel) rfl
theorem wd_377 : Cond.code yX9_town cX9_town 2 (some .int) ∈ BG := BG_in (by decide +kernel) rfl
theorem wd_378 : Cond.instanceMethod yX9_town ∈ BG := BG_in (by decide +kernel) rfl
theorem wd_379 : Cond.selects RX9 yX9_town yX9_town ∈ BG := BG_in (by decide +kernel) rfl
theorem okV_X9_town : okV yX9_town cX9_town 2 (some .int) 0 := ⟨⟨wd_377, wd_71, by decide +kernel⟩, wd_378, wd_379⟩
theorem dL_law_199 : decode cL_law 199 = .ok (.aload_n 2, 1) := by decide +kernel
theorem dL_law_200 : decode cL_law 200 = .ok (.invokevirtual 22, 3) := by decide +kernel
theorem wd_380 : Cond.methodLink RL 22 yX10_town ∈ BG := BG_in (by decide +kernel) rfl
theorem wd_381 : Cond.code yX10_town cX10_town 3 (some .int) ∈ BG := BG_in (by decide +kernel) rfl
theorem wd_382 : Cond.instanceMethod yX10_town ∈ BG := BG_in (by decide +kernel) rfl
theorem wd_383 : Cond.selects RX10 yX10_town yX10_town ∈ BG := BG_in (by decide +kernel) rfl
theorem okV_X10_town : okV yX10_town cX10_town 3 (some .int) 0 := ⟨⟨wd_381, wd_295, by decide +kernel⟩, wd_382, wd_383⟩
theorem dL_law_203 : decode cL_law 203 = .ok (.if_icmp .eq 812, 3) := by decide +kernel
theorem dL_law_208 : decode cL_law 208 = .ok (.aload_n 1, 1) := by decide +kernel
theorem dL_law_209 : decode cL_law 209 = .ok (.invokevirtual 23, 3) := by decide +kernel
theorem wd_384 : Cond.methodLink RL 23 yX9_fault ∈ BG := BG_in (by decide +kernel) rfl
theorem wd_385 : Cond.code yX9_fault cX9_fault 1 (some .int) ∈ BG := BG_in (by decide +kernel) rfl
theorem wd_386 : Cond.instanceMethod yX9_fault ∈ BG := BG_in (by decide +kernel) rfl
theorem wd_387 : Cond.selects RX9 yX9_fault yX9_fault ∈ BG := BG_in (by decide +kernel) rfl
theorem okV_X9_fault : okV yX9_fault cX9_fault 1 (some .int) 0 := ⟨⟨wd_385, wd_71, by decide +kernel⟩, wd_386, wd_387⟩
theorem dL_law_212 : decode cL_law 212 = .ok (.aload_n 2, 1) := by decide +kernel
theorem dL_law_213 : decode cL_law 213 = .ok (.invokevirtual 26, 3) := by decide +kernel
theorem wd_388 : Cond.methodLink RL 26 yX10_fault ∈ BG := BG_in (by decide +kernel) rfl
theorem wd_389 : Cond.code yX10_fault cX10_fault 1 (some .int) ∈ BG := BG_in (by decide +kernel) rfl
theorem wd_390 : Cond.instanceMethod yX10_fault ∈ BG := BG_in (by decide +kernel) rfl
theorem wd_391 : Cond.selects RX10 yX10_fault yX10_fault ∈ BG := BG_in (by decide +kernel) rfl
theorem okV_X10_fault : okV yX10_fault cX10_fault 1 (some .int) 0 := ⟨⟨wd_389, wd_295, by decide +kernel⟩, wd_390, wd_391⟩
theorem dL_law_216 : decode cL_law 216 = .ok (.if_icmp .eq 799, 3) := by decide +kernel
theorem dL_law_221 : decode cL_law 221 = .ok (.aload_n 1, 1) := by decide +kernel
theorem dL_law_222 : decode cL_law 222 = .ok (.aload_n 0, 1) := by decide +kernel
theorem dL_law_223 : decode cL_law 223 = .ok (.iload_n 3, 1) := by decide +kernel
theorem dL_law_224 : decode cL_law 224 = .ok (.iconst 1, 1) := by decide +kernel
theorem dL_law_225 : decode cL_law 225 = .ok (.iadd, 1) := by decide +kernel
theorem dL_law_226 : decode cL_law 226 = .ok (.iaload, 1) := by decide +kernel
theorem dL_law_227 : decode cL_law 227 = .ok (.invokevirtual 27, 3) := by decide +kernel
theorem wd_392 : Cond.methodLink RL 27 yX9_told ∈ BG := BG_in (by decide +kernel) rfl
theorem wd_393 : Cond.code yX9_told cX9_told 2 (some .int) ∈ BG := BG_in (by decide +kernel) rfl
theorem wd_394 : Cond.instanceMethod yX9_told ∈ BG := BG_in (by decide +kernel) rfl
theorem wd_395 : Cond.selects RX9 yX9_told yX9_told ∈ BG := BG_in (by decide +kernel) rfl
theorem okV_X9_told : okV yX9_told cX9_told 2 (some .int) 1 := ⟨⟨wd_393, wd_71, by decide +kernel⟩, wd_394, wd_395⟩
theorem dL_law_230 : decode cL_law 230 = .ok (.aload_n 2, 1) := by decide +kernel
theorem dL_law_231 : decode cL_law 231 = .ok (.aload_n 0, 1) := by decide +kernel
theorem dL_law_232 : decode cL_law 232 = .ok (.iload_n 3, 1) := by decide +kernel
theorem dL_law_233 : decode cL_law 233 = .ok (.iconst 1, 1) := by decide +kernel
theorem dL_law_234 : decode cL_law 234 = .ok (.iadd, 1) := by decide +kernel
theorem dL_law_235 : decode cL_law 235 = .ok (.iaload, 1) := by decide +kernel
theorem dL_law_236 : decode cL_law 236 = .ok (.invokevirtual 30, 3) := by decide +kernel
theorem wd_396 : Cond.methodLink RL 30 yX10_told ∈ BG := BG_in (by decide +kernel) rfl
theorem wd_397 : Cond.code yX10_told cX10_told 2 (some .int) ∈ BG := BG_in (by decide +kernel) rfl
theorem wd_398 : Cond.instanceMethod yX10_told ∈ BG := BG_in (by decide +kernel) rfl
theorem wd_399 : Cond.selects RX10 yX10_told yX10_told ∈ BG := BG_in (by decide +kernel) rfl
theorem okV_X10_told : okV yX10_told cX10_told 2 (some .int) 1 := ⟨⟨wd_397, wd_295, by decide +kernel⟩, wd_398, wd_399⟩
theorem dL_law_239 : decode cL_law 239 = .ok (.if_icmp .eq 776, 3) := by decide +kernel
theorem dL_law_244 : decode cL_law 244 = .ok (.aload_n 1, 1) := by decide +kernel
theorem dL_law_245 : decode cL_law 245 = .ok (.aload_n 0, 1) := by decide +kernel
theorem dL_law_246 : decode cL_law 246 = .ok (.iload_n 3, 1) := by decide +kernel
theorem dL_law_247 : decode cL_law 247 = .ok (.iconst 1, 1) := by decide +kernel
theorem dL_law_248 : decode cL_law 248 = .ok (.iadd, 1) := by decide +kernel
theorem dL_law_249 : decode cL_law 249 = .ok (.iaload, 1) := by decide +kernel
theorem dL_law_250 : decode cL_law 250 = .ok (.aload_n 0, 1) := by decide +kernel
theorem dL_law_251 : decode cL_law 251 = .ok (.iload_n 3, 1) := by decide +kernel
theorem dL_law_252 : decode cL_law 252 = .ok (.iconst 2, 1) := by decide +kernel
theorem dL_law_253 : decode cL_law 253 = .ok (.iadd, 1) := by decide +kernel
theorem dL_law_254 : decode cL_law 254 = .ok (.iaload, 1) := by decide +kernel
theorem dL_law_255 : decode cL_law 255 = .ok (.invokevirtual 31, 3) := by decide +kernel
theorem wd_400 : Cond.methodLink RL 31 yX9_bridge ∈ BG := BG_in (by decide +kernel) rfl
theorem wd_401 : Cond.code yX9_bridge cX9_bridge 3 (some .int) ∈ BG := BG_in (by decide +kernel) rfl
theorem wd_402 : Cond.instanceMethod yX9_bridge ∈ BG := BG_in (by decide +kernel) rfl
theorem wd_403 : Cond.selects RX9 yX9_bridge yX9_bridge ∈ BG := BG_in (by decide +kernel) rfl
theorem okV_X9_bridge : okV yX9_bridge cX9_bridge 3 (some .int) 2 := ⟨⟨wd_401, wd_71, by decide +kernel⟩, wd_402, wd_403⟩
theorem dL_law_258 : decode cL_law 258 = .ok (.aload_n 2, 1) := by decide +kernel
theorem dL_law_259 : decode cL_law 259 = .ok (.aload_n 0, 1) := by decide +kernel
theorem dL_law_260 : decode cL_law 260 = .ok (.iload_n 3, 1) := by decide +kernel
theorem dL_law_261 : decode cL_law 261 = .ok (.iconst 1, 1) := by decide +kernel
theorem dL_law_262 : decode cL_law 262 = .ok (.iadd, 1) := by decide +kernel
theorem dL_law_263 : decode cL_law 263 = .ok (.iaload, 1) := by decide +kernel
theorem dL_law_264 : decode cL_law 264 = .ok (.aload_n 0, 1) := by decide +kernel
theorem dL_law_265 : decode cL_law 265 = .ok (.iload_n 3, 1) := by decide +kernel
theorem dL_law_266 : decode cL_law 266 = .ok (.iconst 2, 1) := by decide +kernel
theorem dL_law_267 : decode cL_law 267 = .ok (.iadd, 1) := by decide +kernel
theorem dL_law_268 : decode cL_law 268 = .ok (.iaload, 1) := by decide +kernel
theorem dL_law_269 : decode cL_law 269 = .ok (.invokevirtual 35, 3) := by decide +kernel
theorem wd_404 : Cond.methodLink RL 35 yX10_bridge ∈ BG := BG_in (by decide +kernel) rfl
theorem wd_405 : Cond.code yX10_bridge cX10_bridge 3 (some .int) ∈ BG := BG_in (by decide +kernel) rfl
theorem wd_406 : Cond.instanceMethod yX10_bridge ∈ BG := BG_in (by decide +kernel) rfl
theorem wd_407 : Cond.selects RX10 yX10_bridge yX10_bridge ∈ BG := BG_in (by decide +kernel) rfl
theorem okV_X10_bridge : okV yX10_bridge cX10_bridge 3 (some .int) 2 := ⟨⟨wd_405, wd_295, by decide +kernel⟩, wd_406, wd_407⟩
theorem dL_law_272 : decode cL_law 272 = .ok (.if_icmp .eq 743, 3) := by decide +kernel
theorem dL_law_277 : decode cL_law 277 = .ok (.aload_n 1, 1) := by decide +kernel
theorem dL_law_278 : decode cL_law 278 = .ok (.aload_n 0, 1) := by decide +kernel
theorem dL_law_279 : decode cL_law 279 = .ok (.iload_n 3, 1) := by decide +kernel
theorem dL_law_280 : decode cL_law 280 = .ok (.iconst 1, 1) := by decide +kernel
theorem dL_law_281 : decode cL_law 281 = .ok (.iadd, 1) := by decide +kernel
theorem dL_law_282 : decode cL_law 282 = .ok (.iaload, 1) := by decide +kernel
theorem dL_law_283 : decode cL_law 283 = .ok (.aload_n 0, 1) := by decide +kernel
theorem dL_law_284 : decode cL_law 284 = .ok (.iload_n 3, 1) := by decide +kernel
theorem dL_law_285 : decode cL_law 285 = .ok (.iconst 2, 1) := by decide +kernel
theorem dL_law_286 : decode cL_law 286 = .ok (.iadd, 1) := by decide +kernel
theorem dL_law_287 : decode cL_law 287 = .ok (.iaload, 1) := by decide +kernel
theorem dL_law_288 : decode cL_law 288 = .ok (.invokevirtual 36, 3) := by decide +kernel
theorem wd_408 : Cond.methodLink RL 36 yX9_couple ∈ BG := BG_in (by decide +kernel) rfl
theorem wd_409 : Cond.code yX9_couple cX9_couple 3 (some .int) ∈ BG := BG_in (by decide +kernel) rfl
theorem wd_410 : Cond.instanceMethod yX9_couple ∈ BG := BG_in (by decide +kernel) rfl
theorem wd_411 : Cond.selects RX9 yX9_couple yX9_couple ∈ BG := BG_in (by decide +kernel) rfl
theorem okV_X9_couple : okV yX9_couple cX9_couple 3 (some .int) 2 := ⟨⟨wd_409, wd_71, by decide +kernel⟩, wd_410, wd_411⟩
theorem dL_law_291 : decode cL_law 291 = .ok (.aload_n 2, 1) := by decide +kernel
theorem dL_law_292 : decode cL_law 292 = .ok (.aload_n 0, 1) := by decide +kernel
theorem dL_law_293 : decode cL_law 293 = .ok (.iload_n 3, 1) := by decide +kernel
theorem dL_law_294 : decode cL_law 294 = .ok (.iconst 1, 1) := by decide +kernel
theorem dL_law_295 : decode cL_law 295 = .ok (.iadd, 1) := by decide +kernel
theorem dL_law_296 : decode cL_law 296 = .ok (.iaload, 1) := by decide +kernel
theorem dL_law_297 : decode cL_law 297 = .ok (.aload_n 0, 1) := by decide +kernel
theorem dL_law_298 : decode cL_law 298 = .ok (.iload_n 3, 1) := by decide +kernel
theorem dL_law_299 : decode cL_law 299 = .ok (.iconst 2, 1) := by decide +kernel
theorem dL_law_300 : decode cL_law 300 = .ok (.iadd, 1) := by decide +kernel
theorem dL_law_301 : decode cL_law 301 = .ok (.iaload, 1) := by decide +kernel
theorem dL_law_302 : decode cL_law 302 = .ok (.invokevirtual 39, 3) := by decide +kernel
theorem wd_412 : Cond.methodLink RL 39 yX10_couple ∈ BG := BG_in (by decide +kernel) rfl
theorem wd_413 : Cond.code yX10_couple cX10_couple 3 (some .int) ∈ BG := BG_in (by decide +kernel) rfl
theorem wd_414 : Cond.instanceMethod yX10_couple ∈ BG := BG_in (by decide +kernel) rfl
theorem wd_415 : Cond.selects RX10 yX10_couple yX10_couple ∈ BG := BG_in (by decide +kernel) rfl
theorem okV_X10_couple : okV yX10_couple cX10_couple 3 (some .int) 2 := ⟨⟨wd_413, wd_295, by decide +kernel⟩, wd_414, wd_415⟩
theorem dL_law_305 : decode cL_law 305 = .ok (.if_icmp .eq 710, 3) := by decide +kernel
theorem dL_law_310 : decode cL_law 310 = .ok (.aload_n 1, 1) := by decide +kernel
theorem dL_law_311 : decode cL_law 311 = .ok (.aload_n 0, 1) := by decide +kernel
theorem dL_law_312 : decode cL_law 312 = .ok (.iload_n 3, 1) := by decide +kernel
theorem dL_law_313 : decode cL_law 313 = .ok (.iconst 1, 1) := by decide +kernel
theorem dL_law_314 : decode cL_law 314 = .ok (.iadd, 1) := by decide +kernel
theorem dL_law_315 : decode cL_law 315 = .ok (.iaload, 1) := by decide +kernel
theorem dL_law_316 : decode cL_law 316 = .ok (.aload_n 0, 1) := by decide +kernel
theorem dL_law_317 : decode cL_law 317 = .ok (.iload_n 3, 1) := by decide +kernel
theorem dL_law_318 : decode cL_law 318 = .ok (.iconst 2, 1) := by decide +kernel
theorem dL_law_319 : decode cL_law 319 = .ok (.iadd, 1) := by decide +kernel
theorem dL_law_320 : decode cL_law 320 = .ok (.iaload, 1) := by decide +kernel
theorem dL_law_321 : decode cL_law 321 = .ok (.invokevirtual 40, 3) := by decide +kernel
theorem wd_416 : Cond.methodLink RL 40 yX9_force ∈ BG := BG_in (by decide +kernel) rfl
theorem wd_417 : Cond.code yX9_force cX9_force 3 (some .int) ∈ BG := BG_in (by decide +kernel) rfl
theorem wd_418 : Cond.instanceMethod yX9_force ∈ BG := BG_in (by decide +kernel) rfl
theorem wd_419 : Cond.selects RX9 yX9_force yX9_force ∈ BG := BG_in (by decide +kernel) rfl
theorem okV_X9_force : okV yX9_force cX9_force 3 (some .int) 2 := ⟨⟨wd_417, wd_71, by decide +kernel⟩, wd_418, wd_419⟩
theorem dL_law_324 : decode cL_law 324 = .ok (.aload_n 2, 1) := by decide +kernel
theorem dL_law_325 : decode cL_law 325 = .ok (.aload_n 0, 1) := by decide +kernel
theorem dL_law_326 : decode cL_law 326 = .ok (.iload_n 3, 1) := by decide +kernel
theorem dL_law_327 : decode cL_law 327 = .ok (.iconst 1, 1) := by decide +kernel
theorem dL_law_328 : decode cL_law 328 = .ok (.iadd, 1) := by decide +kernel
theorem dL_law_329 : decode cL_law 329 = .ok (.iaload, 1) := by decide +kernel
theorem dL_law_330 : decode cL_law 330 = .ok (.aload_n 0, 1) := by decide +kernel
theorem dL_law_331 : decode cL_law 331 = .ok (.iload_n 3, 1) := by decide +kernel
theorem dL_law_332 : decode cL_law 332 = .ok (.iconst 2, 1) := by decide +kernel
theorem dL_law_333 : decode cL_law 333 = .ok (.iadd, 1) := by decide +kernel
theorem dL_law_334 : decode cL_law 334 = .ok (.iaload, 1) := by decide +kernel
theorem dL_law_335 : decode cL_law 335 = .ok (.invokevirtual 43, 3) := by decide +kernel
theorem wd_420 : Cond.methodLink RL 43 yX10_force ∈ BG := BG_in (by decide +kernel) rfl
theorem wd_421 : Cond.code yX10_force cX10_force 3 (some .int) ∈ BG := BG_in (by decide +kernel) rfl
theorem wd_422 : Cond.instanceMethod yX10_force ∈ BG := BG_in (by decide +kernel) rfl
theorem wd_423 : Cond.selects RX10 yX10_force yX10_force ∈ BG := BG_in (by decide +kernel) rfl
theorem okV_X10_force : okV yX10_force cX10_force 3 (some .int) 2 := ⟨⟨wd_421, wd_295, by decide +kernel⟩, wd_422, wd_423⟩
theorem dL_law_338 : decode cL_law 338 = .ok (.if_icmp .eq 677, 3) := by decide +kernel
theorem dL_law_343 : decode cL_law 343 = .ok (.aload_n 1, 1) := by decide +kernel
theorem dL_law_344 : decode cL_law 344 = .ok (.aload_n 0, 1) := by decide +kernel
theorem dL_law_345 : decode cL_law 345 = .ok (.iload_n 3, 1) := by decide +kernel
theorem dL_law_346 : decode cL_law 346 = .ok (.iconst 1, 1) := by decide +kernel
theorem dL_law_347 : decode cL_law 347 = .ok (.iadd, 1) := by decide +kernel
theorem dL_law_348 : decode cL_law 348 = .ok (.iaload, 1) := by decide +kernel
theorem dL_law_349 : decode cL_law 349 = .ok (.aload_n 0, 1) := by decide +kernel
theorem dL_law_350 : decode cL_law 350 = .ok (.iload_n 3, 1) := by decide +kernel
theorem dL_law_351 : decode cL_law 351 = .ok (.iconst 2, 1) := by decide +kernel
theorem dL_law_352 : decode cL_law 352 = .ok (.iadd, 1) := by decide +kernel
theorem dL_law_353 : decode cL_law 353 = .ok (.iaload, 1) := by decide +kernel
theorem dL_law_354 : decode cL_law 354 = .ok (.invokevirtual 44, 3) := by decide +kernel
theorem wd_424 : Cond.methodLink RL 44 yX9_barge ∈ BG := BG_in (by decide +kernel) rfl
theorem wd_425 : Cond.code yX9_barge cX9_barge 3 (some .int) ∈ BG := BG_in (by decide +kernel) rfl
theorem wd_426 : Cond.instanceMethod yX9_barge ∈ BG := BG_in (by decide +kernel) rfl
theorem wd_427 : Cond.selects RX9 yX9_barge yX9_barge ∈ BG := BG_in (by decide +kernel) rfl
theorem okV_X9_barge : okV yX9_barge cX9_barge 3 (some .int) 2 := ⟨⟨wd_425, wd_71, by decide +kernel⟩, wd_426, wd_427⟩
theorem dL_law_357 : decode cL_law 357 = .ok (.aload_n 2, 1) := by decide +kernel
theorem dL_law_358 : decode cL_law 358 = .ok (.aload_n 0, 1) := by decide +kernel
theorem dL_law_359 : decode cL_law 359 = .ok (.iload_n 3, 1) := by decide +kernel
theorem dL_law_360 : decode cL_law 360 = .ok (.iconst 1, 1) := by decide +kernel
theorem dL_law_361 : decode cL_law 361 = .ok (.iadd, 1) := by decide +kernel
theorem dL_law_362 : decode cL_law 362 = .ok (.iaload, 1) := by decide +kernel
theorem dL_law_363 : decode cL_law 363 = .ok (.aload_n 0, 1) := by decide +kernel
theorem dL_law_364 : decode cL_law 364 = .ok (.iload_n 3, 1) := by decide +kernel
theorem dL_law_365 : decode cL_law 365 = .ok (.iconst 2, 1) := by decide +kernel
theorem dL_law_366 : decode cL_law 366 = .ok (.iadd, 1) := by decide +kernel
theorem dL_law_367 : decode cL_law 367 = .ok (.iaload, 1) := by decide +kernel
theorem dL_law_368 : decode cL_law 368 = .ok (.invokevirtual 47, 3) := by decide +kernel
theorem wd_428 : Cond.methodLink RL 47 yX10_barge ∈ BG := BG_in (by decide +kernel) rfl
theorem wd_429 : Cond.code yX10_barge cX10_barge 3 (some .int) ∈ BG := BG_in (by decide +kernel) rfl
theorem wd_430 : Cond.instanceMethod yX10_barge ∈ BG := BG_in (by decide +kernel) rfl
theorem wd_431 : Cond.selects RX10 yX10_barge yX10_barge ∈ BG := BG_in (by decide +kernel) rfl
theorem okV_X10_barge : okV yX10_barge cX10_barge 3 (some .int) 2 := ⟨⟨wd_429, wd_295, by decide +kernel⟩, wd_430, wd_431⟩
theorem dL_law_371 : decode cL_law 371 = .ok (.if_icmp .eq 644, 3) := by decide +kernel
theorem dL_law_376 : decode cL_law 376 = .ok (.aload_n 1, 1) := by decide +kernel
theorem dL_law_377 : decode cL_law 377 = .ok (.aload_n 0, 1) := by decide +kernel
theorem dL_law_378 : decode cL_law 378 = .ok (.iload_n 3, 1) := by decide +kernel
theorem dL_law_379 : decode cL_law 379 = .ok (.iconst 1, 1) := by decide +kernel
theorem dL_law_380 : decode cL_law 380 = .ok (.iadd, 1) := by decide +kernel
theorem dL_law_381 : decode cL_law 381 = .ok (.iaload, 1) := by decide +kernel
theorem dL_law_382 : decode cL_law 382 = .ok (.aload_n 0, 1) := by decide +kernel
theorem dL_law_383 : decode cL_law 383 = .ok (.iload_n 3, 1) := by decide +kernel
theorem dL_law_384 : decode cL_law 384 = .ok (.iconst 2, 1) := by decide +kernel
theorem dL_law_385 : decode cL_law 385 = .ok (.iadd, 1) := by decide +kernel
theorem dL_law_386 : decode cL_law 386 = .ok (.iaload, 1) := by decide +kernel
theorem dL_law_387 : decode cL_law 387 = .ok (.aload_n 0, 1) := by decide +kernel
theorem dL_law_388 : decode cL_law 388 = .ok (.iload_n 3, 1) := by decide +kernel
theorem dL_law_389 : decode cL_law 389 = .ok (.iconst 3, 1) := by decide +kernel
theorem dL_law_390 : decode cL_law 390 = .ok (.iadd, 1) := by decide +kernel
theorem dL_law_391 : decode cL_law 391 = .ok (.iaload, 1) := by decide +kernel
theorem dL_law_392 : decode cL_law 392 = .ok (.invokevirtual 48, 3) := by decide +kernel
theorem wd_432 : Cond.methodLink RL 48 yX9_send ∈ BG := BG_in (by decide +kernel) rfl
theorem wd_433 : Cond.code yX9_send cX9_send 6 (some .int) ∈ BG := BG_in (by decide +kernel) rfl
theorem wd_434 : Cond.instanceMethod yX9_send ∈ BG := BG_in (by decide +kernel) rfl
theorem wd_435 : Cond.selects RX9 yX9_send yX9_send ∈ BG := BG_in (by decide +kernel) rfl
theorem okV_X9_send : okV yX9_send cX9_send 6 (some .int) 3 := ⟨⟨wd_433, wd_71, by decide +kernel⟩, wd_434, wd_435⟩
theorem dL_law_395 : decode cL_law 395 = .ok (.aload_n 2, 1) := by decide +kernel
theorem dL_law_396 : decode cL_law 396 = .ok (.aload_n 0, 1) := by decide +kernel
theorem dL_law_397 : decode cL_law 397 = .ok (.iload_n 3, 1) := by decide +kernel
theorem dL_law_398 : decode cL_law 398 = .ok (.iconst 1, 1) := by decide +kernel
theorem dL_law_399 : decode cL_law 399 = .ok (.iadd, 1) := by decide +kernel
theorem dL_law_400 : decode cL_law 400 = .ok (.iaload, 1) := by decide +kernel
theorem dL_law_401 : decode cL_law 401 = .ok (.aload_n 0, 1) := by decide +kernel
theorem dL_law_402 : decode cL_law 402 = .ok (.iload_n 3, 1) := by decide +kernel
theorem dL_law_403 : decode cL_law 403 = .ok (.iconst 2, 1) := by decide +kernel
theorem dL_law_404 : decode cL_law 404 = .ok (.iadd, 1) := by decide +kernel
theorem dL_law_405 : decode cL_law 405 = .ok (.iaload, 1) := by decide +kernel
theorem dL_law_406 : decode cL_law 406 = .ok (.aload_n 0, 1) := by decide +kernel
theorem dL_law_407 : decode cL_law 407 = .ok (.iload_n 3, 1) := by decide +kernel
theorem dL_law_408 : decode cL_law 408 = .ok (.iconst 3, 1) := by decide +kernel
theorem dL_law_409 : decode cL_law 409 = .ok (.iadd, 1) := by decide +kernel
theorem dL_law_410 : decode cL_law 410 = .ok (.iaload, 1) := by decide +kernel
theorem dL_law_411 : decode cL_law 411 = .ok (.invokevirtual 52, 3) := by decide +kernel
theorem wd_436 : Cond.methodLink RL 52 yX10_send ∈ BG := BG_in (by decide +kernel) rfl
theorem wd_437 : Cond.code yX10_send cX10_send 6 (some .int) ∈ BG := BG_in (by decide +kernel) rfl
theorem wd_438 : Cond.instanceMethod yX10_send ∈ BG := BG_in (by decide +kernel) rfl
theorem wd_439 : Cond.selects RX10 yX10_send yX10_send ∈ BG := BG_in (by decide +kernel) rfl
theorem okV_X10_send : okV yX10_send cX10_send 6 (some .int) 3 := ⟨⟨wd_437, wd_295, by decide +kernel⟩, wd_438, wd_439⟩
theorem dL_law_414 : decode cL_law 414 = .ok (.if_icmp .eq 601, 3) := by decide +kernel
theorem dL_law_419 : decode cL_law 419 = .ok (.aload_n 1, 1) := by decide +kernel
theorem dL_law_420 : decode cL_law 420 = .ok (.aload_n 0, 1) := by decide +kernel
theorem dL_law_421 : decode cL_law 421 = .ok (.iload_n 3, 1) := by decide +kernel
theorem dL_law_422 : decode cL_law 422 = .ok (.iconst 1, 1) := by decide +kernel
theorem dL_law_423 : decode cL_law 423 = .ok (.iadd, 1) := by decide +kernel
theorem dL_law_424 : decode cL_law 424 = .ok (.iaload, 1) := by decide +kernel
theorem dL_law_425 : decode cL_law 425 = .ok (.invokevirtual 53, 3) := by decide +kernel
theorem wd_440 : Cond.methodLink RL 53 yX9_home ∈ BG := BG_in (by decide +kernel) rfl
theorem wd_441 : Cond.code yX9_home cX9_home 3 (some .int) ∈ BG := BG_in (by decide +kernel) rfl
theorem wd_442 : Cond.instanceMethod yX9_home ∈ BG := BG_in (by decide +kernel) rfl
theorem wd_443 : Cond.selects RX9 yX9_home yX9_home ∈ BG := BG_in (by decide +kernel) rfl
theorem okV_X9_home : okV yX9_home cX9_home 3 (some .int) 1 := ⟨⟨wd_441, wd_71, by decide +kernel⟩, wd_442, wd_443⟩
theorem dL_law_428 : decode cL_law 428 = .ok (.aload_n 2, 1) := by decide +kernel
theorem dL_law_429 : decode cL_law 429 = .ok (.aload_n 0, 1) := by decide +kernel
theorem dL_law_430 : decode cL_law 430 = .ok (.iload_n 3, 1) := by decide +kernel
theorem dL_law_431 : decode cL_law 431 = .ok (.iconst 1, 1) := by decide +kernel
theorem dL_law_432 : decode cL_law 432 = .ok (.iadd, 1) := by decide +kernel
theorem dL_law_433 : decode cL_law 433 = .ok (.iaload, 1) := by decide +kernel
theorem dL_law_434 : decode cL_law 434 = .ok (.invokevirtual 56, 3) := by decide +kernel
theorem wd_444 : Cond.methodLink RL 56 yX10_home ∈ BG := BG_in (by decide +kernel) rfl
theorem wd_445 : Cond.code yX10_home cX10_home 3 (some .int) ∈ BG := BG_in (by decide +kernel) rfl
theorem wd_446 : Cond.instanceMethod yX10_home ∈ BG := BG_in (by decide +kernel) rfl
theorem wd_447 : Cond.selects RX10 yX10_home yX10_home ∈ BG := BG_in (by decide +kernel) rfl
theorem okV_X10_home : okV yX10_home cX10_home 3 (some .int) 1 := ⟨⟨wd_445, wd_295, by decide +kernel⟩, wd_446, wd_447⟩
theorem dL_law_437 : decode cL_law 437 = .ok (.if_icmp .eq 578, 3) := by decide +kernel
theorem dL_law_442 : decode cL_law 442 = .ok (.aload_n 1, 1) := by decide +kernel
theorem dL_law_443 : decode cL_law 443 = .ok (.aload_n 0, 1) := by decide +kernel
theorem dL_law_444 : decode cL_law 444 = .ok (.iload_n 3, 1) := by decide +kernel
theorem dL_law_445 : decode cL_law 445 = .ok (.iconst 1, 1) := by decide +kernel
theorem dL_law_446 : decode cL_law 446 = .ok (.iadd, 1) := by decide +kernel
theorem dL_law_447 : decode cL_law 447 = .ok (.iaload, 1) := by decide +kernel
theorem dL_law_448 : decode cL_law 448 = .ok (.invokevirtual 57, 3) := by decide +kernel
theorem wd_448 : Cond.methodLink RL 57 yX9_pass ∈ BG := BG_in (by decide +kernel) rfl
theorem wd_449 : Cond.code yX9_pass cX9_pass 4 (some .int) ∈ BG := BG_in (by decide +kernel) rfl
theorem wd_450 : Cond.instanceMethod yX9_pass ∈ BG := BG_in (by decide +kernel) rfl
theorem wd_451 : Cond.selects RX9 yX9_pass yX9_pass ∈ BG := BG_in (by decide +kernel) rfl
theorem okV_X9_pass : okV yX9_pass cX9_pass 4 (some .int) 1 := ⟨⟨wd_449, wd_71, by decide +kernel⟩, wd_450, wd_451⟩
theorem dL_law_451 : decode cL_law 451 = .ok (.aload_n 2, 1) := by decide +kernel
theorem dL_law_452 : decode cL_law 452 = .ok (.aload_n 0, 1) := by decide +kernel
theorem dL_law_453 : decode cL_law 453 = .ok (.iload_n 3, 1) := by decide +kernel
theorem dL_law_454 : decode cL_law 454 = .ok (.iconst 1, 1) := by decide +kernel
theorem dL_law_455 : decode cL_law 455 = .ok (.iadd, 1) := by decide +kernel
theorem dL_law_456 : decode cL_law 456 = .ok (.iaload, 1) := by decide +kernel
theorem dL_law_457 : decode cL_law 457 = .ok (.invokevirtual 60, 3) := by decide +kernel
theorem wd_452 : Cond.methodLink RL 60 yX10_pass ∈ BG := BG_in (by decide +kernel) rfl
theorem wd_453 : Cond.code yX10_pass cX10_pass 2 (some .int) ∈ BG := BG_in (by decide +kernel) rfl
theorem wd_454 : Cond.instanceMethod yX10_pass ∈ BG := BG_in (by decide +kernel) rfl
theorem wd_455 : Cond.selects RX10 yX10_pass yX10_pass ∈ BG := BG_in (by decide +kernel) rfl
theorem okV_X10_pass : okV yX10_pass cX10_pass 2 (some .int) 1 := ⟨⟨wd_453, wd_295, by decide +kernel⟩, wd_454, wd_455⟩
theorem dL_law_460 : decode cL_law 460 = .ok (.if_icmp .eq 555, 3) := by decide +kernel
theorem dL_law_465 : decode cL_law 465 = .ok (.aload_n 1, 1) := by decide +kernel
theorem dL_law_466 : decode cL_law 466 = .ok (.aload_n 0, 1) := by decide +kernel
theorem dL_law_467 : decode cL_law 467 = .ok (.iload_n 3, 1) := by decide +kernel
theorem dL_law_468 : decode cL_law 468 = .ok (.iconst 1, 1) := by decide +kernel
theorem dL_law_469 : decode cL_law 469 = .ok (.iadd, 1) := by decide +kernel
theorem dL_law_470 : decode cL_law 470 = .ok (.iaload, 1) := by decide +kernel
theorem dL_law_471 : decode cL_law 471 = .ok (.aload_n 0, 1) := by decide +kernel
theorem dL_law_472 : decode cL_law 472 = .ok (.iload_n 3, 1) := by decide +kernel
theorem dL_law_473 : decode cL_law 473 = .ok (.iconst 2, 1) := by decide +kernel
theorem dL_law_474 : decode cL_law 474 = .ok (.iadd, 1) := by decide +kernel
theorem dL_law_475 : decode cL_law 475 = .ok (.iaload, 1) := by decide +kernel
theorem dL_law_476 : decode cL_law 476 = .ok (.invokevirtual 61, 3) := by decide +kernel
theorem wd_456 : Cond.methodLink RL 61 yX9_grieve ∈ BG := BG_in (by decide +kernel) rfl
theorem wd_457 : Cond.code yX9_grieve cX9_grieve 3 (some .int) ∈ BG := BG_in (by decide +kernel) rfl
theorem wd_458 : Cond.instanceMethod yX9_grieve ∈ BG := BG_in (by decide +kernel) rfl
theorem wd_459 : Cond.selects RX9 yX9_grieve yX9_grieve ∈ BG := BG_in (by decide +kernel) rfl
theorem okV_X9_grieve : okV yX9_grieve cX9_grieve 3 (some .int) 2 := ⟨⟨wd_457, wd_71, by decide +kernel⟩, wd_458, wd_459⟩
theorem dL_law_479 : decode cL_law 479 = .ok (.aload_n 2, 1) := by decide +kernel
theorem dL_law_480 : decode cL_law 480 = .ok (.aload_n 0, 1) := by decide +kernel
theorem dL_law_481 : decode cL_law 481 = .ok (.iload_n 3, 1) := by decide +kernel
theorem dL_law_482 : decode cL_law 482 = .ok (.iconst 1, 1) := by decide +kernel
theorem dL_law_483 : decode cL_law 483 = .ok (.iadd, 1) := by decide +kernel
theorem dL_law_484 : decode cL_law 484 = .ok (.iaload, 1) := by decide +kernel
theorem dL_law_485 : decode cL_law 485 = .ok (.aload_n 0, 1) := by decide +kernel
theorem dL_law_486 : decode cL_law 486 = .ok (.iload_n 3, 1) := by decide +kernel
theorem dL_law_487 : decode cL_law 487 = .ok (.iconst 2, 1) := by decide +kernel
theorem dL_law_488 : decode cL_law 488 = .ok (.iadd, 1) := by decide +kernel
theorem dL_law_489 : decode cL_law 489 = .ok (.iaload, 1) := by decide +kernel
theorem dL_law_490 : decode cL_law 490 = .ok (.invokevirtual 64, 3) := by decide +kernel
theorem wd_460 : Cond.methodLink RL 64 yX10_grieve ∈ BG := BG_in (by decide +kernel) rfl
theorem wd_461 : Cond.code yX10_grieve cX10_grieve 3 (some .int) ∈ BG := BG_in (by decide +kernel) rfl
theorem wd_462 : Cond.instanceMethod yX10_grieve ∈ BG := BG_in (by decide +kernel) rfl
theorem wd_463 : Cond.selects RX10 yX10_grieve yX10_grieve ∈ BG := BG_in (by decide +kernel) rfl
theorem okV_X10_grieve : okV yX10_grieve cX10_grieve 3 (some .int) 2 := ⟨⟨wd_461, wd_295, by decide +kernel⟩, wd_462, wd_463⟩
theorem dL_law_493 : decode cL_law 493 = .ok (.if_icmp .eq 522, 3) := by decide +kernel
theorem dL_law_498 : decode cL_law 498 = .ok (.aload_n 1, 1) := by decide +kernel
theorem dL_law_499 : decode cL_law 499 = .ok (.aload_n 0, 1) := by decide +kernel
theorem dL_law_500 : decode cL_law 500 = .ok (.iload_n 3, 1) := by decide +kernel
theorem dL_law_501 : decode cL_law 501 = .ok (.iconst 1, 1) := by decide +kernel
theorem dL_law_502 : decode cL_law 502 = .ok (.iadd, 1) := by decide +kernel
theorem dL_law_503 : decode cL_law 503 = .ok (.iaload, 1) := by decide +kernel
theorem dL_law_504 : decode cL_law 504 = .ok (.invokevirtual 65, 3) := by decide +kernel
theorem wd_464 : Cond.methodLink RL 65 yX9_drift ∈ BG := BG_in (by decide +kernel) rfl
theorem wd_465 : Cond.code yX9_drift cX9_drift 5 (some .int) ∈ BG := BG_in (by decide +kernel) rfl
theorem wd_466 : Cond.instanceMethod yX9_drift ∈ BG := BG_in (by decide +kernel) rfl
theorem wd_467 : Cond.selects RX9 yX9_drift yX9_drift ∈ BG := BG_in (by decide +kernel) rfl
theorem okV_X9_drift : okV yX9_drift cX9_drift 5 (some .int) 1 := ⟨⟨wd_465, wd_71, by decide +kernel⟩, wd_466, wd_467⟩
theorem dL_law_507 : decode cL_law 507 = .ok (.aload_n 2, 1) := by decide +kernel
theorem dL_law_508 : decode cL_law 508 = .ok (.aload_n 0, 1) := by decide +kernel
theorem dL_law_509 : decode cL_law 509 = .ok (.iload_n 3, 1) := by decide +kernel
theorem dL_law_510 : decode cL_law 510 = .ok (.iconst 1, 1) := by decide +kernel
theorem dL_law_511 : decode cL_law 511 = .ok (.iadd, 1) := by decide +kernel
theorem dL_law_512 : decode cL_law 512 = .ok (.iaload, 1) := by decide +kernel
theorem dL_law_513 : decode cL_law 513 = .ok (.invokevirtual 68, 3) := by decide +kernel
theorem wd_468 : Cond.methodLink RL 68 yX10_drift ∈ BG := BG_in (by decide +kernel) rfl
theorem wd_469 : Cond.code yX10_drift cX10_drift 4 (some .int) ∈ BG := BG_in (by decide +kernel) rfl
theorem wd_470 : Cond.instanceMethod yX10_drift ∈ BG := BG_in (by decide +kernel) rfl
theorem wd_471 : Cond.selects RX10 yX10_drift yX10_drift ∈ BG := BG_in (by decide +kernel) rfl
theorem okV_X10_drift : okV yX10_drift cX10_drift 4 (some .int) 1 := ⟨⟨wd_469, wd_295, by decide +kernel⟩, wd_470, wd_471⟩
theorem dL_law_516 : decode cL_law 516 = .ok (.if_icmp .eq 499, 3) := by decide +kernel
theorem dL_law_521 : decode cL_law 521 = .ok (.aload_n 1, 1) := by decide +kernel
theorem dL_law_522 : decode cL_law 522 = .ok (.invokevirtual 69, 3) := by decide +kernel
theorem wd_472 : Cond.methodLink RL 69 yX9_undo ∈ BG := BG_in (by decide +kernel) rfl
theorem wd_473 : Cond.code yX9_undo cX9_undo 1 (some .int) ∈ BG := BG_in (by decide +kernel) rfl
theorem wd_474 : Cond.instanceMethod yX9_undo ∈ BG := BG_in (by decide +kernel) rfl
theorem wd_475 : Cond.selects RX9 yX9_undo yX9_undo ∈ BG := BG_in (by decide +kernel) rfl
theorem okV_X9_undo : okV yX9_undo cX9_undo 1 (some .int) 0 := ⟨⟨wd_473, wd_71, by decide +kernel⟩, wd_474, wd_475⟩
theorem dL_law_525 : decode cL_law 525 = .ok (.aload_n 2, 1) := by decide +kernel
theorem dL_law_526 : decode cL_law 526 = .ok (.invokevirtual 72, 3) := by decide +kernel
theorem wd_476 : Cond.methodLink RL 72 yX10_undo ∈ BG := BG_in (by decide +kernel) rfl
theorem wd_477 : Cond.code yX10_undo cX10_undo 2 (some .int) ∈ BG := BG_in (by decide +kernel) rfl
theorem wd_478 : Cond.instanceMethod yX10_undo ∈ BG := BG_in (by decide +kernel) rfl
theorem wd_479 : Cond.selects RX10 yX10_undo yX10_undo ∈ BG := BG_in (by decide +kernel) rfl
theorem okV_X10_undo : okV yX10_undo cX10_undo 2 (some .int) 0 := ⟨⟨wd_477, wd_295, by decide +kernel⟩, wd_478, wd_479⟩
theorem dL_law_529 : decode cL_law 529 = .ok (.if_icmp .eq 486, 3) := by decide +kernel
theorem dL_law_534 : decode cL_law 534 = .ok (.aload_n 1, 1) := by decide +kernel
theorem dL_law_535 : decode cL_law 535 = .ok (.aload_n 0, 1) := by decide +kernel
theorem dL_law_536 : decode cL_law 536 = .ok (.iload_n 3, 1) := by decide +kernel
theorem dL_law_537 : decode cL_law 537 = .ok (.iconst 1, 1) := by decide +kernel
theorem dL_law_538 : decode cL_law 538 = .ok (.iadd, 1) := by decide +kernel
theorem dL_law_539 : decode cL_law 539 = .ok (.iaload, 1) := by decide +kernel
theorem dL_law_540 : decode cL_law 540 = .ok (.aload_n 0, 1) := by decide +kernel
theorem dL_law_541 : decode cL_law 541 = .ok (.iload_n 3, 1) := by decide +kernel
theorem dL_law_542 : decode cL_law 542 = .ok (.iconst 2, 1) := by decide +kernel
theorem dL_law_543 : decode cL_law 543 = .ok (.iadd, 1) := by decide +kernel
theorem dL_law_544 : decode cL_law 544 = .ok (.iaload, 1) := by decide +kernel
theorem dL_law_545 : decode cL_law 545 = .ok (.aload_n 0, 1) := by decide +kernel
theorem dL_law_546 : decode cL_law 546 = .ok (.iload_n 3, 1) := by decide +kernel
theorem dL_law_547 : decode cL_law 547 = .ok (.iconst 3, 1) := by decide +kernel
theorem dL_law_548 : decode cL_law 548 = .ok (.iadd, 1) := by decide +kernel
theorem dL_law_549 : decode cL_law 549 = .ok (.iaload, 1) := by decide +kernel
theorem dL_law_550 : decode cL_law 550 = .ok (.aload_n 0, 1) := by decide +kernel
theorem dL_law_551 : decode cL_law 551 = .ok (.iload_n 3, 1) := by decide +kernel
theorem dL_law_552 : decode cL_law 552 = .ok (.iconst 4, 1) := by decide +kernel
theorem dL_law_553 : decode cL_law 553 = .ok (.iadd, 1) := by decide +kernel
theorem dL_law_554 : decode cL_law 554 = .ok (.iaload, 1) := by decide +kernel
theorem dL_law_555 : decode cL_law 555 = .ok (.invokevirtual 73, 3) := by decide +kernel
theorem wd_480 : Cond.methodLink RL 73 yX9_could ∈ BG := BG_in (by decide +kernel) rfl
theorem wd_481 : Cond.code yX9_could cX9_could 5 (some .int) ∈ BG := BG_in (by decide +kernel) rfl
theorem wd_482 : Cond.instanceMethod yX9_could ∈ BG := BG_in (by decide +kernel) rfl
theorem wd_483 : Cond.selects RX9 yX9_could yX9_could ∈ BG := BG_in (by decide +kernel) rfl
theorem okV_X9_could : okV yX9_could cX9_could 5 (some .int) 4 := ⟨⟨wd_481, wd_71, by decide +kernel⟩, wd_482, wd_483⟩
theorem dL_law_558 : decode cL_law 558 = .ok (.aload_n 2, 1) := by decide +kernel
theorem dL_law_559 : decode cL_law 559 = .ok (.aload_n 0, 1) := by decide +kernel
theorem dL_law_560 : decode cL_law 560 = .ok (.iload_n 3, 1) := by decide +kernel
theorem dL_law_561 : decode cL_law 561 = .ok (.iconst 1, 1) := by decide +kernel
theorem dL_law_562 : decode cL_law 562 = .ok (.iadd, 1) := by decide +kernel
theorem dL_law_563 : decode cL_law 563 = .ok (.iaload, 1) := by decide +kernel
theorem dL_law_564 : decode cL_law 564 = .ok (.aload_n 0, 1) := by decide +kernel
theorem dL_law_565 : decode cL_law 565 = .ok (.iload_n 3, 1) := by decide +kernel
theorem dL_law_566 : decode cL_law 566 = .ok (.iconst 2, 1) := by decide +kernel
theorem dL_law_567 : decode cL_law 567 = .ok (.iadd, 1) := by decide +kernel
theorem dL_law_568 : decode cL_law 568 = .ok (.iaload, 1) := by decide +kernel
theorem dL_law_569 : decode cL_law 569 = .ok (.aload_n 0, 1) := by decide +kernel
theorem dL_law_570 : decode cL_law 570 = .ok (.iload_n 3, 1) := by decide +kernel
theorem dL_law_571 : decode cL_law 571 = .ok (.iconst 3, 1) := by decide +kernel
theorem dL_law_572 : decode cL_law 572 = .ok (.iadd, 1) := by decide +kernel
theorem dL_law_573 : decode cL_law 573 = .ok (.iaload, 1) := by decide +kernel
theorem dL_law_574 : decode cL_law 574 = .ok (.aload_n 0, 1) := by decide +kernel
theorem dL_law_575 : decode cL_law 575 = .ok (.iload_n 3, 1) := by decide +kernel
theorem dL_law_576 : decode cL_law 576 = .ok (.iconst 4, 1) := by decide +kernel
theorem dL_law_577 : decode cL_law 577 = .ok (.iadd, 1) := by decide +kernel
theorem dL_law_578 : decode cL_law 578 = .ok (.iaload, 1) := by decide +kernel
theorem dL_law_579 : decode cL_law 579 = .ok (.invokevirtual 77, 3) := by decide +kernel
theorem wd_484 : Cond.methodLink RL 77 yX10_could ∈ BG := BG_in (by decide +kernel) rfl
theorem wd_485 : Cond.code yX10_could cX10_could 5 (some .int) ∈ BG := BG_in (by decide +kernel) rfl
theorem wd_486 : Cond.instanceMethod yX10_could ∈ BG := BG_in (by decide +kernel) rfl
theorem wd_487 : Cond.selects RX10 yX10_could yX10_could ∈ BG := BG_in (by decide +kernel) rfl
theorem okV_X10_could : okV yX10_could cX10_could 5 (some .int) 4 := ⟨⟨wd_485, wd_295, by decide +kernel⟩, wd_486, wd_487⟩
theorem dL_law_582 : decode cL_law 582 = .ok (.if_icmp .eq 433, 3) := by decide +kernel
theorem dL_law_587 : decode cL_law 587 = .ok (.aload_n 1, 1) := by decide +kernel
theorem dL_law_588 : decode cL_law 588 = .ok (.aload_n 0, 1) := by decide +kernel
theorem dL_law_589 : decode cL_law 589 = .ok (.iload_n 3, 1) := by decide +kernel
theorem dL_law_590 : decode cL_law 590 = .ok (.iconst 1, 1) := by decide +kernel
theorem dL_law_591 : decode cL_law 591 = .ok (.iadd, 1) := by decide +kernel
theorem dL_law_592 : decode cL_law 592 = .ok (.iaload, 1) := by decide +kernel
theorem dL_law_593 : decode cL_law 593 = .ok (.aload_n 0, 1) := by decide +kernel
theorem dL_law_594 : decode cL_law 594 = .ok (.iload_n 3, 1) := by decide +kernel
theorem dL_law_595 : decode cL_law 595 = .ok (.iconst 2, 1) := by decide +kernel
theorem dL_law_596 : decode cL_law 596 = .ok (.iadd, 1) := by decide +kernel
theorem dL_law_597 : decode cL_law 597 = .ok (.iaload, 1) := by decide +kernel
theorem dL_law_598 : decode cL_law 598 = .ok (.invokevirtual 78, 3) := by decide +kernel
theorem wd_488 : Cond.methodLink RL 78 yX9_bestTheme ∈ BG := BG_in (by decide +kernel) rfl
theorem wd_489 : Cond.code yX9_bestTheme cX9_bestTheme 3 (some .int) ∈ BG := BG_in (by decide +kernel) rfl
theorem wd_490 : Cond.instanceMethod yX9_bestTheme ∈ BG := BG_in (by decide +kernel) rfl
theorem wd_491 : Cond.selects RX9 yX9_bestTheme yX9_bestTheme ∈ BG := BG_in (by decide +kernel) rfl
theorem okV_X9_bestTheme : okV yX9_bestTheme cX9_bestTheme 3 (some .int) 2 := ⟨⟨wd_489, wd_71, by decide +kernel⟩, wd_490, wd_491⟩
theorem dL_law_601 : decode cL_law 601 = .ok (.aload_n 2, 1) := by decide +kernel
theorem dL_law_602 : decode cL_law 602 = .ok (.aload_n 0, 1) := by decide +kernel
theorem dL_law_603 : decode cL_law 603 = .ok (.iload_n 3, 1) := by decide +kernel
theorem dL_law_604 : decode cL_law 604 = .ok (.iconst 1, 1) := by decide +kernel
theorem dL_law_605 : decode cL_law 605 = .ok (.iadd, 1) := by decide +kernel
theorem dL_law_606 : decode cL_law 606 = .ok (.iaload, 1) := by decide +kernel
theorem dL_law_607 : decode cL_law 607 = .ok (.aload_n 0, 1) := by decide +kernel
theorem dL_law_608 : decode cL_law 608 = .ok (.iload_n 3, 1) := by decide +kernel
theorem dL_law_609 : decode cL_law 609 = .ok (.iconst 2, 1) := by decide +kernel
theorem dL_law_610 : decode cL_law 610 = .ok (.iadd, 1) := by decide +kernel
theorem dL_law_611 : decode cL_law 611 = .ok (.iaload, 1) := by decide +kernel
theorem dL_law_612 : decode cL_law 612 = .ok (.invokevirtual 81, 3) := by decide +kernel
theorem wd_492 : Cond.methodLink RL 81 yX10_bestTheme ∈ BG := BG_in (by decide +kernel) rfl
theorem wd_493 : Cond.code yX10_bestTheme cX10_bestTheme 3 (some .int) ∈ BG := BG_in (by decide +kernel) rfl
theorem wd_494 : Cond.instanceMethod yX10_bestTheme ∈ BG := BG_in (by decide +kernel) rfl
theorem wd_495 : Cond.selects RX10 yX10_bestTheme yX10_bestTheme ∈ BG := BG_in (by decide +kernel) rfl
theorem okV_X10_bestTheme : okV yX10_bestTheme cX10_bestTheme 3 (some .int) 2 := ⟨⟨wd_493, wd_295, by decide +kernel⟩, wd_494, wd_495⟩
theorem dL_law_615 : decode cL_law 615 = .ok (.if_icmp .eq 400, 3) := by decide +kernel
theorem dL_law_620 : decode cL_law 620 = .ok (.aload_n 1, 1) := by decide +kernel
theorem dL_law_621 : decode cL_law 621 = .ok (.aload_n 0, 1) := by decide +kernel
theorem dL_law_622 : decode cL_law 622 = .ok (.iload_n 3, 1) := by decide +kernel
theorem dL_law_623 : decode cL_law 623 = .ok (.iconst 1, 1) := by decide +kernel
theorem dL_law_624 : decode cL_law 624 = .ok (.iadd, 1) := by decide +kernel
theorem dL_law_625 : decode cL_law 625 = .ok (.iaload, 1) := by decide +kernel
theorem dL_law_626 : decode cL_law 626 = .ok (.aload_n 0, 1) := by decide +kernel
theorem dL_law_627 : decode cL_law 627 = .ok (.iload_n 3, 1) := by decide +kernel
theorem dL_law_628 : decode cL_law 628 = .ok (.iconst 2, 1) := by decide +kernel
theorem dL_law_629 : decode cL_law 629 = .ok (.iadd, 1) := by decide +kernel
theorem dL_law_630 : decode cL_law 630 = .ok (.iaload, 1) := by decide +kernel
theorem dL_law_631 : decode cL_law 631 = .ok (.invokevirtual 82, 3) := by decide +kernel
theorem wd_496 : Cond.methodLink RL 82 yX9_who ∈ BG := BG_in (by decide +kernel) rfl
theorem wd_497 : Cond.code yX9_who cX9_who 5 (some .int) ∈ BG := BG_in (by decide +kernel) rfl
theorem wd_498 : Cond.instanceMethod yX9_who ∈ BG := BG_in (by decide +kernel) rfl
theorem wd_499 : Cond.selects RX9 yX9_who yX9_who ∈ BG := BG_in (by decide +kernel) rfl
theorem okV_X9_who : okV yX9_who cX9_who 5 (some .int) 2 := ⟨⟨wd_497, wd_71, by decide +kernel⟩, wd_498, wd_499⟩
theorem dL_law_634 : decode cL_law 634 = .ok (.aload_n 2, 1) := by decide +kernel
theorem dL_law_635 : decode cL_law 635 = .ok (.aload_n 0, 1) := by decide +kernel
theorem dL_law_636 : decode cL_law 636 = .ok (.iload_n 3, 1) := by decide +kernel
theorem dL_law_637 : decode cL_law 637 = .ok (.iconst 1, 1) := by decide +kernel
theorem dL_law_638 : decode cL_law 638 = .ok (.iadd, 1) := by decide +kernel
theorem dL_law_639 : decode cL_law 639 = .ok (.iaload, 1) := by decide +kernel
theorem dL_law_640 : decode cL_law 640 = .ok (.aload_n 0, 1) := by decide +kernel
theorem dL_law_641 : decode cL_law 641 = .ok (.iload_n 3, 1) := by decide +kernel
theorem dL_law_642 : decode cL_law 642 = .ok (.iconst 2, 1) := by decide +kernel
theorem dL_law_643 : decode cL_law 643 = .ok (.iadd, 1) := by decide +kernel
theorem dL_law_644 : decode cL_law 644 = .ok (.iaload, 1) := by decide +kernel
theorem dL_law_645 : decode cL_law 645 = .ok (.invokevirtual 85, 3) := by decide +kernel
theorem wd_500 : Cond.methodLink RL 85 yX10_who ∈ BG := BG_in (by decide +kernel) rfl
theorem wd_501 : Cond.code yX10_who cX10_who 9 (some .int) ∈ BG := BG_in (by decide +kernel) rfl
theorem wd_502 : Cond.instanceMethod yX10_who ∈ BG := BG_in (by decide +kernel) rfl
theorem wd_503 : Cond.selects RX10 yX10_who yX10_who ∈ BG := BG_in (by decide +kernel) rfl
theorem okV_X10_who : okV yX10_who cX10_who 9 (some .int) 2 := ⟨⟨wd_501, wd_295, by decide +kernel⟩, wd_502, wd_503⟩
theorem dL_law_648 : decode cL_law 648 = .ok (.if_icmp .eq 367, 3) := by decide +kernel
theorem dL_law_653 : decode cL_law 653 = .ok (.aload_n 1, 1) := by decide +kernel
theorem dL_law_654 : decode cL_law 654 = .ok (.aload_n 0, 1) := by decide +kernel
theorem dL_law_655 : decode cL_law 655 = .ok (.iload_n 3, 1) := by decide +kernel
theorem dL_law_656 : decode cL_law 656 = .ok (.iconst 1, 1) := by decide +kernel
theorem dL_law_657 : decode cL_law 657 = .ok (.iadd, 1) := by decide +kernel
theorem dL_law_658 : decode cL_law 658 = .ok (.iaload, 1) := by decide +kernel
theorem dL_law_659 : decode cL_law 659 = .ok (.invokevirtual 86, 3) := by decide +kernel
theorem wd_504 : Cond.methodLink RL 86 yX9_order ∈ BG := BG_in (by decide +kernel) rfl
theorem wd_505 : Cond.code yX9_order cX9_order 3 (some .int) ∈ BG := BG_in (by decide +kernel) rfl
theorem wd_506 : Cond.instanceMethod yX9_order ∈ BG := BG_in (by decide +kernel) rfl
theorem wd_507 : Cond.selects RX9 yX9_order yX9_order ∈ BG := BG_in (by decide +kernel) rfl
theorem okV_X9_order : okV yX9_order cX9_order 3 (some .int) 1 := ⟨⟨wd_505, wd_71, by decide +kernel⟩, wd_506, wd_507⟩
theorem dL_law_662 : decode cL_law 662 = .ok (.aload_n 2, 1) := by decide +kernel
theorem dL_law_663 : decode cL_law 663 = .ok (.aload_n 0, 1) := by decide +kernel
theorem dL_law_664 : decode cL_law 664 = .ok (.iload_n 3, 1) := by decide +kernel
theorem dL_law_665 : decode cL_law 665 = .ok (.iconst 1, 1) := by decide +kernel
theorem dL_law_666 : decode cL_law 666 = .ok (.iadd, 1) := by decide +kernel
theorem dL_law_667 : decode cL_law 667 = .ok (.iaload, 1) := by decide +kernel
theorem dL_law_668 : decode cL_law 668 = .ok (.invokevirtual 89, 3) := by decide +kernel
theorem wd_508 : Cond.methodLink RL 89 yX10_order ∈ BG := BG_in (by decide +kernel) rfl
theorem wd_509 : Cond.code yX10_order cX10_order 2 (some .int) ∈ BG := BG_in (by decide +kernel) rfl
theorem wd_510 : Cond.instanceMethod yX10_order ∈ BG := BG_in (by decide +kernel) rfl
theorem wd_511 : Cond.selects RX10 yX10_order yX10_order ∈ BG := BG_in (by decide +kernel) rfl
theorem okV_X10_order : okV yX10_order cX10_order 2 (some .int) 1 := ⟨⟨wd_509, wd_295, by decide +kernel⟩, wd_510, wd_511⟩
theorem dL_law_671 : decode cL_law 671 = .ok (.if_icmp .eq 344, 3) := by decide +kernel
theorem dL_law_676 : decode cL_law 676 = .ok (.aload_n 1, 1) := by decide +kernel
theorem dL_law_677 : decode cL_law 677 = .ok (.aload_n 0, 1) := by decide +kernel
theorem dL_law_678 : decode cL_law 678 = .ok (.iload_n 3, 1) := by decide +kernel
theorem dL_law_679 : decode cL_law 679 = .ok (.iconst 1, 1) := by decide +kernel
theorem dL_law_680 : decode cL_law 680 = .ok (.iadd, 1) := by decide +kernel
theorem dL_law_681 : decode cL_law 681 = .ok (.iaload, 1) := by decide +kernel
theorem dL_law_682 : decode cL_law 682 = .ok (.aload_n 0, 1) := by decide +kernel
theorem dL_law_683 : decode cL_law 683 = .ok (.iload_n 3, 1) := by decide +kernel
theorem dL_law_684 : decode cL_law 684 = .ok (.iconst 2, 1) := by decide +kernel
theorem dL_law_685 : decode cL_law 685 = .ok (.iadd, 1) := by decide +kernel
theorem dL_law_686 : decode cL_law 686 = .ok (.iaload, 1) := by decide +kernel
theorem dL_law_687 : decode cL_law 687 = .ok (.aload_n 0, 1) := by decide +kernel
theorem dL_law_688 : decode cL_law 688 = .ok (.iload_n 3, 1) := by decide +kernel
theorem dL_law_689 : decode cL_law 689 = .ok (.iconst 3, 1) := by decide +kernel
theorem dL_law_690 : decode cL_law 690 = .ok (.iadd, 1) := by decide +kernel
theorem dL_law_691 : decode cL_law 691 = .ok (.iaload, 1) := by decide +kernel
theorem dL_law_692 : decode cL_law 692 = .ok (.invokevirtual 90, 3) := by decide +kernel
theorem wd_512 : Cond.methodLink RL 90 yX9_toldHer ∈ BG := BG_in (by decide +kernel) rfl
theorem wd_513 : Cond.code yX9_toldHer cX9_toldHer 8 (some .int) ∈ BG := BG_in (by decide +kernel) rfl
theorem wd_514 : Cond.instanceMethod yX9_toldHer ∈ BG := BG_in (by decide +kernel) rfl
theorem wd_515 : Cond.selects RX9 yX9_toldHer yX9_toldHer ∈ BG := BG_in (by decide +kernel) rfl
theorem okV_X9_toldHer : okV yX9_toldHer cX9_toldHer 8 (some .int) 3 := ⟨⟨wd_513, wd_71, by decide +kernel⟩, wd_514, wd_515⟩
theorem dL_law_695 : decode cL_law 695 = .ok (.aload_n 2, 1) := by decide +kernel
theorem dL_law_696 : decode cL_law 696 = .ok (.aload_n 0, 1) := by decide +kernel
theorem dL_law_697 : decode cL_law 697 = .ok (.iload_n 3, 1) := by decide +kernel
theorem dL_law_698 : decode cL_law 698 = .ok (.iconst 1, 1) := by decide +kernel
theorem dL_law_699 : decode cL_law 699 = .ok (.iadd, 1) := by decide +kernel
theorem dL_law_700 : decode cL_law 700 = .ok (.iaload, 1) := by decide +kernel
theorem dL_law_701 : decode cL_law 701 = .ok (.aload_n 0, 1) := by decide +kernel
theorem dL_law_702 : decode cL_law 702 = .ok (.iload_n 3, 1) := by decide +kernel
theorem dL_law_703 : decode cL_law 703 = .ok (.iconst 2, 1) := by decide +kernel
theorem dL_law_704 : decode cL_law 704 = .ok (.iadd, 1) := by decide +kernel
theorem dL_law_705 : decode cL_law 705 = .ok (.iaload, 1) := by decide +kernel
theorem dL_law_706 : decode cL_law 706 = .ok (.aload_n 0, 1) := by decide +kernel
theorem dL_law_707 : decode cL_law 707 = .ok (.iload_n 3, 1) := by decide +kernel
theorem dL_law_708 : decode cL_law 708 = .ok (.iconst 3, 1) := by decide +kernel
theorem dL_law_709 : decode cL_law 709 = .ok (.iadd, 1) := by decide +kernel
theorem dL_law_710 : decode cL_law 710 = .ok (.iaload, 1) := by decide +kernel
theorem dL_law_711 : decode cL_law 711 = .ok (.invokevirtual 93, 3) := by decide +kernel
theorem wd_516 : Cond.methodLink RL 93 yX10_toldHer ∈ BG := BG_in (by decide +kernel) rfl
theorem wd_517 : Cond.code yX10_toldHer cX10_toldHer 9 (some .int) ∈ BG := BG_in (by decide +kernel) rfl
theorem wd_518 : Cond.instanceMethod yX10_toldHer ∈ BG := BG_in (by decide +kernel) rfl
theorem wd_519 : Cond.selects RX10 yX10_toldHer yX10_toldHer ∈ BG := BG_in (by decide +kernel) rfl
theorem okV_X10_toldHer : okV yX10_toldHer cX10_toldHer 9 (some .int) 3 := ⟨⟨wd_517, wd_295, by decide +kernel⟩, wd_518, wd_519⟩
theorem dL_law_714 : decode cL_law 714 = .ok (.if_icmp .eq 301, 3) := by decide +kernel
theorem dL_law_719 : decode cL_law 719 = .ok (.aload_n 1, 1) := by decide +kernel
theorem dL_law_720 : decode cL_law 720 = .ok (.aload_n 0, 1) := by decide +kernel
theorem dL_law_721 : decode cL_law 721 = .ok (.iload_n 3, 1) := by decide +kernel
theorem dL_law_722 : decode cL_law 722 = .ok (.iconst 1, 1) := by decide +kernel
theorem dL_law_723 : decode cL_law 723 = .ok (.iadd, 1) := by decide +kernel
theorem dL_law_724 : decode cL_law 724 = .ok (.iaload, 1) := by decide +kernel
theorem dL_law_725 : decode cL_law 725 = .ok (.aload_n 0, 1) := by decide +kernel
theorem dL_law_726 : decode cL_law 726 = .ok (.iload_n 3, 1) := by decide +kernel
theorem dL_law_727 : decode cL_law 727 = .ok (.iconst 2, 1) := by decide +kernel
theorem dL_law_728 : decode cL_law 728 = .ok (.iadd, 1) := by decide +kernel
theorem dL_law_729 : decode cL_law 729 = .ok (.iaload, 1) := by decide +kernel
theorem dL_law_730 : decode cL_law 730 = .ok (.invokevirtual 94, 3) := by decide +kernel
theorem wd_520 : Cond.methodLink RL 94 yX9_lasts ∈ BG := BG_in (by decide +kernel) rfl
theorem wd_521 : Cond.code yX9_lasts cX9_lasts 3 (some .int) ∈ BG := BG_in (by decide +kernel) rfl
theorem wd_522 : Cond.instanceMethod yX9_lasts ∈ BG := BG_in (by decide +kernel) rfl
theorem wd_523 : Cond.selects RX9 yX9_lasts yX9_lasts ∈ BG := BG_in (by decide +kernel) rfl
theorem okV_X9_lasts : okV yX9_lasts cX9_lasts 3 (some .int) 2 := ⟨⟨wd_521, wd_71, by decide +kernel⟩, wd_522, wd_523⟩
theorem dL_law_733 : decode cL_law 733 = .ok (.aload_n 2, 1) := by decide +kernel
theorem dL_law_734 : decode cL_law 734 = .ok (.aload_n 0, 1) := by decide +kernel
theorem dL_law_735 : decode cL_law 735 = .ok (.iload_n 3, 1) := by decide +kernel
theorem dL_law_736 : decode cL_law 736 = .ok (.iconst 1, 1) := by decide +kernel
theorem dL_law_737 : decode cL_law 737 = .ok (.iadd, 1) := by decide +kernel
theorem dL_law_738 : decode cL_law 738 = .ok (.iaload, 1) := by decide +kernel
theorem dL_law_739 : decode cL_law 739 = .ok (.aload_n 0, 1) := by decide +kernel
theorem dL_law_740 : decode cL_law 740 = .ok (.iload_n 3, 1) := by decide +kernel
theorem dL_law_741 : decode cL_law 741 = .ok (.iconst 2, 1) := by decide +kernel
theorem dL_law_742 : decode cL_law 742 = .ok (.iadd, 1) := by decide +kernel
theorem dL_law_743 : decode cL_law 743 = .ok (.iaload, 1) := by decide +kernel
theorem dL_law_744 : decode cL_law 744 = .ok (.invokevirtual 97, 3) := by decide +kernel
theorem wd_524 : Cond.methodLink RL 97 yX10_lasts ∈ BG := BG_in (by decide +kernel) rfl
theorem wd_525 : Cond.code yX10_lasts cX10_lasts 3 (some .int) ∈ BG := BG_in (by decide +kernel) rfl
theorem wd_526 : Cond.instanceMethod yX10_lasts ∈ BG := BG_in (by decide +kernel) rfl
theorem wd_527 : Cond.selects RX10 yX10_lasts yX10_lasts ∈ BG := BG_in (by decide +kernel) rfl
theorem okV_X10_lasts : okV yX10_lasts cX10_lasts 3 (some .int) 2 := ⟨⟨wd_525, wd_295, by decide +kernel⟩, wd_526, wd_527⟩
theorem dL_law_747 : decode cL_law 747 = .ok (.if_icmp .eq 268, 3) := by decide +kernel
theorem dL_law_752 : decode cL_law 752 = .ok (.aload_n 1, 1) := by decide +kernel
theorem dL_law_753 : decode cL_law 753 = .ok (.invokevirtual 98, 3) := by decide +kernel
theorem wd_528 : Cond.methodLink RL 98 yX9_wornOut ∈ BG := BG_in (by decide +kernel) rfl
theorem wd_529 : Cond.code yX9_wornOut cX9_wornOut 6 (some .int) ∈ BG := BG_in (by decide +kernel) rfl
theorem wd_530 : Cond.instanceMethod yX9_wornOut ∈ BG := BG_in (by decide +kernel) rfl
theorem wd_531 : Cond.selects RX9 yX9_wornOut yX9_wornOut ∈ BG := BG_in (by decide +kernel) rfl
theorem okV_X9_wornOut : okV yX9_wornOut cX9_wornOut 6 (some .int) 0 := ⟨⟨wd_529, wd_71, by decide +kernel⟩, wd_530, wd_531⟩
theorem dL_law_756 : decode cL_law 756 = .ok (.aload_n 2, 1) := by decide +kernel
theorem dL_law_757 : decode cL_law 757 = .ok (.invokevirtual 101, 3) := by decide +kernel
theorem wd_532 : Cond.methodLink RL 101 yX10_wornOut ∈ BG := BG_in (by decide +kernel) rfl
theorem wd_533 : Cond.code yX10_wornOut cX10_wornOut 7 (some .int) ∈ BG := BG_in (by decide +kernel) rfl
theorem wd_534 : Cond.instanceMethod yX10_wornOut ∈ BG := BG_in (by decide +kernel) rfl
theorem wd_535 : Cond.selects RX10 yX10_wornOut yX10_wornOut ∈ BG := BG_in (by decide +kernel) rfl
theorem okV_X10_wornOut : okV yX10_wornOut cX10_wornOut 7 (some .int) 0 := ⟨⟨wd_533, wd_295, by decide +kernel⟩, wd_534, wd_535⟩
theorem dL_law_760 : decode cL_law 760 = .ok (.if_icmp .eq 255, 3) := by decide +kernel
theorem dL_law_765 : decode cL_law 765 = .ok (.aload_n 1, 1) := by decide +kernel
theorem dL_law_766 : decode cL_law 766 = .ok (.aload_n 0, 1) := by decide +kernel
theorem dL_law_767 : decode cL_law 767 = .ok (.iload_n 3, 1) := by decide +kernel
theorem dL_law_768 : decode cL_law 768 = .ok (.iconst 1, 1) := by decide +kernel
theorem dL_law_769 : decode cL_law 769 = .ok (.iadd, 1) := by decide +kernel
theorem dL_law_770 : decode cL_law 770 = .ok (.iaload, 1) := by decide +kernel
theorem dL_law_771 : decode cL_law 771 = .ok (.invokevirtual 102, 3) := by decide +kernel
theorem wd_536 : Cond.methodLink RL 102 yX9_carried ∈ BG := BG_in (by decide +kernel) rfl
theorem wd_537 : Cond.code yX9_carried cX9_carried 5 (some .int) ∈ BG := BG_in (by decide +kernel) rfl
theorem wd_538 : Cond.instanceMethod yX9_carried ∈ BG := BG_in (by decide +kernel) rfl
theorem wd_539 : Cond.selects RX9 yX9_carried yX9_carried ∈ BG := BG_in (by decide +kernel) rfl
theorem okV_X9_carried : okV yX9_carried cX9_carried 5 (some .int) 1 := ⟨⟨wd_537, wd_71, by decide +kernel⟩, wd_538, wd_539⟩
theorem dL_law_774 : decode cL_law 774 = .ok (.aload_n 2, 1) := by decide +kernel
theorem dL_law_775 : decode cL_law 775 = .ok (.aload_n 0, 1) := by decide +kernel
theorem dL_law_776 : decode cL_law 776 = .ok (.iload_n 3, 1) := by decide +kernel
theorem dL_law_777 : decode cL_law 777 = .ok (.iconst 1, 1) := by decide +kernel
theorem dL_law_778 : decode cL_law 778 = .ok (.iadd, 1) := by decide +kernel
theorem dL_law_779 : decode cL_law 779 = .ok (.iaload, 1) := by decide +kernel
theorem dL_law_780 : decode cL_law 780 = .ok (.invokevirtual 105, 3) := by decide +kernel
theorem wd_540 : Cond.methodLink RL 105 yX10_carried ∈ BG := BG_in (by decide +kernel) rfl
theorem wd_541 : Cond.code yX10_carried cX10_carried 7 (some .int) ∈ BG := BG_in (by decide +kernel) rfl
theorem wd_542 : Cond.instanceMethod yX10_carried ∈ BG := BG_in (by decide +kernel) rfl
theorem wd_543 : Cond.selects RX10 yX10_carried yX10_carried ∈ BG := BG_in (by decide +kernel) rfl
theorem okV_X10_carried : okV yX10_carried cX10_carried 7 (some .int) 1 := ⟨⟨wd_541, wd_295, by decide +kernel⟩, wd_542, wd_543⟩
theorem dL_law_783 : decode cL_law 783 = .ok (.if_icmp .eq 232, 3) := by decide +kernel
theorem dL_law_788 : decode cL_law 788 = .ok (.aload_n 1, 1) := by decide +kernel
theorem dL_law_789 : decode cL_law 789 = .ok (.aload_n 0, 1) := by decide +kernel
theorem dL_law_790 : decode cL_law 790 = .ok (.iload_n 3, 1) := by decide +kernel
theorem dL_law_791 : decode cL_law 791 = .ok (.iconst 1, 1) := by decide +kernel
theorem dL_law_792 : decode cL_law 792 = .ok (.iadd, 1) := by decide +kernel
theorem dL_law_793 : decode cL_law 793 = .ok (.iaload, 1) := by decide +kernel
theorem dL_law_794 : decode cL_law 794 = .ok (.aload_n 0, 1) := by decide +kernel
theorem dL_law_795 : decode cL_law 795 = .ok (.iload_n 3, 1) := by decide +kernel
theorem dL_law_796 : decode cL_law 796 = .ok (.iconst 2, 1) := by decide +kernel
theorem dL_law_797 : decode cL_law 797 = .ok (.iadd, 1) := by decide +kernel
theorem dL_law_798 : decode cL_law 798 = .ok (.iaload, 1) := by decide +kernel
theorem dL_law_799 : decode cL_law 799 = .ok (.invokevirtual 106, 3) := by decide +kernel
theorem wd_544 : Cond.methodLink RL 106 yX9_hire ∈ BG := BG_in (by decide +kernel) rfl
theorem wd_545 : Cond.code yX9_hire cX9_hire 8 (some .int) ∈ BG := BG_in (by decide +kernel) rfl
theorem wd_546 : Cond.instanceMethod yX9_hire ∈ BG := BG_in (by decide +kernel) rfl
theorem wd_547 : Cond.selects RX9 yX9_hire yX9_hire ∈ BG := BG_in (by decide +kernel) rfl
theorem okV_X9_hire : okV yX9_hire cX9_hire 8 (some .int) 2 := ⟨⟨wd_545, wd_71, by decide +kernel⟩, wd_546, wd_547⟩
theorem dL_law_802 : decode cL_law 802 = .ok (.aload_n 2, 1) := by decide +kernel
theorem dL_law_803 : decode cL_law 803 = .ok (.aload_n 0, 1) := by decide +kernel
theorem dL_law_804 : decode cL_law 804 = .ok (.iload_n 3, 1) := by decide +kernel
theorem dL_law_805 : decode cL_law 805 = .ok (.iconst 1, 1) := by decide +kernel
theorem dL_law_806 : decode cL_law 806 = .ok (.iadd, 1) := by decide +kernel
theorem dL_law_807 : decode cL_law 807 = .ok (.iaload, 1) := by decide +kernel
theorem dL_law_808 : decode cL_law 808 = .ok (.aload_n 0, 1) := by decide +kernel
theorem dL_law_809 : decode cL_law 809 = .ok (.iload_n 3, 1) := by decide +kernel
theorem dL_law_810 : decode cL_law 810 = .ok (.iconst 2, 1) := by decide +kernel
theorem dL_law_811 : decode cL_law 811 = .ok (.iadd, 1) := by decide +kernel
theorem dL_law_812 : decode cL_law 812 = .ok (.iaload, 1) := by decide +kernel
theorem dL_law_813 : decode cL_law 813 = .ok (.invokevirtual 109, 3) := by decide +kernel
theorem wd_548 : Cond.methodLink RL 109 yX10_hire ∈ BG := BG_in (by decide +kernel) rfl
theorem wd_549 : Cond.code yX10_hire cX10_hire 8 (some .int) ∈ BG := BG_in (by decide +kernel) rfl
theorem wd_550 : Cond.instanceMethod yX10_hire ∈ BG := BG_in (by decide +kernel) rfl
theorem wd_551 : Cond.selects RX10 yX10_hire yX10_hire ∈ BG := BG_in (by decide +kernel) rfl
theorem okV_X10_hire : okV yX10_hire cX10_hire 8 (some .int) 2 := ⟨⟨wd_549, wd_295, by decide +kernel⟩, wd_550, wd_551⟩
theorem dL_law_816 : decode cL_law 816 = .ok (.if_icmp .eq 199, 3) := by decide +kernel
theorem dL_law_821 : decode cL_law 821 = .ok (.aload_n 1, 1) := by decide +kernel
theorem dL_law_822 : decode cL_law 822 = .ok (.aload_n 0, 1) := by decide +kernel
theorem dL_law_823 : decode cL_law 823 = .ok (.iload_n 3, 1) := by decide +kernel
theorem dL_law_824 : decode cL_law 824 = .ok (.iconst 1, 1) := by decide +kernel
theorem dL_law_825 : decode cL_law 825 = .ok (.iadd, 1) := by decide +kernel
theorem dL_law_826 : decode cL_law 826 = .ok (.iaload, 1) := by decide +kernel
theorem dL_law_827 : decode cL_law 827 = .ok (.aload_n 0, 1) := by decide +kernel
theorem dL_law_828 : decode cL_law 828 = .ok (.iload_n 3, 1) := by decide +kernel
theorem dL_law_829 : decode cL_law 829 = .ok (.iconst 2, 1) := by decide +kernel
theorem dL_law_830 : decode cL_law 830 = .ok (.iadd, 1) := by decide +kernel
theorem dL_law_831 : decode cL_law 831 = .ok (.iaload, 1) := by decide +kernel
theorem dL_law_832 : decode cL_law 832 = .ok (.aload_n 0, 1) := by decide +kernel
theorem dL_law_833 : decode cL_law 833 = .ok (.iload_n 3, 1) := by decide +kernel
theorem dL_law_834 : decode cL_law 834 = .ok (.iconst 3, 1) := by decide +kernel
theorem dL_law_835 : decode cL_law 835 = .ok (.iadd, 1) := by decide +kernel
theorem dL_law_836 : decode cL_law 836 = .ok (.iaload, 1) := by decide +kernel
theorem dL_law_837 : decode cL_law 837 = .ok (.invokevirtual 110, 3) := by decide +kernel
theorem wd_552 : Cond.methodLink RL 110 yX9_midstream ∈ BG := BG_in (by decide +kernel) rfl
theorem wd_553 : Cond.code yX9_midstream cX9_midstream 8 (some .int) ∈ BG := BG_in (by decide +kernel) rfl
theorem wd_554 : Cond.instanceMethod yX9_midstream ∈ BG := BG_in (by decide +kernel) rfl
theorem wd_555 : Cond.selects RX9 yX9_midstream yX9_midstream ∈ BG := BG_in (by decide +kernel) rfl
theorem okV_X9_midstream : okV yX9_midstream cX9_midstream 8 (some .int) 3 := ⟨⟨wd_553, wd_71, by decide +kernel⟩, wd_554, wd_555⟩
theorem dL_law_840 : decode cL_law 840 = .ok (.aload_n 2, 1) := by decide +kernel
theorem dL_law_841 : decode cL_law 841 = .ok (.aload_n 0, 1) := by decide +kernel
theorem dL_law_842 : decode cL_law 842 = .ok (.iload_n 3, 1) := by decide +kernel
theorem dL_law_843 : decode cL_law 843 = .ok (.iconst 1, 1) := by decide +kernel
theorem dL_law_844 : decode cL_law 844 = .ok (.iadd, 1) := by decide +kernel
theorem dL_law_845 : decode cL_law 845 = .ok (.iaload, 1) := by decide +kernel
theorem dL_law_846 : decode cL_law 846 = .ok (.aload_n 0, 1) := by decide +kernel
theorem dL_law_847 : decode cL_law 847 = .ok (.iload_n 3, 1) := by decide +kernel
theorem dL_law_848 : decode cL_law 848 = .ok (.iconst 2, 1) := by decide +kernel
theorem dL_law_849 : decode cL_law 849 = .ok (.iadd, 1) := by decide +kernel
theorem dL_law_850 : decode cL_law 850 = .ok (.iaload, 1) := by decide +kernel
theorem dL_law_851 : decode cL_law 851 = .ok (.aload_n 0, 1) := by decide +kernel
theorem dL_law_852 : decode cL_law 852 = .ok (.iload_n 3, 1) := by decide +kernel
theorem dL_law_853 : decode cL_law 853 = .ok (.iconst 3, 1) := by decide +kernel
theorem dL_law_854 : decode cL_law 854 = .ok (.iadd, 1) := by decide +kernel
theorem dL_law_855 : decode cL_law 855 = .ok (.iaload, 1) := by decide +kernel
theorem dL_law_856 : decode cL_law 856 = .ok (.invokevirtual 113, 3) := by decide +kernel
theorem wd_556 : Cond.methodLink RL 113 yX10_midstream ∈ BG := BG_in (by decide +kernel) rfl
theorem wd_557 : Cond.code yX10_midstream cX10_midstream 8 (some .int) ∈ BG := BG_in (by decide +kernel) rfl
theorem wd_558 : Cond.instanceMethod yX10_midstream ∈ BG := BG_in (by decide +kernel) rfl
theorem wd_559 : Cond.selects RX10 yX10_midstream yX10_midstream ∈ BG := BG_in (by decide +kernel) rfl
theorem okV_X10_midstream : okV yX10_midstream cX10_midstream 8 (some .int) 3 := ⟨⟨wd_557, wd_295, by decide +kernel⟩, wd_558, wd_559⟩
theorem dL_law_859 : decode cL_law 859 = .ok (.if_icmp .eq 156, 3) := by decide +kernel
theorem dL_law_864 : decode cL_law 864 = .ok (.aload_n 1, 1) := by decide +kernel
theorem dL_law_865 : decode cL_law 865 = .ok (.aload_n 0, 1) := by decide +kernel
theorem dL_law_866 : decode cL_law 866 = .ok (.iload_n 3, 1) := by decide +kernel
theorem dL_law_867 : decode cL_law 867 = .ok (.iconst 1, 1) := by decide +kernel
theorem dL_law_868 : decode cL_law 868 = .ok (.iadd, 1) := by decide +kernel
theorem dL_law_869 : decode cL_law 869 = .ok (.iaload, 1) := by decide +kernel
theorem dL_law_870 : decode cL_law 870 = .ok (.invokevirtual 114, 3) := by decide +kernel
theorem wd_560 : Cond.methodLink RL 114 yX9_fleet ∈ BG := BG_in (by decide +kernel) rfl
theorem wd_561 : Cond.code yX9_fleet cX9_fleet 7 (some .int) ∈ BG := BG_in (by decide +kernel) rfl
theorem wd_562 : Cond.instanceMethod yX9_fleet ∈ BG := BG_in (by decide +kernel) rfl
theorem wd_563 : Cond.selects RX9 yX9_fleet yX9_fleet ∈ BG := BG_in (by decide +kernel) rfl
theorem okV_X9_fleet : okV yX9_fleet cX9_fleet 7 (some .int) 1 := ⟨⟨wd_561, wd_71, by decide +kernel⟩, wd_562, wd_563⟩
theorem dL_law_873 : decode cL_law 873 = .ok (.aload_n 2, 1) := by decide +kernel
theorem dL_law_874 : decode cL_law 874 = .ok (.aload_n 0, 1) := by decide +kernel
theorem dL_law_875 : decode cL_law 875 = .ok (.iload_n 3, 1) := by decide +kernel
theorem dL_law_876 : decode cL_law 876 = .ok (.iconst 1, 1) := by decide +kernel
theorem dL_law_877 : decode cL_law 877 = .ok (.iadd, 1) := by decide +kernel
theorem dL_law_878 : decode cL_law 878 = .ok (.iaload, 1) := by decide +kernel
theorem dL_law_879 : decode cL_law 879 = .ok (.invokevirtual 117, 3) := by decide +kernel
theorem wd_564 : Cond.methodLink RL 117 yX10_fleet ∈ BG := BG_in (by decide +kernel) rfl
theorem wd_565 : Cond.code yX10_fleet cX10_fleet 6 (some .int) ∈ BG := BG_in (by decide +kernel) rfl
theorem wd_566 : Cond.instanceMethod yX10_fleet ∈ BG := BG_in (by decide +kernel) rfl
theorem wd_567 : Cond.selects RX10 yX10_fleet yX10_fleet ∈ BG := BG_in (by decide +kernel) rfl
theorem okV_X10_fleet : okV yX10_fleet cX10_fleet 6 (some .int) 1 := ⟨⟨wd_565, wd_295, by decide +kernel⟩, wd_566, wd_567⟩
theorem dL_law_882 : decode cL_law 882 = .ok (.if_icmp .eq 133, 3) := by decide +kernel
theorem dL_law_887 : decode cL_law 887 = .ok (.aload_n 1, 1) := by decide +kernel
theorem dL_law_888 : decode cL_law 888 = .ok (.aload_n 0, 1) := by decide +kernel
theorem dL_law_889 : decode cL_law 889 = .ok (.iload_n 3, 1) := by decide +kernel
theorem dL_law_890 : decode cL_law 890 = .ok (.iconst 1, 1) := by decide +kernel
theorem dL_law_891 : decode cL_law 891 = .ok (.iadd, 1) := by decide +kernel
theorem dL_law_892 : decode cL_law 892 = .ok (.iaload, 1) := by decide +kernel
theorem dL_law_893 : decode cL_law 893 = .ok (.aload_n 0, 1) := by decide +kernel
theorem dL_law_894 : decode cL_law 894 = .ok (.iload_n 3, 1) := by decide +kernel
theorem dL_law_895 : decode cL_law 895 = .ok (.iconst 2, 1) := by decide +kernel
theorem dL_law_896 : decode cL_law 896 = .ok (.iadd, 1) := by decide +kernel
theorem dL_law_897 : decode cL_law 897 = .ok (.iaload, 1) := by decide +kernel
theorem dL_law_898 : decode cL_law 898 = .ok (.invokevirtual 118, 3) := by decide +kernel
theorem wd_568 : Cond.methodLink RL 118 yX9_write ∈ BG := BG_in (by decide +kernel) rfl
theorem wd_569 : Cond.code yX9_write cX9_write 3 (some .int) ∈ BG := BG_in (by decide +kernel) rfl
theorem wd_570 : Cond.instanceMethod yX9_write ∈ BG := BG_in (by decide +kernel) rfl
theorem wd_571 : Cond.selects RX9 yX9_write yX9_write ∈ BG := BG_in (by decide +kernel) rfl
theorem okV_X9_write : okV yX9_write cX9_write 3 (some .int) 2 := ⟨⟨wd_569, wd_71, by decide +kernel⟩, wd_570, wd_571⟩
theorem dL_law_901 : decode cL_law 901 = .ok (.aload_n 2, 1) := by decide +kernel
theorem dL_law_902 : decode cL_law 902 = .ok (.aload_n 0, 1) := by decide +kernel
theorem dL_law_903 : decode cL_law 903 = .ok (.iload_n 3, 1) := by decide +kernel
theorem dL_law_904 : decode cL_law 904 = .ok (.iconst 1, 1) := by decide +kernel
theorem dL_law_905 : decode cL_law 905 = .ok (.iadd, 1) := by decide +kernel
theorem dL_law_906 : decode cL_law 906 = .ok (.iaload, 1) := by decide +kernel
theorem dL_law_907 : decode cL_law 907 = .ok (.aload_n 0, 1) := by decide +kernel
theorem dL_law_908 : decode cL_law 908 = .ok (.iload_n 3, 1) := by decide +kernel
theorem dL_law_909 : decode cL_law 909 = .ok (.iconst 2, 1) := by decide +kernel
theorem dL_law_910 : decode cL_law 910 = .ok (.iadd, 1) := by decide +kernel
theorem dL_law_911 : decode cL_law 911 = .ok (.iaload, 1) := by decide +kernel
theorem dL_law_912 : decode cL_law 912 = .ok (.invokevirtual 121, 3) := by decide +kernel
theorem wd_572 : Cond.methodLink RL 121 yX10_write ∈ BG := BG_in (by decide +kernel) rfl
theorem wd_573 : Cond.code yX10_write cX10_write 3 (some .int) ∈ BG := BG_in (by decide +kernel) rfl
theorem wd_574 : Cond.instanceMethod yX10_write ∈ BG := BG_in (by decide +kernel) rfl
theorem wd_575 : Cond.selects RX10 yX10_write yX10_write ∈ BG := BG_in (by decide +kernel) rfl
theorem okV_X10_write : okV yX10_write cX10_write 3 (some .int) 2 := ⟨⟨wd_573, wd_295, by decide +kernel⟩, wd_574, wd_575⟩
theorem dL_law_915 : decode cL_law 915 = .ok (.if_icmp .eq 100, 3) := by decide +kernel
theorem dL_law_920 : decode cL_law 920 = .ok (.aload_n 1, 1) := by decide +kernel
theorem dL_law_921 : decode cL_law 921 = .ok (.invokevirtual 122, 3) := by decide +kernel
theorem wd_576 : Cond.methodLink RL 122 yX9_tear ∈ BG := BG_in (by decide +kernel) rfl
theorem wd_577 : Cond.code yX9_tear cX9_tear 2 (some .int) ∈ BG := BG_in (by decide +kernel) rfl
theorem wd_578 : Cond.instanceMethod yX9_tear ∈ BG := BG_in (by decide +kernel) rfl
theorem wd_579 : Cond.selects RX9 yX9_tear yX9_tear ∈ BG := BG_in (by decide +kernel) rfl
theorem okV_X9_tear : okV yX9_tear cX9_tear 2 (some .int) 0 := ⟨⟨wd_577, wd_71, by decide +kernel⟩, wd_578, wd_579⟩
theorem dL_law_924 : decode cL_law 924 = .ok (.aload_n 2, 1) := by decide +kernel
theorem dL_law_925 : decode cL_law 925 = .ok (.invokevirtual 125, 3) := by decide +kernel
theorem wd_580 : Cond.methodLink RL 125 yX10_tear ∈ BG := BG_in (by decide +kernel) rfl
theorem wd_581 : Cond.code yX10_tear cX10_tear 2 (some .int) ∈ BG := BG_in (by decide +kernel) rfl
theorem wd_582 : Cond.instanceMethod yX10_tear ∈ BG := BG_in (by decide +kernel) rfl
theorem wd_583 : Cond.selects RX10 yX10_tear yX10_tear ∈ BG := BG_in (by decide +kernel) rfl
theorem okV_X10_tear : okV yX10_tear cX10_tear 2 (some .int) 0 := ⟨⟨wd_581, wd_295, by decide +kernel⟩, wd_582, wd_583⟩
theorem dL_law_928 : decode cL_law 928 = .ok (.if_icmp .eq 87, 3) := by decide +kernel
theorem dL_law_933 : decode cL_law 933 = .ok (.aload_n 1, 1) := by decide +kernel
theorem dL_law_934 : decode cL_law 934 = .ok (.invokevirtual 126, 3) := by decide +kernel
theorem wd_584 : Cond.methodLink RL 126 yX9_judge ∈ BG := BG_in (by decide +kernel) rfl
theorem wd_585 : Cond.code yX9_judge cX9_judge 1 (some .int) ∈ BG := BG_in (by decide +kernel) rfl
theorem wd_586 : Cond.instanceMethod yX9_judge ∈ BG := BG_in (by decide +kernel) rfl
theorem wd_587 : Cond.selects RX9 yX9_judge yX9_judge ∈ BG := BG_in (by decide +kernel) rfl
theorem okV_X9_judge : okV yX9_judge cX9_judge 1 (some .int) 0 := ⟨⟨wd_585, wd_71, by decide +kernel⟩, wd_586, wd_587⟩
theorem dL_law_937 : decode cL_law 937 = .ok (.aload_n 2, 1) := by decide +kernel
theorem dL_law_938 : decode cL_law 938 = .ok (.invokevirtual 129, 3) := by decide +kernel
theorem wd_588 : Cond.methodLink RL 129 yX10_judge ∈ BG := BG_in (by decide +kernel) rfl
theorem wd_589 : Cond.code yX10_judge cX10_judge 2 (some .int) ∈ BG := BG_in (by decide +kernel) rfl
theorem wd_590 : Cond.instanceMethod yX10_judge ∈ BG := BG_in (by decide +kernel) rfl
theorem wd_591 : Cond.selects RX10 yX10_judge yX10_judge ∈ BG := BG_in (by decide +kernel) rfl
theorem okV_X10_judge : okV yX10_judge cX10_judge 2 (some .int) 0 := ⟨⟨wd_589, wd_295, by decide +kernel⟩, wd_590, wd_591⟩
theorem dL_law_941 : decode cL_law 941 = .ok (.if_icmp .eq 74, 3) := by decide +kernel
theorem dL_law_946 : decode cL_law 946 = .ok (.aload_n 1, 1) := by decide +kernel
theorem dL_law_947 : decode cL_law 947 = .ok (.aload_n 0, 1) := by decide +kernel
theorem dL_law_948 : decode cL_law 948 = .ok (.iload_n 3, 1) := by decide +kernel
theorem dL_law_949 : decode cL_law 949 = .ok (.iconst 1, 1) := by decide +kernel
theorem dL_law_950 : decode cL_law 950 = .ok (.iadd, 1) := by decide +kernel
theorem dL_law_951 : decode cL_law 951 = .ok (.iaload, 1) := by decide +kernel
theorem dL_law_952 : decode cL_law 952 = .ok (.invokevirtual 130, 3) := by decide +kernel
theorem wd_592 : Cond.methodLink RL 130 yX9_seed ∈ BG := BG_in (by decide +kernel) rfl
theorem wd_593 : Cond.code yX9_seed cX9_seed 3 (some .int) ∈ BG := BG_in (by decide +kernel) rfl
theorem wd_594 : Cond.instanceMethod yX9_seed ∈ BG := BG_in (by decide +kernel) rfl
theorem wd_595 : Cond.selects RX9 yX9_seed yX9_seed ∈ BG := BG_in (by decide +kernel) rfl
theorem okV_X9_seed : okV yX9_seed cX9_seed 3 (some .int) 1 := ⟨⟨wd_593, wd_71, by decide +kernel⟩, wd_594, wd_595⟩
theorem dL_law_955 : decode cL_law 955 = .ok (.aload_n 2, 1) := by decide +kernel
theorem dL_law_956 : decode cL_law 956 = .ok (.aload_n 0, 1) := by decide +kernel
theorem dL_law_957 : decode cL_law 957 = .ok (.iload_n 3, 1) := by decide +kernel
theorem dL_law_958 : decode cL_law 958 = .ok (.iconst 1, 1) := by decide +kernel
theorem dL_law_959 : decode cL_law 959 = .ok (.iadd, 1) := by decide +kernel
theorem dL_law_960 : decode cL_law 960 = .ok (.iaload, 1) := by decide +kernel
theorem dL_law_961 : decode cL_law 961 = .ok (.invokevirtual 133, 3) := by decide +kernel
theorem wd_596 : Cond.methodLink RL 133 yX10_seed ∈ BG := BG_in (by decide +kernel) rfl
theorem wd_597 : Cond.code yX10_seed cX10_seed 3 (some .int) ∈ BG := BG_in (by decide +kernel) rfl
theorem wd_598 : Cond.instanceMethod yX10_seed ∈ BG := BG_in (by decide +kernel) rfl
theorem wd_599 : Cond.selects RX10 yX10_seed yX10_seed ∈ BG := BG_in (by decide +kernel) rfl
theorem okV_X10_seed : okV yX10_seed cX10_seed 3 (some .int) 1 := ⟨⟨wd_597, wd_295, by decide +kernel⟩, wd_598, wd_599⟩
theorem dL_law_964 : decode cL_law 964 = .ok (.if_icmp .eq 51, 3) := by decide +kernel
theorem dL_law_969 : decode cL_law 969 = .ok (.aload_n 1, 1) := by decide +kernel
theorem dL_law_970 : decode cL_law 970 = .ok (.aload_n 0, 1) := by decide +kernel
theorem dL_law_971 : decode cL_law 971 = .ok (.iload_n 3, 1) := by decide +kernel
theorem dL_law_972 : decode cL_law 972 = .ok (.iconst 1, 1) := by decide +kernel
theorem dL_law_973 : decode cL_law 973 = .ok (.iadd, 1) := by decide +kernel
theorem dL_law_974 : decode cL_law 974 = .ok (.iaload, 1) := by decide +kernel
theorem dL_law_975 : decode cL_law 975 = .ok (.invokevirtual 134, 3) := by decide +kernel
theorem wd_600 : Cond.methodLink RL 134 yX9_keep ∈ BG := BG_in (by decide +kernel) rfl
theorem wd_601 : Cond.code yX9_keep cX9_keep 2 (some .int) ∈ BG := BG_in (by decide +kernel) rfl
theorem wd_602 : Cond.instanceMethod yX9_keep ∈ BG := BG_in (by decide +kernel) rfl
theorem wd_603 : Cond.selects RX9 yX9_keep yX9_keep ∈ BG := BG_in (by decide +kernel) rfl
theorem okV_X9_keep : okV yX9_keep cX9_keep 2 (some .int) 1 := ⟨⟨wd_601, wd_71, by decide +kernel⟩, wd_602, wd_603⟩
theorem dL_law_978 : decode cL_law 978 = .ok (.aload_n 2, 1) := by decide +kernel
theorem dL_law_979 : decode cL_law 979 = .ok (.aload_n 0, 1) := by decide +kernel
theorem dL_law_980 : decode cL_law 980 = .ok (.iload_n 3, 1) := by decide +kernel
theorem dL_law_981 : decode cL_law 981 = .ok (.iconst 1, 1) := by decide +kernel
theorem dL_law_982 : decode cL_law 982 = .ok (.iadd, 1) := by decide +kernel
theorem dL_law_983 : decode cL_law 983 = .ok (.iaload, 1) := by decide +kernel
theorem dL_law_984 : decode cL_law 984 = .ok (.invokevirtual 137, 3) := by decide +kernel
theorem wd_604 : Cond.methodLink RL 137 yX10_keep ∈ BG := BG_in (by decide +kernel) rfl
theorem wd_605 : Cond.code yX10_keep cX10_keep 2 (some .int) ∈ BG := BG_in (by decide +kernel) rfl
theorem wd_606 : Cond.instanceMethod yX10_keep ∈ BG := BG_in (by decide +kernel) rfl
theorem wd_607 : Cond.selects RX10 yX10_keep yX10_keep ∈ BG := BG_in (by decide +kernel) rfl
theorem okV_X10_keep : okV yX10_keep cX10_keep 2 (some .int) 1 := ⟨⟨wd_605, wd_295, by decide +kernel⟩, wd_606, wd_607⟩
theorem dL_law_987 : decode cL_law 987 = .ok (.if_icmp .eq 28, 3) := by decide +kernel
theorem dL_law_992 : decode cL_law 992 = .ok (.aload_n 1, 1) := by decide +kernel
theorem dL_law_993 : decode cL_law 993 = .ok (.aload_n 0, 1) := by decide +kernel
theorem dL_law_994 : decode cL_law 994 = .ok (.iload_n 3, 1) := by decide +kernel
theorem dL_law_995 : decode cL_law 995 = .ok (.iconst 1, 1) := by decide +kernel
theorem dL_law_996 : decode cL_law 996 = .ok (.iadd, 1) := by decide +kernel
theorem dL_law_997 : decode cL_law 997 = .ok (.iaload, 1) := by decide +kernel
theorem dL_law_998 : decode cL_law 998 = .ok (.invokevirtual 138, 3) := by decide +kernel
theorem wd_608 : Cond.methodLink RL 138 yX9_goBack ∈ BG := BG_in (by decide +kernel) rfl
theorem wd_609 : Cond.code yX9_goBack cX9_goBack 2 (some .int) ∈ BG := BG_in (by decide +kernel) rfl
theorem wd_610 : Cond.instanceMethod yX9_goBack ∈ BG := BG_in (by decide +kernel) rfl
theorem wd_611 : Cond.selects RX9 yX9_goBack yX9_goBack ∈ BG := BG_in (by decide +kernel) rfl
theorem okV_X9_goBack : okV yX9_goBack cX9_goBack 2 (some .int) 1 := ⟨⟨wd_609, wd_71, by decide +kernel⟩, wd_610, wd_611⟩
theorem dL_law_1001 : decode cL_law 1001 = .ok (.aload_n 2, 1) := by decide +kernel
theorem dL_law_1002 : decode cL_law 1002 = .ok (.aload_n 0, 1) := by decide +kernel
theorem dL_law_1003 : decode cL_law 1003 = .ok (.iload_n 3, 1) := by decide +kernel
theorem dL_law_1004 : decode cL_law 1004 = .ok (.iconst 1, 1) := by decide +kernel
theorem dL_law_1005 : decode cL_law 1005 = .ok (.iadd, 1) := by decide +kernel
theorem dL_law_1006 : decode cL_law 1006 = .ok (.iaload, 1) := by decide +kernel
theorem dL_law_1007 : decode cL_law 1007 = .ok (.invokevirtual 141, 3) := by decide +kernel
theorem wd_612 : Cond.methodLink RL 141 yX10_goBack ∈ BG := BG_in (by decide +kernel) rfl
theorem wd_613 : Cond.code yX10_goBack cX10_goBack 2 (some .int) ∈ BG := BG_in (by decide +kernel) rfl
theorem wd_614 : Cond.instanceMethod yX10_goBack ∈ BG := BG_in (by decide +kernel) rfl
theorem wd_615 : Cond.selects RX10 yX10_goBack yX10_goBack ∈ BG := BG_in (by decide +kernel) rfl
theorem okV_X10_goBack : okV yX10_goBack cX10_goBack 2 (some .int) 1 := ⟨⟨wd_613, wd_295, by decide +kernel⟩, wd_614, wd_615⟩
theorem dL_law_1010 : decode cL_law 1010 = .ok (.if_icmp .eq 5, 3) := by decide +kernel
set_option maxHeartbeats 4000000 in
set_option maxRecDepth 100000 in
theorem law_feed {p : Program} {l : Launch} {e : Env} {s : State} {m : MethodId} {below : List Frame} {meth : Method} {c : Code} {D : va_G} {cI cZ : ClassId} {b : Nat} {xs : Nat → Int32} (xh xq1 xq2 xq6 xq14 xq22 xq26 xq31 xq35 xq36 xq41 xq44 xq50 xq59 yh yq1 yq2 yq3 yq4 yq5 yq6 yq7 yq8 yq9 yq10 yq11 yq12 yq13 yq14 yq15 yq16 yq17 yq18 yq19 : Nat) (C0 : lw_C p s m meth c b 5 xs) {H : Heap} {locs : List Loc} {ls : Array Slot} (hK : va_K D classes (TYS cI cZ) s) (hP : va_P D classes [(xh, .inr (9, [.ref xq1, .int 0, .int (-1), .ref xq2, .ref xq6, .ref xq14, .ref xq22, .ref xq26, .ref xq31, .ref xq35, .int 0, .ref xq36, .int 0, .ref xq41, .ref xq44, .ref xq50, .ref xq59])), (xq1, .inl (cI, 240, .inl z0)), (yh, .inr (10, [.ref yq1, .ref yq2, .int 0, .int 0, .int 1, .int 0, .int 0, .int 0, .ref yq3, .ref yq4, .ref yq5, .ref yq6, .ref yq7, .ref yq8, .int 0, .int 0, .int 0, .int 0, .int 0, .int (-1), .int 0, .int 0, .int 0, .int 0, .int 0, .int 0, .int 0, .ref yq9, .ref yq10, .ref yq11, .ref yq12, .ref yq13, .int 0, .int 0, .int 0, .int 0, .ref yq14, .ref yq15, .ref yq16, .ref yq17, .int 0, .int 0, .int 0, .ref yq18, .ref yq19])), (yq8, .inl (cI, 240, .inl z0))] H) (hD : va_D (lw_A s) [(xh, .inr (9, [.ref xq1, .int 0, .int (-1), .ref xq2, .ref xq6, .ref xq14, .ref xq22, .ref xq26, .ref xq31, .ref xq35, .int 0, .ref xq36, .int 0, .ref xq41, .ref xq44, .ref xq50, .ref xq59])), (xq1, .inl (cI, 240, .inl z0)), (yh, .inr (10, [.ref yq1, .ref yq2, .int 0, .int 0, .int 1, .int 0, .int 0, .int 0, .ref yq3, .ref yq4, .ref yq5, .ref yq6, .ref yq7, .ref yq8, .int 0, .int 0, .int 0, .int 0, .int 0, .int (-1), .int 0, .int 0, .int 0, .int 0, .int 0, .int 0, .int 0, .ref yq9, .ref yq10, .ref yq11, .ref yq12, .ref yq13, .int 0, .int 0, .int 0, .int 0, .ref yq14, .ref yq15, .ref yq16, .ref yq17, .int 0, .int 0, .int 0, .ref yq18, .ref yq19])), (yq8, .inl (cI, 240, .inl z0))]) (hS : va_S (lw_A s) s.heap H locs) (hl : lv_has ls 4 [(0, .ref b), (1, .ref xh), (2, .ref yh), (3, .int 0)]) : W p l e room_1 s m #[Value.ref b] below meth c H locs 60 4269 (lw_Z below #[Value.ref b] s) (F0 m 172 ls []) := by
  have C1 := C0
  obtain ⟨hx, hb, hr, hml, hown, hts, hX, hbl, hlocks, hN⟩ := C0
  have hA : ∀ q, s.heap.size ≤ q → lw_A s q := fun _ h => h
  have hbA : ¬ lw_A s b := Nat.not_le.mpr hbl
  refine lv_aload_n hx hb dL_law_172 rfl (lv_at hl 1 rfl) ?_
  refine lv_aload_n hx hb dL_law_173 rfl (lv_at hl 0 rfl) ?_
  refine lv_iload_n hx hb dL_law_174 rfl (lv_at hl 3 rfl) ?_
  refine lv_iconst (v := 1) hx hb dL_law_175 (by decide) ?_
  refine lv_iadd hx hb dL_law_176 ?_
  refine lv_topi (fun z_1 ez_1 => ?_)
  obtain rfl : z_1 = 1 := ez_1.trans (by decide +kernel)
  refine va_sld hx hb hX hbl hbA hS (show ¬ ((1 : Int32) < 0 ∨ 5 ≤ (1 : Int32).toNatClampNeg) by decide +kernel) dL_law_177 ?_
  refine cVi (wr := [(yh, .inr (10, [.ref yq1, .ref yq2, .int 0, .int 0, .int 1, .int 0, .int 0, .int 0, .ref yq3, .ref yq4, .ref yq5, .ref yq6, .ref yq7, .ref yq8, .int 0, .int 0, .int 0, .int 0, .int 0, .int (-1), .int 0, .int 0, .int 0, .int 0, .int 0, .int 0, .int 0, .ref yq9, .ref yq10, .ref yq11, .ref yq12, .ref yq13, .int 0, .int 0, .int 0, .int 0, .ref yq14, .ref yq15, .ref yq16, .ref yq17, .int 0, .int 0, .int 0, .ref yq18, .ref yq19])), (yq8, .inl (cI, 240, .inl z0))]) (rest := []) (k_x_feed xh xq1 xq2 xq6 xq14 xq22 xq26 xq31 xq35 xq36 xq41 xq44 xq50 xq59 (xs (1 : Int32).toNatClampNeg)) okV_X9_feed wd_368 hx hb hml hown hts hK hP hD hS hA hN hl.1 [0, 1] [2, 3] rfl rfl rfl rfl (by decide) rfl rfl rfl (Nat.le_of_ble_eq_true rfl) (Nat.le_of_ble_eq_true rfl) (Nat.le_of_ble_eq_true rfl) (Nat.le_of_ble_eq_true rfl) (Nat.le_of_ble_eq_true rfl) dL_law_178 (fun r_3 u_2 H locs hw_u_2 hP hD hS => ?_)
  obtain rfl := hw_u_2
  have hP : va_P D classes [(yh, .inr (10, [.ref yq1, .ref yq2, .int 0, .int 0, .int 1, .int 0, .int 0, .int 0, .ref yq3, .ref yq4, .ref yq5, .ref yq6, .ref yq7, .ref yq8, .int 0, .int 0, .int 0, .int 0, .int 0, .int (-1), .int 0, .int 0, .int 0, .int 0, .int 0, .int 0, .int 0, .ref yq9, .ref yq10, .ref yq11, .ref yq12, .ref yq13, .int 0, .int 0, .int 0, .int 0, .ref yq14, .ref yq15, .ref yq16, .ref yq17, .int 0, .int 0, .int 0, .ref yq18, .ref yq19])), (yq8, .inl (cI, 240, .inl z0))] H := hP
  have hD : va_D (lw_A s) [(yh, .inr (10, [.ref yq1, .ref yq2, .int 0, .int 0, .int 1, .int 0, .int 0, .int 0, .ref yq3, .ref yq4, .ref yq5, .ref yq6, .ref yq7, .ref yq8, .int 0, .int 0, .int 0, .int 0, .int 0, .int (-1), .int 0, .int 0, .int 0, .int 0, .int 0, .int 0, .int 0, .ref yq9, .ref yq10, .ref yq11, .ref yq12, .ref yq13, .int 0, .int 0, .int 0, .int 0, .ref yq14, .ref yq15, .ref yq16, .ref yq17, .int 0, .int 0, .int 0, .ref yq18, .ref yq19])), (yq8, .inl (cI, 240, .inl z0))] := hD
  refine lv_aload_n hx hb dL_law_181 rfl (lv_at hl 2 rfl) ?_
  refine lv_aload_n hx hb dL_law_182 rfl (lv_at hl 0 rfl) ?_
  refine lv_iload_n hx hb dL_law_183 rfl (lv_at hl 3 rfl) ?_
  refine lv_iconst (v := 1) hx hb dL_law_184 (by decide) ?_
  refine lv_iadd hx hb dL_law_185 ?_
  refine lv_topi (fun z_4 ez_4 => ?_)
  obtain rfl : z_4 = 1 := ez_4.trans (by decide +kernel)
  refine va_sld hx hb hX hbl hbA hS (show ¬ ((1 : Int32) < 0 ∨ 5 ≤ (1 : Int32).toNatClampNeg) by decide +kernel) dL_law_186 ?_
  refine cVi (wr := []) (rest := [.int (rg 0 255 (xs (1 : Int32).toNatClampNeg) (-1000000002) 1)]) (k_m_feed yh yq1 yq2 yq3 yq4 yq5 yq6 yq7 yq8 yq9 yq10 yq11 yq12 yq13 yq14 yq15 yq16 yq17 yq18 yq19 (xs (1 : Int32).toNatClampNeg)) okV_X10_feed wd_372 hx hb hml hown hts hK hP hD hS hA hN hl.1 [0, 1] [] rfl rfl rfl rfl (by decide) rfl rfl rfl (Nat.le_of_ble_eq_true rfl) (Nat.le_of_ble_eq_true rfl) (Nat.le_of_ble_eq_true rfl) (Nat.le_of_ble_eq_true rfl) (Nat.le_of_ble_eq_true rfl) dL_law_187 (fun r_6 u_5 H locs hw_u_5 hP hD hS => ?_)
  obtain rfl := hw_u_5
  have hP : va_P D classes [] H := hP
  have hD : va_D (lw_A s) [] := hD
  refine lv_icmp_eq (tgt := 1015) hx hb dL_law_190 (by decide) (fun c_7 => ?_) (fun c_7 => absurd rfl c_7)
  exact law_tail C1 hS hl
set_option maxHeartbeats 4000000 in
set_option maxRecDepth 100000 in
theorem law_town {p : Program} {l : Launch} {e : Env} {s : State} {m : MethodId} {below : List Frame} {meth : Method} {c : Code} {D : va_G} {cI cZ : ClassId} {b : Nat} {xs : Nat → Int32} (xh xq1 xq2 xq6 xq14 xq22 xq26 xq31 xq35 xq36 xq41 xq44 xq50 xq59 xu3 xq17 xq18 xq19 xq20 xq21 xu23 xq29 xq39 xq40 yh yq1 yq2 yq3 yq4 yq5 yq6 yq7 yq8 yq9 yq10 yq11 yq12 yq13 yq14 yq15 yq16 yq17 yq18 yq19 : Nat) (C0 : lw_C p s m meth c b 5 xs) {H : Heap} {locs : List Loc} {ls : Array Slot} (hK : va_K D classes (TYS cI cZ) s) (hP : va_P D classes [(xh, .inr (9, [.ref xq1, .int 0, .int (-1), .ref xq2, .ref xq6, .ref xq14, .ref xq22, .ref xq26, .ref xq31, .ref xq35, .int 0, .ref xq36, .int 0, .ref xq41, .ref xq44, .ref xq50, .ref xq59])), (xq2, .inr (5, [.int 0, .int (-1), .ref xu3, .int 0, .int 0, .int 0, .int 0])), (xq1, .inl (cI, 240, .inl z0)), (xq14, .inr (8, [.int 0, .int 1, .int 0, .int 0, .int 0, .ref xq17, .ref xq18, .ref xq19, .ref xq20, .ref xq21])), (xq22, .inr (7, [.ref xu23])), (xu23, .inl (cI, 41, .inl (cB2 z0 7))), (xq26, .inr (2, [.ref xq29, .int 0, .int 0])), (xq36, .inr (0, [.int 0, .ref xq39, .ref xq40])), (yh, .inr (10, [.ref yq1, .ref yq2, .int 0, .int 0, .int 1, .int 0, .int 0, .int 0, .ref yq3, .ref yq4, .ref yq5, .ref yq6, .ref yq7, .ref yq8, .int 0, .int 0, .int 0, .int 0, .int 0, .int (-1), .int 0, .int 0, .int 0, .int 0, .int 0, .int 0, .int 0, .ref yq9, .ref yq10, .ref yq11, .ref yq12, .ref yq13, .int 0, .int 0, .int 0, .int 0, .ref yq14, .ref yq15, .ref yq16, .ref yq17, .int 0, .int 0, .int 0, .ref yq18, .ref yq19])), (yq1, .inl (cI, 1302, .inl (upd (wC z0 7) (41 : Int32).toNatClampNeg (z0 (41 : Int32).toNatClampNeg)))), (yq2, .inl (cZ, 2, .inl z0)), (yq3, .inl (cI, 6, .inl z0)), (yq4, .inl (cI, 6, .inl z0)), (yq5, .inl (cI, 30, .inl z0)), (yq6, .inl (cI, 7, .inl z0)), (yq7, .inl (cI, 7, .inl z0)), (yq9, .inl (cI, 6, .inl z0)), (yq10, .inl (cI, 6, .inl z0)), (yq11, .inl (cI, 30, .inl z0)), (yq12, .inl (cI, 7, .inl z0)), (yq13, .inl (cI, 7, .inl z0))] H) (hD : va_D (lw_A s) [(xh, .inr (9, [.ref xq1, .int 0, .int (-1), .ref xq2, .ref xq6, .ref xq14, .ref xq22, .ref xq26, .ref xq31, .ref xq35, .int 0, .ref xq36, .int 0, .ref xq41, .ref xq44, .ref xq50, .ref xq59])), (xq2, .inr (5, [.int 0, .int (-1), .ref xu3, .int 0, .int 0, .int 0, .int 0])), (xq1, .inl (cI, 240, .inl z0)), (xq14, .inr (8, [.int 0, .int 1, .int 0, .int 0, .int 0, .ref xq17, .ref xq18, .ref xq19, .ref xq20, .ref xq21])), (xq22, .inr (7, [.ref xu23])), (xu23, .inl (cI, 41, .inl (cB2 z0 7))), (xq26, .inr (2, [.ref xq29, .int 0, .int 0])), (xq36, .inr (0, [.int 0, .ref xq39, .ref xq40])), (yh, .inr (10, [.ref yq1, .ref yq2, .int 0, .int 0, .int 1, .int 0, .int 0, .int 0, .ref yq3, .ref yq4, .ref yq5, .ref yq6, .ref yq7, .ref yq8, .int 0, .int 0, .int 0, .int 0, .int 0, .int (-1), .int 0, .int 0, .int 0, .int 0, .int 0, .int 0, .int 0, .ref yq9, .ref yq10, .ref yq11, .ref yq12, .ref yq13, .int 0, .int 0, .int 0, .int 0, .ref yq14, .ref yq15, .ref yq16, .ref yq17, .int 0, .int 0, .int 0, .ref yq18, .ref yq19])), (yq1, .inl (cI, 1302, .inl (upd (wC z0 7) (41 : Int32).toNatClampNeg (z0 (41 : Int32).toNatClampNeg)))), (yq2, .inl (cZ, 2, .inl z0)), (yq3, .inl (cI, 6, .inl z0)), (yq4, .inl (cI, 6, .inl z0)), (yq5, .inl (cI, 30, .inl z0)), (yq6, .inl (cI, 7, .inl z0)), (yq7, .inl (cI, 7, .inl z0)), (yq9, .inl (cI, 6, .inl z0)), (yq10, .inl (cI, 6, .inl z0)), (yq11, .inl (cI, 30, .inl z0)), (yq12, .inl (cI, 7, .inl z0)), (yq13, .inl (cI, 7, .inl z0))]) (hS : va_S (lw_A s) s.heap H locs) (hl : lv_has ls 4 [(0, .ref b), (1, .ref xh), (2, .ref yh), (3, .int 0)]) : W p l e room_1 s m #[Value.ref b] below meth c H locs 60 4269 (lw_Z below #[Value.ref b] s) (F0 m 195 ls []) := by
  have C1 := C0
  obtain ⟨hx, hb, hr, hml, hown, hts, hX, hbl, hlocks, hN⟩ := C0
  have hA : ∀ q, s.heap.size ≤ q → lw_A s q := fun _ h => h
  have hbA : ¬ lw_A s b := Nat.not_le.mpr hbl
  refine lv_aload_n hx hb dL_law_195 rfl (lv_at hl 1 rfl) ?_
  refine cVi (wr := [(yh, .inr (10, [.ref yq1, .ref yq2, .int 0, .int 0, .int 1, .int 0, .int 0, .int 0, .ref yq3, .ref yq4, .ref yq5, .ref yq6, .ref yq7, .ref yq8, .int 0, .int 0, .int 0, .int 0, .int 0, .int (-1), .int 0, .int 0, .int 0, .int 0, .int 0, .int 0, .int 0, .ref yq9, .ref yq10, .ref yq11, .ref yq12, .ref yq13, .int 0, .int 0, .int 0, .int 0, .ref yq14, .ref yq15, .ref yq16, .ref yq17, .int 0, .int 0, .int 0, .ref yq18, .ref yq19])), (yq1, .inl (cI, 1302, .inl (upd (wC z0 7) (41 : Int32).toNatClampNeg (z0 (41 : Int32).toNatClampNeg)))), (yq2, .inl (cZ, 2, .inl z0)), (yq3, .inl (cI, 6, .inl z0)), (yq4, .inl (cI, 6, .inl z0)), (yq5, .inl (cI, 30, .inl z0)), (yq6, .inl (cI, 7, .inl z0)), (yq7, .inl (cI, 7, .inl z0)), (yq9, .inl (cI, 6, .inl z0)), (yq10, .inl (cI, 6, .inl z0)), (yq11, .inl (cI, 30, .inl z0)), (yq12, .inl (cI, 7, .inl z0)), (yq13, .inl (cI, 7, .inl z0))]) (rest := []) (k_x_town xh xq1 xq2 xq6 xq14 xq22 xq26 xq31 xq35 xq36 xq41 xq44 xq50 xq59 xu3 xq17 xq18 xq19 xq20 xq21 xu23 xq29 xq39 xq40) okV_X9_town wd_376 hx hb hml hown hts hK hP hD hS hA hN hl.1 [0, 1, 2, 3, 4, 5, 6, 7] [8, 9, 10, 11, 12, 13, 14, 15, 16, 17, 18, 19, 20] rfl rfl rfl rfl (by decide) rfl rfl rfl (Nat.le_of_ble_eq_true rfl) (Nat.le_of_ble_eq_true rfl) (Nat.le_of_ble_eq_true rfl) (Nat.le_of_ble_eq_true rfl) (Nat.le_of_ble_eq_true rfl) dL_law_196 (fun r_2 u_1 H locs hw_u_1 hP hD hS => ?_)
  obtain rfl := hw_u_1
  have hP : va_P D classes [(yh, .inr (10, [.ref yq1, .ref yq2, .int 0, .int 0, .int 1, .int 0, .int 0, .int 0, .ref yq3, .ref yq4, .ref yq5, .ref yq6, .ref yq7, .ref yq8, .int 0, .int 0, .int 0, .int 0, .int 0, .int (-1), .int 0, .int 0, .int 0, .int 0, .int 0, .int 0, .int 0, .ref yq9, .ref yq10, .ref yq11, .ref yq12, .ref yq13, .int 0, .int 0, .int 0, .int 0, .ref yq14, .ref yq15, .ref yq16, .ref yq17, .int 0, .int 0, .int 0, .ref yq18, .ref yq19])), (yq1, .inl (cI, 1302, .inl (upd (wC z0 7) (41 : Int32).toNatClampNeg (z0 (41 : Int32).toNatClampNeg)))), (yq2, .inl (cZ, 2, .inl z0)), (yq3, .inl (cI, 6, .inl z0)), (yq4, .inl (cI, 6, .inl z0)), (yq5, .inl (cI, 30, .inl z0)), (yq6, .inl (cI, 7, .inl z0)), (yq7, .inl (cI, 7, .inl z0)), (yq9, .inl (cI, 6, .inl z0)), (yq10, .inl (cI, 6, .inl z0)), (yq11, .inl (cI, 30, .inl z0)), (yq12, .inl (cI, 7, .inl z0)), (yq13, .inl (cI, 7, .inl z0))] H := hP
  have hD : va_D (lw_A s) [(yh, .inr (10, [.ref yq1, .ref yq2, .int 0, .int 0, .int 1, .int 0, .int 0, .int 0, .ref yq3, .ref yq4, .ref yq5, .ref yq6, .ref yq7, .ref yq8, .int 0, .int 0, .int 0, .int 0, .int 0, .int (-1), .int 0, .int 0, .int 0, .int 0, .int 0, .int 0, .int 0, .ref yq9, .ref yq10, .ref yq11, .ref yq12, .ref yq13, .int 0, .int 0, .int 0, .int 0, .ref yq14, .ref yq15, .ref yq16, .ref yq17, .int 0, .int 0, .int 0, .ref yq18, .ref yq19])), (yq1, .inl (cI, 1302, .inl (upd (wC z0 7) (41 : Int32).toNatClampNeg (z0 (41 : Int32).toNatClampNeg)))), (yq2, .inl (cZ, 2, .inl z0)), (yq3, .inl (cI, 6, .inl z0)), (yq4, .inl (cI, 6, .inl z0)), (yq5, .inl (cI, 30, .inl z0)), (yq6, .inl (cI, 7, .inl z0)), (yq7, .inl (cI, 7, .inl z0)), (yq9, .inl (cI, 6, .inl z0)), (yq10, .inl (cI, 6, .inl z0)), (yq11, .inl (cI, 30, .inl z0)), (yq12, .inl (cI, 7, .inl z0)), (yq13, .inl (cI, 7, .inl z0))] := hD
  refine lv_aload_n hx hb dL_law_199 rfl (lv_at hl 2 rfl) ?_
  refine cVi (wr := []) (rest := [.int (0)]) (k_m_town yh yq1 yq2 yq3 yq4 yq5 yq6 yq7 yq8 yq9 yq10 yq11 yq12 yq13 yq14 yq15 yq16 yq17 yq18 yq19) okV_X10_town wd_380 hx hb hml hown hts hK hP hD hS hA hN hl.1 [0, 1, 2, 3, 4, 5, 6, 7, 8, 9, 10, 11, 12] [] rfl rfl rfl rfl (by decide) rfl rfl rfl (Nat.le_of_ble_eq_true rfl) (Nat.le_of_ble_eq_true rfl) (Nat.le_of_ble_eq_true rfl) (Nat.le_of_ble_eq_true rfl) (Nat.le_of_ble_eq_true rfl) dL_law_200 (fun r_4 u_3 H locs hw_u_3 hP hD hS => ?_)
  obtain rfl := hw_u_3
  have hP : va_P D classes [] H := hP
  have hD : va_D (lw_A s) [] := hD
  refine lv_icmp_eq (tgt := 1015) hx hb dL_law_203 (by decide) (fun c_5 => ?_) (fun c_5 => absurd rfl c_5)
  exact law_tail C1 hS hl
set_option maxHeartbeats 4000000 in
set_option maxRecDepth 100000 in
theorem law_fault {p : Program} {l : Launch} {e : Env} {s : State} {m : MethodId} {below : List Frame} {meth : Method} {c : Code} {D : va_G} {cI cZ : ClassId} {b : Nat} {xs : Nat → Int32} (xh xq1 xq2 xq6 xq14 xq22 xq26 xq31 xq35 xq36 xq41 xq44 xq50 xq59 yh yq1 yq2 yq3 yq4 yq5 yq6 yq7 yq8 yq9 yq10 yq11 yq12 yq13 yq14 yq15 yq16 yq17 yq18 yq19 : Nat) (C0 : lw_C p s m meth c b 5 xs) {H : Heap} {locs : List Loc} {ls : Array Slot} (hK : va_K D classes (TYS cI cZ) s) (hP : va_P D classes [(xh, .inr (9, [.ref xq1, .int 0, .int (-1), .ref xq2, .ref xq6, .ref xq14, .ref xq22, .ref xq26, .ref xq31, .ref xq35, .int 0, .ref xq36, .int 0, .ref xq41, .ref xq44, .ref xq50, .ref xq59])), (yh, .inr (10, [.ref yq1, .ref yq2, .int 0, .int 0, .int 1, .int 0, .int 0, .int 0, .ref yq3, .ref yq4, .ref yq5, .ref yq6, .ref yq7, .ref yq8, .int 0, .int 0, .int 0, .int 0, .int 0, .int (-1), .int 0, .int 0, .int 0, .int 0, .int 0, .int 0, .int 0, .ref yq9, .ref yq10, .ref yq11, .ref yq12, .ref yq13, .int 0, .int 0, .int 0, .int 0, .ref yq14, .ref yq15, .ref yq16, .ref yq17, .int 0, .int 0, .int 0, .ref yq18, .ref yq19]))] H) (hD : va_D (lw_A s) [(xh, .inr (9, [.ref xq1, .int 0, .int (-1), .ref xq2, .ref xq6, .ref xq14, .ref xq22, .ref xq26, .ref xq31, .ref xq35, .int 0, .ref xq36, .int 0, .ref xq41, .ref xq44, .ref xq50, .ref xq59])), (yh, .inr (10, [.ref yq1, .ref yq2, .int 0, .int 0, .int 1, .int 0, .int 0, .int 0, .ref yq3, .ref yq4, .ref yq5, .ref yq6, .ref yq7, .ref yq8, .int 0, .int 0, .int 0, .int 0, .int 0, .int (-1), .int 0, .int 0, .int 0, .int 0, .int 0, .int 0, .int 0, .ref yq9, .ref yq10, .ref yq11, .ref yq12, .ref yq13, .int 0, .int 0, .int 0, .int 0, .ref yq14, .ref yq15, .ref yq16, .ref yq17, .int 0, .int 0, .int 0, .ref yq18, .ref yq19]))]) (hS : va_S (lw_A s) s.heap H locs) (hl : lv_has ls 4 [(0, .ref b), (1, .ref xh), (2, .ref yh), (3, .int 0)]) : W p l e room_1 s m #[Value.ref b] below meth c H locs 60 4269 (lw_Z below #[Value.ref b] s) (F0 m 208 ls []) := by
  have C1 := C0
  obtain ⟨hx, hb, hr, hml, hown, hts, hX, hbl, hlocks, hN⟩ := C0
  have hA : ∀ q, s.heap.size ≤ q → lw_A s q := fun _ h => h
  have hbA : ¬ lw_A s b := Nat.not_le.mpr hbl
  refine lv_aload_n hx hb dL_law_208 rfl (lv_at hl 1 rfl) ?_
  refine cVi (wr := [(yh, .inr (10, [.ref yq1, .ref yq2, .int 0, .int 0, .int 1, .int 0, .int 0, .int 0, .ref yq3, .ref yq4, .ref yq5, .ref yq6, .ref yq7, .ref yq8, .int 0, .int 0, .int 0, .int 0, .int 0, .int (-1), .int 0, .int 0, .int 0, .int 0, .int 0, .int 0, .int 0, .ref yq9, .ref yq10, .ref yq11, .ref yq12, .ref yq13, .int 0, .int 0, .int 0, .int 0, .ref yq14, .ref yq15, .ref yq16, .ref yq17, .int 0, .int 0, .int 0, .ref yq18, .ref yq19]))]) (rest := []) (k_x_fault xh xq1 xq2 xq6 xq14 xq22 xq26 xq31 xq35 xq36 xq41 xq44 xq50 xq59) okV_X9_fault wd_384 hx hb hml hown hts hK hP hD hS hA hN hl.1 [0] [1] rfl rfl rfl rfl (by decide) rfl rfl rfl (Nat.le_of_ble_eq_true rfl) (Nat.le_of_ble_eq_true rfl) (Nat.le_of_ble_eq_true rfl) (Nat.le_of_ble_eq_true rfl) (Nat.le_of_ble_eq_true rfl) dL_law_209 (fun r_2 u_1 H locs hw_u_1 hP hD hS => ?_)
  obtain rfl := hw_u_1
  have hP : va_P D classes [(yh, .inr (10, [.ref yq1, .ref yq2, .int 0, .int 0, .int 1, .int 0, .int 0, .int 0, .ref yq3, .ref yq4, .ref yq5, .ref yq6, .ref yq7, .ref yq8, .int 0, .int 0, .int 0, .int 0, .int 0, .int (-1), .int 0, .int 0, .int 0, .int 0, .int 0, .int 0, .int 0, .ref yq9, .ref yq10, .ref yq11, .ref yq12, .ref yq13, .int 0, .int 0, .int 0, .int 0, .ref yq14, .ref yq15, .ref yq16, .ref yq17, .int 0, .int 0, .int 0, .ref yq18, .ref yq19]))] H := hP
  have hD : va_D (lw_A s) [(yh, .inr (10, [.ref yq1, .ref yq2, .int 0, .int 0, .int 1, .int 0, .int 0, .int 0, .ref yq3, .ref yq4, .ref yq5, .ref yq6, .ref yq7, .ref yq8, .int 0, .int 0, .int 0, .int 0, .int 0, .int (-1), .int 0, .int 0, .int 0, .int 0, .int 0, .int 0, .int 0, .ref yq9, .ref yq10, .ref yq11, .ref yq12, .ref yq13, .int 0, .int 0, .int 0, .int 0, .ref yq14, .ref yq15, .ref yq16, .ref yq17, .int 0, .int 0, .int 0, .ref yq18, .ref yq19]))] := hD
  refine lv_aload_n hx hb dL_law_212 rfl (lv_at hl 2 rfl) ?_
  refine cVi (wr := []) (rest := [.int ((-1))]) (k_m_fault yh yq1 yq2 yq3 yq4 yq5 yq6 yq7 yq8 yq9 yq10 yq11 yq12 yq13 yq14 yq15 yq16 yq17 yq18 yq19) okV_X10_fault wd_388 hx hb hml hown hts hK hP hD hS hA hN hl.1 [0] [] rfl rfl rfl rfl (by decide) rfl rfl rfl (Nat.le_of_ble_eq_true rfl) (Nat.le_of_ble_eq_true rfl) (Nat.le_of_ble_eq_true rfl) (Nat.le_of_ble_eq_true rfl) (Nat.le_of_ble_eq_true rfl) dL_law_213 (fun r_4 u_3 H locs hw_u_3 hP hD hS => ?_)
  obtain rfl := hw_u_3
  have hP : va_P D classes [] H := hP
  have hD : va_D (lw_A s) [] := hD
  refine lv_icmp_eq (tgt := 1015) hx hb dL_law_216 (by decide) (fun c_5 => ?_) (fun c_5 => absurd rfl c_5)
  exact law_tail C1 hS hl
set_option maxHeartbeats 4000000 in
set_option maxRecDepth 100000 in
theorem law_told {p : Program} {l : Launch} {e : Env} {s : State} {m : MethodId} {below : List Frame} {meth : Method} {c : Code} {D : va_G} {cI cZ : ClassId} {b : Nat} {xs : Nat → Int32} (xh xq1 xq2 xq6 xq14 xq22 xq26 xq31 xq35 xq36 xq41 xq44 xq50 xq59 xq9 xq10 xq11 xq12 xq13 xu23 xq39 xq40 xq29 yh yq1 yq2 yq3 yq4 yq5 yq6 yq7 yq8 yq9 yq10 yq11 yq12 yq13 yq14 yq15 yq16 yq17 yq18 yq19 : Nat) (C0 : lw_C p s m meth c b 5 xs) {H : Heap} {locs : List Loc} {ls : Array Slot} (hK : va_K D classes (TYS cI cZ) s) (hP : va_P D classes [(xh, .inr (9, [.ref xq1, .int 0, .int (-1), .ref xq2, .ref xq6, .ref xq14, .ref xq22, .ref xq26, .ref xq31, .ref xq35, .int 0, .ref xq36, .int 0, .ref xq41, .ref xq44, .ref xq50, .ref xq59])), (xq6, .inr (8, [.int 0, .int 1, .int 0, .int 0, .int 0, .ref xq9, .ref xq10, .ref xq11, .ref xq12, .ref xq13])), (xq22, .inr (7, [.ref xu23])), (xu23, .inl (cI, 41, .inl (cB2 z0 7))), (xq36, .inr (0, [.int 0, .ref xq39, .ref xq40])), (xq26, .inr (2, [.ref xq29, .int 0, .int 0])), (yh, .inr (10, [.ref yq1, .ref yq2, .int 0, .int 0, .int 1, .int 0, .int 0, .int 0, .ref yq3, .ref yq4, .ref yq5, .ref yq6, .ref yq7, .ref yq8, .int 0, .int 0, .int 0, .int 0, .int 0, .int (-1), .int 0, .int 0, .int 0, .int 0, .int 0, .int 0, .int 0, .ref yq9, .ref yq10, .ref yq11, .ref yq12, .ref yq13, .int 0, .int 0, .int 0, .int 0, .ref yq14, .ref yq15, .ref yq16, .ref yq17, .int 0, .int 0, .int 0, .ref yq18, .ref yq19])), (yq1, .inl (cI, 1302, .inl (upd (wC z0 7) (41 : Int32).toNatClampNeg (z0 (41 : Int32).toNatClampNeg))))] H) (hD : va_D (lw_A s) [(xh, .inr (9, [.ref xq1, .int 0, .int (-1), .ref xq2, .ref xq6, .ref xq14, .ref xq22, .ref xq26, .ref xq31, .ref xq35, .int 0, .ref xq36, .int 0, .ref xq41, .ref xq44, .ref xq50, .ref xq59])), (xq6, .inr (8, [.int 0, .int 1, .int 0, .int 0, .int 0, .ref xq9, .ref xq10, .ref xq11, .ref xq12, .ref xq13])), (xq22, .inr (7, [.ref xu23])), (xu23, .inl (cI, 41, .inl (cB2 z0 7))), (xq36, .inr (0, [.int 0, .ref xq39, .ref xq40])), (xq26, .inr (2, [.ref xq29, .int 0, .int 0])), (yh, .inr (10, [.ref yq1, .ref yq2, .int 0, .int 0, .int 1, .int 0, .int 0, .int 0, .ref yq3, .ref yq4, .ref yq5, .ref yq6, .ref yq7, .ref yq8, .int 0, .int 0, .int 0, .int 0, .int 0, .int (-1), .int 0, .int 0, .int 0, .int 0, .int 0, .int 0, .int 0, .ref yq9, .ref yq10, .ref yq11, .ref yq12, .ref yq13, .int 0, .int 0, .int 0, .int 0, .ref yq14, .ref yq15, .ref yq16, .ref yq17, .int 0, .int 0, .int 0, .ref yq18, .ref yq19])), (yq1, .inl (cI, 1302, .inl (upd (wC z0 7) (41 : Int32).toNatClampNeg (z0 (41 : Int32).toNatClampNeg))))]) (hS : va_S (lw_A s) s.heap H locs) (hl : lv_has ls 4 [(0, .ref b), (1, .ref xh), (2, .ref yh), (3, .int 0)]) : W p l e room_1 s m #[Value.ref b] below meth c H locs 60 4269 (lw_Z below #[Value.ref b] s) (F0 m 221 ls []) := by
  have C1 := C0
  obtain ⟨hx, hb, hr, hml, hown, hts, hX, hbl, hlocks, hN⟩ := C0
  have hA : ∀ q, s.heap.size ≤ q → lw_A s q := fun _ h => h
  have hbA : ¬ lw_A s b := Nat.not_le.mpr hbl
  refine lv_aload_n hx hb dL_law_221 rfl (lv_at hl 1 rfl) ?_
  refine lv_aload_n hx hb dL_law_222 rfl (lv_at hl 0 rfl) ?_
  refine lv_iload_n hx hb dL_law_223 rfl (lv_at hl 3 rfl) ?_
  refine lv_iconst (v := 1) hx hb dL_law_224 (by decide) ?_
  refine lv_iadd hx hb dL_law_225 ?_
  refine lv_topi (fun z_1 ez_1 => ?_)
  obtain rfl : z_1 = 1 := ez_1.trans (by decide +kernel)
  refine va_sld hx hb hX hbl hbA hS (show ¬ ((1 : Int32) < 0 ∨ 5 ≤ (1 : Int32).toNatClampNeg) by decide +kernel) dL_law_226 ?_
  refine cVi (wr := [(yh, .inr (10, [.ref yq1, .ref yq2, .int 0, .int 0, .int 1, .int 0, .int 0, .int 0, .ref yq3, .ref yq4, .ref yq5, .ref yq6, .ref yq7, .ref yq8, .int 0, .int 0, .int 0, .int 0, .int 0, .int (-1), .int 0, .int 0, .int 0, .int 0, .int 0, .int 0, .int 0, .ref yq9, .ref yq10, .ref yq11, .ref yq12, .ref yq13, .int 0, .int 0, .int 0, .int 0, .ref yq14, .ref yq15, .ref yq16, .ref yq17, .int 0, .int 0, .int 0, .ref yq18, .ref yq19])), (yq1, .inl (cI, 1302, .inl (upd (wC z0 7) (41 : Int32).toNatClampNeg (z0 (41 : Int32).toNatClampNeg))))]) (rest := []) (k_x_told xh xq1 xq2 xq6 xq14 xq22 xq26 xq31 xq35 xq36 xq41 xq44 xq50 xq59 xq9 xq10 xq11 xq12 xq13 xu23 xq39 xq40 xq29 (xs (1 : Int32).toNatClampNeg)) okV_X9_told wd_392 hx hb hml hown hts hK hP hD hS hA hN hl.1 [0, 1, 2, 3, 4, 5] [6, 7] rfl rfl rfl rfl (by decide) rfl rfl rfl (Nat.le_of_ble_eq_true rfl) (Nat.le_of_ble_eq_true rfl) (Nat.le_of_ble_eq_true rfl) (Nat.le_of_ble_eq_true rfl) (Nat.le_of_ble_eq_true rfl) dL_law_227 (fun r_3 u_2 H locs hw_u_2 hP hD hS => ?_)
  obtain rfl := hw_u_2
  have hP : va_P D classes [(yh, .inr (10, [.ref yq1, .ref yq2, .int 0, .int 0, .int 1, .int 0, .int 0, .int 0, .ref yq3, .ref yq4, .ref yq5, .ref yq6, .ref yq7, .ref yq8, .int 0, .int 0, .int 0, .int 0, .int 0, .int (-1), .int 0, .int 0, .int 0, .int 0, .int 0, .int 0, .int 0, .ref yq9, .ref yq10, .ref yq11, .ref yq12, .ref yq13, .int 0, .int 0, .int 0, .int 0, .ref yq14, .ref yq15, .ref yq16, .ref yq17, .int 0, .int 0, .int 0, .ref yq18, .ref yq19])), (yq1, .inl (cI, 1302, .inl (upd (wC z0 7) (41 : Int32).toNatClampNeg (z0 (41 : Int32).toNatClampNeg))))] H := hP
  have hD : va_D (lw_A s) [(yh, .inr (10, [.ref yq1, .ref yq2, .int 0, .int 0, .int 1, .int 0, .int 0, .int 0, .ref yq3, .ref yq4, .ref yq5, .ref yq6, .ref yq7, .ref yq8, .int 0, .int 0, .int 0, .int 0, .int 0, .int (-1), .int 0, .int 0, .int 0, .int 0, .int 0, .int 0, .int 0, .ref yq9, .ref yq10, .ref yq11, .ref yq12, .ref yq13, .int 0, .int 0, .int 0, .int 0, .ref yq14, .ref yq15, .ref yq16, .ref yq17, .int 0, .int 0, .int 0, .ref yq18, .ref yq19])), (yq1, .inl (cI, 1302, .inl (upd (wC z0 7) (41 : Int32).toNatClampNeg (z0 (41 : Int32).toNatClampNeg))))] := hD
  refine lv_aload_n hx hb dL_law_230 rfl (lv_at hl 2 rfl) ?_
  refine lv_aload_n hx hb dL_law_231 rfl (lv_at hl 0 rfl) ?_
  refine lv_iload_n hx hb dL_law_232 rfl (lv_at hl 3 rfl) ?_
  refine lv_iconst (v := 1) hx hb dL_law_233 (by decide) ?_
  refine lv_iadd hx hb dL_law_234 ?_
  refine lv_topi (fun z_4 ez_4 => ?_)
  obtain rfl : z_4 = 1 := ez_4.trans (by decide +kernel)
  refine va_sld hx hb hX hbl hbA hS (show ¬ ((1 : Int32) < 0 ∨ 5 ≤ (1 : Int32).toNatClampNeg) by decide +kernel) dL_law_235 ?_
  refine cVi (wr := []) (rest := [.int (toldS (xs (1 : Int32).toNatClampNeg))]) (k_m_told yh yq1 yq2 yq3 yq4 yq5 yq6 yq7 yq8 yq9 yq10 yq11 yq12 yq13 yq14 yq15 yq16 yq17 yq18 yq19 (xs (1 : Int32).toNatClampNeg)) okV_X10_told wd_396 hx hb hml hown hts hK hP hD hS hA hN hl.1 [0, 1] [] rfl rfl rfl rfl (by decide) rfl rfl rfl (Nat.le_of_ble_eq_true rfl) (Nat.le_of_ble_eq_true rfl) (Nat.le_of_ble_eq_true rfl) (Nat.le_of_ble_eq_true rfl) (Nat.le_of_ble_eq_true rfl) dL_law_236 (fun r_6 u_5 H locs hw_u_5 hP hD hS => ?_)
  obtain rfl := hw_u_5
  have hP : va_P D classes [] H := hP
  have hD : va_D (lw_A s) [] := hD
  refine lv_icmp_eq (tgt := 1015) hx hb dL_law_239 (by decide) (fun c_7 => ?_) (fun c_7 => absurd rfl c_7)
  exact law_tail C1 hS hl
set_option maxHeartbeats 4000000 in
set_option maxRecDepth 100000 in
theorem law_bridge {p : Program} {l : Launch} {e : Env} {s : State} {m : MethodId} {below : List Frame} {meth : Method} {c : Code} {D : va_G} {cI cZ : ClassId} {b : Nat} {xs : Nat → Int32} (xh xq1 xq2 xq6 xq14 xq22 xq26 xq31 xq35 xq36 xq41 xq44 xq50 xq59 xq9 xq10 xq11 xq12 xq13 yh yq1 yq2 yq3 yq4 yq5 yq6 yq7 yq8 yq9 yq10 yq11 yq12 yq13 yq14 yq15 yq16 yq17 yq18 yq19 : Nat) (C0 : lw_C p s m meth c b 5 xs) {H : Heap} {locs : List Loc} {ls : Array Slot} (hK : va_K D classes (TYS cI cZ) s) (hP : va_P D classes [(xh, .inr (9, [.ref xq1, .int 0, .int (-1), .ref xq2, .ref xq6, .ref xq14, .ref xq22, .ref xq26, .ref xq31, .ref xq35, .int 0, .ref xq36, .int 0, .ref xq41, .ref xq44, .ref xq50, .ref xq59])), (xq6, .inr (8, [.int 0, .int 1, .int 0, .int 0, .int 0, .ref xq9, .ref xq10, .ref xq11, .ref xq12, .ref xq13])), (yh, .inr (10, [.ref yq1, .ref yq2, .int 0, .int 0, .int 1, .int 0, .int 0, .int 0, .ref yq3, .ref yq4, .ref yq5, .ref yq6, .ref yq7, .ref yq8, .int 0, .int 0, .int 0, .int 0, .int 0, .int (-1), .int 0, .int 0, .int 0, .int 0, .int 0, .int 0, .int 0, .ref yq9, .ref yq10, .ref yq11, .ref yq12, .ref yq13, .int 0, .int 0, .int 0, .int 0, .ref yq14, .ref yq15, .ref yq16, .ref yq17, .int 0, .int 0, .int 0, .ref yq18, .ref yq19]))] H) (hD : va_D (lw_A s) [(xh, .inr (9, [.ref xq1, .int 0, .int (-1), .ref xq2, .ref xq6, .ref xq14, .ref xq22, .ref xq26, .ref xq31, .ref xq35, .int 0, .ref xq36, .int 0, .ref xq41, .ref xq44, .ref xq50, .ref xq59])), (xq6, .inr (8, [.int 0, .int 1, .int 0, .int 0, .int 0, .ref xq9, .ref xq10, .ref xq11, .ref xq12, .ref xq13])), (yh, .inr (10, [.ref yq1, .ref yq2, .int 0, .int 0, .int 1, .int 0, .int 0, .int 0, .ref yq3, .ref yq4, .ref yq5, .ref yq6, .ref yq7, .ref yq8, .int 0, .int 0, .int 0, .int 0, .int 0, .int (-1), .int 0, .int 0, .int 0, .int 0, .int 0, .int 0, .int 0, .ref yq9, .ref yq10, .ref yq11, .ref yq12, .ref yq13, .int 0, .int 0, .int 0, .int 0, .ref yq14, .ref yq15, .ref yq16, .ref yq17, .int 0, .int 0, .int 0, .ref yq18, .ref yq19]))]) (hS : va_S (lw_A s) s.heap H locs) (hl : lv_has ls 4 [(0, .ref b), (1, .ref xh), (2, .ref yh), (3, .int 0)]) : W p l e room_1 s m #[Value.ref b] below meth c H locs 60 4269 (lw_Z below #[Value.ref b] s) (F0 m 244 ls []) := by
  have C1 := C0
  obtain ⟨hx, hb, hr, hml, hown, hts, hX, hbl, hlocks, hN⟩ := C0
  have hA : ∀ q, s.heap.size ≤ q → lw_A s q := fun _ h => h
  have hbA : ¬ lw_A s b := Nat.not_le.mpr hbl
  refine lv_aload_n hx hb dL_law_244 rfl (lv_at hl 1 rfl) ?_
  refine lv_aload_n hx hb dL_law_245 rfl (lv_at hl 0 rfl) ?_
  refine lv_iload_n hx hb dL_law_246 rfl (lv_at hl 3 rfl) ?_
  refine lv_iconst (v := 1) hx hb dL_law_247 (by decide) ?_
  refine lv_iadd hx hb dL_law_248 ?_
  refine lv_topi (fun z_1 ez_1 => ?_)
  obtain rfl : z_1 = 1 := ez_1.trans (by decide +kernel)
  refine va_sld hx hb hX hbl hbA hS (show ¬ ((1 : Int32) < 0 ∨ 5 ≤ (1 : Int32).toNatClampNeg) by decide +kernel) dL_law_249 ?_
  refine lv_aload_n hx hb dL_law_250 rfl (lv_at hl 0 rfl) ?_
  refine lv_iload_n hx hb dL_law_251 rfl (lv_at hl 3 rfl) ?_
  refine lv_iconst (v := 2) hx hb dL_law_252 (by decide) ?_
  refine lv_iadd hx hb dL_law_253 ?_
  refine lv_topi (fun z_2 ez_2 => ?_)
  obtain rfl : z_2 = 2 := ez_2.trans (by decide +kernel)
  refine va_sld hx hb hX hbl hbA hS (show ¬ ((2 : Int32) < 0 ∨ 5 ≤ (2 : Int32).toNatClampNeg) by decide +kernel) dL_law_254 ?_
  refine cVi (wr := [(yh, .inr (10, [.ref yq1, .ref yq2, .int 0, .int 0, .int 1, .int 0, .int 0, .int 0, .ref yq3, .ref yq4, .ref yq5, .ref yq6, .ref yq7, .ref yq8, .int 0, .int 0, .int 0, .int 0, .int 0, .int (-1), .int 0, .int 0, .int 0, .int 0, .int 0, .int 0, .int 0, .ref yq9, .ref yq10, .ref yq11, .ref yq12, .ref yq13, .int 0, .int 0, .int 0, .int 0, .ref yq14, .ref yq15, .ref yq16, .ref yq17, .int 0, .int 0, .int 0, .ref yq18, .ref yq19]))]) (rest := []) (k_x_bridge xh xq1 xq2 xq6 xq14 xq22 xq26 xq31 xq35 xq36 xq41 xq44 xq50 xq59 xq9 xq10 xq11 xq12 xq13 (xs (1 : Int32).toNatClampNeg) (xs (2 : Int32).toNatClampNeg)) okV_X9_bridge wd_400 hx hb hml hown hts hK hP hD hS hA hN hl.1 [0, 1] [2] rfl rfl rfl rfl (by decide) rfl rfl rfl (Nat.le_of_ble_eq_true rfl) (Nat.le_of_ble_eq_true rfl) (Nat.le_of_ble_eq_true rfl) (Nat.le_of_ble_eq_true rfl) (Nat.le_of_ble_eq_true rfl) dL_law_255 (fun r_4 u_3 H locs hw_u_3 hP hD hS => ?_)
  obtain rfl := hw_u_3
  have hP : va_P D classes [(yh, .inr (10, [.ref yq1, .ref yq2, .int 0, .int 0, .int 1, .int 0, .int 0, .int 0, .ref yq3, .ref yq4, .ref yq5, .ref yq6, .ref yq7, .ref yq8, .int 0, .int 0, .int 0, .int 0, .int 0, .int (-1), .int 0, .int 0, .int 0, .int 0, .int 0, .int 0, .int 0, .ref yq9, .ref yq10, .ref yq11, .ref yq12, .ref yq13, .int 0, .int 0, .int 0, .int 0, .ref yq14, .ref yq15, .ref yq16, .ref yq17, .int 0, .int 0, .int 0, .ref yq18, .ref yq19]))] H := hP
  have hD : va_D (lw_A s) [(yh, .inr (10, [.ref yq1, .ref yq2, .int 0, .int 0, .int 1, .int 0, .int 0, .int 0, .ref yq3, .ref yq4, .ref yq5, .ref yq6, .ref yq7, .ref yq8, .int 0, .int 0, .int 0, .int 0, .int 0, .int (-1), .int 0, .int 0, .int 0, .int 0, .int 0, .int 0, .int 0, .ref yq9, .ref yq10, .ref yq11, .ref yq12, .ref yq13, .int 0, .int 0, .int 0, .int 0, .ref yq14, .ref yq15, .ref yq16, .ref yq17, .int 0, .int 0, .int 0, .ref yq18, .ref yq19]))] := hD
  refine lv_aload_n hx hb dL_law_258 rfl (lv_at hl 2 rfl) ?_
  refine lv_aload_n hx hb dL_law_259 rfl (lv_at hl 0 rfl) ?_
  refine lv_iload_n hx hb dL_law_260 rfl (lv_at hl 3 rfl) ?_
  refine lv_iconst (v := 1) hx hb dL_law_261 (by decide) ?_
  refine lv_iadd hx hb dL_law_262 ?_
  refine lv_topi (fun z_5 ez_5 => ?_)
  obtain rfl : z_5 = 1 := ez_5.trans (by decide +kernel)
  refine va_sld hx hb hX hbl hbA hS (show ¬ ((1 : Int32) < 0 ∨ 5 ≤ (1 : Int32).toNatClampNeg) by decide +kernel) dL_law_263 ?_
  refine lv_aload_n hx hb dL_law_264 rfl (lv_at hl 0 rfl) ?_
  refine lv_iload_n hx hb dL_law_265 rfl (lv_at hl 3 rfl) ?_
  refine lv_iconst (v := 2) hx hb dL_law_266 (by decide) ?_
  refine lv_iadd hx hb dL_law_267 ?_
  refine lv_topi (fun z_6 ez_6 => ?_)
  obtain rfl : z_6 = 2 := ez_6.trans (by decide +kernel)
  refine va_sld hx hb hX hbl hbA hS (show ¬ ((2 : Int32) < 0 ∨ 5 ≤ (2 : Int32).toNatClampNeg) by decide +kernel) dL_law_268 ?_
  refine cVi (wr := []) (rest := [.int ((-1000000001))]) (k_m_bridge yh yq1 yq2 yq3 yq4 yq5 yq6 yq7 yq8 yq9 yq10 yq11 yq12 yq13 yq14 yq15 yq16 yq17 yq18 yq19 (xs (1 : Int32).toNatClampNeg) (xs (2 : Int32).toNatClampNeg)) okV_X10_bridge wd_404 hx hb hml hown hts hK hP hD hS hA hN hl.1 [0] [] rfl rfl rfl rfl (by decide) rfl rfl rfl (Nat.le_of_ble_eq_true rfl) (Nat.le_of_ble_eq_true rfl) (Nat.le_of_ble_eq_true rfl) (Nat.le_of_ble_eq_true rfl) (Nat.le_of_ble_eq_true rfl) dL_law_269 (fun r_8 u_7 H locs hw_u_7 hP hD hS => ?_)
  obtain rfl := hw_u_7
  have hP : va_P D classes [] H := hP
  have hD : va_D (lw_A s) [] := hD
  refine lv_icmp_eq (tgt := 1015) hx hb dL_law_272 (by decide) (fun c_9 => ?_) (fun c_9 => absurd rfl c_9)
  exact law_tail C1 hS hl
set_option maxHeartbeats 4000000 in
set_option maxRecDepth 100000 in
theorem law_couple {p : Program} {l : Launch} {e : Env} {s : State} {m : MethodId} {below : List Frame} {meth : Method} {c : Code} {D : va_G} {cI cZ : ClassId} {b : Nat} {xs : Nat → Int32} (xh xq1 xq2 xq6 xq14 xq22 xq26 xq31 xq35 xq36 xq41 xq44 xq50 xq59 xq9 xq10 xq11 xq12 xq13 yh yq1 yq2 yq3 yq4 yq5 yq6 yq7 yq8 yq9 yq10 yq11 yq12 yq13 yq14 yq15 yq16 yq17 yq18 yq19 : Nat) (C0 : lw_C p s m meth c b 5 xs) {H : Heap} {locs : List Loc} {ls : Array Slot} (hK : va_K D classes (TYS cI cZ) s) (hP : va_P D classes [(xh, .inr (9, [.ref xq1, .int 0, .int (-1), .ref xq2, .ref xq6, .ref xq14, .ref xq22, .ref xq26, .ref xq31, .ref xq35, .int 0, .ref xq36, .int 0, .ref xq41, .ref xq44, .ref xq50, .ref xq59])), (xq6, .inr (8, [.int 0, .int 1, .int 0, .int 0, .int 0, .ref xq9, .ref xq10, .ref xq11, .ref xq12, .ref xq13])), (yh, .inr (10, [.ref yq1, .ref yq2, .int 0, .int 0, .int 1, .int 0, .int 0, .int 0, .ref yq3, .ref yq4, .ref yq5, .ref yq6, .ref yq7, .ref yq8, .int 0, .int 0, .int 0, .int 0, .int 0, .int (-1), .int 0, .int 0, .int 0, .int 0, .int 0, .int 0, .int 0, .ref yq9, .ref yq10, .ref yq11, .ref yq12, .ref yq13, .int 0, .int 0, .int 0, .int 0, .ref yq14, .ref yq15, .ref yq16, .ref yq17, .int 0, .int 0, .int 0, .ref yq18, .ref yq19]))] H) (hD : va_D (lw_A s) [(xh, .inr (9, [.ref xq1, .int 0, .int (-1), .ref xq2, .ref xq6, .ref xq14, .ref xq22, .ref xq26, .ref xq31, .ref xq35, .int 0, .ref xq36, .int 0, .ref xq41, .ref xq44, .ref xq50, .ref xq59])), (xq6, .inr (8, [.int 0, .int 1, .int 0, .int 0, .int 0, .ref xq9, .ref xq10, .ref xq11, .ref xq12, .ref xq13])), (yh, .inr (10, [.ref yq1, .ref yq2, .int 0, .int 0, .int 1, .int 0, .int 0, .int 0, .ref yq3, .ref yq4, .ref yq5, .ref yq6, .ref yq7, .ref yq8, .int 0, .int 0, .int 0, .int 0, .int 0, .int (-1), .int 0, .int 0, .int 0, .int 0, .int 0, .int 0, .int 0, .ref yq9, .ref yq10, .ref yq11, .ref yq12, .ref yq13, .int 0, .int 0, .int 0, .int 0, .ref yq14, .ref yq15, .ref yq16, .ref yq17, .int 0, .int 0, .int 0, .ref yq18, .ref yq19]))]) (hS : va_S (lw_A s) s.heap H locs) (hl : lv_has ls 4 [(0, .ref b), (1, .ref xh), (2, .ref yh), (3, .int 0)]) : W p l e room_1 s m #[Value.ref b] below meth c H locs 60 4269 (lw_Z below #[Value.ref b] s) (F0 m 277 ls []) := by
  have C1 := C0
  obtain ⟨hx, hb, hr, hml, hown, hts, hX, hbl, hlocks, hN⟩ := C0
  have hA : ∀ q, s.heap.size ≤ q → lw_A s q := fun _ h => h
  have hbA : ¬ lw_A s b := Nat.not_le.mpr hbl
  refine lv_aload_n hx hb dL_law_277 rfl (lv_at hl 1 rfl) ?_
  refine lv_aload_n hx hb dL_law_278 rfl (lv_at hl 0 rfl) ?_
  refine lv_iload_n hx hb dL_law_279 rfl (lv_at hl 3 rfl) ?_
  refine lv_iconst (v := 1) hx hb dL_law_280 (by decide) ?_
  refine lv_iadd hx hb dL_law_281 ?_
  refine lv_topi (fun z_1 ez_1 => ?_)
  obtain rfl : z_1 = 1 := ez_1.trans (by decide +kernel)
  refine va_sld hx hb hX hbl hbA hS (show ¬ ((1 : Int32) < 0 ∨ 5 ≤ (1 : Int32).toNatClampNeg) by decide +kernel) dL_law_282 ?_
  refine lv_aload_n hx hb dL_law_283 rfl (lv_at hl 0 rfl) ?_
  refine lv_iload_n hx hb dL_law_284 rfl (lv_at hl 3 rfl) ?_
  refine lv_iconst (v := 2) hx hb dL_law_285 (by decide) ?_
  refine lv_iadd hx hb dL_law_286 ?_
  refine lv_topi (fun z_2 ez_2 => ?_)
  obtain rfl : z_2 = 2 := ez_2.trans (by decide +kernel)
  refine va_sld hx hb hX hbl hbA hS (show ¬ ((2 : Int32) < 0 ∨ 5 ≤ (2 : Int32).toNatClampNeg) by decide +kernel) dL_law_287 ?_
  refine cVi (wr := [(yh, .inr (10, [.ref yq1, .ref yq2, .int 0, .int 0, .int 1, .int 0, .int 0, .int 0, .ref yq3, .ref yq4, .ref yq5, .ref yq6, .ref yq7, .ref yq8, .int 0, .int 0, .int 0, .int 0, .int 0, .int (-1), .int 0, .int 0, .int 0, .int 0, .int 0, .int 0, .int 0, .ref yq9, .ref yq10, .ref yq11, .ref yq12, .ref yq13, .int 0, .int 0, .int 0, .int 0, .ref yq14, .ref yq15, .ref yq16, .ref yq17, .int 0, .int 0, .int 0, .ref yq18, .ref yq19]))]) (rest := []) (k_x_couple xh xq1 xq2 xq6 xq14 xq22 xq26 xq31 xq35 xq36 xq41 xq44 xq50 xq59 xq9 xq10 xq11 xq12 xq13 (xs (1 : Int32).toNatClampNeg) (xs (2 : Int32).toNatClampNeg)) okV_X9_couple wd_408 hx hb hml hown hts hK hP hD hS hA hN hl.1 [0, 1] [2] rfl rfl rfl rfl (by decide) rfl rfl rfl (Nat.le_of_ble_eq_true rfl) (Nat.le_of_ble_eq_true rfl) (Nat.le_of_ble_eq_true rfl) (Nat.le_of_ble_eq_true rfl) (Nat.le_of_ble_eq_true rfl) dL_law_288 (fun r_4 u_3 H locs hw_u_3 hP hD hS => ?_)
  obtain rfl := hw_u_3
  have hP : va_P D classes [(yh, .inr (10, [.ref yq1, .ref yq2, .int 0, .int 0, .int 1, .int 0, .int 0, .int 0, .ref yq3, .ref yq4, .ref yq5, .ref yq6, .ref yq7, .ref yq8, .int 0, .int 0, .int 0, .int 0, .int 0, .int (-1), .int 0, .int 0, .int 0, .int 0, .int 0, .int 0, .int 0, .ref yq9, .ref yq10, .ref yq11, .ref yq12, .ref yq13, .int 0, .int 0, .int 0, .int 0, .ref yq14, .ref yq15, .ref yq16, .ref yq17, .int 0, .int 0, .int 0, .ref yq18, .ref yq19]))] H := hP
  have hD : va_D (lw_A s) [(yh, .inr (10, [.ref yq1, .ref yq2, .int 0, .int 0, .int 1, .int 0, .int 0, .int 0, .ref yq3, .ref yq4, .ref yq5, .ref yq6, .ref yq7, .ref yq8, .int 0, .int 0, .int 0, .int 0, .int 0, .int (-1), .int 0, .int 0, .int 0, .int 0, .int 0, .int 0, .int 0, .ref yq9, .ref yq10, .ref yq11, .ref yq12, .ref yq13, .int 0, .int 0, .int 0, .int 0, .ref yq14, .ref yq15, .ref yq16, .ref yq17, .int 0, .int 0, .int 0, .ref yq18, .ref yq19]))] := hD
  refine lv_aload_n hx hb dL_law_291 rfl (lv_at hl 2 rfl) ?_
  refine lv_aload_n hx hb dL_law_292 rfl (lv_at hl 0 rfl) ?_
  refine lv_iload_n hx hb dL_law_293 rfl (lv_at hl 3 rfl) ?_
  refine lv_iconst (v := 1) hx hb dL_law_294 (by decide) ?_
  refine lv_iadd hx hb dL_law_295 ?_
  refine lv_topi (fun z_5 ez_5 => ?_)
  obtain rfl : z_5 = 1 := ez_5.trans (by decide +kernel)
  refine va_sld hx hb hX hbl hbA hS (show ¬ ((1 : Int32) < 0 ∨ 5 ≤ (1 : Int32).toNatClampNeg) by decide +kernel) dL_law_296 ?_
  refine lv_aload_n hx hb dL_law_297 rfl (lv_at hl 0 rfl) ?_
  refine lv_iload_n hx hb dL_law_298 rfl (lv_at hl 3 rfl) ?_
  refine lv_iconst (v := 2) hx hb dL_law_299 (by decide) ?_
  refine lv_iadd hx hb dL_law_300 ?_
  refine lv_topi (fun z_6 ez_6 => ?_)
  obtain rfl : z_6 = 2 := ez_6.trans (by decide +kernel)
  refine va_sld hx hb hX hbl hbA hS (show ¬ ((2 : Int32) < 0 ∨ 5 ≤ (2 : Int32).toNatClampNeg) by decide +kernel) dL_law_301 ?_
  refine cVi (wr := []) (rest := [.int ((-1000000001))]) (k_m_couple yh yq1 yq2 yq3 yq4 yq5 yq6 yq7 yq8 yq9 yq10 yq11 yq12 yq13 yq14 yq15 yq16 yq17 yq18 yq19 (xs (1 : Int32).toNatClampNeg) (xs (2 : Int32).toNatClampNeg)) okV_X10_couple wd_412 hx hb hml hown hts hK hP hD hS hA hN hl.1 [0] [] rfl rfl rfl rfl (by decide) rfl rfl rfl (Nat.le_of_ble_eq_true rfl) (Nat.le_of_ble_eq_true rfl) (Nat.le_of_ble_eq_true rfl) (Nat.le_of_ble_eq_true rfl) (Nat.le_of_ble_eq_true rfl) dL_law_302 (fun r_8 u_7 H locs hw_u_7 hP hD hS => ?_)
  obtain rfl := hw_u_7
  have hP : va_P D classes [] H := hP
  have hD : va_D (lw_A s) [] := hD
  refine lv_icmp_eq (tgt := 1015) hx hb dL_law_305 (by decide) (fun c_9 => ?_) (fun c_9 => absurd rfl c_9)
  exact law_tail C1 hS hl
set_option maxHeartbeats 4000000 in
set_option maxRecDepth 100000 in
theorem law_force {p : Program} {l : Launch} {e : Env} {s : State} {m : MethodId} {below : List Frame} {meth : Method} {c : Code} {D : va_G} {cI cZ : ClassId} {b : Nat} {xs : Nat → Int32} (xh xq1 xq2 xq6 xq14 xq22 xq26 xq31 xq35 xq36 xq41 xq44 xq50 xq59 xq9 xq10 xq11 xq12 xq13 yh yq1 yq2 yq3 yq4 yq5 yq6 yq7 yq8 yq9 yq10 yq11 yq12 yq13 yq14 yq15 yq16 yq17 yq18 yq19 : Nat) (C0 : lw_C p s m meth c b 5 xs) {H : Heap} {locs : List Loc} {ls : Array Slot} (hK : va_K D classes (TYS cI cZ) s) (hP : va_P D classes [(xh, .inr (9, [.ref xq1, .int 0, .int (-1), .ref xq2, .ref xq6, .ref xq14, .ref xq22, .ref xq26, .ref xq31, .ref xq35, .int 0, .ref xq36, .int 0, .ref xq41, .ref xq44, .ref xq50, .ref xq59])), (xq6, .inr (8, [.int 0, .int 1, .int 0, .int 0, .int 0, .ref xq9, .ref xq10, .ref xq11, .ref xq12, .ref xq13])), (yh, .inr (10, [.ref yq1, .ref yq2, .int 0, .int 0, .int 1, .int 0, .int 0, .int 0, .ref yq3, .ref yq4, .ref yq5, .ref yq6, .ref yq7, .ref yq8, .int 0, .int 0, .int 0, .int 0, .int 0, .int (-1), .int 0, .int 0, .int 0, .int 0, .int 0, .int 0, .int 0, .ref yq9, .ref yq10, .ref yq11, .ref yq12, .ref yq13, .int 0, .int 0, .int 0, .int 0, .ref yq14, .ref yq15, .ref yq16, .ref yq17, .int 0, .int 0, .int 0, .ref yq18, .ref yq19]))] H) (hD : va_D (lw_A s) [(xh, .inr (9, [.ref xq1, .int 0, .int (-1), .ref xq2, .ref xq6, .ref xq14, .ref xq22, .ref xq26, .ref xq31, .ref xq35, .int 0, .ref xq36, .int 0, .ref xq41, .ref xq44, .ref xq50, .ref xq59])), (xq6, .inr (8, [.int 0, .int 1, .int 0, .int 0, .int 0, .ref xq9, .ref xq10, .ref xq11, .ref xq12, .ref xq13])), (yh, .inr (10, [.ref yq1, .ref yq2, .int 0, .int 0, .int 1, .int 0, .int 0, .int 0, .ref yq3, .ref yq4, .ref yq5, .ref yq6, .ref yq7, .ref yq8, .int 0, .int 0, .int 0, .int 0, .int 0, .int (-1), .int 0, .int 0, .int 0, .int 0, .int 0, .int 0, .int 0, .ref yq9, .ref yq10, .ref yq11, .ref yq12, .ref yq13, .int 0, .int 0, .int 0, .int 0, .ref yq14, .ref yq15, .ref yq16, .ref yq17, .int 0, .int 0, .int 0, .ref yq18, .ref yq19]))]) (hS : va_S (lw_A s) s.heap H locs) (hl : lv_has ls 4 [(0, .ref b), (1, .ref xh), (2, .ref yh), (3, .int 0)]) : W p l e room_1 s m #[Value.ref b] below meth c H locs 60 4269 (lw_Z below #[Value.ref b] s) (F0 m 310 ls []) := by
  have C1 := C0
  obtain ⟨hx, hb, hr, hml, hown, hts, hX, hbl, hlocks, hN⟩ := C0
  have hA : ∀ q, s.heap.size ≤ q → lw_A s q := fun _ h => h
  have hbA : ¬ lw_A s b := Nat.not_le.mpr hbl
  refine lv_aload_n hx hb dL_law_310 rfl (lv_at hl 1 rfl) ?_
  refine lv_aload_n hx hb dL_law_311 rfl (lv_at hl 0 rfl) ?_
  refine lv_iload_n hx hb dL_law_312 rfl (lv_at hl 3 rfl) ?_
  refine lv_iconst (v := 1) hx hb dL_law_313 (by decide) ?_
  refine lv_iadd hx hb dL_law_314 ?_
  refine lv_topi (fun z_1 ez_1 => ?_)
  obtain rfl : z_1 = 1 := ez_1.trans (by decide +kernel)
  refine va_sld hx hb hX hbl hbA hS (show ¬ ((1 : Int32) < 0 ∨ 5 ≤ (1 : Int32).toNatClampNeg) by decide +kernel) dL_law_315 ?_
  refine lv_aload_n hx hb dL_law_316 rfl (lv_at hl 0 rfl) ?_
  refine lv_iload_n hx hb dL_law_317 rfl (lv_at hl 3 rfl) ?_
  refine lv_iconst (v := 2) hx hb dL_law_318 (by decide) ?_
  refine lv_iadd hx hb dL_law_319 ?_
  refine lv_topi (fun z_2 ez_2 => ?_)
  obtain rfl : z_2 = 2 := ez_2.trans (by decide +kernel)
  refine va_sld hx hb hX hbl hbA hS (show ¬ ((2 : Int32) < 0 ∨ 5 ≤ (2 : Int32).toNatClampNeg) by decide +kernel) dL_law_320 ?_
  refine cVi (wr := [(yh, .inr (10, [.ref yq1, .ref yq2, .int 0, .int 0, .int 1, .int 0, .int 0, .int 0, .ref yq3, .ref yq4, .ref yq5, .ref yq6, .ref yq7, .ref yq8, .int 0, .int 0, .int 0, .int 0, .int 0, .int (-1), .int 0, .int 0, .int 0, .int 0, .int 0, .int 0, .int 0, .ref yq9, .ref yq10, .ref yq11, .ref yq12, .ref yq13, .int 0, .int 0, .int 0, .int 0, .ref yq14, .ref yq15, .ref yq16, .ref yq17, .int 0, .int 0, .int 0, .ref yq18, .ref yq19]))]) (rest := []) (k_x_force xh xq1 xq2 xq6 xq14 xq22 xq26 xq31 xq35 xq36 xq41 xq44 xq50 xq59 xq9 xq10 xq11 xq12 xq13 (xs (1 : Int32).toNatClampNeg) (xs (2 : Int32).toNatClampNeg)) okV_X9_force wd_416 hx hb hml hown hts hK hP hD hS hA hN hl.1 [0, 1] [2] rfl rfl rfl rfl (by decide) rfl rfl rfl (Nat.le_of_ble_eq_true rfl) (Nat.le_of_ble_eq_true rfl) (Nat.le_of_ble_eq_true rfl) (Nat.le_of_ble_eq_true rfl) (Nat.le_of_ble_eq_true rfl) dL_law_321 (fun r_4 u_3 H locs hw_u_3 hP hD hS => ?_)
  obtain rfl := hw_u_3
  have hP : va_P D classes [(yh, .inr (10, [.ref yq1, .ref yq2, .int 0, .int 0, .int 1, .int 0, .int 0, .int 0, .ref yq3, .ref yq4, .ref yq5, .ref yq6, .ref yq7, .ref yq8, .int 0, .int 0, .int 0, .int 0, .int 0, .int (-1), .int 0, .int 0, .int 0, .int 0, .int 0, .int 0, .int 0, .ref yq9, .ref yq10, .ref yq11, .ref yq12, .ref yq13, .int 0, .int 0, .int 0, .int 0, .ref yq14, .ref yq15, .ref yq16, .ref yq17, .int 0, .int 0, .int 0, .ref yq18, .ref yq19]))] H := hP
  have hD : va_D (lw_A s) [(yh, .inr (10, [.ref yq1, .ref yq2, .int 0, .int 0, .int 1, .int 0, .int 0, .int 0, .ref yq3, .ref yq4, .ref yq5, .ref yq6, .ref yq7, .ref yq8, .int 0, .int 0, .int 0, .int 0, .int 0, .int (-1), .int 0, .int 0, .int 0, .int 0, .int 0, .int 0, .int 0, .ref yq9, .ref yq10, .ref yq11, .ref yq12, .ref yq13, .int 0, .int 0, .int 0, .int 0, .ref yq14, .ref yq15, .ref yq16, .ref yq17, .int 0, .int 0, .int 0, .ref yq18, .ref yq19]))] := hD
  refine lv_aload_n hx hb dL_law_324 rfl (lv_at hl 2 rfl) ?_
  refine lv_aload_n hx hb dL_law_325 rfl (lv_at hl 0 rfl) ?_
  refine lv_iload_n hx hb dL_law_326 rfl (lv_at hl 3 rfl) ?_
  refine lv_iconst (v := 1) hx hb dL_law_327 (by decide) ?_
  refine lv_iadd hx hb dL_law_328 ?_
  refine lv_topi (fun z_5 ez_5 => ?_)
  obtain rfl : z_5 = 1 := ez_5.trans (by decide +kernel)
  refine va_sld hx hb hX hbl hbA hS (show ¬ ((1 : Int32) < 0 ∨ 5 ≤ (1 : Int32).toNatClampNeg) by decide +kernel) dL_law_329 ?_
  refine lv_aload_n hx hb dL_law_330 rfl (lv_at hl 0 rfl) ?_
  refine lv_iload_n hx hb dL_law_331 rfl (lv_at hl 3 rfl) ?_
  refine lv_iconst (v := 2) hx hb dL_law_332 (by decide) ?_
  refine lv_iadd hx hb dL_law_333 ?_
  refine lv_topi (fun z_6 ez_6 => ?_)
  obtain rfl : z_6 = 2 := ez_6.trans (by decide +kernel)
  refine va_sld hx hb hX hbl hbA hS (show ¬ ((2 : Int32) < 0 ∨ 5 ≤ (2 : Int32).toNatClampNeg) by decide +kernel) dL_law_334 ?_
  refine cVi (wr := []) (rest := [.int ((-1000000001))]) (k_m_force yh yq1 yq2 yq3 yq4 yq5 yq6 yq7 yq8 yq9 yq10 yq11 yq12 yq13 yq14 yq15 yq16 yq17 yq18 yq19 (xs (1 : Int32).toNatClampNeg) (xs (2 : Int32).toNatClampNeg)) okV_X10_force wd_420 hx hb hml hown hts hK hP hD hS hA hN hl.1 [0] [] rfl rfl rfl rfl (by decide) rfl rfl rfl (Nat.le_of_ble_eq_true rfl) (Nat.le_of_ble_eq_true rfl) (Nat.le_of_ble_eq_true rfl) (Nat.le_of_ble_eq_true rfl) (Nat.le_of_ble_eq_true rfl) dL_law_335 (fun r_8 u_7 H locs hw_u_7 hP hD hS => ?_)
  obtain rfl := hw_u_7
  have hP : va_P D classes [] H := hP
  have hD : va_D (lw_A s) [] := hD
  refine lv_icmp_eq (tgt := 1015) hx hb dL_law_338 (by decide) (fun c_9 => ?_) (fun c_9 => absurd rfl c_9)
  exact law_tail C1 hS hl
set_option maxHeartbeats 4000000 in
set_option maxRecDepth 100000 in
theorem law_barge {p : Program} {l : Launch} {e : Env} {s : State} {m : MethodId} {below : List Frame} {meth : Method} {c : Code} {D : va_G} {cI cZ : ClassId} {b : Nat} {xs : Nat → Int32} (xh xq1 xq2 xq6 xq14 xq22 xq26 xq31 xq35 xq36 xq41 xq44 xq50 xq59 xq9 xq10 xq11 xq12 xq13 yh yq1 yq2 yq3 yq4 yq5 yq6 yq7 yq8 yq9 yq10 yq11 yq12 yq13 yq14 yq15 yq16 yq17 yq18 yq19 : Nat) (C0 : lw_C p s m meth c b 5 xs) {H : Heap} {locs : List Loc} {ls : Array Slot} (hK : va_K D classes (TYS cI cZ) s) (hP : va_P D classes [(xh, .inr (9, [.ref xq1, .int 0, .int (-1), .ref xq2, .ref xq6, .ref xq14, .ref xq22, .ref xq26, .ref xq31, .ref xq35, .int 0, .ref xq36, .int 0, .ref xq41, .ref xq44, .ref xq50, .ref xq59])), (xq6, .inr (8, [.int 0, .int 1, .int 0, .int 0, .int 0, .ref xq9, .ref xq10, .ref xq11, .ref xq12, .ref xq13])), (yh, .inr (10, [.ref yq1, .ref yq2, .int 0, .int 0, .int 1, .int 0, .int 0, .int 0, .ref yq3, .ref yq4, .ref yq5, .ref yq6, .ref yq7, .ref yq8, .int 0, .int 0, .int 0, .int 0, .int 0, .int (-1), .int 0, .int 0, .int 0, .int 0, .int 0, .int 0, .int 0, .ref yq9, .ref yq10, .ref yq11, .ref yq12, .ref yq13, .int 0, .int 0, .int 0, .int 0, .ref yq14, .ref yq15, .ref yq16, .ref yq17, .int 0, .int 0, .int 0, .ref yq18, .ref yq19]))] H) (hD : va_D (lw_A s) [(xh, .inr (9, [.ref xq1, .int 0, .int (-1), .ref xq2, .ref xq6, .ref xq14, .ref xq22, .ref xq26, .ref xq31, .ref xq35, .int 0, .ref xq36, .int 0, .ref xq41, .ref xq44, .ref xq50, .ref xq59])), (xq6, .inr (8, [.int 0, .int 1, .int 0, .int 0, .int 0, .ref xq9, .ref xq10, .ref xq11, .ref xq12, .ref xq13])), (yh, .inr (10, [.ref yq1, .ref yq2, .int 0, .int 0, .int 1, .int 0, .int 0, .int 0, .ref yq3, .ref yq4, .ref yq5, .ref yq6, .ref yq7, .ref yq8, .int 0, .int 0, .int 0, .int 0, .int 0, .int (-1), .int 0, .int 0, .int 0, .int 0, .int 0, .int 0, .int 0, .ref yq9, .ref yq10, .ref yq11, .ref yq12, .ref yq13, .int 0, .int 0, .int 0, .int 0, .ref yq14, .ref yq15, .ref yq16, .ref yq17, .int 0, .int 0, .int 0, .ref yq18, .ref yq19]))]) (hS : va_S (lw_A s) s.heap H locs) (hl : lv_has ls 4 [(0, .ref b), (1, .ref xh), (2, .ref yh), (3, .int 0)]) : W p l e room_1 s m #[Value.ref b] below meth c H locs 60 4269 (lw_Z below #[Value.ref b] s) (F0 m 343 ls []) := by
  have C1 := C0
  obtain ⟨hx, hb, hr, hml, hown, hts, hX, hbl, hlocks, hN⟩ := C0
  have hA : ∀ q, s.heap.size ≤ q → lw_A s q := fun _ h => h
  have hbA : ¬ lw_A s b := Nat.not_le.mpr hbl
  refine lv_aload_n hx hb dL_law_343 rfl (lv_at hl 1 rfl) ?_
  refine lv_aload_n hx hb dL_law_344 rfl (lv_at hl 0 rfl) ?_
  refine lv_iload_n hx hb dL_law_345 rfl (lv_at hl 3 rfl) ?_
  refine lv_iconst (v := 1) hx hb dL_law_346 (by decide) ?_
  refine lv_iadd hx hb dL_law_347 ?_
  refine lv_topi (fun z_1 ez_1 => ?_)
  obtain rfl : z_1 = 1 := ez_1.trans (by decide +kernel)
  refine va_sld hx hb hX hbl hbA hS (show ¬ ((1 : Int32) < 0 ∨ 5 ≤ (1 : Int32).toNatClampNeg) by decide +kernel) dL_law_348 ?_
  refine lv_aload_n hx hb dL_law_349 rfl (lv_at hl 0 rfl) ?_
  refine lv_iload_n hx hb dL_law_350 rfl (lv_at hl 3 rfl) ?_
  refine lv_iconst (v := 2) hx hb dL_law_351 (by decide) ?_
  refine lv_iadd hx hb dL_law_352 ?_
  refine lv_topi (fun z_2 ez_2 => ?_)
  obtain rfl : z_2 = 2 := ez_2.trans (by decide +kernel)
  refine va_sld hx hb hX hbl hbA hS (show ¬ ((2 : Int32) < 0 ∨ 5 ≤ (2 : Int32).toNatClampNeg) by decide +kernel) dL_law_353 ?_
  refine cVi (wr := [(yh, .inr (10, [.ref yq1, .ref yq2, .int 0, .int 0, .int 1, .int 0, .int 0, .int 0, .ref yq3, .ref yq4, .ref yq5, .ref yq6, .ref yq7, .ref yq8, .int 0, .int 0, .int 0, .int 0, .int 0, .int (-1), .int 0, .int 0, .int 0, .int 0, .int 0, .int 0, .int 0, .ref yq9, .ref yq10, .ref yq11, .ref yq12, .ref yq13, .int 0, .int 0, .int 0, .int 0, .ref yq14, .ref yq15, .ref yq16, .ref yq17, .int 0, .int 0, .int 0, .ref yq18, .ref yq19]))]) (rest := []) (k_x_barge xh xq1 xq2 xq6 xq14 xq22 xq26 xq31 xq35 xq36 xq41 xq44 xq50 xq59 xq9 xq10 xq11 xq12 xq13 (xs (1 : Int32).toNatClampNeg) (xs (2 : Int32).toNatClampNeg)) okV_X9_barge wd_424 hx hb hml hown hts hK hP hD hS hA hN hl.1 [0, 1] [2] rfl rfl rfl rfl (by decide) rfl rfl rfl (Nat.le_of_ble_eq_true rfl) (Nat.le_of_ble_eq_true rfl) (Nat.le_of_ble_eq_true rfl) (Nat.le_of_ble_eq_true rfl) (Nat.le_of_ble_eq_true rfl) dL_law_354 (fun r_4 u_3 H locs hw_u_3 hP hD hS => ?_)
  obtain rfl := hw_u_3
  have hP : va_P D classes [(yh, .inr (10, [.ref yq1, .ref yq2, .int 0, .int 0, .int 1, .int 0, .int 0, .int 0, .ref yq3, .ref yq4, .ref yq5, .ref yq6, .ref yq7, .ref yq8, .int 0, .int 0, .int 0, .int 0, .int 0, .int (-1), .int 0, .int 0, .int 0, .int 0, .int 0, .int 0, .int 0, .ref yq9, .ref yq10, .ref yq11, .ref yq12, .ref yq13, .int 0, .int 0, .int 0, .int 0, .ref yq14, .ref yq15, .ref yq16, .ref yq17, .int 0, .int 0, .int 0, .ref yq18, .ref yq19]))] H := hP
  have hD : va_D (lw_A s) [(yh, .inr (10, [.ref yq1, .ref yq2, .int 0, .int 0, .int 1, .int 0, .int 0, .int 0, .ref yq3, .ref yq4, .ref yq5, .ref yq6, .ref yq7, .ref yq8, .int 0, .int 0, .int 0, .int 0, .int 0, .int (-1), .int 0, .int 0, .int 0, .int 0, .int 0, .int 0, .int 0, .ref yq9, .ref yq10, .ref yq11, .ref yq12, .ref yq13, .int 0, .int 0, .int 0, .int 0, .ref yq14, .ref yq15, .ref yq16, .ref yq17, .int 0, .int 0, .int 0, .ref yq18, .ref yq19]))] := hD
  refine lv_aload_n hx hb dL_law_357 rfl (lv_at hl 2 rfl) ?_
  refine lv_aload_n hx hb dL_law_358 rfl (lv_at hl 0 rfl) ?_
  refine lv_iload_n hx hb dL_law_359 rfl (lv_at hl 3 rfl) ?_
  refine lv_iconst (v := 1) hx hb dL_law_360 (by decide) ?_
  refine lv_iadd hx hb dL_law_361 ?_
  refine lv_topi (fun z_5 ez_5 => ?_)
  obtain rfl : z_5 = 1 := ez_5.trans (by decide +kernel)
  refine va_sld hx hb hX hbl hbA hS (show ¬ ((1 : Int32) < 0 ∨ 5 ≤ (1 : Int32).toNatClampNeg) by decide +kernel) dL_law_362 ?_
  refine lv_aload_n hx hb dL_law_363 rfl (lv_at hl 0 rfl) ?_
  refine lv_iload_n hx hb dL_law_364 rfl (lv_at hl 3 rfl) ?_
  refine lv_iconst (v := 2) hx hb dL_law_365 (by decide) ?_
  refine lv_iadd hx hb dL_law_366 ?_
  refine lv_topi (fun z_6 ez_6 => ?_)
  obtain rfl : z_6 = 2 := ez_6.trans (by decide +kernel)
  refine va_sld hx hb hX hbl hbA hS (show ¬ ((2 : Int32) < 0 ∨ 5 ≤ (2 : Int32).toNatClampNeg) by decide +kernel) dL_law_367 ?_
  refine cVi (wr := []) (rest := [.int ((-1000000001))]) (k_m_barge yh yq1 yq2 yq3 yq4 yq5 yq6 yq7 yq8 yq9 yq10 yq11 yq12 yq13 yq14 yq15 yq16 yq17 yq18 yq19 (xs (1 : Int32).toNatClampNeg) (xs (2 : Int32).toNatClampNeg)) okV_X10_barge wd_428 hx hb hml hown hts hK hP hD hS hA hN hl.1 [0] [] rfl rfl rfl rfl (by decide) rfl rfl rfl (Nat.le_of_ble_eq_true rfl) (Nat.le_of_ble_eq_true rfl) (Nat.le_of_ble_eq_true rfl) (Nat.le_of_ble_eq_true rfl) (Nat.le_of_ble_eq_true rfl) dL_law_368 (fun r_8 u_7 H locs hw_u_7 hP hD hS => ?_)
  obtain rfl := hw_u_7
  have hP : va_P D classes [] H := hP
  have hD : va_D (lw_A s) [] := hD
  refine lv_icmp_eq (tgt := 1015) hx hb dL_law_371 (by decide) (fun c_9 => ?_) (fun c_9 => absurd rfl c_9)
  exact law_tail C1 hS hl
set_option maxHeartbeats 4000000 in
set_option maxRecDepth 100000 in
theorem law_send {p : Program} {l : Launch} {e : Env} {s : State} {m : MethodId} {below : List Frame} {meth : Method} {c : Code} {D : va_G} {cI cZ : ClassId} {b : Nat} {xs : Nat → Int32} (xh xq1 xq2 xq6 xq14 xq22 xq26 xq31 xq35 xq36 xq41 xq44 xq50 xq59 xq9 xq10 xq11 xq12 xq13 yh yq1 yq2 yq3 yq4 yq5 yq6 yq7 yq8 yq9 yq10 yq11 yq12 yq13 yq14 yq15 yq16 yq17 yq18 yq19 : Nat) (C0 : lw_C p s m meth c b 5 xs) {H : Heap} {locs : List Loc} {ls : Array Slot} (hK : va_K D classes (TYS cI cZ) s) (hP : va_P D classes [(xh, .inr (9, [.ref xq1, .int 0, .int (-1), .ref xq2, .ref xq6, .ref xq14, .ref xq22, .ref xq26, .ref xq31, .ref xq35, .int 0, .ref xq36, .int 0, .ref xq41, .ref xq44, .ref xq50, .ref xq59])), (xq6, .inr (8, [.int 0, .int 1, .int 0, .int 0, .int 0, .ref xq9, .ref xq10, .ref xq11, .ref xq12, .ref xq13])), (yh, .inr (10, [.ref yq1, .ref yq2, .int 0, .int 0, .int 1, .int 0, .int 0, .int 0, .ref yq3, .ref yq4, .ref yq5, .ref yq6, .ref yq7, .ref yq8, .int 0, .int 0, .int 0, .int 0, .int 0, .int (-1), .int 0, .int 0, .int 0, .int 0, .int 0, .int 0, .int 0, .ref yq9, .ref yq10, .ref yq11, .ref yq12, .ref yq13, .int 0, .int 0, .int 0, .int 0, .ref yq14, .ref yq15, .ref yq16, .ref yq17, .int 0, .int 0, .int 0, .ref yq18, .ref yq19]))] H) (hD : va_D (lw_A s) [(xh, .inr (9, [.ref xq1, .int 0, .int (-1), .ref xq2, .ref xq6, .ref xq14, .ref xq22, .ref xq26, .ref xq31, .ref xq35, .int 0, .ref xq36, .int 0, .ref xq41, .ref xq44, .ref xq50, .ref xq59])), (xq6, .inr (8, [.int 0, .int 1, .int 0, .int 0, .int 0, .ref xq9, .ref xq10, .ref xq11, .ref xq12, .ref xq13])), (yh, .inr (10, [.ref yq1, .ref yq2, .int 0, .int 0, .int 1, .int 0, .int 0, .int 0, .ref yq3, .ref yq4, .ref yq5, .ref yq6, .ref yq7, .ref yq8, .int 0, .int 0, .int 0, .int 0, .int 0, .int (-1), .int 0, .int 0, .int 0, .int 0, .int 0, .int 0, .int 0, .ref yq9, .ref yq10, .ref yq11, .ref yq12, .ref yq13, .int 0, .int 0, .int 0, .int 0, .ref yq14, .ref yq15, .ref yq16, .ref yq17, .int 0, .int 0, .int 0, .ref yq18, .ref yq19]))]) (hS : va_S (lw_A s) s.heap H locs) (hl : lv_has ls 4 [(0, .ref b), (1, .ref xh), (2, .ref yh), (3, .int 0)]) : W p l e room_1 s m #[Value.ref b] below meth c H locs 60 4269 (lw_Z below #[Value.ref b] s) (F0 m 376 ls []) := by
  have C1 := C0
  obtain ⟨hx, hb, hr, hml, hown, hts, hX, hbl, hlocks, hN⟩ := C0
  have hA : ∀ q, s.heap.size ≤ q → lw_A s q := fun _ h => h
  have hbA : ¬ lw_A s b := Nat.not_le.mpr hbl
  refine lv_aload_n hx hb dL_law_376 rfl (lv_at hl 1 rfl) ?_
  refine lv_aload_n hx hb dL_law_377 rfl (lv_at hl 0 rfl) ?_
  refine lv_iload_n hx hb dL_law_378 rfl (lv_at hl 3 rfl) ?_
  refine lv_iconst (v := 1) hx hb dL_law_379 (by decide) ?_
  refine lv_iadd hx hb dL_law_380 ?_
  refine lv_topi (fun z_1 ez_1 => ?_)
  obtain rfl : z_1 = 1 := ez_1.trans (by decide +kernel)
  refine va_sld hx hb hX hbl hbA hS (show ¬ ((1 : Int32) < 0 ∨ 5 ≤ (1 : Int32).toNatClampNeg) by decide +kernel) dL_law_381 ?_
  refine lv_aload_n hx hb dL_law_382 rfl (lv_at hl 0 rfl) ?_
  refine lv_iload_n hx hb dL_law_383 rfl (lv_at hl 3 rfl) ?_
  refine lv_iconst (v := 2) hx hb dL_law_384 (by decide) ?_
  refine lv_iadd hx hb dL_law_385 ?_
  refine lv_topi (fun z_2 ez_2 => ?_)
  obtain rfl : z_2 = 2 := ez_2.trans (by decide +kernel)
  refine va_sld hx hb hX hbl hbA hS (show ¬ ((2 : Int32) < 0 ∨ 5 ≤ (2 : Int32).toNatClampNeg) by decide +kernel) dL_law_386 ?_
  refine lv_aload_n hx hb dL_law_387 rfl (lv_at hl 0 rfl) ?_
  refine lv_iload_n hx hb dL_law_388 rfl (lv_at hl 3 rfl) ?_
  refine lv_iconst (v := 3) hx hb dL_law_389 (by decide) ?_
  refine lv_iadd hx hb dL_law_390 ?_
  refine lv_topi (fun z_3 ez_3 => ?_)
  obtain rfl : z_3 = 3 := ez_3.trans (by decide +kernel)
  refine va_sld hx hb hX hbl hbA hS (show ¬ ((3 : Int32) < 0 ∨ 5 ≤ (3 : Int32).toNatClampNeg) by decide +kernel) dL_law_391 ?_
  refine cVi (wr := [(yh, .inr (10, [.ref yq1, .ref yq2, .int 0, .int 0, .int 1, .int 0, .int 0, .int 0, .ref yq3, .ref yq4, .ref yq5, .ref yq6, .ref yq7, .ref yq8, .int 0, .int 0, .int 0, .int 0, .int 0, .int (-1), .int 0, .int 0, .int 0, .int 0, .int 0, .int 0, .int 0, .ref yq9, .ref yq10, .ref yq11, .ref yq12, .ref yq13, .int 0, .int 0, .int 0, .int 0, .ref yq14, .ref yq15, .ref yq16, .ref yq17, .int 0, .int 0, .int 0, .ref yq18, .ref yq19]))]) (rest := []) (k_x_send xh xq1 xq2 xq6 xq14 xq22 xq26 xq31 xq35 xq36 xq41 xq44 xq50 xq59 xq9 xq10 xq11 xq12 xq13 (xs (1 : Int32).toNatClampNeg) (xs (2 : Int32).toNatClampNeg) (xs (3 : Int32).toNatClampNeg)) okV_X9_send wd_432 hx hb hml hown hts hK hP hD hS hA hN hl.1 [0, 1] [2] rfl rfl rfl rfl (by decide) rfl rfl rfl (Nat.le_of_ble_eq_true rfl) (Nat.le_of_ble_eq_true rfl) (Nat.le_of_ble_eq_true rfl) (Nat.le_of_ble_eq_true rfl) (Nat.le_of_ble_eq_true rfl) dL_law_392 (fun r_5 u_4 H locs hw_u_4 hP hD hS => ?_)
  obtain rfl := hw_u_4
  have hP : va_P D classes [(yh, .inr (10, [.ref yq1, .ref yq2, .int 0, .int 0, .int 1, .int 0, .int 0, .int 0, .ref yq3, .ref yq4, .ref yq5, .ref yq6, .ref yq7, .ref yq8, .int 0, .int 0, .int 0, .int 0, .int 0, .int (-1), .int 0, .int 0, .int 0, .int 0, .int 0, .int 0, .int 0, .ref yq9, .ref yq10, .ref yq11, .ref yq12, .ref yq13, .int 0, .int 0, .int 0, .int 0, .ref yq14, .ref yq15, .ref yq16, .ref yq17, .int 0, .int 0, .int 0, .ref yq18, .ref yq19]))] H := hP
  have hD : va_D (lw_A s) [(yh, .inr (10, [.ref yq1, .ref yq2, .int 0, .int 0, .int 1, .int 0, .int 0, .int 0, .ref yq3, .ref yq4, .ref yq5, .ref yq6, .ref yq7, .ref yq8, .int 0, .int 0, .int 0, .int 0, .int 0, .int (-1), .int 0, .int 0, .int 0, .int 0, .int 0, .int 0, .int 0, .ref yq9, .ref yq10, .ref yq11, .ref yq12, .ref yq13, .int 0, .int 0, .int 0, .int 0, .ref yq14, .ref yq15, .ref yq16, .ref yq17, .int 0, .int 0, .int 0, .ref yq18, .ref yq19]))] := hD
  refine lv_aload_n hx hb dL_law_395 rfl (lv_at hl 2 rfl) ?_
  refine lv_aload_n hx hb dL_law_396 rfl (lv_at hl 0 rfl) ?_
  refine lv_iload_n hx hb dL_law_397 rfl (lv_at hl 3 rfl) ?_
  refine lv_iconst (v := 1) hx hb dL_law_398 (by decide) ?_
  refine lv_iadd hx hb dL_law_399 ?_
  refine lv_topi (fun z_6 ez_6 => ?_)
  obtain rfl : z_6 = 1 := ez_6.trans (by decide +kernel)
  refine va_sld hx hb hX hbl hbA hS (show ¬ ((1 : Int32) < 0 ∨ 5 ≤ (1 : Int32).toNatClampNeg) by decide +kernel) dL_law_400 ?_
  refine lv_aload_n hx hb dL_law_401 rfl (lv_at hl 0 rfl) ?_
  refine lv_iload_n hx hb dL_law_402 rfl (lv_at hl 3 rfl) ?_
  refine lv_iconst (v := 2) hx hb dL_law_403 (by decide) ?_
  refine lv_iadd hx hb dL_law_404 ?_
  refine lv_topi (fun z_7 ez_7 => ?_)
  obtain rfl : z_7 = 2 := ez_7.trans (by decide +kernel)
  refine va_sld hx hb hX hbl hbA hS (show ¬ ((2 : Int32) < 0 ∨ 5 ≤ (2 : Int32).toNatClampNeg) by decide +kernel) dL_law_405 ?_
  refine lv_aload_n hx hb dL_law_406 rfl (lv_at hl 0 rfl) ?_
  refine lv_iload_n hx hb dL_law_407 rfl (lv_at hl 3 rfl) ?_
  refine lv_iconst (v := 3) hx hb dL_law_408 (by decide) ?_
  refine lv_iadd hx hb dL_law_409 ?_
  refine lv_topi (fun z_8 ez_8 => ?_)
  obtain rfl : z_8 = 3 := ez_8.trans (by decide +kernel)
  refine va_sld hx hb hX hbl hbA hS (show ¬ ((3 : Int32) < 0 ∨ 5 ≤ (3 : Int32).toNatClampNeg) by decide +kernel) dL_law_410 ?_
  refine cVi (wr := []) (rest := [.int ((-1000000001))]) (k_m_send yh yq1 yq2 yq3 yq4 yq5 yq6 yq7 yq8 yq9 yq10 yq11 yq12 yq13 yq14 yq15 yq16 yq17 yq18 yq19 (xs (1 : Int32).toNatClampNeg) (xs (2 : Int32).toNatClampNeg) (xs (3 : Int32).toNatClampNeg)) okV_X10_send wd_436 hx hb hml hown hts hK hP hD hS hA hN hl.1 [0] [] rfl rfl rfl rfl (by decide) rfl rfl rfl (Nat.le_of_ble_eq_true rfl) (Nat.le_of_ble_eq_true rfl) (Nat.le_of_ble_eq_true rfl) (Nat.le_of_ble_eq_true rfl) (Nat.le_of_ble_eq_true rfl) dL_law_411 (fun r_10 u_9 H locs hw_u_9 hP hD hS => ?_)
  obtain rfl := hw_u_9
  have hP : va_P D classes [] H := hP
  have hD : va_D (lw_A s) [] := hD
  refine lv_icmp_eq (tgt := 1015) hx hb dL_law_414 (by decide) (fun c_11 => ?_) (fun c_11 => absurd rfl c_11)
  exact law_tail C1 hS hl
set_option maxHeartbeats 4000000 in
set_option maxRecDepth 100000 in
theorem law_home {p : Program} {l : Launch} {e : Env} {s : State} {m : MethodId} {below : List Frame} {meth : Method} {c : Code} {D : va_G} {cI cZ : ClassId} {b : Nat} {xs : Nat → Int32} (xh xq1 xq2 xq6 xq14 xq22 xq26 xq31 xq35 xq36 xq41 xq44 xq50 xq59 xq9 xq10 xq11 xq12 xq13 yh yq1 yq2 yq3 yq4 yq5 yq6 yq7 yq8 yq9 yq10 yq11 yq12 yq13 yq14 yq15 yq16 yq17 yq18 yq19 : Nat) (C0 : lw_C p s m meth c b 5 xs) {H : Heap} {locs : List Loc} {ls : Array Slot} (hK : va_K D classes (TYS cI cZ) s) (hP : va_P D classes [(xh, .inr (9, [.ref xq1, .int 0, .int (-1), .ref xq2, .ref xq6, .ref xq14, .ref xq22, .ref xq26, .ref xq31, .ref xq35, .int 0, .ref xq36, .int 0, .ref xq41, .ref xq44, .ref xq50, .ref xq59])), (xq6, .inr (8, [.int 0, .int 1, .int 0, .int 0, .int 0, .ref xq9, .ref xq10, .ref xq11, .ref xq12, .ref xq13])), (yh, .inr (10, [.ref yq1, .ref yq2, .int 0, .int 0, .int 1, .int 0, .int 0, .int 0, .ref yq3, .ref yq4, .ref yq5, .ref yq6, .ref yq7, .ref yq8, .int 0, .int 0, .int 0, .int 0, .int 0, .int (-1), .int 0, .int 0, .int 0, .int 0, .int 0, .int 0, .int 0, .ref yq9, .ref yq10, .ref yq11, .ref yq12, .ref yq13, .int 0, .int 0, .int 0, .int 0, .ref yq14, .ref yq15, .ref yq16, .ref yq17, .int 0, .int 0, .int 0, .ref yq18, .ref yq19]))] H) (hD : va_D (lw_A s) [(xh, .inr (9, [.ref xq1, .int 0, .int (-1), .ref xq2, .ref xq6, .ref xq14, .ref xq22, .ref xq26, .ref xq31, .ref xq35, .int 0, .ref xq36, .int 0, .ref xq41, .ref xq44, .ref xq50, .ref xq59])), (xq6, .inr (8, [.int 0, .int 1, .int 0, .int 0, .int 0, .ref xq9, .ref xq10, .ref xq11, .ref xq12, .ref xq13])), (yh, .inr (10, [.ref yq1, .ref yq2, .int 0, .int 0, .int 1, .int 0, .int 0, .int 0, .ref yq3, .ref yq4, .ref yq5, .ref yq6, .ref yq7, .ref yq8, .int 0, .int 0, .int 0, .int 0, .int 0, .int (-1), .int 0, .int 0, .int 0, .int 0, .int 0, .int 0, .int 0, .ref yq9, .ref yq10, .ref yq11, .ref yq12, .ref yq13, .int 0, .int 0, .int 0, .int 0, .ref yq14, .ref yq15, .ref yq16, .ref yq17, .int 0, .int 0, .int 0, .ref yq18, .ref yq19]))]) (hS : va_S (lw_A s) s.heap H locs) (hl : lv_has ls 4 [(0, .ref b), (1, .ref xh), (2, .ref yh), (3, .int 0)]) : W p l e room_1 s m #[Value.ref b] below meth c H locs 60 4269 (lw_Z below #[Value.ref b] s) (F0 m 419 ls []) := by
  have C1 := C0
  obtain ⟨hx, hb, hr, hml, hown, hts, hX, hbl, hlocks, hN⟩ := C0
  have hA : ∀ q, s.heap.size ≤ q → lw_A s q := fun _ h => h
  have hbA : ¬ lw_A s b := Nat.not_le.mpr hbl
  refine lv_aload_n hx hb dL_law_419 rfl (lv_at hl 1 rfl) ?_
  refine lv_aload_n hx hb dL_law_420 rfl (lv_at hl 0 rfl) ?_
  refine lv_iload_n hx hb dL_law_421 rfl (lv_at hl 3 rfl) ?_
  refine lv_iconst (v := 1) hx hb dL_law_422 (by decide) ?_
  refine lv_iadd hx hb dL_law_423 ?_
  refine lv_topi (fun z_1 ez_1 => ?_)
  obtain rfl : z_1 = 1 := ez_1.trans (by decide +kernel)
  refine va_sld hx hb hX hbl hbA hS (show ¬ ((1 : Int32) < 0 ∨ 5 ≤ (1 : Int32).toNatClampNeg) by decide +kernel) dL_law_424 ?_
  refine cVi (wr := [(yh, .inr (10, [.ref yq1, .ref yq2, .int 0, .int 0, .int 1, .int 0, .int 0, .int 0, .ref yq3, .ref yq4, .ref yq5, .ref yq6, .ref yq7, .ref yq8, .int 0, .int 0, .int 0, .int 0, .int 0, .int (-1), .int 0, .int 0, .int 0, .int 0, .int 0, .int 0, .int 0, .ref yq9, .ref yq10, .ref yq11, .ref yq12, .ref yq13, .int 0, .int 0, .int 0, .int 0, .ref yq14, .ref yq15, .ref yq16, .ref yq17, .int 0, .int 0, .int 0, .ref yq18, .ref yq19]))]) (rest := []) (k_x_home xh xq1 xq2 xq6 xq14 xq22 xq26 xq31 xq35 xq36 xq41 xq44 xq50 xq59 xq9 xq10 xq11 xq12 xq13 (xs (1 : Int32).toNatClampNeg)) okV_X9_home wd_440 hx hb hml hown hts hK hP hD hS hA hN hl.1 [0, 1] [2] rfl rfl rfl rfl (by decide) rfl rfl rfl (Nat.le_of_ble_eq_true rfl) (Nat.le_of_ble_eq_true rfl) (Nat.le_of_ble_eq_true rfl) (Nat.le_of_ble_eq_true rfl) (Nat.le_of_ble_eq_true rfl) dL_law_425 (fun r_3 u_2 H locs hw_u_2 hP hD hS => ?_)
  obtain rfl := hw_u_2
  have hP : va_P D classes [(yh, .inr (10, [.ref yq1, .ref yq2, .int 0, .int 0, .int 1, .int 0, .int 0, .int 0, .ref yq3, .ref yq4, .ref yq5, .ref yq6, .ref yq7, .ref yq8, .int 0, .int 0, .int 0, .int 0, .int 0, .int (-1), .int 0, .int 0, .int 0, .int 0, .int 0, .int 0, .int 0, .ref yq9, .ref yq10, .ref yq11, .ref yq12, .ref yq13, .int 0, .int 0, .int 0, .int 0, .ref yq14, .ref yq15, .ref yq16, .ref yq17, .int 0, .int 0, .int 0, .ref yq18, .ref yq19]))] H := hP
  have hD : va_D (lw_A s) [(yh, .inr (10, [.ref yq1, .ref yq2, .int 0, .int 0, .int 1, .int 0, .int 0, .int 0, .ref yq3, .ref yq4, .ref yq5, .ref yq6, .ref yq7, .ref yq8, .int 0, .int 0, .int 0, .int 0, .int 0, .int (-1), .int 0, .int 0, .int 0, .int 0, .int 0, .int 0, .int 0, .ref yq9, .ref yq10, .ref yq11, .ref yq12, .ref yq13, .int 0, .int 0, .int 0, .int 0, .ref yq14, .ref yq15, .ref yq16, .ref yq17, .int 0, .int 0, .int 0, .ref yq18, .ref yq19]))] := hD
  refine lv_aload_n hx hb dL_law_428 rfl (lv_at hl 2 rfl) ?_
  refine lv_aload_n hx hb dL_law_429 rfl (lv_at hl 0 rfl) ?_
  refine lv_iload_n hx hb dL_law_430 rfl (lv_at hl 3 rfl) ?_
  refine lv_iconst (v := 1) hx hb dL_law_431 (by decide) ?_
  refine lv_iadd hx hb dL_law_432 ?_
  refine lv_topi (fun z_4 ez_4 => ?_)
  obtain rfl : z_4 = 1 := ez_4.trans (by decide +kernel)
  refine va_sld hx hb hX hbl hbA hS (show ¬ ((1 : Int32) < 0 ∨ 5 ≤ (1 : Int32).toNatClampNeg) by decide +kernel) dL_law_433 ?_
  refine cVi (wr := []) (rest := [.int ((-1000000001))]) (k_m_home yh yq1 yq2 yq3 yq4 yq5 yq6 yq7 yq8 yq9 yq10 yq11 yq12 yq13 yq14 yq15 yq16 yq17 yq18 yq19 (xs (1 : Int32).toNatClampNeg)) okV_X10_home wd_444 hx hb hml hown hts hK hP hD hS hA hN hl.1 [0] [] rfl rfl rfl rfl (by decide) rfl rfl rfl (Nat.le_of_ble_eq_true rfl) (Nat.le_of_ble_eq_true rfl) (Nat.le_of_ble_eq_true rfl) (Nat.le_of_ble_eq_true rfl) (Nat.le_of_ble_eq_true rfl) dL_law_434 (fun r_6 u_5 H locs hw_u_5 hP hD hS => ?_)
  obtain rfl := hw_u_5
  have hP : va_P D classes [] H := hP
  have hD : va_D (lw_A s) [] := hD
  refine lv_icmp_eq (tgt := 1015) hx hb dL_law_437 (by decide) (fun c_7 => ?_) (fun c_7 => absurd rfl c_7)
  exact law_tail C1 hS hl
set_option maxHeartbeats 4000000 in
set_option maxRecDepth 100000 in
theorem law_pass {p : Program} {l : Launch} {e : Env} {s : State} {m : MethodId} {below : List Frame} {meth : Method} {c : Code} {D : va_G} {cI cZ : ClassId} {b : Nat} {xs : Nat → Int32} (xh xq1 xq2 xq6 xq14 xq22 xq26 xq31 xq35 xq36 xq41 xq44 xq50 xq59 xq9 xq10 xq11 xq12 xq13 yh yq1 yq2 yq3 yq4 yq5 yq6 yq7 yq8 yq9 yq10 yq11 yq12 yq13 yq14 yq15 yq16 yq17 yq18 yq19 : Nat) (C0 : lw_C p s m meth c b 5 xs) {H : Heap} {locs : List Loc} {ls : Array Slot} (hK : va_K D classes (TYS cI cZ) s) (hP : va_P D classes [(xh, .inr (9, [.ref xq1, .int 0, .int (-1), .ref xq2, .ref xq6, .ref xq14, .ref xq22, .ref xq26, .ref xq31, .ref xq35, .int 0, .ref xq36, .int 0, .ref xq41, .ref xq44, .ref xq50, .ref xq59])), (xq6, .inr (8, [.int 0, .int 1, .int 0, .int 0, .int 0, .ref xq9, .ref xq10, .ref xq11, .ref xq12, .ref xq13])), (yh, .inr (10, [.ref yq1, .ref yq2, .int 0, .int 0, .int 1, .int 0, .int 0, .int 0, .ref yq3, .ref yq4, .ref yq5, .ref yq6, .ref yq7, .ref yq8, .int 0, .int 0, .int 0, .int 0, .int 0, .int (-1), .int 0, .int 0, .int 0, .int 0, .int 0, .int 0, .int 0, .ref yq9, .ref yq10, .ref yq11, .ref yq12, .ref yq13, .int 0, .int 0, .int 0, .int 0, .ref yq14, .ref yq15, .ref yq16, .ref yq17, .int 0, .int 0, .int 0, .ref yq18, .ref yq19]))] H) (hD : va_D (lw_A s) [(xh, .inr (9, [.ref xq1, .int 0, .int (-1), .ref xq2, .ref xq6, .ref xq14, .ref xq22, .ref xq26, .ref xq31, .ref xq35, .int 0, .ref xq36, .int 0, .ref xq41, .ref xq44, .ref xq50, .ref xq59])), (xq6, .inr (8, [.int 0, .int 1, .int 0, .int 0, .int 0, .ref xq9, .ref xq10, .ref xq11, .ref xq12, .ref xq13])), (yh, .inr (10, [.ref yq1, .ref yq2, .int 0, .int 0, .int 1, .int 0, .int 0, .int 0, .ref yq3, .ref yq4, .ref yq5, .ref yq6, .ref yq7, .ref yq8, .int 0, .int 0, .int 0, .int 0, .int 0, .int (-1), .int 0, .int 0, .int 0, .int 0, .int 0, .int 0, .int 0, .ref yq9, .ref yq10, .ref yq11, .ref yq12, .ref yq13, .int 0, .int 0, .int 0, .int 0, .ref yq14, .ref yq15, .ref yq16, .ref yq17, .int 0, .int 0, .int 0, .ref yq18, .ref yq19]))]) (hS : va_S (lw_A s) s.heap H locs) (hl : lv_has ls 4 [(0, .ref b), (1, .ref xh), (2, .ref yh), (3, .int 0)]) : W p l e room_1 s m #[Value.ref b] below meth c H locs 60 4269 (lw_Z below #[Value.ref b] s) (F0 m 442 ls []) := by
  have C1 := C0
  obtain ⟨hx, hb, hr, hml, hown, hts, hX, hbl, hlocks, hN⟩ := C0
  have hA : ∀ q, s.heap.size ≤ q → lw_A s q := fun _ h => h
  have hbA : ¬ lw_A s b := Nat.not_le.mpr hbl
  refine lv_aload_n hx hb dL_law_442 rfl (lv_at hl 1 rfl) ?_
  refine lv_aload_n hx hb dL_law_443 rfl (lv_at hl 0 rfl) ?_
  refine lv_iload_n hx hb dL_law_444 rfl (lv_at hl 3 rfl) ?_
  refine lv_iconst (v := 1) hx hb dL_law_445 (by decide) ?_
  refine lv_iadd hx hb dL_law_446 ?_
  refine lv_topi (fun z_1 ez_1 => ?_)
  obtain rfl : z_1 = 1 := ez_1.trans (by decide +kernel)
  refine va_sld hx hb hX hbl hbA hS (show ¬ ((1 : Int32) < 0 ∨ 5 ≤ (1 : Int32).toNatClampNeg) by decide +kernel) dL_law_447 ?_
  refine cVi (wr := [(yh, .inr (10, [.ref yq1, .ref yq2, .int 0, .int 0, .int 1, .int 0, .int 0, .int 0, .ref yq3, .ref yq4, .ref yq5, .ref yq6, .ref yq7, .ref yq8, .int 0, .int 0, .int 0, .int 0, .int 0, .int (-1), .int 0, .int 0, .int 0, .int 0, .int 0, .int 0, .int 0, .ref yq9, .ref yq10, .ref yq11, .ref yq12, .ref yq13, .int 0, .int 0, .int 0, .int 0, .ref yq14, .ref yq15, .ref yq16, .ref yq17, .int 0, .int 0, .int 0, .ref yq18, .ref yq19]))]) (rest := []) (k_x_pass xh xq1 xq2 xq6 xq14 xq22 xq26 xq31 xq35 xq36 xq41 xq44 xq50 xq59 xq9 xq10 xq11 xq12 xq13 (xs (1 : Int32).toNatClampNeg)) okV_X9_pass wd_448 hx hb hml hown hts hK hP hD hS hA hN hl.1 [0, 1] [2] rfl rfl rfl rfl (by decide) rfl rfl rfl (Nat.le_of_ble_eq_true rfl) (Nat.le_of_ble_eq_true rfl) (Nat.le_of_ble_eq_true rfl) (Nat.le_of_ble_eq_true rfl) (Nat.le_of_ble_eq_true rfl) dL_law_448 (fun r_3 u_2 H locs hw_u_2 hP hD hS => ?_)
  obtain rfl := hw_u_2
  have hP : va_P D classes [(yh, .inr (10, [.ref yq1, .ref yq2, .int 0, .int 0, .int 1, .int 0, .int 0, .int 0, .ref yq3, .ref yq4, .ref yq5, .ref yq6, .ref yq7, .ref yq8, .int 0, .int 0, .int 0, .int 0, .int 0, .int (-1), .int 0, .int 0, .int 0, .int 0, .int 0, .int 0, .int 0, .ref yq9, .ref yq10, .ref yq11, .ref yq12, .ref yq13, .int 0, .int 0, .int 0, .int 0, .ref yq14, .ref yq15, .ref yq16, .ref yq17, .int 0, .int 0, .int 0, .ref yq18, .ref yq19]))] H := hP
  have hD : va_D (lw_A s) [(yh, .inr (10, [.ref yq1, .ref yq2, .int 0, .int 0, .int 1, .int 0, .int 0, .int 0, .ref yq3, .ref yq4, .ref yq5, .ref yq6, .ref yq7, .ref yq8, .int 0, .int 0, .int 0, .int 0, .int 0, .int (-1), .int 0, .int 0, .int 0, .int 0, .int 0, .int 0, .int 0, .ref yq9, .ref yq10, .ref yq11, .ref yq12, .ref yq13, .int 0, .int 0, .int 0, .int 0, .ref yq14, .ref yq15, .ref yq16, .ref yq17, .int 0, .int 0, .int 0, .ref yq18, .ref yq19]))] := hD
  refine lv_aload_n hx hb dL_law_451 rfl (lv_at hl 2 rfl) ?_
  refine lv_aload_n hx hb dL_law_452 rfl (lv_at hl 0 rfl) ?_
  refine lv_iload_n hx hb dL_law_453 rfl (lv_at hl 3 rfl) ?_
  refine lv_iconst (v := 1) hx hb dL_law_454 (by decide) ?_
  refine lv_iadd hx hb dL_law_455 ?_
  refine lv_topi (fun z_4 ez_4 => ?_)
  obtain rfl : z_4 = 1 := ez_4.trans (by decide +kernel)
  refine va_sld hx hb hX hbl hbA hS (show ¬ ((1 : Int32) < 0 ∨ 5 ≤ (1 : Int32).toNatClampNeg) by decide +kernel) dL_law_456 ?_
  refine cVi (wr := []) (rest := [.int ((-1000000001))]) (k_m_pass yh yq1 yq2 yq3 yq4 yq5 yq6 yq7 yq8 yq9 yq10 yq11 yq12 yq13 yq14 yq15 yq16 yq17 yq18 yq19 (xs (1 : Int32).toNatClampNeg)) okV_X10_pass wd_452 hx hb hml hown hts hK hP hD hS hA hN hl.1 [0] [] rfl rfl rfl rfl (by decide) rfl rfl rfl (Nat.le_of_ble_eq_true rfl) (Nat.le_of_ble_eq_true rfl) (Nat.le_of_ble_eq_true rfl) (Nat.le_of_ble_eq_true rfl) (Nat.le_of_ble_eq_true rfl) dL_law_457 (fun r_6 u_5 H locs hw_u_5 hP hD hS => ?_)
  obtain rfl := hw_u_5
  have hP : va_P D classes [] H := hP
  have hD : va_D (lw_A s) [] := hD
  refine lv_icmp_eq (tgt := 1015) hx hb dL_law_460 (by decide) (fun c_7 => ?_) (fun c_7 => absurd rfl c_7)
  exact law_tail C1 hS hl
set_option maxHeartbeats 4000000 in
set_option maxRecDepth 100000 in
theorem law_grieve {p : Program} {l : Launch} {e : Env} {s : State} {m : MethodId} {below : List Frame} {meth : Method} {c : Code} {D : va_G} {cI cZ : ClassId} {b : Nat} {xs : Nat → Int32} (xh xq1 xq2 xq6 xq14 xq22 xq26 xq31 xq35 xq36 xq41 xq44 xq50 xq59 xq9 xq10 xq11 xq12 xq13 yh yq1 yq2 yq3 yq4 yq5 yq6 yq7 yq8 yq9 yq10 yq11 yq12 yq13 yq14 yq15 yq16 yq17 yq18 yq19 : Nat) (C0 : lw_C p s m meth c b 5 xs) {H : Heap} {locs : List Loc} {ls : Array Slot} (hK : va_K D classes (TYS cI cZ) s) (hP : va_P D classes [(xh, .inr (9, [.ref xq1, .int 0, .int (-1), .ref xq2, .ref xq6, .ref xq14, .ref xq22, .ref xq26, .ref xq31, .ref xq35, .int 0, .ref xq36, .int 0, .ref xq41, .ref xq44, .ref xq50, .ref xq59])), (xq6, .inr (8, [.int 0, .int 1, .int 0, .int 0, .int 0, .ref xq9, .ref xq10, .ref xq11, .ref xq12, .ref xq13])), (yh, .inr (10, [.ref yq1, .ref yq2, .int 0, .int 0, .int 1, .int 0, .int 0, .int 0, .ref yq3, .ref yq4, .ref yq5, .ref yq6, .ref yq7, .ref yq8, .int 0, .int 0, .int 0, .int 0, .int 0, .int (-1), .int 0, .int 0, .int 0, .int 0, .int 0, .int 0, .int 0, .ref yq9, .ref yq10, .ref yq11, .ref yq12, .ref yq13, .int 0, .int 0, .int 0, .int 0, .ref yq14, .ref yq15, .ref yq16, .ref yq17, .int 0, .int 0, .int 0, .ref yq18, .ref yq19]))] H) (hD : va_D (lw_A s) [(xh, .inr (9, [.ref xq1, .int 0, .int (-1), .ref xq2, .ref xq6, .ref xq14, .ref xq22, .ref xq26, .ref xq31, .ref xq35, .int 0, .ref xq36, .int 0, .ref xq41, .ref xq44, .ref xq50, .ref xq59])), (xq6, .inr (8, [.int 0, .int 1, .int 0, .int 0, .int 0, .ref xq9, .ref xq10, .ref xq11, .ref xq12, .ref xq13])), (yh, .inr (10, [.ref yq1, .ref yq2, .int 0, .int 0, .int 1, .int 0, .int 0, .int 0, .ref yq3, .ref yq4, .ref yq5, .ref yq6, .ref yq7, .ref yq8, .int 0, .int 0, .int 0, .int 0, .int 0, .int (-1), .int 0, .int 0, .int 0, .int 0, .int 0, .int 0, .int 0, .ref yq9, .ref yq10, .ref yq11, .ref yq12, .ref yq13, .int 0, .int 0, .int 0, .int 0, .ref yq14, .ref yq15, .ref yq16, .ref yq17, .int 0, .int 0, .int 0, .ref yq18, .ref yq19]))]) (hS : va_S (lw_A s) s.heap H locs) (hl : lv_has ls 4 [(0, .ref b), (1, .ref xh), (2, .ref yh), (3, .int 0)]) : W p l e room_1 s m #[Value.ref b] below meth c H locs 60 4269 (lw_Z below #[Value.ref b] s) (F0 m 465 ls []) := by
  have C1 := C0
  obtain ⟨hx, hb, hr, hml, hown, hts, hX, hbl, hlocks, hN⟩ := C0
  have hA : ∀ q, s.heap.size ≤ q → lw_A s q := fun _ h => h
  have hbA : ¬ lw_A s b := Nat.not_le.mpr hbl
  refine lv_aload_n hx hb dL_law_465 rfl (lv_at hl 1 rfl) ?_
  refine lv_aload_n hx hb dL_law_466 rfl (lv_at hl 0 rfl) ?_
  refine lv_iload_n hx hb dL_law_467 rfl (lv_at hl 3 rfl) ?_
  refine lv_iconst (v := 1) hx hb dL_law_468 (by decide) ?_
  refine lv_iadd hx hb dL_law_469 ?_
  refine lv_topi (fun z_1 ez_1 => ?_)
  obtain rfl : z_1 = 1 := ez_1.trans (by decide +kernel)
  refine va_sld hx hb hX hbl hbA hS (show ¬ ((1 : Int32) < 0 ∨ 5 ≤ (1 : Int32).toNatClampNeg) by decide +kernel) dL_law_470 ?_
  refine lv_aload_n hx hb dL_law_471 rfl (lv_at hl 0 rfl) ?_
  refine lv_iload_n hx hb dL_law_472 rfl (lv_at hl 3 rfl) ?_
  refine lv_iconst (v := 2) hx hb dL_law_473 (by decide) ?_
  refine lv_iadd hx hb dL_law_474 ?_
  refine lv_topi (fun z_2 ez_2 => ?_)
  obtain rfl : z_2 = 2 := ez_2.trans (by decide +kernel)
  refine va_sld hx hb hX hbl hbA hS (show ¬ ((2 : Int32) < 0 ∨ 5 ≤ (2 : Int32).toNatClampNeg) by decide +kernel) dL_law_475 ?_
  refine cVi (wr := [(yh, .inr (10, [.ref yq1, .ref yq2, .int 0, .int 0, .int 1, .int 0, .int 0, .int 0, .ref yq3, .ref yq4, .ref yq5, .ref yq6, .ref yq7, .ref yq8, .int 0, .int 0, .int 0, .int 0, .int 0, .int (-1), .int 0, .int 0, .int 0, .int 0, .int 0, .int 0, .int 0, .ref yq9, .ref yq10, .ref yq11, .ref yq12, .ref yq13, .int 0, .int 0, .int 0, .int 0, .ref yq14, .ref yq15, .ref yq16, .ref yq17, .int 0, .int 0, .int 0, .ref yq18, .ref yq19]))]) (rest := []) (k_x_grieve xh xq1 xq2 xq6 xq14 xq22 xq26 xq31 xq35 xq36 xq41 xq44 xq50 xq59 xq9 xq10 xq11 xq12 xq13 (xs (1 : Int32).toNatClampNeg) (xs (2 : Int32).toNatClampNeg)) okV_X9_grieve wd_456 hx hb hml hown hts hK hP hD hS hA hN hl.1 [0, 1] [2] rfl rfl rfl rfl (by decide) rfl rfl rfl (Nat.le_of_ble_eq_true rfl) (Nat.le_of_ble_eq_true rfl) (Nat.le_of_ble_eq_true rfl) (Nat.le_of_ble_eq_true rfl) (Nat.le_of_ble_eq_true rfl) dL_law_476 (fun r_4 u_3 H locs hw_u_3 hP hD hS => ?_)
  obtain rfl := hw_u_3
  have hP : va_P D classes [(yh, .inr (10, [.ref yq1, .ref yq2, .int 0, .int 0, .int 1, .int 0, .int 0, .int 0, .ref yq3, .ref yq4, .ref yq5, .ref yq6, .ref yq7, .ref yq8, .int 0, .int 0, .int 0, .int 0, .int 0, .int (-1), .int 0, .int 0, .int 0, .int 0, .int 0, .int 0, .int 0, .ref yq9, .ref yq10, .ref yq11, .ref yq12, .ref yq13, .int 0, .int 0, .int 0, .int 0, .ref yq14, .ref yq15, .ref yq16, .ref yq17, .int 0, .int 0, .int 0, .ref yq18, .ref yq19]))] H := hP
  have hD : va_D (lw_A s) [(yh, .inr (10, [.ref yq1, .ref yq2, .int 0, .int 0, .int 1, .int 0, .int 0, .int 0, .ref yq3, .ref yq4, .ref yq5, .ref yq6, .ref yq7, .ref yq8, .int 0, .int 0, .int 0, .int 0, .int 0, .int (-1), .int 0, .int 0, .int 0, .int 0, .int 0, .int 0, .int 0, .ref yq9, .ref yq10, .ref yq11, .ref yq12, .ref yq13, .int 0, .int 0, .int 0, .int 0, .ref yq14, .ref yq15, .ref yq16, .ref yq17, .int 0, .int 0, .int 0, .ref yq18, .ref yq19]))] := hD
  refine lv_aload_n hx hb dL_law_479 rfl (lv_at hl 2 rfl) ?_
  refine lv_aload_n hx hb dL_law_480 rfl (lv_at hl 0 rfl) ?_
  refine lv_iload_n hx hb dL_law_481 rfl (lv_at hl 3 rfl) ?_
  refine lv_iconst (v := 1) hx hb dL_law_482 (by decide) ?_
  refine lv_iadd hx hb dL_law_483 ?_
  refine lv_topi (fun z_5 ez_5 => ?_)
  obtain rfl : z_5 = 1 := ez_5.trans (by decide +kernel)
  refine va_sld hx hb hX hbl hbA hS (show ¬ ((1 : Int32) < 0 ∨ 5 ≤ (1 : Int32).toNatClampNeg) by decide +kernel) dL_law_484 ?_
  refine lv_aload_n hx hb dL_law_485 rfl (lv_at hl 0 rfl) ?_
  refine lv_iload_n hx hb dL_law_486 rfl (lv_at hl 3 rfl) ?_
  refine lv_iconst (v := 2) hx hb dL_law_487 (by decide) ?_
  refine lv_iadd hx hb dL_law_488 ?_
  refine lv_topi (fun z_6 ez_6 => ?_)
  obtain rfl : z_6 = 2 := ez_6.trans (by decide +kernel)
  refine va_sld hx hb hX hbl hbA hS (show ¬ ((2 : Int32) < 0 ∨ 5 ≤ (2 : Int32).toNatClampNeg) by decide +kernel) dL_law_489 ?_
  refine cVi (wr := []) (rest := [.int ((-1000000001))]) (k_m_grieve yh yq1 yq2 yq3 yq4 yq5 yq6 yq7 yq8 yq9 yq10 yq11 yq12 yq13 yq14 yq15 yq16 yq17 yq18 yq19 (xs (1 : Int32).toNatClampNeg) (xs (2 : Int32).toNatClampNeg)) okV_X10_grieve wd_460 hx hb hml hown hts hK hP hD hS hA hN hl.1 [0] [] rfl rfl rfl rfl (by decide) rfl rfl rfl (Nat.le_of_ble_eq_true rfl) (Nat.le_of_ble_eq_true rfl) (Nat.le_of_ble_eq_true rfl) (Nat.le_of_ble_eq_true rfl) (Nat.le_of_ble_eq_true rfl) dL_law_490 (fun r_8 u_7 H locs hw_u_7 hP hD hS => ?_)
  obtain rfl := hw_u_7
  have hP : va_P D classes [] H := hP
  have hD : va_D (lw_A s) [] := hD
  refine lv_icmp_eq (tgt := 1015) hx hb dL_law_493 (by decide) (fun c_9 => ?_) (fun c_9 => absurd rfl c_9)
  exact law_tail C1 hS hl
set_option maxHeartbeats 4000000 in
set_option maxRecDepth 100000 in
theorem law_drift {p : Program} {l : Launch} {e : Env} {s : State} {m : MethodId} {below : List Frame} {meth : Method} {c : Code} {D : va_G} {cI cZ : ClassId} {b : Nat} {xs : Nat → Int32} (xh xq1 xq2 xq6 xq14 xq22 xq26 xq31 xq35 xq36 xq41 xq44 xq50 xq59 xq9 xq10 xq11 xq12 xq13 yh yq1 yq2 yq3 yq4 yq5 yq6 yq7 yq8 yq9 yq10 yq11 yq12 yq13 yq14 yq15 yq16 yq17 yq18 yq19 : Nat) (C0 : lw_C p s m meth c b 5 xs) {H : Heap} {locs : List Loc} {ls : Array Slot} (hK : va_K D classes (TYS cI cZ) s) (hP : va_P D classes [(xh, .inr (9, [.ref xq1, .int 0, .int (-1), .ref xq2, .ref xq6, .ref xq14, .ref xq22, .ref xq26, .ref xq31, .ref xq35, .int 0, .ref xq36, .int 0, .ref xq41, .ref xq44, .ref xq50, .ref xq59])), (xq6, .inr (8, [.int 0, .int 1, .int 0, .int 0, .int 0, .ref xq9, .ref xq10, .ref xq11, .ref xq12, .ref xq13])), (yh, .inr (10, [.ref yq1, .ref yq2, .int 0, .int 0, .int 1, .int 0, .int 0, .int 0, .ref yq3, .ref yq4, .ref yq5, .ref yq6, .ref yq7, .ref yq8, .int 0, .int 0, .int 0, .int 0, .int 0, .int (-1), .int 0, .int 0, .int 0, .int 0, .int 0, .int 0, .int 0, .ref yq9, .ref yq10, .ref yq11, .ref yq12, .ref yq13, .int 0, .int 0, .int 0, .int 0, .ref yq14, .ref yq15, .ref yq16, .ref yq17, .int 0, .int 0, .int 0, .ref yq18, .ref yq19]))] H) (hD : va_D (lw_A s) [(xh, .inr (9, [.ref xq1, .int 0, .int (-1), .ref xq2, .ref xq6, .ref xq14, .ref xq22, .ref xq26, .ref xq31, .ref xq35, .int 0, .ref xq36, .int 0, .ref xq41, .ref xq44, .ref xq50, .ref xq59])), (xq6, .inr (8, [.int 0, .int 1, .int 0, .int 0, .int 0, .ref xq9, .ref xq10, .ref xq11, .ref xq12, .ref xq13])), (yh, .inr (10, [.ref yq1, .ref yq2, .int 0, .int 0, .int 1, .int 0, .int 0, .int 0, .ref yq3, .ref yq4, .ref yq5, .ref yq6, .ref yq7, .ref yq8, .int 0, .int 0, .int 0, .int 0, .int 0, .int (-1), .int 0, .int 0, .int 0, .int 0, .int 0, .int 0, .int 0, .ref yq9, .ref yq10, .ref yq11, .ref yq12, .ref yq13, .int 0, .int 0, .int 0, .int 0, .ref yq14, .ref yq15, .ref yq16, .ref yq17, .int 0, .int 0, .int 0, .ref yq18, .ref yq19]))]) (hS : va_S (lw_A s) s.heap H locs) (hl : lv_has ls 4 [(0, .ref b), (1, .ref xh), (2, .ref yh), (3, .int 0)]) : W p l e room_1 s m #[Value.ref b] below meth c H locs 60 4269 (lw_Z below #[Value.ref b] s) (F0 m 498 ls []) := by
  have C1 := C0
  obtain ⟨hx, hb, hr, hml, hown, hts, hX, hbl, hlocks, hN⟩ := C0
  have hA : ∀ q, s.heap.size ≤ q → lw_A s q := fun _ h => h
  have hbA : ¬ lw_A s b := Nat.not_le.mpr hbl
  refine lv_aload_n hx hb dL_law_498 rfl (lv_at hl 1 rfl) ?_
  refine lv_aload_n hx hb dL_law_499 rfl (lv_at hl 0 rfl) ?_
  refine lv_iload_n hx hb dL_law_500 rfl (lv_at hl 3 rfl) ?_
  refine lv_iconst (v := 1) hx hb dL_law_501 (by decide) ?_
  refine lv_iadd hx hb dL_law_502 ?_
  refine lv_topi (fun z_1 ez_1 => ?_)
  obtain rfl : z_1 = 1 := ez_1.trans (by decide +kernel)
  refine va_sld hx hb hX hbl hbA hS (show ¬ ((1 : Int32) < 0 ∨ 5 ≤ (1 : Int32).toNatClampNeg) by decide +kernel) dL_law_503 ?_
  refine cVi (wr := [(yh, .inr (10, [.ref yq1, .ref yq2, .int 0, .int 0, .int 1, .int 0, .int 0, .int 0, .ref yq3, .ref yq4, .ref yq5, .ref yq6, .ref yq7, .ref yq8, .int 0, .int 0, .int 0, .int 0, .int 0, .int (-1), .int 0, .int 0, .int 0, .int 0, .int 0, .int 0, .int 0, .ref yq9, .ref yq10, .ref yq11, .ref yq12, .ref yq13, .int 0, .int 0, .int 0, .int 0, .ref yq14, .ref yq15, .ref yq16, .ref yq17, .int 0, .int 0, .int 0, .ref yq18, .ref yq19]))]) (rest := []) (k_x_drift xh xq1 xq2 xq6 xq14 xq22 xq26 xq31 xq35 xq36 xq41 xq44 xq50 xq59 xq9 xq10 xq11 xq12 xq13 (xs (1 : Int32).toNatClampNeg)) okV_X9_drift wd_464 hx hb hml hown hts hK hP hD hS hA hN hl.1 [0, 1] [2] rfl rfl rfl rfl (by decide) rfl rfl rfl (Nat.le_of_ble_eq_true rfl) (Nat.le_of_ble_eq_true rfl) (Nat.le_of_ble_eq_true rfl) (Nat.le_of_ble_eq_true rfl) (Nat.le_of_ble_eq_true rfl) dL_law_504 (fun r_3 u_2 H locs hw_u_2 hP hD hS => ?_)
  obtain rfl := hw_u_2
  have hP : va_P D classes [(yh, .inr (10, [.ref yq1, .ref yq2, .int 0, .int 0, .int 1, .int 0, .int 0, .int 0, .ref yq3, .ref yq4, .ref yq5, .ref yq6, .ref yq7, .ref yq8, .int 0, .int 0, .int 0, .int 0, .int 0, .int (-1), .int 0, .int 0, .int 0, .int 0, .int 0, .int 0, .int 0, .ref yq9, .ref yq10, .ref yq11, .ref yq12, .ref yq13, .int 0, .int 0, .int 0, .int 0, .ref yq14, .ref yq15, .ref yq16, .ref yq17, .int 0, .int 0, .int 0, .ref yq18, .ref yq19]))] H := hP
  have hD : va_D (lw_A s) [(yh, .inr (10, [.ref yq1, .ref yq2, .int 0, .int 0, .int 1, .int 0, .int 0, .int 0, .ref yq3, .ref yq4, .ref yq5, .ref yq6, .ref yq7, .ref yq8, .int 0, .int 0, .int 0, .int 0, .int 0, .int (-1), .int 0, .int 0, .int 0, .int 0, .int 0, .int 0, .int 0, .ref yq9, .ref yq10, .ref yq11, .ref yq12, .ref yq13, .int 0, .int 0, .int 0, .int 0, .ref yq14, .ref yq15, .ref yq16, .ref yq17, .int 0, .int 0, .int 0, .ref yq18, .ref yq19]))] := hD
  refine lv_aload_n hx hb dL_law_507 rfl (lv_at hl 2 rfl) ?_
  refine lv_aload_n hx hb dL_law_508 rfl (lv_at hl 0 rfl) ?_
  refine lv_iload_n hx hb dL_law_509 rfl (lv_at hl 3 rfl) ?_
  refine lv_iconst (v := 1) hx hb dL_law_510 (by decide) ?_
  refine lv_iadd hx hb dL_law_511 ?_
  refine lv_topi (fun z_4 ez_4 => ?_)
  obtain rfl : z_4 = 1 := ez_4.trans (by decide +kernel)
  refine va_sld hx hb hX hbl hbA hS (show ¬ ((1 : Int32) < 0 ∨ 5 ≤ (1 : Int32).toNatClampNeg) by decide +kernel) dL_law_512 ?_
  refine cVi (wr := []) (rest := [.int (rg 1 99 (xs (1 : Int32).toNatClampNeg) (-1000000002) (-1000000003))]) (k_m_drift yh yq1 yq2 yq3 yq4 yq5 yq6 yq7 yq8 yq9 yq10 yq11 yq12 yq13 yq14 yq15 yq16 yq17 yq18 yq19 (xs (1 : Int32).toNatClampNeg)) okV_X10_drift wd_468 hx hb hml hown hts hK hP hD hS hA hN hl.1 [0] [] rfl rfl rfl rfl (by decide) rfl rfl rfl (Nat.le_of_ble_eq_true rfl) (Nat.le_of_ble_eq_true rfl) (Nat.le_of_ble_eq_true rfl) (Nat.le_of_ble_eq_true rfl) (Nat.le_of_ble_eq_true rfl) dL_law_513 (fun r_6 u_5 H locs hw_u_5 hP hD hS => ?_)
  obtain rfl := hw_u_5
  have hP : va_P D classes [] H := hP
  have hD : va_D (lw_A s) [] := hD
  refine lv_icmp_eq (tgt := 1015) hx hb dL_law_516 (by decide) (fun c_7 => ?_) (fun c_7 => absurd rfl c_7)
  exact law_tail C1 hS hl
set_option maxHeartbeats 4000000 in
set_option maxRecDepth 100000 in
theorem law_undo {p : Program} {l : Launch} {e : Env} {s : State} {m : MethodId} {below : List Frame} {meth : Method} {c : Code} {D : va_G} {cI cZ : ClassId} {b : Nat} {xs : Nat → Int32} (xh xq1 xq2 xq6 xq14 xq22 xq26 xq31 xq35 xq36 xq41 xq44 xq50 xq59 xq29 yh yq1 yq2 yq3 yq4 yq5 yq6 yq7 yq8 yq9 yq10 yq11 yq12 yq13 yq14 yq15 yq16 yq17 yq18 yq19 : Nat) (C0 : lw_C p s m meth c b 5 xs) {H : Heap} {locs : List Loc} {ls : Array Slot} (hK : va_K D classes (TYS cI cZ) s) (hP : va_P D classes [(xh, .inr (9, [.ref xq1, .int 0, .int (-1), .ref xq2, .ref xq6, .ref xq14, .ref xq22, .ref xq26, .ref xq31, .ref xq35, .int 0, .ref xq36, .int 0, .ref xq41, .ref xq44, .ref xq50, .ref xq59])), (xq26, .inr (2, [.ref xq29, .int 0, .int 0])), (yh, .inr (10, [.ref yq1, .ref yq2, .int 0, .int 0, .int 1, .int 0, .int 0, .int 0, .ref yq3, .ref yq4, .ref yq5, .ref yq6, .ref yq7, .ref yq8, .int 0, .int 0, .int 0, .int 0, .int 0, .int (-1), .int 0, .int 0, .int 0, .int 0, .int 0, .int 0, .int 0, .ref yq9, .ref yq10, .ref yq11, .ref yq12, .ref yq13, .int 0, .int 0, .int 0, .int 0, .ref yq14, .ref yq15, .ref yq16, .ref yq17, .int 0, .int 0, .int 0, .ref yq18, .ref yq19]))] H) (hD : va_D (lw_A s) [(xh, .inr (9, [.ref xq1, .int 0, .int (-1), .ref xq2, .ref xq6, .ref xq14, .ref xq22, .ref xq26, .ref xq31, .ref xq35, .int 0, .ref xq36, .int 0, .ref xq41, .ref xq44, .ref xq50, .ref xq59])), (xq26, .inr (2, [.ref xq29, .int 0, .int 0])), (yh, .inr (10, [.ref yq1, .ref yq2, .int 0, .int 0, .int 1, .int 0, .int 0, .int 0, .ref yq3, .ref yq4, .ref yq5, .ref yq6, .ref yq7, .ref yq8, .int 0, .int 0, .int 0, .int 0, .int 0, .int (-1), .int 0, .int 0, .int 0, .int 0, .int 0, .int 0, .int 0, .ref yq9, .ref yq10, .ref yq11, .ref yq12, .ref yq13, .int 0, .int 0, .int 0, .int 0, .ref yq14, .ref yq15, .ref yq16, .ref yq17, .int 0, .int 0, .int 0, .ref yq18, .ref yq19]))]) (hS : va_S (lw_A s) s.heap H locs) (hl : lv_has ls 4 [(0, .ref b), (1, .ref xh), (2, .ref yh), (3, .int 0)]) : W p l e room_1 s m #[Value.ref b] below meth c H locs 60 4269 (lw_Z below #[Value.ref b] s) (F0 m 521 ls []) := by
  have C1 := C0
  obtain ⟨hx, hb, hr, hml, hown, hts, hX, hbl, hlocks, hN⟩ := C0
  have hA : ∀ q, s.heap.size ≤ q → lw_A s q := fun _ h => h
  have hbA : ¬ lw_A s b := Nat.not_le.mpr hbl
  refine lv_aload_n hx hb dL_law_521 rfl (lv_at hl 1 rfl) ?_
  refine cVi (wr := [(yh, .inr (10, [.ref yq1, .ref yq2, .int 0, .int 0, .int 1, .int 0, .int 0, .int 0, .ref yq3, .ref yq4, .ref yq5, .ref yq6, .ref yq7, .ref yq8, .int 0, .int 0, .int 0, .int 0, .int 0, .int (-1), .int 0, .int 0, .int 0, .int 0, .int 0, .int 0, .int 0, .ref yq9, .ref yq10, .ref yq11, .ref yq12, .ref yq13, .int 0, .int 0, .int 0, .int 0, .ref yq14, .ref yq15, .ref yq16, .ref yq17, .int 0, .int 0, .int 0, .ref yq18, .ref yq19]))]) (rest := []) (k_x_undo xh xq1 xq2 xq6 xq14 xq22 xq26 xq31 xq35 xq36 xq41 xq44 xq50 xq59 xq29) okV_X9_undo wd_472 hx hb hml hown hts hK hP hD hS hA hN hl.1 [0, 1] [2] rfl rfl rfl rfl (by decide) rfl rfl rfl (Nat.le_of_ble_eq_true rfl) (Nat.le_of_ble_eq_true rfl) (Nat.le_of_ble_eq_true rfl) (Nat.le_of_ble_eq_true rfl) (Nat.le_of_ble_eq_true rfl) dL_law_522 (fun r_2 u_1 H locs hw_u_1 hP hD hS => ?_)
  obtain rfl := hw_u_1
  have hP : va_P D classes [(yh, .inr (10, [.ref yq1, .ref yq2, .int 0, .int 0, .int 1, .int 0, .int 0, .int 0, .ref yq3, .ref yq4, .ref yq5, .ref yq6, .ref yq7, .ref yq8, .int 0, .int 0, .int 0, .int 0, .int 0, .int (-1), .int 0, .int 0, .int 0, .int 0, .int 0, .int 0, .int 0, .ref yq9, .ref yq10, .ref yq11, .ref yq12, .ref yq13, .int 0, .int 0, .int 0, .int 0, .ref yq14, .ref yq15, .ref yq16, .ref yq17, .int 0, .int 0, .int 0, .ref yq18, .ref yq19]))] H := hP
  have hD : va_D (lw_A s) [(yh, .inr (10, [.ref yq1, .ref yq2, .int 0, .int 0, .int 1, .int 0, .int 0, .int 0, .ref yq3, .ref yq4, .ref yq5, .ref yq6, .ref yq7, .ref yq8, .int 0, .int 0, .int 0, .int 0, .int 0, .int (-1), .int 0, .int 0, .int 0, .int 0, .int 0, .int 0, .int 0, .ref yq9, .ref yq10, .ref yq11, .ref yq12, .ref yq13, .int 0, .int 0, .int 0, .int 0, .ref yq14, .ref yq15, .ref yq16, .ref yq17, .int 0, .int 0, .int 0, .ref yq18, .ref yq19]))] := hD
  refine lv_aload_n hx hb dL_law_525 rfl (lv_at hl 2 rfl) ?_
  refine cVi (wr := []) (rest := [.int ((-1000000003))]) (k_m_undo yh yq1 yq2 yq3 yq4 yq5 yq6 yq7 yq8 yq9 yq10 yq11 yq12 yq13 yq14 yq15 yq16 yq17 yq18 yq19) okV_X10_undo wd_476 hx hb hml hown hts hK hP hD hS hA hN hl.1 [0] [] rfl rfl rfl rfl (by decide) rfl rfl rfl (Nat.le_of_ble_eq_true rfl) (Nat.le_of_ble_eq_true rfl) (Nat.le_of_ble_eq_true rfl) (Nat.le_of_ble_eq_true rfl) (Nat.le_of_ble_eq_true rfl) dL_law_526 (fun r_4 u_3 H locs hw_u_3 hP hD hS => ?_)
  obtain rfl := hw_u_3
  have hP : va_P D classes [] H := hP
  have hD : va_D (lw_A s) [] := hD
  refine lv_icmp_eq (tgt := 1015) hx hb dL_law_529 (by decide) (fun c_5 => ?_) (fun c_5 => absurd rfl c_5)
  exact law_tail C1 hS hl
set_option maxHeartbeats 4000000 in
set_option maxRecDepth 100000 in
theorem law_could {p : Program} {l : Launch} {e : Env} {s : State} {m : MethodId} {below : List Frame} {meth : Method} {c : Code} {D : va_G} {cI cZ : ClassId} {b : Nat} {xs : Nat → Int32} (xh xq1 xq2 xq6 xq14 xq22 xq26 xq31 xq35 xq36 xq41 xq44 xq50 xq59 xq9 xq10 xq11 xq12 xq13 yh yq1 yq2 yq3 yq4 yq5 yq6 yq7 yq8 yq9 yq10 yq11 yq12 yq13 yq14 yq15 yq16 yq17 yq18 yq19 : Nat) (C0 : lw_C p s m meth c b 5 xs) {H : Heap} {locs : List Loc} {ls : Array Slot} (hK : va_K D classes (TYS cI cZ) s) (hP : va_P D classes [(xh, .inr (9, [.ref xq1, .int 0, .int (-1), .ref xq2, .ref xq6, .ref xq14, .ref xq22, .ref xq26, .ref xq31, .ref xq35, .int 0, .ref xq36, .int 0, .ref xq41, .ref xq44, .ref xq50, .ref xq59])), (xq6, .inr (8, [.int 0, .int 1, .int 0, .int 0, .int 0, .ref xq9, .ref xq10, .ref xq11, .ref xq12, .ref xq13])), (yh, .inr (10, [.ref yq1, .ref yq2, .int 0, .int 0, .int 1, .int 0, .int 0, .int 0, .ref yq3, .ref yq4, .ref yq5, .ref yq6, .ref yq7, .ref yq8, .int 0, .int 0, .int 0, .int 0, .int 0, .int (-1), .int 0, .int 0, .int 0, .int 0, .int 0, .int 0, .int 0, .ref yq9, .ref yq10, .ref yq11, .ref yq12, .ref yq13, .int 0, .int 0, .int 0, .int 0, .ref yq14, .ref yq15, .ref yq16, .ref yq17, .int 0, .int 0, .int 0, .ref yq18, .ref yq19]))] H) (hD : va_D (lw_A s) [(xh, .inr (9, [.ref xq1, .int 0, .int (-1), .ref xq2, .ref xq6, .ref xq14, .ref xq22, .ref xq26, .ref xq31, .ref xq35, .int 0, .ref xq36, .int 0, .ref xq41, .ref xq44, .ref xq50, .ref xq59])), (xq6, .inr (8, [.int 0, .int 1, .int 0, .int 0, .int 0, .ref xq9, .ref xq10, .ref xq11, .ref xq12, .ref xq13])), (yh, .inr (10, [.ref yq1, .ref yq2, .int 0, .int 0, .int 1, .int 0, .int 0, .int 0, .ref yq3, .ref yq4, .ref yq5, .ref yq6, .ref yq7, .ref yq8, .int 0, .int 0, .int 0, .int 0, .int 0, .int (-1), .int 0, .int 0, .int 0, .int 0, .int 0, .int 0, .int 0, .ref yq9, .ref yq10, .ref yq11, .ref yq12, .ref yq13, .int 0, .int 0, .int 0, .int 0, .ref yq14, .ref yq15, .ref yq16, .ref yq17, .int 0, .int 0, .int 0, .ref yq18, .ref yq19]))]) (hS : va_S (lw_A s) s.heap H locs) (hl : lv_has ls 4 [(0, .ref b), (1, .ref xh), (2, .ref yh), (3, .int 0)]) : W p l e room_1 s m #[Value.ref b] below meth c H locs 60 4269 (lw_Z below #[Value.ref b] s) (F0 m 534 ls []) := by
  have C1 := C0
  obtain ⟨hx, hb, hr, hml, hown, hts, hX, hbl, hlocks, hN⟩ := C0
  have hA : ∀ q, s.heap.size ≤ q → lw_A s q := fun _ h => h
  have hbA : ¬ lw_A s b := Nat.not_le.mpr hbl
  refine lv_aload_n hx hb dL_law_534 rfl (lv_at hl 1 rfl) ?_
  refine lv_aload_n hx hb dL_law_535 rfl (lv_at hl 0 rfl) ?_
  refine lv_iload_n hx hb dL_law_536 rfl (lv_at hl 3 rfl) ?_
  refine lv_iconst (v := 1) hx hb dL_law_537 (by decide) ?_
  refine lv_iadd hx hb dL_law_538 ?_
  refine lv_topi (fun z_1 ez_1 => ?_)
  obtain rfl : z_1 = 1 := ez_1.trans (by decide +kernel)
  refine va_sld hx hb hX hbl hbA hS (show ¬ ((1 : Int32) < 0 ∨ 5 ≤ (1 : Int32).toNatClampNeg) by decide +kernel) dL_law_539 ?_
  refine lv_aload_n hx hb dL_law_540 rfl (lv_at hl 0 rfl) ?_
  refine lv_iload_n hx hb dL_law_541 rfl (lv_at hl 3 rfl) ?_
  refine lv_iconst (v := 2) hx hb dL_law_542 (by decide) ?_
  refine lv_iadd hx hb dL_law_543 ?_
  refine lv_topi (fun z_2 ez_2 => ?_)
  obtain rfl : z_2 = 2 := ez_2.trans (by decide +kernel)
  refine va_sld hx hb hX hbl hbA hS (show ¬ ((2 : Int32) < 0 ∨ 5 ≤ (2 : Int32).toNatClampNeg) by decide +kernel) dL_law_544 ?_
  refine lv_aload_n hx hb dL_law_545 rfl (lv_at hl 0 rfl) ?_
  refine lv_iload_n hx hb dL_law_546 rfl (lv_at hl 3 rfl) ?_
  refine lv_iconst (v := 3) hx hb dL_law_547 (by decide) ?_
  refine lv_iadd hx hb dL_law_548 ?_
  refine lv_topi (fun z_3 ez_3 => ?_)
  obtain rfl : z_3 = 3 := ez_3.trans (by decide +kernel)
  refine va_sld hx hb hX hbl hbA hS (show ¬ ((3 : Int32) < 0 ∨ 5 ≤ (3 : Int32).toNatClampNeg) by decide +kernel) dL_law_549 ?_
  refine lv_aload_n hx hb dL_law_550 rfl (lv_at hl 0 rfl) ?_
  refine lv_iload_n hx hb dL_law_551 rfl (lv_at hl 3 rfl) ?_
  refine lv_iconst (v := 4) hx hb dL_law_552 (by decide) ?_
  refine lv_iadd hx hb dL_law_553 ?_
  refine lv_topi (fun z_4 ez_4 => ?_)
  obtain rfl : z_4 = 4 := ez_4.trans (by decide +kernel)
  refine va_sld hx hb hX hbl hbA hS (show ¬ ((4 : Int32) < 0 ∨ 5 ≤ (4 : Int32).toNatClampNeg) by decide +kernel) dL_law_554 ?_
  refine cVi (wr := [(yh, .inr (10, [.ref yq1, .ref yq2, .int 0, .int 0, .int 1, .int 0, .int 0, .int 0, .ref yq3, .ref yq4, .ref yq5, .ref yq6, .ref yq7, .ref yq8, .int 0, .int 0, .int 0, .int 0, .int 0, .int (-1), .int 0, .int 0, .int 0, .int 0, .int 0, .int 0, .int 0, .ref yq9, .ref yq10, .ref yq11, .ref yq12, .ref yq13, .int 0, .int 0, .int 0, .int 0, .ref yq14, .ref yq15, .ref yq16, .ref yq17, .int 0, .int 0, .int 0, .ref yq18, .ref yq19]))]) (rest := []) (k_x_could xh xq1 xq2 xq6 xq14 xq22 xq26 xq31 xq35 xq36 xq41 xq44 xq50 xq59 xq9 xq10 xq11 xq12 xq13 (xs (1 : Int32).toNatClampNeg) (xs (2 : Int32).toNatClampNeg) (xs (3 : Int32).toNatClampNeg) (xs (4 : Int32).toNatClampNeg)) okV_X9_could wd_480 hx hb hml hown hts hK hP hD hS hA hN hl.1 [0, 1] [2] rfl rfl rfl rfl (by decide) rfl rfl rfl (Nat.le_of_ble_eq_true rfl) (Nat.le_of_ble_eq_true rfl) (Nat.le_of_ble_eq_true rfl) (Nat.le_of_ble_eq_true rfl) (Nat.le_of_ble_eq_true rfl) dL_law_555 (fun r_6 u_5 H locs hw_u_5 hP hD hS => ?_)
  obtain rfl := hw_u_5
  have hP : va_P D classes [(yh, .inr (10, [.ref yq1, .ref yq2, .int 0, .int 0, .int 1, .int 0, .int 0, .int 0, .ref yq3, .ref yq4, .ref yq5, .ref yq6, .ref yq7, .ref yq8, .int 0, .int 0, .int 0, .int 0, .int 0, .int (-1), .int 0, .int 0, .int 0, .int 0, .int 0, .int 0, .int 0, .ref yq9, .ref yq10, .ref yq11, .ref yq12, .ref yq13, .int 0, .int 0, .int 0, .int 0, .ref yq14, .ref yq15, .ref yq16, .ref yq17, .int 0, .int 0, .int 0, .ref yq18, .ref yq19]))] H := hP
  have hD : va_D (lw_A s) [(yh, .inr (10, [.ref yq1, .ref yq2, .int 0, .int 0, .int 1, .int 0, .int 0, .int 0, .ref yq3, .ref yq4, .ref yq5, .ref yq6, .ref yq7, .ref yq8, .int 0, .int 0, .int 0, .int 0, .int 0, .int (-1), .int 0, .int 0, .int 0, .int 0, .int 0, .int 0, .int 0, .ref yq9, .ref yq10, .ref yq11, .ref yq12, .ref yq13, .int 0, .int 0, .int 0, .int 0, .ref yq14, .ref yq15, .ref yq16, .ref yq17, .int 0, .int 0, .int 0, .ref yq18, .ref yq19]))] := hD
  refine lv_aload_n hx hb dL_law_558 rfl (lv_at hl 2 rfl) ?_
  refine lv_aload_n hx hb dL_law_559 rfl (lv_at hl 0 rfl) ?_
  refine lv_iload_n hx hb dL_law_560 rfl (lv_at hl 3 rfl) ?_
  refine lv_iconst (v := 1) hx hb dL_law_561 (by decide) ?_
  refine lv_iadd hx hb dL_law_562 ?_
  refine lv_topi (fun z_7 ez_7 => ?_)
  obtain rfl : z_7 = 1 := ez_7.trans (by decide +kernel)
  refine va_sld hx hb hX hbl hbA hS (show ¬ ((1 : Int32) < 0 ∨ 5 ≤ (1 : Int32).toNatClampNeg) by decide +kernel) dL_law_563 ?_
  refine lv_aload_n hx hb dL_law_564 rfl (lv_at hl 0 rfl) ?_
  refine lv_iload_n hx hb dL_law_565 rfl (lv_at hl 3 rfl) ?_
  refine lv_iconst (v := 2) hx hb dL_law_566 (by decide) ?_
  refine lv_iadd hx hb dL_law_567 ?_
  refine lv_topi (fun z_8 ez_8 => ?_)
  obtain rfl : z_8 = 2 := ez_8.trans (by decide +kernel)
  refine va_sld hx hb hX hbl hbA hS (show ¬ ((2 : Int32) < 0 ∨ 5 ≤ (2 : Int32).toNatClampNeg) by decide +kernel) dL_law_568 ?_
  refine lv_aload_n hx hb dL_law_569 rfl (lv_at hl 0 rfl) ?_
  refine lv_iload_n hx hb dL_law_570 rfl (lv_at hl 3 rfl) ?_
  refine lv_iconst (v := 3) hx hb dL_law_571 (by decide) ?_
  refine lv_iadd hx hb dL_law_572 ?_
  refine lv_topi (fun z_9 ez_9 => ?_)
  obtain rfl : z_9 = 3 := ez_9.trans (by decide +kernel)
  refine va_sld hx hb hX hbl hbA hS (show ¬ ((3 : Int32) < 0 ∨ 5 ≤ (3 : Int32).toNatClampNeg) by decide +kernel) dL_law_573 ?_
  refine lv_aload_n hx hb dL_law_574 rfl (lv_at hl 0 rfl) ?_
  refine lv_iload_n hx hb dL_law_575 rfl (lv_at hl 3 rfl) ?_
  refine lv_iconst (v := 4) hx hb dL_law_576 (by decide) ?_
  refine lv_iadd hx hb dL_law_577 ?_
  refine lv_topi (fun z_10 ez_10 => ?_)
  obtain rfl : z_10 = 4 := ez_10.trans (by decide +kernel)
  refine va_sld hx hb hX hbl hbA hS (show ¬ ((4 : Int32) < 0 ∨ 5 ≤ (4 : Int32).toNatClampNeg) by decide +kernel) dL_law_578 ?_
  refine cVi (wr := []) (rest := [.int ((-1000000001))]) (k_m_could yh yq1 yq2 yq3 yq4 yq5 yq6 yq7 yq8 yq9 yq10 yq11 yq12 yq13 yq14 yq15 yq16 yq17 yq18 yq19 (xs (1 : Int32).toNatClampNeg) (xs (2 : Int32).toNatClampNeg) (xs (3 : Int32).toNatClampNeg) (xs (4 : Int32).toNatClampNeg)) okV_X10_could wd_484 hx hb hml hown hts hK hP hD hS hA hN hl.1 [0] [] rfl rfl rfl rfl (by decide) rfl rfl rfl (Nat.le_of_ble_eq_true rfl) (Nat.le_of_ble_eq_true rfl) (Nat.le_of_ble_eq_true rfl) (Nat.le_of_ble_eq_true rfl) (Nat.le_of_ble_eq_true rfl) dL_law_579 (fun r_12 u_11 H locs hw_u_11 hP hD hS => ?_)
  obtain rfl := hw_u_11
  have hP : va_P D classes [] H := hP
  have hD : va_D (lw_A s) [] := hD
  refine lv_icmp_eq (tgt := 1015) hx hb dL_law_582 (by decide) (fun c_13 => ?_) (fun c_13 => absurd rfl c_13)
  exact law_tail C1 hS hl
set_option maxHeartbeats 4000000 in
set_option maxRecDepth 100000 in
theorem law_bestTheme {p : Program} {l : Launch} {e : Env} {s : State} {m : MethodId} {below : List Frame} {meth : Method} {c : Code} {D : va_G} {cI cZ : ClassId} {b : Nat} {xs : Nat → Int32} (xh xq1 xq2 xq6 xq14 xq22 xq26 xq31 xq35 xq36 xq41 xq44 xq50 xq59 xq9 xq10 xq11 xq12 xq13 yh yq1 yq2 yq3 yq4 yq5 yq6 yq7 yq8 yq9 yq10 yq11 yq12 yq13 yq14 yq15 yq16 yq17 yq18 yq19 : Nat) (C0 : lw_C p s m meth c b 5 xs) {H : Heap} {locs : List Loc} {ls : Array Slot} (hK : va_K D classes (TYS cI cZ) s) (hP : va_P D classes [(xh, .inr (9, [.ref xq1, .int 0, .int (-1), .ref xq2, .ref xq6, .ref xq14, .ref xq22, .ref xq26, .ref xq31, .ref xq35, .int 0, .ref xq36, .int 0, .ref xq41, .ref xq44, .ref xq50, .ref xq59])), (xq6, .inr (8, [.int 0, .int 1, .int 0, .int 0, .int 0, .ref xq9, .ref xq10, .ref xq11, .ref xq12, .ref xq13])), (yh, .inr (10, [.ref yq1, .ref yq2, .int 0, .int 0, .int 1, .int 0, .int 0, .int 0, .ref yq3, .ref yq4, .ref yq5, .ref yq6, .ref yq7, .ref yq8, .int 0, .int 0, .int 0, .int 0, .int 0, .int (-1), .int 0, .int 0, .int 0, .int 0, .int 0, .int 0, .int 0, .ref yq9, .ref yq10, .ref yq11, .ref yq12, .ref yq13, .int 0, .int 0, .int 0, .int 0, .ref yq14, .ref yq15, .ref yq16, .ref yq17, .int 0, .int 0, .int 0, .ref yq18, .ref yq19]))] H) (hD : va_D (lw_A s) [(xh, .inr (9, [.ref xq1, .int 0, .int (-1), .ref xq2, .ref xq6, .ref xq14, .ref xq22, .ref xq26, .ref xq31, .ref xq35, .int 0, .ref xq36, .int 0, .ref xq41, .ref xq44, .ref xq50, .ref xq59])), (xq6, .inr (8, [.int 0, .int 1, .int 0, .int 0, .int 0, .ref xq9, .ref xq10, .ref xq11, .ref xq12, .ref xq13])), (yh, .inr (10, [.ref yq1, .ref yq2, .int 0, .int 0, .int 1, .int 0, .int 0, .int 0, .ref yq3, .ref yq4, .ref yq5, .ref yq6, .ref yq7, .ref yq8, .int 0, .int 0, .int 0, .int 0, .int 0, .int (-1), .int 0, .int 0, .int 0, .int 0, .int 0, .int 0, .int 0, .ref yq9, .ref yq10, .ref yq11, .ref yq12, .ref yq13, .int 0, .int 0, .int 0, .int 0, .ref yq14, .ref yq15, .ref yq16, .ref yq17, .int 0, .int 0, .int 0, .ref yq18, .ref yq19]))]) (hS : va_S (lw_A s) s.heap H locs) (hl : lv_has ls 4 [(0, .ref b), (1, .ref xh), (2, .ref yh), (3, .int 0)]) : W p l e room_1 s m #[Value.ref b] below meth c H locs 60 4269 (lw_Z below #[Value.ref b] s) (F0 m 587 ls []) := by
  have C1 := C0
  obtain ⟨hx, hb, hr, hml, hown, hts, hX, hbl, hlocks, hN⟩ := C0
  have hA : ∀ q, s.heap.size ≤ q → lw_A s q := fun _ h => h
  have hbA : ¬ lw_A s b := Nat.not_le.mpr hbl
  refine lv_aload_n hx hb dL_law_587 rfl (lv_at hl 1 rfl) ?_
  refine lv_aload_n hx hb dL_law_588 rfl (lv_at hl 0 rfl) ?_
  refine lv_iload_n hx hb dL_law_589 rfl (lv_at hl 3 rfl) ?_
  refine lv_iconst (v := 1) hx hb dL_law_590 (by decide) ?_
  refine lv_iadd hx hb dL_law_591 ?_
  refine lv_topi (fun z_1 ez_1 => ?_)
  obtain rfl : z_1 = 1 := ez_1.trans (by decide +kernel)
  refine va_sld hx hb hX hbl hbA hS (show ¬ ((1 : Int32) < 0 ∨ 5 ≤ (1 : Int32).toNatClampNeg) by decide +kernel) dL_law_592 ?_
  refine lv_aload_n hx hb dL_law_593 rfl (lv_at hl 0 rfl) ?_
  refine lv_iload_n hx hb dL_law_594 rfl (lv_at hl 3 rfl) ?_
  refine lv_iconst (v := 2) hx hb dL_law_595 (by decide) ?_
  refine lv_iadd hx hb dL_law_596 ?_
  refine lv_topi (fun z_2 ez_2 => ?_)
  obtain rfl : z_2 = 2 := ez_2.trans (by decide +kernel)
  refine va_sld hx hb hX hbl hbA hS (show ¬ ((2 : Int32) < 0 ∨ 5 ≤ (2 : Int32).toNatClampNeg) by decide +kernel) dL_law_597 ?_
  refine cVi (wr := [(yh, .inr (10, [.ref yq1, .ref yq2, .int 0, .int 0, .int 1, .int 0, .int 0, .int 0, .ref yq3, .ref yq4, .ref yq5, .ref yq6, .ref yq7, .ref yq8, .int 0, .int 0, .int 0, .int 0, .int 0, .int (-1), .int 0, .int 0, .int 0, .int 0, .int 0, .int 0, .int 0, .ref yq9, .ref yq10, .ref yq11, .ref yq12, .ref yq13, .int 0, .int 0, .int 0, .int 0, .ref yq14, .ref yq15, .ref yq16, .ref yq17, .int 0, .int 0, .int 0, .ref yq18, .ref yq19]))]) (rest := []) (k_x_bestTheme xh xq1 xq2 xq6 xq14 xq22 xq26 xq31 xq35 xq36 xq41 xq44 xq50 xq59 xq9 xq10 xq11 xq12 xq13 (xs (1 : Int32).toNatClampNeg) (xs (2 : Int32).toNatClampNeg)) okV_X9_bestTheme wd_488 hx hb hml hown hts hK hP hD hS hA hN hl.1 [0, 1] [2] rfl rfl rfl rfl (by decide) rfl rfl rfl (Nat.le_of_ble_eq_true rfl) (Nat.le_of_ble_eq_true rfl) (Nat.le_of_ble_eq_true rfl) (Nat.le_of_ble_eq_true rfl) (Nat.le_of_ble_eq_true rfl) dL_law_598 (fun r_4 u_3 H locs hw_u_3 hP hD hS => ?_)
  obtain rfl := hw_u_3
  have hP : va_P D classes [(yh, .inr (10, [.ref yq1, .ref yq2, .int 0, .int 0, .int 1, .int 0, .int 0, .int 0, .ref yq3, .ref yq4, .ref yq5, .ref yq6, .ref yq7, .ref yq8, .int 0, .int 0, .int 0, .int 0, .int 0, .int (-1), .int 0, .int 0, .int 0, .int 0, .int 0, .int 0, .int 0, .ref yq9, .ref yq10, .ref yq11, .ref yq12, .ref yq13, .int 0, .int 0, .int 0, .int 0, .ref yq14, .ref yq15, .ref yq16, .ref yq17, .int 0, .int 0, .int 0, .ref yq18, .ref yq19]))] H := hP
  have hD : va_D (lw_A s) [(yh, .inr (10, [.ref yq1, .ref yq2, .int 0, .int 0, .int 1, .int 0, .int 0, .int 0, .ref yq3, .ref yq4, .ref yq5, .ref yq6, .ref yq7, .ref yq8, .int 0, .int 0, .int 0, .int 0, .int 0, .int (-1), .int 0, .int 0, .int 0, .int 0, .int 0, .int 0, .int 0, .ref yq9, .ref yq10, .ref yq11, .ref yq12, .ref yq13, .int 0, .int 0, .int 0, .int 0, .ref yq14, .ref yq15, .ref yq16, .ref yq17, .int 0, .int 0, .int 0, .ref yq18, .ref yq19]))] := hD
  refine lv_aload_n hx hb dL_law_601 rfl (lv_at hl 2 rfl) ?_
  refine lv_aload_n hx hb dL_law_602 rfl (lv_at hl 0 rfl) ?_
  refine lv_iload_n hx hb dL_law_603 rfl (lv_at hl 3 rfl) ?_
  refine lv_iconst (v := 1) hx hb dL_law_604 (by decide) ?_
  refine lv_iadd hx hb dL_law_605 ?_
  refine lv_topi (fun z_5 ez_5 => ?_)
  obtain rfl : z_5 = 1 := ez_5.trans (by decide +kernel)
  refine va_sld hx hb hX hbl hbA hS (show ¬ ((1 : Int32) < 0 ∨ 5 ≤ (1 : Int32).toNatClampNeg) by decide +kernel) dL_law_606 ?_
  refine lv_aload_n hx hb dL_law_607 rfl (lv_at hl 0 rfl) ?_
  refine lv_iload_n hx hb dL_law_608 rfl (lv_at hl 3 rfl) ?_
  refine lv_iconst (v := 2) hx hb dL_law_609 (by decide) ?_
  refine lv_iadd hx hb dL_law_610 ?_
  refine lv_topi (fun z_6 ez_6 => ?_)
  obtain rfl : z_6 = 2 := ez_6.trans (by decide +kernel)
  refine va_sld hx hb hX hbl hbA hS (show ¬ ((2 : Int32) < 0 ∨ 5 ≤ (2 : Int32).toNatClampNeg) by decide +kernel) dL_law_611 ?_
  refine cVi (wr := []) (rest := [.int ((-1000000001))]) (k_m_bestTheme yh yq1 yq2 yq3 yq4 yq5 yq6 yq7 yq8 yq9 yq10 yq11 yq12 yq13 yq14 yq15 yq16 yq17 yq18 yq19 (xs (1 : Int32).toNatClampNeg) (xs (2 : Int32).toNatClampNeg)) okV_X10_bestTheme wd_492 hx hb hml hown hts hK hP hD hS hA hN hl.1 [0] [] rfl rfl rfl rfl (by decide) rfl rfl rfl (Nat.le_of_ble_eq_true rfl) (Nat.le_of_ble_eq_true rfl) (Nat.le_of_ble_eq_true rfl) (Nat.le_of_ble_eq_true rfl) (Nat.le_of_ble_eq_true rfl) dL_law_612 (fun r_8 u_7 H locs hw_u_7 hP hD hS => ?_)
  obtain rfl := hw_u_7
  have hP : va_P D classes [] H := hP
  have hD : va_D (lw_A s) [] := hD
  refine lv_icmp_eq (tgt := 1015) hx hb dL_law_615 (by decide) (fun c_9 => ?_) (fun c_9 => absurd rfl c_9)
  exact law_tail C1 hS hl
set_option maxHeartbeats 4000000 in
set_option maxRecDepth 100000 in
theorem law_who {p : Program} {l : Launch} {e : Env} {s : State} {m : MethodId} {below : List Frame} {meth : Method} {c : Code} {D : va_G} {cI cZ : ClassId} {b : Nat} {xs : Nat → Int32} (xh xq1 xq2 xq6 xq14 xq22 xq26 xq31 xq35 xq36 xq41 xq44 xq50 xq59 xq9 xq10 xq11 xq12 xq13 yh yq1 yq2 yq3 yq4 yq5 yq6 yq7 yq8 yq9 yq10 yq11 yq12 yq13 yq14 yq15 yq16 yq17 yq18 yq19 : Nat) (C0 : lw_C p s m meth c b 5 xs) {H : Heap} {locs : List Loc} {ls : Array Slot} (hK : va_K D classes (TYS cI cZ) s) (hP : va_P D classes [(xh, .inr (9, [.ref xq1, .int 0, .int (-1), .ref xq2, .ref xq6, .ref xq14, .ref xq22, .ref xq26, .ref xq31, .ref xq35, .int 0, .ref xq36, .int 0, .ref xq41, .ref xq44, .ref xq50, .ref xq59])), (xq6, .inr (8, [.int 0, .int 1, .int 0, .int 0, .int 0, .ref xq9, .ref xq10, .ref xq11, .ref xq12, .ref xq13])), (yh, .inr (10, [.ref yq1, .ref yq2, .int 0, .int 0, .int 1, .int 0, .int 0, .int 0, .ref yq3, .ref yq4, .ref yq5, .ref yq6, .ref yq7, .ref yq8, .int 0, .int 0, .int 0, .int 0, .int 0, .int (-1), .int 0, .int 0, .int 0, .int 0, .int 0, .int 0, .int 0, .ref yq9, .ref yq10, .ref yq11, .ref yq12, .ref yq13, .int 0, .int 0, .int 0, .int 0, .ref yq14, .ref yq15, .ref yq16, .ref yq17, .int 0, .int 0, .int 0, .ref yq18, .ref yq19]))] H) (hD : va_D (lw_A s) [(xh, .inr (9, [.ref xq1, .int 0, .int (-1), .ref xq2, .ref xq6, .ref xq14, .ref xq22, .ref xq26, .ref xq31, .ref xq35, .int 0, .ref xq36, .int 0, .ref xq41, .ref xq44, .ref xq50, .ref xq59])), (xq6, .inr (8, [.int 0, .int 1, .int 0, .int 0, .int 0, .ref xq9, .ref xq10, .ref xq11, .ref xq12, .ref xq13])), (yh, .inr (10, [.ref yq1, .ref yq2, .int 0, .int 0, .int 1, .int 0, .int 0, .int 0, .ref yq3, .ref yq4, .ref yq5, .ref yq6, .ref yq7, .ref yq8, .int 0, .int 0, .int 0, .int 0, .int 0, .int (-1), .int 0, .int 0, .int 0, .int 0, .int 0, .int 0, .int 0, .ref yq9, .ref yq10, .ref yq11, .ref yq12, .ref yq13, .int 0, .int 0, .int 0, .int 0, .ref yq14, .ref yq15, .ref yq16, .ref yq17, .int 0, .int 0, .int 0, .ref yq18, .ref yq19]))]) (hS : va_S (lw_A s) s.heap H locs) (hl : lv_has ls 4 [(0, .ref b), (1, .ref xh), (2, .ref yh), (3, .int 0)]) : W p l e room_1 s m #[Value.ref b] below meth c H locs 60 4269 (lw_Z below #[Value.ref b] s) (F0 m 620 ls []) := by
  have C1 := C0
  obtain ⟨hx, hb, hr, hml, hown, hts, hX, hbl, hlocks, hN⟩ := C0
  have hA : ∀ q, s.heap.size ≤ q → lw_A s q := fun _ h => h
  have hbA : ¬ lw_A s b := Nat.not_le.mpr hbl
  refine lv_aload_n hx hb dL_law_620 rfl (lv_at hl 1 rfl) ?_
  refine lv_aload_n hx hb dL_law_621 rfl (lv_at hl 0 rfl) ?_
  refine lv_iload_n hx hb dL_law_622 rfl (lv_at hl 3 rfl) ?_
  refine lv_iconst (v := 1) hx hb dL_law_623 (by decide) ?_
  refine lv_iadd hx hb dL_law_624 ?_
  refine lv_topi (fun z_1 ez_1 => ?_)
  obtain rfl : z_1 = 1 := ez_1.trans (by decide +kernel)
  refine va_sld hx hb hX hbl hbA hS (show ¬ ((1 : Int32) < 0 ∨ 5 ≤ (1 : Int32).toNatClampNeg) by decide +kernel) dL_law_625 ?_
  refine lv_aload_n hx hb dL_law_626 rfl (lv_at hl 0 rfl) ?_
  refine lv_iload_n hx hb dL_law_627 rfl (lv_at hl 3 rfl) ?_
  refine lv_iconst (v := 2) hx hb dL_law_628 (by decide) ?_
  refine lv_iadd hx hb dL_law_629 ?_
  refine lv_topi (fun z_2 ez_2 => ?_)
  obtain rfl : z_2 = 2 := ez_2.trans (by decide +kernel)
  refine va_sld hx hb hX hbl hbA hS (show ¬ ((2 : Int32) < 0 ∨ 5 ≤ (2 : Int32).toNatClampNeg) by decide +kernel) dL_law_630 ?_
  refine cVi (wr := [(yh, .inr (10, [.ref yq1, .ref yq2, .int 0, .int 0, .int 1, .int 0, .int 0, .int 0, .ref yq3, .ref yq4, .ref yq5, .ref yq6, .ref yq7, .ref yq8, .int 0, .int 0, .int 0, .int 0, .int 0, .int (-1), .int 0, .int 0, .int 0, .int 0, .int 0, .int 0, .int 0, .ref yq9, .ref yq10, .ref yq11, .ref yq12, .ref yq13, .int 0, .int 0, .int 0, .int 0, .ref yq14, .ref yq15, .ref yq16, .ref yq17, .int 0, .int 0, .int 0, .ref yq18, .ref yq19]))]) (rest := []) (k_x_who xh xq1 xq2 xq6 xq14 xq22 xq26 xq31 xq35 xq36 xq41 xq44 xq50 xq59 xq9 xq10 xq11 xq12 xq13 (xs (1 : Int32).toNatClampNeg) (xs (2 : Int32).toNatClampNeg)) okV_X9_who wd_496 hx hb hml hown hts hK hP hD hS hA hN hl.1 [0, 1] [2] rfl rfl rfl rfl (by decide) rfl rfl rfl (Nat.le_of_ble_eq_true rfl) (Nat.le_of_ble_eq_true rfl) (Nat.le_of_ble_eq_true rfl) (Nat.le_of_ble_eq_true rfl) (Nat.le_of_ble_eq_true rfl) dL_law_631 (fun r_4 u_3 H locs hw_u_3 hP hD hS => ?_)
  obtain rfl := hw_u_3
  have hP : va_P D classes [(yh, .inr (10, [.ref yq1, .ref yq2, .int 0, .int 0, .int 1, .int 0, .int 0, .int 0, .ref yq3, .ref yq4, .ref yq5, .ref yq6, .ref yq7, .ref yq8, .int 0, .int 0, .int 0, .int 0, .int 0, .int (-1), .int 0, .int 0, .int 0, .int 0, .int 0, .int 0, .int 0, .ref yq9, .ref yq10, .ref yq11, .ref yq12, .ref yq13, .int 0, .int 0, .int 0, .int 0, .ref yq14, .ref yq15, .ref yq16, .ref yq17, .int 0, .int 0, .int 0, .ref yq18, .ref yq19]))] H := hP
  have hD : va_D (lw_A s) [(yh, .inr (10, [.ref yq1, .ref yq2, .int 0, .int 0, .int 1, .int 0, .int 0, .int 0, .ref yq3, .ref yq4, .ref yq5, .ref yq6, .ref yq7, .ref yq8, .int 0, .int 0, .int 0, .int 0, .int 0, .int (-1), .int 0, .int 0, .int 0, .int 0, .int 0, .int 0, .int 0, .ref yq9, .ref yq10, .ref yq11, .ref yq12, .ref yq13, .int 0, .int 0, .int 0, .int 0, .ref yq14, .ref yq15, .ref yq16, .ref yq17, .int 0, .int 0, .int 0, .ref yq18, .ref yq19]))] := hD
  refine lv_aload_n hx hb dL_law_634 rfl (lv_at hl 2 rfl) ?_
  refine lv_aload_n hx hb dL_law_635 rfl (lv_at hl 0 rfl) ?_
  refine lv_iload_n hx hb dL_law_636 rfl (lv_at hl 3 rfl) ?_
  refine lv_iconst (v := 1) hx hb dL_law_637 (by decide) ?_
  refine lv_iadd hx hb dL_law_638 ?_
  refine lv_topi (fun z_5 ez_5 => ?_)
  obtain rfl : z_5 = 1 := ez_5.trans (by decide +kernel)
  refine va_sld hx hb hX hbl hbA hS (show ¬ ((1 : Int32) < 0 ∨ 5 ≤ (1 : Int32).toNatClampNeg) by decide +kernel) dL_law_639 ?_
  refine lv_aload_n hx hb dL_law_640 rfl (lv_at hl 0 rfl) ?_
  refine lv_iload_n hx hb dL_law_641 rfl (lv_at hl 3 rfl) ?_
  refine lv_iconst (v := 2) hx hb dL_law_642 (by decide) ?_
  refine lv_iadd hx hb dL_law_643 ?_
  refine lv_topi (fun z_6 ez_6 => ?_)
  obtain rfl : z_6 = 2 := ez_6.trans (by decide +kernel)
  refine va_sld hx hb hX hbl hbA hS (show ¬ ((2 : Int32) < 0 ∨ 5 ≤ (2 : Int32).toNatClampNeg) by decide +kernel) dL_law_644 ?_
  refine cVi (wr := []) (rest := [.int ((-1000000001))]) (k_m_who yh yq1 yq2 yq3 yq4 yq5 yq6 yq7 yq8 yq9 yq10 yq11 yq12 yq13 yq14 yq15 yq16 yq17 yq18 yq19 (xs (1 : Int32).toNatClampNeg) (xs (2 : Int32).toNatClampNeg)) okV_X10_who wd_500 hx hb hml hown hts hK hP hD hS hA hN hl.1 [0] [] rfl rfl rfl rfl (by decide) rfl rfl rfl (Nat.le_of_ble_eq_true rfl) (Nat.le_of_ble_eq_true rfl) (Nat.le_of_ble_eq_true rfl) (Nat.le_of_ble_eq_true rfl) (Nat.le_of_ble_eq_true rfl) dL_law_645 (fun r_8 u_7 H locs hw_u_7 hP hD hS => ?_)
  obtain rfl := hw_u_7
  have hP : va_P D classes [] H := hP
  have hD : va_D (lw_A s) [] := hD
  refine lv_icmp_eq (tgt := 1015) hx hb dL_law_648 (by decide) (fun c_9 => ?_) (fun c_9 => absurd rfl c_9)
  exact law_tail C1 hS hl
set_option maxHeartbeats 4000000 in
set_option maxRecDepth 100000 in
theorem law_order {p : Program} {l : Launch} {e : Env} {s : State} {m : MethodId} {below : List Frame} {meth : Method} {c : Code} {D : va_G} {cI cZ : ClassId} {b : Nat} {xs : Nat → Int32} (xh xq1 xq2 xq6 xq14 xq22 xq26 xq31 xq35 xq36 xq41 xq44 xq50 xq59 xq53 xq54 xq55 xq56 xq57 xq58 xq9 xq10 xq11 xq12 xq13 xu23 yh yq1 yq2 yq3 yq4 yq5 yq6 yq7 yq8 yq9 yq10 yq11 yq12 yq13 yq14 yq15 yq16 yq17 yq18 yq19 : Nat) (C0 : lw_C p s m meth c b 5 xs) {H : Heap} {locs : List Loc} {ls : Array Slot} (hK : va_K D classes (TYS cI cZ) s) (hP : va_P D classes [(xh, .inr (9, [.ref xq1, .int 0, .int (-1), .ref xq2, .ref xq6, .ref xq14, .ref xq22, .ref xq26, .ref xq31, .ref xq35, .int 0, .ref xq36, .int 0, .ref xq41, .ref xq44, .ref xq50, .ref xq59])), (xq50, .inr (1, [.int 0, .ref xq53, .ref xq54, .ref xq55, .ref xq56, .ref xq57, .ref xq58, .int 0, .int 0, .null])), (xq54, .inl (cI, 6, .inl z0)), (xq55, .inl (cI, 48, .inl z0)), (xq56, .inl (cI, 128, .inl z0)), (xq57, .inl (cI, 128, .inl z0)), (xq58, .inl (cI, 128, .inl z0)), (xq6, .inr (8, [.int 0, .int 1, .int 0, .int 0, .int 0, .ref xq9, .ref xq10, .ref xq11, .ref xq12, .ref xq13])), (xq22, .inr (7, [.ref xu23])), (xu23, .inl (cI, 41, .inl (cB2 z0 7))), (yh, .inr (10, [.ref yq1, .ref yq2, .int 0, .int 0, .int 1, .int 0, .int 0, .int 0, .ref yq3, .ref yq4, .ref yq5, .ref yq6, .ref yq7, .ref yq8, .int 0, .int 0, .int 0, .int 0, .int 0, .int (-1), .int 0, .int 0, .int 0, .int 0, .int 0, .int 0, .int 0, .ref yq9, .ref yq10, .ref yq11, .ref yq12, .ref yq13, .int 0, .int 0, .int 0, .int 0, .ref yq14, .ref yq15, .ref yq16, .ref yq17, .int 0, .int 0, .int 0, .ref yq18, .ref yq19])), (yq1, .inl (cI, 1302, .inl (upd (wC z0 7) (41 : Int32).toNatClampNeg (z0 (41 : Int32).toNatClampNeg)))), (yq16, .inl (cI, 8, .inl z0))] H) (hD : va_D (lw_A s) [(xh, .inr (9, [.ref xq1, .int 0, .int (-1), .ref xq2, .ref xq6, .ref xq14, .ref xq22, .ref xq26, .ref xq31, .ref xq35, .int 0, .ref xq36, .int 0, .ref xq41, .ref xq44, .ref xq50, .ref xq59])), (xq50, .inr (1, [.int 0, .ref xq53, .ref xq54, .ref xq55, .ref xq56, .ref xq57, .ref xq58, .int 0, .int 0, .null])), (xq54, .inl (cI, 6, .inl z0)), (xq55, .inl (cI, 48, .inl z0)), (xq56, .inl (cI, 128, .inl z0)), (xq57, .inl (cI, 128, .inl z0)), (xq58, .inl (cI, 128, .inl z0)), (xq6, .inr (8, [.int 0, .int 1, .int 0, .int 0, .int 0, .ref xq9, .ref xq10, .ref xq11, .ref xq12, .ref xq13])), (xq22, .inr (7, [.ref xu23])), (xu23, .inl (cI, 41, .inl (cB2 z0 7))), (yh, .inr (10, [.ref yq1, .ref yq2, .int 0, .int 0, .int 1, .int 0, .int 0, .int 0, .ref yq3, .ref yq4, .ref yq5, .ref yq6, .ref yq7, .ref yq8, .int 0, .int 0, .int 0, .int 0, .int 0, .int (-1), .int 0, .int 0, .int 0, .int 0, .int 0, .int 0, .int 0, .ref yq9, .ref yq10, .ref yq11, .ref yq12, .ref yq13, .int 0, .int 0, .int 0, .int 0, .ref yq14, .ref yq15, .ref yq16, .ref yq17, .int 0, .int 0, .int 0, .ref yq18, .ref yq19])), (yq1, .inl (cI, 1302, .inl (upd (wC z0 7) (41 : Int32).toNatClampNeg (z0 (41 : Int32).toNatClampNeg)))), (yq16, .inl (cI, 8, .inl z0))]) (hS : va_S (lw_A s) s.heap H locs) (hl : lv_has ls 4 [(0, .ref b), (1, .ref xh), (2, .ref yh), (3, .int 0)]) : W p l e room_1 s m #[Value.ref b] below meth c H locs 60 4269 (lw_Z below #[Value.ref b] s) (F0 m 653 ls []) := by
  have C1 := C0
  obtain ⟨hx, hb, hr, hml, hown, hts, hX, hbl, hlocks, hN⟩ := C0
  have hA : ∀ q, s.heap.size ≤ q → lw_A s q := fun _ h => h
  have hbA : ¬ lw_A s b := Nat.not_le.mpr hbl
  refine lv_aload_n hx hb dL_law_653 rfl (lv_at hl 1 rfl) ?_
  refine lv_aload_n hx hb dL_law_654 rfl (lv_at hl 0 rfl) ?_
  refine lv_iload_n hx hb dL_law_655 rfl (lv_at hl 3 rfl) ?_
  refine lv_iconst (v := 1) hx hb dL_law_656 (by decide) ?_
  refine lv_iadd hx hb dL_law_657 ?_
  refine lv_topi (fun z_1 ez_1 => ?_)
  obtain rfl : z_1 = 1 := ez_1.trans (by decide +kernel)
  refine va_sld hx hb hX hbl hbA hS (show ¬ ((1 : Int32) < 0 ∨ 5 ≤ (1 : Int32).toNatClampNeg) by decide +kernel) dL_law_658 ?_
  refine cVi (wr := [(yh, .inr (10, [.ref yq1, .ref yq2, .int 0, .int 0, .int 1, .int 0, .int 0, .int 0, .ref yq3, .ref yq4, .ref yq5, .ref yq6, .ref yq7, .ref yq8, .int 0, .int 0, .int 0, .int 0, .int 0, .int (-1), .int 0, .int 0, .int 0, .int 0, .int 0, .int 0, .int 0, .ref yq9, .ref yq10, .ref yq11, .ref yq12, .ref yq13, .int 0, .int 0, .int 0, .int 0, .ref yq14, .ref yq15, .ref yq16, .ref yq17, .int 0, .int 0, .int 0, .ref yq18, .ref yq19])), (yq1, .inl (cI, 1302, .inl (upd (wC z0 7) (41 : Int32).toNatClampNeg (z0 (41 : Int32).toNatClampNeg)))), (yq16, .inl (cI, 8, .inl z0))]) (rest := []) (k_x_order xh xq1 xq2 xq6 xq14 xq22 xq26 xq31 xq35 xq36 xq41 xq44 xq50 xq59 xq53 xq54 xq55 xq56 xq57 xq58 xq9 xq10 xq11 xq12 xq13 xu23 (xs (1 : Int32).toNatClampNeg)) okV_X9_order wd_504 hx hb hml hown hts hK hP hD hS hA hN hl.1 [0, 1, 2, 3, 4, 5, 6, 7, 8, 9] [10, 11, 12] rfl rfl rfl rfl (by decide) rfl rfl rfl (Nat.le_of_ble_eq_true rfl) (Nat.le_of_ble_eq_true rfl) (Nat.le_of_ble_eq_true rfl) (Nat.le_of_ble_eq_true rfl) (Nat.le_of_ble_eq_true rfl) dL_law_659 (fun r_3 u_2 H locs hw_u_2 hP hD hS => ?_)
  obtain rfl := hw_u_2
  have hP : va_P D classes [(yh, .inr (10, [.ref yq1, .ref yq2, .int 0, .int 0, .int 1, .int 0, .int 0, .int 0, .ref yq3, .ref yq4, .ref yq5, .ref yq6, .ref yq7, .ref yq8, .int 0, .int 0, .int 0, .int 0, .int 0, .int (-1), .int 0, .int 0, .int 0, .int 0, .int 0, .int 0, .int 0, .ref yq9, .ref yq10, .ref yq11, .ref yq12, .ref yq13, .int 0, .int 0, .int 0, .int 0, .ref yq14, .ref yq15, .ref yq16, .ref yq17, .int 0, .int 0, .int 0, .ref yq18, .ref yq19])), (yq1, .inl (cI, 1302, .inl (upd (wC z0 7) (41 : Int32).toNatClampNeg (z0 (41 : Int32).toNatClampNeg)))), (yq16, .inl (cI, 8, .inl z0))] H := hP
  have hD : va_D (lw_A s) [(yh, .inr (10, [.ref yq1, .ref yq2, .int 0, .int 0, .int 1, .int 0, .int 0, .int 0, .ref yq3, .ref yq4, .ref yq5, .ref yq6, .ref yq7, .ref yq8, .int 0, .int 0, .int 0, .int 0, .int 0, .int (-1), .int 0, .int 0, .int 0, .int 0, .int 0, .int 0, .int 0, .ref yq9, .ref yq10, .ref yq11, .ref yq12, .ref yq13, .int 0, .int 0, .int 0, .int 0, .ref yq14, .ref yq15, .ref yq16, .ref yq17, .int 0, .int 0, .int 0, .ref yq18, .ref yq19])), (yq1, .inl (cI, 1302, .inl (upd (wC z0 7) (41 : Int32).toNatClampNeg (z0 (41 : Int32).toNatClampNeg)))), (yq16, .inl (cI, 8, .inl z0))] := hD
  refine lv_aload_n hx hb dL_law_662 rfl (lv_at hl 2 rfl) ?_
  refine lv_aload_n hx hb dL_law_663 rfl (lv_at hl 0 rfl) ?_
  refine lv_iload_n hx hb dL_law_664 rfl (lv_at hl 3 rfl) ?_
  refine lv_iconst (v := 1) hx hb dL_law_665 (by decide) ?_
  refine lv_iadd hx hb dL_law_666 ?_
  refine lv_topi (fun z_4 ez_4 => ?_)
  obtain rfl : z_4 = 1 := ez_4.trans (by decide +kernel)
  refine va_sld hx hb hX hbl hbA hS (show ¬ ((1 : Int32) < 0 ∨ 5 ≤ (1 : Int32).toNatClampNeg) by decide +kernel) dL_law_667 ?_
  refine cVi (wr := []) (rest := [.int (orderS (xs (1 : Int32).toNatClampNeg))]) (k_m_order yh yq1 yq2 yq3 yq4 yq5 yq6 yq7 yq8 yq9 yq10 yq11 yq12 yq13 yq14 yq15 yq16 yq17 yq18 yq19 (xs (1 : Int32).toNatClampNeg)) okV_X10_order wd_508 hx hb hml hown hts hK hP hD hS hA hN hl.1 [0, 1, 2] [] rfl rfl rfl rfl (by decide) rfl rfl rfl (Nat.le_of_ble_eq_true rfl) (Nat.le_of_ble_eq_true rfl) (Nat.le_of_ble_eq_true rfl) (Nat.le_of_ble_eq_true rfl) (Nat.le_of_ble_eq_true rfl) dL_law_668 (fun r_6 u_5 H locs hw_u_5 hP hD hS => ?_)
  obtain rfl := hw_u_5
  have hP : va_P D classes [] H := hP
  have hD : va_D (lw_A s) [] := hD
  refine lv_icmp_eq (tgt := 1015) hx hb dL_law_671 (by decide) (fun c_7 => ?_) (fun c_7 => absurd rfl c_7)
  exact law_tail C1 hS hl
set_option maxHeartbeats 4000000 in
set_option maxRecDepth 100000 in
theorem law_toldHer {p : Program} {l : Launch} {e : Env} {s : State} {m : MethodId} {below : List Frame} {meth : Method} {c : Code} {D : va_G} {cI cZ : ClassId} {b : Nat} {xs : Nat → Int32} (xh xq1 xq2 xq6 xq14 xq22 xq26 xq31 xq35 xq36 xq41 xq44 xq50 xq59 xq9 xq10 xq11 xq12 xq13 yh yq1 yq2 yq3 yq4 yq5 yq6 yq7 yq8 yq9 yq10 yq11 yq12 yq13 yq14 yq15 yq16 yq17 yq18 yq19 : Nat) (C0 : lw_C p s m meth c b 5 xs) {H : Heap} {locs : List Loc} {ls : Array Slot} (hK : va_K D classes (TYS cI cZ) s) (hP : va_P D classes [(xh, .inr (9, [.ref xq1, .int 0, .int (-1), .ref xq2, .ref xq6, .ref xq14, .ref xq22, .ref xq26, .ref xq31, .ref xq35, .int 0, .ref xq36, .int 0, .ref xq41, .ref xq44, .ref xq50, .ref xq59])), (xq6, .inr (8, [.int 0, .int 1, .int 0, .int 0, .int 0, .ref xq9, .ref xq10, .ref xq11, .ref xq12, .ref xq13])), (yh, .inr (10, [.ref yq1, .ref yq2, .int 0, .int 0, .int 1, .int 0, .int 0, .int 0, .ref yq3, .ref yq4, .ref yq5, .ref yq6, .ref yq7, .ref yq8, .int 0, .int 0, .int 0, .int 0, .int 0, .int (-1), .int 0, .int 0, .int 0, .int 0, .int 0, .int 0, .int 0, .ref yq9, .ref yq10, .ref yq11, .ref yq12, .ref yq13, .int 0, .int 0, .int 0, .int 0, .ref yq14, .ref yq15, .ref yq16, .ref yq17, .int 0, .int 0, .int 0, .ref yq18, .ref yq19]))] H) (hD : va_D (lw_A s) [(xh, .inr (9, [.ref xq1, .int 0, .int (-1), .ref xq2, .ref xq6, .ref xq14, .ref xq22, .ref xq26, .ref xq31, .ref xq35, .int 0, .ref xq36, .int 0, .ref xq41, .ref xq44, .ref xq50, .ref xq59])), (xq6, .inr (8, [.int 0, .int 1, .int 0, .int 0, .int 0, .ref xq9, .ref xq10, .ref xq11, .ref xq12, .ref xq13])), (yh, .inr (10, [.ref yq1, .ref yq2, .int 0, .int 0, .int 1, .int 0, .int 0, .int 0, .ref yq3, .ref yq4, .ref yq5, .ref yq6, .ref yq7, .ref yq8, .int 0, .int 0, .int 0, .int 0, .int 0, .int (-1), .int 0, .int 0, .int 0, .int 0, .int 0, .int 0, .int 0, .ref yq9, .ref yq10, .ref yq11, .ref yq12, .ref yq13, .int 0, .int 0, .int 0, .int 0, .ref yq14, .ref yq15, .ref yq16, .ref yq17, .int 0, .int 0, .int 0, .ref yq18, .ref yq19]))]) (hS : va_S (lw_A s) s.heap H locs) (hl : lv_has ls 4 [(0, .ref b), (1, .ref xh), (2, .ref yh), (3, .int 0)]) : W p l e room_1 s m #[Value.ref b] below meth c H locs 60 4269 (lw_Z below #[Value.ref b] s) (F0 m 676 ls []) := by
  have C1 := C0
  obtain ⟨hx, hb, hr, hml, hown, hts, hX, hbl, hlocks, hN⟩ := C0
  have hA : ∀ q, s.heap.size ≤ q → lw_A s q := fun _ h => h
  have hbA : ¬ lw_A s b := Nat.not_le.mpr hbl
  refine lv_aload_n hx hb dL_law_676 rfl (lv_at hl 1 rfl) ?_
  refine lv_aload_n hx hb dL_law_677 rfl (lv_at hl 0 rfl) ?_
  refine lv_iload_n hx hb dL_law_678 rfl (lv_at hl 3 rfl) ?_
  refine lv_iconst (v := 1) hx hb dL_law_679 (by decide) ?_
  refine lv_iadd hx hb dL_law_680 ?_
  refine lv_topi (fun z_1 ez_1 => ?_)
  obtain rfl : z_1 = 1 := ez_1.trans (by decide +kernel)
  refine va_sld hx hb hX hbl hbA hS (show ¬ ((1 : Int32) < 0 ∨ 5 ≤ (1 : Int32).toNatClampNeg) by decide +kernel) dL_law_681 ?_
  refine lv_aload_n hx hb dL_law_682 rfl (lv_at hl 0 rfl) ?_
  refine lv_iload_n hx hb dL_law_683 rfl (lv_at hl 3 rfl) ?_
  refine lv_iconst (v := 2) hx hb dL_law_684 (by decide) ?_
  refine lv_iadd hx hb dL_law_685 ?_
  refine lv_topi (fun z_2 ez_2 => ?_)
  obtain rfl : z_2 = 2 := ez_2.trans (by decide +kernel)
  refine va_sld hx hb hX hbl hbA hS (show ¬ ((2 : Int32) < 0 ∨ 5 ≤ (2 : Int32).toNatClampNeg) by decide +kernel) dL_law_686 ?_
  refine lv_aload_n hx hb dL_law_687 rfl (lv_at hl 0 rfl) ?_
  refine lv_iload_n hx hb dL_law_688 rfl (lv_at hl 3 rfl) ?_
  refine lv_iconst (v := 3) hx hb dL_law_689 (by decide) ?_
  refine lv_iadd hx hb dL_law_690 ?_
  refine lv_topi (fun z_3 ez_3 => ?_)
  obtain rfl : z_3 = 3 := ez_3.trans (by decide +kernel)
  refine va_sld hx hb hX hbl hbA hS (show ¬ ((3 : Int32) < 0 ∨ 5 ≤ (3 : Int32).toNatClampNeg) by decide +kernel) dL_law_691 ?_
  refine cVi (wr := [(yh, .inr (10, [.ref yq1, .ref yq2, .int 0, .int 0, .int 1, .int 0, .int 0, .int 0, .ref yq3, .ref yq4, .ref yq5, .ref yq6, .ref yq7, .ref yq8, .int 0, .int 0, .int 0, .int 0, .int 0, .int (-1), .int 0, .int 0, .int 0, .int 0, .int 0, .int 0, .int 0, .ref yq9, .ref yq10, .ref yq11, .ref yq12, .ref yq13, .int 0, .int 0, .int 0, .int 0, .ref yq14, .ref yq15, .ref yq16, .ref yq17, .int 0, .int 0, .int 0, .ref yq18, .ref yq19]))]) (rest := []) (k_x_toldHer xh xq1 xq2 xq6 xq14 xq22 xq26 xq31 xq35 xq36 xq41 xq44 xq50 xq59 xq9 xq10 xq11 xq12 xq13 (xs (1 : Int32).toNatClampNeg) (xs (2 : Int32).toNatClampNeg) (xs (3 : Int32).toNatClampNeg)) okV_X9_toldHer wd_512 hx hb hml hown hts hK hP hD hS hA hN hl.1 [0, 1] [2] rfl rfl rfl rfl (by decide) rfl rfl rfl (Nat.le_of_ble_eq_true rfl) (Nat.le_of_ble_eq_true rfl) (Nat.le_of_ble_eq_true rfl) (Nat.le_of_ble_eq_true rfl) (Nat.le_of_ble_eq_true rfl) dL_law_692 (fun r_5 u_4 H locs hw_u_4 hP hD hS => ?_)
  obtain rfl := hw_u_4
  have hP : va_P D classes [(yh, .inr (10, [.ref yq1, .ref yq2, .int 0, .int 0, .int 1, .int 0, .int 0, .int 0, .ref yq3, .ref yq4, .ref yq5, .ref yq6, .ref yq7, .ref yq8, .int 0, .int 0, .int 0, .int 0, .int 0, .int (-1), .int 0, .int 0, .int 0, .int 0, .int 0, .int 0, .int 0, .ref yq9, .ref yq10, .ref yq11, .ref yq12, .ref yq13, .int 0, .int 0, .int 0, .int 0, .ref yq14, .ref yq15, .ref yq16, .ref yq17, .int 0, .int 0, .int 0, .ref yq18, .ref yq19]))] H := hP
  have hD : va_D (lw_A s) [(yh, .inr (10, [.ref yq1, .ref yq2, .int 0, .int 0, .int 1, .int 0, .int 0, .int 0, .ref yq3, .ref yq4, .ref yq5, .ref yq6, .ref yq7, .ref yq8, .int 0, .int 0, .int 0, .int 0, .int 0, .int (-1), .int 0, .int 0, .int 0, .int 0, .int 0, .int 0, .int 0, .ref yq9, .ref yq10, .ref yq11, .ref yq12, .ref yq13, .int 0, .int 0, .int 0, .int 0, .ref yq14, .ref yq15, .ref yq16, .ref yq17, .int 0, .int 0, .int 0, .ref yq18, .ref yq19]))] := hD
  refine lv_aload_n hx hb dL_law_695 rfl (lv_at hl 2 rfl) ?_
  refine lv_aload_n hx hb dL_law_696 rfl (lv_at hl 0 rfl) ?_
  refine lv_iload_n hx hb dL_law_697 rfl (lv_at hl 3 rfl) ?_
  refine lv_iconst (v := 1) hx hb dL_law_698 (by decide) ?_
  refine lv_iadd hx hb dL_law_699 ?_
  refine lv_topi (fun z_6 ez_6 => ?_)
  obtain rfl : z_6 = 1 := ez_6.trans (by decide +kernel)
  refine va_sld hx hb hX hbl hbA hS (show ¬ ((1 : Int32) < 0 ∨ 5 ≤ (1 : Int32).toNatClampNeg) by decide +kernel) dL_law_700 ?_
  refine lv_aload_n hx hb dL_law_701 rfl (lv_at hl 0 rfl) ?_
  refine lv_iload_n hx hb dL_law_702 rfl (lv_at hl 3 rfl) ?_
  refine lv_iconst (v := 2) hx hb dL_law_703 (by decide) ?_
  refine lv_iadd hx hb dL_law_704 ?_
  refine lv_topi (fun z_7 ez_7 => ?_)
  obtain rfl : z_7 = 2 := ez_7.trans (by decide +kernel)
  refine va_sld hx hb hX hbl hbA hS (show ¬ ((2 : Int32) < 0 ∨ 5 ≤ (2 : Int32).toNatClampNeg) by decide +kernel) dL_law_705 ?_
  refine lv_aload_n hx hb dL_law_706 rfl (lv_at hl 0 rfl) ?_
  refine lv_iload_n hx hb dL_law_707 rfl (lv_at hl 3 rfl) ?_
  refine lv_iconst (v := 3) hx hb dL_law_708 (by decide) ?_
  refine lv_iadd hx hb dL_law_709 ?_
  refine lv_topi (fun z_8 ez_8 => ?_)
  obtain rfl : z_8 = 3 := ez_8.trans (by decide +kernel)
  refine va_sld hx hb hX hbl hbA hS (show ¬ ((3 : Int32) < 0 ∨ 5 ≤ (3 : Int32).toNatClampNeg) by decide +kernel) dL_law_710 ?_
  refine cVi (wr := []) (rest := [.int ((-1000000001))]) (k_m_toldHer yh yq1 yq2 yq3 yq4 yq5 yq6 yq7 yq8 yq9 yq10 yq11 yq12 yq13 yq14 yq15 yq16 yq17 yq18 yq19 (xs (1 : Int32).toNatClampNeg) (xs (2 : Int32).toNatClampNeg) (xs (3 : Int32).toNatClampNeg)) okV_X10_toldHer wd_516 hx hb hml hown hts hK hP hD hS hA hN hl.1 [0] [] rfl rfl rfl rfl (by decide) rfl rfl rfl (Nat.le_of_ble_eq_true rfl) (Nat.le_of_ble_eq_true rfl) (Nat.le_of_ble_eq_true rfl) (Nat.le_of_ble_eq_true rfl) (Nat.le_of_ble_eq_true rfl) dL_law_711 (fun r_10 u_9 H locs hw_u_9 hP hD hS => ?_)
  obtain rfl := hw_u_9
  have hP : va_P D classes [] H := hP
  have hD : va_D (lw_A s) [] := hD
  refine lv_icmp_eq (tgt := 1015) hx hb dL_law_714 (by decide) (fun c_11 => ?_) (fun c_11 => absurd rfl c_11)
  exact law_tail C1 hS hl
set_option maxHeartbeats 4000000 in
set_option maxRecDepth 100000 in
theorem law_lasts {p : Program} {l : Launch} {e : Env} {s : State} {m : MethodId} {below : List Frame} {meth : Method} {c : Code} {D : va_G} {cI cZ : ClassId} {b : Nat} {xs : Nat → Int32} (xh xq1 xq2 xq6 xq14 xq22 xq26 xq31 xq35 xq36 xq41 xq44 xq50 xq59 xq9 xq10 xq11 xq12 xq13 yh yq1 yq2 yq3 yq4 yq5 yq6 yq7 yq8 yq9 yq10 yq11 yq12 yq13 yq14 yq15 yq16 yq17 yq18 yq19 : Nat) (C0 : lw_C p s m meth c b 5 xs) {H : Heap} {locs : List Loc} {ls : Array Slot} (hK : va_K D classes (TYS cI cZ) s) (hP : va_P D classes [(xh, .inr (9, [.ref xq1, .int 0, .int (-1), .ref xq2, .ref xq6, .ref xq14, .ref xq22, .ref xq26, .ref xq31, .ref xq35, .int 0, .ref xq36, .int 0, .ref xq41, .ref xq44, .ref xq50, .ref xq59])), (xq6, .inr (8, [.int 0, .int 1, .int 0, .int 0, .int 0, .ref xq9, .ref xq10, .ref xq11, .ref xq12, .ref xq13])), (yh, .inr (10, [.ref yq1, .ref yq2, .int 0, .int 0, .int 1, .int 0, .int 0, .int 0, .ref yq3, .ref yq4, .ref yq5, .ref yq6, .ref yq7, .ref yq8, .int 0, .int 0, .int 0, .int 0, .int 0, .int (-1), .int 0, .int 0, .int 0, .int 0, .int 0, .int 0, .int 0, .ref yq9, .ref yq10, .ref yq11, .ref yq12, .ref yq13, .int 0, .int 0, .int 0, .int 0, .ref yq14, .ref yq15, .ref yq16, .ref yq17, .int 0, .int 0, .int 0, .ref yq18, .ref yq19]))] H) (hD : va_D (lw_A s) [(xh, .inr (9, [.ref xq1, .int 0, .int (-1), .ref xq2, .ref xq6, .ref xq14, .ref xq22, .ref xq26, .ref xq31, .ref xq35, .int 0, .ref xq36, .int 0, .ref xq41, .ref xq44, .ref xq50, .ref xq59])), (xq6, .inr (8, [.int 0, .int 1, .int 0, .int 0, .int 0, .ref xq9, .ref xq10, .ref xq11, .ref xq12, .ref xq13])), (yh, .inr (10, [.ref yq1, .ref yq2, .int 0, .int 0, .int 1, .int 0, .int 0, .int 0, .ref yq3, .ref yq4, .ref yq5, .ref yq6, .ref yq7, .ref yq8, .int 0, .int 0, .int 0, .int 0, .int 0, .int (-1), .int 0, .int 0, .int 0, .int 0, .int 0, .int 0, .int 0, .ref yq9, .ref yq10, .ref yq11, .ref yq12, .ref yq13, .int 0, .int 0, .int 0, .int 0, .ref yq14, .ref yq15, .ref yq16, .ref yq17, .int 0, .int 0, .int 0, .ref yq18, .ref yq19]))]) (hS : va_S (lw_A s) s.heap H locs) (hl : lv_has ls 4 [(0, .ref b), (1, .ref xh), (2, .ref yh), (3, .int 0)]) : W p l e room_1 s m #[Value.ref b] below meth c H locs 60 4269 (lw_Z below #[Value.ref b] s) (F0 m 719 ls []) := by
  have C1 := C0
  obtain ⟨hx, hb, hr, hml, hown, hts, hX, hbl, hlocks, hN⟩ := C0
  have hA : ∀ q, s.heap.size ≤ q → lw_A s q := fun _ h => h
  have hbA : ¬ lw_A s b := Nat.not_le.mpr hbl
  refine lv_aload_n hx hb dL_law_719 rfl (lv_at hl 1 rfl) ?_
  refine lv_aload_n hx hb dL_law_720 rfl (lv_at hl 0 rfl) ?_
  refine lv_iload_n hx hb dL_law_721 rfl (lv_at hl 3 rfl) ?_
  refine lv_iconst (v := 1) hx hb dL_law_722 (by decide) ?_
  refine lv_iadd hx hb dL_law_723 ?_
  refine lv_topi (fun z_1 ez_1 => ?_)
  obtain rfl : z_1 = 1 := ez_1.trans (by decide +kernel)
  refine va_sld hx hb hX hbl hbA hS (show ¬ ((1 : Int32) < 0 ∨ 5 ≤ (1 : Int32).toNatClampNeg) by decide +kernel) dL_law_724 ?_
  refine lv_aload_n hx hb dL_law_725 rfl (lv_at hl 0 rfl) ?_
  refine lv_iload_n hx hb dL_law_726 rfl (lv_at hl 3 rfl) ?_
  refine lv_iconst (v := 2) hx hb dL_law_727 (by decide) ?_
  refine lv_iadd hx hb dL_law_728 ?_
  refine lv_topi (fun z_2 ez_2 => ?_)
  obtain rfl : z_2 = 2 := ez_2.trans (by decide +kernel)
  refine va_sld hx hb hX hbl hbA hS (show ¬ ((2 : Int32) < 0 ∨ 5 ≤ (2 : Int32).toNatClampNeg) by decide +kernel) dL_law_729 ?_
  refine cVi (wr := [(yh, .inr (10, [.ref yq1, .ref yq2, .int 0, .int 0, .int 1, .int 0, .int 0, .int 0, .ref yq3, .ref yq4, .ref yq5, .ref yq6, .ref yq7, .ref yq8, .int 0, .int 0, .int 0, .int 0, .int 0, .int (-1), .int 0, .int 0, .int 0, .int 0, .int 0, .int 0, .int 0, .ref yq9, .ref yq10, .ref yq11, .ref yq12, .ref yq13, .int 0, .int 0, .int 0, .int 0, .ref yq14, .ref yq15, .ref yq16, .ref yq17, .int 0, .int 0, .int 0, .ref yq18, .ref yq19]))]) (rest := []) (k_x_lasts xh xq1 xq2 xq6 xq14 xq22 xq26 xq31 xq35 xq36 xq41 xq44 xq50 xq59 xq9 xq10 xq11 xq12 xq13 (xs (1 : Int32).toNatClampNeg) (xs (2 : Int32).toNatClampNeg)) okV_X9_lasts wd_520 hx hb hml hown hts hK hP hD hS hA hN hl.1 [0, 1] [2] rfl rfl rfl rfl (by decide) rfl rfl rfl (Nat.le_of_ble_eq_true rfl) (Nat.le_of_ble_eq_true rfl) (Nat.le_of_ble_eq_true rfl) (Nat.le_of_ble_eq_true rfl) (Nat.le_of_ble_eq_true rfl) dL_law_730 (fun r_4 u_3 H locs hw_u_3 hP hD hS => ?_)
  obtain rfl := hw_u_3
  have hP : va_P D classes [(yh, .inr (10, [.ref yq1, .ref yq2, .int 0, .int 0, .int 1, .int 0, .int 0, .int 0, .ref yq3, .ref yq4, .ref yq5, .ref yq6, .ref yq7, .ref yq8, .int 0, .int 0, .int 0, .int 0, .int 0, .int (-1), .int 0, .int 0, .int 0, .int 0, .int 0, .int 0, .int 0, .ref yq9, .ref yq10, .ref yq11, .ref yq12, .ref yq13, .int 0, .int 0, .int 0, .int 0, .ref yq14, .ref yq15, .ref yq16, .ref yq17, .int 0, .int 0, .int 0, .ref yq18, .ref yq19]))] H := hP
  have hD : va_D (lw_A s) [(yh, .inr (10, [.ref yq1, .ref yq2, .int 0, .int 0, .int 1, .int 0, .int 0, .int 0, .ref yq3, .ref yq4, .ref yq5, .ref yq6, .ref yq7, .ref yq8, .int 0, .int 0, .int 0, .int 0, .int 0, .int (-1), .int 0, .int 0, .int 0, .int 0, .int 0, .int 0, .int 0, .ref yq9, .ref yq10, .ref yq11, .ref yq12, .ref yq13, .int 0, .int 0, .int 0, .int 0, .ref yq14, .ref yq15, .ref yq16, .ref yq17, .int 0, .int 0, .int 0, .ref yq18, .ref yq19]))] := hD
  refine lv_aload_n hx hb dL_law_733 rfl (lv_at hl 2 rfl) ?_
  refine lv_aload_n hx hb dL_law_734 rfl (lv_at hl 0 rfl) ?_
  refine lv_iload_n hx hb dL_law_735 rfl (lv_at hl 3 rfl) ?_
  refine lv_iconst (v := 1) hx hb dL_law_736 (by decide) ?_
  refine lv_iadd hx hb dL_law_737 ?_
  refine lv_topi (fun z_5 ez_5 => ?_)
  obtain rfl : z_5 = 1 := ez_5.trans (by decide +kernel)
  refine va_sld hx hb hX hbl hbA hS (show ¬ ((1 : Int32) < 0 ∨ 5 ≤ (1 : Int32).toNatClampNeg) by decide +kernel) dL_law_738 ?_
  refine lv_aload_n hx hb dL_law_739 rfl (lv_at hl 0 rfl) ?_
  refine lv_iload_n hx hb dL_law_740 rfl (lv_at hl 3 rfl) ?_
  refine lv_iconst (v := 2) hx hb dL_law_741 (by decide) ?_
  refine lv_iadd hx hb dL_law_742 ?_
  refine lv_topi (fun z_6 ez_6 => ?_)
  obtain rfl : z_6 = 2 := ez_6.trans (by decide +kernel)
  refine va_sld hx hb hX hbl hbA hS (show ¬ ((2 : Int32) < 0 ∨ 5 ≤ (2 : Int32).toNatClampNeg) by decide +kernel) dL_law_743 ?_
  refine cVi (wr := []) (rest := [.int ((-1000000001))]) (k_m_lasts yh yq1 yq2 yq3 yq4 yq5 yq6 yq7 yq8 yq9 yq10 yq11 yq12 yq13 yq14 yq15 yq16 yq17 yq18 yq19 (xs (1 : Int32).toNatClampNeg) (xs (2 : Int32).toNatClampNeg)) okV_X10_lasts wd_524 hx hb hml hown hts hK hP hD hS hA hN hl.1 [0] [] rfl rfl rfl rfl (by decide) rfl rfl rfl (Nat.le_of_ble_eq_true rfl) (Nat.le_of_ble_eq_true rfl) (Nat.le_of_ble_eq_true rfl) (Nat.le_of_ble_eq_true rfl) (Nat.le_of_ble_eq_true rfl) dL_law_744 (fun r_8 u_7 H locs hw_u_7 hP hD hS => ?_)
  obtain rfl := hw_u_7
  have hP : va_P D classes [] H := hP
  have hD : va_D (lw_A s) [] := hD
  refine lv_icmp_eq (tgt := 1015) hx hb dL_law_747 (by decide) (fun c_9 => ?_) (fun c_9 => absurd rfl c_9)
  exact law_tail C1 hS hl
set_option maxHeartbeats 4000000 in
set_option maxRecDepth 100000 in
theorem law_wornOut {p : Program} {l : Launch} {e : Env} {s : State} {m : MethodId} {below : List Frame} {meth : Method} {c : Code} {D : va_G} {cI cZ : ClassId} {b : Nat} {xs : Nat → Int32} (xh xq1 xq2 xq6 xq14 xq22 xq26 xq31 xq35 xq36 xq41 xq44 xq50 xq59 xq9 xq10 xq11 xq12 xq13 yh yq1 yq2 yq3 yq4 yq5 yq6 yq7 yq8 yq9 yq10 yq11 yq12 yq13 yq14 yq15 yq16 yq17 yq18 yq19 : Nat) (C0 : lw_C p s m meth c b 5 xs) {H : Heap} {locs : List Loc} {ls : Array Slot} (hK : va_K D classes (TYS cI cZ) s) (hP : va_P D classes [(xh, .inr (9, [.ref xq1, .int 0, .int (-1), .ref xq2, .ref xq6, .ref xq14, .ref xq22, .ref xq26, .ref xq31, .ref xq35, .int 0, .ref xq36, .int 0, .ref xq41, .ref xq44, .ref xq50, .ref xq59])), (xq6, .inr (8, [.int 0, .int 1, .int 0, .int 0, .int 0, .ref xq9, .ref xq10, .ref xq11, .ref xq12, .ref xq13])), (yh, .inr (10, [.ref yq1, .ref yq2, .int 0, .int 0, .int 1, .int 0, .int 0, .int 0, .ref yq3, .ref yq4, .ref yq5, .ref yq6, .ref yq7, .ref yq8, .int 0, .int 0, .int 0, .int 0, .int 0, .int (-1), .int 0, .int 0, .int 0, .int 0, .int 0, .int 0, .int 0, .ref yq9, .ref yq10, .ref yq11, .ref yq12, .ref yq13, .int 0, .int 0, .int 0, .int 0, .ref yq14, .ref yq15, .ref yq16, .ref yq17, .int 0, .int 0, .int 0, .ref yq18, .ref yq19]))] H) (hD : va_D (lw_A s) [(xh, .inr (9, [.ref xq1, .int 0, .int (-1), .ref xq2, .ref xq6, .ref xq14, .ref xq22, .ref xq26, .ref xq31, .ref xq35, .int 0, .ref xq36, .int 0, .ref xq41, .ref xq44, .ref xq50, .ref xq59])), (xq6, .inr (8, [.int 0, .int 1, .int 0, .int 0, .int 0, .ref xq9, .ref xq10, .ref xq11, .ref xq12, .ref xq13])), (yh, .inr (10, [.ref yq1, .ref yq2, .int 0, .int 0, .int 1, .int 0, .int 0, .int 0, .ref yq3, .ref yq4, .ref yq5, .ref yq6, .ref yq7, .ref yq8, .int 0, .int 0, .int 0, .int 0, .int 0, .int (-1), .int 0, .int 0, .int 0, .int 0, .int 0, .int 0, .int 0, .ref yq9, .ref yq10, .ref yq11, .ref yq12, .ref yq13, .int 0, .int 0, .int 0, .int 0, .ref yq14, .ref yq15, .ref yq16, .ref yq17, .int 0, .int 0, .int 0, .ref yq18, .ref yq19]))]) (hS : va_S (lw_A s) s.heap H locs) (hl : lv_has ls 4 [(0, .ref b), (1, .ref xh), (2, .ref yh), (3, .int 0)]) : W p l e room_1 s m #[Value.ref b] below meth c H locs 60 4269 (lw_Z below #[Value.ref b] s) (F0 m 752 ls []) := by
  have C1 := C0
  obtain ⟨hx, hb, hr, hml, hown, hts, hX, hbl, hlocks, hN⟩ := C0
  have hA : ∀ q, s.heap.size ≤ q → lw_A s q := fun _ h => h
  have hbA : ¬ lw_A s b := Nat.not_le.mpr hbl
  refine lv_aload_n hx hb dL_law_752 rfl (lv_at hl 1 rfl) ?_
  refine cVi (wr := [(yh, .inr (10, [.ref yq1, .ref yq2, .int 0, .int 0, .int 1, .int 0, .int 0, .int 0, .ref yq3, .ref yq4, .ref yq5, .ref yq6, .ref yq7, .ref yq8, .int 0, .int 0, .int 0, .int 0, .int 0, .int (-1), .int 0, .int 0, .int 0, .int 0, .int 0, .int 0, .int 0, .ref yq9, .ref yq10, .ref yq11, .ref yq12, .ref yq13, .int 0, .int 0, .int 0, .int 0, .ref yq14, .ref yq15, .ref yq16, .ref yq17, .int 0, .int 0, .int 0, .ref yq18, .ref yq19]))]) (rest := []) (k_x_wornOut xh xq1 xq2 xq6 xq14 xq22 xq26 xq31 xq35 xq36 xq41 xq44 xq50 xq59 xq9 xq10 xq11 xq12 xq13) okV_X9_wornOut wd_528 hx hb hml hown hts hK hP hD hS hA hN hl.1 [0, 1] [2] rfl rfl rfl rfl (by decide) rfl rfl rfl (Nat.le_of_ble_eq_true rfl) (Nat.le_of_ble_eq_true rfl) (Nat.le_of_ble_eq_true rfl) (Nat.le_of_ble_eq_true rfl) (Nat.le_of_ble_eq_true rfl) dL_law_753 (fun r_2 u_1 H locs hw_u_1 hP hD hS => ?_)
  obtain rfl := hw_u_1
  have hP : va_P D classes [(yh, .inr (10, [.ref yq1, .ref yq2, .int 0, .int 0, .int 1, .int 0, .int 0, .int 0, .ref yq3, .ref yq4, .ref yq5, .ref yq6, .ref yq7, .ref yq8, .int 0, .int 0, .int 0, .int 0, .int 0, .int (-1), .int 0, .int 0, .int 0, .int 0, .int 0, .int 0, .int 0, .ref yq9, .ref yq10, .ref yq11, .ref yq12, .ref yq13, .int 0, .int 0, .int 0, .int 0, .ref yq14, .ref yq15, .ref yq16, .ref yq17, .int 0, .int 0, .int 0, .ref yq18, .ref yq19]))] H := hP
  have hD : va_D (lw_A s) [(yh, .inr (10, [.ref yq1, .ref yq2, .int 0, .int 0, .int 1, .int 0, .int 0, .int 0, .ref yq3, .ref yq4, .ref yq5, .ref yq6, .ref yq7, .ref yq8, .int 0, .int 0, .int 0, .int 0, .int 0, .int (-1), .int 0, .int 0, .int 0, .int 0, .int 0, .int 0, .int 0, .ref yq9, .ref yq10, .ref yq11, .ref yq12, .ref yq13, .int 0, .int 0, .int 0, .int 0, .ref yq14, .ref yq15, .ref yq16, .ref yq17, .int 0, .int 0, .int 0, .ref yq18, .ref yq19]))] := hD
  refine lv_aload_n hx hb dL_law_756 rfl (lv_at hl 2 rfl) ?_
  refine cVi (wr := []) (rest := [.int ((-1))]) (k_m_wornOut yh yq1 yq2 yq3 yq4 yq5 yq6 yq7 yq8 yq9 yq10 yq11 yq12 yq13 yq14 yq15 yq16 yq17 yq18 yq19) okV_X10_wornOut wd_532 hx hb hml hown hts hK hP hD hS hA hN hl.1 [0] [] rfl rfl rfl rfl (by decide) rfl rfl rfl (Nat.le_of_ble_eq_true rfl) (Nat.le_of_ble_eq_true rfl) (Nat.le_of_ble_eq_true rfl) (Nat.le_of_ble_eq_true rfl) (Nat.le_of_ble_eq_true rfl) dL_law_757 (fun r_4 u_3 H locs hw_u_3 hP hD hS => ?_)
  obtain rfl := hw_u_3
  have hP : va_P D classes [] H := hP
  have hD : va_D (lw_A s) [] := hD
  refine lv_icmp_eq (tgt := 1015) hx hb dL_law_760 (by decide) (fun c_5 => ?_) (fun c_5 => absurd rfl c_5)
  exact law_tail C1 hS hl
set_option maxHeartbeats 4000000 in
set_option maxRecDepth 100000 in
theorem law_carried {p : Program} {l : Launch} {e : Env} {s : State} {m : MethodId} {below : List Frame} {meth : Method} {c : Code} {D : va_G} {cI cZ : ClassId} {b : Nat} {xs : Nat → Int32} (xh xq1 xq2 xq6 xq14 xq22 xq26 xq31 xq35 xq36 xq41 xq44 xq50 xq59 xq9 xq10 xq11 xq12 xq13 xu23 yh yq1 yq2 yq3 yq4 yq5 yq6 yq7 yq8 yq9 yq10 yq11 yq12 yq13 yq14 yq15 yq16 yq17 yq18 yq19 : Nat) (C0 : lw_C p s m meth c b 5 xs) {H : Heap} {locs : List Loc} {ls : Array Slot} (hK : va_K D classes (TYS cI cZ) s) (hP : va_P D classes [(xh, .inr (9, [.ref xq1, .int 0, .int (-1), .ref xq2, .ref xq6, .ref xq14, .ref xq22, .ref xq26, .ref xq31, .ref xq35, .int 0, .ref xq36, .int 0, .ref xq41, .ref xq44, .ref xq50, .ref xq59])), (xq6, .inr (8, [.int 0, .int 1, .int 0, .int 0, .int 0, .ref xq9, .ref xq10, .ref xq11, .ref xq12, .ref xq13])), (xq22, .inr (7, [.ref xu23])), (xu23, .inl (cI, 41, .inl (cB2 z0 7))), (yh, .inr (10, [.ref yq1, .ref yq2, .int 0, .int 0, .int 1, .int 0, .int 0, .int 0, .ref yq3, .ref yq4, .ref yq5, .ref yq6, .ref yq7, .ref yq8, .int 0, .int 0, .int 0, .int 0, .int 0, .int (-1), .int 0, .int 0, .int 0, .int 0, .int 0, .int 0, .int 0, .ref yq9, .ref yq10, .ref yq11, .ref yq12, .ref yq13, .int 0, .int 0, .int 0, .int 0, .ref yq14, .ref yq15, .ref yq16, .ref yq17, .int 0, .int 0, .int 0, .ref yq18, .ref yq19]))] H) (hD : va_D (lw_A s) [(xh, .inr (9, [.ref xq1, .int 0, .int (-1), .ref xq2, .ref xq6, .ref xq14, .ref xq22, .ref xq26, .ref xq31, .ref xq35, .int 0, .ref xq36, .int 0, .ref xq41, .ref xq44, .ref xq50, .ref xq59])), (xq6, .inr (8, [.int 0, .int 1, .int 0, .int 0, .int 0, .ref xq9, .ref xq10, .ref xq11, .ref xq12, .ref xq13])), (xq22, .inr (7, [.ref xu23])), (xu23, .inl (cI, 41, .inl (cB2 z0 7))), (yh, .inr (10, [.ref yq1, .ref yq2, .int 0, .int 0, .int 1, .int 0, .int 0, .int 0, .ref yq3, .ref yq4, .ref yq5, .ref yq6, .ref yq7, .ref yq8, .int 0, .int 0, .int 0, .int 0, .int 0, .int (-1), .int 0, .int 0, .int 0, .int 0, .int 0, .int 0, .int 0, .ref yq9, .ref yq10, .ref yq11, .ref yq12, .ref yq13, .int 0, .int 0, .int 0, .int 0, .ref yq14, .ref yq15, .ref yq16, .ref yq17, .int 0, .int 0, .int 0, .ref yq18, .ref yq19]))]) (hS : va_S (lw_A s) s.heap H locs) (hl : lv_has ls 4 [(0, .ref b), (1, .ref xh), (2, .ref yh), (3, .int 0)]) : W p l e room_1 s m #[Value.ref b] below meth c H locs 60 4269 (lw_Z below #[Value.ref b] s) (F0 m 765 ls []) := by
  have C1 := C0
  obtain ⟨hx, hb, hr, hml, hown, hts, hX, hbl, hlocks, hN⟩ := C0
  have hA : ∀ q, s.heap.size ≤ q → lw_A s q := fun _ h => h
  have hbA : ¬ lw_A s b := Nat.not_le.mpr hbl
  refine lv_aload_n hx hb dL_law_765 rfl (lv_at hl 1 rfl) ?_
  refine lv_aload_n hx hb dL_law_766 rfl (lv_at hl 0 rfl) ?_
  refine lv_iload_n hx hb dL_law_767 rfl (lv_at hl 3 rfl) ?_
  refine lv_iconst (v := 1) hx hb dL_law_768 (by decide) ?_
  refine lv_iadd hx hb dL_law_769 ?_
  refine lv_topi (fun z_1 ez_1 => ?_)
  obtain rfl : z_1 = 1 := ez_1.trans (by decide +kernel)
  refine va_sld hx hb hX hbl hbA hS (show ¬ ((1 : Int32) < 0 ∨ 5 ≤ (1 : Int32).toNatClampNeg) by decide +kernel) dL_law_770 ?_
  refine cVi (wr := [(yh, .inr (10, [.ref yq1, .ref yq2, .int 0, .int 0, .int 1, .int 0, .int 0, .int 0, .ref yq3, .ref yq4, .ref yq5, .ref yq6, .ref yq7, .ref yq8, .int 0, .int 0, .int 0, .int 0, .int 0, .int (-1), .int 0, .int 0, .int 0, .int 0, .int 0, .int 0, .int 0, .ref yq9, .ref yq10, .ref yq11, .ref yq12, .ref yq13, .int 0, .int 0, .int 0, .int 0, .ref yq14, .ref yq15, .ref yq16, .ref yq17, .int 0, .int 0, .int 0, .ref yq18, .ref yq19]))]) (rest := []) (k_x_carried xh xq1 xq2 xq6 xq14 xq22 xq26 xq31 xq35 xq36 xq41 xq44 xq50 xq59 xq9 xq10 xq11 xq12 xq13 xu23 (xs (1 : Int32).toNatClampNeg)) okV_X9_carried wd_536 hx hb hml hown hts hK hP hD hS hA hN hl.1 [0, 1, 2, 3] [4] rfl rfl rfl rfl (by decide) rfl rfl rfl (Nat.le_of_ble_eq_true rfl) (Nat.le_of_ble_eq_true rfl) (Nat.le_of_ble_eq_true rfl) (Nat.le_of_ble_eq_true rfl) (Nat.le_of_ble_eq_true rfl) dL_law_771 (fun r_3 u_2 H locs hw_u_2 hP hD hS => ?_)
  obtain rfl := hw_u_2
  have hP : va_P D classes [(yh, .inr (10, [.ref yq1, .ref yq2, .int 0, .int 0, .int 1, .int 0, .int 0, .int 0, .ref yq3, .ref yq4, .ref yq5, .ref yq6, .ref yq7, .ref yq8, .int 0, .int 0, .int 0, .int 0, .int 0, .int (-1), .int 0, .int 0, .int 0, .int 0, .int 0, .int 0, .int 0, .ref yq9, .ref yq10, .ref yq11, .ref yq12, .ref yq13, .int 0, .int 0, .int 0, .int 0, .ref yq14, .ref yq15, .ref yq16, .ref yq17, .int 0, .int 0, .int 0, .ref yq18, .ref yq19]))] H := hP
  have hD : va_D (lw_A s) [(yh, .inr (10, [.ref yq1, .ref yq2, .int 0, .int 0, .int 1, .int 0, .int 0, .int 0, .ref yq3, .ref yq4, .ref yq5, .ref yq6, .ref yq7, .ref yq8, .int 0, .int 0, .int 0, .int 0, .int 0, .int (-1), .int 0, .int 0, .int 0, .int 0, .int 0, .int 0, .int 0, .ref yq9, .ref yq10, .ref yq11, .ref yq12, .ref yq13, .int 0, .int 0, .int 0, .int 0, .ref yq14, .ref yq15, .ref yq16, .ref yq17, .int 0, .int 0, .int 0, .ref yq18, .ref yq19]))] := hD
  refine lv_aload_n hx hb dL_law_774 rfl (lv_at hl 2 rfl) ?_
  refine lv_aload_n hx hb dL_law_775 rfl (lv_at hl 0 rfl) ?_
  refine lv_iload_n hx hb dL_law_776 rfl (lv_at hl 3 rfl) ?_
  refine lv_iconst (v := 1) hx hb dL_law_777 (by decide) ?_
  refine lv_iadd hx hb dL_law_778 ?_
  refine lv_topi (fun z_4 ez_4 => ?_)
  obtain rfl : z_4 = 1 := ez_4.trans (by decide +kernel)
  refine va_sld hx hb hX hbl hbA hS (show ¬ ((1 : Int32) < 0 ∨ 5 ≤ (1 : Int32).toNatClampNeg) by decide +kernel) dL_law_779 ?_
  refine cVi (wr := []) (rest := [.int (carriedS (xs (1 : Int32).toNatClampNeg))]) (k_m_carried yh yq1 yq2 yq3 yq4 yq5 yq6 yq7 yq8 yq9 yq10 yq11 yq12 yq13 yq14 yq15 yq16 yq17 yq18 yq19 (xs (1 : Int32).toNatClampNeg)) okV_X10_carried wd_540 hx hb hml hown hts hK hP hD hS hA hN hl.1 [0] [] rfl rfl rfl rfl (by decide) rfl rfl rfl (Nat.le_of_ble_eq_true rfl) (Nat.le_of_ble_eq_true rfl) (Nat.le_of_ble_eq_true rfl) (Nat.le_of_ble_eq_true rfl) (Nat.le_of_ble_eq_true rfl) dL_law_780 (fun r_6 u_5 H locs hw_u_5 hP hD hS => ?_)
  obtain rfl := hw_u_5
  have hP : va_P D classes [] H := hP
  have hD : va_D (lw_A s) [] := hD
  refine lv_icmp_eq (tgt := 1015) hx hb dL_law_783 (by decide) (fun c_7 => ?_) (fun c_7 => absurd rfl c_7)
  exact law_tail C1 hS hl
set_option maxHeartbeats 4000000 in
set_option maxRecDepth 100000 in
theorem law_hire {p : Program} {l : Launch} {e : Env} {s : State} {m : MethodId} {below : List Frame} {meth : Method} {c : Code} {D : va_G} {cI cZ : ClassId} {b : Nat} {xs : Nat → Int32} (xh xq1 xq2 xq6 xq14 xq22 xq26 xq31 xq35 xq36 xq41 xq44 xq50 xq59 xq9 xq10 xq11 xq12 xq13 yh yq1 yq2 yq3 yq4 yq5 yq6 yq7 yq8 yq9 yq10 yq11 yq12 yq13 yq14 yq15 yq16 yq17 yq18 yq19 : Nat) (C0 : lw_C p s m meth c b 5 xs) {H : Heap} {locs : List Loc} {ls : Array Slot} (hK : va_K D classes (TYS cI cZ) s) (hP : va_P D classes [(xh, .inr (9, [.ref xq1, .int 0, .int (-1), .ref xq2, .ref xq6, .ref xq14, .ref xq22, .ref xq26, .ref xq31, .ref xq35, .int 0, .ref xq36, .int 0, .ref xq41, .ref xq44, .ref xq50, .ref xq59])), (xq6, .inr (8, [.int 0, .int 1, .int 0, .int 0, .int 0, .ref xq9, .ref xq10, .ref xq11, .ref xq12, .ref xq13])), (yh, .inr (10, [.ref yq1, .ref yq2, .int 0, .int 0, .int 1, .int 0, .int 0, .int 0, .ref yq3, .ref yq4, .ref yq5, .ref yq6, .ref yq7, .ref yq8, .int 0, .int 0, .int 0, .int 0, .int 0, .int (-1), .int 0, .int 0, .int 0, .int 0, .int 0, .int 0, .int 0, .ref yq9, .ref yq10, .ref yq11, .ref yq12, .ref yq13, .int 0, .int 0, .int 0, .int 0, .ref yq14, .ref yq15, .ref yq16, .ref yq17, .int 0, .int 0, .int 0, .ref yq18, .ref yq19]))] H) (hD : va_D (lw_A s) [(xh, .inr (9, [.ref xq1, .int 0, .int (-1), .ref xq2, .ref xq6, .ref xq14, .ref xq22, .ref xq26, .ref xq31, .ref xq35, .int 0, .ref xq36, .int 0, .ref xq41, .ref xq44, .ref xq50, .ref xq59])), (xq6, .inr (8, [.int 0, .int 1, .int 0, .int 0, .int 0, .ref xq9, .ref xq10, .ref xq11, .ref xq12, .ref xq13])), (yh, .inr (10, [.ref yq1, .ref yq2, .int 0, .int 0, .int 1, .int 0, .int 0, .int 0, .ref yq3, .ref yq4, .ref yq5, .ref yq6, .ref yq7, .ref yq8, .int 0, .int 0, .int 0, .int 0, .int 0, .int (-1), .int 0, .int 0, .int 0, .int 0, .int 0, .int 0, .int 0, .ref yq9, .ref yq10, .ref yq11, .ref yq12, .ref yq13, .int 0, .int 0, .int 0, .int 0, .ref yq14, .ref yq15, .ref yq16, .ref yq17, .int 0, .int 0, .int 0, .ref yq18, .ref yq19]))]) (hS : va_S (lw_A s) s.heap H locs) (hl : lv_has ls 4 [(0, .ref b), (1, .ref xh), (2, .ref yh), (3, .int 0)]) : W p l e room_1 s m #[Value.ref b] below meth c H locs 60 4269 (lw_Z below #[Value.ref b] s) (F0 m 788 ls []) := by
  have C1 := C0
  obtain ⟨hx, hb, hr, hml, hown, hts, hX, hbl, hlocks, hN⟩ := C0
  have hA : ∀ q, s.heap.size ≤ q → lw_A s q := fun _ h => h
  have hbA : ¬ lw_A s b := Nat.not_le.mpr hbl
  refine lv_aload_n hx hb dL_law_788 rfl (lv_at hl 1 rfl) ?_
  refine lv_aload_n hx hb dL_law_789 rfl (lv_at hl 0 rfl) ?_
  refine lv_iload_n hx hb dL_law_790 rfl (lv_at hl 3 rfl) ?_
  refine lv_iconst (v := 1) hx hb dL_law_791 (by decide) ?_
  refine lv_iadd hx hb dL_law_792 ?_
  refine lv_topi (fun z_1 ez_1 => ?_)
  obtain rfl : z_1 = 1 := ez_1.trans (by decide +kernel)
  refine va_sld hx hb hX hbl hbA hS (show ¬ ((1 : Int32) < 0 ∨ 5 ≤ (1 : Int32).toNatClampNeg) by decide +kernel) dL_law_793 ?_
  refine lv_aload_n hx hb dL_law_794 rfl (lv_at hl 0 rfl) ?_
  refine lv_iload_n hx hb dL_law_795 rfl (lv_at hl 3 rfl) ?_
  refine lv_iconst (v := 2) hx hb dL_law_796 (by decide) ?_
  refine lv_iadd hx hb dL_law_797 ?_
  refine lv_topi (fun z_2 ez_2 => ?_)
  obtain rfl : z_2 = 2 := ez_2.trans (by decide +kernel)
  refine va_sld hx hb hX hbl hbA hS (show ¬ ((2 : Int32) < 0 ∨ 5 ≤ (2 : Int32).toNatClampNeg) by decide +kernel) dL_law_798 ?_
  refine cVi (wr := [(yh, .inr (10, [.ref yq1, .ref yq2, .int 0, .int 0, .int 1, .int 0, .int 0, .int 0, .ref yq3, .ref yq4, .ref yq5, .ref yq6, .ref yq7, .ref yq8, .int 0, .int 0, .int 0, .int 0, .int 0, .int (-1), .int 0, .int 0, .int 0, .int 0, .int 0, .int 0, .int 0, .ref yq9, .ref yq10, .ref yq11, .ref yq12, .ref yq13, .int 0, .int 0, .int 0, .int 0, .ref yq14, .ref yq15, .ref yq16, .ref yq17, .int 0, .int 0, .int 0, .ref yq18, .ref yq19]))]) (rest := []) (k_x_hire xh xq1 xq2 xq6 xq14 xq22 xq26 xq31 xq35 xq36 xq41 xq44 xq50 xq59 xq9 xq10 xq11 xq12 xq13 (xs (1 : Int32).toNatClampNeg) (xs (2 : Int32).toNatClampNeg)) okV_X9_hire wd_544 hx hb hml hown hts hK hP hD hS hA hN hl.1 [0, 1] [2] rfl rfl rfl rfl (by decide) rfl rfl rfl (Nat.le_of_ble_eq_true rfl) (Nat.le_of_ble_eq_true rfl) (Nat.le_of_ble_eq_true rfl) (Nat.le_of_ble_eq_true rfl) (Nat.le_of_ble_eq_true rfl) dL_law_799 (fun r_4 u_3 H locs hw_u_3 hP hD hS => ?_)
  obtain rfl := hw_u_3
  have hP : va_P D classes [(yh, .inr (10, [.ref yq1, .ref yq2, .int 0, .int 0, .int 1, .int 0, .int 0, .int 0, .ref yq3, .ref yq4, .ref yq5, .ref yq6, .ref yq7, .ref yq8, .int 0, .int 0, .int 0, .int 0, .int 0, .int (-1), .int 0, .int 0, .int 0, .int 0, .int 0, .int 0, .int 0, .ref yq9, .ref yq10, .ref yq11, .ref yq12, .ref yq13, .int 0, .int 0, .int 0, .int 0, .ref yq14, .ref yq15, .ref yq16, .ref yq17, .int 0, .int 0, .int 0, .ref yq18, .ref yq19]))] H := hP
  have hD : va_D (lw_A s) [(yh, .inr (10, [.ref yq1, .ref yq2, .int 0, .int 0, .int 1, .int 0, .int 0, .int 0, .ref yq3, .ref yq4, .ref yq5, .ref yq6, .ref yq7, .ref yq8, .int 0, .int 0, .int 0, .int 0, .int 0, .int (-1), .int 0, .int 0, .int 0, .int 0, .int 0, .int 0, .int 0, .ref yq9, .ref yq10, .ref yq11, .ref yq12, .ref yq13, .int 0, .int 0, .int 0, .int 0, .ref yq14, .ref yq15, .ref yq16, .ref yq17, .int 0, .int 0, .int 0, .ref yq18, .ref yq19]))] := hD
  refine lv_aload_n hx hb dL_law_802 rfl (lv_at hl 2 rfl) ?_
  refine lv_aload_n hx hb dL_law_803 rfl (lv_at hl 0 rfl) ?_
  refine lv_iload_n hx hb dL_law_804 rfl (lv_at hl 3 rfl) ?_
  refine lv_iconst (v := 1) hx hb dL_law_805 (by decide) ?_
  refine lv_iadd hx hb dL_law_806 ?_
  refine lv_topi (fun z_5 ez_5 => ?_)
  obtain rfl : z_5 = 1 := ez_5.trans (by decide +kernel)
  refine va_sld hx hb hX hbl hbA hS (show ¬ ((1 : Int32) < 0 ∨ 5 ≤ (1 : Int32).toNatClampNeg) by decide +kernel) dL_law_807 ?_
  refine lv_aload_n hx hb dL_law_808 rfl (lv_at hl 0 rfl) ?_
  refine lv_iload_n hx hb dL_law_809 rfl (lv_at hl 3 rfl) ?_
  refine lv_iconst (v := 2) hx hb dL_law_810 (by decide) ?_
  refine lv_iadd hx hb dL_law_811 ?_
  refine lv_topi (fun z_6 ez_6 => ?_)
  obtain rfl : z_6 = 2 := ez_6.trans (by decide +kernel)
  refine va_sld hx hb hX hbl hbA hS (show ¬ ((2 : Int32) < 0 ∨ 5 ≤ (2 : Int32).toNatClampNeg) by decide +kernel) dL_law_812 ?_
  refine cVi (wr := []) (rest := [.int ((-1000000001))]) (k_m_hire yh yq1 yq2 yq3 yq4 yq5 yq6 yq7 yq8 yq9 yq10 yq11 yq12 yq13 yq14 yq15 yq16 yq17 yq18 yq19 (xs (1 : Int32).toNatClampNeg) (xs (2 : Int32).toNatClampNeg)) okV_X10_hire wd_548 hx hb hml hown hts hK hP hD hS hA hN hl.1 [0] [] rfl rfl rfl rfl (by decide) rfl rfl rfl (Nat.le_of_ble_eq_true rfl) (Nat.le_of_ble_eq_true rfl) (Nat.le_of_ble_eq_true rfl) (Nat.le_of_ble_eq_true rfl) (Nat.le_of_ble_eq_true rfl) dL_law_813 (fun r_8 u_7 H locs hw_u_7 hP hD hS => ?_)
  obtain rfl := hw_u_7
  have hP : va_P D classes [] H := hP
  have hD : va_D (lw_A s) [] := hD
  refine lv_icmp_eq (tgt := 1015) hx hb dL_law_816 (by decide) (fun c_9 => ?_) (fun c_9 => absurd rfl c_9)
  exact law_tail C1 hS hl
set_option maxHeartbeats 4000000 in
set_option maxRecDepth 100000 in
theorem law_midstream {p : Program} {l : Launch} {e : Env} {s : State} {m : MethodId} {below : List Frame} {meth : Method} {c : Code} {D : va_G} {cI cZ : ClassId} {b : Nat} {xs : Nat → Int32} (xh xq1 xq2 xq6 xq14 xq22 xq26 xq31 xq35 xq36 xq41 xq44 xq50 xq59 xq9 xq10 xq11 xq12 xq13 yh yq1 yq2 yq3 yq4 yq5 yq6 yq7 yq8 yq9 yq10 yq11 yq12 yq13 yq14 yq15 yq16 yq17 yq18 yq19 : Nat) (C0 : lw_C p s m meth c b 5 xs) {H : Heap} {locs : List Loc} {ls : Array Slot} (hK : va_K D classes (TYS cI cZ) s) (hP : va_P D classes [(xh, .inr (9, [.ref xq1, .int 0, .int (-1), .ref xq2, .ref xq6, .ref xq14, .ref xq22, .ref xq26, .ref xq31, .ref xq35, .int 0, .ref xq36, .int 0, .ref xq41, .ref xq44, .ref xq50, .ref xq59])), (xq6, .inr (8, [.int 0, .int 1, .int 0, .int 0, .int 0, .ref xq9, .ref xq10, .ref xq11, .ref xq12, .ref xq13])), (yh, .inr (10, [.ref yq1, .ref yq2, .int 0, .int 0, .int 1, .int 0, .int 0, .int 0, .ref yq3, .ref yq4, .ref yq5, .ref yq6, .ref yq7, .ref yq8, .int 0, .int 0, .int 0, .int 0, .int 0, .int (-1), .int 0, .int 0, .int 0, .int 0, .int 0, .int 0, .int 0, .ref yq9, .ref yq10, .ref yq11, .ref yq12, .ref yq13, .int 0, .int 0, .int 0, .int 0, .ref yq14, .ref yq15, .ref yq16, .ref yq17, .int 0, .int 0, .int 0, .ref yq18, .ref yq19]))] H) (hD : va_D (lw_A s) [(xh, .inr (9, [.ref xq1, .int 0, .int (-1), .ref xq2, .ref xq6, .ref xq14, .ref xq22, .ref xq26, .ref xq31, .ref xq35, .int 0, .ref xq36, .int 0, .ref xq41, .ref xq44, .ref xq50, .ref xq59])), (xq6, .inr (8, [.int 0, .int 1, .int 0, .int 0, .int 0, .ref xq9, .ref xq10, .ref xq11, .ref xq12, .ref xq13])), (yh, .inr (10, [.ref yq1, .ref yq2, .int 0, .int 0, .int 1, .int 0, .int 0, .int 0, .ref yq3, .ref yq4, .ref yq5, .ref yq6, .ref yq7, .ref yq8, .int 0, .int 0, .int 0, .int 0, .int 0, .int (-1), .int 0, .int 0, .int 0, .int 0, .int 0, .int 0, .int 0, .ref yq9, .ref yq10, .ref yq11, .ref yq12, .ref yq13, .int 0, .int 0, .int 0, .int 0, .ref yq14, .ref yq15, .ref yq16, .ref yq17, .int 0, .int 0, .int 0, .ref yq18, .ref yq19]))]) (hS : va_S (lw_A s) s.heap H locs) (hl : lv_has ls 4 [(0, .ref b), (1, .ref xh), (2, .ref yh), (3, .int 0)]) : W p l e room_1 s m #[Value.ref b] below meth c H locs 60 4269 (lw_Z below #[Value.ref b] s) (F0 m 821 ls []) := by
  have C1 := C0
  obtain ⟨hx, hb, hr, hml, hown, hts, hX, hbl, hlocks, hN⟩ := C0
  have hA : ∀ q, s.heap.size ≤ q → lw_A s q := fun _ h => h
  have hbA : ¬ lw_A s b := Nat.not_le.mpr hbl
  refine lv_aload_n hx hb dL_law_821 rfl (lv_at hl 1 rfl) ?_
  refine lv_aload_n hx hb dL_law_822 rfl (lv_at hl 0 rfl) ?_
  refine lv_iload_n hx hb dL_law_823 rfl (lv_at hl 3 rfl) ?_
  refine lv_iconst (v := 1) hx hb dL_law_824 (by decide) ?_
  refine lv_iadd hx hb dL_law_825 ?_
  refine lv_topi (fun z_1 ez_1 => ?_)
  obtain rfl : z_1 = 1 := ez_1.trans (by decide +kernel)
  refine va_sld hx hb hX hbl hbA hS (show ¬ ((1 : Int32) < 0 ∨ 5 ≤ (1 : Int32).toNatClampNeg) by decide +kernel) dL_law_826 ?_
  refine lv_aload_n hx hb dL_law_827 rfl (lv_at hl 0 rfl) ?_
  refine lv_iload_n hx hb dL_law_828 rfl (lv_at hl 3 rfl) ?_
  refine lv_iconst (v := 2) hx hb dL_law_829 (by decide) ?_
  refine lv_iadd hx hb dL_law_830 ?_
  refine lv_topi (fun z_2 ez_2 => ?_)
  obtain rfl : z_2 = 2 := ez_2.trans (by decide +kernel)
  refine va_sld hx hb hX hbl hbA hS (show ¬ ((2 : Int32) < 0 ∨ 5 ≤ (2 : Int32).toNatClampNeg) by decide +kernel) dL_law_831 ?_
  refine lv_aload_n hx hb dL_law_832 rfl (lv_at hl 0 rfl) ?_
  refine lv_iload_n hx hb dL_law_833 rfl (lv_at hl 3 rfl) ?_
  refine lv_iconst (v := 3) hx hb dL_law_834 (by decide) ?_
  refine lv_iadd hx hb dL_law_835 ?_
  refine lv_topi (fun z_3 ez_3 => ?_)
  obtain rfl : z_3 = 3 := ez_3.trans (by decide +kernel)
  refine va_sld hx hb hX hbl hbA hS (show ¬ ((3 : Int32) < 0 ∨ 5 ≤ (3 : Int32).toNatClampNeg) by decide +kernel) dL_law_836 ?_
  refine cVi (wr := [(yh, .inr (10, [.ref yq1, .ref yq2, .int 0, .int 0, .int 1, .int 0, .int 0, .int 0, .ref yq3, .ref yq4, .ref yq5, .ref yq6, .ref yq7, .ref yq8, .int 0, .int 0, .int 0, .int 0, .int 0, .int (-1), .int 0, .int 0, .int 0, .int 0, .int 0, .int 0, .int 0, .ref yq9, .ref yq10, .ref yq11, .ref yq12, .ref yq13, .int 0, .int 0, .int 0, .int 0, .ref yq14, .ref yq15, .ref yq16, .ref yq17, .int 0, .int 0, .int 0, .ref yq18, .ref yq19]))]) (rest := []) (k_x_midstream xh xq1 xq2 xq6 xq14 xq22 xq26 xq31 xq35 xq36 xq41 xq44 xq50 xq59 xq9 xq10 xq11 xq12 xq13 (xs (1 : Int32).toNatClampNeg) (xs (2 : Int32).toNatClampNeg) (xs (3 : Int32).toNatClampNeg)) okV_X9_midstream wd_552 hx hb hml hown hts hK hP hD hS hA hN hl.1 [0, 1] [2] rfl rfl rfl rfl (by decide) rfl rfl rfl (Nat.le_of_ble_eq_true rfl) (Nat.le_of_ble_eq_true rfl) (Nat.le_of_ble_eq_true rfl) (Nat.le_of_ble_eq_true rfl) (Nat.le_of_ble_eq_true rfl) dL_law_837 (fun r_5 u_4 H locs hw_u_4 hP hD hS => ?_)
  obtain rfl := hw_u_4
  have hP : va_P D classes [(yh, .inr (10, [.ref yq1, .ref yq2, .int 0, .int 0, .int 1, .int 0, .int 0, .int 0, .ref yq3, .ref yq4, .ref yq5, .ref yq6, .ref yq7, .ref yq8, .int 0, .int 0, .int 0, .int 0, .int 0, .int (-1), .int 0, .int 0, .int 0, .int 0, .int 0, .int 0, .int 0, .ref yq9, .ref yq10, .ref yq11, .ref yq12, .ref yq13, .int 0, .int 0, .int 0, .int 0, .ref yq14, .ref yq15, .ref yq16, .ref yq17, .int 0, .int 0, .int 0, .ref yq18, .ref yq19]))] H := hP
  have hD : va_D (lw_A s) [(yh, .inr (10, [.ref yq1, .ref yq2, .int 0, .int 0, .int 1, .int 0, .int 0, .int 0, .ref yq3, .ref yq4, .ref yq5, .ref yq6, .ref yq7, .ref yq8, .int 0, .int 0, .int 0, .int 0, .int 0, .int (-1), .int 0, .int 0, .int 0, .int 0, .int 0, .int 0, .int 0, .ref yq9, .ref yq10, .ref yq11, .ref yq12, .ref yq13, .int 0, .int 0, .int 0, .int 0, .ref yq14, .ref yq15, .ref yq16, .ref yq17, .int 0, .int 0, .int 0, .ref yq18, .ref yq19]))] := hD
  refine lv_aload_n hx hb dL_law_840 rfl (lv_at hl 2 rfl) ?_
  refine lv_aload_n hx hb dL_law_841 rfl (lv_at hl 0 rfl) ?_
  refine lv_iload_n hx hb dL_law_842 rfl (lv_at hl 3 rfl) ?_
  refine lv_iconst (v := 1) hx hb dL_law_843 (by decide) ?_
  refine lv_iadd hx hb dL_law_844 ?_
  refine lv_topi (fun z_6 ez_6 => ?_)
  obtain rfl : z_6 = 1 := ez_6.trans (by decide +kernel)
  refine va_sld hx hb hX hbl hbA hS (show ¬ ((1 : Int32) < 0 ∨ 5 ≤ (1 : Int32).toNatClampNeg) by decide +kernel) dL_law_845 ?_
  refine lv_aload_n hx hb dL_law_846 rfl (lv_at hl 0 rfl) ?_
  refine lv_iload_n hx hb dL_law_847 rfl (lv_at hl 3 rfl) ?_
  refine lv_iconst (v := 2) hx hb dL_law_848 (by decide) ?_
  refine lv_iadd hx hb dL_law_849 ?_
  refine lv_topi (fun z_7 ez_7 => ?_)
  obtain rfl : z_7 = 2 := ez_7.trans (by decide +kernel)
  refine va_sld hx hb hX hbl hbA hS (show ¬ ((2 : Int32) < 0 ∨ 5 ≤ (2 : Int32).toNatClampNeg) by decide +kernel) dL_law_850 ?_
  refine lv_aload_n hx hb dL_law_851 rfl (lv_at hl 0 rfl) ?_
  refine lv_iload_n hx hb dL_law_852 rfl (lv_at hl 3 rfl) ?_
  refine lv_iconst (v := 3) hx hb dL_law_853 (by decide) ?_
  refine lv_iadd hx hb dL_law_854 ?_
  refine lv_topi (fun z_8 ez_8 => ?_)
  obtain rfl : z_8 = 3 := ez_8.trans (by decide +kernel)
  refine va_sld hx hb hX hbl hbA hS (show ¬ ((3 : Int32) < 0 ∨ 5 ≤ (3 : Int32).toNatClampNeg) by decide +kernel) dL_law_855 ?_
  refine cVi (wr := []) (rest := [.int ((-1000000001))]) (k_m_midstream yh yq1 yq2 yq3 yq4 yq5 yq6 yq7 yq8 yq9 yq10 yq11 yq12 yq13 yq14 yq15 yq16 yq17 yq18 yq19 (xs (1 : Int32).toNatClampNeg) (xs (2 : Int32).toNatClampNeg) (xs (3 : Int32).toNatClampNeg)) okV_X10_midstream wd_556 hx hb hml hown hts hK hP hD hS hA hN hl.1 [0] [] rfl rfl rfl rfl (by decide) rfl rfl rfl (Nat.le_of_ble_eq_true rfl) (Nat.le_of_ble_eq_true rfl) (Nat.le_of_ble_eq_true rfl) (Nat.le_of_ble_eq_true rfl) (Nat.le_of_ble_eq_true rfl) dL_law_856 (fun r_10 u_9 H locs hw_u_9 hP hD hS => ?_)
  obtain rfl := hw_u_9
  have hP : va_P D classes [] H := hP
  have hD : va_D (lw_A s) [] := hD
  refine lv_icmp_eq (tgt := 1015) hx hb dL_law_859 (by decide) (fun c_11 => ?_) (fun c_11 => absurd rfl c_11)
  exact law_tail C1 hS hl
set_option maxHeartbeats 4000000 in
set_option maxRecDepth 100000 in
theorem law_fleet {p : Program} {l : Launch} {e : Env} {s : State} {m : MethodId} {below : List Frame} {meth : Method} {c : Code} {D : va_G} {cI cZ : ClassId} {b : Nat} {xs : Nat → Int32} (xh xq1 xq2 xq6 xq14 xq22 xq26 xq31 xq35 xq36 xq41 xq44 xq50 xq59 xq9 xq10 xq11 xq12 xq13 xu23 yh yq1 yq2 yq3 yq4 yq5 yq6 yq7 yq8 yq9 yq10 yq11 yq12 yq13 yq14 yq15 yq16 yq17 yq18 yq19 : Nat) (C0 : lw_C p s m meth c b 5 xs) {H : Heap} {locs : List Loc} {ls : Array Slot} (hK : va_K D classes (TYS cI cZ) s) (hP : va_P D classes [(xh, .inr (9, [.ref xq1, .int 0, .int (-1), .ref xq2, .ref xq6, .ref xq14, .ref xq22, .ref xq26, .ref xq31, .ref xq35, .int 0, .ref xq36, .int 0, .ref xq41, .ref xq44, .ref xq50, .ref xq59])), (xq6, .inr (8, [.int 0, .int 1, .int 0, .int 0, .int 0, .ref xq9, .ref xq10, .ref xq11, .ref xq12, .ref xq13])), (xq22, .inr (7, [.ref xu23])), (xu23, .inl (cI, 41, .inl (cB2 z0 7))), (yh, .inr (10, [.ref yq1, .ref yq2, .int 0, .int 0, .int 1, .int 0, .int 0, .int 0, .ref yq3, .ref yq4, .ref yq5, .ref yq6, .ref yq7, .ref yq8, .int 0, .int 0, .int 0, .int 0, .int 0, .int (-1), .int 0, .int 0, .int 0, .int 0, .int 0, .int 0, .int 0, .ref yq9, .ref yq10, .ref yq11, .ref yq12, .ref yq13, .int 0, .int 0, .int 0, .int 0, .ref yq14, .ref yq15, .ref yq16, .ref yq17, .int 0, .int 0, .int 0, .ref yq18, .ref yq19])), (yq1, .inl (cI, 1302, .inl (upd (wC z0 7) (41 : Int32).toNatClampNeg (z0 (41 : Int32).toNatClampNeg))))] H) (hD : va_D (lw_A s) [(xh, .inr (9, [.ref xq1, .int 0, .int (-1), .ref xq2, .ref xq6, .ref xq14, .ref xq22, .ref xq26, .ref xq31, .ref xq35, .int 0, .ref xq36, .int 0, .ref xq41, .ref xq44, .ref xq50, .ref xq59])), (xq6, .inr (8, [.int 0, .int 1, .int 0, .int 0, .int 0, .ref xq9, .ref xq10, .ref xq11, .ref xq12, .ref xq13])), (xq22, .inr (7, [.ref xu23])), (xu23, .inl (cI, 41, .inl (cB2 z0 7))), (yh, .inr (10, [.ref yq1, .ref yq2, .int 0, .int 0, .int 1, .int 0, .int 0, .int 0, .ref yq3, .ref yq4, .ref yq5, .ref yq6, .ref yq7, .ref yq8, .int 0, .int 0, .int 0, .int 0, .int 0, .int (-1), .int 0, .int 0, .int 0, .int 0, .int 0, .int 0, .int 0, .ref yq9, .ref yq10, .ref yq11, .ref yq12, .ref yq13, .int 0, .int 0, .int 0, .int 0, .ref yq14, .ref yq15, .ref yq16, .ref yq17, .int 0, .int 0, .int 0, .ref yq18, .ref yq19])), (yq1, .inl (cI, 1302, .inl (upd (wC z0 7) (41 : Int32).toNatClampNeg (z0 (41 : Int32).toNatClampNeg))))]) (hS : va_S (lw_A s) s.heap H locs) (hl : lv_has ls 4 [(0, .ref b), (1, .ref xh), (2, .ref yh), (3, .int 0)]) : W p l e room_1 s m #[Value.ref b] below meth c H locs 60 4269 (lw_Z below #[Value.ref b] s) (F0 m 864 ls []) := by
  have C1 := C0
  obtain ⟨hx, hb, hr, hml, hown, hts, hX, hbl, hlocks, hN⟩ := C0
  have hA : ∀ q, s.heap.size ≤ q → lw_A s q := fun _ h => h
  have hbA : ¬ lw_A s b := Nat.not_le.mpr hbl
  refine lv_aload_n hx hb dL_law_864 rfl (lv_at hl 1 rfl) ?_
  refine lv_aload_n hx hb dL_law_865 rfl (lv_at hl 0 rfl) ?_
  refine lv_iload_n hx hb dL_law_866 rfl (lv_at hl 3 rfl) ?_
  refine lv_iconst (v := 1) hx hb dL_law_867 (by decide) ?_
  refine lv_iadd hx hb dL_law_868 ?_
  refine lv_topi (fun z_1 ez_1 => ?_)
  obtain rfl : z_1 = 1 := ez_1.trans (by decide +kernel)
  refine va_sld hx hb hX hbl hbA hS (show ¬ ((1 : Int32) < 0 ∨ 5 ≤ (1 : Int32).toNatClampNeg) by decide +kernel) dL_law_869 ?_
  refine cVi (wr := [(yh, .inr (10, [.ref yq1, .ref yq2, .int 0, .int 0, .int 1, .int 0, .int 0, .int 0, .ref yq3, .ref yq4, .ref yq5, .ref yq6, .ref yq7, .ref yq8, .int 0, .int 0, .int 0, .int 0, .int 0, .int (-1), .int 0, .int 0, .int 0, .int 0, .int 0, .int 0, .int 0, .ref yq9, .ref yq10, .ref yq11, .ref yq12, .ref yq13, .int 0, .int 0, .int 0, .int 0, .ref yq14, .ref yq15, .ref yq16, .ref yq17, .int 0, .int 0, .int 0, .ref yq18, .ref yq19])), (yq1, .inl (cI, 1302, .inl (upd (wC z0 7) (41 : Int32).toNatClampNeg (z0 (41 : Int32).toNatClampNeg))))]) (rest := []) (k_x_fleet xh xq1 xq2 xq6 xq14 xq22 xq26 xq31 xq35 xq36 xq41 xq44 xq50 xq59 xq9 xq10 xq11 xq12 xq13 xu23 (xs (1 : Int32).toNatClampNeg)) okV_X9_fleet wd_560 hx hb hml hown hts hK hP hD hS hA hN hl.1 [0, 1, 2, 3] [4, 5] rfl rfl rfl rfl (by decide) rfl rfl rfl (Nat.le_of_ble_eq_true rfl) (Nat.le_of_ble_eq_true rfl) (Nat.le_of_ble_eq_true rfl) (Nat.le_of_ble_eq_true rfl) (Nat.le_of_ble_eq_true rfl) dL_law_870 (fun r_3 u_2 H locs hw_u_2 hP hD hS => ?_)
  obtain rfl := hw_u_2
  have hP : va_P D classes [(yh, .inr (10, [.ref yq1, .ref yq2, .int 0, .int 0, .int 1, .int 0, .int 0, .int 0, .ref yq3, .ref yq4, .ref yq5, .ref yq6, .ref yq7, .ref yq8, .int 0, .int 0, .int 0, .int 0, .int 0, .int (-1), .int 0, .int 0, .int 0, .int 0, .int 0, .int 0, .int 0, .ref yq9, .ref yq10, .ref yq11, .ref yq12, .ref yq13, .int 0, .int 0, .int 0, .int 0, .ref yq14, .ref yq15, .ref yq16, .ref yq17, .int 0, .int 0, .int 0, .ref yq18, .ref yq19])), (yq1, .inl (cI, 1302, .inl (upd (wC z0 7) (41 : Int32).toNatClampNeg (z0 (41 : Int32).toNatClampNeg))))] H := hP
  have hD : va_D (lw_A s) [(yh, .inr (10, [.ref yq1, .ref yq2, .int 0, .int 0, .int 1, .int 0, .int 0, .int 0, .ref yq3, .ref yq4, .ref yq5, .ref yq6, .ref yq7, .ref yq8, .int 0, .int 0, .int 0, .int 0, .int 0, .int (-1), .int 0, .int 0, .int 0, .int 0, .int 0, .int 0, .int 0, .ref yq9, .ref yq10, .ref yq11, .ref yq12, .ref yq13, .int 0, .int 0, .int 0, .int 0, .ref yq14, .ref yq15, .ref yq16, .ref yq17, .int 0, .int 0, .int 0, .ref yq18, .ref yq19])), (yq1, .inl (cI, 1302, .inl (upd (wC z0 7) (41 : Int32).toNatClampNeg (z0 (41 : Int32).toNatClampNeg))))] := hD
  refine lv_aload_n hx hb dL_law_873 rfl (lv_at hl 2 rfl) ?_
  refine lv_aload_n hx hb dL_law_874 rfl (lv_at hl 0 rfl) ?_
  refine lv_iload_n hx hb dL_law_875 rfl (lv_at hl 3 rfl) ?_
  refine lv_iconst (v := 1) hx hb dL_law_876 (by decide) ?_
  refine lv_iadd hx hb dL_law_877 ?_
  refine lv_topi (fun z_4 ez_4 => ?_)
  obtain rfl : z_4 = 1 := ez_4.trans (by decide +kernel)
  refine va_sld hx hb hX hbl hbA hS (show ¬ ((1 : Int32) < 0 ∨ 5 ≤ (1 : Int32).toNatClampNeg) by decide +kernel) dL_law_878 ?_
  refine cVi (wr := []) (rest := [.int (rg 1 9 (xs (1 : Int32).toNatClampNeg) (-1000000002) 0)]) (k_m_fleet yh yq1 yq2 yq3 yq4 yq5 yq6 yq7 yq8 yq9 yq10 yq11 yq12 yq13 yq14 yq15 yq16 yq17 yq18 yq19 (xs (1 : Int32).toNatClampNeg)) okV_X10_fleet wd_564 hx hb hml hown hts hK hP hD hS hA hN hl.1 [0, 1] [] rfl rfl rfl rfl (by decide) rfl rfl rfl (Nat.le_of_ble_eq_true rfl) (Nat.le_of_ble_eq_true rfl) (Nat.le_of_ble_eq_true rfl) (Nat.le_of_ble_eq_true rfl) (Nat.le_of_ble_eq_true rfl) dL_law_879 (fun r_6 u_5 H locs hw_u_5 hP hD hS => ?_)
  obtain rfl := hw_u_5
  have hP : va_P D classes [] H := hP
  have hD : va_D (lw_A s) [] := hD
  refine lv_icmp_eq (tgt := 1015) hx hb dL_law_882 (by decide) (fun c_7 => ?_) (fun c_7 => absurd rfl c_7)
  exact law_tail C1 hS hl
set_option maxHeartbeats 4000000 in
set_option maxRecDepth 100000 in
theorem law_write {p : Program} {l : Launch} {e : Env} {s : State} {m : MethodId} {below : List Frame} {meth : Method} {c : Code} {D : va_G} {cI cZ : ClassId} {b : Nat} {xs : Nat → Int32} (xh xq1 xq2 xq6 xq14 xq22 xq26 xq31 xq35 xq36 xq41 xq44 xq50 xq59 xq9 xq10 xq11 xq12 xq13 yh yq1 yq2 yq3 yq4 yq5 yq6 yq7 yq8 yq9 yq10 yq11 yq12 yq13 yq14 yq15 yq16 yq17 yq18 yq19 : Nat) (C0 : lw_C p s m meth c b 5 xs) {H : Heap} {locs : List Loc} {ls : Array Slot} (hK : va_K D classes (TYS cI cZ) s) (hP : va_P D classes [(xh, .inr (9, [.ref xq1, .int 0, .int (-1), .ref xq2, .ref xq6, .ref xq14, .ref xq22, .ref xq26, .ref xq31, .ref xq35, .int 0, .ref xq36, .int 0, .ref xq41, .ref xq44, .ref xq50, .ref xq59])), (xq6, .inr (8, [.int 0, .int 1, .int 0, .int 0, .int 0, .ref xq9, .ref xq10, .ref xq11, .ref xq12, .ref xq13])), (yh, .inr (10, [.ref yq1, .ref yq2, .int 0, .int 0, .int 1, .int 0, .int 0, .int 0, .ref yq3, .ref yq4, .ref yq5, .ref yq6, .ref yq7, .ref yq8, .int 0, .int 0, .int 0, .int 0, .int 0, .int (-1), .int 0, .int 0, .int 0, .int 0, .int 0, .int 0, .int 0, .ref yq9, .ref yq10, .ref yq11, .ref yq12, .ref yq13, .int 0, .int 0, .int 0, .int 0, .ref yq14, .ref yq15, .ref yq16, .ref yq17, .int 0, .int 0, .int 0, .ref yq18, .ref yq19]))] H) (hD : va_D (lw_A s) [(xh, .inr (9, [.ref xq1, .int 0, .int (-1), .ref xq2, .ref xq6, .ref xq14, .ref xq22, .ref xq26, .ref xq31, .ref xq35, .int 0, .ref xq36, .int 0, .ref xq41, .ref xq44, .ref xq50, .ref xq59])), (xq6, .inr (8, [.int 0, .int 1, .int 0, .int 0, .int 0, .ref xq9, .ref xq10, .ref xq11, .ref xq12, .ref xq13])), (yh, .inr (10, [.ref yq1, .ref yq2, .int 0, .int 0, .int 1, .int 0, .int 0, .int 0, .ref yq3, .ref yq4, .ref yq5, .ref yq6, .ref yq7, .ref yq8, .int 0, .int 0, .int 0, .int 0, .int 0, .int (-1), .int 0, .int 0, .int 0, .int 0, .int 0, .int 0, .int 0, .ref yq9, .ref yq10, .ref yq11, .ref yq12, .ref yq13, .int 0, .int 0, .int 0, .int 0, .ref yq14, .ref yq15, .ref yq16, .ref yq17, .int 0, .int 0, .int 0, .ref yq18, .ref yq19]))]) (hS : va_S (lw_A s) s.heap H locs) (hl : lv_has ls 4 [(0, .ref b), (1, .ref xh), (2, .ref yh), (3, .int 0)]) : W p l e room_1 s m #[Value.ref b] below meth c H locs 60 4269 (lw_Z below #[Value.ref b] s) (F0 m 887 ls []) := by
  have C1 := C0
  obtain ⟨hx, hb, hr, hml, hown, hts, hX, hbl, hlocks, hN⟩ := C0
  have hA : ∀ q, s.heap.size ≤ q → lw_A s q := fun _ h => h
  have hbA : ¬ lw_A s b := Nat.not_le.mpr hbl
  refine lv_aload_n hx hb dL_law_887 rfl (lv_at hl 1 rfl) ?_
  refine lv_aload_n hx hb dL_law_888 rfl (lv_at hl 0 rfl) ?_
  refine lv_iload_n hx hb dL_law_889 rfl (lv_at hl 3 rfl) ?_
  refine lv_iconst (v := 1) hx hb dL_law_890 (by decide) ?_
  refine lv_iadd hx hb dL_law_891 ?_
  refine lv_topi (fun z_1 ez_1 => ?_)
  obtain rfl : z_1 = 1 := ez_1.trans (by decide +kernel)
  refine va_sld hx hb hX hbl hbA hS (show ¬ ((1 : Int32) < 0 ∨ 5 ≤ (1 : Int32).toNatClampNeg) by decide +kernel) dL_law_892 ?_
  refine lv_aload_n hx hb dL_law_893 rfl (lv_at hl 0 rfl) ?_
  refine lv_iload_n hx hb dL_law_894 rfl (lv_at hl 3 rfl) ?_
  refine lv_iconst (v := 2) hx hb dL_law_895 (by decide) ?_
  refine lv_iadd hx hb dL_law_896 ?_
  refine lv_topi (fun z_2 ez_2 => ?_)
  obtain rfl : z_2 = 2 := ez_2.trans (by decide +kernel)
  refine va_sld hx hb hX hbl hbA hS (show ¬ ((2 : Int32) < 0 ∨ 5 ≤ (2 : Int32).toNatClampNeg) by decide +kernel) dL_law_897 ?_
  refine cVi (wr := [(yh, .inr (10, [.ref yq1, .ref yq2, .int 0, .int 0, .int 1, .int 0, .int 0, .int 0, .ref yq3, .ref yq4, .ref yq5, .ref yq6, .ref yq7, .ref yq8, .int 0, .int 0, .int 0, .int 0, .int 0, .int (-1), .int 0, .int 0, .int 0, .int 0, .int 0, .int 0, .int 0, .ref yq9, .ref yq10, .ref yq11, .ref yq12, .ref yq13, .int 0, .int 0, .int 0, .int 0, .ref yq14, .ref yq15, .ref yq16, .ref yq17, .int 0, .int 0, .int 0, .ref yq18, .ref yq19]))]) (rest := []) (k_x_write xh xq1 xq2 xq6 xq14 xq22 xq26 xq31 xq35 xq36 xq41 xq44 xq50 xq59 xq9 xq10 xq11 xq12 xq13 (xs (1 : Int32).toNatClampNeg) (xs (2 : Int32).toNatClampNeg)) okV_X9_write wd_568 hx hb hml hown hts hK hP hD hS hA hN hl.1 [0, 1] [2] rfl rfl rfl rfl (by decide) rfl rfl rfl (Nat.le_of_ble_eq_true rfl) (Nat.le_of_ble_eq_true rfl) (Nat.le_of_ble_eq_true rfl) (Nat.le_of_ble_eq_true rfl) (Nat.le_of_ble_eq_true rfl) dL_law_898 (fun r_4 u_3 H locs hw_u_3 hP hD hS => ?_)
  obtain rfl := hw_u_3
  have hP : va_P D classes [(yh, .inr (10, [.ref yq1, .ref yq2, .int 0, .int 0, .int 1, .int 0, .int 0, .int 0, .ref yq3, .ref yq4, .ref yq5, .ref yq6, .ref yq7, .ref yq8, .int 0, .int 0, .int 0, .int 0, .int 0, .int (-1), .int 0, .int 0, .int 0, .int 0, .int 0, .int 0, .int 0, .ref yq9, .ref yq10, .ref yq11, .ref yq12, .ref yq13, .int 0, .int 0, .int 0, .int 0, .ref yq14, .ref yq15, .ref yq16, .ref yq17, .int 0, .int 0, .int 0, .ref yq18, .ref yq19]))] H := hP
  have hD : va_D (lw_A s) [(yh, .inr (10, [.ref yq1, .ref yq2, .int 0, .int 0, .int 1, .int 0, .int 0, .int 0, .ref yq3, .ref yq4, .ref yq5, .ref yq6, .ref yq7, .ref yq8, .int 0, .int 0, .int 0, .int 0, .int 0, .int (-1), .int 0, .int 0, .int 0, .int 0, .int 0, .int 0, .int 0, .ref yq9, .ref yq10, .ref yq11, .ref yq12, .ref yq13, .int 0, .int 0, .int 0, .int 0, .ref yq14, .ref yq15, .ref yq16, .ref yq17, .int 0, .int 0, .int 0, .ref yq18, .ref yq19]))] := hD
  refine lv_aload_n hx hb dL_law_901 rfl (lv_at hl 2 rfl) ?_
  refine lv_aload_n hx hb dL_law_902 rfl (lv_at hl 0 rfl) ?_
  refine lv_iload_n hx hb dL_law_903 rfl (lv_at hl 3 rfl) ?_
  refine lv_iconst (v := 1) hx hb dL_law_904 (by decide) ?_
  refine lv_iadd hx hb dL_law_905 ?_
  refine lv_topi (fun z_5 ez_5 => ?_)
  obtain rfl : z_5 = 1 := ez_5.trans (by decide +kernel)
  refine va_sld hx hb hX hbl hbA hS (show ¬ ((1 : Int32) < 0 ∨ 5 ≤ (1 : Int32).toNatClampNeg) by decide +kernel) dL_law_906 ?_
  refine lv_aload_n hx hb dL_law_907 rfl (lv_at hl 0 rfl) ?_
  refine lv_iload_n hx hb dL_law_908 rfl (lv_at hl 3 rfl) ?_
  refine lv_iconst (v := 2) hx hb dL_law_909 (by decide) ?_
  refine lv_iadd hx hb dL_law_910 ?_
  refine lv_topi (fun z_6 ez_6 => ?_)
  obtain rfl : z_6 = 2 := ez_6.trans (by decide +kernel)
  refine va_sld hx hb hX hbl hbA hS (show ¬ ((2 : Int32) < 0 ∨ 5 ≤ (2 : Int32).toNatClampNeg) by decide +kernel) dL_law_911 ?_
  refine cVi (wr := []) (rest := [.int ((-1000000001))]) (k_m_write yh yq1 yq2 yq3 yq4 yq5 yq6 yq7 yq8 yq9 yq10 yq11 yq12 yq13 yq14 yq15 yq16 yq17 yq18 yq19 (xs (1 : Int32).toNatClampNeg) (xs (2 : Int32).toNatClampNeg)) okV_X10_write wd_572 hx hb hml hown hts hK hP hD hS hA hN hl.1 [0] [] rfl rfl rfl rfl (by decide) rfl rfl rfl (Nat.le_of_ble_eq_true rfl) (Nat.le_of_ble_eq_true rfl) (Nat.le_of_ble_eq_true rfl) (Nat.le_of_ble_eq_true rfl) (Nat.le_of_ble_eq_true rfl) dL_law_912 (fun r_8 u_7 H locs hw_u_7 hP hD hS => ?_)
  obtain rfl := hw_u_7
  have hP : va_P D classes [] H := hP
  have hD : va_D (lw_A s) [] := hD
  refine lv_icmp_eq (tgt := 1015) hx hb dL_law_915 (by decide) (fun c_9 => ?_) (fun c_9 => absurd rfl c_9)
  exact law_tail C1 hS hl
set_option maxHeartbeats 4000000 in
set_option maxRecDepth 100000 in
theorem law_tear {p : Program} {l : Launch} {e : Env} {s : State} {m : MethodId} {below : List Frame} {meth : Method} {c : Code} {D : va_G} {cI cZ : ClassId} {b : Nat} {xs : Nat → Int32} (xh xq1 xq2 xq6 xq14 xq22 xq26 xq31 xq35 xq36 xq41 xq44 xq50 xq59 xq39 xq40 yh yq1 yq2 yq3 yq4 yq5 yq6 yq7 yq8 yq9 yq10 yq11 yq12 yq13 yq14 yq15 yq16 yq17 yq18 yq19 : Nat) (C0 : lw_C p s m meth c b 5 xs) {H : Heap} {locs : List Loc} {ls : Array Slot} (hK : va_K D classes (TYS cI cZ) s) (hP : va_P D classes [(xh, .inr (9, [.ref xq1, .int 0, .int (-1), .ref xq2, .ref xq6, .ref xq14, .ref xq22, .ref xq26, .ref xq31, .ref xq35, .int 0, .ref xq36, .int 0, .ref xq41, .ref xq44, .ref xq50, .ref xq59])), (xq36, .inr (0, [.int 0, .ref xq39, .ref xq40])), (yh, .inr (10, [.ref yq1, .ref yq2, .int 0, .int 0, .int 1, .int 0, .int 0, .int 0, .ref yq3, .ref yq4, .ref yq5, .ref yq6, .ref yq7, .ref yq8, .int 0, .int 0, .int 0, .int 0, .int 0, .int (-1), .int 0, .int 0, .int 0, .int 0, .int 0, .int 0, .int 0, .ref yq9, .ref yq10, .ref yq11, .ref yq12, .ref yq13, .int 0, .int 0, .int 0, .int 0, .ref yq14, .ref yq15, .ref yq16, .ref yq17, .int 0, .int 0, .int 0, .ref yq18, .ref yq19]))] H) (hD : va_D (lw_A s) [(xh, .inr (9, [.ref xq1, .int 0, .int (-1), .ref xq2, .ref xq6, .ref xq14, .ref xq22, .ref xq26, .ref xq31, .ref xq35, .int 0, .ref xq36, .int 0, .ref xq41, .ref xq44, .ref xq50, .ref xq59])), (xq36, .inr (0, [.int 0, .ref xq39, .ref xq40])), (yh, .inr (10, [.ref yq1, .ref yq2, .int 0, .int 0, .int 1, .int 0, .int 0, .int 0, .ref yq3, .ref yq4, .ref yq5, .ref yq6, .ref yq7, .ref yq8, .int 0, .int 0, .int 0, .int 0, .int 0, .int (-1), .int 0, .int 0, .int 0, .int 0, .int 0, .int 0, .int 0, .ref yq9, .ref yq10, .ref yq11, .ref yq12, .ref yq13, .int 0, .int 0, .int 0, .int 0, .ref yq14, .ref yq15, .ref yq16, .ref yq17, .int 0, .int 0, .int 0, .ref yq18, .ref yq19]))]) (hS : va_S (lw_A s) s.heap H locs) (hl : lv_has ls 4 [(0, .ref b), (1, .ref xh), (2, .ref yh), (3, .int 0)]) : W p l e room_1 s m #[Value.ref b] below meth c H locs 60 4269 (lw_Z below #[Value.ref b] s) (F0 m 920 ls []) := by
  have C1 := C0
  obtain ⟨hx, hb, hr, hml, hown, hts, hX, hbl, hlocks, hN⟩ := C0
  have hA : ∀ q, s.heap.size ≤ q → lw_A s q := fun _ h => h
  have hbA : ¬ lw_A s b := Nat.not_le.mpr hbl
  refine lv_aload_n hx hb dL_law_920 rfl (lv_at hl 1 rfl) ?_
  refine cVi (wr := [(yh, .inr (10, [.ref yq1, .ref yq2, .int 0, .int 0, .int 1, .int 0, .int 0, .int 0, .ref yq3, .ref yq4, .ref yq5, .ref yq6, .ref yq7, .ref yq8, .int 0, .int 0, .int 0, .int 0, .int 0, .int (-1), .int 0, .int 0, .int 0, .int 0, .int 0, .int 0, .int 0, .ref yq9, .ref yq10, .ref yq11, .ref yq12, .ref yq13, .int 0, .int 0, .int 0, .int 0, .ref yq14, .ref yq15, .ref yq16, .ref yq17, .int 0, .int 0, .int 0, .ref yq18, .ref yq19]))]) (rest := []) (k_x_tear xh xq1 xq2 xq6 xq14 xq22 xq26 xq31 xq35 xq36 xq41 xq44 xq50 xq59 xq39 xq40) okV_X9_tear wd_576 hx hb hml hown hts hK hP hD hS hA hN hl.1 [0, 1] [2] rfl rfl rfl rfl (by decide) rfl rfl rfl (Nat.le_of_ble_eq_true rfl) (Nat.le_of_ble_eq_true rfl) (Nat.le_of_ble_eq_true rfl) (Nat.le_of_ble_eq_true rfl) (Nat.le_of_ble_eq_true rfl) dL_law_921 (fun r_2 u_1 H locs hw_u_1 hP hD hS => ?_)
  obtain rfl := hw_u_1
  have hP : va_P D classes [(yh, .inr (10, [.ref yq1, .ref yq2, .int 0, .int 0, .int 1, .int 0, .int 0, .int 0, .ref yq3, .ref yq4, .ref yq5, .ref yq6, .ref yq7, .ref yq8, .int 0, .int 0, .int 0, .int 0, .int 0, .int (-1), .int 0, .int 0, .int 0, .int 0, .int 0, .int 0, .int 0, .ref yq9, .ref yq10, .ref yq11, .ref yq12, .ref yq13, .int 0, .int 0, .int 0, .int 0, .ref yq14, .ref yq15, .ref yq16, .ref yq17, .int 0, .int 0, .int 0, .ref yq18, .ref yq19]))] H := hP
  have hD : va_D (lw_A s) [(yh, .inr (10, [.ref yq1, .ref yq2, .int 0, .int 0, .int 1, .int 0, .int 0, .int 0, .ref yq3, .ref yq4, .ref yq5, .ref yq6, .ref yq7, .ref yq8, .int 0, .int 0, .int 0, .int 0, .int 0, .int (-1), .int 0, .int 0, .int 0, .int 0, .int 0, .int 0, .int 0, .ref yq9, .ref yq10, .ref yq11, .ref yq12, .ref yq13, .int 0, .int 0, .int 0, .int 0, .ref yq14, .ref yq15, .ref yq16, .ref yq17, .int 0, .int 0, .int 0, .ref yq18, .ref yq19]))] := hD
  refine lv_aload_n hx hb dL_law_924 rfl (lv_at hl 2 rfl) ?_
  refine cVi (wr := []) (rest := [.int (0)]) (k_m_tear yh yq1 yq2 yq3 yq4 yq5 yq6 yq7 yq8 yq9 yq10 yq11 yq12 yq13 yq14 yq15 yq16 yq17 yq18 yq19) okV_X10_tear wd_580 hx hb hml hown hts hK hP hD hS hA hN hl.1 [0] [] rfl rfl rfl rfl (by decide) rfl rfl rfl (Nat.le_of_ble_eq_true rfl) (Nat.le_of_ble_eq_true rfl) (Nat.le_of_ble_eq_true rfl) (Nat.le_of_ble_eq_true rfl) (Nat.le_of_ble_eq_true rfl) dL_law_925 (fun r_4 u_3 H locs hw_u_3 hP hD hS => ?_)
  obtain rfl := hw_u_3
  have hP : va_P D classes [] H := hP
  have hD : va_D (lw_A s) [] := hD
  refine lv_icmp_eq (tgt := 1015) hx hb dL_law_928 (by decide) (fun c_5 => ?_) (fun c_5 => absurd rfl c_5)
  exact law_tail C1 hS hl
set_option maxHeartbeats 4000000 in
set_option maxRecDepth 100000 in
theorem law_judge {p : Program} {l : Launch} {e : Env} {s : State} {m : MethodId} {below : List Frame} {meth : Method} {c : Code} {D : va_G} {cI cZ : ClassId} {b : Nat} {xs : Nat → Int32} (xh xq1 xq2 xq6 xq14 xq22 xq26 xq31 xq35 xq36 xq41 xq44 xq50 xq59 xq39 xq40 yh yq1 yq2 yq3 yq4 yq5 yq6 yq7 yq8 yq9 yq10 yq11 yq12 yq13 yq14 yq15 yq16 yq17 yq18 yq19 : Nat) (C0 : lw_C p s m meth c b 5 xs) {H : Heap} {locs : List Loc} {ls : Array Slot} (hK : va_K D classes (TYS cI cZ) s) (hP : va_P D classes [(xh, .inr (9, [.ref xq1, .int 0, .int (-1), .ref xq2, .ref xq6, .ref xq14, .ref xq22, .ref xq26, .ref xq31, .ref xq35, .int 0, .ref xq36, .int 0, .ref xq41, .ref xq44, .ref xq50, .ref xq59])), (xq36, .inr (0, [.int 0, .ref xq39, .ref xq40])), (yh, .inr (10, [.ref yq1, .ref yq2, .int 0, .int 0, .int 1, .int 0, .int 0, .int 0, .ref yq3, .ref yq4, .ref yq5, .ref yq6, .ref yq7, .ref yq8, .int 0, .int 0, .int 0, .int 0, .int 0, .int (-1), .int 0, .int 0, .int 0, .int 0, .int 0, .int 0, .int 0, .ref yq9, .ref yq10, .ref yq11, .ref yq12, .ref yq13, .int 0, .int 0, .int 0, .int 0, .ref yq14, .ref yq15, .ref yq16, .ref yq17, .int 0, .int 0, .int 0, .ref yq18, .ref yq19]))] H) (hD : va_D (lw_A s) [(xh, .inr (9, [.ref xq1, .int 0, .int (-1), .ref xq2, .ref xq6, .ref xq14, .ref xq22, .ref xq26, .ref xq31, .ref xq35, .int 0, .ref xq36, .int 0, .ref xq41, .ref xq44, .ref xq50, .ref xq59])), (xq36, .inr (0, [.int 0, .ref xq39, .ref xq40])), (yh, .inr (10, [.ref yq1, .ref yq2, .int 0, .int 0, .int 1, .int 0, .int 0, .int 0, .ref yq3, .ref yq4, .ref yq5, .ref yq6, .ref yq7, .ref yq8, .int 0, .int 0, .int 0, .int 0, .int 0, .int (-1), .int 0, .int 0, .int 0, .int 0, .int 0, .int 0, .int 0, .ref yq9, .ref yq10, .ref yq11, .ref yq12, .ref yq13, .int 0, .int 0, .int 0, .int 0, .ref yq14, .ref yq15, .ref yq16, .ref yq17, .int 0, .int 0, .int 0, .ref yq18, .ref yq19]))]) (hS : va_S (lw_A s) s.heap H locs) (hl : lv_has ls 4 [(0, .ref b), (1, .ref xh), (2, .ref yh), (3, .int 0)]) : W p l e room_1 s m #[Value.ref b] below meth c H locs 60 4269 (lw_Z below #[Value.ref b] s) (F0 m 933 ls []) := by
  have C1 := C0
  obtain ⟨hx, hb, hr, hml, hown, hts, hX, hbl, hlocks, hN⟩ := C0
  have hA : ∀ q, s.heap.size ≤ q → lw_A s q := fun _ h => h
  have hbA : ¬ lw_A s b := Nat.not_le.mpr hbl
  refine lv_aload_n hx hb dL_law_933 rfl (lv_at hl 1 rfl) ?_
  refine cVi (wr := [(yh, .inr (10, [.ref yq1, .ref yq2, .int 0, .int 0, .int 1, .int 0, .int 0, .int 0, .ref yq3, .ref yq4, .ref yq5, .ref yq6, .ref yq7, .ref yq8, .int 0, .int 0, .int 0, .int 0, .int 0, .int (-1), .int 0, .int 0, .int 0, .int 0, .int 0, .int 0, .int 0, .ref yq9, .ref yq10, .ref yq11, .ref yq12, .ref yq13, .int 0, .int 0, .int 0, .int 0, .ref yq14, .ref yq15, .ref yq16, .ref yq17, .int 0, .int 0, .int 0, .ref yq18, .ref yq19]))]) (rest := []) (k_x_judge xh xq1 xq2 xq6 xq14 xq22 xq26 xq31 xq35 xq36 xq41 xq44 xq50 xq59 xq39 xq40) okV_X9_judge wd_584 hx hb hml hown hts hK hP hD hS hA hN hl.1 [0, 1] [2] rfl rfl rfl rfl (by decide) rfl rfl rfl (Nat.le_of_ble_eq_true rfl) (Nat.le_of_ble_eq_true rfl) (Nat.le_of_ble_eq_true rfl) (Nat.le_of_ble_eq_true rfl) (Nat.le_of_ble_eq_true rfl) dL_law_934 (fun r_2 u_1 H locs hw_u_1 hP hD hS => ?_)
  obtain rfl := hw_u_1
  have hP : va_P D classes [(yh, .inr (10, [.ref yq1, .ref yq2, .int 0, .int 0, .int 1, .int 0, .int 0, .int 0, .ref yq3, .ref yq4, .ref yq5, .ref yq6, .ref yq7, .ref yq8, .int 0, .int 0, .int 0, .int 0, .int 0, .int (-1), .int 0, .int 0, .int 0, .int 0, .int 0, .int 0, .int 0, .ref yq9, .ref yq10, .ref yq11, .ref yq12, .ref yq13, .int 0, .int 0, .int 0, .int 0, .ref yq14, .ref yq15, .ref yq16, .ref yq17, .int 0, .int 0, .int 0, .ref yq18, .ref yq19]))] H := hP
  have hD : va_D (lw_A s) [(yh, .inr (10, [.ref yq1, .ref yq2, .int 0, .int 0, .int 1, .int 0, .int 0, .int 0, .ref yq3, .ref yq4, .ref yq5, .ref yq6, .ref yq7, .ref yq8, .int 0, .int 0, .int 0, .int 0, .int 0, .int (-1), .int 0, .int 0, .int 0, .int 0, .int 0, .int 0, .int 0, .ref yq9, .ref yq10, .ref yq11, .ref yq12, .ref yq13, .int 0, .int 0, .int 0, .int 0, .ref yq14, .ref yq15, .ref yq16, .ref yq17, .int 0, .int 0, .int 0, .ref yq18, .ref yq19]))] := hD
  refine lv_aload_n hx hb dL_law_937 rfl (lv_at hl 2 rfl) ?_
  refine cVi (wr := []) (rest := [.int ((-1))]) (k_m_judge yh yq1 yq2 yq3 yq4 yq5 yq6 yq7 yq8 yq9 yq10 yq11 yq12 yq13 yq14 yq15 yq16 yq17 yq18 yq19) okV_X10_judge wd_588 hx hb hml hown hts hK hP hD hS hA hN hl.1 [0] [] rfl rfl rfl rfl (by decide) rfl rfl rfl (Nat.le_of_ble_eq_true rfl) (Nat.le_of_ble_eq_true rfl) (Nat.le_of_ble_eq_true rfl) (Nat.le_of_ble_eq_true rfl) (Nat.le_of_ble_eq_true rfl) dL_law_938 (fun r_4 u_3 H locs hw_u_3 hP hD hS => ?_)
  obtain rfl := hw_u_3
  have hP : va_P D classes [] H := hP
  have hD : va_D (lw_A s) [] := hD
  refine lv_icmp_eq (tgt := 1015) hx hb dL_law_941 (by decide) (fun c_5 => ?_) (fun c_5 => absurd rfl c_5)
  exact law_tail C1 hS hl
set_option maxHeartbeats 4000000 in
set_option maxRecDepth 100000 in
theorem law_seed {p : Program} {l : Launch} {e : Env} {s : State} {m : MethodId} {below : List Frame} {meth : Method} {c : Code} {D : va_G} {cI cZ : ClassId} {b : Nat} {xs : Nat → Int32} (xh xq1 xq2 xq6 xq14 xq22 xq26 xq31 xq35 xq36 xq41 xq44 xq50 xq59 yh yq1 yq2 yq3 yq4 yq5 yq6 yq7 yq8 yq9 yq10 yq11 yq12 yq13 yq14 yq15 yq16 yq17 yq18 yq19 : Nat) (C0 : lw_C p s m meth c b 5 xs) {H : Heap} {locs : List Loc} {ls : Array Slot} (hK : va_K D classes (TYS cI cZ) s) (hP : va_P D classes [(xh, .inr (9, [.ref xq1, .int 0, .int (-1), .ref xq2, .ref xq6, .ref xq14, .ref xq22, .ref xq26, .ref xq31, .ref xq35, .int 0, .ref xq36, .int 0, .ref xq41, .ref xq44, .ref xq50, .ref xq59])), (yh, .inr (10, [.ref yq1, .ref yq2, .int 0, .int 0, .int 1, .int 0, .int 0, .int 0, .ref yq3, .ref yq4, .ref yq5, .ref yq6, .ref yq7, .ref yq8, .int 0, .int 0, .int 0, .int 0, .int 0, .int (-1), .int 0, .int 0, .int 0, .int 0, .int 0, .int 0, .int 0, .ref yq9, .ref yq10, .ref yq11, .ref yq12, .ref yq13, .int 0, .int 0, .int 0, .int 0, .ref yq14, .ref yq15, .ref yq16, .ref yq17, .int 0, .int 0, .int 0, .ref yq18, .ref yq19])), (yq1, .inl (cI, 1302, .inl (upd (wC z0 7) (41 : Int32).toNatClampNeg (z0 (41 : Int32).toNatClampNeg))))] H) (hD : va_D (lw_A s) [(xh, .inr (9, [.ref xq1, .int 0, .int (-1), .ref xq2, .ref xq6, .ref xq14, .ref xq22, .ref xq26, .ref xq31, .ref xq35, .int 0, .ref xq36, .int 0, .ref xq41, .ref xq44, .ref xq50, .ref xq59])), (yh, .inr (10, [.ref yq1, .ref yq2, .int 0, .int 0, .int 1, .int 0, .int 0, .int 0, .ref yq3, .ref yq4, .ref yq5, .ref yq6, .ref yq7, .ref yq8, .int 0, .int 0, .int 0, .int 0, .int 0, .int (-1), .int 0, .int 0, .int 0, .int 0, .int 0, .int 0, .int 0, .ref yq9, .ref yq10, .ref yq11, .ref yq12, .ref yq13, .int 0, .int 0, .int 0, .int 0, .ref yq14, .ref yq15, .ref yq16, .ref yq17, .int 0, .int 0, .int 0, .ref yq18, .ref yq19])), (yq1, .inl (cI, 1302, .inl (upd (wC z0 7) (41 : Int32).toNatClampNeg (z0 (41 : Int32).toNatClampNeg))))]) (hS : va_S (lw_A s) s.heap H locs) (hl : lv_has ls 4 [(0, .ref b), (1, .ref xh), (2, .ref yh), (3, .int 0)]) : W p l e room_1 s m #[Value.ref b] below meth c H locs 60 4269 (lw_Z below #[Value.ref b] s) (F0 m 946 ls []) := by
  have C1 := C0
  obtain ⟨hx, hb, hr, hml, hown, hts, hX, hbl, hlocks, hN⟩ := C0
  have hA : ∀ q, s.heap.size ≤ q → lw_A s q := fun _ h => h
  have hbA : ¬ lw_A s b := Nat.not_le.mpr hbl
  refine lv_aload_n hx hb dL_law_946 rfl (lv_at hl 1 rfl) ?_
  refine lv_aload_n hx hb dL_law_947 rfl (lv_at hl 0 rfl) ?_
  refine lv_iload_n hx hb dL_law_948 rfl (lv_at hl 3 rfl) ?_
  refine lv_iconst (v := 1) hx hb dL_law_949 (by decide) ?_
  refine lv_iadd hx hb dL_law_950 ?_
  refine lv_topi (fun z_1 ez_1 => ?_)
  obtain rfl : z_1 = 1 := ez_1.trans (by decide +kernel)
  refine va_sld hx hb hX hbl hbA hS (show ¬ ((1 : Int32) < 0 ∨ 5 ≤ (1 : Int32).toNatClampNeg) by decide +kernel) dL_law_951 ?_
  refine cVi (wr := [(yh, .inr (10, [.ref yq1, .ref yq2, .int 0, .int 0, .int 1, .int 0, .int 0, .int 0, .ref yq3, .ref yq4, .ref yq5, .ref yq6, .ref yq7, .ref yq8, .int 0, .int 0, .int 0, .int 0, .int 0, .int (-1), .int 0, .int 0, .int 0, .int 0, .int 0, .int 0, .int 0, .ref yq9, .ref yq10, .ref yq11, .ref yq12, .ref yq13, .int 0, .int 0, .int 0, .int 0, .ref yq14, .ref yq15, .ref yq16, .ref yq17, .int 0, .int 0, .int 0, .ref yq18, .ref yq19])), (yq1, .inl (cI, 1302, .inl (upd (wC z0 7) (41 : Int32).toNatClampNeg (z0 (41 : Int32).toNatClampNeg))))]) (rest := []) (k_x_seed xh xq1 xq2 xq6 xq14 xq22 xq26 xq31 xq35 xq36 xq41 xq44 xq50 xq59 (xs (1 : Int32).toNatClampNeg)) okV_X9_seed wd_592 hx hb hml hown hts hK hP hD hS hA hN hl.1 [0] [1, 2] rfl rfl rfl rfl (by decide) rfl rfl rfl (Nat.le_of_ble_eq_true rfl) (Nat.le_of_ble_eq_true rfl) (Nat.le_of_ble_eq_true rfl) (Nat.le_of_ble_eq_true rfl) (Nat.le_of_ble_eq_true rfl) dL_law_952 (fun r_3 u_2 H locs hw_u_2 hP hD hS => ?_)
  obtain rfl := hw_u_2
  have hP : va_P D classes [(yh, .inr (10, [.ref yq1, .ref yq2, .int 0, .int 0, .int 1, .int 0, .int 0, .int 0, .ref yq3, .ref yq4, .ref yq5, .ref yq6, .ref yq7, .ref yq8, .int 0, .int 0, .int 0, .int 0, .int 0, .int (-1), .int 0, .int 0, .int 0, .int 0, .int 0, .int 0, .int 0, .ref yq9, .ref yq10, .ref yq11, .ref yq12, .ref yq13, .int 0, .int 0, .int 0, .int 0, .ref yq14, .ref yq15, .ref yq16, .ref yq17, .int 0, .int 0, .int 0, .ref yq18, .ref yq19])), (yq1, .inl (cI, 1302, .inl (upd (wC z0 7) (41 : Int32).toNatClampNeg (z0 (41 : Int32).toNatClampNeg))))] H := hP
  have hD : va_D (lw_A s) [(yh, .inr (10, [.ref yq1, .ref yq2, .int 0, .int 0, .int 1, .int 0, .int 0, .int 0, .ref yq3, .ref yq4, .ref yq5, .ref yq6, .ref yq7, .ref yq8, .int 0, .int 0, .int 0, .int 0, .int 0, .int (-1), .int 0, .int 0, .int 0, .int 0, .int 0, .int 0, .int 0, .ref yq9, .ref yq10, .ref yq11, .ref yq12, .ref yq13, .int 0, .int 0, .int 0, .int 0, .ref yq14, .ref yq15, .ref yq16, .ref yq17, .int 0, .int 0, .int 0, .ref yq18, .ref yq19])), (yq1, .inl (cI, 1302, .inl (upd (wC z0 7) (41 : Int32).toNatClampNeg (z0 (41 : Int32).toNatClampNeg))))] := hD
  refine lv_aload_n hx hb dL_law_955 rfl (lv_at hl 2 rfl) ?_
  refine lv_aload_n hx hb dL_law_956 rfl (lv_at hl 0 rfl) ?_
  refine lv_iload_n hx hb dL_law_957 rfl (lv_at hl 3 rfl) ?_
  refine lv_iconst (v := 1) hx hb dL_law_958 (by decide) ?_
  refine lv_iadd hx hb dL_law_959 ?_
  refine lv_topi (fun z_4 ez_4 => ?_)
  obtain rfl : z_4 = 1 := ez_4.trans (by decide +kernel)
  refine va_sld hx hb hX hbl hbA hS (show ¬ ((1 : Int32) < 0 ∨ 5 ≤ (1 : Int32).toNatClampNeg) by decide +kernel) dL_law_960 ?_
  refine cVi (wr := []) (rest := [.int (seedS (xs (1 : Int32).toNatClampNeg))]) (k_m_seed yh yq1 yq2 yq3 yq4 yq5 yq6 yq7 yq8 yq9 yq10 yq11 yq12 yq13 yq14 yq15 yq16 yq17 yq18 yq19 (xs (1 : Int32).toNatClampNeg)) okV_X10_seed wd_596 hx hb hml hown hts hK hP hD hS hA hN hl.1 [0, 1] [] rfl rfl rfl rfl (by decide) rfl rfl rfl (Nat.le_of_ble_eq_true rfl) (Nat.le_of_ble_eq_true rfl) (Nat.le_of_ble_eq_true rfl) (Nat.le_of_ble_eq_true rfl) (Nat.le_of_ble_eq_true rfl) dL_law_961 (fun r_6 u_5 H locs hw_u_5 hP hD hS => ?_)
  obtain rfl := hw_u_5
  have hP : va_P D classes [] H := hP
  have hD : va_D (lw_A s) [] := hD
  refine lv_icmp_eq (tgt := 1015) hx hb dL_law_964 (by decide) (fun c_7 => ?_) (fun c_7 => absurd rfl c_7)
  exact law_tail C1 hS hl
set_option maxHeartbeats 4000000 in
set_option maxRecDepth 100000 in
theorem law_keep {p : Program} {l : Launch} {e : Env} {s : State} {m : MethodId} {below : List Frame} {meth : Method} {c : Code} {D : va_G} {cI cZ : ClassId} {b : Nat} {xs : Nat → Int32} (xh xq1 xq2 xq6 xq14 xq22 xq26 xq31 xq35 xq36 xq41 xq44 xq50 xq59 xu32 xu23 xq29 yh yq1 yq2 yq3 yq4 yq5 yq6 yq7 yq8 yq9 yq10 yq11 yq12 yq13 yq14 yq15 yq16 yq17 yq18 yq19 : Nat) (C0 : lw_C p s m meth c b 5 xs) {H : Heap} {locs : List Loc} {ls : Array Slot} (hK : va_K D classes (TYS cI cZ) s) (hP : va_P D classes [(xh, .inr (9, [.ref xq1, .int 0, .int (-1), .ref xq2, .ref xq6, .ref xq14, .ref xq22, .ref xq26, .ref xq31, .ref xq35, .int 0, .ref xq36, .int 0, .ref xq41, .ref xq44, .ref xq50, .ref xq59])), (xq31, .inr (6, [.int 2, .ref xu32])), (xu32, .inl (cI, 82, .inl z0)), (xq22, .inr (7, [.ref xu23])), (xu23, .inl (cI, 41, .inl (cB2 z0 7))), (xq35, .inl (cI, 2, .inl z0)), (xq26, .inr (2, [.ref xq29, .int 0, .int 0])), (yh, .inr (10, [.ref yq1, .ref yq2, .int 0, .int 0, .int 1, .int 0, .int 0, .int 0, .ref yq3, .ref yq4, .ref yq5, .ref yq6, .ref yq7, .ref yq8, .int 0, .int 0, .int 0, .int 0, .int 0, .int (-1), .int 0, .int 0, .int 0, .int 0, .int 0, .int 0, .int 0, .ref yq9, .ref yq10, .ref yq11, .ref yq12, .ref yq13, .int 0, .int 0, .int 0, .int 0, .ref yq14, .ref yq15, .ref yq16, .ref yq17, .int 0, .int 0, .int 0, .ref yq18, .ref yq19])), (yq1, .inl (cI, 1302, .inl (upd (wC z0 7) (41 : Int32).toNatClampNeg (z0 (41 : Int32).toNatClampNeg)))), (yq2, .inl (cZ, 2, .inl z0))] H) (hD : va_D (lw_A s) [(xh, .inr (9, [.ref xq1, .int 0, .int (-1), .ref xq2, .ref xq6, .ref xq14, .ref xq22, .ref xq26, .ref xq31, .ref xq35, .int 0, .ref xq36, .int 0, .ref xq41, .ref xq44, .ref xq50, .ref xq59])), (xq31, .inr (6, [.int 2, .ref xu32])), (xu32, .inl (cI, 82, .inl z0)), (xq22, .inr (7, [.ref xu23])), (xu23, .inl (cI, 41, .inl (cB2 z0 7))), (xq35, .inl (cI, 2, .inl z0)), (xq26, .inr (2, [.ref xq29, .int 0, .int 0])), (yh, .inr (10, [.ref yq1, .ref yq2, .int 0, .int 0, .int 1, .int 0, .int 0, .int 0, .ref yq3, .ref yq4, .ref yq5, .ref yq6, .ref yq7, .ref yq8, .int 0, .int 0, .int 0, .int 0, .int 0, .int (-1), .int 0, .int 0, .int 0, .int 0, .int 0, .int 0, .int 0, .ref yq9, .ref yq10, .ref yq11, .ref yq12, .ref yq13, .int 0, .int 0, .int 0, .int 0, .ref yq14, .ref yq15, .ref yq16, .ref yq17, .int 0, .int 0, .int 0, .ref yq18, .ref yq19])), (yq1, .inl (cI, 1302, .inl (upd (wC z0 7) (41 : Int32).toNatClampNeg (z0 (41 : Int32).toNatClampNeg)))), (yq2, .inl (cZ, 2, .inl z0))]) (hS : va_S (lw_A s) s.heap H locs) (hl : lv_has ls 4 [(0, .ref b), (1, .ref xh), (2, .ref yh), (3, .int 0)]) : W p l e room_1 s m #[Value.ref b] below meth c H locs 60 4269 (lw_Z below #[Value.ref b] s) (F0 m 969 ls []) := by
  have C1 := C0
  obtain ⟨hx, hb, hr, hml, hown, hts, hX, hbl, hlocks, hN⟩ := C0
  have hA : ∀ q, s.heap.size ≤ q → lw_A s q := fun _ h => h
  have hbA : ¬ lw_A s b := Nat.not_le.mpr hbl
  refine lv_aload_n hx hb dL_law_969 rfl (lv_at hl 1 rfl) ?_
  refine lv_aload_n hx hb dL_law_970 rfl (lv_at hl 0 rfl) ?_
  refine lv_iload_n hx hb dL_law_971 rfl (lv_at hl 3 rfl) ?_
  refine lv_iconst (v := 1) hx hb dL_law_972 (by decide) ?_
  refine lv_iadd hx hb dL_law_973 ?_
  refine lv_topi (fun z_1 ez_1 => ?_)
  obtain rfl : z_1 = 1 := ez_1.trans (by decide +kernel)
  refine va_sld hx hb hX hbl hbA hS (show ¬ ((1 : Int32) < 0 ∨ 5 ≤ (1 : Int32).toNatClampNeg) by decide +kernel) dL_law_974 ?_
  refine cVi (wr := [(yh, .inr (10, [.ref yq1, .ref yq2, .int 0, .int 0, .int 1, .int 0, .int 0, .int 0, .ref yq3, .ref yq4, .ref yq5, .ref yq6, .ref yq7, .ref yq8, .int 0, .int 0, .int 0, .int 0, .int 0, .int (-1), .int 0, .int 0, .int 0, .int 0, .int 0, .int 0, .int 0, .ref yq9, .ref yq10, .ref yq11, .ref yq12, .ref yq13, .int 0, .int 0, .int 0, .int 0, .ref yq14, .ref yq15, .ref yq16, .ref yq17, .int 0, .int 0, .int 0, .ref yq18, .ref yq19])), (yq1, .inl (cI, 1302, .inl (upd (wC z0 7) (41 : Int32).toNatClampNeg (z0 (41 : Int32).toNatClampNeg)))), (yq2, .inl (cZ, 2, .inl z0))]) (rest := []) (k_x_keep xh xq1 xq2 xq6 xq14 xq22 xq26 xq31 xq35 xq36 xq41 xq44 xq50 xq59 xu32 xu23 xq29 (xs (1 : Int32).toNatClampNeg)) okV_X9_keep wd_600 hx hb hml hown hts hK hP hD hS hA hN hl.1 [0, 1, 2, 3, 4, 5, 6] [7, 8, 9] rfl rfl rfl rfl (by decide) rfl rfl rfl (Nat.le_of_ble_eq_true rfl) (Nat.le_of_ble_eq_true rfl) (Nat.le_of_ble_eq_true rfl) (Nat.le_of_ble_eq_true rfl) (Nat.le_of_ble_eq_true rfl) dL_law_975 (fun r_3 u_2 H locs hw_u_2 hP hD hS => ?_)
  obtain rfl := hw_u_2
  have hP : va_P D classes [(yh, .inr (10, [.ref yq1, .ref yq2, .int 0, .int 0, .int 1, .int 0, .int 0, .int 0, .ref yq3, .ref yq4, .ref yq5, .ref yq6, .ref yq7, .ref yq8, .int 0, .int 0, .int 0, .int 0, .int 0, .int (-1), .int 0, .int 0, .int 0, .int 0, .int 0, .int 0, .int 0, .ref yq9, .ref yq10, .ref yq11, .ref yq12, .ref yq13, .int 0, .int 0, .int 0, .int 0, .ref yq14, .ref yq15, .ref yq16, .ref yq17, .int 0, .int 0, .int 0, .ref yq18, .ref yq19])), (yq1, .inl (cI, 1302, .inl (upd (wC z0 7) (41 : Int32).toNatClampNeg (z0 (41 : Int32).toNatClampNeg)))), (yq2, .inl (cZ, 2, .inl z0))] H := hP
  have hD : va_D (lw_A s) [(yh, .inr (10, [.ref yq1, .ref yq2, .int 0, .int 0, .int 1, .int 0, .int 0, .int 0, .ref yq3, .ref yq4, .ref yq5, .ref yq6, .ref yq7, .ref yq8, .int 0, .int 0, .int 0, .int 0, .int 0, .int (-1), .int 0, .int 0, .int 0, .int 0, .int 0, .int 0, .int 0, .ref yq9, .ref yq10, .ref yq11, .ref yq12, .ref yq13, .int 0, .int 0, .int 0, .int 0, .ref yq14, .ref yq15, .ref yq16, .ref yq17, .int 0, .int 0, .int 0, .ref yq18, .ref yq19])), (yq1, .inl (cI, 1302, .inl (upd (wC z0 7) (41 : Int32).toNatClampNeg (z0 (41 : Int32).toNatClampNeg)))), (yq2, .inl (cZ, 2, .inl z0))] := hD
  refine lv_aload_n hx hb dL_law_978 rfl (lv_at hl 2 rfl) ?_
  refine lv_aload_n hx hb dL_law_979 rfl (lv_at hl 0 rfl) ?_
  refine lv_iload_n hx hb dL_law_980 rfl (lv_at hl 3 rfl) ?_
  refine lv_iconst (v := 1) hx hb dL_law_981 (by decide) ?_
  refine lv_iadd hx hb dL_law_982 ?_
  refine lv_topi (fun z_4 ez_4 => ?_)
  obtain rfl : z_4 = 1 := ez_4.trans (by decide +kernel)
  refine va_sld hx hb hX hbl hbA hS (show ¬ ((1 : Int32) < 0 ∨ 5 ≤ (1 : Int32).toNatClampNeg) by decide +kernel) dL_law_983 ?_
  refine cVi (wr := []) (rest := [.int (rg 0 1 (xs (1 : Int32).toNatClampNeg) (-1000000001) 1)]) (k_m_keep yh yq1 yq2 yq3 yq4 yq5 yq6 yq7 yq8 yq9 yq10 yq11 yq12 yq13 yq14 yq15 yq16 yq17 yq18 yq19 (xs (1 : Int32).toNatClampNeg)) okV_X10_keep wd_604 hx hb hml hown hts hK hP hD hS hA hN hl.1 [0, 1, 2] [] rfl rfl rfl rfl (by decide) rfl rfl rfl (Nat.le_of_ble_eq_true rfl) (Nat.le_of_ble_eq_true rfl) (Nat.le_of_ble_eq_true rfl) (Nat.le_of_ble_eq_true rfl) (Nat.le_of_ble_eq_true rfl) dL_law_984 (fun r_6 u_5 H locs hw_u_5 hP hD hS => ?_)
  obtain rfl := hw_u_5
  have hP : va_P D classes [] H := hP
  have hD : va_D (lw_A s) [] := hD
  refine lv_icmp_eq (tgt := 1015) hx hb dL_law_987 (by decide) (fun c_7 => ?_) (fun c_7 => absurd rfl c_7)
  exact law_tail C1 hS hl
set_option maxHeartbeats 4000000 in
set_option maxRecDepth 100000 in
theorem law_goBack {p : Program} {l : Launch} {e : Env} {s : State} {m : MethodId} {below : List Frame} {meth : Method} {c : Code} {D : va_G} {cI cZ : ClassId} {b : Nat} {xs : Nat → Int32} (xh xq1 xq2 xq6 xq14 xq22 xq26 xq31 xq35 xq36 xq41 xq44 xq50 xq59 yh yq1 yq2 yq3 yq4 yq5 yq6 yq7 yq8 yq9 yq10 yq11 yq12 yq13 yq14 yq15 yq16 yq17 yq18 yq19 : Nat) (C0 : lw_C p s m meth c b 5 xs) {H : Heap} {locs : List Loc} {ls : Array Slot} (hK : va_K D classes (TYS cI cZ) s) (hP : va_P D classes [(xh, .inr (9, [.ref xq1, .int 0, .int (-1), .ref xq2, .ref xq6, .ref xq14, .ref xq22, .ref xq26, .ref xq31, .ref xq35, .int 0, .ref xq36, .int 0, .ref xq41, .ref xq44, .ref xq50, .ref xq59])), (yh, .inr (10, [.ref yq1, .ref yq2, .int 0, .int 0, .int 1, .int 0, .int 0, .int 0, .ref yq3, .ref yq4, .ref yq5, .ref yq6, .ref yq7, .ref yq8, .int 0, .int 0, .int 0, .int 0, .int 0, .int (-1), .int 0, .int 0, .int 0, .int 0, .int 0, .int 0, .int 0, .ref yq9, .ref yq10, .ref yq11, .ref yq12, .ref yq13, .int 0, .int 0, .int 0, .int 0, .ref yq14, .ref yq15, .ref yq16, .ref yq17, .int 0, .int 0, .int 0, .ref yq18, .ref yq19])), (yq2, .inl (cZ, 2, .inl z0))] H) (hD : va_D (lw_A s) [(xh, .inr (9, [.ref xq1, .int 0, .int (-1), .ref xq2, .ref xq6, .ref xq14, .ref xq22, .ref xq26, .ref xq31, .ref xq35, .int 0, .ref xq36, .int 0, .ref xq41, .ref xq44, .ref xq50, .ref xq59])), (yh, .inr (10, [.ref yq1, .ref yq2, .int 0, .int 0, .int 1, .int 0, .int 0, .int 0, .ref yq3, .ref yq4, .ref yq5, .ref yq6, .ref yq7, .ref yq8, .int 0, .int 0, .int 0, .int 0, .int 0, .int (-1), .int 0, .int 0, .int 0, .int 0, .int 0, .int 0, .int 0, .ref yq9, .ref yq10, .ref yq11, .ref yq12, .ref yq13, .int 0, .int 0, .int 0, .int 0, .ref yq14, .ref yq15, .ref yq16, .ref yq17, .int 0, .int 0, .int 0, .ref yq18, .ref yq19])), (yq2, .inl (cZ, 2, .inl z0))]) (hS : va_S (lw_A s) s.heap H locs) (hl : lv_has ls 4 [(0, .ref b), (1, .ref xh), (2, .ref yh), (3, .int 0)]) : W p l e room_1 s m #[Value.ref b] below meth c H locs 60 4269 (lw_Z below #[Value.ref b] s) (F0 m 992 ls []) := by
  have C1 := C0
  obtain ⟨hx, hb, hr, hml, hown, hts, hX, hbl, hlocks, hN⟩ := C0
  have hA : ∀ q, s.heap.size ≤ q → lw_A s q := fun _ h => h
  have hbA : ¬ lw_A s b := Nat.not_le.mpr hbl
  refine lv_aload_n hx hb dL_law_992 rfl (lv_at hl 1 rfl) ?_
  refine lv_aload_n hx hb dL_law_993 rfl (lv_at hl 0 rfl) ?_
  refine lv_iload_n hx hb dL_law_994 rfl (lv_at hl 3 rfl) ?_
  refine lv_iconst (v := 1) hx hb dL_law_995 (by decide) ?_
  refine lv_iadd hx hb dL_law_996 ?_
  refine lv_topi (fun z_1 ez_1 => ?_)
  obtain rfl : z_1 = 1 := ez_1.trans (by decide +kernel)
  refine va_sld hx hb hX hbl hbA hS (show ¬ ((1 : Int32) < 0 ∨ 5 ≤ (1 : Int32).toNatClampNeg) by decide +kernel) dL_law_997 ?_
  refine cVi (wr := [(yh, .inr (10, [.ref yq1, .ref yq2, .int 0, .int 0, .int 1, .int 0, .int 0, .int 0, .ref yq3, .ref yq4, .ref yq5, .ref yq6, .ref yq7, .ref yq8, .int 0, .int 0, .int 0, .int 0, .int 0, .int (-1), .int 0, .int 0, .int 0, .int 0, .int 0, .int 0, .int 0, .ref yq9, .ref yq10, .ref yq11, .ref yq12, .ref yq13, .int 0, .int 0, .int 0, .int 0, .ref yq14, .ref yq15, .ref yq16, .ref yq17, .int 0, .int 0, .int 0, .ref yq18, .ref yq19])), (yq2, .inl (cZ, 2, .inl z0))]) (rest := []) (k_x_goBack xh xq1 xq2 xq6 xq14 xq22 xq26 xq31 xq35 xq36 xq41 xq44 xq50 xq59 (xs (1 : Int32).toNatClampNeg)) okV_X9_goBack wd_608 hx hb hml hown hts hK hP hD hS hA hN hl.1 [0] [1, 2] rfl rfl rfl rfl (by decide) rfl rfl rfl (Nat.le_of_ble_eq_true rfl) (Nat.le_of_ble_eq_true rfl) (Nat.le_of_ble_eq_true rfl) (Nat.le_of_ble_eq_true rfl) (Nat.le_of_ble_eq_true rfl) dL_law_998 (fun r_3 u_2 H locs hw_u_2 hP hD hS => ?_)
  obtain rfl := hw_u_2
  have hP : va_P D classes [(yh, .inr (10, [.ref yq1, .ref yq2, .int 0, .int 0, .int 1, .int 0, .int 0, .int 0, .ref yq3, .ref yq4, .ref yq5, .ref yq6, .ref yq7, .ref yq8, .int 0, .int 0, .int 0, .int 0, .int 0, .int (-1), .int 0, .int 0, .int 0, .int 0, .int 0, .int 0, .int 0, .ref yq9, .ref yq10, .ref yq11, .ref yq12, .ref yq13, .int 0, .int 0, .int 0, .int 0, .ref yq14, .ref yq15, .ref yq16, .ref yq17, .int 0, .int 0, .int 0, .ref yq18, .ref yq19])), (yq2, .inl (cZ, 2, .inl z0))] H := hP
  have hD : va_D (lw_A s) [(yh, .inr (10, [.ref yq1, .ref yq2, .int 0, .int 0, .int 1, .int 0, .int 0, .int 0, .ref yq3, .ref yq4, .ref yq5, .ref yq6, .ref yq7, .ref yq8, .int 0, .int 0, .int 0, .int 0, .int 0, .int (-1), .int 0, .int 0, .int 0, .int 0, .int 0, .int 0, .int 0, .ref yq9, .ref yq10, .ref yq11, .ref yq12, .ref yq13, .int 0, .int 0, .int 0, .int 0, .ref yq14, .ref yq15, .ref yq16, .ref yq17, .int 0, .int 0, .int 0, .ref yq18, .ref yq19])), (yq2, .inl (cZ, 2, .inl z0))] := hD
  refine lv_aload_n hx hb dL_law_1001 rfl (lv_at hl 2 rfl) ?_
  refine lv_aload_n hx hb dL_law_1002 rfl (lv_at hl 0 rfl) ?_
  refine lv_iload_n hx hb dL_law_1003 rfl (lv_at hl 3 rfl) ?_
  refine lv_iconst (v := 1) hx hb dL_law_1004 (by decide) ?_
  refine lv_iadd hx hb dL_law_1005 ?_
  refine lv_topi (fun z_4 ez_4 => ?_)
  obtain rfl : z_4 = 1 := ez_4.trans (by decide +kernel)
  refine va_sld hx hb hX hbl hbA hS (show ¬ ((1 : Int32) < 0 ∨ 5 ≤ (1 : Int32).toNatClampNeg) by decide +kernel) dL_law_1006 ?_
  refine cVi (wr := []) (rest := [.int (rg 0 1 (xs (1 : Int32).toNatClampNeg) (-1000000001) (-1000000003))]) (k_m_goBack yh yq1 yq2 yq3 yq4 yq5 yq6 yq7 yq8 yq9 yq10 yq11 yq12 yq13 yq14 yq15 yq16 yq17 yq18 yq19 (xs (1 : Int32).toNatClampNeg)) okV_X10_goBack wd_612 hx hb hml hown hts hK hP hD hS hA hN hl.1 [0, 1] [] rfl rfl rfl rfl (by decide) rfl rfl rfl (Nat.le_of_ble_eq_true rfl) (Nat.le_of_ble_eq_true rfl) (Nat.le_of_ble_eq_true rfl) (Nat.le_of_ble_eq_true rfl) (Nat.le_of_ble_eq_true rfl) dL_law_1007 (fun r_6 u_5 H locs hw_u_5 hP hD hS => ?_)
  obtain rfl := hw_u_5
  have hP : va_P D classes [] H := hP
  have hD : va_D (lw_A s) [] := hD
  refine lv_icmp_eq (tgt := 1015) hx hb dL_law_1010 (by decide) (fun c_7 => ?_) (fun c_7 => absurd rfl c_7)
  exact law_tail C1 hS hl
