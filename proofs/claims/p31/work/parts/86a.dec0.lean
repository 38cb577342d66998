theorem dL_law_172 : decode cL_law 172 = .ok (.aload_n 1, 1) := by decide +kernel
theorem dL_law_173 : decode cL_law 173 = .ok (.aload_n 0, 1) := by decide +kernel
theorem dL_law_174 : decode cL_law 174 = .ok (.iload_n 3, 1) := by decide +kernel
theorem dL_law_175 : decode cL_law 175 = .ok (.iconst 1, 1) := by decide +kernel
theorem dL_law_176 : decode cL_law 176 = .ok (.iadd, 1) := by decide +kernel
theorem dL_law_177 : decode cL_law 177 = .ok (.iaload, 1) := by decide +kernel
theorem dL_law_178 : decode cL_law 178 = .ok (.invokevirtual 13, 3) := by decide +kernel
theorem wd_696 : Cond.methodLink RL 13 yX9_feed ∈ BG := BG_in (by decide +kernel) rfl
theorem wd_697 : Cond.code yX9_feed cX9_feed 2 (some .int) ∈ BG := BG_in (by decide +kernel) rfl
theorem wd_698 : Cond.instanceMethod yX9_feed ∈ BG := BG_in (by decide +kernel) rfl
theorem wd_699 : Cond.selects RX9 yX9_feed yX9_feed ∈ BG := BG_in (by decide +kernel) rfl
theorem okV_X9_feed : okV yX9_feed cX9_feed 2 (some .int) 1 := ⟨⟨wd_697, wd_71, by decide +kernel⟩, wd_698, wd_699⟩
theorem dL_law_181 : decode cL_law 181 = .ok (.pop, 1) := by decide +kernel
theorem dL_law_182 : decode cL_law 182 = .ok (.aload_n 2, 1) := by decide +kernel
theorem dL_law_183 : decode cL_law 183 = .ok (.aload_n 0, 1) := by decide +kernel
theorem dL_law_184 : decode cL_law 184 = .ok (.iload_n 3, 1) := by decide +kernel
theorem dL_law_185 : decode cL_law 185 = .ok (.iconst 1, 1) := by decide +kernel
theorem dL_law_186 : decode cL_law 186 = .ok (.iadd, 1) := by decide +kernel
theorem dL_law_187 : decode cL_law 187 = .ok (.iaload, 1) := by decide +kernel
theorem dL_law_188 : decode cL_law 188 = .ok (.invokevirtual 17, 3) := by decide +kernel
theorem wd_700 : Cond.methodLink RL 17 yX10_feed ∈ BG := BG_in (by decide +kernel) rfl
theorem wd_701 : Cond.code yX10_feed cX10_feed 2 (some .int) ∈ BG := BG_in (by decide +kernel) rfl
theorem wd_702 : Cond.instanceMethod yX10_feed ∈ BG := BG_in (by decide +kernel) rfl
theorem wd_703 : Cond.selects RX10 yX10_feed yX10_feed ∈ BG := BG_in (by decide +kernel) rfl
theorem okV_X10_feed : okV yX10_feed cX10_feed 2 (some .int) 1 := ⟨⟨wd_701, wd_497, by decide +kernel⟩, wd_702, wd_703⟩
theorem dL_law_191 : decode cL_law 191 = .ok (.pop, 1) := by decide +kernel
theorem dL_law_192 : decode cL_law 192 = .ok (.goto 823, 3) := by decide +kernel
theorem dL_law_195 : decode cL_law 195 = .ok (.aload_n 1, 1) := by decide +kernel
theorem dL_law_196 : decode cL_law 196 = .ok (.invokevirtual 18, 3) := by decide +kernel
theorem wd_704 : Cond.methodLink RL 18 yX9_town ∈ BG := BG_in (by decide +kernel) rfl
theorem wd_705 : Cond.code yX9_town cX9_town 2 (some .int) ∈ BG := BG_in (by decide +kernel) rfl
theorem wd_706 : Cond.instanceMethod yX9_town ∈ BG := BG_in (by decide +kernel) rfl
theorem wd_707 : Cond.selects RX9 yX9_town yX9_town ∈ BG := BG_in (by decide +kernel) rfl
theorem okV_X9_town : okV yX9_town cX9_town 2 (some .int) 0 := ⟨⟨wd_705, wd_71, by decide +kernel⟩, wd_706, wd_707⟩
theorem dL_law_199 : decode cL_law 199 = .ok (.pop, 1) := by decide +kernel
theorem dL_law_200 : decode cL_law 200 = .ok (.aload_n 2, 1) := by decide +kernel
theorem dL_law_201 : decode cL_law 201 = .ok (.invokevirtual 22, 3) := by decide +kernel
theorem wd_708 : Cond.methodLink RL 22 yX10_town ∈ BG := BG_in (by decide +kernel) rfl
theorem wd_709 : Cond.code yX10_town cX10_town 3 (some .int) ∈ BG := BG_in (by decide +kernel) rfl
theorem wd_710 : Cond.instanceMethod yX10_town ∈ BG := BG_in (by decide +kernel) rfl
theorem wd_711 : Cond.selects RX10 yX10_town yX10_town ∈ BG := BG_in (by decide +kernel) rfl
theorem okV_X10_town : okV yX10_town cX10_town 3 (some .int) 0 := ⟨⟨wd_709, wd_497, by decide +kernel⟩, wd_710, wd_711⟩
theorem dL_law_204 : decode cL_law 204 = .ok (.pop, 1) := by decide +kernel
theorem dL_law_205 : decode cL_law 205 = .ok (.goto 810, 3) := by decide +kernel
theorem dL_law_208 : decode cL_law 208 = .ok (.aload_n 1, 1) := by decide +kernel
theorem dL_law_209 : decode cL_law 209 = .ok (.invokevirtual 23, 3) := by decide +kernel
theorem wd_712 : Cond.methodLink RL 23 yX9_fault ∈ BG := BG_in (by decide +kernel) rfl
theorem wd_713 : Cond.code yX9_fault cX9_fault 1 (some .int) ∈ BG := BG_in (by decide +kernel) rfl
theorem wd_714 : Cond.instanceMethod yX9_fault ∈ BG := BG_in (by decide +kernel) rfl
theorem wd_715 : Cond.selects RX9 yX9_fault yX9_fault ∈ BG := BG_in (by decide +kernel) rfl
theorem okV_X9_fault : okV yX9_fault cX9_fault 1 (some .int) 0 := ⟨⟨wd_713, wd_71, by decide +kernel⟩, wd_714, wd_715⟩
theorem dL_law_212 : decode cL_law 212 = .ok (.pop, 1) := by decide +kernel
theorem dL_law_213 : decode cL_law 213 = .ok (.aload_n 2, 1) := by decide +kernel
theorem dL_law_214 : decode cL_law 214 = .ok (.invokevirtual 26, 3) := by decide +kernel
theorem wd_716 : Cond.methodLink RL 26 yX10_fault ∈ BG := BG_in (by decide +kernel) rfl
theorem wd_717 : Cond.code yX10_fault cX10_fault 1 (some .int) ∈ BG := BG_in (by decide +kernel) rfl
theorem wd_718 : Cond.instanceMethod yX10_fault ∈ BG := BG_in (by decide +kernel) rfl
theorem wd_719 : Cond.selects RX10 yX10_fault yX10_fault ∈ BG := BG_in (by decide +kernel) rfl
theorem okV_X10_fault : okV yX10_fault cX10_fault 1 (some .int) 0 := ⟨⟨wd_717, wd_497, by decide +kernel⟩, wd_718, wd_719⟩
theorem dL_law_217 : decode cL_law 217 = .ok (.pop, 1) := by decide +kernel
theorem dL_law_218 : decode cL_law 218 = .ok (.goto 797, 3) := by decide +kernel
theorem dL_law_221 : decode cL_law 221 = .ok (.aload_n 1, 1) := by decide +kernel
theorem dL_law_222 : decode cL_law 222 = .ok (.aload_n 0, 1) := by decide +kernel
theorem dL_law_223 : decode cL_law 223 = .ok (.iload_n 3, 1) := by decide +kernel
theorem dL_law_224 : decode cL_law 224 = .ok (.iconst 1, 1) := by decide +kernel
theorem dL_law_225 : decode cL_law 225 = .ok (.iadd, 1) := by decide +kernel
theorem dL_law_226 : decode cL_law 226 = .ok (.iaload, 1) := by decide +kernel
theorem dL_law_227 : decode cL_law 227 = .ok (.invokevirtual 27, 3) := by decide +kernel
theorem wd_720 : Cond.methodLink RL 27 yX9_told ∈ BG := BG_in (by decide +kernel) rfl
theorem wd_721 : Cond.code yX9_told cX9_told 2 (some .int) ∈ BG := BG_in (by decide +kernel) rfl
theorem wd_722 : Cond.instanceMethod yX9_told ∈ BG := BG_in (by decide +kernel) rfl
theorem wd_723 : Cond.selects RX9 yX9_told yX9_told ∈ BG := BG_in (by decide +kernel) rfl
theorem okV_X9_told : okV yX9_told cX9_told 2 (some .int) 1 := ⟨⟨wd_721, wd_71, by decide +kernel⟩, wd_722, wd_723⟩
theorem dL_law_230 : decode cL_law 230 = .ok (.pop, 1) := by decide +kernel
theorem dL_law_231 : decode cL_law 231 = .ok (.aload_n 2, 1) := by decide +kernel
theorem dL_law_232 : decode cL_law 232 = .ok (.aload_n 0, 1) := by decide +kernel
theorem dL_law_233 : decode cL_law 233 = .ok (.iload_n 3, 1) := by decide +kernel
theorem dL_law_234 : decode cL_law 234 = .ok (.iconst 1, 1) := by decide +kernel
theorem dL_law_235 : decode cL_law 235 = .ok (.iadd, 1) := by decide +kernel
theorem dL_law_236 : decode cL_law 236 = .ok (.iaload, 1) := by decide +kernel
theorem dL_law_237 : decode cL_law 237 = .ok (.invokevirtual 30, 3) := by decide +kernel
theorem wd_724 : Cond.methodLink RL 30 yX10_told ∈ BG := BG_in (by decide +kernel) rfl
theorem wd_725 : Cond.code yX10_told cX10_told 2 (some .int) ∈ BG := BG_in (by decide +kernel) rfl
theorem wd_726 : Cond.instanceMethod yX10_told ∈ BG := BG_in (by decide +kernel) rfl
theorem wd_727 : Cond.selects RX10 yX10_told yX10_told ∈ BG := BG_in (by decide +kernel) rfl
theorem okV_X10_told : okV yX10_told cX10_told 2 (some .int) 1 := ⟨⟨wd_725, wd_497, by decide +kernel⟩, wd_726, wd_727⟩
theorem dL_law_240 : decode cL_law 240 = .ok (.pop, 1) := by decide +kernel
theorem dL_law_241 : decode cL_law 241 = .ok (.goto 774, 3) := by decide +kernel
theorem dL_law_244 : decode cL_law 244 = .ok (.aload_n 1, 1) := by decide +kernel
theorem dL_law_245 : decode cL_law 245 = .ok (.aload_n 0, 1) := by decide +kernel
theorem dL_law_246 : decode cL_law 246 = .ok (.iload_n 3, 1) := by decide +kernel
theorem dL_law_247 : decode cL_law 247 = .ok (.iconst 1, 1) := by decide +kernel
theorem dL_law_248 : decode cL_law 248 = .ok (.iadd, 1) := by decide +kernel
theorem dL_law_249 : decode cL_law 249 = .ok (.iaload, 1) := by decide +kernel
theorem dL_law_250 : decode cL_law 250 = .ok (.aload_n 0, 1) := by decide +kernel
theorem dL_law_251 : decode cL_law 251 = .ok (.iload_n 3, 1) := by decide +kernel
theorem dL_law_252 : decode cL_law 252 = .ok (.iconst 2, 1) := by decide +kernel
theorem dL_law_253 : decode cL_law 253 = .ok (.iadd, 1) := by decide +kernel
theorem dL_law_254 : decode cL_law 254 = .ok (.iaload, 1) := by decide +kernel
theorem dL_law_255 : decode cL_law 255 = .ok (.invokevirtual 31, 3) := by decide +kernel
theorem wd_728 : Cond.methodLink RL 31 yX9_bridge ∈ BG := BG_in (by decide +kernel) rfl
theorem wd_729 : Cond.code yX9_bridge cX9_bridge 3 (some .int) ∈ BG := BG_in (by decide +kernel) rfl
theorem wd_730 : Cond.instanceMethod yX9_bridge ∈ BG := BG_in (by decide +kernel) rfl
theorem wd_731 : Cond.selects RX9 yX9_bridge yX9_bridge ∈ BG := BG_in (by decide +kernel) rfl
theorem okV_X9_bridge : okV yX9_bridge cX9_bridge 3 (some .int) 2 := ⟨⟨wd_729, wd_71, by decide +kernel⟩, wd_730, wd_731⟩
theorem dL_law_258 : decode cL_law 258 = .ok (.pop, 1) := by decide +kernel
theorem dL_law_259 : decode cL_law 259 = .ok (.aload_n 2, 1) := by decide +kernel
theorem dL_law_260 : decode cL_law 260 = .ok (.aload_n 0, 1) := by decide +kernel
theorem dL_law_261 : decode cL_law 261 = .ok (.iload_n 3, 1) := by decide +kernel
theorem dL_law_262 : decode cL_law 262 = .ok (.iconst 1, 1) := by decide +kernel
theorem dL_law_263 : decode cL_law 263 = .ok (.iadd, 1) := by decide +kernel
theorem dL_law_264 : decode cL_law 264 = .ok (.iaload, 1) := by decide +kernel
theorem dL_law_265 : decode cL_law 265 = .ok (.aload_n 0, 1) := by decide +kernel
theorem dL_law_266 : decode cL_law 266 = .ok (.iload_n 3, 1) := by decide +kernel
theorem dL_law_267 : decode cL_law 267 = .ok (.iconst 2, 1) := by decide +kernel
theorem dL_law_268 : decode cL_law 268 = .ok (.iadd, 1) := by decide +kernel
theorem dL_law_269 : decode cL_law 269 = .ok (.iaload, 1) := by decide +kernel
theorem dL_law_270 : decode cL_law 270 = .ok (.invokevirtual 35, 3) := by decide +kernel
theorem wd_732 : Cond.methodLink RL 35 yX10_bridge ∈ BG := BG_in (by decide +kernel) rfl
theorem wd_733 : Cond.code yX10_bridge cX10_bridge 3 (some .int) ∈ BG := BG_in (by decide +kernel) rfl
theorem wd_734 : Cond.instanceMethod yX10_bridge ∈ BG := BG_in (by decide +kernel) rfl
theorem wd_735 : Cond.selects RX10 yX10_bridge yX10_bridge ∈ BG := BG_in (by decide +kernel) rfl
theorem okV_X10_bridge : okV yX10_bridge cX10_bridge 3 (some .int) 2 := ⟨⟨wd_733, wd_497, by decide +kernel⟩, wd_734, wd_735⟩
theorem dL_law_273 : decode cL_law 273 = .ok (.pop, 1) := by decide +kernel
theorem dL_law_274 : decode cL_law 274 = .ok (.goto 741, 3) := by decide +kernel
theorem dL_law_277 : decode cL_law 277 = .ok (.aload_n 1, 1) := by decide +kernel
theorem dL_law_278 : decode cL_law 278 = .ok (.aload_n 0, 1) := by decide +kernel
theorem dL_law_279 : decode cL_law 279 = .ok (.iload_n 3, 1) := by decide +kernel
theorem dL_law_280 : decode cL_law 280 = .ok (.iconst 1, 1) := by decide +kernel
theorem dL_law_281 : decode cL_law 281 = .ok (.iadd, 1) := by decide +kernel
theorem dL_law_282 : decode cL_law 282 = .ok (.iaload, 1) := by decide +kernel
theorem dL_law_283 : decode cL_law 283 = .ok (.aload_n 0, 1) := by decide +kernel
theorem dL_law_284 : decode cL_law 284 = .ok (.iload_n 3, 1) := by decide +kernel
theorem dL_law_285 : decode cL_law 285 = .ok (.iconst 2, 1) := by decide +kernel
theorem dL_law_286 : decode cL_law 286 = .ok (.iadd, 1) := by decide +kernel
theorem dL_law_287 : decode cL_law 287 = .ok (.iaload, 1) := by decide +kernel
theorem dL_law_288 : decode cL_law 288 = .ok (.invokevirtual 36, 3) := by decide +kernel
theorem wd_736 : Cond.methodLink RL 36 yX9_couple ∈ BG := BG_in (by decide +kernel) rfl
theorem wd_737 : Cond.code yX9_couple cX9_couple 3 (some .int) ∈ BG := BG_in (by decide +kernel) rfl
theorem wd_738 : Cond.instanceMethod yX9_couple ∈ BG := BG_in (by decide +kernel) rfl
theorem wd_739 : Cond.selects RX9 yX9_couple yX9_couple ∈ BG := BG_in (by decide +kernel) rfl
theorem okV_X9_couple : okV yX9_couple cX9_couple 3 (some .int) 2 := ⟨⟨wd_737, wd_71, by decide +kernel⟩, wd_738, wd_739⟩
theorem dL_law_291 : decode cL_law 291 = .ok (.pop, 1) := by decide +kernel
theorem dL_law_292 : decode cL_law 292 = .ok (.aload_n 2, 1) := by decide +kernel
theorem dL_law_293 : decode cL_law 293 = .ok (.aload_n 0, 1) := by decide +kernel
theorem dL_law_294 : decode cL_law 294 = .ok (.iload_n 3, 1) := by decide +kernel
theorem dL_law_295 : decode cL_law 295 = .ok (.iconst 1, 1) := by decide +kernel
theorem dL_law_296 : decode cL_law 296 = .ok (.iadd, 1) := by decide +kernel
theorem dL_law_297 : decode cL_law 297 = .ok (.iaload, 1) := by decide +kernel
theorem dL_law_298 : decode cL_law 298 = .ok (.aload_n 0, 1) := by decide +kernel
theorem dL_law_299 : decode cL_law 299 = .ok (.iload_n 3, 1) := by decide +kernel
theorem dL_law_300 : decode cL_law 300 = .ok (.iconst 2, 1) := by decide +kernel
theorem dL_law_301 : decode cL_law 301 = .ok (.iadd, 1) := by decide +kernel
theorem dL_law_302 : decode cL_law 302 = .ok (.iaload, 1) := by decide +kernel
theorem dL_law_303 : decode cL_law 303 = .ok (.invokevirtual 39, 3) := by decide +kernel
theorem wd_740 : Cond.methodLink RL 39 yX10_couple ∈ BG := BG_in (by decide +kernel) rfl
theorem wd_741 : Cond.code yX10_couple cX10_couple 3 (some .int) ∈ BG := BG_in (by decide +kernel) rfl
theorem wd_742 : Cond.instanceMethod yX10_couple ∈ BG := BG_in (by decide +kernel) rfl
theorem wd_743 : Cond.selects RX10 yX10_couple yX10_couple ∈ BG := BG_in (by decide +kernel) rfl
theorem okV_X10_couple : okV yX10_couple cX10_couple 3 (some .int) 2 := ⟨⟨wd_741, wd_497, by decide +kernel⟩, wd_742, wd_743⟩
theorem dL_law_306 : decode cL_law 306 = .ok (.pop, 1) := by decide +kernel
theorem dL_law_307 : decode cL_law 307 = .ok (.goto 708, 3) := by decide +kernel
theorem dL_law_310 : decode cL_law 310 = .ok (.aload_n 1, 1) := by decide +kernel
theorem dL_law_311 : decode cL_law 311 = .ok (.aload_n 0, 1) := by decide +kernel
theorem dL_law_312 : decode cL_law 312 = .ok (.iload_n 3, 1) := by decide +kernel
theorem dL_law_313 : decode cL_law 313 = .ok (.iconst 1, 1) := by decide +kernel
theorem dL_law_314 : decode cL_law 314 = .ok (.iadd, 1) := by decide +kernel
theorem dL_law_315 : decode cL_law 315 = .ok (.iaload, 1) := by decide +kernel
theorem dL_law_316 : decode cL_law 316 = .ok (.aload_n 0, 1) := by decide +kernel
theorem dL_law_317 : decode cL_law 317 = .ok (.iload_n 3, 1) := by decide +kernel
theorem dL_law_318 : decode cL_law 318 = .ok (.iconst 2, 1) := by decide +kernel
theorem dL_law_319 : decode cL_law 319 = .ok (.iadd, 1) := by decide +kernel
theorem dL_law_320 : decode cL_law 320 = .ok (.iaload, 1) := by decide +kernel
theorem dL_law_321 : decode cL_law 321 = .ok (.invokevirtual 40, 3) := by decide +kernel
theorem wd_744 : Cond.methodLink RL 40 yX9_force ∈ BG := BG_in (by decide +kernel) rfl
theorem wd_745 : Cond.code yX9_force cX9_force 3 (some .int) ∈ BG := BG_in (by decide +kernel) rfl
theorem wd_746 : Cond.instanceMethod yX9_force ∈ BG := BG_in (by decide +kernel) rfl
theorem wd_747 : Cond.selects RX9 yX9_force yX9_force ∈ BG := BG_in (by decide +kernel) rfl
theorem okV_X9_force : okV yX9_force cX9_force 3 (some .int) 2 := ⟨⟨wd_745, wd_71, by decide +kernel⟩, wd_746, wd_747⟩
theorem dL_law_324 : decode cL_law 324 = .ok (.pop, 1) := by decide +kernel
theorem dL_law_325 : decode cL_law 325 = .ok (.aload_n 2, 1) := by decide +kernel
theorem dL_law_326 : decode cL_law 326 = .ok (.aload_n 0, 1) := by decide +kernel
theorem dL_law_327 : decode cL_law 327 = .ok (.iload_n 3, 1) := by decide +kernel
theorem dL_law_328 : decode cL_law 328 = .ok (.iconst 1, 1) := by decide +kernel
theorem dL_law_329 : decode cL_law 329 = .ok (.iadd, 1) := by decide +kernel
theorem dL_law_330 : decode cL_law 330 = .ok (.iaload, 1) := by decide +kernel
theorem dL_law_331 : decode cL_law 331 = .ok (.aload_n 0, 1) := by decide +kernel
theorem dL_law_332 : decode cL_law 332 = .ok (.iload_n 3, 1) := by decide +kernel
theorem dL_law_333 : decode cL_law 333 = .ok (.iconst 2, 1) := by decide +kernel
theorem dL_law_334 : decode cL_law 334 = .ok (.iadd, 1) := by decide +kernel
theorem dL_law_335 : decode cL_law 335 = .ok (.iaload, 1) := by decide +kernel
theorem dL_law_336 : decode cL_law 336 = .ok (.invokevirtual 43, 3) := by decide +kernel
theorem wd_748 : Cond.methodLink RL 43 yX10_force ∈ BG := BG_in (by decide +kernel) rfl
theorem wd_749 : Cond.code yX10_force cX10_force 3 (some .int) ∈ BG := BG_in (by decide +kernel) rfl
theorem wd_750 : Cond.instanceMethod yX10_force ∈ BG := BG_in (by decide +kernel) rfl
theorem wd_751 : Cond.selects RX10 yX10_force yX10_force ∈ BG := BG_in (by decide +kernel) rfl
theorem okV_X10_force : okV yX10_force cX10_force 3 (some .int) 2 := ⟨⟨wd_749, wd_497, by decide +kernel⟩, wd_750, wd_751⟩
theorem dL_law_339 : decode cL_law 339 = .ok (.pop, 1) := by decide +kernel
theorem dL_law_340 : decode cL_law 340 = .ok (.goto 675, 3) := by decide +kernel
theorem dL_law_343 : decode cL_law 343 = .ok (.aload_n 1, 1) := by decide +kernel
theorem dL_law_344 : decode cL_law 344 = .ok (.aload_n 0, 1) := by decide +kernel
theorem dL_law_345 : decode cL_law 345 = .ok (.iload_n 3, 1) := by decide +kernel
theorem dL_law_346 : decode cL_law 346 = .ok (.iconst 1, 1) := by decide +kernel
theorem dL_law_347 : decode cL_law 347 = .ok (.iadd, 1) := by decide +kernel
theorem dL_law_348 : decode cL_law 348 = .ok (.iaload, 1) := by decide +kernel
theorem dL_law_349 : decode cL_law 349 = .ok (.aload_n 0, 1) := by decide +kernel
theorem dL_law_350 : decode cL_law 350 = .ok (.iload_n 3, 1) := by decide +kernel
theorem dL_law_351 : decode cL_law 351 = .ok (.iconst 2, 1) := by decide +kernel
theorem dL_law_352 : decode cL_law 352 = .ok (.iadd, 1) := by decide +kernel
theorem dL_law_353 : decode cL_law 353 = .ok (.iaload, 1) := by decide +kernel
theorem dL_law_354 : decode cL_law 354 = .ok (.invokevirtual 44, 3) := by decide +kernel
theorem wd_752 : Cond.methodLink RL 44 yX9_barge ∈ BG := BG_in (by decide +kernel) rfl
theorem wd_753 : Cond.code yX9_barge cX9_barge 3 (some .int) ∈ BG := BG_in (by decide +kernel) rfl
theorem wd_754 : Cond.instanceMethod yX9_barge ∈ BG := BG_in (by decide +kernel) rfl
theorem wd_755 : Cond.selects RX9 yX9_barge yX9_barge ∈ BG := BG_in (by decide +kernel) rfl
theorem okV_X9_barge : okV yX9_barge cX9_barge 3 (some .int) 2 := ⟨⟨wd_753, wd_71, by decide +kernel⟩, wd_754, wd_755⟩
theorem dL_law_357 : decode cL_law 357 = .ok (.pop, 1) := by decide +kernel
theorem dL_law_358 : decode cL_law 358 = .ok (.aload_n 2, 1) := by decide +kernel
theorem dL_law_359 : decode cL_law 359 = .ok (.aload_n 0, 1) := by decide +kernel
theorem dL_law_360 : decode cL_law 360 = .ok (.iload_n 3, 1) := by decide +kernel
theorem dL_law_361 : decode cL_law 361 = .ok (.iconst 1, 1) := by decide +kernel
theorem dL_law_362 : decode cL_law 362 = .ok (.iadd, 1) := by decide +kernel
theorem dL_law_363 : decode cL_law 363 = .ok (.iaload, 1) := by decide +kernel
theorem dL_law_364 : decode cL_law 364 = .ok (.aload_n 0, 1) := by decide +kernel
theorem dL_law_365 : decode cL_law 365 = .ok (.iload_n 3, 1) := by decide +kernel
theorem dL_law_366 : decode cL_law 366 = .ok (.iconst 2, 1) := by decide +kernel
theorem dL_law_367 : decode cL_law 367 = .ok (.iadd, 1) := by decide +kernel
theorem dL_law_368 : decode cL_law 368 = .ok (.iaload, 1) := by decide +kernel
theorem dL_law_369 : decode cL_law 369 = .ok (.invokevirtual 47, 3) := by decide +kernel
theorem wd_756 : Cond.methodLink RL 47 yX10_barge ∈ BG := BG_in (by decide +kernel) rfl
theorem wd_757 : Cond.code yX10_barge cX10_barge 3 (some .int) ∈ BG := BG_in (by decide +kernel) rfl
theorem wd_758 : Cond.instanceMethod yX10_barge ∈ BG := BG_in (by decide +kernel) rfl
theorem wd_759 : Cond.selects RX10 yX10_barge yX10_barge ∈ BG := BG_in (by decide +kernel) rfl
theorem okV_X10_barge : okV yX10_barge cX10_barge 3 (some .int) 2 := ⟨⟨wd_757, wd_497, by decide +kernel⟩, wd_758, wd_759⟩
theorem dL_law_372 : decode cL_law 372 = .ok (.pop, 1) := by decide +kernel
theorem dL_law_373 : decode cL_law 373 = .ok (.goto 642, 3) := by decide +kernel
