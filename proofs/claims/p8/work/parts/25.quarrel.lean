theorem dX9_attempt_0 : decode cX9_attempt 0 = .ok (.aload_n 0, 1) := by decide +kernel
theorem dX9_attempt_1 : decode cX9_attempt 1 = .ok (.getfield 79, 3) := by decide +kernel
theorem dX9_attempt_4 : decode cX9_attempt 4 = .ok (.aload_n 0, 1) := by decide +kernel
theorem dX9_attempt_5 : decode cX9_attempt 5 = .ok (.getfield 40, 3) := by decide +kernel
theorem dX9_attempt_8 : decode cX9_attempt 8 = .ok (.iload_n 1, 1) := by decide +kernel
theorem dX9_attempt_9 : decode cX9_attempt 9 = .ok (.invokevirtual 177, 3) := by decide +kernel
theorem wd_251 : Cond.methodLink RX9 177 yX7_grievanceOf ∈ BG := BG_at 461 (by decide +kernel) rfl
theorem dX9_attempt_12 : decode cX9_attempt 12 = .ok (.aload_n 0, 1) := by decide +kernel
theorem dX9_attempt_13 : decode cX9_attempt 13 = .ok (.getfield 30, 3) := by decide +kernel
theorem dX9_attempt_16 : decode cX9_attempt 16 = .ok (.iload_n 1, 1) := by decide +kernel
theorem dX9_attempt_17 : decode cX9_attempt 17 = .ok (.iload_n 3, 1) := by decide +kernel
theorem dX9_attempt_18 : decode cX9_attempt 18 = .ok (.invokevirtual 195, 3) := by decide +kernel
theorem wd_252 : Cond.methodLink RX9 195 yX8_forceOf ∈ BG := BG_at 480 (by decide +kernel) rfl
theorem wd_253 : Cond.code yX8_forceOf cX8_forceOf 3 (some .int) ∈ BG := BG_at 483 (by decide +kernel) rfl
theorem wd_254 : Cond.instanceMethod yX8_forceOf ∈ BG := BG_at 481 (by decide +kernel) rfl
theorem wd_255 : Cond.selects RX8 yX8_forceOf yX8_forceOf ∈ BG := BG_at 482 (by decide +kernel) rfl
theorem okV_X8_forceOf : okV yX8_forceOf cX8_forceOf 3 (some .int) 2 := ⟨⟨wd_253, wd_86, by decide +kernel⟩, wd_254, wd_255⟩
theorem dX9_attempt_21 : decode cX9_attempt 21 = .ok (.aload_n 0, 1) := by decide +kernel
theorem dX9_attempt_22 : decode cX9_attempt 22 = .ok (.getfield 30, 3) := by decide +kernel
theorem wd_256 : Cond.fieldLink RX9 136 "QuarrelBridges$Town" "snow" "I" ∈ BG := BG_at 78 (by decide +kernel) rfl
theorem dX9_attempt_25 : decode cX9_attempt 25 = .ok (.getfield 136, 3) := by decide +kernel
theorem dX9_attempt_28 : decode cX9_attempt 28 = .ok (.aload_n 0, 1) := by decide +kernel
theorem dX9_attempt_29 : decode cX9_attempt 29 = .ok (.getfield 30, 3) := by decide +kernel
theorem wd_257 : Cond.fieldLink RX9 164 "QuarrelBridges$Town" "needs" "[I" ∈ BG := BG_at 81 (by decide +kernel) rfl
theorem dX9_attempt_32 : decode cX9_attempt 32 = .ok (.getfield 164, 3) := by decide +kernel
theorem dX9_attempt_35 : decode cX9_attempt 35 = .ok (.iload_n 2, 1) := by decide +kernel
theorem dX9_attempt_36 : decode cX9_attempt 36 = .ok (.invokestatic 167, 3) := by decide +kernel
theorem wd_258 : Cond.methodLink RX9 167 yX9_at ∈ BG := BG_at 444 (by decide +kernel) rfl
theorem dX9_attempt_39 : decode cX9_attempt 39 = .ok (.invokevirtual 301, 3) := by decide +kernel
theorem wd_259 : Cond.methodLink RX9 301 yX4_run ∈ BG := BG_at 546 (by decide +kernel) rfl
theorem wd_260 : Cond.code yX4_run cX4_run 7 none ∈ BG := BG_at 549 (by decide +kernel) rfl
theorem wd_261 : Cond.instanceMethod yX4_run ∈ BG := BG_at 547 (by decide +kernel) rfl
theorem wd_262 : Cond.selects RX4 yX4_run yX4_run ∈ BG := BG_at 548 (by decide +kernel) rfl
theorem okV_X4_run : okV yX4_run cX4_run 7 none 4 := ⟨⟨wd_260, wd_117, by decide +kernel⟩, wd_261, wd_262⟩
theorem dX9_attempt_42 : decode cX9_attempt 42 = .ok (.return_, 1) := by decide +kernel
theorem dX9_minutesLeft_0 : decode cX9_minutesLeft 0 = .ok (.aload_n 0, 1) := by decide +kernel
theorem dX9_minutesLeft_1 : decode cX9_minutesLeft 1 = .ok (.getfield 79, 3) := by decide +kernel
theorem dX9_minutesLeft_4 : decode cX9_minutesLeft 4 = .ok (.aload_n 0, 1) := by decide +kernel
theorem dX9_minutesLeft_5 : decode cX9_minutesLeft 5 = .ok (.getfield 40, 3) := by decide +kernel
theorem dX9_minutesLeft_8 : decode cX9_minutesLeft 8 = .ok (.iload_n 1, 1) := by decide +kernel
theorem dX9_minutesLeft_9 : decode cX9_minutesLeft 9 = .ok (.invokevirtual 177, 3) := by decide +kernel
theorem dX9_minutesLeft_12 : decode cX9_minutesLeft 12 = .ok (.aload_n 0, 1) := by decide +kernel
theorem dX9_minutesLeft_13 : decode cX9_minutesLeft 13 = .ok (.getfield 30, 3) := by decide +kernel
theorem dX9_minutesLeft_16 : decode cX9_minutesLeft 16 = .ok (.iload_n 1, 1) := by decide +kernel
theorem dX9_minutesLeft_17 : decode cX9_minutesLeft 17 = .ok (.iload_n 2, 1) := by decide +kernel
theorem dX9_minutesLeft_18 : decode cX9_minutesLeft 18 = .ok (.invokevirtual 195, 3) := by decide +kernel
theorem dX9_minutesLeft_21 : decode cX9_minutesLeft 21 = .ok (.aload_n 0, 1) := by decide +kernel
theorem dX9_minutesLeft_22 : decode cX9_minutesLeft 22 = .ok (.getfield 30, 3) := by decide +kernel
theorem dX9_minutesLeft_25 : decode cX9_minutesLeft 25 = .ok (.getfield 136, 3) := by decide +kernel
theorem dX9_minutesLeft_28 : decode cX9_minutesLeft 28 = .ok (.bipush 100, 2) := by decide +kernel
theorem dX9_minutesLeft_30 : decode cX9_minutesLeft 30 = .ok (.invokevirtual 301, 3) := by decide +kernel
theorem dX9_minutesLeft_33 : decode cX9_minutesLeft 33 = .ok (.aload_n 0, 1) := by decide +kernel
theorem dX9_minutesLeft_34 : decode cX9_minutesLeft 34 = .ok (.getfield 79, 3) := by decide +kernel
theorem wd_263 : Cond.fieldLink RX9 305 "QuarrelBridges$Quarrel" "reconciled" "Z" ∈ BG := BG_at 195 (by decide +kernel) rfl
theorem dX9_minutesLeft_37 : decode cX9_minutesLeft 37 = .ok (.getfield 305, 3) := by decide +kernel
theorem dX9_minutesLeft_40 : decode cX9_minutesLeft 40 = .ok (.ifCond .eq 13, 3) := by decide +kernel
theorem dX9_minutesLeft_53 : decode cX9_minutesLeft 53 = .ok (.sipush 999, 3) := by decide +kernel
theorem dX9_minutesLeft_56 : decode cX9_minutesLeft 56 = .ok (.ireturn, 1) := by decide +kernel
theorem dX9_minutesLeft_43 : decode cX9_minutesLeft 43 = .ok (.aload_n 0, 1) := by decide +kernel
theorem dX9_minutesLeft_44 : decode cX9_minutesLeft 44 = .ok (.getfield 79, 3) := by decide +kernel
theorem wd_264 : Cond.fieldLink RX9 264 "QuarrelBridges$Quarrel" "minutes" "I" ∈ BG := BG_at 187 (by decide +kernel) rfl
theorem dX9_minutesLeft_47 : decode cX9_minutesLeft 47 = .ok (.getfield 264, 3) := by decide +kernel
theorem dX9_minutesLeft_50 : decode cX9_minutesLeft 50 = .ok (.goto 6, 3) := by decide +kernel
theorem dX9_themeFor_0 : decode cX9_themeFor 0 = .ok (.iconst (-1), 1) := by decide +kernel
theorem dX9_themeFor_1 : decode cX9_themeFor 1 = .ok (.istore_n 3, 1) := by decide +kernel
theorem dX9_themeFor_2 : decode cX9_themeFor 2 = .ok (.iconst 0, 1) := by decide +kernel
theorem dX9_themeFor_3 : decode cX9_themeFor 3 = .ok (.istore 4, 2) := by decide +kernel
theorem dX9_themeFor_5 : decode cX9_themeFor 5 = .ok (.iconst 0, 1) := by decide +kernel
theorem dX9_themeFor_6 : decode cX9_themeFor 6 = .ok (.istore 5, 2) := by decide +kernel
theorem dX9_themeFor_8 : decode cX9_themeFor 8 = .ok (.aload_n 0, 1) := by decide +kernel
theorem dX9_themeFor_9 : decode cX9_themeFor 9 = .ok (.getfield 40, 3) := by decide +kernel
theorem dX9_themeFor_12 : decode cX9_themeFor 12 = .ok (.iload_n 1, 1) := by decide +kernel
theorem dX9_themeFor_13 : decode cX9_themeFor 13 = .ok (.invokevirtual 189, 3) := by decide +kernel
theorem wd_265 : Cond.methodLink RX9 189 yX7_isReconciled ∈ BG := BG_at 467 (by decide +kernel) rfl
theorem wd_266 : Cond.code yX7_isReconciled cX7_isReconciled 2 (some .boolean) ∈ BG := BG_at 470 (by decide +kernel) rfl
theorem wd_267 : Cond.instanceMethod yX7_isReconciled ∈ BG := BG_at 468 (by decide +kernel) rfl
theorem wd_268 : Cond.selects RX7 yX7_isReconciled yX7_isReconciled ∈ BG := BG_at 469 (by decide +kernel) rfl
theorem okV_X7_isReconciled : okV yX7_isReconciled cX7_isReconciled 2 (some .boolean) 1 := ⟨⟨wd_266, wd_93, by decide +kernel⟩, wd_267, wd_268⟩
theorem dX9_themeFor_16 : decode cX9_themeFor 16 = .ok (.ifCond .eq 5, 3) := by decide +kernel
theorem dX9_themeFor_21 : decode cX9_themeFor 21 = .ok (.iconst 0, 1) := by decide +kernel
theorem dX9_themeFor_22 : decode cX9_themeFor 22 = .ok (.istore 6, 2) := by decide +kernel
theorem dX9_themeFor_134 : decode cX9_themeFor 134 = .ok (.iload_n 3, 1) := by decide +kernel
theorem dX9_themeFor_135 : decode cX9_themeFor 135 = .ok (.ireturn, 1) := by decide +kernel
theorem dX9_themeFor_24 : decode cX9_themeFor 24 = .ok (.iload 6, 2) := by decide +kernel
theorem dX9_themeFor_26 : decode cX9_themeFor 26 = .ok (.aload_n 0, 1) := by decide +kernel
theorem dX9_themeFor_27 : decode cX9_themeFor 27 = .ok (.getfield 30, 3) := by decide +kernel
theorem wd_269 : Cond.fieldLink RX9 127 "QuarrelBridges$Town" "themes" "I" ∈ BG := BG_at 67 (by decide +kernel) rfl
theorem dX9_themeFor_30 : decode cX9_themeFor 30 = .ok (.getfield 127, 3) := by decide +kernel
theorem dX9_themeFor_33 : decode cX9_themeFor 33 = .ok (.if_icmp .ge 101, 3) := by decide +kernel
theorem dX9_themeFor_36 : decode cX9_themeFor 36 = .ok (.aload_n 0, 1) := by decide +kernel
theorem dX9_themeFor_37 : decode cX9_themeFor 37 = .ok (.iload_n 1, 1) := by decide +kernel
theorem dX9_themeFor_38 : decode cX9_themeFor 38 = .ok (.iload_n 2, 1) := by decide +kernel
theorem dX9_themeFor_39 : decode cX9_themeFor 39 = .ok (.iload 6, 2) := by decide +kernel
theorem dX9_themeFor_41 : decode cX9_themeFor 41 = .ok (.invokevirtual 256, 3) := by decide +kernel
theorem wd_270 : Cond.methodLink RX9 256 yX9_attempt ∈ BG := BG_at 542 (by decide +kernel) rfl
theorem wd_271 : Cond.code yX9_attempt cX9_attempt 4 none ∈ BG := BG_at 545 (by decide +kernel) rfl
theorem wd_272 : Cond.instanceMethod yX9_attempt ∈ BG := BG_at 544 (by decide +kernel) rfl
theorem wd_273 : Cond.selects RX9 yX9_attempt yX9_attempt ∈ BG := BG_in (by decide +kernel) rfl
theorem okV_X9_attempt : okV yX9_attempt cX9_attempt 4 none 3 := ⟨⟨wd_271, wd_71, by decide +kernel⟩, wd_272, wd_273⟩
theorem dX9_themeFor_44 : decode cX9_themeFor 44 = .ok (.aload_n 0, 1) := by decide +kernel
theorem dX9_themeFor_45 : decode cX9_themeFor 45 = .ok (.getfield 79, 3) := by decide +kernel
theorem dX9_themeFor_48 : decode cX9_themeFor 48 = .ok (.getfield 264, 3) := by decide +kernel
theorem dX9_themeFor_51 : decode cX9_themeFor 51 = .ok (.iload 4, 2) := by decide +kernel
theorem dX9_themeFor_53 : decode cX9_themeFor 53 = .ok (.if_icmp .lt 27, 3) := by decide +kernel
theorem dX9_themeFor_80 : decode cX9_themeFor 80 = .ok (.iconst 1, 1) := by decide +kernel
theorem dX9_themeFor_81 : decode cX9_themeFor 81 = .ok (.goto 4, 3) := by decide +kernel
theorem dX9_themeFor_85 : decode cX9_themeFor 85 = .ok (.istore 7, 2) := by decide +kernel
theorem dX9_themeFor_87 : decode cX9_themeFor 87 = .ok (.aload_n 0, 1) := by decide +kernel
theorem dX9_themeFor_88 : decode cX9_themeFor 88 = .ok (.getfield 79, 3) := by decide +kernel
theorem wd_274 : Cond.fieldLink RX9 260 "QuarrelBridges$Quarrel" "opened" "Z" ∈ BG := BG_at 193 (by decide +kernel) rfl
theorem dX9_themeFor_91 : decode cX9_themeFor 91 = .ok (.getfield 260, 3) := by decide +kernel
theorem dX9_themeFor_94 : decode cX9_themeFor 94 = .ok (.ifCond .eq 34, 3) := by decide +kernel
theorem dX9_themeFor_128 : decode cX9_themeFor 128 = .ok (.iinc 6 1, 3) := by decide +kernel
theorem dX9_themeFor_131 : decode cX9_themeFor 131 = .ok (.goto (-107), 3) := by decide +kernel
theorem dX9_themeFor_97 : decode cX9_themeFor 97 = .ok (.iload_n 3, 1) := by decide +kernel
theorem dX9_themeFor_98 : decode cX9_themeFor 98 = .ok (.iconst (-1), 1) := by decide +kernel
theorem dX9_themeFor_99 : decode cX9_themeFor 99 = .ok (.if_icmp .eq 8, 3) := by decide +kernel
theorem dX9_themeFor_107 : decode cX9_themeFor 107 = .ok (.iload 6, 2) := by decide +kernel
theorem dX9_themeFor_109 : decode cX9_themeFor 109 = .ok (.istore_n 3, 1) := by decide +kernel
theorem dX9_themeFor_110 : decode cX9_themeFor 110 = .ok (.aload_n 0, 1) := by decide +kernel
theorem dX9_themeFor_111 : decode cX9_themeFor 111 = .ok (.getfield 79, 3) := by decide +kernel
theorem dX9_themeFor_114 : decode cX9_themeFor 114 = .ok (.getfield 264, 3) := by decide +kernel
theorem dX9_themeFor_117 : decode cX9_themeFor 117 = .ok (.istore 4, 2) := by decide +kernel
theorem dX9_themeFor_119 : decode cX9_themeFor 119 = .ok (.aload_n 0, 1) := by decide +kernel
theorem dX9_themeFor_120 : decode cX9_themeFor 120 = .ok (.getfield 79, 3) := by decide +kernel
theorem wd_275 : Cond.fieldLink RX9 266 "QuarrelBridges$Quarrel" "cost" "I" ∈ BG := BG_at 189 (by decide +kernel) rfl
theorem dX9_themeFor_123 : decode cX9_themeFor 123 = .ok (.getfield 266, 3) := by decide +kernel
theorem dX9_themeFor_126 : decode cX9_themeFor 126 = .ok (.istore 5, 2) := by decide +kernel
theorem dX9_themeFor_102 : decode cX9_themeFor 102 = .ok (.iload 7, 2) := by decide +kernel
theorem dX9_themeFor_104 : decode cX9_themeFor 104 = .ok (.ifCond .eq 24, 3) := by decide +kernel
theorem dX9_themeFor_56 : decode cX9_themeFor 56 = .ok (.aload_n 0, 1) := by decide +kernel
theorem dX9_themeFor_57 : decode cX9_themeFor 57 = .ok (.getfield 79, 3) := by decide +kernel
theorem dX9_themeFor_60 : decode cX9_themeFor 60 = .ok (.getfield 264, 3) := by decide +kernel
theorem dX9_themeFor_63 : decode cX9_themeFor 63 = .ok (.iload 4, 2) := by decide +kernel
theorem dX9_themeFor_65 : decode cX9_themeFor 65 = .ok (.if_icmp .ne 19, 3) := by decide +kernel
theorem dX9_themeFor_84 : decode cX9_themeFor 84 = .ok (.iconst 0, 1) := by decide +kernel
theorem dX9_themeFor_68 : decode cX9_themeFor 68 = .ok (.aload_n 0, 1) := by decide +kernel
theorem dX9_themeFor_69 : decode cX9_themeFor 69 = .ok (.getfield 79, 3) := by decide +kernel
theorem dX9_themeFor_72 : decode cX9_themeFor 72 = .ok (.getfield 266, 3) := by decide +kernel
theorem dX9_themeFor_75 : decode cX9_themeFor 75 = .ok (.iload 5, 2) := by decide +kernel
theorem dX9_themeFor_77 : decode cX9_themeFor 77 = .ok (.if_icmp .ge 7, 3) := by decide +kernel
theorem dX9_themeFor_19 : decode cX9_themeFor 19 = .ok (.iconst (-1), 1) := by decide +kernel
theorem dX9_themeFor_20 : decode cX9_themeFor 20 = .ok (.ireturn, 1) := by decide +kernel
theorem dX9_costFor_0 : decode cX9_costFor 0 = .ok (.aload_n 0, 1) := by decide +kernel
theorem dX9_costFor_1 : decode cX9_costFor 1 = .ok (.iload_n 1, 1) := by decide +kernel
theorem dX9_costFor_2 : decode cX9_costFor 2 = .ok (.iload_n 2, 1) := by decide +kernel
theorem dX9_costFor_3 : decode cX9_costFor 3 = .ok (.invokevirtual 269, 3) := by decide +kernel
theorem wd_276 : Cond.methodLink RX9 269 yX9_themeFor ∈ BG := BG_at 617 (by decide +kernel) rfl
theorem wd_277 : Cond.code yX9_themeFor cX9_themeFor 8 (some .int) ∈ BG := BG_at 620 (by decide +kernel) rfl
theorem wd_278 : Cond.instanceMethod yX9_themeFor ∈ BG := BG_at 619 (by decide +kernel) rfl
theorem wd_279 : Cond.selects RX9 yX9_themeFor yX9_themeFor ∈ BG := BG_in (by decide +kernel) rfl
theorem okV_X9_themeFor : okV yX9_themeFor cX9_themeFor 8 (some .int) 2 := ⟨⟨wd_277, wd_71, by decide +kernel⟩, wd_278, wd_279⟩
theorem dX9_costFor_6 : decode cX9_costFor 6 = .ok (.istore_n 3, 1) := by decide +kernel
theorem dX9_costFor_7 : decode cX9_costFor 7 = .ok (.iload_n 3, 1) := by decide +kernel
theorem dX9_costFor_8 : decode cX9_costFor 8 = .ok (.iconst (-1), 1) := by decide +kernel
theorem dX9_costFor_9 : decode cX9_costFor 9 = .ok (.if_icmp .ne 5, 3) := by decide +kernel
theorem dX9_costFor_14 : decode cX9_costFor 14 = .ok (.aload_n 0, 1) := by decide +kernel
theorem dX9_costFor_15 : decode cX9_costFor 15 = .ok (.iload_n 1, 1) := by decide +kernel
theorem dX9_costFor_16 : decode cX9_costFor 16 = .ok (.iload_n 2, 1) := by decide +kernel
theorem dX9_costFor_17 : decode cX9_costFor 17 = .ok (.iload_n 3, 1) := by decide +kernel
theorem dX9_costFor_18 : decode cX9_costFor 18 = .ok (.invokevirtual 256, 3) := by decide +kernel
theorem dX9_costFor_21 : decode cX9_costFor 21 = .ok (.aload_n 0, 1) := by decide +kernel
theorem dX9_costFor_22 : decode cX9_costFor 22 = .ok (.getfield 79, 3) := by decide +kernel
theorem dX9_costFor_25 : decode cX9_costFor 25 = .ok (.getfield 266, 3) := by decide +kernel
theorem dX9_costFor_28 : decode cX9_costFor 28 = .ok (.ireturn, 1) := by decide +kernel
theorem dX9_costFor_12 : decode cX9_costFor 12 = .ok (.iconst (-1), 1) := by decide +kernel
theorem dX9_costFor_13 : decode cX9_costFor 13 = .ok (.ireturn, 1) := by decide +kernel
theorem dX9_draw_0 : decode cX9_draw 0 = .ok (.iload_n 1, 1) := by decide +kernel
theorem dX9_draw_1 : decode cX9_draw 1 = .ok (.ifCond .gt 5, 3) := by decide +kernel
theorem dX9_draw_6 : decode cX9_draw 6 = .ok (.aload_n 0, 1) := by decide +kernel
theorem dX9_draw_7 : decode cX9_draw 7 = .ok (.aload_n 0, 1) := by decide +kernel
theorem dX9_draw_8 : decode cX9_draw 8 = .ok (.getfield 73, 3) := by decide +kernel
theorem dX9_draw_11 : decode cX9_draw 11 = .ok (.i2l, 1) := by decide +kernel
theorem wd_280 : Cond.constantLong RX9 347 (1103515245) ∈ BG := BG_at 593 (by decide +kernel) rfl
theorem dX9_draw_12 : decode cX9_draw 12 = .ok (.ldc2_w 347, 3) := by decide +kernel
theorem dX9_draw_15 : decode cX9_draw 15 = .ok (.lmul, 1) := by decide +kernel
theorem wd_281 : Cond.constantLong RX9 349 (12345) ∈ BG := BG_at 594 (by decide +kernel) rfl
theorem dX9_draw_16 : decode cX9_draw 16 = .ok (.ldc2_w 349, 3) := by decide +kernel
theorem dX9_draw_19 : decode cX9_draw 19 = .ok (.ladd, 1) := by decide +kernel
theorem wd_282 : Cond.constantLong RX9 351 (2147483647) ∈ BG := BG_at 595 (by decide +kernel) rfl
theorem dX9_draw_20 : decode cX9_draw 20 = .ok (.ldc2_w 351, 3) := by decide +kernel
theorem dX9_draw_23 : decode cX9_draw 23 = .ok (.land, 1) := by decide +kernel
theorem dX9_draw_24 : decode cX9_draw 24 = .ok (.l2i, 1) := by decide +kernel
theorem dX9_draw_25 : decode cX9_draw 25 = .ok (.putfield 73, 3) := by decide +kernel
theorem dX9_draw_28 : decode cX9_draw 28 = .ok (.aload_n 0, 1) := by decide +kernel
theorem dX9_draw_29 : decode cX9_draw 29 = .ok (.getfield 73, 3) := by decide +kernel
theorem wd_283 : Cond.constant RX9 353 (65536) ∈ BG := BG_at 596 (by decide +kernel) rfl
theorem dX9_draw_32 : decode cX9_draw 32 = .ok (.ldc_w 353, 3) := by decide +kernel
theorem dX9_draw_35 : decode cX9_draw 35 = .ok (.idiv, 1) := by decide +kernel
theorem dX9_draw_36 : decode cX9_draw 36 = .ok (.iload_n 1, 1) := by decide +kernel
theorem dX9_draw_37 : decode cX9_draw 37 = .ok (.irem, 1) := by decide +kernel
theorem dX9_draw_38 : decode cX9_draw 38 = .ok (.ireturn, 1) := by decide +kernel
theorem dX9_draw_4 : decode cX9_draw 4 = .ok (.iconst 0, 1) := by decide +kernel
theorem dX9_draw_5 : decode cX9_draw 5 = .ok (.ireturn, 1) := by decide +kernel
theorem dJ6_bitCount_0f7a4_0 : decode cJ6_bitCount_0f7a4 0 = .ok (.iload_n 0, 1) := by decide +kernel
theorem dJ6_bitCount_0f7a4_1 : decode cJ6_bitCount_0f7a4 1 = .ok (.iload_n 0, 1) := by decide +kernel
theorem dJ6_bitCount_0f7a4_2 : decode cJ6_bitCount_0f7a4 2 = .ok (.iconst 1, 1) := by decide +kernel
theorem dJ6_bitCount_0f7a4_3 : decode cJ6_bitCount_0f7a4 3 = .ok (.iushr, 1) := by decide +kernel
theorem wd_284 : Cond.constant RJ6 265 (1431655765) ∈ BG := BG_at 641 (by decide +kernel) rfl
theorem dJ6_bitCount_0f7a4_4 : decode cJ6_bitCount_0f7a4 4 = .ok (.ldc_w 265, 3) := by decide +kernel
theorem dJ6_bitCount_0f7a4_7 : decode cJ6_bitCount_0f7a4 7 = .ok (.iand, 1) := by decide +kernel
theorem dJ6_bitCount_0f7a4_8 : decode cJ6_bitCount_0f7a4 8 = .ok (.isub, 1) := by decide +kernel
theorem dJ6_bitCount_0f7a4_9 : decode cJ6_bitCount_0f7a4 9 = .ok (.istore_n 0, 1) := by decide +kernel
theorem dJ6_bitCount_0f7a4_10 : decode cJ6_bitCount_0f7a4 10 = .ok (.iload_n 0, 1) := by decide +kernel
theorem wd_285 : Cond.constant RJ6 266 (858993459) ∈ BG := BG_at 642 (by decide +kernel) rfl
theorem dJ6_bitCount_0f7a4_11 : decode cJ6_bitCount_0f7a4 11 = .ok (.ldc_w 266, 3) := by decide +kernel
theorem dJ6_bitCount_0f7a4_14 : decode cJ6_bitCount_0f7a4 14 = .ok (.iand, 1) := by decide +kernel
theorem dJ6_bitCount_0f7a4_15 : decode cJ6_bitCount_0f7a4 15 = .ok (.iload_n 0, 1) := by decide +kernel
theorem dJ6_bitCount_0f7a4_16 : decode cJ6_bitCount_0f7a4 16 = .ok (.iconst 2, 1) := by decide +kernel
theorem dJ6_bitCount_0f7a4_17 : decode cJ6_bitCount_0f7a4 17 = .ok (.iushr, 1) := by decide +kernel
theorem dJ6_bitCount_0f7a4_18 : decode cJ6_bitCount_0f7a4 18 = .ok (.ldc_w 266, 3) := by decide +kernel
theorem dJ6_bitCount_0f7a4_21 : decode cJ6_bitCount_0f7a4 21 = .ok (.iand, 1) := by decide +kernel
theorem dJ6_bitCount_0f7a4_22 : decode cJ6_bitCount_0f7a4 22 = .ok (.iadd, 1) := by decide +kernel
theorem dJ6_bitCount_0f7a4_23 : decode cJ6_bitCount_0f7a4 23 = .ok (.istore_n 0, 1) := by decide +kernel
theorem dJ6_bitCount_0f7a4_24 : decode cJ6_bitCount_0f7a4 24 = .ok (.iload_n 0, 1) := by decide +kernel
theorem dJ6_bitCount_0f7a4_25 : decode cJ6_bitCount_0f7a4 25 = .ok (.iload_n 0, 1) := by decide +kernel
theorem dJ6_bitCount_0f7a4_26 : decode cJ6_bitCount_0f7a4 26 = .ok (.iconst 4, 1) := by decide +kernel
theorem dJ6_bitCount_0f7a4_27 : decode cJ6_bitCount_0f7a4 27 = .ok (.iushr, 1) := by decide +kernel
theorem dJ6_bitCount_0f7a4_28 : decode cJ6_bitCount_0f7a4 28 = .ok (.iadd, 1) := by decide +kernel
theorem wd_286 : Cond.constant RJ6 267 (252645135) ∈ BG := BG_at 643 (by decide +kernel) rfl
theorem dJ6_bitCount_0f7a4_29 : decode cJ6_bitCount_0f7a4 29 = .ok (.ldc_w 267, 3) := by decide +kernel
theorem dJ6_bitCount_0f7a4_32 : decode cJ6_bitCount_0f7a4 32 = .ok (.iand, 1) := by decide +kernel
theorem dJ6_bitCount_0f7a4_33 : decode cJ6_bitCount_0f7a4 33 = .ok (.istore_n 0, 1) := by decide +kernel
theorem dJ6_bitCount_0f7a4_34 : decode cJ6_bitCount_0f7a4 34 = .ok (.iload_n 0, 1) := by decide +kernel
theorem dJ6_bitCount_0f7a4_35 : decode cJ6_bitCount_0f7a4 35 = .ok (.iload_n 0, 1) := by decide +kernel
theorem dJ6_bitCount_0f7a4_36 : decode cJ6_bitCount_0f7a4 36 = .ok (.bipush 8, 2) := by decide +kernel
theorem dJ6_bitCount_0f7a4_38 : decode cJ6_bitCount_0f7a4 38 = .ok (.iushr, 1) := by decide +kernel
theorem dJ6_bitCount_0f7a4_39 : decode cJ6_bitCount_0f7a4 39 = .ok (.iadd, 1) := by decide +kernel
theorem dJ6_bitCount_0f7a4_40 : decode cJ6_bitCount_0f7a4 40 = .ok (.istore_n 0, 1) := by decide +kernel
theorem dJ6_bitCount_0f7a4_41 : decode cJ6_bitCount_0f7a4 41 = .ok (.iload_n 0, 1) := by decide +kernel
theorem dJ6_bitCount_0f7a4_42 : decode cJ6_bitCount_0f7a4 42 = .ok (.iload_n 0, 1) := by decide +kernel
theorem dJ6_bitCount_0f7a4_43 : decode cJ6_bitCount_0f7a4 43 = .ok (.bipush 16, 2) := by decide +kernel
theorem dJ6_bitCount_0f7a4_45 : decode cJ6_bitCount_0f7a4 45 = .ok (.iushr, 1) := by decide +kernel
theorem dJ6_bitCount_0f7a4_46 : decode cJ6_bitCount_0f7a4 46 = .ok (.iadd, 1) := by decide +kernel
theorem dJ6_bitCount_0f7a4_47 : decode cJ6_bitCount_0f7a4 47 = .ok (.istore_n 0, 1) := by decide +kernel
theorem dJ6_bitCount_0f7a4_48 : decode cJ6_bitCount_0f7a4 48 = .ok (.iload_n 0, 1) := by decide +kernel
theorem dJ6_bitCount_0f7a4_49 : decode cJ6_bitCount_0f7a4 49 = .ok (.bipush 63, 2) := by decide +kernel
theorem dJ6_bitCount_0f7a4_51 : decode cJ6_bitCount_0f7a4 51 = .ok (.iand, 1) := by decide +kernel
theorem dJ6_bitCount_0f7a4_52 : decode cJ6_bitCount_0f7a4 52 = .ok (.ireturn, 1) := by decide +kernel

noncomputable def f_e_attempt_x9 (q1 : Int32) (q2 : Int32) (q10 : Int32) (q12 : Int32) (k0 : Int32) (k1 : Int32) (k2 : Int32) (k3 : Int32) (k4 : Int32) (t0 : Int32) (t1 : Int32) (t2 : Int32) (t3 : Int32) (t4 : Int32) (fta : Nat → Int32) (ftc : Nat → Int32) (fn : Nat → Int32) (c_ : Int32) (b_ : Int32) (e_ : Int32) : Int32 × Int32 × Int32 × Int32 × Int32 := (match (f_e_run_x4 k0 k1 k2 k3 k4 (f_e_grievanceOf fn c_) (f_e_forceOf_x8 t0 t1 t2 t3 t4 ftc c_ e_) t4 (atF 6 fta b_)) with | (o_9, o_10, o_11, o_12, o_13) => (o_9, o_10, o_11, o_12, o_13))
def rm_e_attempt_x9 : Room := { frames := 3, cells := 0, slots := 0, locals := 79 }
set_option maxHeartbeats 4000000 in
set_option maxRecDepth 100000 in
theorem e_attempt_x9 {l : Launch} {D : va_G} {cI cZ : ClassId} {sz : Nat} (h x rd t d nw ps im is_ bk qr pr cv ft ta tb tc td te nwc : Nat) (q1 : Int32) (q2 : Int32) (q10 : Int32) (q12 : Int32) (k0 : Int32) (k1 : Int32) (k2 : Int32) (k3 : Int32) (k4 : Int32) (t0 : Int32) (t1 : Int32) (t2 : Int32) (t3 : Int32) (t4 : Int32) (fta : Nat → Int32) (ftc : Nat → Int32) (fn : Nat → Int32) (c_ : Int32) (b_ : Int32) (e_ : Int32) : KV l yX9_attempt cX9_attempt 4 rm_e_attempt_x9 D cI cZ [.ref h, .int c_, .int b_, .int e_] sz [(h, .inr (9, [.ref x, .int q1, .int q2, .ref rd, .ref t, .ref d, .ref nw, .ref ps, .ref im, .ref is_, .int q10, .ref bk, .int q12, .ref qr, .ref pr, .ref cv, .ref ft])), (qr, .inr (4, [.int k0, .int k1, .int k2, .int k3, .int k4])), (t, .inr (8, [.int t0, .int t1, .int t2, .int t3, .int t4, .ref ta, .ref tb, .ref tc, .ref td, .ref te])), (ta, .inl (cI, 6, .inl fta)), (tc, .inl (cI, 30, .inl ftc)), (nw, .inr (7, [.ref nwc])), (nwc, .inl (cI, 41, .inl fn))] (fun (u : Int32 × Int32 × Int32 × Int32 × Int32) => u = f_e_attempt_x9 q1 q2 q10 q12 k0 k1 k2 k3 k4 t0 t1 t2 t3 t4 fta ftc fn c_ b_ e_) (fun (u : Int32 × Int32 × Int32 × Int32 × Int32) => [(h, .inr (9, [.ref x, .int q1, .int q2, .ref rd, .ref t, .ref d, .ref nw, .ref ps, .ref im, .ref is_, .int q10, .ref bk, .int q12, .ref qr, .ref pr, .ref cv, .ref ft])), (qr, .inr (4, [.int (u.1), .int (u.2.1), .int (u.2.2.1), .int (u.2.2.2.1), .int (u.2.2.2.2)])), (t, .inr (8, [.int t0, .int t1, .int t2, .int t3, .int t4, .ref ta, .ref tb, .ref tc, .ref td, .ref te])), (ta, .inl (cI, 6, .inl fta)), (tc, .inl (cI, 30, .inl ftc)), (nw, .inr (7, [.ref nwc])), (nwc, .inl (cI, 41, .inl fn))]) := by
  refine KV.go rfl (Nat.le_of_ble_eq_true rfl) ?_
  intro p e s m args below meth c ls A Q hx hb hml hts hown hin hP hK hD hS hA hN hl hret
  have hl : lv_has ls 4 [(0, .ref h), (1, .int c_), (2, .int b_), (3, .int e_)] := hl
  obtain ⟨RES, hE⟩ : ∃ xRES, f_e_attempt_x9 q1 q2 q10 q12 k0 k1 k2 k3 k4 t0 t1 t2 t3 t4 fta ftc fn c_ b_ e_ = xRES := ⟨_, rfl⟩
  rw [hE] at hret
  rw [f_e_attempt_x9] at hE
  refine lv_aload_n hx hb dX9_attempt_0 rfl (lv_at hl 0 rfl) ?_
  refine va_get (D := D) (ci := 9) (v := .ref qr) (C := RX9) (T := TX9) (N := 17) hx hb hts iX9 hown hK hP 0 rfl rfl 13 (by decide) (hts _ wd_120) (fun _ h9 => h9) rfl dX9_attempt_1 ?_
  refine lv_aload_n hx hb dX9_attempt_4 rfl (lv_at hl 0 rfl) ?_
  refine va_get (D := D) (ci := 9) (v := .ref nw) (C := RX9) (T := TX9) (N := 17) hx hb hts iX9 hown hK hP 0 rfl rfl 6 (by decide) (hts _ wd_96) (fun _ h9 => h9) rfl dX9_attempt_5 ?_
  refine lv_iload_n hx hb dX9_attempt_8 rfl (lv_at hl 1 rfl) ?_
  refine cVi (wr := [(h, .inr (9, [.ref x, .int q1, .int q2, .ref rd, .ref t, .ref d, .ref nw, .ref ps, .ref im, .ref is_, .int q10, .ref bk, .int q12, .ref qr, .ref pr, .ref cv, .ref ft])), (qr, .inr (4, [.int k0, .int k1, .int k2, .int k3, .int k4])), (t, .inr (8, [.int t0, .int t1, .int t2, .int t3, .int t4, .ref ta, .ref tb, .ref tc, .ref td, .ref te])), (ta, .inl (cI, 6, .inl fta)), (tc, .inl (cI, 30, .inl ftc))]) (rest := [.ref qr]) (e_grievanceOf nw nwc fn c_) okV_X7_grievanceOf wd_251 hx hb hml hown hts hK hP hD hS hA hN hl.1 [5, 6] [0, 1, 2, 3, 4] rfl rfl rfl rfl (by decide) rfl rfl rfl (Nat.le_of_ble_eq_true rfl) (Nat.le_of_ble_eq_true rfl) (Nat.le_of_ble_eq_true rfl) (Nat.le_of_ble_eq_true rfl) (Nat.le_of_ble_eq_true rfl) dX9_attempt_9 (fun r_2 u_1 H locs hw_u_1 hP hD hS => ?_)
  replace hw_u_1 : r_2 = (f_e_grievanceOf fn c_) := hw_u_1
  rw [hw_u_1]
  clear hw_u_1
  have hP : va_P D classes [(h, .inr (9, [.ref x, .int q1, .int q2, .ref rd, .ref t, .ref d, .ref nw, .ref ps, .ref im, .ref is_, .int q10, .ref bk, .int q12, .ref qr, .ref pr, .ref cv, .ref ft])), (qr, .inr (4, [.int k0, .int k1, .int k2, .int k3, .int k4])), (t, .inr (8, [.int t0, .int t1, .int t2, .int t3, .int t4, .ref ta, .ref tb, .ref tc, .ref td, .ref te])), (ta, .inl (cI, 6, .inl fta)), (tc, .inl (cI, 30, .inl ftc)), (nw, .inr (7, [.ref nwc])), (nwc, .inl (cI, 41, .inl fn))] H := hP
  have hD : va_D A [(h, .inr (9, [.ref x, .int q1, .int q2, .ref rd, .ref t, .ref d, .ref nw, .ref ps, .ref im, .ref is_, .int q10, .ref bk, .int q12, .ref qr, .ref pr, .ref cv, .ref ft])), (qr, .inr (4, [.int k0, .int k1, .int k2, .int k3, .int k4])), (t, .inr (8, [.int t0, .int t1, .int t2, .int t3, .int t4, .ref ta, .ref tb, .ref tc, .ref td, .ref te])), (ta, .inl (cI, 6, .inl fta)), (tc, .inl (cI, 30, .inl ftc)), (nw, .inr (7, [.ref nwc])), (nwc, .inl (cI, 41, .inl fn))] := hD
  refine lv_aload_n hx hb dX9_attempt_12 rfl (lv_at hl 0 rfl) ?_
  refine va_get (D := D) (ci := 9) (v := .ref t) (C := RX9) (T := TX9) (N := 17) hx hb hts iX9 hown hK hP 0 rfl rfl 4 (by decide) (hts _ wd_89) (fun _ h9 => h9) rfl dX9_attempt_13 ?_
  refine lv_iload_n hx hb dX9_attempt_16 rfl (lv_at hl 1 rfl) ?_
  refine lv_iload_n hx hb dX9_attempt_17 rfl (lv_at hl 3 rfl) ?_
  refine cVi (wr := [(h, .inr (9, [.ref x, .int q1, .int q2, .ref rd, .ref t, .ref d, .ref nw, .ref ps, .ref im, .ref is_, .int q10, .ref bk, .int q12, .ref qr, .ref pr, .ref cv, .ref ft])), (qr, .inr (4, [.int k0, .int k1, .int k2, .int k3, .int k4])), (ta, .inl (cI, 6, .inl fta)), (nw, .inr (7, [.ref nwc])), (nwc, .inl (cI, 41, .inl fn))]) (rest := [.int (f_e_grievanceOf fn c_), .ref qr]) (e_forceOf_x8 t ta tb tc td te t0 t1 t2 t3 t4 ftc c_ e_) okV_X8_forceOf wd_252 hx hb hml hown hts hK hP hD hS hA hN hl.1 [2, 4] [0, 1, 3, 5, 6] rfl rfl rfl rfl (by decide) rfl rfl rfl (Nat.le_of_ble_eq_true rfl) (Nat.le_of_ble_eq_true rfl) (Nat.le_of_ble_eq_true rfl) (Nat.le_of_ble_eq_true rfl) (Nat.le_of_ble_eq_true rfl) dX9_attempt_18 (fun r_4 u_3 H locs hw_u_3 hP hD hS => ?_)
  replace hw_u_3 : r_4 = (f_e_forceOf_x8 t0 t1 t2 t3 t4 ftc c_ e_) := hw_u_3
  rw [hw_u_3]
  clear hw_u_3
  have hP : va_P D classes [(h, .inr (9, [.ref x, .int q1, .int q2, .ref rd, .ref t, .ref d, .ref nw, .ref ps, .ref im, .ref is_, .int q10, .ref bk, .int q12, .ref qr, .ref pr, .ref cv, .ref ft])), (qr, .inr (4, [.int k0, .int k1, .int k2, .int k3, .int k4])), (ta, .inl (cI, 6, .inl fta)), (nw, .inr (7, [.ref nwc])), (nwc, .inl (cI, 41, .inl fn)), (t, .inr (8, [.int t0, .int t1, .int t2, .int t3, .int t4, .ref ta, .ref tb, .ref tc, .ref td, .ref te])), (tc, .inl (cI, 30, .inl ftc))] H := hP
  have hD : va_D A [(h, .inr (9, [.ref x, .int q1, .int q2, .ref rd, .ref t, .ref d, .ref nw, .ref ps, .ref im, .ref is_, .int q10, .ref bk, .int q12, .ref qr, .ref pr, .ref cv, .ref ft])), (qr, .inr (4, [.int k0, .int k1, .int k2, .int k3, .int k4])), (ta, .inl (cI, 6, .inl fta)), (nw, .inr (7, [.ref nwc])), (nwc, .inl (cI, 41, .inl fn)), (t, .inr (8, [.int t0, .int t1, .int t2, .int t3, .int t4, .ref ta, .ref tb, .ref tc, .ref td, .ref te])), (tc, .inl (cI, 30, .inl ftc))] := hD
  refine lv_aload_n hx hb dX9_attempt_21 rfl (lv_at hl 0 rfl) ?_
  refine va_get (D := D) (ci := 9) (v := .ref t) (C := RX9) (T := TX9) (N := 17) hx hb hts iX9 hown hK hP 0 rfl rfl 4 (by decide) (hts _ wd_89) (fun _ h9 => h9) rfl dX9_attempt_22 ?_
  refine va_get (D := D) (ci := 8) (v := .int t4) (C := RX8) (T := TX8) (N := 10) hx hb hts iX8 hown hK hP 5 rfl rfl 4 (by decide) (hts _ wd_256) (fun _ h9 => h9) rfl dX9_attempt_25 ?_
  refine lv_aload_n hx hb dX9_attempt_28 rfl (lv_at hl 0 rfl) ?_
  refine va_get (D := D) (ci := 9) (v := .ref t) (C := RX9) (T := TX9) (N := 17) hx hb hts iX9 hown hK hP 0 rfl rfl 4 (by decide) (hts _ wd_89) (fun _ h9 => h9) rfl dX9_attempt_29 ?_
  refine va_get (D := D) (ci := 8) (v := .ref ta) (C := RX8) (T := TX8) (N := 10) hx hb hts iX8 hown hK hP 5 rfl rfl 5 (by decide) (hts _ wd_257) (fun _ h9 => h9) rfl dX9_attempt_32 ?_
  refine lv_iload_n hx hb dX9_attempt_35 rfl (lv_at hl 2 rfl) ?_
  refine cSi (wr := [(h, .inr (9, [.ref x, .int q1, .int q2, .ref rd, .ref t, .ref d, .ref nw, .ref ps, .ref im, .ref is_, .int q10, .ref bk, .int q12, .ref qr, .ref pr, .ref cv, .ref ft])), (qr, .inr (4, [.int k0, .int k1, .int k2, .int k3, .int k4])), (nw, .inr (7, [.ref nwc])), (nwc, .inl (cI, 41, .inl fn)), (t, .inr (8, [.int t0, .int t1, .int t2, .int t3, .int t4, .ref ta, .ref tb, .ref tc, .ref td, .ref te])), (tc, .inl (cI, 30, .inl ftc))]) (rest := [.int t4, .int (f_e_forceOf_x8 t0 t1 t2 t3 t4 ftc c_ e_), .int (f_e_grievanceOf fn c_), .ref qr]) (k_at ta 6 fta b_ (by decide)) okS_X9_at wd_258 hx hb hml hown hts hK hP hD hS hA hN hl.1 [2] [0, 1, 3, 4, 5, 6] rfl rfl rfl rfl (by decide) rfl (Nat.le_of_ble_eq_true rfl) (Nat.le_of_ble_eq_true rfl) (Nat.le_of_ble_eq_true rfl) (Nat.le_of_ble_eq_true rfl) (Nat.le_of_ble_eq_true rfl) dX9_attempt_36 (fun r_6 u_5 H locs hw_u_5 hP hD hS => ?_)
  obtain rfl := hw_u_5
  have hP : va_P D classes [(h, .inr (9, [.ref x, .int q1, .int q2, .ref rd, .ref t, .ref d, .ref nw, .ref ps, .ref im, .ref is_, .int q10, .ref bk, .int q12, .ref qr, .ref pr, .ref cv, .ref ft])), (qr, .inr (4, [.int k0, .int k1, .int k2, .int k3, .int k4])), (nw, .inr (7, [.ref nwc])), (nwc, .inl (cI, 41, .inl fn)), (t, .inr (8, [.int t0, .int t1, .int t2, .int t3, .int t4, .ref ta, .ref tb, .ref tc, .ref td, .ref te])), (tc, .inl (cI, 30, .inl ftc)), (ta, .inl (cI, 6, .inl fta))] H := hP
  have hD : va_D A [(h, .inr (9, [.ref x, .int q1, .int q2, .ref rd, .ref t, .ref d, .ref nw, .ref ps, .ref im, .ref is_, .int q10, .ref bk, .int q12, .ref qr, .ref pr, .ref cv, .ref ft])), (qr, .inr (4, [.int k0, .int k1, .int k2, .int k3, .int k4])), (nw, .inr (7, [.ref nwc])), (nwc, .inl (cI, 41, .inl fn)), (t, .inr (8, [.int t0, .int t1, .int t2, .int t3, .int t4, .ref ta, .ref tb, .ref tc, .ref td, .ref te])), (tc, .inl (cI, 30, .inl ftc)), (ta, .inl (cI, 6, .inl fta))] := hD
  refine cVv (wr := [(h, .inr (9, [.ref x, .int q1, .int q2, .ref rd, .ref t, .ref d, .ref nw, .ref ps, .ref im, .ref is_, .int q10, .ref bk, .int q12, .ref qr, .ref pr, .ref cv, .ref ft])), (nw, .inr (7, [.ref nwc])), (nwc, .inl (cI, 41, .inl fn)), (t, .inr (8, [.int t0, .int t1, .int t2, .int t3, .int t4, .ref ta, .ref tb, .ref tc, .ref td, .ref te])), (tc, .inl (cI, 30, .inl ftc)), (ta, .inl (cI, 6, .inl fta))]) (rest := []) (e_run_x4 qr k0 k1 k2 k3 k4 (f_e_grievanceOf fn c_) (f_e_forceOf_x8 t0 t1 t2 t3 t4 ftc c_ e_) t4 (atF 6 fta b_)) okV_X4_run wd_259 hx hb hml hown hts hK hP hD hS hA hN hl.1 [1] [0, 2, 3, 4, 5, 6] rfl rfl rfl rfl (by decide) rfl rfl rfl (Nat.le_of_ble_eq_true rfl) (Nat.le_of_ble_eq_true rfl) (Nat.le_of_ble_eq_true rfl) (Nat.le_of_ble_eq_true rfl) (Nat.le_of_ble_eq_true rfl) dX9_attempt_39 (fun u_7 H locs hw_u_7 hP hD hS => ?_)
  obtain ⟨o_9, o_10, o_11, o_12, o_13⟩ := u_7
  replace hw_u_7 : (o_9, o_10, o_11, o_12, o_13) = (f_e_run_x4 k0 k1 k2 k3 k4 (f_e_grievanceOf fn c_) (f_e_forceOf_x8 t0 t1 t2 t3 t4 ftc c_ e_) t4 (atF 6 fta b_)) := hw_u_7
  rw [← hw_u_7] at hE
  replace hE : (o_9, o_10, o_11, o_12, o_13) = RES := hE
  have hP : va_P D classes [(h, .inr (9, [.ref x, .int q1, .int q2, .ref rd, .ref t, .ref d, .ref nw, .ref ps, .ref im, .ref is_, .int q10, .ref bk, .int q12, .ref qr, .ref pr, .ref cv, .ref ft])), (nw, .inr (7, [.ref nwc])), (nwc, .inl (cI, 41, .inl fn)), (t, .inr (8, [.int t0, .int t1, .int t2, .int t3, .int t4, .ref ta, .ref tb, .ref tc, .ref td, .ref te])), (tc, .inl (cI, 30, .inl ftc)), (ta, .inl (cI, 6, .inl fta)), (qr, .inr (4, [.int o_9, .int o_10, .int o_11, .int o_12, .int o_13]))] H := hP
  have hD : va_D A [(h, .inr (9, [.ref x, .int q1, .int q2, .ref rd, .ref t, .ref d, .ref nw, .ref ps, .ref im, .ref is_, .int q10, .ref bk, .int q12, .ref qr, .ref pr, .ref cv, .ref ft])), (nw, .inr (7, [.ref nwc])), (nwc, .inl (cI, 41, .inl fn)), (t, .inr (8, [.int t0, .int t1, .int t2, .int t3, .int t4, .ref ta, .ref tb, .ref tc, .ref td, .ref te])), (tc, .inl (cI, 30, .inl ftc)), (ta, .inl (cI, 6, .inl fta)), (qr, .inr (4, [.int o_9, .int o_10, .int o_11, .int o_12, .int o_13]))] := hD
  exact hret (o_9, o_10, o_11, o_12, o_13) _ _ _ _ dX9_attempt_42 hE (cutP (isC := [0, 6, 3, 5, 4, 1, 2]) hP rfl) (cutD (isC := [0, 6, 3, 5, 4, 1, 2]) hD rfl rfl) hS
noncomputable def f_e_minutesLeft_x9 (q1 : Int32) (q2 : Int32) (q10 : Int32) (q12 : Int32) (k0 : Int32) (k1 : Int32) (k2 : Int32) (k3 : Int32) (k4 : Int32) (t0 : Int32) (t1 : Int32) (t2 : Int32) (t3 : Int32) (t4 : Int32) (ftc : Nat → Int32) (fn : Nat → Int32) (c_ : Int32) (e_ : Int32) : Int32 × Int32 × Int32 × Int32 × Int32 × Int32 := (match (f_e_run_x4 k0 k1 k2 k3 k4 (f_e_grievanceOf fn c_) (f_e_forceOf_x8 t0 t1 t2 t3 t4 ftc c_ e_) t4 100) with | (o_7, o_8, o_9, o_10, o_11) => (if o_11 = 0 then (999, o_7, o_8, o_9, o_10, o_11) else (o_7, o_7, o_8, o_9, o_10, o_11)))
def rm_e_minutesLeft_x9 : Room := { frames := 3, cells := 0, slots := 0, locals := 79 }
set_option maxHeartbeats 4000000 in
set_option maxRecDepth 100000 in
theorem e_minutesLeft_x9 {l : Launch} {D : va_G} {cI cZ : ClassId} {sz : Nat} (h x rd t d nw ps im is_ bk qr pr cv ft ta tb tc td te nwc : Nat) (q1 : Int32) (q2 : Int32) (q10 : Int32) (q12 : Int32) (k0 : Int32) (k1 : Int32) (k2 : Int32) (k3 : Int32) (k4 : Int32) (t0 : Int32) (t1 : Int32) (t2 : Int32) (t3 : Int32) (t4 : Int32) (ftc : Nat → Int32) (fn : Nat → Int32) (c_ : Int32) (e_ : Int32) : KI l yX9_minutesLeft cX9_minutesLeft 3 (some .int) rm_e_minutesLeft_x9 D cI cZ [.ref h, .int c_, .int e_] sz [(h, .inr (9, [.ref x, .int q1, .int q2, .ref rd, .ref t, .ref d, .ref nw, .ref ps, .ref im, .ref is_, .int q10, .ref bk, .int q12, .ref qr, .ref pr, .ref cv, .ref ft])), (qr, .inr (4, [.int k0, .int k1, .int k2, .int k3, .int k4])), (t, .inr (8, [.int t0, .int t1, .int t2, .int t3, .int t4, .ref ta, .ref tb, .ref tc, .ref td, .ref te])), (tc, .inl (cI, 30, .inl ftc)), (nw, .inr (7, [.ref nwc])), (nwc, .inl (cI, 41, .inl fn))] (fun (r : Int32) (u : Int32 × Int32 × Int32 × Int32 × Int32) => (r, u) = f_e_minutesLeft_x9 q1 q2 q10 q12 k0 k1 k2 k3 k4 t0 t1 t2 t3 t4 ftc fn c_ e_) (fun (u : Int32 × Int32 × Int32 × Int32 × Int32) => [(h, .inr (9, [.ref x, .int q1, .int q2, .ref rd, .ref t, .ref d, .ref nw, .ref ps, .ref im, .ref is_, .int q10, .ref bk, .int q12, .ref qr, .ref pr, .ref cv, .ref ft])), (qr, .inr (4, [.int (u.1), .int (u.2.1), .int (u.2.2.1), .int (u.2.2.2.1), .int (u.2.2.2.2)])), (t, .inr (8, [.int t0, .int t1, .int t2, .int t3, .int t4, .ref ta, .ref tb, .ref tc, .ref td, .ref te])), (tc, .inl (cI, 30, .inl ftc)), (nw, .inr (7, [.ref nwc])), (nwc, .inl (cI, 41, .inl fn))]) := by
  refine KI.go rfl (Nat.le_of_ble_eq_true rfl) ?_
  intro p e s m args below meth c ls A Q hx hb hml hts hown hin hP hK hD hS hA hN hl hret
  have hl : lv_has ls 3 [(0, .ref h), (1, .int c_), (2, .int e_)] := hl
  obtain ⟨RES, hE⟩ : ∃ xRES, f_e_minutesLeft_x9 q1 q2 q10 q12 k0 k1 k2 k3 k4 t0 t1 t2 t3 t4 ftc fn c_ e_ = xRES := ⟨_, rfl⟩
  rw [hE] at hret
  rw [f_e_minutesLeft_x9] at hE
  refine lv_aload_n hx hb dX9_minutesLeft_0 rfl (lv_at hl 0 rfl) ?_
  refine va_get (D := D) (ci := 9) (v := .ref qr) (C := RX9) (T := TX9) (N := 17) hx hb hts iX9 hown hK hP 0 rfl rfl 13 (by decide) (hts _ wd_120) (fun _ h9 => h9) rfl dX9_minutesLeft_1 ?_
  refine lv_aload_n hx hb dX9_minutesLeft_4 rfl (lv_at hl 0 rfl) ?_
  refine va_get (D := D) (ci := 9) (v := .ref nw) (C := RX9) (T := TX9) (N := 17) hx hb hts iX9 hown hK hP 0 rfl rfl 6 (by decide) (hts _ wd_96) (fun _ h9 => h9) rfl dX9_minutesLeft_5 ?_
  refine lv_iload_n hx hb dX9_minutesLeft_8 rfl (lv_at hl 1 rfl) ?_
  refine cVi (wr := [(h, .inr (9, [.ref x, .int q1, .int q2, .ref rd, .ref t, .ref d, .ref nw, .ref ps, .ref im, .ref is_, .int q10, .ref bk, .int q12, .ref qr, .ref pr, .ref cv, .ref ft])), (qr, .inr (4, [.int k0, .int k1, .int k2, .int k3, .int k4])), (t, .inr (8, [.int t0, .int t1, .int t2, .int t3, .int t4, .ref ta, .ref tb, .ref tc, .ref td, .ref te])), (tc, .inl (cI, 30, .inl ftc))]) (rest := [.ref qr]) (e_grievanceOf nw nwc fn c_) okV_X7_grievanceOf wd_251 hx hb hml hown hts hK hP hD hS hA hN hl.1 [4, 5] [0, 1, 2, 3] rfl rfl rfl rfl (by decide) rfl rfl rfl (Nat.le_of_ble_eq_true rfl) (Nat.le_of_ble_eq_true rfl) (Nat.le_of_ble_eq_true rfl) (Nat.le_of_ble_eq_true rfl) (Nat.le_of_ble_eq_true rfl) dX9_minutesLeft_9 (fun r_2 u_1 H locs hw_u_1 hP hD hS => ?_)
  replace hw_u_1 : r_2 = (f_e_grievanceOf fn c_) := hw_u_1
  rw [hw_u_1]
  clear hw_u_1
  have hP : va_P D classes [(h, .inr (9, [.ref x, .int q1, .int q2, .ref rd, .ref t, .ref d, .ref nw, .ref ps, .ref im, .ref is_, .int q10, .ref bk, .int q12, .ref qr, .ref pr, .ref cv, .ref ft])), (qr, .inr (4, [.int k0, .int k1, .int k2, .int k3, .int k4])), (t, .inr (8, [.int t0, .int t1, .int t2, .int t3, .int t4, .ref ta, .ref tb, .ref tc, .ref td, .ref te])), (tc, .inl (cI, 30, .inl ftc)), (nw, .inr (7, [.ref nwc])), (nwc, .inl (cI, 41, .inl fn))] H := hP
  have hD : va_D A [(h, .inr (9, [.ref x, .int q1, .int q2, .ref rd, .ref t, .ref d, .ref nw, .ref ps, .ref im, .ref is_, .int q10, .ref bk, .int q12, .ref qr, .ref pr, .ref cv, .ref ft])), (qr, .inr (4, [.int k0, .int k1, .int k2, .int k3, .int k4])), (t, .inr (8, [.int t0, .int t1, .int t2, .int t3, .int t4, .ref ta, .ref tb, .ref tc, .ref td, .ref te])), (tc, .inl (cI, 30, .inl ftc)), (nw, .inr (7, [.ref nwc])), (nwc, .inl (cI, 41, .inl fn))] := hD
  refine lv_aload_n hx hb dX9_minutesLeft_12 rfl (lv_at hl 0 rfl) ?_
  refine va_get (D := D) (ci := 9) (v := .ref t) (C := RX9) (T := TX9) (N := 17) hx hb hts iX9 hown hK hP 0 rfl rfl 4 (by decide) (hts _ wd_89) (fun _ h9 => h9) rfl dX9_minutesLeft_13 ?_
  refine lv_iload_n hx hb dX9_minutesLeft_16 rfl (lv_at hl 1 rfl) ?_
  refine lv_iload_n hx hb dX9_minutesLeft_17 rfl (lv_at hl 2 rfl) ?_
  refine cVi (wr := [(h, .inr (9, [.ref x, .int q1, .int q2, .ref rd, .ref t, .ref d, .ref nw, .ref ps, .ref im, .ref is_, .int q10, .ref bk, .int q12, .ref qr, .ref pr, .ref cv, .ref ft])), (qr, .inr (4, [.int k0, .int k1, .int k2, .int k3, .int k4])), (nw, .inr (7, [.ref nwc])), (nwc, .inl (cI, 41, .inl fn))]) (rest := [.int (f_e_grievanceOf fn c_), .ref qr]) (e_forceOf_x8 t ta tb tc td te t0 t1 t2 t3 t4 ftc c_ e_) okV_X8_forceOf wd_252 hx hb hml hown hts hK hP hD hS hA hN hl.1 [2, 3] [0, 1, 4, 5] rfl rfl rfl rfl (by decide) rfl rfl rfl (Nat.le_of_ble_eq_true rfl) (Nat.le_of_ble_eq_true rfl) (Nat.le_of_ble_eq_true rfl) (Nat.le_of_ble_eq_true rfl) (Nat.le_of_ble_eq_true rfl) dX9_minutesLeft_18 (fun r_4 u_3 H locs hw_u_3 hP hD hS => ?_)
  replace hw_u_3 : r_4 = (f_e_forceOf_x8 t0 t1 t2 t3 t4 ftc c_ e_) := hw_u_3
  rw [hw_u_3]
  clear hw_u_3
  have hP : va_P D classes [(h, .inr (9, [.ref x, .int q1, .int q2, .ref rd, .ref t, .ref d, .ref nw, .ref ps, .ref im, .ref is_, .int q10, .ref bk, .int q12, .ref qr, .ref pr, .ref cv, .ref ft])), (qr, .inr (4, [.int k0, .int k1, .int k2, .int k3, .int k4])), (nw, .inr (7, [.ref nwc])), (nwc, .inl (cI, 41, .inl fn)), (t, .inr (8, [.int t0, .int t1, .int t2, .int t3, .int t4, .ref ta, .ref tb, .ref tc, .ref td, .ref te])), (tc, .inl (cI, 30, .inl ftc))] H := hP
  have hD : va_D A [(h, .inr (9, [.ref x, .int q1, .int q2, .ref rd, .ref t, .ref d, .ref nw, .ref ps, .ref im, .ref is_, .int q10, .ref bk, .int q12, .ref qr, .ref pr, .ref cv, .ref ft])), (qr, .inr (4, [.int k0, .int k1, .int k2, .int k3, .int k4])), (nw, .inr (7, [.ref nwc])), (nwc, .inl (cI, 41, .inl fn)), (t, .inr (8, [.int t0, .int t1, .int t2, .int t3, .int t4, .ref ta, .ref tb, .ref tc, .ref td, .ref te])), (tc, .inl (cI, 30, .inl ftc))] := hD
  refine lv_aload_n hx hb dX9_minutesLeft_21 rfl (lv_at hl 0 rfl) ?_
  refine va_get (D := D) (ci := 9) (v := .ref t) (C := RX9) (T := TX9) (N := 17) hx hb hts iX9 hown hK hP 0 rfl rfl 4 (by decide) (hts _ wd_89) (fun _ h9 => h9) rfl dX9_minutesLeft_22 ?_
  refine va_get (D := D) (ci := 8) (v := .int t4) (C := RX8) (T := TX8) (N := 10) hx hb hts iX8 hown hK hP 4 rfl rfl 4 (by decide) (hts _ wd_256) (fun _ h9 => h9) rfl dX9_minutesLeft_25 ?_
  refine lv_bipush (v := 100) hx hb dX9_minutesLeft_28 (by decide) ?_
  refine cVv (wr := [(h, .inr (9, [.ref x, .int q1, .int q2, .ref rd, .ref t, .ref d, .ref nw, .ref ps, .ref im, .ref is_, .int q10, .ref bk, .int q12, .ref qr, .ref pr, .ref cv, .ref ft])), (nw, .inr (7, [.ref nwc])), (nwc, .inl (cI, 41, .inl fn)), (t, .inr (8, [.int t0, .int t1, .int t2, .int t3, .int t4, .ref ta, .ref tb, .ref tc, .ref td, .ref te])), (tc, .inl (cI, 30, .inl ftc))]) (rest := []) (e_run_x4 qr k0 k1 k2 k3 k4 (f_e_grievanceOf fn c_) (f_e_forceOf_x8 t0 t1 t2 t3 t4 ftc c_ e_) t4 100) okV_X4_run wd_259 hx hb hml hown hts hK hP hD hS hA hN hl.1 [1] [0, 2, 3, 4, 5] rfl rfl rfl rfl (by decide) rfl rfl rfl (Nat.le_of_ble_eq_true rfl) (Nat.le_of_ble_eq_true rfl) (Nat.le_of_ble_eq_true rfl) (Nat.le_of_ble_eq_true rfl) (Nat.le_of_ble_eq_true rfl) dX9_minutesLeft_30 (fun u_5 H locs hw_u_5 hP hD hS => ?_)
  obtain ⟨o_7, o_8, o_9, o_10, o_11⟩ := u_5
  replace hw_u_5 : (o_7, o_8, o_9, o_10, o_11) = (f_e_run_x4 k0 k1 k2 k3 k4 (f_e_grievanceOf fn c_) (f_e_forceOf_x8 t0 t1 t2 t3 t4 ftc c_ e_) t4 100) := hw_u_5
  rw [← hw_u_5] at hE
  replace hE : (if o_11 = 0 then (999, o_7, o_8, o_9, o_10, o_11) else (o_7, o_7, o_8, o_9, o_10, o_11)) = RES := hE
  have hP : va_P D classes [(h, .inr (9, [.ref x, .int q1, .int q2, .ref rd, .ref t, .ref d, .ref nw, .ref ps, .ref im, .ref is_, .int q10, .ref bk, .int q12, .ref qr, .ref pr, .ref cv, .ref ft])), (nw, .inr (7, [.ref nwc])), (nwc, .inl (cI, 41, .inl fn)), (t, .inr (8, [.int t0, .int t1, .int t2, .int t3, .int t4, .ref ta, .ref tb, .ref tc, .ref td, .ref te])), (tc, .inl (cI, 30, .inl ftc)), (qr, .inr (4, [.int o_7, .int o_8, .int o_9, .int o_10, .int o_11]))] H := hP
  have hD : va_D A [(h, .inr (9, [.ref x, .int q1, .int q2, .ref rd, .ref t, .ref d, .ref nw, .ref ps, .ref im, .ref is_, .int q10, .ref bk, .int q12, .ref qr, .ref pr, .ref cv, .ref ft])), (nw, .inr (7, [.ref nwc])), (nwc, .inl (cI, 41, .inl fn)), (t, .inr (8, [.int t0, .int t1, .int t2, .int t3, .int t4, .ref ta, .ref tb, .ref tc, .ref td, .ref te])), (tc, .inl (cI, 30, .inl ftc)), (qr, .inr (4, [.int o_7, .int o_8, .int o_9, .int o_10, .int o_11]))] := hD
  refine lv_aload_n hx hb dX9_minutesLeft_33 rfl (lv_at hl 0 rfl) ?_
  refine va_get (D := D) (ci := 9) (v := .ref qr) (C := RX9) (T := TX9) (N := 17) hx hb hts iX9 hown hK hP 0 rfl rfl 13 (by decide) (hts _ wd_120) (fun _ h9 => h9) rfl dX9_minutesLeft_34 ?_
  refine va_get (D := D) (ci := 4) (v := .int o_11) (C := RX4) (T := TX4) (N := 5) hx hb hts iX4 hown hK hP 5 rfl rfl 4 (by decide) (hts _ wd_263) (fun _ h9 => h9) rfl dX9_minutesLeft_37 ?_
  refine lv_if_eq (tgt := 53) hx hb dX9_minutesLeft_40 (by decide) (fun c_12 => ?_) (fun c_12 => ?_)
  · rw [if_pos c_12] at hE
    refine lv_sipush (v := 999) hx hb dX9_minutesLeft_53 (by decide) ?_
    exact hret 999 (o_7, o_8, o_9, o_10, o_11) _ _ _ _ dX9_minutesLeft_56 rfl hE (cutP (isC := [0, 5, 3, 4, 1, 2]) hP rfl) (cutD (isC := [0, 5, 3, 4, 1, 2]) hD rfl rfl) hS
  · rw [if_neg c_12] at hE
    refine lv_aload_n hx hb dX9_minutesLeft_43 rfl (lv_at hl 0 rfl) ?_
    refine va_get (D := D) (ci := 9) (v := .ref qr) (C := RX9) (T := TX9) (N := 17) hx hb hts iX9 hown hK hP 0 rfl rfl 13 (by decide) (hts _ wd_120) (fun _ h9 => h9) rfl dX9_minutesLeft_44 ?_
    refine va_get (D := D) (ci := 4) (v := .int o_7) (C := RX4) (T := TX4) (N := 5) hx hb hts iX4 hown hK hP 5 rfl rfl 0 (by decide) (hts _ wd_264) (fun _ h9 => h9) rfl dX9_minutesLeft_47 ?_
    refine lv_goto (tgt := 56) hx hb dX9_minutesLeft_50 (by decide) ?_
    exact hret o_7 (o_7, o_8, o_9, o_10, o_11) _ _ _ _ dX9_minutesLeft_56 rfl hE (cutP (isC := [0, 5, 3, 4, 1, 2]) hP rfl) (cutD (isC := [0, 5, 3, 4, 1, 2]) hD rfl rfl) hS
noncomputable def f_e_themeFor_x9_24 (q1 : Int32) (q2 : Int32) (q10 : Int32) (q12 : Int32) (k0 : Int32) (k1 : Int32) (k2 : Int32) (k3 : Int32) (k4 : Int32) (t0 : Int32) (t1 : Int32) (t2 : Int32) (t3 : Int32) (t4 : Int32) (fta : Nat → Int32) (ftc : Nat → Int32) (fn : Nat → Int32) (c_ : Int32) (b_ : Int32) (n : Nat) : Int32 → Int32 → Int32 → Int32 → Int32 → Int32 → Int32 → Int32 → Int32 → Int32 × Int32 × Int32 × Int32 × Int32 × Int32 × Int32 × Int32 × Int32 := Nat.rec (motive := fun _ => Int32 → Int32 → Int32 → Int32 → Int32 → Int32 → Int32 → Int32 → Int32 → Int32 × Int32 × Int32 × Int32 × Int32 × Int32 × Int32 × Int32 × Int32) (fun w_4l6 w_4l5 w_4l4 w_4l3 w_4m0 w_4m1 w_4m2 w_4m3 w_4m4 => (w_4l6, w_4l5, w_4l4, w_4l3, w_4m0, w_4m1, w_4m2, w_4m3, w_4m4)) (fun n ih w_4l6 w_4l5 w_4l4 w_4l3 w_4m0 w_4m1 w_4m2 w_4m3 w_4m4 => (if t1 ≤ w_4l6 then (w_4l6, w_4l5, w_4l4, w_4l3, w_4m0, w_4m1, w_4m2, w_4m3, w_4m4) else (match (f_e_attempt_x9 q1 q2 q10 q12 w_4m0 w_4m1 w_4m2 w_4m3 w_4m4 t0 t1 t2 t3 t4 fta ftc fn c_ b_ w_4l6) with | (o_8, o_9, o_10, o_11, o_12) => (if o_8 < w_4l4 then (if o_11 = 0 then (ih (w_4l6 + 1) w_4l5 w_4l4 w_4l3 o_8 o_9 o_10 o_11 o_12) else (if w_4l3 = (-1) then (ih (w_4l6 + 1) o_9 o_8 w_4l6 o_8 o_9 o_10 o_11 o_12) else (ih (w_4l6 + 1) o_9 o_8 w_4l6 o_8 o_9 o_10 o_11 o_12))) else (if o_8 = w_4l4 then (if w_4l5 ≤ o_9 then (if o_11 = 0 then (ih (w_4l6 + 1) w_4l5 w_4l4 w_4l3 o_8 o_9 o_10 o_11 o_12) else (if w_4l3 = (-1) then (ih (w_4l6 + 1) o_9 o_8 w_4l6 o_8 o_9 o_10 o_11 o_12) else (ih (w_4l6 + 1) w_4l5 w_4l4 w_4l3 o_8 o_9 o_10 o_11 o_12))) else (if o_11 = 0 then (ih (w_4l6 + 1) w_4l5 w_4l4 w_4l3 o_8 o_9 o_10 o_11 o_12) else (if w_4l3 = (-1) then (ih (w_4l6 + 1) o_9 o_8 w_4l6 o_8 o_9 o_10 o_11 o_12) else (ih (w_4l6 + 1) o_9 o_8 w_4l6 o_8 o_9 o_10 o_11 o_12)))) else (if o_11 = 0 then (ih (w_4l6 + 1) w_4l5 w_4l4 w_4l3 o_8 o_9 o_10 o_11 o_12) else (if w_4l3 = (-1) then (ih (w_4l6 + 1) o_9 o_8 w_4l6 o_8 o_9 o_10 o_11 o_12) else (ih (w_4l6 + 1) w_4l5 w_4l4 w_4l3 o_8 o_9 o_10 o_11 o_12)))))))) n
theorem f_e_themeFor_x9_24_s (q1 : Int32) (q2 : Int32) (q10 : Int32) (q12 : Int32) (k0 : Int32) (k1 : Int32) (k2 : Int32) (k3 : Int32) (k4 : Int32) (t0 : Int32) (t1 : Int32) (t2 : Int32) (t3 : Int32) (t4 : Int32) (fta : Nat → Int32) (ftc : Nat → Int32) (fn : Nat → Int32) (c_ : Int32) (b_ : Int32) (n : Nat) (w_4l6 : Int32) (w_4l5 : Int32) (w_4l4 : Int32) (w_4l3 : Int32) (w_4m0 : Int32) (w_4m1 : Int32) (w_4m2 : Int32) (w_4m3 : Int32) (w_4m4 : Int32) : f_e_themeFor_x9_24 q1 q2 q10 q12 k0 k1 k2 k3 k4 t0 t1 t2 t3 t4 fta ftc fn c_ b_ (n + 1) w_4l6 w_4l5 w_4l4 w_4l3 w_4m0 w_4m1 w_4m2 w_4m3 w_4m4 = (if t1 ≤ w_4l6 then (w_4l6, w_4l5, w_4l4, w_4l3, w_4m0, w_4m1, w_4m2, w_4m3, w_4m4) else (match (f_e_attempt_x9 q1 q2 q10 q12 w_4m0 w_4m1 w_4m2 w_4m3 w_4m4 t0 t1 t2 t3 t4 fta ftc fn c_ b_ w_4l6) with | (o_8, o_9, o_10, o_11, o_12) => (if o_8 < w_4l4 then (if o_11 = 0 then (f_e_themeFor_x9_24 q1 q2 q10 q12 k0 k1 k2 k3 k4 t0 t1 t2 t3 t4 fta ftc fn c_ b_ n (w_4l6 + 1) w_4l5 w_4l4 w_4l3 o_8 o_9 o_10 o_11 o_12) else (if w_4l3 = (-1) then (f_e_themeFor_x9_24 q1 q2 q10 q12 k0 k1 k2 k3 k4 t0 t1 t2 t3 t4 fta ftc fn c_ b_ n (w_4l6 + 1) o_9 o_8 w_4l6 o_8 o_9 o_10 o_11 o_12) else (f_e_themeFor_x9_24 q1 q2 q10 q12 k0 k1 k2 k3 k4 t0 t1 t2 t3 t4 fta ftc fn c_ b_ n (w_4l6 + 1) o_9 o_8 w_4l6 o_8 o_9 o_10 o_11 o_12))) else (if o_8 = w_4l4 then (if w_4l5 ≤ o_9 then (if o_11 = 0 then (f_e_themeFor_x9_24 q1 q2 q10 q12 k0 k1 k2 k3 k4 t0 t1 t2 t3 t4 fta ftc fn c_ b_ n (w_4l6 + 1) w_4l5 w_4l4 w_4l3 o_8 o_9 o_10 o_11 o_12) else (if w_4l3 = (-1) then (f_e_themeFor_x9_24 q1 q2 q10 q12 k0 k1 k2 k3 k4 t0 t1 t2 t3 t4 fta ftc fn c_ b_ n (w_4l6 + 1) o_9 o_8 w_4l6 o_8 o_9 o_10 o_11 o_12) else (f_e_themeFor_x9_24 q1 q2 q10 q12 k0 k1 k2 k3 k4 t0 t1 t2 t3 t4 fta ftc fn c_ b_ n (w_4l6 + 1) w_4l5 w_4l4 w_4l3 o_8 o_9 o_10 o_11 o_12))) else (if o_11 = 0 then (f_e_themeFor_x9_24 q1 q2 q10 q12 k0 k1 k2 k3 k4 t0 t1 t2 t3 t4 fta ftc fn c_ b_ n (w_4l6 + 1) w_4l5 w_4l4 w_4l3 o_8 o_9 o_10 o_11 o_12) else (if w_4l3 = (-1) then (f_e_themeFor_x9_24 q1 q2 q10 q12 k0 k1 k2 k3 k4 t0 t1 t2 t3 t4 fta ftc fn c_ b_ n (w_4l6 + 1) o_9 o_8 w_4l6 o_8 o_9 o_10 o_11 o_12) else (f_e_themeFor_x9_24 q1 q2 q10 q12 k0 k1 k2 k3 k4 t0 t1 t2 t3 t4 fta ftc fn c_ b_ n (w_4l6 + 1) o_9 o_8 w_4l6 o_8 o_9 o_10 o_11 o_12)))) else (if o_11 = 0 then (f_e_themeFor_x9_24 q1 q2 q10 q12 k0 k1 k2 k3 k4 t0 t1 t2 t3 t4 fta ftc fn c_ b_ n (w_4l6 + 1) w_4l5 w_4l4 w_4l3 o_8 o_9 o_10 o_11 o_12) else (if w_4l3 = (-1) then (f_e_themeFor_x9_24 q1 q2 q10 q12 k0 k1 k2 k3 k4 t0 t1 t2 t3 t4 fta ftc fn c_ b_ n (w_4l6 + 1) o_9 o_8 w_4l6 o_8 o_9 o_10 o_11 o_12) else (f_e_themeFor_x9_24 q1 q2 q10 q12 k0 k1 k2 k3 k4 t0 t1 t2 t3 t4 fta ftc fn c_ b_ n (w_4l6 + 1) w_4l5 w_4l4 w_4l3 o_8 o_9 o_10 o_11 o_12))))))) := rfl
noncomputable def f_e_themeFor_x9 (q1 : Int32) (q2 : Int32) (q10 : Int32) (q12 : Int32) (k0 : Int32) (k1 : Int32) (k2 : Int32) (k3 : Int32) (k4 : Int32) (t0 : Int32) (t1 : Int32) (t2 : Int32) (t3 : Int32) (t4 : Int32) (fta : Nat → Int32) (ftc : Nat → Int32) (fn : Nat → Int32) (c_ : Int32) (b_ : Int32) : Int32 × Int32 × Int32 × Int32 × Int32 × Int32 := (if (f_e_isReconciled fn c_) = 0 then (match (f_e_themeFor_x9_24 q1 q2 q10 q12 k0 k1 k2 k3 k4 t0 t1 t2 t3 t4 fta ftc fn c_ b_ (((t1 : Int32).toInt - (0 : Int32).toInt).toNat + 1) 0 0 0 (-1) k0 k1 k2 k3 k4) with | (w_4l6, w_4l5, w_4l4, w_4l3, w_4m0, w_4m1, w_4m2, w_4m3, w_4m4) => (w_4l3, w_4m0, w_4m1, w_4m2, w_4m3, w_4m4)) else ((-1), k0, k1, k2, k3, k4))
def rm_e_themeFor_x9 : Room := { frames := 4, cells := 0, slots := 0, locals := 102 }
set_option maxHeartbeats 4000000 in
set_option maxRecDepth 100000 in
theorem e_themeFor_x9 {l : Launch} {D : va_G} {cI cZ : ClassId} {sz : Nat} (h x rd t d nw ps im is_ bk qr pr cv ft ta tb tc td te nwc : Nat) (q1 : Int32) (q2 : Int32) (q10 : Int32) (q12 : Int32) (k0 : Int32) (k1 : Int32) (k2 : Int32) (k3 : Int32) (k4 : Int32) (t0 : Int32) (t1 : Int32) (t2 : Int32) (t3 : Int32) (t4 : Int32) (fta : Nat → Int32) (ftc : Nat → Int32) (fn : Nat → Int32) (c_ : Int32) (b_ : Int32) : KI l yX9_themeFor cX9_themeFor 8 (some .int) rm_e_themeFor_x9 D cI cZ [.ref h, .int c_, .int b_] sz [(h, .inr (9, [.ref x, .int q1, .int q2, .ref rd, .ref t, .ref d, .ref nw, .ref ps, .ref im, .ref is_, .int q10, .ref bk, .int q12, .ref qr, .ref pr, .ref cv, .ref ft])), (qr, .inr (4, [.int k0, .int k1, .int k2, .int k3, .int k4])), (t, .inr (8, [.int t0, .int t1, .int t2, .int t3, .int t4, .ref ta, .ref tb, .ref tc, .ref td, .ref te])), (ta, .inl (cI, 6, .inl fta)), (tc, .inl (cI, 30, .inl ftc)), (nw, .inr (7, [.ref nwc])), (nwc, .inl (cI, 41, .inl fn))] (fun (r : Int32) (u : Int32 × Int32 × Int32 × Int32 × Int32) => (r, u) = f_e_themeFor_x9 q1 q2 q10 q12 k0 k1 k2 k3 k4 t0 t1 t2 t3 t4 fta ftc fn c_ b_) (fun (u : Int32 × Int32 × Int32 × Int32 × Int32) => [(h, .inr (9, [.ref x, .int q1, .int q2, .ref rd, .ref t, .ref d, .ref nw, .ref ps, .ref im, .ref is_, .int q10, .ref bk, .int q12, .ref qr, .ref pr, .ref cv, .ref ft])), (qr, .inr (4, [.int (u.1), .int (u.2.1), .int (u.2.2.1), .int (u.2.2.2.1), .int (u.2.2.2.2)])), (t, .inr (8, [.int t0, .int t1, .int t2, .int t3, .int t4, .ref ta, .ref tb, .ref tc, .ref td, .ref te])), (ta, .inl (cI, 6, .inl fta)), (tc, .inl (cI, 30, .inl ftc)), (nw, .inr (7, [.ref nwc])), (nwc, .inl (cI, 41, .inl fn))]) := by
  refine KI.go rfl (Nat.le_of_ble_eq_true rfl) ?_
  intro p e s m args below meth c ls A Q hx hb hml hts hown hin hP hK hD hS hA hN hl hret
  have hl : lv_has ls 8 [(0, .ref h), (1, .int c_), (2, .int b_)] := hl
  obtain ⟨RES, hE⟩ : ∃ xRES, f_e_themeFor_x9 q1 q2 q10 q12 k0 k1 k2 k3 k4 t0 t1 t2 t3 t4 fta ftc fn c_ b_ = xRES := ⟨_, rfl⟩
  rw [hE] at hret
  rw [f_e_themeFor_x9] at hE
  refine lv_iconst (v := (-1)) hx hb dX9_themeFor_0 (by decide) ?_
  refine lv_istore_n (lv' := [(3, .int (-1)), (0, .ref h), (1, .int c_), (2, .int b_)]) hx hb dX9_themeFor_1 rfl hl (by decide) rfl (fun ls hl => ?_)
  refine lv_iconst (v := 0) hx hb dX9_themeFor_2 (by decide) ?_
  refine lv_istore (lv' := [(4, .int 0), (3, .int (-1)), (0, .ref h), (1, .int c_), (2, .int b_)]) hx hb dX9_themeFor_3 hl (by decide) rfl (fun ls hl => ?_)
  refine lv_iconst (v := 0) hx hb dX9_themeFor_5 (by decide) ?_
  refine lv_istore (lv' := [(5, .int 0), (4, .int 0), (3, .int (-1)), (0, .ref h), (1, .int c_), (2, .int b_)]) hx hb dX9_themeFor_6 hl (by decide) rfl (fun ls hl => ?_)
  refine lv_aload_n hx hb dX9_themeFor_8 rfl (lv_at hl 3 rfl) ?_
  refine va_get (D := D) (ci := 9) (v := .ref nw) (C := RX9) (T := TX9) (N := 17) hx hb hts iX9 hown hK hP 0 rfl rfl 6 (by decide) (hts _ wd_96) (fun _ h9 => h9) rfl dX9_themeFor_9 ?_
  refine lv_iload_n hx hb dX9_themeFor_12 rfl (lv_at hl 4 rfl) ?_
  refine cVi (wr := [(h, .inr (9, [.ref x, .int q1, .int q2, .ref rd, .ref t, .ref d, .ref nw, .ref ps, .ref im, .ref is_, .int q10, .ref bk, .int q12, .ref qr, .ref pr, .ref cv, .ref ft])), (qr, .inr (4, [.int k0, .int k1, .int k2, .int k3, .int k4])), (t, .inr (8, [.int t0, .int t1, .int t2, .int t3, .int t4, .ref ta, .ref tb, .ref tc, .ref td, .ref te])), (ta, .inl (cI, 6, .inl fta)), (tc, .inl (cI, 30, .inl ftc))]) (rest := []) (e_isReconciled nw nwc fn c_) okV_X7_isReconciled wd_265 hx hb hml hown hts hK hP hD hS hA hN hl.1 [5, 6] [0, 1, 2, 3, 4] rfl rfl rfl rfl (by decide) rfl rfl rfl (Nat.le_of_ble_eq_true rfl) (Nat.le_of_ble_eq_true rfl) (Nat.le_of_ble_eq_true rfl) (Nat.le_of_ble_eq_true rfl) (Nat.le_of_ble_eq_true rfl) dX9_themeFor_13 (fun r_2 u_1 H locs hw_u_1 hP hD hS => ?_)
  replace hw_u_1 : r_2 = (f_e_isReconciled fn c_) := hw_u_1
  rw [hw_u_1]
  clear hw_u_1
  have hP : va_P D classes [(h, .inr (9, [.ref x, .int q1, .int q2, .ref rd, .ref t, .ref d, .ref nw, .ref ps, .ref im, .ref is_, .int q10, .ref bk, .int q12, .ref qr, .ref pr, .ref cv, .ref ft])), (qr, .inr (4, [.int k0, .int k1, .int k2, .int k3, .int k4])), (t, .inr (8, [.int t0, .int t1, .int t2, .int t3, .int t4, .ref ta, .ref tb, .ref tc, .ref td, .ref te])), (ta, .inl (cI, 6, .inl fta)), (tc, .inl (cI, 30, .inl ftc)), (nw, .inr (7, [.ref nwc])), (nwc, .inl (cI, 41, .inl fn))] H := hP
  have hD : va_D A [(h, .inr (9, [.ref x, .int q1, .int q2, .ref rd, .ref t, .ref d, .ref nw, .ref ps, .ref im, .ref is_, .int q10, .ref bk, .int q12, .ref qr, .ref pr, .ref cv, .ref ft])), (qr, .inr (4, [.int k0, .int k1, .int k2, .int k3, .int k4])), (t, .inr (8, [.int t0, .int t1, .int t2, .int t3, .int t4, .ref ta, .ref tb, .ref tc, .ref td, .ref te])), (ta, .inl (cI, 6, .inl fta)), (tc, .inl (cI, 30, .inl ftc)), (nw, .inr (7, [.ref nwc])), (nwc, .inl (cI, 41, .inl fn))] := hD
  refine lv_if_eq (tgt := 21) hx hb dX9_themeFor_16 (by decide) (fun c_3 => ?_) (fun c_3 => ?_)
  · rw [if_pos c_3] at hE
    refine lv_iconst (v := 0) hx hb dX9_themeFor_21 (by decide) ?_
    refine lv_istore (lv' := [(6, .int 0), (5, .int 0), (4, .int 0), (3, .int (-1)), (0, .ref h), (1, .int c_), (2, .int b_)]) hx hb dX9_themeFor_22 hl (by decide) rfl (fun ls hl => ?_)
    have ex_24_w_4 : ∀ (w_4l6 : Int32) (w_4l5 : Int32) (w_4l4 : Int32) (w_4l3 : Int32) (w_4m0 : Int32) (w_4m1 : Int32) (w_4m2 : Int32) (w_4m3 : Int32) (w_4m4 : Int32) (H : Heap) (locs : List Loc) (ls : Array Slot), va_P D classes [(h, .inr (9, [.ref x, .int q1, .int q2, .ref rd, .ref t, .ref d, .ref nw, .ref ps, .ref im, .ref is_, .int q10, .ref bk, .int q12, .ref qr, .ref pr, .ref cv, .ref ft])), (qr, .inr (4, [.int w_4m0, .int w_4m1, .int w_4m2, .int w_4m3, .int w_4m4])), (t, .inr (8, [.int t0, .int t1, .int t2, .int t3, .int t4, .ref ta, .ref tb, .ref tc, .ref td, .ref te])), (ta, .inl (cI, 6, .inl fta)), (tc, .inl (cI, 30, .inl ftc)), (nw, .inr (7, [.ref nwc])), (nwc, .inl (cI, 41, .inl fn))] H → va_D A [(h, .inr (9, [.ref x, .int q1, .int q2, .ref rd, .ref t, .ref d, .ref nw, .ref ps, .ref im, .ref is_, .int q10, .ref bk, .int q12, .ref qr, .ref pr, .ref cv, .ref ft])), (qr, .inr (4, [.int w_4m0, .int w_4m1, .int w_4m2, .int w_4m3, .int w_4m4])), (t, .inr (8, [.int t0, .int t1, .int t2, .int t3, .int t4, .ref ta, .ref tb, .ref tc, .ref td, .ref te])), (ta, .inl (cI, 6, .inl fta)), (tc, .inl (cI, 30, .inl ftc)), (nw, .inr (7, [.ref nwc])), (nwc, .inl (cI, 41, .inl fn))] → va_S A s.heap H locs → lv_has ls 8 [(6, .int w_4l6), (5, .int w_4l5), (4, .int w_4l4), (3, .int w_4l3), (0, .ref h), (1, .int c_), (2, .int b_)] → ((w_4l3, w_4m0, w_4m1, w_4m2, w_4m3, w_4m4)) = RES → W p l e rm_e_themeFor_x9 s m args below meth c H locs 0 0 Q (F0 m 134 ls []) := by
      intro w_4l6 w_4l5 w_4l4 w_4l3 w_4m0 w_4m1 w_4m2 w_4m3 w_4m4 H locs ls hP hD hS hl hE
      refine lv_iload_n hx hb dX9_themeFor_134 rfl (lv_at hl 3 rfl) ?_
      exact hret w_4l3 (w_4m0, w_4m1, w_4m2, w_4m3, w_4m4) _ _ _ _ dX9_themeFor_135 rfl hE hP hD hS
    have lp_24_w_4 : ∀ (n_w_4 : Nat) (w_4l6 : Int32) (w_4l5 : Int32) (w_4l4 : Int32) (w_4l3 : Int32) (w_4m0 : Int32) (w_4m1 : Int32) (w_4m2 : Int32) (w_4m3 : Int32) (w_4m4 : Int32) (H : Heap) (locs : List Loc) (ls : Array Slot), va_P D classes [(h, .inr (9, [.ref x, .int q1, .int q2, .ref rd, .ref t, .ref d, .ref nw, .ref ps, .ref im, .ref is_, .int q10, .ref bk, .int q12, .ref qr, .ref pr, .ref cv, .ref ft])), (qr, .inr (4, [.int w_4m0, .int w_4m1, .int w_4m2, .int w_4m3, .int w_4m4])), (t, .inr (8, [.int t0, .int t1, .int t2, .int t3, .int t4, .ref ta, .ref tb, .ref tc, .ref td, .ref te])), (ta, .inl (cI, 6, .inl fta)), (tc, .inl (cI, 30, .inl ftc)), (nw, .inr (7, [.ref nwc])), (nwc, .inl (cI, 41, .inl fn))] H → va_D A [(h, .inr (9, [.ref x, .int q1, .int q2, .ref rd, .ref t, .ref d, .ref nw, .ref ps, .ref im, .ref is_, .int q10, .ref bk, .int q12, .ref qr, .ref pr, .ref cv, .ref ft])), (qr, .inr (4, [.int w_4m0, .int w_4m1, .int w_4m2, .int w_4m3, .int w_4m4])), (t, .inr (8, [.int t0, .int t1, .int t2, .int t3, .int t4, .ref ta, .ref tb, .ref tc, .ref td, .ref te])), (ta, .inl (cI, 6, .inl fta)), (tc, .inl (cI, 30, .inl ftc)), (nw, .inr (7, [.ref nwc])), (nwc, .inl (cI, 41, .inl fn))] → va_S A s.heap H locs → lv_has ls 8 [(6, .int w_4l6), (5, .int w_4l5), (4, .int w_4l4), (3, .int w_4l3), (0, .ref h), (1, .int c_), (2, .int b_)] → ((t1 : Int32).toInt - (w_4l6 : Int32).toInt).toNat < n_w_4 → (match (f_e_themeFor_x9_24 q1 q2 q10 q12 k0 k1 k2 k3 k4 t0 t1 t2 t3 t4 fta ftc fn c_ b_ n_w_4 w_4l6 w_4l5 w_4l4 w_4l3 w_4m0 w_4m1 w_4m2 w_4m3 w_4m4) with | (w_4l6, w_4l5, w_4l4, w_4l3, w_4m0, w_4m1, w_4m2, w_4m3, w_4m4) => (w_4l3, w_4m0, w_4m1, w_4m2, w_4m3, w_4m4)) = RES → W p l e rm_e_themeFor_x9 s m args below meth c H locs 0 0 Q (F0 m 24 ls []) := by
      intro n_w_4
      induction n_w_4 with
      | zero => intro w_4l6 w_4l5 w_4l4 w_4l3 w_4m0 w_4m1 w_4m2 w_4m3 w_4m4 H locs ls hP hD hS hl hm; exact absurd hm (Nat.not_lt_zero _)
      | succ n_w_4 ih_w_4 =>
        intro w_4l6 w_4l5 w_4l4 w_4l3 w_4m0 w_4m1 w_4m2 w_4m3 w_4m4 H locs ls hP hD hS hl hm hE
        rw [f_e_themeFor_x9_24_s] at hE
        refine lv_iload hx hb dX9_themeFor_24 (lv_at hl 0 rfl) ?_
        refine lv_aload_n hx hb dX9_themeFor_26 rfl (lv_at hl 4 rfl) ?_
        refine va_get (D := D) (ci := 9) (v := .ref t) (C := RX9) (T := TX9) (N := 17) hx hb hts iX9 hown hK hP 0 rfl rfl 4 (by decide) (hts _ wd_89) (fun _ h9 => h9) rfl dX9_themeFor_27 ?_
        refine va_get (D := D) (ci := 8) (v := .int t1) (C := RX8) (T := TX8) (N := 10) hx hb hts iX8 hown hK hP 2 rfl rfl 1 (by decide) (hts _ wd_269) (fun _ h9 => h9) rfl dX9_themeFor_30 ?_
        refine lv_icmp_ge (tgt := 134) hx hb dX9_themeFor_33 (by decide) (fun c_5 => ?_) (fun c_5 => ?_)
        · rw [if_pos c_5] at hE
          exact ex_24_w_4 w_4l6 w_4l5 w_4l4 w_4l3 w_4m0 w_4m1 w_4m2 w_4m3 w_4m4 _ _ ls hP hD hS (lv_sub hl [0, 1, 2, 3, 4, 5, 6] rfl) hE
        · rw [if_neg c_5] at hE
          refine lv_aload_n hx hb dX9_themeFor_36 rfl (lv_at hl 4 rfl) ?_
          refine lv_iload_n hx hb dX9_themeFor_37 rfl (lv_at hl 5 rfl) ?_
          refine lv_iload_n hx hb dX9_themeFor_38 rfl (lv_at hl 6 rfl) ?_
          refine lv_iload hx hb dX9_themeFor_39 (lv_at hl 0 rfl) ?_
          refine cVv (wr := []) (rest := []) (e_attempt_x9 h x rd t d nw ps im is_ bk qr pr cv ft ta tb tc td te nwc q1 q2 q10 q12 w_4m0 w_4m1 w_4m2 w_4m3 w_4m4 t0 t1 t2 t3 t4 fta ftc fn c_ b_ w_4l6) okV_X9_attempt wd_270 hx hb hml hown hts hK hP hD hS hA hN hl.1 [0, 1, 2, 3, 4, 5, 6] [] rfl rfl rfl rfl (by decide) rfl rfl rfl (Nat.le_of_ble_eq_true rfl) (Nat.le_of_ble_eq_true rfl) (Nat.le_of_ble_eq_true rfl) (Nat.le_of_ble_eq_true rfl) (Nat.le_of_ble_eq_true rfl) dX9_themeFor_41 (fun u_6 H locs hw_u_6 hP hD hS => ?_)
          obtain ⟨o_8, o_9, o_10, o_11, o_12⟩ := u_6
          replace hw_u_6 : (o_8, o_9, o_10, o_11, o_12) = (f_e_attempt_x9 q1 q2 q10 q12 w_4m0 w_4m1 w_4m2 w_4m3 w_4m4 t0 t1 t2 t3 t4 fta ftc fn c_ b_ w_4l6) := hw_u_6
          rw [← hw_u_6] at hE
          replace hE : (match (if o_8 < w_4l4 then (if o_11 = 0 then (f_e_themeFor_x9_24 q1 q2 q10 q12 k0 k1 k2 k3 k4 t0 t1 t2 t3 t4 fta ftc fn c_ b_ n_w_4 (w_4l6 + 1) w_4l5 w_4l4 w_4l3 o_8 o_9 o_10 o_11 o_12) else (if w_4l3 = (-1) then (f_e_themeFor_x9_24 q1 q2 q10 q12 k0 k1 k2 k3 k4 t0 t1 t2 t3 t4 fta ftc fn c_ b_ n_w_4 (w_4l6 + 1) o_9 o_8 w_4l6 o_8 o_9 o_10 o_11 o_12) else (f_e_themeFor_x9_24 q1 q2 q10 q12 k0 k1 k2 k3 k4 t0 t1 t2 t3 t4 fta ftc fn c_ b_ n_w_4 (w_4l6 + 1) o_9 o_8 w_4l6 o_8 o_9 o_10 o_11 o_12))) else (if o_8 = w_4l4 then (if w_4l5 ≤ o_9 then (if o_11 = 0 then (f_e_themeFor_x9_24 q1 q2 q10 q12 k0 k1 k2 k3 k4 t0 t1 t2 t3 t4 fta ftc fn c_ b_ n_w_4 (w_4l6 + 1) w_4l5 w_4l4 w_4l3 o_8 o_9 o_10 o_11 o_12) else (if w_4l3 = (-1) then (f_e_themeFor_x9_24 q1 q2 q10 q12 k0 k1 k2 k3 k4 t0 t1 t2 t3 t4 fta ftc fn c_ b_ n_w_4 (w_4l6 + 1) o_9 o_8 w_4l6 o_8 o_9 o_10 o_11 o_12) else (f_e_themeFor_x9_24 q1 q2 q10 q12 k0 k1 k2 k3 k4 t0 t1 t2 t3 t4 fta ftc fn c_ b_ n_w_4 (w_4l6 + 1) w_4l5 w_4l4 w_4l3 o_8 o_9 o_10 o_11 o_12))) else (if o_11 = 0 then (f_e_themeFor_x9_24 q1 q2 q10 q12 k0 k1 k2 k3 k4 t0 t1 t2 t3 t4 fta ftc fn c_ b_ n_w_4 (w_4l6 + 1) w_4l5 w_4l4 w_4l3 o_8 o_9 o_10 o_11 o_12) else (if w_4l3 = (-1) then (f_e_themeFor_x9_24 q1 q2 q10 q12 k0 k1 k2 k3 k4 t0 t1 t2 t3 t4 fta ftc fn c_ b_ n_w_4 (w_4l6 + 1) o_9 o_8 w_4l6 o_8 o_9 o_10 o_11 o_12) else (f_e_themeFor_x9_24 q1 q2 q10 q12 k0 k1 k2 k3 k4 t0 t1 t2 t3 t4 fta ftc fn c_ b_ n_w_4 (w_4l6 + 1) o_9 o_8 w_4l6 o_8 o_9 o_10 o_11 o_12)))) else (if o_11 = 0 then (f_e_themeFor_x9_24 q1 q2 q10 q12 k0 k1 k2 k3 k4 t0 t1 t2 t3 t4 fta ftc fn c_ b_ n_w_4 (w_4l6 + 1) w_4l5 w_4l4 w_4l3 o_8 o_9 o_10 o_11 o_12) else (if w_4l3 = (-1) then (f_e_themeFor_x9_24 q1 q2 q10 q12 k0 k1 k2 k3 k4 t0 t1 t2 t3 t4 fta ftc fn c_ b_ n_w_4 (w_4l6 + 1) o_9 o_8 w_4l6 o_8 o_9 o_10 o_11 o_12) else (f_e_themeFor_x9_24 q1 q2 q10 q12 k0 k1 k2 k3 k4 t0 t1 t2 t3 t4 fta ftc fn c_ b_ n_w_4 (w_4l6 + 1) w_4l5 w_4l4 w_4l3 o_8 o_9 o_10 o_11 o_12))))) with | (w_4l6, w_4l5, w_4l4, w_4l3, w_4m0, w_4m1, w_4m2, w_4m3, w_4m4) => (w_4l3, w_4m0, w_4m1, w_4m2, w_4m3, w_4m4)) = RES := hE
          have hP : va_P D classes [(h, .inr (9, [.ref x, .int q1, .int q2, .ref rd, .ref t, .ref d, .ref nw, .ref ps, .ref im, .ref is_, .int q10, .ref bk, .int q12, .ref qr, .ref pr, .ref cv, .ref ft])), (qr, .inr (4, [.int o_8, .int o_9, .int o_10, .int o_11, .int o_12])), (t, .inr (8, [.int t0, .int t1, .int t2, .int t3, .int t4, .ref ta, .ref tb, .ref tc, .ref td, .ref te])), (ta, .inl (cI, 6, .inl fta)), (tc, .inl (cI, 30, .inl ftc)), (nw, .inr (7, [.ref nwc])), (nwc, .inl (cI, 41, .inl fn))] H := hP
          have hD : va_D A [(h, .inr (9, [.ref x, .int q1, .int q2, .ref rd, .ref t, .ref d, .ref nw, .ref ps, .ref im, .ref is_, .int q10, .ref bk, .int q12, .ref qr, .ref pr, .ref cv, .ref ft])), (qr, .inr (4, [.int o_8, .int o_9, .int o_10, .int o_11, .int o_12])), (t, .inr (8, [.int t0, .int t1, .int t2, .int t3, .int t4, .ref ta, .ref tb, .ref tc, .ref td, .ref te])), (ta, .inl (cI, 6, .inl fta)), (tc, .inl (cI, 30, .inl ftc)), (nw, .inr (7, [.ref nwc])), (nwc, .inl (cI, 41, .inl fn))] := hD
          refine lv_aload_n hx hb dX9_themeFor_44 rfl (lv_at hl 4 rfl) ?_
          refine va_get (D := D) (ci := 9) (v := .ref qr) (C := RX9) (T := TX9) (N := 17) hx hb hts iX9 hown hK hP 0 rfl rfl 13 (by decide) (hts _ wd_120) (fun _ h9 => h9) rfl dX9_themeFor_45 ?_
          refine va_get (D := D) (ci := 4) (v := .int o_8) (C := RX4) (T := TX4) (N := 5) hx hb hts iX4 hown hK hP 1 rfl rfl 0 (by decide) (hts _ wd_264) (fun _ h9 => h9) rfl dX9_themeFor_48 ?_
          refine lv_iload hx hb dX9_themeFor_51 (lv_at hl 2 rfl) ?_
          refine lv_icmp_lt (tgt := 80) hx hb dX9_themeFor_53 (by decide) (fun c_13 => ?_) (fun c_13 => ?_)
          · rw [if_pos c_13] at hE
            refine lv_iconst (v := 1) hx hb dX9_themeFor_80 (by decide) ?_
            refine lv_goto (tgt := 85) hx hb dX9_themeFor_81 (by decide) ?_
            refine lv_istore (lv' := [(7, .int 1), (6, .int w_4l6), (5, .int w_4l5), (4, .int w_4l4), (3, .int w_4l3), (0, .ref h), (1, .int c_), (2, .int b_)]) hx hb dX9_themeFor_85 hl (by decide) rfl (fun ls hl => ?_)
            refine lv_aload_n hx hb dX9_themeFor_87 rfl (lv_at hl 5 rfl) ?_
            refine va_get (D := D) (ci := 9) (v := .ref qr) (C := RX9) (T := TX9) (N := 17) hx hb hts iX9 hown hK hP 0 rfl rfl 13 (by decide) (hts _ wd_120) (fun _ h9 => h9) rfl dX9_themeFor_88 ?_
            refine va_get (D := D) (ci := 4) (v := .int o_11) (C := RX4) (T := TX4) (N := 5) hx hb hts iX4 hown hK hP 1 rfl rfl 3 (by decide) (hts _ wd_274) (fun _ h9 => h9) rfl dX9_themeFor_91 ?_
            refine lv_if_eq (tgt := 128) hx hb dX9_themeFor_94 (by decide) (fun c_14 => ?_) (fun c_14 => ?_)
            · rw [if_pos c_14] at hE
              refine lv_iinc (v := (w_4l6 + 1)) (lv' := [(6, .int (w_4l6 + 1)), (7, .int 1), (5, .int w_4l5), (4, .int w_4l4), (3, .int w_4l3), (0, .ref h), (1, .int c_), (2, .int b_)]) hx hb dX9_themeFor_128 hl (k := 1) rfl rfl (by decide) rfl (fun ls hl => ?_)
              refine lv_goto (tgt := 24) hx hb dX9_themeFor_131 (by decide) ?_
              exact ih_w_4 (w_4l6 + 1) w_4l5 w_4l4 w_4l3 o_8 o_9 o_10 o_11 o_12 _ _ ls hP hD hS (lv_sub hl [0, 2, 3, 4, 5, 6, 7] rfl) (up_step c_5 hm) hE
            · rw [if_neg c_14] at hE
              refine lv_iload_n hx hb dX9_themeFor_97 rfl (lv_at hl 4 rfl) ?_
              refine lv_iconst (v := (-1)) hx hb dX9_themeFor_98 (by decide) ?_
              refine lv_icmp_eq (tgt := 107) hx hb dX9_themeFor_99 (by decide) (fun c_15 => ?_) (fun c_15 => ?_)
              · rw [if_pos c_15] at hE
                refine lv_iload hx hb dX9_themeFor_107 (lv_at hl 1 rfl) ?_
                refine lv_istore_n (lv' := [(3, .int w_4l6), (7, .int 1), (6, .int w_4l6), (5, .int w_4l5), (4, .int w_4l4), (0, .ref h), (1, .int c_), (2, .int b_)]) hx hb dX9_themeFor_109 rfl hl (by decide) rfl (fun ls hl => ?_)
                refine lv_aload_n hx hb dX9_themeFor_110 rfl (lv_at hl 5 rfl) ?_
                refine va_get (D := D) (ci := 9) (v := .ref qr) (C := RX9) (T := TX9) (N := 17) hx hb hts iX9 hown hK hP 0 rfl rfl 13 (by decide) (hts _ wd_120) (fun _ h9 => h9) rfl dX9_themeFor_111 ?_
                refine va_get (D := D) (ci := 4) (v := .int o_8) (C := RX4) (T := TX4) (N := 5) hx hb hts iX4 hown hK hP 1 rfl rfl 0 (by decide) (hts _ wd_264) (fun _ h9 => h9) rfl dX9_themeFor_114 ?_
                refine lv_istore (lv' := [(4, .int o_8), (3, .int w_4l6), (7, .int 1), (6, .int w_4l6), (5, .int w_4l5), (0, .ref h), (1, .int c_), (2, .int b_)]) hx hb dX9_themeFor_117 hl (by decide) rfl (fun ls hl => ?_)
                refine lv_aload_n hx hb dX9_themeFor_119 rfl (lv_at hl 5 rfl) ?_
                refine va_get (D := D) (ci := 9) (v := .ref qr) (C := RX9) (T := TX9) (N := 17) hx hb hts iX9 hown hK hP 0 rfl rfl 13 (by decide) (hts _ wd_120) (fun _ h9 => h9) rfl dX9_themeFor_120 ?_
                refine va_get (D := D) (ci := 4) (v := .int o_9) (C := RX4) (T := TX4) (N := 5) hx hb hts iX4 hown hK hP 1 rfl rfl 1 (by decide) (hts _ wd_275) (fun _ h9 => h9) rfl dX9_themeFor_123 ?_
                refine lv_istore (lv' := [(5, .int o_9), (4, .int o_8), (3, .int w_4l6), (7, .int 1), (6, .int w_4l6), (0, .ref h), (1, .int c_), (2, .int b_)]) hx hb dX9_themeFor_126 hl (by decide) rfl (fun ls hl => ?_)
                refine lv_iinc (v := (w_4l6 + 1)) (lv' := [(6, .int (w_4l6 + 1)), (5, .int o_9), (4, .int o_8), (3, .int w_4l6), (7, .int 1), (0, .ref h), (1, .int c_), (2, .int b_)]) hx hb dX9_themeFor_128 hl (k := 4) rfl rfl (by decide) rfl (fun ls hl => ?_)
                refine lv_goto (tgt := 24) hx hb dX9_themeFor_131 (by decide) ?_
                exact ih_w_4 (w_4l6 + 1) o_9 o_8 w_4l6 o_8 o_9 o_10 o_11 o_12 _ _ ls hP hD hS (lv_sub hl [0, 1, 2, 3, 5, 6, 7] rfl) (up_step c_5 hm) hE
              · rw [if_neg c_15] at hE
                refine lv_iload hx hb dX9_themeFor_102 (lv_at hl 0 rfl) ?_
                refine lv_if_eq (tgt := 128) hx hb dX9_themeFor_104 (by decide) (fun c_16 => absurd c_16 (by decide +kernel)) (fun c_16 => ?_)
                refine lv_iload hx hb dX9_themeFor_107 (lv_at hl 1 rfl) ?_
                refine lv_istore_n (lv' := [(3, .int w_4l6), (7, .int 1), (6, .int w_4l6), (5, .int w_4l5), (4, .int w_4l4), (0, .ref h), (1, .int c_), (2, .int b_)]) hx hb dX9_themeFor_109 rfl hl (by decide) rfl (fun ls hl => ?_)
                refine lv_aload_n hx hb dX9_themeFor_110 rfl (lv_at hl 5 rfl) ?_
                refine va_get (D := D) (ci := 9) (v := .ref qr) (C := RX9) (T := TX9) (N := 17) hx hb hts iX9 hown hK hP 0 rfl rfl 13 (by decide) (hts _ wd_120) (fun _ h9 => h9) rfl dX9_themeFor_111 ?_
                refine va_get (D := D) (ci := 4) (v := .int o_8) (C := RX4) (T := TX4) (N := 5) hx hb hts iX4 hown hK hP 1 rfl rfl 0 (by decide) (hts _ wd_264) (fun _ h9 => h9) rfl dX9_themeFor_114 ?_
                refine lv_istore (lv' := [(4, .int o_8), (3, .int w_4l6), (7, .int 1), (6, .int w_4l6), (5, .int w_4l5), (0, .ref h), (1, .int c_), (2, .int b_)]) hx hb dX9_themeFor_117 hl (by decide) rfl (fun ls hl => ?_)
                refine lv_aload_n hx hb dX9_themeFor_119 rfl (lv_at hl 5 rfl) ?_
                refine va_get (D := D) (ci := 9) (v := .ref qr) (C := RX9) (T := TX9) (N := 17) hx hb hts iX9 hown hK hP 0 rfl rfl 13 (by decide) (hts _ wd_120) (fun _ h9 => h9) rfl dX9_themeFor_120 ?_
                refine va_get (D := D) (ci := 4) (v := .int o_9) (C := RX4) (T := TX4) (N := 5) hx hb hts iX4 hown hK hP 1 rfl rfl 1 (by decide) (hts _ wd_275) (fun _ h9 => h9) rfl dX9_themeFor_123 ?_
                refine lv_istore (lv' := [(5, .int o_9), (4, .int o_8), (3, .int w_4l6), (7, .int 1), (6, .int w_4l6), (0, .ref h), (1, .int c_), (2, .int b_)]) hx hb dX9_themeFor_126 hl (by decide) rfl (fun ls hl => ?_)
                refine lv_iinc (v := (w_4l6 + 1)) (lv' := [(6, .int (w_4l6 + 1)), (5, .int o_9), (4, .int o_8), (3, .int w_4l6), (7, .int 1), (0, .ref h), (1, .int c_), (2, .int b_)]) hx hb dX9_themeFor_128 hl (k := 4) rfl rfl (by decide) rfl (fun ls hl => ?_)
                refine lv_goto (tgt := 24) hx hb dX9_themeFor_131 (by decide) ?_
                exact ih_w_4 (w_4l6 + 1) o_9 o_8 w_4l6 o_8 o_9 o_10 o_11 o_12 _ _ ls hP hD hS (lv_sub hl [0, 1, 2, 3, 5, 6, 7] rfl) (up_step c_5 hm) hE
          · rw [if_neg c_13] at hE
            refine lv_aload_n hx hb dX9_themeFor_56 rfl (lv_at hl 4 rfl) ?_
            refine va_get (D := D) (ci := 9) (v := .ref qr) (C := RX9) (T := TX9) (N := 17) hx hb hts iX9 hown hK hP 0 rfl rfl 13 (by decide) (hts _ wd_120) (fun _ h9 => h9) rfl dX9_themeFor_57 ?_
            refine va_get (D := D) (ci := 4) (v := .int o_8) (C := RX4) (T := TX4) (N := 5) hx hb hts iX4 hown hK hP 1 rfl rfl 0 (by decide) (hts _ wd_264) (fun _ h9 => h9) rfl dX9_themeFor_60 ?_
            refine lv_iload hx hb dX9_themeFor_63 (lv_at hl 2 rfl) ?_
            refine lv_icmp_ne (tgt := 84) hx hb dX9_themeFor_65 (by decide) (fun c_17 => ?_) (fun c_17 => ?_)
            · rw [if_neg c_17] at hE
              refine lv_iconst (v := 0) hx hb dX9_themeFor_84 (by decide) ?_
              refine lv_istore (lv' := [(7, .int 0), (6, .int w_4l6), (5, .int w_4l5), (4, .int w_4l4), (3, .int w_4l3), (0, .ref h), (1, .int c_), (2, .int b_)]) hx hb dX9_themeFor_85 hl (by decide) rfl (fun ls hl => ?_)
              refine lv_aload_n hx hb dX9_themeFor_87 rfl (lv_at hl 5 rfl) ?_
              refine va_get (D := D) (ci := 9) (v := .ref qr) (C := RX9) (T := TX9) (N := 17) hx hb hts iX9 hown hK hP 0 rfl rfl 13 (by decide) (hts _ wd_120) (fun _ h9 => h9) rfl dX9_themeFor_88 ?_
              refine va_get (D := D) (ci := 4) (v := .int o_11) (C := RX4) (T := TX4) (N := 5) hx hb hts iX4 hown hK hP 1 rfl rfl 3 (by decide) (hts _ wd_274) (fun _ h9 => h9) rfl dX9_themeFor_91 ?_
              refine lv_if_eq (tgt := 128) hx hb dX9_themeFor_94 (by decide) (fun c_18 => ?_) (fun c_18 => ?_)
              · rw [if_pos c_18] at hE
                refine lv_iinc (v := (w_4l6 + 1)) (lv' := [(6, .int (w_4l6 + 1)), (7, .int 0), (5, .int w_4l5), (4, .int w_4l4), (3, .int w_4l3), (0, .ref h), (1, .int c_), (2, .int b_)]) hx hb dX9_themeFor_128 hl (k := 1) rfl rfl (by decide) rfl (fun ls hl => ?_)
                refine lv_goto (tgt := 24) hx hb dX9_themeFor_131 (by decide) ?_
                exact ih_w_4 (w_4l6 + 1) w_4l5 w_4l4 w_4l3 o_8 o_9 o_10 o_11 o_12 _ _ ls hP hD hS (lv_sub hl [0, 2, 3, 4, 5, 6, 7] rfl) (up_step c_5 hm) hE
              · rw [if_neg c_18] at hE
                refine lv_iload_n hx hb dX9_themeFor_97 rfl (lv_at hl 4 rfl) ?_
                refine lv_iconst (v := (-1)) hx hb dX9_themeFor_98 (by decide) ?_
                refine lv_icmp_eq (tgt := 107) hx hb dX9_themeFor_99 (by decide) (fun c_19 => ?_) (fun c_19 => ?_)
                · rw [if_pos c_19] at hE
                  refine lv_iload hx hb dX9_themeFor_107 (lv_at hl 1 rfl) ?_
                  refine lv_istore_n (lv' := [(3, .int w_4l6), (7, .int 0), (6, .int w_4l6), (5, .int w_4l5), (4, .int w_4l4), (0, .ref h), (1, .int c_), (2, .int b_)]) hx hb dX9_themeFor_109 rfl hl (by decide) rfl (fun ls hl => ?_)
                  refine lv_aload_n hx hb dX9_themeFor_110 rfl (lv_at hl 5 rfl) ?_
                  refine va_get (D := D) (ci := 9) (v := .ref qr) (C := RX9) (T := TX9) (N := 17) hx hb hts iX9 hown hK hP 0 rfl rfl 13 (by decide) (hts _ wd_120) (fun _ h9 => h9) rfl dX9_themeFor_111 ?_
                  refine va_get (D := D) (ci := 4) (v := .int o_8) (C := RX4) (T := TX4) (N := 5) hx hb hts iX4 hown hK hP 1 rfl rfl 0 (by decide) (hts _ wd_264) (fun _ h9 => h9) rfl dX9_themeFor_114 ?_
                  refine lv_istore (lv' := [(4, .int o_8), (3, .int w_4l6), (7, .int 0), (6, .int w_4l6), (5, .int w_4l5), (0, .ref h), (1, .int c_), (2, .int b_)]) hx hb dX9_themeFor_117 hl (by decide) rfl (fun ls hl => ?_)
                  refine lv_aload_n hx hb dX9_themeFor_119 rfl (lv_at hl 5 rfl) ?_
                  refine va_get (D := D) (ci := 9) (v := .ref qr) (C := RX9) (T := TX9) (N := 17) hx hb hts iX9 hown hK hP 0 rfl rfl 13 (by decide) (hts _ wd_120) (fun _ h9 => h9) rfl dX9_themeFor_120 ?_
                  refine va_get (D := D) (ci := 4) (v := .int o_9) (C := RX4) (T := TX4) (N := 5) hx hb hts iX4 hown hK hP 1 rfl rfl 1 (by decide) (hts _ wd_275) (fun _ h9 => h9) rfl dX9_themeFor_123 ?_
                  refine lv_istore (lv' := [(5, .int o_9), (4, .int o_8), (3, .int w_4l6), (7, .int 0), (6, .int w_4l6), (0, .ref h), (1, .int c_), (2, .int b_)]) hx hb dX9_themeFor_126 hl (by decide) rfl (fun ls hl => ?_)
                  refine lv_iinc (v := (w_4l6 + 1)) (lv' := [(6, .int (w_4l6 + 1)), (5, .int o_9), (4, .int o_8), (3, .int w_4l6), (7, .int 0), (0, .ref h), (1, .int c_), (2, .int b_)]) hx hb dX9_themeFor_128 hl (k := 4) rfl rfl (by decide) rfl (fun ls hl => ?_)
                  refine lv_goto (tgt := 24) hx hb dX9_themeFor_131 (by decide) ?_
                  exact ih_w_4 (w_4l6 + 1) o_9 o_8 w_4l6 o_8 o_9 o_10 o_11 o_12 _ _ ls hP hD hS (lv_sub hl [0, 1, 2, 3, 5, 6, 7] rfl) (up_step c_5 hm) hE
                · rw [if_neg c_19] at hE
                  refine lv_iload hx hb dX9_themeFor_102 (lv_at hl 0 rfl) ?_
                  refine lv_if_eq (tgt := 128) hx hb dX9_themeFor_104 (by decide) (fun c_20 => ?_) (fun c_20 => absurd (by decide +kernel) c_20)
                  refine lv_iinc (v := (w_4l6 + 1)) (lv' := [(6, .int (w_4l6 + 1)), (7, .int 0), (5, .int w_4l5), (4, .int w_4l4), (3, .int w_4l3), (0, .ref h), (1, .int c_), (2, .int b_)]) hx hb dX9_themeFor_128 hl (k := 1) rfl rfl (by decide) rfl (fun ls hl => ?_)
                  refine lv_goto (tgt := 24) hx hb dX9_themeFor_131 (by decide) ?_
                  exact ih_w_4 (w_4l6 + 1) w_4l5 w_4l4 w_4l3 o_8 o_9 o_10 o_11 o_12 _ _ ls hP hD hS (lv_sub hl [0, 2, 3, 4, 5, 6, 7] rfl) (up_step c_5 hm) hE
            · rw [if_pos c_17] at hE
              refine lv_aload_n hx hb dX9_themeFor_68 rfl (lv_at hl 4 rfl) ?_
              refine va_get (D := D) (ci := 9) (v := .ref qr) (C := RX9) (T := TX9) (N := 17) hx hb hts iX9 hown hK hP 0 rfl rfl 13 (by decide) (hts _ wd_120) (fun _ h9 => h9) rfl dX9_themeFor_69 ?_
              refine va_get (D := D) (ci := 4) (v := .int o_9) (C := RX4) (T := TX4) (N := 5) hx hb hts iX4 hown hK hP 1 rfl rfl 1 (by decide) (hts _ wd_275) (fun _ h9 => h9) rfl dX9_themeFor_72 ?_
              refine lv_iload hx hb dX9_themeFor_75 (lv_at hl 1 rfl) ?_
              refine lv_icmp_ge (tgt := 84) hx hb dX9_themeFor_77 (by decide) (fun c_21 => ?_) (fun c_21 => ?_)
              · rw [if_pos c_21] at hE
                refine lv_iconst (v := 0) hx hb dX9_themeFor_84 (by decide) ?_
                refine lv_istore (lv' := [(7, .int 0), (6, .int w_4l6), (5, .int w_4l5), (4, .int w_4l4), (3, .int w_4l3), (0, .ref h), (1, .int c_), (2, .int b_)]) hx hb dX9_themeFor_85 hl (by decide) rfl (fun ls hl => ?_)
                refine lv_aload_n hx hb dX9_themeFor_87 rfl (lv_at hl 5 rfl) ?_
                refine va_get (D := D) (ci := 9) (v := .ref qr) (C := RX9) (T := TX9) (N := 17) hx hb hts iX9 hown hK hP 0 rfl rfl 13 (by decide) (hts _ wd_120) (fun _ h9 => h9) rfl dX9_themeFor_88 ?_
                refine va_get (D := D) (ci := 4) (v := .int o_11) (C := RX4) (T := TX4) (N := 5) hx hb hts iX4 hown hK hP 1 rfl rfl 3 (by decide) (hts _ wd_274) (fun _ h9 => h9) rfl dX9_themeFor_91 ?_
                refine lv_if_eq (tgt := 128) hx hb dX9_themeFor_94 (by decide) (fun c_22 => ?_) (fun c_22 => ?_)
                · rw [if_pos c_22] at hE
                  refine lv_iinc (v := (w_4l6 + 1)) (lv' := [(6, .int (w_4l6 + 1)), (7, .int 0), (5, .int w_4l5), (4, .int w_4l4), (3, .int w_4l3), (0, .ref h), (1, .int c_), (2, .int b_)]) hx hb dX9_themeFor_128 hl (k := 1) rfl rfl (by decide) rfl (fun ls hl => ?_)
                  refine lv_goto (tgt := 24) hx hb dX9_themeFor_131 (by decide) ?_
                  exact ih_w_4 (w_4l6 + 1) w_4l5 w_4l4 w_4l3 o_8 o_9 o_10 o_11 o_12 _ _ ls hP hD hS (lv_sub hl [0, 2, 3, 4, 5, 6, 7] rfl) (up_step c_5 hm) hE
                · rw [if_neg c_22] at hE
                  refine lv_iload_n hx hb dX9_themeFor_97 rfl (lv_at hl 4 rfl) ?_
                  refine lv_iconst (v := (-1)) hx hb dX9_themeFor_98 (by decide) ?_
                  refine lv_icmp_eq (tgt := 107) hx hb dX9_themeFor_99 (by decide) (fun c_23 => ?_) (fun c_23 => ?_)
                  · rw [if_pos c_23] at hE
                    refine lv_iload hx hb dX9_themeFor_107 (lv_at hl 1 rfl) ?_
                    refine lv_istore_n (lv' := [(3, .int w_4l6), (7, .int 0), (6, .int w_4l6), (5, .int w_4l5), (4, .int w_4l4), (0, .ref h), (1, .int c_), (2, .int b_)]) hx hb dX9_themeFor_109 rfl hl (by decide) rfl (fun ls hl => ?_)
                    refine lv_aload_n hx hb dX9_themeFor_110 rfl (lv_at hl 5 rfl) ?_
                    refine va_get (D := D) (ci := 9) (v := .ref qr) (C := RX9) (T := TX9) (N := 17) hx hb hts iX9 hown hK hP 0 rfl rfl 13 (by decide) (hts _ wd_120) (fun _ h9 => h9) rfl dX9_themeFor_111 ?_
                    refine va_get (D := D) (ci := 4) (v := .int o_8) (C := RX4) (T := TX4) (N := 5) hx hb hts iX4 hown hK hP 1 rfl rfl 0 (by decide) (hts _ wd_264) (fun _ h9 => h9) rfl dX9_themeFor_114 ?_
                    refine lv_istore (lv' := [(4, .int o_8), (3, .int w_4l6), (7, .int 0), (6, .int w_4l6), (5, .int w_4l5), (0, .ref h), (1, .int c_), (2, .int b_)]) hx hb dX9_themeFor_117 hl (by decide) rfl (fun ls hl => ?_)
                    refine lv_aload_n hx hb dX9_themeFor_119 rfl (lv_at hl 5 rfl) ?_
                    refine va_get (D := D) (ci := 9) (v := .ref qr) (C := RX9) (T := TX9) (N := 17) hx hb hts iX9 hown hK hP 0 rfl rfl 13 (by decide) (hts _ wd_120) (fun _ h9 => h9) rfl dX9_themeFor_120 ?_
                    refine va_get (D := D) (ci := 4) (v := .int o_9) (C := RX4) (T := TX4) (N := 5) hx hb hts iX4 hown hK hP 1 rfl rfl 1 (by decide) (hts _ wd_275) (fun _ h9 => h9) rfl dX9_themeFor_123 ?_
                    refine lv_istore (lv' := [(5, .int o_9), (4, .int o_8), (3, .int w_4l6), (7, .int 0), (6, .int w_4l6), (0, .ref h), (1, .int c_), (2, .int b_)]) hx hb dX9_themeFor_126 hl (by decide) rfl (fun ls hl => ?_)
                    refine lv_iinc (v := (w_4l6 + 1)) (lv' := [(6, .int (w_4l6 + 1)), (5, .int o_9), (4, .int o_8), (3, .int w_4l6), (7, .int 0), (0, .ref h), (1, .int c_), (2, .int b_)]) hx hb dX9_themeFor_128 hl (k := 4) rfl rfl (by decide) rfl (fun ls hl => ?_)
                    refine lv_goto (tgt := 24) hx hb dX9_themeFor_131 (by decide) ?_
                    exact ih_w_4 (w_4l6 + 1) o_9 o_8 w_4l6 o_8 o_9 o_10 o_11 o_12 _ _ ls hP hD hS (lv_sub hl [0, 1, 2, 3, 5, 6, 7] rfl) (up_step c_5 hm) hE
                  · rw [if_neg c_23] at hE
                    refine lv_iload hx hb dX9_themeFor_102 (lv_at hl 0 rfl) ?_
                    refine lv_if_eq (tgt := 128) hx hb dX9_themeFor_104 (by decide) (fun c_24 => ?_) (fun c_24 => absurd (by decide +kernel) c_24)
                    refine lv_iinc (v := (w_4l6 + 1)) (lv' := [(6, .int (w_4l6 + 1)), (7, .int 0), (5, .int w_4l5), (4, .int w_4l4), (3, .int w_4l3), (0, .ref h), (1, .int c_), (2, .int b_)]) hx hb dX9_themeFor_128 hl (k := 1) rfl rfl (by decide) rfl (fun ls hl => ?_)
                    refine lv_goto (tgt := 24) hx hb dX9_themeFor_131 (by decide) ?_
                    exact ih_w_4 (w_4l6 + 1) w_4l5 w_4l4 w_4l3 o_8 o_9 o_10 o_11 o_12 _ _ ls hP hD hS (lv_sub hl [0, 2, 3, 4, 5, 6, 7] rfl) (up_step c_5 hm) hE
              · rw [if_neg c_21] at hE
                refine lv_iconst (v := 1) hx hb dX9_themeFor_80 (by decide) ?_
                refine lv_goto (tgt := 85) hx hb dX9_themeFor_81 (by decide) ?_
                refine lv_istore (lv' := [(7, .int 1), (6, .int w_4l6), (5, .int w_4l5), (4, .int w_4l4), (3, .int w_4l3), (0, .ref h), (1, .int c_), (2, .int b_)]) hx hb dX9_themeFor_85 hl (by decide) rfl (fun ls hl => ?_)
                refine lv_aload_n hx hb dX9_themeFor_87 rfl (lv_at hl 5 rfl) ?_
                refine va_get (D := D) (ci := 9) (v := .ref qr) (C := RX9) (T := TX9) (N := 17) hx hb hts iX9 hown hK hP 0 rfl rfl 13 (by decide) (hts _ wd_120) (fun _ h9 => h9) rfl dX9_themeFor_88 ?_
                refine va_get (D := D) (ci := 4) (v := .int o_11) (C := RX4) (T := TX4) (N := 5) hx hb hts iX4 hown hK hP 1 rfl rfl 3 (by decide) (hts _ wd_274) (fun _ h9 => h9) rfl dX9_themeFor_91 ?_
                refine lv_if_eq (tgt := 128) hx hb dX9_themeFor_94 (by decide) (fun c_25 => ?_) (fun c_25 => ?_)
                · rw [if_pos c_25] at hE
                  refine lv_iinc (v := (w_4l6 + 1)) (lv' := [(6, .int (w_4l6 + 1)), (7, .int 1), (5, .int w_4l5), (4, .int w_4l4), (3, .int w_4l3), (0, .ref h), (1, .int c_), (2, .int b_)]) hx hb dX9_themeFor_128 hl (k := 1) rfl rfl (by decide) rfl (fun ls hl => ?_)
                  refine lv_goto (tgt := 24) hx hb dX9_themeFor_131 (by decide) ?_
                  exact ih_w_4 (w_4l6 + 1) w_4l5 w_4l4 w_4l3 o_8 o_9 o_10 o_11 o_12 _ _ ls hP hD hS (lv_sub hl [0, 2, 3, 4, 5, 6, 7] rfl) (up_step c_5 hm) hE
                · rw [if_neg c_25] at hE
                  refine lv_iload_n hx hb dX9_themeFor_97 rfl (lv_at hl 4 rfl) ?_
                  refine lv_iconst (v := (-1)) hx hb dX9_themeFor_98 (by decide) ?_
                  refine lv_icmp_eq (tgt := 107) hx hb dX9_themeFor_99 (by decide) (fun c_26 => ?_) (fun c_26 => ?_)
                  · rw [if_pos c_26] at hE
                    refine lv_iload hx hb dX9_themeFor_107 (lv_at hl 1 rfl) ?_
                    refine lv_istore_n (lv' := [(3, .int w_4l6), (7, .int 1), (6, .int w_4l6), (5, .int w_4l5), (4, .int w_4l4), (0, .ref h), (1, .int c_), (2, .int b_)]) hx hb dX9_themeFor_109 rfl hl (by decide) rfl (fun ls hl => ?_)
                    refine lv_aload_n hx hb dX9_themeFor_110 rfl (lv_at hl 5 rfl) ?_
                    refine va_get (D := D) (ci := 9) (v := .ref qr) (C := RX9) (T := TX9) (N := 17) hx hb hts iX9 hown hK hP 0 rfl rfl 13 (by decide) (hts _ wd_120) (fun _ h9 => h9) rfl dX9_themeFor_111 ?_
                    refine va_get (D := D) (ci := 4) (v := .int o_8) (C := RX4) (T := TX4) (N := 5) hx hb hts iX4 hown hK hP 1 rfl rfl 0 (by decide) (hts _ wd_264) (fun _ h9 => h9) rfl dX9_themeFor_114 ?_
                    refine lv_istore (lv' := [(4, .int o_8), (3, .int w_4l6), (7, .int 1), (6, .int w_4l6), (5, .int w_4l5), (0, .ref h), (1, .int c_), (2, .int b_)]) hx hb dX9_themeFor_117 hl (by decide) rfl (fun ls hl => ?_)
                    refine lv_aload_n hx hb dX9_themeFor_119 rfl (lv_at hl 5 rfl) ?_
                    refine va_get (D := D) (ci := 9) (v := .ref qr) (C := RX9) (T := TX9) (N := 17) hx hb hts iX9 hown hK hP 0 rfl rfl 13 (by decide) (hts _ wd_120) (fun _ h9 => h9) rfl dX9_themeFor_120 ?_
                    refine va_get (D := D) (ci := 4) (v := .int o_9) (C := RX4) (T := TX4) (N := 5) hx hb hts iX4 hown hK hP 1 rfl rfl 1 (by decide) (hts _ wd_275) (fun _ h9 => h9) rfl dX9_themeFor_123 ?_
                    refine lv_istore (lv' := [(5, .int o_9), (4, .int o_8), (3, .int w_4l6), (7, .int 1), (6, .int w_4l6), (0, .ref h), (1, .int c_), (2, .int b_)]) hx hb dX9_themeFor_126 hl (by decide) rfl (fun ls hl => ?_)
                    refine lv_iinc (v := (w_4l6 + 1)) (lv' := [(6, .int (w_4l6 + 1)), (5, .int o_9), (4, .int o_8), (3, .int w_4l6), (7, .int 1), (0, .ref h), (1, .int c_), (2, .int b_)]) hx hb dX9_themeFor_128 hl (k := 4) rfl rfl (by decide) rfl (fun ls hl => ?_)
                    refine lv_goto (tgt := 24) hx hb dX9_themeFor_131 (by decide) ?_
                    exact ih_w_4 (w_4l6 + 1) o_9 o_8 w_4l6 o_8 o_9 o_10 o_11 o_12 _ _ ls hP hD hS (lv_sub hl [0, 1, 2, 3, 5, 6, 7] rfl) (up_step c_5 hm) hE
                  · rw [if_neg c_26] at hE
                    refine lv_iload hx hb dX9_themeFor_102 (lv_at hl 0 rfl) ?_
                    refine lv_if_eq (tgt := 128) hx hb dX9_themeFor_104 (by decide) (fun c_27 => absurd c_27 (by decide +kernel)) (fun c_27 => ?_)
                    refine lv_iload hx hb dX9_themeFor_107 (lv_at hl 1 rfl) ?_
                    refine lv_istore_n (lv' := [(3, .int w_4l6), (7, .int 1), (6, .int w_4l6), (5, .int w_4l5), (4, .int w_4l4), (0, .ref h), (1, .int c_), (2, .int b_)]) hx hb dX9_themeFor_109 rfl hl (by decide) rfl (fun ls hl => ?_)
                    refine lv_aload_n hx hb dX9_themeFor_110 rfl (lv_at hl 5 rfl) ?_
                    refine va_get (D := D) (ci := 9) (v := .ref qr) (C := RX9) (T := TX9) (N := 17) hx hb hts iX9 hown hK hP 0 rfl rfl 13 (by decide) (hts _ wd_120) (fun _ h9 => h9) rfl dX9_themeFor_111 ?_
                    refine va_get (D := D) (ci := 4) (v := .int o_8) (C := RX4) (T := TX4) (N := 5) hx hb hts iX4 hown hK hP 1 rfl rfl 0 (by decide) (hts _ wd_264) (fun _ h9 => h9) rfl dX9_themeFor_114 ?_
                    refine lv_istore (lv' := [(4, .int o_8), (3, .int w_4l6), (7, .int 1), (6, .int w_4l6), (5, .int w_4l5), (0, .ref h), (1, .int c_), (2, .int b_)]) hx hb dX9_themeFor_117 hl (by decide) rfl (fun ls hl => ?_)
                    refine lv_aload_n hx hb dX9_themeFor_119 rfl (lv_at hl 5 rfl) ?_
                    refine va_get (D := D) (ci := 9) (v := .ref qr) (C := RX9) (T := TX9) (N := 17) hx hb hts iX9 hown hK hP 0 rfl rfl 13 (by decide) (hts _ wd_120) (fun _ h9 => h9) rfl dX9_themeFor_120 ?_
                    refine va_get (D := D) (ci := 4) (v := .int o_9) (C := RX4) (T := TX4) (N := 5) hx hb hts iX4 hown hK hP 1 rfl rfl 1 (by decide) (hts _ wd_275) (fun _ h9 => h9) rfl dX9_themeFor_123 ?_
                    refine lv_istore (lv' := [(5, .int o_9), (4, .int o_8), (3, .int w_4l6), (7, .int 1), (6, .int w_4l6), (0, .ref h), (1, .int c_), (2, .int b_)]) hx hb dX9_themeFor_126 hl (by decide) rfl (fun ls hl => ?_)
                    refine lv_iinc (v := (w_4l6 + 1)) (lv' := [(6, .int (w_4l6 + 1)), (5, .int o_9), (4, .int o_8), (3, .int w_4l6), (7, .int 1), (0, .ref h), (1, .int c_), (2, .int b_)]) hx hb dX9_themeFor_128 hl (k := 4) rfl rfl (by decide) rfl (fun ls hl => ?_)
                    refine lv_goto (tgt := 24) hx hb dX9_themeFor_131 (by decide) ?_
                    exact ih_w_4 (w_4l6 + 1) o_9 o_8 w_4l6 o_8 o_9 o_10 o_11 o_12 _ _ ls hP hD hS (lv_sub hl [0, 1, 2, 3, 5, 6, 7] rfl) (up_step c_5 hm) hE
    exact lp_24_w_4 (((t1 : Int32).toInt - (0 : Int32).toInt).toNat + 1) 0 0 0 (-1) k0 k1 k2 k3 k4 _ _ ls hP hD hS hl (Nat.lt_succ_self _) hE
  · rw [if_neg c_3] at hE
    refine lv_iconst (v := (-1)) hx hb dX9_themeFor_19 (by decide) ?_
    exact hret (-1) (k0, k1, k2, k3, k4) _ _ _ _ dX9_themeFor_20 rfl hE hP hD hS
noncomputable def f_e_costFor_x9 (q1 : Int32) (q2 : Int32) (q10 : Int32) (q12 : Int32) (k0 : Int32) (k1 : Int32) (k2 : Int32) (k3 : Int32) (k4 : Int32) (t0 : Int32) (t1 : Int32) (t2 : Int32) (t3 : Int32) (t4 : Int32) (fta : Nat → Int32) (ftc : Nat → Int32) (fn : Nat → Int32) (c_ : Int32) (b_ : Int32) : Int32 × Int32 × Int32 × Int32 × Int32 × Int32 := (match (f_e_themeFor_x9 q1 q2 q10 q12 k0 k1 k2 k3 k4 t0 t1 t2 t3 t4 fta ftc fn c_ b_) with | (r_2, o_3, o_4, o_5, o_6, o_7) => (if r_2 = (-1) then ((-1), o_3, o_4, o_5, o_6, o_7) else (match (f_e_attempt_x9 q1 q2 q10 q12 o_3 o_4 o_5 o_6 o_7 t0 t1 t2 t3 t4 fta ftc fn c_ b_ r_2) with | (o_11, o_12, o_13, o_14, o_15) => (o_12, o_11, o_12, o_13, o_14, o_15))))
def rm_e_costFor_x9 : Room := { frames := 5, cells := 0, slots := 0, locals := 129 }
set_option maxHeartbeats 4000000 in
set_option maxRecDepth 100000 in
theorem e_costFor_x9 {l : Launch} {D : va_G} {cI cZ : ClassId} {sz : Nat} (h x rd t d nw ps im is_ bk qr pr cv ft ta tb tc td te nwc : Nat) (q1 : Int32) (q2 : Int32) (q10 : Int32) (q12 : Int32) (k0 : Int32) (k1 : Int32) (k2 : Int32) (k3 : Int32) (k4 : Int32) (t0 : Int32) (t1 : Int32) (t2 : Int32) (t3 : Int32) (t4 : Int32) (fta : Nat → Int32) (ftc : Nat → Int32) (fn : Nat → Int32) (c_ : Int32) (b_ : Int32) : KI l yX9_costFor cX9_costFor 4 (some .int) rm_e_costFor_x9 D cI cZ [.ref h, .int c_, .int b_] sz [(h, .inr (9, [.ref x, .int q1, .int q2, .ref rd, .ref t, .ref d, .ref nw, .ref ps, .ref im, .ref is_, .int q10, .ref bk, .int q12, .ref qr, .ref pr, .ref cv, .ref ft])), (qr, .inr (4, [.int k0, .int k1, .int k2, .int k3, .int k4])), (t, .inr (8, [.int t0, .int t1, .int t2, .int t3, .int t4, .ref ta, .ref tb, .ref tc, .ref td, .ref te])), (ta, .inl (cI, 6, .inl fta)), (tc, .inl (cI, 30, .inl ftc)), (nw, .inr (7, [.ref nwc])), (nwc, .inl (cI, 41, .inl fn))] (fun (r : Int32) (u : Int32 × Int32 × Int32 × Int32 × Int32) => (r, u) = f_e_costFor_x9 q1 q2 q10 q12 k0 k1 k2 k3 k4 t0 t1 t2 t3 t4 fta ftc fn c_ b_) (fun (u : Int32 × Int32 × Int32 × Int32 × Int32) => [(h, .inr (9, [.ref x, .int q1, .int q2, .ref rd, .ref t, .ref d, .ref nw, .ref ps, .ref im, .ref is_, .int q10, .ref bk, .int q12, .ref qr, .ref pr, .ref cv, .ref ft])), (qr, .inr (4, [.int (u.1), .int (u.2.1), .int (u.2.2.1), .int (u.2.2.2.1), .int (u.2.2.2.2)])), (t, .inr (8, [.int t0, .int t1, .int t2, .int t3, .int t4, .ref ta, .ref tb, .ref tc, .ref td, .ref te])), (ta, .inl (cI, 6, .inl fta)), (tc, .inl (cI, 30, .inl ftc)), (nw, .inr (7, [.ref nwc])), (nwc, .inl (cI, 41, .inl fn))]) := by
  refine KI.go rfl (Nat.le_of_ble_eq_true rfl) ?_
  intro p e s m args below meth c ls A Q hx hb hml hts hown hin hP hK hD hS hA hN hl hret
  have hl : lv_has ls 4 [(0, .ref h), (1, .int c_), (2, .int b_)] := hl
  obtain ⟨RES, hE⟩ : ∃ xRES, f_e_costFor_x9 q1 q2 q10 q12 k0 k1 k2 k3 k4 t0 t1 t2 t3 t4 fta ftc fn c_ b_ = xRES := ⟨_, rfl⟩
  rw [hE] at hret
  rw [f_e_costFor_x9] at hE
  refine lv_aload_n hx hb dX9_costFor_0 rfl (lv_at hl 0 rfl) ?_
  refine lv_iload_n hx hb dX9_costFor_1 rfl (lv_at hl 1 rfl) ?_
  refine lv_iload_n hx hb dX9_costFor_2 rfl (lv_at hl 2 rfl) ?_
  refine cVi (wr := []) (rest := []) (e_themeFor_x9 h x rd t d nw ps im is_ bk qr pr cv ft ta tb tc td te nwc q1 q2 q10 q12 k0 k1 k2 k3 k4 t0 t1 t2 t3 t4 fta ftc fn c_ b_) okV_X9_themeFor wd_276 hx hb hml hown hts hK hP hD hS hA hN hl.1 [0, 1, 2, 3, 4, 5, 6] [] rfl rfl rfl rfl (by decide) rfl rfl rfl (Nat.le_of_ble_eq_true rfl) (Nat.le_of_ble_eq_true rfl) (Nat.le_of_ble_eq_true rfl) (Nat.le_of_ble_eq_true rfl) (Nat.le_of_ble_eq_true rfl) dX9_costFor_3 (fun r_2 u_1 H locs hw_u_1 hP hD hS => ?_)
  obtain ⟨o_3, o_4, o_5, o_6, o_7⟩ := u_1
  replace hw_u_1 : (r_2, o_3, o_4, o_5, o_6, o_7) = (f_e_themeFor_x9 q1 q2 q10 q12 k0 k1 k2 k3 k4 t0 t1 t2 t3 t4 fta ftc fn c_ b_) := hw_u_1
  rw [← hw_u_1] at hE
  replace hE : (if r_2 = (-1) then ((-1), o_3, o_4, o_5, o_6, o_7) else (match (f_e_attempt_x9 q1 q2 q10 q12 o_3 o_4 o_5 o_6 o_7 t0 t1 t2 t3 t4 fta ftc fn c_ b_ r_2) with | (o_11, o_12, o_13, o_14, o_15) => (o_12, o_11, o_12, o_13, o_14, o_15))) = RES := hE
  have hP : va_P D classes [(h, .inr (9, [.ref x, .int q1, .int q2, .ref rd, .ref t, .ref d, .ref nw, .ref ps, .ref im, .ref is_, .int q10, .ref bk, .int q12, .ref qr, .ref pr, .ref cv, .ref ft])), (qr, .inr (4, [.int o_3, .int o_4, .int o_5, .int o_6, .int o_7])), (t, .inr (8, [.int t0, .int t1, .int t2, .int t3, .int t4, .ref ta, .ref tb, .ref tc, .ref td, .ref te])), (ta, .inl (cI, 6, .inl fta)), (tc, .inl (cI, 30, .inl ftc)), (nw, .inr (7, [.ref nwc])), (nwc, .inl (cI, 41, .inl fn))] H := hP
  have hD : va_D A [(h, .inr (9, [.ref x, .int q1, .int q2, .ref rd, .ref t, .ref d, .ref nw, .ref ps, .ref im, .ref is_, .int q10, .ref bk, .int q12, .ref qr, .ref pr, .ref cv, .ref ft])), (qr, .inr (4, [.int o_3, .int o_4, .int o_5, .int o_6, .int o_7])), (t, .inr (8, [.int t0, .int t1, .int t2, .int t3, .int t4, .ref ta, .ref tb, .ref tc, .ref td, .ref te])), (ta, .inl (cI, 6, .inl fta)), (tc, .inl (cI, 30, .inl ftc)), (nw, .inr (7, [.ref nwc])), (nwc, .inl (cI, 41, .inl fn))] := hD
  refine lv_istore_n (lv' := [(3, .int r_2), (0, .ref h), (1, .int c_), (2, .int b_)]) hx hb dX9_costFor_6 rfl hl (by decide) rfl (fun ls hl => ?_)
  refine lv_iload_n hx hb dX9_costFor_7 rfl (lv_at hl 0 rfl) ?_
  refine lv_iconst (v := (-1)) hx hb dX9_costFor_8 (by decide) ?_
  refine lv_icmp_ne (tgt := 14) hx hb dX9_costFor_9 (by decide) (fun c_8 => ?_) (fun c_8 => ?_)
  · rw [if_neg c_8] at hE
    refine lv_aload_n hx hb dX9_costFor_14 rfl (lv_at hl 1 rfl) ?_
    refine lv_iload_n hx hb dX9_costFor_15 rfl (lv_at hl 2 rfl) ?_
    refine lv_iload_n hx hb dX9_costFor_16 rfl (lv_at hl 3 rfl) ?_
    refine lv_iload_n hx hb dX9_costFor_17 rfl (lv_at hl 0 rfl) ?_
    refine cVv (wr := []) (rest := []) (e_attempt_x9 h x rd t d nw ps im is_ bk qr pr cv ft ta tb tc td te nwc q1 q2 q10 q12 o_3 o_4 o_5 o_6 o_7 t0 t1 t2 t3 t4 fta ftc fn c_ b_ r_2) okV_X9_attempt wd_270 hx hb hml hown hts hK hP hD hS hA hN hl.1 [0, 1, 2, 3, 4, 5, 6] [] rfl rfl rfl rfl (by decide) rfl rfl rfl (Nat.le_of_ble_eq_true rfl) (Nat.le_of_ble_eq_true rfl) (Nat.le_of_ble_eq_true rfl) (Nat.le_of_ble_eq_true rfl) (Nat.le_of_ble_eq_true rfl) dX9_costFor_18 (fun u_9 H locs hw_u_9 hP hD hS => ?_)
    obtain ⟨o_11, o_12, o_13, o_14, o_15⟩ := u_9
    replace hw_u_9 : (o_11, o_12, o_13, o_14, o_15) = (f_e_attempt_x9 q1 q2 q10 q12 o_3 o_4 o_5 o_6 o_7 t0 t1 t2 t3 t4 fta ftc fn c_ b_ r_2) := hw_u_9
    rw [← hw_u_9] at hE
    replace hE : (o_12, o_11, o_12, o_13, o_14, o_15) = RES := hE
    have hP : va_P D classes [(h, .inr (9, [.ref x, .int q1, .int q2, .ref rd, .ref t, .ref d, .ref nw, .ref ps, .ref im, .ref is_, .int q10, .ref bk, .int q12, .ref qr, .ref pr, .ref cv, .ref ft])), (qr, .inr (4, [.int o_11, .int o_12, .int o_13, .int o_14, .int o_15])), (t, .inr (8, [.int t0, .int t1, .int t2, .int t3, .int t4, .ref ta, .ref tb, .ref tc, .ref td, .ref te])), (ta, .inl (cI, 6, .inl fta)), (tc, .inl (cI, 30, .inl ftc)), (nw, .inr (7, [.ref nwc])), (nwc, .inl (cI, 41, .inl fn))] H := hP
    have hD : va_D A [(h, .inr (9, [.ref x, .int q1, .int q2, .ref rd, .ref t, .ref d, .ref nw, .ref ps, .ref im, .ref is_, .int q10, .ref bk, .int q12, .ref qr, .ref pr, .ref cv, .ref ft])), (qr, .inr (4, [.int o_11, .int o_12, .int o_13, .int o_14, .int o_15])), (t, .inr (8, [.int t0, .int t1, .int t2, .int t3, .int t4, .ref ta, .ref tb, .ref tc, .ref td, .ref te])), (ta, .inl (cI, 6, .inl fta)), (tc, .inl (cI, 30, .inl ftc)), (nw, .inr (7, [.ref nwc])), (nwc, .inl (cI, 41, .inl fn))] := hD
    refine lv_aload_n hx hb dX9_costFor_21 rfl (lv_at hl 1 rfl) ?_
    refine va_get (D := D) (ci := 9) (v := .ref qr) (C := RX9) (T := TX9) (N := 17) hx hb hts iX9 hown hK hP 0 rfl rfl 13 (by decide) (hts _ wd_120) (fun _ h9 => h9) rfl dX9_costFor_22 ?_
    refine va_get (D := D) (ci := 4) (v := .int o_12) (C := RX4) (T := TX4) (N := 5) hx hb hts iX4 hown hK hP 1 rfl rfl 1 (by decide) (hts _ wd_275) (fun _ h9 => h9) rfl dX9_costFor_25 ?_
    exact hret o_12 (o_11, o_12, o_13, o_14, o_15) _ _ _ _ dX9_costFor_28 rfl hE hP hD hS
  · rw [if_pos c_8] at hE
    subst c_8
    refine lv_iconst (v := (-1)) hx hb dX9_costFor_12 (by decide) ?_
    exact hret (-1) (o_3, o_4, o_5, o_6, o_7) _ _ _ _ dX9_costFor_13 rfl hE hP hD hS
noncomputable def f_e_draw_x9 (q1 : Int32) (q2 : Int32) (q10 : Int32) (q12 : Int32) (n_ : Int32) : Int32 × Int32 := (if 0 < n_ then ((((((((q12.toInt64 * 1103515245) + 12345) &&& 2147483647)).toInt32) / 65536) - ((((((q12.toInt64 * 1103515245) + 12345) &&& 2147483647)).toInt32) / 65536) / n_ * n_), (((((q12.toInt64 * 1103515245) + 12345) &&& 2147483647)).toInt32)) else (0, q12))
def rm_e_draw_x9 : Room := { frames := 0, cells := 0, slots := 0, locals := 0 }
set_option maxHeartbeats 4000000 in
set_option maxRecDepth 100000 in
theorem e_draw_x9 {l : Launch} {D : va_G} {cI cZ : ClassId} {sz : Nat} (h x rd t d nw ps im is_ bk qr pr cv ft : Nat) (q1 : Int32) (q2 : Int32) (q10 : Int32) (q12 : Int32) (n_ : Int32) : KI l yX9_draw cX9_draw 2 (some .int) rm_e_draw_x9 D cI cZ [.ref h, .int n_] sz [(h, .inr (9, [.ref x, .int q1, .int q2, .ref rd, .ref t, .ref d, .ref nw, .ref ps, .ref im, .ref is_, .int q10, .ref bk, .int q12, .ref qr, .ref pr, .ref cv, .ref ft]))] (fun (r : Int32) (u : Int32) => (r, u) = f_e_draw_x9 q1 q2 q10 q12 n_) (fun (u : Int32) => [(h, .inr (9, [.ref x, .int q1, .int q2, .ref rd, .ref t, .ref d, .ref nw, .ref ps, .ref im, .ref is_, .int q10, .ref bk, .int u, .ref qr, .ref pr, .ref cv, .ref ft]))]) := by
  refine KI.go rfl (Nat.le_of_ble_eq_true rfl) ?_
  intro p e s m args below meth c ls A Q hx hb hml hts hown hin hP hK hD hS hA hN hl hret
  have hl : lv_has ls 2 [(0, .ref h), (1, .int n_)] := hl
  obtain ⟨RES, hE⟩ : ∃ xRES, f_e_draw_x9 q1 q2 q10 q12 n_ = xRES := ⟨_, rfl⟩
  rw [hE] at hret
  rw [f_e_draw_x9] at hE
  refine lv_iload_n hx hb dX9_draw_0 rfl (lv_at hl 1 rfl) ?_
  refine lv_if_gt (tgt := 6) hx hb dX9_draw_1 (by decide) (fun c_1 => ?_) (fun c_1 => ?_)
  · rw [if_pos c_1] at hE
    refine lv_aload_n hx hb dX9_draw_6 rfl (lv_at hl 0 rfl) ?_
    refine lv_aload_n hx hb dX9_draw_7 rfl (lv_at hl 0 rfl) ?_
    refine va_get (D := D) (ci := 9) (v := .int q12) (C := RX9) (T := TX9) (N := 17) hx hb hts iX9 hown hK hP 0 rfl rfl 12 (by decide) (hts _ wd_114) (fun _ h9 => h9) rfl dX9_draw_8 ?_
    refine lv_i2l (v := q12.toInt64) hx hb dX9_draw_11 rfl ?_
    refine lv_ldc2 (v := 1103515245) hx hb hown (hts _ wd_280) dX9_draw_12 ?_
    refine lv_lmul hx hb dX9_draw_15 ?_
    refine lv_ldc2 (v := 12345) hx hb hown (hts _ wd_281) dX9_draw_16 ?_
    refine lv_ladd hx hb dX9_draw_19 ?_
    refine lv_ldc2 (v := 2147483647) hx hb hown (hts _ wd_282) dX9_draw_20 ?_
    refine lv_land hx hb dX9_draw_23 ?_
    refine lv_l2i (v := ((((q12.toInt64 * 1103515245) + 12345) &&& 2147483647)).toInt32) hx hb dX9_draw_24 rfl ?_
    refine va_put (D := D) (ci := 9) (v := .int (((((q12.toInt64 * 1103515245) + 12345) &&& 2147483647)).toInt32)) (ty := .int) (C := RX9) (T := TX9) (N := 17) hx hb hts iX9 tyX9 tyX9_ok nmX9 hown hK hP hD hS 0 rfl rfl 12 (by decide) (hts _ wd_114) (fun _ h9 => h9) rfl (by decide +kernel) rfl rfl (Nat.le_of_ble_eq_true rfl) dX9_draw_25 (fun H locs hP hD hS => ?_)
    have hP : va_P D classes [(h, .inr (9, [.ref x, .int q1, .int q2, .ref rd, .ref t, .ref d, .ref nw, .ref ps, .ref im, .ref is_, .int q10, .ref bk, .int (((((q12.toInt64 * 1103515245) + 12345) &&& 2147483647)).toInt32), .ref qr, .ref pr, .ref cv, .ref ft]))] H := hP
    have hD : va_D A [(h, .inr (9, [.ref x, .int q1, .int q2, .ref rd, .ref t, .ref d, .ref nw, .ref ps, .ref im, .ref is_, .int q10, .ref bk, .int (((((q12.toInt64 * 1103515245) + 12345) &&& 2147483647)).toInt32), .ref qr, .ref pr, .ref cv, .ref ft]))] := hD
    refine lv_aload_n hx hb dX9_draw_28 rfl (lv_at hl 0 rfl) ?_
    refine va_get (D := D) (ci := 9) (v := .int (((((q12.toInt64 * 1103515245) + 12345) &&& 2147483647)).toInt32)) (C := RX9) (T := TX9) (N := 17) hx hb hts iX9 hown hK hP 0 rfl rfl 12 (by decide) (hts _ wd_114) (fun _ h9 => h9) rfl dX9_draw_29 ?_
    refine lv_ldcw (v := 65536) hx hb hown (hts _ wd_283) dX9_draw_32 ?_
    refine lv_idiv hx hb dX9_draw_35 (by decide) ?_
    refine lv_iload_n hx hb dX9_draw_36 rfl (lv_at hl 1 rfl) ?_
    refine lv_irem hx hb dX9_draw_37 (fun h => absurd c_1 (by rw [h]; decide)) ?_
    exact hret (((((((q12.toInt64 * 1103515245) + 12345) &&& 2147483647)).toInt32) / 65536) - ((((((q12.toInt64 * 1103515245) + 12345) &&& 2147483647)).toInt32) / 65536) / n_ * n_) (((((q12.toInt64 * 1103515245) + 12345) &&& 2147483647)).toInt32) _ _ _ _ dX9_draw_38 rfl hE hP hD hS
  · rw [if_neg c_1] at hE
    refine lv_iconst (v := 0) hx hb dX9_draw_4 (by decide) ?_
    exact hret 0 q12 _ _ _ _ dX9_draw_5 rfl hE hP hD hS
noncomputable def f_e_bitCount_0f7a4_j6 (i_ : Int32) : Int32 := ((((((((i_ - ((((i_).toUInt32 >>> ((1 : Int32).toUInt32 &&& Int32.toUInt32 31)).toInt32) &&& 1431655765)) &&& 858993459) + (((((i_ - ((((i_).toUInt32 >>> ((1 : Int32).toUInt32 &&& Int32.toUInt32 31)).toInt32) &&& 1431655765))).toUInt32 >>> ((2 : Int32).toUInt32 &&& Int32.toUInt32 31)).toInt32) &&& 858993459)) + ((((((i_ - ((((i_).toUInt32 >>> ((1 : Int32).toUInt32 &&& Int32.toUInt32 31)).toInt32) &&& 1431655765)) &&& 858993459) + (((((i_ - ((((i_).toUInt32 >>> ((1 : Int32).toUInt32 &&& Int32.toUInt32 31)).toInt32) &&& 1431655765))).toUInt32 >>> ((2 : Int32).toUInt32 &&& Int32.toUInt32 31)).toInt32) &&& 858993459))).toUInt32 >>> ((4 : Int32).toUInt32 &&& Int32.toUInt32 31)).toInt32)) &&& 252645135) + ((((((((i_ - ((((i_).toUInt32 >>> ((1 : Int32).toUInt32 &&& Int32.toUInt32 31)).toInt32) &&& 1431655765)) &&& 858993459) + (((((i_ - ((((i_).toUInt32 >>> ((1 : Int32).toUInt32 &&& Int32.toUInt32 31)).toInt32) &&& 1431655765))).toUInt32 >>> ((2 : Int32).toUInt32 &&& Int32.toUInt32 31)).toInt32) &&& 858993459)) + ((((((i_ - ((((i_).toUInt32 >>> ((1 : Int32).toUInt32 &&& Int32.toUInt32 31)).toInt32) &&& 1431655765)) &&& 858993459) + (((((i_ - ((((i_).toUInt32 >>> ((1 : Int32).toUInt32 &&& Int32.toUInt32 31)).toInt32) &&& 1431655765))).toUInt32 >>> ((2 : Int32).toUInt32 &&& Int32.toUInt32 31)).toInt32) &&& 858993459))).toUInt32 >>> ((4 : Int32).toUInt32 &&& Int32.toUInt32 31)).toInt32)) &&& 252645135)).toUInt32 >>> ((8 : Int32).toUInt32 &&& Int32.toUInt32 31)).toInt32)) + (((((((((i_ - ((((i_).toUInt32 >>> ((1 : Int32).toUInt32 &&& Int32.toUInt32 31)).toInt32) &&& 1431655765)) &&& 858993459) + (((((i_ - ((((i_).toUInt32 >>> ((1 : Int32).toUInt32 &&& Int32.toUInt32 31)).toInt32) &&& 1431655765))).toUInt32 >>> ((2 : Int32).toUInt32 &&& Int32.toUInt32 31)).toInt32) &&& 858993459)) + ((((((i_ - ((((i_).toUInt32 >>> ((1 : Int32).toUInt32 &&& Int32.toUInt32 31)).toInt32) &&& 1431655765)) &&& 858993459) + (((((i_ - ((((i_).toUInt32 >>> ((1 : Int32).toUInt32 &&& Int32.toUInt32 31)).toInt32) &&& 1431655765))).toUInt32 >>> ((2 : Int32).toUInt32 &&& Int32.toUInt32 31)).toInt32) &&& 858993459))).toUInt32 >>> ((4 : Int32).toUInt32 &&& Int32.toUInt32 31)).toInt32)) &&& 252645135) + ((((((((i_ - ((((i_).toUInt32 >>> ((1 : Int32).toUInt32 &&& Int32.toUInt32 31)).toInt32) &&& 1431655765)) &&& 858993459) + (((((i_ - ((((i_).toUInt32 >>> ((1 : Int32).toUInt32 &&& Int32.toUInt32 31)).toInt32) &&& 1431655765))).toUInt32 >>> ((2 : Int32).toUInt32 &&& Int32.toUInt32 31)).toInt32) &&& 858993459)) + ((((((i_ - ((((i_).toUInt32 >>> ((1 : Int32).toUInt32 &&& Int32.toUInt32 31)).toInt32) &&& 1431655765)) &&& 858993459) + (((((i_ - ((((i_).toUInt32 >>> ((1 : Int32).toUInt32 &&& Int32.toUInt32 31)).toInt32) &&& 1431655765))).toUInt32 >>> ((2 : Int32).toUInt32 &&& Int32.toUInt32 31)).toInt32) &&& 858993459))).toUInt32 >>> ((4 : Int32).toUInt32 &&& Int32.toUInt32 31)).toInt32)) &&& 252645135)).toUInt32 >>> ((8 : Int32).toUInt32 &&& Int32.toUInt32 31)).toInt32))).toUInt32 >>> ((16 : Int32).toUInt32 &&& Int32.toUInt32 31)).toInt32)) &&& 63)
def rm_e_bitCount_0f7a4_j6 : Room := { frames := 0, cells := 0, slots := 0, locals := 0 }
set_option maxHeartbeats 4000000 in
set_option maxRecDepth 100000 in
theorem e_bitCount_0f7a4_j6 {l : Launch} {D : va_G} {cI cZ : ClassId} {sz : Nat} (i_ : Int32) : KI l yJ6_bitCount_0f7a4 cJ6_bitCount_0f7a4 1 (some .int) rm_e_bitCount_0f7a4_j6 D cI cZ [.int i_] sz [] (fun (r : Int32) (_ : Unit) => r = f_e_bitCount_0f7a4_j6 i_) (fun (_ : Unit) => []) := by
  refine KI.go rfl (Nat.le_of_ble_eq_true rfl) ?_
  intro p e s m args below meth c ls A Q hx hb hml hts hown hin hP hK hD hS hA hN hl hret
  have hl : lv_has ls 1 [(0, .int i_)] := hl
  obtain ⟨RES, hE⟩ : ∃ xRES, f_e_bitCount_0f7a4_j6 i_ = xRES := ⟨_, rfl⟩
  rw [hE] at hret
  rw [f_e_bitCount_0f7a4_j6] at hE
  refine lv_iload_n hx hb dJ6_bitCount_0f7a4_0 rfl (lv_at hl 0 rfl) ?_
  refine lv_iload_n hx hb dJ6_bitCount_0f7a4_1 rfl (lv_at hl 0 rfl) ?_
  refine lv_iconst (v := 1) hx hb dJ6_bitCount_0f7a4_2 (by decide) ?_
  refine lv_iushr (v := ((i_).toUInt32 >>> ((1 : Int32).toUInt32 &&& Int32.toUInt32 31)).toInt32) hx hb dJ6_bitCount_0f7a4_3 rfl ?_
  refine lv_ldcw (v := 1431655765) hx hb hown (hts _ wd_284) dJ6_bitCount_0f7a4_4 ?_
  refine lv_iand hx hb dJ6_bitCount_0f7a4_7 ?_
  refine lv_isub hx hb dJ6_bitCount_0f7a4_8 ?_
  refine lv_istore_n (lv' := [(0, .int (i_ - ((((i_).toUInt32 >>> ((1 : Int32).toUInt32 &&& Int32.toUInt32 31)).toInt32) &&& 1431655765)))]) hx hb dJ6_bitCount_0f7a4_9 rfl hl (by decide) rfl (fun ls hl => ?_)
  refine lv_iload_n hx hb dJ6_bitCount_0f7a4_10 rfl (lv_at hl 0 rfl) ?_
  refine lv_ldcw (v := 858993459) hx hb hown (hts _ wd_285) dJ6_bitCount_0f7a4_11 ?_
  refine lv_iand hx hb dJ6_bitCount_0f7a4_14 ?_
  refine lv_iload_n hx hb dJ6_bitCount_0f7a4_15 rfl (lv_at hl 0 rfl) ?_
  refine lv_iconst (v := 2) hx hb dJ6_bitCount_0f7a4_16 (by decide) ?_
  refine lv_iushr (v := (((i_ - ((((i_).toUInt32 >>> ((1 : Int32).toUInt32 &&& Int32.toUInt32 31)).toInt32) &&& 1431655765))).toUInt32 >>> ((2 : Int32).toUInt32 &&& Int32.toUInt32 31)).toInt32) hx hb dJ6_bitCount_0f7a4_17 rfl ?_
  refine lv_ldcw (v := 858993459) hx hb hown (hts _ wd_285) dJ6_bitCount_0f7a4_18 ?_
  refine lv_iand hx hb dJ6_bitCount_0f7a4_21 ?_
  refine lv_iadd hx hb dJ6_bitCount_0f7a4_22 ?_
  refine lv_istore_n (lv' := [(0, .int (((i_ - ((((i_).toUInt32 >>> ((1 : Int32).toUInt32 &&& Int32.toUInt32 31)).toInt32) &&& 1431655765)) &&& 858993459) + (((((i_ - ((((i_).toUInt32 >>> ((1 : Int32).toUInt32 &&& Int32.toUInt32 31)).toInt32) &&& 1431655765))).toUInt32 >>> ((2 : Int32).toUInt32 &&& Int32.toUInt32 31)).toInt32) &&& 858993459)))]) hx hb dJ6_bitCount_0f7a4_23 rfl hl (by decide) rfl (fun ls hl => ?_)
  refine lv_iload_n hx hb dJ6_bitCount_0f7a4_24 rfl (lv_at hl 0 rfl) ?_
  refine lv_iload_n hx hb dJ6_bitCount_0f7a4_25 rfl (lv_at hl 0 rfl) ?_
  refine lv_iconst (v := 4) hx hb dJ6_bitCount_0f7a4_26 (by decide) ?_
  refine lv_iushr (v := (((((i_ - ((((i_).toUInt32 >>> ((1 : Int32).toUInt32 &&& Int32.toUInt32 31)).toInt32) &&& 1431655765)) &&& 858993459) + (((((i_ - ((((i_).toUInt32 >>> ((1 : Int32).toUInt32 &&& Int32.toUInt32 31)).toInt32) &&& 1431655765))).toUInt32 >>> ((2 : Int32).toUInt32 &&& Int32.toUInt32 31)).toInt32) &&& 858993459))).toUInt32 >>> ((4 : Int32).toUInt32 &&& Int32.toUInt32 31)).toInt32) hx hb dJ6_bitCount_0f7a4_27 rfl ?_
  refine lv_iadd hx hb dJ6_bitCount_0f7a4_28 ?_
  refine lv_ldcw (v := 252645135) hx hb hown (hts _ wd_286) dJ6_bitCount_0f7a4_29 ?_
  refine lv_iand hx hb dJ6_bitCount_0f7a4_32 ?_
  refine lv_istore_n (lv' := [(0, .int (((((i_ - ((((i_).toUInt32 >>> ((1 : Int32).toUInt32 &&& Int32.toUInt32 31)).toInt32) &&& 1431655765)) &&& 858993459) + (((((i_ - ((((i_).toUInt32 >>> ((1 : Int32).toUInt32 &&& Int32.toUInt32 31)).toInt32) &&& 1431655765))).toUInt32 >>> ((2 : Int32).toUInt32 &&& Int32.toUInt32 31)).toInt32) &&& 858993459)) + ((((((i_ - ((((i_).toUInt32 >>> ((1 : Int32).toUInt32 &&& Int32.toUInt32 31)).toInt32) &&& 1431655765)) &&& 858993459) + (((((i_ - ((((i_).toUInt32 >>> ((1 : Int32).toUInt32 &&& Int32.toUInt32 31)).toInt32) &&& 1431655765))).toUInt32 >>> ((2 : Int32).toUInt32 &&& Int32.toUInt32 31)).toInt32) &&& 858993459))).toUInt32 >>> ((4 : Int32).toUInt32 &&& Int32.toUInt32 31)).toInt32)) &&& 252645135))]) hx hb dJ6_bitCount_0f7a4_33 rfl hl (by decide) rfl (fun ls hl => ?_)
  refine lv_iload_n hx hb dJ6_bitCount_0f7a4_34 rfl (lv_at hl 0 rfl) ?_
  refine lv_iload_n hx hb dJ6_bitCount_0f7a4_35 rfl (lv_at hl 0 rfl) ?_
  refine lv_bipush (v := 8) hx hb dJ6_bitCount_0f7a4_36 (by decide) ?_
  refine lv_iushr (v := (((((((i_ - ((((i_).toUInt32 >>> ((1 : Int32).toUInt32 &&& Int32.toUInt32 31)).toInt32) &&& 1431655765)) &&& 858993459) + (((((i_ - ((((i_).toUInt32 >>> ((1 : Int32).toUInt32 &&& Int32.toUInt32 31)).toInt32) &&& 1431655765))).toUInt32 >>> ((2 : Int32).toUInt32 &&& Int32.toUInt32 31)).toInt32) &&& 858993459)) + ((((((i_ - ((((i_).toUInt32 >>> ((1 : Int32).toUInt32 &&& Int32.toUInt32 31)).toInt32) &&& 1431655765)) &&& 858993459) + (((((i_ - ((((i_).toUInt32 >>> ((1 : Int32).toUInt32 &&& Int32.toUInt32 31)).toInt32) &&& 1431655765))).toUInt32 >>> ((2 : Int32).toUInt32 &&& Int32.toUInt32 31)).toInt32) &&& 858993459))).toUInt32 >>> ((4 : Int32).toUInt32 &&& Int32.toUInt32 31)).toInt32)) &&& 252645135)).toUInt32 >>> ((8 : Int32).toUInt32 &&& Int32.toUInt32 31)).toInt32) hx hb dJ6_bitCount_0f7a4_38 rfl ?_
  refine lv_iadd hx hb dJ6_bitCount_0f7a4_39 ?_
  refine lv_istore_n (lv' := [(0, .int ((((((i_ - ((((i_).toUInt32 >>> ((1 : Int32).toUInt32 &&& Int32.toUInt32 31)).toInt32) &&& 1431655765)) &&& 858993459) + (((((i_ - ((((i_).toUInt32 >>> ((1 : Int32).toUInt32 &&& Int32.toUInt32 31)).toInt32) &&& 1431655765))).toUInt32 >>> ((2 : Int32).toUInt32 &&& Int32.toUInt32 31)).toInt32) &&& 858993459)) + ((((((i_ - ((((i_).toUInt32 >>> ((1 : Int32).toUInt32 &&& Int32.toUInt32 31)).toInt32) &&& 1431655765)) &&& 858993459) + (((((i_ - ((((i_).toUInt32 >>> ((1 : Int32).toUInt32 &&& Int32.toUInt32 31)).toInt32) &&& 1431655765))).toUInt32 >>> ((2 : Int32).toUInt32 &&& Int32.toUInt32 31)).toInt32) &&& 858993459))).toUInt32 >>> ((4 : Int32).toUInt32 &&& Int32.toUInt32 31)).toInt32)) &&& 252645135) + ((((((((i_ - ((((i_).toUInt32 >>> ((1 : Int32).toUInt32 &&& Int32.toUInt32 31)).toInt32) &&& 1431655765)) &&& 858993459) + (((((i_ - ((((i_).toUInt32 >>> ((1 : Int32).toUInt32 &&& Int32.toUInt32 31)).toInt32) &&& 1431655765))).toUInt32 >>> ((2 : Int32).toUInt32 &&& Int32.toUInt32 31)).toInt32) &&& 858993459)) + ((((((i_ - ((((i_).toUInt32 >>> ((1 : Int32).toUInt32 &&& Int32.toUInt32 31)).toInt32) &&& 1431655765)) &&& 858993459) + (((((i_ - ((((i_).toUInt32 >>> ((1 : Int32).toUInt32 &&& Int32.toUInt32 31)).toInt32) &&& 1431655765))).toUInt32 >>> ((2 : Int32).toUInt32 &&& Int32.toUInt32 31)).toInt32) &&& 858993459))).toUInt32 >>> ((4 : Int32).toUInt32 &&& Int32.toUInt32 31)).toInt32)) &&& 252645135)).toUInt32 >>> ((8 : Int32).toUInt32 &&& Int32.toUInt32 31)).toInt32)))]) hx hb dJ6_bitCount_0f7a4_40 rfl hl (by decide) rfl (fun ls hl => ?_)
  refine lv_iload_n hx hb dJ6_bitCount_0f7a4_41 rfl (lv_at hl 0 rfl) ?_
  refine lv_iload_n hx hb dJ6_bitCount_0f7a4_42 rfl (lv_at hl 0 rfl) ?_
  refine lv_bipush (v := 16) hx hb dJ6_bitCount_0f7a4_43 (by decide) ?_
  refine lv_iushr (v := ((((((((i_ - ((((i_).toUInt32 >>> ((1 : Int32).toUInt32 &&& Int32.toUInt32 31)).toInt32) &&& 1431655765)) &&& 858993459) + (((((i_ - ((((i_).toUInt32 >>> ((1 : Int32).toUInt32 &&& Int32.toUInt32 31)).toInt32) &&& 1431655765))).toUInt32 >>> ((2 : Int32).toUInt32 &&& Int32.toUInt32 31)).toInt32) &&& 858993459)) + ((((((i_ - ((((i_).toUInt32 >>> ((1 : Int32).toUInt32 &&& Int32.toUInt32 31)).toInt32) &&& 1431655765)) &&& 858993459) + (((((i_ - ((((i_).toUInt32 >>> ((1 : Int32).toUInt32 &&& Int32.toUInt32 31)).toInt32) &&& 1431655765))).toUInt32 >>> ((2 : Int32).toUInt32 &&& Int32.toUInt32 31)).toInt32) &&& 858993459))).toUInt32 >>> ((4 : Int32).toUInt32 &&& Int32.toUInt32 31)).toInt32)) &&& 252645135) + ((((((((i_ - ((((i_).toUInt32 >>> ((1 : Int32).toUInt32 &&& Int32.toUInt32 31)).toInt32) &&& 1431655765)) &&& 858993459) + (((((i_ - ((((i_).toUInt32 >>> ((1 : Int32).toUInt32 &&& Int32.toUInt32 31)).toInt32) &&& 1431655765))).toUInt32 >>> ((2 : Int32).toUInt32 &&& Int32.toUInt32 31)).toInt32) &&& 858993459)) + ((((((i_ - ((((i_).toUInt32 >>> ((1 : Int32).toUInt32 &&& Int32.toUInt32 31)).toInt32) &&& 1431655765)) &&& 858993459) + (((((i_ - ((((i_).toUInt32 >>> ((1 : Int32).toUInt32 &&& Int32.toUInt32 31)).toInt32) &&& 1431655765))).toUInt32 >>> ((2 : Int32).toUInt32 &&& Int32.toUInt32 31)).toInt32) &&& 858993459))).toUInt32 >>> ((4 : Int32).toUInt32 &&& Int32.toUInt32 31)).toInt32)) &&& 252645135)).toUInt32 >>> ((8 : Int32).toUInt32 &&& Int32.toUInt32 31)).toInt32))).toUInt32 >>> ((16 : Int32).toUInt32 &&& Int32.toUInt32 31)).toInt32) hx hb dJ6_bitCount_0f7a4_45 rfl ?_
  refine lv_iadd hx hb dJ6_bitCount_0f7a4_46 ?_
  refine lv_istore_n (lv' := [(0, .int (((((((i_ - ((((i_).toUInt32 >>> ((1 : Int32).toUInt32 &&& Int32.toUInt32 31)).toInt32) &&& 1431655765)) &&& 858993459) + (((((i_ - ((((i_).toUInt32 >>> ((1 : Int32).toUInt32 &&& Int32.toUInt32 31)).toInt32) &&& 1431655765))).toUInt32 >>> ((2 : Int32).toUInt32 &&& Int32.toUInt32 31)).toInt32) &&& 858993459)) + ((((((i_ - ((((i_).toUInt32 >>> ((1 : Int32).toUInt32 &&& Int32.toUInt32 31)).toInt32) &&& 1431655765)) &&& 858993459) + (((((i_ - ((((i_).toUInt32 >>> ((1 : Int32).toUInt32 &&& Int32.toUInt32 31)).toInt32) &&& 1431655765))).toUInt32 >>> ((2 : Int32).toUInt32 &&& Int32.toUInt32 31)).toInt32) &&& 858993459))).toUInt32 >>> ((4 : Int32).toUInt32 &&& Int32.toUInt32 31)).toInt32)) &&& 252645135) + ((((((((i_ - ((((i_).toUInt32 >>> ((1 : Int32).toUInt32 &&& Int32.toUInt32 31)).toInt32) &&& 1431655765)) &&& 858993459) + (((((i_ - ((((i_).toUInt32 >>> ((1 : Int32).toUInt32 &&& Int32.toUInt32 31)).toInt32) &&& 1431655765))).toUInt32 >>> ((2 : Int32).toUInt32 &&& Int32.toUInt32 31)).toInt32) &&& 858993459)) + ((((((i_ - ((((i_).toUInt32 >>> ((1 : Int32).toUInt32 &&& Int32.toUInt32 31)).toInt32) &&& 1431655765)) &&& 858993459) + (((((i_ - ((((i_).toUInt32 >>> ((1 : Int32).toUInt32 &&& Int32.toUInt32 31)).toInt32) &&& 1431655765))).toUInt32 >>> ((2 : Int32).toUInt32 &&& Int32.toUInt32 31)).toInt32) &&& 858993459))).toUInt32 >>> ((4 : Int32).toUInt32 &&& Int32.toUInt32 31)).toInt32)) &&& 252645135)).toUInt32 >>> ((8 : Int32).toUInt32 &&& Int32.toUInt32 31)).toInt32)) + (((((((((i_ - ((((i_).toUInt32 >>> ((1 : Int32).toUInt32 &&& Int32.toUInt32 31)).toInt32) &&& 1431655765)) &&& 858993459) + (((((i_ - ((((i_).toUInt32 >>> ((1 : Int32).toUInt32 &&& Int32.toUInt32 31)).toInt32) &&& 1431655765))).toUInt32 >>> ((2 : Int32).toUInt32 &&& Int32.toUInt32 31)).toInt32) &&& 858993459)) + ((((((i_ - ((((i_).toUInt32 >>> ((1 : Int32).toUInt32 &&& Int32.toUInt32 31)).toInt32) &&& 1431655765)) &&& 858993459) + (((((i_ - ((((i_).toUInt32 >>> ((1 : Int32).toUInt32 &&& Int32.toUInt32 31)).toInt32) &&& 1431655765))).toUInt32 >>> ((2 : Int32).toUInt32 &&& Int32.toUInt32 31)).toInt32) &&& 858993459))).toUInt32 >>> ((4 : Int32).toUInt32 &&& Int32.toUInt32 31)).toInt32)) &&& 252645135) + ((((((((i_ - ((((i_).toUInt32 >>> ((1 : Int32).toUInt32 &&& Int32.toUInt32 31)).toInt32) &&& 1431655765)) &&& 858993459) + (((((i_ - ((((i_).toUInt32 >>> ((1 : Int32).toUInt32 &&& Int32.toUInt32 31)).toInt32) &&& 1431655765))).toUInt32 >>> ((2 : Int32).toUInt32 &&& Int32.toUInt32 31)).toInt32) &&& 858993459)) + ((((((i_ - ((((i_).toUInt32 >>> ((1 : Int32).toUInt32 &&& Int32.toUInt32 31)).toInt32) &&& 1431655765)) &&& 858993459) + (((((i_ - ((((i_).toUInt32 >>> ((1 : Int32).toUInt32 &&& Int32.toUInt32 31)).toInt32) &&& 1431655765))).toUInt32 >>> ((2 : Int32).toUInt32 &&& Int32.toUInt32 31)).toInt32) &&& 858993459))).toUInt32 >>> ((4 : Int32).toUInt32 &&& Int32.toUInt32 31)).toInt32)) &&& 252645135)).toUInt32 >>> ((8 : Int32).toUInt32 &&& Int32.toUInt32 31)).toInt32))).toUInt32 >>> ((16 : Int32).toUInt32 &&& Int32.toUInt32 31)).toInt32)))]) hx hb dJ6_bitCount_0f7a4_47 rfl hl (by decide) rfl (fun ls hl => ?_)
  refine lv_iload_n hx hb dJ6_bitCount_0f7a4_48 rfl (lv_at hl 0 rfl) ?_
  refine lv_bipush (v := 63) hx hb dJ6_bitCount_0f7a4_49 (by decide) ?_
  refine lv_iand hx hb dJ6_bitCount_0f7a4_51 ?_
  exact hret ((((((((i_ - ((((i_).toUInt32 >>> ((1 : Int32).toUInt32 &&& Int32.toUInt32 31)).toInt32) &&& 1431655765)) &&& 858993459) + (((((i_ - ((((i_).toUInt32 >>> ((1 : Int32).toUInt32 &&& Int32.toUInt32 31)).toInt32) &&& 1431655765))).toUInt32 >>> ((2 : Int32).toUInt32 &&& Int32.toUInt32 31)).toInt32) &&& 858993459)) + ((((((i_ - ((((i_).toUInt32 >>> ((1 : Int32).toUInt32 &&& Int32.toUInt32 31)).toInt32) &&& 1431655765)) &&& 858993459) + (((((i_ - ((((i_).toUInt32 >>> ((1 : Int32).toUInt32 &&& Int32.toUInt32 31)).toInt32) &&& 1431655765))).toUInt32 >>> ((2 : Int32).toUInt32 &&& Int32.toUInt32 31)).toInt32) &&& 858993459))).toUInt32 >>> ((4 : Int32).toUInt32 &&& Int32.toUInt32 31)).toInt32)) &&& 252645135) + ((((((((i_ - ((((i_).toUInt32 >>> ((1 : Int32).toUInt32 &&& Int32.toUInt32 31)).toInt32) &&& 1431655765)) &&& 858993459) + (((((i_ - ((((i_).toUInt32 >>> ((1 : Int32).toUInt32 &&& Int32.toUInt32 31)).toInt32) &&& 1431655765))).toUInt32 >>> ((2 : Int32).toUInt32 &&& Int32.toUInt32 31)).toInt32) &&& 858993459)) + ((((((i_ - ((((i_).toUInt32 >>> ((1 : Int32).toUInt32 &&& Int32.toUInt32 31)).toInt32) &&& 1431655765)) &&& 858993459) + (((((i_ - ((((i_).toUInt32 >>> ((1 : Int32).toUInt32 &&& Int32.toUInt32 31)).toInt32) &&& 1431655765))).toUInt32 >>> ((2 : Int32).toUInt32 &&& Int32.toUInt32 31)).toInt32) &&& 858993459))).toUInt32 >>> ((4 : Int32).toUInt32 &&& Int32.toUInt32 31)).toInt32)) &&& 252645135)).toUInt32 >>> ((8 : Int32).toUInt32 &&& Int32.toUInt32 31)).toInt32)) + (((((((((i_ - ((((i_).toUInt32 >>> ((1 : Int32).toUInt32 &&& Int32.toUInt32 31)).toInt32) &&& 1431655765)) &&& 858993459) + (((((i_ - ((((i_).toUInt32 >>> ((1 : Int32).toUInt32 &&& Int32.toUInt32 31)).toInt32) &&& 1431655765))).toUInt32 >>> ((2 : Int32).toUInt32 &&& Int32.toUInt32 31)).toInt32) &&& 858993459)) + ((((((i_ - ((((i_).toUInt32 >>> ((1 : Int32).toUInt32 &&& Int32.toUInt32 31)).toInt32) &&& 1431655765)) &&& 858993459) + (((((i_ - ((((i_).toUInt32 >>> ((1 : Int32).toUInt32 &&& Int32.toUInt32 31)).toInt32) &&& 1431655765))).toUInt32 >>> ((2 : Int32).toUInt32 &&& Int32.toUInt32 31)).toInt32) &&& 858993459))).toUInt32 >>> ((4 : Int32).toUInt32 &&& Int32.toUInt32 31)).toInt32)) &&& 252645135) + ((((((((i_ - ((((i_).toUInt32 >>> ((1 : Int32).toUInt32 &&& Int32.toUInt32 31)).toInt32) &&& 1431655765)) &&& 858993459) + (((((i_ - ((((i_).toUInt32 >>> ((1 : Int32).toUInt32 &&& Int32.toUInt32 31)).toInt32) &&& 1431655765))).toUInt32 >>> ((2 : Int32).toUInt32 &&& Int32.toUInt32 31)).toInt32) &&& 858993459)) + ((((((i_ - ((((i_).toUInt32 >>> ((1 : Int32).toUInt32 &&& Int32.toUInt32 31)).toInt32) &&& 1431655765)) &&& 858993459) + (((((i_ - ((((i_).toUInt32 >>> ((1 : Int32).toUInt32 &&& Int32.toUInt32 31)).toInt32) &&& 1431655765))).toUInt32 >>> ((2 : Int32).toUInt32 &&& Int32.toUInt32 31)).toInt32) &&& 858993459))).toUInt32 >>> ((4 : Int32).toUInt32 &&& Int32.toUInt32 31)).toInt32)) &&& 252645135)).toUInt32 >>> ((8 : Int32).toUInt32 &&& Int32.toUInt32 31)).toInt32))).toUInt32 >>> ((16 : Int32).toUInt32 &&& Int32.toUInt32 31)).toInt32)) &&& 63) () _ _ _ _ dJ6_bitCount_0f7a4_52 rfl hE hP hD hS
