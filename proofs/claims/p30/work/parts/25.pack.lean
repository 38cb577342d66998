section
def fw_cX9_attempt : List (List Nat) := [[42, 180, 0, 79, 42, 180, 0, 40, 27, 182, 0, 177, 42, 180, 0, 30, 27, 29], [27, 29, 182, 0, 195, 42, 180, 0, 30, 180, 0, 136, 42, 180, 0, 30, 180, 0], [180, 0, 164, 28, 184, 0, 167, 182, 1, 45, 177]]
theorem fW_cX9_attempt : fq_wins 3 cX9_attempt.data.toList = fw_cX9_attempt := by decide +kernel
theorem fk_cX9_attempt_0 : fq_ck cX9_attempt 0 [42, 180, 0, 79, 42, 180, 0, 40, 27, 182, 0, 177, 42, 180, 0, 30, 27, 29] := fq_of fW_cX9_attempt 0 rfl rfl
theorem dX9_attempt_0 : decode cX9_attempt 0 = .ok (.aload_n 0, 1) := fq_42 fk_cX9_attempt_0 0 rfl rfl
theorem dX9_attempt_1 : decode cX9_attempt 1 = .ok (.getfield 79, 3) := fq_180 fk_cX9_attempt_0 1 rfl rfl rfl rfl rfl
theorem dX9_attempt_4 : decode cX9_attempt 4 = .ok (.aload_n 0, 1) := fq_42 fk_cX9_attempt_0 4 rfl rfl
theorem dX9_attempt_5 : decode cX9_attempt 5 = .ok (.getfield 40, 3) := fq_180 fk_cX9_attempt_0 5 rfl rfl rfl rfl rfl
theorem dX9_attempt_8 : decode cX9_attempt 8 = .ok (.iload_n 1, 1) := fq_27 fk_cX9_attempt_0 8 rfl rfl
theorem dX9_attempt_9 : decode cX9_attempt 9 = .ok (.invokevirtual 177, 3) := fq_182 fk_cX9_attempt_0 9 rfl rfl rfl rfl rfl
theorem wd_251 : Cond.methodLink RX9 177 yX7_grievanceOf ∈ BG := BG_at2 221 (by decide +kernel) rfl
theorem dX9_attempt_12 : decode cX9_attempt 12 = .ok (.aload_n 0, 1) := fq_42 fk_cX9_attempt_0 12 rfl rfl
theorem dX9_attempt_13 : decode cX9_attempt 13 = .ok (.getfield 30, 3) := fq_180 fk_cX9_attempt_0 13 rfl rfl rfl rfl rfl
theorem fk_cX9_attempt_1 : fq_ck cX9_attempt 16 [27, 29, 182, 0, 195, 42, 180, 0, 30, 180, 0, 136, 42, 180, 0, 30, 180, 0] := fq_of fW_cX9_attempt 1 rfl rfl
theorem dX9_attempt_16 : decode cX9_attempt 16 = .ok (.iload_n 1, 1) := fq_27 fk_cX9_attempt_1 0 rfl rfl
theorem dX9_attempt_17 : decode cX9_attempt 17 = .ok (.iload_n 3, 1) := fq_29 fk_cX9_attempt_1 1 rfl rfl
theorem dX9_attempt_18 : decode cX9_attempt 18 = .ok (.invokevirtual 195, 3) := fq_182 fk_cX9_attempt_1 2 rfl rfl rfl rfl rfl
theorem wd_252 : Cond.methodLink RX9 195 yX8_forceOf ∈ BG := BG_at3 0 (by decide +kernel) rfl
theorem wd_253 : Cond.code yX8_forceOf cX8_forceOf 3 (some .int) ∈ BG := BG_at3 3 rfl rfl
theorem wd_254 : Cond.instanceMethod yX8_forceOf ∈ BG := BG_at3 1 (by decide +kernel) rfl
theorem wd_255 : Cond.selects RX8 yX8_forceOf yX8_forceOf ∈ BG := BG_at3 2 (by decide +kernel) rfl
theorem okV_X8_forceOf : okV yX8_forceOf cX8_forceOf 3 (some .int) 2 := ⟨⟨wd_253, wd_86, by decide +kernel⟩, wd_254, wd_255⟩
theorem dX9_attempt_21 : decode cX9_attempt 21 = .ok (.aload_n 0, 1) := fq_42 fk_cX9_attempt_1 5 rfl rfl
theorem dX9_attempt_22 : decode cX9_attempt 22 = .ok (.getfield 30, 3) := fq_180 fk_cX9_attempt_1 6 rfl rfl rfl rfl rfl
theorem wd_256 : Cond.fieldLink RX9 136 "QuarrelBridges$Town" "snow" "I" ∈ BG := BG_at1 78 (by decide +kernel) rfl
theorem dX9_attempt_25 : decode cX9_attempt 25 = .ok (.getfield 136, 3) := fq_180 fk_cX9_attempt_1 9 rfl rfl rfl rfl rfl
theorem dX9_attempt_28 : decode cX9_attempt 28 = .ok (.aload_n 0, 1) := fq_42 fk_cX9_attempt_1 12 rfl rfl
theorem dX9_attempt_29 : decode cX9_attempt 29 = .ok (.getfield 30, 3) := fq_180 fk_cX9_attempt_1 13 rfl rfl rfl rfl rfl
theorem wd_257 : Cond.fieldLink RX9 164 "QuarrelBridges$Town" "needs" "[I" ∈ BG := BG_at1 81 (by decide +kernel) rfl
theorem fk_cX9_attempt_2 : fq_ck cX9_attempt 32 [180, 0, 164, 28, 184, 0, 167, 182, 1, 45, 177] := fq_of fW_cX9_attempt 2 rfl rfl
theorem dX9_attempt_32 : decode cX9_attempt 32 = .ok (.getfield 164, 3) := fq_180 fk_cX9_attempt_2 0 rfl rfl rfl rfl rfl
theorem dX9_attempt_35 : decode cX9_attempt 35 = .ok (.iload_n 2, 1) := fq_28 fk_cX9_attempt_2 3 rfl rfl
theorem dX9_attempt_36 : decode cX9_attempt 36 = .ok (.invokestatic 167, 3) := fq_184 fk_cX9_attempt_2 4 rfl rfl rfl rfl rfl
theorem wd_258 : Cond.methodLink RX9 167 yX9_at ∈ BG := BG_at2 204 (by decide +kernel) rfl
theorem dX9_attempt_39 : decode cX9_attempt 39 = .ok (.invokevirtual 301, 3) := fq_182 fk_cX9_attempt_2 7 rfl rfl rfl rfl rfl
theorem wd_259 : Cond.methodLink RX9 301 yX4_run ∈ BG := BG_at3 66 (by decide +kernel) rfl
theorem wd_260 : Cond.code yX4_run cX4_run 7 none ∈ BG := BG_at3 69 rfl rfl
theorem wd_261 : Cond.instanceMethod yX4_run ∈ BG := BG_at3 67 (by decide +kernel) rfl
theorem wd_262 : Cond.selects RX4 yX4_run yX4_run ∈ BG := BG_at3 68 (by decide +kernel) rfl
theorem okV_X4_run : okV yX4_run cX4_run 7 none 4 := ⟨⟨wd_260, wd_117, by decide +kernel⟩, wd_261, wd_262⟩
theorem dX9_attempt_42 : decode cX9_attempt 42 = .ok (.return_, 1) := fq_177 fk_cX9_attempt_2 10 rfl rfl
def fw_cX9_minutesLeft : List (List Nat) := [[42, 180, 0, 79, 42, 180, 0, 40, 27, 182, 0, 177, 42, 180, 0, 30, 27, 28], [27, 28, 182, 0, 195, 42, 180, 0, 30, 180, 0, 136, 16, 100, 182, 1, 45, 42], [45, 42, 180, 0, 79, 180, 1, 49, 153, 0, 13, 42, 180, 0, 79, 180, 1, 8], [1, 8, 167, 0, 6, 17, 3, 231, 172]]
theorem fW_cX9_minutesLeft : fq_wins 4 cX9_minutesLeft.data.toList = fw_cX9_minutesLeft := by decide +kernel
theorem fk_cX9_minutesLeft_0 : fq_ck cX9_minutesLeft 0 [42, 180, 0, 79, 42, 180, 0, 40, 27, 182, 0, 177, 42, 180, 0, 30, 27, 28] := fq_of fW_cX9_minutesLeft 0 rfl rfl
theorem dX9_minutesLeft_0 : decode cX9_minutesLeft 0 = .ok (.aload_n 0, 1) := fq_42 fk_cX9_minutesLeft_0 0 rfl rfl
theorem dX9_minutesLeft_1 : decode cX9_minutesLeft 1 = .ok (.getfield 79, 3) := fq_180 fk_cX9_minutesLeft_0 1 rfl rfl rfl rfl rfl
theorem dX9_minutesLeft_4 : decode cX9_minutesLeft 4 = .ok (.aload_n 0, 1) := fq_42 fk_cX9_minutesLeft_0 4 rfl rfl
theorem dX9_minutesLeft_5 : decode cX9_minutesLeft 5 = .ok (.getfield 40, 3) := fq_180 fk_cX9_minutesLeft_0 5 rfl rfl rfl rfl rfl
theorem dX9_minutesLeft_8 : decode cX9_minutesLeft 8 = .ok (.iload_n 1, 1) := fq_27 fk_cX9_minutesLeft_0 8 rfl rfl
theorem dX9_minutesLeft_9 : decode cX9_minutesLeft 9 = .ok (.invokevirtual 177, 3) := fq_182 fk_cX9_minutesLeft_0 9 rfl rfl rfl rfl rfl
theorem dX9_minutesLeft_12 : decode cX9_minutesLeft 12 = .ok (.aload_n 0, 1) := fq_42 fk_cX9_minutesLeft_0 12 rfl rfl
theorem dX9_minutesLeft_13 : decode cX9_minutesLeft 13 = .ok (.getfield 30, 3) := fq_180 fk_cX9_minutesLeft_0 13 rfl rfl rfl rfl rfl
theorem fk_cX9_minutesLeft_1 : fq_ck cX9_minutesLeft 16 [27, 28, 182, 0, 195, 42, 180, 0, 30, 180, 0, 136, 16, 100, 182, 1, 45, 42] := fq_of fW_cX9_minutesLeft 1 rfl rfl
theorem dX9_minutesLeft_16 : decode cX9_minutesLeft 16 = .ok (.iload_n 1, 1) := fq_27 fk_cX9_minutesLeft_1 0 rfl rfl
theorem dX9_minutesLeft_17 : decode cX9_minutesLeft 17 = .ok (.iload_n 2, 1) := fq_28 fk_cX9_minutesLeft_1 1 rfl rfl
theorem dX9_minutesLeft_18 : decode cX9_minutesLeft 18 = .ok (.invokevirtual 195, 3) := fq_182 fk_cX9_minutesLeft_1 2 rfl rfl rfl rfl rfl
theorem dX9_minutesLeft_21 : decode cX9_minutesLeft 21 = .ok (.aload_n 0, 1) := fq_42 fk_cX9_minutesLeft_1 5 rfl rfl
theorem dX9_minutesLeft_22 : decode cX9_minutesLeft 22 = .ok (.getfield 30, 3) := fq_180 fk_cX9_minutesLeft_1 6 rfl rfl rfl rfl rfl
theorem dX9_minutesLeft_25 : decode cX9_minutesLeft 25 = .ok (.getfield 136, 3) := fq_180 fk_cX9_minutesLeft_1 9 rfl rfl rfl rfl rfl
theorem dX9_minutesLeft_28 : decode cX9_minutesLeft 28 = .ok (.bipush 100, 2) := fq_16 fk_cX9_minutesLeft_1 12 rfl rfl rfl rfl
theorem dX9_minutesLeft_30 : decode cX9_minutesLeft 30 = .ok (.invokevirtual 301, 3) := fq_182 fk_cX9_minutesLeft_1 14 rfl rfl rfl rfl rfl
theorem fk_cX9_minutesLeft_2 : fq_ck cX9_minutesLeft 32 [45, 42, 180, 0, 79, 180, 1, 49, 153, 0, 13, 42, 180, 0, 79, 180, 1, 8] := fq_of fW_cX9_minutesLeft 2 rfl rfl
theorem dX9_minutesLeft_33 : decode cX9_minutesLeft 33 = .ok (.aload_n 0, 1) := fq_42 fk_cX9_minutesLeft_2 1 rfl rfl
theorem dX9_minutesLeft_34 : decode cX9_minutesLeft 34 = .ok (.getfield 79, 3) := fq_180 fk_cX9_minutesLeft_2 2 rfl rfl rfl rfl rfl
theorem wd_263 : Cond.fieldLink RX9 305 "QuarrelBridges$Quarrel" "reconciled" "Z" ∈ BG := BG_at1 195 (by decide +kernel) rfl
theorem dX9_minutesLeft_37 : decode cX9_minutesLeft 37 = .ok (.getfield 305, 3) := fq_180 fk_cX9_minutesLeft_2 5 rfl rfl rfl rfl rfl
theorem dX9_minutesLeft_40 : decode cX9_minutesLeft 40 = .ok (.ifCond .eq 13, 3) := fq_153 fk_cX9_minutesLeft_2 8 rfl rfl rfl rfl rfl
theorem fk_cX9_minutesLeft_3 : fq_ck cX9_minutesLeft 48 [1, 8, 167, 0, 6, 17, 3, 231, 172] := fq_of fW_cX9_minutesLeft 3 rfl rfl
theorem dX9_minutesLeft_53 : decode cX9_minutesLeft 53 = .ok (.sipush 999, 3) := fq_17 fk_cX9_minutesLeft_3 5 rfl rfl rfl rfl rfl
theorem dX9_minutesLeft_56 : decode cX9_minutesLeft 56 = .ok (.ireturn, 1) := fq_172 fk_cX9_minutesLeft_3 8 rfl rfl
theorem dX9_minutesLeft_43 : decode cX9_minutesLeft 43 = .ok (.aload_n 0, 1) := fq_42 fk_cX9_minutesLeft_2 11 rfl rfl
theorem dX9_minutesLeft_44 : decode cX9_minutesLeft 44 = .ok (.getfield 79, 3) := fq_180 fk_cX9_minutesLeft_2 12 rfl rfl rfl rfl rfl
theorem wd_264 : Cond.fieldLink RX9 264 "QuarrelBridges$Quarrel" "minutes" "I" ∈ BG := BG_at1 187 (by decide +kernel) rfl
theorem dX9_minutesLeft_47 : decode cX9_minutesLeft 47 = .ok (.getfield 264, 3) := fq_180 fk_cX9_minutesLeft_2 15 rfl rfl rfl rfl rfl
theorem dX9_minutesLeft_50 : decode cX9_minutesLeft 50 = .ok (.goto 6, 3) := fq_167 fk_cX9_minutesLeft_3 2 rfl rfl rfl rfl rfl
def fw_cX9_themeFor : List (List Nat) := [[2, 62, 3, 54, 4, 3, 54, 5, 42, 180, 0, 40, 27, 182, 0, 189, 153, 0], [153, 0, 5, 2, 172, 3, 54, 6, 21, 6, 42, 180, 0, 30, 180, 0, 127, 162], [127, 162, 0, 101, 42, 27, 28, 21, 6, 182, 1, 0, 42, 180, 0, 79, 180, 1], [180, 1, 8, 21, 4, 161, 0, 27, 42, 180, 0, 79, 180, 1, 8, 21, 4, 160], [4, 160, 0, 19, 42, 180, 0, 79, 180, 1, 10, 21, 5, 162, 0, 7, 4, 167], [4, 167, 0, 4, 3, 54, 7, 42, 180, 0, 79, 180, 1, 4, 153, 0, 34, 29], [34, 29, 2, 159, 0, 8, 21, 7, 153, 0, 24, 21, 6, 62, 42, 180, 0, 79], [0, 79, 180, 1, 8, 54, 4, 42, 180, 0, 79, 180, 1, 10, 54, 5, 132, 6], [132, 6, 1, 167, 255, 149, 29, 172]]
theorem fW_cX9_themeFor : fq_wins 9 cX9_themeFor.data.toList = fw_cX9_themeFor := by decide +kernel
theorem fk_cX9_themeFor_0 : fq_ck cX9_themeFor 0 [2, 62, 3, 54, 4, 3, 54, 5, 42, 180, 0, 40, 27, 182, 0, 189, 153, 0] := fq_of fW_cX9_themeFor 0 rfl rfl
theorem dX9_themeFor_0 : decode cX9_themeFor 0 = .ok (.iconst (-1), 1) := fq_2 fk_cX9_themeFor_0 0 rfl rfl
theorem dX9_themeFor_1 : decode cX9_themeFor 1 = .ok (.istore_n 3, 1) := fq_62 fk_cX9_themeFor_0 1 rfl rfl
theorem dX9_themeFor_2 : decode cX9_themeFor 2 = .ok (.iconst 0, 1) := fq_3 fk_cX9_themeFor_0 2 rfl rfl
theorem dX9_themeFor_3 : decode cX9_themeFor 3 = .ok (.istore 4, 2) := fq_54 fk_cX9_themeFor_0 3 rfl rfl rfl
theorem dX9_themeFor_5 : decode cX9_themeFor 5 = .ok (.iconst 0, 1) := fq_3 fk_cX9_themeFor_0 5 rfl rfl
theorem dX9_themeFor_6 : decode cX9_themeFor 6 = .ok (.istore 5, 2) := fq_54 fk_cX9_themeFor_0 6 rfl rfl rfl
theorem dX9_themeFor_8 : decode cX9_themeFor 8 = .ok (.aload_n 0, 1) := fq_42 fk_cX9_themeFor_0 8 rfl rfl
theorem dX9_themeFor_9 : decode cX9_themeFor 9 = .ok (.getfield 40, 3) := fq_180 fk_cX9_themeFor_0 9 rfl rfl rfl rfl rfl
theorem dX9_themeFor_12 : decode cX9_themeFor 12 = .ok (.iload_n 1, 1) := fq_27 fk_cX9_themeFor_0 12 rfl rfl
theorem dX9_themeFor_13 : decode cX9_themeFor 13 = .ok (.invokevirtual 189, 3) := fq_182 fk_cX9_themeFor_0 13 rfl rfl rfl rfl rfl
theorem wd_265 : Cond.methodLink RX9 189 yX7_isReconciled ∈ BG := BG_at2 227 (by decide +kernel) rfl
theorem wd_266 : Cond.code yX7_isReconciled cX7_isReconciled 2 (some .boolean) ∈ BG := BG_at2 230 rfl rfl
theorem wd_267 : Cond.instanceMethod yX7_isReconciled ∈ BG := BG_at2 228 (by decide +kernel) rfl
theorem wd_268 : Cond.selects RX7 yX7_isReconciled yX7_isReconciled ∈ BG := BG_at2 229 (by decide +kernel) rfl
theorem okV_X7_isReconciled : okV yX7_isReconciled cX7_isReconciled 2 (some .boolean) 1 := ⟨⟨wd_266, wd_93, by decide +kernel⟩, wd_267, wd_268⟩
theorem fk_cX9_themeFor_1 : fq_ck cX9_themeFor 16 [153, 0, 5, 2, 172, 3, 54, 6, 21, 6, 42, 180, 0, 30, 180, 0, 127, 162] := fq_of fW_cX9_themeFor 1 rfl rfl
theorem dX9_themeFor_16 : decode cX9_themeFor 16 = .ok (.ifCond .eq 5, 3) := fq_153 fk_cX9_themeFor_1 0 rfl rfl rfl rfl rfl
theorem dX9_themeFor_21 : decode cX9_themeFor 21 = .ok (.iconst 0, 1) := fq_3 fk_cX9_themeFor_1 5 rfl rfl
theorem dX9_themeFor_22 : decode cX9_themeFor 22 = .ok (.istore 6, 2) := fq_54 fk_cX9_themeFor_1 6 rfl rfl rfl
theorem fk_cX9_themeFor_8 : fq_ck cX9_themeFor 128 [132, 6, 1, 167, 255, 149, 29, 172] := fq_of fW_cX9_themeFor 8 rfl rfl
theorem dX9_themeFor_134 : decode cX9_themeFor 134 = .ok (.iload_n 3, 1) := fq_29 fk_cX9_themeFor_8 6 rfl rfl
theorem dX9_themeFor_135 : decode cX9_themeFor 135 = .ok (.ireturn, 1) := fq_172 fk_cX9_themeFor_8 7 rfl rfl
theorem dX9_themeFor_24 : decode cX9_themeFor 24 = .ok (.iload 6, 2) := fq_21 fk_cX9_themeFor_1 8 rfl rfl rfl
theorem dX9_themeFor_26 : decode cX9_themeFor 26 = .ok (.aload_n 0, 1) := fq_42 fk_cX9_themeFor_1 10 rfl rfl
theorem dX9_themeFor_27 : decode cX9_themeFor 27 = .ok (.getfield 30, 3) := fq_180 fk_cX9_themeFor_1 11 rfl rfl rfl rfl rfl
theorem wd_269 : Cond.fieldLink RX9 127 "QuarrelBridges$Town" "themes" "I" ∈ BG := BG_at1 67 (by decide +kernel) rfl
theorem dX9_themeFor_30 : decode cX9_themeFor 30 = .ok (.getfield 127, 3) := fq_180 fk_cX9_themeFor_1 14 rfl rfl rfl rfl rfl
theorem fk_cX9_themeFor_2 : fq_ck cX9_themeFor 32 [127, 162, 0, 101, 42, 27, 28, 21, 6, 182, 1, 0, 42, 180, 0, 79, 180, 1] := fq_of fW_cX9_themeFor 2 rfl rfl
theorem dX9_themeFor_33 : decode cX9_themeFor 33 = .ok (.if_icmp .ge 101, 3) := fq_162 fk_cX9_themeFor_2 1 rfl rfl rfl rfl rfl
theorem dX9_themeFor_36 : decode cX9_themeFor 36 = .ok (.aload_n 0, 1) := fq_42 fk_cX9_themeFor_2 4 rfl rfl
theorem dX9_themeFor_37 : decode cX9_themeFor 37 = .ok (.iload_n 1, 1) := fq_27 fk_cX9_themeFor_2 5 rfl rfl
theorem dX9_themeFor_38 : decode cX9_themeFor 38 = .ok (.iload_n 2, 1) := fq_28 fk_cX9_themeFor_2 6 rfl rfl
theorem dX9_themeFor_39 : decode cX9_themeFor 39 = .ok (.iload 6, 2) := fq_21 fk_cX9_themeFor_2 7 rfl rfl rfl
theorem dX9_themeFor_41 : decode cX9_themeFor 41 = .ok (.invokevirtual 256, 3) := fq_182 fk_cX9_themeFor_2 9 rfl rfl rfl rfl rfl
theorem wd_270 : Cond.methodLink RX9 256 yX9_attempt ∈ BG := BG_at3 62 (by decide +kernel) rfl
theorem wd_271 : Cond.code yX9_attempt cX9_attempt 4 none ∈ BG := BG_at3 65 rfl rfl
theorem wd_272 : Cond.instanceMethod yX9_attempt ∈ BG := BG_at3 64 (by decide +kernel) rfl
theorem wd_273 : Cond.selects RX9 yX9_attempt yX9_attempt ∈ BG := BG_in (by decide +kernel) rfl
theorem okV_X9_attempt : okV yX9_attempt cX9_attempt 4 none 3 := ⟨⟨wd_271, wd_71, by decide +kernel⟩, wd_272, wd_273⟩
theorem dX9_themeFor_44 : decode cX9_themeFor 44 = .ok (.aload_n 0, 1) := fq_42 fk_cX9_themeFor_2 12 rfl rfl
theorem dX9_themeFor_45 : decode cX9_themeFor 45 = .ok (.getfield 79, 3) := fq_180 fk_cX9_themeFor_2 13 rfl rfl rfl rfl rfl
theorem fk_cX9_themeFor_3 : fq_ck cX9_themeFor 48 [180, 1, 8, 21, 4, 161, 0, 27, 42, 180, 0, 79, 180, 1, 8, 21, 4, 160] := fq_of fW_cX9_themeFor 3 rfl rfl
theorem dX9_themeFor_48 : decode cX9_themeFor 48 = .ok (.getfield 264, 3) := fq_180 fk_cX9_themeFor_3 0 rfl rfl rfl rfl rfl
theorem dX9_themeFor_51 : decode cX9_themeFor 51 = .ok (.iload 4, 2) := fq_21 fk_cX9_themeFor_3 3 rfl rfl rfl
theorem dX9_themeFor_53 : decode cX9_themeFor 53 = .ok (.if_icmp .lt 27, 3) := fq_161 fk_cX9_themeFor_3 5 rfl rfl rfl rfl rfl
theorem fk_cX9_themeFor_5 : fq_ck cX9_themeFor 80 [4, 167, 0, 4, 3, 54, 7, 42, 180, 0, 79, 180, 1, 4, 153, 0, 34, 29] := fq_of fW_cX9_themeFor 5 rfl rfl
theorem dX9_themeFor_80 : decode cX9_themeFor 80 = .ok (.iconst 1, 1) := fq_4 fk_cX9_themeFor_5 0 rfl rfl
theorem dX9_themeFor_81 : decode cX9_themeFor 81 = .ok (.goto 4, 3) := fq_167 fk_cX9_themeFor_5 1 rfl rfl rfl rfl rfl
theorem dX9_themeFor_85 : decode cX9_themeFor 85 = .ok (.istore 7, 2) := fq_54 fk_cX9_themeFor_5 5 rfl rfl rfl
theorem dX9_themeFor_87 : decode cX9_themeFor 87 = .ok (.aload_n 0, 1) := fq_42 fk_cX9_themeFor_5 7 rfl rfl
theorem dX9_themeFor_88 : decode cX9_themeFor 88 = .ok (.getfield 79, 3) := fq_180 fk_cX9_themeFor_5 8 rfl rfl rfl rfl rfl
theorem wd_274 : Cond.fieldLink RX9 260 "QuarrelBridges$Quarrel" "opened" "Z" ∈ BG := BG_at1 193 (by decide +kernel) rfl
theorem dX9_themeFor_91 : decode cX9_themeFor 91 = .ok (.getfield 260, 3) := fq_180 fk_cX9_themeFor_5 11 rfl rfl rfl rfl rfl
theorem dX9_themeFor_94 : decode cX9_themeFor 94 = .ok (.ifCond .eq 34, 3) := fq_153 fk_cX9_themeFor_5 14 rfl rfl rfl rfl rfl
theorem dX9_themeFor_128 : decode cX9_themeFor 128 = .ok (.iinc 6 1, 3) := fq_132 fk_cX9_themeFor_8 0 rfl rfl rfl rfl rfl
theorem dX9_themeFor_131 : decode cX9_themeFor 131 = .ok (.goto (-107), 3) := fq_167 fk_cX9_themeFor_8 3 rfl rfl rfl rfl rfl
theorem fk_cX9_themeFor_6 : fq_ck cX9_themeFor 96 [34, 29, 2, 159, 0, 8, 21, 7, 153, 0, 24, 21, 6, 62, 42, 180, 0, 79] := fq_of fW_cX9_themeFor 6 rfl rfl
theorem dX9_themeFor_97 : decode cX9_themeFor 97 = .ok (.iload_n 3, 1) := fq_29 fk_cX9_themeFor_6 1 rfl rfl
theorem dX9_themeFor_98 : decode cX9_themeFor 98 = .ok (.iconst (-1), 1) := fq_2 fk_cX9_themeFor_6 2 rfl rfl
theorem dX9_themeFor_99 : decode cX9_themeFor 99 = .ok (.if_icmp .eq 8, 3) := fq_159 fk_cX9_themeFor_6 3 rfl rfl rfl rfl rfl
theorem dX9_themeFor_107 : decode cX9_themeFor 107 = .ok (.iload 6, 2) := fq_21 fk_cX9_themeFor_6 11 rfl rfl rfl
theorem dX9_themeFor_109 : decode cX9_themeFor 109 = .ok (.istore_n 3, 1) := fq_62 fk_cX9_themeFor_6 13 rfl rfl
theorem dX9_themeFor_110 : decode cX9_themeFor 110 = .ok (.aload_n 0, 1) := fq_42 fk_cX9_themeFor_6 14 rfl rfl
theorem dX9_themeFor_111 : decode cX9_themeFor 111 = .ok (.getfield 79, 3) := fq_180 fk_cX9_themeFor_6 15 rfl rfl rfl rfl rfl
theorem fk_cX9_themeFor_7 : fq_ck cX9_themeFor 112 [0, 79, 180, 1, 8, 54, 4, 42, 180, 0, 79, 180, 1, 10, 54, 5, 132, 6] := fq_of fW_cX9_themeFor 7 rfl rfl
theorem dX9_themeFor_114 : decode cX9_themeFor 114 = .ok (.getfield 264, 3) := fq_180 fk_cX9_themeFor_7 2 rfl rfl rfl rfl rfl
theorem dX9_themeFor_117 : decode cX9_themeFor 117 = .ok (.istore 4, 2) := fq_54 fk_cX9_themeFor_7 5 rfl rfl rfl
theorem dX9_themeFor_119 : decode cX9_themeFor 119 = .ok (.aload_n 0, 1) := fq_42 fk_cX9_themeFor_7 7 rfl rfl
theorem dX9_themeFor_120 : decode cX9_themeFor 120 = .ok (.getfield 79, 3) := fq_180 fk_cX9_themeFor_7 8 rfl rfl rfl rfl rfl
theorem wd_275 : Cond.fieldLink RX9 266 "QuarrelBridges$Quarrel" "cost" "I" ∈ BG := BG_at1 189 (by decide +kernel) rfl
theorem dX9_themeFor_123 : decode cX9_themeFor 123 = .ok (.getfield 266, 3) := fq_180 fk_cX9_themeFor_7 11 rfl rfl rfl rfl rfl
theorem dX9_themeFor_126 : decode cX9_themeFor 126 = .ok (.istore 5, 2) := fq_54 fk_cX9_themeFor_7 14 rfl rfl rfl
theorem dX9_themeFor_102 : decode cX9_themeFor 102 = .ok (.iload 7, 2) := fq_21 fk_cX9_themeFor_6 6 rfl rfl rfl
theorem dX9_themeFor_104 : decode cX9_themeFor 104 = .ok (.ifCond .eq 24, 3) := fq_153 fk_cX9_themeFor_6 8 rfl rfl rfl rfl rfl
theorem dX9_themeFor_56 : decode cX9_themeFor 56 = .ok (.aload_n 0, 1) := fq_42 fk_cX9_themeFor_3 8 rfl rfl
theorem dX9_themeFor_57 : decode cX9_themeFor 57 = .ok (.getfield 79, 3) := fq_180 fk_cX9_themeFor_3 9 rfl rfl rfl rfl rfl
theorem dX9_themeFor_60 : decode cX9_themeFor 60 = .ok (.getfield 264, 3) := fq_180 fk_cX9_themeFor_3 12 rfl rfl rfl rfl rfl
theorem dX9_themeFor_63 : decode cX9_themeFor 63 = .ok (.iload 4, 2) := fq_21 fk_cX9_themeFor_3 15 rfl rfl rfl
theorem fk_cX9_themeFor_4 : fq_ck cX9_themeFor 64 [4, 160, 0, 19, 42, 180, 0, 79, 180, 1, 10, 21, 5, 162, 0, 7, 4, 167] := fq_of fW_cX9_themeFor 4 rfl rfl
theorem dX9_themeFor_65 : decode cX9_themeFor 65 = .ok (.if_icmp .ne 19, 3) := fq_160 fk_cX9_themeFor_4 1 rfl rfl rfl rfl rfl
theorem dX9_themeFor_84 : decode cX9_themeFor 84 = .ok (.iconst 0, 1) := fq_3 fk_cX9_themeFor_5 4 rfl rfl
theorem dX9_themeFor_68 : decode cX9_themeFor 68 = .ok (.aload_n 0, 1) := fq_42 fk_cX9_themeFor_4 4 rfl rfl
theorem dX9_themeFor_69 : decode cX9_themeFor 69 = .ok (.getfield 79, 3) := fq_180 fk_cX9_themeFor_4 5 rfl rfl rfl rfl rfl
theorem dX9_themeFor_72 : decode cX9_themeFor 72 = .ok (.getfield 266, 3) := fq_180 fk_cX9_themeFor_4 8 rfl rfl rfl rfl rfl
theorem dX9_themeFor_75 : decode cX9_themeFor 75 = .ok (.iload 5, 2) := fq_21 fk_cX9_themeFor_4 11 rfl rfl rfl
theorem dX9_themeFor_77 : decode cX9_themeFor 77 = .ok (.if_icmp .ge 7, 3) := fq_162 fk_cX9_themeFor_4 13 rfl rfl rfl rfl rfl
theorem dX9_themeFor_19 : decode cX9_themeFor 19 = .ok (.iconst (-1), 1) := fq_2 fk_cX9_themeFor_1 3 rfl rfl
theorem dX9_themeFor_20 : decode cX9_themeFor 20 = .ok (.ireturn, 1) := fq_172 fk_cX9_themeFor_1 4 rfl rfl
def fw_cX9_costFor : List (List Nat) := [[42, 27, 28, 182, 1, 13, 62, 29, 2, 160, 0, 5, 2, 172, 42, 27, 28, 29], [28, 29, 182, 1, 0, 42, 180, 0, 79, 180, 1, 10, 172]]
theorem fW_cX9_costFor : fq_wins 2 cX9_costFor.data.toList = fw_cX9_costFor := by decide +kernel
theorem fk_cX9_costFor_0 : fq_ck cX9_costFor 0 [42, 27, 28, 182, 1, 13, 62, 29, 2, 160, 0, 5, 2, 172, 42, 27, 28, 29] := fq_of fW_cX9_costFor 0 rfl rfl
theorem dX9_costFor_0 : decode cX9_costFor 0 = .ok (.aload_n 0, 1) := fq_42 fk_cX9_costFor_0 0 rfl rfl
theorem dX9_costFor_1 : decode cX9_costFor 1 = .ok (.iload_n 1, 1) := fq_27 fk_cX9_costFor_0 1 rfl rfl
theorem dX9_costFor_2 : decode cX9_costFor 2 = .ok (.iload_n 2, 1) := fq_28 fk_cX9_costFor_0 2 rfl rfl
theorem dX9_costFor_3 : decode cX9_costFor 3 = .ok (.invokevirtual 269, 3) := fq_182 fk_cX9_costFor_0 3 rfl rfl rfl rfl rfl
theorem wd_276 : Cond.methodLink RX9 269 yX9_themeFor ∈ BG := BG_at3 137 (by decide +kernel) rfl
theorem wd_277 : Cond.code yX9_themeFor cX9_themeFor 8 (some .int) ∈ BG := BG_at3 140 rfl rfl
theorem wd_278 : Cond.instanceMethod yX9_themeFor ∈ BG := BG_at3 139 (by decide +kernel) rfl
theorem wd_279 : Cond.selects RX9 yX9_themeFor yX9_themeFor ∈ BG := BG_in (by decide +kernel) rfl
theorem okV_X9_themeFor : okV yX9_themeFor cX9_themeFor 8 (some .int) 2 := ⟨⟨wd_277, wd_71, by decide +kernel⟩, wd_278, wd_279⟩
theorem dX9_costFor_6 : decode cX9_costFor 6 = .ok (.istore_n 3, 1) := fq_62 fk_cX9_costFor_0 6 rfl rfl
theorem dX9_costFor_7 : decode cX9_costFor 7 = .ok (.iload_n 3, 1) := fq_29 fk_cX9_costFor_0 7 rfl rfl
theorem dX9_costFor_8 : decode cX9_costFor 8 = .ok (.iconst (-1), 1) := fq_2 fk_cX9_costFor_0 8 rfl rfl
theorem dX9_costFor_9 : decode cX9_costFor 9 = .ok (.if_icmp .ne 5, 3) := fq_160 fk_cX9_costFor_0 9 rfl rfl rfl rfl rfl
theorem dX9_costFor_14 : decode cX9_costFor 14 = .ok (.aload_n 0, 1) := fq_42 fk_cX9_costFor_0 14 rfl rfl
theorem dX9_costFor_15 : decode cX9_costFor 15 = .ok (.iload_n 1, 1) := fq_27 fk_cX9_costFor_0 15 rfl rfl
theorem fk_cX9_costFor_1 : fq_ck cX9_costFor 16 [28, 29, 182, 1, 0, 42, 180, 0, 79, 180, 1, 10, 172] := fq_of fW_cX9_costFor 1 rfl rfl
theorem dX9_costFor_16 : decode cX9_costFor 16 = .ok (.iload_n 2, 1) := fq_28 fk_cX9_costFor_1 0 rfl rfl
theorem dX9_costFor_17 : decode cX9_costFor 17 = .ok (.iload_n 3, 1) := fq_29 fk_cX9_costFor_1 1 rfl rfl
theorem dX9_costFor_18 : decode cX9_costFor 18 = .ok (.invokevirtual 256, 3) := fq_182 fk_cX9_costFor_1 2 rfl rfl rfl rfl rfl
theorem dX9_costFor_21 : decode cX9_costFor 21 = .ok (.aload_n 0, 1) := fq_42 fk_cX9_costFor_1 5 rfl rfl
theorem dX9_costFor_22 : decode cX9_costFor 22 = .ok (.getfield 79, 3) := fq_180 fk_cX9_costFor_1 6 rfl rfl rfl rfl rfl
theorem dX9_costFor_25 : decode cX9_costFor 25 = .ok (.getfield 266, 3) := fq_180 fk_cX9_costFor_1 9 rfl rfl rfl rfl rfl
theorem dX9_costFor_28 : decode cX9_costFor 28 = .ok (.ireturn, 1) := fq_172 fk_cX9_costFor_1 12 rfl rfl
theorem dX9_costFor_12 : decode cX9_costFor 12 = .ok (.iconst (-1), 1) := fq_2 fk_cX9_costFor_0 12 rfl rfl
theorem dX9_costFor_13 : decode cX9_costFor 13 = .ok (.ireturn, 1) := fq_172 fk_cX9_costFor_0 13 rfl rfl
def fw_cX9_draw : List (List Nat) := [[27, 157, 0, 5, 3, 172, 42, 42, 180, 0, 73, 133, 20, 1, 91, 105, 20, 1], [20, 1, 93, 97, 20, 1, 95, 127, 136, 181, 0, 73, 42, 180, 0, 73, 19, 1], [19, 1, 97, 108, 27, 112, 172]]
theorem fW_cX9_draw : fq_wins 3 cX9_draw.data.toList = fw_cX9_draw := by decide +kernel
theorem fk_cX9_draw_0 : fq_ck cX9_draw 0 [27, 157, 0, 5, 3, 172, 42, 42, 180, 0, 73, 133, 20, 1, 91, 105, 20, 1] := fq_of fW_cX9_draw 0 rfl rfl
theorem dX9_draw_0 : decode cX9_draw 0 = .ok (.iload_n 1, 1) := fq_27 fk_cX9_draw_0 0 rfl rfl
theorem dX9_draw_1 : decode cX9_draw 1 = .ok (.ifCond .gt 5, 3) := fq_157 fk_cX9_draw_0 1 rfl rfl rfl rfl rfl
theorem dX9_draw_6 : decode cX9_draw 6 = .ok (.aload_n 0, 1) := fq_42 fk_cX9_draw_0 6 rfl rfl
theorem dX9_draw_7 : decode cX9_draw 7 = .ok (.aload_n 0, 1) := fq_42 fk_cX9_draw_0 7 rfl rfl
theorem dX9_draw_8 : decode cX9_draw 8 = .ok (.getfield 73, 3) := fq_180 fk_cX9_draw_0 8 rfl rfl rfl rfl rfl
theorem dX9_draw_11 : decode cX9_draw 11 = .ok (.i2l, 1) := fq_133 fk_cX9_draw_0 11 rfl rfl
theorem wd_280 : Cond.constantLong RX9 347 (1103515245) ∈ BG := BG_at3 113 (by decide +kernel) rfl
theorem dX9_draw_12 : decode cX9_draw 12 = .ok (.ldc2_w 347, 3) := fq_20 fk_cX9_draw_0 12 rfl rfl rfl rfl rfl
theorem dX9_draw_15 : decode cX9_draw 15 = .ok (.lmul, 1) := fq_105 fk_cX9_draw_0 15 rfl rfl
theorem wd_281 : Cond.constantLong RX9 349 (12345) ∈ BG := BG_at3 114 (by decide +kernel) rfl
theorem fk_cX9_draw_1 : fq_ck cX9_draw 16 [20, 1, 93, 97, 20, 1, 95, 127, 136, 181, 0, 73, 42, 180, 0, 73, 19, 1] := fq_of fW_cX9_draw 1 rfl rfl
theorem dX9_draw_16 : decode cX9_draw 16 = .ok (.ldc2_w 349, 3) := fq_20 fk_cX9_draw_1 0 rfl rfl rfl rfl rfl
theorem dX9_draw_19 : decode cX9_draw 19 = .ok (.ladd, 1) := fq_97 fk_cX9_draw_1 3 rfl rfl
theorem wd_282 : Cond.constantLong RX9 351 (2147483647) ∈ BG := BG_at3 115 (by decide +kernel) rfl
theorem dX9_draw_20 : decode cX9_draw 20 = .ok (.ldc2_w 351, 3) := fq_20 fk_cX9_draw_1 4 rfl rfl rfl rfl rfl
theorem dX9_draw_23 : decode cX9_draw 23 = .ok (.land, 1) := fq_127 fk_cX9_draw_1 7 rfl rfl
theorem dX9_draw_24 : decode cX9_draw 24 = .ok (.l2i, 1) := fq_136 fk_cX9_draw_1 8 rfl rfl
theorem dX9_draw_25 : decode cX9_draw 25 = .ok (.putfield 73, 3) := fq_181 fk_cX9_draw_1 9 rfl rfl rfl rfl rfl
theorem dX9_draw_28 : decode cX9_draw 28 = .ok (.aload_n 0, 1) := fq_42 fk_cX9_draw_1 12 rfl rfl
theorem dX9_draw_29 : decode cX9_draw 29 = .ok (.getfield 73, 3) := fq_180 fk_cX9_draw_1 13 rfl rfl rfl rfl rfl
theorem wd_283 : Cond.constant RX9 353 (65536) ∈ BG := BG_at3 116 (by decide +kernel) rfl
theorem fk_cX9_draw_2 : fq_ck cX9_draw 32 [19, 1, 97, 108, 27, 112, 172] := fq_of fW_cX9_draw 2 rfl rfl
theorem dX9_draw_32 : decode cX9_draw 32 = .ok (.ldc_w 353, 3) := fq_19 fk_cX9_draw_2 0 rfl rfl rfl rfl rfl
theorem dX9_draw_35 : decode cX9_draw 35 = .ok (.idiv, 1) := fq_108 fk_cX9_draw_2 3 rfl rfl
theorem dX9_draw_36 : decode cX9_draw 36 = .ok (.iload_n 1, 1) := fq_27 fk_cX9_draw_2 4 rfl rfl
theorem dX9_draw_37 : decode cX9_draw 37 = .ok (.irem, 1) := fq_112 fk_cX9_draw_2 5 rfl rfl
theorem dX9_draw_38 : decode cX9_draw 38 = .ok (.ireturn, 1) := fq_172 fk_cX9_draw_2 6 rfl rfl
theorem dX9_draw_4 : decode cX9_draw 4 = .ok (.iconst 0, 1) := fq_3 fk_cX9_draw_0 4 rfl rfl
theorem dX9_draw_5 : decode cX9_draw 5 = .ok (.ireturn, 1) := fq_172 fk_cX9_draw_0 5 rfl rfl
def fw_cJ6_bitCount_0f7a4 : List (List Nat) := [[26, 26, 4, 124, 19, 1, 9, 126, 100, 59, 26, 19, 1, 10, 126, 26, 5, 124], [5, 124, 19, 1, 10, 126, 96, 59, 26, 26, 7, 124, 96, 19, 1, 11, 126, 59], [126, 59, 26, 26, 16, 8, 124, 96, 59, 26, 26, 16, 16, 124, 96, 59, 26, 16], [26, 16, 63, 126, 172]]
theorem fW_cJ6_bitCount_0f7a4 : fq_wins 4 cJ6_bitCount_0f7a4.data.toList = fw_cJ6_bitCount_0f7a4 := by decide +kernel
theorem fk_cJ6_bitCount_0f7a4_0 : fq_ck cJ6_bitCount_0f7a4 0 [26, 26, 4, 124, 19, 1, 9, 126, 100, 59, 26, 19, 1, 10, 126, 26, 5, 124] := fq_of fW_cJ6_bitCount_0f7a4 0 rfl rfl
theorem dJ6_bitCount_0f7a4_0 : decode cJ6_bitCount_0f7a4 0 = .ok (.iload_n 0, 1) := fq_26 fk_cJ6_bitCount_0f7a4_0 0 rfl rfl
theorem dJ6_bitCount_0f7a4_1 : decode cJ6_bitCount_0f7a4 1 = .ok (.iload_n 0, 1) := fq_26 fk_cJ6_bitCount_0f7a4_0 1 rfl rfl
theorem dJ6_bitCount_0f7a4_2 : decode cJ6_bitCount_0f7a4 2 = .ok (.iconst 1, 1) := fq_4 fk_cJ6_bitCount_0f7a4_0 2 rfl rfl
theorem dJ6_bitCount_0f7a4_3 : decode cJ6_bitCount_0f7a4 3 = .ok (.iushr, 1) := fq_124 fk_cJ6_bitCount_0f7a4_0 3 rfl rfl
theorem wd_284 : Cond.constant RJ6 265 (1431655765) ∈ BG := BG_at3 161 (by decide +kernel) rfl
theorem dJ6_bitCount_0f7a4_4 : decode cJ6_bitCount_0f7a4 4 = .ok (.ldc_w 265, 3) := fq_19 fk_cJ6_bitCount_0f7a4_0 4 rfl rfl rfl rfl rfl
theorem dJ6_bitCount_0f7a4_7 : decode cJ6_bitCount_0f7a4 7 = .ok (.iand, 1) := fq_126 fk_cJ6_bitCount_0f7a4_0 7 rfl rfl
theorem dJ6_bitCount_0f7a4_8 : decode cJ6_bitCount_0f7a4 8 = .ok (.isub, 1) := fq_100 fk_cJ6_bitCount_0f7a4_0 8 rfl rfl
theorem dJ6_bitCount_0f7a4_9 : decode cJ6_bitCount_0f7a4 9 = .ok (.istore_n 0, 1) := fq_59 fk_cJ6_bitCount_0f7a4_0 9 rfl rfl
theorem dJ6_bitCount_0f7a4_10 : decode cJ6_bitCount_0f7a4 10 = .ok (.iload_n 0, 1) := fq_26 fk_cJ6_bitCount_0f7a4_0 10 rfl rfl
theorem wd_285 : Cond.constant RJ6 266 (858993459) ∈ BG := BG_at3 162 (by decide +kernel) rfl
theorem dJ6_bitCount_0f7a4_11 : decode cJ6_bitCount_0f7a4 11 = .ok (.ldc_w 266, 3) := fq_19 fk_cJ6_bitCount_0f7a4_0 11 rfl rfl rfl rfl rfl
theorem dJ6_bitCount_0f7a4_14 : decode cJ6_bitCount_0f7a4 14 = .ok (.iand, 1) := fq_126 fk_cJ6_bitCount_0f7a4_0 14 rfl rfl
theorem dJ6_bitCount_0f7a4_15 : decode cJ6_bitCount_0f7a4 15 = .ok (.iload_n 0, 1) := fq_26 fk_cJ6_bitCount_0f7a4_0 15 rfl rfl
theorem fk_cJ6_bitCount_0f7a4_1 : fq_ck cJ6_bitCount_0f7a4 16 [5, 124, 19, 1, 10, 126, 96, 59, 26, 26, 7, 124, 96, 19, 1, 11, 126, 59] := fq_of fW_cJ6_bitCount_0f7a4 1 rfl rfl
theorem dJ6_bitCount_0f7a4_16 : decode cJ6_bitCount_0f7a4 16 = .ok (.iconst 2, 1) := fq_5 fk_cJ6_bitCount_0f7a4_1 0 rfl rfl
theorem dJ6_bitCount_0f7a4_17 : decode cJ6_bitCount_0f7a4 17 = .ok (.iushr, 1) := fq_124 fk_cJ6_bitCount_0f7a4_1 1 rfl rfl
theorem dJ6_bitCount_0f7a4_18 : decode cJ6_bitCount_0f7a4 18 = .ok (.ldc_w 266, 3) := fq_19 fk_cJ6_bitCount_0f7a4_1 2 rfl rfl rfl rfl rfl
theorem dJ6_bitCount_0f7a4_21 : decode cJ6_bitCount_0f7a4 21 = .ok (.iand, 1) := fq_126 fk_cJ6_bitCount_0f7a4_1 5 rfl rfl
theorem dJ6_bitCount_0f7a4_22 : decode cJ6_bitCount_0f7a4 22 = .ok (.iadd, 1) := fq_96 fk_cJ6_bitCount_0f7a4_1 6 rfl rfl
theorem dJ6_bitCount_0f7a4_23 : decode cJ6_bitCount_0f7a4 23 = .ok (.istore_n 0, 1) := fq_59 fk_cJ6_bitCount_0f7a4_1 7 rfl rfl
theorem dJ6_bitCount_0f7a4_24 : decode cJ6_bitCount_0f7a4 24 = .ok (.iload_n 0, 1) := fq_26 fk_cJ6_bitCount_0f7a4_1 8 rfl rfl
theorem dJ6_bitCount_0f7a4_25 : decode cJ6_bitCount_0f7a4 25 = .ok (.iload_n 0, 1) := fq_26 fk_cJ6_bitCount_0f7a4_1 9 rfl rfl
theorem dJ6_bitCount_0f7a4_26 : decode cJ6_bitCount_0f7a4 26 = .ok (.iconst 4, 1) := fq_7 fk_cJ6_bitCount_0f7a4_1 10 rfl rfl
theorem dJ6_bitCount_0f7a4_27 : decode cJ6_bitCount_0f7a4 27 = .ok (.iushr, 1) := fq_124 fk_cJ6_bitCount_0f7a4_1 11 rfl rfl
theorem dJ6_bitCount_0f7a4_28 : decode cJ6_bitCount_0f7a4 28 = .ok (.iadd, 1) := fq_96 fk_cJ6_bitCount_0f7a4_1 12 rfl rfl
theorem wd_286 : Cond.constant RJ6 267 (252645135) ∈ BG := BG_at3 163 (by decide +kernel) rfl
theorem dJ6_bitCount_0f7a4_29 : decode cJ6_bitCount_0f7a4 29 = .ok (.ldc_w 267, 3) := fq_19 fk_cJ6_bitCount_0f7a4_1 13 rfl rfl rfl rfl rfl
theorem fk_cJ6_bitCount_0f7a4_2 : fq_ck cJ6_bitCount_0f7a4 32 [126, 59, 26, 26, 16, 8, 124, 96, 59, 26, 26, 16, 16, 124, 96, 59, 26, 16] := fq_of fW_cJ6_bitCount_0f7a4 2 rfl rfl
theorem dJ6_bitCount_0f7a4_32 : decode cJ6_bitCount_0f7a4 32 = .ok (.iand, 1) := fq_126 fk_cJ6_bitCount_0f7a4_2 0 rfl rfl
theorem dJ6_bitCount_0f7a4_33 : decode cJ6_bitCount_0f7a4 33 = .ok (.istore_n 0, 1) := fq_59 fk_cJ6_bitCount_0f7a4_2 1 rfl rfl
theorem dJ6_bitCount_0f7a4_34 : decode cJ6_bitCount_0f7a4 34 = .ok (.iload_n 0, 1) := fq_26 fk_cJ6_bitCount_0f7a4_2 2 rfl rfl
theorem dJ6_bitCount_0f7a4_35 : decode cJ6_bitCount_0f7a4 35 = .ok (.iload_n 0, 1) := fq_26 fk_cJ6_bitCount_0f7a4_2 3 rfl rfl
theorem dJ6_bitCount_0f7a4_36 : decode cJ6_bitCount_0f7a4 36 = .ok (.bipush 8, 2) := fq_16 fk_cJ6_bitCount_0f7a4_2 4 rfl rfl rfl rfl
theorem dJ6_bitCount_0f7a4_38 : decode cJ6_bitCount_0f7a4 38 = .ok (.iushr, 1) := fq_124 fk_cJ6_bitCount_0f7a4_2 6 rfl rfl
theorem dJ6_bitCount_0f7a4_39 : decode cJ6_bitCount_0f7a4 39 = .ok (.iadd, 1) := fq_96 fk_cJ6_bitCount_0f7a4_2 7 rfl rfl
theorem dJ6_bitCount_0f7a4_40 : decode cJ6_bitCount_0f7a4 40 = .ok (.istore_n 0, 1) := fq_59 fk_cJ6_bitCount_0f7a4_2 8 rfl rfl
theorem dJ6_bitCount_0f7a4_41 : decode cJ6_bitCount_0f7a4 41 = .ok (.iload_n 0, 1) := fq_26 fk_cJ6_bitCount_0f7a4_2 9 rfl rfl
theorem dJ6_bitCount_0f7a4_42 : decode cJ6_bitCount_0f7a4 42 = .ok (.iload_n 0, 1) := fq_26 fk_cJ6_bitCount_0f7a4_2 10 rfl rfl
theorem dJ6_bitCount_0f7a4_43 : decode cJ6_bitCount_0f7a4 43 = .ok (.bipush 16, 2) := fq_16 fk_cJ6_bitCount_0f7a4_2 11 rfl rfl rfl rfl
theorem dJ6_bitCount_0f7a4_45 : decode cJ6_bitCount_0f7a4 45 = .ok (.iushr, 1) := fq_124 fk_cJ6_bitCount_0f7a4_2 13 rfl rfl
theorem dJ6_bitCount_0f7a4_46 : decode cJ6_bitCount_0f7a4 46 = .ok (.iadd, 1) := fq_96 fk_cJ6_bitCount_0f7a4_2 14 rfl rfl
theorem dJ6_bitCount_0f7a4_47 : decode cJ6_bitCount_0f7a4 47 = .ok (.istore_n 0, 1) := fq_59 fk_cJ6_bitCount_0f7a4_2 15 rfl rfl
theorem fk_cJ6_bitCount_0f7a4_3 : fq_ck cJ6_bitCount_0f7a4 48 [26, 16, 63, 126, 172] := fq_of fW_cJ6_bitCount_0f7a4 3 rfl rfl
theorem dJ6_bitCount_0f7a4_48 : decode cJ6_bitCount_0f7a4 48 = .ok (.iload_n 0, 1) := fq_26 fk_cJ6_bitCount_0f7a4_3 0 rfl rfl
theorem dJ6_bitCount_0f7a4_49 : decode cJ6_bitCount_0f7a4 49 = .ok (.bipush 63, 2) := fq_16 fk_cJ6_bitCount_0f7a4_3 1 rfl rfl rfl rfl
theorem dJ6_bitCount_0f7a4_51 : decode cJ6_bitCount_0f7a4 51 = .ok (.iand, 1) := fq_126 fk_cJ6_bitCount_0f7a4_3 3 rfl rfl
theorem dJ6_bitCount_0f7a4_52 : decode cJ6_bitCount_0f7a4 52 = .ok (.ireturn, 1) := fq_172 fk_cJ6_bitCount_0f7a4_3 4 rfl rfl

noncomputable def f_e_attempt_x9 (q1 : Int32) (q2 : Int32) (q10 : Int32) (q12 : Int32) (k0 : Int32) (k1 : Int32) (k2 : Int32) (k3 : Int32) (k4 : Int32) (t0 : Int32) (t1 : Int32) (t2 : Int32) (t3 : Int32) (t4 : Int32) (fta : Nat → Int32) (ftc : Nat → Int32) (fn : Nat → Int32) (c_ : Int32) (b_ : Int32) (e_ : Int32) : Int32 × Int32 × Int32 × Int32 × Int32 := (match (f_e_run_x4 k0 k1 k2 k3 k4 (f_e_grievanceOf fn c_) (f_e_forceOf_x8 t0 t1 t2 t3 t4 ftc c_ e_) t4 (atF 6 fta b_)) with | (o_9, o_10, o_11, o_12, o_13) => (o_9, o_10, o_11, o_12, o_13))
def rm_e_attempt_x9 : Room := { frames := 3, cells := 0, slots := 0, locals := 79 }
set_option maxHeartbeats 4000000 in
set_option maxRecDepth 100000 in
theorem e_attempt_x9 {l : Launch} {D : va_G} {cI cZ : ClassId} {sz : Nat} (h x rd t d nw ps im is_ bk qr pr cv ft ta tb tc td te nwc : Nat) (q1 : Int32) (q2 : Int32) (q10 : Int32) (q12 : Int32) (k0 : Int32) (k1 : Int32) (k2 : Int32) (k3 : Int32) (k4 : Int32) (t0 : Int32) (t1 : Int32) (t2 : Int32) (t3 : Int32) (t4 : Int32) (fta : Nat → Int32) (ftc : Nat → Int32) (fn : Nat → Int32) (c_ : Int32) (b_ : Int32) (e_ : Int32) : KV l yX9_attempt cX9_attempt 4 rm_e_attempt_x9 D cI cZ [.ref h, .int c_, .int b_, .int e_] sz [(h, .inr (9, [.ref x, .int q1, .int q2, .ref rd, .ref t, .ref d, .ref nw, .ref ps, .ref im, .ref is_, .int q10, .ref bk, .int q12, .ref qr, .ref pr, .ref cv, .ref ft])), (qr, .inr (4, [.int k0, .int k1, .int k2, .int k3, .int k4])), (t, .inr (8, [.int t0, .int t1, .int t2, .int t3, .int t4, .ref ta, .ref tb, .ref tc, .ref td, .ref te])), (ta, .inl (cI, 6, .inl fta)), (tc, .inl (cI, 30, .inl ftc)), (nw, .inr (7, [.ref nwc])), (nwc, .inl (cI, 41, .inl fn))] (fun (u : Int32 × Int32 × Int32 × Int32 × Int32) => u = f_e_attempt_x9 q1 q2 q10 q12 k0 k1 k2 k3 k4 t0 t1 t2 t3 t4 fta ftc fn c_ b_ e_) (fun (u : Int32 × Int32 × Int32 × Int32 × Int32) => [(h, .inr (9, [.ref x, .int q1, .int q2, .ref rd, .ref t, .ref d, .ref nw, .ref ps, .ref im, .ref is_, .int q10, .ref bk, .int q12, .ref qr, .ref pr, .ref cv, .ref ft])), (qr, .inr (4, [.int (u.1), .int (u.2.1), .int (u.2.2.1), .int (u.2.2.2.1), .int (u.2.2.2.2)])), (t, .inr (8, [.int t0, .int t1, .int t2, .int t3, .int t4, .ref ta, .ref tb, .ref tc, .ref td, .ref te])), (ta, .inl (cI, 6, .inl fta)), (tc, .inl (cI, 30, .inl ftc)), (nw, .inr (7, [.ref nwc])), (nwc, .inl (cI, 41, .inl fn))]) := by
  refine KV.go rfl (Nat.le_of_ble_eq_true rfl) ?_
  intro p e s m args below meth c ls A Q hx hb hml hts hown hin hP hK hD hS hA hN hl hret
  have hl : lv_has ls 4 [(0, .ref h), (1, .int c_), (2, .int b_), (3, .int e_)] := hl
  obtain ⟨RES, hE⟩ : ∃ xRES, f_e_attempt_x9 q1 q2 q10 q12 k0 k1 k2 k3 k4 t0 t1 t2 t3 t4 fta ftc fn c_ b_ e_ = xRES := ⟨_, rfl⟩
  rw [hE] at hret
  rw [f_e_attempt_x9] at hE
  refine lv_aload_n hx hb dX9_attempt_0 rfl (lv_at hl 0 rfl) ?_
  refine va_get (D := D) (ci := 9) (v := .ref qr) (C := RX9) (T := TX9) (N := 17) hx hb hts iX9 hown hK hP 0 rfl rfl 13 (Nat.le_of_ble_eq_true rfl) (hts _ wd_120) (fun _ h9 => h9) rfl dX9_attempt_1 ?_
  refine lv_aload_n hx hb dX9_attempt_4 rfl (lv_at hl 0 rfl) ?_
  refine va_get (D := D) (ci := 9) (v := .ref nw) (C := RX9) (T := TX9) (N := 17) hx hb hts iX9 hown hK hP 0 rfl rfl 6 (Nat.le_of_ble_eq_true rfl) (hts _ wd_96) (fun _ h9 => h9) rfl dX9_attempt_5 ?_
  refine lv_iload_n hx hb dX9_attempt_8 rfl (lv_at hl 1 rfl) ?_
  refine cVi (wr := [(h, .inr (9, [.ref x, .int q1, .int q2, .ref rd, .ref t, .ref d, .ref nw, .ref ps, .ref im, .ref is_, .int q10, .ref bk, .int q12, .ref qr, .ref pr, .ref cv, .ref ft])), (qr, .inr (4, [.int k0, .int k1, .int k2, .int k3, .int k4])), (t, .inr (8, [.int t0, .int t1, .int t2, .int t3, .int t4, .ref ta, .ref tb, .ref tc, .ref td, .ref te])), (ta, .inl (cI, 6, .inl fta)), (tc, .inl (cI, 30, .inl ftc))]) (rest := [.ref qr]) (e_grievanceOf nw nwc fn c_) okV_X7_grievanceOf wd_251 hx hb hml hown hts hK hP hD hS hA hN hl.1 [5, 6] [0, 1, 2, 3, 4] rfl rfl rfl rfl (of_decide_eq_true rfl) rfl rfl rfl (Nat.le_of_ble_eq_true rfl) (Nat.le_of_ble_eq_true rfl) (Nat.le_of_ble_eq_true rfl) (Nat.le_of_ble_eq_true rfl) (Nat.le_of_ble_eq_true rfl) dX9_attempt_9 (fun r_2 u_1 H locs hw_u_1 hP hD hS => ?_)
  replace hw_u_1 : r_2 = (f_e_grievanceOf fn c_) := hw_u_1
  rw [hw_u_1]
  clear hw_u_1
  have hP : va_P D classes [(h, .inr (9, [.ref x, .int q1, .int q2, .ref rd, .ref t, .ref d, .ref nw, .ref ps, .ref im, .ref is_, .int q10, .ref bk, .int q12, .ref qr, .ref pr, .ref cv, .ref ft])), (qr, .inr (4, [.int k0, .int k1, .int k2, .int k3, .int k4])), (t, .inr (8, [.int t0, .int t1, .int t2, .int t3, .int t4, .ref ta, .ref tb, .ref tc, .ref td, .ref te])), (ta, .inl (cI, 6, .inl fta)), (tc, .inl (cI, 30, .inl ftc)), (nw, .inr (7, [.ref nwc])), (nwc, .inl (cI, 41, .inl fn))] H := hP
  have hD : va_D A [(h, .inr (9, [.ref x, .int q1, .int q2, .ref rd, .ref t, .ref d, .ref nw, .ref ps, .ref im, .ref is_, .int q10, .ref bk, .int q12, .ref qr, .ref pr, .ref cv, .ref ft])), (qr, .inr (4, [.int k0, .int k1, .int k2, .int k3, .int k4])), (t, .inr (8, [.int t0, .int t1, .int t2, .int t3, .int t4, .ref ta, .ref tb, .ref tc, .ref td, .ref te])), (ta, .inl (cI, 6, .inl fta)), (tc, .inl (cI, 30, .inl ftc)), (nw, .inr (7, [.ref nwc])), (nwc, .inl (cI, 41, .inl fn))] := hD
  refine lv_aload_n hx hb dX9_attempt_12 rfl (lv_at hl 0 rfl) ?_
  refine va_get (D := D) (ci := 9) (v := .ref t) (C := RX9) (T := TX9) (N := 17) hx hb hts iX9 hown hK hP 0 rfl rfl 4 (Nat.le_of_ble_eq_true rfl) (hts _ wd_89) (fun _ h9 => h9) rfl dX9_attempt_13 ?_
  refine lv_iload_n hx hb dX9_attempt_16 rfl (lv_at hl 1 rfl) ?_
  refine lv_iload_n hx hb dX9_attempt_17 rfl (lv_at hl 3 rfl) ?_
  refine cVi (wr := [(h, .inr (9, [.ref x, .int q1, .int q2, .ref rd, .ref t, .ref d, .ref nw, .ref ps, .ref im, .ref is_, .int q10, .ref bk, .int q12, .ref qr, .ref pr, .ref cv, .ref ft])), (qr, .inr (4, [.int k0, .int k1, .int k2, .int k3, .int k4])), (ta, .inl (cI, 6, .inl fta)), (nw, .inr (7, [.ref nwc])), (nwc, .inl (cI, 41, .inl fn))]) (rest := [.int (f_e_grievanceOf fn c_), .ref qr]) (e_forceOf_x8 t ta tb tc td te t0 t1 t2 t3 t4 ftc c_ e_) okV_X8_forceOf wd_252 hx hb hml hown hts hK hP hD hS hA hN hl.1 [2, 4] [0, 1, 3, 5, 6] rfl rfl rfl rfl (of_decide_eq_true rfl) rfl rfl rfl (Nat.le_of_ble_eq_true rfl) (Nat.le_of_ble_eq_true rfl) (Nat.le_of_ble_eq_true rfl) (Nat.le_of_ble_eq_true rfl) (Nat.le_of_ble_eq_true rfl) dX9_attempt_18 (fun r_4 u_3 H locs hw_u_3 hP hD hS => ?_)
  replace hw_u_3 : r_4 = (f_e_forceOf_x8 t0 t1 t2 t3 t4 ftc c_ e_) := hw_u_3
  rw [hw_u_3]
  clear hw_u_3
  have hP : va_P D classes [(h, .inr (9, [.ref x, .int q1, .int q2, .ref rd, .ref t, .ref d, .ref nw, .ref ps, .ref im, .ref is_, .int q10, .ref bk, .int q12, .ref qr, .ref pr, .ref cv, .ref ft])), (qr, .inr (4, [.int k0, .int k1, .int k2, .int k3, .int k4])), (ta, .inl (cI, 6, .inl fta)), (nw, .inr (7, [.ref nwc])), (nwc, .inl (cI, 41, .inl fn)), (t, .inr (8, [.int t0, .int t1, .int t2, .int t3, .int t4, .ref ta, .ref tb, .ref tc, .ref td, .ref te])), (tc, .inl (cI, 30, .inl ftc))] H := hP
  have hD : va_D A [(h, .inr (9, [.ref x, .int q1, .int q2, .ref rd, .ref t, .ref d, .ref nw, .ref ps, .ref im, .ref is_, .int q10, .ref bk, .int q12, .ref qr, .ref pr, .ref cv, .ref ft])), (qr, .inr (4, [.int k0, .int k1, .int k2, .int k3, .int k4])), (ta, .inl (cI, 6, .inl fta)), (nw, .inr (7, [.ref nwc])), (nwc, .inl (cI, 41, .inl fn)), (t, .inr (8, [.int t0, .int t1, .int t2, .int t3, .int t4, .ref ta, .ref tb, .ref tc, .ref td, .ref te])), (tc, .inl (cI, 30, .inl ftc))] := hD
  refine lv_aload_n hx hb dX9_attempt_21 rfl (lv_at hl 0 rfl) ?_
  refine va_get (D := D) (ci := 9) (v := .ref t) (C := RX9) (T := TX9) (N := 17) hx hb hts iX9 hown hK hP 0 rfl rfl 4 (Nat.le_of_ble_eq_true rfl) (hts _ wd_89) (fun _ h9 => h9) rfl dX9_attempt_22 ?_
  refine va_get (D := D) (ci := 8) (v := .int t4) (C := RX8) (T := TX8) (N := 10) hx hb hts iX8 hown hK hP 5 rfl rfl 4 (Nat.le_of_ble_eq_true rfl) (hts _ wd_256) (fun _ h9 => h9) rfl dX9_attempt_25 ?_
  refine lv_aload_n hx hb dX9_attempt_28 rfl (lv_at hl 0 rfl) ?_
  refine va_get (D := D) (ci := 9) (v := .ref t) (C := RX9) (T := TX9) (N := 17) hx hb hts iX9 hown hK hP 0 rfl rfl 4 (Nat.le_of_ble_eq_true rfl) (hts _ wd_89) (fun _ h9 => h9) rfl dX9_attempt_29 ?_
  refine va_get (D := D) (ci := 8) (v := .ref ta) (C := RX8) (T := TX8) (N := 10) hx hb hts iX8 hown hK hP 5 rfl rfl 5 (Nat.le_of_ble_eq_true rfl) (hts _ wd_257) (fun _ h9 => h9) rfl dX9_attempt_32 ?_
  refine lv_iload_n hx hb dX9_attempt_35 rfl (lv_at hl 2 rfl) ?_
  refine cSi (wr := [(h, .inr (9, [.ref x, .int q1, .int q2, .ref rd, .ref t, .ref d, .ref nw, .ref ps, .ref im, .ref is_, .int q10, .ref bk, .int q12, .ref qr, .ref pr, .ref cv, .ref ft])), (qr, .inr (4, [.int k0, .int k1, .int k2, .int k3, .int k4])), (nw, .inr (7, [.ref nwc])), (nwc, .inl (cI, 41, .inl fn)), (t, .inr (8, [.int t0, .int t1, .int t2, .int t3, .int t4, .ref ta, .ref tb, .ref tc, .ref td, .ref te])), (tc, .inl (cI, 30, .inl ftc))]) (rest := [.int t4, .int (f_e_forceOf_x8 t0 t1 t2 t3 t4 ftc c_ e_), .int (f_e_grievanceOf fn c_), .ref qr]) (k_at ta 6 fta b_ (of_decide_eq_true rfl)) okS_X9_at wd_258 hx hb hml hown hts hK hP hD hS hA hN hl.1 [2] [0, 1, 3, 4, 5, 6] rfl rfl rfl rfl (by decide) rfl (Nat.le_of_ble_eq_true rfl) (Nat.le_of_ble_eq_true rfl) (Nat.le_of_ble_eq_true rfl) (Nat.le_of_ble_eq_true rfl) (Nat.le_of_ble_eq_true rfl) dX9_attempt_36 (fun r_6 u_5 H locs hw_u_5 hP hD hS => ?_)
  obtain rfl := hw_u_5
  have hP : va_P D classes [(h, .inr (9, [.ref x, .int q1, .int q2, .ref rd, .ref t, .ref d, .ref nw, .ref ps, .ref im, .ref is_, .int q10, .ref bk, .int q12, .ref qr, .ref pr, .ref cv, .ref ft])), (qr, .inr (4, [.int k0, .int k1, .int k2, .int k3, .int k4])), (nw, .inr (7, [.ref nwc])), (nwc, .inl (cI, 41, .inl fn)), (t, .inr (8, [.int t0, .int t1, .int t2, .int t3, .int t4, .ref ta, .ref tb, .ref tc, .ref td, .ref te])), (tc, .inl (cI, 30, .inl ftc)), (ta, .inl (cI, 6, .inl fta))] H := hP
  have hD : va_D A [(h, .inr (9, [.ref x, .int q1, .int q2, .ref rd, .ref t, .ref d, .ref nw, .ref ps, .ref im, .ref is_, .int q10, .ref bk, .int q12, .ref qr, .ref pr, .ref cv, .ref ft])), (qr, .inr (4, [.int k0, .int k1, .int k2, .int k3, .int k4])), (nw, .inr (7, [.ref nwc])), (nwc, .inl (cI, 41, .inl fn)), (t, .inr (8, [.int t0, .int t1, .int t2, .int t3, .int t4, .ref ta, .ref tb, .ref tc, .ref td, .ref te])), (tc, .inl (cI, 30, .inl ftc)), (ta, .inl (cI, 6, .inl fta))] := hD
  refine cVv (wr := [(h, .inr (9, [.ref x, .int q1, .int q2, .ref rd, .ref t, .ref d, .ref nw, .ref ps, .ref im, .ref is_, .int q10, .ref bk, .int q12, .ref qr, .ref pr, .ref cv, .ref ft])), (nw, .inr (7, [.ref nwc])), (nwc, .inl (cI, 41, .inl fn)), (t, .inr (8, [.int t0, .int t1, .int t2, .int t3, .int t4, .ref ta, .ref tb, .ref tc, .ref td, .ref te])), (tc, .inl (cI, 30, .inl ftc)), (ta, .inl (cI, 6, .inl fta))]) (rest := []) (e_run_x4 qr k0 k1 k2 k3 k4 (f_e_grievanceOf fn c_) (f_e_forceOf_x8 t0 t1 t2 t3 t4 ftc c_ e_) t4 (atF 6 fta b_)) okV_X4_run wd_259 hx hb hml hown hts hK hP hD hS hA hN hl.1 [1] [0, 2, 3, 4, 5, 6] rfl rfl rfl rfl (of_decide_eq_true rfl) rfl rfl rfl (Nat.le_of_ble_eq_true rfl) (Nat.le_of_ble_eq_true rfl) (Nat.le_of_ble_eq_true rfl) (Nat.le_of_ble_eq_true rfl) (Nat.le_of_ble_eq_true rfl) dX9_attempt_39 (fun u_7 H locs hw_u_7 hP hD hS => ?_)
  obtain ⟨o_9, o_10, o_11, o_12, o_13⟩ := u_7
  replace hw_u_7 : (o_9, o_10, o_11, o_12, o_13) = (f_e_run_x4 k0 k1 k2 k3 k4 (f_e_grievanceOf fn c_) (f_e_forceOf_x8 t0 t1 t2 t3 t4 ftc c_ e_) t4 (atF 6 fta b_)) := hw_u_7
  rw [← hw_u_7] at hE
  replace hE : (o_9, o_10, o_11, o_12, o_13) = RES := hE
  have hP : va_P D classes [(h, .inr (9, [.ref x, .int q1, .int q2, .ref rd, .ref t, .ref d, .ref nw, .ref ps, .ref im, .ref is_, .int q10, .ref bk, .int q12, .ref qr, .ref pr, .ref cv, .ref ft])), (nw, .inr (7, [.ref nwc])), (nwc, .inl (cI, 41, .inl fn)), (t, .inr (8, [.int t0, .int t1, .int t2, .int t3, .int t4, .ref ta, .ref tb, .ref tc, .ref td, .ref te])), (tc, .inl (cI, 30, .inl ftc)), (ta, .inl (cI, 6, .inl fta)), (qr, .inr (4, [.int o_9, .int o_10, .int o_11, .int o_12, .int o_13]))] H := hP
  have hD : va_D A [(h, .inr (9, [.ref x, .int q1, .int q2, .ref rd, .ref t, .ref d, .ref nw, .ref ps, .ref im, .ref is_, .int q10, .ref bk, .int q12, .ref qr, .ref pr, .ref cv, .ref ft])), (nw, .inr (7, [.ref nwc])), (nwc, .inl (cI, 41, .inl fn)), (t, .inr (8, [.int t0, .int t1, .int t2, .int t3, .int t4, .ref ta, .ref tb, .ref tc, .ref td, .ref te])), (tc, .inl (cI, 30, .inl ftc)), (ta, .inl (cI, 6, .inl fta)), (qr, .inr (4, [.int o_9, .int o_10, .int o_11, .int o_12, .int o_13]))] := hD
  exact hret (o_9, o_10, o_11, o_12, o_13) _ _ _ _ dX9_attempt_42 hE (cutP (isC := [0, 6, 3, 5, 4, 1, 2]) hP rfl) (cutD (isC := [0, 6, 3, 5, 4, 1, 2]) hD rfl rfl) hS
noncomputable def f_e_minutesLeft_x9 (q1 : Int32) (q2 : Int32) (q10 : Int32) (q12 : Int32) (k0 : Int32) (k1 : Int32) (k2 : Int32) (k3 : Int32) (k4 : Int32) (t0 : Int32) (t1 : Int32) (t2 : Int32) (t3 : Int32) (t4 : Int32) (ftc : Nat → Int32) (fn : Nat → Int32) (c_ : Int32) (e_ : Int32) : Int32 × Int32 × Int32 × Int32 × Int32 × Int32 := (match (f_e_run_x4 k0 k1 k2 k3 k4 (f_e_grievanceOf fn c_) (f_e_forceOf_x8 t0 t1 t2 t3 t4 ftc c_ e_) t4 100) with | (o_7, o_8, o_9, o_10, o_11) => (if o_11 = 0 then (999, o_7, o_8, o_9, o_10, o_11) else (o_7, o_7, o_8, o_9, o_10, o_11)))
def rm_e_minutesLeft_x9 : Room := { frames := 3, cells := 0, slots := 0, locals := 79 }
set_option maxHeartbeats 4000000 in
set_option maxRecDepth 100000 in
theorem e_minutesLeft_x9 {l : Launch} {D : va_G} {cI cZ : ClassId} {sz : Nat} (h x rd t d nw ps im is_ bk qr pr cv ft ta tb tc td te nwc : Nat) (q1 : Int32) (q2 : Int32) (q10 : Int32) (q12 : Int32) (k0 : Int32) (k1 : Int32) (k2 : Int32) (k3 : Int32) (k4 : Int32) (t0 : Int32) (t1 : Int32) (t2 : Int32) (t3 : Int32) (t4 : Int32) (ftc : Nat → Int32) (fn : Nat → Int32) (c_ : Int32) (e_ : Int32) : KI l yX9_minutesLeft cX9_minutesLeft 3 (some .int) rm_e_minutesLeft_x9 D cI cZ [.ref h, .int c_, .int e_] sz [(h, .inr (9, [.ref x, .int q1, .int q2, .ref rd, .ref t, .ref d, .ref nw, .ref ps, .ref im, .ref is_, .int q10, .ref bk, .int q12, .ref qr, .ref pr, .ref cv, .ref ft])), (qr, .inr (4, [.int k0, .int k1, .int k2, .int k3, .int k4])), (t, .inr (8, [.int t0, .int t1, .int t2, .int t3, .int t4, .ref ta, .ref tb, .ref tc, .ref td, .ref te])), (tc, .inl (cI, 30, .inl ftc)), (nw, .inr (7, [.ref nwc])), (nwc, .inl (cI, 41, .inl fn))] (fun (r : Int32) (u : Int32 × Int32 × Int32 × Int32 × Int32) => (r, u) = f_e_minutesLeft_x9 q1 q2 q10 q12 k0 k1 k2 k3 k4 t0 t1 t2 t3 t4 ftc fn c_ e_) (fun (u : Int32 × Int32 × Int32 × Int32 × Int32) => [(h, .inr (9, [.ref x, .int q1, .int q2, .ref rd, .ref t, .ref d, .ref nw, .ref ps, .ref im, .ref is_, .int q10, .ref bk, .int q12, .ref qr, .ref pr, .ref cv, .ref ft])), (qr, .inr (4, [.int (u.1), .int (u.2.1), .int (u.2.2.1), .int (u.2.2.2.1), .int (u.2.2.2.2)])), (t, .inr (8, [.int t0, .int t1, .int t2, .int t3, .int t4, .ref ta, .ref tb, .ref tc, .ref td, .ref te])), (tc, .inl (cI, 30, .inl ftc)), (nw, .inr (7, [.ref nwc])), (nwc, .inl (cI, 41, .inl fn))]) := by
  refine KI.go rfl (Nat.le_of_ble_eq_true rfl) ?_
  intro p e s m args below meth c ls A Q hx hb hml hts hown hin hP hK hD hS hA hN hl hret
  have hl : lv_has ls 3 [(0, .ref h), (1, .int c_), (2, .int e_)] := hl
  obtain ⟨RES, hE⟩ : ∃ xRES, f_e_minutesLeft_x9 q1 q2 q10 q12 k0 k1 k2 k3 k4 t0 t1 t2 t3 t4 ftc fn c_ e_ = xRES := ⟨_, rfl⟩
  rw [hE] at hret
  rw [f_e_minutesLeft_x9] at hE
  refine lv_aload_n hx hb dX9_minutesLeft_0 rfl (lv_at hl 0 rfl) ?_
  refine va_get (D := D) (ci := 9) (v := .ref qr) (C := RX9) (T := TX9) (N := 17) hx hb hts iX9 hown hK hP 0 rfl rfl 13 (Nat.le_of_ble_eq_true rfl) (hts _ wd_120) (fun _ h9 => h9) rfl dX9_minutesLeft_1 ?_
  refine lv_aload_n hx hb dX9_minutesLeft_4 rfl (lv_at hl 0 rfl) ?_
  refine va_get (D := D) (ci := 9) (v := .ref nw) (C := RX9) (T := TX9) (N := 17) hx hb hts iX9 hown hK hP 0 rfl rfl 6 (Nat.le_of_ble_eq_true rfl) (hts _ wd_96) (fun _ h9 => h9) rfl dX9_minutesLeft_5 ?_
  refine lv_iload_n hx hb dX9_minutesLeft_8 rfl (lv_at hl 1 rfl) ?_
  refine cVi (wr := [(h, .inr (9, [.ref x, .int q1, .int q2, .ref rd, .ref t, .ref d, .ref nw, .ref ps, .ref im, .ref is_, .int q10, .ref bk, .int q12, .ref qr, .ref pr, .ref cv, .ref ft])), (qr, .inr (4, [.int k0, .int k1, .int k2, .int k3, .int k4])), (t, .inr (8, [.int t0, .int t1, .int t2, .int t3, .int t4, .ref ta, .ref tb, .ref tc, .ref td, .ref te])), (tc, .inl (cI, 30, .inl ftc))]) (rest := [.ref qr]) (e_grievanceOf nw nwc fn c_) okV_X7_grievanceOf wd_251 hx hb hml hown hts hK hP hD hS hA hN hl.1 [4, 5] [0, 1, 2, 3] rfl rfl rfl rfl (of_decide_eq_true rfl) rfl rfl rfl (Nat.le_of_ble_eq_true rfl) (Nat.le_of_ble_eq_true rfl) (Nat.le_of_ble_eq_true rfl) (Nat.le_of_ble_eq_true rfl) (Nat.le_of_ble_eq_true rfl) dX9_minutesLeft_9 (fun r_2 u_1 H locs hw_u_1 hP hD hS => ?_)
  replace hw_u_1 : r_2 = (f_e_grievanceOf fn c_) := hw_u_1
  rw [hw_u_1]
  clear hw_u_1
  have hP : va_P D classes [(h, .inr (9, [.ref x, .int q1, .int q2, .ref rd, .ref t, .ref d, .ref nw, .ref ps, .ref im, .ref is_, .int q10, .ref bk, .int q12, .ref qr, .ref pr, .ref cv, .ref ft])), (qr, .inr (4, [.int k0, .int k1, .int k2, .int k3, .int k4])), (t, .inr (8, [.int t0, .int t1, .int t2, .int t3, .int t4, .ref ta, .ref tb, .ref tc, .ref td, .ref te])), (tc, .inl (cI, 30, .inl ftc)), (nw, .inr (7, [.ref nwc])), (nwc, .inl (cI, 41, .inl fn))] H := hP
  have hD : va_D A [(h, .inr (9, [.ref x, .int q1, .int q2, .ref rd, .ref t, .ref d, .ref nw, .ref ps, .ref im, .ref is_, .int q10, .ref bk, .int q12, .ref qr, .ref pr, .ref cv, .ref ft])), (qr, .inr (4, [.int k0, .int k1, .int k2, .int k3, .int k4])), (t, .inr (8, [.int t0, .int t1, .int t2, .int t3, .int t4, .ref ta, .ref tb, .ref tc, .ref td, .ref te])), (tc, .inl (cI, 30, .inl ftc)), (nw, .inr (7, [.ref nwc])), (nwc, .inl (cI, 41, .inl fn))] := hD
  refine lv_aload_n hx hb dX9_minutesLeft_12 rfl (lv_at hl 0 rfl) ?_
  refine va_get (D := D) (ci := 9) (v := .ref t) (C := RX9) (T := TX9) (N := 17) hx hb hts iX9 hown hK hP 0 rfl rfl 4 (Nat.le_of_ble_eq_true rfl) (hts _ wd_89) (fun _ h9 => h9) rfl dX9_minutesLeft_13 ?_
  refine lv_iload_n hx hb dX9_minutesLeft_16 rfl (lv_at hl 1 rfl) ?_
  refine lv_iload_n hx hb dX9_minutesLeft_17 rfl (lv_at hl 2 rfl) ?_
  refine cVi (wr := [(h, .inr (9, [.ref x, .int q1, .int q2, .ref rd, .ref t, .ref d, .ref nw, .ref ps, .ref im, .ref is_, .int q10, .ref bk, .int q12, .ref qr, .ref pr, .ref cv, .ref ft])), (qr, .inr (4, [.int k0, .int k1, .int k2, .int k3, .int k4])), (nw, .inr (7, [.ref nwc])), (nwc, .inl (cI, 41, .inl fn))]) (rest := [.int (f_e_grievanceOf fn c_), .ref qr]) (e_forceOf_x8 t ta tb tc td te t0 t1 t2 t3 t4 ftc c_ e_) okV_X8_forceOf wd_252 hx hb hml hown hts hK hP hD hS hA hN hl.1 [2, 3] [0, 1, 4, 5] rfl rfl rfl rfl (of_decide_eq_true rfl) rfl rfl rfl (Nat.le_of_ble_eq_true rfl) (Nat.le_of_ble_eq_true rfl) (Nat.le_of_ble_eq_true rfl) (Nat.le_of_ble_eq_true rfl) (Nat.le_of_ble_eq_true rfl) dX9_minutesLeft_18 (fun r_4 u_3 H locs hw_u_3 hP hD hS => ?_)
  replace hw_u_3 : r_4 = (f_e_forceOf_x8 t0 t1 t2 t3 t4 ftc c_ e_) := hw_u_3
  rw [hw_u_3]
  clear hw_u_3
  have hP : va_P D classes [(h, .inr (9, [.ref x, .int q1, .int q2, .ref rd, .ref t, .ref d, .ref nw, .ref ps, .ref im, .ref is_, .int q10, .ref bk, .int q12, .ref qr, .ref pr, .ref cv, .ref ft])), (qr, .inr (4, [.int k0, .int k1, .int k2, .int k3, .int k4])), (nw, .inr (7, [.ref nwc])), (nwc, .inl (cI, 41, .inl fn)), (t, .inr (8, [.int t0, .int t1, .int t2, .int t3, .int t4, .ref ta, .ref tb, .ref tc, .ref td, .ref te])), (tc, .inl (cI, 30, .inl ftc))] H := hP
  have hD : va_D A [(h, .inr (9, [.ref x, .int q1, .int q2, .ref rd, .ref t, .ref d, .ref nw, .ref ps, .ref im, .ref is_, .int q10, .ref bk, .int q12, .ref qr, .ref pr, .ref cv, .ref ft])), (qr, .inr (4, [.int k0, .int k1, .int k2, .int k3, .int k4])), (nw, .inr (7, [.ref nwc])), (nwc, .inl (cI, 41, .inl fn)), (t, .inr (8, [.int t0, .int t1, .int t2, .int t3, .int t4, .ref ta, .ref tb, .ref tc, .ref td, .ref te])), (tc, .inl (cI, 30, .inl ftc))] := hD
  refine lv_aload_n hx hb dX9_minutesLeft_21 rfl (lv_at hl 0 rfl) ?_
  refine va_get (D := D) (ci := 9) (v := .ref t) (C := RX9) (T := TX9) (N := 17) hx hb hts iX9 hown hK hP 0 rfl rfl 4 (Nat.le_of_ble_eq_true rfl) (hts _ wd_89) (fun _ h9 => h9) rfl dX9_minutesLeft_22 ?_
  refine va_get (D := D) (ci := 8) (v := .int t4) (C := RX8) (T := TX8) (N := 10) hx hb hts iX8 hown hK hP 4 rfl rfl 4 (Nat.le_of_ble_eq_true rfl) (hts _ wd_256) (fun _ h9 => h9) rfl dX9_minutesLeft_25 ?_
  refine lv_bipush (v := 100) hx hb dX9_minutesLeft_28 rfl ?_
  refine cVv (wr := [(h, .inr (9, [.ref x, .int q1, .int q2, .ref rd, .ref t, .ref d, .ref nw, .ref ps, .ref im, .ref is_, .int q10, .ref bk, .int q12, .ref qr, .ref pr, .ref cv, .ref ft])), (nw, .inr (7, [.ref nwc])), (nwc, .inl (cI, 41, .inl fn)), (t, .inr (8, [.int t0, .int t1, .int t2, .int t3, .int t4, .ref ta, .ref tb, .ref tc, .ref td, .ref te])), (tc, .inl (cI, 30, .inl ftc))]) (rest := []) (e_run_x4 qr k0 k1 k2 k3 k4 (f_e_grievanceOf fn c_) (f_e_forceOf_x8 t0 t1 t2 t3 t4 ftc c_ e_) t4 100) okV_X4_run wd_259 hx hb hml hown hts hK hP hD hS hA hN hl.1 [1] [0, 2, 3, 4, 5] rfl rfl rfl rfl (of_decide_eq_true rfl) rfl rfl rfl (Nat.le_of_ble_eq_true rfl) (Nat.le_of_ble_eq_true rfl) (Nat.le_of_ble_eq_true rfl) (Nat.le_of_ble_eq_true rfl) (Nat.le_of_ble_eq_true rfl) dX9_minutesLeft_30 (fun u_5 H locs hw_u_5 hP hD hS => ?_)
  obtain ⟨o_7, o_8, o_9, o_10, o_11⟩ := u_5
  replace hw_u_5 : (o_7, o_8, o_9, o_10, o_11) = (f_e_run_x4 k0 k1 k2 k3 k4 (f_e_grievanceOf fn c_) (f_e_forceOf_x8 t0 t1 t2 t3 t4 ftc c_ e_) t4 100) := hw_u_5
  rw [← hw_u_5] at hE
  replace hE : (if o_11 = 0 then (999, o_7, o_8, o_9, o_10, o_11) else (o_7, o_7, o_8, o_9, o_10, o_11)) = RES := hE
  have hP : va_P D classes [(h, .inr (9, [.ref x, .int q1, .int q2, .ref rd, .ref t, .ref d, .ref nw, .ref ps, .ref im, .ref is_, .int q10, .ref bk, .int q12, .ref qr, .ref pr, .ref cv, .ref ft])), (nw, .inr (7, [.ref nwc])), (nwc, .inl (cI, 41, .inl fn)), (t, .inr (8, [.int t0, .int t1, .int t2, .int t3, .int t4, .ref ta, .ref tb, .ref tc, .ref td, .ref te])), (tc, .inl (cI, 30, .inl ftc)), (qr, .inr (4, [.int o_7, .int o_8, .int o_9, .int o_10, .int o_11]))] H := hP
  have hD : va_D A [(h, .inr (9, [.ref x, .int q1, .int q2, .ref rd, .ref t, .ref d, .ref nw, .ref ps, .ref im, .ref is_, .int q10, .ref bk, .int q12, .ref qr, .ref pr, .ref cv, .ref ft])), (nw, .inr (7, [.ref nwc])), (nwc, .inl (cI, 41, .inl fn)), (t, .inr (8, [.int t0, .int t1, .int t2, .int t3, .int t4, .ref ta, .ref tb, .ref tc, .ref td, .ref te])), (tc, .inl (cI, 30, .inl ftc)), (qr, .inr (4, [.int o_7, .int o_8, .int o_9, .int o_10, .int o_11]))] := hD
  refine lv_aload_n hx hb dX9_minutesLeft_33 rfl (lv_at hl 0 rfl) ?_
  refine va_get (D := D) (ci := 9) (v := .ref qr) (C := RX9) (T := TX9) (N := 17) hx hb hts iX9 hown hK hP 0 rfl rfl 13 (Nat.le_of_ble_eq_true rfl) (hts _ wd_120) (fun _ h9 => h9) rfl dX9_minutesLeft_34 ?_
  refine va_get (D := D) (ci := 4) (v := .int o_11) (C := RX4) (T := TX4) (N := 5) hx hb hts iX4 hown hK hP 5 rfl rfl 4 (Nat.le_of_ble_eq_true rfl) (hts _ wd_263) (fun _ h9 => h9) rfl dX9_minutesLeft_37 ?_
  refine lv_if_eq (tgt := 53) hx hb dX9_minutesLeft_40 rfl (fun c_12 => ?_) (fun c_12 => ?_)
  · rw [if_pos c_12] at hE
    refine lv_sipush (v := 999) hx hb dX9_minutesLeft_53 rfl ?_
    exact hret 999 (o_7, o_8, o_9, o_10, o_11) _ _ _ _ dX9_minutesLeft_56 rfl hE (cutP (isC := [0, 5, 3, 4, 1, 2]) hP rfl) (cutD (isC := [0, 5, 3, 4, 1, 2]) hD rfl rfl) hS
  · rw [if_neg c_12] at hE
    refine lv_aload_n hx hb dX9_minutesLeft_43 rfl (lv_at hl 0 rfl) ?_
    refine va_get (D := D) (ci := 9) (v := .ref qr) (C := RX9) (T := TX9) (N := 17) hx hb hts iX9 hown hK hP 0 rfl rfl 13 (Nat.le_of_ble_eq_true rfl) (hts _ wd_120) (fun _ h9 => h9) rfl dX9_minutesLeft_44 ?_
    refine va_get (D := D) (ci := 4) (v := .int o_7) (C := RX4) (T := TX4) (N := 5) hx hb hts iX4 hown hK hP 5 rfl rfl 0 (Nat.le_of_ble_eq_true rfl) (hts _ wd_264) (fun _ h9 => h9) rfl dX9_minutesLeft_47 ?_
    refine lv_goto (tgt := 56) hx hb dX9_minutesLeft_50 rfl ?_
    exact hret o_7 (o_7, o_8, o_9, o_10, o_11) _ _ _ _ dX9_minutesLeft_56 rfl hE (cutP (isC := [0, 5, 3, 4, 1, 2]) hP rfl) (cutD (isC := [0, 5, 3, 4, 1, 2]) hD rfl rfl) hS
noncomputable def f_e_themeFor_x9_24 (q1 : Int32) (q2 : Int32) (q10 : Int32) (q12 : Int32) (k0 : Int32) (k1 : Int32) (k2 : Int32) (k3 : Int32) (k4 : Int32) (t0 : Int32) (t1 : Int32) (t2 : Int32) (t3 : Int32) (t4 : Int32) (fta : Nat → Int32) (ftc : Nat → Int32) (fn : Nat → Int32) (c_ : Int32) (b_ : Int32) (n : Nat) : Int32 → Int32 → Int32 → Int32 → Int32 → Int32 → Int32 → Int32 → Int32 → Int32 × Int32 × Int32 × Int32 × Int32 × Int32 × Int32 × Int32 × Int32 := Nat.rec (motive := fun _ => Int32 → Int32 → Int32 → Int32 → Int32 → Int32 → Int32 → Int32 → Int32 → Int32 × Int32 × Int32 × Int32 × Int32 × Int32 × Int32 × Int32 × Int32) (fun w_4l6 w_4l5 w_4l4 w_4l3 w_4m0 w_4m1 w_4m2 w_4m3 w_4m4 => (w_4l6, w_4l5, w_4l4, w_4l3, w_4m0, w_4m1, w_4m2, w_4m3, w_4m4)) (fun n ih w_4l6 w_4l5 w_4l4 w_4l3 w_4m0 w_4m1 w_4m2 w_4m3 w_4m4 => (if t1 ≤ w_4l6 then (w_4l6, w_4l5, w_4l4, w_4l3, w_4m0, w_4m1, w_4m2, w_4m3, w_4m4) else (match (f_e_attempt_x9 q1 q2 q10 q12 w_4m0 w_4m1 w_4m2 w_4m3 w_4m4 t0 t1 t2 t3 t4 fta ftc fn c_ b_ w_4l6) with | (o_8, o_9, o_10, o_11, o_12) => (if o_8 < w_4l4 then (if o_11 = 0 then (ih (w_4l6 + 1) w_4l5 w_4l4 w_4l3 o_8 o_9 o_10 o_11 o_12) else (if w_4l3 = (-1) then (ih (w_4l6 + 1) o_9 o_8 w_4l6 o_8 o_9 o_10 o_11 o_12) else (ih (w_4l6 + 1) o_9 o_8 w_4l6 o_8 o_9 o_10 o_11 o_12))) else (if o_8 = w_4l4 then (if w_4l5 ≤ o_9 then (if o_11 = 0 then (ih (w_4l6 + 1) w_4l5 w_4l4 w_4l3 o_8 o_9 o_10 o_11 o_12) else (if w_4l3 = (-1) then (ih (w_4l6 + 1) o_9 o_8 w_4l6 o_8 o_9 o_10 o_11 o_12) else (ih (w_4l6 + 1) w_4l5 w_4l4 w_4l3 o_8 o_9 o_10 o_11 o_12))) else (if o_11 = 0 then (ih (w_4l6 + 1) w_4l5 w_4l4 w_4l3 o_8 o_9 o_10 o_11 o_12) else (if w_4l3 = (-1) then (ih (w_4l6 + 1) o_9 o_8 w_4l6 o_8 o_9 o_10 o_11 o_12) else (ih (w_4l6 + 1) o_9 o_8 w_4l6 o_8 o_9 o_10 o_11 o_12)))) else (if o_11 = 0 then (ih (w_4l6 + 1) w_4l5 w_4l4 w_4l3 o_8 o_9 o_10 o_11 o_12) else (if w_4l3 = (-1) then (ih (w_4l6 + 1) o_9 o_8 w_4l6 o_8 o_9 o_10 o_11 o_12) else (ih (w_4l6 + 1) w_4l5 w_4l4 w_4l3 o_8 o_9 o_10 o_11 o_12)))))))) n
theorem f_e_themeFor_x9_24_s (q1 : Int32) (q2 : Int32) (q10 : Int32) (q12 : Int32) (k0 : Int32) (k1 : Int32) (k2 : Int32) (k3 : Int32) (k4 : Int32) (t0 : Int32) (t1 : Int32) (t2 : Int32) (t3 : Int32) (t4 : Int32) (fta : Nat → Int32) (ftc : Nat → Int32) (fn : Nat → Int32) (c_ : Int32) (b_ : Int32) (n : Nat) (w_4l6 : Int32) (w_4l5 : Int32) (w_4l4 : Int32) (w_4l3 : Int32) (w_4m0 : Int32) (w_4m1 : Int32) (w_4m2 : Int32) (w_4m3 : Int32) (w_4m4 : Int32) : f_e_themeFor_x9_24 q1 q2 q10 q12 k0 k1 k2 k3 k4 t0 t1 t2 t3 t4 fta ftc fn c_ b_ (n + 1) w_4l6 w_4l5 w_4l4 w_4l3 w_4m0 w_4m1 w_4m2 w_4m3 w_4m4 = (if t1 ≤ w_4l6 then (w_4l6, w_4l5, w_4l4, w_4l3, w_4m0, w_4m1, w_4m2, w_4m3, w_4m4) else (match (f_e_attempt_x9 q1 q2 q10 q12 w_4m0 w_4m1 w_4m2 w_4m3 w_4m4 t0 t1 t2 t3 t4 fta ftc fn c_ b_ w_4l6) with | (o_8, o_9, o_10, o_11, o_12) => (if o_8 < w_4l4 then (if o_11 = 0 then (f_e_themeFor_x9_24 q1 q2 q10 q12 k0 k1 k2 k3 k4 t0 t1 t2 t3 t4 fta ftc fn c_ b_ n (w_4l6 + 1) w_4l5 w_4l4 w_4l3 o_8 o_9 o_10 o_11 o_12) else (if w_4l3 = (-1) then (f_e_themeFor_x9_24 q1 q2 q10 q12 k0 k1 k2 k3 k4 t0 t1 t2 t3 t4 fta ftc fn c_ b_ n (w_4l6 + 1) o_9 o_8 w_4l6 o_8 o_9 o_10 o_11 o_12) else (f_e_themeFor_x9_24 q1 q2 q10 q12 k0 k1 k2 k3 k4 t0 t1 t2 t3 t4 fta ftc fn c_ b_ n (w_4l6 + 1) o_9 o_8 w_4l6 o_8 o_9 o_10 o_11 o_12))) else (if o_8 = w_4l4 then (if w_4l5 ≤ o_9 then (if o_11 = 0 then (f_e_themeFor_x9_24 q1 q2 q10 q12 k0 k1 k2 k3 k4 t0 t1 t2 t3 t4 fta ftc fn c_ b_ n (w_4l6 + 1) w_4l5 w_4l4 w_4l3 o_8 o_9 o_10 o_11 o_12) else (if w_4l3 = (-1) then (f_e_themeFor_x9_24 q1 q2 q10 q12 k0 k1 k2 k3 k4 t0 t1 t2 t3 t4 fta ftc fn c_ b_ n (w_4l6 + 1) o_9 o_8 w_4l6 o_8 o_9 o_10 o_11 o_12) else (f_e_themeFor_x9_24 q1 q2 q10 q12 k0 k1 k2 k3 k4 t0 t1 t2 t3 t4 fta ftc fn c_ b_ n (w_4l6 + 1) w_4l5 w_4l4 w_4l3 o_8 o_9 o_10 o_11 o_12))) else (if o_11 = 0 then (f_e_themeFor_x9_24 q1 q2 q10 q12 k0 k1 k2 k3 k4 t0 t1 t2 t3 t4 fta ftc fn c_ b_ n (w_4l6 + 1) w_4l5 w_4l4 w_4l3 o_8 o_9 o_10 o_11 o_12) else (if w_4l3 = (-1) then (f_e_themeFor_x9_24 q1 q2 q10 q12 k0 k1 k2 k3 k4 t0 t1 t2 t3 t4 fta ftc fn c_ b_ n (w_4l6 + 1) o_9 o_8 w_4l6 o_8 o_9 o_10 o_11 o_12) else (f_e_themeFor_x9_24 q1 q2 q10 q12 k0 k1 k2 k3 k4 t0 t1 t2 t3 t4 fta ftc fn c_ b_ n (w_4l6 + 1) o_9 o_8 w_4l6 o_8 o_9 o_10 o_11 o_12)))) else (if o_11 = 0 then (f_e_themeFor_x9_24 q1 q2 q10 q12 k0 k1 k2 k3 k4 t0 t1 t2 t3 t4 fta ftc fn c_ b_ n (w_4l6 + 1) w_4l5 w_4l4 w_4l3 o_8 o_9 o_10 o_11 o_12) else (if w_4l3 = (-1) then (f_e_themeFor_x9_24 q1 q2 q10 q12 k0 k1 k2 k3 k4 t0 t1 t2 t3 t4 fta ftc fn c_ b_ n (w_4l6 + 1) o_9 o_8 w_4l6 o_8 o_9 o_10 o_11 o_12) else (f_e_themeFor_x9_24 q1 q2 q10 q12 k0 k1 k2 k3 k4 t0 t1 t2 t3 t4 fta ftc fn c_ b_ n (w_4l6 + 1) w_4l5 w_4l4 w_4l3 o_8 o_9 o_10 o_11 o_12))))))) := rfl
noncomputable def f_e_themeFor_x9 (q1 : Int32) (q2 : Int32) (q10 : Int32) (q12 : Int32) (k0 : Int32) (k1 : Int32) (k2 : Int32) (k3 : Int32) (k4 : Int32) (t0 : Int32) (t1 : Int32) (t2 : Int32) (t3 : Int32) (t4 : Int32) (fta : Nat → Int32) (ftc : Nat → Int32) (fn : Nat → Int32) (c_ : Int32) (b_ : Int32) : Int32 × Int32 × Int32 × Int32 × Int32 × Int32 := (if (f_e_isReconciled fn c_) = 0 then (match (f_e_themeFor_x9_24 q1 q2 q10 q12 k0 k1 k2 k3 k4 t0 t1 t2 t3 t4 fta ftc fn c_ b_ (((t1 : Int32).toInt - (0 : Int32).toInt).toNat + 1) 0 0 0 (-1) k0 k1 k2 k3 k4) with | (w_4l6, w_4l5, w_4l4, w_4l3, w_4m0, w_4m1, w_4m2, w_4m3, w_4m4) => (w_4l3, w_4m0, w_4m1, w_4m2, w_4m3, w_4m4)) else ((-1), k0, k1, k2, k3, k4))
def rm_e_themeFor_x9 : Room := { frames := 4, cells := 0, slots := 0, locals := 102 }
set_option maxHeartbeats 4000000 in
set_option maxRecDepth 100000 in
theorem e_themeFor_x9 {l : Launch} {D : va_G} {cI cZ : ClassId} {sz : Nat} (h x rd t d nw ps im is_ bk qr pr cv ft ta tb tc td te nwc : Nat) (q1 : Int32) (q2 : Int32) (q10 : Int32) (q12 : Int32) (k0 : Int32) (k1 : Int32) (k2 : Int32) (k3 : Int32) (k4 : Int32) (t0 : Int32) (t1 : Int32) (t2 : Int32) (t3 : Int32) (t4 : Int32) (fta : Nat → Int32) (ftc : Nat → Int32) (fn : Nat → Int32) (c_ : Int32) (b_ : Int32) : KI l yX9_themeFor cX9_themeFor 8 (some .int) rm_e_themeFor_x9 D cI cZ [.ref h, .int c_, .int b_] sz [(h, .inr (9, [.ref x, .int q1, .int q2, .ref rd, .ref t, .ref d, .ref nw, .ref ps, .ref im, .ref is_, .int q10, .ref bk, .int q12, .ref qr, .ref pr, .ref cv, .ref ft])), (qr, .inr (4, [.int k0, .int k1, .int k2, .int k3, .int k4])), (t, .inr (8, [.int t0, .int t1, .int t2, .int t3, .int t4, .ref ta, .ref tb, .ref tc, .ref td, .ref te])), (ta, .inl (cI, 6, .inl fta)), (tc, .inl (cI, 30, .inl ftc)), (nw, .inr (7, [.ref nwc])), (nwc, .inl (cI, 41, .inl fn))] (fun (r : Int32) (u : Int32 × Int32 × Int32 × Int32 × Int32) => (r, u) = f_e_themeFor_x9 q1 q2 q10 q12 k0 k1 k2 k3 k4 t0 t1 t2 t3 t4 fta ftc fn c_ b_) (fun (u : Int32 × Int32 × Int32 × Int32 × Int32) => [(h, .inr (9, [.ref x, .int q1, .int q2, .ref rd, .ref t, .ref d, .ref nw, .ref ps, .ref im, .ref is_, .int q10, .ref bk, .int q12, .ref qr, .ref pr, .ref cv, .ref ft])), (qr, .inr (4, [.int (u.1), .int (u.2.1), .int (u.2.2.1), .int (u.2.2.2.1), .int (u.2.2.2.2)])), (t, .inr (8, [.int t0, .int t1, .int t2, .int t3, .int t4, .ref ta, .ref tb, .ref tc, .ref td, .ref te])), (ta, .inl (cI, 6, .inl fta)), (tc, .inl (cI, 30, .inl ftc)), (nw, .inr (7, [.ref nwc])), (nwc, .inl (cI, 41, .inl fn))]) := by
  refine KI.go rfl (Nat.le_of_ble_eq_true rfl) ?_
  intro p e s m args below meth c ls A Q hx hb hml hts hown hin hP hK hD hS hA hN hl hret
  have hl : lv_has ls 8 [(0, .ref h), (1, .int c_), (2, .int b_)] := hl
  obtain ⟨RES, hE⟩ : ∃ xRES, f_e_themeFor_x9 q1 q2 q10 q12 k0 k1 k2 k3 k4 t0 t1 t2 t3 t4 fta ftc fn c_ b_ = xRES := ⟨_, rfl⟩
  rw [hE] at hret
  rw [f_e_themeFor_x9] at hE
  refine lv_iconst (v := (-1)) hx hb dX9_themeFor_0 rfl ?_
  refine lv_istore_n (lv' := [(3, .int (-1)), (0, .ref h), (1, .int c_), (2, .int b_)]) hx hb dX9_themeFor_1 rfl hl (Nat.le_of_ble_eq_true rfl) rfl (fun ls hl => ?_)
  refine lv_iconst (v := 0) hx hb dX9_themeFor_2 rfl ?_
  refine lv_istore (lv' := [(4, .int 0), (3, .int (-1)), (0, .ref h), (1, .int c_), (2, .int b_)]) hx hb dX9_themeFor_3 hl (Nat.le_of_ble_eq_true rfl) rfl (fun ls hl => ?_)
  refine lv_iconst (v := 0) hx hb dX9_themeFor_5 rfl ?_
  refine lv_istore (lv' := [(5, .int 0), (4, .int 0), (3, .int (-1)), (0, .ref h), (1, .int c_), (2, .int b_)]) hx hb dX9_themeFor_6 hl (Nat.le_of_ble_eq_true rfl) rfl (fun ls hl => ?_)
  refine lv_aload_n hx hb dX9_themeFor_8 rfl (lv_at hl 3 rfl) ?_
  refine va_get (D := D) (ci := 9) (v := .ref nw) (C := RX9) (T := TX9) (N := 17) hx hb hts iX9 hown hK hP 0 rfl rfl 6 (Nat.le_of_ble_eq_true rfl) (hts _ wd_96) (fun _ h9 => h9) rfl dX9_themeFor_9 ?_
  refine lv_iload_n hx hb dX9_themeFor_12 rfl (lv_at hl 4 rfl) ?_
  refine cVi (wr := [(h, .inr (9, [.ref x, .int q1, .int q2, .ref rd, .ref t, .ref d, .ref nw, .ref ps, .ref im, .ref is_, .int q10, .ref bk, .int q12, .ref qr, .ref pr, .ref cv, .ref ft])), (qr, .inr (4, [.int k0, .int k1, .int k2, .int k3, .int k4])), (t, .inr (8, [.int t0, .int t1, .int t2, .int t3, .int t4, .ref ta, .ref tb, .ref tc, .ref td, .ref te])), (ta, .inl (cI, 6, .inl fta)), (tc, .inl (cI, 30, .inl ftc))]) (rest := []) (e_isReconciled nw nwc fn c_) okV_X7_isReconciled wd_265 hx hb hml hown hts hK hP hD hS hA hN hl.1 [5, 6] [0, 1, 2, 3, 4] rfl rfl rfl rfl (of_decide_eq_true rfl) rfl rfl rfl (Nat.le_of_ble_eq_true rfl) (Nat.le_of_ble_eq_true rfl) (Nat.le_of_ble_eq_true rfl) (Nat.le_of_ble_eq_true rfl) (Nat.le_of_ble_eq_true rfl) dX9_themeFor_13 (fun r_2 u_1 H locs hw_u_1 hP hD hS => ?_)
  replace hw_u_1 : r_2 = (f_e_isReconciled fn c_) := hw_u_1
  rw [hw_u_1]
  clear hw_u_1
  have hP : va_P D classes [(h, .inr (9, [.ref x, .int q1, .int q2, .ref rd, .ref t, .ref d, .ref nw, .ref ps, .ref im, .ref is_, .int q10, .ref bk, .int q12, .ref qr, .ref pr, .ref cv, .ref ft])), (qr, .inr (4, [.int k0, .int k1, .int k2, .int k3, .int k4])), (t, .inr (8, [.int t0, .int t1, .int t2, .int t3, .int t4, .ref ta, .ref tb, .ref tc, .ref td, .ref te])), (ta, .inl (cI, 6, .inl fta)), (tc, .inl (cI, 30, .inl ftc)), (nw, .inr (7, [.ref nwc])), (nwc, .inl (cI, 41, .inl fn))] H := hP
  have hD : va_D A [(h, .inr (9, [.ref x, .int q1, .int q2, .ref rd, .ref t, .ref d, .ref nw, .ref ps, .ref im, .ref is_, .int q10, .ref bk, .int q12, .ref qr, .ref pr, .ref cv, .ref ft])), (qr, .inr (4, [.int k0, .int k1, .int k2, .int k3, .int k4])), (t, .inr (8, [.int t0, .int t1, .int t2, .int t3, .int t4, .ref ta, .ref tb, .ref tc, .ref td, .ref te])), (ta, .inl (cI, 6, .inl fta)), (tc, .inl (cI, 30, .inl ftc)), (nw, .inr (7, [.ref nwc])), (nwc, .inl (cI, 41, .inl fn))] := hD
  refine lv_if_eq (tgt := 21) hx hb dX9_themeFor_16 rfl (fun c_3 => ?_) (fun c_3 => ?_)
  · rw [if_pos c_3] at hE
    refine lv_iconst (v := 0) hx hb dX9_themeFor_21 rfl ?_
    refine lv_istore (lv' := [(6, .int 0), (5, .int 0), (4, .int 0), (3, .int (-1)), (0, .ref h), (1, .int c_), (2, .int b_)]) hx hb dX9_themeFor_22 hl (Nat.le_of_ble_eq_true rfl) rfl (fun ls hl => ?_)
    have ex_24_w_4 : ∀ (w_4l6 : Int32) (w_4l5 : Int32) (w_4l4 : Int32) (w_4l3 : Int32) (w_4m0 : Int32) (w_4m1 : Int32) (w_4m2 : Int32) (w_4m3 : Int32) (w_4m4 : Int32) (H : Heap) (locs : List Loc) (ls : Array Slot), va_P D classes [(h, .inr (9, [.ref x, .int q1, .int q2, .ref rd, .ref t, .ref d, .ref nw, .ref ps, .ref im, .ref is_, .int q10, .ref bk, .int q12, .ref qr, .ref pr, .ref cv, .ref ft])), (qr, .inr (4, [.int w_4m0, .int w_4m1, .int w_4m2, .int w_4m3, .int w_4m4])), (t, .inr (8, [.int t0, .int t1, .int t2, .int t3, .int t4, .ref ta, .ref tb, .ref tc, .ref td, .ref te])), (ta, .inl (cI, 6, .inl fta)), (tc, .inl (cI, 30, .inl ftc)), (nw, .inr (7, [.ref nwc])), (nwc, .inl (cI, 41, .inl fn))] H → va_D A [(h, .inr (9, [.ref x, .int q1, .int q2, .ref rd, .ref t, .ref d, .ref nw, .ref ps, .ref im, .ref is_, .int q10, .ref bk, .int q12, .ref qr, .ref pr, .ref cv, .ref ft])), (qr, .inr (4, [.int w_4m0, .int w_4m1, .int w_4m2, .int w_4m3, .int w_4m4])), (t, .inr (8, [.int t0, .int t1, .int t2, .int t3, .int t4, .ref ta, .ref tb, .ref tc, .ref td, .ref te])), (ta, .inl (cI, 6, .inl fta)), (tc, .inl (cI, 30, .inl ftc)), (nw, .inr (7, [.ref nwc])), (nwc, .inl (cI, 41, .inl fn))] → va_S A s.heap H locs → lv_has ls 8 [(6, .int w_4l6), (5, .int w_4l5), (4, .int w_4l4), (3, .int w_4l3), (0, .ref h), (1, .int c_), (2, .int b_)] → ((w_4l3, w_4m0, w_4m1, w_4m2, w_4m3, w_4m4)) = RES → W p l e rm_e_themeFor_x9 s m args below meth c H locs 0 0 Q (F0 m 134 ls []) := by
      intro w_4l6 w_4l5 w_4l4 w_4l3 w_4m0 w_4m1 w_4m2 w_4m3 w_4m4 H locs ls hP hD hS hl hE
      refine lv_iload_n hx hb dX9_themeFor_134 rfl (lv_at hl 3 rfl) ?_
      exact hret w_4l3 (w_4m0, w_4m1, w_4m2, w_4m3, w_4m4) _ _ _ _ dX9_themeFor_135 rfl hE hP hD hS
    have lp_24_w_4 : ∀ (n_w_4 : Nat) (w_4l6 : Int32) (w_4l5 : Int32) (w_4l4 : Int32) (w_4l3 : Int32) (w_4m0 : Int32) (w_4m1 : Int32) (w_4m2 : Int32) (w_4m3 : Int32) (w_4m4 : Int32) (H : Heap) (locs : List Loc) (ls : Array Slot), va_P D classes [(h, .inr (9, [.ref x, .int q1, .int q2, .ref rd, .ref t, .ref d, .ref nw, .ref ps, .ref im, .ref is_, .int q10, .ref bk, .int q12, .ref qr, .ref pr, .ref cv, .ref ft])), (qr, .inr (4, [.int w_4m0, .int w_4m1, .int w_4m2, .int w_4m3, .int w_4m4])), (t, .inr (8, [.int t0, .int t1, .int t2, .int t3, .int t4, .ref ta, .ref tb, .ref tc, .ref td, .ref te])), (ta, .inl (cI, 6, .inl fta)), (tc, .inl (cI, 30, .inl ftc)), (nw, .inr (7, [.ref nwc])), (nwc, .inl (cI, 41, .inl fn))] H → va_D A [(h, .inr (9, [.ref x, .int q1, .int q2, .ref rd, .ref t, .ref d, .ref nw, .ref ps, .ref im, .ref is_, .int q10, .ref bk, .int q12, .ref qr, .ref pr, .ref cv, .ref ft])), (qr, .inr (4, [.int w_4m0, .int w_4m1, .int w_4m2, .int w_4m3, .int w_4m4])), (t, .inr (8, [.int t0, .int t1, .int t2, .int t3, .int t4, .ref ta, .ref tb, .ref tc, .ref td, .ref te])), (ta, .inl (cI, 6, .inl fta)), (tc, .inl (cI, 30, .inl ftc)), (nw, .inr (7, [.ref nwc])), (nwc, .inl (cI, 41, .inl fn))] → va_S A s.heap H locs → lv_has ls 8 [(6, .int w_4l6), (5, .int w_4l5), (4, .int w_4l4), (3, .int w_4l3), (0, .ref h), (1, .int c_), (2, .int b_)] → ((t1 : Int32).toInt - (w_4l6 : Int32).toInt).toNat < n_w_4 → (match (f_e_themeFor_x9_24 q1 q2 q10 q12 k0 k1 k2 k3 k4 t0 t1 t2 t3 t4 fta ftc fn c_ b_ n_w_4 w_4l6 w_4l5 w_4l4 w_4l3 w_4m0 w_4m1 w_4m2 w_4m3 w_4m4) with | (w_4l6, w_4l5, w_4l4, w_4l3, w_4m0, w_4m1, w_4m2, w_4m3, w_4m4) => (w_4l3, w_4m0, w_4m1, w_4m2, w_4m3, w_4m4)) = RES → W p l e rm_e_themeFor_x9 s m args below meth c H locs 0 0 Q (F0 m 24 ls []) := by
      intro n_w_4
      induction n_w_4 with
      | zero => intro w_4l6 w_4l5 w_4l4 w_4l3 w_4m0 w_4m1 w_4m2 w_4m3 w_4m4 H locs ls hP hD hS hl hm; exact absurd hm (Nat.not_lt_zero _)
      | succ n_w_4 ih_w_4 =>
        intro w_4l6 w_4l5 w_4l4 w_4l3 w_4m0 w_4m1 w_4m2 w_4m3 w_4m4 H locs ls hP hD hS hl hm hE
        rw [f_e_themeFor_x9_24_s] at hE
        refine lv_iload hx hb dX9_themeFor_24 (lv_at hl 0 rfl) ?_
        refine lv_aload_n hx hb dX9_themeFor_26 rfl (lv_at hl 4 rfl) ?_
        refine va_get (D := D) (ci := 9) (v := .ref t) (C := RX9) (T := TX9) (N := 17) hx hb hts iX9 hown hK hP 0 rfl rfl 4 (Nat.le_of_ble_eq_true rfl) (hts _ wd_89) (fun _ h9 => h9) rfl dX9_themeFor_27 ?_
        refine va_get (D := D) (ci := 8) (v := .int t1) (C := RX8) (T := TX8) (N := 10) hx hb hts iX8 hown hK hP 2 rfl rfl 1 (Nat.le_of_ble_eq_true rfl) (hts _ wd_269) (fun _ h9 => h9) rfl dX9_themeFor_30 ?_
        refine lv_icmp_ge (tgt := 134) hx hb dX9_themeFor_33 rfl (fun c_5 => ?_) (fun c_5 => ?_)
        · rw [if_pos c_5] at hE
          exact ex_24_w_4 w_4l6 w_4l5 w_4l4 w_4l3 w_4m0 w_4m1 w_4m2 w_4m3 w_4m4 _ _ ls hP hD hS (lv_sub hl [0, 1, 2, 3, 4, 5, 6] rfl) hE
        · rw [if_neg c_5] at hE
          refine lv_aload_n hx hb dX9_themeFor_36 rfl (lv_at hl 4 rfl) ?_
          refine lv_iload_n hx hb dX9_themeFor_37 rfl (lv_at hl 5 rfl) ?_
          refine lv_iload_n hx hb dX9_themeFor_38 rfl (lv_at hl 6 rfl) ?_
          refine lv_iload hx hb dX9_themeFor_39 (lv_at hl 0 rfl) ?_
          refine cVv (wr := []) (rest := []) (e_attempt_x9 h x rd t d nw ps im is_ bk qr pr cv ft ta tb tc td te nwc q1 q2 q10 q12 w_4m0 w_4m1 w_4m2 w_4m3 w_4m4 t0 t1 t2 t3 t4 fta ftc fn c_ b_ w_4l6) okV_X9_attempt wd_270 hx hb hml hown hts hK hP hD hS hA hN hl.1 [0, 1, 2, 3, 4, 5, 6] [] rfl rfl rfl rfl (of_decide_eq_true rfl) rfl rfl rfl (Nat.le_of_ble_eq_true rfl) (Nat.le_of_ble_eq_true rfl) (Nat.le_of_ble_eq_true rfl) (Nat.le_of_ble_eq_true rfl) (Nat.le_of_ble_eq_true rfl) dX9_themeFor_41 (fun u_6 H locs hw_u_6 hP hD hS => ?_)
          obtain ⟨o_8, o_9, o_10, o_11, o_12⟩ := u_6
          replace hw_u_6 : (o_8, o_9, o_10, o_11, o_12) = (f_e_attempt_x9 q1 q2 q10 q12 w_4m0 w_4m1 w_4m2 w_4m3 w_4m4 t0 t1 t2 t3 t4 fta ftc fn c_ b_ w_4l6) := hw_u_6
          rw [← hw_u_6] at hE
          replace hE : (match (if o_8 < w_4l4 then (if o_11 = 0 then (f_e_themeFor_x9_24 q1 q2 q10 q12 k0 k1 k2 k3 k4 t0 t1 t2 t3 t4 fta ftc fn c_ b_ n_w_4 (w_4l6 + 1) w_4l5 w_4l4 w_4l3 o_8 o_9 o_10 o_11 o_12) else (if w_4l3 = (-1) then (f_e_themeFor_x9_24 q1 q2 q10 q12 k0 k1 k2 k3 k4 t0 t1 t2 t3 t4 fta ftc fn c_ b_ n_w_4 (w_4l6 + 1) o_9 o_8 w_4l6 o_8 o_9 o_10 o_11 o_12) else (f_e_themeFor_x9_24 q1 q2 q10 q12 k0 k1 k2 k3 k4 t0 t1 t2 t3 t4 fta ftc fn c_ b_ n_w_4 (w_4l6 + 1) o_9 o_8 w_4l6 o_8 o_9 o_10 o_11 o_12))) else (if o_8 = w_4l4 then (if w_4l5 ≤ o_9 then (if o_11 = 0 then (f_e_themeFor_x9_24 q1 q2 q10 q12 k0 k1 k2 k3 k4 t0 t1 t2 t3 t4 fta ftc fn c_ b_ n_w_4 (w_4l6 + 1) w_4l5 w_4l4 w_4l3 o_8 o_9 o_10 o_11 o_12) else (if w_4l3 = (-1) then (f_e_themeFor_x9_24 q1 q2 q10 q12 k0 k1 k2 k3 k4 t0 t1 t2 t3 t4 fta ftc fn c_ b_ n_w_4 (w_4l6 + 1) o_9 o_8 w_4l6 o_8 o_9 o_10 o_11 o_12) else (f_e_themeFor_x9_24 q1 q2 q10 q12 k0 k1 k2 k3 k4 t0 t1 t2 t3 t4 fta ftc fn c_ b_ n_w_4 (w_4l6 + 1) w_4l5 w_4l4 w_4l3 o_8 o_9 o_10 o_11 o_12))) else (if o_11 = 0 then (f_e_themeFor_x9_24 q1 q2 q10 q12 k0 k1 k2 k3 k4 t0 t1 t2 t3 t4 fta ftc fn c_ b_ n_w_4 (w_4l6 + 1) w_4l5 w_4l4 w_4l3 o_8 o_9 o_10 o_11 o_12) else (if w_4l3 = (-1) then (f_e_themeFor_x9_24 q1 q2 q10 q12 k0 k1 k2 k3 k4 t0 t1 t2 t3 t4 fta ftc fn c_ b_ n_w_4 (w_4l6 + 1) o_9 o_8 w_4l6 o_8 o_9 o_10 o_11 o_12) else (f_e_themeFor_x9_24 q1 q2 q10 q12 k0 k1 k2 k3 k4 t0 t1 t2 t3 t4 fta ftc fn c_ b_ n_w_4 (w_4l6 + 1) o_9 o_8 w_4l6 o_8 o_9 o_10 o_11 o_12)))) else (if o_11 = 0 then (f_e_themeFor_x9_24 q1 q2 q10 q12 k0 k1 k2 k3 k4 t0 t1 t2 t3 t4 fta ftc fn c_ b_ n_w_4 (w_4l6 + 1) w_4l5 w_4l4 w_4l3 o_8 o_9 o_10 o_11 o_12) else (if w_4l3 = (-1) then (f_e_themeFor_x9_24 q1 q2 q10 q12 k0 k1 k2 k3 k4 t0 t1 t2 t3 t4 fta ftc fn c_ b_ n_w_4 (w_4l6 + 1) o_9 o_8 w_4l6 o_8 o_9 o_10 o_11 o_12) else (f_e_themeFor_x9_24 q1 q2 q10 q12 k0 k1 k2 k3 k4 t0 t1 t2 t3 t4 fta ftc fn c_ b_ n_w_4 (w_4l6 + 1) w_4l5 w_4l4 w_4l3 o_8 o_9 o_10 o_11 o_12))))) with | (w_4l6, w_4l5, w_4l4, w_4l3, w_4m0, w_4m1, w_4m2, w_4m3, w_4m4) => (w_4l3, w_4m0, w_4m1, w_4m2, w_4m3, w_4m4)) = RES := hE
          have hP : va_P D classes [(h, .inr (9, [.ref x, .int q1, .int q2, .ref rd, .ref t, .ref d, .ref nw, .ref ps, .ref im, .ref is_, .int q10, .ref bk, .int q12, .ref qr, .ref pr, .ref cv, .ref ft])), (qr, .inr (4, [.int o_8, .int o_9, .int o_10, .int o_11, .int o_12])), (t, .inr (8, [.int t0, .int t1, .int t2, .int t3, .int t4, .ref ta, .ref tb, .ref tc, .ref td, .ref te])), (ta, .inl (cI, 6, .inl fta)), (tc, .inl (cI, 30, .inl ftc)), (nw, .inr (7, [.ref nwc])), (nwc, .inl (cI, 41, .inl fn))] H := hP
          have hD : va_D A [(h, .inr (9, [.ref x, .int q1, .int q2, .ref rd, .ref t, .ref d, .ref nw, .ref ps, .ref im, .ref is_, .int q10, .ref bk, .int q12, .ref qr, .ref pr, .ref cv, .ref ft])), (qr, .inr (4, [.int o_8, .int o_9, .int o_10, .int o_11, .int o_12])), (t, .inr (8, [.int t0, .int t1, .int t2, .int t3, .int t4, .ref ta, .ref tb, .ref tc, .ref td, .ref te])), (ta, .inl (cI, 6, .inl fta)), (tc, .inl (cI, 30, .inl ftc)), (nw, .inr (7, [.ref nwc])), (nwc, .inl (cI, 41, .inl fn))] := hD
          refine lv_aload_n hx hb dX9_themeFor_44 rfl (lv_at hl 4 rfl) ?_
          refine va_get (D := D) (ci := 9) (v := .ref qr) (C := RX9) (T := TX9) (N := 17) hx hb hts iX9 hown hK hP 0 rfl rfl 13 (Nat.le_of_ble_eq_true rfl) (hts _ wd_120) (fun _ h9 => h9) rfl dX9_themeFor_45 ?_
          refine va_get (D := D) (ci := 4) (v := .int o_8) (C := RX4) (T := TX4) (N := 5) hx hb hts iX4 hown hK hP 1 rfl rfl 0 (Nat.le_of_ble_eq_true rfl) (hts _ wd_264) (fun _ h9 => h9) rfl dX9_themeFor_48 ?_
          refine lv_iload hx hb dX9_themeFor_51 (lv_at hl 2 rfl) ?_
          refine lv_icmp_lt (tgt := 80) hx hb dX9_themeFor_53 rfl (fun c_13 => ?_) (fun c_13 => ?_)
          · rw [if_pos c_13] at hE
            refine lv_iconst (v := 1) hx hb dX9_themeFor_80 rfl ?_
            refine lv_goto (tgt := 85) hx hb dX9_themeFor_81 rfl ?_
            refine lv_istore (lv' := [(7, .int 1), (6, .int w_4l6), (5, .int w_4l5), (4, .int w_4l4), (3, .int w_4l3), (0, .ref h), (1, .int c_), (2, .int b_)]) hx hb dX9_themeFor_85 hl (Nat.le_of_ble_eq_true rfl) rfl (fun ls hl => ?_)
            refine lv_aload_n hx hb dX9_themeFor_87 rfl (lv_at hl 5 rfl) ?_
            refine va_get (D := D) (ci := 9) (v := .ref qr) (C := RX9) (T := TX9) (N := 17) hx hb hts iX9 hown hK hP 0 rfl rfl 13 (Nat.le_of_ble_eq_true rfl) (hts _ wd_120) (fun _ h9 => h9) rfl dX9_themeFor_88 ?_
            refine va_get (D := D) (ci := 4) (v := .int o_11) (C := RX4) (T := TX4) (N := 5) hx hb hts iX4 hown hK hP 1 rfl rfl 3 (Nat.le_of_ble_eq_true rfl) (hts _ wd_274) (fun _ h9 => h9) rfl dX9_themeFor_91 ?_
            refine lv_if_eq (tgt := 128) hx hb dX9_themeFor_94 rfl (fun c_14 => ?_) (fun c_14 => ?_)
            · rw [if_pos c_14] at hE
              refine lv_iinc (v := (w_4l6 + 1)) (lv' := [(6, .int (w_4l6 + 1)), (7, .int 1), (5, .int w_4l5), (4, .int w_4l4), (3, .int w_4l3), (0, .ref h), (1, .int c_), (2, .int b_)]) hx hb dX9_themeFor_128 hl (k := 1) rfl rfl (Nat.le_of_ble_eq_true rfl) rfl (fun ls hl => ?_)
              refine lv_goto (tgt := 24) hx hb dX9_themeFor_131 rfl ?_
              exact ih_w_4 (w_4l6 + 1) w_4l5 w_4l4 w_4l3 o_8 o_9 o_10 o_11 o_12 _ _ ls hP hD hS (lv_sub hl [0, 2, 3, 4, 5, 6, 7] rfl) (up_step c_5 hm) hE
            · rw [if_neg c_14] at hE
              refine lv_iload_n hx hb dX9_themeFor_97 rfl (lv_at hl 4 rfl) ?_
              refine lv_iconst (v := (-1)) hx hb dX9_themeFor_98 rfl ?_
              refine lv_icmp_eq (tgt := 107) hx hb dX9_themeFor_99 rfl (fun c_15 => ?_) (fun c_15 => ?_)
              · rw [if_pos c_15] at hE
                refine lv_iload hx hb dX9_themeFor_107 (lv_at hl 1 rfl) ?_
                refine lv_istore_n (lv' := [(3, .int w_4l6), (7, .int 1), (6, .int w_4l6), (5, .int w_4l5), (4, .int w_4l4), (0, .ref h), (1, .int c_), (2, .int b_)]) hx hb dX9_themeFor_109 rfl hl (Nat.le_of_ble_eq_true rfl) rfl (fun ls hl => ?_)
                refine lv_aload_n hx hb dX9_themeFor_110 rfl (lv_at hl 5 rfl) ?_
                refine va_get (D := D) (ci := 9) (v := .ref qr) (C := RX9) (T := TX9) (N := 17) hx hb hts iX9 hown hK hP 0 rfl rfl 13 (Nat.le_of_ble_eq_true rfl) (hts _ wd_120) (fun _ h9 => h9) rfl dX9_themeFor_111 ?_
                refine va_get (D := D) (ci := 4) (v := .int o_8) (C := RX4) (T := TX4) (N := 5) hx hb hts iX4 hown hK hP 1 rfl rfl 0 (Nat.le_of_ble_eq_true rfl) (hts _ wd_264) (fun _ h9 => h9) rfl dX9_themeFor_114 ?_
                refine lv_istore (lv' := [(4, .int o_8), (3, .int w_4l6), (7, .int 1), (6, .int w_4l6), (5, .int w_4l5), (0, .ref h), (1, .int c_), (2, .int b_)]) hx hb dX9_themeFor_117 hl (Nat.le_of_ble_eq_true rfl) rfl (fun ls hl => ?_)
                refine lv_aload_n hx hb dX9_themeFor_119 rfl (lv_at hl 5 rfl) ?_
                refine va_get (D := D) (ci := 9) (v := .ref qr) (C := RX9) (T := TX9) (N := 17) hx hb hts iX9 hown hK hP 0 rfl rfl 13 (Nat.le_of_ble_eq_true rfl) (hts _ wd_120) (fun _ h9 => h9) rfl dX9_themeFor_120 ?_
                refine va_get (D := D) (ci := 4) (v := .int o_9) (C := RX4) (T := TX4) (N := 5) hx hb hts iX4 hown hK hP 1 rfl rfl 1 (Nat.le_of_ble_eq_true rfl) (hts _ wd_275) (fun _ h9 => h9) rfl dX9_themeFor_123 ?_
                refine lv_istore (lv' := [(5, .int o_9), (4, .int o_8), (3, .int w_4l6), (7, .int 1), (6, .int w_4l6), (0, .ref h), (1, .int c_), (2, .int b_)]) hx hb dX9_themeFor_126 hl (Nat.le_of_ble_eq_true rfl) rfl (fun ls hl => ?_)
                refine lv_iinc (v := (w_4l6 + 1)) (lv' := [(6, .int (w_4l6 + 1)), (5, .int o_9), (4, .int o_8), (3, .int w_4l6), (7, .int 1), (0, .ref h), (1, .int c_), (2, .int b_)]) hx hb dX9_themeFor_128 hl (k := 4) rfl rfl (Nat.le_of_ble_eq_true rfl) rfl (fun ls hl => ?_)
                refine lv_goto (tgt := 24) hx hb dX9_themeFor_131 rfl ?_
                exact ih_w_4 (w_4l6 + 1) o_9 o_8 w_4l6 o_8 o_9 o_10 o_11 o_12 _ _ ls hP hD hS (lv_sub hl [0, 1, 2, 3, 5, 6, 7] rfl) (up_step c_5 hm) hE
              · rw [if_neg c_15] at hE
                refine lv_iload hx hb dX9_themeFor_102 (lv_at hl 0 rfl) ?_
                refine lv_if_eq (tgt := 128) hx hb dX9_themeFor_104 rfl (fun c_16 => absurd c_16 (by decide +kernel)) (fun c_16 => ?_)
                refine lv_iload hx hb dX9_themeFor_107 (lv_at hl 1 rfl) ?_
                refine lv_istore_n (lv' := [(3, .int w_4l6), (7, .int 1), (6, .int w_4l6), (5, .int w_4l5), (4, .int w_4l4), (0, .ref h), (1, .int c_), (2, .int b_)]) hx hb dX9_themeFor_109 rfl hl (Nat.le_of_ble_eq_true rfl) rfl (fun ls hl => ?_)
                refine lv_aload_n hx hb dX9_themeFor_110 rfl (lv_at hl 5 rfl) ?_
                refine va_get (D := D) (ci := 9) (v := .ref qr) (C := RX9) (T := TX9) (N := 17) hx hb hts iX9 hown hK hP 0 rfl rfl 13 (Nat.le_of_ble_eq_true rfl) (hts _ wd_120) (fun _ h9 => h9) rfl dX9_themeFor_111 ?_
                refine va_get (D := D) (ci := 4) (v := .int o_8) (C := RX4) (T := TX4) (N := 5) hx hb hts iX4 hown hK hP 1 rfl rfl 0 (Nat.le_of_ble_eq_true rfl) (hts _ wd_264) (fun _ h9 => h9) rfl dX9_themeFor_114 ?_
                refine lv_istore (lv' := [(4, .int o_8), (3, .int w_4l6), (7, .int 1), (6, .int w_4l6), (5, .int w_4l5), (0, .ref h), (1, .int c_), (2, .int b_)]) hx hb dX9_themeFor_117 hl (Nat.le_of_ble_eq_true rfl) rfl (fun ls hl => ?_)
                refine lv_aload_n hx hb dX9_themeFor_119 rfl (lv_at hl 5 rfl) ?_
                refine va_get (D := D) (ci := 9) (v := .ref qr) (C := RX9) (T := TX9) (N := 17) hx hb hts iX9 hown hK hP 0 rfl rfl 13 (Nat.le_of_ble_eq_true rfl) (hts _ wd_120) (fun _ h9 => h9) rfl dX9_themeFor_120 ?_
                refine va_get (D := D) (ci := 4) (v := .int o_9) (C := RX4) (T := TX4) (N := 5) hx hb hts iX4 hown hK hP 1 rfl rfl 1 (Nat.le_of_ble_eq_true rfl) (hts _ wd_275) (fun _ h9 => h9) rfl dX9_themeFor_123 ?_
                refine lv_istore (lv' := [(5, .int o_9), (4, .int o_8), (3, .int w_4l6), (7, .int 1), (6, .int w_4l6), (0, .ref h), (1, .int c_), (2, .int b_)]) hx hb dX9_themeFor_126 hl (Nat.le_of_ble_eq_true rfl) rfl (fun ls hl => ?_)
                refine lv_iinc (v := (w_4l6 + 1)) (lv' := [(6, .int (w_4l6 + 1)), (5, .int o_9), (4, .int o_8), (3, .int w_4l6), (7, .int 1), (0, .ref h), (1, .int c_), (2, .int b_)]) hx hb dX9_themeFor_128 hl (k := 4) rfl rfl (Nat.le_of_ble_eq_true rfl) rfl (fun ls hl => ?_)
                refine lv_goto (tgt := 24) hx hb dX9_themeFor_131 rfl ?_
                exact ih_w_4 (w_4l6 + 1) o_9 o_8 w_4l6 o_8 o_9 o_10 o_11 o_12 _ _ ls hP hD hS (lv_sub hl [0, 1, 2, 3, 5, 6, 7] rfl) (up_step c_5 hm) hE
          · rw [if_neg c_13] at hE
            refine lv_aload_n hx hb dX9_themeFor_56 rfl (lv_at hl 4 rfl) ?_
            refine va_get (D := D) (ci := 9) (v := .ref qr) (C := RX9) (T := TX9) (N := 17) hx hb hts iX9 hown hK hP 0 rfl rfl 13 (Nat.le_of_ble_eq_true rfl) (hts _ wd_120) (fun _ h9 => h9) rfl dX9_themeFor_57 ?_
            refine va_get (D := D) (ci := 4) (v := .int o_8) (C := RX4) (T := TX4) (N := 5) hx hb hts iX4 hown hK hP 1 rfl rfl 0 (Nat.le_of_ble_eq_true rfl) (hts _ wd_264) (fun _ h9 => h9) rfl dX9_themeFor_60 ?_
            refine lv_iload hx hb dX9_themeFor_63 (lv_at hl 2 rfl) ?_
            refine lv_icmp_ne (tgt := 84) hx hb dX9_themeFor_65 rfl (fun c_17 => ?_) (fun c_17 => ?_)
            · rw [if_neg c_17] at hE
              refine lv_iconst (v := 0) hx hb dX9_themeFor_84 rfl ?_
              refine lv_istore (lv' := [(7, .int 0), (6, .int w_4l6), (5, .int w_4l5), (4, .int w_4l4), (3, .int w_4l3), (0, .ref h), (1, .int c_), (2, .int b_)]) hx hb dX9_themeFor_85 hl (Nat.le_of_ble_eq_true rfl) rfl (fun ls hl => ?_)
              refine lv_aload_n hx hb dX9_themeFor_87 rfl (lv_at hl 5 rfl) ?_
              refine va_get (D := D) (ci := 9) (v := .ref qr) (C := RX9) (T := TX9) (N := 17) hx hb hts iX9 hown hK hP 0 rfl rfl 13 (Nat.le_of_ble_eq_true rfl) (hts _ wd_120) (fun _ h9 => h9) rfl dX9_themeFor_88 ?_
              refine va_get (D := D) (ci := 4) (v := .int o_11) (C := RX4) (T := TX4) (N := 5) hx hb hts iX4 hown hK hP 1 rfl rfl 3 (Nat.le_of_ble_eq_true rfl) (hts _ wd_274) (fun _ h9 => h9) rfl dX9_themeFor_91 ?_
              refine lv_if_eq (tgt := 128) hx hb dX9_themeFor_94 rfl (fun c_18 => ?_) (fun c_18 => ?_)
              · rw [if_pos c_18] at hE
                refine lv_iinc (v := (w_4l6 + 1)) (lv' := [(6, .int (w_4l6 + 1)), (7, .int 0), (5, .int w_4l5), (4, .int w_4l4), (3, .int w_4l3), (0, .ref h), (1, .int c_), (2, .int b_)]) hx hb dX9_themeFor_128 hl (k := 1) rfl rfl (Nat.le_of_ble_eq_true rfl) rfl (fun ls hl => ?_)
                refine lv_goto (tgt := 24) hx hb dX9_themeFor_131 rfl ?_
                exact ih_w_4 (w_4l6 + 1) w_4l5 w_4l4 w_4l3 o_8 o_9 o_10 o_11 o_12 _ _ ls hP hD hS (lv_sub hl [0, 2, 3, 4, 5, 6, 7] rfl) (up_step c_5 hm) hE
              · rw [if_neg c_18] at hE
                refine lv_iload_n hx hb dX9_themeFor_97 rfl (lv_at hl 4 rfl) ?_
                refine lv_iconst (v := (-1)) hx hb dX9_themeFor_98 rfl ?_
                refine lv_icmp_eq (tgt := 107) hx hb dX9_themeFor_99 rfl (fun c_19 => ?_) (fun c_19 => ?_)
                · rw [if_pos c_19] at hE
                  refine lv_iload hx hb dX9_themeFor_107 (lv_at hl 1 rfl) ?_
                  refine lv_istore_n (lv' := [(3, .int w_4l6), (7, .int 0), (6, .int w_4l6), (5, .int w_4l5), (4, .int w_4l4), (0, .ref h), (1, .int c_), (2, .int b_)]) hx hb dX9_themeFor_109 rfl hl (Nat.le_of_ble_eq_true rfl) rfl (fun ls hl => ?_)
                  refine lv_aload_n hx hb dX9_themeFor_110 rfl (lv_at hl 5 rfl) ?_
                  refine va_get (D := D) (ci := 9) (v := .ref qr) (C := RX9) (T := TX9) (N := 17) hx hb hts iX9 hown hK hP 0 rfl rfl 13 (Nat.le_of_ble_eq_true rfl) (hts _ wd_120) (fun _ h9 => h9) rfl dX9_themeFor_111 ?_
                  refine va_get (D := D) (ci := 4) (v := .int o_8) (C := RX4) (T := TX4) (N := 5) hx hb hts iX4 hown hK hP 1 rfl rfl 0 (Nat.le_of_ble_eq_true rfl) (hts _ wd_264) (fun _ h9 => h9) rfl dX9_themeFor_114 ?_
                  refine lv_istore (lv' := [(4, .int o_8), (3, .int w_4l6), (7, .int 0), (6, .int w_4l6), (5, .int w_4l5), (0, .ref h), (1, .int c_), (2, .int b_)]) hx hb dX9_themeFor_117 hl (Nat.le_of_ble_eq_true rfl) rfl (fun ls hl => ?_)
                  refine lv_aload_n hx hb dX9_themeFor_119 rfl (lv_at hl 5 rfl) ?_
                  refine va_get (D := D) (ci := 9) (v := .ref qr) (C := RX9) (T := TX9) (N := 17) hx hb hts iX9 hown hK hP 0 rfl rfl 13 (Nat.le_of_ble_eq_true rfl) (hts _ wd_120) (fun _ h9 => h9) rfl dX9_themeFor_120 ?_
                  refine va_get (D := D) (ci := 4) (v := .int o_9) (C := RX4) (T := TX4) (N := 5) hx hb hts iX4 hown hK hP 1 rfl rfl 1 (Nat.le_of_ble_eq_true rfl) (hts _ wd_275) (fun _ h9 => h9) rfl dX9_themeFor_123 ?_
                  refine lv_istore (lv' := [(5, .int o_9), (4, .int o_8), (3, .int w_4l6), (7, .int 0), (6, .int w_4l6), (0, .ref h), (1, .int c_), (2, .int b_)]) hx hb dX9_themeFor_126 hl (Nat.le_of_ble_eq_true rfl) rfl (fun ls hl => ?_)
                  refine lv_iinc (v := (w_4l6 + 1)) (lv' := [(6, .int (w_4l6 + 1)), (5, .int o_9), (4, .int o_8), (3, .int w_4l6), (7, .int 0), (0, .ref h), (1, .int c_), (2, .int b_)]) hx hb dX9_themeFor_128 hl (k := 4) rfl rfl (Nat.le_of_ble_eq_true rfl) rfl (fun ls hl => ?_)
                  refine lv_goto (tgt := 24) hx hb dX9_themeFor_131 rfl ?_
                  exact ih_w_4 (w_4l6 + 1) o_9 o_8 w_4l6 o_8 o_9 o_10 o_11 o_12 _ _ ls hP hD hS (lv_sub hl [0, 1, 2, 3, 5, 6, 7] rfl) (up_step c_5 hm) hE
                · rw [if_neg c_19] at hE
                  refine lv_iload hx hb dX9_themeFor_102 (lv_at hl 0 rfl) ?_
                  refine lv_if_eq (tgt := 128) hx hb dX9_themeFor_104 rfl (fun c_20 => ?_) (fun c_20 => absurd (by decide +kernel) c_20)
                  refine lv_iinc (v := (w_4l6 + 1)) (lv' := [(6, .int (w_4l6 + 1)), (7, .int 0), (5, .int w_4l5), (4, .int w_4l4), (3, .int w_4l3), (0, .ref h), (1, .int c_), (2, .int b_)]) hx hb dX9_themeFor_128 hl (k := 1) rfl rfl (Nat.le_of_ble_eq_true rfl) rfl (fun ls hl => ?_)
                  refine lv_goto (tgt := 24) hx hb dX9_themeFor_131 rfl ?_
                  exact ih_w_4 (w_4l6 + 1) w_4l5 w_4l4 w_4l3 o_8 o_9 o_10 o_11 o_12 _ _ ls hP hD hS (lv_sub hl [0, 2, 3, 4, 5, 6, 7] rfl) (up_step c_5 hm) hE
            · rw [if_pos c_17] at hE
              refine lv_aload_n hx hb dX9_themeFor_68 rfl (lv_at hl 4 rfl) ?_
              refine va_get (D := D) (ci := 9) (v := .ref qr) (C := RX9) (T := TX9) (N := 17) hx hb hts iX9 hown hK hP 0 rfl rfl 13 (Nat.le_of_ble_eq_true rfl) (hts _ wd_120) (fun _ h9 => h9) rfl dX9_themeFor_69 ?_
              refine va_get (D := D) (ci := 4) (v := .int o_9) (C := RX4) (T := TX4) (N := 5) hx hb hts iX4 hown hK hP 1 rfl rfl 1 (Nat.le_of_ble_eq_true rfl) (hts _ wd_275) (fun _ h9 => h9) rfl dX9_themeFor_72 ?_
              refine lv_iload hx hb dX9_themeFor_75 (lv_at hl 1 rfl) ?_
              refine lv_icmp_ge (tgt := 84) hx hb dX9_themeFor_77 rfl (fun c_21 => ?_) (fun c_21 => ?_)
              · rw [if_pos c_21] at hE
                refine lv_iconst (v := 0) hx hb dX9_themeFor_84 rfl ?_
                refine lv_istore (lv' := [(7, .int 0), (6, .int w_4l6), (5, .int w_4l5), (4, .int w_4l4), (3, .int w_4l3), (0, .ref h), (1, .int c_), (2, .int b_)]) hx hb dX9_themeFor_85 hl (Nat.le_of_ble_eq_true rfl) rfl (fun ls hl => ?_)
                refine lv_aload_n hx hb dX9_themeFor_87 rfl (lv_at hl 5 rfl) ?_
                refine va_get (D := D) (ci := 9) (v := .ref qr) (C := RX9) (T := TX9) (N := 17) hx hb hts iX9 hown hK hP 0 rfl rfl 13 (Nat.le_of_ble_eq_true rfl) (hts _ wd_120) (fun _ h9 => h9) rfl dX9_themeFor_88 ?_
                refine va_get (D := D) (ci := 4) (v := .int o_11) (C := RX4) (T := TX4) (N := 5) hx hb hts iX4 hown hK hP 1 rfl rfl 3 (Nat.le_of_ble_eq_true rfl) (hts _ wd_274) (fun _ h9 => h9) rfl dX9_themeFor_91 ?_
                refine lv_if_eq (tgt := 128) hx hb dX9_themeFor_94 rfl (fun c_22 => ?_) (fun c_22 => ?_)
                · rw [if_pos c_22] at hE
                  refine lv_iinc (v := (w_4l6 + 1)) (lv' := [(6, .int (w_4l6 + 1)), (7, .int 0), (5, .int w_4l5), (4, .int w_4l4), (3, .int w_4l3), (0, .ref h), (1, .int c_), (2, .int b_)]) hx hb dX9_themeFor_128 hl (k := 1) rfl rfl (Nat.le_of_ble_eq_true rfl) rfl (fun ls hl => ?_)
                  refine lv_goto (tgt := 24) hx hb dX9_themeFor_131 rfl ?_
                  exact ih_w_4 (w_4l6 + 1) w_4l5 w_4l4 w_4l3 o_8 o_9 o_10 o_11 o_12 _ _ ls hP hD hS (lv_sub hl [0, 2, 3, 4, 5, 6, 7] rfl) (up_step c_5 hm) hE
                · rw [if_neg c_22] at hE
                  refine lv_iload_n hx hb dX9_themeFor_97 rfl (lv_at hl 4 rfl) ?_
                  refine lv_iconst (v := (-1)) hx hb dX9_themeFor_98 rfl ?_
                  refine lv_icmp_eq (tgt := 107) hx hb dX9_themeFor_99 rfl (fun c_23 => ?_) (fun c_23 => ?_)
                  · rw [if_pos c_23] at hE
                    refine lv_iload hx hb dX9_themeFor_107 (lv_at hl 1 rfl) ?_
                    refine lv_istore_n (lv' := [(3, .int w_4l6), (7, .int 0), (6, .int w_4l6), (5, .int w_4l5), (4, .int w_4l4), (0, .ref h), (1, .int c_), (2, .int b_)]) hx hb dX9_themeFor_109 rfl hl (Nat.le_of_ble_eq_true rfl) rfl (fun ls hl => ?_)
                    refine lv_aload_n hx hb dX9_themeFor_110 rfl (lv_at hl 5 rfl) ?_
                    refine va_get (D := D) (ci := 9) (v := .ref qr) (C := RX9) (T := TX9) (N := 17) hx hb hts iX9 hown hK hP 0 rfl rfl 13 (Nat.le_of_ble_eq_true rfl) (hts _ wd_120) (fun _ h9 => h9) rfl dX9_themeFor_111 ?_
                    refine va_get (D := D) (ci := 4) (v := .int o_8) (C := RX4) (T := TX4) (N := 5) hx hb hts iX4 hown hK hP 1 rfl rfl 0 (Nat.le_of_ble_eq_true rfl) (hts _ wd_264) (fun _ h9 => h9) rfl dX9_themeFor_114 ?_
                    refine lv_istore (lv' := [(4, .int o_8), (3, .int w_4l6), (7, .int 0), (6, .int w_4l6), (5, .int w_4l5), (0, .ref h), (1, .int c_), (2, .int b_)]) hx hb dX9_themeFor_117 hl (Nat.le_of_ble_eq_true rfl) rfl (fun ls hl => ?_)
                    refine lv_aload_n hx hb dX9_themeFor_119 rfl (lv_at hl 5 rfl) ?_
                    refine va_get (D := D) (ci := 9) (v := .ref qr) (C := RX9) (T := TX9) (N := 17) hx hb hts iX9 hown hK hP 0 rfl rfl 13 (Nat.le_of_ble_eq_true rfl) (hts _ wd_120) (fun _ h9 => h9) rfl dX9_themeFor_120 ?_
                    refine va_get (D := D) (ci := 4) (v := .int o_9) (C := RX4) (T := TX4) (N := 5) hx hb hts iX4 hown hK hP 1 rfl rfl 1 (Nat.le_of_ble_eq_true rfl) (hts _ wd_275) (fun _ h9 => h9) rfl dX9_themeFor_123 ?_
                    refine lv_istore (lv' := [(5, .int o_9), (4, .int o_8), (3, .int w_4l6), (7, .int 0), (6, .int w_4l6), (0, .ref h), (1, .int c_), (2, .int b_)]) hx hb dX9_themeFor_126 hl (Nat.le_of_ble_eq_true rfl) rfl (fun ls hl => ?_)
                    refine lv_iinc (v := (w_4l6 + 1)) (lv' := [(6, .int (w_4l6 + 1)), (5, .int o_9), (4, .int o_8), (3, .int w_4l6), (7, .int 0), (0, .ref h), (1, .int c_), (2, .int b_)]) hx hb dX9_themeFor_128 hl (k := 4) rfl rfl (Nat.le_of_ble_eq_true rfl) rfl (fun ls hl => ?_)
                    refine lv_goto (tgt := 24) hx hb dX9_themeFor_131 rfl ?_
                    exact ih_w_4 (w_4l6 + 1) o_9 o_8 w_4l6 o_8 o_9 o_10 o_11 o_12 _ _ ls hP hD hS (lv_sub hl [0, 1, 2, 3, 5, 6, 7] rfl) (up_step c_5 hm) hE
                  · rw [if_neg c_23] at hE
                    refine lv_iload hx hb dX9_themeFor_102 (lv_at hl 0 rfl) ?_
                    refine lv_if_eq (tgt := 128) hx hb dX9_themeFor_104 rfl (fun c_24 => ?_) (fun c_24 => absurd (by decide +kernel) c_24)
                    refine lv_iinc (v := (w_4l6 + 1)) (lv' := [(6, .int (w_4l6 + 1)), (7, .int 0), (5, .int w_4l5), (4, .int w_4l4), (3, .int w_4l3), (0, .ref h), (1, .int c_), (2, .int b_)]) hx hb dX9_themeFor_128 hl (k := 1) rfl rfl (Nat.le_of_ble_eq_true rfl) rfl (fun ls hl => ?_)
                    refine lv_goto (tgt := 24) hx hb dX9_themeFor_131 rfl ?_
                    exact ih_w_4 (w_4l6 + 1) w_4l5 w_4l4 w_4l3 o_8 o_9 o_10 o_11 o_12 _ _ ls hP hD hS (lv_sub hl [0, 2, 3, 4, 5, 6, 7] rfl) (up_step c_5 hm) hE
              · rw [if_neg c_21] at hE
                refine lv_iconst (v := 1) hx hb dX9_themeFor_80 rfl ?_
                refine lv_goto (tgt := 85) hx hb dX9_themeFor_81 rfl ?_
                refine lv_istore (lv' := [(7, .int 1), (6, .int w_4l6), (5, .int w_4l5), (4, .int w_4l4), (3, .int w_4l3), (0, .ref h), (1, .int c_), (2, .int b_)]) hx hb dX9_themeFor_85 hl (Nat.le_of_ble_eq_true rfl) rfl (fun ls hl => ?_)
                refine lv_aload_n hx hb dX9_themeFor_87 rfl (lv_at hl 5 rfl) ?_
                refine va_get (D := D) (ci := 9) (v := .ref qr) (C := RX9) (T := TX9) (N := 17) hx hb hts iX9 hown hK hP 0 rfl rfl 13 (Nat.le_of_ble_eq_true rfl) (hts _ wd_120) (fun _ h9 => h9) rfl dX9_themeFor_88 ?_
                refine va_get (D := D) (ci := 4) (v := .int o_11) (C := RX4) (T := TX4) (N := 5) hx hb hts iX4 hown hK hP 1 rfl rfl 3 (Nat.le_of_ble_eq_true rfl) (hts _ wd_274) (fun _ h9 => h9) rfl dX9_themeFor_91 ?_
                refine lv_if_eq (tgt := 128) hx hb dX9_themeFor_94 rfl (fun c_25 => ?_) (fun c_25 => ?_)
                · rw [if_pos c_25] at hE
                  refine lv_iinc (v := (w_4l6 + 1)) (lv' := [(6, .int (w_4l6 + 1)), (7, .int 1), (5, .int w_4l5), (4, .int w_4l4), (3, .int w_4l3), (0, .ref h), (1, .int c_), (2, .int b_)]) hx hb dX9_themeFor_128 hl (k := 1) rfl rfl (Nat.le_of_ble_eq_true rfl) rfl (fun ls hl => ?_)
                  refine lv_goto (tgt := 24) hx hb dX9_themeFor_131 rfl ?_
                  exact ih_w_4 (w_4l6 + 1) w_4l5 w_4l4 w_4l3 o_8 o_9 o_10 o_11 o_12 _ _ ls hP hD hS (lv_sub hl [0, 2, 3, 4, 5, 6, 7] rfl) (up_step c_5 hm) hE
                · rw [if_neg c_25] at hE
                  refine lv_iload_n hx hb dX9_themeFor_97 rfl (lv_at hl 4 rfl) ?_
                  refine lv_iconst (v := (-1)) hx hb dX9_themeFor_98 rfl ?_
                  refine lv_icmp_eq (tgt := 107) hx hb dX9_themeFor_99 rfl (fun c_26 => ?_) (fun c_26 => ?_)
                  · rw [if_pos c_26] at hE
                    refine lv_iload hx hb dX9_themeFor_107 (lv_at hl 1 rfl) ?_
                    refine lv_istore_n (lv' := [(3, .int w_4l6), (7, .int 1), (6, .int w_4l6), (5, .int w_4l5), (4, .int w_4l4), (0, .ref h), (1, .int c_), (2, .int b_)]) hx hb dX9_themeFor_109 rfl hl (Nat.le_of_ble_eq_true rfl) rfl (fun ls hl => ?_)
                    refine lv_aload_n hx hb dX9_themeFor_110 rfl (lv_at hl 5 rfl) ?_
                    refine va_get (D := D) (ci := 9) (v := .ref qr) (C := RX9) (T := TX9) (N := 17) hx hb hts iX9 hown hK hP 0 rfl rfl 13 (Nat.le_of_ble_eq_true rfl) (hts _ wd_120) (fun _ h9 => h9) rfl dX9_themeFor_111 ?_
                    refine va_get (D := D) (ci := 4) (v := .int o_8) (C := RX4) (T := TX4) (N := 5) hx hb hts iX4 hown hK hP 1 rfl rfl 0 (Nat.le_of_ble_eq_true rfl) (hts _ wd_264) (fun _ h9 => h9) rfl dX9_themeFor_114 ?_
                    refine lv_istore (lv' := [(4, .int o_8), (3, .int w_4l6), (7, .int 1), (6, .int w_4l6), (5, .int w_4l5), (0, .ref h), (1, .int c_), (2, .int b_)]) hx hb dX9_themeFor_117 hl (Nat.le_of_ble_eq_true rfl) rfl (fun ls hl => ?_)
                    refine lv_aload_n hx hb dX9_themeFor_119 rfl (lv_at hl 5 rfl) ?_
                    refine va_get (D := D) (ci := 9) (v := .ref qr) (C := RX9) (T := TX9) (N := 17) hx hb hts iX9 hown hK hP 0 rfl rfl 13 (Nat.le_of_ble_eq_true rfl) (hts _ wd_120) (fun _ h9 => h9) rfl dX9_themeFor_120 ?_
                    refine va_get (D := D) (ci := 4) (v := .int o_9) (C := RX4) (T := TX4) (N := 5) hx hb hts iX4 hown hK hP 1 rfl rfl 1 (Nat.le_of_ble_eq_true rfl) (hts _ wd_275) (fun _ h9 => h9) rfl dX9_themeFor_123 ?_
                    refine lv_istore (lv' := [(5, .int o_9), (4, .int o_8), (3, .int w_4l6), (7, .int 1), (6, .int w_4l6), (0, .ref h), (1, .int c_), (2, .int b_)]) hx hb dX9_themeFor_126 hl (Nat.le_of_ble_eq_true rfl) rfl (fun ls hl => ?_)
                    refine lv_iinc (v := (w_4l6 + 1)) (lv' := [(6, .int (w_4l6 + 1)), (5, .int o_9), (4, .int o_8), (3, .int w_4l6), (7, .int 1), (0, .ref h), (1, .int c_), (2, .int b_)]) hx hb dX9_themeFor_128 hl (k := 4) rfl rfl (Nat.le_of_ble_eq_true rfl) rfl (fun ls hl => ?_)
                    refine lv_goto (tgt := 24) hx hb dX9_themeFor_131 rfl ?_
                    exact ih_w_4 (w_4l6 + 1) o_9 o_8 w_4l6 o_8 o_9 o_10 o_11 o_12 _ _ ls hP hD hS (lv_sub hl [0, 1, 2, 3, 5, 6, 7] rfl) (up_step c_5 hm) hE
                  · rw [if_neg c_26] at hE
                    refine lv_iload hx hb dX9_themeFor_102 (lv_at hl 0 rfl) ?_
                    refine lv_if_eq (tgt := 128) hx hb dX9_themeFor_104 rfl (fun c_27 => absurd c_27 (by decide +kernel)) (fun c_27 => ?_)
                    refine lv_iload hx hb dX9_themeFor_107 (lv_at hl 1 rfl) ?_
                    refine lv_istore_n (lv' := [(3, .int w_4l6), (7, .int 1), (6, .int w_4l6), (5, .int w_4l5), (4, .int w_4l4), (0, .ref h), (1, .int c_), (2, .int b_)]) hx hb dX9_themeFor_109 rfl hl (Nat.le_of_ble_eq_true rfl) rfl (fun ls hl => ?_)
                    refine lv_aload_n hx hb dX9_themeFor_110 rfl (lv_at hl 5 rfl) ?_
                    refine va_get (D := D) (ci := 9) (v := .ref qr) (C := RX9) (T := TX9) (N := 17) hx hb hts iX9 hown hK hP 0 rfl rfl 13 (Nat.le_of_ble_eq_true rfl) (hts _ wd_120) (fun _ h9 => h9) rfl dX9_themeFor_111 ?_
                    refine va_get (D := D) (ci := 4) (v := .int o_8) (C := RX4) (T := TX4) (N := 5) hx hb hts iX4 hown hK hP 1 rfl rfl 0 (Nat.le_of_ble_eq_true rfl) (hts _ wd_264) (fun _ h9 => h9) rfl dX9_themeFor_114 ?_
                    refine lv_istore (lv' := [(4, .int o_8), (3, .int w_4l6), (7, .int 1), (6, .int w_4l6), (5, .int w_4l5), (0, .ref h), (1, .int c_), (2, .int b_)]) hx hb dX9_themeFor_117 hl (Nat.le_of_ble_eq_true rfl) rfl (fun ls hl => ?_)
                    refine lv_aload_n hx hb dX9_themeFor_119 rfl (lv_at hl 5 rfl) ?_
                    refine va_get (D := D) (ci := 9) (v := .ref qr) (C := RX9) (T := TX9) (N := 17) hx hb hts iX9 hown hK hP 0 rfl rfl 13 (Nat.le_of_ble_eq_true rfl) (hts _ wd_120) (fun _ h9 => h9) rfl dX9_themeFor_120 ?_
                    refine va_get (D := D) (ci := 4) (v := .int o_9) (C := RX4) (T := TX4) (N := 5) hx hb hts iX4 hown hK hP 1 rfl rfl 1 (Nat.le_of_ble_eq_true rfl) (hts _ wd_275) (fun _ h9 => h9) rfl dX9_themeFor_123 ?_
                    refine lv_istore (lv' := [(5, .int o_9), (4, .int o_8), (3, .int w_4l6), (7, .int 1), (6, .int w_4l6), (0, .ref h), (1, .int c_), (2, .int b_)]) hx hb dX9_themeFor_126 hl (Nat.le_of_ble_eq_true rfl) rfl (fun ls hl => ?_)
                    refine lv_iinc (v := (w_4l6 + 1)) (lv' := [(6, .int (w_4l6 + 1)), (5, .int o_9), (4, .int o_8), (3, .int w_4l6), (7, .int 1), (0, .ref h), (1, .int c_), (2, .int b_)]) hx hb dX9_themeFor_128 hl (k := 4) rfl rfl (Nat.le_of_ble_eq_true rfl) rfl (fun ls hl => ?_)
                    refine lv_goto (tgt := 24) hx hb dX9_themeFor_131 rfl ?_
                    exact ih_w_4 (w_4l6 + 1) o_9 o_8 w_4l6 o_8 o_9 o_10 o_11 o_12 _ _ ls hP hD hS (lv_sub hl [0, 1, 2, 3, 5, 6, 7] rfl) (up_step c_5 hm) hE
    exact lp_24_w_4 (((t1 : Int32).toInt - (0 : Int32).toInt).toNat + 1) 0 0 0 (-1) k0 k1 k2 k3 k4 _ _ ls hP hD hS hl (Nat.lt_succ_self _) hE
  · rw [if_neg c_3] at hE
    refine lv_iconst (v := (-1)) hx hb dX9_themeFor_19 rfl ?_
    exact hret (-1) (k0, k1, k2, k3, k4) _ _ _ _ dX9_themeFor_20 rfl hE hP hD hS
noncomputable def f_e_costFor_x9 (q1 : Int32) (q2 : Int32) (q10 : Int32) (q12 : Int32) (k0 : Int32) (k1 : Int32) (k2 : Int32) (k3 : Int32) (k4 : Int32) (t0 : Int32) (t1 : Int32) (t2 : Int32) (t3 : Int32) (t4 : Int32) (fta : Nat → Int32) (ftc : Nat → Int32) (fn : Nat → Int32) (c_ : Int32) (b_ : Int32) : Int32 × Int32 × Int32 × Int32 × Int32 × Int32 := (match (f_e_themeFor_x9 q1 q2 q10 q12 k0 k1 k2 k3 k4 t0 t1 t2 t3 t4 fta ftc fn c_ b_) with | (r_2, o_3, o_4, o_5, o_6, o_7) => (if r_2 = (-1) then ((-1), o_3, o_4, o_5, o_6, o_7) else (match (f_e_attempt_x9 q1 q2 q10 q12 o_3 o_4 o_5 o_6 o_7 t0 t1 t2 t3 t4 fta ftc fn c_ b_ r_2) with | (o_11, o_12, o_13, o_14, o_15) => (o_12, o_11, o_12, o_13, o_14, o_15))))
def rm_e_costFor_x9 : Room := { frames := 5, cells := 0, slots := 0, locals := 129 }
set_option maxHeartbeats 4000000 in
set_option maxRecDepth 100000 in
theorem e_costFor_x9 {l : Launch} {D : va_G} {cI cZ : ClassId} {sz : Nat} (h x rd t d nw ps im is_ bk qr pr cv ft ta tb tc td te nwc : Nat) (q1 : Int32) (q2 : Int32) (q10 : Int32) (q12 : Int32) (k0 : Int32) (k1 : Int32) (k2 : Int32) (k3 : Int32) (k4 : Int32) (t0 : Int32) (t1 : Int32) (t2 : Int32) (t3 : Int32) (t4 : Int32) (fta : Nat → Int32) (ftc : Nat → Int32) (fn : Nat → Int32) (c_ : Int32) (b_ : Int32) : KI l yX9_costFor cX9_costFor 4 (some .int) rm_e_costFor_x9 D cI cZ [.ref h, .int c_, .int b_] sz [(h, .inr (9, [.ref x, .int q1, .int q2, .ref rd, .ref t, .ref d, .ref nw, .ref ps, .ref im, .ref is_, .int q10, .ref bk, .int q12, .ref qr, .ref pr, .ref cv, .ref ft])), (qr, .inr (4, [.int k0, .int k1, .int k2, .int k3, .int k4])), (t, .inr (8, [.int t0, .int t1, .int t2, .int t3, .int t4, .ref ta, .ref tb, .ref tc, .ref td, .ref te])), (ta, .inl (cI, 6, .inl fta)), (tc, .inl (cI, 30, .inl ftc)), (nw, .inr (7, [.ref nwc])), (nwc, .inl (cI, 41, .inl fn))] (fun (r : Int32) (u : Int32 × Int32 × Int32 × Int32 × Int32) => (r, u) = f_e_costFor_x9 q1 q2 q10 q12 k0 k1 k2 k3 k4 t0 t1 t2 t3 t4 fta ftc fn c_ b_) (fun (u : Int32 × Int32 × Int32 × Int32 × Int32) => [(h, .inr (9, [.ref x, .int q1, .int q2, .ref rd, .ref t, .ref d, .ref nw, .ref ps, .ref im, .ref is_, .int q10, .ref bk, .int q12, .ref qr, .ref pr, .ref cv, .ref ft])), (qr, .inr (4, [.int (u.1), .int (u.2.1), .int (u.2.2.1), .int (u.2.2.2.1), .int (u.2.2.2.2)])), (t, .inr (8, [.int t0, .int t1, .int t2, .int t3, .int t4, .ref ta, .ref tb, .ref tc, .ref td, .ref te])), (ta, .inl (cI, 6, .inl fta)), (tc, .inl (cI, 30, .inl ftc)), (nw, .inr (7, [.ref nwc])), (nwc, .inl (cI, 41, .inl fn))]) := by
  refine KI.go rfl (Nat.le_of_ble_eq_true rfl) ?_
  intro p e s m args below meth c ls A Q hx hb hml hts hown hin hP hK hD hS hA hN hl hret
  have hl : lv_has ls 4 [(0, .ref h), (1, .int c_), (2, .int b_)] := hl
  obtain ⟨RES, hE⟩ : ∃ xRES, f_e_costFor_x9 q1 q2 q10 q12 k0 k1 k2 k3 k4 t0 t1 t2 t3 t4 fta ftc fn c_ b_ = xRES := ⟨_, rfl⟩
  rw [hE] at hret
  rw [f_e_costFor_x9] at hE
  refine lv_aload_n hx hb dX9_costFor_0 rfl (lv_at hl 0 rfl) ?_
  refine lv_iload_n hx hb dX9_costFor_1 rfl (lv_at hl 1 rfl) ?_
  refine lv_iload_n hx hb dX9_costFor_2 rfl (lv_at hl 2 rfl) ?_
  refine cVi (wr := []) (rest := []) (e_themeFor_x9 h x rd t d nw ps im is_ bk qr pr cv ft ta tb tc td te nwc q1 q2 q10 q12 k0 k1 k2 k3 k4 t0 t1 t2 t3 t4 fta ftc fn c_ b_) okV_X9_themeFor wd_276 hx hb hml hown hts hK hP hD hS hA hN hl.1 [0, 1, 2, 3, 4, 5, 6] [] rfl rfl rfl rfl (of_decide_eq_true rfl) rfl rfl rfl (Nat.le_of_ble_eq_true rfl) (Nat.le_of_ble_eq_true rfl) (Nat.le_of_ble_eq_true rfl) (Nat.le_of_ble_eq_true rfl) (Nat.le_of_ble_eq_true rfl) dX9_costFor_3 (fun r_2 u_1 H locs hw_u_1 hP hD hS => ?_)
  obtain ⟨o_3, o_4, o_5, o_6, o_7⟩ := u_1
  replace hw_u_1 : (r_2, o_3, o_4, o_5, o_6, o_7) = (f_e_themeFor_x9 q1 q2 q10 q12 k0 k1 k2 k3 k4 t0 t1 t2 t3 t4 fta ftc fn c_ b_) := hw_u_1
  rw [← hw_u_1] at hE
  replace hE : (if r_2 = (-1) then ((-1), o_3, o_4, o_5, o_6, o_7) else (match (f_e_attempt_x9 q1 q2 q10 q12 o_3 o_4 o_5 o_6 o_7 t0 t1 t2 t3 t4 fta ftc fn c_ b_ r_2) with | (o_11, o_12, o_13, o_14, o_15) => (o_12, o_11, o_12, o_13, o_14, o_15))) = RES := hE
  have hP : va_P D classes [(h, .inr (9, [.ref x, .int q1, .int q2, .ref rd, .ref t, .ref d, .ref nw, .ref ps, .ref im, .ref is_, .int q10, .ref bk, .int q12, .ref qr, .ref pr, .ref cv, .ref ft])), (qr, .inr (4, [.int o_3, .int o_4, .int o_5, .int o_6, .int o_7])), (t, .inr (8, [.int t0, .int t1, .int t2, .int t3, .int t4, .ref ta, .ref tb, .ref tc, .ref td, .ref te])), (ta, .inl (cI, 6, .inl fta)), (tc, .inl (cI, 30, .inl ftc)), (nw, .inr (7, [.ref nwc])), (nwc, .inl (cI, 41, .inl fn))] H := hP
  have hD : va_D A [(h, .inr (9, [.ref x, .int q1, .int q2, .ref rd, .ref t, .ref d, .ref nw, .ref ps, .ref im, .ref is_, .int q10, .ref bk, .int q12, .ref qr, .ref pr, .ref cv, .ref ft])), (qr, .inr (4, [.int o_3, .int o_4, .int o_5, .int o_6, .int o_7])), (t, .inr (8, [.int t0, .int t1, .int t2, .int t3, .int t4, .ref ta, .ref tb, .ref tc, .ref td, .ref te])), (ta, .inl (cI, 6, .inl fta)), (tc, .inl (cI, 30, .inl ftc)), (nw, .inr (7, [.ref nwc])), (nwc, .inl (cI, 41, .inl fn))] := hD
  refine lv_istore_n (lv' := [(3, .int r_2), (0, .ref h), (1, .int c_), (2, .int b_)]) hx hb dX9_costFor_6 rfl hl (Nat.le_of_ble_eq_true rfl) rfl (fun ls hl => ?_)
  refine lv_iload_n hx hb dX9_costFor_7 rfl (lv_at hl 0 rfl) ?_
  refine lv_iconst (v := (-1)) hx hb dX9_costFor_8 rfl ?_
  refine lv_icmp_ne (tgt := 14) hx hb dX9_costFor_9 rfl (fun c_8 => ?_) (fun c_8 => ?_)
  · rw [if_neg c_8] at hE
    refine lv_aload_n hx hb dX9_costFor_14 rfl (lv_at hl 1 rfl) ?_
    refine lv_iload_n hx hb dX9_costFor_15 rfl (lv_at hl 2 rfl) ?_
    refine lv_iload_n hx hb dX9_costFor_16 rfl (lv_at hl 3 rfl) ?_
    refine lv_iload_n hx hb dX9_costFor_17 rfl (lv_at hl 0 rfl) ?_
    refine cVv (wr := []) (rest := []) (e_attempt_x9 h x rd t d nw ps im is_ bk qr pr cv ft ta tb tc td te nwc q1 q2 q10 q12 o_3 o_4 o_5 o_6 o_7 t0 t1 t2 t3 t4 fta ftc fn c_ b_ r_2) okV_X9_attempt wd_270 hx hb hml hown hts hK hP hD hS hA hN hl.1 [0, 1, 2, 3, 4, 5, 6] [] rfl rfl rfl rfl (of_decide_eq_true rfl) rfl rfl rfl (Nat.le_of_ble_eq_true rfl) (Nat.le_of_ble_eq_true rfl) (Nat.le_of_ble_eq_true rfl) (Nat.le_of_ble_eq_true rfl) (Nat.le_of_ble_eq_true rfl) dX9_costFor_18 (fun u_9 H locs hw_u_9 hP hD hS => ?_)
    obtain ⟨o_11, o_12, o_13, o_14, o_15⟩ := u_9
    replace hw_u_9 : (o_11, o_12, o_13, o_14, o_15) = (f_e_attempt_x9 q1 q2 q10 q12 o_3 o_4 o_5 o_6 o_7 t0 t1 t2 t3 t4 fta ftc fn c_ b_ r_2) := hw_u_9
    rw [← hw_u_9] at hE
    replace hE : (o_12, o_11, o_12, o_13, o_14, o_15) = RES := hE
    have hP : va_P D classes [(h, .inr (9, [.ref x, .int q1, .int q2, .ref rd, .ref t, .ref d, .ref nw, .ref ps, .ref im, .ref is_, .int q10, .ref bk, .int q12, .ref qr, .ref pr, .ref cv, .ref ft])), (qr, .inr (4, [.int o_11, .int o_12, .int o_13, .int o_14, .int o_15])), (t, .inr (8, [.int t0, .int t1, .int t2, .int t3, .int t4, .ref ta, .ref tb, .ref tc, .ref td, .ref te])), (ta, .inl (cI, 6, .inl fta)), (tc, .inl (cI, 30, .inl ftc)), (nw, .inr (7, [.ref nwc])), (nwc, .inl (cI, 41, .inl fn))] H := hP
    have hD : va_D A [(h, .inr (9, [.ref x, .int q1, .int q2, .ref rd, .ref t, .ref d, .ref nw, .ref ps, .ref im, .ref is_, .int q10, .ref bk, .int q12, .ref qr, .ref pr, .ref cv, .ref ft])), (qr, .inr (4, [.int o_11, .int o_12, .int o_13, .int o_14, .int o_15])), (t, .inr (8, [.int t0, .int t1, .int t2, .int t3, .int t4, .ref ta, .ref tb, .ref tc, .ref td, .ref te])), (ta, .inl (cI, 6, .inl fta)), (tc, .inl (cI, 30, .inl ftc)), (nw, .inr (7, [.ref nwc])), (nwc, .inl (cI, 41, .inl fn))] := hD
    refine lv_aload_n hx hb dX9_costFor_21 rfl (lv_at hl 1 rfl) ?_
    refine va_get (D := D) (ci := 9) (v := .ref qr) (C := RX9) (T := TX9) (N := 17) hx hb hts iX9 hown hK hP 0 rfl rfl 13 (Nat.le_of_ble_eq_true rfl) (hts _ wd_120) (fun _ h9 => h9) rfl dX9_costFor_22 ?_
    refine va_get (D := D) (ci := 4) (v := .int o_12) (C := RX4) (T := TX4) (N := 5) hx hb hts iX4 hown hK hP 1 rfl rfl 1 (Nat.le_of_ble_eq_true rfl) (hts _ wd_275) (fun _ h9 => h9) rfl dX9_costFor_25 ?_
    exact hret o_12 (o_11, o_12, o_13, o_14, o_15) _ _ _ _ dX9_costFor_28 rfl hE hP hD hS
  · rw [if_pos c_8] at hE
    subst c_8
    refine lv_iconst (v := (-1)) hx hb dX9_costFor_12 rfl ?_
    exact hret (-1) (o_3, o_4, o_5, o_6, o_7) _ _ _ _ dX9_costFor_13 rfl hE hP hD hS
noncomputable def f_e_draw_x9 (q1 : Int32) (q2 : Int32) (q10 : Int32) (q12 : Int32) (n_ : Int32) : Int32 × Int32 := (if 0 < n_ then ((((((((q12.toInt64 * 1103515245) + 12345) &&& 2147483647)).toInt32) / 65536) - ((((((q12.toInt64 * 1103515245) + 12345) &&& 2147483647)).toInt32) / 65536) / n_ * n_), (((((q12.toInt64 * 1103515245) + 12345) &&& 2147483647)).toInt32)) else (0, q12))
def rm_e_draw_x9 : Room := { frames := 0, cells := 0, slots := 0, locals := 0 }
set_option maxHeartbeats 4000000 in
set_option maxRecDepth 100000 in
theorem e_draw_x9 {l : Launch} {D : va_G} {cI cZ : ClassId} {sz : Nat} (h x rd t d nw ps im is_ bk qr pr cv ft : Nat) (q1 : Int32) (q2 : Int32) (q10 : Int32) (q12 : Int32) (n_ : Int32) : KI l yX9_draw cX9_draw 2 (some .int) rm_e_draw_x9 D cI cZ [.ref h, .int n_] sz [(h, .inr (9, [.ref x, .int q1, .int q2, .ref rd, .ref t, .ref d, .ref nw, .ref ps, .ref im, .ref is_, .int q10, .ref bk, .int q12, .ref qr, .ref pr, .ref cv, .ref ft]))] (fun (r : Int32) (u : Int32) => (r, u) = f_e_draw_x9 q1 q2 q10 q12 n_) (fun (u : Int32) => [(h, .inr (9, [.ref x, .int q1, .int q2, .ref rd, .ref t, .ref d, .ref nw, .ref ps, .ref im, .ref is_, .int q10, .ref bk, .int u, .ref qr, .ref pr, .ref cv, .ref ft]))]) := by
  refine KI.go rfl (Nat.le_of_ble_eq_true rfl) ?_
  intro p e s m args below meth c ls A Q hx hb hml hts hown hin hP hK hD hS hA hN hl hret
  have hl : lv_has ls 2 [(0, .ref h), (1, .int n_)] := hl
  obtain ⟨RES, hE⟩ : ∃ xRES, f_e_draw_x9 q1 q2 q10 q12 n_ = xRES := ⟨_, rfl⟩
  rw [hE] at hret
  rw [f_e_draw_x9] at hE
  refine lv_iload_n hx hb dX9_draw_0 rfl (lv_at hl 1 rfl) ?_
  refine lv_if_gt (tgt := 6) hx hb dX9_draw_1 rfl (fun c_1 => ?_) (fun c_1 => ?_)
  · rw [if_pos c_1] at hE
    refine lv_aload_n hx hb dX9_draw_6 rfl (lv_at hl 0 rfl) ?_
    refine lv_aload_n hx hb dX9_draw_7 rfl (lv_at hl 0 rfl) ?_
    refine va_get (D := D) (ci := 9) (v := .int q12) (C := RX9) (T := TX9) (N := 17) hx hb hts iX9 hown hK hP 0 rfl rfl 12 (Nat.le_of_ble_eq_true rfl) (hts _ wd_114) (fun _ h9 => h9) rfl dX9_draw_8 ?_
    refine lv_i2l (v := q12.toInt64) hx hb dX9_draw_11 rfl ?_
    refine lv_ldc2 (v := 1103515245) hx hb hown (hts _ wd_280) dX9_draw_12 ?_
    refine lv_lmul hx hb dX9_draw_15 ?_
    refine lv_ldc2 (v := 12345) hx hb hown (hts _ wd_281) dX9_draw_16 ?_
    refine lv_ladd hx hb dX9_draw_19 ?_
    refine lv_ldc2 (v := 2147483647) hx hb hown (hts _ wd_282) dX9_draw_20 ?_
    refine lv_land hx hb dX9_draw_23 ?_
    refine lv_l2i (v := ((((q12.toInt64 * 1103515245) + 12345) &&& 2147483647)).toInt32) hx hb dX9_draw_24 rfl ?_
    refine va_put (D := D) (ci := 9) (v := .int (((((q12.toInt64 * 1103515245) + 12345) &&& 2147483647)).toInt32)) (ty := .int) (C := RX9) (T := TX9) (N := 17) hx hb hts iX9 tyX9 tyX9_ok nmX9 hown hK hP hD hS 0 rfl rfl 12 (Nat.le_of_ble_eq_true rfl) (hts _ wd_114) (fun _ h9 => h9) rfl (by decide +kernel) rfl rfl (Nat.le_of_ble_eq_true rfl) dX9_draw_25 (fun H locs hP hD hS => ?_)
    have hP : va_P D classes [(h, .inr (9, [.ref x, .int q1, .int q2, .ref rd, .ref t, .ref d, .ref nw, .ref ps, .ref im, .ref is_, .int q10, .ref bk, .int (((((q12.toInt64 * 1103515245) + 12345) &&& 2147483647)).toInt32), .ref qr, .ref pr, .ref cv, .ref ft]))] H := hP
    have hD : va_D A [(h, .inr (9, [.ref x, .int q1, .int q2, .ref rd, .ref t, .ref d, .ref nw, .ref ps, .ref im, .ref is_, .int q10, .ref bk, .int (((((q12.toInt64 * 1103515245) + 12345) &&& 2147483647)).toInt32), .ref qr, .ref pr, .ref cv, .ref ft]))] := hD
    refine lv_aload_n hx hb dX9_draw_28 rfl (lv_at hl 0 rfl) ?_
    refine va_get (D := D) (ci := 9) (v := .int (((((q12.toInt64 * 1103515245) + 12345) &&& 2147483647)).toInt32)) (C := RX9) (T := TX9) (N := 17) hx hb hts iX9 hown hK hP 0 rfl rfl 12 (Nat.le_of_ble_eq_true rfl) (hts _ wd_114) (fun _ h9 => h9) rfl dX9_draw_29 ?_
    refine lv_ldcw (v := 65536) hx hb hown (hts _ wd_283) dX9_draw_32 ?_
    refine lv_idiv hx hb dX9_draw_35 (by decide) ?_
    refine lv_iload_n hx hb dX9_draw_36 rfl (lv_at hl 1 rfl) ?_
    refine lv_irem hx hb dX9_draw_37 (fun h => absurd c_1 (by rw [h]; decide)) ?_
    exact hret (((((((q12.toInt64 * 1103515245) + 12345) &&& 2147483647)).toInt32) / 65536) - ((((((q12.toInt64 * 1103515245) + 12345) &&& 2147483647)).toInt32) / 65536) / n_ * n_) (((((q12.toInt64 * 1103515245) + 12345) &&& 2147483647)).toInt32) _ _ _ _ dX9_draw_38 rfl hE hP hD hS
  · rw [if_neg c_1] at hE
    refine lv_iconst (v := 0) hx hb dX9_draw_4 rfl ?_
    exact hret 0 q12 _ _ _ _ dX9_draw_5 rfl hE hP hD hS
noncomputable def f_e_bitCount_0f7a4_j6 (i_ : Int32) : Int32 := ((((((((i_ - ((((i_).toUInt32 >>> ((1 : Int32).toUInt32 &&& Int32.toUInt32 31)).toInt32) &&& 1431655765)) &&& 858993459) + (((((i_ - ((((i_).toUInt32 >>> ((1 : Int32).toUInt32 &&& Int32.toUInt32 31)).toInt32) &&& 1431655765))).toUInt32 >>> ((2 : Int32).toUInt32 &&& Int32.toUInt32 31)).toInt32) &&& 858993459)) + ((((((i_ - ((((i_).toUInt32 >>> ((1 : Int32).toUInt32 &&& Int32.toUInt32 31)).toInt32) &&& 1431655765)) &&& 858993459) + (((((i_ - ((((i_).toUInt32 >>> ((1 : Int32).toUInt32 &&& Int32.toUInt32 31)).toInt32) &&& 1431655765))).toUInt32 >>> ((2 : Int32).toUInt32 &&& Int32.toUInt32 31)).toInt32) &&& 858993459))).toUInt32 >>> ((4 : Int32).toUInt32 &&& Int32.toUInt32 31)).toInt32)) &&& 252645135) + ((((((((i_ - ((((i_).toUInt32 >>> ((1 : Int32).toUInt32 &&& Int32.toUInt32 31)).toInt32) &&& 1431655765)) &&& 858993459) + (((((i_ - ((((i_).toUInt32 >>> ((1 : Int32).toUInt32 &&& Int32.toUInt32 31)).toInt32) &&& 1431655765))).toUInt32 >>> ((2 : Int32).toUInt32 &&& Int32.toUInt32 31)).toInt32) &&& 858993459)) + ((((((i_ - ((((i_).toUInt32 >>> ((1 : Int32).toUInt32 &&& Int32.toUInt32 31)).toInt32) &&& 1431655765)) &&& 858993459) + (((((i_ - ((((i_).toUInt32 >>> ((1 : Int32).toUInt32 &&& Int32.toUInt32 31)).toInt32) &&& 1431655765))).toUInt32 >>> ((2 : Int32).toUInt32 &&& Int32.toUInt32 31)).toInt32) &&& 858993459))).toUInt32 >>> ((4 : Int32).toUInt32 &&& Int32.toUInt32 31)).toInt32)) &&& 252645135)).toUInt32 >>> ((8 : Int32).toUInt32 &&& Int32.toUInt32 31)).toInt32)) + (((((((((i_ - ((((i_).toUInt32 >>> ((1 : Int32).toUInt32 &&& Int32.toUInt32 31)).toInt32) &&& 1431655765)) &&& 858993459) + (((((i_ - ((((i_).toUInt32 >>> ((1 : Int32).toUInt32 &&& Int32.toUInt32 31)).toInt32) &&& 1431655765))).toUInt32 >>> ((2 : Int32).toUInt32 &&& Int32.toUInt32 31)).toInt32) &&& 858993459)) + ((((((i_ - ((((i_).toUInt32 >>> ((1 : Int32).toUInt32 &&& Int32.toUInt32 31)).toInt32) &&& 1431655765)) &&& 858993459) + (((((i_ - ((((i_).toUInt32 >>> ((1 : Int32).toUInt32 &&& Int32.toUInt32 31)).toInt32) &&& 1431655765))).toUInt32 >>> ((2 : Int32).toUInt32 &&& Int32.toUInt32 31)).toInt32) &&& 858993459))).toUInt32 >>> ((4 : Int32).toUInt32 &&& Int32.toUInt32 31)).toInt32)) &&& 252645135) + ((((((((i_ - ((((i_).toUInt32 >>> ((1 : Int32).toUInt32 &&& Int32.toUInt32 31)).toInt32) &&& 1431655765)) &&& 858993459) + (((((i_ - ((((i_).toUInt32 >>> ((1 : Int32).toUInt32 &&& Int32.toUInt32 31)).toInt32) &&& 1431655765))).toUInt32 >>> ((2 : Int32).toUInt32 &&& Int32.toUInt32 31)).toInt32) &&& 858993459)) + ((((((i_ - ((((i_).toUInt32 >>> ((1 : Int32).toUInt32 &&& Int32.toUInt32 31)).toInt32) &&& 1431655765)) &&& 858993459) + (((((i_ - ((((i_).toUInt32 >>> ((1 : Int32).toUInt32 &&& Int32.toUInt32 31)).toInt32) &&& 1431655765))).toUInt32 >>> ((2 : Int32).toUInt32 &&& Int32.toUInt32 31)).toInt32) &&& 858993459))).toUInt32 >>> ((4 : Int32).toUInt32 &&& Int32.toUInt32 31)).toInt32)) &&& 252645135)).toUInt32 >>> ((8 : Int32).toUInt32 &&& Int32.toUInt32 31)).toInt32))).toUInt32 >>> ((16 : Int32).toUInt32 &&& Int32.toUInt32 31)).toInt32)) &&& 63)
def rm_e_bitCount_0f7a4_j6 : Room := { frames := 0, cells := 0, slots := 0, locals := 0 }
set_option maxHeartbeats 4000000 in
set_option maxRecDepth 100000 in
theorem e_bitCount_0f7a4_j6 {l : Launch} {D : va_G} {cI cZ : ClassId} {sz : Nat} (i_ : Int32) : KI l yJ6_bitCount_0f7a4 cJ6_bitCount_0f7a4 1 (some .int) rm_e_bitCount_0f7a4_j6 D cI cZ [.int i_] sz [] (fun (r : Int32) (_ : Unit) => r = f_e_bitCount_0f7a4_j6 i_) (fun (_ : Unit) => []) := by
  refine KI.go rfl (Nat.le_of_ble_eq_true rfl) ?_
  intro p e s m args below meth c ls A Q hx hb hml hts hown hin hP hK hD hS hA hN hl hret
  have hl : lv_has ls 1 [(0, .int i_)] := hl
  obtain ⟨RES, hE⟩ : ∃ xRES, f_e_bitCount_0f7a4_j6 i_ = xRES := ⟨_, rfl⟩
  rw [hE] at hret
  rw [f_e_bitCount_0f7a4_j6] at hE
  refine lv_iload_n hx hb dJ6_bitCount_0f7a4_0 rfl (lv_at hl 0 rfl) ?_
  refine lv_iload_n hx hb dJ6_bitCount_0f7a4_1 rfl (lv_at hl 0 rfl) ?_
  refine lv_iconst (v := 1) hx hb dJ6_bitCount_0f7a4_2 rfl ?_
  refine lv_iushr (v := ((i_).toUInt32 >>> ((1 : Int32).toUInt32 &&& Int32.toUInt32 31)).toInt32) hx hb dJ6_bitCount_0f7a4_3 rfl ?_
  refine lv_ldcw (v := 1431655765) hx hb hown (hts _ wd_284) dJ6_bitCount_0f7a4_4 ?_
  refine lv_iand hx hb dJ6_bitCount_0f7a4_7 ?_
  refine lv_isub hx hb dJ6_bitCount_0f7a4_8 ?_
  refine lv_istore_n (lv' := [(0, .int (i_ - ((((i_).toUInt32 >>> ((1 : Int32).toUInt32 &&& Int32.toUInt32 31)).toInt32) &&& 1431655765)))]) hx hb dJ6_bitCount_0f7a4_9 rfl hl (Nat.le_of_ble_eq_true rfl) rfl (fun ls hl => ?_)
  refine lv_iload_n hx hb dJ6_bitCount_0f7a4_10 rfl (lv_at hl 0 rfl) ?_
  refine lv_ldcw (v := 858993459) hx hb hown (hts _ wd_285) dJ6_bitCount_0f7a4_11 ?_
  refine lv_iand hx hb dJ6_bitCount_0f7a4_14 ?_
  refine lv_iload_n hx hb dJ6_bitCount_0f7a4_15 rfl (lv_at hl 0 rfl) ?_
  refine lv_iconst (v := 2) hx hb dJ6_bitCount_0f7a4_16 rfl ?_
  refine lv_iushr (v := (((i_ - ((((i_).toUInt32 >>> ((1 : Int32).toUInt32 &&& Int32.toUInt32 31)).toInt32) &&& 1431655765))).toUInt32 >>> ((2 : Int32).toUInt32 &&& Int32.toUInt32 31)).toInt32) hx hb dJ6_bitCount_0f7a4_17 rfl ?_
  refine lv_ldcw (v := 858993459) hx hb hown (hts _ wd_285) dJ6_bitCount_0f7a4_18 ?_
  refine lv_iand hx hb dJ6_bitCount_0f7a4_21 ?_
  refine lv_iadd hx hb dJ6_bitCount_0f7a4_22 ?_
  refine lv_istore_n (lv' := [(0, .int (((i_ - ((((i_).toUInt32 >>> ((1 : Int32).toUInt32 &&& Int32.toUInt32 31)).toInt32) &&& 1431655765)) &&& 858993459) + (((((i_ - ((((i_).toUInt32 >>> ((1 : Int32).toUInt32 &&& Int32.toUInt32 31)).toInt32) &&& 1431655765))).toUInt32 >>> ((2 : Int32).toUInt32 &&& Int32.toUInt32 31)).toInt32) &&& 858993459)))]) hx hb dJ6_bitCount_0f7a4_23 rfl hl (Nat.le_of_ble_eq_true rfl) rfl (fun ls hl => ?_)
  refine lv_iload_n hx hb dJ6_bitCount_0f7a4_24 rfl (lv_at hl 0 rfl) ?_
  refine lv_iload_n hx hb dJ6_bitCount_0f7a4_25 rfl (lv_at hl 0 rfl) ?_
  refine lv_iconst (v := 4) hx hb dJ6_bitCount_0f7a4_26 rfl ?_
  refine lv_iushr (v := (((((i_ - ((((i_).toUInt32 >>> ((1 : Int32).toUInt32 &&& Int32.toUInt32 31)).toInt32) &&& 1431655765)) &&& 858993459) + (((((i_ - ((((i_).toUInt32 >>> ((1 : Int32).toUInt32 &&& Int32.toUInt32 31)).toInt32) &&& 1431655765))).toUInt32 >>> ((2 : Int32).toUInt32 &&& Int32.toUInt32 31)).toInt32) &&& 858993459))).toUInt32 >>> ((4 : Int32).toUInt32 &&& Int32.toUInt32 31)).toInt32) hx hb dJ6_bitCount_0f7a4_27 rfl ?_
  refine lv_iadd hx hb dJ6_bitCount_0f7a4_28 ?_
  refine lv_ldcw (v := 252645135) hx hb hown (hts _ wd_286) dJ6_bitCount_0f7a4_29 ?_
  refine lv_iand hx hb dJ6_bitCount_0f7a4_32 ?_
  refine lv_istore_n (lv' := [(0, .int (((((i_ - ((((i_).toUInt32 >>> ((1 : Int32).toUInt32 &&& Int32.toUInt32 31)).toInt32) &&& 1431655765)) &&& 858993459) + (((((i_ - ((((i_).toUInt32 >>> ((1 : Int32).toUInt32 &&& Int32.toUInt32 31)).toInt32) &&& 1431655765))).toUInt32 >>> ((2 : Int32).toUInt32 &&& Int32.toUInt32 31)).toInt32) &&& 858993459)) + ((((((i_ - ((((i_).toUInt32 >>> ((1 : Int32).toUInt32 &&& Int32.toUInt32 31)).toInt32) &&& 1431655765)) &&& 858993459) + (((((i_ - ((((i_).toUInt32 >>> ((1 : Int32).toUInt32 &&& Int32.toUInt32 31)).toInt32) &&& 1431655765))).toUInt32 >>> ((2 : Int32).toUInt32 &&& Int32.toUInt32 31)).toInt32) &&& 858993459))).toUInt32 >>> ((4 : Int32).toUInt32 &&& Int32.toUInt32 31)).toInt32)) &&& 252645135))]) hx hb dJ6_bitCount_0f7a4_33 rfl hl (Nat.le_of_ble_eq_true rfl) rfl (fun ls hl => ?_)
  refine lv_iload_n hx hb dJ6_bitCount_0f7a4_34 rfl (lv_at hl 0 rfl) ?_
  refine lv_iload_n hx hb dJ6_bitCount_0f7a4_35 rfl (lv_at hl 0 rfl) ?_
  refine lv_bipush (v := 8) hx hb dJ6_bitCount_0f7a4_36 rfl ?_
  refine lv_iushr (v := (((((((i_ - ((((i_).toUInt32 >>> ((1 : Int32).toUInt32 &&& Int32.toUInt32 31)).toInt32) &&& 1431655765)) &&& 858993459) + (((((i_ - ((((i_).toUInt32 >>> ((1 : Int32).toUInt32 &&& Int32.toUInt32 31)).toInt32) &&& 1431655765))).toUInt32 >>> ((2 : Int32).toUInt32 &&& Int32.toUInt32 31)).toInt32) &&& 858993459)) + ((((((i_ - ((((i_).toUInt32 >>> ((1 : Int32).toUInt32 &&& Int32.toUInt32 31)).toInt32) &&& 1431655765)) &&& 858993459) + (((((i_ - ((((i_).toUInt32 >>> ((1 : Int32).toUInt32 &&& Int32.toUInt32 31)).toInt32) &&& 1431655765))).toUInt32 >>> ((2 : Int32).toUInt32 &&& Int32.toUInt32 31)).toInt32) &&& 858993459))).toUInt32 >>> ((4 : Int32).toUInt32 &&& Int32.toUInt32 31)).toInt32)) &&& 252645135)).toUInt32 >>> ((8 : Int32).toUInt32 &&& Int32.toUInt32 31)).toInt32) hx hb dJ6_bitCount_0f7a4_38 rfl ?_
  refine lv_iadd hx hb dJ6_bitCount_0f7a4_39 ?_
  refine lv_istore_n (lv' := [(0, .int ((((((i_ - ((((i_).toUInt32 >>> ((1 : Int32).toUInt32 &&& Int32.toUInt32 31)).toInt32) &&& 1431655765)) &&& 858993459) + (((((i_ - ((((i_).toUInt32 >>> ((1 : Int32).toUInt32 &&& Int32.toUInt32 31)).toInt32) &&& 1431655765))).toUInt32 >>> ((2 : Int32).toUInt32 &&& Int32.toUInt32 31)).toInt32) &&& 858993459)) + ((((((i_ - ((((i_).toUInt32 >>> ((1 : Int32).toUInt32 &&& Int32.toUInt32 31)).toInt32) &&& 1431655765)) &&& 858993459) + (((((i_ - ((((i_).toUInt32 >>> ((1 : Int32).toUInt32 &&& Int32.toUInt32 31)).toInt32) &&& 1431655765))).toUInt32 >>> ((2 : Int32).toUInt32 &&& Int32.toUInt32 31)).toInt32) &&& 858993459))).toUInt32 >>> ((4 : Int32).toUInt32 &&& Int32.toUInt32 31)).toInt32)) &&& 252645135) + ((((((((i_ - ((((i_).toUInt32 >>> ((1 : Int32).toUInt32 &&& Int32.toUInt32 31)).toInt32) &&& 1431655765)) &&& 858993459) + (((((i_ - ((((i_).toUInt32 >>> ((1 : Int32).toUInt32 &&& Int32.toUInt32 31)).toInt32) &&& 1431655765))).toUInt32 >>> ((2 : Int32).toUInt32 &&& Int32.toUInt32 31)).toInt32) &&& 858993459)) + ((((((i_ - ((((i_).toUInt32 >>> ((1 : Int32).toUInt32 &&& Int32.toUInt32 31)).toInt32) &&& 1431655765)) &&& 858993459) + (((((i_ - ((((i_).toUInt32 >>> ((1 : Int32).toUInt32 &&& Int32.toUInt32 31)).toInt32) &&& 1431655765))).toUInt32 >>> ((2 : Int32).toUInt32 &&& Int32.toUInt32 31)).toInt32) &&& 858993459))).toUInt32 >>> ((4 : Int32).toUInt32 &&& Int32.toUInt32 31)).toInt32)) &&& 252645135)).toUInt32 >>> ((8 : Int32).toUInt32 &&& Int32.toUInt32 31)).toInt32)))]) hx hb dJ6_bitCount_0f7a4_40 rfl hl (Nat.le_of_ble_eq_true rfl) rfl (fun ls hl => ?_)
  refine lv_iload_n hx hb dJ6_bitCount_0f7a4_41 rfl (lv_at hl 0 rfl) ?_
  refine lv_iload_n hx hb dJ6_bitCount_0f7a4_42 rfl (lv_at hl 0 rfl) ?_
  refine lv_bipush (v := 16) hx hb dJ6_bitCount_0f7a4_43 rfl ?_
  refine lv_iushr (v := ((((((((i_ - ((((i_).toUInt32 >>> ((1 : Int32).toUInt32 &&& Int32.toUInt32 31)).toInt32) &&& 1431655765)) &&& 858993459) + (((((i_ - ((((i_).toUInt32 >>> ((1 : Int32).toUInt32 &&& Int32.toUInt32 31)).toInt32) &&& 1431655765))).toUInt32 >>> ((2 : Int32).toUInt32 &&& Int32.toUInt32 31)).toInt32) &&& 858993459)) + ((((((i_ - ((((i_).toUInt32 >>> ((1 : Int32).toUInt32 &&& Int32.toUInt32 31)).toInt32) &&& 1431655765)) &&& 858993459) + (((((i_ - ((((i_).toUInt32 >>> ((1 : Int32).toUInt32 &&& Int32.toUInt32 31)).toInt32) &&& 1431655765))).toUInt32 >>> ((2 : Int32).toUInt32 &&& Int32.toUInt32 31)).toInt32) &&& 858993459))).toUInt32 >>> ((4 : Int32).toUInt32 &&& Int32.toUInt32 31)).toInt32)) &&& 252645135) + ((((((((i_ - ((((i_).toUInt32 >>> ((1 : Int32).toUInt32 &&& Int32.toUInt32 31)).toInt32) &&& 1431655765)) &&& 858993459) + (((((i_ - ((((i_).toUInt32 >>> ((1 : Int32).toUInt32 &&& Int32.toUInt32 31)).toInt32) &&& 1431655765))).toUInt32 >>> ((2 : Int32).toUInt32 &&& Int32.toUInt32 31)).toInt32) &&& 858993459)) + ((((((i_ - ((((i_).toUInt32 >>> ((1 : Int32).toUInt32 &&& Int32.toUInt32 31)).toInt32) &&& 1431655765)) &&& 858993459) + (((((i_ - ((((i_).toUInt32 >>> ((1 : Int32).toUInt32 &&& Int32.toUInt32 31)).toInt32) &&& 1431655765))).toUInt32 >>> ((2 : Int32).toUInt32 &&& Int32.toUInt32 31)).toInt32) &&& 858993459))).toUInt32 >>> ((4 : Int32).toUInt32 &&& Int32.toUInt32 31)).toInt32)) &&& 252645135)).toUInt32 >>> ((8 : Int32).toUInt32 &&& Int32.toUInt32 31)).toInt32))).toUInt32 >>> ((16 : Int32).toUInt32 &&& Int32.toUInt32 31)).toInt32) hx hb dJ6_bitCount_0f7a4_45 rfl ?_
  refine lv_iadd hx hb dJ6_bitCount_0f7a4_46 ?_
  refine lv_istore_n (lv' := [(0, .int (((((((i_ - ((((i_).toUInt32 >>> ((1 : Int32).toUInt32 &&& Int32.toUInt32 31)).toInt32) &&& 1431655765)) &&& 858993459) + (((((i_ - ((((i_).toUInt32 >>> ((1 : Int32).toUInt32 &&& Int32.toUInt32 31)).toInt32) &&& 1431655765))).toUInt32 >>> ((2 : Int32).toUInt32 &&& Int32.toUInt32 31)).toInt32) &&& 858993459)) + ((((((i_ - ((((i_).toUInt32 >>> ((1 : Int32).toUInt32 &&& Int32.toUInt32 31)).toInt32) &&& 1431655765)) &&& 858993459) + (((((i_ - ((((i_).toUInt32 >>> ((1 : Int32).toUInt32 &&& Int32.toUInt32 31)).toInt32) &&& 1431655765))).toUInt32 >>> ((2 : Int32).toUInt32 &&& Int32.toUInt32 31)).toInt32) &&& 858993459))).toUInt32 >>> ((4 : Int32).toUInt32 &&& Int32.toUInt32 31)).toInt32)) &&& 252645135) + ((((((((i_ - ((((i_).toUInt32 >>> ((1 : Int32).toUInt32 &&& Int32.toUInt32 31)).toInt32) &&& 1431655765)) &&& 858993459) + (((((i_ - ((((i_).toUInt32 >>> ((1 : Int32).toUInt32 &&& Int32.toUInt32 31)).toInt32) &&& 1431655765))).toUInt32 >>> ((2 : Int32).toUInt32 &&& Int32.toUInt32 31)).toInt32) &&& 858993459)) + ((((((i_ - ((((i_).toUInt32 >>> ((1 : Int32).toUInt32 &&& Int32.toUInt32 31)).toInt32) &&& 1431655765)) &&& 858993459) + (((((i_ - ((((i_).toUInt32 >>> ((1 : Int32).toUInt32 &&& Int32.toUInt32 31)).toInt32) &&& 1431655765))).toUInt32 >>> ((2 : Int32).toUInt32 &&& Int32.toUInt32 31)).toInt32) &&& 858993459))).toUInt32 >>> ((4 : Int32).toUInt32 &&& Int32.toUInt32 31)).toInt32)) &&& 252645135)).toUInt32 >>> ((8 : Int32).toUInt32 &&& Int32.toUInt32 31)).toInt32)) + (((((((((i_ - ((((i_).toUInt32 >>> ((1 : Int32).toUInt32 &&& Int32.toUInt32 31)).toInt32) &&& 1431655765)) &&& 858993459) + (((((i_ - ((((i_).toUInt32 >>> ((1 : Int32).toUInt32 &&& Int32.toUInt32 31)).toInt32) &&& 1431655765))).toUInt32 >>> ((2 : Int32).toUInt32 &&& Int32.toUInt32 31)).toInt32) &&& 858993459)) + ((((((i_ - ((((i_).toUInt32 >>> ((1 : Int32).toUInt32 &&& Int32.toUInt32 31)).toInt32) &&& 1431655765)) &&& 858993459) + (((((i_ - ((((i_).toUInt32 >>> ((1 : Int32).toUInt32 &&& Int32.toUInt32 31)).toInt32) &&& 1431655765))).toUInt32 >>> ((2 : Int32).toUInt32 &&& Int32.toUInt32 31)).toInt32) &&& 858993459))).toUInt32 >>> ((4 : Int32).toUInt32 &&& Int32.toUInt32 31)).toInt32)) &&& 252645135) + ((((((((i_ - ((((i_).toUInt32 >>> ((1 : Int32).toUInt32 &&& Int32.toUInt32 31)).toInt32) &&& 1431655765)) &&& 858993459) + (((((i_ - ((((i_).toUInt32 >>> ((1 : Int32).toUInt32 &&& Int32.toUInt32 31)).toInt32) &&& 1431655765))).toUInt32 >>> ((2 : Int32).toUInt32 &&& Int32.toUInt32 31)).toInt32) &&& 858993459)) + ((((((i_ - ((((i_).toUInt32 >>> ((1 : Int32).toUInt32 &&& Int32.toUInt32 31)).toInt32) &&& 1431655765)) &&& 858993459) + (((((i_ - ((((i_).toUInt32 >>> ((1 : Int32).toUInt32 &&& Int32.toUInt32 31)).toInt32) &&& 1431655765))).toUInt32 >>> ((2 : Int32).toUInt32 &&& Int32.toUInt32 31)).toInt32) &&& 858993459))).toUInt32 >>> ((4 : Int32).toUInt32 &&& Int32.toUInt32 31)).toInt32)) &&& 252645135)).toUInt32 >>> ((8 : Int32).toUInt32 &&& Int32.toUInt32 31)).toInt32))).toUInt32 >>> ((16 : Int32).toUInt32 &&& Int32.toUInt32 31)).toInt32)))]) hx hb dJ6_bitCount_0f7a4_47 rfl hl (Nat.le_of_ble_eq_true rfl) rfl (fun ls hl => ?_)
  refine lv_iload_n hx hb dJ6_bitCount_0f7a4_48 rfl (lv_at hl 0 rfl) ?_
  refine lv_bipush (v := 63) hx hb dJ6_bitCount_0f7a4_49 rfl ?_
  refine lv_iand hx hb dJ6_bitCount_0f7a4_51 ?_
  exact hret ((((((((i_ - ((((i_).toUInt32 >>> ((1 : Int32).toUInt32 &&& Int32.toUInt32 31)).toInt32) &&& 1431655765)) &&& 858993459) + (((((i_ - ((((i_).toUInt32 >>> ((1 : Int32).toUInt32 &&& Int32.toUInt32 31)).toInt32) &&& 1431655765))).toUInt32 >>> ((2 : Int32).toUInt32 &&& Int32.toUInt32 31)).toInt32) &&& 858993459)) + ((((((i_ - ((((i_).toUInt32 >>> ((1 : Int32).toUInt32 &&& Int32.toUInt32 31)).toInt32) &&& 1431655765)) &&& 858993459) + (((((i_ - ((((i_).toUInt32 >>> ((1 : Int32).toUInt32 &&& Int32.toUInt32 31)).toInt32) &&& 1431655765))).toUInt32 >>> ((2 : Int32).toUInt32 &&& Int32.toUInt32 31)).toInt32) &&& 858993459))).toUInt32 >>> ((4 : Int32).toUInt32 &&& Int32.toUInt32 31)).toInt32)) &&& 252645135) + ((((((((i_ - ((((i_).toUInt32 >>> ((1 : Int32).toUInt32 &&& Int32.toUInt32 31)).toInt32) &&& 1431655765)) &&& 858993459) + (((((i_ - ((((i_).toUInt32 >>> ((1 : Int32).toUInt32 &&& Int32.toUInt32 31)).toInt32) &&& 1431655765))).toUInt32 >>> ((2 : Int32).toUInt32 &&& Int32.toUInt32 31)).toInt32) &&& 858993459)) + ((((((i_ - ((((i_).toUInt32 >>> ((1 : Int32).toUInt32 &&& Int32.toUInt32 31)).toInt32) &&& 1431655765)) &&& 858993459) + (((((i_ - ((((i_).toUInt32 >>> ((1 : Int32).toUInt32 &&& Int32.toUInt32 31)).toInt32) &&& 1431655765))).toUInt32 >>> ((2 : Int32).toUInt32 &&& Int32.toUInt32 31)).toInt32) &&& 858993459))).toUInt32 >>> ((4 : Int32).toUInt32 &&& Int32.toUInt32 31)).toInt32)) &&& 252645135)).toUInt32 >>> ((8 : Int32).toUInt32 &&& Int32.toUInt32 31)).toInt32)) + (((((((((i_ - ((((i_).toUInt32 >>> ((1 : Int32).toUInt32 &&& Int32.toUInt32 31)).toInt32) &&& 1431655765)) &&& 858993459) + (((((i_ - ((((i_).toUInt32 >>> ((1 : Int32).toUInt32 &&& Int32.toUInt32 31)).toInt32) &&& 1431655765))).toUInt32 >>> ((2 : Int32).toUInt32 &&& Int32.toUInt32 31)).toInt32) &&& 858993459)) + ((((((i_ - ((((i_).toUInt32 >>> ((1 : Int32).toUInt32 &&& Int32.toUInt32 31)).toInt32) &&& 1431655765)) &&& 858993459) + (((((i_ - ((((i_).toUInt32 >>> ((1 : Int32).toUInt32 &&& Int32.toUInt32 31)).toInt32) &&& 1431655765))).toUInt32 >>> ((2 : Int32).toUInt32 &&& Int32.toUInt32 31)).toInt32) &&& 858993459))).toUInt32 >>> ((4 : Int32).toUInt32 &&& Int32.toUInt32 31)).toInt32)) &&& 252645135) + ((((((((i_ - ((((i_).toUInt32 >>> ((1 : Int32).toUInt32 &&& Int32.toUInt32 31)).toInt32) &&& 1431655765)) &&& 858993459) + (((((i_ - ((((i_).toUInt32 >>> ((1 : Int32).toUInt32 &&& Int32.toUInt32 31)).toInt32) &&& 1431655765))).toUInt32 >>> ((2 : Int32).toUInt32 &&& Int32.toUInt32 31)).toInt32) &&& 858993459)) + ((((((i_ - ((((i_).toUInt32 >>> ((1 : Int32).toUInt32 &&& Int32.toUInt32 31)).toInt32) &&& 1431655765)) &&& 858993459) + (((((i_ - ((((i_).toUInt32 >>> ((1 : Int32).toUInt32 &&& Int32.toUInt32 31)).toInt32) &&& 1431655765))).toUInt32 >>> ((2 : Int32).toUInt32 &&& Int32.toUInt32 31)).toInt32) &&& 858993459))).toUInt32 >>> ((4 : Int32).toUInt32 &&& Int32.toUInt32 31)).toInt32)) &&& 252645135)).toUInt32 >>> ((8 : Int32).toUInt32 &&& Int32.toUInt32 31)).toInt32))).toUInt32 >>> ((16 : Int32).toUInt32 &&& Int32.toUInt32 31)).toInt32)) &&& 63) () _ _ _ _ dJ6_bitCount_0f7a4_52 rfl hE hP hD hS
end
section
def fw_cX9_swing : List (List Nat) := [[42, 180, 0, 40, 27, 182, 0, 171, 61, 28, 2, 160, 0, 5, 3, 172, 42, 28], [42, 28, 27, 42, 180, 0, 40, 28, 182, 0, 186, 182, 1, 0, 42, 180, 0, 40], [0, 40, 42, 180, 0, 79, 180, 1, 8, 182, 0, 250, 42, 180, 0, 40, 28, 42], [28, 42, 180, 0, 79, 180, 1, 98, 182, 1, 101, 42, 180, 0, 79, 180, 1, 49], [1, 49, 153, 0, 11, 42, 180, 0, 40, 28, 182, 1, 104, 42, 180, 0, 79, 180], [79, 180, 1, 4, 172]]
theorem fW_cX9_swing : fq_wins 6 cX9_swing.data.toList = fw_cX9_swing := by decide +kernel
theorem fk_cX9_swing_0 : fq_ck cX9_swing 0 [42, 180, 0, 40, 27, 182, 0, 171, 61, 28, 2, 160, 0, 5, 3, 172, 42, 28] := fq_of fW_cX9_swing 0 rfl rfl
theorem dX9_swing_0 : decode cX9_swing 0 = .ok (.aload_n 0, 1) := fq_42 fk_cX9_swing_0 0 rfl rfl
theorem dX9_swing_1 : decode cX9_swing 1 = .ok (.getfield 40, 3) := fq_180 fk_cX9_swing_0 1 rfl rfl rfl rfl rfl
theorem dX9_swing_4 : decode cX9_swing 4 = .ok (.iload_n 1, 1) := fq_27 fk_cX9_swing_0 4 rfl rfl
theorem dX9_swing_5 : decode cX9_swing 5 = .ok (.invokevirtual 171, 3) := fq_182 fk_cX9_swing_0 5 rfl rfl rfl rfl rfl
theorem wd_287 : Cond.methodLink RX9 171 yX7_coupleAt ∈ BG := BG_at2 205 (by decide +kernel) rfl
theorem wd_288 : Cond.code yX7_coupleAt cX7_coupleAt 3 (some .int) ∈ BG := BG_at2 208 rfl rfl
theorem wd_289 : Cond.instanceMethod yX7_coupleAt ∈ BG := BG_at2 206 (by decide +kernel) rfl
theorem wd_290 : Cond.selects RX7 yX7_coupleAt yX7_coupleAt ∈ BG := BG_at2 207 (by decide +kernel) rfl
theorem okV_X7_coupleAt : okV yX7_coupleAt cX7_coupleAt 3 (some .int) 1 := ⟨⟨wd_288, wd_93, by decide +kernel⟩, wd_289, wd_290⟩
theorem dX9_swing_8 : decode cX9_swing 8 = .ok (.istore_n 2, 1) := fq_61 fk_cX9_swing_0 8 rfl rfl
theorem dX9_swing_9 : decode cX9_swing 9 = .ok (.iload_n 2, 1) := fq_28 fk_cX9_swing_0 9 rfl rfl
theorem dX9_swing_10 : decode cX9_swing 10 = .ok (.iconst (-1), 1) := fq_2 fk_cX9_swing_0 10 rfl rfl
theorem dX9_swing_11 : decode cX9_swing 11 = .ok (.if_icmp .ne 5, 3) := fq_160 fk_cX9_swing_0 11 rfl rfl rfl rfl rfl
theorem fk_cX9_swing_1 : fq_ck cX9_swing 16 [42, 28, 27, 42, 180, 0, 40, 28, 182, 0, 186, 182, 1, 0, 42, 180, 0, 40] := fq_of fW_cX9_swing 1 rfl rfl
theorem dX9_swing_16 : decode cX9_swing 16 = .ok (.aload_n 0, 1) := fq_42 fk_cX9_swing_1 0 rfl rfl
theorem dX9_swing_17 : decode cX9_swing 17 = .ok (.iload_n 2, 1) := fq_28 fk_cX9_swing_1 1 rfl rfl
theorem dX9_swing_18 : decode cX9_swing 18 = .ok (.iload_n 1, 1) := fq_27 fk_cX9_swing_1 2 rfl rfl
theorem dX9_swing_19 : decode cX9_swing 19 = .ok (.aload_n 0, 1) := fq_42 fk_cX9_swing_1 3 rfl rfl
theorem dX9_swing_20 : decode cX9_swing 20 = .ok (.getfield 40, 3) := fq_180 fk_cX9_swing_1 4 rfl rfl rfl rfl rfl
theorem dX9_swing_23 : decode cX9_swing 23 = .ok (.iload_n 2, 1) := fq_28 fk_cX9_swing_1 7 rfl rfl
theorem dX9_swing_24 : decode cX9_swing 24 = .ok (.invokevirtual 186, 3) := fq_182 fk_cX9_swing_1 8 rfl rfl rfl rfl rfl
theorem wd_291 : Cond.methodLink RX9 186 yX7_themeOf ∈ BG := BG_at2 223 (by decide +kernel) rfl
theorem wd_292 : Cond.code yX7_themeOf cX7_themeOf 2 (some .int) ∈ BG := BG_at2 226 rfl rfl
theorem wd_293 : Cond.instanceMethod yX7_themeOf ∈ BG := BG_at2 224 (by decide +kernel) rfl
theorem wd_294 : Cond.selects RX7 yX7_themeOf yX7_themeOf ∈ BG := BG_at2 225 (by decide +kernel) rfl
theorem okV_X7_themeOf : okV yX7_themeOf cX7_themeOf 2 (some .int) 1 := ⟨⟨wd_292, wd_93, by decide +kernel⟩, wd_293, wd_294⟩
theorem dX9_swing_27 : decode cX9_swing 27 = .ok (.invokevirtual 256, 3) := fq_182 fk_cX9_swing_1 11 rfl rfl rfl rfl rfl
theorem dX9_swing_30 : decode cX9_swing 30 = .ok (.aload_n 0, 1) := fq_42 fk_cX9_swing_1 14 rfl rfl
theorem dX9_swing_31 : decode cX9_swing 31 = .ok (.getfield 40, 3) := fq_180 fk_cX9_swing_1 15 rfl rfl rfl rfl rfl
theorem fk_cX9_swing_2 : fq_ck cX9_swing 32 [0, 40, 42, 180, 0, 79, 180, 1, 8, 182, 0, 250, 42, 180, 0, 40, 28, 42] := fq_of fW_cX9_swing 2 rfl rfl
theorem dX9_swing_34 : decode cX9_swing 34 = .ok (.aload_n 0, 1) := fq_42 fk_cX9_swing_2 2 rfl rfl
theorem dX9_swing_35 : decode cX9_swing 35 = .ok (.getfield 79, 3) := fq_180 fk_cX9_swing_2 3 rfl rfl rfl rfl rfl
theorem dX9_swing_38 : decode cX9_swing 38 = .ok (.getfield 264, 3) := fq_180 fk_cX9_swing_2 6 rfl rfl rfl rfl rfl
theorem dX9_swing_41 : decode cX9_swing 41 = .ok (.invokevirtual 250, 3) := fq_182 fk_cX9_swing_2 9 rfl rfl rfl rfl rfl
theorem wd_295 : Cond.methodLink RX9 250 yX7_spendMinutes ∈ BG := BG_at3 73 (by decide +kernel) rfl
theorem wd_296 : Cond.code yX7_spendMinutes cX7_spendMinutes 2 none ∈ BG := BG_at3 76 rfl rfl
theorem wd_297 : Cond.instanceMethod yX7_spendMinutes ∈ BG := BG_at3 74 (by decide +kernel) rfl
theorem wd_298 : Cond.selects RX7 yX7_spendMinutes yX7_spendMinutes ∈ BG := BG_at3 75 (by decide +kernel) rfl
theorem okV_X7_spendMinutes : okV yX7_spendMinutes cX7_spendMinutes 2 none 1 := ⟨⟨wd_296, wd_93, by decide +kernel⟩, wd_297, wd_298⟩
theorem dX9_swing_44 : decode cX9_swing 44 = .ok (.aload_n 0, 1) := fq_42 fk_cX9_swing_2 12 rfl rfl
theorem dX9_swing_45 : decode cX9_swing 45 = .ok (.getfield 40, 3) := fq_180 fk_cX9_swing_2 13 rfl rfl rfl rfl rfl
theorem fk_cX9_swing_3 : fq_ck cX9_swing 48 [28, 42, 180, 0, 79, 180, 1, 98, 182, 1, 101, 42, 180, 0, 79, 180, 1, 49] := fq_of fW_cX9_swing 3 rfl rfl
theorem dX9_swing_48 : decode cX9_swing 48 = .ok (.iload_n 2, 1) := fq_28 fk_cX9_swing_3 0 rfl rfl
theorem dX9_swing_49 : decode cX9_swing 49 = .ok (.aload_n 0, 1) := fq_42 fk_cX9_swing_3 1 rfl rfl
theorem dX9_swing_50 : decode cX9_swing 50 = .ok (.getfield 79, 3) := fq_180 fk_cX9_swing_3 2 rfl rfl rfl rfl rfl
theorem wd_299 : Cond.fieldLink RX9 354 "QuarrelBridges$Quarrel" "left" "I" ∈ BG := BG_at1 191 (by decide +kernel) rfl
theorem dX9_swing_53 : decode cX9_swing 53 = .ok (.getfield 354, 3) := fq_180 fk_cX9_swing_3 5 rfl rfl rfl rfl rfl
theorem dX9_swing_56 : decode cX9_swing 56 = .ok (.invokevirtual 357, 3) := fq_182 fk_cX9_swing_3 8 rfl rfl rfl rfl rfl
theorem wd_300 : Cond.methodLink RX9 357 yX7_leave ∈ BG := BG_at3 78 (by decide +kernel) rfl
theorem dX9_swing_59 : decode cX9_swing 59 = .ok (.aload_n 0, 1) := fq_42 fk_cX9_swing_3 11 rfl rfl
theorem dX9_swing_60 : decode cX9_swing 60 = .ok (.getfield 79, 3) := fq_180 fk_cX9_swing_3 12 rfl rfl rfl rfl rfl
theorem dX9_swing_63 : decode cX9_swing 63 = .ok (.getfield 305, 3) := fq_180 fk_cX9_swing_3 15 rfl rfl rfl rfl rfl
theorem fk_cX9_swing_4 : fq_ck cX9_swing 64 [1, 49, 153, 0, 11, 42, 180, 0, 40, 28, 182, 1, 104, 42, 180, 0, 79, 180] := fq_of fW_cX9_swing 4 rfl rfl
theorem dX9_swing_66 : decode cX9_swing 66 = .ok (.ifCond .eq 11, 3) := fq_153 fk_cX9_swing_4 2 rfl rfl rfl rfl rfl
theorem dX9_swing_77 : decode cX9_swing 77 = .ok (.aload_n 0, 1) := fq_42 fk_cX9_swing_4 13 rfl rfl
theorem dX9_swing_78 : decode cX9_swing 78 = .ok (.getfield 79, 3) := fq_180 fk_cX9_swing_4 14 rfl rfl rfl rfl rfl
theorem fk_cX9_swing_5 : fq_ck cX9_swing 80 [79, 180, 1, 4, 172] := fq_of fW_cX9_swing 5 rfl rfl
theorem dX9_swing_81 : decode cX9_swing 81 = .ok (.getfield 260, 3) := fq_180 fk_cX9_swing_5 1 rfl rfl rfl rfl rfl
theorem dX9_swing_84 : decode cX9_swing 84 = .ok (.ireturn, 1) := fq_172 fk_cX9_swing_5 4 rfl rfl
theorem dX9_swing_69 : decode cX9_swing 69 = .ok (.aload_n 0, 1) := fq_42 fk_cX9_swing_4 5 rfl rfl
theorem dX9_swing_70 : decode cX9_swing 70 = .ok (.getfield 40, 3) := fq_180 fk_cX9_swing_4 6 rfl rfl rfl rfl rfl
theorem dX9_swing_73 : decode cX9_swing 73 = .ok (.iload_n 2, 1) := fq_28 fk_cX9_swing_4 9 rfl rfl
theorem dX9_swing_74 : decode cX9_swing 74 = .ok (.invokevirtual 360, 3) := fq_182 fk_cX9_swing_4 10 rfl rfl rfl rfl rfl
theorem wd_301 : Cond.methodLink RX9 360 yX7_reconcile ∈ BG := BG_at3 82 (by decide +kernel) rfl
theorem wd_302 : Cond.code yX7_reconcile cX7_reconcile 2 none ∈ BG := BG_at3 85 rfl rfl
theorem wd_303 : Cond.instanceMethod yX7_reconcile ∈ BG := BG_at3 83 (by decide +kernel) rfl
theorem wd_304 : Cond.selects RX7 yX7_reconcile yX7_reconcile ∈ BG := BG_at3 84 (by decide +kernel) rfl
theorem okV_X7_reconcile : okV yX7_reconcile cX7_reconcile 2 none 1 := ⟨⟨wd_302, wd_93, by decide +kernel⟩, wd_303, wd_304⟩
theorem dX9_swing_14 : decode cX9_swing 14 = .ok (.iconst 0, 1) := fq_3 fk_cX9_swing_0 14 rfl rfl
theorem dX9_swing_15 : decode cX9_swing 15 = .ok (.ireturn, 1) := fq_172 fk_cX9_swing_0 15 rfl rfl
def fw_cX1_noteOpening : List (List Nat) := [[42, 180, 0, 19, 27, 184, 0, 65, 62, 42, 180, 0, 22, 27, 16, 8, 104, 29], [104, 29, 96, 4, 96, 42, 180, 0, 22, 27, 16, 8, 104, 29, 96, 184, 0, 65], [0, 65, 28, 96, 184, 0, 69, 42, 180, 0, 19, 27, 29, 4, 96, 184, 0, 69], [0, 69, 177]]
theorem fW_cX1_noteOpening : fq_wins 4 cX1_noteOpening.data.toList = fw_cX1_noteOpening := by decide +kernel
theorem fk_cX1_noteOpening_0 : fq_ck cX1_noteOpening 0 [42, 180, 0, 19, 27, 184, 0, 65, 62, 42, 180, 0, 22, 27, 16, 8, 104, 29] := fq_of fW_cX1_noteOpening 0 rfl rfl
theorem dX1_noteOpening_0 : decode cX1_noteOpening 0 = .ok (.aload_n 0, 1) := fq_42 fk_cX1_noteOpening_0 0 rfl rfl
theorem dX1_noteOpening_1 : decode cX1_noteOpening 1 = .ok (.getfield 19, 3) := fq_180 fk_cX1_noteOpening_0 1 rfl rfl rfl rfl rfl
theorem dX1_noteOpening_4 : decode cX1_noteOpening 4 = .ok (.iload_n 1, 1) := fq_27 fk_cX1_noteOpening_0 4 rfl rfl
theorem dX1_noteOpening_5 : decode cX1_noteOpening 5 = .ok (.invokestatic 65, 3) := fq_184 fk_cX1_noteOpening_0 5 rfl rfl rfl rfl rfl
theorem dX1_noteOpening_8 : decode cX1_noteOpening 8 = .ok (.istore_n 3, 1) := fq_62 fk_cX1_noteOpening_0 8 rfl rfl
theorem dX1_noteOpening_9 : decode cX1_noteOpening 9 = .ok (.aload_n 0, 1) := fq_42 fk_cX1_noteOpening_0 9 rfl rfl
theorem dX1_noteOpening_10 : decode cX1_noteOpening 10 = .ok (.getfield 22, 3) := fq_180 fk_cX1_noteOpening_0 10 rfl rfl rfl rfl rfl
theorem dX1_noteOpening_13 : decode cX1_noteOpening 13 = .ok (.iload_n 1, 1) := fq_27 fk_cX1_noteOpening_0 13 rfl rfl
theorem dX1_noteOpening_14 : decode cX1_noteOpening 14 = .ok (.bipush 8, 2) := fq_16 fk_cX1_noteOpening_0 14 rfl rfl rfl rfl
theorem fk_cX1_noteOpening_1 : fq_ck cX1_noteOpening 16 [104, 29, 96, 4, 96, 42, 180, 0, 22, 27, 16, 8, 104, 29, 96, 184, 0, 65] := fq_of fW_cX1_noteOpening 1 rfl rfl
theorem dX1_noteOpening_16 : decode cX1_noteOpening 16 = .ok (.imul, 1) := fq_104 fk_cX1_noteOpening_1 0 rfl rfl
theorem dX1_noteOpening_17 : decode cX1_noteOpening 17 = .ok (.iload_n 3, 1) := fq_29 fk_cX1_noteOpening_1 1 rfl rfl
theorem dX1_noteOpening_18 : decode cX1_noteOpening 18 = .ok (.iadd, 1) := fq_96 fk_cX1_noteOpening_1 2 rfl rfl
theorem dX1_noteOpening_19 : decode cX1_noteOpening 19 = .ok (.iconst 1, 1) := fq_4 fk_cX1_noteOpening_1 3 rfl rfl
theorem dX1_noteOpening_20 : decode cX1_noteOpening 20 = .ok (.iadd, 1) := fq_96 fk_cX1_noteOpening_1 4 rfl rfl
theorem dX1_noteOpening_21 : decode cX1_noteOpening 21 = .ok (.aload_n 0, 1) := fq_42 fk_cX1_noteOpening_1 5 rfl rfl
theorem dX1_noteOpening_22 : decode cX1_noteOpening 22 = .ok (.getfield 22, 3) := fq_180 fk_cX1_noteOpening_1 6 rfl rfl rfl rfl rfl
theorem dX1_noteOpening_25 : decode cX1_noteOpening 25 = .ok (.iload_n 1, 1) := fq_27 fk_cX1_noteOpening_1 9 rfl rfl
theorem dX1_noteOpening_26 : decode cX1_noteOpening 26 = .ok (.bipush 8, 2) := fq_16 fk_cX1_noteOpening_1 10 rfl rfl rfl rfl
theorem dX1_noteOpening_28 : decode cX1_noteOpening 28 = .ok (.imul, 1) := fq_104 fk_cX1_noteOpening_1 12 rfl rfl
theorem dX1_noteOpening_29 : decode cX1_noteOpening 29 = .ok (.iload_n 3, 1) := fq_29 fk_cX1_noteOpening_1 13 rfl rfl
theorem dX1_noteOpening_30 : decode cX1_noteOpening 30 = .ok (.iadd, 1) := fq_96 fk_cX1_noteOpening_1 14 rfl rfl
theorem dX1_noteOpening_31 : decode cX1_noteOpening 31 = .ok (.invokestatic 65, 3) := fq_184 fk_cX1_noteOpening_1 15 rfl rfl rfl rfl rfl
theorem fk_cX1_noteOpening_2 : fq_ck cX1_noteOpening 32 [0, 65, 28, 96, 184, 0, 69, 42, 180, 0, 19, 27, 29, 4, 96, 184, 0, 69] := fq_of fW_cX1_noteOpening 2 rfl rfl
theorem dX1_noteOpening_34 : decode cX1_noteOpening 34 = .ok (.iload_n 2, 1) := fq_28 fk_cX1_noteOpening_2 2 rfl rfl
theorem dX1_noteOpening_35 : decode cX1_noteOpening 35 = .ok (.iadd, 1) := fq_96 fk_cX1_noteOpening_2 3 rfl rfl
theorem dX1_noteOpening_36 : decode cX1_noteOpening 36 = .ok (.invokestatic 69, 3) := fq_184 fk_cX1_noteOpening_2 4 rfl rfl rfl rfl rfl
theorem dX1_noteOpening_39 : decode cX1_noteOpening 39 = .ok (.aload_n 0, 1) := fq_42 fk_cX1_noteOpening_2 7 rfl rfl
theorem dX1_noteOpening_40 : decode cX1_noteOpening 40 = .ok (.getfield 19, 3) := fq_180 fk_cX1_noteOpening_2 8 rfl rfl rfl rfl rfl
theorem dX1_noteOpening_43 : decode cX1_noteOpening 43 = .ok (.iload_n 1, 1) := fq_27 fk_cX1_noteOpening_2 11 rfl rfl
theorem dX1_noteOpening_44 : decode cX1_noteOpening 44 = .ok (.iload_n 3, 1) := fq_29 fk_cX1_noteOpening_2 12 rfl rfl
theorem dX1_noteOpening_45 : decode cX1_noteOpening 45 = .ok (.iconst 1, 1) := fq_4 fk_cX1_noteOpening_2 13 rfl rfl
theorem dX1_noteOpening_46 : decode cX1_noteOpening 46 = .ok (.iadd, 1) := fq_96 fk_cX1_noteOpening_2 14 rfl rfl
theorem dX1_noteOpening_47 : decode cX1_noteOpening 47 = .ok (.invokestatic 69, 3) := fq_184 fk_cX1_noteOpening_2 15 rfl rfl rfl rfl rfl
theorem fk_cX1_noteOpening_3 : fq_ck cX1_noteOpening 48 [0, 69, 177] := fq_of fW_cX1_noteOpening 3 rfl rfl
theorem dX1_noteOpening_50 : decode cX1_noteOpening 50 = .ok (.return_, 1) := fq_177 fk_cX1_noteOpening_3 2 rfl rfl
def fw_cX9_noteOpenings : List (List Nat) := [[42, 180, 0, 40, 27, 182, 0, 171, 61, 28, 2, 160, 0, 4, 177, 42, 180, 0], [180, 0, 40, 28, 182, 0, 177, 62, 42, 180, 0, 30, 28, 42, 180, 0, 40, 28], [40, 28, 182, 0, 186, 182, 0, 195, 54, 4, 3, 54, 5, 21, 5, 16, 7, 162], [7, 162, 0, 81, 42, 180, 0, 79, 29, 21, 4, 42, 180, 0, 30, 180, 0, 136], [0, 136, 42, 180, 0, 30, 180, 0, 164, 27, 184, 0, 167, 182, 1, 45, 42, 180], [42, 180, 0, 79, 180, 1, 4, 153, 0, 13, 42, 180, 0, 79, 180, 1, 49, 153], [49, 153, 0, 4, 177, 42, 180, 0, 79, 180, 1, 98, 62, 42, 180, 0, 93, 27], [93, 27, 42, 180, 0, 79, 180, 1, 8, 182, 1, 107, 132, 5, 1, 167, 255, 174], [255, 174, 177]]
theorem fW_cX9_noteOpenings : fq_wins 9 cX9_noteOpenings.data.toList = fw_cX9_noteOpenings := by decide +kernel
theorem fk_cX9_noteOpenings_0 : fq_ck cX9_noteOpenings 0 [42, 180, 0, 40, 27, 182, 0, 171, 61, 28, 2, 160, 0, 4, 177, 42, 180, 0] := fq_of fW_cX9_noteOpenings 0 rfl rfl
theorem dX9_noteOpenings_0 : decode cX9_noteOpenings 0 = .ok (.aload_n 0, 1) := fq_42 fk_cX9_noteOpenings_0 0 rfl rfl
theorem dX9_noteOpenings_1 : decode cX9_noteOpenings 1 = .ok (.getfield 40, 3) := fq_180 fk_cX9_noteOpenings_0 1 rfl rfl rfl rfl rfl
theorem dX9_noteOpenings_4 : decode cX9_noteOpenings 4 = .ok (.iload_n 1, 1) := fq_27 fk_cX9_noteOpenings_0 4 rfl rfl
theorem dX9_noteOpenings_5 : decode cX9_noteOpenings 5 = .ok (.invokevirtual 171, 3) := fq_182 fk_cX9_noteOpenings_0 5 rfl rfl rfl rfl rfl
theorem dX9_noteOpenings_8 : decode cX9_noteOpenings 8 = .ok (.istore_n 2, 1) := fq_61 fk_cX9_noteOpenings_0 8 rfl rfl
theorem dX9_noteOpenings_9 : decode cX9_noteOpenings 9 = .ok (.iload_n 2, 1) := fq_28 fk_cX9_noteOpenings_0 9 rfl rfl
theorem dX9_noteOpenings_10 : decode cX9_noteOpenings 10 = .ok (.iconst (-1), 1) := fq_2 fk_cX9_noteOpenings_0 10 rfl rfl
theorem dX9_noteOpenings_11 : decode cX9_noteOpenings 11 = .ok (.if_icmp .ne 4, 3) := fq_160 fk_cX9_noteOpenings_0 11 rfl rfl rfl rfl rfl
theorem dX9_noteOpenings_15 : decode cX9_noteOpenings 15 = .ok (.aload_n 0, 1) := fq_42 fk_cX9_noteOpenings_0 15 rfl rfl
theorem fk_cX9_noteOpenings_1 : fq_ck cX9_noteOpenings 16 [180, 0, 40, 28, 182, 0, 177, 62, 42, 180, 0, 30, 28, 42, 180, 0, 40, 28] := fq_of fW_cX9_noteOpenings 1 rfl rfl
theorem dX9_noteOpenings_16 : decode cX9_noteOpenings 16 = .ok (.getfield 40, 3) := fq_180 fk_cX9_noteOpenings_1 0 rfl rfl rfl rfl rfl
theorem dX9_noteOpenings_19 : decode cX9_noteOpenings 19 = .ok (.iload_n 2, 1) := fq_28 fk_cX9_noteOpenings_1 3 rfl rfl
theorem dX9_noteOpenings_20 : decode cX9_noteOpenings 20 = .ok (.invokevirtual 177, 3) := fq_182 fk_cX9_noteOpenings_1 4 rfl rfl rfl rfl rfl
theorem dX9_noteOpenings_23 : decode cX9_noteOpenings 23 = .ok (.istore_n 3, 1) := fq_62 fk_cX9_noteOpenings_1 7 rfl rfl
theorem dX9_noteOpenings_24 : decode cX9_noteOpenings 24 = .ok (.aload_n 0, 1) := fq_42 fk_cX9_noteOpenings_1 8 rfl rfl
theorem dX9_noteOpenings_25 : decode cX9_noteOpenings 25 = .ok (.getfield 30, 3) := fq_180 fk_cX9_noteOpenings_1 9 rfl rfl rfl rfl rfl
theorem dX9_noteOpenings_28 : decode cX9_noteOpenings 28 = .ok (.iload_n 2, 1) := fq_28 fk_cX9_noteOpenings_1 12 rfl rfl
theorem dX9_noteOpenings_29 : decode cX9_noteOpenings 29 = .ok (.aload_n 0, 1) := fq_42 fk_cX9_noteOpenings_1 13 rfl rfl
theorem dX9_noteOpenings_30 : decode cX9_noteOpenings 30 = .ok (.getfield 40, 3) := fq_180 fk_cX9_noteOpenings_1 14 rfl rfl rfl rfl rfl
theorem fk_cX9_noteOpenings_2 : fq_ck cX9_noteOpenings 32 [40, 28, 182, 0, 186, 182, 0, 195, 54, 4, 3, 54, 5, 21, 5, 16, 7, 162] := fq_of fW_cX9_noteOpenings 2 rfl rfl
theorem dX9_noteOpenings_33 : decode cX9_noteOpenings 33 = .ok (.iload_n 2, 1) := fq_28 fk_cX9_noteOpenings_2 1 rfl rfl
theorem dX9_noteOpenings_34 : decode cX9_noteOpenings 34 = .ok (.invokevirtual 186, 3) := fq_182 fk_cX9_noteOpenings_2 2 rfl rfl rfl rfl rfl
theorem dX9_noteOpenings_37 : decode cX9_noteOpenings 37 = .ok (.invokevirtual 195, 3) := fq_182 fk_cX9_noteOpenings_2 5 rfl rfl rfl rfl rfl
theorem dX9_noteOpenings_40 : decode cX9_noteOpenings 40 = .ok (.istore 4, 2) := fq_54 fk_cX9_noteOpenings_2 8 rfl rfl rfl
theorem dX9_noteOpenings_42 : decode cX9_noteOpenings 42 = .ok (.iconst 0, 1) := fq_3 fk_cX9_noteOpenings_2 10 rfl rfl
theorem dX9_noteOpenings_43 : decode cX9_noteOpenings 43 = .ok (.istore 5, 2) := fq_54 fk_cX9_noteOpenings_2 11 rfl rfl rfl
theorem fk_cX9_noteOpenings_8 : fq_ck cX9_noteOpenings 128 [255, 174, 177] := fq_of fW_cX9_noteOpenings 8 rfl rfl
theorem dX9_noteOpenings_130 : decode cX9_noteOpenings 130 = .ok (.return_, 1) := fq_177 fk_cX9_noteOpenings_8 2 rfl rfl
theorem dX9_noteOpenings_45 : decode cX9_noteOpenings 45 = .ok (.iload 5, 2) := fq_21 fk_cX9_noteOpenings_2 13 rfl rfl rfl
theorem dX9_noteOpenings_47 : decode cX9_noteOpenings 47 = .ok (.bipush 7, 2) := fq_16 fk_cX9_noteOpenings_2 15 rfl rfl rfl rfl
theorem fk_cX9_noteOpenings_3 : fq_ck cX9_noteOpenings 48 [7, 162, 0, 81, 42, 180, 0, 79, 29, 21, 4, 42, 180, 0, 30, 180, 0, 136] := fq_of fW_cX9_noteOpenings 3 rfl rfl
theorem dX9_noteOpenings_49 : decode cX9_noteOpenings 49 = .ok (.if_icmp .ge 81, 3) := fq_162 fk_cX9_noteOpenings_3 1 rfl rfl rfl rfl rfl
theorem dX9_noteOpenings_52 : decode cX9_noteOpenings 52 = .ok (.aload_n 0, 1) := fq_42 fk_cX9_noteOpenings_3 4 rfl rfl
theorem dX9_noteOpenings_53 : decode cX9_noteOpenings 53 = .ok (.getfield 79, 3) := fq_180 fk_cX9_noteOpenings_3 5 rfl rfl rfl rfl rfl
theorem dX9_noteOpenings_56 : decode cX9_noteOpenings 56 = .ok (.iload_n 3, 1) := fq_29 fk_cX9_noteOpenings_3 8 rfl rfl
theorem dX9_noteOpenings_57 : decode cX9_noteOpenings 57 = .ok (.iload 4, 2) := fq_21 fk_cX9_noteOpenings_3 9 rfl rfl rfl
theorem dX9_noteOpenings_59 : decode cX9_noteOpenings 59 = .ok (.aload_n 0, 1) := fq_42 fk_cX9_noteOpenings_3 11 rfl rfl
theorem dX9_noteOpenings_60 : decode cX9_noteOpenings 60 = .ok (.getfield 30, 3) := fq_180 fk_cX9_noteOpenings_3 12 rfl rfl rfl rfl rfl
theorem dX9_noteOpenings_63 : decode cX9_noteOpenings 63 = .ok (.getfield 136, 3) := fq_180 fk_cX9_noteOpenings_3 15 rfl rfl rfl rfl rfl
theorem fk_cX9_noteOpenings_4 : fq_ck cX9_noteOpenings 64 [0, 136, 42, 180, 0, 30, 180, 0, 164, 27, 184, 0, 167, 182, 1, 45, 42, 180] := fq_of fW_cX9_noteOpenings 4 rfl rfl
theorem dX9_noteOpenings_66 : decode cX9_noteOpenings 66 = .ok (.aload_n 0, 1) := fq_42 fk_cX9_noteOpenings_4 2 rfl rfl
theorem dX9_noteOpenings_67 : decode cX9_noteOpenings 67 = .ok (.getfield 30, 3) := fq_180 fk_cX9_noteOpenings_4 3 rfl rfl rfl rfl rfl
theorem dX9_noteOpenings_70 : decode cX9_noteOpenings 70 = .ok (.getfield 164, 3) := fq_180 fk_cX9_noteOpenings_4 6 rfl rfl rfl rfl rfl
theorem dX9_noteOpenings_73 : decode cX9_noteOpenings 73 = .ok (.iload_n 1, 1) := fq_27 fk_cX9_noteOpenings_4 9 rfl rfl
theorem dX9_noteOpenings_74 : decode cX9_noteOpenings 74 = .ok (.invokestatic 167, 3) := fq_184 fk_cX9_noteOpenings_4 10 rfl rfl rfl rfl rfl
theorem dX9_noteOpenings_77 : decode cX9_noteOpenings 77 = .ok (.invokevirtual 301, 3) := fq_182 fk_cX9_noteOpenings_4 13 rfl rfl rfl rfl rfl
theorem fk_cX9_noteOpenings_5 : fq_ck cX9_noteOpenings 80 [42, 180, 0, 79, 180, 1, 4, 153, 0, 13, 42, 180, 0, 79, 180, 1, 49, 153] := fq_of fW_cX9_noteOpenings 5 rfl rfl
theorem dX9_noteOpenings_80 : decode cX9_noteOpenings 80 = .ok (.aload_n 0, 1) := fq_42 fk_cX9_noteOpenings_5 0 rfl rfl
theorem dX9_noteOpenings_81 : decode cX9_noteOpenings 81 = .ok (.getfield 79, 3) := fq_180 fk_cX9_noteOpenings_5 1 rfl rfl rfl rfl rfl
theorem dX9_noteOpenings_84 : decode cX9_noteOpenings 84 = .ok (.getfield 260, 3) := fq_180 fk_cX9_noteOpenings_5 4 rfl rfl rfl rfl rfl
theorem dX9_noteOpenings_87 : decode cX9_noteOpenings 87 = .ok (.ifCond .eq 13, 3) := fq_153 fk_cX9_noteOpenings_5 7 rfl rfl rfl rfl rfl
theorem fk_cX9_noteOpenings_6 : fq_ck cX9_noteOpenings 96 [49, 153, 0, 4, 177, 42, 180, 0, 79, 180, 1, 98, 62, 42, 180, 0, 93, 27] := fq_of fW_cX9_noteOpenings 6 rfl rfl
theorem dX9_noteOpenings_100 : decode cX9_noteOpenings 100 = .ok (.return_, 1) := fq_177 fk_cX9_noteOpenings_6 4 rfl rfl
theorem dX9_noteOpenings_90 : decode cX9_noteOpenings 90 = .ok (.aload_n 0, 1) := fq_42 fk_cX9_noteOpenings_5 10 rfl rfl
theorem dX9_noteOpenings_91 : decode cX9_noteOpenings 91 = .ok (.getfield 79, 3) := fq_180 fk_cX9_noteOpenings_5 11 rfl rfl rfl rfl rfl
theorem dX9_noteOpenings_94 : decode cX9_noteOpenings 94 = .ok (.getfield 305, 3) := fq_180 fk_cX9_noteOpenings_5 14 rfl rfl rfl rfl rfl
theorem dX9_noteOpenings_97 : decode cX9_noteOpenings 97 = .ok (.ifCond .eq 4, 3) := fq_153 fk_cX9_noteOpenings_6 1 rfl rfl rfl rfl rfl
theorem dX9_noteOpenings_101 : decode cX9_noteOpenings 101 = .ok (.aload_n 0, 1) := fq_42 fk_cX9_noteOpenings_6 5 rfl rfl
theorem dX9_noteOpenings_102 : decode cX9_noteOpenings 102 = .ok (.getfield 79, 3) := fq_180 fk_cX9_noteOpenings_6 6 rfl rfl rfl rfl rfl
theorem dX9_noteOpenings_105 : decode cX9_noteOpenings 105 = .ok (.getfield 354, 3) := fq_180 fk_cX9_noteOpenings_6 9 rfl rfl rfl rfl rfl
theorem dX9_noteOpenings_108 : decode cX9_noteOpenings 108 = .ok (.istore_n 3, 1) := fq_62 fk_cX9_noteOpenings_6 12 rfl rfl
theorem dX9_noteOpenings_109 : decode cX9_noteOpenings 109 = .ok (.aload_n 0, 1) := fq_42 fk_cX9_noteOpenings_6 13 rfl rfl
theorem dX9_noteOpenings_110 : decode cX9_noteOpenings 110 = .ok (.getfield 93, 3) := fq_180 fk_cX9_noteOpenings_6 14 rfl rfl rfl rfl rfl
theorem fk_cX9_noteOpenings_7 : fq_ck cX9_noteOpenings 112 [93, 27, 42, 180, 0, 79, 180, 1, 8, 182, 1, 107, 132, 5, 1, 167, 255, 174] := fq_of fW_cX9_noteOpenings 7 rfl rfl
theorem dX9_noteOpenings_113 : decode cX9_noteOpenings 113 = .ok (.iload_n 1, 1) := fq_27 fk_cX9_noteOpenings_7 1 rfl rfl
theorem dX9_noteOpenings_114 : decode cX9_noteOpenings 114 = .ok (.aload_n 0, 1) := fq_42 fk_cX9_noteOpenings_7 2 rfl rfl
theorem dX9_noteOpenings_115 : decode cX9_noteOpenings 115 = .ok (.getfield 79, 3) := fq_180 fk_cX9_noteOpenings_7 3 rfl rfl rfl rfl rfl
theorem dX9_noteOpenings_118 : decode cX9_noteOpenings 118 = .ok (.getfield 264, 3) := fq_180 fk_cX9_noteOpenings_7 6 rfl rfl rfl rfl rfl
theorem dX9_noteOpenings_121 : decode cX9_noteOpenings 121 = .ok (.invokevirtual 363, 3) := fq_182 fk_cX9_noteOpenings_7 9 rfl rfl rfl rfl rfl
theorem wd_305 : Cond.methodLink RX9 363 yX1_noteOpening ∈ BG := BG_at3 192 (by decide +kernel) rfl
theorem wd_306 : Cond.code yX1_noteOpening cX1_noteOpening 4 none ∈ BG := BG_at3 195 rfl rfl
theorem wd_307 : Cond.instanceMethod yX1_noteOpening ∈ BG := BG_at3 193 (by decide +kernel) rfl
theorem wd_308 : Cond.selects RX1 yX1_noteOpening yX1_noteOpening ∈ BG := BG_at3 194 (by decide +kernel) rfl
theorem okV_X1_noteOpening : okV yX1_noteOpening cX1_noteOpening 4 none 2 := ⟨⟨wd_306, wd_129, by decide +kernel⟩, wd_307, wd_308⟩
theorem dX9_noteOpenings_124 : decode cX9_noteOpenings 124 = .ok (.iinc 5 1, 3) := fq_132 fk_cX9_noteOpenings_7 12 rfl rfl rfl rfl rfl
theorem dX9_noteOpenings_127 : decode cX9_noteOpenings 127 = .ok (.goto (-82), 3) := fq_167 fk_cX9_noteOpenings_7 15 rfl rfl rfl rfl rfl
theorem dX9_noteOpenings_14 : decode cX9_noteOpenings 14 = .ok (.return_, 1) := fq_177 fk_cX9_noteOpenings_0 14 rfl rfl
def fw_cX1_gather : List (List Nat) := [[42, 43, 181, 0, 40, 42, 44, 182, 0, 44, 181, 0, 37, 42, 44, 3, 182, 0], [182, 0, 50, 4, 43, 180, 0, 54, 120, 4, 100, 126, 181, 0, 34, 42, 180, 0], [180, 0, 19, 3, 184, 0, 59, 42, 180, 0, 22, 3, 184, 0, 59, 177]]
theorem fW_cX1_gather : fq_wins 3 cX1_gather.data.toList = fw_cX1_gather := by decide +kernel
theorem fk_cX1_gather_0 : fq_ck cX1_gather 0 [42, 43, 181, 0, 40, 42, 44, 182, 0, 44, 181, 0, 37, 42, 44, 3, 182, 0] := fq_of fW_cX1_gather 0 rfl rfl
theorem dX1_gather_0 : decode cX1_gather 0 = .ok (.aload_n 0, 1) := fq_42 fk_cX1_gather_0 0 rfl rfl
theorem dX1_gather_1 : decode cX1_gather 1 = .ok (.aload_n 1, 1) := fq_43 fk_cX1_gather_0 1 rfl rfl
theorem dX1_gather_2 : decode cX1_gather 2 = .ok (.putfield 40, 3) := fq_181 fk_cX1_gather_0 2 rfl rfl rfl rfl rfl
theorem dX1_gather_5 : decode cX1_gather 5 = .ok (.aload_n 0, 1) := fq_42 fk_cX1_gather_0 5 rfl rfl
theorem dX1_gather_6 : decode cX1_gather 6 = .ok (.aload_n 2, 1) := fq_44 fk_cX1_gather_0 6 rfl rfl
theorem dX1_gather_7 : decode cX1_gather 7 = .ok (.invokevirtual 44, 3) := fq_182 fk_cX1_gather_0 7 rfl rfl rfl rfl rfl
theorem wd_309 : Cond.methodLink RX1 44 yX7_minutes ∈ BG := BG_at3 185 (by decide +kernel) rfl
theorem dX1_gather_10 : decode cX1_gather 10 = .ok (.putfield 37, 3) := fq_181 fk_cX1_gather_0 10 rfl rfl rfl rfl rfl
theorem dX1_gather_13 : decode cX1_gather 13 = .ok (.aload_n 0, 1) := fq_42 fk_cX1_gather_0 13 rfl rfl
theorem dX1_gather_14 : decode cX1_gather 14 = .ok (.aload_n 2, 1) := fq_44 fk_cX1_gather_0 14 rfl rfl
theorem dX1_gather_15 : decode cX1_gather 15 = .ok (.iconst 0, 1) := fq_3 fk_cX1_gather_0 15 rfl rfl
theorem fk_cX1_gather_1 : fq_ck cX1_gather 16 [182, 0, 50, 4, 43, 180, 0, 54, 120, 4, 100, 126, 181, 0, 34, 42, 180, 0] := fq_of fW_cX1_gather 1 rfl rfl
theorem dX1_gather_16 : decode cX1_gather 16 = .ok (.invokevirtual 50, 3) := fq_182 fk_cX1_gather_1 0 rfl rfl rfl rfl rfl
theorem wd_310 : Cond.methodLink RX1 50 yX7_bargesOfFate ∈ BG := BG_at3 186 (by decide +kernel) rfl
theorem wd_311 : Cond.code yX7_bargesOfFate cX7_bargesOfFate 4 (some .int) ∈ BG := BG_at2 178 rfl rfl
theorem wd_312 : Cond.instanceMethod yX7_bargesOfFate ∈ BG := BG_at2 176 (by decide +kernel) rfl
theorem wd_313 : Cond.selects RX7 yX7_bargesOfFate yX7_bargesOfFate ∈ BG := BG_at2 177 (by decide +kernel) rfl
theorem okV_X7_bargesOfFate : okV yX7_bargesOfFate cX7_bargesOfFate 4 (some .int) 1 := ⟨⟨wd_311, wd_93, by decide +kernel⟩, wd_312, wd_313⟩
theorem dX1_gather_19 : decode cX1_gather 19 = .ok (.iconst 1, 1) := fq_4 fk_cX1_gather_1 3 rfl rfl
theorem dX1_gather_20 : decode cX1_gather 20 = .ok (.aload_n 1, 1) := fq_43 fk_cX1_gather_1 4 rfl rfl
theorem wd_314 : Cond.fieldLink RX1 54 "QuarrelBridges$Town" "barges" "I" ∈ BG := BG_at1 73 (by decide +kernel) rfl
theorem dX1_gather_21 : decode cX1_gather 21 = .ok (.getfield 54, 3) := fq_180 fk_cX1_gather_1 5 rfl rfl rfl rfl rfl
theorem dX1_gather_24 : decode cX1_gather 24 = .ok (.ishl, 1) := fq_120 fk_cX1_gather_1 8 rfl rfl
theorem dX1_gather_25 : decode cX1_gather 25 = .ok (.iconst 1, 1) := fq_4 fk_cX1_gather_1 9 rfl rfl
theorem dX1_gather_26 : decode cX1_gather 26 = .ok (.isub, 1) := fq_100 fk_cX1_gather_1 10 rfl rfl
theorem dX1_gather_27 : decode cX1_gather 27 = .ok (.iand, 1) := fq_126 fk_cX1_gather_1 11 rfl rfl
theorem dX1_gather_28 : decode cX1_gather 28 = .ok (.putfield 34, 3) := fq_181 fk_cX1_gather_1 12 rfl rfl rfl rfl rfl
theorem dX1_gather_31 : decode cX1_gather 31 = .ok (.aload_n 0, 1) := fq_42 fk_cX1_gather_1 15 rfl rfl
theorem fk_cX1_gather_2 : fq_ck cX1_gather 32 [180, 0, 19, 3, 184, 0, 59, 42, 180, 0, 22, 3, 184, 0, 59, 177] := fq_of fW_cX1_gather 2 rfl rfl
theorem dX1_gather_32 : decode cX1_gather 32 = .ok (.getfield 19, 3) := fq_180 fk_cX1_gather_2 0 rfl rfl rfl rfl rfl
theorem dX1_gather_35 : decode cX1_gather 35 = .ok (.iconst 0, 1) := fq_3 fk_cX1_gather_2 3 rfl rfl
theorem dX1_gather_36 : decode cX1_gather 36 = .ok (.invokestatic 59, 3) := fq_184 fk_cX1_gather_2 4 rfl rfl rfl rfl rfl
theorem wd_315 : Cond.methodLink RX1 59 yJ7_fill_53178 ∈ BG := BG_at3 187 (by decide +kernel) rfl
theorem dX1_gather_39 : decode cX1_gather 39 = .ok (.aload_n 0, 1) := fq_42 fk_cX1_gather_2 7 rfl rfl
theorem dX1_gather_40 : decode cX1_gather 40 = .ok (.getfield 22, 3) := fq_180 fk_cX1_gather_2 8 rfl rfl rfl rfl rfl
theorem dX1_gather_43 : decode cX1_gather 43 = .ok (.iconst 0, 1) := fq_3 fk_cX1_gather_2 11 rfl rfl
theorem dX1_gather_44 : decode cX1_gather 44 = .ok (.invokestatic 59, 3) := fq_184 fk_cX1_gather_2 12 rfl rfl rfl rfl rfl
theorem dX1_gather_47 : decode cX1_gather 47 = .ok (.return_, 1) := fq_177 fk_cX1_gather_2 15 rfl rfl
def fw_cX1_minuteBehind : List (List Nat) := [[42, 180, 0, 40, 198, 0, 14, 27, 42, 180, 0, 34, 2, 130, 126, 153, 0, 5], [0, 5, 2, 172, 42, 180, 0, 37, 61, 3, 62, 29, 42, 180, 0, 40, 180, 0], [180, 0, 83, 162, 0, 95, 3, 54, 4, 3, 54, 5, 21, 5, 16, 7, 162, 0], [162, 0, 44, 21, 4, 27, 21, 5, 122, 4, 126, 153, 0, 23, 42, 180, 0, 40], [0, 40, 180, 0, 86, 21, 5, 184, 0, 65, 29, 161, 0, 7, 4, 167, 0, 4], [0, 4, 3, 96, 54, 4, 132, 5, 1, 167, 255, 211, 21, 4, 42, 180, 0, 19], [0, 19, 29, 184, 0, 65, 164, 0, 5, 2, 172, 28, 42, 180, 0, 22, 29, 16], [29, 16, 8, 104, 21, 4, 96, 184, 0, 65, 96, 61, 132, 3, 1, 167, 255, 156], [255, 156, 28, 172]]
theorem fW_cX1_minuteBehind : fq_wins 9 cX1_minuteBehind.data.toList = fw_cX1_minuteBehind := by decide +kernel
theorem fk_cX1_minuteBehind_0 : fq_ck cX1_minuteBehind 0 [42, 180, 0, 40, 198, 0, 14, 27, 42, 180, 0, 34, 2, 130, 126, 153, 0, 5] := fq_of fW_cX1_minuteBehind 0 rfl rfl
theorem dX1_minuteBehind_0 : decode cX1_minuteBehind 0 = .ok (.aload_n 0, 1) := fq_42 fk_cX1_minuteBehind_0 0 rfl rfl
theorem dX1_minuteBehind_1 : decode cX1_minuteBehind 1 = .ok (.getfield 40, 3) := fq_180 fk_cX1_minuteBehind_0 1 rfl rfl rfl rfl rfl
theorem dX1_minuteBehind_4 : decode cX1_minuteBehind 4 = .ok (.ifnull 14, 3) := fq_198 fk_cX1_minuteBehind_0 4 rfl rfl rfl rfl rfl
theorem dX1_minuteBehind_7 : decode cX1_minuteBehind 7 = .ok (.iload_n 1, 1) := fq_27 fk_cX1_minuteBehind_0 7 rfl rfl
theorem dX1_minuteBehind_8 : decode cX1_minuteBehind 8 = .ok (.aload_n 0, 1) := fq_42 fk_cX1_minuteBehind_0 8 rfl rfl
theorem dX1_minuteBehind_9 : decode cX1_minuteBehind 9 = .ok (.getfield 34, 3) := fq_180 fk_cX1_minuteBehind_0 9 rfl rfl rfl rfl rfl
theorem dX1_minuteBehind_12 : decode cX1_minuteBehind 12 = .ok (.iconst (-1), 1) := fq_2 fk_cX1_minuteBehind_0 12 rfl rfl
theorem dX1_minuteBehind_13 : decode cX1_minuteBehind 13 = .ok (.ixor, 1) := fq_130 fk_cX1_minuteBehind_0 13 rfl rfl
theorem dX1_minuteBehind_14 : decode cX1_minuteBehind 14 = .ok (.iand, 1) := fq_126 fk_cX1_minuteBehind_0 14 rfl rfl
theorem dX1_minuteBehind_15 : decode cX1_minuteBehind 15 = .ok (.ifCond .eq 5, 3) := fq_153 fk_cX1_minuteBehind_0 15 rfl rfl rfl rfl rfl
theorem fk_cX1_minuteBehind_1 : fq_ck cX1_minuteBehind 16 [0, 5, 2, 172, 42, 180, 0, 37, 61, 3, 62, 29, 42, 180, 0, 40, 180, 0] := fq_of fW_cX1_minuteBehind 1 rfl rfl
theorem dX1_minuteBehind_20 : decode cX1_minuteBehind 20 = .ok (.aload_n 0, 1) := fq_42 fk_cX1_minuteBehind_1 4 rfl rfl
theorem dX1_minuteBehind_21 : decode cX1_minuteBehind 21 = .ok (.getfield 37, 3) := fq_180 fk_cX1_minuteBehind_1 5 rfl rfl rfl rfl rfl
theorem dX1_minuteBehind_24 : decode cX1_minuteBehind 24 = .ok (.istore_n 2, 1) := fq_61 fk_cX1_minuteBehind_1 8 rfl rfl
theorem dX1_minuteBehind_25 : decode cX1_minuteBehind 25 = .ok (.iconst 0, 1) := fq_3 fk_cX1_minuteBehind_1 9 rfl rfl
theorem dX1_minuteBehind_26 : decode cX1_minuteBehind 26 = .ok (.istore_n 3, 1) := fq_62 fk_cX1_minuteBehind_1 10 rfl rfl
theorem fk_cX1_minuteBehind_8 : fq_ck cX1_minuteBehind 128 [255, 156, 28, 172] := fq_of fW_cX1_minuteBehind 8 rfl rfl
theorem dX1_minuteBehind_130 : decode cX1_minuteBehind 130 = .ok (.iload_n 2, 1) := fq_28 fk_cX1_minuteBehind_8 2 rfl rfl
theorem dX1_minuteBehind_131 : decode cX1_minuteBehind 131 = .ok (.ireturn, 1) := fq_172 fk_cX1_minuteBehind_8 3 rfl rfl
theorem dX1_minuteBehind_27 : decode cX1_minuteBehind 27 = .ok (.iload_n 3, 1) := fq_29 fk_cX1_minuteBehind_1 11 rfl rfl
theorem dX1_minuteBehind_28 : decode cX1_minuteBehind 28 = .ok (.aload_n 0, 1) := fq_42 fk_cX1_minuteBehind_1 12 rfl rfl
theorem dX1_minuteBehind_29 : decode cX1_minuteBehind 29 = .ok (.getfield 40, 3) := fq_180 fk_cX1_minuteBehind_1 13 rfl rfl rfl rfl rfl
theorem wd_316 : Cond.fieldLink RX1 83 "QuarrelBridges$Town" "bridges" "I" ∈ BG := BG_at1 64 (by decide +kernel) rfl
theorem fk_cX1_minuteBehind_2 : fq_ck cX1_minuteBehind 32 [180, 0, 83, 162, 0, 95, 3, 54, 4, 3, 54, 5, 21, 5, 16, 7, 162, 0] := fq_of fW_cX1_minuteBehind 2 rfl rfl
theorem dX1_minuteBehind_32 : decode cX1_minuteBehind 32 = .ok (.getfield 83, 3) := fq_180 fk_cX1_minuteBehind_2 0 rfl rfl rfl rfl rfl
theorem dX1_minuteBehind_35 : decode cX1_minuteBehind 35 = .ok (.if_icmp .ge 95, 3) := fq_162 fk_cX1_minuteBehind_2 3 rfl rfl rfl rfl rfl
theorem dX1_minuteBehind_38 : decode cX1_minuteBehind 38 = .ok (.iconst 0, 1) := fq_3 fk_cX1_minuteBehind_2 6 rfl rfl
theorem dX1_minuteBehind_39 : decode cX1_minuteBehind 39 = .ok (.istore 4, 2) := fq_54 fk_cX1_minuteBehind_2 7 rfl rfl rfl
theorem dX1_minuteBehind_41 : decode cX1_minuteBehind 41 = .ok (.iconst 0, 1) := fq_3 fk_cX1_minuteBehind_2 9 rfl rfl
theorem dX1_minuteBehind_42 : decode cX1_minuteBehind 42 = .ok (.istore 5, 2) := fq_54 fk_cX1_minuteBehind_2 10 rfl rfl rfl
theorem fk_cX1_minuteBehind_5 : fq_ck cX1_minuteBehind 80 [0, 4, 3, 96, 54, 4, 132, 5, 1, 167, 255, 211, 21, 4, 42, 180, 0, 19] := fq_of fW_cX1_minuteBehind 5 rfl rfl
theorem dX1_minuteBehind_92 : decode cX1_minuteBehind 92 = .ok (.iload 4, 2) := fq_21 fk_cX1_minuteBehind_5 12 rfl rfl rfl
theorem dX1_minuteBehind_94 : decode cX1_minuteBehind 94 = .ok (.aload_n 0, 1) := fq_42 fk_cX1_minuteBehind_5 14 rfl rfl
theorem dX1_minuteBehind_95 : decode cX1_minuteBehind 95 = .ok (.getfield 19, 3) := fq_180 fk_cX1_minuteBehind_5 15 rfl rfl rfl rfl rfl
theorem fk_cX1_minuteBehind_6 : fq_ck cX1_minuteBehind 96 [0, 19, 29, 184, 0, 65, 164, 0, 5, 2, 172, 28, 42, 180, 0, 22, 29, 16] := fq_of fW_cX1_minuteBehind 6 rfl rfl
theorem dX1_minuteBehind_98 : decode cX1_minuteBehind 98 = .ok (.iload_n 3, 1) := fq_29 fk_cX1_minuteBehind_6 2 rfl rfl
theorem dX1_minuteBehind_99 : decode cX1_minuteBehind 99 = .ok (.invokestatic 65, 3) := fq_184 fk_cX1_minuteBehind_6 3 rfl rfl rfl rfl rfl
theorem dX1_minuteBehind_102 : decode cX1_minuteBehind 102 = .ok (.if_icmp .le 5, 3) := fq_164 fk_cX1_minuteBehind_6 6 rfl rfl rfl rfl rfl
theorem dX1_minuteBehind_107 : decode cX1_minuteBehind 107 = .ok (.iload_n 2, 1) := fq_28 fk_cX1_minuteBehind_6 11 rfl rfl
theorem dX1_minuteBehind_108 : decode cX1_minuteBehind 108 = .ok (.aload_n 0, 1) := fq_42 fk_cX1_minuteBehind_6 12 rfl rfl
theorem dX1_minuteBehind_109 : decode cX1_minuteBehind 109 = .ok (.getfield 22, 3) := fq_180 fk_cX1_minuteBehind_6 13 rfl rfl rfl rfl rfl
theorem fk_cX1_minuteBehind_7 : fq_ck cX1_minuteBehind 112 [29, 16, 8, 104, 21, 4, 96, 184, 0, 65, 96, 61, 132, 3, 1, 167, 255, 156] := fq_of fW_cX1_minuteBehind 7 rfl rfl
theorem dX1_minuteBehind_112 : decode cX1_minuteBehind 112 = .ok (.iload_n 3, 1) := fq_29 fk_cX1_minuteBehind_7 0 rfl rfl
theorem dX1_minuteBehind_113 : decode cX1_minuteBehind 113 = .ok (.bipush 8, 2) := fq_16 fk_cX1_minuteBehind_7 1 rfl rfl rfl rfl
theorem dX1_minuteBehind_115 : decode cX1_minuteBehind 115 = .ok (.imul, 1) := fq_104 fk_cX1_minuteBehind_7 3 rfl rfl
theorem dX1_minuteBehind_116 : decode cX1_minuteBehind 116 = .ok (.iload 4, 2) := fq_21 fk_cX1_minuteBehind_7 4 rfl rfl rfl
theorem dX1_minuteBehind_118 : decode cX1_minuteBehind 118 = .ok (.iadd, 1) := fq_96 fk_cX1_minuteBehind_7 6 rfl rfl
theorem dX1_minuteBehind_119 : decode cX1_minuteBehind 119 = .ok (.invokestatic 65, 3) := fq_184 fk_cX1_minuteBehind_7 7 rfl rfl rfl rfl rfl
theorem dX1_minuteBehind_122 : decode cX1_minuteBehind 122 = .ok (.iadd, 1) := fq_96 fk_cX1_minuteBehind_7 10 rfl rfl
theorem dX1_minuteBehind_123 : decode cX1_minuteBehind 123 = .ok (.istore_n 2, 1) := fq_61 fk_cX1_minuteBehind_7 11 rfl rfl
theorem dX1_minuteBehind_124 : decode cX1_minuteBehind 124 = .ok (.iinc 3 1, 3) := fq_132 fk_cX1_minuteBehind_7 12 rfl rfl rfl rfl rfl
theorem dX1_minuteBehind_127 : decode cX1_minuteBehind 127 = .ok (.goto (-100), 3) := fq_167 fk_cX1_minuteBehind_7 15 rfl rfl rfl rfl rfl
theorem dX1_minuteBehind_105 : decode cX1_minuteBehind 105 = .ok (.iconst (-1), 1) := fq_2 fk_cX1_minuteBehind_6 9 rfl rfl
theorem dX1_minuteBehind_106 : decode cX1_minuteBehind 106 = .ok (.ireturn, 1) := fq_172 fk_cX1_minuteBehind_6 10 rfl rfl
theorem dX1_minuteBehind_44 : decode cX1_minuteBehind 44 = .ok (.iload 5, 2) := fq_21 fk_cX1_minuteBehind_2 12 rfl rfl rfl
theorem dX1_minuteBehind_46 : decode cX1_minuteBehind 46 = .ok (.bipush 7, 2) := fq_16 fk_cX1_minuteBehind_2 14 rfl rfl rfl rfl
theorem fk_cX1_minuteBehind_3 : fq_ck cX1_minuteBehind 48 [162, 0, 44, 21, 4, 27, 21, 5, 122, 4, 126, 153, 0, 23, 42, 180, 0, 40] := fq_of fW_cX1_minuteBehind 3 rfl rfl
theorem dX1_minuteBehind_48 : decode cX1_minuteBehind 48 = .ok (.if_icmp .ge 44, 3) := fq_162 fk_cX1_minuteBehind_3 0 rfl rfl rfl rfl rfl
theorem dX1_minuteBehind_51 : decode cX1_minuteBehind 51 = .ok (.iload 4, 2) := fq_21 fk_cX1_minuteBehind_3 3 rfl rfl rfl
theorem dX1_minuteBehind_53 : decode cX1_minuteBehind 53 = .ok (.iload_n 1, 1) := fq_27 fk_cX1_minuteBehind_3 5 rfl rfl
theorem dX1_minuteBehind_54 : decode cX1_minuteBehind 54 = .ok (.iload 5, 2) := fq_21 fk_cX1_minuteBehind_3 6 rfl rfl rfl
theorem dX1_minuteBehind_56 : decode cX1_minuteBehind 56 = .ok (.ishr, 1) := fq_122 fk_cX1_minuteBehind_3 8 rfl rfl
theorem dX1_minuteBehind_57 : decode cX1_minuteBehind 57 = .ok (.iconst 1, 1) := fq_4 fk_cX1_minuteBehind_3 9 rfl rfl
theorem dX1_minuteBehind_58 : decode cX1_minuteBehind 58 = .ok (.iand, 1) := fq_126 fk_cX1_minuteBehind_3 10 rfl rfl
theorem dX1_minuteBehind_59 : decode cX1_minuteBehind 59 = .ok (.ifCond .eq 23, 3) := fq_153 fk_cX1_minuteBehind_3 11 rfl rfl rfl rfl rfl
theorem dX1_minuteBehind_82 : decode cX1_minuteBehind 82 = .ok (.iconst 0, 1) := fq_3 fk_cX1_minuteBehind_5 2 rfl rfl
theorem dX1_minuteBehind_83 : decode cX1_minuteBehind 83 = .ok (.iadd, 1) := fq_96 fk_cX1_minuteBehind_5 3 rfl rfl
theorem dX1_minuteBehind_84 : decode cX1_minuteBehind 84 = .ok (.istore 4, 2) := fq_54 fk_cX1_minuteBehind_5 4 rfl rfl rfl
theorem dX1_minuteBehind_86 : decode cX1_minuteBehind 86 = .ok (.iinc 5 1, 3) := fq_132 fk_cX1_minuteBehind_5 6 rfl rfl rfl rfl rfl
theorem dX1_minuteBehind_89 : decode cX1_minuteBehind 89 = .ok (.goto (-45), 3) := fq_167 fk_cX1_minuteBehind_5 9 rfl rfl rfl rfl rfl
theorem dX1_minuteBehind_62 : decode cX1_minuteBehind 62 = .ok (.aload_n 0, 1) := fq_42 fk_cX1_minuteBehind_3 14 rfl rfl
theorem dX1_minuteBehind_63 : decode cX1_minuteBehind 63 = .ok (.getfield 40, 3) := fq_180 fk_cX1_minuteBehind_3 15 rfl rfl rfl rfl rfl
theorem wd_317 : Cond.fieldLink RX1 86 "QuarrelBridges$Town" "upTo" "[I" ∈ BG := BG_at1 89 (by decide +kernel) rfl
theorem fk_cX1_minuteBehind_4 : fq_ck cX1_minuteBehind 64 [0, 40, 180, 0, 86, 21, 5, 184, 0, 65, 29, 161, 0, 7, 4, 167, 0, 4] := fq_of fW_cX1_minuteBehind 4 rfl rfl
theorem dX1_minuteBehind_66 : decode cX1_minuteBehind 66 = .ok (.getfield 86, 3) := fq_180 fk_cX1_minuteBehind_4 2 rfl rfl rfl rfl rfl
theorem dX1_minuteBehind_69 : decode cX1_minuteBehind 69 = .ok (.iload 5, 2) := fq_21 fk_cX1_minuteBehind_4 5 rfl rfl rfl
theorem dX1_minuteBehind_71 : decode cX1_minuteBehind 71 = .ok (.invokestatic 65, 3) := fq_184 fk_cX1_minuteBehind_4 7 rfl rfl rfl rfl rfl
theorem dX1_minuteBehind_74 : decode cX1_minuteBehind 74 = .ok (.iload_n 3, 1) := fq_29 fk_cX1_minuteBehind_4 10 rfl rfl
theorem dX1_minuteBehind_75 : decode cX1_minuteBehind 75 = .ok (.if_icmp .lt 7, 3) := fq_161 fk_cX1_minuteBehind_4 11 rfl rfl rfl rfl rfl
theorem dX1_minuteBehind_78 : decode cX1_minuteBehind 78 = .ok (.iconst 1, 1) := fq_4 fk_cX1_minuteBehind_4 14 rfl rfl
theorem dX1_minuteBehind_79 : decode cX1_minuteBehind 79 = .ok (.goto 4, 3) := fq_167 fk_cX1_minuteBehind_4 15 rfl rfl rfl rfl rfl
theorem dX1_minuteBehind_18 : decode cX1_minuteBehind 18 = .ok (.iconst (-1), 1) := fq_2 fk_cX1_minuteBehind_1 2 rfl rfl
theorem dX1_minuteBehind_19 : decode cX1_minuteBehind 19 = .ok (.ireturn, 1) := fq_172 fk_cX1_minuteBehind_1 3 rfl rfl
def fw_cX1_weigh : List (List Nat) := [[27, 4, 28, 120, 128, 62, 42, 180, 0, 25, 29, 184, 0, 65, 54, 4, 42, 180], [42, 180, 0, 40, 198, 0, 14, 29, 27, 159, 0, 9, 21, 4, 2, 160, 0, 4], [0, 4, 177, 42, 180, 0, 28, 29, 184, 0, 65, 21, 4, 42, 180, 0, 40, 180], [40, 180, 0, 89, 28, 184, 0, 65, 163, 0, 7, 4, 167, 0, 4, 3, 96, 54], [96, 54, 5, 21, 5, 42, 180, 0, 28, 27, 184, 0, 65, 164, 0, 22, 42, 180], [42, 180, 0, 28, 27, 21, 5, 184, 0, 69, 42, 180, 0, 31, 27, 28, 184, 0], [184, 0, 69, 177]]
theorem fW_cX1_weigh : fq_wins 7 cX1_weigh.data.toList = fw_cX1_weigh := by decide +kernel
theorem fk_cX1_weigh_0 : fq_ck cX1_weigh 0 [27, 4, 28, 120, 128, 62, 42, 180, 0, 25, 29, 184, 0, 65, 54, 4, 42, 180] := fq_of fW_cX1_weigh 0 rfl rfl
theorem dX1_weigh_0 : decode cX1_weigh 0 = .ok (.iload_n 1, 1) := fq_27 fk_cX1_weigh_0 0 rfl rfl
theorem dX1_weigh_1 : decode cX1_weigh 1 = .ok (.iconst 1, 1) := fq_4 fk_cX1_weigh_0 1 rfl rfl
theorem dX1_weigh_2 : decode cX1_weigh 2 = .ok (.iload_n 2, 1) := fq_28 fk_cX1_weigh_0 2 rfl rfl
theorem dX1_weigh_3 : decode cX1_weigh 3 = .ok (.ishl, 1) := fq_120 fk_cX1_weigh_0 3 rfl rfl
theorem dX1_weigh_4 : decode cX1_weigh 4 = .ok (.ior, 1) := fq_128 fk_cX1_weigh_0 4 rfl rfl
theorem dX1_weigh_5 : decode cX1_weigh 5 = .ok (.istore_n 3, 1) := fq_62 fk_cX1_weigh_0 5 rfl rfl
theorem dX1_weigh_6 : decode cX1_weigh 6 = .ok (.aload_n 0, 1) := fq_42 fk_cX1_weigh_0 6 rfl rfl
theorem dX1_weigh_7 : decode cX1_weigh 7 = .ok (.getfield 25, 3) := fq_180 fk_cX1_weigh_0 7 rfl rfl rfl rfl rfl
theorem dX1_weigh_10 : decode cX1_weigh 10 = .ok (.iload_n 3, 1) := fq_29 fk_cX1_weigh_0 10 rfl rfl
theorem dX1_weigh_11 : decode cX1_weigh 11 = .ok (.invokestatic 65, 3) := fq_184 fk_cX1_weigh_0 11 rfl rfl rfl rfl rfl
theorem dX1_weigh_14 : decode cX1_weigh 14 = .ok (.istore 4, 2) := fq_54 fk_cX1_weigh_0 14 rfl rfl rfl
theorem fk_cX1_weigh_1 : fq_ck cX1_weigh 16 [42, 180, 0, 40, 198, 0, 14, 29, 27, 159, 0, 9, 21, 4, 2, 160, 0, 4] := fq_of fW_cX1_weigh 1 rfl rfl
theorem dX1_weigh_16 : decode cX1_weigh 16 = .ok (.aload_n 0, 1) := fq_42 fk_cX1_weigh_1 0 rfl rfl
theorem dX1_weigh_17 : decode cX1_weigh 17 = .ok (.getfield 40, 3) := fq_180 fk_cX1_weigh_1 1 rfl rfl rfl rfl rfl
theorem dX1_weigh_20 : decode cX1_weigh 20 = .ok (.ifnull 14, 3) := fq_198 fk_cX1_weigh_1 4 rfl rfl rfl rfl rfl
theorem dX1_weigh_23 : decode cX1_weigh 23 = .ok (.iload_n 3, 1) := fq_29 fk_cX1_weigh_1 7 rfl rfl
theorem dX1_weigh_24 : decode cX1_weigh 24 = .ok (.iload_n 1, 1) := fq_27 fk_cX1_weigh_1 8 rfl rfl
theorem dX1_weigh_25 : decode cX1_weigh 25 = .ok (.if_icmp .eq 9, 3) := fq_159 fk_cX1_weigh_1 9 rfl rfl rfl rfl rfl
theorem fk_cX1_weigh_2 : fq_ck cX1_weigh 32 [0, 4, 177, 42, 180, 0, 28, 29, 184, 0, 65, 21, 4, 42, 180, 0, 40, 180] := fq_of fW_cX1_weigh 2 rfl rfl
theorem dX1_weigh_34 : decode cX1_weigh 34 = .ok (.return_, 1) := fq_177 fk_cX1_weigh_2 2 rfl rfl
theorem dX1_weigh_28 : decode cX1_weigh 28 = .ok (.iload 4, 2) := fq_21 fk_cX1_weigh_1 12 rfl rfl rfl
theorem dX1_weigh_30 : decode cX1_weigh 30 = .ok (.iconst (-1), 1) := fq_2 fk_cX1_weigh_1 14 rfl rfl
theorem dX1_weigh_31 : decode cX1_weigh 31 = .ok (.if_icmp .ne 4, 3) := fq_160 fk_cX1_weigh_1 15 rfl rfl rfl rfl rfl
theorem dX1_weigh_35 : decode cX1_weigh 35 = .ok (.aload_n 0, 1) := fq_42 fk_cX1_weigh_2 3 rfl rfl
theorem dX1_weigh_36 : decode cX1_weigh 36 = .ok (.getfield 28, 3) := fq_180 fk_cX1_weigh_2 4 rfl rfl rfl rfl rfl
theorem dX1_weigh_39 : decode cX1_weigh 39 = .ok (.iload_n 3, 1) := fq_29 fk_cX1_weigh_2 7 rfl rfl
theorem dX1_weigh_40 : decode cX1_weigh 40 = .ok (.invokestatic 65, 3) := fq_184 fk_cX1_weigh_2 8 rfl rfl rfl rfl rfl
theorem dX1_weigh_43 : decode cX1_weigh 43 = .ok (.iload 4, 2) := fq_21 fk_cX1_weigh_2 11 rfl rfl rfl
theorem dX1_weigh_45 : decode cX1_weigh 45 = .ok (.aload_n 0, 1) := fq_42 fk_cX1_weigh_2 13 rfl rfl
theorem dX1_weigh_46 : decode cX1_weigh 46 = .ok (.getfield 40, 3) := fq_180 fk_cX1_weigh_2 14 rfl rfl rfl rfl rfl
theorem wd_318 : Cond.fieldLink RX1 89 "QuarrelBridges$Town" "tides" "[I" ∈ BG := BG_at1 93 (by decide +kernel) rfl
theorem fk_cX1_weigh_3 : fq_ck cX1_weigh 48 [40, 180, 0, 89, 28, 184, 0, 65, 163, 0, 7, 4, 167, 0, 4, 3, 96, 54] := fq_of fW_cX1_weigh 3 rfl rfl
theorem dX1_weigh_49 : decode cX1_weigh 49 = .ok (.getfield 89, 3) := fq_180 fk_cX1_weigh_3 1 rfl rfl rfl rfl rfl
theorem dX1_weigh_52 : decode cX1_weigh 52 = .ok (.iload_n 2, 1) := fq_28 fk_cX1_weigh_3 4 rfl rfl
theorem dX1_weigh_53 : decode cX1_weigh 53 = .ok (.invokestatic 65, 3) := fq_184 fk_cX1_weigh_3 5 rfl rfl rfl rfl rfl
theorem dX1_weigh_56 : decode cX1_weigh 56 = .ok (.if_icmp .gt 7, 3) := fq_163 fk_cX1_weigh_3 8 rfl rfl rfl rfl rfl
theorem dX1_weigh_63 : decode cX1_weigh 63 = .ok (.iconst 0, 1) := fq_3 fk_cX1_weigh_3 15 rfl rfl
theorem fk_cX1_weigh_4 : fq_ck cX1_weigh 64 [96, 54, 5, 21, 5, 42, 180, 0, 28, 27, 184, 0, 65, 164, 0, 22, 42, 180] := fq_of fW_cX1_weigh 4 rfl rfl
theorem dX1_weigh_64 : decode cX1_weigh 64 = .ok (.iadd, 1) := fq_96 fk_cX1_weigh_4 0 rfl rfl
theorem dX1_weigh_65 : decode cX1_weigh 65 = .ok (.istore 5, 2) := fq_54 fk_cX1_weigh_4 1 rfl rfl rfl
theorem dX1_weigh_67 : decode cX1_weigh 67 = .ok (.iload 5, 2) := fq_21 fk_cX1_weigh_4 3 rfl rfl rfl
theorem dX1_weigh_69 : decode cX1_weigh 69 = .ok (.aload_n 0, 1) := fq_42 fk_cX1_weigh_4 5 rfl rfl
theorem dX1_weigh_70 : decode cX1_weigh 70 = .ok (.getfield 28, 3) := fq_180 fk_cX1_weigh_4 6 rfl rfl rfl rfl rfl
theorem dX1_weigh_73 : decode cX1_weigh 73 = .ok (.iload_n 1, 1) := fq_27 fk_cX1_weigh_4 9 rfl rfl
theorem dX1_weigh_74 : decode cX1_weigh 74 = .ok (.invokestatic 65, 3) := fq_184 fk_cX1_weigh_4 10 rfl rfl rfl rfl rfl
theorem dX1_weigh_77 : decode cX1_weigh 77 = .ok (.if_icmp .le 22, 3) := fq_164 fk_cX1_weigh_4 13 rfl rfl rfl rfl rfl
theorem fk_cX1_weigh_6 : fq_ck cX1_weigh 96 [184, 0, 69, 177] := fq_of fW_cX1_weigh 6 rfl rfl
theorem dX1_weigh_99 : decode cX1_weigh 99 = .ok (.return_, 1) := fq_177 fk_cX1_weigh_6 3 rfl rfl
theorem fk_cX1_weigh_5 : fq_ck cX1_weigh 80 [42, 180, 0, 28, 27, 21, 5, 184, 0, 69, 42, 180, 0, 31, 27, 28, 184, 0] := fq_of fW_cX1_weigh 5 rfl rfl
theorem dX1_weigh_80 : decode cX1_weigh 80 = .ok (.aload_n 0, 1) := fq_42 fk_cX1_weigh_5 0 rfl rfl
theorem dX1_weigh_81 : decode cX1_weigh 81 = .ok (.getfield 28, 3) := fq_180 fk_cX1_weigh_5 1 rfl rfl rfl rfl rfl
theorem dX1_weigh_84 : decode cX1_weigh 84 = .ok (.iload_n 1, 1) := fq_27 fk_cX1_weigh_5 4 rfl rfl
theorem dX1_weigh_85 : decode cX1_weigh 85 = .ok (.iload 5, 2) := fq_21 fk_cX1_weigh_5 5 rfl rfl rfl
theorem dX1_weigh_87 : decode cX1_weigh 87 = .ok (.invokestatic 69, 3) := fq_184 fk_cX1_weigh_5 7 rfl rfl rfl rfl rfl
theorem dX1_weigh_90 : decode cX1_weigh 90 = .ok (.aload_n 0, 1) := fq_42 fk_cX1_weigh_5 10 rfl rfl
theorem dX1_weigh_91 : decode cX1_weigh 91 = .ok (.getfield 31, 3) := fq_180 fk_cX1_weigh_5 11 rfl rfl rfl rfl rfl
theorem dX1_weigh_94 : decode cX1_weigh 94 = .ok (.iload_n 1, 1) := fq_27 fk_cX1_weigh_5 14 rfl rfl
theorem dX1_weigh_95 : decode cX1_weigh 95 = .ok (.iload_n 2, 1) := fq_28 fk_cX1_weigh_5 15 rfl rfl
theorem dX1_weigh_96 : decode cX1_weigh 96 = .ok (.invokestatic 69, 3) := fq_184 fk_cX1_weigh_6 0 rfl rfl rfl rfl rfl
theorem dX1_weigh_59 : decode cX1_weigh 59 = .ok (.iconst 1, 1) := fq_4 fk_cX1_weigh_3 11 rfl rfl
theorem dX1_weigh_60 : decode cX1_weigh 60 = .ok (.goto 4, 3) := fq_167 fk_cX1_weigh_3 12 rfl rfl rfl rfl rfl
def fw_cX1_layOutRow : List (List Nat) := [[3, 60, 42, 3, 181, 0, 9, 3, 61, 28, 16, 7, 162, 0, 58, 42, 180, 0], [180, 0, 31, 27, 184, 0, 65, 2, 159, 0, 46, 42, 180, 0, 31, 27, 184, 0], [184, 0, 65, 62, 42, 180, 0, 15, 42, 180, 0, 9, 29, 184, 0, 69, 42, 89], [42, 89, 180, 0, 9, 4, 96, 181, 0, 9, 27, 4, 29, 120, 128, 60, 132, 2], [132, 2, 1, 167, 255, 198, 177]]
theorem fW_cX1_layOutRow : fq_wins 5 cX1_layOutRow.data.toList = fw_cX1_layOutRow := by decide +kernel
theorem fk_cX1_layOutRow_0 : fq_ck cX1_layOutRow 0 [3, 60, 42, 3, 181, 0, 9, 3, 61, 28, 16, 7, 162, 0, 58, 42, 180, 0] := fq_of fW_cX1_layOutRow 0 rfl rfl
theorem dX1_layOutRow_0 : decode cX1_layOutRow 0 = .ok (.iconst 0, 1) := fq_3 fk_cX1_layOutRow_0 0 rfl rfl
theorem dX1_layOutRow_1 : decode cX1_layOutRow 1 = .ok (.istore_n 1, 1) := fq_60 fk_cX1_layOutRow_0 1 rfl rfl
theorem dX1_layOutRow_2 : decode cX1_layOutRow 2 = .ok (.aload_n 0, 1) := fq_42 fk_cX1_layOutRow_0 2 rfl rfl
theorem dX1_layOutRow_3 : decode cX1_layOutRow 3 = .ok (.iconst 0, 1) := fq_3 fk_cX1_layOutRow_0 3 rfl rfl
theorem dX1_layOutRow_4 : decode cX1_layOutRow 4 = .ok (.putfield 9, 3) := fq_181 fk_cX1_layOutRow_0 4 rfl rfl rfl rfl rfl
theorem dX1_layOutRow_7 : decode cX1_layOutRow 7 = .ok (.iconst 0, 1) := fq_3 fk_cX1_layOutRow_0 7 rfl rfl
theorem dX1_layOutRow_8 : decode cX1_layOutRow 8 = .ok (.istore_n 2, 1) := fq_61 fk_cX1_layOutRow_0 8 rfl rfl
theorem fk_cX1_layOutRow_4 : fq_ck cX1_layOutRow 64 [132, 2, 1, 167, 255, 198, 177] := fq_of fW_cX1_layOutRow 4 rfl rfl
theorem dX1_layOutRow_70 : decode cX1_layOutRow 70 = .ok (.return_, 1) := fq_177 fk_cX1_layOutRow_4 6 rfl rfl
theorem dX1_layOutRow_9 : decode cX1_layOutRow 9 = .ok (.iload_n 2, 1) := fq_28 fk_cX1_layOutRow_0 9 rfl rfl
theorem dX1_layOutRow_10 : decode cX1_layOutRow 10 = .ok (.bipush 7, 2) := fq_16 fk_cX1_layOutRow_0 10 rfl rfl rfl rfl
theorem dX1_layOutRow_12 : decode cX1_layOutRow 12 = .ok (.if_icmp .ge 58, 3) := fq_162 fk_cX1_layOutRow_0 12 rfl rfl rfl rfl rfl
theorem dX1_layOutRow_15 : decode cX1_layOutRow 15 = .ok (.aload_n 0, 1) := fq_42 fk_cX1_layOutRow_0 15 rfl rfl
theorem fk_cX1_layOutRow_1 : fq_ck cX1_layOutRow 16 [180, 0, 31, 27, 184, 0, 65, 2, 159, 0, 46, 42, 180, 0, 31, 27, 184, 0] := fq_of fW_cX1_layOutRow 1 rfl rfl
theorem dX1_layOutRow_16 : decode cX1_layOutRow 16 = .ok (.getfield 31, 3) := fq_180 fk_cX1_layOutRow_1 0 rfl rfl rfl rfl rfl
theorem dX1_layOutRow_19 : decode cX1_layOutRow 19 = .ok (.iload_n 1, 1) := fq_27 fk_cX1_layOutRow_1 3 rfl rfl
theorem dX1_layOutRow_20 : decode cX1_layOutRow 20 = .ok (.invokestatic 65, 3) := fq_184 fk_cX1_layOutRow_1 4 rfl rfl rfl rfl rfl
theorem dX1_layOutRow_23 : decode cX1_layOutRow 23 = .ok (.iconst (-1), 1) := fq_2 fk_cX1_layOutRow_1 7 rfl rfl
theorem dX1_layOutRow_24 : decode cX1_layOutRow 24 = .ok (.if_icmp .eq 46, 3) := fq_159 fk_cX1_layOutRow_1 8 rfl rfl rfl rfl rfl
theorem dX1_layOutRow_27 : decode cX1_layOutRow 27 = .ok (.aload_n 0, 1) := fq_42 fk_cX1_layOutRow_1 11 rfl rfl
theorem dX1_layOutRow_28 : decode cX1_layOutRow 28 = .ok (.getfield 31, 3) := fq_180 fk_cX1_layOutRow_1 12 rfl rfl rfl rfl rfl
theorem dX1_layOutRow_31 : decode cX1_layOutRow 31 = .ok (.iload_n 1, 1) := fq_27 fk_cX1_layOutRow_1 15 rfl rfl
theorem fk_cX1_layOutRow_2 : fq_ck cX1_layOutRow 32 [184, 0, 65, 62, 42, 180, 0, 15, 42, 180, 0, 9, 29, 184, 0, 69, 42, 89] := fq_of fW_cX1_layOutRow 2 rfl rfl
theorem dX1_layOutRow_32 : decode cX1_layOutRow 32 = .ok (.invokestatic 65, 3) := fq_184 fk_cX1_layOutRow_2 0 rfl rfl rfl rfl rfl
theorem dX1_layOutRow_35 : decode cX1_layOutRow 35 = .ok (.istore_n 3, 1) := fq_62 fk_cX1_layOutRow_2 3 rfl rfl
theorem dX1_layOutRow_36 : decode cX1_layOutRow 36 = .ok (.aload_n 0, 1) := fq_42 fk_cX1_layOutRow_2 4 rfl rfl
theorem dX1_layOutRow_37 : decode cX1_layOutRow 37 = .ok (.getfield 15, 3) := fq_180 fk_cX1_layOutRow_2 5 rfl rfl rfl rfl rfl
theorem dX1_layOutRow_40 : decode cX1_layOutRow 40 = .ok (.aload_n 0, 1) := fq_42 fk_cX1_layOutRow_2 8 rfl rfl
theorem dX1_layOutRow_41 : decode cX1_layOutRow 41 = .ok (.getfield 9, 3) := fq_180 fk_cX1_layOutRow_2 9 rfl rfl rfl rfl rfl
theorem dX1_layOutRow_44 : decode cX1_layOutRow 44 = .ok (.iload_n 3, 1) := fq_29 fk_cX1_layOutRow_2 12 rfl rfl
theorem dX1_layOutRow_45 : decode cX1_layOutRow 45 = .ok (.invokestatic 69, 3) := fq_184 fk_cX1_layOutRow_2 13 rfl rfl rfl rfl rfl
theorem fk_cX1_layOutRow_3 : fq_ck cX1_layOutRow 48 [42, 89, 180, 0, 9, 4, 96, 181, 0, 9, 27, 4, 29, 120, 128, 60, 132, 2] := fq_of fW_cX1_layOutRow 3 rfl rfl
theorem dX1_layOutRow_48 : decode cX1_layOutRow 48 = .ok (.aload_n 0, 1) := fq_42 fk_cX1_layOutRow_3 0 rfl rfl
theorem dX1_layOutRow_49 : decode cX1_layOutRow 49 = .ok (.dup, 1) := fq_89 fk_cX1_layOutRow_3 1 rfl rfl
theorem dX1_layOutRow_50 : decode cX1_layOutRow 50 = .ok (.getfield 9, 3) := fq_180 fk_cX1_layOutRow_3 2 rfl rfl rfl rfl rfl
theorem dX1_layOutRow_53 : decode cX1_layOutRow 53 = .ok (.iconst 1, 1) := fq_4 fk_cX1_layOutRow_3 5 rfl rfl
theorem dX1_layOutRow_54 : decode cX1_layOutRow 54 = .ok (.iadd, 1) := fq_96 fk_cX1_layOutRow_3 6 rfl rfl
theorem dX1_layOutRow_55 : decode cX1_layOutRow 55 = .ok (.putfield 9, 3) := fq_181 fk_cX1_layOutRow_3 7 rfl rfl rfl rfl rfl
theorem dX1_layOutRow_58 : decode cX1_layOutRow 58 = .ok (.iload_n 1, 1) := fq_27 fk_cX1_layOutRow_3 10 rfl rfl
theorem dX1_layOutRow_59 : decode cX1_layOutRow 59 = .ok (.iconst 1, 1) := fq_4 fk_cX1_layOutRow_3 11 rfl rfl
theorem dX1_layOutRow_60 : decode cX1_layOutRow 60 = .ok (.iload_n 3, 1) := fq_29 fk_cX1_layOutRow_3 12 rfl rfl
theorem dX1_layOutRow_61 : decode cX1_layOutRow 61 = .ok (.ishl, 1) := fq_120 fk_cX1_layOutRow_3 13 rfl rfl
theorem dX1_layOutRow_62 : decode cX1_layOutRow 62 = .ok (.ior, 1) := fq_128 fk_cX1_layOutRow_3 14 rfl rfl
theorem dX1_layOutRow_63 : decode cX1_layOutRow 63 = .ok (.istore_n 1, 1) := fq_60 fk_cX1_layOutRow_3 15 rfl rfl
theorem dX1_layOutRow_64 : decode cX1_layOutRow 64 = .ok (.iinc 2 1, 3) := fq_132 fk_cX1_layOutRow_4 0 rfl rfl rfl rfl rfl
theorem dX1_layOutRow_67 : decode cX1_layOutRow 67 = .ok (.goto (-58), 3) := fq_167 fk_cX1_layOutRow_4 3 rfl rfl rfl rfl rfl
def fw_cX1_solve : List (List Nat) := [[16, 127, 60, 27, 155, 0, 60, 42, 180, 0, 25, 27, 42, 27, 182, 0, 73, 184], [73, 184, 0, 69, 42, 180, 0, 28, 27, 3, 184, 0, 69, 42, 180, 0, 31, 27], [31, 27, 2, 184, 0, 69, 3, 61, 28, 16, 7, 162, 0, 15, 42, 27, 28, 182], [28, 182, 0, 76, 132, 2, 1, 167, 255, 241, 132, 1, 255, 167, 255, 198, 42, 182], [42, 182, 0, 80, 177]]
theorem fW_cX1_solve : fq_wins 5 cX1_solve.data.toList = fw_cX1_solve := by decide +kernel
theorem fk_cX1_solve_0 : fq_ck cX1_solve 0 [16, 127, 60, 27, 155, 0, 60, 42, 180, 0, 25, 27, 42, 27, 182, 0, 73, 184] := fq_of fW_cX1_solve 0 rfl rfl
theorem dX1_solve_0 : decode cX1_solve 0 = .ok (.bipush 127, 2) := fq_16 fk_cX1_solve_0 0 rfl rfl rfl rfl
theorem dX1_solve_2 : decode cX1_solve 2 = .ok (.istore_n 1, 1) := fq_60 fk_cX1_solve_0 2 rfl rfl
theorem fk_cX1_solve_4 : fq_ck cX1_solve 64 [42, 182, 0, 80, 177] := fq_of fW_cX1_solve 4 rfl rfl
theorem dX1_solve_64 : decode cX1_solve 64 = .ok (.aload_n 0, 1) := fq_42 fk_cX1_solve_4 0 rfl rfl
theorem dX1_solve_65 : decode cX1_solve 65 = .ok (.invokevirtual 80, 3) := fq_182 fk_cX1_solve_4 1 rfl rfl rfl rfl rfl
theorem wd_319 : Cond.methodLink RX1 80 yX1_layOutRow ∈ BG := BG_at3 210 (by decide +kernel) rfl
theorem wd_320 : Cond.code yX1_layOutRow cX1_layOutRow 4 none ∈ BG := BG_at3 213 rfl rfl
theorem wd_321 : Cond.instanceMethod yX1_layOutRow ∈ BG := BG_at3 212 (by decide +kernel) rfl
theorem wd_322 : Cond.selects RX1 yX1_layOutRow yX1_layOutRow ∈ BG := BG_in (by decide +kernel) rfl
theorem okV_X1_layOutRow : okV yX1_layOutRow cX1_layOutRow 4 none 0 := ⟨⟨wd_320, wd_129, by decide +kernel⟩, wd_321, wd_322⟩
theorem dX1_solve_68 : decode cX1_solve 68 = .ok (.return_, 1) := fq_177 fk_cX1_solve_4 4 rfl rfl
theorem dX1_solve_3 : decode cX1_solve 3 = .ok (.iload_n 1, 1) := fq_27 fk_cX1_solve_0 3 rfl rfl
theorem dX1_solve_4 : decode cX1_solve 4 = .ok (.ifCond .lt 60, 3) := fq_155 fk_cX1_solve_0 4 rfl rfl rfl rfl rfl
theorem dX1_solve_7 : decode cX1_solve 7 = .ok (.aload_n 0, 1) := fq_42 fk_cX1_solve_0 7 rfl rfl
theorem dX1_solve_8 : decode cX1_solve 8 = .ok (.getfield 25, 3) := fq_180 fk_cX1_solve_0 8 rfl rfl rfl rfl rfl
theorem dX1_solve_11 : decode cX1_solve 11 = .ok (.iload_n 1, 1) := fq_27 fk_cX1_solve_0 11 rfl rfl
theorem dX1_solve_12 : decode cX1_solve 12 = .ok (.aload_n 0, 1) := fq_42 fk_cX1_solve_0 12 rfl rfl
theorem dX1_solve_13 : decode cX1_solve 13 = .ok (.iload_n 1, 1) := fq_27 fk_cX1_solve_0 13 rfl rfl
theorem dX1_solve_14 : decode cX1_solve 14 = .ok (.invokevirtual 73, 3) := fq_182 fk_cX1_solve_0 14 rfl rfl rfl rfl rfl
theorem wd_323 : Cond.methodLink RX1 73 yX1_minuteBehind ∈ BG := BG_at3 202 (by decide +kernel) rfl
theorem wd_324 : Cond.code yX1_minuteBehind cX1_minuteBehind 6 (some .int) ∈ BG := BG_at3 205 rfl rfl
theorem wd_325 : Cond.instanceMethod yX1_minuteBehind ∈ BG := BG_at3 204 (by decide +kernel) rfl
theorem wd_326 : Cond.selects RX1 yX1_minuteBehind yX1_minuteBehind ∈ BG := BG_in (by decide +kernel) rfl
theorem okV_X1_minuteBehind : okV yX1_minuteBehind cX1_minuteBehind 6 (some .int) 1 := ⟨⟨wd_324, wd_129, by decide +kernel⟩, wd_325, wd_326⟩
theorem fk_cX1_solve_1 : fq_ck cX1_solve 16 [73, 184, 0, 69, 42, 180, 0, 28, 27, 3, 184, 0, 69, 42, 180, 0, 31, 27] := fq_of fW_cX1_solve 1 rfl rfl
theorem dX1_solve_17 : decode cX1_solve 17 = .ok (.invokestatic 69, 3) := fq_184 fk_cX1_solve_1 1 rfl rfl rfl rfl rfl
theorem dX1_solve_20 : decode cX1_solve 20 = .ok (.aload_n 0, 1) := fq_42 fk_cX1_solve_1 4 rfl rfl
theorem dX1_solve_21 : decode cX1_solve 21 = .ok (.getfield 28, 3) := fq_180 fk_cX1_solve_1 5 rfl rfl rfl rfl rfl
theorem dX1_solve_24 : decode cX1_solve 24 = .ok (.iload_n 1, 1) := fq_27 fk_cX1_solve_1 8 rfl rfl
theorem dX1_solve_25 : decode cX1_solve 25 = .ok (.iconst 0, 1) := fq_3 fk_cX1_solve_1 9 rfl rfl
theorem dX1_solve_26 : decode cX1_solve 26 = .ok (.invokestatic 69, 3) := fq_184 fk_cX1_solve_1 10 rfl rfl rfl rfl rfl
theorem dX1_solve_29 : decode cX1_solve 29 = .ok (.aload_n 0, 1) := fq_42 fk_cX1_solve_1 13 rfl rfl
theorem dX1_solve_30 : decode cX1_solve 30 = .ok (.getfield 31, 3) := fq_180 fk_cX1_solve_1 14 rfl rfl rfl rfl rfl
theorem fk_cX1_solve_2 : fq_ck cX1_solve 32 [31, 27, 2, 184, 0, 69, 3, 61, 28, 16, 7, 162, 0, 15, 42, 27, 28, 182] := fq_of fW_cX1_solve 2 rfl rfl
theorem dX1_solve_33 : decode cX1_solve 33 = .ok (.iload_n 1, 1) := fq_27 fk_cX1_solve_2 1 rfl rfl
theorem dX1_solve_34 : decode cX1_solve 34 = .ok (.iconst (-1), 1) := fq_2 fk_cX1_solve_2 2 rfl rfl
theorem dX1_solve_35 : decode cX1_solve 35 = .ok (.invokestatic 69, 3) := fq_184 fk_cX1_solve_2 3 rfl rfl rfl rfl rfl
theorem dX1_solve_38 : decode cX1_solve 38 = .ok (.iconst 0, 1) := fq_3 fk_cX1_solve_2 6 rfl rfl
theorem dX1_solve_39 : decode cX1_solve 39 = .ok (.istore_n 2, 1) := fq_61 fk_cX1_solve_2 7 rfl rfl
theorem fk_cX1_solve_3 : fq_ck cX1_solve 48 [28, 182, 0, 76, 132, 2, 1, 167, 255, 241, 132, 1, 255, 167, 255, 198, 42, 182] := fq_of fW_cX1_solve 3 rfl rfl
theorem dX1_solve_58 : decode cX1_solve 58 = .ok (.iinc 1 (-1), 3) := fq_132 fk_cX1_solve_3 10 rfl rfl rfl rfl rfl
theorem dX1_solve_61 : decode cX1_solve 61 = .ok (.goto (-58), 3) := fq_167 fk_cX1_solve_3 13 rfl rfl rfl rfl rfl
theorem dX1_solve_40 : decode cX1_solve 40 = .ok (.iload_n 2, 1) := fq_28 fk_cX1_solve_2 8 rfl rfl
theorem dX1_solve_41 : decode cX1_solve 41 = .ok (.bipush 7, 2) := fq_16 fk_cX1_solve_2 9 rfl rfl rfl rfl
theorem dX1_solve_43 : decode cX1_solve 43 = .ok (.if_icmp .ge 15, 3) := fq_162 fk_cX1_solve_2 11 rfl rfl rfl rfl rfl
theorem dX1_solve_46 : decode cX1_solve 46 = .ok (.aload_n 0, 1) := fq_42 fk_cX1_solve_2 14 rfl rfl
theorem dX1_solve_47 : decode cX1_solve 47 = .ok (.iload_n 1, 1) := fq_27 fk_cX1_solve_2 15 rfl rfl
theorem dX1_solve_48 : decode cX1_solve 48 = .ok (.iload_n 2, 1) := fq_28 fk_cX1_solve_3 0 rfl rfl
theorem dX1_solve_49 : decode cX1_solve 49 = .ok (.invokevirtual 76, 3) := fq_182 fk_cX1_solve_3 1 rfl rfl rfl rfl rfl
theorem wd_327 : Cond.methodLink RX1 76 yX1_weigh ∈ BG := BG_at3 206 (by decide +kernel) rfl
theorem wd_328 : Cond.code yX1_weigh cX1_weigh 6 none ∈ BG := BG_at3 209 rfl rfl
theorem wd_329 : Cond.instanceMethod yX1_weigh ∈ BG := BG_at3 208 (by decide +kernel) rfl
theorem wd_330 : Cond.selects RX1 yX1_weigh yX1_weigh ∈ BG := BG_in (by decide +kernel) rfl
theorem okV_X1_weigh : okV yX1_weigh cX1_weigh 6 none 2 := ⟨⟨wd_328, wd_129, by decide +kernel⟩, wd_329, wd_330⟩
theorem dX1_solve_52 : decode cX1_solve 52 = .ok (.iinc 2 1, 3) := fq_132 fk_cX1_solve_3 4 rfl rfl rfl rfl rfl
theorem dX1_solve_55 : decode cX1_solve 55 = .ok (.goto (-15), 3) := fq_167 fk_cX1_solve_3 7 rfl rfl rfl rfl rfl
def fw_cX3_ask : List (List Nat) := [[42, 180, 0, 9, 27, 16, 6, 104, 28, 96, 29, 184, 0, 21, 177]]
theorem fW_cX3_ask : fq_wins 1 cX3_ask.data.toList = fw_cX3_ask := by decide +kernel
theorem fk_cX3_ask_0 : fq_ck cX3_ask 0 [42, 180, 0, 9, 27, 16, 6, 104, 28, 96, 29, 184, 0, 21, 177] := fq_of fW_cX3_ask 0 rfl rfl
theorem dX3_ask_0 : decode cX3_ask 0 = .ok (.aload_n 0, 1) := fq_42 fk_cX3_ask_0 0 rfl rfl
theorem dX3_ask_1 : decode cX3_ask 1 = .ok (.getfield 9, 3) := fq_180 fk_cX3_ask_0 1 rfl rfl rfl rfl rfl
theorem dX3_ask_4 : decode cX3_ask 4 = .ok (.iload_n 1, 1) := fq_27 fk_cX3_ask_0 4 rfl rfl
theorem dX3_ask_5 : decode cX3_ask 5 = .ok (.bipush 6, 2) := fq_16 fk_cX3_ask_0 5 rfl rfl rfl rfl
theorem dX3_ask_7 : decode cX3_ask 7 = .ok (.imul, 1) := fq_104 fk_cX3_ask_0 7 rfl rfl
theorem dX3_ask_8 : decode cX3_ask 8 = .ok (.iload_n 2, 1) := fq_28 fk_cX3_ask_0 8 rfl rfl
theorem dX3_ask_9 : decode cX3_ask 9 = .ok (.iadd, 1) := fq_96 fk_cX3_ask_0 9 rfl rfl
theorem dX3_ask_10 : decode cX3_ask 10 = .ok (.iload_n 3, 1) := fq_29 fk_cX3_ask_0 10 rfl rfl
theorem dX3_ask_11 : decode cX3_ask 11 = .ok (.invokestatic 21, 3) := fq_184 fk_cX3_ask_0 11 rfl rfl rfl rfl rfl
theorem dX3_ask_14 : decode cX3_ask 14 = .ok (.return_, 1) := fq_177 fk_cX3_ask_0 14 rfl rfl
def fw_cX3_weigh : List (List Nat) := [[42, 180, 0, 9, 28, 16, 6, 104, 29, 96, 184, 0, 35, 54, 4, 42, 180, 0], [180, 0, 15, 27, 4, 29, 120, 128, 184, 0, 35, 54, 5, 27, 29, 122, 4, 126], [4, 126, 154, 0, 15, 21, 4, 2, 159, 0, 9, 21, 5, 2, 160, 0, 4, 177], [4, 177, 42, 180, 0, 15, 27, 184, 0, 35, 54, 6, 21, 6, 2, 159, 0, 13], [0, 13, 21, 4, 21, 5, 96, 21, 6, 162, 0, 25, 42, 180, 0, 15, 27, 21], [27, 21, 4, 21, 5, 96, 184, 0, 21, 42, 180, 0, 18, 27, 29, 184, 0, 21], [0, 21, 177]]
theorem fW_cX3_weigh : fq_wins 7 cX3_weigh.data.toList = fw_cX3_weigh := by decide +kernel
theorem fk_cX3_weigh_0 : fq_ck cX3_weigh 0 [42, 180, 0, 9, 28, 16, 6, 104, 29, 96, 184, 0, 35, 54, 4, 42, 180, 0] := fq_of fW_cX3_weigh 0 rfl rfl
theorem dX3_weigh_0 : decode cX3_weigh 0 = .ok (.aload_n 0, 1) := fq_42 fk_cX3_weigh_0 0 rfl rfl
theorem dX3_weigh_1 : decode cX3_weigh 1 = .ok (.getfield 9, 3) := fq_180 fk_cX3_weigh_0 1 rfl rfl rfl rfl rfl
theorem dX3_weigh_4 : decode cX3_weigh 4 = .ok (.iload_n 2, 1) := fq_28 fk_cX3_weigh_0 4 rfl rfl
theorem dX3_weigh_5 : decode cX3_weigh 5 = .ok (.bipush 6, 2) := fq_16 fk_cX3_weigh_0 5 rfl rfl rfl rfl
theorem dX3_weigh_7 : decode cX3_weigh 7 = .ok (.imul, 1) := fq_104 fk_cX3_weigh_0 7 rfl rfl
theorem dX3_weigh_8 : decode cX3_weigh 8 = .ok (.iload_n 3, 1) := fq_29 fk_cX3_weigh_0 8 rfl rfl
theorem dX3_weigh_9 : decode cX3_weigh 9 = .ok (.iadd, 1) := fq_96 fk_cX3_weigh_0 9 rfl rfl
theorem dX3_weigh_10 : decode cX3_weigh 10 = .ok (.invokestatic 35, 3) := fq_184 fk_cX3_weigh_0 10 rfl rfl rfl rfl rfl
theorem dX3_weigh_13 : decode cX3_weigh 13 = .ok (.istore 4, 2) := fq_54 fk_cX3_weigh_0 13 rfl rfl rfl
theorem dX3_weigh_15 : decode cX3_weigh 15 = .ok (.aload_n 0, 1) := fq_42 fk_cX3_weigh_0 15 rfl rfl
theorem fk_cX3_weigh_1 : fq_ck cX3_weigh 16 [180, 0, 15, 27, 4, 29, 120, 128, 184, 0, 35, 54, 5, 27, 29, 122, 4, 126] := fq_of fW_cX3_weigh 1 rfl rfl
theorem dX3_weigh_16 : decode cX3_weigh 16 = .ok (.getfield 15, 3) := fq_180 fk_cX3_weigh_1 0 rfl rfl rfl rfl rfl
theorem dX3_weigh_19 : decode cX3_weigh 19 = .ok (.iload_n 1, 1) := fq_27 fk_cX3_weigh_1 3 rfl rfl
theorem dX3_weigh_20 : decode cX3_weigh 20 = .ok (.iconst 1, 1) := fq_4 fk_cX3_weigh_1 4 rfl rfl
theorem dX3_weigh_21 : decode cX3_weigh 21 = .ok (.iload_n 3, 1) := fq_29 fk_cX3_weigh_1 5 rfl rfl
theorem dX3_weigh_22 : decode cX3_weigh 22 = .ok (.ishl, 1) := fq_120 fk_cX3_weigh_1 6 rfl rfl
theorem dX3_weigh_23 : decode cX3_weigh 23 = .ok (.ior, 1) := fq_128 fk_cX3_weigh_1 7 rfl rfl
theorem dX3_weigh_24 : decode cX3_weigh 24 = .ok (.invokestatic 35, 3) := fq_184 fk_cX3_weigh_1 8 rfl rfl rfl rfl rfl
theorem dX3_weigh_27 : decode cX3_weigh 27 = .ok (.istore 5, 2) := fq_54 fk_cX3_weigh_1 11 rfl rfl rfl
theorem dX3_weigh_29 : decode cX3_weigh 29 = .ok (.iload_n 1, 1) := fq_27 fk_cX3_weigh_1 13 rfl rfl
theorem dX3_weigh_30 : decode cX3_weigh 30 = .ok (.iload_n 3, 1) := fq_29 fk_cX3_weigh_1 14 rfl rfl
theorem dX3_weigh_31 : decode cX3_weigh 31 = .ok (.ishr, 1) := fq_122 fk_cX3_weigh_1 15 rfl rfl
theorem fk_cX3_weigh_2 : fq_ck cX3_weigh 32 [4, 126, 154, 0, 15, 21, 4, 2, 159, 0, 9, 21, 5, 2, 160, 0, 4, 177] := fq_of fW_cX3_weigh 2 rfl rfl
theorem dX3_weigh_32 : decode cX3_weigh 32 = .ok (.iconst 1, 1) := fq_4 fk_cX3_weigh_2 0 rfl rfl
theorem dX3_weigh_33 : decode cX3_weigh 33 = .ok (.iand, 1) := fq_126 fk_cX3_weigh_2 1 rfl rfl
theorem dX3_weigh_34 : decode cX3_weigh 34 = .ok (.ifCond .ne 15, 3) := fq_154 fk_cX3_weigh_2 2 rfl rfl rfl rfl rfl
theorem fk_cX3_weigh_3 : fq_ck cX3_weigh 48 [4, 177, 42, 180, 0, 15, 27, 184, 0, 35, 54, 6, 21, 6, 2, 159, 0, 13] := fq_of fW_cX3_weigh 3 rfl rfl
theorem dX3_weigh_49 : decode cX3_weigh 49 = .ok (.return_, 1) := fq_177 fk_cX3_weigh_3 1 rfl rfl
theorem dX3_weigh_37 : decode cX3_weigh 37 = .ok (.iload 4, 2) := fq_21 fk_cX3_weigh_2 5 rfl rfl rfl
theorem dX3_weigh_39 : decode cX3_weigh 39 = .ok (.iconst (-1), 1) := fq_2 fk_cX3_weigh_2 7 rfl rfl
theorem dX3_weigh_40 : decode cX3_weigh 40 = .ok (.if_icmp .eq 9, 3) := fq_159 fk_cX3_weigh_2 8 rfl rfl rfl rfl rfl
theorem dX3_weigh_43 : decode cX3_weigh 43 = .ok (.iload 5, 2) := fq_21 fk_cX3_weigh_2 11 rfl rfl rfl
theorem dX3_weigh_45 : decode cX3_weigh 45 = .ok (.iconst (-1), 1) := fq_2 fk_cX3_weigh_2 13 rfl rfl
theorem dX3_weigh_46 : decode cX3_weigh 46 = .ok (.if_icmp .ne 4, 3) := fq_160 fk_cX3_weigh_2 14 rfl rfl rfl rfl rfl
theorem dX3_weigh_50 : decode cX3_weigh 50 = .ok (.aload_n 0, 1) := fq_42 fk_cX3_weigh_3 2 rfl rfl
theorem dX3_weigh_51 : decode cX3_weigh 51 = .ok (.getfield 15, 3) := fq_180 fk_cX3_weigh_3 3 rfl rfl rfl rfl rfl
theorem dX3_weigh_54 : decode cX3_weigh 54 = .ok (.iload_n 1, 1) := fq_27 fk_cX3_weigh_3 6 rfl rfl
theorem dX3_weigh_55 : decode cX3_weigh 55 = .ok (.invokestatic 35, 3) := fq_184 fk_cX3_weigh_3 7 rfl rfl rfl rfl rfl
theorem dX3_weigh_58 : decode cX3_weigh 58 = .ok (.istore 6, 2) := fq_54 fk_cX3_weigh_3 10 rfl rfl rfl
theorem dX3_weigh_60 : decode cX3_weigh 60 = .ok (.iload 6, 2) := fq_21 fk_cX3_weigh_3 12 rfl rfl rfl
theorem dX3_weigh_62 : decode cX3_weigh 62 = .ok (.iconst (-1), 1) := fq_2 fk_cX3_weigh_3 14 rfl rfl
theorem dX3_weigh_63 : decode cX3_weigh 63 = .ok (.if_icmp .eq 13, 3) := fq_159 fk_cX3_weigh_3 15 rfl rfl rfl rfl rfl
theorem fk_cX3_weigh_4 : fq_ck cX3_weigh 64 [0, 13, 21, 4, 21, 5, 96, 21, 6, 162, 0, 25, 42, 180, 0, 15, 27, 21] := fq_of fW_cX3_weigh 4 rfl rfl
theorem dX3_weigh_76 : decode cX3_weigh 76 = .ok (.aload_n 0, 1) := fq_42 fk_cX3_weigh_4 12 rfl rfl
theorem dX3_weigh_77 : decode cX3_weigh 77 = .ok (.getfield 15, 3) := fq_180 fk_cX3_weigh_4 13 rfl rfl rfl rfl rfl
theorem fk_cX3_weigh_5 : fq_ck cX3_weigh 80 [27, 21, 4, 21, 5, 96, 184, 0, 21, 42, 180, 0, 18, 27, 29, 184, 0, 21] := fq_of fW_cX3_weigh 5 rfl rfl
theorem dX3_weigh_80 : decode cX3_weigh 80 = .ok (.iload_n 1, 1) := fq_27 fk_cX3_weigh_5 0 rfl rfl
theorem dX3_weigh_81 : decode cX3_weigh 81 = .ok (.iload 4, 2) := fq_21 fk_cX3_weigh_5 1 rfl rfl rfl
theorem dX3_weigh_83 : decode cX3_weigh 83 = .ok (.iload 5, 2) := fq_21 fk_cX3_weigh_5 3 rfl rfl rfl
theorem dX3_weigh_85 : decode cX3_weigh 85 = .ok (.iadd, 1) := fq_96 fk_cX3_weigh_5 5 rfl rfl
theorem dX3_weigh_86 : decode cX3_weigh 86 = .ok (.invokestatic 21, 3) := fq_184 fk_cX3_weigh_5 6 rfl rfl rfl rfl rfl
theorem dX3_weigh_89 : decode cX3_weigh 89 = .ok (.aload_n 0, 1) := fq_42 fk_cX3_weigh_5 9 rfl rfl
theorem dX3_weigh_90 : decode cX3_weigh 90 = .ok (.getfield 18, 3) := fq_180 fk_cX3_weigh_5 10 rfl rfl rfl rfl rfl
theorem dX3_weigh_93 : decode cX3_weigh 93 = .ok (.iload_n 1, 1) := fq_27 fk_cX3_weigh_5 13 rfl rfl
theorem dX3_weigh_94 : decode cX3_weigh 94 = .ok (.iload_n 3, 1) := fq_29 fk_cX3_weigh_5 14 rfl rfl
theorem dX3_weigh_95 : decode cX3_weigh 95 = .ok (.invokestatic 21, 3) := fq_184 fk_cX3_weigh_5 15 rfl rfl rfl rfl rfl
theorem fk_cX3_weigh_6 : fq_ck cX3_weigh 96 [0, 21, 177] := fq_of fW_cX3_weigh 6 rfl rfl
theorem dX3_weigh_98 : decode cX3_weigh 98 = .ok (.return_, 1) := fq_177 fk_cX3_weigh_6 2 rfl rfl
theorem dX3_weigh_66 : decode cX3_weigh 66 = .ok (.iload 4, 2) := fq_21 fk_cX3_weigh_4 2 rfl rfl rfl
theorem dX3_weigh_68 : decode cX3_weigh 68 = .ok (.iload 5, 2) := fq_21 fk_cX3_weigh_4 4 rfl rfl rfl
theorem dX3_weigh_70 : decode cX3_weigh 70 = .ok (.iadd, 1) := fq_96 fk_cX3_weigh_4 6 rfl rfl
theorem dX3_weigh_71 : decode cX3_weigh 71 = .ok (.iload 6, 2) := fq_21 fk_cX3_weigh_4 7 rfl rfl rfl
theorem dX3_weigh_73 : decode cX3_weigh 73 = .ok (.if_icmp .ge 25, 3) := fq_162 fk_cX3_weigh_4 9 rfl rfl rfl rfl rfl
def fw_cX3_solve : List (List Nat) := [[4, 28, 120, 4, 100, 62, 29, 155, 0, 73, 29, 184, 0, 25, 54, 4, 42, 180], [42, 180, 0, 18, 29, 2, 184, 0, 21, 42, 180, 0, 15, 29, 21, 4, 27, 164], [27, 164, 0, 7, 3, 167, 0, 4, 2, 184, 0, 21, 3, 54, 5, 21, 4, 27], [4, 27, 163, 0, 24, 21, 5, 28, 162, 0, 18, 42, 29, 21, 4, 21, 5, 182], [5, 182, 0, 31, 132, 5, 1, 167, 255, 232, 132, 3, 255, 167, 255, 185, 177], [177]]
theorem fW_cX3_solve : fq_wins 6 cX3_solve.data.toList = fw_cX3_solve := by decide +kernel
theorem fk_cX3_solve_0 : fq_ck cX3_solve 0 [4, 28, 120, 4, 100, 62, 29, 155, 0, 73, 29, 184, 0, 25, 54, 4, 42, 180] := fq_of fW_cX3_solve 0 rfl rfl
theorem dX3_solve_0 : decode cX3_solve 0 = .ok (.iconst 1, 1) := fq_4 fk_cX3_solve_0 0 rfl rfl
theorem dX3_solve_1 : decode cX3_solve 1 = .ok (.iload_n 2, 1) := fq_28 fk_cX3_solve_0 1 rfl rfl
theorem dX3_solve_2 : decode cX3_solve 2 = .ok (.ishl, 1) := fq_120 fk_cX3_solve_0 2 rfl rfl
theorem dX3_solve_3 : decode cX3_solve 3 = .ok (.iconst 1, 1) := fq_4 fk_cX3_solve_0 3 rfl rfl
theorem dX3_solve_4 : decode cX3_solve 4 = .ok (.isub, 1) := fq_100 fk_cX3_solve_0 4 rfl rfl
theorem dX3_solve_5 : decode cX3_solve 5 = .ok (.istore_n 3, 1) := fq_62 fk_cX3_solve_0 5 rfl rfl
theorem fk_cX3_solve_5 : fq_ck cX3_solve 80 [177] := fq_of fW_cX3_solve 5 rfl rfl
theorem dX3_solve_80 : decode cX3_solve 80 = .ok (.return_, 1) := fq_177 fk_cX3_solve_5 0 rfl rfl
theorem dX3_solve_6 : decode cX3_solve 6 = .ok (.iload_n 3, 1) := fq_29 fk_cX3_solve_0 6 rfl rfl
theorem dX3_solve_7 : decode cX3_solve 7 = .ok (.ifCond .lt 73, 3) := fq_155 fk_cX3_solve_0 7 rfl rfl rfl rfl rfl
theorem dX3_solve_10 : decode cX3_solve 10 = .ok (.iload_n 3, 1) := fq_29 fk_cX3_solve_0 10 rfl rfl
theorem dX3_solve_11 : decode cX3_solve 11 = .ok (.invokestatic 25, 3) := fq_184 fk_cX3_solve_0 11 rfl rfl rfl rfl rfl
theorem wd_331 : Cond.methodLink RX3 25 yJ6_bitCount_0f7a4 ∈ BG := BG_at3 158 (by decide +kernel) rfl
theorem wd_332 : Cond.code yJ6_bitCount_0f7a4 cJ6_bitCount_0f7a4 1 (some .int) ∈ BG := BG_at3 160 rfl rfl
theorem wd_333 : Cond.initialized RJ6 ∈ BG := BG_at1 15 (by decide +kernel) rfl
theorem wd_334 : Cond.static yJ6_bitCount_0f7a4 ∈ BG := BG_at3 159 (by decide +kernel) rfl
theorem okS_J6_bitCount_0f7a4 : okS yJ6_bitCount_0f7a4 cJ6_bitCount_0f7a4 1 (some .int) 1 := ⟨⟨wd_332, wd_333, by decide +kernel⟩, wd_334⟩
theorem dX3_solve_14 : decode cX3_solve 14 = .ok (.istore 4, 2) := fq_54 fk_cX3_solve_0 14 rfl rfl rfl
theorem fk_cX3_solve_1 : fq_ck cX3_solve 16 [42, 180, 0, 18, 29, 2, 184, 0, 21, 42, 180, 0, 15, 29, 21, 4, 27, 164] := fq_of fW_cX3_solve 1 rfl rfl
theorem dX3_solve_16 : decode cX3_solve 16 = .ok (.aload_n 0, 1) := fq_42 fk_cX3_solve_1 0 rfl rfl
theorem dX3_solve_17 : decode cX3_solve 17 = .ok (.getfield 18, 3) := fq_180 fk_cX3_solve_1 1 rfl rfl rfl rfl rfl
theorem dX3_solve_20 : decode cX3_solve 20 = .ok (.iload_n 3, 1) := fq_29 fk_cX3_solve_1 4 rfl rfl
theorem dX3_solve_21 : decode cX3_solve 21 = .ok (.iconst (-1), 1) := fq_2 fk_cX3_solve_1 5 rfl rfl
theorem dX3_solve_22 : decode cX3_solve 22 = .ok (.invokestatic 21, 3) := fq_184 fk_cX3_solve_1 6 rfl rfl rfl rfl rfl
theorem dX3_solve_25 : decode cX3_solve 25 = .ok (.aload_n 0, 1) := fq_42 fk_cX3_solve_1 9 rfl rfl
theorem dX3_solve_26 : decode cX3_solve 26 = .ok (.getfield 15, 3) := fq_180 fk_cX3_solve_1 10 rfl rfl rfl rfl rfl
theorem dX3_solve_29 : decode cX3_solve 29 = .ok (.iload_n 3, 1) := fq_29 fk_cX3_solve_1 13 rfl rfl
theorem dX3_solve_30 : decode cX3_solve 30 = .ok (.iload 4, 2) := fq_21 fk_cX3_solve_1 14 rfl rfl rfl
theorem fk_cX3_solve_2 : fq_ck cX3_solve 32 [27, 164, 0, 7, 3, 167, 0, 4, 2, 184, 0, 21, 3, 54, 5, 21, 4, 27] := fq_of fW_cX3_solve 2 rfl rfl
theorem dX3_solve_32 : decode cX3_solve 32 = .ok (.iload_n 1, 1) := fq_27 fk_cX3_solve_2 0 rfl rfl
theorem dX3_solve_33 : decode cX3_solve 33 = .ok (.if_icmp .le 7, 3) := fq_164 fk_cX3_solve_2 1 rfl rfl rfl rfl rfl
theorem dX3_solve_40 : decode cX3_solve 40 = .ok (.iconst (-1), 1) := fq_2 fk_cX3_solve_2 8 rfl rfl
theorem dX3_solve_41 : decode cX3_solve 41 = .ok (.invokestatic 21, 3) := fq_184 fk_cX3_solve_2 9 rfl rfl rfl rfl rfl
theorem dX3_solve_44 : decode cX3_solve 44 = .ok (.iconst 0, 1) := fq_3 fk_cX3_solve_2 12 rfl rfl
theorem dX3_solve_45 : decode cX3_solve 45 = .ok (.istore 5, 2) := fq_54 fk_cX3_solve_2 13 rfl rfl rfl
theorem fk_cX3_solve_4 : fq_ck cX3_solve 64 [5, 182, 0, 31, 132, 5, 1, 167, 255, 232, 132, 3, 255, 167, 255, 185, 177] := fq_of fW_cX3_solve 4 rfl rfl
theorem dX3_solve_74 : decode cX3_solve 74 = .ok (.iinc 3 (-1), 3) := fq_132 fk_cX3_solve_4 10 rfl rfl rfl rfl rfl
theorem dX3_solve_77 : decode cX3_solve 77 = .ok (.goto (-71), 3) := fq_167 fk_cX3_solve_4 13 rfl rfl rfl rfl rfl
theorem dX3_solve_47 : decode cX3_solve 47 = .ok (.iload 4, 2) := fq_21 fk_cX3_solve_2 15 rfl rfl rfl
theorem fk_cX3_solve_3 : fq_ck cX3_solve 48 [4, 27, 163, 0, 24, 21, 5, 28, 162, 0, 18, 42, 29, 21, 4, 21, 5, 182] := fq_of fW_cX3_solve 3 rfl rfl
theorem dX3_solve_49 : decode cX3_solve 49 = .ok (.iload_n 1, 1) := fq_27 fk_cX3_solve_3 1 rfl rfl
theorem dX3_solve_50 : decode cX3_solve 50 = .ok (.if_icmp .gt 24, 3) := fq_163 fk_cX3_solve_3 2 rfl rfl rfl rfl rfl
theorem dX3_solve_53 : decode cX3_solve 53 = .ok (.iload 5, 2) := fq_21 fk_cX3_solve_3 5 rfl rfl rfl
theorem dX3_solve_55 : decode cX3_solve 55 = .ok (.iload_n 2, 1) := fq_28 fk_cX3_solve_3 7 rfl rfl
theorem dX3_solve_56 : decode cX3_solve 56 = .ok (.if_icmp .ge 18, 3) := fq_162 fk_cX3_solve_3 8 rfl rfl rfl rfl rfl
theorem dX3_solve_59 : decode cX3_solve 59 = .ok (.aload_n 0, 1) := fq_42 fk_cX3_solve_3 11 rfl rfl
theorem dX3_solve_60 : decode cX3_solve 60 = .ok (.iload_n 3, 1) := fq_29 fk_cX3_solve_3 12 rfl rfl
theorem dX3_solve_61 : decode cX3_solve 61 = .ok (.iload 4, 2) := fq_21 fk_cX3_solve_3 13 rfl rfl rfl
theorem dX3_solve_63 : decode cX3_solve 63 = .ok (.iload 5, 2) := fq_21 fk_cX3_solve_3 15 rfl rfl rfl
theorem dX3_solve_65 : decode cX3_solve 65 = .ok (.invokevirtual 31, 3) := fq_182 fk_cX3_solve_4 1 rfl rfl rfl rfl rfl
theorem wd_335 : Cond.methodLink RX3 31 yX3_weigh ∈ BG := BG_at3 164 (by decide +kernel) rfl
theorem wd_336 : Cond.code yX3_weigh cX3_weigh 7 none ∈ BG := BG_at3 167 rfl rfl
theorem wd_337 : Cond.instanceMethod yX3_weigh ∈ BG := BG_at3 166 (by decide +kernel) rfl
theorem wd_338 : Cond.selects RX3 yX3_weigh yX3_weigh ∈ BG := BG_in (by decide +kernel) rfl
theorem okV_X3_weigh : okV yX3_weigh cX3_weigh 7 none 3 := ⟨⟨wd_336, wd_123, by decide +kernel⟩, wd_337, wd_338⟩
theorem dX3_solve_68 : decode cX3_solve 68 = .ok (.iinc 5 1, 3) := fq_132 fk_cX3_solve_4 4 rfl rfl rfl rfl rfl
theorem dX3_solve_71 : decode cX3_solve 71 = .ok (.goto (-24), 3) := fq_167 fk_cX3_solve_4 7 rfl rfl rfl rfl rfl
theorem dX3_solve_36 : decode cX3_solve 36 = .ok (.iconst 0, 1) := fq_3 fk_cX3_solve_2 4 rfl rfl
theorem dX3_solve_37 : decode cX3_solve 37 = .ok (.goto 4, 3) := fq_167 fk_cX3_solve_2 5 rfl rfl rfl rfl rfl
def fw_cX3_cost : List (List Nat) := [[42, 180, 0, 15, 3, 184, 0, 35, 172]]
theorem fW_cX3_cost : fq_wins 1 cX3_cost.data.toList = fw_cX3_cost := by decide +kernel
theorem fk_cX3_cost_0 : fq_ck cX3_cost 0 [42, 180, 0, 15, 3, 184, 0, 35, 172] := fq_of fW_cX3_cost 0 rfl rfl
theorem dX3_cost_0 : decode cX3_cost 0 = .ok (.aload_n 0, 1) := fq_42 fk_cX3_cost_0 0 rfl rfl
theorem dX3_cost_1 : decode cX3_cost 1 = .ok (.getfield 15, 3) := fq_180 fk_cX3_cost_0 1 rfl rfl rfl rfl rfl
theorem dX3_cost_4 : decode cX3_cost 4 = .ok (.iconst 0, 1) := fq_3 fk_cX3_cost_0 4 rfl rfl
theorem dX3_cost_5 : decode cX3_cost 5 = .ok (.invokestatic 35, 3) := fq_184 fk_cX3_cost_0 5 rfl rfl rfl rfl rfl
theorem dX3_cost_8 : decode cX3_cost 8 = .ok (.ireturn, 1) := fq_172 fk_cX3_cost_0 8 rfl rfl
def fw_cX3_coupleOf : List (List Nat) := [[3, 61, 42, 180, 0, 18, 3, 184, 0, 35, 62, 3, 54, 4, 21, 4, 27, 162], [27, 162, 0, 29, 29, 2, 159, 0, 24, 28, 4, 29, 120, 128, 61, 42, 180, 0], [180, 0, 18, 28, 184, 0, 35, 62, 132, 4, 1, 167, 255, 227, 29, 172]]
theorem fW_cX3_coupleOf : fq_wins 3 cX3_coupleOf.data.toList = fw_cX3_coupleOf := by decide +kernel
theorem fk_cX3_coupleOf_0 : fq_ck cX3_coupleOf 0 [3, 61, 42, 180, 0, 18, 3, 184, 0, 35, 62, 3, 54, 4, 21, 4, 27, 162] := fq_of fW_cX3_coupleOf 0 rfl rfl
theorem dX3_coupleOf_0 : decode cX3_coupleOf 0 = .ok (.iconst 0, 1) := fq_3 fk_cX3_coupleOf_0 0 rfl rfl
theorem dX3_coupleOf_1 : decode cX3_coupleOf 1 = .ok (.istore_n 2, 1) := fq_61 fk_cX3_coupleOf_0 1 rfl rfl
theorem dX3_coupleOf_2 : decode cX3_coupleOf 2 = .ok (.aload_n 0, 1) := fq_42 fk_cX3_coupleOf_0 2 rfl rfl
theorem dX3_coupleOf_3 : decode cX3_coupleOf 3 = .ok (.getfield 18, 3) := fq_180 fk_cX3_coupleOf_0 3 rfl rfl rfl rfl rfl
theorem dX3_coupleOf_6 : decode cX3_coupleOf 6 = .ok (.iconst 0, 1) := fq_3 fk_cX3_coupleOf_0 6 rfl rfl
theorem dX3_coupleOf_7 : decode cX3_coupleOf 7 = .ok (.invokestatic 35, 3) := fq_184 fk_cX3_coupleOf_0 7 rfl rfl rfl rfl rfl
theorem dX3_coupleOf_10 : decode cX3_coupleOf 10 = .ok (.istore_n 3, 1) := fq_62 fk_cX3_coupleOf_0 10 rfl rfl
theorem dX3_coupleOf_11 : decode cX3_coupleOf 11 = .ok (.iconst 0, 1) := fq_3 fk_cX3_coupleOf_0 11 rfl rfl
theorem dX3_coupleOf_12 : decode cX3_coupleOf 12 = .ok (.istore 4, 2) := fq_54 fk_cX3_coupleOf_0 12 rfl rfl rfl
theorem fk_cX3_coupleOf_2 : fq_ck cX3_coupleOf 32 [180, 0, 18, 28, 184, 0, 35, 62, 132, 4, 1, 167, 255, 227, 29, 172] := fq_of fW_cX3_coupleOf 2 rfl rfl
theorem dX3_coupleOf_46 : decode cX3_coupleOf 46 = .ok (.iload_n 3, 1) := fq_29 fk_cX3_coupleOf_2 14 rfl rfl
theorem dX3_coupleOf_47 : decode cX3_coupleOf 47 = .ok (.ireturn, 1) := fq_172 fk_cX3_coupleOf_2 15 rfl rfl
theorem dX3_coupleOf_14 : decode cX3_coupleOf 14 = .ok (.iload 4, 2) := fq_21 fk_cX3_coupleOf_0 14 rfl rfl rfl
theorem fk_cX3_coupleOf_1 : fq_ck cX3_coupleOf 16 [27, 162, 0, 29, 29, 2, 159, 0, 24, 28, 4, 29, 120, 128, 61, 42, 180, 0] := fq_of fW_cX3_coupleOf 1 rfl rfl
theorem dX3_coupleOf_16 : decode cX3_coupleOf 16 = .ok (.iload_n 1, 1) := fq_27 fk_cX3_coupleOf_1 0 rfl rfl
theorem dX3_coupleOf_17 : decode cX3_coupleOf 17 = .ok (.if_icmp .ge 29, 3) := fq_162 fk_cX3_coupleOf_1 1 rfl rfl rfl rfl rfl
theorem dX3_coupleOf_20 : decode cX3_coupleOf 20 = .ok (.iload_n 3, 1) := fq_29 fk_cX3_coupleOf_1 4 rfl rfl
theorem dX3_coupleOf_21 : decode cX3_coupleOf 21 = .ok (.iconst (-1), 1) := fq_2 fk_cX3_coupleOf_1 5 rfl rfl
theorem dX3_coupleOf_22 : decode cX3_coupleOf 22 = .ok (.if_icmp .eq 24, 3) := fq_159 fk_cX3_coupleOf_1 6 rfl rfl rfl rfl rfl
theorem dX3_coupleOf_25 : decode cX3_coupleOf 25 = .ok (.iload_n 2, 1) := fq_28 fk_cX3_coupleOf_1 9 rfl rfl
theorem dX3_coupleOf_26 : decode cX3_coupleOf 26 = .ok (.iconst 1, 1) := fq_4 fk_cX3_coupleOf_1 10 rfl rfl
theorem dX3_coupleOf_27 : decode cX3_coupleOf 27 = .ok (.iload_n 3, 1) := fq_29 fk_cX3_coupleOf_1 11 rfl rfl
theorem dX3_coupleOf_28 : decode cX3_coupleOf 28 = .ok (.ishl, 1) := fq_120 fk_cX3_coupleOf_1 12 rfl rfl
theorem dX3_coupleOf_29 : decode cX3_coupleOf 29 = .ok (.ior, 1) := fq_128 fk_cX3_coupleOf_1 13 rfl rfl
theorem dX3_coupleOf_30 : decode cX3_coupleOf 30 = .ok (.istore_n 2, 1) := fq_61 fk_cX3_coupleOf_1 14 rfl rfl
theorem dX3_coupleOf_31 : decode cX3_coupleOf 31 = .ok (.aload_n 0, 1) := fq_42 fk_cX3_coupleOf_1 15 rfl rfl
theorem dX3_coupleOf_32 : decode cX3_coupleOf 32 = .ok (.getfield 18, 3) := fq_180 fk_cX3_coupleOf_2 0 rfl rfl rfl rfl rfl
theorem dX3_coupleOf_35 : decode cX3_coupleOf 35 = .ok (.iload_n 2, 1) := fq_28 fk_cX3_coupleOf_2 3 rfl rfl
theorem dX3_coupleOf_36 : decode cX3_coupleOf 36 = .ok (.invokestatic 35, 3) := fq_184 fk_cX3_coupleOf_2 4 rfl rfl rfl rfl rfl
theorem dX3_coupleOf_39 : decode cX3_coupleOf 39 = .ok (.istore_n 3, 1) := fq_62 fk_cX3_coupleOf_2 7 rfl rfl
theorem dX3_coupleOf_40 : decode cX3_coupleOf 40 = .ok (.iinc 4 1, 3) := fq_132 fk_cX3_coupleOf_2 8 rfl rfl rfl rfl rfl
theorem dX3_coupleOf_43 : decode cX3_coupleOf 43 = .ok (.goto (-29), 3) := fq_167 fk_cX3_coupleOf_2 11 rfl rfl rfl rfl rfl
theorem run_b (k0 : Int32) (k1 : Int32) (k2 : Int32) (k3 : Int32) (k4 : Int32) (g_ : Int32) (f_ : Int32) (s_ : Int32) (n_ : Int32) : (f_e_run_x4 k0 k1 k2 k3 k4 g_ f_ s_ n_).2.2.2.1 = 0 ∨ (f_e_run_x4 k0 k1 k2 k3 k4 g_ f_ s_ n_).2.2.2.1 = 1 := by
  unfold f_e_run_x4
  repeat' split
  all_goals first | exact Or.inl rfl | exact Or.inr rfl
theorem att_b (q1 : Int32) (q2 : Int32) (q10 : Int32) (q12 : Int32) (k0 : Int32) (k1 : Int32) (k2 : Int32) (k3 : Int32) (k4 : Int32) (t0 : Int32) (t1 : Int32) (t2 : Int32) (t3 : Int32) (t4 : Int32) (fta : Nat → Int32) (ftc : Nat → Int32) (fn : Nat → Int32) (c_ : Int32) (b_ : Int32) (e_ : Int32) : (f_e_attempt_x9 q1 q2 q10 q12 k0 k1 k2 k3 k4 t0 t1 t2 t3 t4 fta ftc fn c_ b_ e_).2.2.2.1 = 0 ∨ (f_e_attempt_x9 q1 q2 q10 q12 k0 k1 k2 k3 k4 t0 t1 t2 t3 t4 fta ftc fn c_ b_ e_).2.2.2.1 = 1 := by
  unfold f_e_attempt_x9
  have h := run_b k0 k1 k2 k3 k4 (f_e_grievanceOf fn c_) (f_e_forceOf_x8 t0 t1 t2 t3 t4 ftc c_ e_) t4 (atF 6 fta b_)
  generalize f_e_run_x4 k0 k1 k2 k3 k4 (f_e_grievanceOf fn c_) (f_e_forceOf_x8 t0 t1 t2 t3 t4 ftc c_ e_) t4 (atF 6 fta b_) = p at h ⊢
  obtain ⟨o1, o2, o3, o4, o5⟩ := p
  exact h
theorem le_step {B i : Int32} {n : Nat} (hB : B.toInt < 2147483647) (c : ¬ B < i) (hm : (B.toInt + 1 - i.toInt).toNat < n + 1) : (B.toInt + 1 - (i + 1).toInt).toNat < n := by
  have h1 : i.toInt ≤ B.toInt := Int32.le_iff_toInt_le.mp (Int32.not_lt.mp c)
  have h3 := i.le_toInt
  have e : (i + 1).toInt = i.toInt + 1 := by
    rw [Int32.toInt_add]
    have e1 : (1 : Int32).toInt = 1 := rfl
    rw [e1]
    exact Int.bmod_eq_of_le (by omega) (by omega)
  rw [e]
  omega
noncomputable def f_e_swing_x9 (q1 : Int32) (q2 : Int32) (q10 : Int32) (q12 : Int32) (k0 : Int32) (k1 : Int32) (k2 : Int32) (k3 : Int32) (k4 : Int32) (t0 : Int32) (t1 : Int32) (t2 : Int32) (t3 : Int32) (t4 : Int32) (fta : Nat → Int32) (ftc : Nat → Int32) (fn : Nat → Int32) (b_ : Int32) : Int32 × Int32 × Int32 × Int32 × Int32 × Int32 × (Nat → Int32) := (if (f_e_coupleAt fn b_) = (-1) then (0, k0, k1, k2, k3, k4, fn) else (match (f_e_attempt_x9 q1 q2 q10 q12 k0 k1 k2 k3 k4 t0 t1 t2 t3 t4 fta ftc fn (f_e_coupleAt fn b_) b_ (f_e_themeOf fn (f_e_coupleAt fn b_))) with | (o_8, o_9, o_10, o_11, o_12) => (if o_12 = 0 then (o_11, o_8, o_9, o_10, o_11, o_12, (f_e_leave (f_e_spendMinutes fn o_8) (f_e_coupleAt fn b_) o_10)) else (o_11, o_8, o_9, o_10, o_11, o_12, (f_e_reconcile (f_e_leave (f_e_spendMinutes fn o_8) (f_e_coupleAt fn b_) o_10) (f_e_coupleAt fn b_))))))
def rm_e_swing_x9 : Room := { frames := 4, cells := 0, slots := 0, locals := 102 }
set_option maxHeartbeats 4000000 in
set_option maxRecDepth 100000 in
theorem e_swing_x9 {l : Launch} {D : va_G} {cI cZ : ClassId} {sz : Nat} (h x rd t d nw ps im is_ bk qr pr cv ft ta tb tc td te nwc : Nat) (q1 : Int32) (q2 : Int32) (q10 : Int32) (q12 : Int32) (k0 : Int32) (k1 : Int32) (k2 : Int32) (k3 : Int32) (k4 : Int32) (t0 : Int32) (t1 : Int32) (t2 : Int32) (t3 : Int32) (t4 : Int32) (fta : Nat → Int32) (ftc : Nat → Int32) (fn : Nat → Int32) (b_ : Int32) : KI l yX9_swing cX9_swing 3 (some .boolean) rm_e_swing_x9 D cI cZ [.ref h, .int b_] sz [(h, .inr (9, [.ref x, .int q1, .int q2, .ref rd, .ref t, .ref d, .ref nw, .ref ps, .ref im, .ref is_, .int q10, .ref bk, .int q12, .ref qr, .ref pr, .ref cv, .ref ft])), (qr, .inr (4, [.int k0, .int k1, .int k2, .int k3, .int k4])), (t, .inr (8, [.int t0, .int t1, .int t2, .int t3, .int t4, .ref ta, .ref tb, .ref tc, .ref td, .ref te])), (ta, .inl (cI, 6, .inl fta)), (tc, .inl (cI, 30, .inl ftc)), (nw, .inr (7, [.ref nwc])), (nwc, .inl (cI, 41, .inl fn))] (fun (r : Int32) (u : Int32 × Int32 × Int32 × Int32 × Int32 × (Nat → Int32)) => (r, u) = f_e_swing_x9 q1 q2 q10 q12 k0 k1 k2 k3 k4 t0 t1 t2 t3 t4 fta ftc fn b_) (fun (u : Int32 × Int32 × Int32 × Int32 × Int32 × (Nat → Int32)) => [(h, .inr (9, [.ref x, .int q1, .int q2, .ref rd, .ref t, .ref d, .ref nw, .ref ps, .ref im, .ref is_, .int q10, .ref bk, .int q12, .ref qr, .ref pr, .ref cv, .ref ft])), (qr, .inr (4, [.int (u.1), .int (u.2.1), .int (u.2.2.1), .int (u.2.2.2.1), .int (u.2.2.2.2.1)])), (t, .inr (8, [.int t0, .int t1, .int t2, .int t3, .int t4, .ref ta, .ref tb, .ref tc, .ref td, .ref te])), (ta, .inl (cI, 6, .inl fta)), (tc, .inl (cI, 30, .inl ftc)), (nw, .inr (7, [.ref nwc])), (nwc, .inl (cI, 41, .inl u.2.2.2.2.2))]) := by
  refine KI.go rfl (Nat.le_of_ble_eq_true rfl) ?_
  intro p e s m args below meth c ls A Q hx hb hml hts hown hin hP hK hD hS hA hN hl hret
  have hl : lv_has ls 3 [(0, .ref h), (1, .int b_)] := hl
  obtain ⟨RES, hE⟩ : ∃ xRES, f_e_swing_x9 q1 q2 q10 q12 k0 k1 k2 k3 k4 t0 t1 t2 t3 t4 fta ftc fn b_ = xRES := ⟨_, rfl⟩
  rw [hE] at hret
  rw [f_e_swing_x9] at hE
  refine lv_aload_n hx hb dX9_swing_0 rfl (lv_at hl 0 rfl) ?_
  refine va_get (D := D) (ci := 9) (v := .ref nw) (C := RX9) (T := TX9) (N := 17) hx hb hts iX9 hown hK hP 0 rfl rfl 6 (Nat.le_of_ble_eq_true rfl) (hts _ wd_96) (fun _ h9 => h9) rfl dX9_swing_1 ?_
  refine lv_iload_n hx hb dX9_swing_4 rfl (lv_at hl 1 rfl) ?_
  refine cVi (wr := [(h, .inr (9, [.ref x, .int q1, .int q2, .ref rd, .ref t, .ref d, .ref nw, .ref ps, .ref im, .ref is_, .int q10, .ref bk, .int q12, .ref qr, .ref pr, .ref cv, .ref ft])), (qr, .inr (4, [.int k0, .int k1, .int k2, .int k3, .int k4])), (t, .inr (8, [.int t0, .int t1, .int t2, .int t3, .int t4, .ref ta, .ref tb, .ref tc, .ref td, .ref te])), (ta, .inl (cI, 6, .inl fta)), (tc, .inl (cI, 30, .inl ftc))]) (rest := []) (e_coupleAt nw nwc fn b_) okV_X7_coupleAt wd_287 hx hb hml hown hts hK hP hD hS hA hN hl.1 [5, 6] [0, 1, 2, 3, 4] rfl rfl rfl rfl (of_decide_eq_true rfl) rfl rfl rfl (Nat.le_of_ble_eq_true rfl) (Nat.le_of_ble_eq_true rfl) (Nat.le_of_ble_eq_true rfl) (Nat.le_of_ble_eq_true rfl) (Nat.le_of_ble_eq_true rfl) dX9_swing_5 (fun r_2 u_1 H locs hw_u_1 hP hD hS => ?_)
  replace hw_u_1 : r_2 = (f_e_coupleAt fn b_) := hw_u_1
  rw [hw_u_1]
  clear hw_u_1
  have hP : va_P D classes [(h, .inr (9, [.ref x, .int q1, .int q2, .ref rd, .ref t, .ref d, .ref nw, .ref ps, .ref im, .ref is_, .int q10, .ref bk, .int q12, .ref qr, .ref pr, .ref cv, .ref ft])), (qr, .inr (4, [.int k0, .int k1, .int k2, .int k3, .int k4])), (t, .inr (8, [.int t0, .int t1, .int t2, .int t3, .int t4, .ref ta, .ref tb, .ref tc, .ref td, .ref te])), (ta, .inl (cI, 6, .inl fta)), (tc, .inl (cI, 30, .inl ftc)), (nw, .inr (7, [.ref nwc])), (nwc, .inl (cI, 41, .inl fn))] H := hP
  have hD : va_D A [(h, .inr (9, [.ref x, .int q1, .int q2, .ref rd, .ref t, .ref d, .ref nw, .ref ps, .ref im, .ref is_, .int q10, .ref bk, .int q12, .ref qr, .ref pr, .ref cv, .ref ft])), (qr, .inr (4, [.int k0, .int k1, .int k2, .int k3, .int k4])), (t, .inr (8, [.int t0, .int t1, .int t2, .int t3, .int t4, .ref ta, .ref tb, .ref tc, .ref td, .ref te])), (ta, .inl (cI, 6, .inl fta)), (tc, .inl (cI, 30, .inl ftc)), (nw, .inr (7, [.ref nwc])), (nwc, .inl (cI, 41, .inl fn))] := hD
  refine lv_istore_n (lv' := [(2, .int (f_e_coupleAt fn b_)), (0, .ref h), (1, .int b_)]) hx hb dX9_swing_8 rfl hl (Nat.le_of_ble_eq_true rfl) rfl (fun ls hl => ?_)
  refine lv_iload_n hx hb dX9_swing_9 rfl (lv_at hl 0 rfl) ?_
  refine lv_iconst (v := (-1)) hx hb dX9_swing_10 rfl ?_
  refine lv_icmp_ne (tgt := 16) hx hb dX9_swing_11 rfl (fun c_3 => ?_) (fun c_3 => ?_)
  · rw [if_neg c_3] at hE
    refine lv_aload_n hx hb dX9_swing_16 rfl (lv_at hl 1 rfl) ?_
    refine lv_iload_n hx hb dX9_swing_17 rfl (lv_at hl 0 rfl) ?_
    refine lv_iload_n hx hb dX9_swing_18 rfl (lv_at hl 2 rfl) ?_
    refine lv_aload_n hx hb dX9_swing_19 rfl (lv_at hl 1 rfl) ?_
    refine va_get (D := D) (ci := 9) (v := .ref nw) (C := RX9) (T := TX9) (N := 17) hx hb hts iX9 hown hK hP 0 rfl rfl 6 (Nat.le_of_ble_eq_true rfl) (hts _ wd_96) (fun _ h9 => h9) rfl dX9_swing_20 ?_
    refine lv_iload_n hx hb dX9_swing_23 rfl (lv_at hl 0 rfl) ?_
    refine cVi (wr := [(h, .inr (9, [.ref x, .int q1, .int q2, .ref rd, .ref t, .ref d, .ref nw, .ref ps, .ref im, .ref is_, .int q10, .ref bk, .int q12, .ref qr, .ref pr, .ref cv, .ref ft])), (qr, .inr (4, [.int k0, .int k1, .int k2, .int k3, .int k4])), (t, .inr (8, [.int t0, .int t1, .int t2, .int t3, .int t4, .ref ta, .ref tb, .ref tc, .ref td, .ref te])), (ta, .inl (cI, 6, .inl fta)), (tc, .inl (cI, 30, .inl ftc))]) (rest := [.int b_, .int (f_e_coupleAt fn b_), .ref h]) (e_themeOf nw nwc fn (f_e_coupleAt fn b_)) okV_X7_themeOf wd_291 hx hb hml hown hts hK hP hD hS hA hN hl.1 [5, 6] [0, 1, 2, 3, 4] rfl rfl rfl rfl (of_decide_eq_true rfl) rfl rfl rfl (Nat.le_of_ble_eq_true rfl) (Nat.le_of_ble_eq_true rfl) (Nat.le_of_ble_eq_true rfl) (Nat.le_of_ble_eq_true rfl) (Nat.le_of_ble_eq_true rfl) dX9_swing_24 (fun r_5 u_4 H locs hw_u_4 hP hD hS => ?_)
    replace hw_u_4 : r_5 = (f_e_themeOf fn (f_e_coupleAt fn b_)) := hw_u_4
    rw [hw_u_4]
    clear hw_u_4
    have hP : va_P D classes [(h, .inr (9, [.ref x, .int q1, .int q2, .ref rd, .ref t, .ref d, .ref nw, .ref ps, .ref im, .ref is_, .int q10, .ref bk, .int q12, .ref qr, .ref pr, .ref cv, .ref ft])), (qr, .inr (4, [.int k0, .int k1, .int k2, .int k3, .int k4])), (t, .inr (8, [.int t0, .int t1, .int t2, .int t3, .int t4, .ref ta, .ref tb, .ref tc, .ref td, .ref te])), (ta, .inl (cI, 6, .inl fta)), (tc, .inl (cI, 30, .inl ftc)), (nw, .inr (7, [.ref nwc])), (nwc, .inl (cI, 41, .inl fn))] H := hP
    have hD : va_D A [(h, .inr (9, [.ref x, .int q1, .int q2, .ref rd, .ref t, .ref d, .ref nw, .ref ps, .ref im, .ref is_, .int q10, .ref bk, .int q12, .ref qr, .ref pr, .ref cv, .ref ft])), (qr, .inr (4, [.int k0, .int k1, .int k2, .int k3, .int k4])), (t, .inr (8, [.int t0, .int t1, .int t2, .int t3, .int t4, .ref ta, .ref tb, .ref tc, .ref td, .ref te])), (ta, .inl (cI, 6, .inl fta)), (tc, .inl (cI, 30, .inl ftc)), (nw, .inr (7, [.ref nwc])), (nwc, .inl (cI, 41, .inl fn))] := hD
    refine cVv (wr := []) (rest := []) (e_attempt_x9 h x rd t d nw ps im is_ bk qr pr cv ft ta tb tc td te nwc q1 q2 q10 q12 k0 k1 k2 k3 k4 t0 t1 t2 t3 t4 fta ftc fn (f_e_coupleAt fn b_) b_ (f_e_themeOf fn (f_e_coupleAt fn b_))) okV_X9_attempt wd_270 hx hb hml hown hts hK hP hD hS hA hN hl.1 [0, 1, 2, 3, 4, 5, 6] [] rfl rfl rfl rfl (of_decide_eq_true rfl) rfl rfl rfl (Nat.le_of_ble_eq_true rfl) (Nat.le_of_ble_eq_true rfl) (Nat.le_of_ble_eq_true rfl) (Nat.le_of_ble_eq_true rfl) (Nat.le_of_ble_eq_true rfl) dX9_swing_27 (fun u_6 H locs hw_u_6 hP hD hS => ?_)
    obtain ⟨o_8, o_9, o_10, o_11, o_12⟩ := u_6
    have hb_u_6 := att_b q1 q2 q10 q12 k0 k1 k2 k3 k4 t0 t1 t2 t3 t4 fta ftc fn (f_e_coupleAt fn b_) b_ (f_e_themeOf fn (f_e_coupleAt fn b_))
    rw [← show (o_8, o_9, o_10, o_11, o_12) = (f_e_attempt_x9 q1 q2 q10 q12 k0 k1 k2 k3 k4 t0 t1 t2 t3 t4 fta ftc fn (f_e_coupleAt fn b_) b_ (f_e_themeOf fn (f_e_coupleAt fn b_))) from hw_u_6] at hb_u_6
    replace hw_u_6 : (o_8, o_9, o_10, o_11, o_12) = (f_e_attempt_x9 q1 q2 q10 q12 k0 k1 k2 k3 k4 t0 t1 t2 t3 t4 fta ftc fn (f_e_coupleAt fn b_) b_ (f_e_themeOf fn (f_e_coupleAt fn b_))) := hw_u_6
    rw [← hw_u_6] at hE
    replace hE : (if o_12 = 0 then (o_11, o_8, o_9, o_10, o_11, o_12, (f_e_leave (f_e_spendMinutes fn o_8) (f_e_coupleAt fn b_) o_10)) else (o_11, o_8, o_9, o_10, o_11, o_12, (f_e_reconcile (f_e_leave (f_e_spendMinutes fn o_8) (f_e_coupleAt fn b_) o_10) (f_e_coupleAt fn b_)))) = RES := hE
    have hP : va_P D classes [(h, .inr (9, [.ref x, .int q1, .int q2, .ref rd, .ref t, .ref d, .ref nw, .ref ps, .ref im, .ref is_, .int q10, .ref bk, .int q12, .ref qr, .ref pr, .ref cv, .ref ft])), (qr, .inr (4, [.int o_8, .int o_9, .int o_10, .int o_11, .int o_12])), (t, .inr (8, [.int t0, .int t1, .int t2, .int t3, .int t4, .ref ta, .ref tb, .ref tc, .ref td, .ref te])), (ta, .inl (cI, 6, .inl fta)), (tc, .inl (cI, 30, .inl ftc)), (nw, .inr (7, [.ref nwc])), (nwc, .inl (cI, 41, .inl fn))] H := hP
    have hD : va_D A [(h, .inr (9, [.ref x, .int q1, .int q2, .ref rd, .ref t, .ref d, .ref nw, .ref ps, .ref im, .ref is_, .int q10, .ref bk, .int q12, .ref qr, .ref pr, .ref cv, .ref ft])), (qr, .inr (4, [.int o_8, .int o_9, .int o_10, .int o_11, .int o_12])), (t, .inr (8, [.int t0, .int t1, .int t2, .int t3, .int t4, .ref ta, .ref tb, .ref tc, .ref td, .ref te])), (ta, .inl (cI, 6, .inl fta)), (tc, .inl (cI, 30, .inl ftc)), (nw, .inr (7, [.ref nwc])), (nwc, .inl (cI, 41, .inl fn))] := hD
    refine lv_aload_n hx hb dX9_swing_30 rfl (lv_at hl 1 rfl) ?_
    refine va_get (D := D) (ci := 9) (v := .ref nw) (C := RX9) (T := TX9) (N := 17) hx hb hts iX9 hown hK hP 0 rfl rfl 6 (Nat.le_of_ble_eq_true rfl) (hts _ wd_96) (fun _ h9 => h9) rfl dX9_swing_31 ?_
    refine lv_aload_n hx hb dX9_swing_34 rfl (lv_at hl 1 rfl) ?_
    refine va_get (D := D) (ci := 9) (v := .ref qr) (C := RX9) (T := TX9) (N := 17) hx hb hts iX9 hown hK hP 0 rfl rfl 13 (Nat.le_of_ble_eq_true rfl) (hts _ wd_120) (fun _ h9 => h9) rfl dX9_swing_35 ?_
    refine va_get (D := D) (ci := 4) (v := .int o_8) (C := RX4) (T := TX4) (N := 5) hx hb hts iX4 hown hK hP 1 rfl rfl 0 (Nat.le_of_ble_eq_true rfl) (hts _ wd_264) (fun _ h9 => h9) rfl dX9_swing_38 ?_
    refine cVv (wr := [(h, .inr (9, [.ref x, .int q1, .int q2, .ref rd, .ref t, .ref d, .ref nw, .ref ps, .ref im, .ref is_, .int q10, .ref bk, .int q12, .ref qr, .ref pr, .ref cv, .ref ft])), (qr, .inr (4, [.int o_8, .int o_9, .int o_10, .int o_11, .int o_12])), (t, .inr (8, [.int t0, .int t1, .int t2, .int t3, .int t4, .ref ta, .ref tb, .ref tc, .ref td, .ref te])), (ta, .inl (cI, 6, .inl fta)), (tc, .inl (cI, 30, .inl ftc))]) (rest := []) (e_spendMinutes nw nwc fn o_8) okV_X7_spendMinutes wd_295 hx hb hml hown hts hK hP hD hS hA hN hl.1 [5, 6] [0, 1, 2, 3, 4] rfl rfl rfl rfl (of_decide_eq_true rfl) rfl rfl rfl (Nat.le_of_ble_eq_true rfl) (Nat.le_of_ble_eq_true rfl) (Nat.le_of_ble_eq_true rfl) (Nat.le_of_ble_eq_true rfl) (Nat.le_of_ble_eq_true rfl) dX9_swing_41 (fun u_13 H locs hw_u_13 hP hD hS => ?_)
    replace hw_u_13 : u_13 = (f_e_spendMinutes fn o_8) := hw_u_13
    subst hw_u_13
    have hP : va_P D classes [(h, .inr (9, [.ref x, .int q1, .int q2, .ref rd, .ref t, .ref d, .ref nw, .ref ps, .ref im, .ref is_, .int q10, .ref bk, .int q12, .ref qr, .ref pr, .ref cv, .ref ft])), (qr, .inr (4, [.int o_8, .int o_9, .int o_10, .int o_11, .int o_12])), (t, .inr (8, [.int t0, .int t1, .int t2, .int t3, .int t4, .ref ta, .ref tb, .ref tc, .ref td, .ref te])), (ta, .inl (cI, 6, .inl fta)), (tc, .inl (cI, 30, .inl ftc)), (nw, .inr (7, [.ref nwc])), (nwc, .inl (cI, 41, .inl (f_e_spendMinutes fn o_8)))] H := hP
    have hD : va_D A [(h, .inr (9, [.ref x, .int q1, .int q2, .ref rd, .ref t, .ref d, .ref nw, .ref ps, .ref im, .ref is_, .int q10, .ref bk, .int q12, .ref qr, .ref pr, .ref cv, .ref ft])), (qr, .inr (4, [.int o_8, .int o_9, .int o_10, .int o_11, .int o_12])), (t, .inr (8, [.int t0, .int t1, .int t2, .int t3, .int t4, .ref ta, .ref tb, .ref tc, .ref td, .ref te])), (ta, .inl (cI, 6, .inl fta)), (tc, .inl (cI, 30, .inl ftc)), (nw, .inr (7, [.ref nwc])), (nwc, .inl (cI, 41, .inl (f_e_spendMinutes fn o_8)))] := hD
    refine lv_aload_n hx hb dX9_swing_44 rfl (lv_at hl 1 rfl) ?_
    refine va_get (D := D) (ci := 9) (v := .ref nw) (C := RX9) (T := TX9) (N := 17) hx hb hts iX9 hown hK hP 0 rfl rfl 6 (Nat.le_of_ble_eq_true rfl) (hts _ wd_96) (fun _ h9 => h9) rfl dX9_swing_45 ?_
    refine lv_iload_n hx hb dX9_swing_48 rfl (lv_at hl 0 rfl) ?_
    refine lv_aload_n hx hb dX9_swing_49 rfl (lv_at hl 1 rfl) ?_
    refine va_get (D := D) (ci := 9) (v := .ref qr) (C := RX9) (T := TX9) (N := 17) hx hb hts iX9 hown hK hP 0 rfl rfl 13 (Nat.le_of_ble_eq_true rfl) (hts _ wd_120) (fun _ h9 => h9) rfl dX9_swing_50 ?_
    refine va_get (D := D) (ci := 4) (v := .int o_10) (C := RX4) (T := TX4) (N := 5) hx hb hts iX4 hown hK hP 1 rfl rfl 2 (Nat.le_of_ble_eq_true rfl) (hts _ wd_299) (fun _ h9 => h9) rfl dX9_swing_53 ?_
    refine cVv (wr := [(h, .inr (9, [.ref x, .int q1, .int q2, .ref rd, .ref t, .ref d, .ref nw, .ref ps, .ref im, .ref is_, .int q10, .ref bk, .int q12, .ref qr, .ref pr, .ref cv, .ref ft])), (qr, .inr (4, [.int o_8, .int o_9, .int o_10, .int o_11, .int o_12])), (t, .inr (8, [.int t0, .int t1, .int t2, .int t3, .int t4, .ref ta, .ref tb, .ref tc, .ref td, .ref te])), (ta, .inl (cI, 6, .inl fta)), (tc, .inl (cI, 30, .inl ftc))]) (rest := []) (e_leave nw nwc (f_e_spendMinutes fn o_8) (f_e_coupleAt fn b_) o_10) okV_X7_leave wd_300 hx hb hml hown hts hK hP hD hS hA hN hl.1 [5, 6] [0, 1, 2, 3, 4] rfl rfl rfl rfl (of_decide_eq_true rfl) rfl rfl rfl (Nat.le_of_ble_eq_true rfl) (Nat.le_of_ble_eq_true rfl) (Nat.le_of_ble_eq_true rfl) (Nat.le_of_ble_eq_true rfl) (Nat.le_of_ble_eq_true rfl) dX9_swing_56 (fun u_15 H locs hw_u_15 hP hD hS => ?_)
    replace hw_u_15 : u_15 = (f_e_leave (f_e_spendMinutes fn o_8) (f_e_coupleAt fn b_) o_10) := hw_u_15
    subst hw_u_15
    have hP : va_P D classes [(h, .inr (9, [.ref x, .int q1, .int q2, .ref rd, .ref t, .ref d, .ref nw, .ref ps, .ref im, .ref is_, .int q10, .ref bk, .int q12, .ref qr, .ref pr, .ref cv, .ref ft])), (qr, .inr (4, [.int o_8, .int o_9, .int o_10, .int o_11, .int o_12])), (t, .inr (8, [.int t0, .int t1, .int t2, .int t3, .int t4, .ref ta, .ref tb, .ref tc, .ref td, .ref te])), (ta, .inl (cI, 6, .inl fta)), (tc, .inl (cI, 30, .inl ftc)), (nw, .inr (7, [.ref nwc])), (nwc, .inl (cI, 41, .inl (f_e_leave (f_e_spendMinutes fn o_8) (f_e_coupleAt fn b_) o_10)))] H := hP
    have hD : va_D A [(h, .inr (9, [.ref x, .int q1, .int q2, .ref rd, .ref t, .ref d, .ref nw, .ref ps, .ref im, .ref is_, .int q10, .ref bk, .int q12, .ref qr, .ref pr, .ref cv, .ref ft])), (qr, .inr (4, [.int o_8, .int o_9, .int o_10, .int o_11, .int o_12])), (t, .inr (8, [.int t0, .int t1, .int t2, .int t3, .int t4, .ref ta, .ref tb, .ref tc, .ref td, .ref te])), (ta, .inl (cI, 6, .inl fta)), (tc, .inl (cI, 30, .inl ftc)), (nw, .inr (7, [.ref nwc])), (nwc, .inl (cI, 41, .inl (f_e_leave (f_e_spendMinutes fn o_8) (f_e_coupleAt fn b_) o_10)))] := hD
    refine lv_aload_n hx hb dX9_swing_59 rfl (lv_at hl 1 rfl) ?_
    refine va_get (D := D) (ci := 9) (v := .ref qr) (C := RX9) (T := TX9) (N := 17) hx hb hts iX9 hown hK hP 0 rfl rfl 13 (Nat.le_of_ble_eq_true rfl) (hts _ wd_120) (fun _ h9 => h9) rfl dX9_swing_60 ?_
    refine va_get (D := D) (ci := 4) (v := .int o_12) (C := RX4) (T := TX4) (N := 5) hx hb hts iX4 hown hK hP 1 rfl rfl 4 (Nat.le_of_ble_eq_true rfl) (hts _ wd_263) (fun _ h9 => h9) rfl dX9_swing_63 ?_
    refine lv_if_eq (tgt := 77) hx hb dX9_swing_66 rfl (fun c_17 => ?_) (fun c_17 => ?_)
    · rw [if_pos c_17] at hE
      refine lv_aload_n hx hb dX9_swing_77 rfl (lv_at hl 1 rfl) ?_
      refine va_get (D := D) (ci := 9) (v := .ref qr) (C := RX9) (T := TX9) (N := 17) hx hb hts iX9 hown hK hP 0 rfl rfl 13 (Nat.le_of_ble_eq_true rfl) (hts _ wd_120) (fun _ h9 => h9) rfl dX9_swing_78 ?_
      refine va_get (D := D) (ci := 4) (v := .int o_11) (C := RX4) (T := TX4) (N := 5) hx hb hts iX4 hown hK hP 1 rfl rfl 3 (Nat.le_of_ble_eq_true rfl) (hts _ wd_274) (fun _ h9 => h9) rfl dX9_swing_81 ?_
      exact hret o_11 (o_8, o_9, o_10, o_11, o_12, (f_e_leave (f_e_spendMinutes fn o_8) (f_e_coupleAt fn b_) o_10)) _ _ _ _ dX9_swing_84 (narrow_b01 hb_u_6) hE hP hD hS
    · rw [if_neg c_17] at hE
      refine lv_aload_n hx hb dX9_swing_69 rfl (lv_at hl 1 rfl) ?_
      refine va_get (D := D) (ci := 9) (v := .ref nw) (C := RX9) (T := TX9) (N := 17) hx hb hts iX9 hown hK hP 0 rfl rfl 6 (Nat.le_of_ble_eq_true rfl) (hts _ wd_96) (fun _ h9 => h9) rfl dX9_swing_70 ?_
      refine lv_iload_n hx hb dX9_swing_73 rfl (lv_at hl 0 rfl) ?_
      refine cVv (wr := [(h, .inr (9, [.ref x, .int q1, .int q2, .ref rd, .ref t, .ref d, .ref nw, .ref ps, .ref im, .ref is_, .int q10, .ref bk, .int q12, .ref qr, .ref pr, .ref cv, .ref ft])), (qr, .inr (4, [.int o_8, .int o_9, .int o_10, .int o_11, .int o_12])), (t, .inr (8, [.int t0, .int t1, .int t2, .int t3, .int t4, .ref ta, .ref tb, .ref tc, .ref td, .ref te])), (ta, .inl (cI, 6, .inl fta)), (tc, .inl (cI, 30, .inl ftc))]) (rest := []) (e_reconcile nw nwc (f_e_leave (f_e_spendMinutes fn o_8) (f_e_coupleAt fn b_) o_10) (f_e_coupleAt fn b_)) okV_X7_reconcile wd_301 hx hb hml hown hts hK hP hD hS hA hN hl.1 [5, 6] [0, 1, 2, 3, 4] rfl rfl rfl rfl (of_decide_eq_true rfl) rfl rfl rfl (Nat.le_of_ble_eq_true rfl) (Nat.le_of_ble_eq_true rfl) (Nat.le_of_ble_eq_true rfl) (Nat.le_of_ble_eq_true rfl) (Nat.le_of_ble_eq_true rfl) dX9_swing_74 (fun u_18 H locs hw_u_18 hP hD hS => ?_)
      replace hw_u_18 : u_18 = (f_e_reconcile (f_e_leave (f_e_spendMinutes fn o_8) (f_e_coupleAt fn b_) o_10) (f_e_coupleAt fn b_)) := hw_u_18
      subst hw_u_18
      have hP : va_P D classes [(h, .inr (9, [.ref x, .int q1, .int q2, .ref rd, .ref t, .ref d, .ref nw, .ref ps, .ref im, .ref is_, .int q10, .ref bk, .int q12, .ref qr, .ref pr, .ref cv, .ref ft])), (qr, .inr (4, [.int o_8, .int o_9, .int o_10, .int o_11, .int o_12])), (t, .inr (8, [.int t0, .int t1, .int t2, .int t3, .int t4, .ref ta, .ref tb, .ref tc, .ref td, .ref te])), (ta, .inl (cI, 6, .inl fta)), (tc, .inl (cI, 30, .inl ftc)), (nw, .inr (7, [.ref nwc])), (nwc, .inl (cI, 41, .inl (f_e_reconcile (f_e_leave (f_e_spendMinutes fn o_8) (f_e_coupleAt fn b_) o_10) (f_e_coupleAt fn b_))))] H := hP
      have hD : va_D A [(h, .inr (9, [.ref x, .int q1, .int q2, .ref rd, .ref t, .ref d, .ref nw, .ref ps, .ref im, .ref is_, .int q10, .ref bk, .int q12, .ref qr, .ref pr, .ref cv, .ref ft])), (qr, .inr (4, [.int o_8, .int o_9, .int o_10, .int o_11, .int o_12])), (t, .inr (8, [.int t0, .int t1, .int t2, .int t3, .int t4, .ref ta, .ref tb, .ref tc, .ref td, .ref te])), (ta, .inl (cI, 6, .inl fta)), (tc, .inl (cI, 30, .inl ftc)), (nw, .inr (7, [.ref nwc])), (nwc, .inl (cI, 41, .inl (f_e_reconcile (f_e_leave (f_e_spendMinutes fn o_8) (f_e_coupleAt fn b_) o_10) (f_e_coupleAt fn b_))))] := hD
      refine lv_aload_n hx hb dX9_swing_77 rfl (lv_at hl 1 rfl) ?_
      refine va_get (D := D) (ci := 9) (v := .ref qr) (C := RX9) (T := TX9) (N := 17) hx hb hts iX9 hown hK hP 0 rfl rfl 13 (Nat.le_of_ble_eq_true rfl) (hts _ wd_120) (fun _ h9 => h9) rfl dX9_swing_78 ?_
      refine va_get (D := D) (ci := 4) (v := .int o_11) (C := RX4) (T := TX4) (N := 5) hx hb hts iX4 hown hK hP 1 rfl rfl 3 (Nat.le_of_ble_eq_true rfl) (hts _ wd_274) (fun _ h9 => h9) rfl dX9_swing_81 ?_
      exact hret o_11 (o_8, o_9, o_10, o_11, o_12, (f_e_reconcile (f_e_leave (f_e_spendMinutes fn o_8) (f_e_coupleAt fn b_) o_10) (f_e_coupleAt fn b_))) _ _ _ _ dX9_swing_84 (narrow_b01 hb_u_6) hE hP hD hS
  · rw [if_pos c_3] at hE
    refine lv_iconst (v := 0) hx hb dX9_swing_14 rfl ?_
    exact hret 0 (k0, k1, k2, k3, k4, fn) _ _ _ _ dX9_swing_15 rfl hE hP hD hS
noncomputable def f_e_noteOpening_x1 (v0 : Int32) (v7 : Int32) (v8 : Int32) (fc2 : Nat → Int32) (fc3 : Nat → Int32) (b_ : Int32) (m_ : Int32) : (Nat → Int32) × (Nat → Int32) := ((putF 6 fc2 b_ ((atF 6 fc2 b_) + 1)), (putF 48 fc3 (((b_ * 8) + (atF 6 fc2 b_)) + 1) ((atF 48 fc3 ((b_ * 8) + (atF 6 fc2 b_))) + m_)))
def rm_e_noteOpening_x1 : Room := { frames := 1, cells := 0, slots := 0, locals := 22 }
set_option maxHeartbeats 4000000 in
set_option maxRecDepth 100000 in
theorem e_noteOpening_x1 {l : Launch} {D : va_G} {cI cZ : ClassId} {sz : Nat} (cv c1 c2 c3 c4 c5 c6 t : Nat) (v0 : Int32) (v7 : Int32) (v8 : Int32) (fc2 : Nat → Int32) (fc3 : Nat → Int32) (b_ : Int32) (m_ : Int32) : KV l yX1_noteOpening cX1_noteOpening 4 rm_e_noteOpening_x1 D cI cZ [.ref cv, .int b_, .int m_] sz [(cv, .inr (1, [.int v0, .ref c1, .ref c2, .ref c3, .ref c4, .ref c5, .ref c6, .int v7, .int v8, .ref t])), (c2, .inl (cI, 6, .inl fc2)), (c3, .inl (cI, 48, .inl fc3))] (fun (u : (Nat → Int32) × (Nat → Int32)) => u = f_e_noteOpening_x1 v0 v7 v8 fc2 fc3 b_ m_) (fun (u : (Nat → Int32) × (Nat → Int32)) => [(cv, .inr (1, [.int v0, .ref c1, .ref c2, .ref c3, .ref c4, .ref c5, .ref c6, .int v7, .int v8, .ref t])), (c2, .inl (cI, 6, .inl u.1)), (c3, .inl (cI, 48, .inl u.2))]) := by
  refine KV.go rfl (Nat.le_of_ble_eq_true rfl) ?_
  intro p e s m args below meth c ls A Q hx hb hml hts hown hin hP hK hD hS hA hN hl hret
  have hl : lv_has ls 4 [(0, .ref cv), (1, .int b_), (2, .int m_)] := hl
  obtain ⟨RES, hE⟩ : ∃ xRES, f_e_noteOpening_x1 v0 v7 v8 fc2 fc3 b_ m_ = xRES := ⟨_, rfl⟩
  rw [hE] at hret
  rw [f_e_noteOpening_x1] at hE
  refine lv_aload_n hx hb dX1_noteOpening_0 rfl (lv_at hl 0 rfl) ?_
  refine va_get (D := D) (ci := 1) (v := .ref c2) (C := RX1) (T := TX1) (N := 10) hx hb hts iX1 hown hK hP 0 rfl rfl 2 (Nat.le_of_ble_eq_true rfl) (hts _ wd_33) (fun _ h9 => h9) rfl dX1_noteOpening_1 ?_
  refine lv_iload_n hx hb dX1_noteOpening_4 rfl (lv_at hl 1 rfl) ?_
  refine cNi (wr := [(cv, .inr (1, [.int v0, .ref c1, .ref c2, .ref c3, .ref c4, .ref c5, .ref c6, .int v7, .int v8, .ref t])), (c3, .inl (cI, 48, .inl fc3))]) (rest := []) (k_at c2 6 fc2 b_ (of_decide_eq_true rfl)) okS_X9_at 10 rfl hx hb hml hown hts hK hP hD hS hA hN hl.1 [1] [0, 2] rfl rfl rfl rfl (by decide) rfl (Nat.le_of_ble_eq_true rfl) (Nat.le_of_ble_eq_true rfl) (Nat.le_of_ble_eq_true rfl) (Nat.le_of_ble_eq_true rfl) (Nat.le_of_ble_eq_true rfl) dX1_noteOpening_5 (fun r_2 u_1 H locs hw_u_1 hP hD hS => ?_)
  obtain rfl := hw_u_1
  have hP : va_P D classes [(cv, .inr (1, [.int v0, .ref c1, .ref c2, .ref c3, .ref c4, .ref c5, .ref c6, .int v7, .int v8, .ref t])), (c3, .inl (cI, 48, .inl fc3)), (c2, .inl (cI, 6, .inl fc2))] H := hP
  have hD : va_D A [(cv, .inr (1, [.int v0, .ref c1, .ref c2, .ref c3, .ref c4, .ref c5, .ref c6, .int v7, .int v8, .ref t])), (c3, .inl (cI, 48, .inl fc3)), (c2, .inl (cI, 6, .inl fc2))] := hD
  refine lv_istore_n (lv' := [(3, .int (atF 6 fc2 b_)), (0, .ref cv), (1, .int b_), (2, .int m_)]) hx hb dX1_noteOpening_8 rfl hl (Nat.le_of_ble_eq_true rfl) rfl (fun ls hl => ?_)
  refine lv_aload_n hx hb dX1_noteOpening_9 rfl (lv_at hl 1 rfl) ?_
  refine va_get (D := D) (ci := 1) (v := .ref c3) (C := RX1) (T := TX1) (N := 10) hx hb hts iX1 hown hK hP 0 rfl rfl 3 (Nat.le_of_ble_eq_true rfl) (hts _ wd_34) (fun _ h9 => h9) rfl dX1_noteOpening_10 ?_
  refine lv_iload_n hx hb dX1_noteOpening_13 rfl (lv_at hl 2 rfl) ?_
  refine lv_bipush (v := 8) hx hb dX1_noteOpening_14 rfl ?_
  refine lv_imul hx hb dX1_noteOpening_16 ?_
  refine lv_iload_n hx hb dX1_noteOpening_17 rfl (lv_at hl 0 rfl) ?_
  refine lv_iadd hx hb dX1_noteOpening_18 ?_
  refine lv_iconst (v := 1) hx hb dX1_noteOpening_19 rfl ?_
  refine lv_iadd hx hb dX1_noteOpening_20 ?_
  refine lv_aload_n hx hb dX1_noteOpening_21 rfl (lv_at hl 1 rfl) ?_
  refine va_get (D := D) (ci := 1) (v := .ref c3) (C := RX1) (T := TX1) (N := 10) hx hb hts iX1 hown hK hP 0 rfl rfl 3 (Nat.le_of_ble_eq_true rfl) (hts _ wd_34) (fun _ h9 => h9) rfl dX1_noteOpening_22 ?_
  refine lv_iload_n hx hb dX1_noteOpening_25 rfl (lv_at hl 2 rfl) ?_
  refine lv_bipush (v := 8) hx hb dX1_noteOpening_26 rfl ?_
  refine lv_imul hx hb dX1_noteOpening_28 ?_
  refine lv_iload_n hx hb dX1_noteOpening_29 rfl (lv_at hl 0 rfl) ?_
  refine lv_iadd hx hb dX1_noteOpening_30 ?_
  refine cNi (wr := [(cv, .inr (1, [.int v0, .ref c1, .ref c2, .ref c3, .ref c4, .ref c5, .ref c6, .int v7, .int v8, .ref t])), (c2, .inl (cI, 6, .inl fc2))]) (rest := [.int (((b_ * 8) + (atF 6 fc2 b_)) + 1), .ref c3]) (k_at c3 48 fc3 ((b_ * 8) + (atF 6 fc2 b_)) (of_decide_eq_true rfl)) okS_X9_at 10 rfl hx hb hml hown hts hK hP hD hS hA hN hl.1 [1] [0, 2] rfl rfl rfl rfl (by decide) rfl (Nat.le_of_ble_eq_true rfl) (Nat.le_of_ble_eq_true rfl) (Nat.le_of_ble_eq_true rfl) (Nat.le_of_ble_eq_true rfl) (Nat.le_of_ble_eq_true rfl) dX1_noteOpening_31 (fun r_4 u_3 H locs hw_u_3 hP hD hS => ?_)
  obtain rfl := hw_u_3
  have hP : va_P D classes [(cv, .inr (1, [.int v0, .ref c1, .ref c2, .ref c3, .ref c4, .ref c5, .ref c6, .int v7, .int v8, .ref t])), (c2, .inl (cI, 6, .inl fc2)), (c3, .inl (cI, 48, .inl fc3))] H := hP
  have hD : va_D A [(cv, .inr (1, [.int v0, .ref c1, .ref c2, .ref c3, .ref c4, .ref c5, .ref c6, .int v7, .int v8, .ref t])), (c2, .inl (cI, 6, .inl fc2)), (c3, .inl (cI, 48, .inl fc3))] := hD
  refine lv_iload_n hx hb dX1_noteOpening_34 rfl (lv_at hl 3 rfl) ?_
  refine lv_iadd hx hb dX1_noteOpening_35 ?_
  refine cNv (wr := [(cv, .inr (1, [.int v0, .ref c1, .ref c2, .ref c3, .ref c4, .ref c5, .ref c6, .int v7, .int v8, .ref t])), (c2, .inl (cI, 6, .inl fc2))]) (rest := []) (k_put c3 48 fc3 (((b_ * 8) + (atF 6 fc2 b_)) + 1) ((atF 48 fc3 ((b_ * 8) + (atF 6 fc2 b_))) + m_) (of_decide_eq_true rfl)) okS_X9_put 11 rfl hx hb hml hown hts hK hP hD hS hA hN hl.1 [2] [0, 1] rfl rfl rfl rfl (by decide) rfl (Nat.le_of_ble_eq_true rfl) (Nat.le_of_ble_eq_true rfl) (Nat.le_of_ble_eq_true rfl) (Nat.le_of_ble_eq_true rfl) (Nat.le_of_ble_eq_true rfl) dX1_noteOpening_36 (fun u_5 H locs hw_u_5 hP hD hS => ?_)
  have hP : va_P D classes [(cv, .inr (1, [.int v0, .ref c1, .ref c2, .ref c3, .ref c4, .ref c5, .ref c6, .int v7, .int v8, .ref t])), (c2, .inl (cI, 6, .inl fc2)), (c3, .inl (cI, 48, .inl (putF 48 fc3 (((b_ * 8) + (atF 6 fc2 b_)) + 1) ((atF 48 fc3 ((b_ * 8) + (atF 6 fc2 b_))) + m_))))] H := hP
  have hD : va_D A [(cv, .inr (1, [.int v0, .ref c1, .ref c2, .ref c3, .ref c4, .ref c5, .ref c6, .int v7, .int v8, .ref t])), (c2, .inl (cI, 6, .inl fc2)), (c3, .inl (cI, 48, .inl (putF 48 fc3 (((b_ * 8) + (atF 6 fc2 b_)) + 1) ((atF 48 fc3 ((b_ * 8) + (atF 6 fc2 b_))) + m_))))] := hD
  refine lv_aload_n hx hb dX1_noteOpening_39 rfl (lv_at hl 1 rfl) ?_
  refine va_get (D := D) (ci := 1) (v := .ref c2) (C := RX1) (T := TX1) (N := 10) hx hb hts iX1 hown hK hP 0 rfl rfl 2 (Nat.le_of_ble_eq_true rfl) (hts _ wd_33) (fun _ h9 => h9) rfl dX1_noteOpening_40 ?_
  refine lv_iload_n hx hb dX1_noteOpening_43 rfl (lv_at hl 2 rfl) ?_
  refine lv_iload_n hx hb dX1_noteOpening_44 rfl (lv_at hl 0 rfl) ?_
  refine lv_iconst (v := 1) hx hb dX1_noteOpening_45 rfl ?_
  refine lv_iadd hx hb dX1_noteOpening_46 ?_
  refine cNv (wr := [(cv, .inr (1, [.int v0, .ref c1, .ref c2, .ref c3, .ref c4, .ref c5, .ref c6, .int v7, .int v8, .ref t])), (c3, .inl (cI, 48, .inl (putF 48 fc3 (((b_ * 8) + (atF 6 fc2 b_)) + 1) ((atF 48 fc3 ((b_ * 8) + (atF 6 fc2 b_))) + m_))))]) (rest := []) (k_put c2 6 fc2 b_ ((atF 6 fc2 b_) + 1) (of_decide_eq_true rfl)) okS_X9_put 11 rfl hx hb hml hown hts hK hP hD hS hA hN hl.1 [1] [0, 2] rfl rfl rfl rfl (by decide) rfl (Nat.le_of_ble_eq_true rfl) (Nat.le_of_ble_eq_true rfl) (Nat.le_of_ble_eq_true rfl) (Nat.le_of_ble_eq_true rfl) (Nat.le_of_ble_eq_true rfl) dX1_noteOpening_47 (fun u_7 H locs hw_u_7 hP hD hS => ?_)
  have hP : va_P D classes [(cv, .inr (1, [.int v0, .ref c1, .ref c2, .ref c3, .ref c4, .ref c5, .ref c6, .int v7, .int v8, .ref t])), (c3, .inl (cI, 48, .inl (putF 48 fc3 (((b_ * 8) + (atF 6 fc2 b_)) + 1) ((atF 48 fc3 ((b_ * 8) + (atF 6 fc2 b_))) + m_)))), (c2, .inl (cI, 6, .inl (putF 6 fc2 b_ ((atF 6 fc2 b_) + 1))))] H := hP
  have hD : va_D A [(cv, .inr (1, [.int v0, .ref c1, .ref c2, .ref c3, .ref c4, .ref c5, .ref c6, .int v7, .int v8, .ref t])), (c3, .inl (cI, 48, .inl (putF 48 fc3 (((b_ * 8) + (atF 6 fc2 b_)) + 1) ((atF 48 fc3 ((b_ * 8) + (atF 6 fc2 b_))) + m_)))), (c2, .inl (cI, 6, .inl (putF 6 fc2 b_ ((atF 6 fc2 b_) + 1))))] := hD
  exact hret ((putF 6 fc2 b_ ((atF 6 fc2 b_) + 1)), (putF 48 fc3 (((b_ * 8) + (atF 6 fc2 b_)) + 1) ((atF 48 fc3 ((b_ * 8) + (atF 6 fc2 b_))) + m_))) _ _ _ _ dX1_noteOpening_50 hE (cutP (isC := [0, 2, 1]) hP rfl) (cutD (isC := [0, 2, 1]) hD rfl rfl) hS
noncomputable def f_e_noteOpenings_x9_45 (q1 : Int32) (q2 : Int32) (q10 : Int32) (q12 : Int32) (k0 : Int32) (k1 : Int32) (k2 : Int32) (k3 : Int32) (k4 : Int32) (t0 : Int32) (t1 : Int32) (t2 : Int32) (t3 : Int32) (t4 : Int32) (fta : Nat → Int32) (ftc : Nat → Int32) (fn : Nat → Int32) (v0 : Int32) (v7 : Int32) (v8 : Int32) (fc2 : Nat → Int32) (fc3 : Nat → Int32) (b_ : Int32) (n : Nat) : Int32 → Int32 → Int32 → Int32 → Int32 → Int32 → Int32 → (Nat → Int32) → (Nat → Int32) → (Int32 × Int32 × Int32 × Int32 × Int32 × Int32 × Int32 × (Nat → Int32) × (Nat → Int32)) ⊕ (Int32 × Int32 × Int32 × Int32 × Int32 × (Nat → Int32) × (Nat → Int32)) := Nat.rec (motive := fun _ => Int32 → Int32 → Int32 → Int32 → Int32 → Int32 → Int32 → (Nat → Int32) → (Nat → Int32) → (Int32 × Int32 × Int32 × Int32 × Int32 × Int32 × Int32 × (Nat → Int32) × (Nat → Int32)) ⊕ (Int32 × Int32 × Int32 × Int32 × Int32 × (Nat → Int32) × (Nat → Int32))) (fun w_10l5 w_10l3 w_10m0 w_10m1 w_10m2 w_10m3 w_10m4 w_10m5 w_10m6 => Sum.inl (w_10l5, w_10l3, w_10m0, w_10m1, w_10m2, w_10m3, w_10m4, w_10m5, w_10m6)) (fun n ih w_10l5 w_10l3 w_10m0 w_10m1 w_10m2 w_10m3 w_10m4 w_10m5 w_10m6 => (if 7 ≤ w_10l5 then (Sum.inl (w_10l5, w_10l3, w_10m0, w_10m1, w_10m2, w_10m3, w_10m4, w_10m5, w_10m6)) else (match (f_e_run_x4 w_10m0 w_10m1 w_10m2 w_10m3 w_10m4 w_10l3 (f_e_forceOf_x8 t0 t1 t2 t3 t4 ftc (f_e_coupleAt fn b_) (f_e_themeOf fn (f_e_coupleAt fn b_))) t4 (atF 6 fta b_)) with | (o_16, o_17, o_18, o_19, o_20) => (if o_19 = 0 then (Sum.inr (o_16, o_17, o_18, o_19, o_20, w_10m5, w_10m6)) else (if o_20 = 0 then (match (f_e_noteOpening_x1 v0 v7 v8 w_10m5 w_10m6 b_ o_16) with | (o_25, o_26) => (ih (w_10l5 + 1) o_18 o_16 o_17 o_18 o_19 o_20 o_25 o_26)) else (Sum.inr (o_16, o_17, o_18, o_19, o_20, w_10m5, w_10m6))))))) n
theorem f_e_noteOpenings_x9_45_s (q1 : Int32) (q2 : Int32) (q10 : Int32) (q12 : Int32) (k0 : Int32) (k1 : Int32) (k2 : Int32) (k3 : Int32) (k4 : Int32) (t0 : Int32) (t1 : Int32) (t2 : Int32) (t3 : Int32) (t4 : Int32) (fta : Nat → Int32) (ftc : Nat → Int32) (fn : Nat → Int32) (v0 : Int32) (v7 : Int32) (v8 : Int32) (fc2 : Nat → Int32) (fc3 : Nat → Int32) (b_ : Int32) (n : Nat) (w_10l5 : Int32) (w_10l3 : Int32) (w_10m0 : Int32) (w_10m1 : Int32) (w_10m2 : Int32) (w_10m3 : Int32) (w_10m4 : Int32) (w_10m5 : (Nat → Int32)) (w_10m6 : (Nat → Int32)) : f_e_noteOpenings_x9_45 q1 q2 q10 q12 k0 k1 k2 k3 k4 t0 t1 t2 t3 t4 fta ftc fn v0 v7 v8 fc2 fc3 b_ (n + 1) w_10l5 w_10l3 w_10m0 w_10m1 w_10m2 w_10m3 w_10m4 w_10m5 w_10m6 = (if 7 ≤ w_10l5 then (Sum.inl (w_10l5, w_10l3, w_10m0, w_10m1, w_10m2, w_10m3, w_10m4, w_10m5, w_10m6)) else (match (f_e_run_x4 w_10m0 w_10m1 w_10m2 w_10m3 w_10m4 w_10l3 (f_e_forceOf_x8 t0 t1 t2 t3 t4 ftc (f_e_coupleAt fn b_) (f_e_themeOf fn (f_e_coupleAt fn b_))) t4 (atF 6 fta b_)) with | (o_16, o_17, o_18, o_19, o_20) => (if o_19 = 0 then (Sum.inr (o_16, o_17, o_18, o_19, o_20, w_10m5, w_10m6)) else (if o_20 = 0 then (match (f_e_noteOpening_x1 v0 v7 v8 w_10m5 w_10m6 b_ o_16) with | (o_25, o_26) => (f_e_noteOpenings_x9_45 q1 q2 q10 q12 k0 k1 k2 k3 k4 t0 t1 t2 t3 t4 fta ftc fn v0 v7 v8 fc2 fc3 b_ n (w_10l5 + 1) o_18 o_16 o_17 o_18 o_19 o_20 o_25 o_26)) else (Sum.inr (o_16, o_17, o_18, o_19, o_20, w_10m5, w_10m6)))))) := rfl
noncomputable def f_e_noteOpenings_x9 (q1 : Int32) (q2 : Int32) (q10 : Int32) (q12 : Int32) (k0 : Int32) (k1 : Int32) (k2 : Int32) (k3 : Int32) (k4 : Int32) (t0 : Int32) (t1 : Int32) (t2 : Int32) (t3 : Int32) (t4 : Int32) (fta : Nat → Int32) (ftc : Nat → Int32) (fn : Nat → Int32) (v0 : Int32) (v7 : Int32) (v8 : Int32) (fc2 : Nat → Int32) (fc3 : Nat → Int32) (b_ : Int32) : Int32 × Int32 × Int32 × Int32 × Int32 × (Nat → Int32) × (Nat → Int32) := (if (f_e_coupleAt fn b_) = (-1) then (k0, k1, k2, k3, k4, fc2, fc3) else (match (f_e_noteOpenings_x9_45 q1 q2 q10 q12 k0 k1 k2 k3 k4 t0 t1 t2 t3 t4 fta ftc fn v0 v7 v8 fc2 fc3 b_ (((7 : Int32).toInt - (0 : Int32).toInt).toNat + 1) 0 (f_e_grievanceOf fn (f_e_coupleAt fn b_)) k0 k1 k2 k3 k4 fc2 fc3) with | Sum.inl (w_10l5, w_10l3, w_10m0, w_10m1, w_10m2, w_10m3, w_10m4, w_10m5, w_10m6) => (w_10m0, w_10m1, w_10m2, w_10m3, w_10m4, w_10m5, w_10m6) | Sum.inr o => o))
def rm_e_noteOpenings_x9 : Room := { frames := 3, cells := 0, slots := 0, locals := 79 }
set_option maxHeartbeats 4000000 in
set_option maxRecDepth 100000 in
theorem e_noteOpenings_x9 {l : Launch} {D : va_G} {cI cZ : ClassId} {sz : Nat} (h x rd t d nw ps im is_ bk qr pr cv ft ta tb tc td te nwc c1 c2 c3 c4 c5 c6 : Nat) (q1 : Int32) (q2 : Int32) (q10 : Int32) (q12 : Int32) (k0 : Int32) (k1 : Int32) (k2 : Int32) (k3 : Int32) (k4 : Int32) (t0 : Int32) (t1 : Int32) (t2 : Int32) (t3 : Int32) (t4 : Int32) (fta : Nat → Int32) (ftc : Nat → Int32) (fn : Nat → Int32) (v0 : Int32) (v7 : Int32) (v8 : Int32) (fc2 : Nat → Int32) (fc3 : Nat → Int32) (b_ : Int32) : KV l yX9_noteOpenings cX9_noteOpenings 6 rm_e_noteOpenings_x9 D cI cZ [.ref h, .int b_] sz [(h, .inr (9, [.ref x, .int q1, .int q2, .ref rd, .ref t, .ref d, .ref nw, .ref ps, .ref im, .ref is_, .int q10, .ref bk, .int q12, .ref qr, .ref pr, .ref cv, .ref ft])), (qr, .inr (4, [.int k0, .int k1, .int k2, .int k3, .int k4])), (t, .inr (8, [.int t0, .int t1, .int t2, .int t3, .int t4, .ref ta, .ref tb, .ref tc, .ref td, .ref te])), (ta, .inl (cI, 6, .inl fta)), (tc, .inl (cI, 30, .inl ftc)), (nw, .inr (7, [.ref nwc])), (nwc, .inl (cI, 41, .inl fn)), (cv, .inr (1, [.int v0, .ref c1, .ref c2, .ref c3, .ref c4, .ref c5, .ref c6, .int v7, .int v8, .ref t])), (c2, .inl (cI, 6, .inl fc2)), (c3, .inl (cI, 48, .inl fc3))] (fun (u : Int32 × Int32 × Int32 × Int32 × Int32 × (Nat → Int32) × (Nat → Int32)) => u = f_e_noteOpenings_x9 q1 q2 q10 q12 k0 k1 k2 k3 k4 t0 t1 t2 t3 t4 fta ftc fn v0 v7 v8 fc2 fc3 b_) (fun (u : Int32 × Int32 × Int32 × Int32 × Int32 × (Nat → Int32) × (Nat → Int32)) => [(h, .inr (9, [.ref x, .int q1, .int q2, .ref rd, .ref t, .ref d, .ref nw, .ref ps, .ref im, .ref is_, .int q10, .ref bk, .int q12, .ref qr, .ref pr, .ref cv, .ref ft])), (qr, .inr (4, [.int (u.1), .int (u.2.1), .int (u.2.2.1), .int (u.2.2.2.1), .int (u.2.2.2.2.1)])), (t, .inr (8, [.int t0, .int t1, .int t2, .int t3, .int t4, .ref ta, .ref tb, .ref tc, .ref td, .ref te])), (ta, .inl (cI, 6, .inl fta)), (tc, .inl (cI, 30, .inl ftc)), (nw, .inr (7, [.ref nwc])), (nwc, .inl (cI, 41, .inl fn)), (cv, .inr (1, [.int v0, .ref c1, .ref c2, .ref c3, .ref c4, .ref c5, .ref c6, .int v7, .int v8, .ref t])), (c2, .inl (cI, 6, .inl u.2.2.2.2.2.1)), (c3, .inl (cI, 48, .inl u.2.2.2.2.2.2))]) := by
  refine KV.go rfl (Nat.le_of_ble_eq_true rfl) ?_
  intro p e s m args below meth c ls A Q hx hb hml hts hown hin hP hK hD hS hA hN hl hret
  have hl : lv_has ls 6 [(0, .ref h), (1, .int b_)] := hl
  obtain ⟨RES, hE⟩ : ∃ xRES, f_e_noteOpenings_x9 q1 q2 q10 q12 k0 k1 k2 k3 k4 t0 t1 t2 t3 t4 fta ftc fn v0 v7 v8 fc2 fc3 b_ = xRES := ⟨_, rfl⟩
  rw [hE] at hret
  rw [f_e_noteOpenings_x9] at hE
  refine lv_aload_n hx hb dX9_noteOpenings_0 rfl (lv_at hl 0 rfl) ?_
  refine va_get (D := D) (ci := 9) (v := .ref nw) (C := RX9) (T := TX9) (N := 17) hx hb hts iX9 hown hK hP 0 rfl rfl 6 (Nat.le_of_ble_eq_true rfl) (hts _ wd_96) (fun _ h9 => h9) rfl dX9_noteOpenings_1 ?_
  refine lv_iload_n hx hb dX9_noteOpenings_4 rfl (lv_at hl 1 rfl) ?_
  refine cVi (wr := [(h, .inr (9, [.ref x, .int q1, .int q2, .ref rd, .ref t, .ref d, .ref nw, .ref ps, .ref im, .ref is_, .int q10, .ref bk, .int q12, .ref qr, .ref pr, .ref cv, .ref ft])), (qr, .inr (4, [.int k0, .int k1, .int k2, .int k3, .int k4])), (t, .inr (8, [.int t0, .int t1, .int t2, .int t3, .int t4, .ref ta, .ref tb, .ref tc, .ref td, .ref te])), (ta, .inl (cI, 6, .inl fta)), (tc, .inl (cI, 30, .inl ftc)), (cv, .inr (1, [.int v0, .ref c1, .ref c2, .ref c3, .ref c4, .ref c5, .ref c6, .int v7, .int v8, .ref t])), (c2, .inl (cI, 6, .inl fc2)), (c3, .inl (cI, 48, .inl fc3))]) (rest := []) (e_coupleAt nw nwc fn b_) okV_X7_coupleAt wd_287 hx hb hml hown hts hK hP hD hS hA hN hl.1 [5, 6] [0, 1, 2, 3, 4, 7, 8, 9] rfl rfl rfl rfl (of_decide_eq_true rfl) rfl rfl rfl (Nat.le_of_ble_eq_true rfl) (Nat.le_of_ble_eq_true rfl) (Nat.le_of_ble_eq_true rfl) (Nat.le_of_ble_eq_true rfl) (Nat.le_of_ble_eq_true rfl) dX9_noteOpenings_5 (fun r_2 u_1 H locs hw_u_1 hP hD hS => ?_)
  replace hw_u_1 : r_2 = (f_e_coupleAt fn b_) := hw_u_1
  rw [hw_u_1]
  clear hw_u_1
  have hP : va_P D classes [(h, .inr (9, [.ref x, .int q1, .int q2, .ref rd, .ref t, .ref d, .ref nw, .ref ps, .ref im, .ref is_, .int q10, .ref bk, .int q12, .ref qr, .ref pr, .ref cv, .ref ft])), (qr, .inr (4, [.int k0, .int k1, .int k2, .int k3, .int k4])), (t, .inr (8, [.int t0, .int t1, .int t2, .int t3, .int t4, .ref ta, .ref tb, .ref tc, .ref td, .ref te])), (ta, .inl (cI, 6, .inl fta)), (tc, .inl (cI, 30, .inl ftc)), (cv, .inr (1, [.int v0, .ref c1, .ref c2, .ref c3, .ref c4, .ref c5, .ref c6, .int v7, .int v8, .ref t])), (c2, .inl (cI, 6, .inl fc2)), (c3, .inl (cI, 48, .inl fc3)), (nw, .inr (7, [.ref nwc])), (nwc, .inl (cI, 41, .inl fn))] H := hP
  have hD : va_D A [(h, .inr (9, [.ref x, .int q1, .int q2, .ref rd, .ref t, .ref d, .ref nw, .ref ps, .ref im, .ref is_, .int q10, .ref bk, .int q12, .ref qr, .ref pr, .ref cv, .ref ft])), (qr, .inr (4, [.int k0, .int k1, .int k2, .int k3, .int k4])), (t, .inr (8, [.int t0, .int t1, .int t2, .int t3, .int t4, .ref ta, .ref tb, .ref tc, .ref td, .ref te])), (ta, .inl (cI, 6, .inl fta)), (tc, .inl (cI, 30, .inl ftc)), (cv, .inr (1, [.int v0, .ref c1, .ref c2, .ref c3, .ref c4, .ref c5, .ref c6, .int v7, .int v8, .ref t])), (c2, .inl (cI, 6, .inl fc2)), (c3, .inl (cI, 48, .inl fc3)), (nw, .inr (7, [.ref nwc])), (nwc, .inl (cI, 41, .inl fn))] := hD
  refine lv_istore_n (lv' := [(2, .int (f_e_coupleAt fn b_)), (0, .ref h), (1, .int b_)]) hx hb dX9_noteOpenings_8 rfl hl (Nat.le_of_ble_eq_true rfl) rfl (fun ls hl => ?_)
  refine lv_iload_n hx hb dX9_noteOpenings_9 rfl (lv_at hl 0 rfl) ?_
  refine lv_iconst (v := (-1)) hx hb dX9_noteOpenings_10 rfl ?_
  refine lv_icmp_ne (tgt := 15) hx hb dX9_noteOpenings_11 rfl (fun c_3 => ?_) (fun c_3 => ?_)
  · rw [if_neg c_3] at hE
    refine lv_aload_n hx hb dX9_noteOpenings_15 rfl (lv_at hl 1 rfl) ?_
    refine va_get (D := D) (ci := 9) (v := .ref nw) (C := RX9) (T := TX9) (N := 17) hx hb hts iX9 hown hK hP 0 rfl rfl 6 (Nat.le_of_ble_eq_true rfl) (hts _ wd_96) (fun _ h9 => h9) rfl dX9_noteOpenings_16 ?_
    refine lv_iload_n hx hb dX9_noteOpenings_19 rfl (lv_at hl 0 rfl) ?_
    refine cVi (wr := [(h, .inr (9, [.ref x, .int q1, .int q2, .ref rd, .ref t, .ref d, .ref nw, .ref ps, .ref im, .ref is_, .int q10, .ref bk, .int q12, .ref qr, .ref pr, .ref cv, .ref ft])), (qr, .inr (4, [.int k0, .int k1, .int k2, .int k3, .int k4])), (t, .inr (8, [.int t0, .int t1, .int t2, .int t3, .int t4, .ref ta, .ref tb, .ref tc, .ref td, .ref te])), (ta, .inl (cI, 6, .inl fta)), (tc, .inl (cI, 30, .inl ftc)), (cv, .inr (1, [.int v0, .ref c1, .ref c2, .ref c3, .ref c4, .ref c5, .ref c6, .int v7, .int v8, .ref t])), (c2, .inl (cI, 6, .inl fc2)), (c3, .inl (cI, 48, .inl fc3))]) (rest := []) (e_grievanceOf nw nwc fn (f_e_coupleAt fn b_)) okV_X7_grievanceOf wd_251 hx hb hml hown hts hK hP hD hS hA hN hl.1 [8, 9] [0, 1, 2, 3, 4, 5, 6, 7] rfl rfl rfl rfl (of_decide_eq_true rfl) rfl rfl rfl (Nat.le_of_ble_eq_true rfl) (Nat.le_of_ble_eq_true rfl) (Nat.le_of_ble_eq_true rfl) (Nat.le_of_ble_eq_true rfl) (Nat.le_of_ble_eq_true rfl) dX9_noteOpenings_20 (fun r_5 u_4 H locs hw_u_4 hP hD hS => ?_)
    replace hw_u_4 : r_5 = (f_e_grievanceOf fn (f_e_coupleAt fn b_)) := hw_u_4
    rw [hw_u_4]
    clear hw_u_4
    have hP : va_P D classes [(h, .inr (9, [.ref x, .int q1, .int q2, .ref rd, .ref t, .ref d, .ref nw, .ref ps, .ref im, .ref is_, .int q10, .ref bk, .int q12, .ref qr, .ref pr, .ref cv, .ref ft])), (qr, .inr (4, [.int k0, .int k1, .int k2, .int k3, .int k4])), (t, .inr (8, [.int t0, .int t1, .int t2, .int t3, .int t4, .ref ta, .ref tb, .ref tc, .ref td, .ref te])), (ta, .inl (cI, 6, .inl fta)), (tc, .inl (cI, 30, .inl ftc)), (cv, .inr (1, [.int v0, .ref c1, .ref c2, .ref c3, .ref c4, .ref c5, .ref c6, .int v7, .int v8, .ref t])), (c2, .inl (cI, 6, .inl fc2)), (c3, .inl (cI, 48, .inl fc3)), (nw, .inr (7, [.ref nwc])), (nwc, .inl (cI, 41, .inl fn))] H := hP
    have hD : va_D A [(h, .inr (9, [.ref x, .int q1, .int q2, .ref rd, .ref t, .ref d, .ref nw, .ref ps, .ref im, .ref is_, .int q10, .ref bk, .int q12, .ref qr, .ref pr, .ref cv, .ref ft])), (qr, .inr (4, [.int k0, .int k1, .int k2, .int k3, .int k4])), (t, .inr (8, [.int t0, .int t1, .int t2, .int t3, .int t4, .ref ta, .ref tb, .ref tc, .ref td, .ref te])), (ta, .inl (cI, 6, .inl fta)), (tc, .inl (cI, 30, .inl ftc)), (cv, .inr (1, [.int v0, .ref c1, .ref c2, .ref c3, .ref c4, .ref c5, .ref c6, .int v7, .int v8, .ref t])), (c2, .inl (cI, 6, .inl fc2)), (c3, .inl (cI, 48, .inl fc3)), (nw, .inr (7, [.ref nwc])), (nwc, .inl (cI, 41, .inl fn))] := hD
    refine lv_istore_n (lv' := [(3, .int (f_e_grievanceOf fn (f_e_coupleAt fn b_))), (2, .int (f_e_coupleAt fn b_)), (0, .ref h), (1, .int b_)]) hx hb dX9_noteOpenings_23 rfl hl (Nat.le_of_ble_eq_true rfl) rfl (fun ls hl => ?_)
    refine lv_aload_n hx hb dX9_noteOpenings_24 rfl (lv_at hl 2 rfl) ?_
    refine va_get (D := D) (ci := 9) (v := .ref t) (C := RX9) (T := TX9) (N := 17) hx hb hts iX9 hown hK hP 0 rfl rfl 4 (Nat.le_of_ble_eq_true rfl) (hts _ wd_89) (fun _ h9 => h9) rfl dX9_noteOpenings_25 ?_
    refine lv_iload_n hx hb dX9_noteOpenings_28 rfl (lv_at hl 1 rfl) ?_
    refine lv_aload_n hx hb dX9_noteOpenings_29 rfl (lv_at hl 2 rfl) ?_
    refine va_get (D := D) (ci := 9) (v := .ref nw) (C := RX9) (T := TX9) (N := 17) hx hb hts iX9 hown hK hP 0 rfl rfl 6 (Nat.le_of_ble_eq_true rfl) (hts _ wd_96) (fun _ h9 => h9) rfl dX9_noteOpenings_30 ?_
    refine lv_iload_n hx hb dX9_noteOpenings_33 rfl (lv_at hl 1 rfl) ?_
    refine cVi (wr := [(h, .inr (9, [.ref x, .int q1, .int q2, .ref rd, .ref t, .ref d, .ref nw, .ref ps, .ref im, .ref is_, .int q10, .ref bk, .int q12, .ref qr, .ref pr, .ref cv, .ref ft])), (qr, .inr (4, [.int k0, .int k1, .int k2, .int k3, .int k4])), (t, .inr (8, [.int t0, .int t1, .int t2, .int t3, .int t4, .ref ta, .ref tb, .ref tc, .ref td, .ref te])), (ta, .inl (cI, 6, .inl fta)), (tc, .inl (cI, 30, .inl ftc)), (cv, .inr (1, [.int v0, .ref c1, .ref c2, .ref c3, .ref c4, .ref c5, .ref c6, .int v7, .int v8, .ref t])), (c2, .inl (cI, 6, .inl fc2)), (c3, .inl (cI, 48, .inl fc3))]) (rest := [.int (f_e_coupleAt fn b_), .ref t]) (e_themeOf nw nwc fn (f_e_coupleAt fn b_)) okV_X7_themeOf wd_291 hx hb hml hown hts hK hP hD hS hA hN hl.1 [8, 9] [0, 1, 2, 3, 4, 5, 6, 7] rfl rfl rfl rfl (of_decide_eq_true rfl) rfl rfl rfl (Nat.le_of_ble_eq_true rfl) (Nat.le_of_ble_eq_true rfl) (Nat.le_of_ble_eq_true rfl) (Nat.le_of_ble_eq_true rfl) (Nat.le_of_ble_eq_true rfl) dX9_noteOpenings_34 (fun r_7 u_6 H locs hw_u_6 hP hD hS => ?_)
    replace hw_u_6 : r_7 = (f_e_themeOf fn (f_e_coupleAt fn b_)) := hw_u_6
    rw [hw_u_6]
    clear hw_u_6
    have hP : va_P D classes [(h, .inr (9, [.ref x, .int q1, .int q2, .ref rd, .ref t, .ref d, .ref nw, .ref ps, .ref im, .ref is_, .int q10, .ref bk, .int q12, .ref qr, .ref pr, .ref cv, .ref ft])), (qr, .inr (4, [.int k0, .int k1, .int k2, .int k3, .int k4])), (t, .inr (8, [.int t0, .int t1, .int t2, .int t3, .int t4, .ref ta, .ref tb, .ref tc, .ref td, .ref te])), (ta, .inl (cI, 6, .inl fta)), (tc, .inl (cI, 30, .inl ftc)), (cv, .inr (1, [.int v0, .ref c1, .ref c2, .ref c3, .ref c4, .ref c5, .ref c6, .int v7, .int v8, .ref t])), (c2, .inl (cI, 6, .inl fc2)), (c3, .inl (cI, 48, .inl fc3)), (nw, .inr (7, [.ref nwc])), (nwc, .inl (cI, 41, .inl fn))] H := hP
    have hD : va_D A [(h, .inr (9, [.ref x, .int q1, .int q2, .ref rd, .ref t, .ref d, .ref nw, .ref ps, .ref im, .ref is_, .int q10, .ref bk, .int q12, .ref qr, .ref pr, .ref cv, .ref ft])), (qr, .inr (4, [.int k0, .int k1, .int k2, .int k3, .int k4])), (t, .inr (8, [.int t0, .int t1, .int t2, .int t3, .int t4, .ref ta, .ref tb, .ref tc, .ref td, .ref te])), (ta, .inl (cI, 6, .inl fta)), (tc, .inl (cI, 30, .inl ftc)), (cv, .inr (1, [.int v0, .ref c1, .ref c2, .ref c3, .ref c4, .ref c5, .ref c6, .int v7, .int v8, .ref t])), (c2, .inl (cI, 6, .inl fc2)), (c3, .inl (cI, 48, .inl fc3)), (nw, .inr (7, [.ref nwc])), (nwc, .inl (cI, 41, .inl fn))] := hD
    refine cVi (wr := [(h, .inr (9, [.ref x, .int q1, .int q2, .ref rd, .ref t, .ref d, .ref nw, .ref ps, .ref im, .ref is_, .int q10, .ref bk, .int q12, .ref qr, .ref pr, .ref cv, .ref ft])), (qr, .inr (4, [.int k0, .int k1, .int k2, .int k3, .int k4])), (ta, .inl (cI, 6, .inl fta)), (cv, .inr (1, [.int v0, .ref c1, .ref c2, .ref c3, .ref c4, .ref c5, .ref c6, .int v7, .int v8, .ref t])), (c2, .inl (cI, 6, .inl fc2)), (c3, .inl (cI, 48, .inl fc3)), (nw, .inr (7, [.ref nwc])), (nwc, .inl (cI, 41, .inl fn))]) (rest := []) (e_forceOf_x8 t ta tb tc td te t0 t1 t2 t3 t4 ftc (f_e_coupleAt fn b_) (f_e_themeOf fn (f_e_coupleAt fn b_))) okV_X8_forceOf wd_252 hx hb hml hown hts hK hP hD hS hA hN hl.1 [2, 4] [0, 1, 3, 5, 6, 7, 8, 9] rfl rfl rfl rfl (of_decide_eq_true rfl) rfl rfl rfl (Nat.le_of_ble_eq_true rfl) (Nat.le_of_ble_eq_true rfl) (Nat.le_of_ble_eq_true rfl) (Nat.le_of_ble_eq_true rfl) (Nat.le_of_ble_eq_true rfl) dX9_noteOpenings_37 (fun r_9 u_8 H locs hw_u_8 hP hD hS => ?_)
    replace hw_u_8 : r_9 = (f_e_forceOf_x8 t0 t1 t2 t3 t4 ftc (f_e_coupleAt fn b_) (f_e_themeOf fn (f_e_coupleAt fn b_))) := hw_u_8
    rw [hw_u_8]
    clear hw_u_8
    have hP : va_P D classes [(h, .inr (9, [.ref x, .int q1, .int q2, .ref rd, .ref t, .ref d, .ref nw, .ref ps, .ref im, .ref is_, .int q10, .ref bk, .int q12, .ref qr, .ref pr, .ref cv, .ref ft])), (qr, .inr (4, [.int k0, .int k1, .int k2, .int k3, .int k4])), (ta, .inl (cI, 6, .inl fta)), (cv, .inr (1, [.int v0, .ref c1, .ref c2, .ref c3, .ref c4, .ref c5, .ref c6, .int v7, .int v8, .ref t])), (c2, .inl (cI, 6, .inl fc2)), (c3, .inl (cI, 48, .inl fc3)), (nw, .inr (7, [.ref nwc])), (nwc, .inl (cI, 41, .inl fn)), (t, .inr (8, [.int t0, .int t1, .int t2, .int t3, .int t4, .ref ta, .ref tb, .ref tc, .ref td, .ref te])), (tc, .inl (cI, 30, .inl ftc))] H := hP
    have hD : va_D A [(h, .inr (9, [.ref x, .int q1, .int q2, .ref rd, .ref t, .ref d, .ref nw, .ref ps, .ref im, .ref is_, .int q10, .ref bk, .int q12, .ref qr, .ref pr, .ref cv, .ref ft])), (qr, .inr (4, [.int k0, .int k1, .int k2, .int k3, .int k4])), (ta, .inl (cI, 6, .inl fta)), (cv, .inr (1, [.int v0, .ref c1, .ref c2, .ref c3, .ref c4, .ref c5, .ref c6, .int v7, .int v8, .ref t])), (c2, .inl (cI, 6, .inl fc2)), (c3, .inl (cI, 48, .inl fc3)), (nw, .inr (7, [.ref nwc])), (nwc, .inl (cI, 41, .inl fn)), (t, .inr (8, [.int t0, .int t1, .int t2, .int t3, .int t4, .ref ta, .ref tb, .ref tc, .ref td, .ref te])), (tc, .inl (cI, 30, .inl ftc))] := hD
    refine lv_istore (lv' := [(4, .int (f_e_forceOf_x8 t0 t1 t2 t3 t4 ftc (f_e_coupleAt fn b_) (f_e_themeOf fn (f_e_coupleAt fn b_)))), (3, .int (f_e_grievanceOf fn (f_e_coupleAt fn b_))), (2, .int (f_e_coupleAt fn b_)), (0, .ref h), (1, .int b_)]) hx hb dX9_noteOpenings_40 hl (Nat.le_of_ble_eq_true rfl) rfl (fun ls hl => ?_)
    refine lv_iconst (v := 0) hx hb dX9_noteOpenings_42 rfl ?_
    refine lv_istore (lv' := [(5, .int 0), (4, .int (f_e_forceOf_x8 t0 t1 t2 t3 t4 ftc (f_e_coupleAt fn b_) (f_e_themeOf fn (f_e_coupleAt fn b_)))), (3, .int (f_e_grievanceOf fn (f_e_coupleAt fn b_))), (2, .int (f_e_coupleAt fn b_)), (0, .ref h), (1, .int b_)]) hx hb dX9_noteOpenings_43 hl (Nat.le_of_ble_eq_true rfl) rfl (fun ls hl => ?_)
    have ex_45_w_10 : ∀ (w_10l5 : Int32) (w_10l3 : Int32) (w_10m0 : Int32) (w_10m1 : Int32) (w_10m2 : Int32) (w_10m3 : Int32) (w_10m4 : Int32) (w_10m5 : (Nat → Int32)) (w_10m6 : (Nat → Int32)) (H : Heap) (locs : List Loc) (ls : Array Slot), va_P D classes [(h, .inr (9, [.ref x, .int q1, .int q2, .ref rd, .ref t, .ref d, .ref nw, .ref ps, .ref im, .ref is_, .int q10, .ref bk, .int q12, .ref qr, .ref pr, .ref cv, .ref ft])), (qr, .inr (4, [.int w_10m0, .int w_10m1, .int w_10m2, .int w_10m3, .int w_10m4])), (ta, .inl (cI, 6, .inl fta)), (cv, .inr (1, [.int v0, .ref c1, .ref c2, .ref c3, .ref c4, .ref c5, .ref c6, .int v7, .int v8, .ref t])), (c2, .inl (cI, 6, .inl w_10m5)), (c3, .inl (cI, 48, .inl w_10m6)), (nw, .inr (7, [.ref nwc])), (nwc, .inl (cI, 41, .inl fn)), (t, .inr (8, [.int t0, .int t1, .int t2, .int t3, .int t4, .ref ta, .ref tb, .ref tc, .ref td, .ref te])), (tc, .inl (cI, 30, .inl ftc))] H → va_D A [(h, .inr (9, [.ref x, .int q1, .int q2, .ref rd, .ref t, .ref d, .ref nw, .ref ps, .ref im, .ref is_, .int q10, .ref bk, .int q12, .ref qr, .ref pr, .ref cv, .ref ft])), (qr, .inr (4, [.int w_10m0, .int w_10m1, .int w_10m2, .int w_10m3, .int w_10m4])), (ta, .inl (cI, 6, .inl fta)), (cv, .inr (1, [.int v0, .ref c1, .ref c2, .ref c3, .ref c4, .ref c5, .ref c6, .int v7, .int v8, .ref t])), (c2, .inl (cI, 6, .inl w_10m5)), (c3, .inl (cI, 48, .inl w_10m6)), (nw, .inr (7, [.ref nwc])), (nwc, .inl (cI, 41, .inl fn)), (t, .inr (8, [.int t0, .int t1, .int t2, .int t3, .int t4, .ref ta, .ref tb, .ref tc, .ref td, .ref te])), (tc, .inl (cI, 30, .inl ftc))] → va_S A s.heap H locs → lv_has ls 6 [(5, .int w_10l5), (4, .int (f_e_forceOf_x8 t0 t1 t2 t3 t4 ftc (f_e_coupleAt fn b_) (f_e_themeOf fn (f_e_coupleAt fn b_)))), (3, .int w_10l3), (2, .int (f_e_coupleAt fn b_)), (0, .ref h), (1, .int b_)] → ((w_10m0, w_10m1, w_10m2, w_10m3, w_10m4, w_10m5, w_10m6)) = RES → W p l e rm_e_noteOpenings_x9 s m args below meth c H locs 0 0 Q (F0 m 130 ls []) := by
      intro w_10l5 w_10l3 w_10m0 w_10m1 w_10m2 w_10m3 w_10m4 w_10m5 w_10m6 H locs ls hP hD hS hl hE
      exact hret (w_10m0, w_10m1, w_10m2, w_10m3, w_10m4, w_10m5, w_10m6) _ _ _ _ dX9_noteOpenings_130 hE (cutP (isC := [0, 1, 8, 2, 9, 6, 7, 3, 4, 5]) hP rfl) (cutD (isC := [0, 1, 8, 2, 9, 6, 7, 3, 4, 5]) hD rfl rfl) hS
    have lp_45_w_10 : ∀ (n_w_10 : Nat) (w_10l5 : Int32) (w_10l3 : Int32) (w_10m0 : Int32) (w_10m1 : Int32) (w_10m2 : Int32) (w_10m3 : Int32) (w_10m4 : Int32) (w_10m5 : (Nat → Int32)) (w_10m6 : (Nat → Int32)) (H : Heap) (locs : List Loc) (ls : Array Slot), va_P D classes [(h, .inr (9, [.ref x, .int q1, .int q2, .ref rd, .ref t, .ref d, .ref nw, .ref ps, .ref im, .ref is_, .int q10, .ref bk, .int q12, .ref qr, .ref pr, .ref cv, .ref ft])), (qr, .inr (4, [.int w_10m0, .int w_10m1, .int w_10m2, .int w_10m3, .int w_10m4])), (ta, .inl (cI, 6, .inl fta)), (cv, .inr (1, [.int v0, .ref c1, .ref c2, .ref c3, .ref c4, .ref c5, .ref c6, .int v7, .int v8, .ref t])), (c2, .inl (cI, 6, .inl w_10m5)), (c3, .inl (cI, 48, .inl w_10m6)), (nw, .inr (7, [.ref nwc])), (nwc, .inl (cI, 41, .inl fn)), (t, .inr (8, [.int t0, .int t1, .int t2, .int t3, .int t4, .ref ta, .ref tb, .ref tc, .ref td, .ref te])), (tc, .inl (cI, 30, .inl ftc))] H → va_D A [(h, .inr (9, [.ref x, .int q1, .int q2, .ref rd, .ref t, .ref d, .ref nw, .ref ps, .ref im, .ref is_, .int q10, .ref bk, .int q12, .ref qr, .ref pr, .ref cv, .ref ft])), (qr, .inr (4, [.int w_10m0, .int w_10m1, .int w_10m2, .int w_10m3, .int w_10m4])), (ta, .inl (cI, 6, .inl fta)), (cv, .inr (1, [.int v0, .ref c1, .ref c2, .ref c3, .ref c4, .ref c5, .ref c6, .int v7, .int v8, .ref t])), (c2, .inl (cI, 6, .inl w_10m5)), (c3, .inl (cI, 48, .inl w_10m6)), (nw, .inr (7, [.ref nwc])), (nwc, .inl (cI, 41, .inl fn)), (t, .inr (8, [.int t0, .int t1, .int t2, .int t3, .int t4, .ref ta, .ref tb, .ref tc, .ref td, .ref te])), (tc, .inl (cI, 30, .inl ftc))] → va_S A s.heap H locs → lv_has ls 6 [(5, .int w_10l5), (4, .int (f_e_forceOf_x8 t0 t1 t2 t3 t4 ftc (f_e_coupleAt fn b_) (f_e_themeOf fn (f_e_coupleAt fn b_)))), (3, .int w_10l3), (2, .int (f_e_coupleAt fn b_)), (0, .ref h), (1, .int b_)] → ((7 : Int32).toInt - (w_10l5 : Int32).toInt).toNat < n_w_10 → (match (f_e_noteOpenings_x9_45 q1 q2 q10 q12 k0 k1 k2 k3 k4 t0 t1 t2 t3 t4 fta ftc fn v0 v7 v8 fc2 fc3 b_ n_w_10 w_10l5 w_10l3 w_10m0 w_10m1 w_10m2 w_10m3 w_10m4 w_10m5 w_10m6) with | Sum.inl (w_10l5, w_10l3, w_10m0, w_10m1, w_10m2, w_10m3, w_10m4, w_10m5, w_10m6) => (w_10m0, w_10m1, w_10m2, w_10m3, w_10m4, w_10m5, w_10m6) | Sum.inr o => o) = RES → W p l e rm_e_noteOpenings_x9 s m args below meth c H locs 0 0 Q (F0 m 45 ls []) := by
      intro n_w_10
      induction n_w_10 with
      | zero => intro w_10l5 w_10l3 w_10m0 w_10m1 w_10m2 w_10m3 w_10m4 w_10m5 w_10m6 H locs ls hP hD hS hl hm; exact absurd hm (Nat.not_lt_zero _)
      | succ n_w_10 ih_w_10 =>
        intro w_10l5 w_10l3 w_10m0 w_10m1 w_10m2 w_10m3 w_10m4 w_10m5 w_10m6 H locs ls hP hD hS hl hm hE
        rw [f_e_noteOpenings_x9_45_s] at hE
        refine lv_iload hx hb dX9_noteOpenings_45 (lv_at hl 0 rfl) ?_
        refine lv_bipush (v := 7) hx hb dX9_noteOpenings_47 rfl ?_
        refine lv_icmp_ge (tgt := 130) hx hb dX9_noteOpenings_49 rfl (fun c_11 => ?_) (fun c_11 => ?_)
        · rw [if_pos c_11] at hE
          exact ex_45_w_10 w_10l5 w_10l3 w_10m0 w_10m1 w_10m2 w_10m3 w_10m4 w_10m5 w_10m6 _ _ ls hP hD hS (lv_sub hl [0, 1, 2, 3, 4, 5] rfl) hE
        · rw [if_neg c_11] at hE
          refine lv_aload_n hx hb dX9_noteOpenings_52 rfl (lv_at hl 4 rfl) ?_
          refine va_get (D := D) (ci := 9) (v := .ref qr) (C := RX9) (T := TX9) (N := 17) hx hb hts iX9 hown hK hP 0 rfl rfl 13 (Nat.le_of_ble_eq_true rfl) (hts _ wd_120) (fun _ h9 => h9) rfl dX9_noteOpenings_53 ?_
          refine lv_iload_n hx hb dX9_noteOpenings_56 rfl (lv_at hl 2 rfl) ?_
          refine lv_iload hx hb dX9_noteOpenings_57 (lv_at hl 1 rfl) ?_
          refine lv_aload_n hx hb dX9_noteOpenings_59 rfl (lv_at hl 4 rfl) ?_
          refine va_get (D := D) (ci := 9) (v := .ref t) (C := RX9) (T := TX9) (N := 17) hx hb hts iX9 hown hK hP 0 rfl rfl 4 (Nat.le_of_ble_eq_true rfl) (hts _ wd_89) (fun _ h9 => h9) rfl dX9_noteOpenings_60 ?_
          refine va_get (D := D) (ci := 8) (v := .int t4) (C := RX8) (T := TX8) (N := 10) hx hb hts iX8 hown hK hP 8 rfl rfl 4 (Nat.le_of_ble_eq_true rfl) (hts _ wd_256) (fun _ h9 => h9) rfl dX9_noteOpenings_63 ?_
          refine lv_aload_n hx hb dX9_noteOpenings_66 rfl (lv_at hl 4 rfl) ?_
          refine va_get (D := D) (ci := 9) (v := .ref t) (C := RX9) (T := TX9) (N := 17) hx hb hts iX9 hown hK hP 0 rfl rfl 4 (Nat.le_of_ble_eq_true rfl) (hts _ wd_89) (fun _ h9 => h9) rfl dX9_noteOpenings_67 ?_
          refine va_get (D := D) (ci := 8) (v := .ref ta) (C := RX8) (T := TX8) (N := 10) hx hb hts iX8 hown hK hP 8 rfl rfl 5 (Nat.le_of_ble_eq_true rfl) (hts _ wd_257) (fun _ h9 => h9) rfl dX9_noteOpenings_70 ?_
          refine lv_iload_n hx hb dX9_noteOpenings_73 rfl (lv_at hl 5 rfl) ?_
          refine cSi (wr := [(h, .inr (9, [.ref x, .int q1, .int q2, .ref rd, .ref t, .ref d, .ref nw, .ref ps, .ref im, .ref is_, .int q10, .ref bk, .int q12, .ref qr, .ref pr, .ref cv, .ref ft])), (qr, .inr (4, [.int w_10m0, .int w_10m1, .int w_10m2, .int w_10m3, .int w_10m4])), (cv, .inr (1, [.int v0, .ref c1, .ref c2, .ref c3, .ref c4, .ref c5, .ref c6, .int v7, .int v8, .ref t])), (c2, .inl (cI, 6, .inl w_10m5)), (c3, .inl (cI, 48, .inl w_10m6)), (nw, .inr (7, [.ref nwc])), (nwc, .inl (cI, 41, .inl fn)), (t, .inr (8, [.int t0, .int t1, .int t2, .int t3, .int t4, .ref ta, .ref tb, .ref tc, .ref td, .ref te])), (tc, .inl (cI, 30, .inl ftc))]) (rest := [.int t4, .int (f_e_forceOf_x8 t0 t1 t2 t3 t4 ftc (f_e_coupleAt fn b_) (f_e_themeOf fn (f_e_coupleAt fn b_))), .int w_10l3, .ref qr]) (k_at ta 6 fta b_ (of_decide_eq_true rfl)) okS_X9_at wd_258 hx hb hml hown hts hK hP hD hS hA hN hl.1 [2] [0, 1, 3, 4, 5, 6, 7, 8, 9] rfl rfl rfl rfl (by decide) rfl (Nat.le_of_ble_eq_true rfl) (Nat.le_of_ble_eq_true rfl) (Nat.le_of_ble_eq_true rfl) (Nat.le_of_ble_eq_true rfl) (Nat.le_of_ble_eq_true rfl) dX9_noteOpenings_74 (fun r_13 u_12 H locs hw_u_12 hP hD hS => ?_)
          obtain rfl := hw_u_12
          have hP : va_P D classes [(h, .inr (9, [.ref x, .int q1, .int q2, .ref rd, .ref t, .ref d, .ref nw, .ref ps, .ref im, .ref is_, .int q10, .ref bk, .int q12, .ref qr, .ref pr, .ref cv, .ref ft])), (qr, .inr (4, [.int w_10m0, .int w_10m1, .int w_10m2, .int w_10m3, .int w_10m4])), (cv, .inr (1, [.int v0, .ref c1, .ref c2, .ref c3, .ref c4, .ref c5, .ref c6, .int v7, .int v8, .ref t])), (c2, .inl (cI, 6, .inl w_10m5)), (c3, .inl (cI, 48, .inl w_10m6)), (nw, .inr (7, [.ref nwc])), (nwc, .inl (cI, 41, .inl fn)), (t, .inr (8, [.int t0, .int t1, .int t2, .int t3, .int t4, .ref ta, .ref tb, .ref tc, .ref td, .ref te])), (tc, .inl (cI, 30, .inl ftc)), (ta, .inl (cI, 6, .inl fta))] H := hP
          have hD : va_D A [(h, .inr (9, [.ref x, .int q1, .int q2, .ref rd, .ref t, .ref d, .ref nw, .ref ps, .ref im, .ref is_, .int q10, .ref bk, .int q12, .ref qr, .ref pr, .ref cv, .ref ft])), (qr, .inr (4, [.int w_10m0, .int w_10m1, .int w_10m2, .int w_10m3, .int w_10m4])), (cv, .inr (1, [.int v0, .ref c1, .ref c2, .ref c3, .ref c4, .ref c5, .ref c6, .int v7, .int v8, .ref t])), (c2, .inl (cI, 6, .inl w_10m5)), (c3, .inl (cI, 48, .inl w_10m6)), (nw, .inr (7, [.ref nwc])), (nwc, .inl (cI, 41, .inl fn)), (t, .inr (8, [.int t0, .int t1, .int t2, .int t3, .int t4, .ref ta, .ref tb, .ref tc, .ref td, .ref te])), (tc, .inl (cI, 30, .inl ftc)), (ta, .inl (cI, 6, .inl fta))] := hD
          refine cVv (wr := [(h, .inr (9, [.ref x, .int q1, .int q2, .ref rd, .ref t, .ref d, .ref nw, .ref ps, .ref im, .ref is_, .int q10, .ref bk, .int q12, .ref qr, .ref pr, .ref cv, .ref ft])), (cv, .inr (1, [.int v0, .ref c1, .ref c2, .ref c3, .ref c4, .ref c5, .ref c6, .int v7, .int v8, .ref t])), (c2, .inl (cI, 6, .inl w_10m5)), (c3, .inl (cI, 48, .inl w_10m6)), (nw, .inr (7, [.ref nwc])), (nwc, .inl (cI, 41, .inl fn)), (t, .inr (8, [.int t0, .int t1, .int t2, .int t3, .int t4, .ref ta, .ref tb, .ref tc, .ref td, .ref te])), (tc, .inl (cI, 30, .inl ftc)), (ta, .inl (cI, 6, .inl fta))]) (rest := []) (e_run_x4 qr w_10m0 w_10m1 w_10m2 w_10m3 w_10m4 w_10l3 (f_e_forceOf_x8 t0 t1 t2 t3 t4 ftc (f_e_coupleAt fn b_) (f_e_themeOf fn (f_e_coupleAt fn b_))) t4 (atF 6 fta b_)) okV_X4_run wd_259 hx hb hml hown hts hK hP hD hS hA hN hl.1 [1] [0, 2, 3, 4, 5, 6, 7, 8, 9] rfl rfl rfl rfl (of_decide_eq_true rfl) rfl rfl rfl (Nat.le_of_ble_eq_true rfl) (Nat.le_of_ble_eq_true rfl) (Nat.le_of_ble_eq_true rfl) (Nat.le_of_ble_eq_true rfl) (Nat.le_of_ble_eq_true rfl) dX9_noteOpenings_77 (fun u_14 H locs hw_u_14 hP hD hS => ?_)
          obtain ⟨o_16, o_17, o_18, o_19, o_20⟩ := u_14
          replace hw_u_14 : (o_16, o_17, o_18, o_19, o_20) = (f_e_run_x4 w_10m0 w_10m1 w_10m2 w_10m3 w_10m4 w_10l3 (f_e_forceOf_x8 t0 t1 t2 t3 t4 ftc (f_e_coupleAt fn b_) (f_e_themeOf fn (f_e_coupleAt fn b_))) t4 (atF 6 fta b_)) := hw_u_14
          rw [← hw_u_14] at hE
          replace hE : (match (if o_19 = 0 then (Sum.inr (o_16, o_17, o_18, o_19, o_20, w_10m5, w_10m6)) else (if o_20 = 0 then (match (f_e_noteOpening_x1 v0 v7 v8 w_10m5 w_10m6 b_ o_16) with | (o_25, o_26) => (f_e_noteOpenings_x9_45 q1 q2 q10 q12 k0 k1 k2 k3 k4 t0 t1 t2 t3 t4 fta ftc fn v0 v7 v8 fc2 fc3 b_ n_w_10 (w_10l5 + 1) o_18 o_16 o_17 o_18 o_19 o_20 o_25 o_26)) else (Sum.inr (o_16, o_17, o_18, o_19, o_20, w_10m5, w_10m6)))) with | Sum.inl (w_10l5, w_10l3, w_10m0, w_10m1, w_10m2, w_10m3, w_10m4, w_10m5, w_10m6) => (w_10m0, w_10m1, w_10m2, w_10m3, w_10m4, w_10m5, w_10m6) | Sum.inr o => o) = RES := hE
          have hP : va_P D classes [(h, .inr (9, [.ref x, .int q1, .int q2, .ref rd, .ref t, .ref d, .ref nw, .ref ps, .ref im, .ref is_, .int q10, .ref bk, .int q12, .ref qr, .ref pr, .ref cv, .ref ft])), (cv, .inr (1, [.int v0, .ref c1, .ref c2, .ref c3, .ref c4, .ref c5, .ref c6, .int v7, .int v8, .ref t])), (c2, .inl (cI, 6, .inl w_10m5)), (c3, .inl (cI, 48, .inl w_10m6)), (nw, .inr (7, [.ref nwc])), (nwc, .inl (cI, 41, .inl fn)), (t, .inr (8, [.int t0, .int t1, .int t2, .int t3, .int t4, .ref ta, .ref tb, .ref tc, .ref td, .ref te])), (tc, .inl (cI, 30, .inl ftc)), (ta, .inl (cI, 6, .inl fta)), (qr, .inr (4, [.int o_16, .int o_17, .int o_18, .int o_19, .int o_20]))] H := hP
          have hD : va_D A [(h, .inr (9, [.ref x, .int q1, .int q2, .ref rd, .ref t, .ref d, .ref nw, .ref ps, .ref im, .ref is_, .int q10, .ref bk, .int q12, .ref qr, .ref pr, .ref cv, .ref ft])), (cv, .inr (1, [.int v0, .ref c1, .ref c2, .ref c3, .ref c4, .ref c5, .ref c6, .int v7, .int v8, .ref t])), (c2, .inl (cI, 6, .inl w_10m5)), (c3, .inl (cI, 48, .inl w_10m6)), (nw, .inr (7, [.ref nwc])), (nwc, .inl (cI, 41, .inl fn)), (t, .inr (8, [.int t0, .int t1, .int t2, .int t3, .int t4, .ref ta, .ref tb, .ref tc, .ref td, .ref te])), (tc, .inl (cI, 30, .inl ftc)), (ta, .inl (cI, 6, .inl fta)), (qr, .inr (4, [.int o_16, .int o_17, .int o_18, .int o_19, .int o_20]))] := hD
          refine lv_aload_n hx hb dX9_noteOpenings_80 rfl (lv_at hl 4 rfl) ?_
          refine va_get (D := D) (ci := 9) (v := .ref qr) (C := RX9) (T := TX9) (N := 17) hx hb hts iX9 hown hK hP 0 rfl rfl 13 (Nat.le_of_ble_eq_true rfl) (hts _ wd_120) (fun _ h9 => h9) rfl dX9_noteOpenings_81 ?_
          refine va_get (D := D) (ci := 4) (v := .int o_19) (C := RX4) (T := TX4) (N := 5) hx hb hts iX4 hown hK hP 9 rfl rfl 3 (Nat.le_of_ble_eq_true rfl) (hts _ wd_274) (fun _ h9 => h9) rfl dX9_noteOpenings_84 ?_
          refine lv_if_eq (tgt := 100) hx hb dX9_noteOpenings_87 rfl (fun c_21 => ?_) (fun c_21 => ?_)
          · rw [if_pos c_21] at hE
            exact hret (o_16, o_17, o_18, o_19, o_20, w_10m5, w_10m6) _ _ _ _ dX9_noteOpenings_100 hE (cutP (isC := [0, 9, 6, 8, 7, 4, 5, 1, 2, 3]) hP rfl) (cutD (isC := [0, 9, 6, 8, 7, 4, 5, 1, 2, 3]) hD rfl rfl) hS
          · rw [if_neg c_21] at hE
            refine lv_aload_n hx hb dX9_noteOpenings_90 rfl (lv_at hl 4 rfl) ?_
            refine va_get (D := D) (ci := 9) (v := .ref qr) (C := RX9) (T := TX9) (N := 17) hx hb hts iX9 hown hK hP 0 rfl rfl 13 (Nat.le_of_ble_eq_true rfl) (hts _ wd_120) (fun _ h9 => h9) rfl dX9_noteOpenings_91 ?_
            refine va_get (D := D) (ci := 4) (v := .int o_20) (C := RX4) (T := TX4) (N := 5) hx hb hts iX4 hown hK hP 9 rfl rfl 4 (Nat.le_of_ble_eq_true rfl) (hts _ wd_263) (fun _ h9 => h9) rfl dX9_noteOpenings_94 ?_
            refine lv_if_eq (tgt := 101) hx hb dX9_noteOpenings_97 rfl (fun c_22 => ?_) (fun c_22 => ?_)
            · rw [if_pos c_22] at hE
              refine lv_aload_n hx hb dX9_noteOpenings_101 rfl (lv_at hl 4 rfl) ?_
              refine va_get (D := D) (ci := 9) (v := .ref qr) (C := RX9) (T := TX9) (N := 17) hx hb hts iX9 hown hK hP 0 rfl rfl 13 (Nat.le_of_ble_eq_true rfl) (hts _ wd_120) (fun _ h9 => h9) rfl dX9_noteOpenings_102 ?_
              refine va_get (D := D) (ci := 4) (v := .int o_18) (C := RX4) (T := TX4) (N := 5) hx hb hts iX4 hown hK hP 9 rfl rfl 2 (Nat.le_of_ble_eq_true rfl) (hts _ wd_299) (fun _ h9 => h9) rfl dX9_noteOpenings_105 ?_
              refine lv_istore_n (lv' := [(3, .int o_18), (5, .int w_10l5), (4, .int (f_e_forceOf_x8 t0 t1 t2 t3 t4 ftc (f_e_coupleAt fn b_) (f_e_themeOf fn (f_e_coupleAt fn b_)))), (2, .int (f_e_coupleAt fn b_)), (0, .ref h), (1, .int b_)]) hx hb dX9_noteOpenings_108 rfl hl (Nat.le_of_ble_eq_true rfl) rfl (fun ls hl => ?_)
              refine lv_aload_n hx hb dX9_noteOpenings_109 rfl (lv_at hl 4 rfl) ?_
              refine va_get (D := D) (ci := 9) (v := .ref cv) (C := RX9) (T := TX9) (N := 17) hx hb hts iX9 hown hK hP 0 rfl rfl 15 (Nat.le_of_ble_eq_true rfl) (hts _ wd_132) (fun _ h9 => h9) rfl dX9_noteOpenings_110 ?_
              refine lv_iload_n hx hb dX9_noteOpenings_113 rfl (lv_at hl 5 rfl) ?_
              refine lv_aload_n hx hb dX9_noteOpenings_114 rfl (lv_at hl 4 rfl) ?_
              refine va_get (D := D) (ci := 9) (v := .ref qr) (C := RX9) (T := TX9) (N := 17) hx hb hts iX9 hown hK hP 0 rfl rfl 13 (Nat.le_of_ble_eq_true rfl) (hts _ wd_120) (fun _ h9 => h9) rfl dX9_noteOpenings_115 ?_
              refine va_get (D := D) (ci := 4) (v := .int o_16) (C := RX4) (T := TX4) (N := 5) hx hb hts iX4 hown hK hP 9 rfl rfl 0 (Nat.le_of_ble_eq_true rfl) (hts _ wd_264) (fun _ h9 => h9) rfl dX9_noteOpenings_118 ?_
              refine cVv (wr := [(h, .inr (9, [.ref x, .int q1, .int q2, .ref rd, .ref t, .ref d, .ref nw, .ref ps, .ref im, .ref is_, .int q10, .ref bk, .int q12, .ref qr, .ref pr, .ref cv, .ref ft])), (nw, .inr (7, [.ref nwc])), (nwc, .inl (cI, 41, .inl fn)), (t, .inr (8, [.int t0, .int t1, .int t2, .int t3, .int t4, .ref ta, .ref tb, .ref tc, .ref td, .ref te])), (tc, .inl (cI, 30, .inl ftc)), (ta, .inl (cI, 6, .inl fta)), (qr, .inr (4, [.int o_16, .int o_17, .int o_18, .int o_19, .int o_20]))]) (rest := []) (e_noteOpening_x1 cv c1 c2 c3 c4 c5 c6 t v0 v7 v8 w_10m5 w_10m6 b_ o_16) okV_X1_noteOpening wd_305 hx hb hml hown hts hK hP hD hS hA hN hl.1 [1, 2, 3] [0, 4, 5, 6, 7, 8, 9] rfl rfl rfl rfl (of_decide_eq_true rfl) rfl rfl rfl (Nat.le_of_ble_eq_true rfl) (Nat.le_of_ble_eq_true rfl) (Nat.le_of_ble_eq_true rfl) (Nat.le_of_ble_eq_true rfl) (Nat.le_of_ble_eq_true rfl) dX9_noteOpenings_121 (fun u_23 H locs hw_u_23 hP hD hS => ?_)
              obtain ⟨o_25, o_26⟩ := u_23
              replace hw_u_23 : (o_25, o_26) = (f_e_noteOpening_x1 v0 v7 v8 w_10m5 w_10m6 b_ o_16) := hw_u_23
              rw [← hw_u_23] at hE
              replace hE : (match (f_e_noteOpenings_x9_45 q1 q2 q10 q12 k0 k1 k2 k3 k4 t0 t1 t2 t3 t4 fta ftc fn v0 v7 v8 fc2 fc3 b_ n_w_10 (w_10l5 + 1) o_18 o_16 o_17 o_18 o_19 o_20 o_25 o_26) with | Sum.inl (w_10l5, w_10l3, w_10m0, w_10m1, w_10m2, w_10m3, w_10m4, w_10m5, w_10m6) => (w_10m0, w_10m1, w_10m2, w_10m3, w_10m4, w_10m5, w_10m6) | Sum.inr o => o) = RES := hE
              have hP : va_P D classes [(h, .inr (9, [.ref x, .int q1, .int q2, .ref rd, .ref t, .ref d, .ref nw, .ref ps, .ref im, .ref is_, .int q10, .ref bk, .int q12, .ref qr, .ref pr, .ref cv, .ref ft])), (nw, .inr (7, [.ref nwc])), (nwc, .inl (cI, 41, .inl fn)), (t, .inr (8, [.int t0, .int t1, .int t2, .int t3, .int t4, .ref ta, .ref tb, .ref tc, .ref td, .ref te])), (tc, .inl (cI, 30, .inl ftc)), (ta, .inl (cI, 6, .inl fta)), (qr, .inr (4, [.int o_16, .int o_17, .int o_18, .int o_19, .int o_20])), (cv, .inr (1, [.int v0, .ref c1, .ref c2, .ref c3, .ref c4, .ref c5, .ref c6, .int v7, .int v8, .ref t])), (c2, .inl (cI, 6, .inl o_25)), (c3, .inl (cI, 48, .inl o_26))] H := hP
              have hD : va_D A [(h, .inr (9, [.ref x, .int q1, .int q2, .ref rd, .ref t, .ref d, .ref nw, .ref ps, .ref im, .ref is_, .int q10, .ref bk, .int q12, .ref qr, .ref pr, .ref cv, .ref ft])), (nw, .inr (7, [.ref nwc])), (nwc, .inl (cI, 41, .inl fn)), (t, .inr (8, [.int t0, .int t1, .int t2, .int t3, .int t4, .ref ta, .ref tb, .ref tc, .ref td, .ref te])), (tc, .inl (cI, 30, .inl ftc)), (ta, .inl (cI, 6, .inl fta)), (qr, .inr (4, [.int o_16, .int o_17, .int o_18, .int o_19, .int o_20])), (cv, .inr (1, [.int v0, .ref c1, .ref c2, .ref c3, .ref c4, .ref c5, .ref c6, .int v7, .int v8, .ref t])), (c2, .inl (cI, 6, .inl o_25)), (c3, .inl (cI, 48, .inl o_26))] := hD
              refine lv_iinc (v := (w_10l5 + 1)) (lv' := [(5, .int (w_10l5 + 1)), (3, .int o_18), (4, .int (f_e_forceOf_x8 t0 t1 t2 t3 t4 ftc (f_e_coupleAt fn b_) (f_e_themeOf fn (f_e_coupleAt fn b_)))), (2, .int (f_e_coupleAt fn b_)), (0, .ref h), (1, .int b_)]) hx hb dX9_noteOpenings_124 hl (k := 1) rfl rfl (Nat.le_of_ble_eq_true rfl) rfl (fun ls hl => ?_)
              refine lv_goto (tgt := 45) hx hb dX9_noteOpenings_127 rfl ?_
              exact ih_w_10 (w_10l5 + 1) o_18 o_16 o_17 o_18 o_19 o_20 o_25 o_26 _ _ ls (cutP (isC := [0, 6, 5, 7, 8, 9, 1, 2, 3, 4]) hP rfl) (cutD (isC := [0, 6, 5, 7, 8, 9, 1, 2, 3, 4]) hD rfl rfl) hS (lv_sub hl [0, 2, 1, 3, 4, 5] rfl) (up_step c_11 hm) hE
            · rw [if_neg c_22] at hE
              exact hret (o_16, o_17, o_18, o_19, o_20, w_10m5, w_10m6) _ _ _ _ dX9_noteOpenings_100 hE (cutP (isC := [0, 9, 6, 8, 7, 4, 5, 1, 2, 3]) hP rfl) (cutD (isC := [0, 9, 6, 8, 7, 4, 5, 1, 2, 3]) hD rfl rfl) hS
    exact lp_45_w_10 (((7 : Int32).toInt - (0 : Int32).toInt).toNat + 1) 0 (f_e_grievanceOf fn (f_e_coupleAt fn b_)) k0 k1 k2 k3 k4 fc2 fc3 _ _ ls hP hD hS hl (Nat.lt_succ_self _) hE
  · rw [if_pos c_3] at hE
    exact hret (k0, k1, k2, k3, k4, fc2, fc3) _ _ _ _ dX9_noteOpenings_14 hE (cutP (isC := [0, 1, 2, 3, 4, 8, 9, 5, 6, 7]) hP rfl) (cutD (isC := [0, 1, 2, 3, 4, 8, 9, 5, 6, 7]) hD rfl rfl) hS
noncomputable def f_e_gather_x1 (v0 : Int32) (v7 : Int32) (v8 : Int32) (fc2 : Nat → Int32) (fc3 : Nat → Int32) (t0 : Int32) (t1 : Int32) (t2 : Int32) (t3 : Int32) (t4 : Int32) (fn : Nat → Int32) : Int32 × Int32 × (Nat → Int32) × (Nat → Int32) := (((f_e_bargesOfFate fn 0) &&& ((1 <<< (t3 &&& 31)) - 1)), (f_e_minutes fn), (fillZ fc2 6), (fillZ fc3 48))
def rm_e_gather_x1 : Room := { frames := 3, cells := 0, slots := 0, locals := 65 }
set_option maxHeartbeats 4000000 in
set_option maxRecDepth 100000 in
theorem e_gather_x1 {l : Launch} {D : va_G} {cI cZ : ClassId} {sz : Nat} (cvt : Value) (cv c1 c2 c3 c4 c5 c6 t ta tb tc td te nw nwc : Nat) (v0 : Int32) (v7 : Int32) (v8 : Int32) (fc2 : Nat → Int32) (fc3 : Nat → Int32) (t0 : Int32) (t1 : Int32) (t2 : Int32) (t3 : Int32) (t4 : Int32) (fn : Nat → Int32) : KV l yX1_gather cX1_gather 3 rm_e_gather_x1 D cI cZ [.ref cv, .ref t, .ref nw] sz [(cv, .inr (1, [.int v0, .ref c1, .ref c2, .ref c3, .ref c4, .ref c5, .ref c6, .int v7, .int v8, cvt])), (c2, .inl (cI, 6, .inl fc2)), (c3, .inl (cI, 48, .inl fc3)), (t, .inr (8, [.int t0, .int t1, .int t2, .int t3, .int t4, .ref ta, .ref tb, .ref tc, .ref td, .ref te])), (nw, .inr (7, [.ref nwc])), (nwc, .inl (cI, 41, .inl fn))] (fun (u : Int32 × Int32 × (Nat → Int32) × (Nat → Int32)) => u = f_e_gather_x1 v0 v7 v8 fc2 fc3 t0 t1 t2 t3 t4 fn) (fun (u : Int32 × Int32 × (Nat → Int32) × (Nat → Int32)) => [(cv, .inr (1, [.int v0, .ref c1, .ref c2, .ref c3, .ref c4, .ref c5, .ref c6, .int (u.1), .int (u.2.1), .ref t])), (c2, .inl (cI, 6, .inl u.2.2.1)), (c3, .inl (cI, 48, .inl u.2.2.2)), (t, .inr (8, [.int t0, .int t1, .int t2, .int t3, .int t4, .ref ta, .ref tb, .ref tc, .ref td, .ref te])), (nw, .inr (7, [.ref nwc])), (nwc, .inl (cI, 41, .inl fn))]) := by
  refine KV.go rfl (Nat.le_of_ble_eq_true rfl) ?_
  intro p e s m args below meth c ls A Q hx hb hml hts hown hin hP hK hD hS hA hN hl hret
  have hl : lv_has ls 3 [(0, .ref cv), (1, .ref t), (2, .ref nw)] := hl
  obtain ⟨RES, hE⟩ : ∃ xRES, f_e_gather_x1 v0 v7 v8 fc2 fc3 t0 t1 t2 t3 t4 fn = xRES := ⟨_, rfl⟩
  rw [hE] at hret
  rw [f_e_gather_x1] at hE
  refine lv_aload_n hx hb dX1_gather_0 rfl (lv_at hl 0 rfl) ?_
  refine lv_aload_n hx hb dX1_gather_1 rfl (lv_at hl 1 rfl) ?_
  refine va_put (D := D) (ci := 1) (v := .ref t) (ty := (.object "QuarrelBridges$Town")) (C := RX1) (T := TX1) (N := 10) hx hb hts iX1 tyX1 tyX1_ok nmX1 hown hK hP hD hS 0 rfl rfl 9 (Nat.le_of_ble_eq_true rfl) (hts _ wd_40) (fun _ h9 => h9) rfl (by decide +kernel) rfl rfl (Nat.le_of_ble_eq_true rfl) dX1_gather_2 (fun H locs hP hD hS => ?_)
  have hP : va_P D classes [(cv, .inr (1, [.int v0, .ref c1, .ref c2, .ref c3, .ref c4, .ref c5, .ref c6, .int v7, .int v8, .ref t])), (c2, .inl (cI, 6, .inl fc2)), (c3, .inl (cI, 48, .inl fc3)), (t, .inr (8, [.int t0, .int t1, .int t2, .int t3, .int t4, .ref ta, .ref tb, .ref tc, .ref td, .ref te])), (nw, .inr (7, [.ref nwc])), (nwc, .inl (cI, 41, .inl fn))] H := hP
  have hD : va_D A [(cv, .inr (1, [.int v0, .ref c1, .ref c2, .ref c3, .ref c4, .ref c5, .ref c6, .int v7, .int v8, .ref t])), (c2, .inl (cI, 6, .inl fc2)), (c3, .inl (cI, 48, .inl fc3)), (t, .inr (8, [.int t0, .int t1, .int t2, .int t3, .int t4, .ref ta, .ref tb, .ref tc, .ref td, .ref te])), (nw, .inr (7, [.ref nwc])), (nwc, .inl (cI, 41, .inl fn))] := hD
  refine lv_aload_n hx hb dX1_gather_5 rfl (lv_at hl 0 rfl) ?_
  refine lv_aload_n hx hb dX1_gather_6 rfl (lv_at hl 2 rfl) ?_
  refine cVi (wr := [(cv, .inr (1, [.int v0, .ref c1, .ref c2, .ref c3, .ref c4, .ref c5, .ref c6, .int v7, .int v8, .ref t])), (c2, .inl (cI, 6, .inl fc2)), (c3, .inl (cI, 48, .inl fc3)), (t, .inr (8, [.int t0, .int t1, .int t2, .int t3, .int t4, .ref ta, .ref tb, .ref tc, .ref td, .ref te]))]) (rest := [.ref cv]) (e_minutes nw nwc fn) okV_X7_minutes wd_309 hx hb hml hown hts hK hP hD hS hA hN hl.1 [4, 5] [0, 1, 2, 3] rfl rfl rfl rfl (of_decide_eq_true rfl) rfl rfl rfl (Nat.le_of_ble_eq_true rfl) (Nat.le_of_ble_eq_true rfl) (Nat.le_of_ble_eq_true rfl) (Nat.le_of_ble_eq_true rfl) (Nat.le_of_ble_eq_true rfl) dX1_gather_7 (fun r_2 u_1 H locs hw_u_1 hP hD hS => ?_)
  replace hw_u_1 : r_2 = (f_e_minutes fn) := hw_u_1
  rw [hw_u_1]
  clear hw_u_1
  have hP : va_P D classes [(cv, .inr (1, [.int v0, .ref c1, .ref c2, .ref c3, .ref c4, .ref c5, .ref c6, .int v7, .int v8, .ref t])), (c2, .inl (cI, 6, .inl fc2)), (c3, .inl (cI, 48, .inl fc3)), (t, .inr (8, [.int t0, .int t1, .int t2, .int t3, .int t4, .ref ta, .ref tb, .ref tc, .ref td, .ref te])), (nw, .inr (7, [.ref nwc])), (nwc, .inl (cI, 41, .inl fn))] H := hP
  have hD : va_D A [(cv, .inr (1, [.int v0, .ref c1, .ref c2, .ref c3, .ref c4, .ref c5, .ref c6, .int v7, .int v8, .ref t])), (c2, .inl (cI, 6, .inl fc2)), (c3, .inl (cI, 48, .inl fc3)), (t, .inr (8, [.int t0, .int t1, .int t2, .int t3, .int t4, .ref ta, .ref tb, .ref tc, .ref td, .ref te])), (nw, .inr (7, [.ref nwc])), (nwc, .inl (cI, 41, .inl fn))] := hD
  refine va_put (D := D) (ci := 1) (v := .int (f_e_minutes fn)) (ty := .int) (C := RX1) (T := TX1) (N := 10) hx hb hts iX1 tyX1 tyX1_ok nmX1 hown hK hP hD hS 0 rfl rfl 8 (Nat.le_of_ble_eq_true rfl) (hts _ wd_39) (fun _ h9 => h9) rfl (by decide +kernel) rfl rfl (Nat.le_of_ble_eq_true rfl) dX1_gather_10 (fun H locs hP hD hS => ?_)
  have hP : va_P D classes [(cv, .inr (1, [.int v0, .ref c1, .ref c2, .ref c3, .ref c4, .ref c5, .ref c6, .int v7, .int (f_e_minutes fn), .ref t])), (c2, .inl (cI, 6, .inl fc2)), (c3, .inl (cI, 48, .inl fc3)), (t, .inr (8, [.int t0, .int t1, .int t2, .int t3, .int t4, .ref ta, .ref tb, .ref tc, .ref td, .ref te])), (nw, .inr (7, [.ref nwc])), (nwc, .inl (cI, 41, .inl fn))] H := hP
  have hD : va_D A [(cv, .inr (1, [.int v0, .ref c1, .ref c2, .ref c3, .ref c4, .ref c5, .ref c6, .int v7, .int (f_e_minutes fn), .ref t])), (c2, .inl (cI, 6, .inl fc2)), (c3, .inl (cI, 48, .inl fc3)), (t, .inr (8, [.int t0, .int t1, .int t2, .int t3, .int t4, .ref ta, .ref tb, .ref tc, .ref td, .ref te])), (nw, .inr (7, [.ref nwc])), (nwc, .inl (cI, 41, .inl fn))] := hD
  refine lv_aload_n hx hb dX1_gather_13 rfl (lv_at hl 0 rfl) ?_
  refine lv_aload_n hx hb dX1_gather_14 rfl (lv_at hl 2 rfl) ?_
  refine lv_iconst (v := 0) hx hb dX1_gather_15 rfl ?_
  refine cVi (wr := [(cv, .inr (1, [.int v0, .ref c1, .ref c2, .ref c3, .ref c4, .ref c5, .ref c6, .int v7, .int (f_e_minutes fn), .ref t])), (c2, .inl (cI, 6, .inl fc2)), (c3, .inl (cI, 48, .inl fc3)), (t, .inr (8, [.int t0, .int t1, .int t2, .int t3, .int t4, .ref ta, .ref tb, .ref tc, .ref td, .ref te]))]) (rest := [.ref cv]) (e_bargesOfFate nw nwc fn 0) okV_X7_bargesOfFate wd_310 hx hb hml hown hts hK hP hD hS hA hN hl.1 [4, 5] [0, 1, 2, 3] rfl rfl rfl rfl (of_decide_eq_true rfl) rfl rfl rfl (Nat.le_of_ble_eq_true rfl) (Nat.le_of_ble_eq_true rfl) (Nat.le_of_ble_eq_true rfl) (Nat.le_of_ble_eq_true rfl) (Nat.le_of_ble_eq_true rfl) dX1_gather_16 (fun r_4 u_3 H locs hw_u_3 hP hD hS => ?_)
  replace hw_u_3 : r_4 = (f_e_bargesOfFate fn 0) := hw_u_3
  rw [hw_u_3]
  clear hw_u_3
  have hP : va_P D classes [(cv, .inr (1, [.int v0, .ref c1, .ref c2, .ref c3, .ref c4, .ref c5, .ref c6, .int v7, .int (f_e_minutes fn), .ref t])), (c2, .inl (cI, 6, .inl fc2)), (c3, .inl (cI, 48, .inl fc3)), (t, .inr (8, [.int t0, .int t1, .int t2, .int t3, .int t4, .ref ta, .ref tb, .ref tc, .ref td, .ref te])), (nw, .inr (7, [.ref nwc])), (nwc, .inl (cI, 41, .inl fn))] H := hP
  have hD : va_D A [(cv, .inr (1, [.int v0, .ref c1, .ref c2, .ref c3, .ref c4, .ref c5, .ref c6, .int v7, .int (f_e_minutes fn), .ref t])), (c2, .inl (cI, 6, .inl fc2)), (c3, .inl (cI, 48, .inl fc3)), (t, .inr (8, [.int t0, .int t1, .int t2, .int t3, .int t4, .ref ta, .ref tb, .ref tc, .ref td, .ref te])), (nw, .inr (7, [.ref nwc])), (nwc, .inl (cI, 41, .inl fn))] := hD
  refine lv_iconst (v := 1) hx hb dX1_gather_19 rfl ?_
  refine lv_aload_n hx hb dX1_gather_20 rfl (lv_at hl 1 rfl) ?_
  refine va_get (D := D) (ci := 8) (v := .int t3) (C := RX8) (T := TX8) (N := 10) hx hb hts iX8 hown hK hP 3 rfl rfl 3 (Nat.le_of_ble_eq_true rfl) (hts _ wd_314) (fun _ h9 => h9) rfl dX1_gather_21 ?_
  refine lv_ishl hx hb dX1_gather_24 ?_
  refine lv_iconst (v := 1) hx hb dX1_gather_25 rfl ?_
  refine lv_isub hx hb dX1_gather_26 ?_
  refine lv_iand hx hb dX1_gather_27 ?_
  refine va_put (D := D) (ci := 1) (v := .int ((f_e_bargesOfFate fn 0) &&& ((1 <<< (t3 &&& 31)) - 1))) (ty := .int) (C := RX1) (T := TX1) (N := 10) hx hb hts iX1 tyX1 tyX1_ok nmX1 hown hK hP hD hS 0 rfl rfl 7 (Nat.le_of_ble_eq_true rfl) (hts _ wd_38) (fun _ h9 => h9) rfl (by decide +kernel) rfl rfl (Nat.le_of_ble_eq_true rfl) dX1_gather_28 (fun H locs hP hD hS => ?_)
  have hP : va_P D classes [(cv, .inr (1, [.int v0, .ref c1, .ref c2, .ref c3, .ref c4, .ref c5, .ref c6, .int ((f_e_bargesOfFate fn 0) &&& ((1 <<< (t3 &&& 31)) - 1)), .int (f_e_minutes fn), .ref t])), (c2, .inl (cI, 6, .inl fc2)), (c3, .inl (cI, 48, .inl fc3)), (t, .inr (8, [.int t0, .int t1, .int t2, .int t3, .int t4, .ref ta, .ref tb, .ref tc, .ref td, .ref te])), (nw, .inr (7, [.ref nwc])), (nwc, .inl (cI, 41, .inl fn))] H := hP
  have hD : va_D A [(cv, .inr (1, [.int v0, .ref c1, .ref c2, .ref c3, .ref c4, .ref c5, .ref c6, .int ((f_e_bargesOfFate fn 0) &&& ((1 <<< (t3 &&& 31)) - 1)), .int (f_e_minutes fn), .ref t])), (c2, .inl (cI, 6, .inl fc2)), (c3, .inl (cI, 48, .inl fc3)), (t, .inr (8, [.int t0, .int t1, .int t2, .int t3, .int t4, .ref ta, .ref tb, .ref tc, .ref td, .ref te])), (nw, .inr (7, [.ref nwc])), (nwc, .inl (cI, 41, .inl fn))] := hD
  refine lv_aload_n hx hb dX1_gather_31 rfl (lv_at hl 0 rfl) ?_
  refine va_get (D := D) (ci := 1) (v := .ref c2) (C := RX1) (T := TX1) (N := 10) hx hb hts iX1 hown hK hP 0 rfl rfl 2 (Nat.le_of_ble_eq_true rfl) (hts _ wd_33) (fun _ h9 => h9) rfl dX1_gather_32 ?_
  refine lv_iconst (v := 0) hx hb dX1_gather_35 rfl ?_
  refine cSv (wr := [(cv, .inr (1, [.int v0, .ref c1, .ref c2, .ref c3, .ref c4, .ref c5, .ref c6, .int ((f_e_bargesOfFate fn 0) &&& ((1 <<< (t3 &&& 31)) - 1)), .int (f_e_minutes fn), .ref t])), (c3, .inl (cI, 48, .inl fc3)), (t, .inr (8, [.int t0, .int t1, .int t2, .int t3, .int t4, .ref ta, .ref tb, .ref tc, .ref td, .ref te])), (nw, .inr (7, [.ref nwc])), (nwc, .inl (cI, 41, .inl fn))]) (rest := []) (k_fill6 c2 fc2) okS_J7_fill_53178 wd_315 hx hb hml hown hts hK hP hD hS hA hN hl.1 [1] [0, 2, 3, 4, 5] rfl rfl rfl rfl (of_decide_eq_true rfl) rfl (Nat.le_of_ble_eq_true rfl) (Nat.le_of_ble_eq_true rfl) (Nat.le_of_ble_eq_true rfl) (Nat.le_of_ble_eq_true rfl) (Nat.le_of_ble_eq_true rfl) dX1_gather_36 (fun u_5 H locs hw_u_5 hP hD hS => ?_)
  have hP : va_P D classes [(cv, .inr (1, [.int v0, .ref c1, .ref c2, .ref c3, .ref c4, .ref c5, .ref c6, .int ((f_e_bargesOfFate fn 0) &&& ((1 <<< (t3 &&& 31)) - 1)), .int (f_e_minutes fn), .ref t])), (c3, .inl (cI, 48, .inl fc3)), (t, .inr (8, [.int t0, .int t1, .int t2, .int t3, .int t4, .ref ta, .ref tb, .ref tc, .ref td, .ref te])), (nw, .inr (7, [.ref nwc])), (nwc, .inl (cI, 41, .inl fn)), (c2, .inl (cI, 6, .inl (fillZ fc2 6)))] H := hP
  have hD : va_D A [(cv, .inr (1, [.int v0, .ref c1, .ref c2, .ref c3, .ref c4, .ref c5, .ref c6, .int ((f_e_bargesOfFate fn 0) &&& ((1 <<< (t3 &&& 31)) - 1)), .int (f_e_minutes fn), .ref t])), (c3, .inl (cI, 48, .inl fc3)), (t, .inr (8, [.int t0, .int t1, .int t2, .int t3, .int t4, .ref ta, .ref tb, .ref tc, .ref td, .ref te])), (nw, .inr (7, [.ref nwc])), (nwc, .inl (cI, 41, .inl fn)), (c2, .inl (cI, 6, .inl (fillZ fc2 6)))] := hD
  refine lv_aload_n hx hb dX1_gather_39 rfl (lv_at hl 0 rfl) ?_
  refine va_get (D := D) (ci := 1) (v := .ref c3) (C := RX1) (T := TX1) (N := 10) hx hb hts iX1 hown hK hP 0 rfl rfl 3 (Nat.le_of_ble_eq_true rfl) (hts _ wd_34) (fun _ h9 => h9) rfl dX1_gather_40 ?_
  refine lv_iconst (v := 0) hx hb dX1_gather_43 rfl ?_
  refine cSv (wr := [(cv, .inr (1, [.int v0, .ref c1, .ref c2, .ref c3, .ref c4, .ref c5, .ref c6, .int ((f_e_bargesOfFate fn 0) &&& ((1 <<< (t3 &&& 31)) - 1)), .int (f_e_minutes fn), .ref t])), (t, .inr (8, [.int t0, .int t1, .int t2, .int t3, .int t4, .ref ta, .ref tb, .ref tc, .ref td, .ref te])), (nw, .inr (7, [.ref nwc])), (nwc, .inl (cI, 41, .inl fn)), (c2, .inl (cI, 6, .inl (fillZ fc2 6)))]) (rest := []) (k_fill48 c3 fc3) okS_J7_fill_53178 wd_315 hx hb hml hown hts hK hP hD hS hA hN hl.1 [1] [0, 2, 3, 4, 5] rfl rfl rfl rfl (of_decide_eq_true rfl) rfl (Nat.le_of_ble_eq_true rfl) (Nat.le_of_ble_eq_true rfl) (Nat.le_of_ble_eq_true rfl) (Nat.le_of_ble_eq_true rfl) (Nat.le_of_ble_eq_true rfl) dX1_gather_44 (fun u_7 H locs hw_u_7 hP hD hS => ?_)
  have hP : va_P D classes [(cv, .inr (1, [.int v0, .ref c1, .ref c2, .ref c3, .ref c4, .ref c5, .ref c6, .int ((f_e_bargesOfFate fn 0) &&& ((1 <<< (t3 &&& 31)) - 1)), .int (f_e_minutes fn), .ref t])), (t, .inr (8, [.int t0, .int t1, .int t2, .int t3, .int t4, .ref ta, .ref tb, .ref tc, .ref td, .ref te])), (nw, .inr (7, [.ref nwc])), (nwc, .inl (cI, 41, .inl fn)), (c2, .inl (cI, 6, .inl (fillZ fc2 6))), (c3, .inl (cI, 48, .inl (fillZ fc3 48)))] H := hP
  have hD : va_D A [(cv, .inr (1, [.int v0, .ref c1, .ref c2, .ref c3, .ref c4, .ref c5, .ref c6, .int ((f_e_bargesOfFate fn 0) &&& ((1 <<< (t3 &&& 31)) - 1)), .int (f_e_minutes fn), .ref t])), (t, .inr (8, [.int t0, .int t1, .int t2, .int t3, .int t4, .ref ta, .ref tb, .ref tc, .ref td, .ref te])), (nw, .inr (7, [.ref nwc])), (nwc, .inl (cI, 41, .inl fn)), (c2, .inl (cI, 6, .inl (fillZ fc2 6))), (c3, .inl (cI, 48, .inl (fillZ fc3 48)))] := hD
  exact hret (((f_e_bargesOfFate fn 0) &&& ((1 <<< (t3 &&& 31)) - 1)), (f_e_minutes fn), (fillZ fc2 6), (fillZ fc3 48)) _ _ _ _ dX1_gather_47 hE (cutP (isC := [0, 4, 5, 1, 2, 3]) hP rfl) (cutD (isC := [0, 4, 5, 1, 2, 3]) hD rfl rfl) hS
noncomputable def f_e_minuteBehind_x1_44 (v0 : Int32) (v7 : Int32) (v8 : Int32) (t0 : Int32) (t1 : Int32) (t2 : Int32) (t3 : Int32) (t4 : Int32) (ftd : Nat → Int32) (fc2 : Nat → Int32) (fc3 : Nat → Int32) (g_ : Int32) (w_2l3 : Int32) (n : Nat) : Int32 → Int32 → Int32 × Int32 := Nat.rec (motive := fun _ => Int32 → Int32 → Int32 × Int32) (fun w_4l5 w_4l4 => (w_4l5, w_4l4)) (fun n ih w_4l5 w_4l4 => (if 7 ≤ w_4l5 then (w_4l5, w_4l4) else (if ((g_ >>> (w_4l5 &&& 31)) &&& 1) = 0 then (ih (w_4l5 + 1) (w_4l4 + 0)) else (if (atF 7 ftd w_4l5) < w_2l3 then (ih (w_4l5 + 1) (w_4l4 + 0)) else (ih (w_4l5 + 1) (w_4l4 + 1)))))) n
theorem f_e_minuteBehind_x1_44_s (v0 : Int32) (v7 : Int32) (v8 : Int32) (t0 : Int32) (t1 : Int32) (t2 : Int32) (t3 : Int32) (t4 : Int32) (ftd : Nat → Int32) (fc2 : Nat → Int32) (fc3 : Nat → Int32) (g_ : Int32) (w_2l3 : Int32) (n : Nat) (w_4l5 : Int32) (w_4l4 : Int32) : f_e_minuteBehind_x1_44 v0 v7 v8 t0 t1 t2 t3 t4 ftd fc2 fc3 g_ w_2l3 (n + 1) w_4l5 w_4l4 = (if 7 ≤ w_4l5 then (w_4l5, w_4l4) else (if ((g_ >>> (w_4l5 &&& 31)) &&& 1) = 0 then (f_e_minuteBehind_x1_44 v0 v7 v8 t0 t1 t2 t3 t4 ftd fc2 fc3 g_ w_2l3 n (w_4l5 + 1) (w_4l4 + 0)) else (if (atF 7 ftd w_4l5) < w_2l3 then (f_e_minuteBehind_x1_44 v0 v7 v8 t0 t1 t2 t3 t4 ftd fc2 fc3 g_ w_2l3 n (w_4l5 + 1) (w_4l4 + 0)) else (f_e_minuteBehind_x1_44 v0 v7 v8 t0 t1 t2 t3 t4 ftd fc2 fc3 g_ w_2l3 n (w_4l5 + 1) (w_4l4 + 1))))) := rfl
noncomputable def f_e_minuteBehind_x1_27 (v0 : Int32) (v7 : Int32) (v8 : Int32) (t0 : Int32) (t1 : Int32) (t2 : Int32) (t3 : Int32) (t4 : Int32) (ftd : Nat → Int32) (fc2 : Nat → Int32) (fc3 : Nat → Int32) (g_ : Int32) (n : Nat) : Int32 → Int32 → (Int32 × Int32) ⊕ (Int32) := Nat.rec (motive := fun _ => Int32 → Int32 → (Int32 × Int32) ⊕ (Int32)) (fun w_2l3 w_2l2 => Sum.inl (w_2l3, w_2l2)) (fun n ih w_2l3 w_2l2 => (if t0 ≤ w_2l3 then (Sum.inl (w_2l3, w_2l2)) else (match (f_e_minuteBehind_x1_44 v0 v7 v8 t0 t1 t2 t3 t4 ftd fc2 fc3 g_ w_2l3 (((7 : Int32).toInt - (0 : Int32).toInt).toNat + 1) 0 0) with | (w_4l5, w_4l4) => (if w_4l4 ≤ (atF 6 fc2 w_2l3) then (ih (w_2l3 + 1) (w_2l2 + (atF 48 fc3 ((w_2l3 * 8) + w_4l4)))) else (Sum.inr (-1)))))) n
theorem f_e_minuteBehind_x1_27_s (v0 : Int32) (v7 : Int32) (v8 : Int32) (t0 : Int32) (t1 : Int32) (t2 : Int32) (t3 : Int32) (t4 : Int32) (ftd : Nat → Int32) (fc2 : Nat → Int32) (fc3 : Nat → Int32) (g_ : Int32) (n : Nat) (w_2l3 : Int32) (w_2l2 : Int32) : f_e_minuteBehind_x1_27 v0 v7 v8 t0 t1 t2 t3 t4 ftd fc2 fc3 g_ (n + 1) w_2l3 w_2l2 = (if t0 ≤ w_2l3 then (Sum.inl (w_2l3, w_2l2)) else (match (f_e_minuteBehind_x1_44 v0 v7 v8 t0 t1 t2 t3 t4 ftd fc2 fc3 g_ w_2l3 (((7 : Int32).toInt - (0 : Int32).toInt).toNat + 1) 0 0) with | (w_4l5, w_4l4) => (if w_4l4 ≤ (atF 6 fc2 w_2l3) then (f_e_minuteBehind_x1_27 v0 v7 v8 t0 t1 t2 t3 t4 ftd fc2 fc3 g_ n (w_2l3 + 1) (w_2l2 + (atF 48 fc3 ((w_2l3 * 8) + w_4l4)))) else (Sum.inr (-1))))) := rfl
noncomputable def f_e_minuteBehind_x1 (v0 : Int32) (v7 : Int32) (v8 : Int32) (t0 : Int32) (t1 : Int32) (t2 : Int32) (t3 : Int32) (t4 : Int32) (ftd : Nat → Int32) (fc2 : Nat → Int32) (fc3 : Nat → Int32) (g_ : Int32) : Int32 := (if (g_ &&& (v7 ^^^ (-1))) = 0 then (match (f_e_minuteBehind_x1_27 v0 v7 v8 t0 t1 t2 t3 t4 ftd fc2 fc3 g_ (((t0 : Int32).toInt - (0 : Int32).toInt).toNat + 1) 0 v8) with | Sum.inl (w_2l3, w_2l2) => w_2l2 | Sum.inr o => o) else (-1))
def rm_e_minuteBehind_x1 : Room := { frames := 1, cells := 0, slots := 0, locals := 21 }
set_option maxHeartbeats 4000000 in
set_option maxRecDepth 100000 in
theorem e_minuteBehind_x1 {l : Launch} {D : va_G} {cI cZ : ClassId} {sz : Nat} (cv c1 c2 c3 c4 c5 c6 t ta tb tc td te : Nat) (v0 : Int32) (v7 : Int32) (v8 : Int32) (t0 : Int32) (t1 : Int32) (t2 : Int32) (t3 : Int32) (t4 : Int32) (ftd : Nat → Int32) (fc2 : Nat → Int32) (fc3 : Nat → Int32) (g_ : Int32) : KI l yX1_minuteBehind cX1_minuteBehind 6 (some .int) rm_e_minuteBehind_x1 D cI cZ [.ref cv, .int g_] sz [(cv, .inr (1, [.int v0, .ref c1, .ref c2, .ref c3, .ref c4, .ref c5, .ref c6, .int v7, .int v8, .ref t])), (t, .inr (8, [.int t0, .int t1, .int t2, .int t3, .int t4, .ref ta, .ref tb, .ref tc, .ref td, .ref te])), (td, .inl (cI, 7, .inl ftd)), (c2, .inl (cI, 6, .inl fc2)), (c3, .inl (cI, 48, .inl fc3))] (fun (r : Int32) (_ : Unit) => r = f_e_minuteBehind_x1 v0 v7 v8 t0 t1 t2 t3 t4 ftd fc2 fc3 g_) (fun (_ : Unit) => [(cv, .inr (1, [.int v0, .ref c1, .ref c2, .ref c3, .ref c4, .ref c5, .ref c6, .int v7, .int v8, .ref t])), (t, .inr (8, [.int t0, .int t1, .int t2, .int t3, .int t4, .ref ta, .ref tb, .ref tc, .ref td, .ref te])), (td, .inl (cI, 7, .inl ftd)), (c2, .inl (cI, 6, .inl fc2)), (c3, .inl (cI, 48, .inl fc3))]) := by
  refine KI.go rfl (Nat.le_of_ble_eq_true rfl) ?_
  intro p e s m args below meth c ls A Q hx hb hml hts hown hin hP hK hD hS hA hN hl hret
  have hl : lv_has ls 6 [(0, .ref cv), (1, .int g_)] := hl
  obtain ⟨RES, hE⟩ : ∃ xRES, f_e_minuteBehind_x1 v0 v7 v8 t0 t1 t2 t3 t4 ftd fc2 fc3 g_ = xRES := ⟨_, rfl⟩
  rw [hE] at hret
  rw [f_e_minuteBehind_x1] at hE
  refine lv_aload_n hx hb dX1_minuteBehind_0 rfl (lv_at hl 0 rfl) ?_
  refine va_get (D := D) (ci := 1) (v := .ref t) (C := RX1) (T := TX1) (N := 10) hx hb hts iX1 hown hK hP 0 rfl rfl 9 (Nat.le_of_ble_eq_true rfl) (hts _ wd_40) (fun _ h9 => h9) rfl dX1_minuteBehind_1 ?_
  refine lv_ifnull hx hb dX1_minuteBehind_4 ?_
  refine lv_iload_n hx hb dX1_minuteBehind_7 rfl (lv_at hl 1 rfl) ?_
  refine lv_aload_n hx hb dX1_minuteBehind_8 rfl (lv_at hl 0 rfl) ?_
  refine va_get (D := D) (ci := 1) (v := .int v7) (C := RX1) (T := TX1) (N := 10) hx hb hts iX1 hown hK hP 0 rfl rfl 7 (Nat.le_of_ble_eq_true rfl) (hts _ wd_38) (fun _ h9 => h9) rfl dX1_minuteBehind_9 ?_
  refine lv_iconst (v := (-1)) hx hb dX1_minuteBehind_12 rfl ?_
  refine lv_ixor hx hb dX1_minuteBehind_13 ?_
  refine lv_iand hx hb dX1_minuteBehind_14 ?_
  refine lv_if_eq (tgt := 20) hx hb dX1_minuteBehind_15 rfl (fun c_1 => ?_) (fun c_1 => ?_)
  · rw [if_pos c_1] at hE
    refine lv_aload_n hx hb dX1_minuteBehind_20 rfl (lv_at hl 0 rfl) ?_
    refine va_get (D := D) (ci := 1) (v := .int v8) (C := RX1) (T := TX1) (N := 10) hx hb hts iX1 hown hK hP 0 rfl rfl 8 (Nat.le_of_ble_eq_true rfl) (hts _ wd_39) (fun _ h9 => h9) rfl dX1_minuteBehind_21 ?_
    refine lv_istore_n (lv' := [(2, .int v8), (0, .ref cv), (1, .int g_)]) hx hb dX1_minuteBehind_24 rfl hl (Nat.le_of_ble_eq_true rfl) rfl (fun ls hl => ?_)
    refine lv_iconst (v := 0) hx hb dX1_minuteBehind_25 rfl ?_
    refine lv_istore_n (lv' := [(3, .int 0), (2, .int v8), (0, .ref cv), (1, .int g_)]) hx hb dX1_minuteBehind_26 rfl hl (Nat.le_of_ble_eq_true rfl) rfl (fun ls hl => ?_)
    have ex_27_w_2 : ∀ (w_2l3 : Int32) (w_2l2 : Int32) (H : Heap) (locs : List Loc) (ls : Array Slot), va_P D classes [(cv, .inr (1, [.int v0, .ref c1, .ref c2, .ref c3, .ref c4, .ref c5, .ref c6, .int v7, .int v8, .ref t])), (t, .inr (8, [.int t0, .int t1, .int t2, .int t3, .int t4, .ref ta, .ref tb, .ref tc, .ref td, .ref te])), (td, .inl (cI, 7, .inl ftd)), (c2, .inl (cI, 6, .inl fc2)), (c3, .inl (cI, 48, .inl fc3))] H → va_D A [(cv, .inr (1, [.int v0, .ref c1, .ref c2, .ref c3, .ref c4, .ref c5, .ref c6, .int v7, .int v8, .ref t])), (t, .inr (8, [.int t0, .int t1, .int t2, .int t3, .int t4, .ref ta, .ref tb, .ref tc, .ref td, .ref te])), (td, .inl (cI, 7, .inl ftd)), (c2, .inl (cI, 6, .inl fc2)), (c3, .inl (cI, 48, .inl fc3))] → va_S A s.heap H locs → lv_has ls 6 [(3, .int w_2l3), (2, .int w_2l2), (0, .ref cv), (1, .int g_)] → (w_2l2) = RES → W p l e rm_e_minuteBehind_x1 s m args below meth c H locs 0 0 Q (F0 m 130 ls []) := by
      intro w_2l3 w_2l2 H locs ls hP hD hS hl hE
      refine lv_iload_n hx hb dX1_minuteBehind_130 rfl (lv_at hl 1 rfl) ?_
      exact hret w_2l2 () _ _ _ _ dX1_minuteBehind_131 rfl hE hP hD hS
    have lp_27_w_2 : ∀ (n_w_2 : Nat) (w_2l3 : Int32) (w_2l2 : Int32) (H : Heap) (locs : List Loc) (ls : Array Slot), va_P D classes [(cv, .inr (1, [.int v0, .ref c1, .ref c2, .ref c3, .ref c4, .ref c5, .ref c6, .int v7, .int v8, .ref t])), (t, .inr (8, [.int t0, .int t1, .int t2, .int t3, .int t4, .ref ta, .ref tb, .ref tc, .ref td, .ref te])), (td, .inl (cI, 7, .inl ftd)), (c2, .inl (cI, 6, .inl fc2)), (c3, .inl (cI, 48, .inl fc3))] H → va_D A [(cv, .inr (1, [.int v0, .ref c1, .ref c2, .ref c3, .ref c4, .ref c5, .ref c6, .int v7, .int v8, .ref t])), (t, .inr (8, [.int t0, .int t1, .int t2, .int t3, .int t4, .ref ta, .ref tb, .ref tc, .ref td, .ref te])), (td, .inl (cI, 7, .inl ftd)), (c2, .inl (cI, 6, .inl fc2)), (c3, .inl (cI, 48, .inl fc3))] → va_S A s.heap H locs → lv_has ls 6 [(3, .int w_2l3), (2, .int w_2l2), (0, .ref cv), (1, .int g_)] → ((t0 : Int32).toInt - (w_2l3 : Int32).toInt).toNat < n_w_2 → (match (f_e_minuteBehind_x1_27 v0 v7 v8 t0 t1 t2 t3 t4 ftd fc2 fc3 g_ n_w_2 w_2l3 w_2l2) with | Sum.inl (w_2l3, w_2l2) => w_2l2 | Sum.inr o => o) = RES → W p l e rm_e_minuteBehind_x1 s m args below meth c H locs 0 0 Q (F0 m 27 ls []) := by
      intro n_w_2
      induction n_w_2 with
      | zero => intro w_2l3 w_2l2 H locs ls hP hD hS hl hm; exact absurd hm (Nat.not_lt_zero _)
      | succ n_w_2 ih_w_2 =>
        intro w_2l3 w_2l2 H locs ls hP hD hS hl hm hE
        rw [f_e_minuteBehind_x1_27_s] at hE
        refine lv_iload_n hx hb dX1_minuteBehind_27 rfl (lv_at hl 0 rfl) ?_
        refine lv_aload_n hx hb dX1_minuteBehind_28 rfl (lv_at hl 2 rfl) ?_
        refine va_get (D := D) (ci := 1) (v := .ref t) (C := RX1) (T := TX1) (N := 10) hx hb hts iX1 hown hK hP 0 rfl rfl 9 (Nat.le_of_ble_eq_true rfl) (hts _ wd_40) (fun _ h9 => h9) rfl dX1_minuteBehind_29 ?_
        refine va_get (D := D) (ci := 8) (v := .int t0) (C := RX8) (T := TX8) (N := 10) hx hb hts iX8 hown hK hP 1 rfl rfl 0 (Nat.le_of_ble_eq_true rfl) (hts _ wd_316) (fun _ h9 => h9) rfl dX1_minuteBehind_32 ?_
        refine lv_icmp_ge (tgt := 130) hx hb dX1_minuteBehind_35 rfl (fun c_3 => ?_) (fun c_3 => ?_)
        · rw [if_pos c_3] at hE
          exact ex_27_w_2 w_2l3 w_2l2 _ _ ls hP hD hS (lv_sub hl [0, 1, 2, 3] rfl) hE
        · rw [if_neg c_3] at hE
          refine lv_iconst (v := 0) hx hb dX1_minuteBehind_38 rfl ?_
          refine lv_istore (lv' := [(4, .int 0), (3, .int w_2l3), (2, .int w_2l2), (0, .ref cv), (1, .int g_)]) hx hb dX1_minuteBehind_39 hl (Nat.le_of_ble_eq_true rfl) rfl (fun ls hl => ?_)
          refine lv_iconst (v := 0) hx hb dX1_minuteBehind_41 rfl ?_
          refine lv_istore (lv' := [(5, .int 0), (4, .int 0), (3, .int w_2l3), (2, .int w_2l2), (0, .ref cv), (1, .int g_)]) hx hb dX1_minuteBehind_42 hl (Nat.le_of_ble_eq_true rfl) rfl (fun ls hl => ?_)
          have ex_44_w_4 : ∀ (w_4l5 : Int32) (w_4l4 : Int32) (H : Heap) (locs : List Loc) (ls : Array Slot), va_P D classes [(cv, .inr (1, [.int v0, .ref c1, .ref c2, .ref c3, .ref c4, .ref c5, .ref c6, .int v7, .int v8, .ref t])), (t, .inr (8, [.int t0, .int t1, .int t2, .int t3, .int t4, .ref ta, .ref tb, .ref tc, .ref td, .ref te])), (td, .inl (cI, 7, .inl ftd)), (c2, .inl (cI, 6, .inl fc2)), (c3, .inl (cI, 48, .inl fc3))] H → va_D A [(cv, .inr (1, [.int v0, .ref c1, .ref c2, .ref c3, .ref c4, .ref c5, .ref c6, .int v7, .int v8, .ref t])), (t, .inr (8, [.int t0, .int t1, .int t2, .int t3, .int t4, .ref ta, .ref tb, .ref tc, .ref td, .ref te])), (td, .inl (cI, 7, .inl ftd)), (c2, .inl (cI, 6, .inl fc2)), (c3, .inl (cI, 48, .inl fc3))] → va_S A s.heap H locs → lv_has ls 6 [(5, .int w_4l5), (4, .int w_4l4), (3, .int w_2l3), (2, .int w_2l2), (0, .ref cv), (1, .int g_)] → ((match (if w_4l4 ≤ (atF 6 fc2 w_2l3) then (f_e_minuteBehind_x1_27 v0 v7 v8 t0 t1 t2 t3 t4 ftd fc2 fc3 g_ n_w_2 (w_2l3 + 1) (w_2l2 + (atF 48 fc3 ((w_2l3 * 8) + w_4l4)))) else (Sum.inr (-1))) with | Sum.inl (w_2l3, w_2l2) => w_2l2 | Sum.inr o => o)) = RES → W p l e rm_e_minuteBehind_x1 s m args below meth c H locs 0 0 Q (F0 m 92 ls []) := by
            intro w_4l5 w_4l4 H locs ls hP hD hS hl hE
            refine lv_iload hx hb dX1_minuteBehind_92 (lv_at hl 1 rfl) ?_
            refine lv_aload_n hx hb dX1_minuteBehind_94 rfl (lv_at hl 4 rfl) ?_
            refine va_get (D := D) (ci := 1) (v := .ref c2) (C := RX1) (T := TX1) (N := 10) hx hb hts iX1 hown hK hP 0 rfl rfl 2 (Nat.le_of_ble_eq_true rfl) (hts _ wd_33) (fun _ h9 => h9) rfl dX1_minuteBehind_95 ?_
            refine lv_iload_n hx hb dX1_minuteBehind_98 rfl (lv_at hl 2 rfl) ?_
            refine cNi (wr := [(cv, .inr (1, [.int v0, .ref c1, .ref c2, .ref c3, .ref c4, .ref c5, .ref c6, .int v7, .int v8, .ref t])), (t, .inr (8, [.int t0, .int t1, .int t2, .int t3, .int t4, .ref ta, .ref tb, .ref tc, .ref td, .ref te])), (td, .inl (cI, 7, .inl ftd)), (c3, .inl (cI, 48, .inl fc3))]) (rest := [.int w_4l4]) (k_at c2 6 fc2 w_2l3 (of_decide_eq_true rfl)) okS_X9_at 10 rfl hx hb hml hown hts hK hP hD hS hA hN hl.1 [3] [0, 1, 2, 4] rfl rfl rfl rfl (by decide) rfl (Nat.le_of_ble_eq_true rfl) (Nat.le_of_ble_eq_true rfl) (Nat.le_of_ble_eq_true rfl) (Nat.le_of_ble_eq_true rfl) (Nat.le_of_ble_eq_true rfl) dX1_minuteBehind_99 (fun r_6 u_5 H locs hw_u_5 hP hD hS => ?_)
            obtain rfl := hw_u_5
            have hP : va_P D classes [(cv, .inr (1, [.int v0, .ref c1, .ref c2, .ref c3, .ref c4, .ref c5, .ref c6, .int v7, .int v8, .ref t])), (t, .inr (8, [.int t0, .int t1, .int t2, .int t3, .int t4, .ref ta, .ref tb, .ref tc, .ref td, .ref te])), (td, .inl (cI, 7, .inl ftd)), (c3, .inl (cI, 48, .inl fc3)), (c2, .inl (cI, 6, .inl fc2))] H := hP
            have hD : va_D A [(cv, .inr (1, [.int v0, .ref c1, .ref c2, .ref c3, .ref c4, .ref c5, .ref c6, .int v7, .int v8, .ref t])), (t, .inr (8, [.int t0, .int t1, .int t2, .int t3, .int t4, .ref ta, .ref tb, .ref tc, .ref td, .ref te])), (td, .inl (cI, 7, .inl ftd)), (c3, .inl (cI, 48, .inl fc3)), (c2, .inl (cI, 6, .inl fc2))] := hD
            refine lv_icmp_le (tgt := 107) hx hb dX1_minuteBehind_102 rfl (fun c_7 => ?_) (fun c_7 => ?_)
            · rw [if_pos c_7] at hE
              refine lv_iload_n hx hb dX1_minuteBehind_107 rfl (lv_at hl 3 rfl) ?_
              refine lv_aload_n hx hb dX1_minuteBehind_108 rfl (lv_at hl 4 rfl) ?_
              refine va_get (D := D) (ci := 1) (v := .ref c3) (C := RX1) (T := TX1) (N := 10) hx hb hts iX1 hown hK hP 0 rfl rfl 3 (Nat.le_of_ble_eq_true rfl) (hts _ wd_34) (fun _ h9 => h9) rfl dX1_minuteBehind_109 ?_
              refine lv_iload_n hx hb dX1_minuteBehind_112 rfl (lv_at hl 2 rfl) ?_
              refine lv_bipush (v := 8) hx hb dX1_minuteBehind_113 rfl ?_
              refine lv_imul hx hb dX1_minuteBehind_115 ?_
              refine lv_iload hx hb dX1_minuteBehind_116 (lv_at hl 1 rfl) ?_
              refine lv_iadd hx hb dX1_minuteBehind_118 ?_
              refine cNi (wr := [(cv, .inr (1, [.int v0, .ref c1, .ref c2, .ref c3, .ref c4, .ref c5, .ref c6, .int v7, .int v8, .ref t])), (t, .inr (8, [.int t0, .int t1, .int t2, .int t3, .int t4, .ref ta, .ref tb, .ref tc, .ref td, .ref te])), (td, .inl (cI, 7, .inl ftd)), (c2, .inl (cI, 6, .inl fc2))]) (rest := [.int w_2l2]) (k_at c3 48 fc3 ((w_2l3 * 8) + w_4l4) (of_decide_eq_true rfl)) okS_X9_at 10 rfl hx hb hml hown hts hK hP hD hS hA hN hl.1 [3] [0, 1, 2, 4] rfl rfl rfl rfl (by decide) rfl (Nat.le_of_ble_eq_true rfl) (Nat.le_of_ble_eq_true rfl) (Nat.le_of_ble_eq_true rfl) (Nat.le_of_ble_eq_true rfl) (Nat.le_of_ble_eq_true rfl) dX1_minuteBehind_119 (fun r_9 u_8 H locs hw_u_8 hP hD hS => ?_)
              obtain rfl := hw_u_8
              have hP : va_P D classes [(cv, .inr (1, [.int v0, .ref c1, .ref c2, .ref c3, .ref c4, .ref c5, .ref c6, .int v7, .int v8, .ref t])), (t, .inr (8, [.int t0, .int t1, .int t2, .int t3, .int t4, .ref ta, .ref tb, .ref tc, .ref td, .ref te])), (td, .inl (cI, 7, .inl ftd)), (c2, .inl (cI, 6, .inl fc2)), (c3, .inl (cI, 48, .inl fc3))] H := hP
              have hD : va_D A [(cv, .inr (1, [.int v0, .ref c1, .ref c2, .ref c3, .ref c4, .ref c5, .ref c6, .int v7, .int v8, .ref t])), (t, .inr (8, [.int t0, .int t1, .int t2, .int t3, .int t4, .ref ta, .ref tb, .ref tc, .ref td, .ref te])), (td, .inl (cI, 7, .inl ftd)), (c2, .inl (cI, 6, .inl fc2)), (c3, .inl (cI, 48, .inl fc3))] := hD
              refine lv_iadd hx hb dX1_minuteBehind_122 ?_
              refine lv_istore_n (lv' := [(2, .int (w_2l2 + (atF 48 fc3 ((w_2l3 * 8) + w_4l4)))), (5, .int w_4l5), (4, .int w_4l4), (3, .int w_2l3), (0, .ref cv), (1, .int g_)]) hx hb dX1_minuteBehind_123 rfl hl (Nat.le_of_ble_eq_true rfl) rfl (fun ls hl => ?_)
              refine lv_iinc (v := (w_2l3 + 1)) (lv' := [(3, .int (w_2l3 + 1)), (2, .int (w_2l2 + (atF 48 fc3 ((w_2l3 * 8) + w_4l4)))), (5, .int w_4l5), (4, .int w_4l4), (0, .ref cv), (1, .int g_)]) hx hb dX1_minuteBehind_124 hl (k := 3) rfl rfl (Nat.le_of_ble_eq_true rfl) rfl (fun ls hl => ?_)
              refine lv_goto (tgt := 27) hx hb dX1_minuteBehind_127 rfl ?_
              exact ih_w_2 (w_2l3 + 1) (w_2l2 + (atF 48 fc3 ((w_2l3 * 8) + w_4l4))) _ _ ls hP hD hS (lv_sub hl [0, 1, 4, 5] rfl) (up_step c_3 hm) hE
            · rw [if_neg c_7] at hE
              refine lv_iconst (v := (-1)) hx hb dX1_minuteBehind_105 rfl ?_
              exact hret (-1) () _ _ _ _ dX1_minuteBehind_106 rfl hE (cutP (isC := [0, 1, 2, 4, 3]) hP rfl) (cutD (isC := [0, 1, 2, 4, 3]) hD rfl rfl) hS
          have lp_44_w_4 : ∀ (n_w_4 : Nat) (w_4l5 : Int32) (w_4l4 : Int32) (H : Heap) (locs : List Loc) (ls : Array Slot), va_P D classes [(cv, .inr (1, [.int v0, .ref c1, .ref c2, .ref c3, .ref c4, .ref c5, .ref c6, .int v7, .int v8, .ref t])), (t, .inr (8, [.int t0, .int t1, .int t2, .int t3, .int t4, .ref ta, .ref tb, .ref tc, .ref td, .ref te])), (td, .inl (cI, 7, .inl ftd)), (c2, .inl (cI, 6, .inl fc2)), (c3, .inl (cI, 48, .inl fc3))] H → va_D A [(cv, .inr (1, [.int v0, .ref c1, .ref c2, .ref c3, .ref c4, .ref c5, .ref c6, .int v7, .int v8, .ref t])), (t, .inr (8, [.int t0, .int t1, .int t2, .int t3, .int t4, .ref ta, .ref tb, .ref tc, .ref td, .ref te])), (td, .inl (cI, 7, .inl ftd)), (c2, .inl (cI, 6, .inl fc2)), (c3, .inl (cI, 48, .inl fc3))] → va_S A s.heap H locs → lv_has ls 6 [(5, .int w_4l5), (4, .int w_4l4), (3, .int w_2l3), (2, .int w_2l2), (0, .ref cv), (1, .int g_)] → ((7 : Int32).toInt - (w_4l5 : Int32).toInt).toNat < n_w_4 → (match (match (f_e_minuteBehind_x1_44 v0 v7 v8 t0 t1 t2 t3 t4 ftd fc2 fc3 g_ w_2l3 n_w_4 w_4l5 w_4l4) with | (w_4l5, w_4l4) => (if w_4l4 ≤ (atF 6 fc2 w_2l3) then (f_e_minuteBehind_x1_27 v0 v7 v8 t0 t1 t2 t3 t4 ftd fc2 fc3 g_ n_w_2 (w_2l3 + 1) (w_2l2 + (atF 48 fc3 ((w_2l3 * 8) + w_4l4)))) else (Sum.inr (-1)))) with | Sum.inl (w_2l3, w_2l2) => w_2l2 | Sum.inr o => o) = RES → W p l e rm_e_minuteBehind_x1 s m args below meth c H locs 0 0 Q (F0 m 44 ls []) := by
            intro n_w_4
            induction n_w_4 with
            | zero => intro w_4l5 w_4l4 H locs ls hP hD hS hl hm; exact absurd hm (Nat.not_lt_zero _)
            | succ n_w_4 ih_w_4 =>
              intro w_4l5 w_4l4 H locs ls hP hD hS hl hm hE
              rw [f_e_minuteBehind_x1_44_s] at hE
              refine lv_iload hx hb dX1_minuteBehind_44 (lv_at hl 0 rfl) ?_
              refine lv_bipush (v := 7) hx hb dX1_minuteBehind_46 rfl ?_
              refine lv_icmp_ge (tgt := 92) hx hb dX1_minuteBehind_48 rfl (fun c_10 => ?_) (fun c_10 => ?_)
              · rw [if_pos c_10] at hE
                exact ex_44_w_4 w_4l5 w_4l4 _ _ ls hP hD hS (lv_sub hl [0, 1, 2, 3, 4, 5] rfl) hE
              · rw [if_neg c_10] at hE
                refine lv_iload hx hb dX1_minuteBehind_51 (lv_at hl 1 rfl) ?_
                refine lv_iload_n hx hb dX1_minuteBehind_53 rfl (lv_at hl 5 rfl) ?_
                refine lv_iload hx hb dX1_minuteBehind_54 (lv_at hl 0 rfl) ?_
                refine lv_ishr hx hb dX1_minuteBehind_56 ?_
                refine lv_iconst (v := 1) hx hb dX1_minuteBehind_57 rfl ?_
                refine lv_iand hx hb dX1_minuteBehind_58 ?_
                refine lv_if_eq (tgt := 82) hx hb dX1_minuteBehind_59 rfl (fun c_11 => ?_) (fun c_11 => ?_)
                · rw [if_pos c_11] at hE
                  refine lv_iconst (v := 0) hx hb dX1_minuteBehind_82 rfl ?_
                  refine lv_iadd hx hb dX1_minuteBehind_83 ?_
                  refine lv_istore (lv' := [(4, .int (w_4l4 + 0)), (5, .int w_4l5), (3, .int w_2l3), (2, .int w_2l2), (0, .ref cv), (1, .int g_)]) hx hb dX1_minuteBehind_84 hl (Nat.le_of_ble_eq_true rfl) rfl (fun ls hl => ?_)
                  refine lv_iinc (v := (w_4l5 + 1)) (lv' := [(5, .int (w_4l5 + 1)), (4, .int (w_4l4 + 0)), (3, .int w_2l3), (2, .int w_2l2), (0, .ref cv), (1, .int g_)]) hx hb dX1_minuteBehind_86 hl (k := 1) rfl rfl (Nat.le_of_ble_eq_true rfl) rfl (fun ls hl => ?_)
                  refine lv_goto (tgt := 44) hx hb dX1_minuteBehind_89 rfl ?_
                  exact ih_w_4 (w_4l5 + 1) (w_4l4 + 0) _ _ ls hP hD hS (lv_sub hl [0, 1, 2, 3, 4, 5] rfl) (up_step c_10 hm) hE
                · rw [if_neg c_11] at hE
                  refine lv_aload_n hx hb dX1_minuteBehind_62 rfl (lv_at hl 4 rfl) ?_
                  refine va_get (D := D) (ci := 1) (v := .ref t) (C := RX1) (T := TX1) (N := 10) hx hb hts iX1 hown hK hP 0 rfl rfl 9 (Nat.le_of_ble_eq_true rfl) (hts _ wd_40) (fun _ h9 => h9) rfl dX1_minuteBehind_63 ?_
                  refine va_get (D := D) (ci := 8) (v := .ref td) (C := RX8) (T := TX8) (N := 10) hx hb hts iX8 hown hK hP 1 rfl rfl 8 (Nat.le_of_ble_eq_true rfl) (hts _ wd_317) (fun _ h9 => h9) rfl dX1_minuteBehind_66 ?_
                  refine lv_iload hx hb dX1_minuteBehind_69 (lv_at hl 0 rfl) ?_
                  refine cNi (wr := [(cv, .inr (1, [.int v0, .ref c1, .ref c2, .ref c3, .ref c4, .ref c5, .ref c6, .int v7, .int v8, .ref t])), (t, .inr (8, [.int t0, .int t1, .int t2, .int t3, .int t4, .ref ta, .ref tb, .ref tc, .ref td, .ref te])), (c2, .inl (cI, 6, .inl fc2)), (c3, .inl (cI, 48, .inl fc3))]) (rest := [.int w_4l4]) (k_at td 7 ftd w_4l5 (of_decide_eq_true rfl)) okS_X9_at 10 rfl hx hb hml hown hts hK hP hD hS hA hN hl.1 [2] [0, 1, 3, 4] rfl rfl rfl rfl (by decide) rfl (Nat.le_of_ble_eq_true rfl) (Nat.le_of_ble_eq_true rfl) (Nat.le_of_ble_eq_true rfl) (Nat.le_of_ble_eq_true rfl) (Nat.le_of_ble_eq_true rfl) dX1_minuteBehind_71 (fun r_13 u_12 H locs hw_u_12 hP hD hS => ?_)
                  obtain rfl := hw_u_12
                  have hP : va_P D classes [(cv, .inr (1, [.int v0, .ref c1, .ref c2, .ref c3, .ref c4, .ref c5, .ref c6, .int v7, .int v8, .ref t])), (t, .inr (8, [.int t0, .int t1, .int t2, .int t3, .int t4, .ref ta, .ref tb, .ref tc, .ref td, .ref te])), (c2, .inl (cI, 6, .inl fc2)), (c3, .inl (cI, 48, .inl fc3)), (td, .inl (cI, 7, .inl ftd))] H := hP
                  have hD : va_D A [(cv, .inr (1, [.int v0, .ref c1, .ref c2, .ref c3, .ref c4, .ref c5, .ref c6, .int v7, .int v8, .ref t])), (t, .inr (8, [.int t0, .int t1, .int t2, .int t3, .int t4, .ref ta, .ref tb, .ref tc, .ref td, .ref te])), (c2, .inl (cI, 6, .inl fc2)), (c3, .inl (cI, 48, .inl fc3)), (td, .inl (cI, 7, .inl ftd))] := hD
                  refine lv_iload_n hx hb dX1_minuteBehind_74 rfl (lv_at hl 2 rfl) ?_
                  refine lv_icmp_lt (tgt := 82) hx hb dX1_minuteBehind_75 rfl (fun c_14 => ?_) (fun c_14 => ?_)
                  · rw [if_pos c_14] at hE
                    refine lv_iconst (v := 0) hx hb dX1_minuteBehind_82 rfl ?_
                    refine lv_iadd hx hb dX1_minuteBehind_83 ?_
                    refine lv_istore (lv' := [(4, .int (w_4l4 + 0)), (5, .int w_4l5), (3, .int w_2l3), (2, .int w_2l2), (0, .ref cv), (1, .int g_)]) hx hb dX1_minuteBehind_84 hl (Nat.le_of_ble_eq_true rfl) rfl (fun ls hl => ?_)
                    refine lv_iinc (v := (w_4l5 + 1)) (lv' := [(5, .int (w_4l5 + 1)), (4, .int (w_4l4 + 0)), (3, .int w_2l3), (2, .int w_2l2), (0, .ref cv), (1, .int g_)]) hx hb dX1_minuteBehind_86 hl (k := 1) rfl rfl (Nat.le_of_ble_eq_true rfl) rfl (fun ls hl => ?_)
                    refine lv_goto (tgt := 44) hx hb dX1_minuteBehind_89 rfl ?_
                    exact ih_w_4 (w_4l5 + 1) (w_4l4 + 0) _ _ ls (cutP (isC := [0, 1, 4, 2, 3]) hP rfl) (cutD (isC := [0, 1, 4, 2, 3]) hD rfl rfl) hS (lv_sub hl [0, 1, 2, 3, 4, 5] rfl) (up_step c_10 hm) hE
                  · rw [if_neg c_14] at hE
                    refine lv_iconst (v := 1) hx hb dX1_minuteBehind_78 rfl ?_
                    refine lv_goto (tgt := 83) hx hb dX1_minuteBehind_79 rfl ?_
                    refine lv_iadd hx hb dX1_minuteBehind_83 ?_
                    refine lv_istore (lv' := [(4, .int (w_4l4 + 1)), (5, .int w_4l5), (3, .int w_2l3), (2, .int w_2l2), (0, .ref cv), (1, .int g_)]) hx hb dX1_minuteBehind_84 hl (Nat.le_of_ble_eq_true rfl) rfl (fun ls hl => ?_)
                    refine lv_iinc (v := (w_4l5 + 1)) (lv' := [(5, .int (w_4l5 + 1)), (4, .int (w_4l4 + 1)), (3, .int w_2l3), (2, .int w_2l2), (0, .ref cv), (1, .int g_)]) hx hb dX1_minuteBehind_86 hl (k := 1) rfl rfl (Nat.le_of_ble_eq_true rfl) rfl (fun ls hl => ?_)
                    refine lv_goto (tgt := 44) hx hb dX1_minuteBehind_89 rfl ?_
                    exact ih_w_4 (w_4l5 + 1) (w_4l4 + 1) _ _ ls (cutP (isC := [0, 1, 4, 2, 3]) hP rfl) (cutD (isC := [0, 1, 4, 2, 3]) hD rfl rfl) hS (lv_sub hl [0, 1, 2, 3, 4, 5] rfl) (up_step c_10 hm) hE
          exact lp_44_w_4 (((7 : Int32).toInt - (0 : Int32).toInt).toNat + 1) 0 0 _ _ ls hP hD hS hl (Nat.lt_succ_self _) hE
    exact lp_27_w_2 (((t0 : Int32).toInt - (0 : Int32).toInt).toNat + 1) 0 v8 _ _ ls hP hD hS hl (Nat.lt_succ_self _) hE
  · rw [if_neg c_1] at hE
    refine lv_iconst (v := (-1)) hx hb dX1_minuteBehind_18 rfl ?_
    exact hret (-1) () _ _ _ _ dX1_minuteBehind_19 rfl hE hP hD hS
noncomputable def f_e_weigh_x1 (v0 : Int32) (v7 : Int32) (v8 : Int32) (t0 : Int32) (t1 : Int32) (t2 : Int32) (t3 : Int32) (t4 : Int32) (fte : Nat → Int32) (fc4 : Nat → Int32) (fc5 : Nat → Int32) (fc6 : Nat → Int32) (g_ : Int32) (w_ : Int32) : (Nat → Int32) × (Nat → Int32) := (if (g_ ||| (1 <<< (w_ &&& 31))) = g_ then (fc5, fc6) else (if (atF 128 fc4 (g_ ||| (1 <<< (w_ &&& 31)))) = (-1) then (fc5, fc6) else (if (atF 7 fte w_) < (atF 128 fc4 (g_ ||| (1 <<< (w_ &&& 31)))) then (if ((atF 128 fc5 (g_ ||| (1 <<< (w_ &&& 31)))) + 0) ≤ (atF 128 fc5 g_) then (fc5, fc6) else ((putF 128 fc5 g_ ((atF 128 fc5 (g_ ||| (1 <<< (w_ &&& 31)))) + 0)), (putF 128 fc6 g_ w_))) else (if ((atF 128 fc5 (g_ ||| (1 <<< (w_ &&& 31)))) + 1) ≤ (atF 128 fc5 g_) then (fc5, fc6) else ((putF 128 fc5 g_ ((atF 128 fc5 (g_ ||| (1 <<< (w_ &&& 31)))) + 1)), (putF 128 fc6 g_ w_))))))
def rm_e_weigh_x1 : Room := { frames := 1, cells := 0, slots := 0, locals := 22 }
set_option maxHeartbeats 4000000 in
set_option maxRecDepth 100000 in
theorem e_weigh_x1 {l : Launch} {D : va_G} {cI cZ : ClassId} {sz : Nat} (cv c1 c2 c3 c4 c5 c6 t ta tb tc td te : Nat) (v0 : Int32) (v7 : Int32) (v8 : Int32) (t0 : Int32) (t1 : Int32) (t2 : Int32) (t3 : Int32) (t4 : Int32) (fte : Nat → Int32) (fc4 : Nat → Int32) (fc5 : Nat → Int32) (fc6 : Nat → Int32) (g_ : Int32) (w_ : Int32) : KV l yX1_weigh cX1_weigh 6 rm_e_weigh_x1 D cI cZ [.ref cv, .int g_, .int w_] sz [(cv, .inr (1, [.int v0, .ref c1, .ref c2, .ref c3, .ref c4, .ref c5, .ref c6, .int v7, .int v8, .ref t])), (t, .inr (8, [.int t0, .int t1, .int t2, .int t3, .int t4, .ref ta, .ref tb, .ref tc, .ref td, .ref te])), (te, .inl (cI, 7, .inl fte)), (c4, .inl (cI, 128, .inl fc4)), (c5, .inl (cI, 128, .inl fc5)), (c6, .inl (cI, 128, .inl fc6))] (fun (u : (Nat → Int32) × (Nat → Int32)) => u = f_e_weigh_x1 v0 v7 v8 t0 t1 t2 t3 t4 fte fc4 fc5 fc6 g_ w_) (fun (u : (Nat → Int32) × (Nat → Int32)) => [(cv, .inr (1, [.int v0, .ref c1, .ref c2, .ref c3, .ref c4, .ref c5, .ref c6, .int v7, .int v8, .ref t])), (t, .inr (8, [.int t0, .int t1, .int t2, .int t3, .int t4, .ref ta, .ref tb, .ref tc, .ref td, .ref te])), (te, .inl (cI, 7, .inl fte)), (c4, .inl (cI, 128, .inl fc4)), (c5, .inl (cI, 128, .inl u.1)), (c6, .inl (cI, 128, .inl u.2))]) := by
  refine KV.go rfl (Nat.le_of_ble_eq_true rfl) ?_
  intro p e s m args below meth c ls A Q hx hb hml hts hown hin hP hK hD hS hA hN hl hret
  have hl : lv_has ls 6 [(0, .ref cv), (1, .int g_), (2, .int w_)] := hl
  obtain ⟨RES, hE⟩ : ∃ xRES, f_e_weigh_x1 v0 v7 v8 t0 t1 t2 t3 t4 fte fc4 fc5 fc6 g_ w_ = xRES := ⟨_, rfl⟩
  rw [hE] at hret
  rw [f_e_weigh_x1] at hE
  refine lv_iload_n hx hb dX1_weigh_0 rfl (lv_at hl 1 rfl) ?_
  refine lv_iconst (v := 1) hx hb dX1_weigh_1 rfl ?_
  refine lv_iload_n hx hb dX1_weigh_2 rfl (lv_at hl 2 rfl) ?_
  refine lv_ishl hx hb dX1_weigh_3 ?_
  refine lv_ior hx hb dX1_weigh_4 ?_
  refine lv_istore_n (lv' := [(3, .int (g_ ||| (1 <<< (w_ &&& 31)))), (0, .ref cv), (1, .int g_), (2, .int w_)]) hx hb dX1_weigh_5 rfl hl (Nat.le_of_ble_eq_true rfl) rfl (fun ls hl => ?_)
  refine lv_aload_n hx hb dX1_weigh_6 rfl (lv_at hl 1 rfl) ?_
  refine va_get (D := D) (ci := 1) (v := .ref c4) (C := RX1) (T := TX1) (N := 10) hx hb hts iX1 hown hK hP 0 rfl rfl 4 (Nat.le_of_ble_eq_true rfl) (hts _ wd_35) (fun _ h9 => h9) rfl dX1_weigh_7 ?_
  refine lv_iload_n hx hb dX1_weigh_10 rfl (lv_at hl 0 rfl) ?_
  refine cNi (wr := [(cv, .inr (1, [.int v0, .ref c1, .ref c2, .ref c3, .ref c4, .ref c5, .ref c6, .int v7, .int v8, .ref t])), (t, .inr (8, [.int t0, .int t1, .int t2, .int t3, .int t4, .ref ta, .ref tb, .ref tc, .ref td, .ref te])), (te, .inl (cI, 7, .inl fte)), (c5, .inl (cI, 128, .inl fc5)), (c6, .inl (cI, 128, .inl fc6))]) (rest := []) (k_at c4 128 fc4 (g_ ||| (1 <<< (w_ &&& 31))) (of_decide_eq_true rfl)) okS_X9_at 10 rfl hx hb hml hown hts hK hP hD hS hA hN hl.1 [3] [0, 1, 2, 4, 5] rfl rfl rfl rfl (by decide) rfl (Nat.le_of_ble_eq_true rfl) (Nat.le_of_ble_eq_true rfl) (Nat.le_of_ble_eq_true rfl) (Nat.le_of_ble_eq_true rfl) (Nat.le_of_ble_eq_true rfl) dX1_weigh_11 (fun r_2 u_1 H locs hw_u_1 hP hD hS => ?_)
  obtain rfl := hw_u_1
  have hP : va_P D classes [(cv, .inr (1, [.int v0, .ref c1, .ref c2, .ref c3, .ref c4, .ref c5, .ref c6, .int v7, .int v8, .ref t])), (t, .inr (8, [.int t0, .int t1, .int t2, .int t3, .int t4, .ref ta, .ref tb, .ref tc, .ref td, .ref te])), (te, .inl (cI, 7, .inl fte)), (c5, .inl (cI, 128, .inl fc5)), (c6, .inl (cI, 128, .inl fc6)), (c4, .inl (cI, 128, .inl fc4))] H := hP
  have hD : va_D A [(cv, .inr (1, [.int v0, .ref c1, .ref c2, .ref c3, .ref c4, .ref c5, .ref c6, .int v7, .int v8, .ref t])), (t, .inr (8, [.int t0, .int t1, .int t2, .int t3, .int t4, .ref ta, .ref tb, .ref tc, .ref td, .ref te])), (te, .inl (cI, 7, .inl fte)), (c5, .inl (cI, 128, .inl fc5)), (c6, .inl (cI, 128, .inl fc6)), (c4, .inl (cI, 128, .inl fc4))] := hD
  refine lv_istore (lv' := [(4, .int (atF 128 fc4 (g_ ||| (1 <<< (w_ &&& 31))))), (3, .int (g_ ||| (1 <<< (w_ &&& 31)))), (0, .ref cv), (1, .int g_), (2, .int w_)]) hx hb dX1_weigh_14 hl (Nat.le_of_ble_eq_true rfl) rfl (fun ls hl => ?_)
  refine lv_aload_n hx hb dX1_weigh_16 rfl (lv_at hl 2 rfl) ?_
  refine va_get (D := D) (ci := 1) (v := .ref t) (C := RX1) (T := TX1) (N := 10) hx hb hts iX1 hown hK hP 0 rfl rfl 9 (Nat.le_of_ble_eq_true rfl) (hts _ wd_40) (fun _ h9 => h9) rfl dX1_weigh_17 ?_
  refine lv_ifnull hx hb dX1_weigh_20 ?_
  refine lv_iload_n hx hb dX1_weigh_23 rfl (lv_at hl 1 rfl) ?_
  refine lv_iload_n hx hb dX1_weigh_24 rfl (lv_at hl 3 rfl) ?_
  refine lv_icmp_eq (tgt := 34) hx hb dX1_weigh_25 rfl (fun c_3 => ?_) (fun c_3 => ?_)
  · rw [if_pos c_3] at hE
    exact hret (fc5, fc6) _ _ _ _ dX1_weigh_34 hE (cutP (isC := [0, 1, 2, 5, 3, 4]) hP rfl) (cutD (isC := [0, 1, 2, 5, 3, 4]) hD rfl rfl) hS
  · rw [if_neg c_3] at hE
    refine lv_iload hx hb dX1_weigh_28 (lv_at hl 0 rfl) ?_
    refine lv_iconst (v := (-1)) hx hb dX1_weigh_30 rfl ?_
    refine lv_icmp_ne (tgt := 35) hx hb dX1_weigh_31 rfl (fun c_4 => ?_) (fun c_4 => ?_)
    · rw [if_neg c_4] at hE
      refine lv_aload_n hx hb dX1_weigh_35 rfl (lv_at hl 2 rfl) ?_
      refine va_get (D := D) (ci := 1) (v := .ref c5) (C := RX1) (T := TX1) (N := 10) hx hb hts iX1 hown hK hP 0 rfl rfl 5 (Nat.le_of_ble_eq_true rfl) (hts _ wd_36) (fun _ h9 => h9) rfl dX1_weigh_36 ?_
      refine lv_iload_n hx hb dX1_weigh_39 rfl (lv_at hl 1 rfl) ?_
      refine cNi (wr := [(cv, .inr (1, [.int v0, .ref c1, .ref c2, .ref c3, .ref c4, .ref c5, .ref c6, .int v7, .int v8, .ref t])), (t, .inr (8, [.int t0, .int t1, .int t2, .int t3, .int t4, .ref ta, .ref tb, .ref tc, .ref td, .ref te])), (te, .inl (cI, 7, .inl fte)), (c6, .inl (cI, 128, .inl fc6)), (c4, .inl (cI, 128, .inl fc4))]) (rest := []) (k_at c5 128 fc5 (g_ ||| (1 <<< (w_ &&& 31))) (of_decide_eq_true rfl)) okS_X9_at 10 rfl hx hb hml hown hts hK hP hD hS hA hN hl.1 [3] [0, 1, 2, 4, 5] rfl rfl rfl rfl (by decide) rfl (Nat.le_of_ble_eq_true rfl) (Nat.le_of_ble_eq_true rfl) (Nat.le_of_ble_eq_true rfl) (Nat.le_of_ble_eq_true rfl) (Nat.le_of_ble_eq_true rfl) dX1_weigh_40 (fun r_6 u_5 H locs hw_u_5 hP hD hS => ?_)
      obtain rfl := hw_u_5
      have hP : va_P D classes [(cv, .inr (1, [.int v0, .ref c1, .ref c2, .ref c3, .ref c4, .ref c5, .ref c6, .int v7, .int v8, .ref t])), (t, .inr (8, [.int t0, .int t1, .int t2, .int t3, .int t4, .ref ta, .ref tb, .ref tc, .ref td, .ref te])), (te, .inl (cI, 7, .inl fte)), (c6, .inl (cI, 128, .inl fc6)), (c4, .inl (cI, 128, .inl fc4)), (c5, .inl (cI, 128, .inl fc5))] H := hP
      have hD : va_D A [(cv, .inr (1, [.int v0, .ref c1, .ref c2, .ref c3, .ref c4, .ref c5, .ref c6, .int v7, .int v8, .ref t])), (t, .inr (8, [.int t0, .int t1, .int t2, .int t3, .int t4, .ref ta, .ref tb, .ref tc, .ref td, .ref te])), (te, .inl (cI, 7, .inl fte)), (c6, .inl (cI, 128, .inl fc6)), (c4, .inl (cI, 128, .inl fc4)), (c5, .inl (cI, 128, .inl fc5))] := hD
      refine lv_iload hx hb dX1_weigh_43 (lv_at hl 0 rfl) ?_
      refine lv_aload_n hx hb dX1_weigh_45 rfl (lv_at hl 2 rfl) ?_
      refine va_get (D := D) (ci := 1) (v := .ref t) (C := RX1) (T := TX1) (N := 10) hx hb hts iX1 hown hK hP 0 rfl rfl 9 (Nat.le_of_ble_eq_true rfl) (hts _ wd_40) (fun _ h9 => h9) rfl dX1_weigh_46 ?_
      refine va_get (D := D) (ci := 8) (v := .ref te) (C := RX8) (T := TX8) (N := 10) hx hb hts iX8 hown hK hP 1 rfl rfl 9 (Nat.le_of_ble_eq_true rfl) (hts _ wd_318) (fun _ h9 => h9) rfl dX1_weigh_49 ?_
      refine lv_iload_n hx hb dX1_weigh_52 rfl (lv_at hl 4 rfl) ?_
      refine cNi (wr := [(cv, .inr (1, [.int v0, .ref c1, .ref c2, .ref c3, .ref c4, .ref c5, .ref c6, .int v7, .int v8, .ref t])), (t, .inr (8, [.int t0, .int t1, .int t2, .int t3, .int t4, .ref ta, .ref tb, .ref tc, .ref td, .ref te])), (c6, .inl (cI, 128, .inl fc6)), (c4, .inl (cI, 128, .inl fc4)), (c5, .inl (cI, 128, .inl fc5))]) (rest := [.int (atF 128 fc4 (g_ ||| (1 <<< (w_ &&& 31)))), .int (atF 128 fc5 (g_ ||| (1 <<< (w_ &&& 31))))]) (k_at te 7 fte w_ (of_decide_eq_true rfl)) okS_X9_at 10 rfl hx hb hml hown hts hK hP hD hS hA hN hl.1 [2] [0, 1, 3, 4, 5] rfl rfl rfl rfl (by decide) rfl (Nat.le_of_ble_eq_true rfl) (Nat.le_of_ble_eq_true rfl) (Nat.le_of_ble_eq_true rfl) (Nat.le_of_ble_eq_true rfl) (Nat.le_of_ble_eq_true rfl) dX1_weigh_53 (fun r_8 u_7 H locs hw_u_7 hP hD hS => ?_)
      obtain rfl := hw_u_7
      have hP : va_P D classes [(cv, .inr (1, [.int v0, .ref c1, .ref c2, .ref c3, .ref c4, .ref c5, .ref c6, .int v7, .int v8, .ref t])), (t, .inr (8, [.int t0, .int t1, .int t2, .int t3, .int t4, .ref ta, .ref tb, .ref tc, .ref td, .ref te])), (c6, .inl (cI, 128, .inl fc6)), (c4, .inl (cI, 128, .inl fc4)), (c5, .inl (cI, 128, .inl fc5)), (te, .inl (cI, 7, .inl fte))] H := hP
      have hD : va_D A [(cv, .inr (1, [.int v0, .ref c1, .ref c2, .ref c3, .ref c4, .ref c5, .ref c6, .int v7, .int v8, .ref t])), (t, .inr (8, [.int t0, .int t1, .int t2, .int t3, .int t4, .ref ta, .ref tb, .ref tc, .ref td, .ref te])), (c6, .inl (cI, 128, .inl fc6)), (c4, .inl (cI, 128, .inl fc4)), (c5, .inl (cI, 128, .inl fc5)), (te, .inl (cI, 7, .inl fte))] := hD
      refine lv_icmp_gt (tgt := 63) hx hb dX1_weigh_56 rfl (fun c_9 => ?_) (fun c_9 => ?_)
      · rw [if_pos c_9] at hE
        refine lv_iconst (v := 0) hx hb dX1_weigh_63 rfl ?_
        refine lv_iadd hx hb dX1_weigh_64 ?_
        refine lv_istore (lv' := [(5, .int ((atF 128 fc5 (g_ ||| (1 <<< (w_ &&& 31)))) + 0)), (4, .int (atF 128 fc4 (g_ ||| (1 <<< (w_ &&& 31))))), (3, .int (g_ ||| (1 <<< (w_ &&& 31)))), (0, .ref cv), (1, .int g_), (2, .int w_)]) hx hb dX1_weigh_65 hl (Nat.le_of_ble_eq_true rfl) rfl (fun ls hl => ?_)
        refine lv_iload hx hb dX1_weigh_67 (lv_at hl 0 rfl) ?_
        refine lv_aload_n hx hb dX1_weigh_69 rfl (lv_at hl 3 rfl) ?_
        refine va_get (D := D) (ci := 1) (v := .ref c5) (C := RX1) (T := TX1) (N := 10) hx hb hts iX1 hown hK hP 0 rfl rfl 5 (Nat.le_of_ble_eq_true rfl) (hts _ wd_36) (fun _ h9 => h9) rfl dX1_weigh_70 ?_
        refine lv_iload_n hx hb dX1_weigh_73 rfl (lv_at hl 4 rfl) ?_
        refine cNi (wr := [(cv, .inr (1, [.int v0, .ref c1, .ref c2, .ref c3, .ref c4, .ref c5, .ref c6, .int v7, .int v8, .ref t])), (t, .inr (8, [.int t0, .int t1, .int t2, .int t3, .int t4, .ref ta, .ref tb, .ref tc, .ref td, .ref te])), (c6, .inl (cI, 128, .inl fc6)), (c4, .inl (cI, 128, .inl fc4)), (te, .inl (cI, 7, .inl fte))]) (rest := [.int ((atF 128 fc5 (g_ ||| (1 <<< (w_ &&& 31)))) + 0)]) (k_at c5 128 fc5 g_ (of_decide_eq_true rfl)) okS_X9_at 10 rfl hx hb hml hown hts hK hP hD hS hA hN hl.1 [4] [0, 1, 2, 3, 5] rfl rfl rfl rfl (by decide) rfl (Nat.le_of_ble_eq_true rfl) (Nat.le_of_ble_eq_true rfl) (Nat.le_of_ble_eq_true rfl) (Nat.le_of_ble_eq_true rfl) (Nat.le_of_ble_eq_true rfl) dX1_weigh_74 (fun r_11 u_10 H locs hw_u_10 hP hD hS => ?_)
        obtain rfl := hw_u_10
        have hP : va_P D classes [(cv, .inr (1, [.int v0, .ref c1, .ref c2, .ref c3, .ref c4, .ref c5, .ref c6, .int v7, .int v8, .ref t])), (t, .inr (8, [.int t0, .int t1, .int t2, .int t3, .int t4, .ref ta, .ref tb, .ref tc, .ref td, .ref te])), (c6, .inl (cI, 128, .inl fc6)), (c4, .inl (cI, 128, .inl fc4)), (te, .inl (cI, 7, .inl fte)), (c5, .inl (cI, 128, .inl fc5))] H := hP
        have hD : va_D A [(cv, .inr (1, [.int v0, .ref c1, .ref c2, .ref c3, .ref c4, .ref c5, .ref c6, .int v7, .int v8, .ref t])), (t, .inr (8, [.int t0, .int t1, .int t2, .int t3, .int t4, .ref ta, .ref tb, .ref tc, .ref td, .ref te])), (c6, .inl (cI, 128, .inl fc6)), (c4, .inl (cI, 128, .inl fc4)), (te, .inl (cI, 7, .inl fte)), (c5, .inl (cI, 128, .inl fc5))] := hD
        refine lv_icmp_le (tgt := 99) hx hb dX1_weigh_77 rfl (fun c_12 => ?_) (fun c_12 => ?_)
        · rw [if_pos c_12] at hE
          exact hret (fc5, fc6) _ _ _ _ dX1_weigh_99 hE (cutP (isC := [0, 1, 4, 3, 5, 2]) hP rfl) (cutD (isC := [0, 1, 4, 3, 5, 2]) hD rfl rfl) hS
        · rw [if_neg c_12] at hE
          refine lv_aload_n hx hb dX1_weigh_80 rfl (lv_at hl 3 rfl) ?_
          refine va_get (D := D) (ci := 1) (v := .ref c5) (C := RX1) (T := TX1) (N := 10) hx hb hts iX1 hown hK hP 0 rfl rfl 5 (Nat.le_of_ble_eq_true rfl) (hts _ wd_36) (fun _ h9 => h9) rfl dX1_weigh_81 ?_
          refine lv_iload_n hx hb dX1_weigh_84 rfl (lv_at hl 4 rfl) ?_
          refine lv_iload hx hb dX1_weigh_85 (lv_at hl 0 rfl) ?_
          refine cNv (wr := [(cv, .inr (1, [.int v0, .ref c1, .ref c2, .ref c3, .ref c4, .ref c5, .ref c6, .int v7, .int v8, .ref t])), (t, .inr (8, [.int t0, .int t1, .int t2, .int t3, .int t4, .ref ta, .ref tb, .ref tc, .ref td, .ref te])), (c6, .inl (cI, 128, .inl fc6)), (c4, .inl (cI, 128, .inl fc4)), (te, .inl (cI, 7, .inl fte))]) (rest := []) (k_put c5 128 fc5 g_ ((atF 128 fc5 (g_ ||| (1 <<< (w_ &&& 31)))) + 0) (of_decide_eq_true rfl)) okS_X9_put 11 rfl hx hb hml hown hts hK hP hD hS hA hN hl.1 [5] [0, 1, 2, 3, 4] rfl rfl rfl rfl (by decide) rfl (Nat.le_of_ble_eq_true rfl) (Nat.le_of_ble_eq_true rfl) (Nat.le_of_ble_eq_true rfl) (Nat.le_of_ble_eq_true rfl) (Nat.le_of_ble_eq_true rfl) dX1_weigh_87 (fun u_13 H locs hw_u_13 hP hD hS => ?_)
          have hP : va_P D classes [(cv, .inr (1, [.int v0, .ref c1, .ref c2, .ref c3, .ref c4, .ref c5, .ref c6, .int v7, .int v8, .ref t])), (t, .inr (8, [.int t0, .int t1, .int t2, .int t3, .int t4, .ref ta, .ref tb, .ref tc, .ref td, .ref te])), (c6, .inl (cI, 128, .inl fc6)), (c4, .inl (cI, 128, .inl fc4)), (te, .inl (cI, 7, .inl fte)), (c5, .inl (cI, 128, .inl (putF 128 fc5 g_ ((atF 128 fc5 (g_ ||| (1 <<< (w_ &&& 31)))) + 0))))] H := hP
          have hD : va_D A [(cv, .inr (1, [.int v0, .ref c1, .ref c2, .ref c3, .ref c4, .ref c5, .ref c6, .int v7, .int v8, .ref t])), (t, .inr (8, [.int t0, .int t1, .int t2, .int t3, .int t4, .ref ta, .ref tb, .ref tc, .ref td, .ref te])), (c6, .inl (cI, 128, .inl fc6)), (c4, .inl (cI, 128, .inl fc4)), (te, .inl (cI, 7, .inl fte)), (c5, .inl (cI, 128, .inl (putF 128 fc5 g_ ((atF 128 fc5 (g_ ||| (1 <<< (w_ &&& 31)))) + 0))))] := hD
          refine lv_aload_n hx hb dX1_weigh_90 rfl (lv_at hl 3 rfl) ?_
          refine va_get (D := D) (ci := 1) (v := .ref c6) (C := RX1) (T := TX1) (N := 10) hx hb hts iX1 hown hK hP 0 rfl rfl 6 (Nat.le_of_ble_eq_true rfl) (hts _ wd_37) (fun _ h9 => h9) rfl dX1_weigh_91 ?_
          refine lv_iload_n hx hb dX1_weigh_94 rfl (lv_at hl 4 rfl) ?_
          refine lv_iload_n hx hb dX1_weigh_95 rfl (lv_at hl 5 rfl) ?_
          refine cNv (wr := [(cv, .inr (1, [.int v0, .ref c1, .ref c2, .ref c3, .ref c4, .ref c5, .ref c6, .int v7, .int v8, .ref t])), (t, .inr (8, [.int t0, .int t1, .int t2, .int t3, .int t4, .ref ta, .ref tb, .ref tc, .ref td, .ref te])), (c4, .inl (cI, 128, .inl fc4)), (te, .inl (cI, 7, .inl fte)), (c5, .inl (cI, 128, .inl (putF 128 fc5 g_ ((atF 128 fc5 (g_ ||| (1 <<< (w_ &&& 31)))) + 0))))]) (rest := []) (k_put c6 128 fc6 g_ w_ (of_decide_eq_true rfl)) okS_X9_put 11 rfl hx hb hml hown hts hK hP hD hS hA hN hl.1 [2] [0, 1, 3, 4, 5] rfl rfl rfl rfl (by decide) rfl (Nat.le_of_ble_eq_true rfl) (Nat.le_of_ble_eq_true rfl) (Nat.le_of_ble_eq_true rfl) (Nat.le_of_ble_eq_true rfl) (Nat.le_of_ble_eq_true rfl) dX1_weigh_96 (fun u_15 H locs hw_u_15 hP hD hS => ?_)
          have hP : va_P D classes [(cv, .inr (1, [.int v0, .ref c1, .ref c2, .ref c3, .ref c4, .ref c5, .ref c6, .int v7, .int v8, .ref t])), (t, .inr (8, [.int t0, .int t1, .int t2, .int t3, .int t4, .ref ta, .ref tb, .ref tc, .ref td, .ref te])), (c4, .inl (cI, 128, .inl fc4)), (te, .inl (cI, 7, .inl fte)), (c5, .inl (cI, 128, .inl (putF 128 fc5 g_ ((atF 128 fc5 (g_ ||| (1 <<< (w_ &&& 31)))) + 0)))), (c6, .inl (cI, 128, .inl (putF 128 fc6 g_ w_)))] H := hP
          have hD : va_D A [(cv, .inr (1, [.int v0, .ref c1, .ref c2, .ref c3, .ref c4, .ref c5, .ref c6, .int v7, .int v8, .ref t])), (t, .inr (8, [.int t0, .int t1, .int t2, .int t3, .int t4, .ref ta, .ref tb, .ref tc, .ref td, .ref te])), (c4, .inl (cI, 128, .inl fc4)), (te, .inl (cI, 7, .inl fte)), (c5, .inl (cI, 128, .inl (putF 128 fc5 g_ ((atF 128 fc5 (g_ ||| (1 <<< (w_ &&& 31)))) + 0)))), (c6, .inl (cI, 128, .inl (putF 128 fc6 g_ w_)))] := hD
          exact hret ((putF 128 fc5 g_ ((atF 128 fc5 (g_ ||| (1 <<< (w_ &&& 31)))) + 0)), (putF 128 fc6 g_ w_)) _ _ _ _ dX1_weigh_99 hE (cutP (isC := [0, 1, 3, 2, 4, 5]) hP rfl) (cutD (isC := [0, 1, 3, 2, 4, 5]) hD rfl rfl) hS
      · rw [if_neg c_9] at hE
        refine lv_iconst (v := 1) hx hb dX1_weigh_59 rfl ?_
        refine lv_goto (tgt := 64) hx hb dX1_weigh_60 rfl ?_
        refine lv_iadd hx hb dX1_weigh_64 ?_
        refine lv_istore (lv' := [(5, .int ((atF 128 fc5 (g_ ||| (1 <<< (w_ &&& 31)))) + 1)), (4, .int (atF 128 fc4 (g_ ||| (1 <<< (w_ &&& 31))))), (3, .int (g_ ||| (1 <<< (w_ &&& 31)))), (0, .ref cv), (1, .int g_), (2, .int w_)]) hx hb dX1_weigh_65 hl (Nat.le_of_ble_eq_true rfl) rfl (fun ls hl => ?_)
        refine lv_iload hx hb dX1_weigh_67 (lv_at hl 0 rfl) ?_
        refine lv_aload_n hx hb dX1_weigh_69 rfl (lv_at hl 3 rfl) ?_
        refine va_get (D := D) (ci := 1) (v := .ref c5) (C := RX1) (T := TX1) (N := 10) hx hb hts iX1 hown hK hP 0 rfl rfl 5 (Nat.le_of_ble_eq_true rfl) (hts _ wd_36) (fun _ h9 => h9) rfl dX1_weigh_70 ?_
        refine lv_iload_n hx hb dX1_weigh_73 rfl (lv_at hl 4 rfl) ?_
        refine cNi (wr := [(cv, .inr (1, [.int v0, .ref c1, .ref c2, .ref c3, .ref c4, .ref c5, .ref c6, .int v7, .int v8, .ref t])), (t, .inr (8, [.int t0, .int t1, .int t2, .int t3, .int t4, .ref ta, .ref tb, .ref tc, .ref td, .ref te])), (c6, .inl (cI, 128, .inl fc6)), (c4, .inl (cI, 128, .inl fc4)), (te, .inl (cI, 7, .inl fte))]) (rest := [.int ((atF 128 fc5 (g_ ||| (1 <<< (w_ &&& 31)))) + 1)]) (k_at c5 128 fc5 g_ (of_decide_eq_true rfl)) okS_X9_at 10 rfl hx hb hml hown hts hK hP hD hS hA hN hl.1 [4] [0, 1, 2, 3, 5] rfl rfl rfl rfl (by decide) rfl (Nat.le_of_ble_eq_true rfl) (Nat.le_of_ble_eq_true rfl) (Nat.le_of_ble_eq_true rfl) (Nat.le_of_ble_eq_true rfl) (Nat.le_of_ble_eq_true rfl) dX1_weigh_74 (fun r_18 u_17 H locs hw_u_17 hP hD hS => ?_)
        obtain rfl := hw_u_17
        have hP : va_P D classes [(cv, .inr (1, [.int v0, .ref c1, .ref c2, .ref c3, .ref c4, .ref c5, .ref c6, .int v7, .int v8, .ref t])), (t, .inr (8, [.int t0, .int t1, .int t2, .int t3, .int t4, .ref ta, .ref tb, .ref tc, .ref td, .ref te])), (c6, .inl (cI, 128, .inl fc6)), (c4, .inl (cI, 128, .inl fc4)), (te, .inl (cI, 7, .inl fte)), (c5, .inl (cI, 128, .inl fc5))] H := hP
        have hD : va_D A [(cv, .inr (1, [.int v0, .ref c1, .ref c2, .ref c3, .ref c4, .ref c5, .ref c6, .int v7, .int v8, .ref t])), (t, .inr (8, [.int t0, .int t1, .int t2, .int t3, .int t4, .ref ta, .ref tb, .ref tc, .ref td, .ref te])), (c6, .inl (cI, 128, .inl fc6)), (c4, .inl (cI, 128, .inl fc4)), (te, .inl (cI, 7, .inl fte)), (c5, .inl (cI, 128, .inl fc5))] := hD
        refine lv_icmp_le (tgt := 99) hx hb dX1_weigh_77 rfl (fun c_19 => ?_) (fun c_19 => ?_)
        · rw [if_pos c_19] at hE
          exact hret (fc5, fc6) _ _ _ _ dX1_weigh_99 hE (cutP (isC := [0, 1, 4, 3, 5, 2]) hP rfl) (cutD (isC := [0, 1, 4, 3, 5, 2]) hD rfl rfl) hS
        · rw [if_neg c_19] at hE
          refine lv_aload_n hx hb dX1_weigh_80 rfl (lv_at hl 3 rfl) ?_
          refine va_get (D := D) (ci := 1) (v := .ref c5) (C := RX1) (T := TX1) (N := 10) hx hb hts iX1 hown hK hP 0 rfl rfl 5 (Nat.le_of_ble_eq_true rfl) (hts _ wd_36) (fun _ h9 => h9) rfl dX1_weigh_81 ?_
          refine lv_iload_n hx hb dX1_weigh_84 rfl (lv_at hl 4 rfl) ?_
          refine lv_iload hx hb dX1_weigh_85 (lv_at hl 0 rfl) ?_
          refine cNv (wr := [(cv, .inr (1, [.int v0, .ref c1, .ref c2, .ref c3, .ref c4, .ref c5, .ref c6, .int v7, .int v8, .ref t])), (t, .inr (8, [.int t0, .int t1, .int t2, .int t3, .int t4, .ref ta, .ref tb, .ref tc, .ref td, .ref te])), (c6, .inl (cI, 128, .inl fc6)), (c4, .inl (cI, 128, .inl fc4)), (te, .inl (cI, 7, .inl fte))]) (rest := []) (k_put c5 128 fc5 g_ ((atF 128 fc5 (g_ ||| (1 <<< (w_ &&& 31)))) + 1) (of_decide_eq_true rfl)) okS_X9_put 11 rfl hx hb hml hown hts hK hP hD hS hA hN hl.1 [5] [0, 1, 2, 3, 4] rfl rfl rfl rfl (by decide) rfl (Nat.le_of_ble_eq_true rfl) (Nat.le_of_ble_eq_true rfl) (Nat.le_of_ble_eq_true rfl) (Nat.le_of_ble_eq_true rfl) (Nat.le_of_ble_eq_true rfl) dX1_weigh_87 (fun u_20 H locs hw_u_20 hP hD hS => ?_)
          have hP : va_P D classes [(cv, .inr (1, [.int v0, .ref c1, .ref c2, .ref c3, .ref c4, .ref c5, .ref c6, .int v7, .int v8, .ref t])), (t, .inr (8, [.int t0, .int t1, .int t2, .int t3, .int t4, .ref ta, .ref tb, .ref tc, .ref td, .ref te])), (c6, .inl (cI, 128, .inl fc6)), (c4, .inl (cI, 128, .inl fc4)), (te, .inl (cI, 7, .inl fte)), (c5, .inl (cI, 128, .inl (putF 128 fc5 g_ ((atF 128 fc5 (g_ ||| (1 <<< (w_ &&& 31)))) + 1))))] H := hP
          have hD : va_D A [(cv, .inr (1, [.int v0, .ref c1, .ref c2, .ref c3, .ref c4, .ref c5, .ref c6, .int v7, .int v8, .ref t])), (t, .inr (8, [.int t0, .int t1, .int t2, .int t3, .int t4, .ref ta, .ref tb, .ref tc, .ref td, .ref te])), (c6, .inl (cI, 128, .inl fc6)), (c4, .inl (cI, 128, .inl fc4)), (te, .inl (cI, 7, .inl fte)), (c5, .inl (cI, 128, .inl (putF 128 fc5 g_ ((atF 128 fc5 (g_ ||| (1 <<< (w_ &&& 31)))) + 1))))] := hD
          refine lv_aload_n hx hb dX1_weigh_90 rfl (lv_at hl 3 rfl) ?_
          refine va_get (D := D) (ci := 1) (v := .ref c6) (C := RX1) (T := TX1) (N := 10) hx hb hts iX1 hown hK hP 0 rfl rfl 6 (Nat.le_of_ble_eq_true rfl) (hts _ wd_37) (fun _ h9 => h9) rfl dX1_weigh_91 ?_
          refine lv_iload_n hx hb dX1_weigh_94 rfl (lv_at hl 4 rfl) ?_
          refine lv_iload_n hx hb dX1_weigh_95 rfl (lv_at hl 5 rfl) ?_
          refine cNv (wr := [(cv, .inr (1, [.int v0, .ref c1, .ref c2, .ref c3, .ref c4, .ref c5, .ref c6, .int v7, .int v8, .ref t])), (t, .inr (8, [.int t0, .int t1, .int t2, .int t3, .int t4, .ref ta, .ref tb, .ref tc, .ref td, .ref te])), (c4, .inl (cI, 128, .inl fc4)), (te, .inl (cI, 7, .inl fte)), (c5, .inl (cI, 128, .inl (putF 128 fc5 g_ ((atF 128 fc5 (g_ ||| (1 <<< (w_ &&& 31)))) + 1))))]) (rest := []) (k_put c6 128 fc6 g_ w_ (of_decide_eq_true rfl)) okS_X9_put 11 rfl hx hb hml hown hts hK hP hD hS hA hN hl.1 [2] [0, 1, 3, 4, 5] rfl rfl rfl rfl (by decide) rfl (Nat.le_of_ble_eq_true rfl) (Nat.le_of_ble_eq_true rfl) (Nat.le_of_ble_eq_true rfl) (Nat.le_of_ble_eq_true rfl) (Nat.le_of_ble_eq_true rfl) dX1_weigh_96 (fun u_22 H locs hw_u_22 hP hD hS => ?_)
          have hP : va_P D classes [(cv, .inr (1, [.int v0, .ref c1, .ref c2, .ref c3, .ref c4, .ref c5, .ref c6, .int v7, .int v8, .ref t])), (t, .inr (8, [.int t0, .int t1, .int t2, .int t3, .int t4, .ref ta, .ref tb, .ref tc, .ref td, .ref te])), (c4, .inl (cI, 128, .inl fc4)), (te, .inl (cI, 7, .inl fte)), (c5, .inl (cI, 128, .inl (putF 128 fc5 g_ ((atF 128 fc5 (g_ ||| (1 <<< (w_ &&& 31)))) + 1)))), (c6, .inl (cI, 128, .inl (putF 128 fc6 g_ w_)))] H := hP
          have hD : va_D A [(cv, .inr (1, [.int v0, .ref c1, .ref c2, .ref c3, .ref c4, .ref c5, .ref c6, .int v7, .int v8, .ref t])), (t, .inr (8, [.int t0, .int t1, .int t2, .int t3, .int t4, .ref ta, .ref tb, .ref tc, .ref td, .ref te])), (c4, .inl (cI, 128, .inl fc4)), (te, .inl (cI, 7, .inl fte)), (c5, .inl (cI, 128, .inl (putF 128 fc5 g_ ((atF 128 fc5 (g_ ||| (1 <<< (w_ &&& 31)))) + 1)))), (c6, .inl (cI, 128, .inl (putF 128 fc6 g_ w_)))] := hD
          exact hret ((putF 128 fc5 g_ ((atF 128 fc5 (g_ ||| (1 <<< (w_ &&& 31)))) + 1)), (putF 128 fc6 g_ w_)) _ _ _ _ dX1_weigh_99 hE (cutP (isC := [0, 1, 3, 2, 4, 5]) hP rfl) (cutD (isC := [0, 1, 3, 2, 4, 5]) hD rfl rfl) hS
    · rw [if_pos c_4] at hE
      exact hret (fc5, fc6) _ _ _ _ dX1_weigh_34 hE (cutP (isC := [0, 1, 2, 5, 3, 4]) hP rfl) (cutD (isC := [0, 1, 2, 5, 3, 4]) hD rfl rfl) hS
noncomputable def f_e_layOutRow_x1_9 (v0 : Int32) (v7 : Int32) (v8 : Int32) (fc1 : Nat → Int32) (fc6 : Nat → Int32) (n : Nat) : Int32 → Int32 → Int32 → (Nat → Int32) → Int32 × Int32 × Int32 × (Nat → Int32) := Nat.rec (motive := fun _ => Int32 → Int32 → Int32 → (Nat → Int32) → Int32 × Int32 × Int32 × (Nat → Int32)) (fun w_1l2 w_1l1 w_1m0 w_1m1 => (w_1l2, w_1l1, w_1m0, w_1m1)) (fun n ih w_1l2 w_1l1 w_1m0 w_1m1 => (if 7 ≤ w_1l2 then (w_1l2, w_1l1, w_1m0, w_1m1) else (if (atF 128 fc6 w_1l1) = (-1) then (w_1l2, w_1l1, w_1m0, w_1m1) else (ih (w_1l2 + 1) (w_1l1 ||| (1 <<< ((atF 128 fc6 w_1l1) &&& 31))) (w_1m0 + 1) (putF 7 w_1m1 w_1m0 (atF 128 fc6 w_1l1)))))) n
theorem f_e_layOutRow_x1_9_s (v0 : Int32) (v7 : Int32) (v8 : Int32) (fc1 : Nat → Int32) (fc6 : Nat → Int32) (n : Nat) (w_1l2 : Int32) (w_1l1 : Int32) (w_1m0 : Int32) (w_1m1 : (Nat → Int32)) : f_e_layOutRow_x1_9 v0 v7 v8 fc1 fc6 (n + 1) w_1l2 w_1l1 w_1m0 w_1m1 = (if 7 ≤ w_1l2 then (w_1l2, w_1l1, w_1m0, w_1m1) else (if (atF 128 fc6 w_1l1) = (-1) then (w_1l2, w_1l1, w_1m0, w_1m1) else (f_e_layOutRow_x1_9 v0 v7 v8 fc1 fc6 n (w_1l2 + 1) (w_1l1 ||| (1 <<< ((atF 128 fc6 w_1l1) &&& 31))) (w_1m0 + 1) (putF 7 w_1m1 w_1m0 (atF 128 fc6 w_1l1))))) := rfl
noncomputable def f_e_layOutRow_x1 (v0 : Int32) (v7 : Int32) (v8 : Int32) (fc1 : Nat → Int32) (fc6 : Nat → Int32) : Int32 × (Nat → Int32) := (match (f_e_layOutRow_x1_9 v0 v7 v8 fc1 fc6 (((7 : Int32).toInt - (0 : Int32).toInt).toNat + 1) 0 0 0 fc1) with | (w_1l2, w_1l1, w_1m0, w_1m1) => (w_1m0, w_1m1))
def rm_e_layOutRow_x1 : Room := { frames := 1, cells := 0, slots := 0, locals := 22 }
set_option maxHeartbeats 4000000 in
set_option maxRecDepth 100000 in
theorem e_layOutRow_x1 {l : Launch} {D : va_G} {cI cZ : ClassId} {sz : Nat} (cv c1 c2 c3 c4 c5 c6 t : Nat) (v0 : Int32) (v7 : Int32) (v8 : Int32) (fc1 : Nat → Int32) (fc6 : Nat → Int32) : KV l yX1_layOutRow cX1_layOutRow 4 rm_e_layOutRow_x1 D cI cZ [.ref cv] sz [(cv, .inr (1, [.int v0, .ref c1, .ref c2, .ref c3, .ref c4, .ref c5, .ref c6, .int v7, .int v8, .ref t])), (c1, .inl (cI, 7, .inl fc1)), (c6, .inl (cI, 128, .inl fc6))] (fun (u : Int32 × (Nat → Int32)) => u = f_e_layOutRow_x1 v0 v7 v8 fc1 fc6) (fun (u : Int32 × (Nat → Int32)) => [(cv, .inr (1, [.int (u.1), .ref c1, .ref c2, .ref c3, .ref c4, .ref c5, .ref c6, .int v7, .int v8, .ref t])), (c1, .inl (cI, 7, .inl u.2)), (c6, .inl (cI, 128, .inl fc6))]) := by
  refine KV.go rfl (Nat.le_of_ble_eq_true rfl) ?_
  intro p e s m args below meth c ls A Q hx hb hml hts hown hin hP hK hD hS hA hN hl hret
  have hl : lv_has ls 4 [(0, .ref cv)] := hl
  obtain ⟨RES, hE⟩ : ∃ xRES, f_e_layOutRow_x1 v0 v7 v8 fc1 fc6 = xRES := ⟨_, rfl⟩
  rw [hE] at hret
  rw [f_e_layOutRow_x1] at hE
  refine lv_iconst (v := 0) hx hb dX1_layOutRow_0 rfl ?_
  refine lv_istore_n (lv' := [(1, .int 0), (0, .ref cv)]) hx hb dX1_layOutRow_1 rfl hl (Nat.le_of_ble_eq_true rfl) rfl (fun ls hl => ?_)
  refine lv_aload_n hx hb dX1_layOutRow_2 rfl (lv_at hl 1 rfl) ?_
  refine lv_iconst (v := 0) hx hb dX1_layOutRow_3 rfl ?_
  refine va_put (D := D) (ci := 1) (v := .int 0) (ty := .int) (C := RX1) (T := TX1) (N := 10) hx hb hts iX1 tyX1 tyX1_ok nmX1 hown hK hP hD hS 0 rfl rfl 0 (Nat.le_of_ble_eq_true rfl) (hts _ wd_31) (fun _ h9 => h9) rfl (by decide +kernel) rfl rfl (Nat.le_of_ble_eq_true rfl) dX1_layOutRow_4 (fun H locs hP hD hS => ?_)
  have hP : va_P D classes [(cv, .inr (1, [.int 0, .ref c1, .ref c2, .ref c3, .ref c4, .ref c5, .ref c6, .int v7, .int v8, .ref t])), (c1, .inl (cI, 7, .inl fc1)), (c6, .inl (cI, 128, .inl fc6))] H := hP
  have hD : va_D A [(cv, .inr (1, [.int 0, .ref c1, .ref c2, .ref c3, .ref c4, .ref c5, .ref c6, .int v7, .int v8, .ref t])), (c1, .inl (cI, 7, .inl fc1)), (c6, .inl (cI, 128, .inl fc6))] := hD
  refine lv_iconst (v := 0) hx hb dX1_layOutRow_7 rfl ?_
  refine lv_istore_n (lv' := [(2, .int 0), (1, .int 0), (0, .ref cv)]) hx hb dX1_layOutRow_8 rfl hl (Nat.le_of_ble_eq_true rfl) rfl (fun ls hl => ?_)
  have ex_9_w_1 : ∀ (w_1l2 : Int32) (w_1l1 : Int32) (w_1m0 : Int32) (w_1m1 : (Nat → Int32)) (H : Heap) (locs : List Loc) (ls : Array Slot), va_P D classes [(cv, .inr (1, [.int w_1m0, .ref c1, .ref c2, .ref c3, .ref c4, .ref c5, .ref c6, .int v7, .int v8, .ref t])), (c1, .inl (cI, 7, .inl w_1m1)), (c6, .inl (cI, 128, .inl fc6))] H → va_D A [(cv, .inr (1, [.int w_1m0, .ref c1, .ref c2, .ref c3, .ref c4, .ref c5, .ref c6, .int v7, .int v8, .ref t])), (c1, .inl (cI, 7, .inl w_1m1)), (c6, .inl (cI, 128, .inl fc6))] → va_S A s.heap H locs → lv_has ls 4 [(2, .int w_1l2), (1, .int w_1l1), (0, .ref cv)] → ((w_1m0, w_1m1)) = RES → W p l e rm_e_layOutRow_x1 s m args below meth c H locs 0 0 Q (F0 m 70 ls []) := by
    intro w_1l2 w_1l1 w_1m0 w_1m1 H locs ls hP hD hS hl hE
    exact hret (w_1m0, w_1m1) _ _ _ _ dX1_layOutRow_70 hE hP hD hS
  have lp_9_w_1 : ∀ (n_w_1 : Nat) (w_1l2 : Int32) (w_1l1 : Int32) (w_1m0 : Int32) (w_1m1 : (Nat → Int32)) (H : Heap) (locs : List Loc) (ls : Array Slot), va_P D classes [(cv, .inr (1, [.int w_1m0, .ref c1, .ref c2, .ref c3, .ref c4, .ref c5, .ref c6, .int v7, .int v8, .ref t])), (c1, .inl (cI, 7, .inl w_1m1)), (c6, .inl (cI, 128, .inl fc6))] H → va_D A [(cv, .inr (1, [.int w_1m0, .ref c1, .ref c2, .ref c3, .ref c4, .ref c5, .ref c6, .int v7, .int v8, .ref t])), (c1, .inl (cI, 7, .inl w_1m1)), (c6, .inl (cI, 128, .inl fc6))] → va_S A s.heap H locs → lv_has ls 4 [(2, .int w_1l2), (1, .int w_1l1), (0, .ref cv)] → ((7 : Int32).toInt - (w_1l2 : Int32).toInt).toNat < n_w_1 → (match (f_e_layOutRow_x1_9 v0 v7 v8 fc1 fc6 n_w_1 w_1l2 w_1l1 w_1m0 w_1m1) with | (w_1l2, w_1l1, w_1m0, w_1m1) => (w_1m0, w_1m1)) = RES → W p l e rm_e_layOutRow_x1 s m args below meth c H locs 0 0 Q (F0 m 9 ls []) := by
    intro n_w_1
    induction n_w_1 with
    | zero => intro w_1l2 w_1l1 w_1m0 w_1m1 H locs ls hP hD hS hl hm; exact absurd hm (Nat.not_lt_zero _)
    | succ n_w_1 ih_w_1 =>
      intro w_1l2 w_1l1 w_1m0 w_1m1 H locs ls hP hD hS hl hm hE
      rw [f_e_layOutRow_x1_9_s] at hE
      refine lv_iload_n hx hb dX1_layOutRow_9 rfl (lv_at hl 0 rfl) ?_
      refine lv_bipush (v := 7) hx hb dX1_layOutRow_10 rfl ?_
      refine lv_icmp_ge (tgt := 70) hx hb dX1_layOutRow_12 rfl (fun c_2 => ?_) (fun c_2 => ?_)
      · rw [if_pos c_2] at hE
        exact ex_9_w_1 w_1l2 w_1l1 w_1m0 w_1m1 _ _ ls hP hD hS (lv_sub hl [0, 1, 2] rfl) hE
      · rw [if_neg c_2] at hE
        refine lv_aload_n hx hb dX1_layOutRow_15 rfl (lv_at hl 2 rfl) ?_
        refine va_get (D := D) (ci := 1) (v := .ref c6) (C := RX1) (T := TX1) (N := 10) hx hb hts iX1 hown hK hP 0 rfl rfl 6 (Nat.le_of_ble_eq_true rfl) (hts _ wd_37) (fun _ h9 => h9) rfl dX1_layOutRow_16 ?_
        refine lv_iload_n hx hb dX1_layOutRow_19 rfl (lv_at hl 1 rfl) ?_
        refine cNi (wr := [(cv, .inr (1, [.int w_1m0, .ref c1, .ref c2, .ref c3, .ref c4, .ref c5, .ref c6, .int v7, .int v8, .ref t])), (c1, .inl (cI, 7, .inl w_1m1))]) (rest := []) (k_at c6 128 fc6 w_1l1 (of_decide_eq_true rfl)) okS_X9_at 10 rfl hx hb hml hown hts hK hP hD hS hA hN hl.1 [2] [0, 1] rfl rfl rfl rfl (by decide) rfl (Nat.le_of_ble_eq_true rfl) (Nat.le_of_ble_eq_true rfl) (Nat.le_of_ble_eq_true rfl) (Nat.le_of_ble_eq_true rfl) (Nat.le_of_ble_eq_true rfl) dX1_layOutRow_20 (fun r_4 u_3 H locs hw_u_3 hP hD hS => ?_)
        obtain rfl := hw_u_3
        have hP : va_P D classes [(cv, .inr (1, [.int w_1m0, .ref c1, .ref c2, .ref c3, .ref c4, .ref c5, .ref c6, .int v7, .int v8, .ref t])), (c1, .inl (cI, 7, .inl w_1m1)), (c6, .inl (cI, 128, .inl fc6))] H := hP
        have hD : va_D A [(cv, .inr (1, [.int w_1m0, .ref c1, .ref c2, .ref c3, .ref c4, .ref c5, .ref c6, .int v7, .int v8, .ref t])), (c1, .inl (cI, 7, .inl w_1m1)), (c6, .inl (cI, 128, .inl fc6))] := hD
        refine lv_iconst (v := (-1)) hx hb dX1_layOutRow_23 rfl ?_
        refine lv_icmp_eq (tgt := 70) hx hb dX1_layOutRow_24 rfl (fun c_5 => ?_) (fun c_5 => ?_)
        · rw [if_pos c_5] at hE
          exact ex_9_w_1 w_1l2 w_1l1 w_1m0 w_1m1 _ _ ls hP hD hS (lv_sub hl [0, 1, 2] rfl) hE
        · rw [if_neg c_5] at hE
          refine lv_aload_n hx hb dX1_layOutRow_27 rfl (lv_at hl 2 rfl) ?_
          refine va_get (D := D) (ci := 1) (v := .ref c6) (C := RX1) (T := TX1) (N := 10) hx hb hts iX1 hown hK hP 0 rfl rfl 6 (Nat.le_of_ble_eq_true rfl) (hts _ wd_37) (fun _ h9 => h9) rfl dX1_layOutRow_28 ?_
          refine lv_iload_n hx hb dX1_layOutRow_31 rfl (lv_at hl 1 rfl) ?_
          refine cNi (wr := [(cv, .inr (1, [.int w_1m0, .ref c1, .ref c2, .ref c3, .ref c4, .ref c5, .ref c6, .int v7, .int v8, .ref t])), (c1, .inl (cI, 7, .inl w_1m1))]) (rest := []) (k_at c6 128 fc6 w_1l1 (of_decide_eq_true rfl)) okS_X9_at 10 rfl hx hb hml hown hts hK hP hD hS hA hN hl.1 [2] [0, 1] rfl rfl rfl rfl (by decide) rfl (Nat.le_of_ble_eq_true rfl) (Nat.le_of_ble_eq_true rfl) (Nat.le_of_ble_eq_true rfl) (Nat.le_of_ble_eq_true rfl) (Nat.le_of_ble_eq_true rfl) dX1_layOutRow_32 (fun r_7 u_6 H locs hw_u_6 hP hD hS => ?_)
          obtain rfl := hw_u_6
          have hP : va_P D classes [(cv, .inr (1, [.int w_1m0, .ref c1, .ref c2, .ref c3, .ref c4, .ref c5, .ref c6, .int v7, .int v8, .ref t])), (c1, .inl (cI, 7, .inl w_1m1)), (c6, .inl (cI, 128, .inl fc6))] H := hP
          have hD : va_D A [(cv, .inr (1, [.int w_1m0, .ref c1, .ref c2, .ref c3, .ref c4, .ref c5, .ref c6, .int v7, .int v8, .ref t])), (c1, .inl (cI, 7, .inl w_1m1)), (c6, .inl (cI, 128, .inl fc6))] := hD
          refine lv_istore_n (lv' := [(3, .int (atF 128 fc6 w_1l1)), (2, .int w_1l2), (1, .int w_1l1), (0, .ref cv)]) hx hb dX1_layOutRow_35 rfl hl (Nat.le_of_ble_eq_true rfl) rfl (fun ls hl => ?_)
          refine lv_aload_n hx hb dX1_layOutRow_36 rfl (lv_at hl 3 rfl) ?_
          refine va_get (D := D) (ci := 1) (v := .ref c1) (C := RX1) (T := TX1) (N := 10) hx hb hts iX1 hown hK hP 0 rfl rfl 1 (Nat.le_of_ble_eq_true rfl) (hts _ wd_32) (fun _ h9 => h9) rfl dX1_layOutRow_37 ?_
          refine lv_aload_n hx hb dX1_layOutRow_40 rfl (lv_at hl 3 rfl) ?_
          refine va_get (D := D) (ci := 1) (v := .int w_1m0) (C := RX1) (T := TX1) (N := 10) hx hb hts iX1 hown hK hP 0 rfl rfl 0 (Nat.le_of_ble_eq_true rfl) (hts _ wd_31) (fun _ h9 => h9) rfl dX1_layOutRow_41 ?_
          refine lv_iload_n hx hb dX1_layOutRow_44 rfl (lv_at hl 0 rfl) ?_
          refine cNv (wr := [(cv, .inr (1, [.int w_1m0, .ref c1, .ref c2, .ref c3, .ref c4, .ref c5, .ref c6, .int v7, .int v8, .ref t])), (c6, .inl (cI, 128, .inl fc6))]) (rest := []) (k_put c1 7 w_1m1 w_1m0 (atF 128 fc6 w_1l1) (of_decide_eq_true rfl)) okS_X9_put 11 rfl hx hb hml hown hts hK hP hD hS hA hN hl.1 [1] [0, 2] rfl rfl rfl rfl (by decide) rfl (Nat.le_of_ble_eq_true rfl) (Nat.le_of_ble_eq_true rfl) (Nat.le_of_ble_eq_true rfl) (Nat.le_of_ble_eq_true rfl) (Nat.le_of_ble_eq_true rfl) dX1_layOutRow_45 (fun u_8 H locs hw_u_8 hP hD hS => ?_)
          have hP : va_P D classes [(cv, .inr (1, [.int w_1m0, .ref c1, .ref c2, .ref c3, .ref c4, .ref c5, .ref c6, .int v7, .int v8, .ref t])), (c6, .inl (cI, 128, .inl fc6)), (c1, .inl (cI, 7, .inl (putF 7 w_1m1 w_1m0 (atF 128 fc6 w_1l1))))] H := hP
          have hD : va_D A [(cv, .inr (1, [.int w_1m0, .ref c1, .ref c2, .ref c3, .ref c4, .ref c5, .ref c6, .int v7, .int v8, .ref t])), (c6, .inl (cI, 128, .inl fc6)), (c1, .inl (cI, 7, .inl (putF 7 w_1m1 w_1m0 (atF 128 fc6 w_1l1))))] := hD
          refine lv_aload_n hx hb dX1_layOutRow_48 rfl (lv_at hl 3 rfl) ?_
          refine lv_dup hx hb dX1_layOutRow_49 rfl ?_
          refine va_get (D := D) (ci := 1) (v := .int w_1m0) (C := RX1) (T := TX1) (N := 10) hx hb hts iX1 hown hK hP 0 rfl rfl 0 (Nat.le_of_ble_eq_true rfl) (hts _ wd_31) (fun _ h9 => h9) rfl dX1_layOutRow_50 ?_
          refine lv_iconst (v := 1) hx hb dX1_layOutRow_53 rfl ?_
          refine lv_iadd hx hb dX1_layOutRow_54 ?_
          refine va_put (D := D) (ci := 1) (v := .int (w_1m0 + 1)) (ty := .int) (C := RX1) (T := TX1) (N := 10) hx hb hts iX1 tyX1 tyX1_ok nmX1 hown hK hP hD hS 0 rfl rfl 0 (Nat.le_of_ble_eq_true rfl) (hts _ wd_31) (fun _ h9 => h9) rfl (by decide +kernel) rfl rfl (Nat.le_of_ble_eq_true rfl) dX1_layOutRow_55 (fun H locs hP hD hS => ?_)
          have hP : va_P D classes [(cv, .inr (1, [.int (w_1m0 + 1), .ref c1, .ref c2, .ref c3, .ref c4, .ref c5, .ref c6, .int v7, .int v8, .ref t])), (c6, .inl (cI, 128, .inl fc6)), (c1, .inl (cI, 7, .inl (putF 7 w_1m1 w_1m0 (atF 128 fc6 w_1l1))))] H := hP
          have hD : va_D A [(cv, .inr (1, [.int (w_1m0 + 1), .ref c1, .ref c2, .ref c3, .ref c4, .ref c5, .ref c6, .int v7, .int v8, .ref t])), (c6, .inl (cI, 128, .inl fc6)), (c1, .inl (cI, 7, .inl (putF 7 w_1m1 w_1m0 (atF 128 fc6 w_1l1))))] := hD
          refine lv_iload_n hx hb dX1_layOutRow_58 rfl (lv_at hl 2 rfl) ?_
          refine lv_iconst (v := 1) hx hb dX1_layOutRow_59 rfl ?_
          refine lv_iload_n hx hb dX1_layOutRow_60 rfl (lv_at hl 0 rfl) ?_
          refine lv_ishl hx hb dX1_layOutRow_61 ?_
          refine lv_ior hx hb dX1_layOutRow_62 ?_
          refine lv_istore_n (lv' := [(1, .int (w_1l1 ||| (1 <<< ((atF 128 fc6 w_1l1) &&& 31)))), (3, .int (atF 128 fc6 w_1l1)), (2, .int w_1l2), (0, .ref cv)]) hx hb dX1_layOutRow_63 rfl hl (Nat.le_of_ble_eq_true rfl) rfl (fun ls hl => ?_)
          refine lv_iinc (v := (w_1l2 + 1)) (lv' := [(2, .int (w_1l2 + 1)), (1, .int (w_1l1 ||| (1 <<< ((atF 128 fc6 w_1l1) &&& 31)))), (3, .int (atF 128 fc6 w_1l1)), (0, .ref cv)]) hx hb dX1_layOutRow_64 hl (k := 2) rfl rfl (Nat.le_of_ble_eq_true rfl) rfl (fun ls hl => ?_)
          refine lv_goto (tgt := 9) hx hb dX1_layOutRow_67 rfl ?_
          exact ih_w_1 (w_1l2 + 1) (w_1l1 ||| (1 <<< ((atF 128 fc6 w_1l1) &&& 31))) (w_1m0 + 1) (putF 7 w_1m1 w_1m0 (atF 128 fc6 w_1l1)) _ _ ls (cutP (isC := [0, 2, 1]) hP rfl) (cutD (isC := [0, 2, 1]) hD rfl rfl) hS (lv_sub hl [0, 1, 3] rfl) (up_step c_2 hm) hE
  exact lp_9_w_1 (((7 : Int32).toInt - (0 : Int32).toInt).toNat + 1) 0 0 0 fc1 _ _ ls hP hD hS hl (Nat.lt_succ_self _) hE
noncomputable def f_e_solve_x1_40 (v0 : Int32) (v7 : Int32) (v8 : Int32) (t0 : Int32) (t1 : Int32) (t2 : Int32) (t3 : Int32) (t4 : Int32) (ftd : Nat → Int32) (fte : Nat → Int32) (fc1 : Nat → Int32) (fc2 : Nat → Int32) (fc3 : Nat → Int32) (fc4 : Nat → Int32) (fc5 : Nat → Int32) (fc6 : Nat → Int32) (w_1l1 : Int32) (n : Nat) : Int32 → Int32 → (Nat → Int32) → (Nat → Int32) → (Nat → Int32) → (Nat → Int32) → Int32 × Int32 × (Nat → Int32) × (Nat → Int32) × (Nat → Int32) × (Nat → Int32) := Nat.rec (motive := fun _ => Int32 → Int32 → (Nat → Int32) → (Nat → Int32) → (Nat → Int32) → (Nat → Int32) → Int32 × Int32 × (Nat → Int32) × (Nat → Int32) × (Nat → Int32) × (Nat → Int32)) (fun w_15l2 w_15m0 w_15m1 w_15m2 w_15m3 w_15m4 => (w_15l2, w_15m0, w_15m1, w_15m2, w_15m3, w_15m4)) (fun n ih w_15l2 w_15m0 w_15m1 w_15m2 w_15m3 w_15m4 => (if 7 ≤ w_15l2 then (w_15l2, w_15m0, w_15m1, w_15m2, w_15m3, w_15m4) else (match (f_e_weigh_x1 w_15m0 v7 v8 t0 t1 t2 t3 t4 fte w_15m2 w_15m3 w_15m4 w_1l1 w_15l2) with | (o_19, o_20) => (ih (w_15l2 + 1) w_15m0 w_15m1 w_15m2 o_19 o_20)))) n
theorem f_e_solve_x1_40_s (v0 : Int32) (v7 : Int32) (v8 : Int32) (t0 : Int32) (t1 : Int32) (t2 : Int32) (t3 : Int32) (t4 : Int32) (ftd : Nat → Int32) (fte : Nat → Int32) (fc1 : Nat → Int32) (fc2 : Nat → Int32) (fc3 : Nat → Int32) (fc4 : Nat → Int32) (fc5 : Nat → Int32) (fc6 : Nat → Int32) (w_1l1 : Int32) (n : Nat) (w_15l2 : Int32) (w_15m0 : Int32) (w_15m1 : (Nat → Int32)) (w_15m2 : (Nat → Int32)) (w_15m3 : (Nat → Int32)) (w_15m4 : (Nat → Int32)) : f_e_solve_x1_40 v0 v7 v8 t0 t1 t2 t3 t4 ftd fte fc1 fc2 fc3 fc4 fc5 fc6 w_1l1 (n + 1) w_15l2 w_15m0 w_15m1 w_15m2 w_15m3 w_15m4 = (if 7 ≤ w_15l2 then (w_15l2, w_15m0, w_15m1, w_15m2, w_15m3, w_15m4) else (match (f_e_weigh_x1 w_15m0 v7 v8 t0 t1 t2 t3 t4 fte w_15m2 w_15m3 w_15m4 w_1l1 w_15l2) with | (o_19, o_20) => (f_e_solve_x1_40 v0 v7 v8 t0 t1 t2 t3 t4 ftd fte fc1 fc2 fc3 fc4 fc5 fc6 w_1l1 n (w_15l2 + 1) w_15m0 w_15m1 w_15m2 o_19 o_20))) := rfl
noncomputable def f_e_solve_x1_3 (v0 : Int32) (v7 : Int32) (v8 : Int32) (t0 : Int32) (t1 : Int32) (t2 : Int32) (t3 : Int32) (t4 : Int32) (ftd : Nat → Int32) (fte : Nat → Int32) (fc1 : Nat → Int32) (fc2 : Nat → Int32) (fc3 : Nat → Int32) (fc4 : Nat → Int32) (fc5 : Nat → Int32) (fc6 : Nat → Int32) (n : Nat) : Int32 → Int32 → (Nat → Int32) → (Nat → Int32) → (Nat → Int32) → (Nat → Int32) → Int32 × Int32 × (Nat → Int32) × (Nat → Int32) × (Nat → Int32) × (Nat → Int32) := Nat.rec (motive := fun _ => Int32 → Int32 → (Nat → Int32) → (Nat → Int32) → (Nat → Int32) → (Nat → Int32) → Int32 × Int32 × (Nat → Int32) × (Nat → Int32) × (Nat → Int32) × (Nat → Int32)) (fun w_1l1 w_1m0 w_1m1 w_1m2 w_1m3 w_1m4 => (w_1l1, w_1m0, w_1m1, w_1m2, w_1m3, w_1m4)) (fun n ih w_1l1 w_1m0 w_1m1 w_1m2 w_1m3 w_1m4 => (if w_1l1 < 0 then (w_1l1, w_1m0, w_1m1, w_1m2, w_1m3, w_1m4) else (match (f_e_solve_x1_40 v0 v7 v8 t0 t1 t2 t3 t4 ftd fte fc1 fc2 fc3 fc4 fc5 fc6 w_1l1 (((7 : Int32).toInt - (0 : Int32).toInt).toNat + 1) 0 w_1m0 w_1m1 (putF 128 w_1m2 w_1l1 (f_e_minuteBehind_x1 w_1m0 v7 v8 t0 t1 t2 t3 t4 ftd fc2 fc3 w_1l1)) (putF 128 w_1m3 w_1l1 0) (putF 128 w_1m4 w_1l1 (-1))) with | (w_15l2, w_15m0, w_15m1, w_15m2, w_15m3, w_15m4) => (ih (w_1l1 + (-1)) w_15m0 w_15m1 w_15m2 w_15m3 w_15m4)))) n
theorem f_e_solve_x1_3_s (v0 : Int32) (v7 : Int32) (v8 : Int32) (t0 : Int32) (t1 : Int32) (t2 : Int32) (t3 : Int32) (t4 : Int32) (ftd : Nat → Int32) (fte : Nat → Int32) (fc1 : Nat → Int32) (fc2 : Nat → Int32) (fc3 : Nat → Int32) (fc4 : Nat → Int32) (fc5 : Nat → Int32) (fc6 : Nat → Int32) (n : Nat) (w_1l1 : Int32) (w_1m0 : Int32) (w_1m1 : (Nat → Int32)) (w_1m2 : (Nat → Int32)) (w_1m3 : (Nat → Int32)) (w_1m4 : (Nat → Int32)) : f_e_solve_x1_3 v0 v7 v8 t0 t1 t2 t3 t4 ftd fte fc1 fc2 fc3 fc4 fc5 fc6 (n + 1) w_1l1 w_1m0 w_1m1 w_1m2 w_1m3 w_1m4 = (if w_1l1 < 0 then (w_1l1, w_1m0, w_1m1, w_1m2, w_1m3, w_1m4) else (match (f_e_solve_x1_40 v0 v7 v8 t0 t1 t2 t3 t4 ftd fte fc1 fc2 fc3 fc4 fc5 fc6 w_1l1 (((7 : Int32).toInt - (0 : Int32).toInt).toNat + 1) 0 w_1m0 w_1m1 (putF 128 w_1m2 w_1l1 (f_e_minuteBehind_x1 w_1m0 v7 v8 t0 t1 t2 t3 t4 ftd fc2 fc3 w_1l1)) (putF 128 w_1m3 w_1l1 0) (putF 128 w_1m4 w_1l1 (-1))) with | (w_15l2, w_15m0, w_15m1, w_15m2, w_15m3, w_15m4) => (f_e_solve_x1_3 v0 v7 v8 t0 t1 t2 t3 t4 ftd fte fc1 fc2 fc3 fc4 fc5 fc6 n (w_1l1 + (-1)) w_15m0 w_15m1 w_15m2 w_15m3 w_15m4))) := rfl
noncomputable def f_e_solve_x1 (v0 : Int32) (v7 : Int32) (v8 : Int32) (t0 : Int32) (t1 : Int32) (t2 : Int32) (t3 : Int32) (t4 : Int32) (ftd : Nat → Int32) (fte : Nat → Int32) (fc1 : Nat → Int32) (fc2 : Nat → Int32) (fc3 : Nat → Int32) (fc4 : Nat → Int32) (fc5 : Nat → Int32) (fc6 : Nat → Int32) : Int32 × (Nat → Int32) × (Nat → Int32) × (Nat → Int32) × (Nat → Int32) := (match (f_e_solve_x1_3 v0 v7 v8 t0 t1 t2 t3 t4 ftd fte fc1 fc2 fc3 fc4 fc5 fc6 (((127 : Int32).toInt + 1).toNat + 1) 127 v0 fc1 fc4 fc5 fc6) with | (w_1l1, w_1m0, w_1m1, w_1m2, w_1m3, w_1m4) => (match (f_e_layOutRow_x1 w_1m0 v7 v8 w_1m1 w_1m4) with | (o_4, o_5) => (o_4, o_5, w_1m2, w_1m3, w_1m4)))
def rm_e_solve_x1 : Room := { frames := 2, cells := 0, slots := 0, locals := 47 }
set_option maxHeartbeats 4000000 in
set_option maxRecDepth 100000 in
theorem e_solve_x1 {l : Launch} {D : va_G} {cI cZ : ClassId} {sz : Nat} (cv c1 c2 c3 c4 c5 c6 t ta tb tc td te : Nat) (v0 : Int32) (v7 : Int32) (v8 : Int32) (t0 : Int32) (t1 : Int32) (t2 : Int32) (t3 : Int32) (t4 : Int32) (ftd : Nat → Int32) (fte : Nat → Int32) (fc1 : Nat → Int32) (fc2 : Nat → Int32) (fc3 : Nat → Int32) (fc4 : Nat → Int32) (fc5 : Nat → Int32) (fc6 : Nat → Int32) : KV l yX1_solve cX1_solve 3 rm_e_solve_x1 D cI cZ [.ref cv] sz [(cv, .inr (1, [.int v0, .ref c1, .ref c2, .ref c3, .ref c4, .ref c5, .ref c6, .int v7, .int v8, .ref t])), (t, .inr (8, [.int t0, .int t1, .int t2, .int t3, .int t4, .ref ta, .ref tb, .ref tc, .ref td, .ref te])), (td, .inl (cI, 7, .inl ftd)), (te, .inl (cI, 7, .inl fte)), (c1, .inl (cI, 7, .inl fc1)), (c2, .inl (cI, 6, .inl fc2)), (c3, .inl (cI, 48, .inl fc3)), (c4, .inl (cI, 128, .inl fc4)), (c5, .inl (cI, 128, .inl fc5)), (c6, .inl (cI, 128, .inl fc6))] (fun (u : Int32 × (Nat → Int32) × (Nat → Int32) × (Nat → Int32) × (Nat → Int32)) => u = f_e_solve_x1 v0 v7 v8 t0 t1 t2 t3 t4 ftd fte fc1 fc2 fc3 fc4 fc5 fc6) (fun (u : Int32 × (Nat → Int32) × (Nat → Int32) × (Nat → Int32) × (Nat → Int32)) => [(cv, .inr (1, [.int (u.1), .ref c1, .ref c2, .ref c3, .ref c4, .ref c5, .ref c6, .int v7, .int v8, .ref t])), (t, .inr (8, [.int t0, .int t1, .int t2, .int t3, .int t4, .ref ta, .ref tb, .ref tc, .ref td, .ref te])), (td, .inl (cI, 7, .inl ftd)), (te, .inl (cI, 7, .inl fte)), (c1, .inl (cI, 7, .inl u.2.1)), (c2, .inl (cI, 6, .inl fc2)), (c3, .inl (cI, 48, .inl fc3)), (c4, .inl (cI, 128, .inl u.2.2.1)), (c5, .inl (cI, 128, .inl u.2.2.2.1)), (c6, .inl (cI, 128, .inl u.2.2.2.2))]) := by
  refine KV.go rfl (Nat.le_of_ble_eq_true rfl) ?_
  intro p e s m args below meth c ls A Q hx hb hml hts hown hin hP hK hD hS hA hN hl hret
  have hl : lv_has ls 3 [(0, .ref cv)] := hl
  obtain ⟨RES, hE⟩ : ∃ xRES, f_e_solve_x1 v0 v7 v8 t0 t1 t2 t3 t4 ftd fte fc1 fc2 fc3 fc4 fc5 fc6 = xRES := ⟨_, rfl⟩
  rw [hE] at hret
  rw [f_e_solve_x1] at hE
  refine lv_bipush (v := 127) hx hb dX1_solve_0 rfl ?_
  refine lv_istore_n (lv' := [(1, .int 127), (0, .ref cv)]) hx hb dX1_solve_2 rfl hl (Nat.le_of_ble_eq_true rfl) rfl (fun ls hl => ?_)
  have ex_3_w_1 : ∀ (w_1l1 : Int32) (w_1m0 : Int32) (w_1m1 : (Nat → Int32)) (w_1m2 : (Nat → Int32)) (w_1m3 : (Nat → Int32)) (w_1m4 : (Nat → Int32)) (H : Heap) (locs : List Loc) (ls : Array Slot), va_P D classes [(cv, .inr (1, [.int w_1m0, .ref c1, .ref c2, .ref c3, .ref c4, .ref c5, .ref c6, .int v7, .int v8, .ref t])), (t, .inr (8, [.int t0, .int t1, .int t2, .int t3, .int t4, .ref ta, .ref tb, .ref tc, .ref td, .ref te])), (td, .inl (cI, 7, .inl ftd)), (te, .inl (cI, 7, .inl fte)), (c1, .inl (cI, 7, .inl w_1m1)), (c2, .inl (cI, 6, .inl fc2)), (c3, .inl (cI, 48, .inl fc3)), (c4, .inl (cI, 128, .inl w_1m2)), (c5, .inl (cI, 128, .inl w_1m3)), (c6, .inl (cI, 128, .inl w_1m4))] H → va_D A [(cv, .inr (1, [.int w_1m0, .ref c1, .ref c2, .ref c3, .ref c4, .ref c5, .ref c6, .int v7, .int v8, .ref t])), (t, .inr (8, [.int t0, .int t1, .int t2, .int t3, .int t4, .ref ta, .ref tb, .ref tc, .ref td, .ref te])), (td, .inl (cI, 7, .inl ftd)), (te, .inl (cI, 7, .inl fte)), (c1, .inl (cI, 7, .inl w_1m1)), (c2, .inl (cI, 6, .inl fc2)), (c3, .inl (cI, 48, .inl fc3)), (c4, .inl (cI, 128, .inl w_1m2)), (c5, .inl (cI, 128, .inl w_1m3)), (c6, .inl (cI, 128, .inl w_1m4))] → va_S A s.heap H locs → lv_has ls 3 [(1, .int w_1l1), (0, .ref cv)] → ((match (f_e_layOutRow_x1 w_1m0 v7 v8 w_1m1 w_1m4) with | (o_4, o_5) => (o_4, o_5, w_1m2, w_1m3, w_1m4))) = RES → W p l e rm_e_solve_x1 s m args below meth c H locs 0 0 Q (F0 m 64 ls []) := by
    intro w_1l1 w_1m0 w_1m1 w_1m2 w_1m3 w_1m4 H locs ls hP hD hS hl hE
    refine lv_aload_n hx hb dX1_solve_64 rfl (lv_at hl 1 rfl) ?_
    refine cVv (wr := [(t, .inr (8, [.int t0, .int t1, .int t2, .int t3, .int t4, .ref ta, .ref tb, .ref tc, .ref td, .ref te])), (td, .inl (cI, 7, .inl ftd)), (te, .inl (cI, 7, .inl fte)), (c2, .inl (cI, 6, .inl fc2)), (c3, .inl (cI, 48, .inl fc3)), (c4, .inl (cI, 128, .inl w_1m2)), (c5, .inl (cI, 128, .inl w_1m3))]) (rest := []) (e_layOutRow_x1 cv c1 c2 c3 c4 c5 c6 t w_1m0 v7 v8 w_1m1 w_1m4) okV_X1_layOutRow wd_319 hx hb hml hown hts hK hP hD hS hA hN hl.1 [0, 4, 9] [1, 2, 3, 5, 6, 7, 8] rfl rfl rfl rfl (of_decide_eq_true rfl) rfl rfl rfl (Nat.le_of_ble_eq_true rfl) (Nat.le_of_ble_eq_true rfl) (Nat.le_of_ble_eq_true rfl) (Nat.le_of_ble_eq_true rfl) (Nat.le_of_ble_eq_true rfl) dX1_solve_65 (fun u_2 H locs hw_u_2 hP hD hS => ?_)
    obtain ⟨o_4, o_5⟩ := u_2
    replace hw_u_2 : (o_4, o_5) = (f_e_layOutRow_x1 w_1m0 v7 v8 w_1m1 w_1m4) := hw_u_2
    rw [← hw_u_2] at hE
    replace hE : (o_4, o_5, w_1m2, w_1m3, w_1m4) = RES := hE
    have hP : va_P D classes [(t, .inr (8, [.int t0, .int t1, .int t2, .int t3, .int t4, .ref ta, .ref tb, .ref tc, .ref td, .ref te])), (td, .inl (cI, 7, .inl ftd)), (te, .inl (cI, 7, .inl fte)), (c2, .inl (cI, 6, .inl fc2)), (c3, .inl (cI, 48, .inl fc3)), (c4, .inl (cI, 128, .inl w_1m2)), (c5, .inl (cI, 128, .inl w_1m3)), (cv, .inr (1, [.int o_4, .ref c1, .ref c2, .ref c3, .ref c4, .ref c5, .ref c6, .int v7, .int v8, .ref t])), (c1, .inl (cI, 7, .inl o_5)), (c6, .inl (cI, 128, .inl w_1m4))] H := hP
    have hD : va_D A [(t, .inr (8, [.int t0, .int t1, .int t2, .int t3, .int t4, .ref ta, .ref tb, .ref tc, .ref td, .ref te])), (td, .inl (cI, 7, .inl ftd)), (te, .inl (cI, 7, .inl fte)), (c2, .inl (cI, 6, .inl fc2)), (c3, .inl (cI, 48, .inl fc3)), (c4, .inl (cI, 128, .inl w_1m2)), (c5, .inl (cI, 128, .inl w_1m3)), (cv, .inr (1, [.int o_4, .ref c1, .ref c2, .ref c3, .ref c4, .ref c5, .ref c6, .int v7, .int v8, .ref t])), (c1, .inl (cI, 7, .inl o_5)), (c6, .inl (cI, 128, .inl w_1m4))] := hD
    exact hret (o_4, o_5, w_1m2, w_1m3, w_1m4) _ _ _ _ dX1_solve_68 hE (cutP (isC := [7, 0, 1, 2, 8, 3, 4, 5, 6, 9]) hP rfl) (cutD (isC := [7, 0, 1, 2, 8, 3, 4, 5, 6, 9]) hD rfl rfl) hS
  have lp_3_w_1 : ∀ (n_w_1 : Nat) (w_1l1 : Int32) (w_1m0 : Int32) (w_1m1 : (Nat → Int32)) (w_1m2 : (Nat → Int32)) (w_1m3 : (Nat → Int32)) (w_1m4 : (Nat → Int32)) (H : Heap) (locs : List Loc) (ls : Array Slot), va_P D classes [(cv, .inr (1, [.int w_1m0, .ref c1, .ref c2, .ref c3, .ref c4, .ref c5, .ref c6, .int v7, .int v8, .ref t])), (t, .inr (8, [.int t0, .int t1, .int t2, .int t3, .int t4, .ref ta, .ref tb, .ref tc, .ref td, .ref te])), (td, .inl (cI, 7, .inl ftd)), (te, .inl (cI, 7, .inl fte)), (c1, .inl (cI, 7, .inl w_1m1)), (c2, .inl (cI, 6, .inl fc2)), (c3, .inl (cI, 48, .inl fc3)), (c4, .inl (cI, 128, .inl w_1m2)), (c5, .inl (cI, 128, .inl w_1m3)), (c6, .inl (cI, 128, .inl w_1m4))] H → va_D A [(cv, .inr (1, [.int w_1m0, .ref c1, .ref c2, .ref c3, .ref c4, .ref c5, .ref c6, .int v7, .int v8, .ref t])), (t, .inr (8, [.int t0, .int t1, .int t2, .int t3, .int t4, .ref ta, .ref tb, .ref tc, .ref td, .ref te])), (td, .inl (cI, 7, .inl ftd)), (te, .inl (cI, 7, .inl fte)), (c1, .inl (cI, 7, .inl w_1m1)), (c2, .inl (cI, 6, .inl fc2)), (c3, .inl (cI, 48, .inl fc3)), (c4, .inl (cI, 128, .inl w_1m2)), (c5, .inl (cI, 128, .inl w_1m3)), (c6, .inl (cI, 128, .inl w_1m4))] → va_S A s.heap H locs → lv_has ls 3 [(1, .int w_1l1), (0, .ref cv)] → ((w_1l1 : Int32).toInt + 1).toNat < n_w_1 → (match (f_e_solve_x1_3 v0 v7 v8 t0 t1 t2 t3 t4 ftd fte fc1 fc2 fc3 fc4 fc5 fc6 n_w_1 w_1l1 w_1m0 w_1m1 w_1m2 w_1m3 w_1m4) with | (w_1l1, w_1m0, w_1m1, w_1m2, w_1m3, w_1m4) => (match (f_e_layOutRow_x1 w_1m0 v7 v8 w_1m1 w_1m4) with | (o_4, o_5) => (o_4, o_5, w_1m2, w_1m3, w_1m4))) = RES → W p l e rm_e_solve_x1 s m args below meth c H locs 0 0 Q (F0 m 3 ls []) := by
    intro n_w_1
    induction n_w_1 with
    | zero => intro w_1l1 w_1m0 w_1m1 w_1m2 w_1m3 w_1m4 H locs ls hP hD hS hl hm; exact absurd hm (Nat.not_lt_zero _)
    | succ n_w_1 ih_w_1 =>
      intro w_1l1 w_1m0 w_1m1 w_1m2 w_1m3 w_1m4 H locs ls hP hD hS hl hm hE
      rw [f_e_solve_x1_3_s] at hE
      refine lv_iload_n hx hb dX1_solve_3 rfl (lv_at hl 0 rfl) ?_
      refine lv_if_lt (tgt := 64) hx hb dX1_solve_4 rfl (fun c_6 => ?_) (fun c_6 => ?_)
      · rw [if_pos c_6] at hE
        exact ex_3_w_1 w_1l1 w_1m0 w_1m1 w_1m2 w_1m3 w_1m4 _ _ ls hP hD hS (lv_sub hl [0, 1] rfl) hE
      · rw [if_neg c_6] at hE
        refine lv_aload_n hx hb dX1_solve_7 rfl (lv_at hl 1 rfl) ?_
        refine va_get (D := D) (ci := 1) (v := .ref c4) (C := RX1) (T := TX1) (N := 10) hx hb hts iX1 hown hK hP 0 rfl rfl 4 (Nat.le_of_ble_eq_true rfl) (hts _ wd_35) (fun _ h9 => h9) rfl dX1_solve_8 ?_
        refine lv_iload_n hx hb dX1_solve_11 rfl (lv_at hl 0 rfl) ?_
        refine lv_aload_n hx hb dX1_solve_12 rfl (lv_at hl 1 rfl) ?_
        refine lv_iload_n hx hb dX1_solve_13 rfl (lv_at hl 0 rfl) ?_
        refine cVi (wr := [(te, .inl (cI, 7, .inl fte)), (c1, .inl (cI, 7, .inl w_1m1)), (c4, .inl (cI, 128, .inl w_1m2)), (c5, .inl (cI, 128, .inl w_1m3)), (c6, .inl (cI, 128, .inl w_1m4))]) (rest := [.int w_1l1, .ref c4]) (e_minuteBehind_x1 cv c1 c2 c3 c4 c5 c6 t ta tb tc td te w_1m0 v7 v8 t0 t1 t2 t3 t4 ftd fc2 fc3 w_1l1) okV_X1_minuteBehind wd_323 hx hb hml hown hts hK hP hD hS hA hN hl.1 [0, 1, 2, 5, 6] [3, 4, 7, 8, 9] rfl rfl rfl rfl (of_decide_eq_true rfl) rfl rfl rfl (Nat.le_of_ble_eq_true rfl) (Nat.le_of_ble_eq_true rfl) (Nat.le_of_ble_eq_true rfl) (Nat.le_of_ble_eq_true rfl) (Nat.le_of_ble_eq_true rfl) dX1_solve_14 (fun r_8 u_7 H locs hw_u_7 hP hD hS => ?_)
        replace hw_u_7 : r_8 = (f_e_minuteBehind_x1 w_1m0 v7 v8 t0 t1 t2 t3 t4 ftd fc2 fc3 w_1l1) := hw_u_7
        rw [hw_u_7]
        clear hw_u_7
        have hP : va_P D classes [(te, .inl (cI, 7, .inl fte)), (c1, .inl (cI, 7, .inl w_1m1)), (c4, .inl (cI, 128, .inl w_1m2)), (c5, .inl (cI, 128, .inl w_1m3)), (c6, .inl (cI, 128, .inl w_1m4)), (cv, .inr (1, [.int w_1m0, .ref c1, .ref c2, .ref c3, .ref c4, .ref c5, .ref c6, .int v7, .int v8, .ref t])), (t, .inr (8, [.int t0, .int t1, .int t2, .int t3, .int t4, .ref ta, .ref tb, .ref tc, .ref td, .ref te])), (td, .inl (cI, 7, .inl ftd)), (c2, .inl (cI, 6, .inl fc2)), (c3, .inl (cI, 48, .inl fc3))] H := hP
        have hD : va_D A [(te, .inl (cI, 7, .inl fte)), (c1, .inl (cI, 7, .inl w_1m1)), (c4, .inl (cI, 128, .inl w_1m2)), (c5, .inl (cI, 128, .inl w_1m3)), (c6, .inl (cI, 128, .inl w_1m4)), (cv, .inr (1, [.int w_1m0, .ref c1, .ref c2, .ref c3, .ref c4, .ref c5, .ref c6, .int v7, .int v8, .ref t])), (t, .inr (8, [.int t0, .int t1, .int t2, .int t3, .int t4, .ref ta, .ref tb, .ref tc, .ref td, .ref te])), (td, .inl (cI, 7, .inl ftd)), (c2, .inl (cI, 6, .inl fc2)), (c3, .inl (cI, 48, .inl fc3))] := hD
        refine cNv (wr := [(te, .inl (cI, 7, .inl fte)), (c1, .inl (cI, 7, .inl w_1m1)), (c5, .inl (cI, 128, .inl w_1m3)), (c6, .inl (cI, 128, .inl w_1m4)), (cv, .inr (1, [.int w_1m0, .ref c1, .ref c2, .ref c3, .ref c4, .ref c5, .ref c6, .int v7, .int v8, .ref t])), (t, .inr (8, [.int t0, .int t1, .int t2, .int t3, .int t4, .ref ta, .ref tb, .ref tc, .ref td, .ref te])), (td, .inl (cI, 7, .inl ftd)), (c2, .inl (cI, 6, .inl fc2)), (c3, .inl (cI, 48, .inl fc3))]) (rest := []) (k_put c4 128 w_1m2 w_1l1 (f_e_minuteBehind_x1 w_1m0 v7 v8 t0 t1 t2 t3 t4 ftd fc2 fc3 w_1l1) (of_decide_eq_true rfl)) okS_X9_put 11 rfl hx hb hml hown hts hK hP hD hS hA hN hl.1 [2] [0, 1, 3, 4, 5, 6, 7, 8, 9] rfl rfl rfl rfl (by decide) rfl (Nat.le_of_ble_eq_true rfl) (Nat.le_of_ble_eq_true rfl) (Nat.le_of_ble_eq_true rfl) (Nat.le_of_ble_eq_true rfl) (Nat.le_of_ble_eq_true rfl) dX1_solve_17 (fun u_9 H locs hw_u_9 hP hD hS => ?_)
        have hP : va_P D classes [(te, .inl (cI, 7, .inl fte)), (c1, .inl (cI, 7, .inl w_1m1)), (c5, .inl (cI, 128, .inl w_1m3)), (c6, .inl (cI, 128, .inl w_1m4)), (cv, .inr (1, [.int w_1m0, .ref c1, .ref c2, .ref c3, .ref c4, .ref c5, .ref c6, .int v7, .int v8, .ref t])), (t, .inr (8, [.int t0, .int t1, .int t2, .int t3, .int t4, .ref ta, .ref tb, .ref tc, .ref td, .ref te])), (td, .inl (cI, 7, .inl ftd)), (c2, .inl (cI, 6, .inl fc2)), (c3, .inl (cI, 48, .inl fc3)), (c4, .inl (cI, 128, .inl (putF 128 w_1m2 w_1l1 (f_e_minuteBehind_x1 w_1m0 v7 v8 t0 t1 t2 t3 t4 ftd fc2 fc3 w_1l1))))] H := hP
        have hD : va_D A [(te, .inl (cI, 7, .inl fte)), (c1, .inl (cI, 7, .inl w_1m1)), (c5, .inl (cI, 128, .inl w_1m3)), (c6, .inl (cI, 128, .inl w_1m4)), (cv, .inr (1, [.int w_1m0, .ref c1, .ref c2, .ref c3, .ref c4, .ref c5, .ref c6, .int v7, .int v8, .ref t])), (t, .inr (8, [.int t0, .int t1, .int t2, .int t3, .int t4, .ref ta, .ref tb, .ref tc, .ref td, .ref te])), (td, .inl (cI, 7, .inl ftd)), (c2, .inl (cI, 6, .inl fc2)), (c3, .inl (cI, 48, .inl fc3)), (c4, .inl (cI, 128, .inl (putF 128 w_1m2 w_1l1 (f_e_minuteBehind_x1 w_1m0 v7 v8 t0 t1 t2 t3 t4 ftd fc2 fc3 w_1l1))))] := hD
        refine lv_aload_n hx hb dX1_solve_20 rfl (lv_at hl 1 rfl) ?_
        refine va_get (D := D) (ci := 1) (v := .ref c5) (C := RX1) (T := TX1) (N := 10) hx hb hts iX1 hown hK hP 4 rfl rfl 5 (Nat.le_of_ble_eq_true rfl) (hts _ wd_36) (fun _ h9 => h9) rfl dX1_solve_21 ?_
        refine lv_iload_n hx hb dX1_solve_24 rfl (lv_at hl 0 rfl) ?_
        refine lv_iconst (v := 0) hx hb dX1_solve_25 rfl ?_
        refine cNv (wr := [(te, .inl (cI, 7, .inl fte)), (c1, .inl (cI, 7, .inl w_1m1)), (c6, .inl (cI, 128, .inl w_1m4)), (cv, .inr (1, [.int w_1m0, .ref c1, .ref c2, .ref c3, .ref c4, .ref c5, .ref c6, .int v7, .int v8, .ref t])), (t, .inr (8, [.int t0, .int t1, .int t2, .int t3, .int t4, .ref ta, .ref tb, .ref tc, .ref td, .ref te])), (td, .inl (cI, 7, .inl ftd)), (c2, .inl (cI, 6, .inl fc2)), (c3, .inl (cI, 48, .inl fc3)), (c4, .inl (cI, 128, .inl (putF 128 w_1m2 w_1l1 (f_e_minuteBehind_x1 w_1m0 v7 v8 t0 t1 t2 t3 t4 ftd fc2 fc3 w_1l1))))]) (rest := []) (k_put c5 128 w_1m3 w_1l1 0 (of_decide_eq_true rfl)) okS_X9_put 11 rfl hx hb hml hown hts hK hP hD hS hA hN hl.1 [2] [0, 1, 3, 4, 5, 6, 7, 8, 9] rfl rfl rfl rfl (by decide) rfl (Nat.le_of_ble_eq_true rfl) (Nat.le_of_ble_eq_true rfl) (Nat.le_of_ble_eq_true rfl) (Nat.le_of_ble_eq_true rfl) (Nat.le_of_ble_eq_true rfl) dX1_solve_26 (fun u_11 H locs hw_u_11 hP hD hS => ?_)
        have hP : va_P D classes [(te, .inl (cI, 7, .inl fte)), (c1, .inl (cI, 7, .inl w_1m1)), (c6, .inl (cI, 128, .inl w_1m4)), (cv, .inr (1, [.int w_1m0, .ref c1, .ref c2, .ref c3, .ref c4, .ref c5, .ref c6, .int v7, .int v8, .ref t])), (t, .inr (8, [.int t0, .int t1, .int t2, .int t3, .int t4, .ref ta, .ref tb, .ref tc, .ref td, .ref te])), (td, .inl (cI, 7, .inl ftd)), (c2, .inl (cI, 6, .inl fc2)), (c3, .inl (cI, 48, .inl fc3)), (c4, .inl (cI, 128, .inl (putF 128 w_1m2 w_1l1 (f_e_minuteBehind_x1 w_1m0 v7 v8 t0 t1 t2 t3 t4 ftd fc2 fc3 w_1l1)))), (c5, .inl (cI, 128, .inl (putF 128 w_1m3 w_1l1 0)))] H := hP
        have hD : va_D A [(te, .inl (cI, 7, .inl fte)), (c1, .inl (cI, 7, .inl w_1m1)), (c6, .inl (cI, 128, .inl w_1m4)), (cv, .inr (1, [.int w_1m0, .ref c1, .ref c2, .ref c3, .ref c4, .ref c5, .ref c6, .int v7, .int v8, .ref t])), (t, .inr (8, [.int t0, .int t1, .int t2, .int t3, .int t4, .ref ta, .ref tb, .ref tc, .ref td, .ref te])), (td, .inl (cI, 7, .inl ftd)), (c2, .inl (cI, 6, .inl fc2)), (c3, .inl (cI, 48, .inl fc3)), (c4, .inl (cI, 128, .inl (putF 128 w_1m2 w_1l1 (f_e_minuteBehind_x1 w_1m0 v7 v8 t0 t1 t2 t3 t4 ftd fc2 fc3 w_1l1)))), (c5, .inl (cI, 128, .inl (putF 128 w_1m3 w_1l1 0)))] := hD
        refine lv_aload_n hx hb dX1_solve_29 rfl (lv_at hl 1 rfl) ?_
        refine va_get (D := D) (ci := 1) (v := .ref c6) (C := RX1) (T := TX1) (N := 10) hx hb hts iX1 hown hK hP 3 rfl rfl 6 (Nat.le_of_ble_eq_true rfl) (hts _ wd_37) (fun _ h9 => h9) rfl dX1_solve_30 ?_
        refine lv_iload_n hx hb dX1_solve_33 rfl (lv_at hl 0 rfl) ?_
        refine lv_iconst (v := (-1)) hx hb dX1_solve_34 rfl ?_
        refine cNv (wr := [(te, .inl (cI, 7, .inl fte)), (c1, .inl (cI, 7, .inl w_1m1)), (cv, .inr (1, [.int w_1m0, .ref c1, .ref c2, .ref c3, .ref c4, .ref c5, .ref c6, .int v7, .int v8, .ref t])), (t, .inr (8, [.int t0, .int t1, .int t2, .int t3, .int t4, .ref ta, .ref tb, .ref tc, .ref td, .ref te])), (td, .inl (cI, 7, .inl ftd)), (c2, .inl (cI, 6, .inl fc2)), (c3, .inl (cI, 48, .inl fc3)), (c4, .inl (cI, 128, .inl (putF 128 w_1m2 w_1l1 (f_e_minuteBehind_x1 w_1m0 v7 v8 t0 t1 t2 t3 t4 ftd fc2 fc3 w_1l1)))), (c5, .inl (cI, 128, .inl (putF 128 w_1m3 w_1l1 0)))]) (rest := []) (k_put c6 128 w_1m4 w_1l1 (-1) (of_decide_eq_true rfl)) okS_X9_put 11 rfl hx hb hml hown hts hK hP hD hS hA hN hl.1 [2] [0, 1, 3, 4, 5, 6, 7, 8, 9] rfl rfl rfl rfl (by decide) rfl (Nat.le_of_ble_eq_true rfl) (Nat.le_of_ble_eq_true rfl) (Nat.le_of_ble_eq_true rfl) (Nat.le_of_ble_eq_true rfl) (Nat.le_of_ble_eq_true rfl) dX1_solve_35 (fun u_13 H locs hw_u_13 hP hD hS => ?_)
        have hP : va_P D classes [(te, .inl (cI, 7, .inl fte)), (c1, .inl (cI, 7, .inl w_1m1)), (cv, .inr (1, [.int w_1m0, .ref c1, .ref c2, .ref c3, .ref c4, .ref c5, .ref c6, .int v7, .int v8, .ref t])), (t, .inr (8, [.int t0, .int t1, .int t2, .int t3, .int t4, .ref ta, .ref tb, .ref tc, .ref td, .ref te])), (td, .inl (cI, 7, .inl ftd)), (c2, .inl (cI, 6, .inl fc2)), (c3, .inl (cI, 48, .inl fc3)), (c4, .inl (cI, 128, .inl (putF 128 w_1m2 w_1l1 (f_e_minuteBehind_x1 w_1m0 v7 v8 t0 t1 t2 t3 t4 ftd fc2 fc3 w_1l1)))), (c5, .inl (cI, 128, .inl (putF 128 w_1m3 w_1l1 0))), (c6, .inl (cI, 128, .inl (putF 128 w_1m4 w_1l1 (-1))))] H := hP
        have hD : va_D A [(te, .inl (cI, 7, .inl fte)), (c1, .inl (cI, 7, .inl w_1m1)), (cv, .inr (1, [.int w_1m0, .ref c1, .ref c2, .ref c3, .ref c4, .ref c5, .ref c6, .int v7, .int v8, .ref t])), (t, .inr (8, [.int t0, .int t1, .int t2, .int t3, .int t4, .ref ta, .ref tb, .ref tc, .ref td, .ref te])), (td, .inl (cI, 7, .inl ftd)), (c2, .inl (cI, 6, .inl fc2)), (c3, .inl (cI, 48, .inl fc3)), (c4, .inl (cI, 128, .inl (putF 128 w_1m2 w_1l1 (f_e_minuteBehind_x1 w_1m0 v7 v8 t0 t1 t2 t3 t4 ftd fc2 fc3 w_1l1)))), (c5, .inl (cI, 128, .inl (putF 128 w_1m3 w_1l1 0))), (c6, .inl (cI, 128, .inl (putF 128 w_1m4 w_1l1 (-1))))] := hD
        refine lv_iconst (v := 0) hx hb dX1_solve_38 rfl ?_
        refine lv_istore_n (lv' := [(2, .int 0), (1, .int w_1l1), (0, .ref cv)]) hx hb dX1_solve_39 rfl hl (Nat.le_of_ble_eq_true rfl) rfl (fun ls hl => ?_)
        have ex_40_w_15 : ∀ (w_15l2 : Int32) (w_15m0 : Int32) (w_15m1 : (Nat → Int32)) (w_15m2 : (Nat → Int32)) (w_15m3 : (Nat → Int32)) (w_15m4 : (Nat → Int32)) (H : Heap) (locs : List Loc) (ls : Array Slot), va_P D classes [(te, .inl (cI, 7, .inl fte)), (c1, .inl (cI, 7, .inl w_15m1)), (cv, .inr (1, [.int w_15m0, .ref c1, .ref c2, .ref c3, .ref c4, .ref c5, .ref c6, .int v7, .int v8, .ref t])), (t, .inr (8, [.int t0, .int t1, .int t2, .int t3, .int t4, .ref ta, .ref tb, .ref tc, .ref td, .ref te])), (td, .inl (cI, 7, .inl ftd)), (c2, .inl (cI, 6, .inl fc2)), (c3, .inl (cI, 48, .inl fc3)), (c4, .inl (cI, 128, .inl w_15m2)), (c5, .inl (cI, 128, .inl w_15m3)), (c6, .inl (cI, 128, .inl w_15m4))] H → va_D A [(te, .inl (cI, 7, .inl fte)), (c1, .inl (cI, 7, .inl w_15m1)), (cv, .inr (1, [.int w_15m0, .ref c1, .ref c2, .ref c3, .ref c4, .ref c5, .ref c6, .int v7, .int v8, .ref t])), (t, .inr (8, [.int t0, .int t1, .int t2, .int t3, .int t4, .ref ta, .ref tb, .ref tc, .ref td, .ref te])), (td, .inl (cI, 7, .inl ftd)), (c2, .inl (cI, 6, .inl fc2)), (c3, .inl (cI, 48, .inl fc3)), (c4, .inl (cI, 128, .inl w_15m2)), (c5, .inl (cI, 128, .inl w_15m3)), (c6, .inl (cI, 128, .inl w_15m4))] → va_S A s.heap H locs → lv_has ls 3 [(2, .int w_15l2), (1, .int w_1l1), (0, .ref cv)] → ((match (f_e_solve_x1_3 v0 v7 v8 t0 t1 t2 t3 t4 ftd fte fc1 fc2 fc3 fc4 fc5 fc6 n_w_1 (w_1l1 + (-1)) w_15m0 w_15m1 w_15m2 w_15m3 w_15m4) with | (w_1l1, w_1m0, w_1m1, w_1m2, w_1m3, w_1m4) => (match (f_e_layOutRow_x1 w_1m0 v7 v8 w_1m1 w_1m4) with | (o_4, o_5) => (o_4, o_5, w_1m2, w_1m3, w_1m4)))) = RES → W p l e rm_e_solve_x1 s m args below meth c H locs 0 0 Q (F0 m 58 ls []) := by
          intro w_15l2 w_15m0 w_15m1 w_15m2 w_15m3 w_15m4 H locs ls hP hD hS hl hE
          refine lv_iinc (v := (w_1l1 + (-1))) (lv' := [(1, .int (w_1l1 + (-1))), (2, .int w_15l2), (0, .ref cv)]) hx hb dX1_solve_58 hl (k := 1) rfl rfl (Nat.le_of_ble_eq_true rfl) rfl (fun ls hl => ?_)
          refine lv_goto (tgt := 3) hx hb dX1_solve_61 rfl ?_
          exact ih_w_1 (w_1l1 + (-1)) w_15m0 w_15m1 w_15m2 w_15m3 w_15m4 _ _ ls (cutP (isC := [2, 3, 4, 0, 1, 5, 6, 7, 8, 9]) hP rfl) (cutD (isC := [2, 3, 4, 0, 1, 5, 6, 7, 8, 9]) hD rfl rfl) hS (lv_sub hl [0, 2] rfl) (dn_step c_6 hm) hE
        have lp_40_w_15 : ∀ (n_w_15 : Nat) (w_15l2 : Int32) (w_15m0 : Int32) (w_15m1 : (Nat → Int32)) (w_15m2 : (Nat → Int32)) (w_15m3 : (Nat → Int32)) (w_15m4 : (Nat → Int32)) (H : Heap) (locs : List Loc) (ls : Array Slot), va_P D classes [(te, .inl (cI, 7, .inl fte)), (c1, .inl (cI, 7, .inl w_15m1)), (cv, .inr (1, [.int w_15m0, .ref c1, .ref c2, .ref c3, .ref c4, .ref c5, .ref c6, .int v7, .int v8, .ref t])), (t, .inr (8, [.int t0, .int t1, .int t2, .int t3, .int t4, .ref ta, .ref tb, .ref tc, .ref td, .ref te])), (td, .inl (cI, 7, .inl ftd)), (c2, .inl (cI, 6, .inl fc2)), (c3, .inl (cI, 48, .inl fc3)), (c4, .inl (cI, 128, .inl w_15m2)), (c5, .inl (cI, 128, .inl w_15m3)), (c6, .inl (cI, 128, .inl w_15m4))] H → va_D A [(te, .inl (cI, 7, .inl fte)), (c1, .inl (cI, 7, .inl w_15m1)), (cv, .inr (1, [.int w_15m0, .ref c1, .ref c2, .ref c3, .ref c4, .ref c5, .ref c6, .int v7, .int v8, .ref t])), (t, .inr (8, [.int t0, .int t1, .int t2, .int t3, .int t4, .ref ta, .ref tb, .ref tc, .ref td, .ref te])), (td, .inl (cI, 7, .inl ftd)), (c2, .inl (cI, 6, .inl fc2)), (c3, .inl (cI, 48, .inl fc3)), (c4, .inl (cI, 128, .inl w_15m2)), (c5, .inl (cI, 128, .inl w_15m3)), (c6, .inl (cI, 128, .inl w_15m4))] → va_S A s.heap H locs → lv_has ls 3 [(2, .int w_15l2), (1, .int w_1l1), (0, .ref cv)] → ((7 : Int32).toInt - (w_15l2 : Int32).toInt).toNat < n_w_15 → (match (match (f_e_solve_x1_40 v0 v7 v8 t0 t1 t2 t3 t4 ftd fte fc1 fc2 fc3 fc4 fc5 fc6 w_1l1 n_w_15 w_15l2 w_15m0 w_15m1 w_15m2 w_15m3 w_15m4) with | (w_15l2, w_15m0, w_15m1, w_15m2, w_15m3, w_15m4) => (f_e_solve_x1_3 v0 v7 v8 t0 t1 t2 t3 t4 ftd fte fc1 fc2 fc3 fc4 fc5 fc6 n_w_1 (w_1l1 + (-1)) w_15m0 w_15m1 w_15m2 w_15m3 w_15m4)) with | (w_1l1, w_1m0, w_1m1, w_1m2, w_1m3, w_1m4) => (match (f_e_layOutRow_x1 w_1m0 v7 v8 w_1m1 w_1m4) with | (o_4, o_5) => (o_4, o_5, w_1m2, w_1m3, w_1m4))) = RES → W p l e rm_e_solve_x1 s m args below meth c H locs 0 0 Q (F0 m 40 ls []) := by
          intro n_w_15
          induction n_w_15 with
          | zero => intro w_15l2 w_15m0 w_15m1 w_15m2 w_15m3 w_15m4 H locs ls hP hD hS hl hm; exact absurd hm (Nat.not_lt_zero _)
          | succ n_w_15 ih_w_15 =>
            intro w_15l2 w_15m0 w_15m1 w_15m2 w_15m3 w_15m4 H locs ls hP hD hS hl hm hE
            rw [f_e_solve_x1_40_s] at hE
            refine lv_iload_n hx hb dX1_solve_40 rfl (lv_at hl 0 rfl) ?_
            refine lv_bipush (v := 7) hx hb dX1_solve_41 rfl ?_
            refine lv_icmp_ge (tgt := 58) hx hb dX1_solve_43 rfl (fun c_16 => ?_) (fun c_16 => ?_)
            · rw [if_pos c_16] at hE
              exact ex_40_w_15 w_15l2 w_15m0 w_15m1 w_15m2 w_15m3 w_15m4 _ _ ls hP hD hS (lv_sub hl [0, 1, 2] rfl) hE
            · rw [if_neg c_16] at hE
              refine lv_aload_n hx hb dX1_solve_46 rfl (lv_at hl 2 rfl) ?_
              refine lv_iload_n hx hb dX1_solve_47 rfl (lv_at hl 1 rfl) ?_
              refine lv_iload_n hx hb dX1_solve_48 rfl (lv_at hl 0 rfl) ?_
              refine cVv (wr := [(c1, .inl (cI, 7, .inl w_15m1)), (td, .inl (cI, 7, .inl ftd)), (c2, .inl (cI, 6, .inl fc2)), (c3, .inl (cI, 48, .inl fc3))]) (rest := []) (e_weigh_x1 cv c1 c2 c3 c4 c5 c6 t ta tb tc td te w_15m0 v7 v8 t0 t1 t2 t3 t4 fte w_15m2 w_15m3 w_15m4 w_1l1 w_15l2) okV_X1_weigh wd_327 hx hb hml hown hts hK hP hD hS hA hN hl.1 [2, 3, 0, 7, 8, 9] [1, 4, 5, 6] rfl rfl rfl rfl (of_decide_eq_true rfl) rfl rfl rfl (Nat.le_of_ble_eq_true rfl) (Nat.le_of_ble_eq_true rfl) (Nat.le_of_ble_eq_true rfl) (Nat.le_of_ble_eq_true rfl) (Nat.le_of_ble_eq_true rfl) dX1_solve_49 (fun u_17 H locs hw_u_17 hP hD hS => ?_)
              obtain ⟨o_19, o_20⟩ := u_17
              replace hw_u_17 : (o_19, o_20) = (f_e_weigh_x1 w_15m0 v7 v8 t0 t1 t2 t3 t4 fte w_15m2 w_15m3 w_15m4 w_1l1 w_15l2) := hw_u_17
              rw [← hw_u_17] at hE
              replace hE : (match (match (f_e_solve_x1_40 v0 v7 v8 t0 t1 t2 t3 t4 ftd fte fc1 fc2 fc3 fc4 fc5 fc6 w_1l1 n_w_15 (w_15l2 + 1) w_15m0 w_15m1 w_15m2 o_19 o_20) with | (w_15l2, w_15m0, w_15m1, w_15m2, w_15m3, w_15m4) => (f_e_solve_x1_3 v0 v7 v8 t0 t1 t2 t3 t4 ftd fte fc1 fc2 fc3 fc4 fc5 fc6 n_w_1 (w_1l1 + (-1)) w_15m0 w_15m1 w_15m2 w_15m3 w_15m4)) with | (w_1l1, w_1m0, w_1m1, w_1m2, w_1m3, w_1m4) => (match (f_e_layOutRow_x1 w_1m0 v7 v8 w_1m1 w_1m4) with | (o_4, o_5) => (o_4, o_5, w_1m2, w_1m3, w_1m4))) = RES := hE
              have hP : va_P D classes [(c1, .inl (cI, 7, .inl w_15m1)), (td, .inl (cI, 7, .inl ftd)), (c2, .inl (cI, 6, .inl fc2)), (c3, .inl (cI, 48, .inl fc3)), (cv, .inr (1, [.int w_15m0, .ref c1, .ref c2, .ref c3, .ref c4, .ref c5, .ref c6, .int v7, .int v8, .ref t])), (t, .inr (8, [.int t0, .int t1, .int t2, .int t3, .int t4, .ref ta, .ref tb, .ref tc, .ref td, .ref te])), (te, .inl (cI, 7, .inl fte)), (c4, .inl (cI, 128, .inl w_15m2)), (c5, .inl (cI, 128, .inl o_19)), (c6, .inl (cI, 128, .inl o_20))] H := hP
              have hD : va_D A [(c1, .inl (cI, 7, .inl w_15m1)), (td, .inl (cI, 7, .inl ftd)), (c2, .inl (cI, 6, .inl fc2)), (c3, .inl (cI, 48, .inl fc3)), (cv, .inr (1, [.int w_15m0, .ref c1, .ref c2, .ref c3, .ref c4, .ref c5, .ref c6, .int v7, .int v8, .ref t])), (t, .inr (8, [.int t0, .int t1, .int t2, .int t3, .int t4, .ref ta, .ref tb, .ref tc, .ref td, .ref te])), (te, .inl (cI, 7, .inl fte)), (c4, .inl (cI, 128, .inl w_15m2)), (c5, .inl (cI, 128, .inl o_19)), (c6, .inl (cI, 128, .inl o_20))] := hD
              refine lv_iinc (v := (w_15l2 + 1)) (lv' := [(2, .int (w_15l2 + 1)), (1, .int w_1l1), (0, .ref cv)]) hx hb dX1_solve_52 hl (k := 0) rfl rfl (Nat.le_of_ble_eq_true rfl) rfl (fun ls hl => ?_)
              refine lv_goto (tgt := 40) hx hb dX1_solve_55 rfl ?_
              exact ih_w_15 (w_15l2 + 1) w_15m0 w_15m1 w_15m2 o_19 o_20 _ _ ls (cutP (isC := [6, 0, 4, 5, 1, 2, 3, 7, 8, 9]) hP rfl) (cutD (isC := [6, 0, 4, 5, 1, 2, 3, 7, 8, 9]) hD rfl rfl) hS (lv_sub hl [0, 1, 2] rfl) (up_step c_16 hm) hE
        exact lp_40_w_15 (((7 : Int32).toInt - (0 : Int32).toInt).toNat + 1) 0 w_1m0 w_1m1 (putF 128 w_1m2 w_1l1 (f_e_minuteBehind_x1 w_1m0 v7 v8 t0 t1 t2 t3 t4 ftd fc2 fc3 w_1l1)) (putF 128 w_1m3 w_1l1 0) (putF 128 w_1m4 w_1l1 (-1)) _ _ ls hP hD hS hl (Nat.lt_succ_self _) hE
  exact lp_3_w_1 (((127 : Int32).toInt + 1).toNat + 1) 127 v0 fc1 fc4 fc5 fc6 _ _ ls hP hD hS hl (Nat.lt_succ_self _) hE
noncomputable def f_e_ask_x3 (fpa : Nat → Int32) (b_ : Int32) (c_ : Int32) (x_ : Int32) : (Nat → Int32) := (putF 36 fpa ((b_ * 6) + c_) x_)
def rm_e_ask_x3 : Room := { frames := 1, cells := 0, slots := 0, locals := 22 }
set_option maxHeartbeats 4000000 in
set_option maxRecDepth 100000 in
theorem e_ask_x3 {l : Launch} {D : va_G} {cI cZ : ClassId} {sz : Nat} (pr pra prb prc : Nat) (fpa : Nat → Int32) (b_ : Int32) (c_ : Int32) (x_ : Int32) : KV l yX3_ask cX3_ask 4 rm_e_ask_x3 D cI cZ [.ref pr, .int b_, .int c_, .int x_] sz [(pr, .inr (3, [.ref pra, .ref prb, .ref prc])), (pra, .inl (cI, 36, .inl fpa))] (fun (u : (Nat → Int32)) => u = f_e_ask_x3 fpa b_ c_ x_) (fun (u : (Nat → Int32)) => [(pr, .inr (3, [.ref pra, .ref prb, .ref prc])), (pra, .inl (cI, 36, .inl u))]) := by
  refine KV.go rfl (Nat.le_of_ble_eq_true rfl) ?_
  intro p e s m args below meth c ls A Q hx hb hml hts hown hin hP hK hD hS hA hN hl hret
  have hl : lv_has ls 4 [(0, .ref pr), (1, .int b_), (2, .int c_), (3, .int x_)] := hl
  obtain ⟨RES, hE⟩ : ∃ xRES, f_e_ask_x3 fpa b_ c_ x_ = xRES := ⟨_, rfl⟩
  rw [hE] at hret
  rw [f_e_ask_x3] at hE
  refine lv_aload_n hx hb dX3_ask_0 rfl (lv_at hl 0 rfl) ?_
  refine va_get (D := D) (ci := 3) (v := .ref pra) (C := RX3) (T := TX3) (N := 3) hx hb hts iX3 hown hK hP 0 rfl rfl 0 (Nat.le_of_ble_eq_true rfl) (hts _ wd_27) (fun _ h9 => h9) rfl dX3_ask_1 ?_
  refine lv_iload_n hx hb dX3_ask_4 rfl (lv_at hl 1 rfl) ?_
  refine lv_bipush (v := 6) hx hb dX3_ask_5 rfl ?_
  refine lv_imul hx hb dX3_ask_7 ?_
  refine lv_iload_n hx hb dX3_ask_8 rfl (lv_at hl 2 rfl) ?_
  refine lv_iadd hx hb dX3_ask_9 ?_
  refine lv_iload_n hx hb dX3_ask_10 rfl (lv_at hl 3 rfl) ?_
  refine cNv (wr := [(pr, .inr (3, [.ref pra, .ref prb, .ref prc]))]) (rest := []) (k_put pra 36 fpa ((b_ * 6) + c_) x_ (of_decide_eq_true rfl)) okS_X9_put 12 rfl hx hb hml hown hts hK hP hD hS hA hN hl.1 [1] [0] rfl rfl rfl rfl (by decide) rfl (Nat.le_of_ble_eq_true rfl) (Nat.le_of_ble_eq_true rfl) (Nat.le_of_ble_eq_true rfl) (Nat.le_of_ble_eq_true rfl) (Nat.le_of_ble_eq_true rfl) dX3_ask_11 (fun u_1 H locs hw_u_1 hP hD hS => ?_)
  have hP : va_P D classes [(pr, .inr (3, [.ref pra, .ref prb, .ref prc])), (pra, .inl (cI, 36, .inl (putF 36 fpa ((b_ * 6) + c_) x_)))] H := hP
  have hD : va_D A [(pr, .inr (3, [.ref pra, .ref prb, .ref prc])), (pra, .inl (cI, 36, .inl (putF 36 fpa ((b_ * 6) + c_) x_)))] := hD
  exact hret (putF 36 fpa ((b_ * 6) + c_) x_) _ _ _ _ dX3_ask_14 hE hP hD hS
noncomputable def f_e_weigh_x3 (fpa : Nat → Int32) (fpb : Nat → Int32) (fpc : Nat → Int32) (g_ : Int32) (b_ : Int32) (c_ : Int32) : (Nat → Int32) × (Nat → Int32) := (if ((g_ >>> (c_ &&& 31)) &&& 1) = 0 then (if (atF 36 fpa ((b_ * 6) + c_)) = (-1) then (fpb, fpc) else (if (atF 64 fpb (g_ ||| (1 <<< (c_ &&& 31)))) = (-1) then (fpb, fpc) else (if (atF 64 fpb g_) = (-1) then ((putF 64 fpb g_ ((atF 36 fpa ((b_ * 6) + c_)) + (atF 64 fpb (g_ ||| (1 <<< (c_ &&& 31)))))), (putF 64 fpc g_ c_)) else (if (atF 64 fpb g_) ≤ ((atF 36 fpa ((b_ * 6) + c_)) + (atF 64 fpb (g_ ||| (1 <<< (c_ &&& 31))))) then (fpb, fpc) else ((putF 64 fpb g_ ((atF 36 fpa ((b_ * 6) + c_)) + (atF 64 fpb (g_ ||| (1 <<< (c_ &&& 31)))))), (putF 64 fpc g_ c_)))))) else (fpb, fpc))
def rm_e_weigh_x3 : Room := { frames := 1, cells := 0, slots := 0, locals := 22 }
set_option maxHeartbeats 4000000 in
set_option maxRecDepth 100000 in
theorem e_weigh_x3 {l : Launch} {D : va_G} {cI cZ : ClassId} {sz : Nat} (pr pra prb prc : Nat) (fpa : Nat → Int32) (fpb : Nat → Int32) (fpc : Nat → Int32) (g_ : Int32) (b_ : Int32) (c_ : Int32) : KV l yX3_weigh cX3_weigh 7 rm_e_weigh_x3 D cI cZ [.ref pr, .int g_, .int b_, .int c_] sz [(pr, .inr (3, [.ref pra, .ref prb, .ref prc])), (pra, .inl (cI, 36, .inl fpa)), (prb, .inl (cI, 64, .inl fpb)), (prc, .inl (cI, 64, .inl fpc))] (fun (u : (Nat → Int32) × (Nat → Int32)) => u = f_e_weigh_x3 fpa fpb fpc g_ b_ c_) (fun (u : (Nat → Int32) × (Nat → Int32)) => [(pr, .inr (3, [.ref pra, .ref prb, .ref prc])), (pra, .inl (cI, 36, .inl fpa)), (prb, .inl (cI, 64, .inl u.1)), (prc, .inl (cI, 64, .inl u.2))]) := by
  refine KV.go rfl (Nat.le_of_ble_eq_true rfl) ?_
  intro p e s m args below meth c ls A Q hx hb hml hts hown hin hP hK hD hS hA hN hl hret
  have hl : lv_has ls 7 [(0, .ref pr), (1, .int g_), (2, .int b_), (3, .int c_)] := hl
  obtain ⟨RES, hE⟩ : ∃ xRES, f_e_weigh_x3 fpa fpb fpc g_ b_ c_ = xRES := ⟨_, rfl⟩
  rw [hE] at hret
  rw [f_e_weigh_x3] at hE
  refine lv_aload_n hx hb dX3_weigh_0 rfl (lv_at hl 0 rfl) ?_
  refine va_get (D := D) (ci := 3) (v := .ref pra) (C := RX3) (T := TX3) (N := 3) hx hb hts iX3 hown hK hP 0 rfl rfl 0 (Nat.le_of_ble_eq_true rfl) (hts _ wd_27) (fun _ h9 => h9) rfl dX3_weigh_1 ?_
  refine lv_iload_n hx hb dX3_weigh_4 rfl (lv_at hl 2 rfl) ?_
  refine lv_bipush (v := 6) hx hb dX3_weigh_5 rfl ?_
  refine lv_imul hx hb dX3_weigh_7 ?_
  refine lv_iload_n hx hb dX3_weigh_8 rfl (lv_at hl 3 rfl) ?_
  refine lv_iadd hx hb dX3_weigh_9 ?_
  refine cNi (wr := [(pr, .inr (3, [.ref pra, .ref prb, .ref prc])), (prb, .inl (cI, 64, .inl fpb)), (prc, .inl (cI, 64, .inl fpc))]) (rest := []) (k_at pra 36 fpa ((b_ * 6) + c_) (of_decide_eq_true rfl)) okS_X9_at 13 rfl hx hb hml hown hts hK hP hD hS hA hN hl.1 [1] [0, 2, 3] rfl rfl rfl rfl (by decide) rfl (Nat.le_of_ble_eq_true rfl) (Nat.le_of_ble_eq_true rfl) (Nat.le_of_ble_eq_true rfl) (Nat.le_of_ble_eq_true rfl) (Nat.le_of_ble_eq_true rfl) dX3_weigh_10 (fun r_2 u_1 H locs hw_u_1 hP hD hS => ?_)
  obtain rfl := hw_u_1
  have hP : va_P D classes [(pr, .inr (3, [.ref pra, .ref prb, .ref prc])), (prb, .inl (cI, 64, .inl fpb)), (prc, .inl (cI, 64, .inl fpc)), (pra, .inl (cI, 36, .inl fpa))] H := hP
  have hD : va_D A [(pr, .inr (3, [.ref pra, .ref prb, .ref prc])), (prb, .inl (cI, 64, .inl fpb)), (prc, .inl (cI, 64, .inl fpc)), (pra, .inl (cI, 36, .inl fpa))] := hD
  refine lv_istore (lv' := [(4, .int (atF 36 fpa ((b_ * 6) + c_))), (0, .ref pr), (1, .int g_), (2, .int b_), (3, .int c_)]) hx hb dX3_weigh_13 hl (Nat.le_of_ble_eq_true rfl) rfl (fun ls hl => ?_)
  refine lv_aload_n hx hb dX3_weigh_15 rfl (lv_at hl 1 rfl) ?_
  refine va_get (D := D) (ci := 3) (v := .ref prb) (C := RX3) (T := TX3) (N := 3) hx hb hts iX3 hown hK hP 0 rfl rfl 1 (Nat.le_of_ble_eq_true rfl) (hts _ wd_28) (fun _ h9 => h9) rfl dX3_weigh_16 ?_
  refine lv_iload_n hx hb dX3_weigh_19 rfl (lv_at hl 2 rfl) ?_
  refine lv_iconst (v := 1) hx hb dX3_weigh_20 rfl ?_
  refine lv_iload_n hx hb dX3_weigh_21 rfl (lv_at hl 4 rfl) ?_
  refine lv_ishl hx hb dX3_weigh_22 ?_
  refine lv_ior hx hb dX3_weigh_23 ?_
  refine cNi (wr := [(pr, .inr (3, [.ref pra, .ref prb, .ref prc])), (prc, .inl (cI, 64, .inl fpc)), (pra, .inl (cI, 36, .inl fpa))]) (rest := []) (k_at prb 64 fpb (g_ ||| (1 <<< (c_ &&& 31))) (of_decide_eq_true rfl)) okS_X9_at 13 rfl hx hb hml hown hts hK hP hD hS hA hN hl.1 [1] [0, 2, 3] rfl rfl rfl rfl (by decide) rfl (Nat.le_of_ble_eq_true rfl) (Nat.le_of_ble_eq_true rfl) (Nat.le_of_ble_eq_true rfl) (Nat.le_of_ble_eq_true rfl) (Nat.le_of_ble_eq_true rfl) dX3_weigh_24 (fun r_4 u_3 H locs hw_u_3 hP hD hS => ?_)
  obtain rfl := hw_u_3
  have hP : va_P D classes [(pr, .inr (3, [.ref pra, .ref prb, .ref prc])), (prc, .inl (cI, 64, .inl fpc)), (pra, .inl (cI, 36, .inl fpa)), (prb, .inl (cI, 64, .inl fpb))] H := hP
  have hD : va_D A [(pr, .inr (3, [.ref pra, .ref prb, .ref prc])), (prc, .inl (cI, 64, .inl fpc)), (pra, .inl (cI, 36, .inl fpa)), (prb, .inl (cI, 64, .inl fpb))] := hD
  refine lv_istore (lv' := [(5, .int (atF 64 fpb (g_ ||| (1 <<< (c_ &&& 31))))), (4, .int (atF 36 fpa ((b_ * 6) + c_))), (0, .ref pr), (1, .int g_), (2, .int b_), (3, .int c_)]) hx hb dX3_weigh_27 hl (Nat.le_of_ble_eq_true rfl) rfl (fun ls hl => ?_)
  refine lv_iload_n hx hb dX3_weigh_29 rfl (lv_at hl 3 rfl) ?_
  refine lv_iload_n hx hb dX3_weigh_30 rfl (lv_at hl 5 rfl) ?_
  refine lv_ishr hx hb dX3_weigh_31 ?_
  refine lv_iconst (v := 1) hx hb dX3_weigh_32 rfl ?_
  refine lv_iand hx hb dX3_weigh_33 ?_
  refine lv_if_ne (tgt := 49) hx hb dX3_weigh_34 rfl (fun c_5 => ?_) (fun c_5 => ?_)
  · rw [if_neg c_5] at hE
    exact hret (fpb, fpc) _ _ _ _ dX3_weigh_49 hE (cutP (isC := [0, 2, 3, 1]) hP rfl) (cutD (isC := [0, 2, 3, 1]) hD rfl rfl) hS
  · rw [if_pos c_5] at hE
    refine lv_iload hx hb dX3_weigh_37 (lv_at hl 1 rfl) ?_
    refine lv_iconst (v := (-1)) hx hb dX3_weigh_39 rfl ?_
    refine lv_icmp_eq (tgt := 49) hx hb dX3_weigh_40 rfl (fun c_6 => ?_) (fun c_6 => ?_)
    · rw [if_pos c_6] at hE
      exact hret (fpb, fpc) _ _ _ _ dX3_weigh_49 hE (cutP (isC := [0, 2, 3, 1]) hP rfl) (cutD (isC := [0, 2, 3, 1]) hD rfl rfl) hS
    · rw [if_neg c_6] at hE
      refine lv_iload hx hb dX3_weigh_43 (lv_at hl 0 rfl) ?_
      refine lv_iconst (v := (-1)) hx hb dX3_weigh_45 rfl ?_
      refine lv_icmp_ne (tgt := 50) hx hb dX3_weigh_46 rfl (fun c_7 => ?_) (fun c_7 => ?_)
      · rw [if_neg c_7] at hE
        refine lv_aload_n hx hb dX3_weigh_50 rfl (lv_at hl 2 rfl) ?_
        refine va_get (D := D) (ci := 3) (v := .ref prb) (C := RX3) (T := TX3) (N := 3) hx hb hts iX3 hown hK hP 0 rfl rfl 1 (Nat.le_of_ble_eq_true rfl) (hts _ wd_28) (fun _ h9 => h9) rfl dX3_weigh_51 ?_
        refine lv_iload_n hx hb dX3_weigh_54 rfl (lv_at hl 3 rfl) ?_
        refine cNi (wr := [(pr, .inr (3, [.ref pra, .ref prb, .ref prc])), (prc, .inl (cI, 64, .inl fpc)), (pra, .inl (cI, 36, .inl fpa))]) (rest := []) (k_at prb 64 fpb g_ (of_decide_eq_true rfl)) okS_X9_at 13 rfl hx hb hml hown hts hK hP hD hS hA hN hl.1 [3] [0, 1, 2] rfl rfl rfl rfl (by decide) rfl (Nat.le_of_ble_eq_true rfl) (Nat.le_of_ble_eq_true rfl) (Nat.le_of_ble_eq_true rfl) (Nat.le_of_ble_eq_true rfl) (Nat.le_of_ble_eq_true rfl) dX3_weigh_55 (fun r_9 u_8 H locs hw_u_8 hP hD hS => ?_)
        obtain rfl := hw_u_8
        have hP : va_P D classes [(pr, .inr (3, [.ref pra, .ref prb, .ref prc])), (prc, .inl (cI, 64, .inl fpc)), (pra, .inl (cI, 36, .inl fpa)), (prb, .inl (cI, 64, .inl fpb))] H := hP
        have hD : va_D A [(pr, .inr (3, [.ref pra, .ref prb, .ref prc])), (prc, .inl (cI, 64, .inl fpc)), (pra, .inl (cI, 36, .inl fpa)), (prb, .inl (cI, 64, .inl fpb))] := hD
        refine lv_istore (lv' := [(6, .int (atF 64 fpb g_)), (5, .int (atF 64 fpb (g_ ||| (1 <<< (c_ &&& 31))))), (4, .int (atF 36 fpa ((b_ * 6) + c_))), (0, .ref pr), (1, .int g_), (2, .int b_), (3, .int c_)]) hx hb dX3_weigh_58 hl (Nat.le_of_ble_eq_true rfl) rfl (fun ls hl => ?_)
        refine lv_iload hx hb dX3_weigh_60 (lv_at hl 0 rfl) ?_
        refine lv_iconst (v := (-1)) hx hb dX3_weigh_62 rfl ?_
        refine lv_icmp_eq (tgt := 76) hx hb dX3_weigh_63 rfl (fun c_10 => ?_) (fun c_10 => ?_)
        · rw [if_pos c_10] at hE
          refine lv_aload_n hx hb dX3_weigh_76 rfl (lv_at hl 3 rfl) ?_
          refine va_get (D := D) (ci := 3) (v := .ref prb) (C := RX3) (T := TX3) (N := 3) hx hb hts iX3 hown hK hP 0 rfl rfl 1 (Nat.le_of_ble_eq_true rfl) (hts _ wd_28) (fun _ h9 => h9) rfl dX3_weigh_77 ?_
          refine lv_iload_n hx hb dX3_weigh_80 rfl (lv_at hl 4 rfl) ?_
          refine lv_iload hx hb dX3_weigh_81 (lv_at hl 2 rfl) ?_
          refine lv_iload hx hb dX3_weigh_83 (lv_at hl 1 rfl) ?_
          refine lv_iadd hx hb dX3_weigh_85 ?_
          refine cNv (wr := [(pr, .inr (3, [.ref pra, .ref prb, .ref prc])), (prc, .inl (cI, 64, .inl fpc)), (pra, .inl (cI, 36, .inl fpa))]) (rest := []) (k_put prb 64 fpb g_ ((atF 36 fpa ((b_ * 6) + c_)) + (atF 64 fpb (g_ ||| (1 <<< (c_ &&& 31))))) (of_decide_eq_true rfl)) okS_X9_put 12 rfl hx hb hml hown hts hK hP hD hS hA hN hl.1 [3] [0, 1, 2] rfl rfl rfl rfl (by decide) rfl (Nat.le_of_ble_eq_true rfl) (Nat.le_of_ble_eq_true rfl) (Nat.le_of_ble_eq_true rfl) (Nat.le_of_ble_eq_true rfl) (Nat.le_of_ble_eq_true rfl) dX3_weigh_86 (fun u_11 H locs hw_u_11 hP hD hS => ?_)
          have hP : va_P D classes [(pr, .inr (3, [.ref pra, .ref prb, .ref prc])), (prc, .inl (cI, 64, .inl fpc)), (pra, .inl (cI, 36, .inl fpa)), (prb, .inl (cI, 64, .inl (putF 64 fpb g_ ((atF 36 fpa ((b_ * 6) + c_)) + (atF 64 fpb (g_ ||| (1 <<< (c_ &&& 31))))))))] H := hP
          have hD : va_D A [(pr, .inr (3, [.ref pra, .ref prb, .ref prc])), (prc, .inl (cI, 64, .inl fpc)), (pra, .inl (cI, 36, .inl fpa)), (prb, .inl (cI, 64, .inl (putF 64 fpb g_ ((atF 36 fpa ((b_ * 6) + c_)) + (atF 64 fpb (g_ ||| (1 <<< (c_ &&& 31))))))))] := hD
          refine lv_aload_n hx hb dX3_weigh_89 rfl (lv_at hl 3 rfl) ?_
          refine va_get (D := D) (ci := 3) (v := .ref prc) (C := RX3) (T := TX3) (N := 3) hx hb hts iX3 hown hK hP 0 rfl rfl 2 (Nat.le_of_ble_eq_true rfl) (hts _ wd_29) (fun _ h9 => h9) rfl dX3_weigh_90 ?_
          refine lv_iload_n hx hb dX3_weigh_93 rfl (lv_at hl 4 rfl) ?_
          refine lv_iload_n hx hb dX3_weigh_94 rfl (lv_at hl 6 rfl) ?_
          refine cNv (wr := [(pr, .inr (3, [.ref pra, .ref prb, .ref prc])), (pra, .inl (cI, 36, .inl fpa)), (prb, .inl (cI, 64, .inl (putF 64 fpb g_ ((atF 36 fpa ((b_ * 6) + c_)) + (atF 64 fpb (g_ ||| (1 <<< (c_ &&& 31))))))))]) (rest := []) (k_put prc 64 fpc g_ c_ (of_decide_eq_true rfl)) okS_X9_put 12 rfl hx hb hml hown hts hK hP hD hS hA hN hl.1 [1] [0, 2, 3] rfl rfl rfl rfl (by decide) rfl (Nat.le_of_ble_eq_true rfl) (Nat.le_of_ble_eq_true rfl) (Nat.le_of_ble_eq_true rfl) (Nat.le_of_ble_eq_true rfl) (Nat.le_of_ble_eq_true rfl) dX3_weigh_95 (fun u_13 H locs hw_u_13 hP hD hS => ?_)
          have hP : va_P D classes [(pr, .inr (3, [.ref pra, .ref prb, .ref prc])), (pra, .inl (cI, 36, .inl fpa)), (prb, .inl (cI, 64, .inl (putF 64 fpb g_ ((atF 36 fpa ((b_ * 6) + c_)) + (atF 64 fpb (g_ ||| (1 <<< (c_ &&& 31)))))))), (prc, .inl (cI, 64, .inl (putF 64 fpc g_ c_)))] H := hP
          have hD : va_D A [(pr, .inr (3, [.ref pra, .ref prb, .ref prc])), (pra, .inl (cI, 36, .inl fpa)), (prb, .inl (cI, 64, .inl (putF 64 fpb g_ ((atF 36 fpa ((b_ * 6) + c_)) + (atF 64 fpb (g_ ||| (1 <<< (c_ &&& 31)))))))), (prc, .inl (cI, 64, .inl (putF 64 fpc g_ c_)))] := hD
          exact hret ((putF 64 fpb g_ ((atF 36 fpa ((b_ * 6) + c_)) + (atF 64 fpb (g_ ||| (1 <<< (c_ &&& 31)))))), (putF 64 fpc g_ c_)) _ _ _ _ dX3_weigh_98 hE hP hD hS
        · rw [if_neg c_10] at hE
          refine lv_iload hx hb dX3_weigh_66 (lv_at hl 2 rfl) ?_
          refine lv_iload hx hb dX3_weigh_68 (lv_at hl 1 rfl) ?_
          refine lv_iadd hx hb dX3_weigh_70 ?_
          refine lv_iload hx hb dX3_weigh_71 (lv_at hl 0 rfl) ?_
          refine lv_icmp_ge (tgt := 98) hx hb dX3_weigh_73 rfl (fun c_15 => ?_) (fun c_15 => ?_)
          · rw [if_pos c_15] at hE
            exact hret (fpb, fpc) _ _ _ _ dX3_weigh_98 hE (cutP (isC := [0, 2, 3, 1]) hP rfl) (cutD (isC := [0, 2, 3, 1]) hD rfl rfl) hS
          · rw [if_neg c_15] at hE
            refine lv_aload_n hx hb dX3_weigh_76 rfl (lv_at hl 3 rfl) ?_
            refine va_get (D := D) (ci := 3) (v := .ref prb) (C := RX3) (T := TX3) (N := 3) hx hb hts iX3 hown hK hP 0 rfl rfl 1 (Nat.le_of_ble_eq_true rfl) (hts _ wd_28) (fun _ h9 => h9) rfl dX3_weigh_77 ?_
            refine lv_iload_n hx hb dX3_weigh_80 rfl (lv_at hl 4 rfl) ?_
            refine lv_iload hx hb dX3_weigh_81 (lv_at hl 2 rfl) ?_
            refine lv_iload hx hb dX3_weigh_83 (lv_at hl 1 rfl) ?_
            refine lv_iadd hx hb dX3_weigh_85 ?_
            refine cNv (wr := [(pr, .inr (3, [.ref pra, .ref prb, .ref prc])), (prc, .inl (cI, 64, .inl fpc)), (pra, .inl (cI, 36, .inl fpa))]) (rest := []) (k_put prb 64 fpb g_ ((atF 36 fpa ((b_ * 6) + c_)) + (atF 64 fpb (g_ ||| (1 <<< (c_ &&& 31))))) (of_decide_eq_true rfl)) okS_X9_put 12 rfl hx hb hml hown hts hK hP hD hS hA hN hl.1 [3] [0, 1, 2] rfl rfl rfl rfl (by decide) rfl (Nat.le_of_ble_eq_true rfl) (Nat.le_of_ble_eq_true rfl) (Nat.le_of_ble_eq_true rfl) (Nat.le_of_ble_eq_true rfl) (Nat.le_of_ble_eq_true rfl) dX3_weigh_86 (fun u_16 H locs hw_u_16 hP hD hS => ?_)
            have hP : va_P D classes [(pr, .inr (3, [.ref pra, .ref prb, .ref prc])), (prc, .inl (cI, 64, .inl fpc)), (pra, .inl (cI, 36, .inl fpa)), (prb, .inl (cI, 64, .inl (putF 64 fpb g_ ((atF 36 fpa ((b_ * 6) + c_)) + (atF 64 fpb (g_ ||| (1 <<< (c_ &&& 31))))))))] H := hP
            have hD : va_D A [(pr, .inr (3, [.ref pra, .ref prb, .ref prc])), (prc, .inl (cI, 64, .inl fpc)), (pra, .inl (cI, 36, .inl fpa)), (prb, .inl (cI, 64, .inl (putF 64 fpb g_ ((atF 36 fpa ((b_ * 6) + c_)) + (atF 64 fpb (g_ ||| (1 <<< (c_ &&& 31))))))))] := hD
            refine lv_aload_n hx hb dX3_weigh_89 rfl (lv_at hl 3 rfl) ?_
            refine va_get (D := D) (ci := 3) (v := .ref prc) (C := RX3) (T := TX3) (N := 3) hx hb hts iX3 hown hK hP 0 rfl rfl 2 (Nat.le_of_ble_eq_true rfl) (hts _ wd_29) (fun _ h9 => h9) rfl dX3_weigh_90 ?_
            refine lv_iload_n hx hb dX3_weigh_93 rfl (lv_at hl 4 rfl) ?_
            refine lv_iload_n hx hb dX3_weigh_94 rfl (lv_at hl 6 rfl) ?_
            refine cNv (wr := [(pr, .inr (3, [.ref pra, .ref prb, .ref prc])), (pra, .inl (cI, 36, .inl fpa)), (prb, .inl (cI, 64, .inl (putF 64 fpb g_ ((atF 36 fpa ((b_ * 6) + c_)) + (atF 64 fpb (g_ ||| (1 <<< (c_ &&& 31))))))))]) (rest := []) (k_put prc 64 fpc g_ c_ (of_decide_eq_true rfl)) okS_X9_put 12 rfl hx hb hml hown hts hK hP hD hS hA hN hl.1 [1] [0, 2, 3] rfl rfl rfl rfl (by decide) rfl (Nat.le_of_ble_eq_true rfl) (Nat.le_of_ble_eq_true rfl) (Nat.le_of_ble_eq_true rfl) (Nat.le_of_ble_eq_true rfl) (Nat.le_of_ble_eq_true rfl) dX3_weigh_95 (fun u_18 H locs hw_u_18 hP hD hS => ?_)
            have hP : va_P D classes [(pr, .inr (3, [.ref pra, .ref prb, .ref prc])), (pra, .inl (cI, 36, .inl fpa)), (prb, .inl (cI, 64, .inl (putF 64 fpb g_ ((atF 36 fpa ((b_ * 6) + c_)) + (atF 64 fpb (g_ ||| (1 <<< (c_ &&& 31)))))))), (prc, .inl (cI, 64, .inl (putF 64 fpc g_ c_)))] H := hP
            have hD : va_D A [(pr, .inr (3, [.ref pra, .ref prb, .ref prc])), (pra, .inl (cI, 36, .inl fpa)), (prb, .inl (cI, 64, .inl (putF 64 fpb g_ ((atF 36 fpa ((b_ * 6) + c_)) + (atF 64 fpb (g_ ||| (1 <<< (c_ &&& 31)))))))), (prc, .inl (cI, 64, .inl (putF 64 fpc g_ c_)))] := hD
            exact hret ((putF 64 fpb g_ ((atF 36 fpa ((b_ * 6) + c_)) + (atF 64 fpb (g_ ||| (1 <<< (c_ &&& 31)))))), (putF 64 fpc g_ c_)) _ _ _ _ dX3_weigh_98 hE hP hD hS
      · rw [if_pos c_7] at hE
        exact hret (fpb, fpc) _ _ _ _ dX3_weigh_49 hE (cutP (isC := [0, 2, 3, 1]) hP rfl) (cutD (isC := [0, 2, 3, 1]) hD rfl rfl) hS
noncomputable def f_e_solve_x3_47 (fpa : Nat → Int32) (fpb : Nat → Int32) (fpc : Nat → Int32) (l_ : Int32) (n_ : Int32) (w_1l3 : Int32) (n : Nat) : Int32 → (Nat → Int32) → (Nat → Int32) → Int32 × (Nat → Int32) × (Nat → Int32) := Nat.rec (motive := fun _ => Int32 → (Nat → Int32) → (Nat → Int32) → Int32 × (Nat → Int32) × (Nat → Int32)) (fun w_10l5 w_10m0 w_10m1 => (w_10l5, w_10m0, w_10m1)) (fun n ih w_10l5 w_10m0 w_10m1 => (if l_ < (f_e_bitCount_0f7a4_j6 w_1l3) then (w_10l5, w_10m0, w_10m1) else (if n_ ≤ w_10l5 then (w_10l5, w_10m0, w_10m1) else (match (f_e_weigh_x3 fpa w_10m0 w_10m1 w_1l3 (f_e_bitCount_0f7a4_j6 w_1l3) w_10l5) with | (o_15, o_16) => (ih (w_10l5 + 1) o_15 o_16))))) n
theorem f_e_solve_x3_47_s (fpa : Nat → Int32) (fpb : Nat → Int32) (fpc : Nat → Int32) (l_ : Int32) (n_ : Int32) (w_1l3 : Int32) (n : Nat) (w_10l5 : Int32) (w_10m0 : (Nat → Int32)) (w_10m1 : (Nat → Int32)) : f_e_solve_x3_47 fpa fpb fpc l_ n_ w_1l3 (n + 1) w_10l5 w_10m0 w_10m1 = (if l_ < (f_e_bitCount_0f7a4_j6 w_1l3) then (w_10l5, w_10m0, w_10m1) else (if n_ ≤ w_10l5 then (w_10l5, w_10m0, w_10m1) else (match (f_e_weigh_x3 fpa w_10m0 w_10m1 w_1l3 (f_e_bitCount_0f7a4_j6 w_1l3) w_10l5) with | (o_15, o_16) => (f_e_solve_x3_47 fpa fpb fpc l_ n_ w_1l3 n (w_10l5 + 1) o_15 o_16)))) := rfl
noncomputable def f_e_solve_x3_6 (fpa : Nat → Int32) (fpb : Nat → Int32) (fpc : Nat → Int32) (l_ : Int32) (n_ : Int32) (n : Nat) : Int32 → (Nat → Int32) → (Nat → Int32) → Int32 × (Nat → Int32) × (Nat → Int32) := Nat.rec (motive := fun _ => Int32 → (Nat → Int32) → (Nat → Int32) → Int32 × (Nat → Int32) × (Nat → Int32)) (fun w_1l3 w_1m0 w_1m1 => (w_1l3, w_1m0, w_1m1)) (fun n ih w_1l3 w_1m0 w_1m1 => (if w_1l3 < 0 then (w_1l3, w_1m0, w_1m1) else (if (f_e_bitCount_0f7a4_j6 w_1l3) ≤ l_ then (match (f_e_solve_x3_47 fpa fpb fpc l_ n_ w_1l3 (((n_ : Int32).toInt - (0 : Int32).toInt).toNat + 1) 0 (putF 64 w_1m0 w_1l3 (-1)) (putF 64 w_1m1 w_1l3 (-1))) with | (w_10l5, w_10m0, w_10m1) => (ih (w_1l3 + (-1)) w_10m0 w_10m1)) else (match (f_e_solve_x3_47 fpa fpb fpc l_ n_ w_1l3 (((n_ : Int32).toInt - (0 : Int32).toInt).toNat + 1) 0 (putF 64 w_1m0 w_1l3 0) (putF 64 w_1m1 w_1l3 (-1))) with | (w_19l5, w_19m0, w_19m1) => (ih (w_1l3 + (-1)) w_19m0 w_19m1))))) n
theorem f_e_solve_x3_6_s (fpa : Nat → Int32) (fpb : Nat → Int32) (fpc : Nat → Int32) (l_ : Int32) (n_ : Int32) (n : Nat) (w_1l3 : Int32) (w_1m0 : (Nat → Int32)) (w_1m1 : (Nat → Int32)) : f_e_solve_x3_6 fpa fpb fpc l_ n_ (n + 1) w_1l3 w_1m0 w_1m1 = (if w_1l3 < 0 then (w_1l3, w_1m0, w_1m1) else (if (f_e_bitCount_0f7a4_j6 w_1l3) ≤ l_ then (match (f_e_solve_x3_47 fpa fpb fpc l_ n_ w_1l3 (((n_ : Int32).toInt - (0 : Int32).toInt).toNat + 1) 0 (putF 64 w_1m0 w_1l3 (-1)) (putF 64 w_1m1 w_1l3 (-1))) with | (w_10l5, w_10m0, w_10m1) => (f_e_solve_x3_6 fpa fpb fpc l_ n_ n (w_1l3 + (-1)) w_10m0 w_10m1)) else (match (f_e_solve_x3_47 fpa fpb fpc l_ n_ w_1l3 (((n_ : Int32).toInt - (0 : Int32).toInt).toNat + 1) 0 (putF 64 w_1m0 w_1l3 0) (putF 64 w_1m1 w_1l3 (-1))) with | (w_19l5, w_19m0, w_19m1) => (f_e_solve_x3_6 fpa fpb fpc l_ n_ n (w_1l3 + (-1)) w_19m0 w_19m1)))) := rfl
noncomputable def f_e_solve_x3 (fpa : Nat → Int32) (fpb : Nat → Int32) (fpc : Nat → Int32) (l_ : Int32) (n_ : Int32) : (Nat → Int32) × (Nat → Int32) := (match (f_e_solve_x3_6 fpa fpb fpc l_ n_ (((((1 <<< (n_ &&& 31)) - 1) : Int32).toInt + 1).toNat + 1) ((1 <<< (n_ &&& 31)) - 1) fpb fpc) with | (w_1l3, w_1m0, w_1m1) => (w_1m0, w_1m1))
def rm_e_solve_x3 : Room := { frames := 2, cells := 0, slots := 0, locals := 48 }
set_option maxHeartbeats 4000000 in
set_option maxRecDepth 100000 in
theorem e_solve_x3 {l : Launch} {D : va_G} {cI cZ : ClassId} {sz : Nat} (pr pra prb prc : Nat) (fpa : Nat → Int32) (fpb : Nat → Int32) (fpc : Nat → Int32) (l_ : Int32) (n_ : Int32) : KV l yX3_solve cX3_solve 6 rm_e_solve_x3 D cI cZ [.ref pr, .int l_, .int n_] sz [(pr, .inr (3, [.ref pra, .ref prb, .ref prc])), (pra, .inl (cI, 36, .inl fpa)), (prb, .inl (cI, 64, .inl fpb)), (prc, .inl (cI, 64, .inl fpc))] (fun (u : (Nat → Int32) × (Nat → Int32)) => u = f_e_solve_x3 fpa fpb fpc l_ n_) (fun (u : (Nat → Int32) × (Nat → Int32)) => [(pr, .inr (3, [.ref pra, .ref prb, .ref prc])), (pra, .inl (cI, 36, .inl fpa)), (prb, .inl (cI, 64, .inl u.1)), (prc, .inl (cI, 64, .inl u.2))]) := by
  refine KV.go rfl (Nat.le_of_ble_eq_true rfl) ?_
  intro p e s m args below meth c ls A Q hx hb hml hts hown hin hP hK hD hS hA hN hl hret
  have hl : lv_has ls 6 [(0, .ref pr), (1, .int l_), (2, .int n_)] := hl
  obtain ⟨RES, hE⟩ : ∃ xRES, f_e_solve_x3 fpa fpb fpc l_ n_ = xRES := ⟨_, rfl⟩
  rw [hE] at hret
  rw [f_e_solve_x3] at hE
  refine lv_iconst (v := 1) hx hb dX3_solve_0 rfl ?_
  refine lv_iload_n hx hb dX3_solve_1 rfl (lv_at hl 2 rfl) ?_
  refine lv_ishl hx hb dX3_solve_2 ?_
  refine lv_iconst (v := 1) hx hb dX3_solve_3 rfl ?_
  refine lv_isub hx hb dX3_solve_4 ?_
  refine lv_istore_n (lv' := [(3, .int ((1 <<< (n_ &&& 31)) - 1)), (0, .ref pr), (1, .int l_), (2, .int n_)]) hx hb dX3_solve_5 rfl hl (Nat.le_of_ble_eq_true rfl) rfl (fun ls hl => ?_)
  have ex_6_w_1 : ∀ (w_1l3 : Int32) (w_1m0 : (Nat → Int32)) (w_1m1 : (Nat → Int32)) (H : Heap) (locs : List Loc) (ls : Array Slot), va_P D classes [(pr, .inr (3, [.ref pra, .ref prb, .ref prc])), (pra, .inl (cI, 36, .inl fpa)), (prb, .inl (cI, 64, .inl w_1m0)), (prc, .inl (cI, 64, .inl w_1m1))] H → va_D A [(pr, .inr (3, [.ref pra, .ref prb, .ref prc])), (pra, .inl (cI, 36, .inl fpa)), (prb, .inl (cI, 64, .inl w_1m0)), (prc, .inl (cI, 64, .inl w_1m1))] → va_S A s.heap H locs → lv_has ls 6 [(3, .int w_1l3), (0, .ref pr), (1, .int l_), (2, .int n_)] → ((w_1m0, w_1m1)) = RES → W p l e rm_e_solve_x3 s m args below meth c H locs 0 0 Q (F0 m 80 ls []) := by
    intro w_1l3 w_1m0 w_1m1 H locs ls hP hD hS hl hE
    exact hret (w_1m0, w_1m1) _ _ _ _ dX3_solve_80 hE hP hD hS
  have lp_6_w_1 : ∀ (n_w_1 : Nat) (w_1l3 : Int32) (w_1m0 : (Nat → Int32)) (w_1m1 : (Nat → Int32)) (H : Heap) (locs : List Loc) (ls : Array Slot), va_P D classes [(pr, .inr (3, [.ref pra, .ref prb, .ref prc])), (pra, .inl (cI, 36, .inl fpa)), (prb, .inl (cI, 64, .inl w_1m0)), (prc, .inl (cI, 64, .inl w_1m1))] H → va_D A [(pr, .inr (3, [.ref pra, .ref prb, .ref prc])), (pra, .inl (cI, 36, .inl fpa)), (prb, .inl (cI, 64, .inl w_1m0)), (prc, .inl (cI, 64, .inl w_1m1))] → va_S A s.heap H locs → lv_has ls 6 [(3, .int w_1l3), (0, .ref pr), (1, .int l_), (2, .int n_)] → ((w_1l3 : Int32).toInt + 1).toNat < n_w_1 → (match (f_e_solve_x3_6 fpa fpb fpc l_ n_ n_w_1 w_1l3 w_1m0 w_1m1) with | (w_1l3, w_1m0, w_1m1) => (w_1m0, w_1m1)) = RES → W p l e rm_e_solve_x3 s m args below meth c H locs 0 0 Q (F0 m 6 ls []) := by
    intro n_w_1
    induction n_w_1 with
    | zero => intro w_1l3 w_1m0 w_1m1 H locs ls hP hD hS hl hm; exact absurd hm (Nat.not_lt_zero _)
    | succ n_w_1 ih_w_1 =>
      intro w_1l3 w_1m0 w_1m1 H locs ls hP hD hS hl hm hE
      rw [f_e_solve_x3_6_s] at hE
      refine lv_iload_n hx hb dX3_solve_6 rfl (lv_at hl 0 rfl) ?_
      refine lv_if_lt (tgt := 80) hx hb dX3_solve_7 rfl (fun c_2 => ?_) (fun c_2 => ?_)
      · rw [if_pos c_2] at hE
        exact ex_6_w_1 w_1l3 w_1m0 w_1m1 _ _ ls hP hD hS (lv_sub hl [0, 1, 2, 3] rfl) hE
      · rw [if_neg c_2] at hE
        refine lv_iload_n hx hb dX3_solve_10 rfl (lv_at hl 0 rfl) ?_
        refine cSi (wr := [(pr, .inr (3, [.ref pra, .ref prb, .ref prc])), (pra, .inl (cI, 36, .inl fpa)), (prb, .inl (cI, 64, .inl w_1m0)), (prc, .inl (cI, 64, .inl w_1m1))]) (rest := []) (e_bitCount_0f7a4_j6 w_1l3) okS_J6_bitCount_0f7a4 wd_331 hx hb hml hown hts hK hP hD hS hA hN hl.1 [] [0, 1, 2, 3] rfl rfl rfl rfl (of_decide_eq_true rfl) rfl (Nat.le_of_ble_eq_true rfl) (Nat.le_of_ble_eq_true rfl) (Nat.le_of_ble_eq_true rfl) (Nat.le_of_ble_eq_true rfl) (Nat.le_of_ble_eq_true rfl) dX3_solve_11 (fun r_4 u_3 H locs hw_u_3 hP hD hS => ?_)
        replace hw_u_3 : r_4 = (f_e_bitCount_0f7a4_j6 w_1l3) := hw_u_3
        rw [hw_u_3]
        clear hw_u_3
        have hP : va_P D classes [(pr, .inr (3, [.ref pra, .ref prb, .ref prc])), (pra, .inl (cI, 36, .inl fpa)), (prb, .inl (cI, 64, .inl w_1m0)), (prc, .inl (cI, 64, .inl w_1m1))] H := hP
        have hD : va_D A [(pr, .inr (3, [.ref pra, .ref prb, .ref prc])), (pra, .inl (cI, 36, .inl fpa)), (prb, .inl (cI, 64, .inl w_1m0)), (prc, .inl (cI, 64, .inl w_1m1))] := hD
        refine lv_istore (lv' := [(4, .int (f_e_bitCount_0f7a4_j6 w_1l3)), (3, .int w_1l3), (0, .ref pr), (1, .int l_), (2, .int n_)]) hx hb dX3_solve_14 hl (Nat.le_of_ble_eq_true rfl) rfl (fun ls hl => ?_)
        refine lv_aload_n hx hb dX3_solve_16 rfl (lv_at hl 2 rfl) ?_
        refine va_get (D := D) (ci := 3) (v := .ref prc) (C := RX3) (T := TX3) (N := 3) hx hb hts iX3 hown hK hP 0 rfl rfl 2 (Nat.le_of_ble_eq_true rfl) (hts _ wd_29) (fun _ h9 => h9) rfl dX3_solve_17 ?_
        refine lv_iload_n hx hb dX3_solve_20 rfl (lv_at hl 1 rfl) ?_
        refine lv_iconst (v := (-1)) hx hb dX3_solve_21 rfl ?_
        refine cNv (wr := [(pr, .inr (3, [.ref pra, .ref prb, .ref prc])), (pra, .inl (cI, 36, .inl fpa)), (prb, .inl (cI, 64, .inl w_1m0))]) (rest := []) (k_put prc 64 w_1m1 w_1l3 (-1) (of_decide_eq_true rfl)) okS_X9_put 12 rfl hx hb hml hown hts hK hP hD hS hA hN hl.1 [3] [0, 1, 2] rfl rfl rfl rfl (by decide) rfl (Nat.le_of_ble_eq_true rfl) (Nat.le_of_ble_eq_true rfl) (Nat.le_of_ble_eq_true rfl) (Nat.le_of_ble_eq_true rfl) (Nat.le_of_ble_eq_true rfl) dX3_solve_22 (fun u_5 H locs hw_u_5 hP hD hS => ?_)
        have hP : va_P D classes [(pr, .inr (3, [.ref pra, .ref prb, .ref prc])), (pra, .inl (cI, 36, .inl fpa)), (prb, .inl (cI, 64, .inl w_1m0)), (prc, .inl (cI, 64, .inl (putF 64 w_1m1 w_1l3 (-1))))] H := hP
        have hD : va_D A [(pr, .inr (3, [.ref pra, .ref prb, .ref prc])), (pra, .inl (cI, 36, .inl fpa)), (prb, .inl (cI, 64, .inl w_1m0)), (prc, .inl (cI, 64, .inl (putF 64 w_1m1 w_1l3 (-1))))] := hD
        refine lv_aload_n hx hb dX3_solve_25 rfl (lv_at hl 2 rfl) ?_
        refine va_get (D := D) (ci := 3) (v := .ref prb) (C := RX3) (T := TX3) (N := 3) hx hb hts iX3 hown hK hP 0 rfl rfl 1 (Nat.le_of_ble_eq_true rfl) (hts _ wd_28) (fun _ h9 => h9) rfl dX3_solve_26 ?_
        refine lv_iload_n hx hb dX3_solve_29 rfl (lv_at hl 1 rfl) ?_
        refine lv_iload hx hb dX3_solve_30 (lv_at hl 0 rfl) ?_
        refine lv_iload_n hx hb dX3_solve_32 rfl (lv_at hl 3 rfl) ?_
        refine lv_icmp_le (tgt := 40) hx hb dX3_solve_33 rfl (fun c_7 => ?_) (fun c_7 => ?_)
        · rw [if_pos c_7] at hE
          refine lv_iconst (v := (-1)) hx hb dX3_solve_40 rfl ?_
          refine cNv (wr := [(pr, .inr (3, [.ref pra, .ref prb, .ref prc])), (pra, .inl (cI, 36, .inl fpa)), (prc, .inl (cI, 64, .inl (putF 64 w_1m1 w_1l3 (-1))))]) (rest := []) (k_put prb 64 w_1m0 w_1l3 (-1) (of_decide_eq_true rfl)) okS_X9_put 12 rfl hx hb hml hown hts hK hP hD hS hA hN hl.1 [2] [0, 1, 3] rfl rfl rfl rfl (by decide) rfl (Nat.le_of_ble_eq_true rfl) (Nat.le_of_ble_eq_true rfl) (Nat.le_of_ble_eq_true rfl) (Nat.le_of_ble_eq_true rfl) (Nat.le_of_ble_eq_true rfl) dX3_solve_41 (fun u_8 H locs hw_u_8 hP hD hS => ?_)
          have hP : va_P D classes [(pr, .inr (3, [.ref pra, .ref prb, .ref prc])), (pra, .inl (cI, 36, .inl fpa)), (prc, .inl (cI, 64, .inl (putF 64 w_1m1 w_1l3 (-1)))), (prb, .inl (cI, 64, .inl (putF 64 w_1m0 w_1l3 (-1))))] H := hP
          have hD : va_D A [(pr, .inr (3, [.ref pra, .ref prb, .ref prc])), (pra, .inl (cI, 36, .inl fpa)), (prc, .inl (cI, 64, .inl (putF 64 w_1m1 w_1l3 (-1)))), (prb, .inl (cI, 64, .inl (putF 64 w_1m0 w_1l3 (-1))))] := hD
          refine lv_iconst (v := 0) hx hb dX3_solve_44 rfl ?_
          refine lv_istore (lv' := [(5, .int 0), (4, .int (f_e_bitCount_0f7a4_j6 w_1l3)), (3, .int w_1l3), (0, .ref pr), (1, .int l_), (2, .int n_)]) hx hb dX3_solve_45 hl (Nat.le_of_ble_eq_true rfl) rfl (fun ls hl => ?_)
          have ex_47_w_10 : ∀ (w_10l5 : Int32) (w_10m0 : (Nat → Int32)) (w_10m1 : (Nat → Int32)) (H : Heap) (locs : List Loc) (ls : Array Slot), va_P D classes [(pr, .inr (3, [.ref pra, .ref prb, .ref prc])), (pra, .inl (cI, 36, .inl fpa)), (prc, .inl (cI, 64, .inl w_10m1)), (prb, .inl (cI, 64, .inl w_10m0))] H → va_D A [(pr, .inr (3, [.ref pra, .ref prb, .ref prc])), (pra, .inl (cI, 36, .inl fpa)), (prc, .inl (cI, 64, .inl w_10m1)), (prb, .inl (cI, 64, .inl w_10m0))] → va_S A s.heap H locs → lv_has ls 6 [(5, .int w_10l5), (4, .int (f_e_bitCount_0f7a4_j6 w_1l3)), (3, .int w_1l3), (0, .ref pr), (1, .int l_), (2, .int n_)] → ((match (f_e_solve_x3_6 fpa fpb fpc l_ n_ n_w_1 (w_1l3 + (-1)) w_10m0 w_10m1) with | (w_1l3, w_1m0, w_1m1) => (w_1m0, w_1m1))) = RES → W p l e rm_e_solve_x3 s m args below meth c H locs 0 0 Q (F0 m 74 ls []) := by
            intro w_10l5 w_10m0 w_10m1 H locs ls hP hD hS hl hE
            refine lv_iinc (v := (w_1l3 + (-1))) (lv' := [(3, .int (w_1l3 + (-1))), (5, .int w_10l5), (4, .int (f_e_bitCount_0f7a4_j6 w_1l3)), (0, .ref pr), (1, .int l_), (2, .int n_)]) hx hb dX3_solve_74 hl (k := 2) rfl rfl (Nat.le_of_ble_eq_true rfl) rfl (fun ls hl => ?_)
            refine lv_goto (tgt := 6) hx hb dX3_solve_77 rfl ?_
            exact ih_w_1 (w_1l3 + (-1)) w_10m0 w_10m1 _ _ ls (cutP (isC := [0, 1, 3, 2]) hP rfl) (cutD (isC := [0, 1, 3, 2]) hD rfl rfl) hS (lv_sub hl [0, 3, 4, 5] rfl) (dn_step c_2 hm) hE
          have lp_47_w_10 : ∀ (n_w_10 : Nat) (w_10l5 : Int32) (w_10m0 : (Nat → Int32)) (w_10m1 : (Nat → Int32)) (H : Heap) (locs : List Loc) (ls : Array Slot), va_P D classes [(pr, .inr (3, [.ref pra, .ref prb, .ref prc])), (pra, .inl (cI, 36, .inl fpa)), (prc, .inl (cI, 64, .inl w_10m1)), (prb, .inl (cI, 64, .inl w_10m0))] H → va_D A [(pr, .inr (3, [.ref pra, .ref prb, .ref prc])), (pra, .inl (cI, 36, .inl fpa)), (prc, .inl (cI, 64, .inl w_10m1)), (prb, .inl (cI, 64, .inl w_10m0))] → va_S A s.heap H locs → lv_has ls 6 [(5, .int w_10l5), (4, .int (f_e_bitCount_0f7a4_j6 w_1l3)), (3, .int w_1l3), (0, .ref pr), (1, .int l_), (2, .int n_)] → ((n_ : Int32).toInt - (w_10l5 : Int32).toInt).toNat < n_w_10 → (match (match (f_e_solve_x3_47 fpa fpb fpc l_ n_ w_1l3 n_w_10 w_10l5 w_10m0 w_10m1) with | (w_10l5, w_10m0, w_10m1) => (f_e_solve_x3_6 fpa fpb fpc l_ n_ n_w_1 (w_1l3 + (-1)) w_10m0 w_10m1)) with | (w_1l3, w_1m0, w_1m1) => (w_1m0, w_1m1)) = RES → W p l e rm_e_solve_x3 s m args below meth c H locs 0 0 Q (F0 m 47 ls []) := by
            intro n_w_10
            induction n_w_10 with
            | zero => intro w_10l5 w_10m0 w_10m1 H locs ls hP hD hS hl hm; exact absurd hm (Nat.not_lt_zero _)
            | succ n_w_10 ih_w_10 =>
              intro w_10l5 w_10m0 w_10m1 H locs ls hP hD hS hl hm hE
              rw [f_e_solve_x3_47_s] at hE
              refine lv_iload hx hb dX3_solve_47 (lv_at hl 1 rfl) ?_
              refine lv_iload_n hx hb dX3_solve_49 rfl (lv_at hl 4 rfl) ?_
              refine lv_icmp_gt (tgt := 74) hx hb dX3_solve_50 rfl (fun c_11 => ?_) (fun c_11 => ?_)
              · rw [if_pos c_11] at hE
                exact ex_47_w_10 w_10l5 w_10m0 w_10m1 _ _ ls hP hD hS (lv_sub hl [0, 1, 2, 3, 4, 5] rfl) hE
              · rw [if_neg c_11] at hE
                refine lv_iload hx hb dX3_solve_53 (lv_at hl 0 rfl) ?_
                refine lv_iload_n hx hb dX3_solve_55 rfl (lv_at hl 5 rfl) ?_
                refine lv_icmp_ge (tgt := 74) hx hb dX3_solve_56 rfl (fun c_12 => ?_) (fun c_12 => ?_)
                · rw [if_pos c_12] at hE
                  exact ex_47_w_10 w_10l5 w_10m0 w_10m1 _ _ ls hP hD hS (lv_sub hl [0, 1, 2, 3, 4, 5] rfl) hE
                · rw [if_neg c_12] at hE
                  refine lv_aload_n hx hb dX3_solve_59 rfl (lv_at hl 3 rfl) ?_
                  refine lv_iload_n hx hb dX3_solve_60 rfl (lv_at hl 2 rfl) ?_
                  refine lv_iload hx hb dX3_solve_61 (lv_at hl 1 rfl) ?_
                  refine lv_iload hx hb dX3_solve_63 (lv_at hl 0 rfl) ?_
                  refine cVv (wr := []) (rest := []) (e_weigh_x3 pr pra prb prc fpa w_10m0 w_10m1 w_1l3 (f_e_bitCount_0f7a4_j6 w_1l3) w_10l5) okV_X3_weigh wd_335 hx hb hml hown hts hK hP hD hS hA hN hl.1 [0, 1, 3, 2] [] rfl rfl rfl rfl (of_decide_eq_true rfl) rfl rfl rfl (Nat.le_of_ble_eq_true rfl) (Nat.le_of_ble_eq_true rfl) (Nat.le_of_ble_eq_true rfl) (Nat.le_of_ble_eq_true rfl) (Nat.le_of_ble_eq_true rfl) dX3_solve_65 (fun u_13 H locs hw_u_13 hP hD hS => ?_)
                  obtain ⟨o_15, o_16⟩ := u_13
                  replace hw_u_13 : (o_15, o_16) = (f_e_weigh_x3 fpa w_10m0 w_10m1 w_1l3 (f_e_bitCount_0f7a4_j6 w_1l3) w_10l5) := hw_u_13
                  rw [← hw_u_13] at hE
                  replace hE : (match (match (f_e_solve_x3_47 fpa fpb fpc l_ n_ w_1l3 n_w_10 (w_10l5 + 1) o_15 o_16) with | (w_10l5, w_10m0, w_10m1) => (f_e_solve_x3_6 fpa fpb fpc l_ n_ n_w_1 (w_1l3 + (-1)) w_10m0 w_10m1)) with | (w_1l3, w_1m0, w_1m1) => (w_1m0, w_1m1)) = RES := hE
                  have hP : va_P D classes [(pr, .inr (3, [.ref pra, .ref prb, .ref prc])), (pra, .inl (cI, 36, .inl fpa)), (prb, .inl (cI, 64, .inl o_15)), (prc, .inl (cI, 64, .inl o_16))] H := hP
                  have hD : va_D A [(pr, .inr (3, [.ref pra, .ref prb, .ref prc])), (pra, .inl (cI, 36, .inl fpa)), (prb, .inl (cI, 64, .inl o_15)), (prc, .inl (cI, 64, .inl o_16))] := hD
                  refine lv_iinc (v := (w_10l5 + 1)) (lv' := [(5, .int (w_10l5 + 1)), (4, .int (f_e_bitCount_0f7a4_j6 w_1l3)), (3, .int w_1l3), (0, .ref pr), (1, .int l_), (2, .int n_)]) hx hb dX3_solve_68 hl (k := 0) rfl rfl (Nat.le_of_ble_eq_true rfl) rfl (fun ls hl => ?_)
                  refine lv_goto (tgt := 47) hx hb dX3_solve_71 rfl ?_
                  exact ih_w_10 (w_10l5 + 1) o_15 o_16 _ _ ls (cutP (isC := [0, 1, 3, 2]) hP rfl) (cutD (isC := [0, 1, 3, 2]) hD rfl rfl) hS (lv_sub hl [0, 1, 2, 3, 4, 5] rfl) (up_step c_12 hm) hE
          exact lp_47_w_10 (((n_ : Int32).toInt - (0 : Int32).toInt).toNat + 1) 0 (putF 64 w_1m0 w_1l3 (-1)) (putF 64 w_1m1 w_1l3 (-1)) _ _ ls hP hD hS hl (Nat.lt_succ_self _) hE
        · rw [if_neg c_7] at hE
          refine lv_iconst (v := 0) hx hb dX3_solve_36 rfl ?_
          refine lv_goto (tgt := 41) hx hb dX3_solve_37 rfl ?_
          refine cNv (wr := [(pr, .inr (3, [.ref pra, .ref prb, .ref prc])), (pra, .inl (cI, 36, .inl fpa)), (prc, .inl (cI, 64, .inl (putF 64 w_1m1 w_1l3 (-1))))]) (rest := []) (k_put prb 64 w_1m0 w_1l3 0 (of_decide_eq_true rfl)) okS_X9_put 12 rfl hx hb hml hown hts hK hP hD hS hA hN hl.1 [2] [0, 1, 3] rfl rfl rfl rfl (by decide) rfl (Nat.le_of_ble_eq_true rfl) (Nat.le_of_ble_eq_true rfl) (Nat.le_of_ble_eq_true rfl) (Nat.le_of_ble_eq_true rfl) (Nat.le_of_ble_eq_true rfl) dX3_solve_41 (fun u_17 H locs hw_u_17 hP hD hS => ?_)
          have hP : va_P D classes [(pr, .inr (3, [.ref pra, .ref prb, .ref prc])), (pra, .inl (cI, 36, .inl fpa)), (prc, .inl (cI, 64, .inl (putF 64 w_1m1 w_1l3 (-1)))), (prb, .inl (cI, 64, .inl (putF 64 w_1m0 w_1l3 0)))] H := hP
          have hD : va_D A [(pr, .inr (3, [.ref pra, .ref prb, .ref prc])), (pra, .inl (cI, 36, .inl fpa)), (prc, .inl (cI, 64, .inl (putF 64 w_1m1 w_1l3 (-1)))), (prb, .inl (cI, 64, .inl (putF 64 w_1m0 w_1l3 0)))] := hD
          refine lv_iconst (v := 0) hx hb dX3_solve_44 rfl ?_
          refine lv_istore (lv' := [(5, .int 0), (4, .int (f_e_bitCount_0f7a4_j6 w_1l3)), (3, .int w_1l3), (0, .ref pr), (1, .int l_), (2, .int n_)]) hx hb dX3_solve_45 hl (Nat.le_of_ble_eq_true rfl) rfl (fun ls hl => ?_)
          have ex_47_w_19 : ∀ (w_19l5 : Int32) (w_19m0 : (Nat → Int32)) (w_19m1 : (Nat → Int32)) (H : Heap) (locs : List Loc) (ls : Array Slot), va_P D classes [(pr, .inr (3, [.ref pra, .ref prb, .ref prc])), (pra, .inl (cI, 36, .inl fpa)), (prc, .inl (cI, 64, .inl w_19m1)), (prb, .inl (cI, 64, .inl w_19m0))] H → va_D A [(pr, .inr (3, [.ref pra, .ref prb, .ref prc])), (pra, .inl (cI, 36, .inl fpa)), (prc, .inl (cI, 64, .inl w_19m1)), (prb, .inl (cI, 64, .inl w_19m0))] → va_S A s.heap H locs → lv_has ls 6 [(5, .int w_19l5), (4, .int (f_e_bitCount_0f7a4_j6 w_1l3)), (3, .int w_1l3), (0, .ref pr), (1, .int l_), (2, .int n_)] → ((match (f_e_solve_x3_6 fpa fpb fpc l_ n_ n_w_1 (w_1l3 + (-1)) w_19m0 w_19m1) with | (w_1l3, w_1m0, w_1m1) => (w_1m0, w_1m1))) = RES → W p l e rm_e_solve_x3 s m args below meth c H locs 0 0 Q (F0 m 74 ls []) := by
            intro w_19l5 w_19m0 w_19m1 H locs ls hP hD hS hl hE
            refine lv_iinc (v := (w_1l3 + (-1))) (lv' := [(3, .int (w_1l3 + (-1))), (5, .int w_19l5), (4, .int (f_e_bitCount_0f7a4_j6 w_1l3)), (0, .ref pr), (1, .int l_), (2, .int n_)]) hx hb dX3_solve_74 hl (k := 2) rfl rfl (Nat.le_of_ble_eq_true rfl) rfl (fun ls hl => ?_)
            refine lv_goto (tgt := 6) hx hb dX3_solve_77 rfl ?_
            exact ih_w_1 (w_1l3 + (-1)) w_19m0 w_19m1 _ _ ls (cutP (isC := [0, 1, 3, 2]) hP rfl) (cutD (isC := [0, 1, 3, 2]) hD rfl rfl) hS (lv_sub hl [0, 3, 4, 5] rfl) (dn_step c_2 hm) hE
          have lp_47_w_19 : ∀ (n_w_19 : Nat) (w_19l5 : Int32) (w_19m0 : (Nat → Int32)) (w_19m1 : (Nat → Int32)) (H : Heap) (locs : List Loc) (ls : Array Slot), va_P D classes [(pr, .inr (3, [.ref pra, .ref prb, .ref prc])), (pra, .inl (cI, 36, .inl fpa)), (prc, .inl (cI, 64, .inl w_19m1)), (prb, .inl (cI, 64, .inl w_19m0))] H → va_D A [(pr, .inr (3, [.ref pra, .ref prb, .ref prc])), (pra, .inl (cI, 36, .inl fpa)), (prc, .inl (cI, 64, .inl w_19m1)), (prb, .inl (cI, 64, .inl w_19m0))] → va_S A s.heap H locs → lv_has ls 6 [(5, .int w_19l5), (4, .int (f_e_bitCount_0f7a4_j6 w_1l3)), (3, .int w_1l3), (0, .ref pr), (1, .int l_), (2, .int n_)] → ((n_ : Int32).toInt - (w_19l5 : Int32).toInt).toNat < n_w_19 → (match (match (f_e_solve_x3_47 fpa fpb fpc l_ n_ w_1l3 n_w_19 w_19l5 w_19m0 w_19m1) with | (w_19l5, w_19m0, w_19m1) => (f_e_solve_x3_6 fpa fpb fpc l_ n_ n_w_1 (w_1l3 + (-1)) w_19m0 w_19m1)) with | (w_1l3, w_1m0, w_1m1) => (w_1m0, w_1m1)) = RES → W p l e rm_e_solve_x3 s m args below meth c H locs 0 0 Q (F0 m 47 ls []) := by
            intro n_w_19
            induction n_w_19 with
            | zero => intro w_19l5 w_19m0 w_19m1 H locs ls hP hD hS hl hm; exact absurd hm (Nat.not_lt_zero _)
            | succ n_w_19 ih_w_19 =>
              intro w_19l5 w_19m0 w_19m1 H locs ls hP hD hS hl hm hE
              rw [f_e_solve_x3_47_s] at hE
              refine lv_iload hx hb dX3_solve_47 (lv_at hl 1 rfl) ?_
              refine lv_iload_n hx hb dX3_solve_49 rfl (lv_at hl 4 rfl) ?_
              refine lv_icmp_gt (tgt := 74) hx hb dX3_solve_50 rfl (fun c_20 => ?_) (fun c_20 => ?_)
              · rw [if_pos c_20] at hE
                exact ex_47_w_19 w_19l5 w_19m0 w_19m1 _ _ ls hP hD hS (lv_sub hl [0, 1, 2, 3, 4, 5] rfl) hE
              · rw [if_neg c_20] at hE
                refine lv_iload hx hb dX3_solve_53 (lv_at hl 0 rfl) ?_
                refine lv_iload_n hx hb dX3_solve_55 rfl (lv_at hl 5 rfl) ?_
                refine lv_icmp_ge (tgt := 74) hx hb dX3_solve_56 rfl (fun c_21 => ?_) (fun c_21 => ?_)
                · rw [if_pos c_21] at hE
                  exact ex_47_w_19 w_19l5 w_19m0 w_19m1 _ _ ls hP hD hS (lv_sub hl [0, 1, 2, 3, 4, 5] rfl) hE
                · rw [if_neg c_21] at hE
                  refine lv_aload_n hx hb dX3_solve_59 rfl (lv_at hl 3 rfl) ?_
                  refine lv_iload_n hx hb dX3_solve_60 rfl (lv_at hl 2 rfl) ?_
                  refine lv_iload hx hb dX3_solve_61 (lv_at hl 1 rfl) ?_
                  refine lv_iload hx hb dX3_solve_63 (lv_at hl 0 rfl) ?_
                  refine cVv (wr := []) (rest := []) (e_weigh_x3 pr pra prb prc fpa w_19m0 w_19m1 w_1l3 (f_e_bitCount_0f7a4_j6 w_1l3) w_19l5) okV_X3_weigh wd_335 hx hb hml hown hts hK hP hD hS hA hN hl.1 [0, 1, 3, 2] [] rfl rfl rfl rfl (of_decide_eq_true rfl) rfl rfl rfl (Nat.le_of_ble_eq_true rfl) (Nat.le_of_ble_eq_true rfl) (Nat.le_of_ble_eq_true rfl) (Nat.le_of_ble_eq_true rfl) (Nat.le_of_ble_eq_true rfl) dX3_solve_65 (fun u_22 H locs hw_u_22 hP hD hS => ?_)
                  obtain ⟨o_24, o_25⟩ := u_22
                  replace hw_u_22 : (o_24, o_25) = (f_e_weigh_x3 fpa w_19m0 w_19m1 w_1l3 (f_e_bitCount_0f7a4_j6 w_1l3) w_19l5) := hw_u_22
                  rw [← hw_u_22] at hE
                  replace hE : (match (match (f_e_solve_x3_47 fpa fpb fpc l_ n_ w_1l3 n_w_19 (w_19l5 + 1) o_24 o_25) with | (w_19l5, w_19m0, w_19m1) => (f_e_solve_x3_6 fpa fpb fpc l_ n_ n_w_1 (w_1l3 + (-1)) w_19m0 w_19m1)) with | (w_1l3, w_1m0, w_1m1) => (w_1m0, w_1m1)) = RES := hE
                  have hP : va_P D classes [(pr, .inr (3, [.ref pra, .ref prb, .ref prc])), (pra, .inl (cI, 36, .inl fpa)), (prb, .inl (cI, 64, .inl o_24)), (prc, .inl (cI, 64, .inl o_25))] H := hP
                  have hD : va_D A [(pr, .inr (3, [.ref pra, .ref prb, .ref prc])), (pra, .inl (cI, 36, .inl fpa)), (prb, .inl (cI, 64, .inl o_24)), (prc, .inl (cI, 64, .inl o_25))] := hD
                  refine lv_iinc (v := (w_19l5 + 1)) (lv' := [(5, .int (w_19l5 + 1)), (4, .int (f_e_bitCount_0f7a4_j6 w_1l3)), (3, .int w_1l3), (0, .ref pr), (1, .int l_), (2, .int n_)]) hx hb dX3_solve_68 hl (k := 0) rfl rfl (Nat.le_of_ble_eq_true rfl) rfl (fun ls hl => ?_)
                  refine lv_goto (tgt := 47) hx hb dX3_solve_71 rfl ?_
                  exact ih_w_19 (w_19l5 + 1) o_24 o_25 _ _ ls (cutP (isC := [0, 1, 3, 2]) hP rfl) (cutD (isC := [0, 1, 3, 2]) hD rfl rfl) hS (lv_sub hl [0, 1, 2, 3, 4, 5] rfl) (up_step c_21 hm) hE
          exact lp_47_w_19 (((n_ : Int32).toInt - (0 : Int32).toInt).toNat + 1) 0 (putF 64 w_1m0 w_1l3 0) (putF 64 w_1m1 w_1l3 (-1)) _ _ ls hP hD hS hl (Nat.lt_succ_self _) hE
  exact lp_6_w_1 (((((1 <<< (n_ &&& 31)) - 1) : Int32).toInt + 1).toNat + 1) ((1 <<< (n_ &&& 31)) - 1) fpb fpc _ _ ls hP hD hS hl (Nat.lt_succ_self _) hE
noncomputable def f_e_cost_x3 (fpb : Nat → Int32) : Int32 := (atF 64 fpb 0)
def rm_e_cost_x3 : Room := { frames := 1, cells := 0, slots := 0, locals := 21 }
set_option maxHeartbeats 4000000 in
set_option maxRecDepth 100000 in
theorem e_cost_x3 {l : Launch} {D : va_G} {cI cZ : ClassId} {sz : Nat} (pr pra prb prc : Nat) (fpb : Nat → Int32) : KI l yX3_cost cX3_cost 1 (some .int) rm_e_cost_x3 D cI cZ [.ref pr] sz [(pr, .inr (3, [.ref pra, .ref prb, .ref prc])), (prb, .inl (cI, 64, .inl fpb))] (fun (r : Int32) (_ : Unit) => r = f_e_cost_x3 fpb) (fun (_ : Unit) => [(pr, .inr (3, [.ref pra, .ref prb, .ref prc])), (prb, .inl (cI, 64, .inl fpb))]) := by
  refine KI.go rfl (Nat.le_of_ble_eq_true rfl) ?_
  intro p e s m args below meth c ls A Q hx hb hml hts hown hin hP hK hD hS hA hN hl hret
  have hl : lv_has ls 1 [(0, .ref pr)] := hl
  obtain ⟨RES, hE⟩ : ∃ xRES, f_e_cost_x3 fpb = xRES := ⟨_, rfl⟩
  rw [hE] at hret
  rw [f_e_cost_x3] at hE
  refine lv_aload_n hx hb dX3_cost_0 rfl (lv_at hl 0 rfl) ?_
  refine va_get (D := D) (ci := 3) (v := .ref prb) (C := RX3) (T := TX3) (N := 3) hx hb hts iX3 hown hK hP 0 rfl rfl 1 (Nat.le_of_ble_eq_true rfl) (hts _ wd_28) (fun _ h9 => h9) rfl dX3_cost_1 ?_
  refine lv_iconst (v := 0) hx hb dX3_cost_4 rfl ?_
  refine cNi (wr := [(pr, .inr (3, [.ref pra, .ref prb, .ref prc]))]) (rest := []) (k_at prb 64 fpb 0 (of_decide_eq_true rfl)) okS_X9_at 13 rfl hx hb hml hown hts hK hP hD hS hA hN hl.1 [1] [0] rfl rfl rfl rfl (by decide) rfl (Nat.le_of_ble_eq_true rfl) (Nat.le_of_ble_eq_true rfl) (Nat.le_of_ble_eq_true rfl) (Nat.le_of_ble_eq_true rfl) (Nat.le_of_ble_eq_true rfl) dX3_cost_5 (fun r_2 u_1 H locs hw_u_1 hP hD hS => ?_)
  obtain rfl := hw_u_1
  have hP : va_P D classes [(pr, .inr (3, [.ref pra, .ref prb, .ref prc])), (prb, .inl (cI, 64, .inl fpb))] H := hP
  have hD : va_D A [(pr, .inr (3, [.ref pra, .ref prb, .ref prc])), (prb, .inl (cI, 64, .inl fpb))] := hD
  exact hret (atF 64 fpb 0) () _ _ _ _ dX3_cost_8 rfl hE hP hD hS
noncomputable def f_e_coupleOf_x3_14 (fpc : Nat → Int32) (b_ : Int32) (n : Nat) : Int32 → Int32 → Int32 → Int32 × Int32 × Int32 := Nat.rec (motive := fun _ => Int32 → Int32 → Int32 → Int32 × Int32 × Int32) (fun w_3l4 w_3l3 w_3l2 => (w_3l4, w_3l3, w_3l2)) (fun n ih w_3l4 w_3l3 w_3l2 => (if b_ ≤ w_3l4 then (w_3l4, w_3l3, w_3l2) else (if w_3l3 = (-1) then (w_3l4, w_3l3, w_3l2) else (ih (w_3l4 + 1) (atF 64 fpc (w_3l2 ||| (1 <<< (w_3l3 &&& 31)))) (w_3l2 ||| (1 <<< (w_3l3 &&& 31))))))) n
theorem f_e_coupleOf_x3_14_s (fpc : Nat → Int32) (b_ : Int32) (n : Nat) (w_3l4 : Int32) (w_3l3 : Int32) (w_3l2 : Int32) : f_e_coupleOf_x3_14 fpc b_ (n + 1) w_3l4 w_3l3 w_3l2 = (if b_ ≤ w_3l4 then (w_3l4, w_3l3, w_3l2) else (if w_3l3 = (-1) then (w_3l4, w_3l3, w_3l2) else (f_e_coupleOf_x3_14 fpc b_ n (w_3l4 + 1) (atF 64 fpc (w_3l2 ||| (1 <<< (w_3l3 &&& 31)))) (w_3l2 ||| (1 <<< (w_3l3 &&& 31)))))) := rfl
noncomputable def f_e_coupleOf_x3 (fpc : Nat → Int32) (b_ : Int32) : Int32 := (match (f_e_coupleOf_x3_14 fpc b_ (((b_ : Int32).toInt - (0 : Int32).toInt).toNat + 1) 0 (atF 64 fpc 0) 0) with | (w_3l4, w_3l3, w_3l2) => w_3l3)
def rm_e_coupleOf_x3 : Room := { frames := 1, cells := 0, slots := 0, locals := 21 }
set_option maxHeartbeats 4000000 in
set_option maxRecDepth 100000 in
theorem e_coupleOf_x3 {l : Launch} {D : va_G} {cI cZ : ClassId} {sz : Nat} (pr pra prb prc : Nat) (fpc : Nat → Int32) (b_ : Int32) : KI l yX3_coupleOf cX3_coupleOf 5 (some .int) rm_e_coupleOf_x3 D cI cZ [.ref pr, .int b_] sz [(pr, .inr (3, [.ref pra, .ref prb, .ref prc])), (prc, .inl (cI, 64, .inl fpc))] (fun (r : Int32) (_ : Unit) => r = f_e_coupleOf_x3 fpc b_) (fun (_ : Unit) => [(pr, .inr (3, [.ref pra, .ref prb, .ref prc])), (prc, .inl (cI, 64, .inl fpc))]) := by
  refine KI.go rfl (Nat.le_of_ble_eq_true rfl) ?_
  intro p e s m args below meth c ls A Q hx hb hml hts hown hin hP hK hD hS hA hN hl hret
  have hl : lv_has ls 5 [(0, .ref pr), (1, .int b_)] := hl
  obtain ⟨RES, hE⟩ : ∃ xRES, f_e_coupleOf_x3 fpc b_ = xRES := ⟨_, rfl⟩
  rw [hE] at hret
  rw [f_e_coupleOf_x3] at hE
  refine lv_iconst (v := 0) hx hb dX3_coupleOf_0 rfl ?_
  refine lv_istore_n (lv' := [(2, .int 0), (0, .ref pr), (1, .int b_)]) hx hb dX3_coupleOf_1 rfl hl (Nat.le_of_ble_eq_true rfl) rfl (fun ls hl => ?_)
  refine lv_aload_n hx hb dX3_coupleOf_2 rfl (lv_at hl 1 rfl) ?_
  refine va_get (D := D) (ci := 3) (v := .ref prc) (C := RX3) (T := TX3) (N := 3) hx hb hts iX3 hown hK hP 0 rfl rfl 2 (Nat.le_of_ble_eq_true rfl) (hts _ wd_29) (fun _ h9 => h9) rfl dX3_coupleOf_3 ?_
  refine lv_iconst (v := 0) hx hb dX3_coupleOf_6 rfl ?_
  refine cNi (wr := [(pr, .inr (3, [.ref pra, .ref prb, .ref prc]))]) (rest := []) (k_at prc 64 fpc 0 (of_decide_eq_true rfl)) okS_X9_at 13 rfl hx hb hml hown hts hK hP hD hS hA hN hl.1 [1] [0] rfl rfl rfl rfl (by decide) rfl (Nat.le_of_ble_eq_true rfl) (Nat.le_of_ble_eq_true rfl) (Nat.le_of_ble_eq_true rfl) (Nat.le_of_ble_eq_true rfl) (Nat.le_of_ble_eq_true rfl) dX3_coupleOf_7 (fun r_2 u_1 H locs hw_u_1 hP hD hS => ?_)
  obtain rfl := hw_u_1
  have hP : va_P D classes [(pr, .inr (3, [.ref pra, .ref prb, .ref prc])), (prc, .inl (cI, 64, .inl fpc))] H := hP
  have hD : va_D A [(pr, .inr (3, [.ref pra, .ref prb, .ref prc])), (prc, .inl (cI, 64, .inl fpc))] := hD
  refine lv_istore_n (lv' := [(3, .int (atF 64 fpc 0)), (2, .int 0), (0, .ref pr), (1, .int b_)]) hx hb dX3_coupleOf_10 rfl hl (Nat.le_of_ble_eq_true rfl) rfl (fun ls hl => ?_)
  refine lv_iconst (v := 0) hx hb dX3_coupleOf_11 rfl ?_
  refine lv_istore (lv' := [(4, .int 0), (3, .int (atF 64 fpc 0)), (2, .int 0), (0, .ref pr), (1, .int b_)]) hx hb dX3_coupleOf_12 hl (Nat.le_of_ble_eq_true rfl) rfl (fun ls hl => ?_)
  have ex_14_w_3 : ∀ (w_3l4 : Int32) (w_3l3 : Int32) (w_3l2 : Int32) (H : Heap) (locs : List Loc) (ls : Array Slot), va_P D classes [(pr, .inr (3, [.ref pra, .ref prb, .ref prc])), (prc, .inl (cI, 64, .inl fpc))] H → va_D A [(pr, .inr (3, [.ref pra, .ref prb, .ref prc])), (prc, .inl (cI, 64, .inl fpc))] → va_S A s.heap H locs → lv_has ls 5 [(4, .int w_3l4), (3, .int w_3l3), (2, .int w_3l2), (0, .ref pr), (1, .int b_)] → (w_3l3) = RES → W p l e rm_e_coupleOf_x3 s m args below meth c H locs 0 0 Q (F0 m 46 ls []) := by
    intro w_3l4 w_3l3 w_3l2 H locs ls hP hD hS hl hE
    refine lv_iload_n hx hb dX3_coupleOf_46 rfl (lv_at hl 1 rfl) ?_
    exact hret w_3l3 () _ _ _ _ dX3_coupleOf_47 rfl hE hP hD hS
  have lp_14_w_3 : ∀ (n_w_3 : Nat) (w_3l4 : Int32) (w_3l3 : Int32) (w_3l2 : Int32) (H : Heap) (locs : List Loc) (ls : Array Slot), va_P D classes [(pr, .inr (3, [.ref pra, .ref prb, .ref prc])), (prc, .inl (cI, 64, .inl fpc))] H → va_D A [(pr, .inr (3, [.ref pra, .ref prb, .ref prc])), (prc, .inl (cI, 64, .inl fpc))] → va_S A s.heap H locs → lv_has ls 5 [(4, .int w_3l4), (3, .int w_3l3), (2, .int w_3l2), (0, .ref pr), (1, .int b_)] → ((b_ : Int32).toInt - (w_3l4 : Int32).toInt).toNat < n_w_3 → (match (f_e_coupleOf_x3_14 fpc b_ n_w_3 w_3l4 w_3l3 w_3l2) with | (w_3l4, w_3l3, w_3l2) => w_3l3) = RES → W p l e rm_e_coupleOf_x3 s m args below meth c H locs 0 0 Q (F0 m 14 ls []) := by
    intro n_w_3
    induction n_w_3 with
    | zero => intro w_3l4 w_3l3 w_3l2 H locs ls hP hD hS hl hm; exact absurd hm (Nat.not_lt_zero _)
    | succ n_w_3 ih_w_3 =>
      intro w_3l4 w_3l3 w_3l2 H locs ls hP hD hS hl hm hE
      rw [f_e_coupleOf_x3_14_s] at hE
      refine lv_iload hx hb dX3_coupleOf_14 (lv_at hl 0 rfl) ?_
      refine lv_iload_n hx hb dX3_coupleOf_16 rfl (lv_at hl 4 rfl) ?_
      refine lv_icmp_ge (tgt := 46) hx hb dX3_coupleOf_17 rfl (fun c_4 => ?_) (fun c_4 => ?_)
      · rw [if_pos c_4] at hE
        exact ex_14_w_3 w_3l4 w_3l3 w_3l2 _ _ ls hP hD hS (lv_sub hl [0, 1, 2, 3, 4] rfl) hE
      · rw [if_neg c_4] at hE
        refine lv_iload_n hx hb dX3_coupleOf_20 rfl (lv_at hl 1 rfl) ?_
        refine lv_iconst (v := (-1)) hx hb dX3_coupleOf_21 rfl ?_
        refine lv_icmp_eq (tgt := 46) hx hb dX3_coupleOf_22 rfl (fun c_5 => ?_) (fun c_5 => ?_)
        · rw [if_pos c_5] at hE
          exact ex_14_w_3 w_3l4 w_3l3 w_3l2 _ _ ls hP hD hS (lv_sub hl [0, 1, 2, 3, 4] rfl) hE
        · rw [if_neg c_5] at hE
          refine lv_iload_n hx hb dX3_coupleOf_25 rfl (lv_at hl 2 rfl) ?_
          refine lv_iconst (v := 1) hx hb dX3_coupleOf_26 rfl ?_
          refine lv_iload_n hx hb dX3_coupleOf_27 rfl (lv_at hl 1 rfl) ?_
          refine lv_ishl hx hb dX3_coupleOf_28 ?_
          refine lv_ior hx hb dX3_coupleOf_29 ?_
          refine lv_istore_n (lv' := [(2, .int (w_3l2 ||| (1 <<< (w_3l3 &&& 31)))), (4, .int w_3l4), (3, .int w_3l3), (0, .ref pr), (1, .int b_)]) hx hb dX3_coupleOf_30 rfl hl (Nat.le_of_ble_eq_true rfl) rfl (fun ls hl => ?_)
          refine lv_aload_n hx hb dX3_coupleOf_31 rfl (lv_at hl 3 rfl) ?_
          refine va_get (D := D) (ci := 3) (v := .ref prc) (C := RX3) (T := TX3) (N := 3) hx hb hts iX3 hown hK hP 0 rfl rfl 2 (Nat.le_of_ble_eq_true rfl) (hts _ wd_29) (fun _ h9 => h9) rfl dX3_coupleOf_32 ?_
          refine lv_iload_n hx hb dX3_coupleOf_35 rfl (lv_at hl 0 rfl) ?_
          refine cNi (wr := [(pr, .inr (3, [.ref pra, .ref prb, .ref prc]))]) (rest := []) (k_at prc 64 fpc (w_3l2 ||| (1 <<< (w_3l3 &&& 31))) (of_decide_eq_true rfl)) okS_X9_at 13 rfl hx hb hml hown hts hK hP hD hS hA hN hl.1 [1] [0] rfl rfl rfl rfl (by decide) rfl (Nat.le_of_ble_eq_true rfl) (Nat.le_of_ble_eq_true rfl) (Nat.le_of_ble_eq_true rfl) (Nat.le_of_ble_eq_true rfl) (Nat.le_of_ble_eq_true rfl) dX3_coupleOf_36 (fun r_7 u_6 H locs hw_u_6 hP hD hS => ?_)
          obtain rfl := hw_u_6
          have hP : va_P D classes [(pr, .inr (3, [.ref pra, .ref prb, .ref prc])), (prc, .inl (cI, 64, .inl fpc))] H := hP
          have hD : va_D A [(pr, .inr (3, [.ref pra, .ref prb, .ref prc])), (prc, .inl (cI, 64, .inl fpc))] := hD
          refine lv_istore_n (lv' := [(3, .int (atF 64 fpc (w_3l2 ||| (1 <<< (w_3l3 &&& 31))))), (2, .int (w_3l2 ||| (1 <<< (w_3l3 &&& 31)))), (4, .int w_3l4), (0, .ref pr), (1, .int b_)]) hx hb dX3_coupleOf_39 rfl hl (Nat.le_of_ble_eq_true rfl) rfl (fun ls hl => ?_)
          refine lv_iinc (v := (w_3l4 + 1)) (lv' := [(4, .int (w_3l4 + 1)), (3, .int (atF 64 fpc (w_3l2 ||| (1 <<< (w_3l3 &&& 31))))), (2, .int (w_3l2 ||| (1 <<< (w_3l3 &&& 31)))), (0, .ref pr), (1, .int b_)]) hx hb dX3_coupleOf_40 hl (k := 2) rfl rfl (Nat.le_of_ble_eq_true rfl) rfl (fun ls hl => ?_)
          refine lv_goto (tgt := 14) hx hb dX3_coupleOf_43 rfl ?_
          exact ih_w_3 (w_3l4 + 1) (atF 64 fpc (w_3l2 ||| (1 <<< (w_3l3 &&& 31)))) (w_3l2 ||| (1 <<< (w_3l3 &&& 31))) _ _ ls hP hD hS (lv_sub hl [0, 1, 2, 3, 4] rfl) (up_step c_4 hm) hE
  exact lp_14_w_3 (((b_ : Int32).toInt - (0 : Int32).toInt).toNat + 1) 0 (atF 64 fpc 0) 0 _ _ ls hP hD hS hl (Nat.lt_succ_self _) hE
end
