theorem dX5_letter_0 : decode cX5_letter 0 = .ok (.aload_n 0, 1) := by decide +kernel
theorem dX5_letter_1 : decode cX5_letter 1 = .ok (.getfield 25, 3) := by decide +kernel
theorem dX5_letter_4 : decode cX5_letter 4 = .ok (.ifCond .lt 38, 3) := by decide +kernel
theorem dX5_letter_42 : decode cX5_letter 42 = .ok (.iconst (-1), 1) := by decide +kernel
theorem dX5_letter_43 : decode cX5_letter 43 = .ok (.ireturn, 1) := by decide +kernel
theorem dX5_letter_7 : decode cX5_letter 7 = .ok (.aload_n 0, 1) := by decide +kernel
theorem dX5_letter_8 : decode cX5_letter 8 = .ok (.getfield 25, 3) := by decide +kernel
theorem dX5_letter_11 : decode cX5_letter 11 = .ok (.aload_n 0, 1) := by decide +kernel
theorem dX5_letter_12 : decode cX5_letter 12 = .ok (.getfield 22, 3) := by decide +kernel
theorem dX5_letter_15 : decode cX5_letter 15 = .ok (.if_icmp .ge 27, 3) := by decide +kernel
theorem dX5_letter_18 : decode cX5_letter 18 = .ok (.aload_n 0, 1) := by decide +kernel
theorem dX5_letter_19 : decode cX5_letter 19 = .ok (.getfield 25, 3) := by decide +kernel
theorem dX5_letter_22 : decode cX5_letter 22 = .ok (.aload_n 0, 1) := by decide +kernel
theorem dX5_letter_23 : decode cX5_letter 23 = .ok (.getfield 18, 3) := by decide +kernel
theorem dX5_letter_26 : decode cX5_letter 26 = .ok (.arraylength, 1) := by decide +kernel
theorem dX5_letter_27 : decode cX5_letter 27 = .ok (.if_icmp .ge 15, 3) := by decide +kernel
theorem dX5_letter_30 : decode cX5_letter 30 = .ok (.aload_n 0, 1) := by decide +kernel
theorem dX5_letter_31 : decode cX5_letter 31 = .ok (.getfield 18, 3) := by decide +kernel
theorem dX5_letter_34 : decode cX5_letter 34 = .ok (.aload_n 0, 1) := by decide +kernel
theorem dX5_letter_35 : decode cX5_letter 35 = .ok (.getfield 25, 3) := by decide +kernel
theorem dX5_letter_38 : decode cX5_letter 38 = .ok (.iaload, 1) := by decide +kernel
theorem dX5_letter_39 : decode cX5_letter 39 = .ok (.goto 4, 3) := by decide +kernel
theorem dX5_next_0 : decode cX5_next 0 = .ok (.iconst 0, 1) := by decide +kernel
theorem dX5_next_1 : decode cX5_next 1 = .ok (.istore_n 1, 1) := by decide +kernel
theorem dX5_next_34 : decode cX5_next 34 = .ok (.aload_n 0, 1) := by decide +kernel
theorem dX5_next_35 : decode cX5_next 35 = .ok (.invokevirtual 107, 3) := by decide +kernel
theorem wd_193 : Cond.methodLink RX5 107 yX5_letter ∈ BG := BG_at 350 (by decide +kernel) rfl
theorem wd_194 : Cond.code yX5_letter cX5_letter 1 (some .int) ∈ BG := BG_at 353 (by decide +kernel) rfl
theorem wd_195 : Cond.instanceMethod yX5_letter ∈ BG := BG_at 352 (by decide +kernel) rfl
theorem wd_196 : Cond.selects RX5 yX5_letter yX5_letter ∈ BG := BG_in (by decide +kernel) rfl
theorem okV_X5_letter : okV yX5_letter cX5_letter 1 (some .int) 0 := ⟨⟨wd_194, wd_80, by decide +kernel⟩, wd_195, wd_196⟩
theorem dX5_next_38 : decode cX5_next 38 = .ok (.ireturn, 1) := by decide +kernel
theorem dX5_next_2 : decode cX5_next 2 = .ok (.iload_n 1, 1) := by decide +kernel
theorem dX5_next_3 : decode cX5_next 3 = .ok (.sipush 240, 3) := by decide +kernel
theorem dX5_next_6 : decode cX5_next 6 = .ok (.if_icmp .ge 28, 3) := by decide +kernel
theorem dX5_next_9 : decode cX5_next 9 = .ok (.aload_n 0, 1) := by decide +kernel
theorem dX5_next_10 : decode cX5_next 10 = .ok (.invokevirtual 107, 3) := by decide +kernel
theorem dX5_next_13 : decode cX5_next 13 = .ok (.bipush 32, 2) := by decide +kernel
theorem dX5_next_15 : decode cX5_next 15 = .ok (.if_icmp .ne 19, 3) := by decide +kernel
theorem dX5_next_18 : decode cX5_next 18 = .ok (.aload_n 0, 1) := by decide +kernel
theorem dX5_next_19 : decode cX5_next 19 = .ok (.dup, 1) := by decide +kernel
theorem dX5_next_20 : decode cX5_next 20 = .ok (.getfield 25, 3) := by decide +kernel
theorem dX5_next_23 : decode cX5_next 23 = .ok (.iconst 1, 1) := by decide +kernel
theorem dX5_next_24 : decode cX5_next 24 = .ok (.iadd, 1) := by decide +kernel
theorem dX5_next_25 : decode cX5_next 25 = .ok (.putfield 25, 3) := by decide +kernel
theorem dX5_next_28 : decode cX5_next 28 = .ok (.iinc 1 1, 3) := by decide +kernel
theorem dX5_next_31 : decode cX5_next 31 = .ok (.goto (-29), 3) := by decide +kernel
theorem dX5_isFigure_0 : decode cX5_isFigure 0 = .ok (.iload_n 1, 1) := by decide +kernel
theorem dX5_isFigure_1 : decode cX5_isFigure 1 = .ok (.bipush 48, 2) := by decide +kernel
theorem dX5_isFigure_3 : decode cX5_isFigure 3 = .ok (.if_icmp .lt 13, 3) := by decide +kernel
theorem dX5_isFigure_16 : decode cX5_isFigure 16 = .ok (.iconst 0, 1) := by decide +kernel
theorem dX5_isFigure_17 : decode cX5_isFigure 17 = .ok (.ireturn, 1) := by decide +kernel
theorem dX5_isFigure_6 : decode cX5_isFigure 6 = .ok (.iload_n 1, 1) := by decide +kernel
theorem dX5_isFigure_7 : decode cX5_isFigure 7 = .ok (.bipush 57, 2) := by decide +kernel
theorem dX5_isFigure_9 : decode cX5_isFigure 9 = .ok (.if_icmp .gt 7, 3) := by decide +kernel
theorem dX5_isFigure_12 : decode cX5_isFigure 12 = .ok (.iconst 1, 1) := by decide +kernel
theorem dX5_isFigure_13 : decode cX5_isFigure 13 = .ok (.goto 4, 3) := by decide +kernel
theorem dX5_blame_0 : decode cX5_blame 0 = .ok (.aload_n 0, 1) := by decide +kernel
theorem dX5_blame_1 : decode cX5_blame 1 = .ok (.iload_n 1, 1) := by decide +kernel
theorem dX5_blame_2 : decode cX5_blame 2 = .ok (.putfield 9, 3) := by decide +kernel
theorem dX5_blame_5 : decode cX5_blame 5 = .ok (.aload_n 0, 1) := by decide +kernel
theorem dX5_blame_6 : decode cX5_blame 6 = .ok (.iload_n 2, 1) := by decide +kernel
theorem dX5_blame_7 : decode cX5_blame 7 = .ok (.putfield 15, 3) := by decide +kernel
theorem dX5_blame_10 : decode cX5_blame 10 = .ok (.return_, 1) := by decide +kernel
theorem dX5_expect_0 : decode cX5_expect 0 = .ok (.aload_n 0, 1) := by decide +kernel
theorem dX5_expect_1 : decode cX5_expect 1 = .ok (.getfield 9, 3) := by decide +kernel
theorem dX5_expect_4 : decode cX5_expect 4 = .ok (.ifCond .eq 4, 3) := by decide +kernel
theorem dX5_expect_8 : decode cX5_expect 8 = .ok (.aload_n 0, 1) := by decide +kernel
theorem dX5_expect_9 : decode cX5_expect 9 = .ok (.invokevirtual 40, 3) := by decide +kernel
theorem wd_197 : Cond.methodLink RX5 40 yX5_next ∈ BG := BG_at 346 (by decide +kernel) rfl
theorem wd_198 : Cond.code yX5_next cX5_next 2 (some .int) ∈ BG := BG_at 349 (by decide +kernel) rfl
theorem wd_199 : Cond.instanceMethod yX5_next ∈ BG := BG_at 348 (by decide +kernel) rfl
theorem wd_200 : Cond.selects RX5 yX5_next yX5_next ∈ BG := BG_in (by decide +kernel) rfl
theorem okV_X5_next : okV yX5_next cX5_next 2 (some .int) 0 := ⟨⟨wd_198, wd_80, by decide +kernel⟩, wd_199, wd_200⟩
theorem dX5_expect_12 : decode cX5_expect 12 = .ok (.iload_n 1, 1) := by decide +kernel
theorem dX5_expect_13 : decode cX5_expect 13 = .ok (.if_icmp .eq 13, 3) := by decide +kernel
theorem dX5_expect_26 : decode cX5_expect 26 = .ok (.aload_n 0, 1) := by decide +kernel
theorem dX5_expect_27 : decode cX5_expect 27 = .ok (.dup, 1) := by decide +kernel
theorem dX5_expect_28 : decode cX5_expect 28 = .ok (.getfield 25, 3) := by decide +kernel
theorem dX5_expect_31 : decode cX5_expect 31 = .ok (.iconst 1, 1) := by decide +kernel
theorem dX5_expect_32 : decode cX5_expect 32 = .ok (.iadd, 1) := by decide +kernel
theorem dX5_expect_33 : decode cX5_expect 33 = .ok (.putfield 25, 3) := by decide +kernel
theorem dX5_expect_36 : decode cX5_expect 36 = .ok (.return_, 1) := by decide +kernel
theorem dX5_expect_16 : decode cX5_expect 16 = .ok (.aload_n 0, 1) := by decide +kernel
theorem dX5_expect_17 : decode cX5_expect 17 = .ok (.iconst 1, 1) := by decide +kernel
theorem dX5_expect_18 : decode cX5_expect 18 = .ok (.aload_n 0, 1) := by decide +kernel
theorem dX5_expect_19 : decode cX5_expect 19 = .ok (.getfield 25, 3) := by decide +kernel
theorem dX5_expect_22 : decode cX5_expect 22 = .ok (.invokevirtual 51, 3) := by decide +kernel
theorem wd_201 : Cond.methodLink RX5 51 yX5_blame ∈ BG := BG_at 358 (by decide +kernel) rfl
theorem wd_202 : Cond.code yX5_blame cX5_blame 3 none ∈ BG := BG_at 361 (by decide +kernel) rfl
theorem wd_203 : Cond.instanceMethod yX5_blame ∈ BG := BG_at 360 (by decide +kernel) rfl
theorem wd_204 : Cond.selects RX5 yX5_blame yX5_blame ∈ BG := BG_in (by decide +kernel) rfl
theorem okV_X5_blame : okV yX5_blame cX5_blame 3 none 2 := ⟨⟨wd_202, wd_80, by decide +kernel⟩, wd_203, wd_204⟩
theorem dX5_expect_25 : decode cX5_expect 25 = .ok (.return_, 1) := by decide +kernel
theorem dX5_expect_7 : decode cX5_expect 7 = .ok (.return_, 1) := by decide +kernel
theorem dX5_number_0 : decode cX5_number 0 = .ok (.aload_n 0, 1) := by decide +kernel
theorem dX5_number_1 : decode cX5_number 1 = .ok (.getfield 9, 3) := by decide +kernel
theorem dX5_number_4 : decode cX5_number 4 = .ok (.ifCond .eq 5, 3) := by decide +kernel
theorem dX5_number_9 : decode cX5_number 9 = .ok (.aload_n 0, 1) := by decide +kernel
theorem dX5_number_10 : decode cX5_number 10 = .ok (.aload_n 0, 1) := by decide +kernel
theorem dX5_number_11 : decode cX5_number 11 = .ok (.invokevirtual 40, 3) := by decide +kernel
theorem dX5_number_14 : decode cX5_number 14 = .ok (.invokevirtual 110, 3) := by decide +kernel
theorem wd_205 : Cond.methodLink RX5 110 yX5_isFigure ∈ BG := BG_at 374 (by decide +kernel) rfl
theorem wd_206 : Cond.code yX5_isFigure cX5_isFigure 2 (some .boolean) ∈ BG := BG_at 377 (by decide +kernel) rfl
theorem wd_207 : Cond.instanceMethod yX5_isFigure ∈ BG := BG_at 376 (by decide +kernel) rfl
theorem wd_208 : Cond.selects RX5 yX5_isFigure yX5_isFigure ∈ BG := BG_in (by decide +kernel) rfl
theorem okV_X5_isFigure : okV yX5_isFigure cX5_isFigure 2 (some .boolean) 1 := ⟨⟨wd_206, wd_80, by decide +kernel⟩, wd_207, wd_208⟩
theorem dX5_number_17 : decode cX5_number 17 = .ok (.ifCond .ne 14, 3) := by decide +kernel
theorem dX5_number_31 : decode cX5_number 31 = .ok (.aload_n 0, 1) := by decide +kernel
theorem dX5_number_32 : decode cX5_number 32 = .ok (.getfield 25, 3) := by decide +kernel
theorem dX5_number_35 : decode cX5_number 35 = .ok (.istore_n 3, 1) := by decide +kernel
theorem dX5_number_36 : decode cX5_number 36 = .ok (.iconst 0, 1) := by decide +kernel
theorem dX5_number_37 : decode cX5_number 37 = .ok (.istore 4, 2) := by decide +kernel
theorem dX5_number_39 : decode cX5_number 39 = .ok (.iconst 0, 1) := by decide +kernel
theorem dX5_number_40 : decode cX5_number 40 = .ok (.istore 5, 2) := by decide +kernel
theorem dX5_number_103 : decode cX5_number 103 = .ok (.aload_n 0, 1) := by decide +kernel
theorem dX5_number_104 : decode cX5_number 104 = .ok (.getfield 25, 3) := by decide +kernel
theorem dX5_number_107 : decode cX5_number 107 = .ok (.iload_n 3, 1) := by decide +kernel
theorem dX5_number_108 : decode cX5_number 108 = .ok (.isub, 1) := by decide +kernel
theorem dX5_number_109 : decode cX5_number 109 = .ok (.iconst 3, 1) := by decide +kernel
theorem dX5_number_110 : decode cX5_number 110 = .ok (.if_icmp .gt 15, 3) := by decide +kernel
theorem dX5_number_125 : decode cX5_number 125 = .ok (.aload_n 0, 1) := by decide +kernel
theorem dX5_number_126 : decode cX5_number 126 = .ok (.iconst 2, 1) := by decide +kernel
theorem dX5_number_127 : decode cX5_number 127 = .ok (.iload_n 3, 1) := by decide +kernel
theorem dX5_number_128 : decode cX5_number 128 = .ok (.invokevirtual 51, 3) := by decide +kernel
theorem dX5_number_131 : decode cX5_number 131 = .ok (.iload_n 1, 1) := by decide +kernel
theorem dX5_number_132 : decode cX5_number 132 = .ok (.ireturn, 1) := by decide +kernel
theorem dX5_number_113 : decode cX5_number 113 = .ok (.iload 4, 2) := by decide +kernel
theorem dX5_number_115 : decode cX5_number 115 = .ok (.iload_n 1, 1) := by decide +kernel
theorem dX5_number_116 : decode cX5_number 116 = .ok (.if_icmp .lt 9, 3) := by decide +kernel
theorem dX5_number_119 : decode cX5_number 119 = .ok (.iload 4, 2) := by decide +kernel
theorem dX5_number_121 : decode cX5_number 121 = .ok (.iload_n 2, 1) := by decide +kernel
theorem dX5_number_122 : decode cX5_number 122 = .ok (.if_icmp .le 11, 3) := by decide +kernel
theorem dX5_number_133 : decode cX5_number 133 = .ok (.iload 4, 2) := by decide +kernel
theorem dX5_number_135 : decode cX5_number 135 = .ok (.ireturn, 1) := by decide +kernel
theorem dX5_number_42 : decode cX5_number 42 = .ok (.iload 5, 2) := by decide +kernel
theorem dX5_number_44 : decode cX5_number 44 = .ok (.sipush 240, 3) := by decide +kernel
theorem dX5_number_47 : decode cX5_number 47 = .ok (.if_icmp .ge 56, 3) := by decide +kernel
theorem dX5_number_50 : decode cX5_number 50 = .ok (.aload_n 0, 1) := by decide +kernel
theorem dX5_number_51 : decode cX5_number 51 = .ok (.aload_n 0, 1) := by decide +kernel
theorem dX5_number_52 : decode cX5_number 52 = .ok (.invokevirtual 107, 3) := by decide +kernel
theorem dX5_number_55 : decode cX5_number 55 = .ok (.invokevirtual 110, 3) := by decide +kernel
theorem dX5_number_58 : decode cX5_number 58 = .ok (.ifCond .eq 45, 3) := by decide +kernel
theorem dX5_number_61 : decode cX5_number 61 = .ok (.iload 5, 2) := by decide +kernel
theorem dX5_number_63 : decode cX5_number 63 = .ok (.iconst 3, 1) := by decide +kernel
theorem dX5_number_64 : decode cX5_number 64 = .ok (.if_icmp .ge 19, 3) := by decide +kernel
theorem dX5_number_83 : decode cX5_number 83 = .ok (.iload 4, 2) := by decide +kernel
theorem dX5_number_85 : decode cX5_number 85 = .ok (.istore 4, 2) := by decide +kernel
theorem dX5_number_87 : decode cX5_number 87 = .ok (.aload_n 0, 1) := by decide +kernel
theorem dX5_number_88 : decode cX5_number 88 = .ok (.dup, 1) := by decide +kernel
theorem dX5_number_89 : decode cX5_number 89 = .ok (.getfield 25, 3) := by decide +kernel
theorem dX5_number_92 : decode cX5_number 92 = .ok (.iconst 1, 1) := by decide +kernel
theorem dX5_number_93 : decode cX5_number 93 = .ok (.iadd, 1) := by decide +kernel
theorem dX5_number_94 : decode cX5_number 94 = .ok (.putfield 25, 3) := by decide +kernel
theorem dX5_number_97 : decode cX5_number 97 = .ok (.iinc 5 1, 3) := by decide +kernel
theorem dX5_number_100 : decode cX5_number 100 = .ok (.goto (-58), 3) := by decide +kernel
theorem dX5_number_67 : decode cX5_number 67 = .ok (.iload 4, 2) := by decide +kernel
theorem dX5_number_69 : decode cX5_number 69 = .ok (.bipush 10, 2) := by decide +kernel
theorem dX5_number_71 : decode cX5_number 71 = .ok (.imul, 1) := by decide +kernel
theorem dX5_number_72 : decode cX5_number 72 = .ok (.aload_n 0, 1) := by decide +kernel
theorem dX5_number_73 : decode cX5_number 73 = .ok (.invokevirtual 107, 3) := by decide +kernel
theorem dX5_number_76 : decode cX5_number 76 = .ok (.iadd, 1) := by decide +kernel
theorem dX5_number_77 : decode cX5_number 77 = .ok (.bipush 48, 2) := by decide +kernel
theorem dX5_number_79 : decode cX5_number 79 = .ok (.isub, 1) := by decide +kernel
theorem dX5_number_80 : decode cX5_number 80 = .ok (.goto 5, 3) := by decide +kernel
theorem dX5_number_20 : decode cX5_number 20 = .ok (.aload_n 0, 1) := by decide +kernel
theorem dX5_number_21 : decode cX5_number 21 = .ok (.iconst 1, 1) := by decide +kernel
theorem dX5_number_22 : decode cX5_number 22 = .ok (.aload_n 0, 1) := by decide +kernel
theorem dX5_number_23 : decode cX5_number 23 = .ok (.getfield 25, 3) := by decide +kernel
theorem dX5_number_26 : decode cX5_number 26 = .ok (.invokevirtual 51, 3) := by decide +kernel
theorem dX5_number_29 : decode cX5_number 29 = .ok (.iload_n 1, 1) := by decide +kernel
theorem dX5_number_30 : decode cX5_number 30 = .ok (.ireturn, 1) := by decide +kernel
theorem dX5_number_7 : decode cX5_number 7 = .ok (.iload_n 1, 1) := by decide +kernel
theorem dX5_number_8 : decode cX5_number 8 = .ok (.ireturn, 1) := by decide +kernel
theorem dX5_isTooOften_0 : decode cX5_isTooOften 0 = .ok (.iload_n 1, 1) := by decide +kernel
theorem dX5_isTooOften_1 : decode cX5_isTooOften 1 = .ok (.lookupswitch 106 #[(98, 43), (99, 76), (116, 56), (118, 91)], 43) := by decide +kernel
theorem dX5_isTooOften_44 : decode cX5_isTooOften 44 = .ok (.aload_n 2, 1) := by decide +kernel
theorem wd_209 : Cond.fieldLink RX5 48 "QuarrelBridges$Town" "bridges" "I" ∈ BG := BG_at 62 (by decide +kernel) rfl
theorem dX5_isTooOften_45 : decode cX5_isTooOften 45 = .ok (.getfield 48, 3) := by decide +kernel
theorem dX5_isTooOften_48 : decode cX5_isTooOften 48 = .ok (.ifCond .le 7, 3) := by decide +kernel
theorem dX5_isTooOften_55 : decode cX5_isTooOften 55 = .ok (.iconst 0, 1) := by decide +kernel
theorem dX5_isTooOften_56 : decode cX5_isTooOften 56 = .ok (.ireturn, 1) := by decide +kernel
theorem dX5_isTooOften_51 : decode cX5_isTooOften 51 = .ok (.iconst 1, 1) := by decide +kernel
theorem dX5_isTooOften_52 : decode cX5_isTooOften 52 = .ok (.goto 4, 3) := by decide +kernel
theorem dX5_isTooOften_77 : decode cX5_isTooOften 77 = .ok (.aload_n 2, 1) := by decide +kernel
theorem wd_210 : Cond.fieldLink RX5 82 "QuarrelBridges$Town" "couples" "I" ∈ BG := BG_at 70 (by decide +kernel) rfl
theorem dX5_isTooOften_78 : decode cX5_isTooOften 78 = .ok (.getfield 82, 3) := by decide +kernel
theorem dX5_isTooOften_81 : decode cX5_isTooOften 81 = .ok (.bipush 6, 2) := by decide +kernel
theorem dX5_isTooOften_83 : decode cX5_isTooOften 83 = .ok (.if_icmp .lt 7, 3) := by decide +kernel
theorem dX5_isTooOften_90 : decode cX5_isTooOften 90 = .ok (.iconst 0, 1) := by decide +kernel
theorem dX5_isTooOften_91 : decode cX5_isTooOften 91 = .ok (.ireturn, 1) := by decide +kernel
theorem dX5_isTooOften_86 : decode cX5_isTooOften 86 = .ok (.iconst 1, 1) := by decide +kernel
theorem dX5_isTooOften_87 : decode cX5_isTooOften 87 = .ok (.goto 4, 3) := by decide +kernel
theorem dX5_isTooOften_57 : decode cX5_isTooOften 57 = .ok (.aload_n 0, 1) := by decide +kernel
theorem dX5_isTooOften_58 : decode cX5_isTooOften 58 = .ok (.getfield 28, 3) := by decide +kernel
theorem dX5_isTooOften_61 : decode cX5_isTooOften 61 = .ok (.ifCond .ne 10, 3) := by decide +kernel
theorem dX5_isTooOften_71 : decode cX5_isTooOften 71 = .ok (.iconst 1, 1) := by decide +kernel
theorem dX5_isTooOften_72 : decode cX5_isTooOften 72 = .ok (.goto 4, 3) := by decide +kernel
theorem dX5_isTooOften_76 : decode cX5_isTooOften 76 = .ok (.ireturn, 1) := by decide +kernel
theorem dX5_isTooOften_64 : decode cX5_isTooOften 64 = .ok (.aload_n 2, 1) := by decide +kernel
theorem dX5_isTooOften_65 : decode cX5_isTooOften 65 = .ok (.getfield 82, 3) := by decide +kernel
theorem dX5_isTooOften_68 : decode cX5_isTooOften 68 = .ok (.ifCond .le 7, 3) := by decide +kernel
theorem dX5_isTooOften_75 : decode cX5_isTooOften 75 = .ok (.iconst 0, 1) := by decide +kernel
theorem dX5_isTooOften_92 : decode cX5_isTooOften 92 = .ok (.aload_n 2, 1) := by decide +kernel
theorem wd_211 : Cond.fieldLink RX5 85 "QuarrelBridges$Town" "barges" "I" ∈ BG := BG_at 74 (by decide +kernel) rfl
theorem dX5_isTooOften_93 : decode cX5_isTooOften 93 = .ok (.getfield 85, 3) := by decide +kernel
theorem dX5_isTooOften_96 : decode cX5_isTooOften 96 = .ok (.bipush 7, 2) := by decide +kernel
theorem dX5_isTooOften_98 : decode cX5_isTooOften 98 = .ok (.if_icmp .lt 7, 3) := by decide +kernel
theorem dX5_isTooOften_105 : decode cX5_isTooOften 105 = .ok (.iconst 0, 1) := by decide +kernel
theorem dX5_isTooOften_106 : decode cX5_isTooOften 106 = .ok (.ireturn, 1) := by decide +kernel
theorem dX5_isTooOften_101 : decode cX5_isTooOften 101 = .ok (.iconst 1, 1) := by decide +kernel
theorem dX5_isTooOften_102 : decode cX5_isTooOften 102 = .ok (.goto 4, 3) := by decide +kernel
theorem dX5_isTooOften_107 : decode cX5_isTooOften 107 = .ok (.aload_n 0, 1) := by decide +kernel
theorem dX5_isTooOften_108 : decode cX5_isTooOften 108 = .ok (.getfield 32, 3) := by decide +kernel
theorem dX5_isTooOften_111 : decode cX5_isTooOften 111 = .ok (.ireturn, 1) := by decide +kernel
theorem letter_in {i : Int32} (h1 : ¬ i < 0) (h2 : ¬ (240 : Int32) ≤ i) : vp_in i 240 := vin (by decide) h1 h2
noncomputable def f_e_letter_x5 (r0 : Int32) (r1 : Int32) (r3 : Int32) (r4 : Int32) (r5 : Int32) (r6 : Int32) (ftx : Nat → Int32) : Int32 := (if r4 < 0 then (-1) else (if r3 ≤ r4 then (-1) else (if 240 ≤ r4 then (-1) else (ftx (r4 : Int32).toNatClampNeg))))
def rm_e_letter_x5 : Room := { frames := 0, cells := 0, slots := 0, locals := 0 }
set_option maxHeartbeats 4000000 in
set_option maxRecDepth 100000 in
theorem e_letter_x5 {l : Launch} {D : va_G} {cI cZ : ClassId} {sz : Nat} (rd x : Nat) (r0 : Int32) (r1 : Int32) (r3 : Int32) (r4 : Int32) (r5 : Int32) (r6 : Int32) (ftx : Nat → Int32) : KI l yX5_letter cX5_letter 1 (some .int) rm_e_letter_x5 D cI cZ [.ref rd] sz [(rd, .inr (5, [.int r0, .int r1, .ref x, .int r3, .int r4, .int r5, .int r6])), (x, .inl (cI, 240, .inl ftx))] (fun (r : Int32) (_ : Unit) => r = f_e_letter_x5 r0 r1 r3 r4 r5 r6 ftx) (fun (_ : Unit) => [(rd, .inr (5, [.int r0, .int r1, .ref x, .int r3, .int r4, .int r5, .int r6])), (x, .inl (cI, 240, .inl ftx))]) := by
  refine KI.go rfl (Nat.le_of_ble_eq_true rfl) ?_
  intro p e s m args below meth c ls A Q hx hb hml hts hown hin hP hK hD hS hA hN hl hret
  have hl : lv_has ls 1 [(0, .ref rd)] := hl
  obtain ⟨RES, hE⟩ : ∃ xRES, f_e_letter_x5 r0 r1 r3 r4 r5 r6 ftx = xRES := ⟨_, rfl⟩
  rw [hE] at hret
  rw [f_e_letter_x5] at hE
  refine lv_aload_n hx hb dX5_letter_0 rfl (lv_at hl 0 rfl) ?_
  refine va_get (D := D) (ci := 5) (v := .int r4) (C := RX5) (T := TX5) (N := 7) hx hb hts iX5 hown hK hP 0 rfl rfl 4 (by decide) (hts _ wd_46) (fun _ h9 => h9) rfl dX5_letter_1 ?_
  refine lv_if_lt (tgt := 42) hx hb dX5_letter_4 (by decide) (fun c_1 => ?_) (fun c_1 => ?_)
  · rw [if_pos c_1] at hE
    refine lv_iconst (v := (-1)) hx hb dX5_letter_42 (by decide) ?_
    exact hret (-1) () _ _ _ _ dX5_letter_43 rfl hE hP hD hS
  · rw [if_neg c_1] at hE
    refine lv_aload_n hx hb dX5_letter_7 rfl (lv_at hl 0 rfl) ?_
    refine va_get (D := D) (ci := 5) (v := .int r4) (C := RX5) (T := TX5) (N := 7) hx hb hts iX5 hown hK hP 0 rfl rfl 4 (by decide) (hts _ wd_46) (fun _ h9 => h9) rfl dX5_letter_8 ?_
    refine lv_aload_n hx hb dX5_letter_11 rfl (lv_at hl 0 rfl) ?_
    refine va_get (D := D) (ci := 5) (v := .int r3) (C := RX5) (T := TX5) (N := 7) hx hb hts iX5 hown hK hP 0 rfl rfl 3 (by decide) (hts _ wd_45) (fun _ h9 => h9) rfl dX5_letter_12 ?_
    refine lv_icmp_ge (tgt := 42) hx hb dX5_letter_15 (by decide) (fun c_2 => ?_) (fun c_2 => ?_)
    · rw [if_pos c_2] at hE
      refine lv_iconst (v := (-1)) hx hb dX5_letter_42 (by decide) ?_
      exact hret (-1) () _ _ _ _ dX5_letter_43 rfl hE hP hD hS
    · rw [if_neg c_2] at hE
      refine lv_aload_n hx hb dX5_letter_18 rfl (lv_at hl 0 rfl) ?_
      refine va_get (D := D) (ci := 5) (v := .int r4) (C := RX5) (T := TX5) (N := 7) hx hb hts iX5 hown hK hP 0 rfl rfl 4 (by decide) (hts _ wd_46) (fun _ h9 => h9) rfl dX5_letter_19 ?_
      refine lv_aload_n hx hb dX5_letter_22 rfl (lv_at hl 0 rfl) ?_
      refine va_get (D := D) (ci := 5) (v := .ref x) (C := RX5) (T := TX5) (N := 7) hx hb hts iX5 hown hK hP 0 rfl rfl 2 (by decide) (hts _ wd_44) (fun _ h9 => h9) rfl dX5_letter_23 ?_
      refine va_alen (v := 240) hx hb hK hP 1 0 rfl rfl rfl dX5_letter_26 ?_
      refine lv_icmp_ge (tgt := 42) hx hb dX5_letter_27 (by decide) (fun c_3 => ?_) (fun c_3 => ?_)
      · rw [if_pos c_3] at hE
        refine lv_iconst (v := (-1)) hx hb dX5_letter_42 (by decide) ?_
        exact hret (-1) () _ _ _ _ dX5_letter_43 rfl hE hP hD hS
      · rw [if_neg c_3] at hE
        refine lv_aload_n hx hb dX5_letter_30 rfl (lv_at hl 0 rfl) ?_
        refine va_get (D := D) (ci := 5) (v := .ref x) (C := RX5) (T := TX5) (N := 7) hx hb hts iX5 hown hK hP 0 rfl rfl 2 (by decide) (hts _ wd_44) (fun _ h9 => h9) rfl dX5_letter_31 ?_
        refine lv_aload_n hx hb dX5_letter_34 rfl (lv_at hl 0 rfl) ?_
        refine va_get (D := D) (ci := 5) (v := .int r4) (C := RX5) (T := TX5) (N := 7) hx hb hts iX5 hown hK hP 0 rfl rfl 4 (by decide) (hts _ wd_46) (fun _ h9 => h9) rfl dX5_letter_35 ?_
        refine va_iald hx hb hK hP 1 0 rfl rfl (letter_in c_1 c_3) dX5_letter_38 ?_
        refine lv_goto (tgt := 43) hx hb dX5_letter_39 (by decide) ?_
        exact hret (ftx (r4 : Int32).toNatClampNeg) () _ _ _ _ dX5_letter_43 rfl hE hP hD hS
noncomputable def f_e_next_x5_2 (r0 : Int32) (r1 : Int32) (r3 : Int32) (r4 : Int32) (r5 : Int32) (r6 : Int32) (ftx : Nat → Int32) (n : Nat) : Int32 → Int32 → Int32 × Int32 := Nat.rec (motive := fun _ => Int32 → Int32 → Int32 × Int32) (fun w_1l1 w_1m0 => (w_1l1, w_1m0)) (fun n ih w_1l1 w_1m0 => (if 240 ≤ w_1l1 then (w_1l1, w_1m0) else (if (f_e_letter_x5 r0 r1 r3 w_1m0 r5 r6 ftx) = 32 then (ih (w_1l1 + 1) (w_1m0 + 1)) else (w_1l1, w_1m0)))) n
theorem f_e_next_x5_2_s (r0 : Int32) (r1 : Int32) (r3 : Int32) (r4 : Int32) (r5 : Int32) (r6 : Int32) (ftx : Nat → Int32) (n : Nat) (w_1l1 : Int32) (w_1m0 : Int32) : f_e_next_x5_2 r0 r1 r3 r4 r5 r6 ftx (n + 1) w_1l1 w_1m0 = (if 240 ≤ w_1l1 then (w_1l1, w_1m0) else (if (f_e_letter_x5 r0 r1 r3 w_1m0 r5 r6 ftx) = 32 then (f_e_next_x5_2 r0 r1 r3 r4 r5 r6 ftx n (w_1l1 + 1) (w_1m0 + 1)) else (w_1l1, w_1m0))) := rfl
noncomputable def f_e_next_x5 (r0 : Int32) (r1 : Int32) (r3 : Int32) (r4 : Int32) (r5 : Int32) (r6 : Int32) (ftx : Nat → Int32) : Int32 × Int32 := (match (f_e_next_x5_2 r0 r1 r3 r4 r5 r6 ftx (((240 : Int32).toInt - (0 : Int32).toInt).toNat + 1) 0 r4) with | (w_1l1, w_1m0) => ((f_e_letter_x5 r0 r1 r3 w_1m0 r5 r6 ftx), w_1m0))
def rm_e_next_x5 : Room := { frames := 1, cells := 0, slots := 0, locals := 20 }
set_option maxHeartbeats 4000000 in
set_option maxRecDepth 100000 in
theorem e_next_x5 {l : Launch} {D : va_G} {cI cZ : ClassId} {sz : Nat} (rd x : Nat) (r0 : Int32) (r1 : Int32) (r3 : Int32) (r4 : Int32) (r5 : Int32) (r6 : Int32) (ftx : Nat → Int32) : KI l yX5_next cX5_next 2 (some .int) rm_e_next_x5 D cI cZ [.ref rd] sz [(rd, .inr (5, [.int r0, .int r1, .ref x, .int r3, .int r4, .int r5, .int r6])), (x, .inl (cI, 240, .inl ftx))] (fun (r : Int32) (u : Int32) => (r, u) = f_e_next_x5 r0 r1 r3 r4 r5 r6 ftx) (fun (u : Int32) => [(rd, .inr (5, [.int r0, .int r1, .ref x, .int r3, .int u, .int r5, .int r6])), (x, .inl (cI, 240, .inl ftx))]) := by
  refine KI.go rfl (Nat.le_of_ble_eq_true rfl) ?_
  intro p e s m args below meth c ls A Q hx hb hml hts hown hin hP hK hD hS hA hN hl hret
  have hl : lv_has ls 2 [(0, .ref rd)] := hl
  obtain ⟨RES, hE⟩ : ∃ xRES, f_e_next_x5 r0 r1 r3 r4 r5 r6 ftx = xRES := ⟨_, rfl⟩
  rw [hE] at hret
  rw [f_e_next_x5] at hE
  refine lv_iconst (v := 0) hx hb dX5_next_0 (by decide) ?_
  refine lv_istore_n (lv' := [(1, .int 0), (0, .ref rd)]) hx hb dX5_next_1 rfl hl (by decide) rfl (fun ls hl => ?_)
  have ex_2_w_1 : ∀ (w_1l1 : Int32) (w_1m0 : Int32) (H : Heap) (locs : List Loc) (ls : Array Slot), va_P D classes [(rd, .inr (5, [.int r0, .int r1, .ref x, .int r3, .int w_1m0, .int r5, .int r6])), (x, .inl (cI, 240, .inl ftx))] H → va_D A [(rd, .inr (5, [.int r0, .int r1, .ref x, .int r3, .int w_1m0, .int r5, .int r6])), (x, .inl (cI, 240, .inl ftx))] → va_S A s.heap H locs → lv_has ls 2 [(1, .int w_1l1), (0, .ref rd)] → (((f_e_letter_x5 r0 r1 r3 w_1m0 r5 r6 ftx), w_1m0)) = RES → W p l e rm_e_next_x5 s m args below meth c H locs 0 0 Q (F0 m 34 ls []) := by
    intro w_1l1 w_1m0 H locs ls hP hD hS hl hE
    refine lv_aload_n hx hb dX5_next_34 rfl (lv_at hl 1 rfl) ?_
    refine cVi (wr := []) (rest := []) (e_letter_x5 rd x r0 r1 r3 w_1m0 r5 r6 ftx) okV_X5_letter wd_193 hx hb hml hown hts hK hP hD hS hA hN hl.1 [0, 1] [] rfl rfl rfl rfl (by decide) rfl rfl rfl (Nat.le_of_ble_eq_true rfl) (Nat.le_of_ble_eq_true rfl) (Nat.le_of_ble_eq_true rfl) (Nat.le_of_ble_eq_true rfl) (Nat.le_of_ble_eq_true rfl) dX5_next_35 (fun r_3 u_2 H locs hw_u_2 hP hD hS => ?_)
    replace hw_u_2 : r_3 = (f_e_letter_x5 r0 r1 r3 w_1m0 r5 r6 ftx) := hw_u_2
    rw [hw_u_2]
    clear hw_u_2
    have hP : va_P D classes [(rd, .inr (5, [.int r0, .int r1, .ref x, .int r3, .int w_1m0, .int r5, .int r6])), (x, .inl (cI, 240, .inl ftx))] H := hP
    have hD : va_D A [(rd, .inr (5, [.int r0, .int r1, .ref x, .int r3, .int w_1m0, .int r5, .int r6])), (x, .inl (cI, 240, .inl ftx))] := hD
    exact hret (f_e_letter_x5 r0 r1 r3 w_1m0 r5 r6 ftx) w_1m0 _ _ _ _ dX5_next_38 rfl hE hP hD hS
  have lp_2_w_1 : ∀ (n_w_1 : Nat) (w_1l1 : Int32) (w_1m0 : Int32) (H : Heap) (locs : List Loc) (ls : Array Slot), va_P D classes [(rd, .inr (5, [.int r0, .int r1, .ref x, .int r3, .int w_1m0, .int r5, .int r6])), (x, .inl (cI, 240, .inl ftx))] H → va_D A [(rd, .inr (5, [.int r0, .int r1, .ref x, .int r3, .int w_1m0, .int r5, .int r6])), (x, .inl (cI, 240, .inl ftx))] → va_S A s.heap H locs → lv_has ls 2 [(1, .int w_1l1), (0, .ref rd)] → ((240 : Int32).toInt - (w_1l1 : Int32).toInt).toNat < n_w_1 → (match (f_e_next_x5_2 r0 r1 r3 r4 r5 r6 ftx n_w_1 w_1l1 w_1m0) with | (w_1l1, w_1m0) => ((f_e_letter_x5 r0 r1 r3 w_1m0 r5 r6 ftx), w_1m0)) = RES → W p l e rm_e_next_x5 s m args below meth c H locs 0 0 Q (F0 m 2 ls []) := by
    intro n_w_1
    induction n_w_1 with
    | zero => intro w_1l1 w_1m0 H locs ls hP hD hS hl hm; exact absurd hm (Nat.not_lt_zero _)
    | succ n_w_1 ih_w_1 =>
      intro w_1l1 w_1m0 H locs ls hP hD hS hl hm hE
      rw [f_e_next_x5_2_s] at hE
      refine lv_iload_n hx hb dX5_next_2 rfl (lv_at hl 0 rfl) ?_
      refine lv_sipush (v := 240) hx hb dX5_next_3 (by decide) ?_
      refine lv_icmp_ge (tgt := 34) hx hb dX5_next_6 (by decide) (fun c_4 => ?_) (fun c_4 => ?_)
      · rw [if_pos c_4] at hE
        exact ex_2_w_1 w_1l1 w_1m0 _ _ ls hP hD hS (lv_sub hl [0, 1] rfl) hE
      · rw [if_neg c_4] at hE
        refine lv_aload_n hx hb dX5_next_9 rfl (lv_at hl 1 rfl) ?_
        refine cVi (wr := []) (rest := []) (e_letter_x5 rd x r0 r1 r3 w_1m0 r5 r6 ftx) okV_X5_letter wd_193 hx hb hml hown hts hK hP hD hS hA hN hl.1 [0, 1] [] rfl rfl rfl rfl (by decide) rfl rfl rfl (Nat.le_of_ble_eq_true rfl) (Nat.le_of_ble_eq_true rfl) (Nat.le_of_ble_eq_true rfl) (Nat.le_of_ble_eq_true rfl) (Nat.le_of_ble_eq_true rfl) dX5_next_10 (fun r_6 u_5 H locs hw_u_5 hP hD hS => ?_)
        replace hw_u_5 : r_6 = (f_e_letter_x5 r0 r1 r3 w_1m0 r5 r6 ftx) := hw_u_5
        rw [hw_u_5]
        clear hw_u_5
        have hP : va_P D classes [(rd, .inr (5, [.int r0, .int r1, .ref x, .int r3, .int w_1m0, .int r5, .int r6])), (x, .inl (cI, 240, .inl ftx))] H := hP
        have hD : va_D A [(rd, .inr (5, [.int r0, .int r1, .ref x, .int r3, .int w_1m0, .int r5, .int r6])), (x, .inl (cI, 240, .inl ftx))] := hD
        refine lv_bipush (v := 32) hx hb dX5_next_13 (by decide) ?_
        refine lv_icmp_ne (tgt := 34) hx hb dX5_next_15 (by decide) (fun c_7 => ?_) (fun c_7 => ?_)
        · rw [if_neg c_7] at hE
          exact ex_2_w_1 w_1l1 w_1m0 _ _ ls hP hD hS (lv_sub hl [0, 1] rfl) hE
        · rw [if_pos c_7] at hE
          refine lv_aload_n hx hb dX5_next_18 rfl (lv_at hl 1 rfl) ?_
          refine lv_dup hx hb dX5_next_19 rfl ?_
          refine va_get (D := D) (ci := 5) (v := .int w_1m0) (C := RX5) (T := TX5) (N := 7) hx hb hts iX5 hown hK hP 0 rfl rfl 4 (by decide) (hts _ wd_46) (fun _ h9 => h9) rfl dX5_next_20 ?_
          refine lv_iconst (v := 1) hx hb dX5_next_23 (by decide) ?_
          refine lv_iadd hx hb dX5_next_24 ?_
          refine va_put (D := D) (ci := 5) (v := .int (w_1m0 + 1)) (ty := .int) (C := RX5) (T := TX5) (N := 7) hx hb hts iX5 tyX5 tyX5_ok nmX5 hown hK hP hD hS 0 rfl rfl 4 (by decide) (hts _ wd_46) (fun _ h9 => h9) rfl (by decide +kernel) rfl rfl (Nat.le_of_ble_eq_true rfl) dX5_next_25 (fun H locs hP hD hS => ?_)
          have hP : va_P D classes [(rd, .inr (5, [.int r0, .int r1, .ref x, .int r3, .int (w_1m0 + 1), .int r5, .int r6])), (x, .inl (cI, 240, .inl ftx))] H := hP
          have hD : va_D A [(rd, .inr (5, [.int r0, .int r1, .ref x, .int r3, .int (w_1m0 + 1), .int r5, .int r6])), (x, .inl (cI, 240, .inl ftx))] := hD
          refine lv_iinc (v := (w_1l1 + 1)) (lv' := [(1, .int (w_1l1 + 1)), (0, .ref rd)]) hx hb dX5_next_28 hl (k := 0) rfl rfl (by decide) rfl (fun ls hl => ?_)
          refine lv_goto (tgt := 2) hx hb dX5_next_31 (by decide) ?_
          exact ih_w_1 (w_1l1 + 1) (w_1m0 + 1) _ _ ls hP hD hS (lv_sub hl [0, 1] rfl) (up_step c_4 hm) hE
  exact lp_2_w_1 (((240 : Int32).toInt - (0 : Int32).toInt).toNat + 1) 0 r4 _ _ ls hP hD hS hl (Nat.lt_succ_self _) hE
noncomputable def f_e_isFigure_x5 (r0 : Int32) (r1 : Int32) (r3 : Int32) (r4 : Int32) (r5 : Int32) (r6 : Int32) (c_ : Int32) : Int32 := (if c_ < 48 then 0 else (if 57 < c_ then 0 else 1))
def rm_e_isFigure_x5 : Room := { frames := 0, cells := 0, slots := 0, locals := 0 }
set_option maxHeartbeats 4000000 in
set_option maxRecDepth 100000 in
theorem e_isFigure_x5 {l : Launch} {D : va_G} {cI cZ : ClassId} {sz : Nat} (rd x : Nat) (r0 : Int32) (r1 : Int32) (r3 : Int32) (r4 : Int32) (r5 : Int32) (r6 : Int32) (c_ : Int32) : KI l yX5_isFigure cX5_isFigure 2 (some .boolean) rm_e_isFigure_x5 D cI cZ [.ref rd, .int c_] sz [(rd, .inr (5, [.int r0, .int r1, .ref x, .int r3, .int r4, .int r5, .int r6]))] (fun (r : Int32) (_ : Unit) => r = f_e_isFigure_x5 r0 r1 r3 r4 r5 r6 c_) (fun (_ : Unit) => [(rd, .inr (5, [.int r0, .int r1, .ref x, .int r3, .int r4, .int r5, .int r6]))]) := by
  refine KI.go rfl (Nat.le_of_ble_eq_true rfl) ?_
  intro p e s m args below meth c ls A Q hx hb hml hts hown hin hP hK hD hS hA hN hl hret
  have hl : lv_has ls 2 [(0, .ref rd), (1, .int c_)] := hl
  obtain ⟨RES, hE⟩ : ∃ xRES, f_e_isFigure_x5 r0 r1 r3 r4 r5 r6 c_ = xRES := ⟨_, rfl⟩
  rw [hE] at hret
  rw [f_e_isFigure_x5] at hE
  refine lv_iload_n hx hb dX5_isFigure_0 rfl (lv_at hl 1 rfl) ?_
  refine lv_bipush (v := 48) hx hb dX5_isFigure_1 (by decide) ?_
  refine lv_icmp_lt (tgt := 16) hx hb dX5_isFigure_3 (by decide) (fun c_1 => ?_) (fun c_1 => ?_)
  · rw [if_pos c_1] at hE
    refine lv_iconst (v := 0) hx hb dX5_isFigure_16 (by decide) ?_
    exact hret 0 () _ _ _ _ dX5_isFigure_17 rfl hE hP hD hS
  · rw [if_neg c_1] at hE
    refine lv_iload_n hx hb dX5_isFigure_6 rfl (lv_at hl 1 rfl) ?_
    refine lv_bipush (v := 57) hx hb dX5_isFigure_7 (by decide) ?_
    refine lv_icmp_gt (tgt := 16) hx hb dX5_isFigure_9 (by decide) (fun c_2 => ?_) (fun c_2 => ?_)
    · rw [if_pos c_2] at hE
      refine lv_iconst (v := 0) hx hb dX5_isFigure_16 (by decide) ?_
      exact hret 0 () _ _ _ _ dX5_isFigure_17 rfl hE hP hD hS
    · rw [if_neg c_2] at hE
      refine lv_iconst (v := 1) hx hb dX5_isFigure_12 (by decide) ?_
      refine lv_goto (tgt := 17) hx hb dX5_isFigure_13 (by decide) ?_
      exact hret 1 () _ _ _ _ dX5_isFigure_17 rfl hE hP hD hS
noncomputable def f_e_blame_x5 (r0 : Int32) (r1 : Int32) (r3 : Int32) (r4 : Int32) (r5 : Int32) (r6 : Int32) (c_ : Int32) (w_ : Int32) : Int32 × Int32 := (c_, w_)
def rm_e_blame_x5 : Room := { frames := 0, cells := 0, slots := 0, locals := 0 }
set_option maxHeartbeats 4000000 in
set_option maxRecDepth 100000 in
theorem e_blame_x5 {l : Launch} {D : va_G} {cI cZ : ClassId} {sz : Nat} (rd x : Nat) (r0 : Int32) (r1 : Int32) (r3 : Int32) (r4 : Int32) (r5 : Int32) (r6 : Int32) (c_ : Int32) (w_ : Int32) : KV l yX5_blame cX5_blame 3 rm_e_blame_x5 D cI cZ [.ref rd, .int c_, .int w_] sz [(rd, .inr (5, [.int r0, .int r1, .ref x, .int r3, .int r4, .int r5, .int r6]))] (fun (u : Int32 × Int32) => u = f_e_blame_x5 r0 r1 r3 r4 r5 r6 c_ w_) (fun (u : Int32 × Int32) => [(rd, .inr (5, [.int (u.1), .int (u.2), .ref x, .int r3, .int r4, .int r5, .int r6]))]) := by
  refine KV.go rfl (Nat.le_of_ble_eq_true rfl) ?_
  intro p e s m args below meth c ls A Q hx hb hml hts hown hin hP hK hD hS hA hN hl hret
  have hl : lv_has ls 3 [(0, .ref rd), (1, .int c_), (2, .int w_)] := hl
  obtain ⟨RES, hE⟩ : ∃ xRES, f_e_blame_x5 r0 r1 r3 r4 r5 r6 c_ w_ = xRES := ⟨_, rfl⟩
  rw [hE] at hret
  rw [f_e_blame_x5] at hE
  refine lv_aload_n hx hb dX5_blame_0 rfl (lv_at hl 0 rfl) ?_
  refine lv_iload_n hx hb dX5_blame_1 rfl (lv_at hl 1 rfl) ?_
  refine va_put (D := D) (ci := 5) (v := .int c_) (ty := .int) (C := RX5) (T := TX5) (N := 7) hx hb hts iX5 tyX5 tyX5_ok nmX5 hown hK hP hD hS 0 rfl rfl 0 (by decide) (hts _ wd_42) (fun _ h9 => h9) rfl (by decide +kernel) rfl rfl (Nat.le_of_ble_eq_true rfl) dX5_blame_2 (fun H locs hP hD hS => ?_)
  have hP : va_P D classes [(rd, .inr (5, [.int c_, .int r1, .ref x, .int r3, .int r4, .int r5, .int r6]))] H := hP
  have hD : va_D A [(rd, .inr (5, [.int c_, .int r1, .ref x, .int r3, .int r4, .int r5, .int r6]))] := hD
  refine lv_aload_n hx hb dX5_blame_5 rfl (lv_at hl 0 rfl) ?_
  refine lv_iload_n hx hb dX5_blame_6 rfl (lv_at hl 2 rfl) ?_
  refine va_put (D := D) (ci := 5) (v := .int w_) (ty := .int) (C := RX5) (T := TX5) (N := 7) hx hb hts iX5 tyX5 tyX5_ok nmX5 hown hK hP hD hS 0 rfl rfl 1 (by decide) (hts _ wd_43) (fun _ h9 => h9) rfl (by decide +kernel) rfl rfl (Nat.le_of_ble_eq_true rfl) dX5_blame_7 (fun H locs hP hD hS => ?_)
  have hP : va_P D classes [(rd, .inr (5, [.int c_, .int w_, .ref x, .int r3, .int r4, .int r5, .int r6]))] H := hP
  have hD : va_D A [(rd, .inr (5, [.int c_, .int w_, .ref x, .int r3, .int r4, .int r5, .int r6]))] := hD
  exact hret (c_, w_) _ _ _ _ dX5_blame_10 hE hP hD hS
noncomputable def f_e_expect_x5 (r0 : Int32) (r1 : Int32) (r3 : Int32) (r4 : Int32) (r5 : Int32) (r6 : Int32) (ftx : Nat → Int32) (c_ : Int32) : Int32 × Int32 × Int32 := (if r0 = 0 then (match (f_e_next_x5 r0 r1 r3 r4 r5 r6 ftx) with | (r_3, u_2) => (if r_3 = c_ then (r0, r1, (u_2 + 1)) else (match (f_e_blame_x5 r0 r1 r3 u_2 r5 r6 1 u_2) with | (o_7, o_8) => (o_7, o_8, u_2)))) else (r0, r1, r4))
def rm_e_expect_x5 : Room := { frames := 2, cells := 0, slots := 0, locals := 41 }
set_option maxHeartbeats 4000000 in
set_option maxRecDepth 100000 in
theorem e_expect_x5 {l : Launch} {D : va_G} {cI cZ : ClassId} {sz : Nat} (rd x : Nat) (r0 : Int32) (r1 : Int32) (r3 : Int32) (r4 : Int32) (r5 : Int32) (r6 : Int32) (ftx : Nat → Int32) (c_ : Int32) : KV l yX5_expect cX5_expect 2 rm_e_expect_x5 D cI cZ [.ref rd, .int c_] sz [(rd, .inr (5, [.int r0, .int r1, .ref x, .int r3, .int r4, .int r5, .int r6])), (x, .inl (cI, 240, .inl ftx))] (fun (u : Int32 × Int32 × Int32) => u = f_e_expect_x5 r0 r1 r3 r4 r5 r6 ftx c_) (fun (u : Int32 × Int32 × Int32) => [(rd, .inr (5, [.int (u.1), .int (u.2.1), .ref x, .int r3, .int (u.2.2), .int r5, .int r6])), (x, .inl (cI, 240, .inl ftx))]) := by
  refine KV.go rfl (Nat.le_of_ble_eq_true rfl) ?_
  intro p e s m args below meth c ls A Q hx hb hml hts hown hin hP hK hD hS hA hN hl hret
  have hl : lv_has ls 2 [(0, .ref rd), (1, .int c_)] := hl
  obtain ⟨RES, hE⟩ : ∃ xRES, f_e_expect_x5 r0 r1 r3 r4 r5 r6 ftx c_ = xRES := ⟨_, rfl⟩
  rw [hE] at hret
  rw [f_e_expect_x5] at hE
  refine lv_aload_n hx hb dX5_expect_0 rfl (lv_at hl 0 rfl) ?_
  refine va_get (D := D) (ci := 5) (v := .int r0) (C := RX5) (T := TX5) (N := 7) hx hb hts iX5 hown hK hP 0 rfl rfl 0 (by decide) (hts _ wd_42) (fun _ h9 => h9) rfl dX5_expect_1 ?_
  refine lv_if_eq (tgt := 8) hx hb dX5_expect_4 (by decide) (fun c_1 => ?_) (fun c_1 => ?_)
  · rw [if_pos c_1] at hE
    refine lv_aload_n hx hb dX5_expect_8 rfl (lv_at hl 0 rfl) ?_
    refine cVi (wr := []) (rest := []) (e_next_x5 rd x r0 r1 r3 r4 r5 r6 ftx) okV_X5_next wd_197 hx hb hml hown hts hK hP hD hS hA hN hl.1 [0, 1] [] rfl rfl rfl rfl (by decide) rfl rfl rfl (Nat.le_of_ble_eq_true rfl) (Nat.le_of_ble_eq_true rfl) (Nat.le_of_ble_eq_true rfl) (Nat.le_of_ble_eq_true rfl) (Nat.le_of_ble_eq_true rfl) dX5_expect_9 (fun r_3 u_2 H locs hw_u_2 hP hD hS => ?_)
    replace hw_u_2 : (r_3, u_2) = (f_e_next_x5 r0 r1 r3 r4 r5 r6 ftx) := hw_u_2
    rw [← hw_u_2] at hE
    replace hE : (if r_3 = c_ then (r0, r1, (u_2 + 1)) else (match (f_e_blame_x5 r0 r1 r3 u_2 r5 r6 1 u_2) with | (o_7, o_8) => (o_7, o_8, u_2))) = RES := hE
    have hP : va_P D classes [(rd, .inr (5, [.int r0, .int r1, .ref x, .int r3, .int u_2, .int r5, .int r6])), (x, .inl (cI, 240, .inl ftx))] H := hP
    have hD : va_D A [(rd, .inr (5, [.int r0, .int r1, .ref x, .int r3, .int u_2, .int r5, .int r6])), (x, .inl (cI, 240, .inl ftx))] := hD
    refine lv_iload_n hx hb dX5_expect_12 rfl (lv_at hl 1 rfl) ?_
    refine lv_icmp_eq (tgt := 26) hx hb dX5_expect_13 (by decide) (fun c_4 => ?_) (fun c_4 => ?_)
    · rw [if_pos c_4] at hE
      refine lv_aload_n hx hb dX5_expect_26 rfl (lv_at hl 0 rfl) ?_
      refine lv_dup hx hb dX5_expect_27 rfl ?_
      refine va_get (D := D) (ci := 5) (v := .int u_2) (C := RX5) (T := TX5) (N := 7) hx hb hts iX5 hown hK hP 0 rfl rfl 4 (by decide) (hts _ wd_46) (fun _ h9 => h9) rfl dX5_expect_28 ?_
      refine lv_iconst (v := 1) hx hb dX5_expect_31 (by decide) ?_
      refine lv_iadd hx hb dX5_expect_32 ?_
      refine va_put (D := D) (ci := 5) (v := .int (u_2 + 1)) (ty := .int) (C := RX5) (T := TX5) (N := 7) hx hb hts iX5 tyX5 tyX5_ok nmX5 hown hK hP hD hS 0 rfl rfl 4 (by decide) (hts _ wd_46) (fun _ h9 => h9) rfl (by decide +kernel) rfl rfl (Nat.le_of_ble_eq_true rfl) dX5_expect_33 (fun H locs hP hD hS => ?_)
      have hP : va_P D classes [(rd, .inr (5, [.int r0, .int r1, .ref x, .int r3, .int (u_2 + 1), .int r5, .int r6])), (x, .inl (cI, 240, .inl ftx))] H := hP
      have hD : va_D A [(rd, .inr (5, [.int r0, .int r1, .ref x, .int r3, .int (u_2 + 1), .int r5, .int r6])), (x, .inl (cI, 240, .inl ftx))] := hD
      exact hret (r0, r1, (u_2 + 1)) _ _ _ _ dX5_expect_36 hE hP hD hS
    · rw [if_neg c_4] at hE
      refine lv_aload_n hx hb dX5_expect_16 rfl (lv_at hl 0 rfl) ?_
      refine lv_iconst (v := 1) hx hb dX5_expect_17 (by decide) ?_
      refine lv_aload_n hx hb dX5_expect_18 rfl (lv_at hl 0 rfl) ?_
      refine va_get (D := D) (ci := 5) (v := .int u_2) (C := RX5) (T := TX5) (N := 7) hx hb hts iX5 hown hK hP 0 rfl rfl 4 (by decide) (hts _ wd_46) (fun _ h9 => h9) rfl dX5_expect_19 ?_
      refine cVv (wr := [(x, .inl (cI, 240, .inl ftx))]) (rest := []) (e_blame_x5 rd x r0 r1 r3 u_2 r5 r6 1 u_2) okV_X5_blame wd_201 hx hb hml hown hts hK hP hD hS hA hN hl.1 [0] [1] rfl rfl rfl rfl (by decide) rfl rfl rfl (Nat.le_of_ble_eq_true rfl) (Nat.le_of_ble_eq_true rfl) (Nat.le_of_ble_eq_true rfl) (Nat.le_of_ble_eq_true rfl) (Nat.le_of_ble_eq_true rfl) dX5_expect_22 (fun u_5 H locs hw_u_5 hP hD hS => ?_)
      obtain ⟨o_7, o_8⟩ := u_5
      replace hw_u_5 : (o_7, o_8) = (f_e_blame_x5 r0 r1 r3 u_2 r5 r6 1 u_2) := hw_u_5
      rw [← hw_u_5] at hE
      replace hE : (o_7, o_8, u_2) = RES := hE
      have hP : va_P D classes [(x, .inl (cI, 240, .inl ftx)), (rd, .inr (5, [.int o_7, .int o_8, .ref x, .int r3, .int u_2, .int r5, .int r6]))] H := hP
      have hD : va_D A [(x, .inl (cI, 240, .inl ftx)), (rd, .inr (5, [.int o_7, .int o_8, .ref x, .int r3, .int u_2, .int r5, .int r6]))] := hD
      exact hret (o_7, o_8, u_2) _ _ _ _ dX5_expect_25 hE (cutP (isC := [1, 0]) hP rfl) (cutD (isC := [1, 0]) hD rfl rfl) hS
  · rw [if_neg c_1] at hE
    exact hret (r0, r1, r4) _ _ _ _ dX5_expect_7 hE hP hD hS
noncomputable def f_e_number_x5_42 (r0 : Int32) (r1 : Int32) (r3 : Int32) (r4 : Int32) (r5 : Int32) (r6 : Int32) (ftx : Nat → Int32) (lo_ : Int32) (hi_ : Int32) (n : Nat) : Int32 → Int32 → Int32 → Int32 → Int32 → Int32 × Int32 × Int32 × Int32 × Int32 := Nat.rec (motive := fun _ => Int32 → Int32 → Int32 → Int32 → Int32 → Int32 × Int32 × Int32 × Int32 × Int32) (fun w_7l5 w_7l4 w_7m0 w_7m1 w_7m2 => (w_7l5, w_7l4, w_7m0, w_7m1, w_7m2)) (fun n ih w_7l5 w_7l4 w_7m0 w_7m1 w_7m2 => (if 240 ≤ w_7l5 then (w_7l5, w_7l4, w_7m0, w_7m1, w_7m2) else (if (f_e_isFigure_x5 w_7m0 w_7m1 r3 w_7m2 r5 r6 (f_e_letter_x5 w_7m0 w_7m1 r3 w_7m2 r5 r6 ftx)) = 0 then (w_7l5, w_7l4, w_7m0, w_7m1, w_7m2) else (if 3 ≤ w_7l5 then (ih (w_7l5 + 1) w_7l4 w_7m0 w_7m1 (w_7m2 + 1)) else (ih (w_7l5 + 1) (((w_7l4 * 10) + (f_e_letter_x5 w_7m0 w_7m1 r3 w_7m2 r5 r6 ftx)) - 48) w_7m0 w_7m1 (w_7m2 + 1)))))) n
theorem f_e_number_x5_42_s (r0 : Int32) (r1 : Int32) (r3 : Int32) (r4 : Int32) (r5 : Int32) (r6 : Int32) (ftx : Nat → Int32) (lo_ : Int32) (hi_ : Int32) (n : Nat) (w_7l5 : Int32) (w_7l4 : Int32) (w_7m0 : Int32) (w_7m1 : Int32) (w_7m2 : Int32) : f_e_number_x5_42 r0 r1 r3 r4 r5 r6 ftx lo_ hi_ (n + 1) w_7l5 w_7l4 w_7m0 w_7m1 w_7m2 = (if 240 ≤ w_7l5 then (w_7l5, w_7l4, w_7m0, w_7m1, w_7m2) else (if (f_e_isFigure_x5 w_7m0 w_7m1 r3 w_7m2 r5 r6 (f_e_letter_x5 w_7m0 w_7m1 r3 w_7m2 r5 r6 ftx)) = 0 then (w_7l5, w_7l4, w_7m0, w_7m1, w_7m2) else (if 3 ≤ w_7l5 then (f_e_number_x5_42 r0 r1 r3 r4 r5 r6 ftx lo_ hi_ n (w_7l5 + 1) w_7l4 w_7m0 w_7m1 (w_7m2 + 1)) else (f_e_number_x5_42 r0 r1 r3 r4 r5 r6 ftx lo_ hi_ n (w_7l5 + 1) (((w_7l4 * 10) + (f_e_letter_x5 w_7m0 w_7m1 r3 w_7m2 r5 r6 ftx)) - 48) w_7m0 w_7m1 (w_7m2 + 1))))) := rfl
noncomputable def f_e_number_x5 (r0 : Int32) (r1 : Int32) (r3 : Int32) (r4 : Int32) (r5 : Int32) (r6 : Int32) (ftx : Nat → Int32) (lo_ : Int32) (hi_ : Int32) : Int32 × Int32 × Int32 × Int32 := (if r0 = 0 then (match (f_e_next_x5 r0 r1 r3 r4 r5 r6 ftx) with | (r_3, u_2) => (if (f_e_isFigure_x5 r0 r1 r3 u_2 r5 r6 r_3) = 0 then (match (f_e_blame_x5 r0 r1 r3 u_2 r5 r6 1 u_2) with | (o_34, o_35) => (lo_, o_34, o_35, u_2)) else (match (f_e_number_x5_42 r0 r1 r3 r4 r5 r6 ftx lo_ hi_ (((240 : Int32).toInt - (0 : Int32).toInt).toNat + 1) 0 0 r0 r1 u_2) with | (w_7l5, w_7l4, w_7m0, w_7m1, w_7m2) => (if 3 < (w_7m2 - u_2) then (match (f_e_blame_x5 w_7m0 w_7m1 r3 w_7m2 r5 r6 2 u_2) with | (o_11, o_12) => (lo_, o_11, o_12, w_7m2)) else (if w_7l4 < lo_ then (match (f_e_blame_x5 w_7m0 w_7m1 r3 w_7m2 r5 r6 2 u_2) with | (o_16, o_17) => (lo_, o_16, o_17, w_7m2)) else (if w_7l4 ≤ hi_ then (w_7l4, w_7m0, w_7m1, w_7m2) else (match (f_e_blame_x5 w_7m0 w_7m1 r3 w_7m2 r5 r6 2 u_2) with | (o_21, o_22) => (lo_, o_21, o_22, w_7m2)))))))) else (lo_, r0, r1, r4))
def rm_e_number_x5 : Room := { frames := 2, cells := 0, slots := 0, locals := 41 }
set_option maxHeartbeats 4000000 in
set_option maxRecDepth 100000 in
theorem e_number_x5 {l : Launch} {D : va_G} {cI cZ : ClassId} {sz : Nat} (rd x : Nat) (r0 : Int32) (r1 : Int32) (r3 : Int32) (r4 : Int32) (r5 : Int32) (r6 : Int32) (ftx : Nat → Int32) (lo_ : Int32) (hi_ : Int32) : KI l yX5_number cX5_number 6 (some .int) rm_e_number_x5 D cI cZ [.ref rd, .int lo_, .int hi_] sz [(rd, .inr (5, [.int r0, .int r1, .ref x, .int r3, .int r4, .int r5, .int r6])), (x, .inl (cI, 240, .inl ftx))] (fun (r : Int32) (u : Int32 × Int32 × Int32) => (r, u) = f_e_number_x5 r0 r1 r3 r4 r5 r6 ftx lo_ hi_) (fun (u : Int32 × Int32 × Int32) => [(rd, .inr (5, [.int (u.1), .int (u.2.1), .ref x, .int r3, .int (u.2.2), .int r5, .int r6])), (x, .inl (cI, 240, .inl ftx))]) := by
  refine KI.go rfl (Nat.le_of_ble_eq_true rfl) ?_
  intro p e s m args below meth c ls A Q hx hb hml hts hown hin hP hK hD hS hA hN hl hret
  have hl : lv_has ls 6 [(0, .ref rd), (1, .int lo_), (2, .int hi_)] := hl
  obtain ⟨RES, hE⟩ : ∃ xRES, f_e_number_x5 r0 r1 r3 r4 r5 r6 ftx lo_ hi_ = xRES := ⟨_, rfl⟩
  rw [hE] at hret
  rw [f_e_number_x5] at hE
  refine lv_aload_n hx hb dX5_number_0 rfl (lv_at hl 0 rfl) ?_
  refine va_get (D := D) (ci := 5) (v := .int r0) (C := RX5) (T := TX5) (N := 7) hx hb hts iX5 hown hK hP 0 rfl rfl 0 (by decide) (hts _ wd_42) (fun _ h9 => h9) rfl dX5_number_1 ?_
  refine lv_if_eq (tgt := 9) hx hb dX5_number_4 (by decide) (fun c_1 => ?_) (fun c_1 => ?_)
  · rw [if_pos c_1] at hE
    refine lv_aload_n hx hb dX5_number_9 rfl (lv_at hl 0 rfl) ?_
    refine lv_aload_n hx hb dX5_number_10 rfl (lv_at hl 0 rfl) ?_
    refine cVi (wr := []) (rest := [.ref rd]) (e_next_x5 rd x r0 r1 r3 r4 r5 r6 ftx) okV_X5_next wd_197 hx hb hml hown hts hK hP hD hS hA hN hl.1 [0, 1] [] rfl rfl rfl rfl (by decide) rfl rfl rfl (Nat.le_of_ble_eq_true rfl) (Nat.le_of_ble_eq_true rfl) (Nat.le_of_ble_eq_true rfl) (Nat.le_of_ble_eq_true rfl) (Nat.le_of_ble_eq_true rfl) dX5_number_11 (fun r_3 u_2 H locs hw_u_2 hP hD hS => ?_)
    replace hw_u_2 : (r_3, u_2) = (f_e_next_x5 r0 r1 r3 r4 r5 r6 ftx) := hw_u_2
    rw [← hw_u_2] at hE
    replace hE : (if (f_e_isFigure_x5 r0 r1 r3 u_2 r5 r6 r_3) = 0 then (match (f_e_blame_x5 r0 r1 r3 u_2 r5 r6 1 u_2) with | (o_34, o_35) => (lo_, o_34, o_35, u_2)) else (match (f_e_number_x5_42 r0 r1 r3 r4 r5 r6 ftx lo_ hi_ (((240 : Int32).toInt - (0 : Int32).toInt).toNat + 1) 0 0 r0 r1 u_2) with | (w_7l5, w_7l4, w_7m0, w_7m1, w_7m2) => (if 3 < (w_7m2 - u_2) then (match (f_e_blame_x5 w_7m0 w_7m1 r3 w_7m2 r5 r6 2 u_2) with | (o_11, o_12) => (lo_, o_11, o_12, w_7m2)) else (if w_7l4 < lo_ then (match (f_e_blame_x5 w_7m0 w_7m1 r3 w_7m2 r5 r6 2 u_2) with | (o_16, o_17) => (lo_, o_16, o_17, w_7m2)) else (if w_7l4 ≤ hi_ then (w_7l4, w_7m0, w_7m1, w_7m2) else (match (f_e_blame_x5 w_7m0 w_7m1 r3 w_7m2 r5 r6 2 u_2) with | (o_21, o_22) => (lo_, o_21, o_22, w_7m2))))))) = RES := hE
    have hP : va_P D classes [(rd, .inr (5, [.int r0, .int r1, .ref x, .int r3, .int u_2, .int r5, .int r6])), (x, .inl (cI, 240, .inl ftx))] H := hP
    have hD : va_D A [(rd, .inr (5, [.int r0, .int r1, .ref x, .int r3, .int u_2, .int r5, .int r6])), (x, .inl (cI, 240, .inl ftx))] := hD
    refine cVi (wr := [(x, .inl (cI, 240, .inl ftx))]) (rest := []) (e_isFigure_x5 rd x r0 r1 r3 u_2 r5 r6 r_3) okV_X5_isFigure wd_205 hx hb hml hown hts hK hP hD hS hA hN hl.1 [0] [1] rfl rfl rfl rfl (by decide) rfl rfl rfl (Nat.le_of_ble_eq_true rfl) (Nat.le_of_ble_eq_true rfl) (Nat.le_of_ble_eq_true rfl) (Nat.le_of_ble_eq_true rfl) (Nat.le_of_ble_eq_true rfl) dX5_number_14 (fun r_5 u_4 H locs hw_u_4 hP hD hS => ?_)
    replace hw_u_4 : r_5 = (f_e_isFigure_x5 r0 r1 r3 u_2 r5 r6 r_3) := hw_u_4
    rw [hw_u_4]
    clear hw_u_4
    have hP : va_P D classes [(x, .inl (cI, 240, .inl ftx)), (rd, .inr (5, [.int r0, .int r1, .ref x, .int r3, .int u_2, .int r5, .int r6]))] H := hP
    have hD : va_D A [(x, .inl (cI, 240, .inl ftx)), (rd, .inr (5, [.int r0, .int r1, .ref x, .int r3, .int u_2, .int r5, .int r6]))] := hD
    refine lv_if_ne (tgt := 31) hx hb dX5_number_17 (by decide) (fun c_6 => ?_) (fun c_6 => ?_)
    · rw [if_neg c_6] at hE
      refine lv_aload_n hx hb dX5_number_31 rfl (lv_at hl 0 rfl) ?_
      refine va_get (D := D) (ci := 5) (v := .int u_2) (C := RX5) (T := TX5) (N := 7) hx hb hts iX5 hown hK hP 1 rfl rfl 4 (by decide) (hts _ wd_46) (fun _ h9 => h9) rfl dX5_number_32 ?_
      refine lv_istore_n (lv' := [(3, .int u_2), (0, .ref rd), (1, .int lo_), (2, .int hi_)]) hx hb dX5_number_35 rfl hl (by decide) rfl (fun ls hl => ?_)
      refine lv_iconst (v := 0) hx hb dX5_number_36 (by decide) ?_
      refine lv_istore (lv' := [(4, .int 0), (3, .int u_2), (0, .ref rd), (1, .int lo_), (2, .int hi_)]) hx hb dX5_number_37 hl (by decide) rfl (fun ls hl => ?_)
      refine lv_iconst (v := 0) hx hb dX5_number_39 (by decide) ?_
      refine lv_istore (lv' := [(5, .int 0), (4, .int 0), (3, .int u_2), (0, .ref rd), (1, .int lo_), (2, .int hi_)]) hx hb dX5_number_40 hl (by decide) rfl (fun ls hl => ?_)
      have ex_42_w_7 : ∀ (w_7l5 : Int32) (w_7l4 : Int32) (w_7m0 : Int32) (w_7m1 : Int32) (w_7m2 : Int32) (H : Heap) (locs : List Loc) (ls : Array Slot), va_P D classes [(x, .inl (cI, 240, .inl ftx)), (rd, .inr (5, [.int w_7m0, .int w_7m1, .ref x, .int r3, .int w_7m2, .int r5, .int r6]))] H → va_D A [(x, .inl (cI, 240, .inl ftx)), (rd, .inr (5, [.int w_7m0, .int w_7m1, .ref x, .int r3, .int w_7m2, .int r5, .int r6]))] → va_S A s.heap H locs → lv_has ls 6 [(5, .int w_7l5), (4, .int w_7l4), (3, .int u_2), (0, .ref rd), (1, .int lo_), (2, .int hi_)] → ((if 3 < (w_7m2 - u_2) then (match (f_e_blame_x5 w_7m0 w_7m1 r3 w_7m2 r5 r6 2 u_2) with | (o_11, o_12) => (lo_, o_11, o_12, w_7m2)) else (if w_7l4 < lo_ then (match (f_e_blame_x5 w_7m0 w_7m1 r3 w_7m2 r5 r6 2 u_2) with | (o_16, o_17) => (lo_, o_16, o_17, w_7m2)) else (if w_7l4 ≤ hi_ then (w_7l4, w_7m0, w_7m1, w_7m2) else (match (f_e_blame_x5 w_7m0 w_7m1 r3 w_7m2 r5 r6 2 u_2) with | (o_21, o_22) => (lo_, o_21, o_22, w_7m2)))))) = RES → W p l e rm_e_number_x5 s m args below meth c H locs 0 0 Q (F0 m 103 ls []) := by
        intro w_7l5 w_7l4 w_7m0 w_7m1 w_7m2 H locs ls hP hD hS hl hE
        refine lv_aload_n hx hb dX5_number_103 rfl (lv_at hl 3 rfl) ?_
        refine va_get (D := D) (ci := 5) (v := .int w_7m2) (C := RX5) (T := TX5) (N := 7) hx hb hts iX5 hown hK hP 1 rfl rfl 4 (by decide) (hts _ wd_46) (fun _ h9 => h9) rfl dX5_number_104 ?_
        refine lv_iload_n hx hb dX5_number_107 rfl (lv_at hl 2 rfl) ?_
        refine lv_isub hx hb dX5_number_108 ?_
        refine lv_iconst (v := 3) hx hb dX5_number_109 (by decide) ?_
        refine lv_icmp_gt (tgt := 125) hx hb dX5_number_110 (by decide) (fun c_8 => ?_) (fun c_8 => ?_)
        · rw [if_pos c_8] at hE
          refine lv_aload_n hx hb dX5_number_125 rfl (lv_at hl 3 rfl) ?_
          refine lv_iconst (v := 2) hx hb dX5_number_126 (by decide) ?_
          refine lv_iload_n hx hb dX5_number_127 rfl (lv_at hl 2 rfl) ?_
          refine cVv (wr := [(x, .inl (cI, 240, .inl ftx))]) (rest := []) (e_blame_x5 rd x w_7m0 w_7m1 r3 w_7m2 r5 r6 2 u_2) okV_X5_blame wd_201 hx hb hml hown hts hK hP hD hS hA hN hl.1 [1] [0] rfl rfl rfl rfl (by decide) rfl rfl rfl (Nat.le_of_ble_eq_true rfl) (Nat.le_of_ble_eq_true rfl) (Nat.le_of_ble_eq_true rfl) (Nat.le_of_ble_eq_true rfl) (Nat.le_of_ble_eq_true rfl) dX5_number_128 (fun u_9 H locs hw_u_9 hP hD hS => ?_)
          obtain ⟨o_11, o_12⟩ := u_9
          replace hw_u_9 : (o_11, o_12) = (f_e_blame_x5 w_7m0 w_7m1 r3 w_7m2 r5 r6 2 u_2) := hw_u_9
          rw [← hw_u_9] at hE
          replace hE : (lo_, o_11, o_12, w_7m2) = RES := hE
          have hP : va_P D classes [(x, .inl (cI, 240, .inl ftx)), (rd, .inr (5, [.int o_11, .int o_12, .ref x, .int r3, .int w_7m2, .int r5, .int r6]))] H := hP
          have hD : va_D A [(x, .inl (cI, 240, .inl ftx)), (rd, .inr (5, [.int o_11, .int o_12, .ref x, .int r3, .int w_7m2, .int r5, .int r6]))] := hD
          refine lv_iload_n hx hb dX5_number_131 rfl (lv_at hl 4 rfl) ?_
          exact hret lo_ (o_11, o_12, w_7m2) _ _ _ _ dX5_number_132 rfl hE (cutP (isC := [1, 0]) hP rfl) (cutD (isC := [1, 0]) hD rfl rfl) hS
        · rw [if_neg c_8] at hE
          refine lv_iload hx hb dX5_number_113 (lv_at hl 1 rfl) ?_
          refine lv_iload_n hx hb dX5_number_115 rfl (lv_at hl 4 rfl) ?_
          refine lv_icmp_lt (tgt := 125) hx hb dX5_number_116 (by decide) (fun c_13 => ?_) (fun c_13 => ?_)
          · rw [if_pos c_13] at hE
            refine lv_aload_n hx hb dX5_number_125 rfl (lv_at hl 3 rfl) ?_
            refine lv_iconst (v := 2) hx hb dX5_number_126 (by decide) ?_
            refine lv_iload_n hx hb dX5_number_127 rfl (lv_at hl 2 rfl) ?_
            refine cVv (wr := [(x, .inl (cI, 240, .inl ftx))]) (rest := []) (e_blame_x5 rd x w_7m0 w_7m1 r3 w_7m2 r5 r6 2 u_2) okV_X5_blame wd_201 hx hb hml hown hts hK hP hD hS hA hN hl.1 [1] [0] rfl rfl rfl rfl (by decide) rfl rfl rfl (Nat.le_of_ble_eq_true rfl) (Nat.le_of_ble_eq_true rfl) (Nat.le_of_ble_eq_true rfl) (Nat.le_of_ble_eq_true rfl) (Nat.le_of_ble_eq_true rfl) dX5_number_128 (fun u_14 H locs hw_u_14 hP hD hS => ?_)
            obtain ⟨o_16, o_17⟩ := u_14
            replace hw_u_14 : (o_16, o_17) = (f_e_blame_x5 w_7m0 w_7m1 r3 w_7m2 r5 r6 2 u_2) := hw_u_14
            rw [← hw_u_14] at hE
            replace hE : (lo_, o_16, o_17, w_7m2) = RES := hE
            have hP : va_P D classes [(x, .inl (cI, 240, .inl ftx)), (rd, .inr (5, [.int o_16, .int o_17, .ref x, .int r3, .int w_7m2, .int r5, .int r6]))] H := hP
            have hD : va_D A [(x, .inl (cI, 240, .inl ftx)), (rd, .inr (5, [.int o_16, .int o_17, .ref x, .int r3, .int w_7m2, .int r5, .int r6]))] := hD
            refine lv_iload_n hx hb dX5_number_131 rfl (lv_at hl 4 rfl) ?_
            exact hret lo_ (o_16, o_17, w_7m2) _ _ _ _ dX5_number_132 rfl hE (cutP (isC := [1, 0]) hP rfl) (cutD (isC := [1, 0]) hD rfl rfl) hS
          · rw [if_neg c_13] at hE
            refine lv_iload hx hb dX5_number_119 (lv_at hl 1 rfl) ?_
            refine lv_iload_n hx hb dX5_number_121 rfl (lv_at hl 5 rfl) ?_
            refine lv_icmp_le (tgt := 133) hx hb dX5_number_122 (by decide) (fun c_18 => ?_) (fun c_18 => ?_)
            · rw [if_pos c_18] at hE
              refine lv_iload hx hb dX5_number_133 (lv_at hl 1 rfl) ?_
              exact hret w_7l4 (w_7m0, w_7m1, w_7m2) _ _ _ _ dX5_number_135 rfl hE (cutP (isC := [1, 0]) hP rfl) (cutD (isC := [1, 0]) hD rfl rfl) hS
            · rw [if_neg c_18] at hE
              refine lv_aload_n hx hb dX5_number_125 rfl (lv_at hl 3 rfl) ?_
              refine lv_iconst (v := 2) hx hb dX5_number_126 (by decide) ?_
              refine lv_iload_n hx hb dX5_number_127 rfl (lv_at hl 2 rfl) ?_
              refine cVv (wr := [(x, .inl (cI, 240, .inl ftx))]) (rest := []) (e_blame_x5 rd x w_7m0 w_7m1 r3 w_7m2 r5 r6 2 u_2) okV_X5_blame wd_201 hx hb hml hown hts hK hP hD hS hA hN hl.1 [1] [0] rfl rfl rfl rfl (by decide) rfl rfl rfl (Nat.le_of_ble_eq_true rfl) (Nat.le_of_ble_eq_true rfl) (Nat.le_of_ble_eq_true rfl) (Nat.le_of_ble_eq_true rfl) (Nat.le_of_ble_eq_true rfl) dX5_number_128 (fun u_19 H locs hw_u_19 hP hD hS => ?_)
              obtain ⟨o_21, o_22⟩ := u_19
              replace hw_u_19 : (o_21, o_22) = (f_e_blame_x5 w_7m0 w_7m1 r3 w_7m2 r5 r6 2 u_2) := hw_u_19
              rw [← hw_u_19] at hE
              replace hE : (lo_, o_21, o_22, w_7m2) = RES := hE
              have hP : va_P D classes [(x, .inl (cI, 240, .inl ftx)), (rd, .inr (5, [.int o_21, .int o_22, .ref x, .int r3, .int w_7m2, .int r5, .int r6]))] H := hP
              have hD : va_D A [(x, .inl (cI, 240, .inl ftx)), (rd, .inr (5, [.int o_21, .int o_22, .ref x, .int r3, .int w_7m2, .int r5, .int r6]))] := hD
              refine lv_iload_n hx hb dX5_number_131 rfl (lv_at hl 4 rfl) ?_
              exact hret lo_ (o_21, o_22, w_7m2) _ _ _ _ dX5_number_132 rfl hE (cutP (isC := [1, 0]) hP rfl) (cutD (isC := [1, 0]) hD rfl rfl) hS
      have lp_42_w_7 : ∀ (n_w_7 : Nat) (w_7l5 : Int32) (w_7l4 : Int32) (w_7m0 : Int32) (w_7m1 : Int32) (w_7m2 : Int32) (H : Heap) (locs : List Loc) (ls : Array Slot), va_P D classes [(x, .inl (cI, 240, .inl ftx)), (rd, .inr (5, [.int w_7m0, .int w_7m1, .ref x, .int r3, .int w_7m2, .int r5, .int r6]))] H → va_D A [(x, .inl (cI, 240, .inl ftx)), (rd, .inr (5, [.int w_7m0, .int w_7m1, .ref x, .int r3, .int w_7m2, .int r5, .int r6]))] → va_S A s.heap H locs → lv_has ls 6 [(5, .int w_7l5), (4, .int w_7l4), (3, .int u_2), (0, .ref rd), (1, .int lo_), (2, .int hi_)] → ((240 : Int32).toInt - (w_7l5 : Int32).toInt).toNat < n_w_7 → (match (f_e_number_x5_42 r0 r1 r3 r4 r5 r6 ftx lo_ hi_ n_w_7 w_7l5 w_7l4 w_7m0 w_7m1 w_7m2) with | (w_7l5, w_7l4, w_7m0, w_7m1, w_7m2) => (if 3 < (w_7m2 - u_2) then (match (f_e_blame_x5 w_7m0 w_7m1 r3 w_7m2 r5 r6 2 u_2) with | (o_11, o_12) => (lo_, o_11, o_12, w_7m2)) else (if w_7l4 < lo_ then (match (f_e_blame_x5 w_7m0 w_7m1 r3 w_7m2 r5 r6 2 u_2) with | (o_16, o_17) => (lo_, o_16, o_17, w_7m2)) else (if w_7l4 ≤ hi_ then (w_7l4, w_7m0, w_7m1, w_7m2) else (match (f_e_blame_x5 w_7m0 w_7m1 r3 w_7m2 r5 r6 2 u_2) with | (o_21, o_22) => (lo_, o_21, o_22, w_7m2)))))) = RES → W p l e rm_e_number_x5 s m args below meth c H locs 0 0 Q (F0 m 42 ls []) := by
        intro n_w_7
        induction n_w_7 with
        | zero => intro w_7l5 w_7l4 w_7m0 w_7m1 w_7m2 H locs ls hP hD hS hl hm; exact absurd hm (Nat.not_lt_zero _)
        | succ n_w_7 ih_w_7 =>
          intro w_7l5 w_7l4 w_7m0 w_7m1 w_7m2 H locs ls hP hD hS hl hm hE
          rw [f_e_number_x5_42_s] at hE
          refine lv_iload hx hb dX5_number_42 (lv_at hl 0 rfl) ?_
          refine lv_sipush (v := 240) hx hb dX5_number_44 (by decide) ?_
          refine lv_icmp_ge (tgt := 103) hx hb dX5_number_47 (by decide) (fun c_23 => ?_) (fun c_23 => ?_)
          · rw [if_pos c_23] at hE
            exact ex_42_w_7 w_7l5 w_7l4 w_7m0 w_7m1 w_7m2 _ _ ls hP hD hS (lv_sub hl [0, 1, 2, 3, 4, 5] rfl) hE
          · rw [if_neg c_23] at hE
            refine lv_aload_n hx hb dX5_number_50 rfl (lv_at hl 3 rfl) ?_
            refine lv_aload_n hx hb dX5_number_51 rfl (lv_at hl 3 rfl) ?_
            refine cVi (wr := []) (rest := [.ref rd]) (e_letter_x5 rd x w_7m0 w_7m1 r3 w_7m2 r5 r6 ftx) okV_X5_letter wd_193 hx hb hml hown hts hK hP hD hS hA hN hl.1 [1, 0] [] rfl rfl rfl rfl (by decide) rfl rfl rfl (Nat.le_of_ble_eq_true rfl) (Nat.le_of_ble_eq_true rfl) (Nat.le_of_ble_eq_true rfl) (Nat.le_of_ble_eq_true rfl) (Nat.le_of_ble_eq_true rfl) dX5_number_52 (fun r_25 u_24 H locs hw_u_24 hP hD hS => ?_)
            replace hw_u_24 : r_25 = (f_e_letter_x5 w_7m0 w_7m1 r3 w_7m2 r5 r6 ftx) := hw_u_24
            rw [hw_u_24]
            clear hw_u_24
            have hP : va_P D classes [(rd, .inr (5, [.int w_7m0, .int w_7m1, .ref x, .int r3, .int w_7m2, .int r5, .int r6])), (x, .inl (cI, 240, .inl ftx))] H := hP
            have hD : va_D A [(rd, .inr (5, [.int w_7m0, .int w_7m1, .ref x, .int r3, .int w_7m2, .int r5, .int r6])), (x, .inl (cI, 240, .inl ftx))] := hD
            refine cVi (wr := [(x, .inl (cI, 240, .inl ftx))]) (rest := []) (e_isFigure_x5 rd x w_7m0 w_7m1 r3 w_7m2 r5 r6 (f_e_letter_x5 w_7m0 w_7m1 r3 w_7m2 r5 r6 ftx)) okV_X5_isFigure wd_205 hx hb hml hown hts hK hP hD hS hA hN hl.1 [0] [1] rfl rfl rfl rfl (by decide) rfl rfl rfl (Nat.le_of_ble_eq_true rfl) (Nat.le_of_ble_eq_true rfl) (Nat.le_of_ble_eq_true rfl) (Nat.le_of_ble_eq_true rfl) (Nat.le_of_ble_eq_true rfl) dX5_number_55 (fun r_27 u_26 H locs hw_u_26 hP hD hS => ?_)
            replace hw_u_26 : r_27 = (f_e_isFigure_x5 w_7m0 w_7m1 r3 w_7m2 r5 r6 (f_e_letter_x5 w_7m0 w_7m1 r3 w_7m2 r5 r6 ftx)) := hw_u_26
            rw [hw_u_26]
            clear hw_u_26
            have hP : va_P D classes [(x, .inl (cI, 240, .inl ftx)), (rd, .inr (5, [.int w_7m0, .int w_7m1, .ref x, .int r3, .int w_7m2, .int r5, .int r6]))] H := hP
            have hD : va_D A [(x, .inl (cI, 240, .inl ftx)), (rd, .inr (5, [.int w_7m0, .int w_7m1, .ref x, .int r3, .int w_7m2, .int r5, .int r6]))] := hD
            refine lv_if_eq (tgt := 103) hx hb dX5_number_58 (by decide) (fun c_28 => ?_) (fun c_28 => ?_)
            · rw [if_pos c_28] at hE
              exact ex_42_w_7 w_7l5 w_7l4 w_7m0 w_7m1 w_7m2 _ _ ls hP hD hS (lv_sub hl [0, 1, 2, 3, 4, 5] rfl) hE
            · rw [if_neg c_28] at hE
              refine lv_iload hx hb dX5_number_61 (lv_at hl 0 rfl) ?_
              refine lv_iconst (v := 3) hx hb dX5_number_63 (by decide) ?_
              refine lv_icmp_ge (tgt := 83) hx hb dX5_number_64 (by decide) (fun c_29 => ?_) (fun c_29 => ?_)
              · rw [if_pos c_29] at hE
                refine lv_iload hx hb dX5_number_83 (lv_at hl 1 rfl) ?_
                refine lv_istore (lv' := [(4, .int w_7l4), (5, .int w_7l5), (3, .int u_2), (0, .ref rd), (1, .int lo_), (2, .int hi_)]) hx hb dX5_number_85 hl (by decide) rfl (fun ls hl => ?_)
                refine lv_aload_n hx hb dX5_number_87 rfl (lv_at hl 3 rfl) ?_
                refine lv_dup hx hb dX5_number_88 rfl ?_
                refine va_get (D := D) (ci := 5) (v := .int w_7m2) (C := RX5) (T := TX5) (N := 7) hx hb hts iX5 hown hK hP 1 rfl rfl 4 (by decide) (hts _ wd_46) (fun _ h9 => h9) rfl dX5_number_89 ?_
                refine lv_iconst (v := 1) hx hb dX5_number_92 (by decide) ?_
                refine lv_iadd hx hb dX5_number_93 ?_
                refine va_put (D := D) (ci := 5) (v := .int (w_7m2 + 1)) (ty := .int) (C := RX5) (T := TX5) (N := 7) hx hb hts iX5 tyX5 tyX5_ok nmX5 hown hK hP hD hS 1 rfl rfl 4 (by decide) (hts _ wd_46) (fun _ h9 => h9) rfl (by decide +kernel) rfl rfl (Nat.le_of_ble_eq_true rfl) dX5_number_94 (fun H locs hP hD hS => ?_)
                have hP : va_P D classes [(x, .inl (cI, 240, .inl ftx)), (rd, .inr (5, [.int w_7m0, .int w_7m1, .ref x, .int r3, .int (w_7m2 + 1), .int r5, .int r6]))] H := hP
                have hD : va_D A [(x, .inl (cI, 240, .inl ftx)), (rd, .inr (5, [.int w_7m0, .int w_7m1, .ref x, .int r3, .int (w_7m2 + 1), .int r5, .int r6]))] := hD
                refine lv_iinc (v := (w_7l5 + 1)) (lv' := [(5, .int (w_7l5 + 1)), (4, .int w_7l4), (3, .int u_2), (0, .ref rd), (1, .int lo_), (2, .int hi_)]) hx hb dX5_number_97 hl (k := 1) rfl rfl (by decide) rfl (fun ls hl => ?_)
                refine lv_goto (tgt := 42) hx hb dX5_number_100 (by decide) ?_
                exact ih_w_7 (w_7l5 + 1) w_7l4 w_7m0 w_7m1 (w_7m2 + 1) _ _ ls hP hD hS (lv_sub hl [0, 1, 2, 3, 4, 5] rfl) (up_step c_23 hm) hE
              · rw [if_neg c_29] at hE
                refine lv_iload hx hb dX5_number_67 (lv_at hl 1 rfl) ?_
                refine lv_bipush (v := 10) hx hb dX5_number_69 (by decide) ?_
                refine lv_imul hx hb dX5_number_71 ?_
                refine lv_aload_n hx hb dX5_number_72 rfl (lv_at hl 3 rfl) ?_
                refine cVi (wr := []) (rest := [.int (w_7l4 * 10)]) (e_letter_x5 rd x w_7m0 w_7m1 r3 w_7m2 r5 r6 ftx) okV_X5_letter wd_193 hx hb hml hown hts hK hP hD hS hA hN hl.1 [1, 0] [] rfl rfl rfl rfl (by decide) rfl rfl rfl (Nat.le_of_ble_eq_true rfl) (Nat.le_of_ble_eq_true rfl) (Nat.le_of_ble_eq_true rfl) (Nat.le_of_ble_eq_true rfl) (Nat.le_of_ble_eq_true rfl) dX5_number_73 (fun r_31 u_30 H locs hw_u_30 hP hD hS => ?_)
                replace hw_u_30 : r_31 = (f_e_letter_x5 w_7m0 w_7m1 r3 w_7m2 r5 r6 ftx) := hw_u_30
                rw [hw_u_30]
                clear hw_u_30
                have hP : va_P D classes [(rd, .inr (5, [.int w_7m0, .int w_7m1, .ref x, .int r3, .int w_7m2, .int r5, .int r6])), (x, .inl (cI, 240, .inl ftx))] H := hP
                have hD : va_D A [(rd, .inr (5, [.int w_7m0, .int w_7m1, .ref x, .int r3, .int w_7m2, .int r5, .int r6])), (x, .inl (cI, 240, .inl ftx))] := hD
                refine lv_iadd hx hb dX5_number_76 ?_
                refine lv_bipush (v := 48) hx hb dX5_number_77 (by decide) ?_
                refine lv_isub hx hb dX5_number_79 ?_
                refine lv_goto (tgt := 85) hx hb dX5_number_80 (by decide) ?_
                refine lv_istore (lv' := [(4, .int (((w_7l4 * 10) + (f_e_letter_x5 w_7m0 w_7m1 r3 w_7m2 r5 r6 ftx)) - 48)), (5, .int w_7l5), (3, .int u_2), (0, .ref rd), (1, .int lo_), (2, .int hi_)]) hx hb dX5_number_85 hl (by decide) rfl (fun ls hl => ?_)
                refine lv_aload_n hx hb dX5_number_87 rfl (lv_at hl 3 rfl) ?_
                refine lv_dup hx hb dX5_number_88 rfl ?_
                refine va_get (D := D) (ci := 5) (v := .int w_7m2) (C := RX5) (T := TX5) (N := 7) hx hb hts iX5 hown hK hP 0 rfl rfl 4 (by decide) (hts _ wd_46) (fun _ h9 => h9) rfl dX5_number_89 ?_
                refine lv_iconst (v := 1) hx hb dX5_number_92 (by decide) ?_
                refine lv_iadd hx hb dX5_number_93 ?_
                refine va_put (D := D) (ci := 5) (v := .int (w_7m2 + 1)) (ty := .int) (C := RX5) (T := TX5) (N := 7) hx hb hts iX5 tyX5 tyX5_ok nmX5 hown hK hP hD hS 0 rfl rfl 4 (by decide) (hts _ wd_46) (fun _ h9 => h9) rfl (by decide +kernel) rfl rfl (Nat.le_of_ble_eq_true rfl) dX5_number_94 (fun H locs hP hD hS => ?_)
                have hP : va_P D classes [(rd, .inr (5, [.int w_7m0, .int w_7m1, .ref x, .int r3, .int (w_7m2 + 1), .int r5, .int r6])), (x, .inl (cI, 240, .inl ftx))] H := hP
                have hD : va_D A [(rd, .inr (5, [.int w_7m0, .int w_7m1, .ref x, .int r3, .int (w_7m2 + 1), .int r5, .int r6])), (x, .inl (cI, 240, .inl ftx))] := hD
                refine lv_iinc (v := (w_7l5 + 1)) (lv' := [(5, .int (w_7l5 + 1)), (4, .int (((w_7l4 * 10) + (f_e_letter_x5 w_7m0 w_7m1 r3 w_7m2 r5 r6 ftx)) - 48)), (3, .int u_2), (0, .ref rd), (1, .int lo_), (2, .int hi_)]) hx hb dX5_number_97 hl (k := 1) rfl rfl (by decide) rfl (fun ls hl => ?_)
                refine lv_goto (tgt := 42) hx hb dX5_number_100 (by decide) ?_
                exact ih_w_7 (w_7l5 + 1) (((w_7l4 * 10) + (f_e_letter_x5 w_7m0 w_7m1 r3 w_7m2 r5 r6 ftx)) - 48) w_7m0 w_7m1 (w_7m2 + 1) _ _ ls (cutP (isC := [1, 0]) hP rfl) (cutD (isC := [1, 0]) hD rfl rfl) hS (lv_sub hl [0, 1, 2, 3, 4, 5] rfl) (up_step c_23 hm) hE
      exact lp_42_w_7 (((240 : Int32).toInt - (0 : Int32).toInt).toNat + 1) 0 0 r0 r1 u_2 _ _ ls hP hD hS hl (Nat.lt_succ_self _) hE
    · rw [if_pos c_6] at hE
      refine lv_aload_n hx hb dX5_number_20 rfl (lv_at hl 0 rfl) ?_
      refine lv_iconst (v := 1) hx hb dX5_number_21 (by decide) ?_
      refine lv_aload_n hx hb dX5_number_22 rfl (lv_at hl 0 rfl) ?_
      refine va_get (D := D) (ci := 5) (v := .int u_2) (C := RX5) (T := TX5) (N := 7) hx hb hts iX5 hown hK hP 1 rfl rfl 4 (by decide) (hts _ wd_46) (fun _ h9 => h9) rfl dX5_number_23 ?_
      refine cVv (wr := [(x, .inl (cI, 240, .inl ftx))]) (rest := []) (e_blame_x5 rd x r0 r1 r3 u_2 r5 r6 1 u_2) okV_X5_blame wd_201 hx hb hml hown hts hK hP hD hS hA hN hl.1 [1] [0] rfl rfl rfl rfl (by decide) rfl rfl rfl (Nat.le_of_ble_eq_true rfl) (Nat.le_of_ble_eq_true rfl) (Nat.le_of_ble_eq_true rfl) (Nat.le_of_ble_eq_true rfl) (Nat.le_of_ble_eq_true rfl) dX5_number_26 (fun u_32 H locs hw_u_32 hP hD hS => ?_)
      obtain ⟨o_34, o_35⟩ := u_32
      replace hw_u_32 : (o_34, o_35) = (f_e_blame_x5 r0 r1 r3 u_2 r5 r6 1 u_2) := hw_u_32
      rw [← hw_u_32] at hE
      replace hE : (lo_, o_34, o_35, u_2) = RES := hE
      have hP : va_P D classes [(x, .inl (cI, 240, .inl ftx)), (rd, .inr (5, [.int o_34, .int o_35, .ref x, .int r3, .int u_2, .int r5, .int r6]))] H := hP
      have hD : va_D A [(x, .inl (cI, 240, .inl ftx)), (rd, .inr (5, [.int o_34, .int o_35, .ref x, .int r3, .int u_2, .int r5, .int r6]))] := hD
      refine lv_iload_n hx hb dX5_number_29 rfl (lv_at hl 1 rfl) ?_
      exact hret lo_ (o_34, o_35, u_2) _ _ _ _ dX5_number_30 rfl hE (cutP (isC := [1, 0]) hP rfl) (cutD (isC := [1, 0]) hD rfl rfl) hS
  · rw [if_neg c_1] at hE
    refine lv_iload_n hx hb dX5_number_7 rfl (lv_at hl 1 rfl) ?_
    exact hret lo_ (r0, r1, r4) _ _ _ _ dX5_number_8 rfl hE hP hD hS
noncomputable def f_e_isTooOften_x5 (r0 : Int32) (r1 : Int32) (r3 : Int32) (r4 : Int32) (r5 : Int32) (r6 : Int32) (t0 : Int32) (t1 : Int32) (t2 : Int32) (t3 : Int32) (t4 : Int32) (c_ : Int32) : Int32 := (if c_ = 98 then (if t0 ≤ 0 then 0 else 1) else (if c_ = 99 then (if t2 < 6 then 0 else 1) else (if c_ = 116 then (if r5 = 0 then (if t2 ≤ 0 then 0 else 1) else 1) else (if c_ = 118 then (if t3 < 7 then 0 else 1) else r6))))
def rm_e_isTooOften_x5 : Room := { frames := 0, cells := 0, slots := 0, locals := 0 }
set_option maxHeartbeats 4000000 in
set_option maxRecDepth 100000 in
theorem e_isTooOften_x5 {l : Launch} {D : va_G} {cI cZ : ClassId} {sz : Nat} (rd x t ta tb tc td te : Nat) (r0 : Int32) (r1 : Int32) (r3 : Int32) (r4 : Int32) (r5 : Int32) (r6 : Int32) (t0 : Int32) (t1 : Int32) (t2 : Int32) (t3 : Int32) (t4 : Int32) (c_ : Int32) (h01 : r6 = 0 ∨ r6 = 1) : KI l yX5_isTooOften cX5_isTooOften 3 (some .boolean) rm_e_isTooOften_x5 D cI cZ [.ref rd, .int c_, .ref t] sz [(rd, .inr (5, [.int r0, .int r1, .ref x, .int r3, .int r4, .int r5, .int r6])), (t, .inr (8, [.int t0, .int t1, .int t2, .int t3, .int t4, .ref ta, .ref tb, .ref tc, .ref td, .ref te]))] (fun (r : Int32) (_ : Unit) => r = f_e_isTooOften_x5 r0 r1 r3 r4 r5 r6 t0 t1 t2 t3 t4 c_) (fun (_ : Unit) => [(rd, .inr (5, [.int r0, .int r1, .ref x, .int r3, .int r4, .int r5, .int r6])), (t, .inr (8, [.int t0, .int t1, .int t2, .int t3, .int t4, .ref ta, .ref tb, .ref tc, .ref td, .ref te]))]) := by
  refine KI.go rfl (Nat.le_of_ble_eq_true rfl) ?_
  intro p e s m args below meth c ls A Q hx hb hml hts hown hin hP hK hD hS hA hN hl hret
  have hl : lv_has ls 3 [(0, .ref rd), (1, .int c_), (2, .ref t)] := hl
  obtain ⟨RES, hE⟩ : ∃ xRES, f_e_isTooOften_x5 r0 r1 r3 r4 r5 r6 t0 t1 t2 t3 t4 c_ = xRES := ⟨_, rfl⟩
  rw [hE] at hret
  rw [f_e_isTooOften_x5] at hE
  refine lv_iload_n hx hb dX5_isTooOften_0 rfl (lv_at hl 1 rfl) ?_
  by_cases c_1 : c_ = 98
  · rw [if_pos c_1] at hE
    refine lv_lookup (off := 43) (tgt := 44) hx hb dX5_isTooOften_1 (by decide +kernel) (by rw [c_1]; decide +kernel) (by decide) ?_
    refine lv_aload_n hx hb dX5_isTooOften_44 rfl (lv_at hl 2 rfl) ?_
    refine va_get (D := D) (ci := 8) (v := .int t0) (C := RX8) (T := TX8) (N := 10) hx hb hts iX8 hown hK hP 1 rfl rfl 0 (by decide) (hts _ wd_209) (fun _ h9 => h9) rfl dX5_isTooOften_45 ?_
    refine lv_if_le (tgt := 55) hx hb dX5_isTooOften_48 (by decide) (fun c_2 => ?_) (fun c_2 => ?_)
    · rw [if_pos c_2] at hE
      refine lv_iconst (v := 0) hx hb dX5_isTooOften_55 (by decide) ?_
      exact hret 0 () _ _ _ _ dX5_isTooOften_56 rfl hE hP hD hS
    · rw [if_neg c_2] at hE
      refine lv_iconst (v := 1) hx hb dX5_isTooOften_51 (by decide) ?_
      refine lv_goto (tgt := 56) hx hb dX5_isTooOften_52 (by decide) ?_
      exact hret 1 () _ _ _ _ dX5_isTooOften_56 rfl hE hP hD hS
  · skip
    rw [if_neg c_1] at hE
    by_cases c_3 : c_ = 99
    · rw [if_pos c_3] at hE
      refine lv_lookup (off := 76) (tgt := 77) hx hb dX5_isTooOften_1 (by decide +kernel) (by rw [c_3]; decide +kernel) (by decide) ?_
      refine lv_aload_n hx hb dX5_isTooOften_77 rfl (lv_at hl 2 rfl) ?_
      refine va_get (D := D) (ci := 8) (v := .int t2) (C := RX8) (T := TX8) (N := 10) hx hb hts iX8 hown hK hP 1 rfl rfl 2 (by decide) (hts _ wd_210) (fun _ h9 => h9) rfl dX5_isTooOften_78 ?_
      refine lv_bipush (v := 6) hx hb dX5_isTooOften_81 (by decide) ?_
      refine lv_icmp_lt (tgt := 90) hx hb dX5_isTooOften_83 (by decide) (fun c_4 => ?_) (fun c_4 => ?_)
      · rw [if_pos c_4] at hE
        refine lv_iconst (v := 0) hx hb dX5_isTooOften_90 (by decide) ?_
        exact hret 0 () _ _ _ _ dX5_isTooOften_91 rfl hE hP hD hS
      · rw [if_neg c_4] at hE
        refine lv_iconst (v := 1) hx hb dX5_isTooOften_86 (by decide) ?_
        refine lv_goto (tgt := 91) hx hb dX5_isTooOften_87 (by decide) ?_
        exact hret 1 () _ _ _ _ dX5_isTooOften_91 rfl hE hP hD hS
    · skip
      rw [if_neg c_3] at hE
      by_cases c_5 : c_ = 116
      · rw [if_pos c_5] at hE
        refine lv_lookup (off := 56) (tgt := 57) hx hb dX5_isTooOften_1 (by decide +kernel) (by rw [c_5]; decide +kernel) (by decide) ?_
        refine lv_aload_n hx hb dX5_isTooOften_57 rfl (lv_at hl 0 rfl) ?_
        refine va_get (D := D) (ci := 5) (v := .int r5) (C := RX5) (T := TX5) (N := 7) hx hb hts iX5 hown hK hP 0 rfl rfl 5 (by decide) (hts _ wd_47) (fun _ h9 => h9) rfl dX5_isTooOften_58 ?_
        refine lv_if_ne (tgt := 71) hx hb dX5_isTooOften_61 (by decide) (fun c_6 => ?_) (fun c_6 => ?_)
        · rw [if_neg c_6] at hE
          refine lv_iconst (v := 1) hx hb dX5_isTooOften_71 (by decide) ?_
          refine lv_goto (tgt := 76) hx hb dX5_isTooOften_72 (by decide) ?_
          exact hret 1 () _ _ _ _ dX5_isTooOften_76 rfl hE hP hD hS
        · rw [if_pos c_6] at hE
          refine lv_aload_n hx hb dX5_isTooOften_64 rfl (lv_at hl 2 rfl) ?_
          refine va_get (D := D) (ci := 8) (v := .int t2) (C := RX8) (T := TX8) (N := 10) hx hb hts iX8 hown hK hP 1 rfl rfl 2 (by decide) (hts _ wd_210) (fun _ h9 => h9) rfl dX5_isTooOften_65 ?_
          refine lv_if_le (tgt := 75) hx hb dX5_isTooOften_68 (by decide) (fun c_7 => ?_) (fun c_7 => ?_)
          · rw [if_pos c_7] at hE
            refine lv_iconst (v := 0) hx hb dX5_isTooOften_75 (by decide) ?_
            exact hret 0 () _ _ _ _ dX5_isTooOften_76 rfl hE hP hD hS
          · rw [if_neg c_7] at hE
            refine lv_iconst (v := 1) hx hb dX5_isTooOften_71 (by decide) ?_
            refine lv_goto (tgt := 76) hx hb dX5_isTooOften_72 (by decide) ?_
            exact hret 1 () _ _ _ _ dX5_isTooOften_76 rfl hE hP hD hS
      · skip
        rw [if_neg c_5] at hE
        by_cases c_8 : c_ = 118
        · rw [if_pos c_8] at hE
          refine lv_lookup (off := 91) (tgt := 92) hx hb dX5_isTooOften_1 (by decide +kernel) (by rw [c_8]; decide +kernel) (by decide) ?_
          refine lv_aload_n hx hb dX5_isTooOften_92 rfl (lv_at hl 2 rfl) ?_
          refine va_get (D := D) (ci := 8) (v := .int t3) (C := RX8) (T := TX8) (N := 10) hx hb hts iX8 hown hK hP 1 rfl rfl 3 (by decide) (hts _ wd_211) (fun _ h9 => h9) rfl dX5_isTooOften_93 ?_
          refine lv_bipush (v := 7) hx hb dX5_isTooOften_96 (by decide) ?_
          refine lv_icmp_lt (tgt := 105) hx hb dX5_isTooOften_98 (by decide) (fun c_9 => ?_) (fun c_9 => ?_)
          · rw [if_pos c_9] at hE
            refine lv_iconst (v := 0) hx hb dX5_isTooOften_105 (by decide) ?_
            exact hret 0 () _ _ _ _ dX5_isTooOften_106 rfl hE hP hD hS
          · rw [if_neg c_9] at hE
            refine lv_iconst (v := 1) hx hb dX5_isTooOften_101 (by decide) ?_
            refine lv_goto (tgt := 106) hx hb dX5_isTooOften_102 (by decide) ?_
            exact hret 1 () _ _ _ _ dX5_isTooOften_106 rfl hE hP hD hS
        · skip
          rw [if_neg c_8] at hE
          refine lv_lookup (off := 106) (tgt := 107) hx hb dX5_isTooOften_1 (by decide +kernel) ((lv_osw c_1 rfl).trans ((lv_osw c_3 rfl).trans ((lv_osw c_5 rfl).trans ((lv_osw c_8 rfl).trans rfl)))) (by decide) ?_
          refine lv_aload_n hx hb dX5_isTooOften_107 rfl (lv_at hl 0 rfl) ?_
          refine va_get (D := D) (ci := 5) (v := .int r6) (C := RX5) (T := TX5) (N := 7) hx hb hts iX5 hown hK hP 0 rfl rfl 6 (by decide) (hts _ wd_48) (fun _ h9 => h9) rfl dX5_isTooOften_108 ?_
          exact hret r6 () _ _ _ _ dX5_isTooOften_111 (narrow_b01 h01) hE hP hD hS
