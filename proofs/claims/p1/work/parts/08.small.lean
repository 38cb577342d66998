theorem dX8_hasBridge_0 : decode cX8_hasBridge 0 = .ok (.iload_n 1, 1) := by decide +kernel
theorem dX8_hasBridge_1 : decode cX8_hasBridge 1 = .ok (.ifCond .lt 15, 3) := by decide +kernel
theorem dX8_hasBridge_16 : decode cX8_hasBridge 16 = .ok (.iconst 0, 1) := by decide +kernel
theorem dX8_hasBridge_17 : decode cX8_hasBridge 17 = .ok (.ireturn, 1) := by decide +kernel
theorem dX8_hasBridge_4 : decode cX8_hasBridge 4 = .ok (.iload_n 1, 1) := by decide +kernel
theorem dX8_hasBridge_5 : decode cX8_hasBridge 5 = .ok (.aload_n 0, 1) := by decide +kernel
theorem dX8_hasBridge_6 : decode cX8_hasBridge 6 = .ok (.getfield 9, 3) := by decide +kernel
theorem dX8_hasBridge_9 : decode cX8_hasBridge 9 = .ok (.if_icmp .ge 7, 3) := by decide +kernel
theorem dX8_hasBridge_12 : decode cX8_hasBridge 12 = .ok (.iconst 1, 1) := by decide +kernel
theorem dX8_hasBridge_13 : decode cX8_hasBridge 13 = .ok (.goto 4, 3) := by decide +kernel
theorem dX8_hasTheme_0 : decode cX8_hasTheme 0 = .ok (.iload_n 1, 1) := by decide +kernel
theorem dX8_hasTheme_1 : decode cX8_hasTheme 1 = .ok (.ifCond .lt 15, 3) := by decide +kernel
theorem dX8_hasTheme_16 : decode cX8_hasTheme 16 = .ok (.iconst 0, 1) := by decide +kernel
theorem dX8_hasTheme_17 : decode cX8_hasTheme 17 = .ok (.ireturn, 1) := by decide +kernel
theorem dX8_hasTheme_4 : decode cX8_hasTheme 4 = .ok (.iload_n 1, 1) := by decide +kernel
theorem dX8_hasTheme_5 : decode cX8_hasTheme 5 = .ok (.aload_n 0, 1) := by decide +kernel
theorem dX8_hasTheme_6 : decode cX8_hasTheme 6 = .ok (.getfield 15, 3) := by decide +kernel
theorem dX8_hasTheme_9 : decode cX8_hasTheme 9 = .ok (.if_icmp .ge 7, 3) := by decide +kernel
theorem dX8_hasTheme_12 : decode cX8_hasTheme 12 = .ok (.iconst 1, 1) := by decide +kernel
theorem dX8_hasTheme_13 : decode cX8_hasTheme 13 = .ok (.goto 4, 3) := by decide +kernel
theorem dX8_hasCouple_0 : decode cX8_hasCouple 0 = .ok (.iload_n 1, 1) := by decide +kernel
theorem dX8_hasCouple_1 : decode cX8_hasCouple 1 = .ok (.ifCond .lt 15, 3) := by decide +kernel
theorem dX8_hasCouple_16 : decode cX8_hasCouple 16 = .ok (.iconst 0, 1) := by decide +kernel
theorem dX8_hasCouple_17 : decode cX8_hasCouple 17 = .ok (.ireturn, 1) := by decide +kernel
theorem dX8_hasCouple_4 : decode cX8_hasCouple 4 = .ok (.iload_n 1, 1) := by decide +kernel
theorem dX8_hasCouple_5 : decode cX8_hasCouple 5 = .ok (.aload_n 0, 1) := by decide +kernel
theorem dX8_hasCouple_6 : decode cX8_hasCouple 6 = .ok (.getfield 18, 3) := by decide +kernel
theorem dX8_hasCouple_9 : decode cX8_hasCouple 9 = .ok (.if_icmp .ge 7, 3) := by decide +kernel
theorem dX8_hasCouple_12 : decode cX8_hasCouple 12 = .ok (.iconst 1, 1) := by decide +kernel
theorem dX8_hasCouple_13 : decode cX8_hasCouple 13 = .ok (.goto 4, 3) := by decide +kernel
theorem dX8_hasBarge_0 : decode cX8_hasBarge 0 = .ok (.iload_n 1, 1) := by decide +kernel
theorem dX8_hasBarge_1 : decode cX8_hasBarge 1 = .ok (.ifCond .lt 15, 3) := by decide +kernel
theorem dX8_hasBarge_16 : decode cX8_hasBarge 16 = .ok (.iconst 0, 1) := by decide +kernel
theorem dX8_hasBarge_17 : decode cX8_hasBarge 17 = .ok (.ireturn, 1) := by decide +kernel
theorem dX8_hasBarge_4 : decode cX8_hasBarge 4 = .ok (.iload_n 1, 1) := by decide +kernel
theorem dX8_hasBarge_5 : decode cX8_hasBarge 5 = .ok (.aload_n 0, 1) := by decide +kernel
theorem dX8_hasBarge_6 : decode cX8_hasBarge 6 = .ok (.getfield 21, 3) := by decide +kernel
theorem dX8_hasBarge_9 : decode cX8_hasBarge 9 = .ok (.if_icmp .ge 7, 3) := by decide +kernel
theorem dX8_hasBarge_12 : decode cX8_hasBarge 12 = .ok (.iconst 1, 1) := by decide +kernel
theorem dX8_hasBarge_13 : decode cX8_hasBarge 13 = .ok (.goto 4, 3) := by decide +kernel
theorem dX7_minutes_0 : decode cX7_minutes 0 = .ok (.aload_n 0, 1) := by decide +kernel
theorem dX7_minutes_1 : decode cX7_minutes 1 = .ok (.getfield 11, 3) := by decide +kernel
theorem dX7_minutes_4 : decode cX7_minutes 4 = .ok (.iconst 0, 1) := by decide +kernel
theorem dX7_minutes_5 : decode cX7_minutes 5 = .ok (.invokestatic 30, 3) := by decide +kernel
theorem wd_138 : Cond.code yX9_at cX9_at 2 (some .int) ∈ BG := BG_in (by decide +kernel) rfl
theorem wd_139 : Cond.static yX9_at ∈ BG := BG_in (by decide +kernel) rfl
theorem okS_X9_at : okS yX9_at cX9_at 2 (some .int) 2 := ⟨⟨wd_138, wd_71, by decide +kernel⟩, wd_139⟩
theorem dX7_minutes_8 : decode cX7_minutes 8 = .ok (.ireturn, 1) := by decide +kernel
theorem dX7_reconciledSet_0 : decode cX7_reconciledSet 0 = .ok (.aload_n 0, 1) := by decide +kernel
theorem dX7_reconciledSet_1 : decode cX7_reconciledSet 1 = .ok (.getfield 11, 3) := by decide +kernel
theorem dX7_reconciledSet_4 : decode cX7_reconciledSet 4 = .ok (.iconst 1, 1) := by decide +kernel
theorem dX7_reconciledSet_5 : decode cX7_reconciledSet 5 = .ok (.invokestatic 30, 3) := by decide +kernel
theorem dX7_reconciledSet_8 : decode cX7_reconciledSet 8 = .ok (.ireturn, 1) := by decide +kernel
theorem dX7_grievanceOf_0 : decode cX7_grievanceOf 0 = .ok (.aload_n 0, 1) := by decide +kernel
theorem dX7_grievanceOf_1 : decode cX7_grievanceOf 1 = .ok (.getfield 11, 3) := by decide +kernel
theorem dX7_grievanceOf_4 : decode cX7_grievanceOf 4 = .ok (.iconst 2, 1) := by decide +kernel
theorem dX7_grievanceOf_5 : decode cX7_grievanceOf 5 = .ok (.iload_n 1, 1) := by decide +kernel
theorem dX7_grievanceOf_6 : decode cX7_grievanceOf 6 = .ok (.iadd, 1) := by decide +kernel
theorem dX7_grievanceOf_7 : decode cX7_grievanceOf 7 = .ok (.invokestatic 30, 3) := by decide +kernel
theorem dX7_grievanceOf_10 : decode cX7_grievanceOf 10 = .ok (.ireturn, 1) := by decide +kernel
theorem dX7_bridgeOf_0 : decode cX7_bridgeOf 0 = .ok (.aload_n 0, 1) := by decide +kernel
theorem dX7_bridgeOf_1 : decode cX7_bridgeOf 1 = .ok (.getfield 11, 3) := by decide +kernel
theorem dX7_bridgeOf_4 : decode cX7_bridgeOf 4 = .ok (.bipush 8, 2) := by decide +kernel
theorem dX7_bridgeOf_6 : decode cX7_bridgeOf 6 = .ok (.iload_n 1, 1) := by decide +kernel
theorem dX7_bridgeOf_7 : decode cX7_bridgeOf 7 = .ok (.iadd, 1) := by decide +kernel
theorem dX7_bridgeOf_8 : decode cX7_bridgeOf 8 = .ok (.invokestatic 30, 3) := by decide +kernel
theorem dX7_bridgeOf_11 : decode cX7_bridgeOf 11 = .ok (.ireturn, 1) := by decide +kernel
theorem dX7_themeOf_0 : decode cX7_themeOf 0 = .ok (.aload_n 0, 1) := by decide +kernel
theorem dX7_themeOf_1 : decode cX7_themeOf 1 = .ok (.getfield 11, 3) := by decide +kernel
theorem dX7_themeOf_4 : decode cX7_themeOf 4 = .ok (.bipush 14, 2) := by decide +kernel
theorem dX7_themeOf_6 : decode cX7_themeOf 6 = .ok (.iload_n 1, 1) := by decide +kernel
theorem dX7_themeOf_7 : decode cX7_themeOf 7 = .ok (.iadd, 1) := by decide +kernel
theorem dX7_themeOf_8 : decode cX7_themeOf 8 = .ok (.invokestatic 30, 3) := by decide +kernel
theorem dX7_themeOf_11 : decode cX7_themeOf 11 = .ok (.ireturn, 1) := by decide +kernel
theorem dX7_fateOf_0 : decode cX7_fateOf 0 = .ok (.aload_n 0, 1) := by decide +kernel
theorem dX7_fateOf_1 : decode cX7_fateOf 1 = .ok (.getfield 11, 3) := by decide +kernel
theorem dX7_fateOf_4 : decode cX7_fateOf 4 = .ok (.bipush 20, 2) := by decide +kernel
theorem dX7_fateOf_6 : decode cX7_fateOf 6 = .ok (.iload_n 1, 1) := by decide +kernel
theorem dX7_fateOf_7 : decode cX7_fateOf 7 = .ok (.iadd, 1) := by decide +kernel
theorem dX7_fateOf_8 : decode cX7_fateOf 8 = .ok (.invokestatic 30, 3) := by decide +kernel
theorem dX7_fateOf_11 : decode cX7_fateOf 11 = .ok (.ireturn, 1) := by decide +kernel
theorem dX7_bargesOfFate_0 : decode cX7_bargesOfFate 0 = .ok (.iconst 0, 1) := by decide +kernel
theorem dX7_bargesOfFate_1 : decode cX7_bargesOfFate 1 = .ok (.istore_n 2, 1) := by decide +kernel
theorem dX7_bargesOfFate_2 : decode cX7_bargesOfFate 2 = .ok (.iconst 0, 1) := by decide +kernel
theorem dX7_bargesOfFate_3 : decode cX7_bargesOfFate 3 = .ok (.istore_n 3, 1) := by decide +kernel
theorem dX7_bargesOfFate_4 : decode cX7_bargesOfFate 4 = .ok (.iload_n 3, 1) := by decide +kernel
theorem dX7_bargesOfFate_5 : decode cX7_bargesOfFate 5 = .ok (.bipush 7, 2) := by decide +kernel
theorem dX7_bargesOfFate_7 : decode cX7_bargesOfFate 7 = .ok (.if_icmp .ge 28, 3) := by decide +kernel
theorem dX7_bargesOfFate_10 : decode cX7_bargesOfFate 10 = .ok (.iload_n 2, 1) := by decide +kernel
theorem dX7_bargesOfFate_11 : decode cX7_bargesOfFate 11 = .ok (.aload_n 0, 1) := by decide +kernel
theorem dX7_bargesOfFate_12 : decode cX7_bargesOfFate 12 = .ok (.iload_n 3, 1) := by decide +kernel
theorem dX7_bargesOfFate_13 : decode cX7_bargesOfFate 13 = .ok (.invokevirtual 68, 3) := by decide +kernel
theorem wd_140 : Cond.methodLink RX7 68 yX7_fateOf ∈ BG := BG_in (by decide +kernel) rfl
theorem wd_141 : Cond.code yX7_fateOf cX7_fateOf 2 (some .int) ∈ BG := BG_in (by decide +kernel) rfl
theorem wd_142 : Cond.instanceMethod yX7_fateOf ∈ BG := BG_in (by decide +kernel) rfl
theorem wd_143 : Cond.selects RX7 yX7_fateOf yX7_fateOf ∈ BG := BG_in (by decide +kernel) rfl
theorem okV_X7_fateOf : okV yX7_fateOf cX7_fateOf 2 (some .int) 1 := ⟨⟨wd_141, wd_93, by decide +kernel⟩, wd_142, wd_143⟩
theorem dX7_bargesOfFate_16 : decode cX7_bargesOfFate 16 = .ok (.iload_n 1, 1) := by decide +kernel
theorem dX7_bargesOfFate_17 : decode cX7_bargesOfFate 17 = .ok (.if_icmp .ne 9, 3) := by decide +kernel
theorem dX7_bargesOfFate_20 : decode cX7_bargesOfFate 20 = .ok (.iconst 1, 1) := by decide +kernel
theorem dX7_bargesOfFate_21 : decode cX7_bargesOfFate 21 = .ok (.iload_n 3, 1) := by decide +kernel
theorem dX7_bargesOfFate_22 : decode cX7_bargesOfFate 22 = .ok (.ishl, 1) := by decide +kernel
theorem dX7_bargesOfFate_23 : decode cX7_bargesOfFate 23 = .ok (.goto 4, 3) := by decide +kernel
theorem dX7_bargesOfFate_27 : decode cX7_bargesOfFate 27 = .ok (.ior, 1) := by decide +kernel
theorem dX7_bargesOfFate_28 : decode cX7_bargesOfFate 28 = .ok (.istore_n 2, 1) := by decide +kernel
theorem dX7_bargesOfFate_29 : decode cX7_bargesOfFate 29 = .ok (.iinc 3 1, 3) := by decide +kernel
theorem dX7_bargesOfFate_32 : decode cX7_bargesOfFate 32 = .ok (.goto (-28), 3) := by decide +kernel
theorem dX7_bargesOfFate_35 : decode cX7_bargesOfFate 35 = .ok (.iload_n 2, 1) := by decide +kernel
theorem dX7_bargesOfFate_36 : decode cX7_bargesOfFate 36 = .ok (.ireturn, 1) := by decide +kernel
theorem dX7_bargesOfFate_26 : decode cX7_bargesOfFate 26 = .ok (.iconst 0, 1) := by decide +kernel
theorem dX7_grievanceOfSet_0 : decode cX7_grievanceOfSet 0 = .ok (.iconst 0, 1) := by decide +kernel
theorem dX7_grievanceOfSet_1 : decode cX7_grievanceOfSet 1 = .ok (.istore_n 2, 1) := by decide +kernel
theorem dX7_grievanceOfSet_2 : decode cX7_grievanceOfSet 2 = .ok (.iconst 0, 1) := by decide +kernel
theorem dX7_grievanceOfSet_3 : decode cX7_grievanceOfSet 3 = .ok (.istore_n 3, 1) := by decide +kernel
theorem dX7_grievanceOfSet_4 : decode cX7_grievanceOfSet 4 = .ok (.iload_n 3, 1) := by decide +kernel
theorem dX7_grievanceOfSet_5 : decode cX7_grievanceOfSet 5 = .ok (.bipush 6, 2) := by decide +kernel
theorem dX7_grievanceOfSet_7 : decode cX7_grievanceOfSet 7 = .ok (.if_icmp .ge 23, 3) := by decide +kernel
theorem dX7_grievanceOfSet_10 : decode cX7_grievanceOfSet 10 = .ok (.iload_n 2, 1) := by decide +kernel
theorem dX7_grievanceOfSet_11 : decode cX7_grievanceOfSet 11 = .ok (.iload_n 1, 1) := by decide +kernel
theorem dX7_grievanceOfSet_12 : decode cX7_grievanceOfSet 12 = .ok (.iload_n 3, 1) := by decide +kernel
theorem dX7_grievanceOfSet_13 : decode cX7_grievanceOfSet 13 = .ok (.ishr, 1) := by decide +kernel
theorem dX7_grievanceOfSet_14 : decode cX7_grievanceOfSet 14 = .ok (.iconst 1, 1) := by decide +kernel
theorem dX7_grievanceOfSet_15 : decode cX7_grievanceOfSet 15 = .ok (.iand, 1) := by decide +kernel
theorem dX7_grievanceOfSet_16 : decode cX7_grievanceOfSet 16 = .ok (.aload_n 0, 1) := by decide +kernel
theorem dX7_grievanceOfSet_17 : decode cX7_grievanceOfSet 17 = .ok (.iload_n 3, 1) := by decide +kernel
theorem dX7_grievanceOfSet_18 : decode cX7_grievanceOfSet 18 = .ok (.invokevirtual 49, 3) := by decide +kernel
theorem wd_144 : Cond.methodLink RX7 49 yX7_grievanceOf ∈ BG := BG_in (by decide +kernel) rfl
theorem wd_145 : Cond.code yX7_grievanceOf cX7_grievanceOf 2 (some .int) ∈ BG := BG_in (by decide +kernel) rfl
theorem wd_146 : Cond.instanceMethod yX7_grievanceOf ∈ BG := BG_in (by decide +kernel) rfl
theorem wd_147 : Cond.selects RX7 yX7_grievanceOf yX7_grievanceOf ∈ BG := BG_in (by decide +kernel) rfl
theorem okV_X7_grievanceOf : okV yX7_grievanceOf cX7_grievanceOf 2 (some .int) 1 := ⟨⟨wd_145, wd_93, by decide +kernel⟩, wd_146, wd_147⟩
theorem dX7_grievanceOfSet_21 : decode cX7_grievanceOfSet 21 = .ok (.imul, 1) := by decide +kernel
theorem dX7_grievanceOfSet_22 : decode cX7_grievanceOfSet 22 = .ok (.iadd, 1) := by decide +kernel
theorem dX7_grievanceOfSet_23 : decode cX7_grievanceOfSet 23 = .ok (.istore_n 2, 1) := by decide +kernel
theorem dX7_grievanceOfSet_24 : decode cX7_grievanceOfSet 24 = .ok (.iinc 3 1, 3) := by decide +kernel
theorem dX7_grievanceOfSet_27 : decode cX7_grievanceOfSet 27 = .ok (.goto (-23), 3) := by decide +kernel
theorem dX7_grievanceOfSet_30 : decode cX7_grievanceOfSet 30 = .ok (.iload_n 2, 1) := by decide +kernel
theorem dX7_grievanceOfSet_31 : decode cX7_grievanceOfSet 31 = .ok (.ireturn, 1) := by decide +kernel
theorem dX7_grievanceOfAll_0 : decode cX7_grievanceOfAll 0 = .ok (.aload_n 0, 1) := by decide +kernel
theorem dX7_grievanceOfAll_1 : decode cX7_grievanceOfAll 1 = .ok (.bipush 63, 2) := by decide +kernel
theorem dX7_grievanceOfAll_3 : decode cX7_grievanceOfAll 3 = .ok (.invokevirtual 53, 3) := by decide +kernel
theorem wd_148 : Cond.methodLink RX7 53 yX7_grievanceOfSet ∈ BG := BG_in (by decide +kernel) rfl
theorem wd_149 : Cond.code yX7_grievanceOfSet cX7_grievanceOfSet 4 (some .int) ∈ BG := BG_in (by decide +kernel) rfl
theorem wd_150 : Cond.instanceMethod yX7_grievanceOfSet ∈ BG := BG_in (by decide +kernel) rfl
theorem wd_151 : Cond.selects RX7 yX7_grievanceOfSet yX7_grievanceOfSet ∈ BG := BG_in (by decide +kernel) rfl
theorem okV_X7_grievanceOfSet : okV yX7_grievanceOfSet cX7_grievanceOfSet 4 (some .int) 1 := ⟨⟨wd_149, wd_93, by decide +kernel⟩, wd_150, wd_151⟩
theorem dX7_grievanceOfAll_6 : decode cX7_grievanceOfAll 6 = .ok (.ireturn, 1) := by decide +kernel
theorem dX7_coupleAt_0 : decode cX7_coupleAt 0 = .ok (.iconst 0, 1) := by decide +kernel
theorem dX7_coupleAt_1 : decode cX7_coupleAt 1 = .ok (.istore_n 2, 1) := by decide +kernel
theorem dX7_coupleAt_2 : decode cX7_coupleAt 2 = .ok (.iload_n 2, 1) := by decide +kernel
theorem dX7_coupleAt_3 : decode cX7_coupleAt 3 = .ok (.bipush 6, 2) := by decide +kernel
theorem dX7_coupleAt_5 : decode cX7_coupleAt 5 = .ok (.if_icmp .ge 20, 3) := by decide +kernel
theorem dX7_coupleAt_8 : decode cX7_coupleAt 8 = .ok (.aload_n 0, 1) := by decide +kernel
theorem dX7_coupleAt_9 : decode cX7_coupleAt 9 = .ok (.iload_n 2, 1) := by decide +kernel
theorem dX7_coupleAt_10 : decode cX7_coupleAt 10 = .ok (.invokevirtual 65, 3) := by decide +kernel
theorem wd_152 : Cond.methodLink RX7 65 yX7_bridgeOf ∈ BG := BG_in (by decide +kernel) rfl
theorem wd_153 : Cond.code yX7_bridgeOf cX7_bridgeOf 2 (some .int) ∈ BG := BG_in (by decide +kernel) rfl
theorem wd_154 : Cond.instanceMethod yX7_bridgeOf ∈ BG := BG_in (by decide +kernel) rfl
theorem wd_155 : Cond.selects RX7 yX7_bridgeOf yX7_bridgeOf ∈ BG := BG_in (by decide +kernel) rfl
theorem okV_X7_bridgeOf : okV yX7_bridgeOf cX7_bridgeOf 2 (some .int) 1 := ⟨⟨wd_153, wd_93, by decide +kernel⟩, wd_154, wd_155⟩
theorem dX7_coupleAt_13 : decode cX7_coupleAt 13 = .ok (.iload_n 1, 1) := by decide +kernel
theorem dX7_coupleAt_14 : decode cX7_coupleAt 14 = .ok (.if_icmp .ne 5, 3) := by decide +kernel
theorem dX7_coupleAt_19 : decode cX7_coupleAt 19 = .ok (.iinc 2 1, 3) := by decide +kernel
theorem dX7_coupleAt_22 : decode cX7_coupleAt 22 = .ok (.goto (-20), 3) := by decide +kernel
theorem dX7_coupleAt_25 : decode cX7_coupleAt 25 = .ok (.iconst (-1), 1) := by decide +kernel
theorem dX7_coupleAt_26 : decode cX7_coupleAt 26 = .ok (.ireturn, 1) := by decide +kernel
theorem dX8_needOfAll_0 : decode cX8_needOfAll 0 = .ok (.iconst 0, 1) := by decide +kernel
theorem dX8_needOfAll_1 : decode cX8_needOfAll 1 = .ok (.istore_n 1, 1) := by decide +kernel
theorem dX8_needOfAll_2 : decode cX8_needOfAll 2 = .ok (.iconst 0, 1) := by decide +kernel
theorem dX8_needOfAll_3 : decode cX8_needOfAll 3 = .ok (.istore_n 2, 1) := by decide +kernel
theorem dX8_needOfAll_4 : decode cX8_needOfAll 4 = .ok (.iload_n 2, 1) := by decide +kernel
theorem dX8_needOfAll_5 : decode cX8_needOfAll 5 = .ok (.aload_n 0, 1) := by decide +kernel
theorem dX8_needOfAll_6 : decode cX8_needOfAll 6 = .ok (.getfield 9, 3) := by decide +kernel
theorem dX8_needOfAll_9 : decode cX8_needOfAll 9 = .ok (.if_icmp .ge 20, 3) := by decide +kernel
theorem dX8_needOfAll_29 : decode cX8_needOfAll 29 = .ok (.iload_n 1, 1) := by decide +kernel
theorem dX8_needOfAll_30 : decode cX8_needOfAll 30 = .ok (.ireturn, 1) := by decide +kernel
theorem dX8_clear_0 : decode cX8_clear 0 = .ok (.aload_n 0, 1) := by decide +kernel
theorem dX8_clear_1 : decode cX8_clear 1 = .ok (.iconst 0, 1) := by decide +kernel
theorem dX8_clear_2 : decode cX8_clear 2 = .ok (.putfield 9, 3) := by decide +kernel
theorem dX8_clear_5 : decode cX8_clear 5 = .ok (.aload_n 0, 1) := by decide +kernel
theorem dX8_clear_6 : decode cX8_clear 6 = .ok (.iconst 1, 1) := by decide +kernel
theorem dX8_clear_7 : decode cX8_clear 7 = .ok (.putfield 15, 3) := by decide +kernel
theorem dX8_clear_10 : decode cX8_clear 10 = .ok (.aload_n 0, 1) := by decide +kernel
theorem dX8_clear_11 : decode cX8_clear 11 = .ok (.iconst 0, 1) := by decide +kernel
theorem dX8_clear_12 : decode cX8_clear 12 = .ok (.putfield 18, 3) := by decide +kernel
theorem dX8_clear_15 : decode cX8_clear 15 = .ok (.aload_n 0, 1) := by decide +kernel
theorem dX8_clear_16 : decode cX8_clear 16 = .ok (.iconst 0, 1) := by decide +kernel
theorem dX8_clear_17 : decode cX8_clear 17 = .ok (.putfield 21, 3) := by decide +kernel
theorem dX8_clear_20 : decode cX8_clear 20 = .ok (.aload_n 0, 1) := by decide +kernel
theorem dX8_clear_21 : decode cX8_clear 21 = .ok (.iconst 0, 1) := by decide +kernel
theorem dX8_clear_22 : decode cX8_clear 22 = .ok (.putfield 24, 3) := by decide +kernel
theorem dX8_clear_25 : decode cX8_clear 25 = .ok (.return_, 1) := by decide +kernel
theorem dX2_forget_0 : decode cX2_forget 0 = .ok (.aload_n 0, 1) := by decide +kernel
theorem dX2_forget_1 : decode cX2_forget 1 = .ok (.iconst 0, 1) := by decide +kernel
theorem dX2_forget_2 : decode cX2_forget 2 = .ok (.putfield 24, 3) := by decide +kernel
theorem dX2_forget_5 : decode cX2_forget 5 = .ok (.return_, 1) := by decide +kernel
theorem dX0_clear_0 : decode cX0_clear 0 = .ok (.aload_n 0, 1) := by decide +kernel
theorem dX0_clear_1 : decode cX0_clear 1 = .ok (.iconst 0, 1) := by decide +kernel
theorem dX0_clear_2 : decode cX0_clear 2 = .ok (.putfield 9, 3) := by decide +kernel
theorem dX0_clear_5 : decode cX0_clear 5 = .ok (.return_, 1) := by decide +kernel
theorem dX5_letter_0 : decode cX5_letter 0 = .ok (.aload_n 0, 1) := by decide +kernel
theorem dX5_letter_1 : decode cX5_letter 1 = .ok (.getfield 25, 3) := by decide +kernel
theorem dX5_letter_4 : decode cX5_letter 4 = .ok (.ifCond .lt 38, 3) := by decide +kernel
theorem dX5_letter_7 : decode cX5_letter 7 = .ok (.aload_n 0, 1) := by decide +kernel
theorem dX5_letter_8 : decode cX5_letter 8 = .ok (.getfield 25, 3) := by decide +kernel
theorem dX5_letter_11 : decode cX5_letter 11 = .ok (.aload_n 0, 1) := by decide +kernel
theorem dX5_letter_12 : decode cX5_letter 12 = .ok (.getfield 22, 3) := by decide +kernel
theorem dX5_letter_15 : decode cX5_letter 15 = .ok (.if_icmp .ge 27, 3) := by decide +kernel
theorem dX5_letter_42 : decode cX5_letter 42 = .ok (.iconst (-1), 1) := by decide +kernel
theorem dX5_letter_43 : decode cX5_letter 43 = .ok (.ireturn, 1) := by decide +kernel
theorem dX5_next_0 : decode cX5_next 0 = .ok (.iconst 0, 1) := by decide +kernel
theorem dX5_next_1 : decode cX5_next 1 = .ok (.istore_n 1, 1) := by decide +kernel
theorem dX5_next_2 : decode cX5_next 2 = .ok (.iload_n 1, 1) := by decide +kernel
theorem dX5_next_3 : decode cX5_next 3 = .ok (.sipush 240, 3) := by decide +kernel
theorem dX5_next_6 : decode cX5_next 6 = .ok (.if_icmp .ge 28, 3) := by decide +kernel
theorem dX5_next_9 : decode cX5_next 9 = .ok (.aload_n 0, 1) := by decide +kernel
theorem dX5_next_10 : decode cX5_next 10 = .ok (.invokevirtual 107, 3) := by decide +kernel
theorem wd_156 : Cond.methodLink RX5 107 yX5_letter ∈ BG := BG_in (by decide +kernel) rfl
theorem wd_157 : Cond.code yX5_letter cX5_letter 1 (some .int) ∈ BG := BG_in (by decide +kernel) rfl
theorem wd_158 : Cond.instanceMethod yX5_letter ∈ BG := BG_in (by decide +kernel) rfl
theorem wd_159 : Cond.selects RX5 yX5_letter yX5_letter ∈ BG := BG_in (by decide +kernel) rfl
theorem okV_X5_letter : okV yX5_letter cX5_letter 1 (some .int) 0 := ⟨⟨wd_157, wd_80, by decide +kernel⟩, wd_158, wd_159⟩
theorem dX5_next_13 : decode cX5_next 13 = .ok (.bipush 32, 2) := by decide +kernel
theorem dX5_next_15 : decode cX5_next 15 = .ok (.if_icmp .ne 19, 3) := by decide +kernel
theorem dX5_next_34 : decode cX5_next 34 = .ok (.aload_n 0, 1) := by decide +kernel
theorem dX5_next_35 : decode cX5_next 35 = .ok (.invokevirtual 107, 3) := by decide +kernel
theorem dX5_next_38 : decode cX5_next 38 = .ok (.ireturn, 1) := by decide +kernel
theorem dX5_read_0 : decode cX5_read 0 = .ok (.aload_n 0, 1) := by decide +kernel
theorem dX5_read_1 : decode cX5_read 1 = .ok (.aload_n 1, 1) := by decide +kernel
theorem dX5_read_2 : decode cX5_read 2 = .ok (.putfield 18, 3) := by decide +kernel
theorem dX5_read_5 : decode cX5_read 5 = .ok (.aload_n 0, 1) := by decide +kernel
theorem dX5_read_6 : decode cX5_read 6 = .ok (.iload_n 2, 1) := by decide +kernel
theorem dX5_read_7 : decode cX5_read 7 = .ok (.putfield 22, 3) := by decide +kernel
theorem dX5_read_10 : decode cX5_read 10 = .ok (.aload_n 0, 1) := by decide +kernel
theorem dX5_read_11 : decode cX5_read 11 = .ok (.iconst 0, 1) := by decide +kernel
theorem dX5_read_12 : decode cX5_read 12 = .ok (.putfield 25, 3) := by decide +kernel
theorem dX5_read_15 : decode cX5_read 15 = .ok (.aload_n 0, 1) := by decide +kernel
theorem dX5_read_16 : decode cX5_read 16 = .ok (.iconst 0, 1) := by decide +kernel
theorem dX5_read_17 : decode cX5_read 17 = .ok (.putfield 9, 3) := by decide +kernel
theorem dX5_read_20 : decode cX5_read 20 = .ok (.aload_n 0, 1) := by decide +kernel
theorem dX5_read_21 : decode cX5_read 21 = .ok (.iconst (-1), 1) := by decide +kernel
theorem dX5_read_22 : decode cX5_read 22 = .ok (.putfield 15, 3) := by decide +kernel
theorem dX5_read_25 : decode cX5_read 25 = .ok (.aload_n 0, 1) := by decide +kernel
theorem dX5_read_26 : decode cX5_read 26 = .ok (.iconst 0, 1) := by decide +kernel
theorem dX5_read_27 : decode cX5_read 27 = .ok (.putfield 28, 3) := by decide +kernel
theorem dX5_read_30 : decode cX5_read 30 = .ok (.aload_n 0, 1) := by decide +kernel
theorem dX5_read_31 : decode cX5_read 31 = .ok (.iconst 0, 1) := by decide +kernel
theorem dX5_read_32 : decode cX5_read 32 = .ok (.putfield 32, 3) := by decide +kernel
theorem dX5_read_35 : decode cX5_read 35 = .ok (.aload_n 3, 1) := by decide +kernel
theorem dX5_read_36 : decode cX5_read 36 = .ok (.invokevirtual 35, 3) := by decide +kernel
theorem wd_160 : Cond.methodLink RX5 35 yX8_clear ∈ BG := BG_in (by decide +kernel) rfl
theorem wd_161 : Cond.code yX8_clear cX8_clear 1 none ∈ BG := BG_in (by decide +kernel) rfl
theorem wd_162 : Cond.instanceMethod yX8_clear ∈ BG := BG_in (by decide +kernel) rfl
theorem wd_163 : Cond.selects RX8 yX8_clear yX8_clear ∈ BG := BG_in (by decide +kernel) rfl
theorem okV_X8_clear : okV yX8_clear cX8_clear 1 none 0 := ⟨⟨wd_161, wd_86, by decide +kernel⟩, wd_162, wd_163⟩
theorem dX5_read_39 : decode cX5_read 39 = .ok (.iconst 0, 1) := by decide +kernel
theorem dX5_read_40 : decode cX5_read 40 = .ok (.istore 4, 2) := by decide +kernel
theorem dX5_read_42 : decode cX5_read 42 = .ok (.iload 4, 2) := by decide +kernel
theorem dX5_read_44 : decode cX5_read 44 = .ok (.sipush 240, 3) := by decide +kernel
theorem dX5_read_47 : decode cX5_read 47 = .ok (.if_icmp .ge 29, 3) := by decide +kernel
theorem dX5_read_50 : decode cX5_read 50 = .ok (.aload_n 0, 1) := by decide +kernel
theorem dX5_read_51 : decode cX5_read 51 = .ok (.getfield 9, 3) := by decide +kernel
theorem dX5_read_54 : decode cX5_read 54 = .ok (.ifCond .ne 22, 3) := by decide +kernel
theorem dX5_read_57 : decode cX5_read 57 = .ok (.aload_n 0, 1) := by decide +kernel
theorem dX5_read_58 : decode cX5_read 58 = .ok (.invokevirtual 40, 3) := by decide +kernel
theorem wd_164 : Cond.methodLink RX5 40 yX5_next ∈ BG := BG_in (by decide +kernel) rfl
theorem wd_165 : Cond.code yX5_next cX5_next 2 (some .int) ∈ BG := BG_in (by decide +kernel) rfl
theorem wd_166 : Cond.instanceMethod yX5_next ∈ BG := BG_in (by decide +kernel) rfl
theorem wd_167 : Cond.selects RX5 yX5_next yX5_next ∈ BG := BG_in (by decide +kernel) rfl
theorem okV_X5_next : okV yX5_next cX5_next 2 (some .int) 0 := ⟨⟨wd_165, wd_80, by decide +kernel⟩, wd_166, wd_167⟩
theorem dX5_read_61 : decode cX5_read 61 = .ok (.iconst (-1), 1) := by decide +kernel
theorem dX5_read_62 : decode cX5_read 62 = .ok (.if_icmp .eq 14, 3) := by decide +kernel
theorem dX5_read_76 : decode cX5_read 76 = .ok (.return_, 1) := by decide +kernel
/-- is b one of n -/
def hasF (n b : Int32) : Int32 := if b < 0 ∨ n ≤ b then 0 else 1
theorem hasF_out {n b : Int32} (h : b < 0 ∨ n ≤ b) : 0 = hasF n b := (if_pos h).symm
theorem hasF_in {n b : Int32} (h1 : ¬ b < 0) (h2 : ¬ n ≤ b) : 1 = hasF n b := (if_neg (fun h => h.elim h1 h2)).symm
theorem hasF0 (b : Int32) : hasF 0 b = 0 := if_pos ((Int32.lt_or_le b 0))
theorem swc_0_13 {x : Int32} (h : ¬ (x.toInt < 0 ∨ 13 < x.toInt)) : x = 0 ∨ x = 1 ∨ x = 2 ∨ x = 3 ∨ x = 4 ∨ x = 5 ∨ x = 6 ∨ x = 7 ∨ x = 8 ∨ x = 9 ∨ x = 10 ∨ x = 11 ∨ x = 12 ∨ x = 13 := by
  have e : ∀ (k : Int32) (z : Int), k.toInt = z → x.toInt = z → x = k := fun k z h1 h2 => Int32.toInt_inj.mp (h2.trans h1.symm)
  have h3 : x.toInt = 0 ∨ x.toInt = 1 ∨ x.toInt = 2 ∨ x.toInt = 3 ∨ x.toInt = 4 ∨ x.toInt = 5 ∨ x.toInt = 6 ∨ x.toInt = 7 ∨ x.toInt = 8 ∨ x.toInt = 9 ∨ x.toInt = 10 ∨ x.toInt = 11 ∨ x.toInt = 12 ∨ x.toInt = 13 := by omega
  rcases h3 with h | h | h | h | h | h | h | h | h | h | h | h | h | h
  · exact Or.inl (e 0 _ rfl h)
  · exact Or.inr (Or.inl (e 1 _ rfl h))
  · exact Or.inr (Or.inr (Or.inl (e 2 _ rfl h)))
  · exact Or.inr (Or.inr (Or.inr (Or.inl (e 3 _ rfl h))))
  · exact Or.inr (Or.inr (Or.inr (Or.inr (Or.inl (e 4 _ rfl h)))))
  · exact Or.inr (Or.inr (Or.inr (Or.inr (Or.inr (Or.inl (e 5 _ rfl h))))))
  · exact Or.inr (Or.inr (Or.inr (Or.inr (Or.inr (Or.inr (Or.inl (e 6 _ rfl h)))))))
  · exact Or.inr (Or.inr (Or.inr (Or.inr (Or.inr (Or.inr (Or.inr (Or.inl (e 7 _ rfl h))))))))
  · exact Or.inr (Or.inr (Or.inr (Or.inr (Or.inr (Or.inr (Or.inr (Or.inr (Or.inl (e 8 _ rfl h)))))))))
  · exact Or.inr (Or.inr (Or.inr (Or.inr (Or.inr (Or.inr (Or.inr (Or.inr (Or.inr (Or.inl (e 9 _ rfl h))))))))))
  · exact Or.inr (Or.inr (Or.inr (Or.inr (Or.inr (Or.inr (Or.inr (Or.inr (Or.inr (Or.inr (Or.inl (e 10 _ rfl h)))))))))))
  · exact Or.inr (Or.inr (Or.inr (Or.inr (Or.inr (Or.inr (Or.inr (Or.inr (Or.inr (Or.inr (Or.inr (Or.inl (e 11 _ rfl h))))))))))))
  · exact Or.inr (Or.inr (Or.inr (Or.inr (Or.inr (Or.inr (Or.inr (Or.inr (Or.inr (Or.inr (Or.inr (Or.inr (Or.inl (e 12 _ rfl h)))))))))))))
  · exact Or.inr (Or.inr (Or.inr (Or.inr (Or.inr (Or.inr (Or.inr (Or.inr (Or.inr (Or.inr (Or.inr (Or.inr (Or.inr (e 13 _ rfl h)))))))))))))
def rm_k_hasBridge : Room := { frames := 0, cells := 0, slots := 0, locals := 0 }
set_option maxHeartbeats 4000000 in
set_option maxRecDepth 100000 in
theorem k_hasBridge {l : Launch} {D : va_G} {cI cZ : ClassId} {sz : Nat} (t : Nat) (t0 t1 t2 t3 t4 : Int32) (ta tb tc td te : Nat) (b : Int32) : KI l yX8_hasBridge cX8_hasBridge 2 (some .boolean) rm_k_hasBridge D cI cZ [.ref t, .int b] sz [(t, .inr (8, [.int t0, .int t1, .int t2, .int t3, .int t4, .ref ta, .ref tb, .ref tc, .ref td, .ref te]))] (fun (r : Int32) (_ : Unit) => r = hasF t0 b) (fun (_ : Unit) => [(t, .inr (8, [.int t0, .int t1, .int t2, .int t3, .int t4, .ref ta, .ref tb, .ref tc, .ref td, .ref te]))]) := by
  refine KI.go rfl (Nat.le_of_ble_eq_true rfl) ?_
  intro p e s m args below meth c ls A Q hx hb hml hts hown hin hP hK hD hS hA hN hl hret
  have hl : lv_has ls 2 [(0, .ref t), (1, .int b)] := hl
  refine lv_iload_n hx hb dX8_hasBridge_0 rfl (lv_at hl 1 rfl) ?_
  refine lv_if_lt (tgt := 16) hx hb dX8_hasBridge_1 (by decide) (fun c_1 => ?_) (fun c_1 => ?_)
  · refine lv_iconst (v := 0) hx hb dX8_hasBridge_16 (by decide) ?_
    exact hret 0 () _ _ _ _ dX8_hasBridge_17 rfl (hasF_out (Or.inl c_1)) hP hD hS
  · refine lv_iload_n hx hb dX8_hasBridge_4 rfl (lv_at hl 1 rfl) ?_
    refine lv_aload_n hx hb dX8_hasBridge_5 rfl (lv_at hl 0 rfl) ?_
    refine va_get (D := D) (ci := 8) (v := .int t0) (C := RX8) (T := TX8) (N := 10) hx hb hts iX8 hown hK hP 0 rfl rfl 0 (by decide) (hts _ wd_3) (fun _ h9 => h9) rfl dX8_hasBridge_6 ?_
    refine lv_icmp_ge (tgt := 16) hx hb dX8_hasBridge_9 (by decide) (fun c_2 => ?_) (fun c_2 => ?_)
    · refine lv_iconst (v := 0) hx hb dX8_hasBridge_16 (by decide) ?_
      exact hret 0 () _ _ _ _ dX8_hasBridge_17 rfl (hasF_out (Or.inr c_2)) hP hD hS
    · refine lv_iconst (v := 1) hx hb dX8_hasBridge_12 (by decide) ?_
      refine lv_goto (tgt := 17) hx hb dX8_hasBridge_13 (by decide) ?_
      exact hret 1 () _ _ _ _ dX8_hasBridge_17 rfl (hasF_in c_1 c_2) hP hD hS
def rm_k_hasTheme : Room := { frames := 0, cells := 0, slots := 0, locals := 0 }
set_option maxHeartbeats 4000000 in
set_option maxRecDepth 100000 in
theorem k_hasTheme {l : Launch} {D : va_G} {cI cZ : ClassId} {sz : Nat} (t : Nat) (t0 t1 t2 t3 t4 : Int32) (ta tb tc td te : Nat) (b : Int32) : KI l yX8_hasTheme cX8_hasTheme 2 (some .boolean) rm_k_hasTheme D cI cZ [.ref t, .int b] sz [(t, .inr (8, [.int t0, .int t1, .int t2, .int t3, .int t4, .ref ta, .ref tb, .ref tc, .ref td, .ref te]))] (fun (r : Int32) (_ : Unit) => r = hasF t1 b) (fun (_ : Unit) => [(t, .inr (8, [.int t0, .int t1, .int t2, .int t3, .int t4, .ref ta, .ref tb, .ref tc, .ref td, .ref te]))]) := by
  refine KI.go rfl (Nat.le_of_ble_eq_true rfl) ?_
  intro p e s m args below meth c ls A Q hx hb hml hts hown hin hP hK hD hS hA hN hl hret
  have hl : lv_has ls 2 [(0, .ref t), (1, .int b)] := hl
  refine lv_iload_n hx hb dX8_hasTheme_0 rfl (lv_at hl 1 rfl) ?_
  refine lv_if_lt (tgt := 16) hx hb dX8_hasTheme_1 (by decide) (fun c_1 => ?_) (fun c_1 => ?_)
  · refine lv_iconst (v := 0) hx hb dX8_hasTheme_16 (by decide) ?_
    exact hret 0 () _ _ _ _ dX8_hasTheme_17 rfl (hasF_out (Or.inl c_1)) hP hD hS
  · refine lv_iload_n hx hb dX8_hasTheme_4 rfl (lv_at hl 1 rfl) ?_
    refine lv_aload_n hx hb dX8_hasTheme_5 rfl (lv_at hl 0 rfl) ?_
    refine va_get (D := D) (ci := 8) (v := .int t1) (C := RX8) (T := TX8) (N := 10) hx hb hts iX8 hown hK hP 0 rfl rfl 1 (by decide) (hts _ wd_4) (fun _ h9 => h9) rfl dX8_hasTheme_6 ?_
    refine lv_icmp_ge (tgt := 16) hx hb dX8_hasTheme_9 (by decide) (fun c_2 => ?_) (fun c_2 => ?_)
    · refine lv_iconst (v := 0) hx hb dX8_hasTheme_16 (by decide) ?_
      exact hret 0 () _ _ _ _ dX8_hasTheme_17 rfl (hasF_out (Or.inr c_2)) hP hD hS
    · refine lv_iconst (v := 1) hx hb dX8_hasTheme_12 (by decide) ?_
      refine lv_goto (tgt := 17) hx hb dX8_hasTheme_13 (by decide) ?_
      exact hret 1 () _ _ _ _ dX8_hasTheme_17 rfl (hasF_in c_1 c_2) hP hD hS
def rm_k_hasCouple : Room := { frames := 0, cells := 0, slots := 0, locals := 0 }
set_option maxHeartbeats 4000000 in
set_option maxRecDepth 100000 in
theorem k_hasCouple {l : Launch} {D : va_G} {cI cZ : ClassId} {sz : Nat} (t : Nat) (t0 t1 t2 t3 t4 : Int32) (ta tb tc td te : Nat) (b : Int32) : KI l yX8_hasCouple cX8_hasCouple 2 (some .boolean) rm_k_hasCouple D cI cZ [.ref t, .int b] sz [(t, .inr (8, [.int t0, .int t1, .int t2, .int t3, .int t4, .ref ta, .ref tb, .ref tc, .ref td, .ref te]))] (fun (r : Int32) (_ : Unit) => r = hasF t2 b) (fun (_ : Unit) => [(t, .inr (8, [.int t0, .int t1, .int t2, .int t3, .int t4, .ref ta, .ref tb, .ref tc, .ref td, .ref te]))]) := by
  refine KI.go rfl (Nat.le_of_ble_eq_true rfl) ?_
  intro p e s m args below meth c ls A Q hx hb hml hts hown hin hP hK hD hS hA hN hl hret
  have hl : lv_has ls 2 [(0, .ref t), (1, .int b)] := hl
  refine lv_iload_n hx hb dX8_hasCouple_0 rfl (lv_at hl 1 rfl) ?_
  refine lv_if_lt (tgt := 16) hx hb dX8_hasCouple_1 (by decide) (fun c_1 => ?_) (fun c_1 => ?_)
  · refine lv_iconst (v := 0) hx hb dX8_hasCouple_16 (by decide) ?_
    exact hret 0 () _ _ _ _ dX8_hasCouple_17 rfl (hasF_out (Or.inl c_1)) hP hD hS
  · refine lv_iload_n hx hb dX8_hasCouple_4 rfl (lv_at hl 1 rfl) ?_
    refine lv_aload_n hx hb dX8_hasCouple_5 rfl (lv_at hl 0 rfl) ?_
    refine va_get (D := D) (ci := 8) (v := .int t2) (C := RX8) (T := TX8) (N := 10) hx hb hts iX8 hown hK hP 0 rfl rfl 2 (by decide) (hts _ wd_5) (fun _ h9 => h9) rfl dX8_hasCouple_6 ?_
    refine lv_icmp_ge (tgt := 16) hx hb dX8_hasCouple_9 (by decide) (fun c_2 => ?_) (fun c_2 => ?_)
    · refine lv_iconst (v := 0) hx hb dX8_hasCouple_16 (by decide) ?_
      exact hret 0 () _ _ _ _ dX8_hasCouple_17 rfl (hasF_out (Or.inr c_2)) hP hD hS
    · refine lv_iconst (v := 1) hx hb dX8_hasCouple_12 (by decide) ?_
      refine lv_goto (tgt := 17) hx hb dX8_hasCouple_13 (by decide) ?_
      exact hret 1 () _ _ _ _ dX8_hasCouple_17 rfl (hasF_in c_1 c_2) hP hD hS
def rm_k_hasBarge : Room := { frames := 0, cells := 0, slots := 0, locals := 0 }
set_option maxHeartbeats 4000000 in
set_option maxRecDepth 100000 in
theorem k_hasBarge {l : Launch} {D : va_G} {cI cZ : ClassId} {sz : Nat} (t : Nat) (t0 t1 t2 t3 t4 : Int32) (ta tb tc td te : Nat) (b : Int32) : KI l yX8_hasBarge cX8_hasBarge 2 (some .boolean) rm_k_hasBarge D cI cZ [.ref t, .int b] sz [(t, .inr (8, [.int t0, .int t1, .int t2, .int t3, .int t4, .ref ta, .ref tb, .ref tc, .ref td, .ref te]))] (fun (r : Int32) (_ : Unit) => r = hasF t3 b) (fun (_ : Unit) => [(t, .inr (8, [.int t0, .int t1, .int t2, .int t3, .int t4, .ref ta, .ref tb, .ref tc, .ref td, .ref te]))]) := by
  refine KI.go rfl (Nat.le_of_ble_eq_true rfl) ?_
  intro p e s m args below meth c ls A Q hx hb hml hts hown hin hP hK hD hS hA hN hl hret
  have hl : lv_has ls 2 [(0, .ref t), (1, .int b)] := hl
  refine lv_iload_n hx hb dX8_hasBarge_0 rfl (lv_at hl 1 rfl) ?_
  refine lv_if_lt (tgt := 16) hx hb dX8_hasBarge_1 (by decide) (fun c_1 => ?_) (fun c_1 => ?_)
  · refine lv_iconst (v := 0) hx hb dX8_hasBarge_16 (by decide) ?_
    exact hret 0 () _ _ _ _ dX8_hasBarge_17 rfl (hasF_out (Or.inl c_1)) hP hD hS
  · refine lv_iload_n hx hb dX8_hasBarge_4 rfl (lv_at hl 1 rfl) ?_
    refine lv_aload_n hx hb dX8_hasBarge_5 rfl (lv_at hl 0 rfl) ?_
    refine va_get (D := D) (ci := 8) (v := .int t3) (C := RX8) (T := TX8) (N := 10) hx hb hts iX8 hown hK hP 0 rfl rfl 3 (by decide) (hts _ wd_6) (fun _ h9 => h9) rfl dX8_hasBarge_6 ?_
    refine lv_icmp_ge (tgt := 16) hx hb dX8_hasBarge_9 (by decide) (fun c_2 => ?_) (fun c_2 => ?_)
    · refine lv_iconst (v := 0) hx hb dX8_hasBarge_16 (by decide) ?_
      exact hret 0 () _ _ _ _ dX8_hasBarge_17 rfl (hasF_out (Or.inr c_2)) hP hD hS
    · refine lv_iconst (v := 1) hx hb dX8_hasBarge_12 (by decide) ?_
      refine lv_goto (tgt := 17) hx hb dX8_hasBarge_13 (by decide) ?_
      exact hret 1 () _ _ _ _ dX8_hasBarge_17 rfl (hasF_in c_1 c_2) hP hD hS
def rm_k_minutes : Room := { frames := 1, cells := 0, slots := 0, locals := 21 }
set_option maxHeartbeats 4000000 in
set_option maxRecDepth 100000 in
theorem k_minutes {l : Launch} {D : va_G} {cI cZ : ClassId} {sz : Nat} (h a : Nat) (f : Nat → Int32) : KI l yX7_minutes cX7_minutes 1 (some .int) rm_k_minutes D cI cZ [.ref h] sz [(h, .inr (7, [.ref a])), (a, .inl (cI, 41, .inl f))] (fun (r : Int32) (_ : Unit) => r = atF 41 f 0) (fun (_ : Unit) => [(h, .inr (7, [.ref a])), (a, .inl (cI, 41, .inl f))]) := by
  refine KI.go rfl (Nat.le_of_ble_eq_true rfl) ?_
  intro p e s m args below meth c ls A Q hx hb hml hts hown hin hP hK hD hS hA hN hl hret
  have hl : lv_has ls 1 [(0, .ref h)] := hl
  refine lv_aload_n hx hb dX7_minutes_0 rfl (lv_at hl 0 rfl) ?_
  refine va_get (D := D) (ci := 7) (v := .ref a) (C := RX7) (T := TX7) (N := 1) hx hb hts iX7 hown hK hP 0 rfl rfl 0 (by decide) (hts _ wd_15) (fun _ h9 => h9) rfl dX7_minutes_1 ?_
  refine lv_iconst (v := 0) hx hb dX7_minutes_4 (by decide) ?_
  refine cNi (wr := [(h, .inr (7, [.ref a]))]) (rest := []) (k_at a 41 f 0 (by decide)) okS_X9_at 16 rfl hx hb hml hown hts hK hP hD hS hA hN hl.1 [1] [0] rfl rfl rfl rfl (by decide) rfl (Nat.le_of_ble_eq_true rfl) (Nat.le_of_ble_eq_true rfl) (Nat.le_of_ble_eq_true rfl) (Nat.le_of_ble_eq_true rfl) (Nat.le_of_ble_eq_true rfl) dX7_minutes_5 (fun r_2 u_1 H locs hw_u_1 hP hD hS => ?_)
  obtain rfl := hw_u_1
  have hP : va_P D classes [(h, .inr (7, [.ref a])), (a, .inl (cI, 41, .inl f))] H := hP
  have hD : va_D A [(h, .inr (7, [.ref a])), (a, .inl (cI, 41, .inl f))] := hD
  exact hret (atF 41 f 0) () _ _ _ _ dX7_minutes_8 rfl rfl (cutP (isC := [0, 1]) hP rfl) (cutD (isC := [0, 1]) hD rfl rfl) hS
def rm_k_reconciledSet : Room := { frames := 1, cells := 0, slots := 0, locals := 21 }
set_option maxHeartbeats 4000000 in
set_option maxRecDepth 100000 in
theorem k_reconciledSet {l : Launch} {D : va_G} {cI cZ : ClassId} {sz : Nat} (h a : Nat) (f : Nat → Int32) : KI l yX7_reconciledSet cX7_reconciledSet 1 (some .int) rm_k_reconciledSet D cI cZ [.ref h] sz [(h, .inr (7, [.ref a])), (a, .inl (cI, 41, .inl f))] (fun (r : Int32) (_ : Unit) => r = atF 41 f 1) (fun (_ : Unit) => [(h, .inr (7, [.ref a])), (a, .inl (cI, 41, .inl f))]) := by
  refine KI.go rfl (Nat.le_of_ble_eq_true rfl) ?_
  intro p e s m args below meth c ls A Q hx hb hml hts hown hin hP hK hD hS hA hN hl hret
  have hl : lv_has ls 1 [(0, .ref h)] := hl
  refine lv_aload_n hx hb dX7_reconciledSet_0 rfl (lv_at hl 0 rfl) ?_
  refine va_get (D := D) (ci := 7) (v := .ref a) (C := RX7) (T := TX7) (N := 1) hx hb hts iX7 hown hK hP 0 rfl rfl 0 (by decide) (hts _ wd_15) (fun _ h9 => h9) rfl dX7_reconciledSet_1 ?_
  refine lv_iconst (v := 1) hx hb dX7_reconciledSet_4 (by decide) ?_
  refine cNi (wr := [(h, .inr (7, [.ref a]))]) (rest := []) (k_at a 41 f 1 (by decide)) okS_X9_at 16 rfl hx hb hml hown hts hK hP hD hS hA hN hl.1 [1] [0] rfl rfl rfl rfl (by decide) rfl (Nat.le_of_ble_eq_true rfl) (Nat.le_of_ble_eq_true rfl) (Nat.le_of_ble_eq_true rfl) (Nat.le_of_ble_eq_true rfl) (Nat.le_of_ble_eq_true rfl) dX7_reconciledSet_5 (fun r_2 u_1 H locs hw_u_1 hP hD hS => ?_)
  obtain rfl := hw_u_1
  have hP : va_P D classes [(h, .inr (7, [.ref a])), (a, .inl (cI, 41, .inl f))] H := hP
  have hD : va_D A [(h, .inr (7, [.ref a])), (a, .inl (cI, 41, .inl f))] := hD
  exact hret (atF 41 f 1) () _ _ _ _ dX7_reconciledSet_8 rfl rfl (cutP (isC := [0, 1]) hP rfl) (cutD (isC := [0, 1]) hD rfl rfl) hS
def rm_k_grievanceOf : Room := { frames := 1, cells := 0, slots := 0, locals := 21 }
set_option maxHeartbeats 4000000 in
set_option maxRecDepth 100000 in
theorem k_grievanceOf {l : Launch} {D : va_G} {cI cZ : ClassId} {sz : Nat} (h a : Nat) (f : Nat → Int32) (v : Int32) : KI l yX7_grievanceOf cX7_grievanceOf 2 (some .int) rm_k_grievanceOf D cI cZ [.ref h, .int v] sz [(h, .inr (7, [.ref a])), (a, .inl (cI, 41, .inl f))] (fun (r : Int32) (_ : Unit) => r = atF 41 f (2 + v)) (fun (_ : Unit) => [(h, .inr (7, [.ref a])), (a, .inl (cI, 41, .inl f))]) := by
  refine KI.go rfl (Nat.le_of_ble_eq_true rfl) ?_
  intro p e s m args below meth c ls A Q hx hb hml hts hown hin hP hK hD hS hA hN hl hret
  have hl : lv_has ls 2 [(0, .ref h), (1, .int v)] := hl
  refine lv_aload_n hx hb dX7_grievanceOf_0 rfl (lv_at hl 0 rfl) ?_
  refine va_get (D := D) (ci := 7) (v := .ref a) (C := RX7) (T := TX7) (N := 1) hx hb hts iX7 hown hK hP 0 rfl rfl 0 (by decide) (hts _ wd_15) (fun _ h9 => h9) rfl dX7_grievanceOf_1 ?_
  refine lv_iconst (v := 2) hx hb dX7_grievanceOf_4 (by decide) ?_
  refine lv_iload_n hx hb dX7_grievanceOf_5 rfl (lv_at hl 1 rfl) ?_
  refine lv_iadd hx hb dX7_grievanceOf_6 ?_
  refine cNi (wr := [(h, .inr (7, [.ref a]))]) (rest := []) (k_at a 41 f (2 + v) (by decide)) okS_X9_at 16 rfl hx hb hml hown hts hK hP hD hS hA hN hl.1 [1] [0] rfl rfl rfl rfl (by decide) rfl (Nat.le_of_ble_eq_true rfl) (Nat.le_of_ble_eq_true rfl) (Nat.le_of_ble_eq_true rfl) (Nat.le_of_ble_eq_true rfl) (Nat.le_of_ble_eq_true rfl) dX7_grievanceOf_7 (fun r_2 u_1 H locs hw_u_1 hP hD hS => ?_)
  obtain rfl := hw_u_1
  have hP : va_P D classes [(h, .inr (7, [.ref a])), (a, .inl (cI, 41, .inl f))] H := hP
  have hD : va_D A [(h, .inr (7, [.ref a])), (a, .inl (cI, 41, .inl f))] := hD
  exact hret (atF 41 f (2 + v)) () _ _ _ _ dX7_grievanceOf_10 rfl rfl (cutP (isC := [0, 1]) hP rfl) (cutD (isC := [0, 1]) hD rfl rfl) hS
def rm_k_bridgeOf : Room := { frames := 1, cells := 0, slots := 0, locals := 21 }
set_option maxHeartbeats 4000000 in
set_option maxRecDepth 100000 in
theorem k_bridgeOf {l : Launch} {D : va_G} {cI cZ : ClassId} {sz : Nat} (h a : Nat) (f : Nat → Int32) (v : Int32) : KI l yX7_bridgeOf cX7_bridgeOf 2 (some .int) rm_k_bridgeOf D cI cZ [.ref h, .int v] sz [(h, .inr (7, [.ref a])), (a, .inl (cI, 41, .inl f))] (fun (r : Int32) (_ : Unit) => r = atF 41 f (8 + v)) (fun (_ : Unit) => [(h, .inr (7, [.ref a])), (a, .inl (cI, 41, .inl f))]) := by
  refine KI.go rfl (Nat.le_of_ble_eq_true rfl) ?_
  intro p e s m args below meth c ls A Q hx hb hml hts hown hin hP hK hD hS hA hN hl hret
  have hl : lv_has ls 2 [(0, .ref h), (1, .int v)] := hl
  refine lv_aload_n hx hb dX7_bridgeOf_0 rfl (lv_at hl 0 rfl) ?_
  refine va_get (D := D) (ci := 7) (v := .ref a) (C := RX7) (T := TX7) (N := 1) hx hb hts iX7 hown hK hP 0 rfl rfl 0 (by decide) (hts _ wd_15) (fun _ h9 => h9) rfl dX7_bridgeOf_1 ?_
  refine lv_bipush (v := 8) hx hb dX7_bridgeOf_4 (by decide) ?_
  refine lv_iload_n hx hb dX7_bridgeOf_6 rfl (lv_at hl 1 rfl) ?_
  refine lv_iadd hx hb dX7_bridgeOf_7 ?_
  refine cNi (wr := [(h, .inr (7, [.ref a]))]) (rest := []) (k_at a 41 f (8 + v) (by decide)) okS_X9_at 16 rfl hx hb hml hown hts hK hP hD hS hA hN hl.1 [1] [0] rfl rfl rfl rfl (by decide) rfl (Nat.le_of_ble_eq_true rfl) (Nat.le_of_ble_eq_true rfl) (Nat.le_of_ble_eq_true rfl) (Nat.le_of_ble_eq_true rfl) (Nat.le_of_ble_eq_true rfl) dX7_bridgeOf_8 (fun r_2 u_1 H locs hw_u_1 hP hD hS => ?_)
  obtain rfl := hw_u_1
  have hP : va_P D classes [(h, .inr (7, [.ref a])), (a, .inl (cI, 41, .inl f))] H := hP
  have hD : va_D A [(h, .inr (7, [.ref a])), (a, .inl (cI, 41, .inl f))] := hD
  exact hret (atF 41 f (8 + v)) () _ _ _ _ dX7_bridgeOf_11 rfl rfl (cutP (isC := [0, 1]) hP rfl) (cutD (isC := [0, 1]) hD rfl rfl) hS
def rm_k_themeOf : Room := { frames := 1, cells := 0, slots := 0, locals := 21 }
set_option maxHeartbeats 4000000 in
set_option maxRecDepth 100000 in
theorem k_themeOf {l : Launch} {D : va_G} {cI cZ : ClassId} {sz : Nat} (h a : Nat) (f : Nat → Int32) (v : Int32) : KI l yX7_themeOf cX7_themeOf 2 (some .int) rm_k_themeOf D cI cZ [.ref h, .int v] sz [(h, .inr (7, [.ref a])), (a, .inl (cI, 41, .inl f))] (fun (r : Int32) (_ : Unit) => r = atF 41 f (14 + v)) (fun (_ : Unit) => [(h, .inr (7, [.ref a])), (a, .inl (cI, 41, .inl f))]) := by
  refine KI.go rfl (Nat.le_of_ble_eq_true rfl) ?_
  intro p e s m args below meth c ls A Q hx hb hml hts hown hin hP hK hD hS hA hN hl hret
  have hl : lv_has ls 2 [(0, .ref h), (1, .int v)] := hl
  refine lv_aload_n hx hb dX7_themeOf_0 rfl (lv_at hl 0 rfl) ?_
  refine va_get (D := D) (ci := 7) (v := .ref a) (C := RX7) (T := TX7) (N := 1) hx hb hts iX7 hown hK hP 0 rfl rfl 0 (by decide) (hts _ wd_15) (fun _ h9 => h9) rfl dX7_themeOf_1 ?_
  refine lv_bipush (v := 14) hx hb dX7_themeOf_4 (by decide) ?_
  refine lv_iload_n hx hb dX7_themeOf_6 rfl (lv_at hl 1 rfl) ?_
  refine lv_iadd hx hb dX7_themeOf_7 ?_
  refine cNi (wr := [(h, .inr (7, [.ref a]))]) (rest := []) (k_at a 41 f (14 + v) (by decide)) okS_X9_at 16 rfl hx hb hml hown hts hK hP hD hS hA hN hl.1 [1] [0] rfl rfl rfl rfl (by decide) rfl (Nat.le_of_ble_eq_true rfl) (Nat.le_of_ble_eq_true rfl) (Nat.le_of_ble_eq_true rfl) (Nat.le_of_ble_eq_true rfl) (Nat.le_of_ble_eq_true rfl) dX7_themeOf_8 (fun r_2 u_1 H locs hw_u_1 hP hD hS => ?_)
  obtain rfl := hw_u_1
  have hP : va_P D classes [(h, .inr (7, [.ref a])), (a, .inl (cI, 41, .inl f))] H := hP
  have hD : va_D A [(h, .inr (7, [.ref a])), (a, .inl (cI, 41, .inl f))] := hD
  exact hret (atF 41 f (14 + v)) () _ _ _ _ dX7_themeOf_11 rfl rfl (cutP (isC := [0, 1]) hP rfl) (cutD (isC := [0, 1]) hD rfl rfl) hS
def rm_k_fateOf : Room := { frames := 1, cells := 0, slots := 0, locals := 21 }
set_option maxHeartbeats 4000000 in
set_option maxRecDepth 100000 in
theorem k_fateOf {l : Launch} {D : va_G} {cI cZ : ClassId} {sz : Nat} (h a : Nat) (f : Nat → Int32) (v : Int32) : KI l yX7_fateOf cX7_fateOf 2 (some .int) rm_k_fateOf D cI cZ [.ref h, .int v] sz [(h, .inr (7, [.ref a])), (a, .inl (cI, 41, .inl f))] (fun (r : Int32) (_ : Unit) => r = atF 41 f (20 + v)) (fun (_ : Unit) => [(h, .inr (7, [.ref a])), (a, .inl (cI, 41, .inl f))]) := by
  refine KI.go rfl (Nat.le_of_ble_eq_true rfl) ?_
  intro p e s m args below meth c ls A Q hx hb hml hts hown hin hP hK hD hS hA hN hl hret
  have hl : lv_has ls 2 [(0, .ref h), (1, .int v)] := hl
  refine lv_aload_n hx hb dX7_fateOf_0 rfl (lv_at hl 0 rfl) ?_
  refine va_get (D := D) (ci := 7) (v := .ref a) (C := RX7) (T := TX7) (N := 1) hx hb hts iX7 hown hK hP 0 rfl rfl 0 (by decide) (hts _ wd_15) (fun _ h9 => h9) rfl dX7_fateOf_1 ?_
  refine lv_bipush (v := 20) hx hb dX7_fateOf_4 (by decide) ?_
  refine lv_iload_n hx hb dX7_fateOf_6 rfl (lv_at hl 1 rfl) ?_
  refine lv_iadd hx hb dX7_fateOf_7 ?_
  refine cNi (wr := [(h, .inr (7, [.ref a]))]) (rest := []) (k_at a 41 f (20 + v) (by decide)) okS_X9_at 16 rfl hx hb hml hown hts hK hP hD hS hA hN hl.1 [1] [0] rfl rfl rfl rfl (by decide) rfl (Nat.le_of_ble_eq_true rfl) (Nat.le_of_ble_eq_true rfl) (Nat.le_of_ble_eq_true rfl) (Nat.le_of_ble_eq_true rfl) (Nat.le_of_ble_eq_true rfl) dX7_fateOf_8 (fun r_2 u_1 H locs hw_u_1 hP hD hS => ?_)
  obtain rfl := hw_u_1
  have hP : va_P D classes [(h, .inr (7, [.ref a])), (a, .inl (cI, 41, .inl f))] H := hP
  have hD : va_D A [(h, .inr (7, [.ref a])), (a, .inl (cI, 41, .inl f))] := hD
  exact hret (atF 41 f (20 + v)) () _ _ _ _ dX7_fateOf_11 rfl rfl (cutP (isC := [0, 1]) hP rfl) (cutD (isC := [0, 1]) hD rfl rfl) hS
def rm_k_bargesOfFate0 : Room := { frames := 2, cells := 0, slots := 0, locals := 42 }
set_option maxHeartbeats 4000000 in
set_option maxRecDepth 100000 in
theorem k_bargesOfFate0 {l : Launch} {D : va_G} {cI cZ : ClassId} {sz : Nat} (h a : Nat) : KI l yX7_bargesOfFate cX7_bargesOfFate 4 (some .int) rm_k_bargesOfFate0 D cI cZ [.ref h, .int 0] sz [(h, .inr (7, [.ref a])), (a, .inl (cI, 41, .inl (cB2 z0 7)))] (fun (r : Int32) (_ : Unit) => r = 127) (fun (_ : Unit) => [(h, .inr (7, [.ref a])), (a, .inl (cI, 41, .inl (cB2 z0 7)))]) := by
  refine KI.go rfl (Nat.le_of_ble_eq_true rfl) ?_
  intro p e s m args below meth c ls A Q hx hb hml hts hown hin hP hK hD hS hA hN hl hret
  have hl : lv_has ls 4 [(0, .ref h), (1, .int 0)] := hl
  refine lv_iconst (v := 0) hx hb dX7_bargesOfFate_0 (by decide) ?_
  refine lv_istore_n (lv' := [(2, .int 0), (0, .ref h), (1, .int 0)]) hx hb dX7_bargesOfFate_1 rfl hl (by decide) rfl (fun ls hl => ?_)
  refine lv_iconst (v := 0) hx hb dX7_bargesOfFate_2 (by decide) ?_
  refine lv_istore_n (lv' := [(3, .int 0), (2, .int 0), (0, .ref h), (1, .int 0)]) hx hb dX7_bargesOfFate_3 rfl hl (by decide) rfl (fun ls hl => ?_)
  refine lv_iload_n hx hb dX7_bargesOfFate_4 rfl (lv_at hl 0 rfl) ?_
  refine lv_bipush (v := 7) hx hb dX7_bargesOfFate_5 (by decide) ?_
  refine lv_icmp_ge (tgt := 35) hx hb dX7_bargesOfFate_7 (by decide) (fun c_1 => absurd c_1 (by decide +kernel)) (fun c_1 => ?_)
  refine lv_iload_n hx hb dX7_bargesOfFate_10 rfl (lv_at hl 1 rfl) ?_
  refine lv_aload_n hx hb dX7_bargesOfFate_11 rfl (lv_at hl 2 rfl) ?_
  refine lv_iload_n hx hb dX7_bargesOfFate_12 rfl (lv_at hl 0 rfl) ?_
  refine cVi (wr := []) (rest := [.int 0]) (k_fateOf h a (cB2 z0 7) 0) okV_X7_fateOf wd_140 hx hb hml hown hts hK hP hD hS hA hN hl.1 [0, 1] [] rfl rfl rfl rfl (by decide) rfl rfl rfl (Nat.le_of_ble_eq_true rfl) (Nat.le_of_ble_eq_true rfl) (Nat.le_of_ble_eq_true rfl) (Nat.le_of_ble_eq_true rfl) (Nat.le_of_ble_eq_true rfl) dX7_bargesOfFate_13 (fun r_3 u_2 H locs hw_u_2 hP hD hS => ?_)
  obtain rfl := hw_u_2
  have hP : va_P D classes [(h, .inr (7, [.ref a])), (a, .inl (cI, 41, .inl (cB2 z0 7)))] H := hP
  have hD : va_D A [(h, .inr (7, [.ref a])), (a, .inl (cI, 41, .inl (cB2 z0 7)))] := hD
  refine lv_topi (fun z_4 ez_4 => ?_)
  obtain rfl : z_4 = 0 := ez_4.trans (by decide +kernel)
  refine lv_iload_n hx hb dX7_bargesOfFate_16 rfl (lv_at hl 3 rfl) ?_
  refine lv_icmp_ne (tgt := 26) hx hb dX7_bargesOfFate_17 (by decide) (fun c_5 => absurd (by decide +kernel) c_5) (fun c_5 => ?_)
  refine lv_iconst (v := 1) hx hb dX7_bargesOfFate_20 (by decide) ?_
  refine lv_iload_n hx hb dX7_bargesOfFate_21 rfl (lv_at hl 0 rfl) ?_
  refine lv_ishl hx hb dX7_bargesOfFate_22 ?_
  refine lv_topi (fun z_6 ez_6 => ?_)
  obtain rfl : z_6 = 1 := ez_6.trans (by decide +kernel)
  refine lv_goto (tgt := 27) hx hb dX7_bargesOfFate_23 (by decide) ?_
  refine lv_ior hx hb dX7_bargesOfFate_27 ?_
  refine lv_topi (fun z_7 ez_7 => ?_)
  obtain rfl : z_7 = 1 := ez_7.trans (by decide +kernel)
  refine lv_istore_n (lv' := [(2, .int 1), (3, .int 0), (0, .ref h), (1, .int 0)]) hx hb dX7_bargesOfFate_28 rfl hl (by decide) rfl (fun ls hl => ?_)
  refine lv_iinc (v := 1) (lv' := [(3, .int 1), (2, .int 1), (0, .ref h), (1, .int 0)]) hx hb dX7_bargesOfFate_29 hl (k := 1) rfl (by decide +kernel) (by decide) rfl (fun ls hl => ?_)
  refine lv_goto (tgt := 4) hx hb dX7_bargesOfFate_32 (by decide) ?_
  refine lv_iload_n hx hb dX7_bargesOfFate_4 rfl (lv_at hl 0 rfl) ?_
  refine lv_bipush (v := 7) hx hb dX7_bargesOfFate_5 (by decide) ?_
  refine lv_icmp_ge (tgt := 35) hx hb dX7_bargesOfFate_7 (by decide) (fun c_8 => absurd c_8 (by decide +kernel)) (fun c_8 => ?_)
  refine lv_iload_n hx hb dX7_bargesOfFate_10 rfl (lv_at hl 1 rfl) ?_
  refine lv_aload_n hx hb dX7_bargesOfFate_11 rfl (lv_at hl 2 rfl) ?_
  refine lv_iload_n hx hb dX7_bargesOfFate_12 rfl (lv_at hl 0 rfl) ?_
  refine cVi (wr := []) (rest := [.int 1]) (k_fateOf h a (cB2 z0 7) 1) okV_X7_fateOf wd_140 hx hb hml hown hts hK hP hD hS hA hN hl.1 [0, 1] [] rfl rfl rfl rfl (by decide) rfl rfl rfl (Nat.le_of_ble_eq_true rfl) (Nat.le_of_ble_eq_true rfl) (Nat.le_of_ble_eq_true rfl) (Nat.le_of_ble_eq_true rfl) (Nat.le_of_ble_eq_true rfl) dX7_bargesOfFate_13 (fun r_10 u_9 H locs hw_u_9 hP hD hS => ?_)
  obtain rfl := hw_u_9
  have hP : va_P D classes [(h, .inr (7, [.ref a])), (a, .inl (cI, 41, .inl (cB2 z0 7)))] H := hP
  have hD : va_D A [(h, .inr (7, [.ref a])), (a, .inl (cI, 41, .inl (cB2 z0 7)))] := hD
  refine lv_topi (fun z_11 ez_11 => ?_)
  obtain rfl : z_11 = 0 := ez_11.trans (by decide +kernel)
  refine lv_iload_n hx hb dX7_bargesOfFate_16 rfl (lv_at hl 3 rfl) ?_
  refine lv_icmp_ne (tgt := 26) hx hb dX7_bargesOfFate_17 (by decide) (fun c_12 => absurd (by decide +kernel) c_12) (fun c_12 => ?_)
  refine lv_iconst (v := 1) hx hb dX7_bargesOfFate_20 (by decide) ?_
  refine lv_iload_n hx hb dX7_bargesOfFate_21 rfl (lv_at hl 0 rfl) ?_
  refine lv_ishl hx hb dX7_bargesOfFate_22 ?_
  refine lv_topi (fun z_13 ez_13 => ?_)
  obtain rfl : z_13 = 2 := ez_13.trans (by decide +kernel)
  refine lv_goto (tgt := 27) hx hb dX7_bargesOfFate_23 (by decide) ?_
  refine lv_ior hx hb dX7_bargesOfFate_27 ?_
  refine lv_topi (fun z_14 ez_14 => ?_)
  obtain rfl : z_14 = 3 := ez_14.trans (by decide +kernel)
  refine lv_istore_n (lv' := [(2, .int 3), (3, .int 1), (0, .ref h), (1, .int 0)]) hx hb dX7_bargesOfFate_28 rfl hl (by decide) rfl (fun ls hl => ?_)
  refine lv_iinc (v := 2) (lv' := [(3, .int 2), (2, .int 3), (0, .ref h), (1, .int 0)]) hx hb dX7_bargesOfFate_29 hl (k := 1) rfl (by decide +kernel) (by decide) rfl (fun ls hl => ?_)
  refine lv_goto (tgt := 4) hx hb dX7_bargesOfFate_32 (by decide) ?_
  refine lv_iload_n hx hb dX7_bargesOfFate_4 rfl (lv_at hl 0 rfl) ?_
  refine lv_bipush (v := 7) hx hb dX7_bargesOfFate_5 (by decide) ?_
  refine lv_icmp_ge (tgt := 35) hx hb dX7_bargesOfFate_7 (by decide) (fun c_15 => absurd c_15 (by decide +kernel)) (fun c_15 => ?_)
  refine lv_iload_n hx hb dX7_bargesOfFate_10 rfl (lv_at hl 1 rfl) ?_
  refine lv_aload_n hx hb dX7_bargesOfFate_11 rfl (lv_at hl 2 rfl) ?_
  refine lv_iload_n hx hb dX7_bargesOfFate_12 rfl (lv_at hl 0 rfl) ?_
  refine cVi (wr := []) (rest := [.int 3]) (k_fateOf h a (cB2 z0 7) 2) okV_X7_fateOf wd_140 hx hb hml hown hts hK hP hD hS hA hN hl.1 [0, 1] [] rfl rfl rfl rfl (by decide) rfl rfl rfl (Nat.le_of_ble_eq_true rfl) (Nat.le_of_ble_eq_true rfl) (Nat.le_of_ble_eq_true rfl) (Nat.le_of_ble_eq_true rfl) (Nat.le_of_ble_eq_true rfl) dX7_bargesOfFate_13 (fun r_17 u_16 H locs hw_u_16 hP hD hS => ?_)
  obtain rfl := hw_u_16
  have hP : va_P D classes [(h, .inr (7, [.ref a])), (a, .inl (cI, 41, .inl (cB2 z0 7)))] H := hP
  have hD : va_D A [(h, .inr (7, [.ref a])), (a, .inl (cI, 41, .inl (cB2 z0 7)))] := hD
  refine lv_topi (fun z_18 ez_18 => ?_)
  obtain rfl : z_18 = 0 := ez_18.trans (by decide +kernel)
  refine lv_iload_n hx hb dX7_bargesOfFate_16 rfl (lv_at hl 3 rfl) ?_
  refine lv_icmp_ne (tgt := 26) hx hb dX7_bargesOfFate_17 (by decide) (fun c_19 => absurd (by decide +kernel) c_19) (fun c_19 => ?_)
  refine lv_iconst (v := 1) hx hb dX7_bargesOfFate_20 (by decide) ?_
  refine lv_iload_n hx hb dX7_bargesOfFate_21 rfl (lv_at hl 0 rfl) ?_
  refine lv_ishl hx hb dX7_bargesOfFate_22 ?_
  refine lv_topi (fun z_20 ez_20 => ?_)
  obtain rfl : z_20 = 4 := ez_20.trans (by decide +kernel)
  refine lv_goto (tgt := 27) hx hb dX7_bargesOfFate_23 (by decide) ?_
  refine lv_ior hx hb dX7_bargesOfFate_27 ?_
  refine lv_topi (fun z_21 ez_21 => ?_)
  obtain rfl : z_21 = 7 := ez_21.trans (by decide +kernel)
  refine lv_istore_n (lv' := [(2, .int 7), (3, .int 2), (0, .ref h), (1, .int 0)]) hx hb dX7_bargesOfFate_28 rfl hl (by decide) rfl (fun ls hl => ?_)
  refine lv_iinc (v := 3) (lv' := [(3, .int 3), (2, .int 7), (0, .ref h), (1, .int 0)]) hx hb dX7_bargesOfFate_29 hl (k := 1) rfl (by decide +kernel) (by decide) rfl (fun ls hl => ?_)
  refine lv_goto (tgt := 4) hx hb dX7_bargesOfFate_32 (by decide) ?_
  refine lv_iload_n hx hb dX7_bargesOfFate_4 rfl (lv_at hl 0 rfl) ?_
  refine lv_bipush (v := 7) hx hb dX7_bargesOfFate_5 (by decide) ?_
  refine lv_icmp_ge (tgt := 35) hx hb dX7_bargesOfFate_7 (by decide) (fun c_22 => absurd c_22 (by decide +kernel)) (fun c_22 => ?_)
  refine lv_iload_n hx hb dX7_bargesOfFate_10 rfl (lv_at hl 1 rfl) ?_
  refine lv_aload_n hx hb dX7_bargesOfFate_11 rfl (lv_at hl 2 rfl) ?_
  refine lv_iload_n hx hb dX7_bargesOfFate_12 rfl (lv_at hl 0 rfl) ?_
  refine cVi (wr := []) (rest := [.int 7]) (k_fateOf h a (cB2 z0 7) 3) okV_X7_fateOf wd_140 hx hb hml hown hts hK hP hD hS hA hN hl.1 [0, 1] [] rfl rfl rfl rfl (by decide) rfl rfl rfl (Nat.le_of_ble_eq_true rfl) (Nat.le_of_ble_eq_true rfl) (Nat.le_of_ble_eq_true rfl) (Nat.le_of_ble_eq_true rfl) (Nat.le_of_ble_eq_true rfl) dX7_bargesOfFate_13 (fun r_24 u_23 H locs hw_u_23 hP hD hS => ?_)
  obtain rfl := hw_u_23
  have hP : va_P D classes [(h, .inr (7, [.ref a])), (a, .inl (cI, 41, .inl (cB2 z0 7)))] H := hP
  have hD : va_D A [(h, .inr (7, [.ref a])), (a, .inl (cI, 41, .inl (cB2 z0 7)))] := hD
  refine lv_topi (fun z_25 ez_25 => ?_)
  obtain rfl : z_25 = 0 := ez_25.trans (by decide +kernel)
  refine lv_iload_n hx hb dX7_bargesOfFate_16 rfl (lv_at hl 3 rfl) ?_
  refine lv_icmp_ne (tgt := 26) hx hb dX7_bargesOfFate_17 (by decide) (fun c_26 => absurd (by decide +kernel) c_26) (fun c_26 => ?_)
  refine lv_iconst (v := 1) hx hb dX7_bargesOfFate_20 (by decide) ?_
  refine lv_iload_n hx hb dX7_bargesOfFate_21 rfl (lv_at hl 0 rfl) ?_
  refine lv_ishl hx hb dX7_bargesOfFate_22 ?_
  refine lv_topi (fun z_27 ez_27 => ?_)
  obtain rfl : z_27 = 8 := ez_27.trans (by decide +kernel)
  refine lv_goto (tgt := 27) hx hb dX7_bargesOfFate_23 (by decide) ?_
  refine lv_ior hx hb dX7_bargesOfFate_27 ?_
  refine lv_topi (fun z_28 ez_28 => ?_)
  obtain rfl : z_28 = 15 := ez_28.trans (by decide +kernel)
  refine lv_istore_n (lv' := [(2, .int 15), (3, .int 3), (0, .ref h), (1, .int 0)]) hx hb dX7_bargesOfFate_28 rfl hl (by decide) rfl (fun ls hl => ?_)
  refine lv_iinc (v := 4) (lv' := [(3, .int 4), (2, .int 15), (0, .ref h), (1, .int 0)]) hx hb dX7_bargesOfFate_29 hl (k := 1) rfl (by decide +kernel) (by decide) rfl (fun ls hl => ?_)
  refine lv_goto (tgt := 4) hx hb dX7_bargesOfFate_32 (by decide) ?_
  refine lv_iload_n hx hb dX7_bargesOfFate_4 rfl (lv_at hl 0 rfl) ?_
  refine lv_bipush (v := 7) hx hb dX7_bargesOfFate_5 (by decide) ?_
  refine lv_icmp_ge (tgt := 35) hx hb dX7_bargesOfFate_7 (by decide) (fun c_29 => absurd c_29 (by decide +kernel)) (fun c_29 => ?_)
  refine lv_iload_n hx hb dX7_bargesOfFate_10 rfl (lv_at hl 1 rfl) ?_
  refine lv_aload_n hx hb dX7_bargesOfFate_11 rfl (lv_at hl 2 rfl) ?_
  refine lv_iload_n hx hb dX7_bargesOfFate_12 rfl (lv_at hl 0 rfl) ?_
  refine cVi (wr := []) (rest := [.int 15]) (k_fateOf h a (cB2 z0 7) 4) okV_X7_fateOf wd_140 hx hb hml hown hts hK hP hD hS hA hN hl.1 [0, 1] [] rfl rfl rfl rfl (by decide) rfl rfl rfl (Nat.le_of_ble_eq_true rfl) (Nat.le_of_ble_eq_true rfl) (Nat.le_of_ble_eq_true rfl) (Nat.le_of_ble_eq_true rfl) (Nat.le_of_ble_eq_true rfl) dX7_bargesOfFate_13 (fun r_31 u_30 H locs hw_u_30 hP hD hS => ?_)
  obtain rfl := hw_u_30
  have hP : va_P D classes [(h, .inr (7, [.ref a])), (a, .inl (cI, 41, .inl (cB2 z0 7)))] H := hP
  have hD : va_D A [(h, .inr (7, [.ref a])), (a, .inl (cI, 41, .inl (cB2 z0 7)))] := hD
  refine lv_topi (fun z_32 ez_32 => ?_)
  obtain rfl : z_32 = 0 := ez_32.trans (by decide +kernel)
  refine lv_iload_n hx hb dX7_bargesOfFate_16 rfl (lv_at hl 3 rfl) ?_
  refine lv_icmp_ne (tgt := 26) hx hb dX7_bargesOfFate_17 (by decide) (fun c_33 => absurd (by decide +kernel) c_33) (fun c_33 => ?_)
  refine lv_iconst (v := 1) hx hb dX7_bargesOfFate_20 (by decide) ?_
  refine lv_iload_n hx hb dX7_bargesOfFate_21 rfl (lv_at hl 0 rfl) ?_
  refine lv_ishl hx hb dX7_bargesOfFate_22 ?_
  refine lv_topi (fun z_34 ez_34 => ?_)
  obtain rfl : z_34 = 16 := ez_34.trans (by decide +kernel)
  refine lv_goto (tgt := 27) hx hb dX7_bargesOfFate_23 (by decide) ?_
  refine lv_ior hx hb dX7_bargesOfFate_27 ?_
  refine lv_topi (fun z_35 ez_35 => ?_)
  obtain rfl : z_35 = 31 := ez_35.trans (by decide +kernel)
  refine lv_istore_n (lv' := [(2, .int 31), (3, .int 4), (0, .ref h), (1, .int 0)]) hx hb dX7_bargesOfFate_28 rfl hl (by decide) rfl (fun ls hl => ?_)
  refine lv_iinc (v := 5) (lv' := [(3, .int 5), (2, .int 31), (0, .ref h), (1, .int 0)]) hx hb dX7_bargesOfFate_29 hl (k := 1) rfl (by decide +kernel) (by decide) rfl (fun ls hl => ?_)
  refine lv_goto (tgt := 4) hx hb dX7_bargesOfFate_32 (by decide) ?_
  refine lv_iload_n hx hb dX7_bargesOfFate_4 rfl (lv_at hl 0 rfl) ?_
  refine lv_bipush (v := 7) hx hb dX7_bargesOfFate_5 (by decide) ?_
  refine lv_icmp_ge (tgt := 35) hx hb dX7_bargesOfFate_7 (by decide) (fun c_36 => absurd c_36 (by decide +kernel)) (fun c_36 => ?_)
  refine lv_iload_n hx hb dX7_bargesOfFate_10 rfl (lv_at hl 1 rfl) ?_
  refine lv_aload_n hx hb dX7_bargesOfFate_11 rfl (lv_at hl 2 rfl) ?_
  refine lv_iload_n hx hb dX7_bargesOfFate_12 rfl (lv_at hl 0 rfl) ?_
  refine cVi (wr := []) (rest := [.int 31]) (k_fateOf h a (cB2 z0 7) 5) okV_X7_fateOf wd_140 hx hb hml hown hts hK hP hD hS hA hN hl.1 [0, 1] [] rfl rfl rfl rfl (by decide) rfl rfl rfl (Nat.le_of_ble_eq_true rfl) (Nat.le_of_ble_eq_true rfl) (Nat.le_of_ble_eq_true rfl) (Nat.le_of_ble_eq_true rfl) (Nat.le_of_ble_eq_true rfl) dX7_bargesOfFate_13 (fun r_38 u_37 H locs hw_u_37 hP hD hS => ?_)
  obtain rfl := hw_u_37
  have hP : va_P D classes [(h, .inr (7, [.ref a])), (a, .inl (cI, 41, .inl (cB2 z0 7)))] H := hP
  have hD : va_D A [(h, .inr (7, [.ref a])), (a, .inl (cI, 41, .inl (cB2 z0 7)))] := hD
  refine lv_topi (fun z_39 ez_39 => ?_)
  obtain rfl : z_39 = 0 := ez_39.trans (by decide +kernel)
  refine lv_iload_n hx hb dX7_bargesOfFate_16 rfl (lv_at hl 3 rfl) ?_
  refine lv_icmp_ne (tgt := 26) hx hb dX7_bargesOfFate_17 (by decide) (fun c_40 => absurd (by decide +kernel) c_40) (fun c_40 => ?_)
  refine lv_iconst (v := 1) hx hb dX7_bargesOfFate_20 (by decide) ?_
  refine lv_iload_n hx hb dX7_bargesOfFate_21 rfl (lv_at hl 0 rfl) ?_
  refine lv_ishl hx hb dX7_bargesOfFate_22 ?_
  refine lv_topi (fun z_41 ez_41 => ?_)
  obtain rfl : z_41 = 32 := ez_41.trans (by decide +kernel)
  refine lv_goto (tgt := 27) hx hb dX7_bargesOfFate_23 (by decide) ?_
  refine lv_ior hx hb dX7_bargesOfFate_27 ?_
  refine lv_topi (fun z_42 ez_42 => ?_)
  obtain rfl : z_42 = 63 := ez_42.trans (by decide +kernel)
  refine lv_istore_n (lv' := [(2, .int 63), (3, .int 5), (0, .ref h), (1, .int 0)]) hx hb dX7_bargesOfFate_28 rfl hl (by decide) rfl (fun ls hl => ?_)
  refine lv_iinc (v := 6) (lv' := [(3, .int 6), (2, .int 63), (0, .ref h), (1, .int 0)]) hx hb dX7_bargesOfFate_29 hl (k := 1) rfl (by decide +kernel) (by decide) rfl (fun ls hl => ?_)
  refine lv_goto (tgt := 4) hx hb dX7_bargesOfFate_32 (by decide) ?_
  refine lv_iload_n hx hb dX7_bargesOfFate_4 rfl (lv_at hl 0 rfl) ?_
  refine lv_bipush (v := 7) hx hb dX7_bargesOfFate_5 (by decide) ?_
  refine lv_icmp_ge (tgt := 35) hx hb dX7_bargesOfFate_7 (by decide) (fun c_43 => absurd c_43 (by decide +kernel)) (fun c_43 => ?_)
  refine lv_iload_n hx hb dX7_bargesOfFate_10 rfl (lv_at hl 1 rfl) ?_
  refine lv_aload_n hx hb dX7_bargesOfFate_11 rfl (lv_at hl 2 rfl) ?_
  refine lv_iload_n hx hb dX7_bargesOfFate_12 rfl (lv_at hl 0 rfl) ?_
  refine cVi (wr := []) (rest := [.int 63]) (k_fateOf h a (cB2 z0 7) 6) okV_X7_fateOf wd_140 hx hb hml hown hts hK hP hD hS hA hN hl.1 [0, 1] [] rfl rfl rfl rfl (by decide) rfl rfl rfl (Nat.le_of_ble_eq_true rfl) (Nat.le_of_ble_eq_true rfl) (Nat.le_of_ble_eq_true rfl) (Nat.le_of_ble_eq_true rfl) (Nat.le_of_ble_eq_true rfl) dX7_bargesOfFate_13 (fun r_45 u_44 H locs hw_u_44 hP hD hS => ?_)
  obtain rfl := hw_u_44
  have hP : va_P D classes [(h, .inr (7, [.ref a])), (a, .inl (cI, 41, .inl (cB2 z0 7)))] H := hP
  have hD : va_D A [(h, .inr (7, [.ref a])), (a, .inl (cI, 41, .inl (cB2 z0 7)))] := hD
  refine lv_topi (fun z_46 ez_46 => ?_)
  obtain rfl : z_46 = 0 := ez_46.trans (by decide +kernel)
  refine lv_iload_n hx hb dX7_bargesOfFate_16 rfl (lv_at hl 3 rfl) ?_
  refine lv_icmp_ne (tgt := 26) hx hb dX7_bargesOfFate_17 (by decide) (fun c_47 => absurd (by decide +kernel) c_47) (fun c_47 => ?_)
  refine lv_iconst (v := 1) hx hb dX7_bargesOfFate_20 (by decide) ?_
  refine lv_iload_n hx hb dX7_bargesOfFate_21 rfl (lv_at hl 0 rfl) ?_
  refine lv_ishl hx hb dX7_bargesOfFate_22 ?_
  refine lv_topi (fun z_48 ez_48 => ?_)
  obtain rfl : z_48 = 64 := ez_48.trans (by decide +kernel)
  refine lv_goto (tgt := 27) hx hb dX7_bargesOfFate_23 (by decide) ?_
  refine lv_ior hx hb dX7_bargesOfFate_27 ?_
  refine lv_topi (fun z_49 ez_49 => ?_)
  obtain rfl : z_49 = 127 := ez_49.trans (by decide +kernel)
  refine lv_istore_n (lv' := [(2, .int 127), (3, .int 6), (0, .ref h), (1, .int 0)]) hx hb dX7_bargesOfFate_28 rfl hl (by decide) rfl (fun ls hl => ?_)
  refine lv_iinc (v := 7) (lv' := [(3, .int 7), (2, .int 127), (0, .ref h), (1, .int 0)]) hx hb dX7_bargesOfFate_29 hl (k := 1) rfl (by decide +kernel) (by decide) rfl (fun ls hl => ?_)
  refine lv_goto (tgt := 4) hx hb dX7_bargesOfFate_32 (by decide) ?_
  refine lv_iload_n hx hb dX7_bargesOfFate_4 rfl (lv_at hl 0 rfl) ?_
  refine lv_bipush (v := 7) hx hb dX7_bargesOfFate_5 (by decide) ?_
  refine lv_icmp_ge (tgt := 35) hx hb dX7_bargesOfFate_7 (by decide) (fun c_50 => ?_) (fun c_50 => absurd (by decide +kernel) c_50)
  refine lv_iload_n hx hb dX7_bargesOfFate_35 rfl (lv_at hl 1 rfl) ?_
  exact hret 127 () _ _ _ _ dX7_bargesOfFate_36 rfl rfl (cutP (isC := [0, 1]) hP rfl) (cutD (isC := [0, 1]) hD rfl rfl) hS
def rm_k_bargesOfFate1 : Room := { frames := 2, cells := 0, slots := 0, locals := 42 }
set_option maxHeartbeats 4000000 in
set_option maxRecDepth 100000 in
theorem k_bargesOfFate1 {l : Launch} {D : va_G} {cI cZ : ClassId} {sz : Nat} (h a : Nat) : KI l yX7_bargesOfFate cX7_bargesOfFate 4 (some .int) rm_k_bargesOfFate1 D cI cZ [.ref h, .int 1] sz [(h, .inr (7, [.ref a])), (a, .inl (cI, 41, .inl (cB2 z0 7)))] (fun (r : Int32) (_ : Unit) => r = 0) (fun (_ : Unit) => [(h, .inr (7, [.ref a])), (a, .inl (cI, 41, .inl (cB2 z0 7)))]) := by
  refine KI.go rfl (Nat.le_of_ble_eq_true rfl) ?_
  intro p e s m args below meth c ls A Q hx hb hml hts hown hin hP hK hD hS hA hN hl hret
  have hl : lv_has ls 4 [(0, .ref h), (1, .int 1)] := hl
  refine lv_iconst (v := 0) hx hb dX7_bargesOfFate_0 (by decide) ?_
  refine lv_istore_n (lv' := [(2, .int 0), (0, .ref h), (1, .int 1)]) hx hb dX7_bargesOfFate_1 rfl hl (by decide) rfl (fun ls hl => ?_)
  refine lv_iconst (v := 0) hx hb dX7_bargesOfFate_2 (by decide) ?_
  refine lv_istore_n (lv' := [(3, .int 0), (2, .int 0), (0, .ref h), (1, .int 1)]) hx hb dX7_bargesOfFate_3 rfl hl (by decide) rfl (fun ls hl => ?_)
  refine lv_iload_n hx hb dX7_bargesOfFate_4 rfl (lv_at hl 0 rfl) ?_
  refine lv_bipush (v := 7) hx hb dX7_bargesOfFate_5 (by decide) ?_
  refine lv_icmp_ge (tgt := 35) hx hb dX7_bargesOfFate_7 (by decide) (fun c_1 => absurd c_1 (by decide +kernel)) (fun c_1 => ?_)
  refine lv_iload_n hx hb dX7_bargesOfFate_10 rfl (lv_at hl 1 rfl) ?_
  refine lv_aload_n hx hb dX7_bargesOfFate_11 rfl (lv_at hl 2 rfl) ?_
  refine lv_iload_n hx hb dX7_bargesOfFate_12 rfl (lv_at hl 0 rfl) ?_
  refine cVi (wr := []) (rest := [.int 0]) (k_fateOf h a (cB2 z0 7) 0) okV_X7_fateOf wd_140 hx hb hml hown hts hK hP hD hS hA hN hl.1 [0, 1] [] rfl rfl rfl rfl (by decide) rfl rfl rfl (Nat.le_of_ble_eq_true rfl) (Nat.le_of_ble_eq_true rfl) (Nat.le_of_ble_eq_true rfl) (Nat.le_of_ble_eq_true rfl) (Nat.le_of_ble_eq_true rfl) dX7_bargesOfFate_13 (fun r_3 u_2 H locs hw_u_2 hP hD hS => ?_)
  obtain rfl := hw_u_2
  have hP : va_P D classes [(h, .inr (7, [.ref a])), (a, .inl (cI, 41, .inl (cB2 z0 7)))] H := hP
  have hD : va_D A [(h, .inr (7, [.ref a])), (a, .inl (cI, 41, .inl (cB2 z0 7)))] := hD
  refine lv_topi (fun z_4 ez_4 => ?_)
  obtain rfl : z_4 = 0 := ez_4.trans (by decide +kernel)
  refine lv_iload_n hx hb dX7_bargesOfFate_16 rfl (lv_at hl 3 rfl) ?_
  refine lv_icmp_ne (tgt := 26) hx hb dX7_bargesOfFate_17 (by decide) (fun c_5 => ?_) (fun c_5 => absurd c_5 (by decide +kernel))
  refine lv_iconst (v := 0) hx hb dX7_bargesOfFate_26 (by decide) ?_
  refine lv_ior hx hb dX7_bargesOfFate_27 ?_
  refine lv_topi (fun z_6 ez_6 => ?_)
  obtain rfl : z_6 = 0 := ez_6.trans (by decide +kernel)
  refine lv_istore_n (lv' := [(2, .int 0), (3, .int 0), (0, .ref h), (1, .int 1)]) hx hb dX7_bargesOfFate_28 rfl hl (by decide) rfl (fun ls hl => ?_)
  refine lv_iinc (v := 1) (lv' := [(3, .int 1), (2, .int 0), (0, .ref h), (1, .int 1)]) hx hb dX7_bargesOfFate_29 hl (k := 1) rfl (by decide +kernel) (by decide) rfl (fun ls hl => ?_)
  refine lv_goto (tgt := 4) hx hb dX7_bargesOfFate_32 (by decide) ?_
  refine lv_iload_n hx hb dX7_bargesOfFate_4 rfl (lv_at hl 0 rfl) ?_
  refine lv_bipush (v := 7) hx hb dX7_bargesOfFate_5 (by decide) ?_
  refine lv_icmp_ge (tgt := 35) hx hb dX7_bargesOfFate_7 (by decide) (fun c_7 => absurd c_7 (by decide +kernel)) (fun c_7 => ?_)
  refine lv_iload_n hx hb dX7_bargesOfFate_10 rfl (lv_at hl 1 rfl) ?_
  refine lv_aload_n hx hb dX7_bargesOfFate_11 rfl (lv_at hl 2 rfl) ?_
  refine lv_iload_n hx hb dX7_bargesOfFate_12 rfl (lv_at hl 0 rfl) ?_
  refine cVi (wr := []) (rest := [.int 0]) (k_fateOf h a (cB2 z0 7) 1) okV_X7_fateOf wd_140 hx hb hml hown hts hK hP hD hS hA hN hl.1 [0, 1] [] rfl rfl rfl rfl (by decide) rfl rfl rfl (Nat.le_of_ble_eq_true rfl) (Nat.le_of_ble_eq_true rfl) (Nat.le_of_ble_eq_true rfl) (Nat.le_of_ble_eq_true rfl) (Nat.le_of_ble_eq_true rfl) dX7_bargesOfFate_13 (fun r_9 u_8 H locs hw_u_8 hP hD hS => ?_)
  obtain rfl := hw_u_8
  have hP : va_P D classes [(h, .inr (7, [.ref a])), (a, .inl (cI, 41, .inl (cB2 z0 7)))] H := hP
  have hD : va_D A [(h, .inr (7, [.ref a])), (a, .inl (cI, 41, .inl (cB2 z0 7)))] := hD
  refine lv_topi (fun z_10 ez_10 => ?_)
  obtain rfl : z_10 = 0 := ez_10.trans (by decide +kernel)
  refine lv_iload_n hx hb dX7_bargesOfFate_16 rfl (lv_at hl 3 rfl) ?_
  refine lv_icmp_ne (tgt := 26) hx hb dX7_bargesOfFate_17 (by decide) (fun c_11 => ?_) (fun c_11 => absurd c_11 (by decide +kernel))
  refine lv_iconst (v := 0) hx hb dX7_bargesOfFate_26 (by decide) ?_
  refine lv_ior hx hb dX7_bargesOfFate_27 ?_
  refine lv_topi (fun z_12 ez_12 => ?_)
  obtain rfl : z_12 = 0 := ez_12.trans (by decide +kernel)
  refine lv_istore_n (lv' := [(2, .int 0), (3, .int 1), (0, .ref h), (1, .int 1)]) hx hb dX7_bargesOfFate_28 rfl hl (by decide) rfl (fun ls hl => ?_)
  refine lv_iinc (v := 2) (lv' := [(3, .int 2), (2, .int 0), (0, .ref h), (1, .int 1)]) hx hb dX7_bargesOfFate_29 hl (k := 1) rfl (by decide +kernel) (by decide) rfl (fun ls hl => ?_)
  refine lv_goto (tgt := 4) hx hb dX7_bargesOfFate_32 (by decide) ?_
  refine lv_iload_n hx hb dX7_bargesOfFate_4 rfl (lv_at hl 0 rfl) ?_
  refine lv_bipush (v := 7) hx hb dX7_bargesOfFate_5 (by decide) ?_
  refine lv_icmp_ge (tgt := 35) hx hb dX7_bargesOfFate_7 (by decide) (fun c_13 => absurd c_13 (by decide +kernel)) (fun c_13 => ?_)
  refine lv_iload_n hx hb dX7_bargesOfFate_10 rfl (lv_at hl 1 rfl) ?_
  refine lv_aload_n hx hb dX7_bargesOfFate_11 rfl (lv_at hl 2 rfl) ?_
  refine lv_iload_n hx hb dX7_bargesOfFate_12 rfl (lv_at hl 0 rfl) ?_
  refine cVi (wr := []) (rest := [.int 0]) (k_fateOf h a (cB2 z0 7) 2) okV_X7_fateOf wd_140 hx hb hml hown hts hK hP hD hS hA hN hl.1 [0, 1] [] rfl rfl rfl rfl (by decide) rfl rfl rfl (Nat.le_of_ble_eq_true rfl) (Nat.le_of_ble_eq_true rfl) (Nat.le_of_ble_eq_true rfl) (Nat.le_of_ble_eq_true rfl) (Nat.le_of_ble_eq_true rfl) dX7_bargesOfFate_13 (fun r_15 u_14 H locs hw_u_14 hP hD hS => ?_)
  obtain rfl := hw_u_14
  have hP : va_P D classes [(h, .inr (7, [.ref a])), (a, .inl (cI, 41, .inl (cB2 z0 7)))] H := hP
  have hD : va_D A [(h, .inr (7, [.ref a])), (a, .inl (cI, 41, .inl (cB2 z0 7)))] := hD
  refine lv_topi (fun z_16 ez_16 => ?_)
  obtain rfl : z_16 = 0 := ez_16.trans (by decide +kernel)
  refine lv_iload_n hx hb dX7_bargesOfFate_16 rfl (lv_at hl 3 rfl) ?_
  refine lv_icmp_ne (tgt := 26) hx hb dX7_bargesOfFate_17 (by decide) (fun c_17 => ?_) (fun c_17 => absurd c_17 (by decide +kernel))
  refine lv_iconst (v := 0) hx hb dX7_bargesOfFate_26 (by decide) ?_
  refine lv_ior hx hb dX7_bargesOfFate_27 ?_
  refine lv_topi (fun z_18 ez_18 => ?_)
  obtain rfl : z_18 = 0 := ez_18.trans (by decide +kernel)
  refine lv_istore_n (lv' := [(2, .int 0), (3, .int 2), (0, .ref h), (1, .int 1)]) hx hb dX7_bargesOfFate_28 rfl hl (by decide) rfl (fun ls hl => ?_)
  refine lv_iinc (v := 3) (lv' := [(3, .int 3), (2, .int 0), (0, .ref h), (1, .int 1)]) hx hb dX7_bargesOfFate_29 hl (k := 1) rfl (by decide +kernel) (by decide) rfl (fun ls hl => ?_)
  refine lv_goto (tgt := 4) hx hb dX7_bargesOfFate_32 (by decide) ?_
  refine lv_iload_n hx hb dX7_bargesOfFate_4 rfl (lv_at hl 0 rfl) ?_
  refine lv_bipush (v := 7) hx hb dX7_bargesOfFate_5 (by decide) ?_
  refine lv_icmp_ge (tgt := 35) hx hb dX7_bargesOfFate_7 (by decide) (fun c_19 => absurd c_19 (by decide +kernel)) (fun c_19 => ?_)
  refine lv_iload_n hx hb dX7_bargesOfFate_10 rfl (lv_at hl 1 rfl) ?_
  refine lv_aload_n hx hb dX7_bargesOfFate_11 rfl (lv_at hl 2 rfl) ?_
  refine lv_iload_n hx hb dX7_bargesOfFate_12 rfl (lv_at hl 0 rfl) ?_
  refine cVi (wr := []) (rest := [.int 0]) (k_fateOf h a (cB2 z0 7) 3) okV_X7_fateOf wd_140 hx hb hml hown hts hK hP hD hS hA hN hl.1 [0, 1] [] rfl rfl rfl rfl (by decide) rfl rfl rfl (Nat.le_of_ble_eq_true rfl) (Nat.le_of_ble_eq_true rfl) (Nat.le_of_ble_eq_true rfl) (Nat.le_of_ble_eq_true rfl) (Nat.le_of_ble_eq_true rfl) dX7_bargesOfFate_13 (fun r_21 u_20 H locs hw_u_20 hP hD hS => ?_)
  obtain rfl := hw_u_20
  have hP : va_P D classes [(h, .inr (7, [.ref a])), (a, .inl (cI, 41, .inl (cB2 z0 7)))] H := hP
  have hD : va_D A [(h, .inr (7, [.ref a])), (a, .inl (cI, 41, .inl (cB2 z0 7)))] := hD
  refine lv_topi (fun z_22 ez_22 => ?_)
  obtain rfl : z_22 = 0 := ez_22.trans (by decide +kernel)
  refine lv_iload_n hx hb dX7_bargesOfFate_16 rfl (lv_at hl 3 rfl) ?_
  refine lv_icmp_ne (tgt := 26) hx hb dX7_bargesOfFate_17 (by decide) (fun c_23 => ?_) (fun c_23 => absurd c_23 (by decide +kernel))
  refine lv_iconst (v := 0) hx hb dX7_bargesOfFate_26 (by decide) ?_
  refine lv_ior hx hb dX7_bargesOfFate_27 ?_
  refine lv_topi (fun z_24 ez_24 => ?_)
  obtain rfl : z_24 = 0 := ez_24.trans (by decide +kernel)
  refine lv_istore_n (lv' := [(2, .int 0), (3, .int 3), (0, .ref h), (1, .int 1)]) hx hb dX7_bargesOfFate_28 rfl hl (by decide) rfl (fun ls hl => ?_)
  refine lv_iinc (v := 4) (lv' := [(3, .int 4), (2, .int 0), (0, .ref h), (1, .int 1)]) hx hb dX7_bargesOfFate_29 hl (k := 1) rfl (by decide +kernel) (by decide) rfl (fun ls hl => ?_)
  refine lv_goto (tgt := 4) hx hb dX7_bargesOfFate_32 (by decide) ?_
  refine lv_iload_n hx hb dX7_bargesOfFate_4 rfl (lv_at hl 0 rfl) ?_
  refine lv_bipush (v := 7) hx hb dX7_bargesOfFate_5 (by decide) ?_
  refine lv_icmp_ge (tgt := 35) hx hb dX7_bargesOfFate_7 (by decide) (fun c_25 => absurd c_25 (by decide +kernel)) (fun c_25 => ?_)
  refine lv_iload_n hx hb dX7_bargesOfFate_10 rfl (lv_at hl 1 rfl) ?_
  refine lv_aload_n hx hb dX7_bargesOfFate_11 rfl (lv_at hl 2 rfl) ?_
  refine lv_iload_n hx hb dX7_bargesOfFate_12 rfl (lv_at hl 0 rfl) ?_
  refine cVi (wr := []) (rest := [.int 0]) (k_fateOf h a (cB2 z0 7) 4) okV_X7_fateOf wd_140 hx hb hml hown hts hK hP hD hS hA hN hl.1 [0, 1] [] rfl rfl rfl rfl (by decide) rfl rfl rfl (Nat.le_of_ble_eq_true rfl) (Nat.le_of_ble_eq_true rfl) (Nat.le_of_ble_eq_true rfl) (Nat.le_of_ble_eq_true rfl) (Nat.le_of_ble_eq_true rfl) dX7_bargesOfFate_13 (fun r_27 u_26 H locs hw_u_26 hP hD hS => ?_)
  obtain rfl := hw_u_26
  have hP : va_P D classes [(h, .inr (7, [.ref a])), (a, .inl (cI, 41, .inl (cB2 z0 7)))] H := hP
  have hD : va_D A [(h, .inr (7, [.ref a])), (a, .inl (cI, 41, .inl (cB2 z0 7)))] := hD
  refine lv_topi (fun z_28 ez_28 => ?_)
  obtain rfl : z_28 = 0 := ez_28.trans (by decide +kernel)
  refine lv_iload_n hx hb dX7_bargesOfFate_16 rfl (lv_at hl 3 rfl) ?_
  refine lv_icmp_ne (tgt := 26) hx hb dX7_bargesOfFate_17 (by decide) (fun c_29 => ?_) (fun c_29 => absurd c_29 (by decide +kernel))
  refine lv_iconst (v := 0) hx hb dX7_bargesOfFate_26 (by decide) ?_
  refine lv_ior hx hb dX7_bargesOfFate_27 ?_
  refine lv_topi (fun z_30 ez_30 => ?_)
  obtain rfl : z_30 = 0 := ez_30.trans (by decide +kernel)
  refine lv_istore_n (lv' := [(2, .int 0), (3, .int 4), (0, .ref h), (1, .int 1)]) hx hb dX7_bargesOfFate_28 rfl hl (by decide) rfl (fun ls hl => ?_)
  refine lv_iinc (v := 5) (lv' := [(3, .int 5), (2, .int 0), (0, .ref h), (1, .int 1)]) hx hb dX7_bargesOfFate_29 hl (k := 1) rfl (by decide +kernel) (by decide) rfl (fun ls hl => ?_)
  refine lv_goto (tgt := 4) hx hb dX7_bargesOfFate_32 (by decide) ?_
  refine lv_iload_n hx hb dX7_bargesOfFate_4 rfl (lv_at hl 0 rfl) ?_
  refine lv_bipush (v := 7) hx hb dX7_bargesOfFate_5 (by decide) ?_
  refine lv_icmp_ge (tgt := 35) hx hb dX7_bargesOfFate_7 (by decide) (fun c_31 => absurd c_31 (by decide +kernel)) (fun c_31 => ?_)
  refine lv_iload_n hx hb dX7_bargesOfFate_10 rfl (lv_at hl 1 rfl) ?_
  refine lv_aload_n hx hb dX7_bargesOfFate_11 rfl (lv_at hl 2 rfl) ?_
  refine lv_iload_n hx hb dX7_bargesOfFate_12 rfl (lv_at hl 0 rfl) ?_
  refine cVi (wr := []) (rest := [.int 0]) (k_fateOf h a (cB2 z0 7) 5) okV_X7_fateOf wd_140 hx hb hml hown hts hK hP hD hS hA hN hl.1 [0, 1] [] rfl rfl rfl rfl (by decide) rfl rfl rfl (Nat.le_of_ble_eq_true rfl) (Nat.le_of_ble_eq_true rfl) (Nat.le_of_ble_eq_true rfl) (Nat.le_of_ble_eq_true rfl) (Nat.le_of_ble_eq_true rfl) dX7_bargesOfFate_13 (fun r_33 u_32 H locs hw_u_32 hP hD hS => ?_)
  obtain rfl := hw_u_32
  have hP : va_P D classes [(h, .inr (7, [.ref a])), (a, .inl (cI, 41, .inl (cB2 z0 7)))] H := hP
  have hD : va_D A [(h, .inr (7, [.ref a])), (a, .inl (cI, 41, .inl (cB2 z0 7)))] := hD
  refine lv_topi (fun z_34 ez_34 => ?_)
  obtain rfl : z_34 = 0 := ez_34.trans (by decide +kernel)
  refine lv_iload_n hx hb dX7_bargesOfFate_16 rfl (lv_at hl 3 rfl) ?_
  refine lv_icmp_ne (tgt := 26) hx hb dX7_bargesOfFate_17 (by decide) (fun c_35 => ?_) (fun c_35 => absurd c_35 (by decide +kernel))
  refine lv_iconst (v := 0) hx hb dX7_bargesOfFate_26 (by decide) ?_
  refine lv_ior hx hb dX7_bargesOfFate_27 ?_
  refine lv_topi (fun z_36 ez_36 => ?_)
  obtain rfl : z_36 = 0 := ez_36.trans (by decide +kernel)
  refine lv_istore_n (lv' := [(2, .int 0), (3, .int 5), (0, .ref h), (1, .int 1)]) hx hb dX7_bargesOfFate_28 rfl hl (by decide) rfl (fun ls hl => ?_)
  refine lv_iinc (v := 6) (lv' := [(3, .int 6), (2, .int 0), (0, .ref h), (1, .int 1)]) hx hb dX7_bargesOfFate_29 hl (k := 1) rfl (by decide +kernel) (by decide) rfl (fun ls hl => ?_)
  refine lv_goto (tgt := 4) hx hb dX7_bargesOfFate_32 (by decide) ?_
  refine lv_iload_n hx hb dX7_bargesOfFate_4 rfl (lv_at hl 0 rfl) ?_
  refine lv_bipush (v := 7) hx hb dX7_bargesOfFate_5 (by decide) ?_
  refine lv_icmp_ge (tgt := 35) hx hb dX7_bargesOfFate_7 (by decide) (fun c_37 => absurd c_37 (by decide +kernel)) (fun c_37 => ?_)
  refine lv_iload_n hx hb dX7_bargesOfFate_10 rfl (lv_at hl 1 rfl) ?_
  refine lv_aload_n hx hb dX7_bargesOfFate_11 rfl (lv_at hl 2 rfl) ?_
  refine lv_iload_n hx hb dX7_bargesOfFate_12 rfl (lv_at hl 0 rfl) ?_
  refine cVi (wr := []) (rest := [.int 0]) (k_fateOf h a (cB2 z0 7) 6) okV_X7_fateOf wd_140 hx hb hml hown hts hK hP hD hS hA hN hl.1 [0, 1] [] rfl rfl rfl rfl (by decide) rfl rfl rfl (Nat.le_of_ble_eq_true rfl) (Nat.le_of_ble_eq_true rfl) (Nat.le_of_ble_eq_true rfl) (Nat.le_of_ble_eq_true rfl) (Nat.le_of_ble_eq_true rfl) dX7_bargesOfFate_13 (fun r_39 u_38 H locs hw_u_38 hP hD hS => ?_)
  obtain rfl := hw_u_38
  have hP : va_P D classes [(h, .inr (7, [.ref a])), (a, .inl (cI, 41, .inl (cB2 z0 7)))] H := hP
  have hD : va_D A [(h, .inr (7, [.ref a])), (a, .inl (cI, 41, .inl (cB2 z0 7)))] := hD
  refine lv_topi (fun z_40 ez_40 => ?_)
  obtain rfl : z_40 = 0 := ez_40.trans (by decide +kernel)
  refine lv_iload_n hx hb dX7_bargesOfFate_16 rfl (lv_at hl 3 rfl) ?_
  refine lv_icmp_ne (tgt := 26) hx hb dX7_bargesOfFate_17 (by decide) (fun c_41 => ?_) (fun c_41 => absurd c_41 (by decide +kernel))
  refine lv_iconst (v := 0) hx hb dX7_bargesOfFate_26 (by decide) ?_
  refine lv_ior hx hb dX7_bargesOfFate_27 ?_
  refine lv_topi (fun z_42 ez_42 => ?_)
  obtain rfl : z_42 = 0 := ez_42.trans (by decide +kernel)
  refine lv_istore_n (lv' := [(2, .int 0), (3, .int 6), (0, .ref h), (1, .int 1)]) hx hb dX7_bargesOfFate_28 rfl hl (by decide) rfl (fun ls hl => ?_)
  refine lv_iinc (v := 7) (lv' := [(3, .int 7), (2, .int 0), (0, .ref h), (1, .int 1)]) hx hb dX7_bargesOfFate_29 hl (k := 1) rfl (by decide +kernel) (by decide) rfl (fun ls hl => ?_)
  refine lv_goto (tgt := 4) hx hb dX7_bargesOfFate_32 (by decide) ?_
  refine lv_iload_n hx hb dX7_bargesOfFate_4 rfl (lv_at hl 0 rfl) ?_
  refine lv_bipush (v := 7) hx hb dX7_bargesOfFate_5 (by decide) ?_
  refine lv_icmp_ge (tgt := 35) hx hb dX7_bargesOfFate_7 (by decide) (fun c_43 => ?_) (fun c_43 => absurd (by decide +kernel) c_43)
  refine lv_iload_n hx hb dX7_bargesOfFate_35 rfl (lv_at hl 1 rfl) ?_
  exact hret 0 () _ _ _ _ dX7_bargesOfFate_36 rfl rfl (cutP (isC := [0, 1]) hP rfl) (cutD (isC := [0, 1]) hD rfl rfl) hS
def rm_k_bargesOfFate2 : Room := { frames := 2, cells := 0, slots := 0, locals := 42 }
set_option maxHeartbeats 4000000 in
set_option maxRecDepth 100000 in
theorem k_bargesOfFate2 {l : Launch} {D : va_G} {cI cZ : ClassId} {sz : Nat} (h a : Nat) : KI l yX7_bargesOfFate cX7_bargesOfFate 4 (some .int) rm_k_bargesOfFate2 D cI cZ [.ref h, .int 2] sz [(h, .inr (7, [.ref a])), (a, .inl (cI, 41, .inl (cB2 z0 7)))] (fun (r : Int32) (_ : Unit) => r = 0) (fun (_ : Unit) => [(h, .inr (7, [.ref a])), (a, .inl (cI, 41, .inl (cB2 z0 7)))]) := by
  refine KI.go rfl (Nat.le_of_ble_eq_true rfl) ?_
  intro p e s m args below meth c ls A Q hx hb hml hts hown hin hP hK hD hS hA hN hl hret
  have hl : lv_has ls 4 [(0, .ref h), (1, .int 2)] := hl
  refine lv_iconst (v := 0) hx hb dX7_bargesOfFate_0 (by decide) ?_
  refine lv_istore_n (lv' := [(2, .int 0), (0, .ref h), (1, .int 2)]) hx hb dX7_bargesOfFate_1 rfl hl (by decide) rfl (fun ls hl => ?_)
  refine lv_iconst (v := 0) hx hb dX7_bargesOfFate_2 (by decide) ?_
  refine lv_istore_n (lv' := [(3, .int 0), (2, .int 0), (0, .ref h), (1, .int 2)]) hx hb dX7_bargesOfFate_3 rfl hl (by decide) rfl (fun ls hl => ?_)
  refine lv_iload_n hx hb dX7_bargesOfFate_4 rfl (lv_at hl 0 rfl) ?_
  refine lv_bipush (v := 7) hx hb dX7_bargesOfFate_5 (by decide) ?_
  refine lv_icmp_ge (tgt := 35) hx hb dX7_bargesOfFate_7 (by decide) (fun c_1 => absurd c_1 (by decide +kernel)) (fun c_1 => ?_)
  refine lv_iload_n hx hb dX7_bargesOfFate_10 rfl (lv_at hl 1 rfl) ?_
  refine lv_aload_n hx hb dX7_bargesOfFate_11 rfl (lv_at hl 2 rfl) ?_
  refine lv_iload_n hx hb dX7_bargesOfFate_12 rfl (lv_at hl 0 rfl) ?_
  refine cVi (wr := []) (rest := [.int 0]) (k_fateOf h a (cB2 z0 7) 0) okV_X7_fateOf wd_140 hx hb hml hown hts hK hP hD hS hA hN hl.1 [0, 1] [] rfl rfl rfl rfl (by decide) rfl rfl rfl (Nat.le_of_ble_eq_true rfl) (Nat.le_of_ble_eq_true rfl) (Nat.le_of_ble_eq_true rfl) (Nat.le_of_ble_eq_true rfl) (Nat.le_of_ble_eq_true rfl) dX7_bargesOfFate_13 (fun r_3 u_2 H locs hw_u_2 hP hD hS => ?_)
  obtain rfl := hw_u_2
  have hP : va_P D classes [(h, .inr (7, [.ref a])), (a, .inl (cI, 41, .inl (cB2 z0 7)))] H := hP
  have hD : va_D A [(h, .inr (7, [.ref a])), (a, .inl (cI, 41, .inl (cB2 z0 7)))] := hD
  refine lv_topi (fun z_4 ez_4 => ?_)
  obtain rfl : z_4 = 0 := ez_4.trans (by decide +kernel)
  refine lv_iload_n hx hb dX7_bargesOfFate_16 rfl (lv_at hl 3 rfl) ?_
  refine lv_icmp_ne (tgt := 26) hx hb dX7_bargesOfFate_17 (by decide) (fun c_5 => ?_) (fun c_5 => absurd c_5 (by decide +kernel))
  refine lv_iconst (v := 0) hx hb dX7_bargesOfFate_26 (by decide) ?_
  refine lv_ior hx hb dX7_bargesOfFate_27 ?_
  refine lv_topi (fun z_6 ez_6 => ?_)
  obtain rfl : z_6 = 0 := ez_6.trans (by decide +kernel)
  refine lv_istore_n (lv' := [(2, .int 0), (3, .int 0), (0, .ref h), (1, .int 2)]) hx hb dX7_bargesOfFate_28 rfl hl (by decide) rfl (fun ls hl => ?_)
  refine lv_iinc (v := 1) (lv' := [(3, .int 1), (2, .int 0), (0, .ref h), (1, .int 2)]) hx hb dX7_bargesOfFate_29 hl (k := 1) rfl (by decide +kernel) (by decide) rfl (fun ls hl => ?_)
  refine lv_goto (tgt := 4) hx hb dX7_bargesOfFate_32 (by decide) ?_
  refine lv_iload_n hx hb dX7_bargesOfFate_4 rfl (lv_at hl 0 rfl) ?_
  refine lv_bipush (v := 7) hx hb dX7_bargesOfFate_5 (by decide) ?_
  refine lv_icmp_ge (tgt := 35) hx hb dX7_bargesOfFate_7 (by decide) (fun c_7 => absurd c_7 (by decide +kernel)) (fun c_7 => ?_)
  refine lv_iload_n hx hb dX7_bargesOfFate_10 rfl (lv_at hl 1 rfl) ?_
  refine lv_aload_n hx hb dX7_bargesOfFate_11 rfl (lv_at hl 2 rfl) ?_
  refine lv_iload_n hx hb dX7_bargesOfFate_12 rfl (lv_at hl 0 rfl) ?_
  refine cVi (wr := []) (rest := [.int 0]) (k_fateOf h a (cB2 z0 7) 1) okV_X7_fateOf wd_140 hx hb hml hown hts hK hP hD hS hA hN hl.1 [0, 1] [] rfl rfl rfl rfl (by decide) rfl rfl rfl (Nat.le_of_ble_eq_true rfl) (Nat.le_of_ble_eq_true rfl) (Nat.le_of_ble_eq_true rfl) (Nat.le_of_ble_eq_true rfl) (Nat.le_of_ble_eq_true rfl) dX7_bargesOfFate_13 (fun r_9 u_8 H locs hw_u_8 hP hD hS => ?_)
  obtain rfl := hw_u_8
  have hP : va_P D classes [(h, .inr (7, [.ref a])), (a, .inl (cI, 41, .inl (cB2 z0 7)))] H := hP
  have hD : va_D A [(h, .inr (7, [.ref a])), (a, .inl (cI, 41, .inl (cB2 z0 7)))] := hD
  refine lv_topi (fun z_10 ez_10 => ?_)
  obtain rfl : z_10 = 0 := ez_10.trans (by decide +kernel)
  refine lv_iload_n hx hb dX7_bargesOfFate_16 rfl (lv_at hl 3 rfl) ?_
  refine lv_icmp_ne (tgt := 26) hx hb dX7_bargesOfFate_17 (by decide) (fun c_11 => ?_) (fun c_11 => absurd c_11 (by decide +kernel))
  refine lv_iconst (v := 0) hx hb dX7_bargesOfFate_26 (by decide) ?_
  refine lv_ior hx hb dX7_bargesOfFate_27 ?_
  refine lv_topi (fun z_12 ez_12 => ?_)
  obtain rfl : z_12 = 0 := ez_12.trans (by decide +kernel)
  refine lv_istore_n (lv' := [(2, .int 0), (3, .int 1), (0, .ref h), (1, .int 2)]) hx hb dX7_bargesOfFate_28 rfl hl (by decide) rfl (fun ls hl => ?_)
  refine lv_iinc (v := 2) (lv' := [(3, .int 2), (2, .int 0), (0, .ref h), (1, .int 2)]) hx hb dX7_bargesOfFate_29 hl (k := 1) rfl (by decide +kernel) (by decide) rfl (fun ls hl => ?_)
  refine lv_goto (tgt := 4) hx hb dX7_bargesOfFate_32 (by decide) ?_
  refine lv_iload_n hx hb dX7_bargesOfFate_4 rfl (lv_at hl 0 rfl) ?_
  refine lv_bipush (v := 7) hx hb dX7_bargesOfFate_5 (by decide) ?_
  refine lv_icmp_ge (tgt := 35) hx hb dX7_bargesOfFate_7 (by decide) (fun c_13 => absurd c_13 (by decide +kernel)) (fun c_13 => ?_)
  refine lv_iload_n hx hb dX7_bargesOfFate_10 rfl (lv_at hl 1 rfl) ?_
  refine lv_aload_n hx hb dX7_bargesOfFate_11 rfl (lv_at hl 2 rfl) ?_
  refine lv_iload_n hx hb dX7_bargesOfFate_12 rfl (lv_at hl 0 rfl) ?_
  refine cVi (wr := []) (rest := [.int 0]) (k_fateOf h a (cB2 z0 7) 2) okV_X7_fateOf wd_140 hx hb hml hown hts hK hP hD hS hA hN hl.1 [0, 1] [] rfl rfl rfl rfl (by decide) rfl rfl rfl (Nat.le_of_ble_eq_true rfl) (Nat.le_of_ble_eq_true rfl) (Nat.le_of_ble_eq_true rfl) (Nat.le_of_ble_eq_true rfl) (Nat.le_of_ble_eq_true rfl) dX7_bargesOfFate_13 (fun r_15 u_14 H locs hw_u_14 hP hD hS => ?_)
  obtain rfl := hw_u_14
  have hP : va_P D classes [(h, .inr (7, [.ref a])), (a, .inl (cI, 41, .inl (cB2 z0 7)))] H := hP
  have hD : va_D A [(h, .inr (7, [.ref a])), (a, .inl (cI, 41, .inl (cB2 z0 7)))] := hD
  refine lv_topi (fun z_16 ez_16 => ?_)
  obtain rfl : z_16 = 0 := ez_16.trans (by decide +kernel)
  refine lv_iload_n hx hb dX7_bargesOfFate_16 rfl (lv_at hl 3 rfl) ?_
  refine lv_icmp_ne (tgt := 26) hx hb dX7_bargesOfFate_17 (by decide) (fun c_17 => ?_) (fun c_17 => absurd c_17 (by decide +kernel))
  refine lv_iconst (v := 0) hx hb dX7_bargesOfFate_26 (by decide) ?_
  refine lv_ior hx hb dX7_bargesOfFate_27 ?_
  refine lv_topi (fun z_18 ez_18 => ?_)
  obtain rfl : z_18 = 0 := ez_18.trans (by decide +kernel)
  refine lv_istore_n (lv' := [(2, .int 0), (3, .int 2), (0, .ref h), (1, .int 2)]) hx hb dX7_bargesOfFate_28 rfl hl (by decide) rfl (fun ls hl => ?_)
  refine lv_iinc (v := 3) (lv' := [(3, .int 3), (2, .int 0), (0, .ref h), (1, .int 2)]) hx hb dX7_bargesOfFate_29 hl (k := 1) rfl (by decide +kernel) (by decide) rfl (fun ls hl => ?_)
  refine lv_goto (tgt := 4) hx hb dX7_bargesOfFate_32 (by decide) ?_
  refine lv_iload_n hx hb dX7_bargesOfFate_4 rfl (lv_at hl 0 rfl) ?_
  refine lv_bipush (v := 7) hx hb dX7_bargesOfFate_5 (by decide) ?_
  refine lv_icmp_ge (tgt := 35) hx hb dX7_bargesOfFate_7 (by decide) (fun c_19 => absurd c_19 (by decide +kernel)) (fun c_19 => ?_)
  refine lv_iload_n hx hb dX7_bargesOfFate_10 rfl (lv_at hl 1 rfl) ?_
  refine lv_aload_n hx hb dX7_bargesOfFate_11 rfl (lv_at hl 2 rfl) ?_
  refine lv_iload_n hx hb dX7_bargesOfFate_12 rfl (lv_at hl 0 rfl) ?_
  refine cVi (wr := []) (rest := [.int 0]) (k_fateOf h a (cB2 z0 7) 3) okV_X7_fateOf wd_140 hx hb hml hown hts hK hP hD hS hA hN hl.1 [0, 1] [] rfl rfl rfl rfl (by decide) rfl rfl rfl (Nat.le_of_ble_eq_true rfl) (Nat.le_of_ble_eq_true rfl) (Nat.le_of_ble_eq_true rfl) (Nat.le_of_ble_eq_true rfl) (Nat.le_of_ble_eq_true rfl) dX7_bargesOfFate_13 (fun r_21 u_20 H locs hw_u_20 hP hD hS => ?_)
  obtain rfl := hw_u_20
  have hP : va_P D classes [(h, .inr (7, [.ref a])), (a, .inl (cI, 41, .inl (cB2 z0 7)))] H := hP
  have hD : va_D A [(h, .inr (7, [.ref a])), (a, .inl (cI, 41, .inl (cB2 z0 7)))] := hD
  refine lv_topi (fun z_22 ez_22 => ?_)
  obtain rfl : z_22 = 0 := ez_22.trans (by decide +kernel)
  refine lv_iload_n hx hb dX7_bargesOfFate_16 rfl (lv_at hl 3 rfl) ?_
  refine lv_icmp_ne (tgt := 26) hx hb dX7_bargesOfFate_17 (by decide) (fun c_23 => ?_) (fun c_23 => absurd c_23 (by decide +kernel))
  refine lv_iconst (v := 0) hx hb dX7_bargesOfFate_26 (by decide) ?_
  refine lv_ior hx hb dX7_bargesOfFate_27 ?_
  refine lv_topi (fun z_24 ez_24 => ?_)
  obtain rfl : z_24 = 0 := ez_24.trans (by decide +kernel)
  refine lv_istore_n (lv' := [(2, .int 0), (3, .int 3), (0, .ref h), (1, .int 2)]) hx hb dX7_bargesOfFate_28 rfl hl (by decide) rfl (fun ls hl => ?_)
  refine lv_iinc (v := 4) (lv' := [(3, .int 4), (2, .int 0), (0, .ref h), (1, .int 2)]) hx hb dX7_bargesOfFate_29 hl (k := 1) rfl (by decide +kernel) (by decide) rfl (fun ls hl => ?_)
  refine lv_goto (tgt := 4) hx hb dX7_bargesOfFate_32 (by decide) ?_
  refine lv_iload_n hx hb dX7_bargesOfFate_4 rfl (lv_at hl 0 rfl) ?_
  refine lv_bipush (v := 7) hx hb dX7_bargesOfFate_5 (by decide) ?_
  refine lv_icmp_ge (tgt := 35) hx hb dX7_bargesOfFate_7 (by decide) (fun c_25 => absurd c_25 (by decide +kernel)) (fun c_25 => ?_)
  refine lv_iload_n hx hb dX7_bargesOfFate_10 rfl (lv_at hl 1 rfl) ?_
  refine lv_aload_n hx hb dX7_bargesOfFate_11 rfl (lv_at hl 2 rfl) ?_
  refine lv_iload_n hx hb dX7_bargesOfFate_12 rfl (lv_at hl 0 rfl) ?_
  refine cVi (wr := []) (rest := [.int 0]) (k_fateOf h a (cB2 z0 7) 4) okV_X7_fateOf wd_140 hx hb hml hown hts hK hP hD hS hA hN hl.1 [0, 1] [] rfl rfl rfl rfl (by decide) rfl rfl rfl (Nat.le_of_ble_eq_true rfl) (Nat.le_of_ble_eq_true rfl) (Nat.le_of_ble_eq_true rfl) (Nat.le_of_ble_eq_true rfl) (Nat.le_of_ble_eq_true rfl) dX7_bargesOfFate_13 (fun r_27 u_26 H locs hw_u_26 hP hD hS => ?_)
  obtain rfl := hw_u_26
  have hP : va_P D classes [(h, .inr (7, [.ref a])), (a, .inl (cI, 41, .inl (cB2 z0 7)))] H := hP
  have hD : va_D A [(h, .inr (7, [.ref a])), (a, .inl (cI, 41, .inl (cB2 z0 7)))] := hD
  refine lv_topi (fun z_28 ez_28 => ?_)
  obtain rfl : z_28 = 0 := ez_28.trans (by decide +kernel)
  refine lv_iload_n hx hb dX7_bargesOfFate_16 rfl (lv_at hl 3 rfl) ?_
  refine lv_icmp_ne (tgt := 26) hx hb dX7_bargesOfFate_17 (by decide) (fun c_29 => ?_) (fun c_29 => absurd c_29 (by decide +kernel))
  refine lv_iconst (v := 0) hx hb dX7_bargesOfFate_26 (by decide) ?_
  refine lv_ior hx hb dX7_bargesOfFate_27 ?_
  refine lv_topi (fun z_30 ez_30 => ?_)
  obtain rfl : z_30 = 0 := ez_30.trans (by decide +kernel)
  refine lv_istore_n (lv' := [(2, .int 0), (3, .int 4), (0, .ref h), (1, .int 2)]) hx hb dX7_bargesOfFate_28 rfl hl (by decide) rfl (fun ls hl => ?_)
  refine lv_iinc (v := 5) (lv' := [(3, .int 5), (2, .int 0), (0, .ref h), (1, .int 2)]) hx hb dX7_bargesOfFate_29 hl (k := 1) rfl (by decide +kernel) (by decide) rfl (fun ls hl => ?_)
  refine lv_goto (tgt := 4) hx hb dX7_bargesOfFate_32 (by decide) ?_
  refine lv_iload_n hx hb dX7_bargesOfFate_4 rfl (lv_at hl 0 rfl) ?_
  refine lv_bipush (v := 7) hx hb dX7_bargesOfFate_5 (by decide) ?_
  refine lv_icmp_ge (tgt := 35) hx hb dX7_bargesOfFate_7 (by decide) (fun c_31 => absurd c_31 (by decide +kernel)) (fun c_31 => ?_)
  refine lv_iload_n hx hb dX7_bargesOfFate_10 rfl (lv_at hl 1 rfl) ?_
  refine lv_aload_n hx hb dX7_bargesOfFate_11 rfl (lv_at hl 2 rfl) ?_
  refine lv_iload_n hx hb dX7_bargesOfFate_12 rfl (lv_at hl 0 rfl) ?_
  refine cVi (wr := []) (rest := [.int 0]) (k_fateOf h a (cB2 z0 7) 5) okV_X7_fateOf wd_140 hx hb hml hown hts hK hP hD hS hA hN hl.1 [0, 1] [] rfl rfl rfl rfl (by decide) rfl rfl rfl (Nat.le_of_ble_eq_true rfl) (Nat.le_of_ble_eq_true rfl) (Nat.le_of_ble_eq_true rfl) (Nat.le_of_ble_eq_true rfl) (Nat.le_of_ble_eq_true rfl) dX7_bargesOfFate_13 (fun r_33 u_32 H locs hw_u_32 hP hD hS => ?_)
  obtain rfl := hw_u_32
  have hP : va_P D classes [(h, .inr (7, [.ref a])), (a, .inl (cI, 41, .inl (cB2 z0 7)))] H := hP
  have hD : va_D A [(h, .inr (7, [.ref a])), (a, .inl (cI, 41, .inl (cB2 z0 7)))] := hD
  refine lv_topi (fun z_34 ez_34 => ?_)
  obtain rfl : z_34 = 0 := ez_34.trans (by decide +kernel)
  refine lv_iload_n hx hb dX7_bargesOfFate_16 rfl (lv_at hl 3 rfl) ?_
  refine lv_icmp_ne (tgt := 26) hx hb dX7_bargesOfFate_17 (by decide) (fun c_35 => ?_) (fun c_35 => absurd c_35 (by decide +kernel))
  refine lv_iconst (v := 0) hx hb dX7_bargesOfFate_26 (by decide) ?_
  refine lv_ior hx hb dX7_bargesOfFate_27 ?_
  refine lv_topi (fun z_36 ez_36 => ?_)
  obtain rfl : z_36 = 0 := ez_36.trans (by decide +kernel)
  refine lv_istore_n (lv' := [(2, .int 0), (3, .int 5), (0, .ref h), (1, .int 2)]) hx hb dX7_bargesOfFate_28 rfl hl (by decide) rfl (fun ls hl => ?_)
  refine lv_iinc (v := 6) (lv' := [(3, .int 6), (2, .int 0), (0, .ref h), (1, .int 2)]) hx hb dX7_bargesOfFate_29 hl (k := 1) rfl (by decide +kernel) (by decide) rfl (fun ls hl => ?_)
  refine lv_goto (tgt := 4) hx hb dX7_bargesOfFate_32 (by decide) ?_
  refine lv_iload_n hx hb dX7_bargesOfFate_4 rfl (lv_at hl 0 rfl) ?_
  refine lv_bipush (v := 7) hx hb dX7_bargesOfFate_5 (by decide) ?_
  refine lv_icmp_ge (tgt := 35) hx hb dX7_bargesOfFate_7 (by decide) (fun c_37 => absurd c_37 (by decide +kernel)) (fun c_37 => ?_)
  refine lv_iload_n hx hb dX7_bargesOfFate_10 rfl (lv_at hl 1 rfl) ?_
  refine lv_aload_n hx hb dX7_bargesOfFate_11 rfl (lv_at hl 2 rfl) ?_
  refine lv_iload_n hx hb dX7_bargesOfFate_12 rfl (lv_at hl 0 rfl) ?_
  refine cVi (wr := []) (rest := [.int 0]) (k_fateOf h a (cB2 z0 7) 6) okV_X7_fateOf wd_140 hx hb hml hown hts hK hP hD hS hA hN hl.1 [0, 1] [] rfl rfl rfl rfl (by decide) rfl rfl rfl (Nat.le_of_ble_eq_true rfl) (Nat.le_of_ble_eq_true rfl) (Nat.le_of_ble_eq_true rfl) (Nat.le_of_ble_eq_true rfl) (Nat.le_of_ble_eq_true rfl) dX7_bargesOfFate_13 (fun r_39 u_38 H locs hw_u_38 hP hD hS => ?_)
  obtain rfl := hw_u_38
  have hP : va_P D classes [(h, .inr (7, [.ref a])), (a, .inl (cI, 41, .inl (cB2 z0 7)))] H := hP
  have hD : va_D A [(h, .inr (7, [.ref a])), (a, .inl (cI, 41, .inl (cB2 z0 7)))] := hD
  refine lv_topi (fun z_40 ez_40 => ?_)
  obtain rfl : z_40 = 0 := ez_40.trans (by decide +kernel)
  refine lv_iload_n hx hb dX7_bargesOfFate_16 rfl (lv_at hl 3 rfl) ?_
  refine lv_icmp_ne (tgt := 26) hx hb dX7_bargesOfFate_17 (by decide) (fun c_41 => ?_) (fun c_41 => absurd c_41 (by decide +kernel))
  refine lv_iconst (v := 0) hx hb dX7_bargesOfFate_26 (by decide) ?_
  refine lv_ior hx hb dX7_bargesOfFate_27 ?_
  refine lv_topi (fun z_42 ez_42 => ?_)
  obtain rfl : z_42 = 0 := ez_42.trans (by decide +kernel)
  refine lv_istore_n (lv' := [(2, .int 0), (3, .int 6), (0, .ref h), (1, .int 2)]) hx hb dX7_bargesOfFate_28 rfl hl (by decide) rfl (fun ls hl => ?_)
  refine lv_iinc (v := 7) (lv' := [(3, .int 7), (2, .int 0), (0, .ref h), (1, .int 2)]) hx hb dX7_bargesOfFate_29 hl (k := 1) rfl (by decide +kernel) (by decide) rfl (fun ls hl => ?_)
  refine lv_goto (tgt := 4) hx hb dX7_bargesOfFate_32 (by decide) ?_
  refine lv_iload_n hx hb dX7_bargesOfFate_4 rfl (lv_at hl 0 rfl) ?_
  refine lv_bipush (v := 7) hx hb dX7_bargesOfFate_5 (by decide) ?_
  refine lv_icmp_ge (tgt := 35) hx hb dX7_bargesOfFate_7 (by decide) (fun c_43 => ?_) (fun c_43 => absurd (by decide +kernel) c_43)
  refine lv_iload_n hx hb dX7_bargesOfFate_35 rfl (lv_at hl 1 rfl) ?_
  exact hret 0 () _ _ _ _ dX7_bargesOfFate_36 rfl rfl (cutP (isC := [0, 1]) hP rfl) (cutD (isC := [0, 1]) hD rfl rfl) hS
def rm_k_bargesOfFate3 : Room := { frames := 2, cells := 0, slots := 0, locals := 42 }
set_option maxHeartbeats 4000000 in
set_option maxRecDepth 100000 in
theorem k_bargesOfFate3 {l : Launch} {D : va_G} {cI cZ : ClassId} {sz : Nat} (h a : Nat) : KI l yX7_bargesOfFate cX7_bargesOfFate 4 (some .int) rm_k_bargesOfFate3 D cI cZ [.ref h, .int 3] sz [(h, .inr (7, [.ref a])), (a, .inl (cI, 41, .inl (cB2 z0 7)))] (fun (r : Int32) (_ : Unit) => r = 0) (fun (_ : Unit) => [(h, .inr (7, [.ref a])), (a, .inl (cI, 41, .inl (cB2 z0 7)))]) := by
  refine KI.go rfl (Nat.le_of_ble_eq_true rfl) ?_
  intro p e s m args below meth c ls A Q hx hb hml hts hown hin hP hK hD hS hA hN hl hret
  have hl : lv_has ls 4 [(0, .ref h), (1, .int 3)] := hl
  refine lv_iconst (v := 0) hx hb dX7_bargesOfFate_0 (by decide) ?_
  refine lv_istore_n (lv' := [(2, .int 0), (0, .ref h), (1, .int 3)]) hx hb dX7_bargesOfFate_1 rfl hl (by decide) rfl (fun ls hl => ?_)
  refine lv_iconst (v := 0) hx hb dX7_bargesOfFate_2 (by decide) ?_
  refine lv_istore_n (lv' := [(3, .int 0), (2, .int 0), (0, .ref h), (1, .int 3)]) hx hb dX7_bargesOfFate_3 rfl hl (by decide) rfl (fun ls hl => ?_)
  refine lv_iload_n hx hb dX7_bargesOfFate_4 rfl (lv_at hl 0 rfl) ?_
  refine lv_bipush (v := 7) hx hb dX7_bargesOfFate_5 (by decide) ?_
  refine lv_icmp_ge (tgt := 35) hx hb dX7_bargesOfFate_7 (by decide) (fun c_1 => absurd c_1 (by decide +kernel)) (fun c_1 => ?_)
  refine lv_iload_n hx hb dX7_bargesOfFate_10 rfl (lv_at hl 1 rfl) ?_
  refine lv_aload_n hx hb dX7_bargesOfFate_11 rfl (lv_at hl 2 rfl) ?_
  refine lv_iload_n hx hb dX7_bargesOfFate_12 rfl (lv_at hl 0 rfl) ?_
  refine cVi (wr := []) (rest := [.int 0]) (k_fateOf h a (cB2 z0 7) 0) okV_X7_fateOf wd_140 hx hb hml hown hts hK hP hD hS hA hN hl.1 [0, 1] [] rfl rfl rfl rfl (by decide) rfl rfl rfl (Nat.le_of_ble_eq_true rfl) (Nat.le_of_ble_eq_true rfl) (Nat.le_of_ble_eq_true rfl) (Nat.le_of_ble_eq_true rfl) (Nat.le_of_ble_eq_true rfl) dX7_bargesOfFate_13 (fun r_3 u_2 H locs hw_u_2 hP hD hS => ?_)
  obtain rfl := hw_u_2
  have hP : va_P D classes [(h, .inr (7, [.ref a])), (a, .inl (cI, 41, .inl (cB2 z0 7)))] H := hP
  have hD : va_D A [(h, .inr (7, [.ref a])), (a, .inl (cI, 41, .inl (cB2 z0 7)))] := hD
  refine lv_topi (fun z_4 ez_4 => ?_)
  obtain rfl : z_4 = 0 := ez_4.trans (by decide +kernel)
  refine lv_iload_n hx hb dX7_bargesOfFate_16 rfl (lv_at hl 3 rfl) ?_
  refine lv_icmp_ne (tgt := 26) hx hb dX7_bargesOfFate_17 (by decide) (fun c_5 => ?_) (fun c_5 => absurd c_5 (by decide +kernel))
  refine lv_iconst (v := 0) hx hb dX7_bargesOfFate_26 (by decide) ?_
  refine lv_ior hx hb dX7_bargesOfFate_27 ?_
  refine lv_topi (fun z_6 ez_6 => ?_)
  obtain rfl : z_6 = 0 := ez_6.trans (by decide +kernel)
  refine lv_istore_n (lv' := [(2, .int 0), (3, .int 0), (0, .ref h), (1, .int 3)]) hx hb dX7_bargesOfFate_28 rfl hl (by decide) rfl (fun ls hl => ?_)
  refine lv_iinc (v := 1) (lv' := [(3, .int 1), (2, .int 0), (0, .ref h), (1, .int 3)]) hx hb dX7_bargesOfFate_29 hl (k := 1) rfl (by decide +kernel) (by decide) rfl (fun ls hl => ?_)
  refine lv_goto (tgt := 4) hx hb dX7_bargesOfFate_32 (by decide) ?_
  refine lv_iload_n hx hb dX7_bargesOfFate_4 rfl (lv_at hl 0 rfl) ?_
  refine lv_bipush (v := 7) hx hb dX7_bargesOfFate_5 (by decide) ?_
  refine lv_icmp_ge (tgt := 35) hx hb dX7_bargesOfFate_7 (by decide) (fun c_7 => absurd c_7 (by decide +kernel)) (fun c_7 => ?_)
  refine lv_iload_n hx hb dX7_bargesOfFate_10 rfl (lv_at hl 1 rfl) ?_
  refine lv_aload_n hx hb dX7_bargesOfFate_11 rfl (lv_at hl 2 rfl) ?_
  refine lv_iload_n hx hb dX7_bargesOfFate_12 rfl (lv_at hl 0 rfl) ?_
  refine cVi (wr := []) (rest := [.int 0]) (k_fateOf h a (cB2 z0 7) 1) okV_X7_fateOf wd_140 hx hb hml hown hts hK hP hD hS hA hN hl.1 [0, 1] [] rfl rfl rfl rfl (by decide) rfl rfl rfl (Nat.le_of_ble_eq_true rfl) (Nat.le_of_ble_eq_true rfl) (Nat.le_of_ble_eq_true rfl) (Nat.le_of_ble_eq_true rfl) (Nat.le_of_ble_eq_true rfl) dX7_bargesOfFate_13 (fun r_9 u_8 H locs hw_u_8 hP hD hS => ?_)
  obtain rfl := hw_u_8
  have hP : va_P D classes [(h, .inr (7, [.ref a])), (a, .inl (cI, 41, .inl (cB2 z0 7)))] H := hP
  have hD : va_D A [(h, .inr (7, [.ref a])), (a, .inl (cI, 41, .inl (cB2 z0 7)))] := hD
  refine lv_topi (fun z_10 ez_10 => ?_)
  obtain rfl : z_10 = 0 := ez_10.trans (by decide +kernel)
  refine lv_iload_n hx hb dX7_bargesOfFate_16 rfl (lv_at hl 3 rfl) ?_
  refine lv_icmp_ne (tgt := 26) hx hb dX7_bargesOfFate_17 (by decide) (fun c_11 => ?_) (fun c_11 => absurd c_11 (by decide +kernel))
  refine lv_iconst (v := 0) hx hb dX7_bargesOfFate_26 (by decide) ?_
  refine lv_ior hx hb dX7_bargesOfFate_27 ?_
  refine lv_topi (fun z_12 ez_12 => ?_)
  obtain rfl : z_12 = 0 := ez_12.trans (by decide +kernel)
  refine lv_istore_n (lv' := [(2, .int 0), (3, .int 1), (0, .ref h), (1, .int 3)]) hx hb dX7_bargesOfFate_28 rfl hl (by decide) rfl (fun ls hl => ?_)
  refine lv_iinc (v := 2) (lv' := [(3, .int 2), (2, .int 0), (0, .ref h), (1, .int 3)]) hx hb dX7_bargesOfFate_29 hl (k := 1) rfl (by decide +kernel) (by decide) rfl (fun ls hl => ?_)
  refine lv_goto (tgt := 4) hx hb dX7_bargesOfFate_32 (by decide) ?_
  refine lv_iload_n hx hb dX7_bargesOfFate_4 rfl (lv_at hl 0 rfl) ?_
  refine lv_bipush (v := 7) hx hb dX7_bargesOfFate_5 (by decide) ?_
  refine lv_icmp_ge (tgt := 35) hx hb dX7_bargesOfFate_7 (by decide) (fun c_13 => absurd c_13 (by decide +kernel)) (fun c_13 => ?_)
  refine lv_iload_n hx hb dX7_bargesOfFate_10 rfl (lv_at hl 1 rfl) ?_
  refine lv_aload_n hx hb dX7_bargesOfFate_11 rfl (lv_at hl 2 rfl) ?_
  refine lv_iload_n hx hb dX7_bargesOfFate_12 rfl (lv_at hl 0 rfl) ?_
  refine cVi (wr := []) (rest := [.int 0]) (k_fateOf h a (cB2 z0 7) 2) okV_X7_fateOf wd_140 hx hb hml hown hts hK hP hD hS hA hN hl.1 [0, 1] [] rfl rfl rfl rfl (by decide) rfl rfl rfl (Nat.le_of_ble_eq_true rfl) (Nat.le_of_ble_eq_true rfl) (Nat.le_of_ble_eq_true rfl) (Nat.le_of_ble_eq_true rfl) (Nat.le_of_ble_eq_true rfl) dX7_bargesOfFate_13 (fun r_15 u_14 H locs hw_u_14 hP hD hS => ?_)
  obtain rfl := hw_u_14
  have hP : va_P D classes [(h, .inr (7, [.ref a])), (a, .inl (cI, 41, .inl (cB2 z0 7)))] H := hP
  have hD : va_D A [(h, .inr (7, [.ref a])), (a, .inl (cI, 41, .inl (cB2 z0 7)))] := hD
  refine lv_topi (fun z_16 ez_16 => ?_)
  obtain rfl : z_16 = 0 := ez_16.trans (by decide +kernel)
  refine lv_iload_n hx hb dX7_bargesOfFate_16 rfl (lv_at hl 3 rfl) ?_
  refine lv_icmp_ne (tgt := 26) hx hb dX7_bargesOfFate_17 (by decide) (fun c_17 => ?_) (fun c_17 => absurd c_17 (by decide +kernel))
  refine lv_iconst (v := 0) hx hb dX7_bargesOfFate_26 (by decide) ?_
  refine lv_ior hx hb dX7_bargesOfFate_27 ?_
  refine lv_topi (fun z_18 ez_18 => ?_)
  obtain rfl : z_18 = 0 := ez_18.trans (by decide +kernel)
  refine lv_istore_n (lv' := [(2, .int 0), (3, .int 2), (0, .ref h), (1, .int 3)]) hx hb dX7_bargesOfFate_28 rfl hl (by decide) rfl (fun ls hl => ?_)
  refine lv_iinc (v := 3) (lv' := [(3, .int 3), (2, .int 0), (0, .ref h), (1, .int 3)]) hx hb dX7_bargesOfFate_29 hl (k := 1) rfl (by decide +kernel) (by decide) rfl (fun ls hl => ?_)
  refine lv_goto (tgt := 4) hx hb dX7_bargesOfFate_32 (by decide) ?_
  refine lv_iload_n hx hb dX7_bargesOfFate_4 rfl (lv_at hl 0 rfl) ?_
  refine lv_bipush (v := 7) hx hb dX7_bargesOfFate_5 (by decide) ?_
  refine lv_icmp_ge (tgt := 35) hx hb dX7_bargesOfFate_7 (by decide) (fun c_19 => absurd c_19 (by decide +kernel)) (fun c_19 => ?_)
  refine lv_iload_n hx hb dX7_bargesOfFate_10 rfl (lv_at hl 1 rfl) ?_
  refine lv_aload_n hx hb dX7_bargesOfFate_11 rfl (lv_at hl 2 rfl) ?_
  refine lv_iload_n hx hb dX7_bargesOfFate_12 rfl (lv_at hl 0 rfl) ?_
  refine cVi (wr := []) (rest := [.int 0]) (k_fateOf h a (cB2 z0 7) 3) okV_X7_fateOf wd_140 hx hb hml hown hts hK hP hD hS hA hN hl.1 [0, 1] [] rfl rfl rfl rfl (by decide) rfl rfl rfl (Nat.le_of_ble_eq_true rfl) (Nat.le_of_ble_eq_true rfl) (Nat.le_of_ble_eq_true rfl) (Nat.le_of_ble_eq_true rfl) (Nat.le_of_ble_eq_true rfl) dX7_bargesOfFate_13 (fun r_21 u_20 H locs hw_u_20 hP hD hS => ?_)
  obtain rfl := hw_u_20
  have hP : va_P D classes [(h, .inr (7, [.ref a])), (a, .inl (cI, 41, .inl (cB2 z0 7)))] H := hP
  have hD : va_D A [(h, .inr (7, [.ref a])), (a, .inl (cI, 41, .inl (cB2 z0 7)))] := hD
  refine lv_topi (fun z_22 ez_22 => ?_)
  obtain rfl : z_22 = 0 := ez_22.trans (by decide +kernel)
  refine lv_iload_n hx hb dX7_bargesOfFate_16 rfl (lv_at hl 3 rfl) ?_
  refine lv_icmp_ne (tgt := 26) hx hb dX7_bargesOfFate_17 (by decide) (fun c_23 => ?_) (fun c_23 => absurd c_23 (by decide +kernel))
  refine lv_iconst (v := 0) hx hb dX7_bargesOfFate_26 (by decide) ?_
  refine lv_ior hx hb dX7_bargesOfFate_27 ?_
  refine lv_topi (fun z_24 ez_24 => ?_)
  obtain rfl : z_24 = 0 := ez_24.trans (by decide +kernel)
  refine lv_istore_n (lv' := [(2, .int 0), (3, .int 3), (0, .ref h), (1, .int 3)]) hx hb dX7_bargesOfFate_28 rfl hl (by decide) rfl (fun ls hl => ?_)
  refine lv_iinc (v := 4) (lv' := [(3, .int 4), (2, .int 0), (0, .ref h), (1, .int 3)]) hx hb dX7_bargesOfFate_29 hl (k := 1) rfl (by decide +kernel) (by decide) rfl (fun ls hl => ?_)
  refine lv_goto (tgt := 4) hx hb dX7_bargesOfFate_32 (by decide) ?_
  refine lv_iload_n hx hb dX7_bargesOfFate_4 rfl (lv_at hl 0 rfl) ?_
  refine lv_bipush (v := 7) hx hb dX7_bargesOfFate_5 (by decide) ?_
  refine lv_icmp_ge (tgt := 35) hx hb dX7_bargesOfFate_7 (by decide) (fun c_25 => absurd c_25 (by decide +kernel)) (fun c_25 => ?_)
  refine lv_iload_n hx hb dX7_bargesOfFate_10 rfl (lv_at hl 1 rfl) ?_
  refine lv_aload_n hx hb dX7_bargesOfFate_11 rfl (lv_at hl 2 rfl) ?_
  refine lv_iload_n hx hb dX7_bargesOfFate_12 rfl (lv_at hl 0 rfl) ?_
  refine cVi (wr := []) (rest := [.int 0]) (k_fateOf h a (cB2 z0 7) 4) okV_X7_fateOf wd_140 hx hb hml hown hts hK hP hD hS hA hN hl.1 [0, 1] [] rfl rfl rfl rfl (by decide) rfl rfl rfl (Nat.le_of_ble_eq_true rfl) (Nat.le_of_ble_eq_true rfl) (Nat.le_of_ble_eq_true rfl) (Nat.le_of_ble_eq_true rfl) (Nat.le_of_ble_eq_true rfl) dX7_bargesOfFate_13 (fun r_27 u_26 H locs hw_u_26 hP hD hS => ?_)
  obtain rfl := hw_u_26
  have hP : va_P D classes [(h, .inr (7, [.ref a])), (a, .inl (cI, 41, .inl (cB2 z0 7)))] H := hP
  have hD : va_D A [(h, .inr (7, [.ref a])), (a, .inl (cI, 41, .inl (cB2 z0 7)))] := hD
  refine lv_topi (fun z_28 ez_28 => ?_)
  obtain rfl : z_28 = 0 := ez_28.trans (by decide +kernel)
  refine lv_iload_n hx hb dX7_bargesOfFate_16 rfl (lv_at hl 3 rfl) ?_
  refine lv_icmp_ne (tgt := 26) hx hb dX7_bargesOfFate_17 (by decide) (fun c_29 => ?_) (fun c_29 => absurd c_29 (by decide +kernel))
  refine lv_iconst (v := 0) hx hb dX7_bargesOfFate_26 (by decide) ?_
  refine lv_ior hx hb dX7_bargesOfFate_27 ?_
  refine lv_topi (fun z_30 ez_30 => ?_)
  obtain rfl : z_30 = 0 := ez_30.trans (by decide +kernel)
  refine lv_istore_n (lv' := [(2, .int 0), (3, .int 4), (0, .ref h), (1, .int 3)]) hx hb dX7_bargesOfFate_28 rfl hl (by decide) rfl (fun ls hl => ?_)
  refine lv_iinc (v := 5) (lv' := [(3, .int 5), (2, .int 0), (0, .ref h), (1, .int 3)]) hx hb dX7_bargesOfFate_29 hl (k := 1) rfl (by decide +kernel) (by decide) rfl (fun ls hl => ?_)
  refine lv_goto (tgt := 4) hx hb dX7_bargesOfFate_32 (by decide) ?_
  refine lv_iload_n hx hb dX7_bargesOfFate_4 rfl (lv_at hl 0 rfl) ?_
  refine lv_bipush (v := 7) hx hb dX7_bargesOfFate_5 (by decide) ?_
  refine lv_icmp_ge (tgt := 35) hx hb dX7_bargesOfFate_7 (by decide) (fun c_31 => absurd c_31 (by decide +kernel)) (fun c_31 => ?_)
  refine lv_iload_n hx hb dX7_bargesOfFate_10 rfl (lv_at hl 1 rfl) ?_
  refine lv_aload_n hx hb dX7_bargesOfFate_11 rfl (lv_at hl 2 rfl) ?_
  refine lv_iload_n hx hb dX7_bargesOfFate_12 rfl (lv_at hl 0 rfl) ?_
  refine cVi (wr := []) (rest := [.int 0]) (k_fateOf h a (cB2 z0 7) 5) okV_X7_fateOf wd_140 hx hb hml hown hts hK hP hD hS hA hN hl.1 [0, 1] [] rfl rfl rfl rfl (by decide) rfl rfl rfl (Nat.le_of_ble_eq_true rfl) (Nat.le_of_ble_eq_true rfl) (Nat.le_of_ble_eq_true rfl) (Nat.le_of_ble_eq_true rfl) (Nat.le_of_ble_eq_true rfl) dX7_bargesOfFate_13 (fun r_33 u_32 H locs hw_u_32 hP hD hS => ?_)
  obtain rfl := hw_u_32
  have hP : va_P D classes [(h, .inr (7, [.ref a])), (a, .inl (cI, 41, .inl (cB2 z0 7)))] H := hP
  have hD : va_D A [(h, .inr (7, [.ref a])), (a, .inl (cI, 41, .inl (cB2 z0 7)))] := hD
  refine lv_topi (fun z_34 ez_34 => ?_)
  obtain rfl : z_34 = 0 := ez_34.trans (by decide +kernel)
  refine lv_iload_n hx hb dX7_bargesOfFate_16 rfl (lv_at hl 3 rfl) ?_
  refine lv_icmp_ne (tgt := 26) hx hb dX7_bargesOfFate_17 (by decide) (fun c_35 => ?_) (fun c_35 => absurd c_35 (by decide +kernel))
  refine lv_iconst (v := 0) hx hb dX7_bargesOfFate_26 (by decide) ?_
  refine lv_ior hx hb dX7_bargesOfFate_27 ?_
  refine lv_topi (fun z_36 ez_36 => ?_)
  obtain rfl : z_36 = 0 := ez_36.trans (by decide +kernel)
  refine lv_istore_n (lv' := [(2, .int 0), (3, .int 5), (0, .ref h), (1, .int 3)]) hx hb dX7_bargesOfFate_28 rfl hl (by decide) rfl (fun ls hl => ?_)
  refine lv_iinc (v := 6) (lv' := [(3, .int 6), (2, .int 0), (0, .ref h), (1, .int 3)]) hx hb dX7_bargesOfFate_29 hl (k := 1) rfl (by decide +kernel) (by decide) rfl (fun ls hl => ?_)
  refine lv_goto (tgt := 4) hx hb dX7_bargesOfFate_32 (by decide) ?_
  refine lv_iload_n hx hb dX7_bargesOfFate_4 rfl (lv_at hl 0 rfl) ?_
  refine lv_bipush (v := 7) hx hb dX7_bargesOfFate_5 (by decide) ?_
  refine lv_icmp_ge (tgt := 35) hx hb dX7_bargesOfFate_7 (by decide) (fun c_37 => absurd c_37 (by decide +kernel)) (fun c_37 => ?_)
  refine lv_iload_n hx hb dX7_bargesOfFate_10 rfl (lv_at hl 1 rfl) ?_
  refine lv_aload_n hx hb dX7_bargesOfFate_11 rfl (lv_at hl 2 rfl) ?_
  refine lv_iload_n hx hb dX7_bargesOfFate_12 rfl (lv_at hl 0 rfl) ?_
  refine cVi (wr := []) (rest := [.int 0]) (k_fateOf h a (cB2 z0 7) 6) okV_X7_fateOf wd_140 hx hb hml hown hts hK hP hD hS hA hN hl.1 [0, 1] [] rfl rfl rfl rfl (by decide) rfl rfl rfl (Nat.le_of_ble_eq_true rfl) (Nat.le_of_ble_eq_true rfl) (Nat.le_of_ble_eq_true rfl) (Nat.le_of_ble_eq_true rfl) (Nat.le_of_ble_eq_true rfl) dX7_bargesOfFate_13 (fun r_39 u_38 H locs hw_u_38 hP hD hS => ?_)
  obtain rfl := hw_u_38
  have hP : va_P D classes [(h, .inr (7, [.ref a])), (a, .inl (cI, 41, .inl (cB2 z0 7)))] H := hP
  have hD : va_D A [(h, .inr (7, [.ref a])), (a, .inl (cI, 41, .inl (cB2 z0 7)))] := hD
  refine lv_topi (fun z_40 ez_40 => ?_)
  obtain rfl : z_40 = 0 := ez_40.trans (by decide +kernel)
  refine lv_iload_n hx hb dX7_bargesOfFate_16 rfl (lv_at hl 3 rfl) ?_
  refine lv_icmp_ne (tgt := 26) hx hb dX7_bargesOfFate_17 (by decide) (fun c_41 => ?_) (fun c_41 => absurd c_41 (by decide +kernel))
  refine lv_iconst (v := 0) hx hb dX7_bargesOfFate_26 (by decide) ?_
  refine lv_ior hx hb dX7_bargesOfFate_27 ?_
  refine lv_topi (fun z_42 ez_42 => ?_)
  obtain rfl : z_42 = 0 := ez_42.trans (by decide +kernel)
  refine lv_istore_n (lv' := [(2, .int 0), (3, .int 6), (0, .ref h), (1, .int 3)]) hx hb dX7_bargesOfFate_28 rfl hl (by decide) rfl (fun ls hl => ?_)
  refine lv_iinc (v := 7) (lv' := [(3, .int 7), (2, .int 0), (0, .ref h), (1, .int 3)]) hx hb dX7_bargesOfFate_29 hl (k := 1) rfl (by decide +kernel) (by decide) rfl (fun ls hl => ?_)
  refine lv_goto (tgt := 4) hx hb dX7_bargesOfFate_32 (by decide) ?_
  refine lv_iload_n hx hb dX7_bargesOfFate_4 rfl (lv_at hl 0 rfl) ?_
  refine lv_bipush (v := 7) hx hb dX7_bargesOfFate_5 (by decide) ?_
  refine lv_icmp_ge (tgt := 35) hx hb dX7_bargesOfFate_7 (by decide) (fun c_43 => ?_) (fun c_43 => absurd (by decide +kernel) c_43)
  refine lv_iload_n hx hb dX7_bargesOfFate_35 rfl (lv_at hl 1 rfl) ?_
  exact hret 0 () _ _ _ _ dX7_bargesOfFate_36 rfl rfl (cutP (isC := [0, 1]) hP rfl) (cutD (isC := [0, 1]) hD rfl rfl) hS
def rm_k_grievanceOfSet63 : Room := { frames := 2, cells := 0, slots := 0, locals := 42 }
set_option maxHeartbeats 4000000 in
set_option maxRecDepth 100000 in
theorem k_grievanceOfSet63 {l : Launch} {D : va_G} {cI cZ : ClassId} {sz : Nat} (h a : Nat) : KI l yX7_grievanceOfSet cX7_grievanceOfSet 4 (some .int) rm_k_grievanceOfSet63 D cI cZ [.ref h, .int 63] sz [(h, .inr (7, [.ref a])), (a, .inl (cI, 41, .inl (cB2 z0 7)))] (fun (r : Int32) (_ : Unit) => r = 0) (fun (_ : Unit) => [(h, .inr (7, [.ref a])), (a, .inl (cI, 41, .inl (cB2 z0 7)))]) := by
  refine KI.go rfl (Nat.le_of_ble_eq_true rfl) ?_
  intro p e s m args below meth c ls A Q hx hb hml hts hown hin hP hK hD hS hA hN hl hret
  have hl : lv_has ls 4 [(0, .ref h), (1, .int 63)] := hl
  refine lv_iconst (v := 0) hx hb dX7_grievanceOfSet_0 (by decide) ?_
  refine lv_istore_n (lv' := [(2, .int 0), (0, .ref h), (1, .int 63)]) hx hb dX7_grievanceOfSet_1 rfl hl (by decide) rfl (fun ls hl => ?_)
  refine lv_iconst (v := 0) hx hb dX7_grievanceOfSet_2 (by decide) ?_
  refine lv_istore_n (lv' := [(3, .int 0), (2, .int 0), (0, .ref h), (1, .int 63)]) hx hb dX7_grievanceOfSet_3 rfl hl (by decide) rfl (fun ls hl => ?_)
  refine lv_iload_n hx hb dX7_grievanceOfSet_4 rfl (lv_at hl 0 rfl) ?_
  refine lv_bipush (v := 6) hx hb dX7_grievanceOfSet_5 (by decide) ?_
  refine lv_icmp_ge (tgt := 30) hx hb dX7_grievanceOfSet_7 (by decide) (fun c_1 => absurd c_1 (by decide +kernel)) (fun c_1 => ?_)
  refine lv_iload_n hx hb dX7_grievanceOfSet_10 rfl (lv_at hl 1 rfl) ?_
  refine lv_iload_n hx hb dX7_grievanceOfSet_11 rfl (lv_at hl 3 rfl) ?_
  refine lv_iload_n hx hb dX7_grievanceOfSet_12 rfl (lv_at hl 0 rfl) ?_
  refine lv_ishr hx hb dX7_grievanceOfSet_13 ?_
  refine lv_topi (fun z_2 ez_2 => ?_)
  obtain rfl : z_2 = 63 := ez_2.trans (by decide +kernel)
  refine lv_iconst (v := 1) hx hb dX7_grievanceOfSet_14 (by decide) ?_
  refine lv_iand hx hb dX7_grievanceOfSet_15 ?_
  refine lv_topi (fun z_3 ez_3 => ?_)
  obtain rfl : z_3 = 1 := ez_3.trans (by decide +kernel)
  refine lv_aload_n hx hb dX7_grievanceOfSet_16 rfl (lv_at hl 2 rfl) ?_
  refine lv_iload_n hx hb dX7_grievanceOfSet_17 rfl (lv_at hl 0 rfl) ?_
  refine cVi (wr := []) (rest := [.int 1, .int 0]) (k_grievanceOf h a (cB2 z0 7) 0) okV_X7_grievanceOf wd_144 hx hb hml hown hts hK hP hD hS hA hN hl.1 [0, 1] [] rfl rfl rfl rfl (by decide) rfl rfl rfl (Nat.le_of_ble_eq_true rfl) (Nat.le_of_ble_eq_true rfl) (Nat.le_of_ble_eq_true rfl) (Nat.le_of_ble_eq_true rfl) (Nat.le_of_ble_eq_true rfl) dX7_grievanceOfSet_18 (fun r_5 u_4 H locs hw_u_4 hP hD hS => ?_)
  obtain rfl := hw_u_4
  have hP : va_P D classes [(h, .inr (7, [.ref a])), (a, .inl (cI, 41, .inl (cB2 z0 7)))] H := hP
  have hD : va_D A [(h, .inr (7, [.ref a])), (a, .inl (cI, 41, .inl (cB2 z0 7)))] := hD
  refine lv_topi (fun z_6 ez_6 => ?_)
  obtain rfl : z_6 = 0 := ez_6.trans (by decide +kernel)
  refine lv_imul hx hb dX7_grievanceOfSet_21 ?_
  refine lv_topi (fun z_7 ez_7 => ?_)
  obtain rfl : z_7 = 0 := ez_7.trans (by decide +kernel)
  refine lv_iadd hx hb dX7_grievanceOfSet_22 ?_
  refine lv_topi (fun z_8 ez_8 => ?_)
  obtain rfl : z_8 = 0 := ez_8.trans (by decide +kernel)
  refine lv_istore_n (lv' := [(2, .int 0), (3, .int 0), (0, .ref h), (1, .int 63)]) hx hb dX7_grievanceOfSet_23 rfl hl (by decide) rfl (fun ls hl => ?_)
  refine lv_iinc (v := 1) (lv' := [(3, .int 1), (2, .int 0), (0, .ref h), (1, .int 63)]) hx hb dX7_grievanceOfSet_24 hl (k := 1) rfl (by decide +kernel) (by decide) rfl (fun ls hl => ?_)
  refine lv_goto (tgt := 4) hx hb dX7_grievanceOfSet_27 (by decide) ?_
  refine lv_iload_n hx hb dX7_grievanceOfSet_4 rfl (lv_at hl 0 rfl) ?_
  refine lv_bipush (v := 6) hx hb dX7_grievanceOfSet_5 (by decide) ?_
  refine lv_icmp_ge (tgt := 30) hx hb dX7_grievanceOfSet_7 (by decide) (fun c_9 => absurd c_9 (by decide +kernel)) (fun c_9 => ?_)
  refine lv_iload_n hx hb dX7_grievanceOfSet_10 rfl (lv_at hl 1 rfl) ?_
  refine lv_iload_n hx hb dX7_grievanceOfSet_11 rfl (lv_at hl 3 rfl) ?_
  refine lv_iload_n hx hb dX7_grievanceOfSet_12 rfl (lv_at hl 0 rfl) ?_
  refine lv_ishr hx hb dX7_grievanceOfSet_13 ?_
  refine lv_topi (fun z_10 ez_10 => ?_)
  obtain rfl : z_10 = 31 := ez_10.trans (by decide +kernel)
  refine lv_iconst (v := 1) hx hb dX7_grievanceOfSet_14 (by decide) ?_
  refine lv_iand hx hb dX7_grievanceOfSet_15 ?_
  refine lv_topi (fun z_11 ez_11 => ?_)
  obtain rfl : z_11 = 1 := ez_11.trans (by decide +kernel)
  refine lv_aload_n hx hb dX7_grievanceOfSet_16 rfl (lv_at hl 2 rfl) ?_
  refine lv_iload_n hx hb dX7_grievanceOfSet_17 rfl (lv_at hl 0 rfl) ?_
  refine cVi (wr := []) (rest := [.int 1, .int 0]) (k_grievanceOf h a (cB2 z0 7) 1) okV_X7_grievanceOf wd_144 hx hb hml hown hts hK hP hD hS hA hN hl.1 [0, 1] [] rfl rfl rfl rfl (by decide) rfl rfl rfl (Nat.le_of_ble_eq_true rfl) (Nat.le_of_ble_eq_true rfl) (Nat.le_of_ble_eq_true rfl) (Nat.le_of_ble_eq_true rfl) (Nat.le_of_ble_eq_true rfl) dX7_grievanceOfSet_18 (fun r_13 u_12 H locs hw_u_12 hP hD hS => ?_)
  obtain rfl := hw_u_12
  have hP : va_P D classes [(h, .inr (7, [.ref a])), (a, .inl (cI, 41, .inl (cB2 z0 7)))] H := hP
  have hD : va_D A [(h, .inr (7, [.ref a])), (a, .inl (cI, 41, .inl (cB2 z0 7)))] := hD
  refine lv_topi (fun z_14 ez_14 => ?_)
  obtain rfl : z_14 = 0 := ez_14.trans (by decide +kernel)
  refine lv_imul hx hb dX7_grievanceOfSet_21 ?_
  refine lv_topi (fun z_15 ez_15 => ?_)
  obtain rfl : z_15 = 0 := ez_15.trans (by decide +kernel)
  refine lv_iadd hx hb dX7_grievanceOfSet_22 ?_
  refine lv_topi (fun z_16 ez_16 => ?_)
  obtain rfl : z_16 = 0 := ez_16.trans (by decide +kernel)
  refine lv_istore_n (lv' := [(2, .int 0), (3, .int 1), (0, .ref h), (1, .int 63)]) hx hb dX7_grievanceOfSet_23 rfl hl (by decide) rfl (fun ls hl => ?_)
  refine lv_iinc (v := 2) (lv' := [(3, .int 2), (2, .int 0), (0, .ref h), (1, .int 63)]) hx hb dX7_grievanceOfSet_24 hl (k := 1) rfl (by decide +kernel) (by decide) rfl (fun ls hl => ?_)
  refine lv_goto (tgt := 4) hx hb dX7_grievanceOfSet_27 (by decide) ?_
  refine lv_iload_n hx hb dX7_grievanceOfSet_4 rfl (lv_at hl 0 rfl) ?_
  refine lv_bipush (v := 6) hx hb dX7_grievanceOfSet_5 (by decide) ?_
  refine lv_icmp_ge (tgt := 30) hx hb dX7_grievanceOfSet_7 (by decide) (fun c_17 => absurd c_17 (by decide +kernel)) (fun c_17 => ?_)
  refine lv_iload_n hx hb dX7_grievanceOfSet_10 rfl (lv_at hl 1 rfl) ?_
  refine lv_iload_n hx hb dX7_grievanceOfSet_11 rfl (lv_at hl 3 rfl) ?_
  refine lv_iload_n hx hb dX7_grievanceOfSet_12 rfl (lv_at hl 0 rfl) ?_
  refine lv_ishr hx hb dX7_grievanceOfSet_13 ?_
  refine lv_topi (fun z_18 ez_18 => ?_)
  obtain rfl : z_18 = 15 := ez_18.trans (by decide +kernel)
  refine lv_iconst (v := 1) hx hb dX7_grievanceOfSet_14 (by decide) ?_
  refine lv_iand hx hb dX7_grievanceOfSet_15 ?_
  refine lv_topi (fun z_19 ez_19 => ?_)
  obtain rfl : z_19 = 1 := ez_19.trans (by decide +kernel)
  refine lv_aload_n hx hb dX7_grievanceOfSet_16 rfl (lv_at hl 2 rfl) ?_
  refine lv_iload_n hx hb dX7_grievanceOfSet_17 rfl (lv_at hl 0 rfl) ?_
  refine cVi (wr := []) (rest := [.int 1, .int 0]) (k_grievanceOf h a (cB2 z0 7) 2) okV_X7_grievanceOf wd_144 hx hb hml hown hts hK hP hD hS hA hN hl.1 [0, 1] [] rfl rfl rfl rfl (by decide) rfl rfl rfl (Nat.le_of_ble_eq_true rfl) (Nat.le_of_ble_eq_true rfl) (Nat.le_of_ble_eq_true rfl) (Nat.le_of_ble_eq_true rfl) (Nat.le_of_ble_eq_true rfl) dX7_grievanceOfSet_18 (fun r_21 u_20 H locs hw_u_20 hP hD hS => ?_)
  obtain rfl := hw_u_20
  have hP : va_P D classes [(h, .inr (7, [.ref a])), (a, .inl (cI, 41, .inl (cB2 z0 7)))] H := hP
  have hD : va_D A [(h, .inr (7, [.ref a])), (a, .inl (cI, 41, .inl (cB2 z0 7)))] := hD
  refine lv_topi (fun z_22 ez_22 => ?_)
  obtain rfl : z_22 = 0 := ez_22.trans (by decide +kernel)
  refine lv_imul hx hb dX7_grievanceOfSet_21 ?_
  refine lv_topi (fun z_23 ez_23 => ?_)
  obtain rfl : z_23 = 0 := ez_23.trans (by decide +kernel)
  refine lv_iadd hx hb dX7_grievanceOfSet_22 ?_
  refine lv_topi (fun z_24 ez_24 => ?_)
  obtain rfl : z_24 = 0 := ez_24.trans (by decide +kernel)
  refine lv_istore_n (lv' := [(2, .int 0), (3, .int 2), (0, .ref h), (1, .int 63)]) hx hb dX7_grievanceOfSet_23 rfl hl (by decide) rfl (fun ls hl => ?_)
  refine lv_iinc (v := 3) (lv' := [(3, .int 3), (2, .int 0), (0, .ref h), (1, .int 63)]) hx hb dX7_grievanceOfSet_24 hl (k := 1) rfl (by decide +kernel) (by decide) rfl (fun ls hl => ?_)
  refine lv_goto (tgt := 4) hx hb dX7_grievanceOfSet_27 (by decide) ?_
  refine lv_iload_n hx hb dX7_grievanceOfSet_4 rfl (lv_at hl 0 rfl) ?_
  refine lv_bipush (v := 6) hx hb dX7_grievanceOfSet_5 (by decide) ?_
  refine lv_icmp_ge (tgt := 30) hx hb dX7_grievanceOfSet_7 (by decide) (fun c_25 => absurd c_25 (by decide +kernel)) (fun c_25 => ?_)
  refine lv_iload_n hx hb dX7_grievanceOfSet_10 rfl (lv_at hl 1 rfl) ?_
  refine lv_iload_n hx hb dX7_grievanceOfSet_11 rfl (lv_at hl 3 rfl) ?_
  refine lv_iload_n hx hb dX7_grievanceOfSet_12 rfl (lv_at hl 0 rfl) ?_
  refine lv_ishr hx hb dX7_grievanceOfSet_13 ?_
  refine lv_topi (fun z_26 ez_26 => ?_)
  obtain rfl : z_26 = 7 := ez_26.trans (by decide +kernel)
  refine lv_iconst (v := 1) hx hb dX7_grievanceOfSet_14 (by decide) ?_
  refine lv_iand hx hb dX7_grievanceOfSet_15 ?_
  refine lv_topi (fun z_27 ez_27 => ?_)
  obtain rfl : z_27 = 1 := ez_27.trans (by decide +kernel)
  refine lv_aload_n hx hb dX7_grievanceOfSet_16 rfl (lv_at hl 2 rfl) ?_
  refine lv_iload_n hx hb dX7_grievanceOfSet_17 rfl (lv_at hl 0 rfl) ?_
  refine cVi (wr := []) (rest := [.int 1, .int 0]) (k_grievanceOf h a (cB2 z0 7) 3) okV_X7_grievanceOf wd_144 hx hb hml hown hts hK hP hD hS hA hN hl.1 [0, 1] [] rfl rfl rfl rfl (by decide) rfl rfl rfl (Nat.le_of_ble_eq_true rfl) (Nat.le_of_ble_eq_true rfl) (Nat.le_of_ble_eq_true rfl) (Nat.le_of_ble_eq_true rfl) (Nat.le_of_ble_eq_true rfl) dX7_grievanceOfSet_18 (fun r_29 u_28 H locs hw_u_28 hP hD hS => ?_)
  obtain rfl := hw_u_28
  have hP : va_P D classes [(h, .inr (7, [.ref a])), (a, .inl (cI, 41, .inl (cB2 z0 7)))] H := hP
  have hD : va_D A [(h, .inr (7, [.ref a])), (a, .inl (cI, 41, .inl (cB2 z0 7)))] := hD
  refine lv_topi (fun z_30 ez_30 => ?_)
  obtain rfl : z_30 = 0 := ez_30.trans (by decide +kernel)
  refine lv_imul hx hb dX7_grievanceOfSet_21 ?_
  refine lv_topi (fun z_31 ez_31 => ?_)
  obtain rfl : z_31 = 0 := ez_31.trans (by decide +kernel)
  refine lv_iadd hx hb dX7_grievanceOfSet_22 ?_
  refine lv_topi (fun z_32 ez_32 => ?_)
  obtain rfl : z_32 = 0 := ez_32.trans (by decide +kernel)
  refine lv_istore_n (lv' := [(2, .int 0), (3, .int 3), (0, .ref h), (1, .int 63)]) hx hb dX7_grievanceOfSet_23 rfl hl (by decide) rfl (fun ls hl => ?_)
  refine lv_iinc (v := 4) (lv' := [(3, .int 4), (2, .int 0), (0, .ref h), (1, .int 63)]) hx hb dX7_grievanceOfSet_24 hl (k := 1) rfl (by decide +kernel) (by decide) rfl (fun ls hl => ?_)
  refine lv_goto (tgt := 4) hx hb dX7_grievanceOfSet_27 (by decide) ?_
  refine lv_iload_n hx hb dX7_grievanceOfSet_4 rfl (lv_at hl 0 rfl) ?_
  refine lv_bipush (v := 6) hx hb dX7_grievanceOfSet_5 (by decide) ?_
  refine lv_icmp_ge (tgt := 30) hx hb dX7_grievanceOfSet_7 (by decide) (fun c_33 => absurd c_33 (by decide +kernel)) (fun c_33 => ?_)
  refine lv_iload_n hx hb dX7_grievanceOfSet_10 rfl (lv_at hl 1 rfl) ?_
  refine lv_iload_n hx hb dX7_grievanceOfSet_11 rfl (lv_at hl 3 rfl) ?_
  refine lv_iload_n hx hb dX7_grievanceOfSet_12 rfl (lv_at hl 0 rfl) ?_
  refine lv_ishr hx hb dX7_grievanceOfSet_13 ?_
  refine lv_topi (fun z_34 ez_34 => ?_)
  obtain rfl : z_34 = 3 := ez_34.trans (by decide +kernel)
  refine lv_iconst (v := 1) hx hb dX7_grievanceOfSet_14 (by decide) ?_
  refine lv_iand hx hb dX7_grievanceOfSet_15 ?_
  refine lv_topi (fun z_35 ez_35 => ?_)
  obtain rfl : z_35 = 1 := ez_35.trans (by decide +kernel)
  refine lv_aload_n hx hb dX7_grievanceOfSet_16 rfl (lv_at hl 2 rfl) ?_
  refine lv_iload_n hx hb dX7_grievanceOfSet_17 rfl (lv_at hl 0 rfl) ?_
  refine cVi (wr := []) (rest := [.int 1, .int 0]) (k_grievanceOf h a (cB2 z0 7) 4) okV_X7_grievanceOf wd_144 hx hb hml hown hts hK hP hD hS hA hN hl.1 [0, 1] [] rfl rfl rfl rfl (by decide) rfl rfl rfl (Nat.le_of_ble_eq_true rfl) (Nat.le_of_ble_eq_true rfl) (Nat.le_of_ble_eq_true rfl) (Nat.le_of_ble_eq_true rfl) (Nat.le_of_ble_eq_true rfl) dX7_grievanceOfSet_18 (fun r_37 u_36 H locs hw_u_36 hP hD hS => ?_)
  obtain rfl := hw_u_36
  have hP : va_P D classes [(h, .inr (7, [.ref a])), (a, .inl (cI, 41, .inl (cB2 z0 7)))] H := hP
  have hD : va_D A [(h, .inr (7, [.ref a])), (a, .inl (cI, 41, .inl (cB2 z0 7)))] := hD
  refine lv_topi (fun z_38 ez_38 => ?_)
  obtain rfl : z_38 = 0 := ez_38.trans (by decide +kernel)
  refine lv_imul hx hb dX7_grievanceOfSet_21 ?_
  refine lv_topi (fun z_39 ez_39 => ?_)
  obtain rfl : z_39 = 0 := ez_39.trans (by decide +kernel)
  refine lv_iadd hx hb dX7_grievanceOfSet_22 ?_
  refine lv_topi (fun z_40 ez_40 => ?_)
  obtain rfl : z_40 = 0 := ez_40.trans (by decide +kernel)
  refine lv_istore_n (lv' := [(2, .int 0), (3, .int 4), (0, .ref h), (1, .int 63)]) hx hb dX7_grievanceOfSet_23 rfl hl (by decide) rfl (fun ls hl => ?_)
  refine lv_iinc (v := 5) (lv' := [(3, .int 5), (2, .int 0), (0, .ref h), (1, .int 63)]) hx hb dX7_grievanceOfSet_24 hl (k := 1) rfl (by decide +kernel) (by decide) rfl (fun ls hl => ?_)
  refine lv_goto (tgt := 4) hx hb dX7_grievanceOfSet_27 (by decide) ?_
  refine lv_iload_n hx hb dX7_grievanceOfSet_4 rfl (lv_at hl 0 rfl) ?_
  refine lv_bipush (v := 6) hx hb dX7_grievanceOfSet_5 (by decide) ?_
  refine lv_icmp_ge (tgt := 30) hx hb dX7_grievanceOfSet_7 (by decide) (fun c_41 => absurd c_41 (by decide +kernel)) (fun c_41 => ?_)
  refine lv_iload_n hx hb dX7_grievanceOfSet_10 rfl (lv_at hl 1 rfl) ?_
  refine lv_iload_n hx hb dX7_grievanceOfSet_11 rfl (lv_at hl 3 rfl) ?_
  refine lv_iload_n hx hb dX7_grievanceOfSet_12 rfl (lv_at hl 0 rfl) ?_
  refine lv_ishr hx hb dX7_grievanceOfSet_13 ?_
  refine lv_topi (fun z_42 ez_42 => ?_)
  obtain rfl : z_42 = 1 := ez_42.trans (by decide +kernel)
  refine lv_iconst (v := 1) hx hb dX7_grievanceOfSet_14 (by decide) ?_
  refine lv_iand hx hb dX7_grievanceOfSet_15 ?_
  refine lv_topi (fun z_43 ez_43 => ?_)
  obtain rfl : z_43 = 1 := ez_43.trans (by decide +kernel)
  refine lv_aload_n hx hb dX7_grievanceOfSet_16 rfl (lv_at hl 2 rfl) ?_
  refine lv_iload_n hx hb dX7_grievanceOfSet_17 rfl (lv_at hl 0 rfl) ?_
  refine cVi (wr := []) (rest := [.int 1, .int 0]) (k_grievanceOf h a (cB2 z0 7) 5) okV_X7_grievanceOf wd_144 hx hb hml hown hts hK hP hD hS hA hN hl.1 [0, 1] [] rfl rfl rfl rfl (by decide) rfl rfl rfl (Nat.le_of_ble_eq_true rfl) (Nat.le_of_ble_eq_true rfl) (Nat.le_of_ble_eq_true rfl) (Nat.le_of_ble_eq_true rfl) (Nat.le_of_ble_eq_true rfl) dX7_grievanceOfSet_18 (fun r_45 u_44 H locs hw_u_44 hP hD hS => ?_)
  obtain rfl := hw_u_44
  have hP : va_P D classes [(h, .inr (7, [.ref a])), (a, .inl (cI, 41, .inl (cB2 z0 7)))] H := hP
  have hD : va_D A [(h, .inr (7, [.ref a])), (a, .inl (cI, 41, .inl (cB2 z0 7)))] := hD
  refine lv_topi (fun z_46 ez_46 => ?_)
  obtain rfl : z_46 = 0 := ez_46.trans (by decide +kernel)
  refine lv_imul hx hb dX7_grievanceOfSet_21 ?_
  refine lv_topi (fun z_47 ez_47 => ?_)
  obtain rfl : z_47 = 0 := ez_47.trans (by decide +kernel)
  refine lv_iadd hx hb dX7_grievanceOfSet_22 ?_
  refine lv_topi (fun z_48 ez_48 => ?_)
  obtain rfl : z_48 = 0 := ez_48.trans (by decide +kernel)
  refine lv_istore_n (lv' := [(2, .int 0), (3, .int 5), (0, .ref h), (1, .int 63)]) hx hb dX7_grievanceOfSet_23 rfl hl (by decide) rfl (fun ls hl => ?_)
  refine lv_iinc (v := 6) (lv' := [(3, .int 6), (2, .int 0), (0, .ref h), (1, .int 63)]) hx hb dX7_grievanceOfSet_24 hl (k := 1) rfl (by decide +kernel) (by decide) rfl (fun ls hl => ?_)
  refine lv_goto (tgt := 4) hx hb dX7_grievanceOfSet_27 (by decide) ?_
  refine lv_iload_n hx hb dX7_grievanceOfSet_4 rfl (lv_at hl 0 rfl) ?_
  refine lv_bipush (v := 6) hx hb dX7_grievanceOfSet_5 (by decide) ?_
  refine lv_icmp_ge (tgt := 30) hx hb dX7_grievanceOfSet_7 (by decide) (fun c_49 => ?_) (fun c_49 => absurd (by decide +kernel) c_49)
  refine lv_iload_n hx hb dX7_grievanceOfSet_30 rfl (lv_at hl 1 rfl) ?_
  exact hret 0 () _ _ _ _ dX7_grievanceOfSet_31 rfl rfl (cutP (isC := [0, 1]) hP rfl) (cutD (isC := [0, 1]) hD rfl rfl) hS
def rm_k_grievanceOfSet0 : Room := { frames := 2, cells := 0, slots := 0, locals := 42 }
set_option maxHeartbeats 4000000 in
set_option maxRecDepth 100000 in
theorem k_grievanceOfSet0 {l : Launch} {D : va_G} {cI cZ : ClassId} {sz : Nat} (h a : Nat) : KI l yX7_grievanceOfSet cX7_grievanceOfSet 4 (some .int) rm_k_grievanceOfSet0 D cI cZ [.ref h, .int 0] sz [(h, .inr (7, [.ref a])), (a, .inl (cI, 41, .inl (cB2 z0 7)))] (fun (r : Int32) (_ : Unit) => r = 0) (fun (_ : Unit) => [(h, .inr (7, [.ref a])), (a, .inl (cI, 41, .inl (cB2 z0 7)))]) := by
  refine KI.go rfl (Nat.le_of_ble_eq_true rfl) ?_
  intro p e s m args below meth c ls A Q hx hb hml hts hown hin hP hK hD hS hA hN hl hret
  have hl : lv_has ls 4 [(0, .ref h), (1, .int 0)] := hl
  refine lv_iconst (v := 0) hx hb dX7_grievanceOfSet_0 (by decide) ?_
  refine lv_istore_n (lv' := [(2, .int 0), (0, .ref h), (1, .int 0)]) hx hb dX7_grievanceOfSet_1 rfl hl (by decide) rfl (fun ls hl => ?_)
  refine lv_iconst (v := 0) hx hb dX7_grievanceOfSet_2 (by decide) ?_
  refine lv_istore_n (lv' := [(3, .int 0), (2, .int 0), (0, .ref h), (1, .int 0)]) hx hb dX7_grievanceOfSet_3 rfl hl (by decide) rfl (fun ls hl => ?_)
  refine lv_iload_n hx hb dX7_grievanceOfSet_4 rfl (lv_at hl 0 rfl) ?_
  refine lv_bipush (v := 6) hx hb dX7_grievanceOfSet_5 (by decide) ?_
  refine lv_icmp_ge (tgt := 30) hx hb dX7_grievanceOfSet_7 (by decide) (fun c_1 => absurd c_1 (by decide +kernel)) (fun c_1 => ?_)
  refine lv_iload_n hx hb dX7_grievanceOfSet_10 rfl (lv_at hl 1 rfl) ?_
  refine lv_iload_n hx hb dX7_grievanceOfSet_11 rfl (lv_at hl 3 rfl) ?_
  refine lv_iload_n hx hb dX7_grievanceOfSet_12 rfl (lv_at hl 0 rfl) ?_
  refine lv_ishr hx hb dX7_grievanceOfSet_13 ?_
  refine lv_topi (fun z_2 ez_2 => ?_)
  obtain rfl : z_2 = 0 := ez_2.trans (by decide +kernel)
  refine lv_iconst (v := 1) hx hb dX7_grievanceOfSet_14 (by decide) ?_
  refine lv_iand hx hb dX7_grievanceOfSet_15 ?_
  refine lv_topi (fun z_3 ez_3 => ?_)
  obtain rfl : z_3 = 0 := ez_3.trans (by decide +kernel)
  refine lv_aload_n hx hb dX7_grievanceOfSet_16 rfl (lv_at hl 2 rfl) ?_
  refine lv_iload_n hx hb dX7_grievanceOfSet_17 rfl (lv_at hl 0 rfl) ?_
  refine cVi (wr := []) (rest := [.int 0, .int 0]) (k_grievanceOf h a (cB2 z0 7) 0) okV_X7_grievanceOf wd_144 hx hb hml hown hts hK hP hD hS hA hN hl.1 [0, 1] [] rfl rfl rfl rfl (by decide) rfl rfl rfl (Nat.le_of_ble_eq_true rfl) (Nat.le_of_ble_eq_true rfl) (Nat.le_of_ble_eq_true rfl) (Nat.le_of_ble_eq_true rfl) (Nat.le_of_ble_eq_true rfl) dX7_grievanceOfSet_18 (fun r_5 u_4 H locs hw_u_4 hP hD hS => ?_)
  obtain rfl := hw_u_4
  have hP : va_P D classes [(h, .inr (7, [.ref a])), (a, .inl (cI, 41, .inl (cB2 z0 7)))] H := hP
  have hD : va_D A [(h, .inr (7, [.ref a])), (a, .inl (cI, 41, .inl (cB2 z0 7)))] := hD
  refine lv_topi (fun z_6 ez_6 => ?_)
  obtain rfl : z_6 = 0 := ez_6.trans (by decide +kernel)
  refine lv_imul hx hb dX7_grievanceOfSet_21 ?_
  refine lv_topi (fun z_7 ez_7 => ?_)
  obtain rfl : z_7 = 0 := ez_7.trans (by decide +kernel)
  refine lv_iadd hx hb dX7_grievanceOfSet_22 ?_
  refine lv_topi (fun z_8 ez_8 => ?_)
  obtain rfl : z_8 = 0 := ez_8.trans (by decide +kernel)
  refine lv_istore_n (lv' := [(2, .int 0), (3, .int 0), (0, .ref h), (1, .int 0)]) hx hb dX7_grievanceOfSet_23 rfl hl (by decide) rfl (fun ls hl => ?_)
  refine lv_iinc (v := 1) (lv' := [(3, .int 1), (2, .int 0), (0, .ref h), (1, .int 0)]) hx hb dX7_grievanceOfSet_24 hl (k := 1) rfl (by decide +kernel) (by decide) rfl (fun ls hl => ?_)
  refine lv_goto (tgt := 4) hx hb dX7_grievanceOfSet_27 (by decide) ?_
  refine lv_iload_n hx hb dX7_grievanceOfSet_4 rfl (lv_at hl 0 rfl) ?_
  refine lv_bipush (v := 6) hx hb dX7_grievanceOfSet_5 (by decide) ?_
  refine lv_icmp_ge (tgt := 30) hx hb dX7_grievanceOfSet_7 (by decide) (fun c_9 => absurd c_9 (by decide +kernel)) (fun c_9 => ?_)
  refine lv_iload_n hx hb dX7_grievanceOfSet_10 rfl (lv_at hl 1 rfl) ?_
  refine lv_iload_n hx hb dX7_grievanceOfSet_11 rfl (lv_at hl 3 rfl) ?_
  refine lv_iload_n hx hb dX7_grievanceOfSet_12 rfl (lv_at hl 0 rfl) ?_
  refine lv_ishr hx hb dX7_grievanceOfSet_13 ?_
  refine lv_topi (fun z_10 ez_10 => ?_)
  obtain rfl : z_10 = 0 := ez_10.trans (by decide +kernel)
  refine lv_iconst (v := 1) hx hb dX7_grievanceOfSet_14 (by decide) ?_
  refine lv_iand hx hb dX7_grievanceOfSet_15 ?_
  refine lv_topi (fun z_11 ez_11 => ?_)
  obtain rfl : z_11 = 0 := ez_11.trans (by decide +kernel)
  refine lv_aload_n hx hb dX7_grievanceOfSet_16 rfl (lv_at hl 2 rfl) ?_
  refine lv_iload_n hx hb dX7_grievanceOfSet_17 rfl (lv_at hl 0 rfl) ?_
  refine cVi (wr := []) (rest := [.int 0, .int 0]) (k_grievanceOf h a (cB2 z0 7) 1) okV_X7_grievanceOf wd_144 hx hb hml hown hts hK hP hD hS hA hN hl.1 [0, 1] [] rfl rfl rfl rfl (by decide) rfl rfl rfl (Nat.le_of_ble_eq_true rfl) (Nat.le_of_ble_eq_true rfl) (Nat.le_of_ble_eq_true rfl) (Nat.le_of_ble_eq_true rfl) (Nat.le_of_ble_eq_true rfl) dX7_grievanceOfSet_18 (fun r_13 u_12 H locs hw_u_12 hP hD hS => ?_)
  obtain rfl := hw_u_12
  have hP : va_P D classes [(h, .inr (7, [.ref a])), (a, .inl (cI, 41, .inl (cB2 z0 7)))] H := hP
  have hD : va_D A [(h, .inr (7, [.ref a])), (a, .inl (cI, 41, .inl (cB2 z0 7)))] := hD
  refine lv_topi (fun z_14 ez_14 => ?_)
  obtain rfl : z_14 = 0 := ez_14.trans (by decide +kernel)
  refine lv_imul hx hb dX7_grievanceOfSet_21 ?_
  refine lv_topi (fun z_15 ez_15 => ?_)
  obtain rfl : z_15 = 0 := ez_15.trans (by decide +kernel)
  refine lv_iadd hx hb dX7_grievanceOfSet_22 ?_
  refine lv_topi (fun z_16 ez_16 => ?_)
  obtain rfl : z_16 = 0 := ez_16.trans (by decide +kernel)
  refine lv_istore_n (lv' := [(2, .int 0), (3, .int 1), (0, .ref h), (1, .int 0)]) hx hb dX7_grievanceOfSet_23 rfl hl (by decide) rfl (fun ls hl => ?_)
  refine lv_iinc (v := 2) (lv' := [(3, .int 2), (2, .int 0), (0, .ref h), (1, .int 0)]) hx hb dX7_grievanceOfSet_24 hl (k := 1) rfl (by decide +kernel) (by decide) rfl (fun ls hl => ?_)
  refine lv_goto (tgt := 4) hx hb dX7_grievanceOfSet_27 (by decide) ?_
  refine lv_iload_n hx hb dX7_grievanceOfSet_4 rfl (lv_at hl 0 rfl) ?_
  refine lv_bipush (v := 6) hx hb dX7_grievanceOfSet_5 (by decide) ?_
  refine lv_icmp_ge (tgt := 30) hx hb dX7_grievanceOfSet_7 (by decide) (fun c_17 => absurd c_17 (by decide +kernel)) (fun c_17 => ?_)
  refine lv_iload_n hx hb dX7_grievanceOfSet_10 rfl (lv_at hl 1 rfl) ?_
  refine lv_iload_n hx hb dX7_grievanceOfSet_11 rfl (lv_at hl 3 rfl) ?_
  refine lv_iload_n hx hb dX7_grievanceOfSet_12 rfl (lv_at hl 0 rfl) ?_
  refine lv_ishr hx hb dX7_grievanceOfSet_13 ?_
  refine lv_topi (fun z_18 ez_18 => ?_)
  obtain rfl : z_18 = 0 := ez_18.trans (by decide +kernel)
  refine lv_iconst (v := 1) hx hb dX7_grievanceOfSet_14 (by decide) ?_
  refine lv_iand hx hb dX7_grievanceOfSet_15 ?_
  refine lv_topi (fun z_19 ez_19 => ?_)
  obtain rfl : z_19 = 0 := ez_19.trans (by decide +kernel)
  refine lv_aload_n hx hb dX7_grievanceOfSet_16 rfl (lv_at hl 2 rfl) ?_
  refine lv_iload_n hx hb dX7_grievanceOfSet_17 rfl (lv_at hl 0 rfl) ?_
  refine cVi (wr := []) (rest := [.int 0, .int 0]) (k_grievanceOf h a (cB2 z0 7) 2) okV_X7_grievanceOf wd_144 hx hb hml hown hts hK hP hD hS hA hN hl.1 [0, 1] [] rfl rfl rfl rfl (by decide) rfl rfl rfl (Nat.le_of_ble_eq_true rfl) (Nat.le_of_ble_eq_true rfl) (Nat.le_of_ble_eq_true rfl) (Nat.le_of_ble_eq_true rfl) (Nat.le_of_ble_eq_true rfl) dX7_grievanceOfSet_18 (fun r_21 u_20 H locs hw_u_20 hP hD hS => ?_)
  obtain rfl := hw_u_20
  have hP : va_P D classes [(h, .inr (7, [.ref a])), (a, .inl (cI, 41, .inl (cB2 z0 7)))] H := hP
  have hD : va_D A [(h, .inr (7, [.ref a])), (a, .inl (cI, 41, .inl (cB2 z0 7)))] := hD
  refine lv_topi (fun z_22 ez_22 => ?_)
  obtain rfl : z_22 = 0 := ez_22.trans (by decide +kernel)
  refine lv_imul hx hb dX7_grievanceOfSet_21 ?_
  refine lv_topi (fun z_23 ez_23 => ?_)
  obtain rfl : z_23 = 0 := ez_23.trans (by decide +kernel)
  refine lv_iadd hx hb dX7_grievanceOfSet_22 ?_
  refine lv_topi (fun z_24 ez_24 => ?_)
  obtain rfl : z_24 = 0 := ez_24.trans (by decide +kernel)
  refine lv_istore_n (lv' := [(2, .int 0), (3, .int 2), (0, .ref h), (1, .int 0)]) hx hb dX7_grievanceOfSet_23 rfl hl (by decide) rfl (fun ls hl => ?_)
  refine lv_iinc (v := 3) (lv' := [(3, .int 3), (2, .int 0), (0, .ref h), (1, .int 0)]) hx hb dX7_grievanceOfSet_24 hl (k := 1) rfl (by decide +kernel) (by decide) rfl (fun ls hl => ?_)
  refine lv_goto (tgt := 4) hx hb dX7_grievanceOfSet_27 (by decide) ?_
  refine lv_iload_n hx hb dX7_grievanceOfSet_4 rfl (lv_at hl 0 rfl) ?_
  refine lv_bipush (v := 6) hx hb dX7_grievanceOfSet_5 (by decide) ?_
  refine lv_icmp_ge (tgt := 30) hx hb dX7_grievanceOfSet_7 (by decide) (fun c_25 => absurd c_25 (by decide +kernel)) (fun c_25 => ?_)
  refine lv_iload_n hx hb dX7_grievanceOfSet_10 rfl (lv_at hl 1 rfl) ?_
  refine lv_iload_n hx hb dX7_grievanceOfSet_11 rfl (lv_at hl 3 rfl) ?_
  refine lv_iload_n hx hb dX7_grievanceOfSet_12 rfl (lv_at hl 0 rfl) ?_
  refine lv_ishr hx hb dX7_grievanceOfSet_13 ?_
  refine lv_topi (fun z_26 ez_26 => ?_)
  obtain rfl : z_26 = 0 := ez_26.trans (by decide +kernel)
  refine lv_iconst (v := 1) hx hb dX7_grievanceOfSet_14 (by decide) ?_
  refine lv_iand hx hb dX7_grievanceOfSet_15 ?_
  refine lv_topi (fun z_27 ez_27 => ?_)
  obtain rfl : z_27 = 0 := ez_27.trans (by decide +kernel)
  refine lv_aload_n hx hb dX7_grievanceOfSet_16 rfl (lv_at hl 2 rfl) ?_
  refine lv_iload_n hx hb dX7_grievanceOfSet_17 rfl (lv_at hl 0 rfl) ?_
  refine cVi (wr := []) (rest := [.int 0, .int 0]) (k_grievanceOf h a (cB2 z0 7) 3) okV_X7_grievanceOf wd_144 hx hb hml hown hts hK hP hD hS hA hN hl.1 [0, 1] [] rfl rfl rfl rfl (by decide) rfl rfl rfl (Nat.le_of_ble_eq_true rfl) (Nat.le_of_ble_eq_true rfl) (Nat.le_of_ble_eq_true rfl) (Nat.le_of_ble_eq_true rfl) (Nat.le_of_ble_eq_true rfl) dX7_grievanceOfSet_18 (fun r_29 u_28 H locs hw_u_28 hP hD hS => ?_)
  obtain rfl := hw_u_28
  have hP : va_P D classes [(h, .inr (7, [.ref a])), (a, .inl (cI, 41, .inl (cB2 z0 7)))] H := hP
  have hD : va_D A [(h, .inr (7, [.ref a])), (a, .inl (cI, 41, .inl (cB2 z0 7)))] := hD
  refine lv_topi (fun z_30 ez_30 => ?_)
  obtain rfl : z_30 = 0 := ez_30.trans (by decide +kernel)
  refine lv_imul hx hb dX7_grievanceOfSet_21 ?_
  refine lv_topi (fun z_31 ez_31 => ?_)
  obtain rfl : z_31 = 0 := ez_31.trans (by decide +kernel)
  refine lv_iadd hx hb dX7_grievanceOfSet_22 ?_
  refine lv_topi (fun z_32 ez_32 => ?_)
  obtain rfl : z_32 = 0 := ez_32.trans (by decide +kernel)
  refine lv_istore_n (lv' := [(2, .int 0), (3, .int 3), (0, .ref h), (1, .int 0)]) hx hb dX7_grievanceOfSet_23 rfl hl (by decide) rfl (fun ls hl => ?_)
  refine lv_iinc (v := 4) (lv' := [(3, .int 4), (2, .int 0), (0, .ref h), (1, .int 0)]) hx hb dX7_grievanceOfSet_24 hl (k := 1) rfl (by decide +kernel) (by decide) rfl (fun ls hl => ?_)
  refine lv_goto (tgt := 4) hx hb dX7_grievanceOfSet_27 (by decide) ?_
  refine lv_iload_n hx hb dX7_grievanceOfSet_4 rfl (lv_at hl 0 rfl) ?_
  refine lv_bipush (v := 6) hx hb dX7_grievanceOfSet_5 (by decide) ?_
  refine lv_icmp_ge (tgt := 30) hx hb dX7_grievanceOfSet_7 (by decide) (fun c_33 => absurd c_33 (by decide +kernel)) (fun c_33 => ?_)
  refine lv_iload_n hx hb dX7_grievanceOfSet_10 rfl (lv_at hl 1 rfl) ?_
  refine lv_iload_n hx hb dX7_grievanceOfSet_11 rfl (lv_at hl 3 rfl) ?_
  refine lv_iload_n hx hb dX7_grievanceOfSet_12 rfl (lv_at hl 0 rfl) ?_
  refine lv_ishr hx hb dX7_grievanceOfSet_13 ?_
  refine lv_topi (fun z_34 ez_34 => ?_)
  obtain rfl : z_34 = 0 := ez_34.trans (by decide +kernel)
  refine lv_iconst (v := 1) hx hb dX7_grievanceOfSet_14 (by decide) ?_
  refine lv_iand hx hb dX7_grievanceOfSet_15 ?_
  refine lv_topi (fun z_35 ez_35 => ?_)
  obtain rfl : z_35 = 0 := ez_35.trans (by decide +kernel)
  refine lv_aload_n hx hb dX7_grievanceOfSet_16 rfl (lv_at hl 2 rfl) ?_
  refine lv_iload_n hx hb dX7_grievanceOfSet_17 rfl (lv_at hl 0 rfl) ?_
  refine cVi (wr := []) (rest := [.int 0, .int 0]) (k_grievanceOf h a (cB2 z0 7) 4) okV_X7_grievanceOf wd_144 hx hb hml hown hts hK hP hD hS hA hN hl.1 [0, 1] [] rfl rfl rfl rfl (by decide) rfl rfl rfl (Nat.le_of_ble_eq_true rfl) (Nat.le_of_ble_eq_true rfl) (Nat.le_of_ble_eq_true rfl) (Nat.le_of_ble_eq_true rfl) (Nat.le_of_ble_eq_true rfl) dX7_grievanceOfSet_18 (fun r_37 u_36 H locs hw_u_36 hP hD hS => ?_)
  obtain rfl := hw_u_36
  have hP : va_P D classes [(h, .inr (7, [.ref a])), (a, .inl (cI, 41, .inl (cB2 z0 7)))] H := hP
  have hD : va_D A [(h, .inr (7, [.ref a])), (a, .inl (cI, 41, .inl (cB2 z0 7)))] := hD
  refine lv_topi (fun z_38 ez_38 => ?_)
  obtain rfl : z_38 = 0 := ez_38.trans (by decide +kernel)
  refine lv_imul hx hb dX7_grievanceOfSet_21 ?_
  refine lv_topi (fun z_39 ez_39 => ?_)
  obtain rfl : z_39 = 0 := ez_39.trans (by decide +kernel)
  refine lv_iadd hx hb dX7_grievanceOfSet_22 ?_
  refine lv_topi (fun z_40 ez_40 => ?_)
  obtain rfl : z_40 = 0 := ez_40.trans (by decide +kernel)
  refine lv_istore_n (lv' := [(2, .int 0), (3, .int 4), (0, .ref h), (1, .int 0)]) hx hb dX7_grievanceOfSet_23 rfl hl (by decide) rfl (fun ls hl => ?_)
  refine lv_iinc (v := 5) (lv' := [(3, .int 5), (2, .int 0), (0, .ref h), (1, .int 0)]) hx hb dX7_grievanceOfSet_24 hl (k := 1) rfl (by decide +kernel) (by decide) rfl (fun ls hl => ?_)
  refine lv_goto (tgt := 4) hx hb dX7_grievanceOfSet_27 (by decide) ?_
  refine lv_iload_n hx hb dX7_grievanceOfSet_4 rfl (lv_at hl 0 rfl) ?_
  refine lv_bipush (v := 6) hx hb dX7_grievanceOfSet_5 (by decide) ?_
  refine lv_icmp_ge (tgt := 30) hx hb dX7_grievanceOfSet_7 (by decide) (fun c_41 => absurd c_41 (by decide +kernel)) (fun c_41 => ?_)
  refine lv_iload_n hx hb dX7_grievanceOfSet_10 rfl (lv_at hl 1 rfl) ?_
  refine lv_iload_n hx hb dX7_grievanceOfSet_11 rfl (lv_at hl 3 rfl) ?_
  refine lv_iload_n hx hb dX7_grievanceOfSet_12 rfl (lv_at hl 0 rfl) ?_
  refine lv_ishr hx hb dX7_grievanceOfSet_13 ?_
  refine lv_topi (fun z_42 ez_42 => ?_)
  obtain rfl : z_42 = 0 := ez_42.trans (by decide +kernel)
  refine lv_iconst (v := 1) hx hb dX7_grievanceOfSet_14 (by decide) ?_
  refine lv_iand hx hb dX7_grievanceOfSet_15 ?_
  refine lv_topi (fun z_43 ez_43 => ?_)
  obtain rfl : z_43 = 0 := ez_43.trans (by decide +kernel)
  refine lv_aload_n hx hb dX7_grievanceOfSet_16 rfl (lv_at hl 2 rfl) ?_
  refine lv_iload_n hx hb dX7_grievanceOfSet_17 rfl (lv_at hl 0 rfl) ?_
  refine cVi (wr := []) (rest := [.int 0, .int 0]) (k_grievanceOf h a (cB2 z0 7) 5) okV_X7_grievanceOf wd_144 hx hb hml hown hts hK hP hD hS hA hN hl.1 [0, 1] [] rfl rfl rfl rfl (by decide) rfl rfl rfl (Nat.le_of_ble_eq_true rfl) (Nat.le_of_ble_eq_true rfl) (Nat.le_of_ble_eq_true rfl) (Nat.le_of_ble_eq_true rfl) (Nat.le_of_ble_eq_true rfl) dX7_grievanceOfSet_18 (fun r_45 u_44 H locs hw_u_44 hP hD hS => ?_)
  obtain rfl := hw_u_44
  have hP : va_P D classes [(h, .inr (7, [.ref a])), (a, .inl (cI, 41, .inl (cB2 z0 7)))] H := hP
  have hD : va_D A [(h, .inr (7, [.ref a])), (a, .inl (cI, 41, .inl (cB2 z0 7)))] := hD
  refine lv_topi (fun z_46 ez_46 => ?_)
  obtain rfl : z_46 = 0 := ez_46.trans (by decide +kernel)
  refine lv_imul hx hb dX7_grievanceOfSet_21 ?_
  refine lv_topi (fun z_47 ez_47 => ?_)
  obtain rfl : z_47 = 0 := ez_47.trans (by decide +kernel)
  refine lv_iadd hx hb dX7_grievanceOfSet_22 ?_
  refine lv_topi (fun z_48 ez_48 => ?_)
  obtain rfl : z_48 = 0 := ez_48.trans (by decide +kernel)
  refine lv_istore_n (lv' := [(2, .int 0), (3, .int 5), (0, .ref h), (1, .int 0)]) hx hb dX7_grievanceOfSet_23 rfl hl (by decide) rfl (fun ls hl => ?_)
  refine lv_iinc (v := 6) (lv' := [(3, .int 6), (2, .int 0), (0, .ref h), (1, .int 0)]) hx hb dX7_grievanceOfSet_24 hl (k := 1) rfl (by decide +kernel) (by decide) rfl (fun ls hl => ?_)
  refine lv_goto (tgt := 4) hx hb dX7_grievanceOfSet_27 (by decide) ?_
  refine lv_iload_n hx hb dX7_grievanceOfSet_4 rfl (lv_at hl 0 rfl) ?_
  refine lv_bipush (v := 6) hx hb dX7_grievanceOfSet_5 (by decide) ?_
  refine lv_icmp_ge (tgt := 30) hx hb dX7_grievanceOfSet_7 (by decide) (fun c_49 => ?_) (fun c_49 => absurd (by decide +kernel) c_49)
  refine lv_iload_n hx hb dX7_grievanceOfSet_30 rfl (lv_at hl 1 rfl) ?_
  exact hret 0 () _ _ _ _ dX7_grievanceOfSet_31 rfl rfl (cutP (isC := [0, 1]) hP rfl) (cutD (isC := [0, 1]) hD rfl rfl) hS
def rm_k_grievanceOfAll : Room := { frames := 3, cells := 0, slots := 0, locals := 65 }
set_option maxHeartbeats 4000000 in
set_option maxRecDepth 100000 in
theorem k_grievanceOfAll {l : Launch} {D : va_G} {cI cZ : ClassId} {sz : Nat} (h a : Nat) : KI l yX7_grievanceOfAll cX7_grievanceOfAll 1 (some .int) rm_k_grievanceOfAll D cI cZ [.ref h] sz [(h, .inr (7, [.ref a])), (a, .inl (cI, 41, .inl (cB2 z0 7)))] (fun (r : Int32) (_ : Unit) => r = 0) (fun (_ : Unit) => [(h, .inr (7, [.ref a])), (a, .inl (cI, 41, .inl (cB2 z0 7)))]) := by
  refine KI.go rfl (Nat.le_of_ble_eq_true rfl) ?_
  intro p e s m args below meth c ls A Q hx hb hml hts hown hin hP hK hD hS hA hN hl hret
  have hl : lv_has ls 1 [(0, .ref h)] := hl
  refine lv_aload_n hx hb dX7_grievanceOfAll_0 rfl (lv_at hl 0 rfl) ?_
  refine lv_bipush (v := 63) hx hb dX7_grievanceOfAll_1 (by decide) ?_
  refine cVi (wr := []) (rest := []) (k_grievanceOfSet63 h a) okV_X7_grievanceOfSet wd_148 hx hb hml hown hts hK hP hD hS hA hN hl.1 [0, 1] [] rfl rfl rfl rfl (by decide) rfl rfl rfl (Nat.le_of_ble_eq_true rfl) (Nat.le_of_ble_eq_true rfl) (Nat.le_of_ble_eq_true rfl) (Nat.le_of_ble_eq_true rfl) (Nat.le_of_ble_eq_true rfl) dX7_grievanceOfAll_3 (fun r_2 u_1 H locs hw_u_1 hP hD hS => ?_)
  obtain rfl := hw_u_1
  have hP : va_P D classes [(h, .inr (7, [.ref a])), (a, .inl (cI, 41, .inl (cB2 z0 7)))] H := hP
  have hD : va_D A [(h, .inr (7, [.ref a])), (a, .inl (cI, 41, .inl (cB2 z0 7)))] := hD
  exact hret 0 () _ _ _ _ dX7_grievanceOfAll_6 rfl rfl (cutP (isC := [0, 1]) hP rfl) (cutD (isC := [0, 1]) hD rfl rfl) hS
def rm_k_coupleAt0 : Room := { frames := 2, cells := 0, slots := 0, locals := 42 }
set_option maxHeartbeats 4000000 in
set_option maxRecDepth 100000 in
theorem k_coupleAt0 {l : Launch} {D : va_G} {cI cZ : ClassId} {sz : Nat} (h a : Nat) : KI l yX7_coupleAt cX7_coupleAt 3 (some .int) rm_k_coupleAt0 D cI cZ [.ref h, .int 0] sz [(h, .inr (7, [.ref a])), (a, .inl (cI, 41, .inl (cB2 z0 7)))] (fun (r : Int32) (_ : Unit) => r = (-1)) (fun (_ : Unit) => [(h, .inr (7, [.ref a])), (a, .inl (cI, 41, .inl (cB2 z0 7)))]) := by
  refine KI.go rfl (Nat.le_of_ble_eq_true rfl) ?_
  intro p e s m args below meth c ls A Q hx hb hml hts hown hin hP hK hD hS hA hN hl hret
  have hl : lv_has ls 3 [(0, .ref h), (1, .int 0)] := hl
  refine lv_iconst (v := 0) hx hb dX7_coupleAt_0 (by decide) ?_
  refine lv_istore_n (lv' := [(2, .int 0), (0, .ref h), (1, .int 0)]) hx hb dX7_coupleAt_1 rfl hl (by decide) rfl (fun ls hl => ?_)
  refine lv_iload_n hx hb dX7_coupleAt_2 rfl (lv_at hl 0 rfl) ?_
  refine lv_bipush (v := 6) hx hb dX7_coupleAt_3 (by decide) ?_
  refine lv_icmp_ge (tgt := 25) hx hb dX7_coupleAt_5 (by decide) (fun c_1 => absurd c_1 (by decide +kernel)) (fun c_1 => ?_)
  refine lv_aload_n hx hb dX7_coupleAt_8 rfl (lv_at hl 1 rfl) ?_
  refine lv_iload_n hx hb dX7_coupleAt_9 rfl (lv_at hl 0 rfl) ?_
  refine cVi (wr := []) (rest := []) (k_bridgeOf h a (cB2 z0 7) 0) okV_X7_bridgeOf wd_152 hx hb hml hown hts hK hP hD hS hA hN hl.1 [0, 1] [] rfl rfl rfl rfl (by decide) rfl rfl rfl (Nat.le_of_ble_eq_true rfl) (Nat.le_of_ble_eq_true rfl) (Nat.le_of_ble_eq_true rfl) (Nat.le_of_ble_eq_true rfl) (Nat.le_of_ble_eq_true rfl) dX7_coupleAt_10 (fun r_3 u_2 H locs hw_u_2 hP hD hS => ?_)
  obtain rfl := hw_u_2
  have hP : va_P D classes [(h, .inr (7, [.ref a])), (a, .inl (cI, 41, .inl (cB2 z0 7)))] H := hP
  have hD : va_D A [(h, .inr (7, [.ref a])), (a, .inl (cI, 41, .inl (cB2 z0 7)))] := hD
  refine lv_topi (fun z_4 ez_4 => ?_)
  obtain rfl : z_4 = (-1) := ez_4.trans (by decide +kernel)
  refine lv_iload_n hx hb dX7_coupleAt_13 rfl (lv_at hl 2 rfl) ?_
  refine lv_icmp_ne (tgt := 19) hx hb dX7_coupleAt_14 (by decide) (fun c_5 => ?_) (fun c_5 => absurd c_5 (by decide +kernel))
  refine lv_iinc (v := 1) (lv' := [(2, .int 1), (0, .ref h), (1, .int 0)]) hx hb dX7_coupleAt_19 hl (k := 0) rfl (by decide +kernel) (by decide) rfl (fun ls hl => ?_)
  refine lv_goto (tgt := 2) hx hb dX7_coupleAt_22 (by decide) ?_
  refine lv_iload_n hx hb dX7_coupleAt_2 rfl (lv_at hl 0 rfl) ?_
  refine lv_bipush (v := 6) hx hb dX7_coupleAt_3 (by decide) ?_
  refine lv_icmp_ge (tgt := 25) hx hb dX7_coupleAt_5 (by decide) (fun c_6 => absurd c_6 (by decide +kernel)) (fun c_6 => ?_)
  refine lv_aload_n hx hb dX7_coupleAt_8 rfl (lv_at hl 1 rfl) ?_
  refine lv_iload_n hx hb dX7_coupleAt_9 rfl (lv_at hl 0 rfl) ?_
  refine cVi (wr := []) (rest := []) (k_bridgeOf h a (cB2 z0 7) 1) okV_X7_bridgeOf wd_152 hx hb hml hown hts hK hP hD hS hA hN hl.1 [0, 1] [] rfl rfl rfl rfl (by decide) rfl rfl rfl (Nat.le_of_ble_eq_true rfl) (Nat.le_of_ble_eq_true rfl) (Nat.le_of_ble_eq_true rfl) (Nat.le_of_ble_eq_true rfl) (Nat.le_of_ble_eq_true rfl) dX7_coupleAt_10 (fun r_8 u_7 H locs hw_u_7 hP hD hS => ?_)
  obtain rfl := hw_u_7
  have hP : va_P D classes [(h, .inr (7, [.ref a])), (a, .inl (cI, 41, .inl (cB2 z0 7)))] H := hP
  have hD : va_D A [(h, .inr (7, [.ref a])), (a, .inl (cI, 41, .inl (cB2 z0 7)))] := hD
  refine lv_topi (fun z_9 ez_9 => ?_)
  obtain rfl : z_9 = (-1) := ez_9.trans (by decide +kernel)
  refine lv_iload_n hx hb dX7_coupleAt_13 rfl (lv_at hl 2 rfl) ?_
  refine lv_icmp_ne (tgt := 19) hx hb dX7_coupleAt_14 (by decide) (fun c_10 => ?_) (fun c_10 => absurd c_10 (by decide +kernel))
  refine lv_iinc (v := 2) (lv' := [(2, .int 2), (0, .ref h), (1, .int 0)]) hx hb dX7_coupleAt_19 hl (k := 0) rfl (by decide +kernel) (by decide) rfl (fun ls hl => ?_)
  refine lv_goto (tgt := 2) hx hb dX7_coupleAt_22 (by decide) ?_
  refine lv_iload_n hx hb dX7_coupleAt_2 rfl (lv_at hl 0 rfl) ?_
  refine lv_bipush (v := 6) hx hb dX7_coupleAt_3 (by decide) ?_
  refine lv_icmp_ge (tgt := 25) hx hb dX7_coupleAt_5 (by decide) (fun c_11 => absurd c_11 (by decide +kernel)) (fun c_11 => ?_)
  refine lv_aload_n hx hb dX7_coupleAt_8 rfl (lv_at hl 1 rfl) ?_
  refine lv_iload_n hx hb dX7_coupleAt_9 rfl (lv_at hl 0 rfl) ?_
  refine cVi (wr := []) (rest := []) (k_bridgeOf h a (cB2 z0 7) 2) okV_X7_bridgeOf wd_152 hx hb hml hown hts hK hP hD hS hA hN hl.1 [0, 1] [] rfl rfl rfl rfl (by decide) rfl rfl rfl (Nat.le_of_ble_eq_true rfl) (Nat.le_of_ble_eq_true rfl) (Nat.le_of_ble_eq_true rfl) (Nat.le_of_ble_eq_true rfl) (Nat.le_of_ble_eq_true rfl) dX7_coupleAt_10 (fun r_13 u_12 H locs hw_u_12 hP hD hS => ?_)
  obtain rfl := hw_u_12
  have hP : va_P D classes [(h, .inr (7, [.ref a])), (a, .inl (cI, 41, .inl (cB2 z0 7)))] H := hP
  have hD : va_D A [(h, .inr (7, [.ref a])), (a, .inl (cI, 41, .inl (cB2 z0 7)))] := hD
  refine lv_topi (fun z_14 ez_14 => ?_)
  obtain rfl : z_14 = (-1) := ez_14.trans (by decide +kernel)
  refine lv_iload_n hx hb dX7_coupleAt_13 rfl (lv_at hl 2 rfl) ?_
  refine lv_icmp_ne (tgt := 19) hx hb dX7_coupleAt_14 (by decide) (fun c_15 => ?_) (fun c_15 => absurd c_15 (by decide +kernel))
  refine lv_iinc (v := 3) (lv' := [(2, .int 3), (0, .ref h), (1, .int 0)]) hx hb dX7_coupleAt_19 hl (k := 0) rfl (by decide +kernel) (by decide) rfl (fun ls hl => ?_)
  refine lv_goto (tgt := 2) hx hb dX7_coupleAt_22 (by decide) ?_
  refine lv_iload_n hx hb dX7_coupleAt_2 rfl (lv_at hl 0 rfl) ?_
  refine lv_bipush (v := 6) hx hb dX7_coupleAt_3 (by decide) ?_
  refine lv_icmp_ge (tgt := 25) hx hb dX7_coupleAt_5 (by decide) (fun c_16 => absurd c_16 (by decide +kernel)) (fun c_16 => ?_)
  refine lv_aload_n hx hb dX7_coupleAt_8 rfl (lv_at hl 1 rfl) ?_
  refine lv_iload_n hx hb dX7_coupleAt_9 rfl (lv_at hl 0 rfl) ?_
  refine cVi (wr := []) (rest := []) (k_bridgeOf h a (cB2 z0 7) 3) okV_X7_bridgeOf wd_152 hx hb hml hown hts hK hP hD hS hA hN hl.1 [0, 1] [] rfl rfl rfl rfl (by decide) rfl rfl rfl (Nat.le_of_ble_eq_true rfl) (Nat.le_of_ble_eq_true rfl) (Nat.le_of_ble_eq_true rfl) (Nat.le_of_ble_eq_true rfl) (Nat.le_of_ble_eq_true rfl) dX7_coupleAt_10 (fun r_18 u_17 H locs hw_u_17 hP hD hS => ?_)
  obtain rfl := hw_u_17
  have hP : va_P D classes [(h, .inr (7, [.ref a])), (a, .inl (cI, 41, .inl (cB2 z0 7)))] H := hP
  have hD : va_D A [(h, .inr (7, [.ref a])), (a, .inl (cI, 41, .inl (cB2 z0 7)))] := hD
  refine lv_topi (fun z_19 ez_19 => ?_)
  obtain rfl : z_19 = (-1) := ez_19.trans (by decide +kernel)
  refine lv_iload_n hx hb dX7_coupleAt_13 rfl (lv_at hl 2 rfl) ?_
  refine lv_icmp_ne (tgt := 19) hx hb dX7_coupleAt_14 (by decide) (fun c_20 => ?_) (fun c_20 => absurd c_20 (by decide +kernel))
  refine lv_iinc (v := 4) (lv' := [(2, .int 4), (0, .ref h), (1, .int 0)]) hx hb dX7_coupleAt_19 hl (k := 0) rfl (by decide +kernel) (by decide) rfl (fun ls hl => ?_)
  refine lv_goto (tgt := 2) hx hb dX7_coupleAt_22 (by decide) ?_
  refine lv_iload_n hx hb dX7_coupleAt_2 rfl (lv_at hl 0 rfl) ?_
  refine lv_bipush (v := 6) hx hb dX7_coupleAt_3 (by decide) ?_
  refine lv_icmp_ge (tgt := 25) hx hb dX7_coupleAt_5 (by decide) (fun c_21 => absurd c_21 (by decide +kernel)) (fun c_21 => ?_)
  refine lv_aload_n hx hb dX7_coupleAt_8 rfl (lv_at hl 1 rfl) ?_
  refine lv_iload_n hx hb dX7_coupleAt_9 rfl (lv_at hl 0 rfl) ?_
  refine cVi (wr := []) (rest := []) (k_bridgeOf h a (cB2 z0 7) 4) okV_X7_bridgeOf wd_152 hx hb hml hown hts hK hP hD hS hA hN hl.1 [0, 1] [] rfl rfl rfl rfl (by decide) rfl rfl rfl (Nat.le_of_ble_eq_true rfl) (Nat.le_of_ble_eq_true rfl) (Nat.le_of_ble_eq_true rfl) (Nat.le_of_ble_eq_true rfl) (Nat.le_of_ble_eq_true rfl) dX7_coupleAt_10 (fun r_23 u_22 H locs hw_u_22 hP hD hS => ?_)
  obtain rfl := hw_u_22
  have hP : va_P D classes [(h, .inr (7, [.ref a])), (a, .inl (cI, 41, .inl (cB2 z0 7)))] H := hP
  have hD : va_D A [(h, .inr (7, [.ref a])), (a, .inl (cI, 41, .inl (cB2 z0 7)))] := hD
  refine lv_topi (fun z_24 ez_24 => ?_)
  obtain rfl : z_24 = (-1) := ez_24.trans (by decide +kernel)
  refine lv_iload_n hx hb dX7_coupleAt_13 rfl (lv_at hl 2 rfl) ?_
  refine lv_icmp_ne (tgt := 19) hx hb dX7_coupleAt_14 (by decide) (fun c_25 => ?_) (fun c_25 => absurd c_25 (by decide +kernel))
  refine lv_iinc (v := 5) (lv' := [(2, .int 5), (0, .ref h), (1, .int 0)]) hx hb dX7_coupleAt_19 hl (k := 0) rfl (by decide +kernel) (by decide) rfl (fun ls hl => ?_)
  refine lv_goto (tgt := 2) hx hb dX7_coupleAt_22 (by decide) ?_
  refine lv_iload_n hx hb dX7_coupleAt_2 rfl (lv_at hl 0 rfl) ?_
  refine lv_bipush (v := 6) hx hb dX7_coupleAt_3 (by decide) ?_
  refine lv_icmp_ge (tgt := 25) hx hb dX7_coupleAt_5 (by decide) (fun c_26 => absurd c_26 (by decide +kernel)) (fun c_26 => ?_)
  refine lv_aload_n hx hb dX7_coupleAt_8 rfl (lv_at hl 1 rfl) ?_
  refine lv_iload_n hx hb dX7_coupleAt_9 rfl (lv_at hl 0 rfl) ?_
  refine cVi (wr := []) (rest := []) (k_bridgeOf h a (cB2 z0 7) 5) okV_X7_bridgeOf wd_152 hx hb hml hown hts hK hP hD hS hA hN hl.1 [0, 1] [] rfl rfl rfl rfl (by decide) rfl rfl rfl (Nat.le_of_ble_eq_true rfl) (Nat.le_of_ble_eq_true rfl) (Nat.le_of_ble_eq_true rfl) (Nat.le_of_ble_eq_true rfl) (Nat.le_of_ble_eq_true rfl) dX7_coupleAt_10 (fun r_28 u_27 H locs hw_u_27 hP hD hS => ?_)
  obtain rfl := hw_u_27
  have hP : va_P D classes [(h, .inr (7, [.ref a])), (a, .inl (cI, 41, .inl (cB2 z0 7)))] H := hP
  have hD : va_D A [(h, .inr (7, [.ref a])), (a, .inl (cI, 41, .inl (cB2 z0 7)))] := hD
  refine lv_topi (fun z_29 ez_29 => ?_)
  obtain rfl : z_29 = (-1) := ez_29.trans (by decide +kernel)
  refine lv_iload_n hx hb dX7_coupleAt_13 rfl (lv_at hl 2 rfl) ?_
  refine lv_icmp_ne (tgt := 19) hx hb dX7_coupleAt_14 (by decide) (fun c_30 => ?_) (fun c_30 => absurd c_30 (by decide +kernel))
  refine lv_iinc (v := 6) (lv' := [(2, .int 6), (0, .ref h), (1, .int 0)]) hx hb dX7_coupleAt_19 hl (k := 0) rfl (by decide +kernel) (by decide) rfl (fun ls hl => ?_)
  refine lv_goto (tgt := 2) hx hb dX7_coupleAt_22 (by decide) ?_
  refine lv_iload_n hx hb dX7_coupleAt_2 rfl (lv_at hl 0 rfl) ?_
  refine lv_bipush (v := 6) hx hb dX7_coupleAt_3 (by decide) ?_
  refine lv_icmp_ge (tgt := 25) hx hb dX7_coupleAt_5 (by decide) (fun c_31 => ?_) (fun c_31 => absurd (by decide +kernel) c_31)
  refine lv_iconst (v := (-1)) hx hb dX7_coupleAt_25 (by decide) ?_
  exact hret (-1) () _ _ _ _ dX7_coupleAt_26 rfl rfl (cutP (isC := [0, 1]) hP rfl) (cutD (isC := [0, 1]) hD rfl rfl) hS
def rm_k_needOfAll : Room := { frames := 0, cells := 0, slots := 0, locals := 0 }
set_option maxHeartbeats 4000000 in
set_option maxRecDepth 100000 in
theorem k_needOfAll {l : Launch} {D : va_G} {cI cZ : ClassId} {sz : Nat} (t : Nat) (ta tb tc td te : Nat) : KI l yX8_needOfAll cX8_needOfAll 3 (some .int) rm_k_needOfAll D cI cZ [.ref t] sz [(t, .inr (8, [.int 0, .int 1, .int 0, .int 0, .int 0, .ref ta, .ref tb, .ref tc, .ref td, .ref te]))] (fun (r : Int32) (_ : Unit) => r = 0) (fun (_ : Unit) => [(t, .inr (8, [.int 0, .int 1, .int 0, .int 0, .int 0, .ref ta, .ref tb, .ref tc, .ref td, .ref te]))]) := by
  refine KI.go rfl (Nat.le_of_ble_eq_true rfl) ?_
  intro p e s m args below meth c ls A Q hx hb hml hts hown hin hP hK hD hS hA hN hl hret
  have hl : lv_has ls 3 [(0, .ref t)] := hl
  refine lv_iconst (v := 0) hx hb dX8_needOfAll_0 (by decide) ?_
  refine lv_istore_n (lv' := [(1, .int 0), (0, .ref t)]) hx hb dX8_needOfAll_1 rfl hl (by decide) rfl (fun ls hl => ?_)
  refine lv_iconst (v := 0) hx hb dX8_needOfAll_2 (by decide) ?_
  refine lv_istore_n (lv' := [(2, .int 0), (1, .int 0), (0, .ref t)]) hx hb dX8_needOfAll_3 rfl hl (by decide) rfl (fun ls hl => ?_)
  refine lv_iload_n hx hb dX8_needOfAll_4 rfl (lv_at hl 0 rfl) ?_
  refine lv_aload_n hx hb dX8_needOfAll_5 rfl (lv_at hl 2 rfl) ?_
  refine va_get (D := D) (ci := 8) (v := .int 0) (C := RX8) (T := TX8) (N := 10) hx hb hts iX8 hown hK hP 0 rfl rfl 0 (by decide) (hts _ wd_3) (fun _ h9 => h9) rfl dX8_needOfAll_6 ?_
  refine lv_icmp_ge (tgt := 29) hx hb dX8_needOfAll_9 (by decide) (fun c_1 => ?_) (fun c_1 => absurd (by decide +kernel) c_1)
  refine lv_iload_n hx hb dX8_needOfAll_29 rfl (lv_at hl 1 rfl) ?_
  exact hret 0 () _ _ _ _ dX8_needOfAll_30 rfl rfl hP hD hS
def rm_k_clear : Room := { frames := 0, cells := 0, slots := 0, locals := 0 }
set_option maxHeartbeats 4000000 in
set_option maxRecDepth 100000 in
theorem k_clear {l : Launch} {D : va_G} {cI cZ : ClassId} {sz : Nat} (t : Nat) (t0 t1 t2 t3 t4 : Int32) (ta tb tc td te : Nat) : KV l yX8_clear cX8_clear 1 rm_k_clear D cI cZ [.ref t] sz [(t, .inr (8, [.int t0, .int t1, .int t2, .int t3, .int t4, .ref ta, .ref tb, .ref tc, .ref td, .ref te]))] (fun (_ : Unit) => True) (fun (_ : Unit) => [(t, .inr (8, [.int 0, .int 1, .int 0, .int 0, .int 0, .ref ta, .ref tb, .ref tc, .ref td, .ref te]))]) := by
  refine KV.go rfl (Nat.le_of_ble_eq_true rfl) ?_
  intro p e s m args below meth c ls A Q hx hb hml hts hown hin hP hK hD hS hA hN hl hret
  have hl : lv_has ls 1 [(0, .ref t)] := hl
  refine lv_aload_n hx hb dX8_clear_0 rfl (lv_at hl 0 rfl) ?_
  refine lv_iconst (v := 0) hx hb dX8_clear_1 (by decide) ?_
  refine va_put (D := D) (ci := 8) (v := .int 0) (ty := .int) (C := RX8) (T := TX8) (N := 10) hx hb hts iX8 tyX8 tyX8_ok nmX8 hown hK hP hD hS 0 rfl rfl 0 (by decide) (hts _ wd_3) (fun _ h9 => h9) rfl (by decide +kernel) rfl rfl (Nat.le_of_ble_eq_true rfl) dX8_clear_2 (fun H locs hP hD hS => ?_)
  have hP : va_P D classes [(t, .inr (8, [.int 0, .int t1, .int t2, .int t3, .int t4, .ref ta, .ref tb, .ref tc, .ref td, .ref te]))] H := hP
  have hD : va_D A [(t, .inr (8, [.int 0, .int t1, .int t2, .int t3, .int t4, .ref ta, .ref tb, .ref tc, .ref td, .ref te]))] := hD
  refine lv_aload_n hx hb dX8_clear_5 rfl (lv_at hl 0 rfl) ?_
  refine lv_iconst (v := 1) hx hb dX8_clear_6 (by decide) ?_
  refine va_put (D := D) (ci := 8) (v := .int 1) (ty := .int) (C := RX8) (T := TX8) (N := 10) hx hb hts iX8 tyX8 tyX8_ok nmX8 hown hK hP hD hS 0 rfl rfl 1 (by decide) (hts _ wd_4) (fun _ h9 => h9) rfl (by decide +kernel) rfl rfl (Nat.le_of_ble_eq_true rfl) dX8_clear_7 (fun H locs hP hD hS => ?_)
  have hP : va_P D classes [(t, .inr (8, [.int 0, .int 1, .int t2, .int t3, .int t4, .ref ta, .ref tb, .ref tc, .ref td, .ref te]))] H := hP
  have hD : va_D A [(t, .inr (8, [.int 0, .int 1, .int t2, .int t3, .int t4, .ref ta, .ref tb, .ref tc, .ref td, .ref te]))] := hD
  refine lv_aload_n hx hb dX8_clear_10 rfl (lv_at hl 0 rfl) ?_
  refine lv_iconst (v := 0) hx hb dX8_clear_11 (by decide) ?_
  refine va_put (D := D) (ci := 8) (v := .int 0) (ty := .int) (C := RX8) (T := TX8) (N := 10) hx hb hts iX8 tyX8 tyX8_ok nmX8 hown hK hP hD hS 0 rfl rfl 2 (by decide) (hts _ wd_5) (fun _ h9 => h9) rfl (by decide +kernel) rfl rfl (Nat.le_of_ble_eq_true rfl) dX8_clear_12 (fun H locs hP hD hS => ?_)
  have hP : va_P D classes [(t, .inr (8, [.int 0, .int 1, .int 0, .int t3, .int t4, .ref ta, .ref tb, .ref tc, .ref td, .ref te]))] H := hP
  have hD : va_D A [(t, .inr (8, [.int 0, .int 1, .int 0, .int t3, .int t4, .ref ta, .ref tb, .ref tc, .ref td, .ref te]))] := hD
  refine lv_aload_n hx hb dX8_clear_15 rfl (lv_at hl 0 rfl) ?_
  refine lv_iconst (v := 0) hx hb dX8_clear_16 (by decide) ?_
  refine va_put (D := D) (ci := 8) (v := .int 0) (ty := .int) (C := RX8) (T := TX8) (N := 10) hx hb hts iX8 tyX8 tyX8_ok nmX8 hown hK hP hD hS 0 rfl rfl 3 (by decide) (hts _ wd_6) (fun _ h9 => h9) rfl (by decide +kernel) rfl rfl (Nat.le_of_ble_eq_true rfl) dX8_clear_17 (fun H locs hP hD hS => ?_)
  have hP : va_P D classes [(t, .inr (8, [.int 0, .int 1, .int 0, .int 0, .int t4, .ref ta, .ref tb, .ref tc, .ref td, .ref te]))] H := hP
  have hD : va_D A [(t, .inr (8, [.int 0, .int 1, .int 0, .int 0, .int t4, .ref ta, .ref tb, .ref tc, .ref td, .ref te]))] := hD
  refine lv_aload_n hx hb dX8_clear_20 rfl (lv_at hl 0 rfl) ?_
  refine lv_iconst (v := 0) hx hb dX8_clear_21 (by decide) ?_
  refine va_put (D := D) (ci := 8) (v := .int 0) (ty := .int) (C := RX8) (T := TX8) (N := 10) hx hb hts iX8 tyX8 tyX8_ok nmX8 hown hK hP hD hS 0 rfl rfl 4 (by decide) (hts _ wd_7) (fun _ h9 => h9) rfl (by decide +kernel) rfl rfl (Nat.le_of_ble_eq_true rfl) dX8_clear_22 (fun H locs hP hD hS => ?_)
  have hP : va_P D classes [(t, .inr (8, [.int 0, .int 1, .int 0, .int 0, .int 0, .ref ta, .ref tb, .ref tc, .ref td, .ref te]))] H := hP
  have hD : va_D A [(t, .inr (8, [.int 0, .int 1, .int 0, .int 0, .int 0, .ref ta, .ref tb, .ref tc, .ref td, .ref te]))] := hD
  exact hret () _ _ _ _ dX8_clear_25 trivial hP hD hS
def rm_k_forget : Room := { frames := 0, cells := 0, slots := 0, locals := 0 }
set_option maxHeartbeats 4000000 in
set_option maxRecDepth 100000 in
theorem k_forget {l : Launch} {D : va_G} {cI cZ : ClassId} {sz : Nat} (t : Nat) (t0 t1 : Int32) (ta : Nat) : KV l yX2_forget cX2_forget 1 rm_k_forget D cI cZ [.ref t] sz [(t, .inr (2, [.ref ta, .int t0, .int t1]))] (fun (_ : Unit) => True) (fun (_ : Unit) => [(t, .inr (2, [.ref ta, .int t0, .int 0]))]) := by
  refine KV.go rfl (Nat.le_of_ble_eq_true rfl) ?_
  intro p e s m args below meth c ls A Q hx hb hml hts hown hin hP hK hD hS hA hN hl hret
  have hl : lv_has ls 1 [(0, .ref t)] := hl
  refine lv_aload_n hx hb dX2_forget_0 rfl (lv_at hl 0 rfl) ?_
  refine lv_iconst (v := 0) hx hb dX2_forget_1 (by decide) ?_
  refine va_put (D := D) (ci := 2) (v := .int 0) (ty := .int) (C := RX2) (T := TX2) (N := 3) hx hb hts iX2 tyX2 tyX2_ok nmX2 hown hK hP hD hS 0 rfl rfl 2 (by decide) (hts _ wd_65) (fun _ h9 => h9) rfl (by decide +kernel) rfl rfl (Nat.le_of_ble_eq_true rfl) dX2_forget_2 (fun H locs hP hD hS => ?_)
  have hP : va_P D classes [(t, .inr (2, [.ref ta, .int t0, .int 0]))] H := hP
  have hD : va_D A [(t, .inr (2, [.ref ta, .int t0, .int 0]))] := hD
  exact hret () _ _ _ _ dX2_forget_5 trivial hP hD hS
def rm_k_bookclear : Room := { frames := 0, cells := 0, slots := 0, locals := 0 }
set_option maxHeartbeats 4000000 in
set_option maxRecDepth 100000 in
theorem k_bookclear {l : Launch} {D : va_G} {cI cZ : ClassId} {sz : Nat} (t : Nat) (t0 : Int32) (ta tb : Nat) : KV l yX0_clear cX0_clear 1 rm_k_bookclear D cI cZ [.ref t] sz [(t, .inr (0, [.int t0, .ref ta, .ref tb]))] (fun (_ : Unit) => True) (fun (_ : Unit) => [(t, .inr (0, [.int 0, .ref ta, .ref tb]))]) := by
  refine KV.go rfl (Nat.le_of_ble_eq_true rfl) ?_
  intro p e s m args below meth c ls A Q hx hb hml hts hown hin hP hK hD hS hA hN hl hret
  have hl : lv_has ls 1 [(0, .ref t)] := hl
  refine lv_aload_n hx hb dX0_clear_0 rfl (lv_at hl 0 rfl) ?_
  refine lv_iconst (v := 0) hx hb dX0_clear_1 (by decide) ?_
  refine va_put (D := D) (ci := 0) (v := .int 0) (ty := .int) (C := RX0) (T := TX0) (N := 3) hx hb hts iX0 tyX0 tyX0_ok nmX0 hown hK hP hD hS 0 rfl rfl 0 (by decide) (hts _ wd_17) (fun _ h9 => h9) rfl (by decide +kernel) rfl rfl (Nat.le_of_ble_eq_true rfl) dX0_clear_2 (fun H locs hP hD hS => ?_)
  have hP : va_P D classes [(t, .inr (0, [.int 0, .ref ta, .ref tb]))] H := hP
  have hD : va_D A [(t, .inr (0, [.int 0, .ref ta, .ref tb]))] := hD
  exact hret () _ _ _ _ dX0_clear_5 trivial hP hD hS
def rm_k_letter : Room := { frames := 0, cells := 0, slots := 0, locals := 0 }
set_option maxHeartbeats 4000000 in
set_option maxRecDepth 100000 in
theorem k_letter {l : Launch} {D : va_G} {cI cZ : ClassId} {sz : Nat} (h x : Nat) (f : Nat → Int32) : KI l yX5_letter cX5_letter 1 (some .int) rm_k_letter D cI cZ [.ref h] sz [(h, .inr (5, [.int 0, .int (-1), .ref x, .int 0, .int 0, .int 0, .int 0])), (x, .inl (cI, 240, .inl f))] (fun (r : Int32) (_ : Unit) => r = (-1)) (fun (_ : Unit) => [(h, .inr (5, [.int 0, .int (-1), .ref x, .int 0, .int 0, .int 0, .int 0])), (x, .inl (cI, 240, .inl f))]) := by
  refine KI.go rfl (Nat.le_of_ble_eq_true rfl) ?_
  intro p e s m args below meth c ls A Q hx hb hml hts hown hin hP hK hD hS hA hN hl hret
  have hl : lv_has ls 1 [(0, .ref h)] := hl
  refine lv_aload_n hx hb dX5_letter_0 rfl (lv_at hl 0 rfl) ?_
  refine va_get (D := D) (ci := 5) (v := .int 0) (C := RX5) (T := TX5) (N := 7) hx hb hts iX5 hown hK hP 0 rfl rfl 4 (by decide) (hts _ wd_46) (fun _ h9 => h9) rfl dX5_letter_1 ?_
  refine lv_if_lt (tgt := 42) hx hb dX5_letter_4 (by decide) (fun c_1 => absurd c_1 (by decide +kernel)) (fun c_1 => ?_)
  refine lv_aload_n hx hb dX5_letter_7 rfl (lv_at hl 0 rfl) ?_
  refine va_get (D := D) (ci := 5) (v := .int 0) (C := RX5) (T := TX5) (N := 7) hx hb hts iX5 hown hK hP 0 rfl rfl 4 (by decide) (hts _ wd_46) (fun _ h9 => h9) rfl dX5_letter_8 ?_
  refine lv_aload_n hx hb dX5_letter_11 rfl (lv_at hl 0 rfl) ?_
  refine va_get (D := D) (ci := 5) (v := .int 0) (C := RX5) (T := TX5) (N := 7) hx hb hts iX5 hown hK hP 0 rfl rfl 3 (by decide) (hts _ wd_45) (fun _ h9 => h9) rfl dX5_letter_12 ?_
  refine lv_icmp_ge (tgt := 42) hx hb dX5_letter_15 (by decide) (fun c_2 => ?_) (fun c_2 => absurd (by decide +kernel) c_2)
  refine lv_iconst (v := (-1)) hx hb dX5_letter_42 (by decide) ?_
  exact hret (-1) () _ _ _ _ dX5_letter_43 rfl rfl hP hD hS
def rm_k_next : Room := { frames := 1, cells := 0, slots := 0, locals := 20 }
set_option maxHeartbeats 4000000 in
set_option maxRecDepth 100000 in
theorem k_next {l : Launch} {D : va_G} {cI cZ : ClassId} {sz : Nat} (h x : Nat) (f : Nat → Int32) : KI l yX5_next cX5_next 2 (some .int) rm_k_next D cI cZ [.ref h] sz [(h, .inr (5, [.int 0, .int (-1), .ref x, .int 0, .int 0, .int 0, .int 0])), (x, .inl (cI, 240, .inl f))] (fun (r : Int32) (_ : Unit) => r = (-1)) (fun (_ : Unit) => [(h, .inr (5, [.int 0, .int (-1), .ref x, .int 0, .int 0, .int 0, .int 0])), (x, .inl (cI, 240, .inl f))]) := by
  refine KI.go rfl (Nat.le_of_ble_eq_true rfl) ?_
  intro p e s m args below meth c ls A Q hx hb hml hts hown hin hP hK hD hS hA hN hl hret
  have hl : lv_has ls 2 [(0, .ref h)] := hl
  refine lv_iconst (v := 0) hx hb dX5_next_0 (by decide) ?_
  refine lv_istore_n (lv' := [(1, .int 0), (0, .ref h)]) hx hb dX5_next_1 rfl hl (by decide) rfl (fun ls hl => ?_)
  refine lv_iload_n hx hb dX5_next_2 rfl (lv_at hl 0 rfl) ?_
  refine lv_sipush (v := 240) hx hb dX5_next_3 (by decide) ?_
  refine lv_icmp_ge (tgt := 34) hx hb dX5_next_6 (by decide) (fun c_1 => absurd c_1 (by decide +kernel)) (fun c_1 => ?_)
  refine lv_aload_n hx hb dX5_next_9 rfl (lv_at hl 1 rfl) ?_
  refine cVi (wr := []) (rest := []) (k_letter h x f) okV_X5_letter wd_156 hx hb hml hown hts hK hP hD hS hA hN hl.1 [0, 1] [] rfl rfl rfl rfl (by decide) rfl rfl rfl (Nat.le_of_ble_eq_true rfl) (Nat.le_of_ble_eq_true rfl) (Nat.le_of_ble_eq_true rfl) (Nat.le_of_ble_eq_true rfl) (Nat.le_of_ble_eq_true rfl) dX5_next_10 (fun r_3 u_2 H locs hw_u_2 hP hD hS => ?_)
  obtain rfl := hw_u_2
  have hP : va_P D classes [(h, .inr (5, [.int 0, .int (-1), .ref x, .int 0, .int 0, .int 0, .int 0])), (x, .inl (cI, 240, .inl f))] H := hP
  have hD : va_D A [(h, .inr (5, [.int 0, .int (-1), .ref x, .int 0, .int 0, .int 0, .int 0])), (x, .inl (cI, 240, .inl f))] := hD
  refine lv_bipush (v := 32) hx hb dX5_next_13 (by decide) ?_
  refine lv_icmp_ne (tgt := 34) hx hb dX5_next_15 (by decide) (fun c_4 => ?_) (fun c_4 => absurd c_4 (by decide +kernel))
  refine lv_aload_n hx hb dX5_next_34 rfl (lv_at hl 1 rfl) ?_
  refine cVi (wr := []) (rest := []) (k_letter h x f) okV_X5_letter wd_156 hx hb hml hown hts hK hP hD hS hA hN hl.1 [0, 1] [] rfl rfl rfl rfl (by decide) rfl rfl rfl (Nat.le_of_ble_eq_true rfl) (Nat.le_of_ble_eq_true rfl) (Nat.le_of_ble_eq_true rfl) (Nat.le_of_ble_eq_true rfl) (Nat.le_of_ble_eq_true rfl) dX5_next_35 (fun r_6 u_5 H locs hw_u_5 hP hD hS => ?_)
  obtain rfl := hw_u_5
  have hP : va_P D classes [(h, .inr (5, [.int 0, .int (-1), .ref x, .int 0, .int 0, .int 0, .int 0])), (x, .inl (cI, 240, .inl f))] H := hP
  have hD : va_D A [(h, .inr (5, [.int 0, .int (-1), .ref x, .int 0, .int 0, .int 0, .int 0])), (x, .inl (cI, 240, .inl f))] := hD
  exact hret (-1) () _ _ _ _ dX5_next_38 rfl rfl (cutP (isC := [0, 1]) hP rfl) (cutD (isC := [0, 1]) hD rfl rfl) hS
def rm_k_read : Room := { frames := 2, cells := 0, slots := 0, locals := 41 }
set_option maxHeartbeats 4000000 in
set_option maxRecDepth 100000 in
theorem k_read {l : Launch} {D : va_G} {cI cZ : ClassId} {sz : Nat} (h x u0 : Nat) (f : Nat → Int32) (t : Nat) (t0 t1 t2 t3 t4 : Int32) (ta tb tc td te : Nat) : KV l yX5_read cX5_read 5 rm_k_read D cI cZ [.ref h, .ref x, .int 0, .ref t] sz [(h, .inr (5, [.int 0, .int (-1), .ref u0, .int 0, .int 0, .int 0, .int 0])), (x, .inl (cI, 240, .inl f)), (t, .inr (8, [.int t0, .int t1, .int t2, .int t3, .int t4, .ref ta, .ref tb, .ref tc, .ref td, .ref te]))] (fun (_ : Unit) => True) (fun (_ : Unit) => [(t, .inr (8, [.int 0, .int 1, .int 0, .int 0, .int 0, .ref ta, .ref tb, .ref tc, .ref td, .ref te])), (h, .inr (5, [.int 0, .int (-1), .ref x, .int 0, .int 0, .int 0, .int 0])), (x, .inl (cI, 240, .inl f))]) := by
  refine KV.go rfl (Nat.le_of_ble_eq_true rfl) ?_
  intro p e s m args below meth c ls A Q hx hb hml hts hown hin hP hK hD hS hA hN hl hret
  have hl : lv_has ls 5 [(0, .ref h), (1, .ref x), (2, .int 0), (3, .ref t)] := hl
  refine lv_aload_n hx hb dX5_read_0 rfl (lv_at hl 0 rfl) ?_
  refine lv_aload_n hx hb dX5_read_1 rfl (lv_at hl 1 rfl) ?_
  refine va_put (D := D) (ci := 5) (v := .ref x) (ty := (.array .int)) (C := RX5) (T := TX5) (N := 7) hx hb hts iX5 tyX5 tyX5_ok nmX5 hown hK hP hD hS 0 rfl rfl 2 (by decide) (hts _ wd_44) (fun _ h9 => h9) rfl (by decide +kernel) rfl rfl (Nat.le_of_ble_eq_true rfl) dX5_read_2 (fun H locs hP hD hS => ?_)
  have hP : va_P D classes [(h, .inr (5, [.int 0, .int (-1), .ref x, .int 0, .int 0, .int 0, .int 0])), (x, .inl (cI, 240, .inl f)), (t, .inr (8, [.int t0, .int t1, .int t2, .int t3, .int t4, .ref ta, .ref tb, .ref tc, .ref td, .ref te]))] H := hP
  have hD : va_D A [(h, .inr (5, [.int 0, .int (-1), .ref x, .int 0, .int 0, .int 0, .int 0])), (x, .inl (cI, 240, .inl f)), (t, .inr (8, [.int t0, .int t1, .int t2, .int t3, .int t4, .ref ta, .ref tb, .ref tc, .ref td, .ref te]))] := hD
  refine lv_aload_n hx hb dX5_read_5 rfl (lv_at hl 0 rfl) ?_
  refine lv_iload_n hx hb dX5_read_6 rfl (lv_at hl 2 rfl) ?_
  refine va_put (D := D) (ci := 5) (v := .int 0) (ty := .int) (C := RX5) (T := TX5) (N := 7) hx hb hts iX5 tyX5 tyX5_ok nmX5 hown hK hP hD hS 0 rfl rfl 3 (by decide) (hts _ wd_45) (fun _ h9 => h9) rfl (by decide +kernel) rfl rfl (Nat.le_of_ble_eq_true rfl) dX5_read_7 (fun H locs hP hD hS => ?_)
  have hP : va_P D classes [(h, .inr (5, [.int 0, .int (-1), .ref x, .int 0, .int 0, .int 0, .int 0])), (x, .inl (cI, 240, .inl f)), (t, .inr (8, [.int t0, .int t1, .int t2, .int t3, .int t4, .ref ta, .ref tb, .ref tc, .ref td, .ref te]))] H := hP
  have hD : va_D A [(h, .inr (5, [.int 0, .int (-1), .ref x, .int 0, .int 0, .int 0, .int 0])), (x, .inl (cI, 240, .inl f)), (t, .inr (8, [.int t0, .int t1, .int t2, .int t3, .int t4, .ref ta, .ref tb, .ref tc, .ref td, .ref te]))] := hD
  refine lv_aload_n hx hb dX5_read_10 rfl (lv_at hl 0 rfl) ?_
  refine lv_iconst (v := 0) hx hb dX5_read_11 (by decide) ?_
  refine va_put (D := D) (ci := 5) (v := .int 0) (ty := .int) (C := RX5) (T := TX5) (N := 7) hx hb hts iX5 tyX5 tyX5_ok nmX5 hown hK hP hD hS 0 rfl rfl 4 (by decide) (hts _ wd_46) (fun _ h9 => h9) rfl (by decide +kernel) rfl rfl (Nat.le_of_ble_eq_true rfl) dX5_read_12 (fun H locs hP hD hS => ?_)
  have hP : va_P D classes [(h, .inr (5, [.int 0, .int (-1), .ref x, .int 0, .int 0, .int 0, .int 0])), (x, .inl (cI, 240, .inl f)), (t, .inr (8, [.int t0, .int t1, .int t2, .int t3, .int t4, .ref ta, .ref tb, .ref tc, .ref td, .ref te]))] H := hP
  have hD : va_D A [(h, .inr (5, [.int 0, .int (-1), .ref x, .int 0, .int 0, .int 0, .int 0])), (x, .inl (cI, 240, .inl f)), (t, .inr (8, [.int t0, .int t1, .int t2, .int t3, .int t4, .ref ta, .ref tb, .ref tc, .ref td, .ref te]))] := hD
  refine lv_aload_n hx hb dX5_read_15 rfl (lv_at hl 0 rfl) ?_
  refine lv_iconst (v := 0) hx hb dX5_read_16 (by decide) ?_
  refine va_put (D := D) (ci := 5) (v := .int 0) (ty := .int) (C := RX5) (T := TX5) (N := 7) hx hb hts iX5 tyX5 tyX5_ok nmX5 hown hK hP hD hS 0 rfl rfl 0 (by decide) (hts _ wd_42) (fun _ h9 => h9) rfl (by decide +kernel) rfl rfl (Nat.le_of_ble_eq_true rfl) dX5_read_17 (fun H locs hP hD hS => ?_)
  have hP : va_P D classes [(h, .inr (5, [.int 0, .int (-1), .ref x, .int 0, .int 0, .int 0, .int 0])), (x, .inl (cI, 240, .inl f)), (t, .inr (8, [.int t0, .int t1, .int t2, .int t3, .int t4, .ref ta, .ref tb, .ref tc, .ref td, .ref te]))] H := hP
  have hD : va_D A [(h, .inr (5, [.int 0, .int (-1), .ref x, .int 0, .int 0, .int 0, .int 0])), (x, .inl (cI, 240, .inl f)), (t, .inr (8, [.int t0, .int t1, .int t2, .int t3, .int t4, .ref ta, .ref tb, .ref tc, .ref td, .ref te]))] := hD
  refine lv_aload_n hx hb dX5_read_20 rfl (lv_at hl 0 rfl) ?_
  refine lv_iconst (v := (-1)) hx hb dX5_read_21 (by decide) ?_
  refine va_put (D := D) (ci := 5) (v := .int (-1)) (ty := .int) (C := RX5) (T := TX5) (N := 7) hx hb hts iX5 tyX5 tyX5_ok nmX5 hown hK hP hD hS 0 rfl rfl 1 (by decide) (hts _ wd_43) (fun _ h9 => h9) rfl (by decide +kernel) rfl rfl (Nat.le_of_ble_eq_true rfl) dX5_read_22 (fun H locs hP hD hS => ?_)
  have hP : va_P D classes [(h, .inr (5, [.int 0, .int (-1), .ref x, .int 0, .int 0, .int 0, .int 0])), (x, .inl (cI, 240, .inl f)), (t, .inr (8, [.int t0, .int t1, .int t2, .int t3, .int t4, .ref ta, .ref tb, .ref tc, .ref td, .ref te]))] H := hP
  have hD : va_D A [(h, .inr (5, [.int 0, .int (-1), .ref x, .int 0, .int 0, .int 0, .int 0])), (x, .inl (cI, 240, .inl f)), (t, .inr (8, [.int t0, .int t1, .int t2, .int t3, .int t4, .ref ta, .ref tb, .ref tc, .ref td, .ref te]))] := hD
  refine lv_aload_n hx hb dX5_read_25 rfl (lv_at hl 0 rfl) ?_
  refine lv_iconst (v := 0) hx hb dX5_read_26 (by decide) ?_
  refine va_put (D := D) (ci := 5) (v := .int 0) (ty := .boolean) (C := RX5) (T := TX5) (N := 7) hx hb hts iX5 tyX5 tyX5_ok nmX5 hown hK hP hD hS 0 rfl rfl 5 (by decide) (hts _ wd_47) (fun _ h9 => h9) rfl (by decide +kernel) rfl rfl (Nat.le_of_ble_eq_true rfl) dX5_read_27 (fun H locs hP hD hS => ?_)
  have hP : va_P D classes [(h, .inr (5, [.int 0, .int (-1), .ref x, .int 0, .int 0, .int 0, .int 0])), (x, .inl (cI, 240, .inl f)), (t, .inr (8, [.int t0, .int t1, .int t2, .int t3, .int t4, .ref ta, .ref tb, .ref tc, .ref td, .ref te]))] H := hP
  have hD : va_D A [(h, .inr (5, [.int 0, .int (-1), .ref x, .int 0, .int 0, .int 0, .int 0])), (x, .inl (cI, 240, .inl f)), (t, .inr (8, [.int t0, .int t1, .int t2, .int t3, .int t4, .ref ta, .ref tb, .ref tc, .ref td, .ref te]))] := hD
  refine lv_aload_n hx hb dX5_read_30 rfl (lv_at hl 0 rfl) ?_
  refine lv_iconst (v := 0) hx hb dX5_read_31 (by decide) ?_
  refine va_put (D := D) (ci := 5) (v := .int 0) (ty := .boolean) (C := RX5) (T := TX5) (N := 7) hx hb hts iX5 tyX5 tyX5_ok nmX5 hown hK hP hD hS 0 rfl rfl 6 (by decide) (hts _ wd_48) (fun _ h9 => h9) rfl (by decide +kernel) rfl rfl (Nat.le_of_ble_eq_true rfl) dX5_read_32 (fun H locs hP hD hS => ?_)
  have hP : va_P D classes [(h, .inr (5, [.int 0, .int (-1), .ref x, .int 0, .int 0, .int 0, .int 0])), (x, .inl (cI, 240, .inl f)), (t, .inr (8, [.int t0, .int t1, .int t2, .int t3, .int t4, .ref ta, .ref tb, .ref tc, .ref td, .ref te]))] H := hP
  have hD : va_D A [(h, .inr (5, [.int 0, .int (-1), .ref x, .int 0, .int 0, .int 0, .int 0])), (x, .inl (cI, 240, .inl f)), (t, .inr (8, [.int t0, .int t1, .int t2, .int t3, .int t4, .ref ta, .ref tb, .ref tc, .ref td, .ref te]))] := hD
  refine lv_aload_n hx hb dX5_read_35 rfl (lv_at hl 3 rfl) ?_
  refine cVv (wr := [(h, .inr (5, [.int 0, .int (-1), .ref x, .int 0, .int 0, .int 0, .int 0])), (x, .inl (cI, 240, .inl f))]) (rest := []) (k_clear t t0 t1 t2 t3 t4 ta tb tc td te) okV_X8_clear wd_160 hx hb hml hown hts hK hP hD hS hA hN hl.1 [2] [0, 1] rfl rfl rfl rfl (by decide) rfl rfl rfl (Nat.le_of_ble_eq_true rfl) (Nat.le_of_ble_eq_true rfl) (Nat.le_of_ble_eq_true rfl) (Nat.le_of_ble_eq_true rfl) (Nat.le_of_ble_eq_true rfl) dX5_read_36 (fun u_1 H locs hw_u_1 hP hD hS => ?_)
  have hP : va_P D classes [(h, .inr (5, [.int 0, .int (-1), .ref x, .int 0, .int 0, .int 0, .int 0])), (x, .inl (cI, 240, .inl f)), (t, .inr (8, [.int 0, .int 1, .int 0, .int 0, .int 0, .ref ta, .ref tb, .ref tc, .ref td, .ref te]))] H := hP
  have hD : va_D A [(h, .inr (5, [.int 0, .int (-1), .ref x, .int 0, .int 0, .int 0, .int 0])), (x, .inl (cI, 240, .inl f)), (t, .inr (8, [.int 0, .int 1, .int 0, .int 0, .int 0, .ref ta, .ref tb, .ref tc, .ref td, .ref te]))] := hD
  refine lv_iconst (v := 0) hx hb dX5_read_39 (by decide) ?_
  refine lv_istore (lv' := [(4, .int 0), (0, .ref h), (1, .ref x), (2, .int 0), (3, .ref t)]) hx hb dX5_read_40 hl (by decide) rfl (fun ls hl => ?_)
  refine lv_iload hx hb dX5_read_42 (lv_at hl 0 rfl) ?_
  refine lv_sipush (v := 240) hx hb dX5_read_44 (by decide) ?_
  refine lv_icmp_ge (tgt := 76) hx hb dX5_read_47 (by decide) (fun c_3 => absurd c_3 (by decide +kernel)) (fun c_3 => ?_)
  refine lv_aload_n hx hb dX5_read_50 rfl (lv_at hl 1 rfl) ?_
  refine va_get (D := D) (ci := 5) (v := .int 0) (C := RX5) (T := TX5) (N := 7) hx hb hts iX5 hown hK hP 0 rfl rfl 0 (by decide) (hts _ wd_42) (fun _ h9 => h9) rfl dX5_read_51 ?_
  refine lv_if_ne (tgt := 76) hx hb dX5_read_54 (by decide) (fun c_4 => absurd (by decide +kernel) c_4) (fun c_4 => ?_)
  refine lv_aload_n hx hb dX5_read_57 rfl (lv_at hl 1 rfl) ?_
  refine cVi (wr := [(t, .inr (8, [.int 0, .int 1, .int 0, .int 0, .int 0, .ref ta, .ref tb, .ref tc, .ref td, .ref te]))]) (rest := []) (k_next h x f) okV_X5_next wd_164 hx hb hml hown hts hK hP hD hS hA hN hl.1 [0, 1] [2] rfl rfl rfl rfl (by decide) rfl rfl rfl (Nat.le_of_ble_eq_true rfl) (Nat.le_of_ble_eq_true rfl) (Nat.le_of_ble_eq_true rfl) (Nat.le_of_ble_eq_true rfl) (Nat.le_of_ble_eq_true rfl) dX5_read_58 (fun r_6 u_5 H locs hw_u_5 hP hD hS => ?_)
  obtain rfl := hw_u_5
  have hP : va_P D classes [(t, .inr (8, [.int 0, .int 1, .int 0, .int 0, .int 0, .ref ta, .ref tb, .ref tc, .ref td, .ref te])), (h, .inr (5, [.int 0, .int (-1), .ref x, .int 0, .int 0, .int 0, .int 0])), (x, .inl (cI, 240, .inl f))] H := hP
  have hD : va_D A [(t, .inr (8, [.int 0, .int 1, .int 0, .int 0, .int 0, .ref ta, .ref tb, .ref tc, .ref td, .ref te])), (h, .inr (5, [.int 0, .int (-1), .ref x, .int 0, .int 0, .int 0, .int 0])), (x, .inl (cI, 240, .inl f))] := hD
  refine lv_iconst (v := (-1)) hx hb dX5_read_61 (by decide) ?_
  refine lv_icmp_eq (tgt := 76) hx hb dX5_read_62 (by decide) (fun c_7 => ?_) (fun c_7 => absurd (by decide +kernel) c_7)
  exact hret () _ _ _ _ dX5_read_76 trivial hP hD hS
