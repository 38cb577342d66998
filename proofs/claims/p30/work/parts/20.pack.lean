section
def fw_cX8_hasBridge : List (List Nat) := [[27, 155, 0, 15, 27, 42, 180, 0, 9, 162, 0, 7, 4, 167, 0, 4, 3, 172], [3, 172]]
theorem fW_cX8_hasBridge : fq_wins 2 cX8_hasBridge.data.toList = fw_cX8_hasBridge := by decide +kernel
theorem fk_cX8_hasBridge_0 : fq_ck cX8_hasBridge 0 [27, 155, 0, 15, 27, 42, 180, 0, 9, 162, 0, 7, 4, 167, 0, 4, 3, 172] := fq_of fW_cX8_hasBridge 0 rfl rfl
theorem dX8_hasBridge_0 : decode cX8_hasBridge 0 = .ok (.iload_n 1, 1) := fq_27 fk_cX8_hasBridge_0 0 rfl rfl
theorem dX8_hasBridge_1 : decode cX8_hasBridge 1 = .ok (.ifCond .lt 15, 3) := fq_155 fk_cX8_hasBridge_0 1 rfl rfl rfl rfl rfl
theorem fk_cX8_hasBridge_1 : fq_ck cX8_hasBridge 16 [3, 172] := fq_of fW_cX8_hasBridge 1 rfl rfl
theorem dX8_hasBridge_16 : decode cX8_hasBridge 16 = .ok (.iconst 0, 1) := fq_3 fk_cX8_hasBridge_1 0 rfl rfl
theorem dX8_hasBridge_17 : decode cX8_hasBridge 17 = .ok (.ireturn, 1) := fq_172 fk_cX8_hasBridge_1 1 rfl rfl
theorem dX8_hasBridge_4 : decode cX8_hasBridge 4 = .ok (.iload_n 1, 1) := fq_27 fk_cX8_hasBridge_0 4 rfl rfl
theorem dX8_hasBridge_5 : decode cX8_hasBridge 5 = .ok (.aload_n 0, 1) := fq_42 fk_cX8_hasBridge_0 5 rfl rfl
theorem dX8_hasBridge_6 : decode cX8_hasBridge 6 = .ok (.getfield 9, 3) := fq_180 fk_cX8_hasBridge_0 6 rfl rfl rfl rfl rfl
theorem dX8_hasBridge_9 : decode cX8_hasBridge 9 = .ok (.if_icmp .ge 7, 3) := fq_162 fk_cX8_hasBridge_0 9 rfl rfl rfl rfl rfl
theorem dX8_hasBridge_12 : decode cX8_hasBridge 12 = .ok (.iconst 1, 1) := fq_4 fk_cX8_hasBridge_0 12 rfl rfl
theorem dX8_hasBridge_13 : decode cX8_hasBridge 13 = .ok (.goto 4, 3) := fq_167 fk_cX8_hasBridge_0 13 rfl rfl rfl rfl rfl
def fw_cX8_hasTheme : List (List Nat) := [[27, 155, 0, 15, 27, 42, 180, 0, 15, 162, 0, 7, 4, 167, 0, 4, 3, 172], [3, 172]]
theorem fW_cX8_hasTheme : fq_wins 2 cX8_hasTheme.data.toList = fw_cX8_hasTheme := by decide +kernel
theorem fk_cX8_hasTheme_0 : fq_ck cX8_hasTheme 0 [27, 155, 0, 15, 27, 42, 180, 0, 15, 162, 0, 7, 4, 167, 0, 4, 3, 172] := fq_of fW_cX8_hasTheme 0 rfl rfl
theorem dX8_hasTheme_0 : decode cX8_hasTheme 0 = .ok (.iload_n 1, 1) := fq_27 fk_cX8_hasTheme_0 0 rfl rfl
theorem dX8_hasTheme_1 : decode cX8_hasTheme 1 = .ok (.ifCond .lt 15, 3) := fq_155 fk_cX8_hasTheme_0 1 rfl rfl rfl rfl rfl
theorem fk_cX8_hasTheme_1 : fq_ck cX8_hasTheme 16 [3, 172] := fq_of fW_cX8_hasTheme 1 rfl rfl
theorem dX8_hasTheme_16 : decode cX8_hasTheme 16 = .ok (.iconst 0, 1) := fq_3 fk_cX8_hasTheme_1 0 rfl rfl
theorem dX8_hasTheme_17 : decode cX8_hasTheme 17 = .ok (.ireturn, 1) := fq_172 fk_cX8_hasTheme_1 1 rfl rfl
theorem dX8_hasTheme_4 : decode cX8_hasTheme 4 = .ok (.iload_n 1, 1) := fq_27 fk_cX8_hasTheme_0 4 rfl rfl
theorem dX8_hasTheme_5 : decode cX8_hasTheme 5 = .ok (.aload_n 0, 1) := fq_42 fk_cX8_hasTheme_0 5 rfl rfl
theorem dX8_hasTheme_6 : decode cX8_hasTheme 6 = .ok (.getfield 15, 3) := fq_180 fk_cX8_hasTheme_0 6 rfl rfl rfl rfl rfl
theorem dX8_hasTheme_9 : decode cX8_hasTheme 9 = .ok (.if_icmp .ge 7, 3) := fq_162 fk_cX8_hasTheme_0 9 rfl rfl rfl rfl rfl
theorem dX8_hasTheme_12 : decode cX8_hasTheme 12 = .ok (.iconst 1, 1) := fq_4 fk_cX8_hasTheme_0 12 rfl rfl
theorem dX8_hasTheme_13 : decode cX8_hasTheme 13 = .ok (.goto 4, 3) := fq_167 fk_cX8_hasTheme_0 13 rfl rfl rfl rfl rfl
def fw_cX8_hasCouple : List (List Nat) := [[27, 155, 0, 15, 27, 42, 180, 0, 18, 162, 0, 7, 4, 167, 0, 4, 3, 172], [3, 172]]
theorem fW_cX8_hasCouple : fq_wins 2 cX8_hasCouple.data.toList = fw_cX8_hasCouple := by decide +kernel
theorem fk_cX8_hasCouple_0 : fq_ck cX8_hasCouple 0 [27, 155, 0, 15, 27, 42, 180, 0, 18, 162, 0, 7, 4, 167, 0, 4, 3, 172] := fq_of fW_cX8_hasCouple 0 rfl rfl
theorem dX8_hasCouple_0 : decode cX8_hasCouple 0 = .ok (.iload_n 1, 1) := fq_27 fk_cX8_hasCouple_0 0 rfl rfl
theorem dX8_hasCouple_1 : decode cX8_hasCouple 1 = .ok (.ifCond .lt 15, 3) := fq_155 fk_cX8_hasCouple_0 1 rfl rfl rfl rfl rfl
theorem fk_cX8_hasCouple_1 : fq_ck cX8_hasCouple 16 [3, 172] := fq_of fW_cX8_hasCouple 1 rfl rfl
theorem dX8_hasCouple_16 : decode cX8_hasCouple 16 = .ok (.iconst 0, 1) := fq_3 fk_cX8_hasCouple_1 0 rfl rfl
theorem dX8_hasCouple_17 : decode cX8_hasCouple 17 = .ok (.ireturn, 1) := fq_172 fk_cX8_hasCouple_1 1 rfl rfl
theorem dX8_hasCouple_4 : decode cX8_hasCouple 4 = .ok (.iload_n 1, 1) := fq_27 fk_cX8_hasCouple_0 4 rfl rfl
theorem dX8_hasCouple_5 : decode cX8_hasCouple 5 = .ok (.aload_n 0, 1) := fq_42 fk_cX8_hasCouple_0 5 rfl rfl
theorem dX8_hasCouple_6 : decode cX8_hasCouple 6 = .ok (.getfield 18, 3) := fq_180 fk_cX8_hasCouple_0 6 rfl rfl rfl rfl rfl
theorem dX8_hasCouple_9 : decode cX8_hasCouple 9 = .ok (.if_icmp .ge 7, 3) := fq_162 fk_cX8_hasCouple_0 9 rfl rfl rfl rfl rfl
theorem dX8_hasCouple_12 : decode cX8_hasCouple 12 = .ok (.iconst 1, 1) := fq_4 fk_cX8_hasCouple_0 12 rfl rfl
theorem dX8_hasCouple_13 : decode cX8_hasCouple 13 = .ok (.goto 4, 3) := fq_167 fk_cX8_hasCouple_0 13 rfl rfl rfl rfl rfl
def fw_cX8_hasBarge : List (List Nat) := [[27, 155, 0, 15, 27, 42, 180, 0, 21, 162, 0, 7, 4, 167, 0, 4, 3, 172], [3, 172]]
theorem fW_cX8_hasBarge : fq_wins 2 cX8_hasBarge.data.toList = fw_cX8_hasBarge := by decide +kernel
theorem fk_cX8_hasBarge_0 : fq_ck cX8_hasBarge 0 [27, 155, 0, 15, 27, 42, 180, 0, 21, 162, 0, 7, 4, 167, 0, 4, 3, 172] := fq_of fW_cX8_hasBarge 0 rfl rfl
theorem dX8_hasBarge_0 : decode cX8_hasBarge 0 = .ok (.iload_n 1, 1) := fq_27 fk_cX8_hasBarge_0 0 rfl rfl
theorem dX8_hasBarge_1 : decode cX8_hasBarge 1 = .ok (.ifCond .lt 15, 3) := fq_155 fk_cX8_hasBarge_0 1 rfl rfl rfl rfl rfl
theorem fk_cX8_hasBarge_1 : fq_ck cX8_hasBarge 16 [3, 172] := fq_of fW_cX8_hasBarge 1 rfl rfl
theorem dX8_hasBarge_16 : decode cX8_hasBarge 16 = .ok (.iconst 0, 1) := fq_3 fk_cX8_hasBarge_1 0 rfl rfl
theorem dX8_hasBarge_17 : decode cX8_hasBarge 17 = .ok (.ireturn, 1) := fq_172 fk_cX8_hasBarge_1 1 rfl rfl
theorem dX8_hasBarge_4 : decode cX8_hasBarge 4 = .ok (.iload_n 1, 1) := fq_27 fk_cX8_hasBarge_0 4 rfl rfl
theorem dX8_hasBarge_5 : decode cX8_hasBarge 5 = .ok (.aload_n 0, 1) := fq_42 fk_cX8_hasBarge_0 5 rfl rfl
theorem dX8_hasBarge_6 : decode cX8_hasBarge 6 = .ok (.getfield 21, 3) := fq_180 fk_cX8_hasBarge_0 6 rfl rfl rfl rfl rfl
theorem dX8_hasBarge_9 : decode cX8_hasBarge 9 = .ok (.if_icmp .ge 7, 3) := fq_162 fk_cX8_hasBarge_0 9 rfl rfl rfl rfl rfl
theorem dX8_hasBarge_12 : decode cX8_hasBarge 12 = .ok (.iconst 1, 1) := fq_4 fk_cX8_hasBarge_0 12 rfl rfl
theorem dX8_hasBarge_13 : decode cX8_hasBarge 13 = .ok (.goto 4, 3) := fq_167 fk_cX8_hasBarge_0 13 rfl rfl rfl rfl rfl
def fw_cX7_minutes : List (List Nat) := [[42, 180, 0, 11, 3, 184, 0, 30, 172]]
theorem fW_cX7_minutes : fq_wins 1 cX7_minutes.data.toList = fw_cX7_minutes := by decide +kernel
theorem fk_cX7_minutes_0 : fq_ck cX7_minutes 0 [42, 180, 0, 11, 3, 184, 0, 30, 172] := fq_of fW_cX7_minutes 0 rfl rfl
theorem dX7_minutes_0 : decode cX7_minutes 0 = .ok (.aload_n 0, 1) := fq_42 fk_cX7_minutes_0 0 rfl rfl
theorem dX7_minutes_1 : decode cX7_minutes 1 = .ok (.getfield 11, 3) := fq_180 fk_cX7_minutes_0 1 rfl rfl rfl rfl rfl
theorem dX7_minutes_4 : decode cX7_minutes 4 = .ok (.iconst 0, 1) := fq_3 fk_cX7_minutes_0 4 rfl rfl
theorem dX7_minutes_5 : decode cX7_minutes 5 = .ok (.invokestatic 30, 3) := fq_184 fk_cX7_minutes_0 5 rfl rfl rfl rfl rfl
theorem wd_138 : Cond.code yX9_at cX9_at 2 (some .int) ∈ BG := BG_at2 31 rfl rfl
theorem wd_139 : Cond.static yX9_at ∈ BG := BG_at2 30 (by decide +kernel) rfl
theorem okS_X9_at : okS yX9_at cX9_at 2 (some .int) 2 := ⟨⟨wd_138, wd_71, by decide +kernel⟩, wd_139⟩
theorem dX7_minutes_8 : decode cX7_minutes 8 = .ok (.ireturn, 1) := fq_172 fk_cX7_minutes_0 8 rfl rfl
def fw_cX7_reconciledSet : List (List Nat) := [[42, 180, 0, 11, 4, 184, 0, 30, 172]]
theorem fW_cX7_reconciledSet : fq_wins 1 cX7_reconciledSet.data.toList = fw_cX7_reconciledSet := by decide +kernel
theorem fk_cX7_reconciledSet_0 : fq_ck cX7_reconciledSet 0 [42, 180, 0, 11, 4, 184, 0, 30, 172] := fq_of fW_cX7_reconciledSet 0 rfl rfl
theorem dX7_reconciledSet_0 : decode cX7_reconciledSet 0 = .ok (.aload_n 0, 1) := fq_42 fk_cX7_reconciledSet_0 0 rfl rfl
theorem dX7_reconciledSet_1 : decode cX7_reconciledSet 1 = .ok (.getfield 11, 3) := fq_180 fk_cX7_reconciledSet_0 1 rfl rfl rfl rfl rfl
theorem dX7_reconciledSet_4 : decode cX7_reconciledSet 4 = .ok (.iconst 1, 1) := fq_4 fk_cX7_reconciledSet_0 4 rfl rfl
theorem dX7_reconciledSet_5 : decode cX7_reconciledSet 5 = .ok (.invokestatic 30, 3) := fq_184 fk_cX7_reconciledSet_0 5 rfl rfl rfl rfl rfl
theorem dX7_reconciledSet_8 : decode cX7_reconciledSet 8 = .ok (.ireturn, 1) := fq_172 fk_cX7_reconciledSet_0 8 rfl rfl
def fw_cX7_grievanceOf : List (List Nat) := [[42, 180, 0, 11, 5, 27, 96, 184, 0, 30, 172]]
theorem fW_cX7_grievanceOf : fq_wins 1 cX7_grievanceOf.data.toList = fw_cX7_grievanceOf := by decide +kernel
theorem fk_cX7_grievanceOf_0 : fq_ck cX7_grievanceOf 0 [42, 180, 0, 11, 5, 27, 96, 184, 0, 30, 172] := fq_of fW_cX7_grievanceOf 0 rfl rfl
theorem dX7_grievanceOf_0 : decode cX7_grievanceOf 0 = .ok (.aload_n 0, 1) := fq_42 fk_cX7_grievanceOf_0 0 rfl rfl
theorem dX7_grievanceOf_1 : decode cX7_grievanceOf 1 = .ok (.getfield 11, 3) := fq_180 fk_cX7_grievanceOf_0 1 rfl rfl rfl rfl rfl
theorem dX7_grievanceOf_4 : decode cX7_grievanceOf 4 = .ok (.iconst 2, 1) := fq_5 fk_cX7_grievanceOf_0 4 rfl rfl
theorem dX7_grievanceOf_5 : decode cX7_grievanceOf 5 = .ok (.iload_n 1, 1) := fq_27 fk_cX7_grievanceOf_0 5 rfl rfl
theorem dX7_grievanceOf_6 : decode cX7_grievanceOf 6 = .ok (.iadd, 1) := fq_96 fk_cX7_grievanceOf_0 6 rfl rfl
theorem dX7_grievanceOf_7 : decode cX7_grievanceOf 7 = .ok (.invokestatic 30, 3) := fq_184 fk_cX7_grievanceOf_0 7 rfl rfl rfl rfl rfl
theorem dX7_grievanceOf_10 : decode cX7_grievanceOf 10 = .ok (.ireturn, 1) := fq_172 fk_cX7_grievanceOf_0 10 rfl rfl
def fw_cX7_bridgeOf : List (List Nat) := [[42, 180, 0, 11, 16, 8, 27, 96, 184, 0, 30, 172]]
theorem fW_cX7_bridgeOf : fq_wins 1 cX7_bridgeOf.data.toList = fw_cX7_bridgeOf := by decide +kernel
theorem fk_cX7_bridgeOf_0 : fq_ck cX7_bridgeOf 0 [42, 180, 0, 11, 16, 8, 27, 96, 184, 0, 30, 172] := fq_of fW_cX7_bridgeOf 0 rfl rfl
theorem dX7_bridgeOf_0 : decode cX7_bridgeOf 0 = .ok (.aload_n 0, 1) := fq_42 fk_cX7_bridgeOf_0 0 rfl rfl
theorem dX7_bridgeOf_1 : decode cX7_bridgeOf 1 = .ok (.getfield 11, 3) := fq_180 fk_cX7_bridgeOf_0 1 rfl rfl rfl rfl rfl
theorem dX7_bridgeOf_4 : decode cX7_bridgeOf 4 = .ok (.bipush 8, 2) := fq_16 fk_cX7_bridgeOf_0 4 rfl rfl rfl rfl
theorem dX7_bridgeOf_6 : decode cX7_bridgeOf 6 = .ok (.iload_n 1, 1) := fq_27 fk_cX7_bridgeOf_0 6 rfl rfl
theorem dX7_bridgeOf_7 : decode cX7_bridgeOf 7 = .ok (.iadd, 1) := fq_96 fk_cX7_bridgeOf_0 7 rfl rfl
theorem dX7_bridgeOf_8 : decode cX7_bridgeOf 8 = .ok (.invokestatic 30, 3) := fq_184 fk_cX7_bridgeOf_0 8 rfl rfl rfl rfl rfl
theorem dX7_bridgeOf_11 : decode cX7_bridgeOf 11 = .ok (.ireturn, 1) := fq_172 fk_cX7_bridgeOf_0 11 rfl rfl
def fw_cX7_themeOf : List (List Nat) := [[42, 180, 0, 11, 16, 14, 27, 96, 184, 0, 30, 172]]
theorem fW_cX7_themeOf : fq_wins 1 cX7_themeOf.data.toList = fw_cX7_themeOf := by decide +kernel
theorem fk_cX7_themeOf_0 : fq_ck cX7_themeOf 0 [42, 180, 0, 11, 16, 14, 27, 96, 184, 0, 30, 172] := fq_of fW_cX7_themeOf 0 rfl rfl
theorem dX7_themeOf_0 : decode cX7_themeOf 0 = .ok (.aload_n 0, 1) := fq_42 fk_cX7_themeOf_0 0 rfl rfl
theorem dX7_themeOf_1 : decode cX7_themeOf 1 = .ok (.getfield 11, 3) := fq_180 fk_cX7_themeOf_0 1 rfl rfl rfl rfl rfl
theorem dX7_themeOf_4 : decode cX7_themeOf 4 = .ok (.bipush 14, 2) := fq_16 fk_cX7_themeOf_0 4 rfl rfl rfl rfl
theorem dX7_themeOf_6 : decode cX7_themeOf 6 = .ok (.iload_n 1, 1) := fq_27 fk_cX7_themeOf_0 6 rfl rfl
theorem dX7_themeOf_7 : decode cX7_themeOf 7 = .ok (.iadd, 1) := fq_96 fk_cX7_themeOf_0 7 rfl rfl
theorem dX7_themeOf_8 : decode cX7_themeOf 8 = .ok (.invokestatic 30, 3) := fq_184 fk_cX7_themeOf_0 8 rfl rfl rfl rfl rfl
theorem dX7_themeOf_11 : decode cX7_themeOf 11 = .ok (.ireturn, 1) := fq_172 fk_cX7_themeOf_0 11 rfl rfl
def fw_cX7_fateOf : List (List Nat) := [[42, 180, 0, 11, 16, 20, 27, 96, 184, 0, 30, 172]]
theorem fW_cX7_fateOf : fq_wins 1 cX7_fateOf.data.toList = fw_cX7_fateOf := by decide +kernel
theorem fk_cX7_fateOf_0 : fq_ck cX7_fateOf 0 [42, 180, 0, 11, 16, 20, 27, 96, 184, 0, 30, 172] := fq_of fW_cX7_fateOf 0 rfl rfl
theorem dX7_fateOf_0 : decode cX7_fateOf 0 = .ok (.aload_n 0, 1) := fq_42 fk_cX7_fateOf_0 0 rfl rfl
theorem dX7_fateOf_1 : decode cX7_fateOf 1 = .ok (.getfield 11, 3) := fq_180 fk_cX7_fateOf_0 1 rfl rfl rfl rfl rfl
theorem dX7_fateOf_4 : decode cX7_fateOf 4 = .ok (.bipush 20, 2) := fq_16 fk_cX7_fateOf_0 4 rfl rfl rfl rfl
theorem dX7_fateOf_6 : decode cX7_fateOf 6 = .ok (.iload_n 1, 1) := fq_27 fk_cX7_fateOf_0 6 rfl rfl
theorem dX7_fateOf_7 : decode cX7_fateOf 7 = .ok (.iadd, 1) := fq_96 fk_cX7_fateOf_0 7 rfl rfl
theorem dX7_fateOf_8 : decode cX7_fateOf 8 = .ok (.invokestatic 30, 3) := fq_184 fk_cX7_fateOf_0 8 rfl rfl rfl rfl rfl
theorem dX7_fateOf_11 : decode cX7_fateOf 11 = .ok (.ireturn, 1) := fq_172 fk_cX7_fateOf_0 11 rfl rfl
def fw_cX7_lyingAt : List (List Nat) := [[42, 180, 0, 11, 16, 27, 27, 96, 184, 0, 30, 172]]
theorem fW_cX7_lyingAt : fq_wins 1 cX7_lyingAt.data.toList = fw_cX7_lyingAt := by decide +kernel
theorem fk_cX7_lyingAt_0 : fq_ck cX7_lyingAt 0 [42, 180, 0, 11, 16, 27, 27, 96, 184, 0, 30, 172] := fq_of fW_cX7_lyingAt 0 rfl rfl
theorem dX7_lyingAt_0 : decode cX7_lyingAt 0 = .ok (.aload_n 0, 1) := fq_42 fk_cX7_lyingAt_0 0 rfl rfl
theorem dX7_lyingAt_1 : decode cX7_lyingAt 1 = .ok (.getfield 11, 3) := fq_180 fk_cX7_lyingAt_0 1 rfl rfl rfl rfl rfl
theorem dX7_lyingAt_4 : decode cX7_lyingAt 4 = .ok (.bipush 27, 2) := fq_16 fk_cX7_lyingAt_0 4 rfl rfl rfl rfl
theorem dX7_lyingAt_6 : decode cX7_lyingAt 6 = .ok (.iload_n 1, 1) := fq_27 fk_cX7_lyingAt_0 6 rfl rfl
theorem dX7_lyingAt_7 : decode cX7_lyingAt 7 = .ok (.iadd, 1) := fq_96 fk_cX7_lyingAt_0 7 rfl rfl
theorem dX7_lyingAt_8 : decode cX7_lyingAt 8 = .ok (.invokestatic 30, 3) := fq_184 fk_cX7_lyingAt_0 8 rfl rfl rfl rfl rfl
theorem dX7_lyingAt_11 : decode cX7_lyingAt 11 = .ok (.ireturn, 1) := fq_172 fk_cX7_lyingAt_0 11 rfl rfl
def fw_cX7_passedAt : List (List Nat) := [[42, 180, 0, 11, 16, 34, 27, 96, 184, 0, 30, 172]]
theorem fW_cX7_passedAt : fq_wins 1 cX7_passedAt.data.toList = fw_cX7_passedAt := by decide +kernel
theorem fk_cX7_passedAt_0 : fq_ck cX7_passedAt 0 [42, 180, 0, 11, 16, 34, 27, 96, 184, 0, 30, 172] := fq_of fW_cX7_passedAt 0 rfl rfl
theorem dX7_passedAt_0 : decode cX7_passedAt 0 = .ok (.aload_n 0, 1) := fq_42 fk_cX7_passedAt_0 0 rfl rfl
theorem dX7_passedAt_1 : decode cX7_passedAt 1 = .ok (.getfield 11, 3) := fq_180 fk_cX7_passedAt_0 1 rfl rfl rfl rfl rfl
theorem dX7_passedAt_4 : decode cX7_passedAt 4 = .ok (.bipush 34, 2) := fq_16 fk_cX7_passedAt_0 4 rfl rfl rfl rfl
theorem dX7_passedAt_6 : decode cX7_passedAt 6 = .ok (.iload_n 1, 1) := fq_27 fk_cX7_passedAt_0 6 rfl rfl
theorem dX7_passedAt_7 : decode cX7_passedAt 7 = .ok (.iadd, 1) := fq_96 fk_cX7_passedAt_0 7 rfl rfl
theorem dX7_passedAt_8 : decode cX7_passedAt 8 = .ok (.invokestatic 30, 3) := fq_184 fk_cX7_passedAt_0 8 rfl rfl rfl rfl rfl
theorem dX7_passedAt_11 : decode cX7_passedAt 11 = .ok (.ireturn, 1) := fq_172 fk_cX7_passedAt_0 11 rfl rfl
def fw_cX7_leave : List (List Nat) := [[42, 180, 0, 11, 5, 27, 96, 28, 184, 0, 34, 177]]
theorem fW_cX7_leave : fq_wins 1 cX7_leave.data.toList = fw_cX7_leave := by decide +kernel
theorem fk_cX7_leave_0 : fq_ck cX7_leave 0 [42, 180, 0, 11, 5, 27, 96, 28, 184, 0, 34, 177] := fq_of fW_cX7_leave 0 rfl rfl
theorem dX7_leave_0 : decode cX7_leave 0 = .ok (.aload_n 0, 1) := fq_42 fk_cX7_leave_0 0 rfl rfl
theorem dX7_leave_1 : decode cX7_leave 1 = .ok (.getfield 11, 3) := fq_180 fk_cX7_leave_0 1 rfl rfl rfl rfl rfl
theorem dX7_leave_4 : decode cX7_leave 4 = .ok (.iconst 2, 1) := fq_5 fk_cX7_leave_0 4 rfl rfl
theorem dX7_leave_5 : decode cX7_leave 5 = .ok (.iload_n 1, 1) := fq_27 fk_cX7_leave_0 5 rfl rfl
theorem dX7_leave_6 : decode cX7_leave 6 = .ok (.iadd, 1) := fq_96 fk_cX7_leave_0 6 rfl rfl
theorem dX7_leave_7 : decode cX7_leave 7 = .ok (.iload_n 2, 1) := fq_28 fk_cX7_leave_0 7 rfl rfl
theorem dX7_leave_8 : decode cX7_leave 8 = .ok (.invokestatic 34, 3) := fq_184 fk_cX7_leave_0 8 rfl rfl rfl rfl rfl
theorem dX7_leave_11 : decode cX7_leave 11 = .ok (.return_, 1) := fq_177 fk_cX7_leave_0 11 rfl rfl
def fw_cX7_place : List (List Nat) := [[42, 180, 0, 11, 16, 8, 27, 96, 28, 184, 0, 34, 177]]
theorem fW_cX7_place : fq_wins 1 cX7_place.data.toList = fw_cX7_place := by decide +kernel
theorem fk_cX7_place_0 : fq_ck cX7_place 0 [42, 180, 0, 11, 16, 8, 27, 96, 28, 184, 0, 34, 177] := fq_of fW_cX7_place 0 rfl rfl
theorem dX7_place_0 : decode cX7_place 0 = .ok (.aload_n 0, 1) := fq_42 fk_cX7_place_0 0 rfl rfl
theorem dX7_place_1 : decode cX7_place 1 = .ok (.getfield 11, 3) := fq_180 fk_cX7_place_0 1 rfl rfl rfl rfl rfl
theorem dX7_place_4 : decode cX7_place 4 = .ok (.bipush 8, 2) := fq_16 fk_cX7_place_0 4 rfl rfl rfl rfl
theorem dX7_place_6 : decode cX7_place 6 = .ok (.iload_n 1, 1) := fq_27 fk_cX7_place_0 6 rfl rfl
theorem dX7_place_7 : decode cX7_place 7 = .ok (.iadd, 1) := fq_96 fk_cX7_place_0 7 rfl rfl
theorem dX7_place_8 : decode cX7_place 8 = .ok (.iload_n 2, 1) := fq_28 fk_cX7_place_0 8 rfl rfl
theorem dX7_place_9 : decode cX7_place 9 = .ok (.invokestatic 34, 3) := fq_184 fk_cX7_place_0 9 rfl rfl rfl rfl rfl
theorem dX7_place_12 : decode cX7_place 12 = .ok (.return_, 1) := fq_177 fk_cX7_place_0 12 rfl rfl
def fw_cX7_turnTo : List (List Nat) := [[42, 180, 0, 11, 16, 14, 27, 96, 28, 184, 0, 34, 177]]
theorem fW_cX7_turnTo : fq_wins 1 cX7_turnTo.data.toList = fw_cX7_turnTo := by decide +kernel
theorem fk_cX7_turnTo_0 : fq_ck cX7_turnTo 0 [42, 180, 0, 11, 16, 14, 27, 96, 28, 184, 0, 34, 177] := fq_of fW_cX7_turnTo 0 rfl rfl
theorem dX7_turnTo_0 : decode cX7_turnTo 0 = .ok (.aload_n 0, 1) := fq_42 fk_cX7_turnTo_0 0 rfl rfl
theorem dX7_turnTo_1 : decode cX7_turnTo 1 = .ok (.getfield 11, 3) := fq_180 fk_cX7_turnTo_0 1 rfl rfl rfl rfl rfl
theorem dX7_turnTo_4 : decode cX7_turnTo 4 = .ok (.bipush 14, 2) := fq_16 fk_cX7_turnTo_0 4 rfl rfl rfl rfl
theorem dX7_turnTo_6 : decode cX7_turnTo 6 = .ok (.iload_n 1, 1) := fq_27 fk_cX7_turnTo_0 6 rfl rfl
theorem dX7_turnTo_7 : decode cX7_turnTo 7 = .ok (.iadd, 1) := fq_96 fk_cX7_turnTo_0 7 rfl rfl
theorem dX7_turnTo_8 : decode cX7_turnTo 8 = .ok (.iload_n 2, 1) := fq_28 fk_cX7_turnTo_0 8 rfl rfl
theorem dX7_turnTo_9 : decode cX7_turnTo 9 = .ok (.invokestatic 34, 3) := fq_184 fk_cX7_turnTo_0 9 rfl rfl rfl rfl rfl
theorem dX7_turnTo_12 : decode cX7_turnTo 12 = .ok (.return_, 1) := fq_177 fk_cX7_turnTo_0 12 rfl rfl
def fw_cX7_lay : List (List Nat) := [[42, 180, 0, 11, 16, 20, 27, 96, 6, 184, 0, 34, 42, 180, 0, 11, 16, 27], [16, 27, 27, 96, 28, 184, 0, 34, 177]]
theorem fW_cX7_lay : fq_wins 2 cX7_lay.data.toList = fw_cX7_lay := by decide +kernel
theorem fk_cX7_lay_0 : fq_ck cX7_lay 0 [42, 180, 0, 11, 16, 20, 27, 96, 6, 184, 0, 34, 42, 180, 0, 11, 16, 27] := fq_of fW_cX7_lay 0 rfl rfl
theorem dX7_lay_0 : decode cX7_lay 0 = .ok (.aload_n 0, 1) := fq_42 fk_cX7_lay_0 0 rfl rfl
theorem dX7_lay_1 : decode cX7_lay 1 = .ok (.getfield 11, 3) := fq_180 fk_cX7_lay_0 1 rfl rfl rfl rfl rfl
theorem dX7_lay_4 : decode cX7_lay 4 = .ok (.bipush 20, 2) := fq_16 fk_cX7_lay_0 4 rfl rfl rfl rfl
theorem dX7_lay_6 : decode cX7_lay 6 = .ok (.iload_n 1, 1) := fq_27 fk_cX7_lay_0 6 rfl rfl
theorem dX7_lay_7 : decode cX7_lay 7 = .ok (.iadd, 1) := fq_96 fk_cX7_lay_0 7 rfl rfl
theorem dX7_lay_8 : decode cX7_lay 8 = .ok (.iconst 3, 1) := fq_6 fk_cX7_lay_0 8 rfl rfl
theorem dX7_lay_9 : decode cX7_lay 9 = .ok (.invokestatic 34, 3) := fq_184 fk_cX7_lay_0 9 rfl rfl rfl rfl rfl
theorem dX7_lay_12 : decode cX7_lay 12 = .ok (.aload_n 0, 1) := fq_42 fk_cX7_lay_0 12 rfl rfl
theorem dX7_lay_13 : decode cX7_lay 13 = .ok (.getfield 11, 3) := fq_180 fk_cX7_lay_0 13 rfl rfl rfl rfl rfl
theorem fk_cX7_lay_1 : fq_ck cX7_lay 16 [16, 27, 27, 96, 28, 184, 0, 34, 177] := fq_of fW_cX7_lay 1 rfl rfl
theorem dX7_lay_16 : decode cX7_lay 16 = .ok (.bipush 27, 2) := fq_16 fk_cX7_lay_1 0 rfl rfl rfl rfl
theorem dX7_lay_18 : decode cX7_lay 18 = .ok (.iload_n 1, 1) := fq_27 fk_cX7_lay_1 2 rfl rfl
theorem dX7_lay_19 : decode cX7_lay 19 = .ok (.iadd, 1) := fq_96 fk_cX7_lay_1 3 rfl rfl
theorem dX7_lay_20 : decode cX7_lay 20 = .ok (.iload_n 2, 1) := fq_28 fk_cX7_lay_1 4 rfl rfl
theorem dX7_lay_21 : decode cX7_lay 21 = .ok (.invokestatic 34, 3) := fq_184 fk_cX7_lay_1 5 rfl rfl rfl rfl rfl
theorem dX7_lay_24 : decode cX7_lay 24 = .ok (.return_, 1) := fq_177 fk_cX7_lay_1 8 rfl rfl
def fw_cX7_spendMinutes : List (List Nat) := [[42, 180, 0, 11, 3, 42, 182, 0, 38, 27, 96, 184, 0, 34, 177]]
theorem fW_cX7_spendMinutes : fq_wins 1 cX7_spendMinutes.data.toList = fw_cX7_spendMinutes := by decide +kernel
theorem fk_cX7_spendMinutes_0 : fq_ck cX7_spendMinutes 0 [42, 180, 0, 11, 3, 42, 182, 0, 38, 27, 96, 184, 0, 34, 177] := fq_of fW_cX7_spendMinutes 0 rfl rfl
theorem dX7_spendMinutes_0 : decode cX7_spendMinutes 0 = .ok (.aload_n 0, 1) := fq_42 fk_cX7_spendMinutes_0 0 rfl rfl
theorem dX7_spendMinutes_1 : decode cX7_spendMinutes 1 = .ok (.getfield 11, 3) := fq_180 fk_cX7_spendMinutes_0 1 rfl rfl rfl rfl rfl
theorem dX7_spendMinutes_4 : decode cX7_spendMinutes 4 = .ok (.iconst 0, 1) := fq_3 fk_cX7_spendMinutes_0 4 rfl rfl
theorem dX7_spendMinutes_5 : decode cX7_spendMinutes 5 = .ok (.aload_n 0, 1) := fq_42 fk_cX7_spendMinutes_0 5 rfl rfl
theorem dX7_spendMinutes_6 : decode cX7_spendMinutes 6 = .ok (.invokevirtual 38, 3) := fq_182 fk_cX7_spendMinutes_0 6 rfl rfl rfl rfl rfl
theorem wd_140 : Cond.methodLink RX7 38 yX7_minutes ∈ BG := BG_at3 77 (by decide +kernel) rfl
theorem wd_141 : Cond.code yX7_minutes cX7_minutes 1 (some .int) ∈ BG := BG_at2 170 rfl rfl
theorem wd_142 : Cond.instanceMethod yX7_minutes ∈ BG := BG_at2 168 (by decide +kernel) rfl
theorem wd_143 : Cond.selects RX7 yX7_minutes yX7_minutes ∈ BG := BG_at2 169 (by decide +kernel) rfl
theorem okV_X7_minutes : okV yX7_minutes cX7_minutes 1 (some .int) 0 := ⟨⟨wd_141, wd_93, by decide +kernel⟩, wd_142, wd_143⟩
theorem dX7_spendMinutes_9 : decode cX7_spendMinutes 9 = .ok (.iload_n 1, 1) := fq_27 fk_cX7_spendMinutes_0 9 rfl rfl
theorem dX7_spendMinutes_10 : decode cX7_spendMinutes 10 = .ok (.iadd, 1) := fq_96 fk_cX7_spendMinutes_0 10 rfl rfl
theorem dX7_spendMinutes_11 : decode cX7_spendMinutes 11 = .ok (.invokestatic 34, 3) := fq_184 fk_cX7_spendMinutes_0 11 rfl rfl rfl rfl rfl
theorem dX7_spendMinutes_14 : decode cX7_spendMinutes 14 = .ok (.return_, 1) := fq_177 fk_cX7_spendMinutes_0 14 rfl rfl
def fw_cX7_isReconciled : List (List Nat) := [[42, 182, 0, 42, 27, 122, 4, 126, 153, 0, 7, 4, 167, 0, 4, 3, 172], [172]]
theorem fW_cX7_isReconciled : fq_wins 2 cX7_isReconciled.data.toList = fw_cX7_isReconciled := by decide +kernel
theorem fk_cX7_isReconciled_0 : fq_ck cX7_isReconciled 0 [42, 182, 0, 42, 27, 122, 4, 126, 153, 0, 7, 4, 167, 0, 4, 3, 172] := fq_of fW_cX7_isReconciled 0 rfl rfl
theorem dX7_isReconciled_0 : decode cX7_isReconciled 0 = .ok (.aload_n 0, 1) := fq_42 fk_cX7_isReconciled_0 0 rfl rfl
theorem dX7_isReconciled_1 : decode cX7_isReconciled 1 = .ok (.invokevirtual 42, 3) := fq_182 fk_cX7_isReconciled_0 1 rfl rfl rfl rfl rfl
theorem wd_144 : Cond.methodLink RX7 42 yX7_reconciledSet ∈ BG := BG_at2 231 (by decide +kernel) rfl
theorem wd_145 : Cond.code yX7_reconciledSet cX7_reconciledSet 1 (some .int) ∈ BG := BG_at2 174 rfl rfl
theorem wd_146 : Cond.instanceMethod yX7_reconciledSet ∈ BG := BG_at2 172 (by decide +kernel) rfl
theorem wd_147 : Cond.selects RX7 yX7_reconciledSet yX7_reconciledSet ∈ BG := BG_at2 173 (by decide +kernel) rfl
theorem okV_X7_reconciledSet : okV yX7_reconciledSet cX7_reconciledSet 1 (some .int) 0 := ⟨⟨wd_145, wd_93, by decide +kernel⟩, wd_146, wd_147⟩
theorem dX7_isReconciled_4 : decode cX7_isReconciled 4 = .ok (.iload_n 1, 1) := fq_27 fk_cX7_isReconciled_0 4 rfl rfl
theorem dX7_isReconciled_5 : decode cX7_isReconciled 5 = .ok (.ishr, 1) := fq_122 fk_cX7_isReconciled_0 5 rfl rfl
theorem dX7_isReconciled_6 : decode cX7_isReconciled 6 = .ok (.iconst 1, 1) := fq_4 fk_cX7_isReconciled_0 6 rfl rfl
theorem dX7_isReconciled_7 : decode cX7_isReconciled 7 = .ok (.iand, 1) := fq_126 fk_cX7_isReconciled_0 7 rfl rfl
theorem dX7_isReconciled_8 : decode cX7_isReconciled 8 = .ok (.ifCond .eq 7, 3) := fq_153 fk_cX7_isReconciled_0 8 rfl rfl rfl rfl rfl
theorem dX7_isReconciled_15 : decode cX7_isReconciled 15 = .ok (.iconst 0, 1) := fq_3 fk_cX7_isReconciled_0 15 rfl rfl
theorem fk_cX7_isReconciled_1 : fq_ck cX7_isReconciled 16 [172] := fq_of fW_cX7_isReconciled 1 rfl rfl
theorem dX7_isReconciled_16 : decode cX7_isReconciled 16 = .ok (.ireturn, 1) := fq_172 fk_cX7_isReconciled_1 0 rfl rfl
theorem dX7_isReconciled_11 : decode cX7_isReconciled 11 = .ok (.iconst 1, 1) := fq_4 fk_cX7_isReconciled_0 11 rfl rfl
theorem dX7_isReconciled_12 : decode cX7_isReconciled 12 = .ok (.goto 4, 3) := fq_167 fk_cX7_isReconciled_0 12 rfl rfl rfl rfl rfl
def fw_cX7_reconcile : List (List Nat) := [[42, 180, 0, 11, 4, 42, 182, 0, 42, 4, 27, 120, 128, 184, 0, 34, 42, 27], [42, 27, 2, 182, 0, 45, 177]]
theorem fW_cX7_reconcile : fq_wins 2 cX7_reconcile.data.toList = fw_cX7_reconcile := by decide +kernel
theorem fk_cX7_reconcile_0 : fq_ck cX7_reconcile 0 [42, 180, 0, 11, 4, 42, 182, 0, 42, 4, 27, 120, 128, 184, 0, 34, 42, 27] := fq_of fW_cX7_reconcile 0 rfl rfl
theorem dX7_reconcile_0 : decode cX7_reconcile 0 = .ok (.aload_n 0, 1) := fq_42 fk_cX7_reconcile_0 0 rfl rfl
theorem dX7_reconcile_1 : decode cX7_reconcile 1 = .ok (.getfield 11, 3) := fq_180 fk_cX7_reconcile_0 1 rfl rfl rfl rfl rfl
theorem dX7_reconcile_4 : decode cX7_reconcile 4 = .ok (.iconst 1, 1) := fq_4 fk_cX7_reconcile_0 4 rfl rfl
theorem dX7_reconcile_5 : decode cX7_reconcile 5 = .ok (.aload_n 0, 1) := fq_42 fk_cX7_reconcile_0 5 rfl rfl
theorem dX7_reconcile_6 : decode cX7_reconcile 6 = .ok (.invokevirtual 42, 3) := fq_182 fk_cX7_reconcile_0 6 rfl rfl rfl rfl rfl
theorem dX7_reconcile_9 : decode cX7_reconcile 9 = .ok (.iconst 1, 1) := fq_4 fk_cX7_reconcile_0 9 rfl rfl
theorem dX7_reconcile_10 : decode cX7_reconcile 10 = .ok (.iload_n 1, 1) := fq_27 fk_cX7_reconcile_0 10 rfl rfl
theorem dX7_reconcile_11 : decode cX7_reconcile 11 = .ok (.ishl, 1) := fq_120 fk_cX7_reconcile_0 11 rfl rfl
theorem dX7_reconcile_12 : decode cX7_reconcile 12 = .ok (.ior, 1) := fq_128 fk_cX7_reconcile_0 12 rfl rfl
theorem dX7_reconcile_13 : decode cX7_reconcile 13 = .ok (.invokestatic 34, 3) := fq_184 fk_cX7_reconcile_0 13 rfl rfl rfl rfl rfl
theorem fk_cX7_reconcile_1 : fq_ck cX7_reconcile 16 [42, 27, 2, 182, 0, 45, 177] := fq_of fW_cX7_reconcile 1 rfl rfl
theorem dX7_reconcile_16 : decode cX7_reconcile 16 = .ok (.aload_n 0, 1) := fq_42 fk_cX7_reconcile_1 0 rfl rfl
theorem dX7_reconcile_17 : decode cX7_reconcile 17 = .ok (.iload_n 1, 1) := fq_27 fk_cX7_reconcile_1 1 rfl rfl
theorem dX7_reconcile_18 : decode cX7_reconcile 18 = .ok (.iconst (-1), 1) := fq_2 fk_cX7_reconcile_1 2 rfl rfl
theorem dX7_reconcile_19 : decode cX7_reconcile 19 = .ok (.invokevirtual 45, 3) := fq_182 fk_cX7_reconcile_1 3 rfl rfl rfl rfl rfl
theorem wd_148 : Cond.methodLink RX7 45 yX7_place ∈ BG := BG_at3 86 (by decide +kernel) rfl
theorem wd_149 : Cond.code yX7_place cX7_place 3 none ∈ BG := BG_at3 41 rfl rfl
theorem wd_150 : Cond.instanceMethod yX7_place ∈ BG := BG_at3 39 (by decide +kernel) rfl
theorem wd_151 : Cond.selects RX7 yX7_place yX7_place ∈ BG := BG_at3 40 (by decide +kernel) rfl
theorem okV_X7_place : okV yX7_place cX7_place 3 none 2 := ⟨⟨wd_149, wd_93, by decide +kernel⟩, wd_150, wd_151⟩
theorem dX7_reconcile_22 : decode cX7_reconcile 22 = .ok (.return_, 1) := fq_177 fk_cX7_reconcile_1 6 rfl rfl
def fw_cX7_embitter : List (List Nat) := [[42, 27, 16, 99, 42, 27, 182, 0, 49, 28, 96, 184, 0, 56, 182, 0, 62, 177], [62, 177]]
theorem fW_cX7_embitter : fq_wins 2 cX7_embitter.data.toList = fw_cX7_embitter := by decide +kernel
theorem fk_cX7_embitter_0 : fq_ck cX7_embitter 0 [42, 27, 16, 99, 42, 27, 182, 0, 49, 28, 96, 184, 0, 56, 182, 0, 62, 177] := fq_of fW_cX7_embitter 0 rfl rfl
theorem dX7_embitter_0 : decode cX7_embitter 0 = .ok (.aload_n 0, 1) := fq_42 fk_cX7_embitter_0 0 rfl rfl
theorem dX7_embitter_1 : decode cX7_embitter 1 = .ok (.iload_n 1, 1) := fq_27 fk_cX7_embitter_0 1 rfl rfl
theorem dX7_embitter_2 : decode cX7_embitter 2 = .ok (.bipush 99, 2) := fq_16 fk_cX7_embitter_0 2 rfl rfl rfl rfl
theorem dX7_embitter_4 : decode cX7_embitter 4 = .ok (.aload_n 0, 1) := fq_42 fk_cX7_embitter_0 4 rfl rfl
theorem dX7_embitter_5 : decode cX7_embitter 5 = .ok (.iload_n 1, 1) := fq_27 fk_cX7_embitter_0 5 rfl rfl
theorem dX7_embitter_6 : decode cX7_embitter 6 = .ok (.invokevirtual 49, 3) := fq_182 fk_cX7_embitter_0 6 rfl rfl rfl rfl rfl
theorem wd_152 : Cond.methodLink RX7 49 yX7_grievanceOf ∈ BG := BG_at2 191 (by decide +kernel) rfl
theorem wd_153 : Cond.code yX7_grievanceOf cX7_grievanceOf 2 (some .int) ∈ BG := BG_at2 194 rfl rfl
theorem wd_154 : Cond.instanceMethod yX7_grievanceOf ∈ BG := BG_at2 192 (by decide +kernel) rfl
theorem wd_155 : Cond.selects RX7 yX7_grievanceOf yX7_grievanceOf ∈ BG := BG_at2 193 (by decide +kernel) rfl
theorem okV_X7_grievanceOf : okV yX7_grievanceOf cX7_grievanceOf 2 (some .int) 1 := ⟨⟨wd_153, wd_93, by decide +kernel⟩, wd_154, wd_155⟩
theorem dX7_embitter_9 : decode cX7_embitter 9 = .ok (.iload_n 2, 1) := fq_28 fk_cX7_embitter_0 9 rfl rfl
theorem dX7_embitter_10 : decode cX7_embitter 10 = .ok (.iadd, 1) := fq_96 fk_cX7_embitter_0 10 rfl rfl
theorem dX7_embitter_11 : decode cX7_embitter 11 = .ok (.invokestatic 56, 3) := fq_184 fk_cX7_embitter_0 11 rfl rfl rfl rfl rfl
theorem wd_156 : Cond.methodLink RX7 56 Lib.Math.min.name ∈ BG := BG_in (by decide +kernel) rfl
theorem wd_157 : Cond.static Lib.Math.min.name ∈ BG := BG_in (by decide +kernel) rfl
theorem wd_158 : Cond.code Lib.Math.min.name Lib.Math.min.code 2 (some .int) ∈ BG := BG_in (by decide +kernel) rfl
theorem dX7_embitter_14 : decode cX7_embitter 14 = .ok (.invokevirtual 62, 3) := fq_182 fk_cX7_embitter_0 14 rfl rfl rfl rfl rfl
theorem wd_159 : Cond.methodLink RX7 62 yX7_leave ∈ BG := BG_at3 104 (by decide +kernel) rfl
theorem wd_160 : Cond.code yX7_leave cX7_leave 3 none ∈ BG := BG_at3 81 rfl rfl
theorem wd_161 : Cond.instanceMethod yX7_leave ∈ BG := BG_at3 79 (by decide +kernel) rfl
theorem wd_162 : Cond.selects RX7 yX7_leave yX7_leave ∈ BG := BG_at3 80 (by decide +kernel) rfl
theorem okV_X7_leave : okV yX7_leave cX7_leave 3 none 2 := ⟨⟨wd_160, wd_93, by decide +kernel⟩, wd_161, wd_162⟩
theorem fk_cX7_embitter_1 : fq_ck cX7_embitter 16 [62, 177] := fq_of fW_cX7_embitter 1 rfl rfl
theorem dX7_embitter_17 : decode cX7_embitter 17 = .ok (.return_, 1) := fq_177 fk_cX7_embitter_1 1 rfl rfl
def fw_cX7_letThrough : List (List Nat) := [[42, 180, 0, 11, 16, 20, 27, 96, 28, 184, 0, 34, 42, 180, 0, 11, 16, 34], [16, 34, 27, 96, 42, 182, 0, 38, 184, 0, 34, 177]]
theorem fW_cX7_letThrough : fq_wins 2 cX7_letThrough.data.toList = fw_cX7_letThrough := by decide +kernel
theorem fk_cX7_letThrough_0 : fq_ck cX7_letThrough 0 [42, 180, 0, 11, 16, 20, 27, 96, 28, 184, 0, 34, 42, 180, 0, 11, 16, 34] := fq_of fW_cX7_letThrough 0 rfl rfl
theorem dX7_letThrough_0 : decode cX7_letThrough 0 = .ok (.aload_n 0, 1) := fq_42 fk_cX7_letThrough_0 0 rfl rfl
theorem dX7_letThrough_1 : decode cX7_letThrough 1 = .ok (.getfield 11, 3) := fq_180 fk_cX7_letThrough_0 1 rfl rfl rfl rfl rfl
theorem dX7_letThrough_4 : decode cX7_letThrough 4 = .ok (.bipush 20, 2) := fq_16 fk_cX7_letThrough_0 4 rfl rfl rfl rfl
theorem dX7_letThrough_6 : decode cX7_letThrough 6 = .ok (.iload_n 1, 1) := fq_27 fk_cX7_letThrough_0 6 rfl rfl
theorem dX7_letThrough_7 : decode cX7_letThrough 7 = .ok (.iadd, 1) := fq_96 fk_cX7_letThrough_0 7 rfl rfl
theorem dX7_letThrough_8 : decode cX7_letThrough 8 = .ok (.iload_n 2, 1) := fq_28 fk_cX7_letThrough_0 8 rfl rfl
theorem dX7_letThrough_9 : decode cX7_letThrough 9 = .ok (.invokestatic 34, 3) := fq_184 fk_cX7_letThrough_0 9 rfl rfl rfl rfl rfl
theorem dX7_letThrough_12 : decode cX7_letThrough 12 = .ok (.aload_n 0, 1) := fq_42 fk_cX7_letThrough_0 12 rfl rfl
theorem dX7_letThrough_13 : decode cX7_letThrough 13 = .ok (.getfield 11, 3) := fq_180 fk_cX7_letThrough_0 13 rfl rfl rfl rfl rfl
theorem fk_cX7_letThrough_1 : fq_ck cX7_letThrough 16 [16, 34, 27, 96, 42, 182, 0, 38, 184, 0, 34, 177] := fq_of fW_cX7_letThrough 1 rfl rfl
theorem dX7_letThrough_16 : decode cX7_letThrough 16 = .ok (.bipush 34, 2) := fq_16 fk_cX7_letThrough_1 0 rfl rfl rfl rfl
theorem dX7_letThrough_18 : decode cX7_letThrough 18 = .ok (.iload_n 1, 1) := fq_27 fk_cX7_letThrough_1 2 rfl rfl
theorem dX7_letThrough_19 : decode cX7_letThrough 19 = .ok (.iadd, 1) := fq_96 fk_cX7_letThrough_1 3 rfl rfl
theorem dX7_letThrough_20 : decode cX7_letThrough 20 = .ok (.aload_n 0, 1) := fq_42 fk_cX7_letThrough_1 4 rfl rfl
theorem dX7_letThrough_21 : decode cX7_letThrough 21 = .ok (.invokevirtual 38, 3) := fq_182 fk_cX7_letThrough_1 5 rfl rfl rfl rfl rfl
theorem dX7_letThrough_24 : decode cX7_letThrough 24 = .ok (.invokestatic 34, 3) := fq_184 fk_cX7_letThrough_1 8 rfl rfl rfl rfl rfl
theorem dX7_letThrough_27 : decode cX7_letThrough 27 = .ok (.return_, 1) := fq_177 fk_cX7_letThrough_1 11 rfl rfl
def fw_cX7_bargesOfFate : List (List Nat) := [[3, 61, 3, 62, 29, 16, 7, 162, 0, 28, 28, 42, 29, 182, 0, 68, 27, 160], [27, 160, 0, 9, 4, 29, 120, 167, 0, 4, 3, 128, 61, 132, 3, 1, 167, 255], [167, 255, 228, 28, 172]]
theorem fW_cX7_bargesOfFate : fq_wins 3 cX7_bargesOfFate.data.toList = fw_cX7_bargesOfFate := by decide +kernel
theorem fk_cX7_bargesOfFate_0 : fq_ck cX7_bargesOfFate 0 [3, 61, 3, 62, 29, 16, 7, 162, 0, 28, 28, 42, 29, 182, 0, 68, 27, 160] := fq_of fW_cX7_bargesOfFate 0 rfl rfl
theorem dX7_bargesOfFate_0 : decode cX7_bargesOfFate 0 = .ok (.iconst 0, 1) := fq_3 fk_cX7_bargesOfFate_0 0 rfl rfl
theorem dX7_bargesOfFate_1 : decode cX7_bargesOfFate 1 = .ok (.istore_n 2, 1) := fq_61 fk_cX7_bargesOfFate_0 1 rfl rfl
theorem dX7_bargesOfFate_2 : decode cX7_bargesOfFate 2 = .ok (.iconst 0, 1) := fq_3 fk_cX7_bargesOfFate_0 2 rfl rfl
theorem dX7_bargesOfFate_3 : decode cX7_bargesOfFate 3 = .ok (.istore_n 3, 1) := fq_62 fk_cX7_bargesOfFate_0 3 rfl rfl
theorem fk_cX7_bargesOfFate_2 : fq_ck cX7_bargesOfFate 32 [167, 255, 228, 28, 172] := fq_of fW_cX7_bargesOfFate 2 rfl rfl
theorem dX7_bargesOfFate_35 : decode cX7_bargesOfFate 35 = .ok (.iload_n 2, 1) := fq_28 fk_cX7_bargesOfFate_2 3 rfl rfl
theorem dX7_bargesOfFate_36 : decode cX7_bargesOfFate 36 = .ok (.ireturn, 1) := fq_172 fk_cX7_bargesOfFate_2 4 rfl rfl
theorem dX7_bargesOfFate_4 : decode cX7_bargesOfFate 4 = .ok (.iload_n 3, 1) := fq_29 fk_cX7_bargesOfFate_0 4 rfl rfl
theorem dX7_bargesOfFate_5 : decode cX7_bargesOfFate 5 = .ok (.bipush 7, 2) := fq_16 fk_cX7_bargesOfFate_0 5 rfl rfl rfl rfl
theorem dX7_bargesOfFate_7 : decode cX7_bargesOfFate 7 = .ok (.if_icmp .ge 28, 3) := fq_162 fk_cX7_bargesOfFate_0 7 rfl rfl rfl rfl rfl
theorem dX7_bargesOfFate_10 : decode cX7_bargesOfFate 10 = .ok (.iload_n 2, 1) := fq_28 fk_cX7_bargesOfFate_0 10 rfl rfl
theorem dX7_bargesOfFate_11 : decode cX7_bargesOfFate 11 = .ok (.aload_n 0, 1) := fq_42 fk_cX7_bargesOfFate_0 11 rfl rfl
theorem dX7_bargesOfFate_12 : decode cX7_bargesOfFate 12 = .ok (.iload_n 3, 1) := fq_29 fk_cX7_bargesOfFate_0 12 rfl rfl
theorem dX7_bargesOfFate_13 : decode cX7_bargesOfFate 13 = .ok (.invokevirtual 68, 3) := fq_182 fk_cX7_bargesOfFate_0 13 rfl rfl rfl rfl rfl
theorem wd_163 : Cond.methodLink RX7 68 yX7_fateOf ∈ BG := BG_at2 179 (by decide +kernel) rfl
theorem wd_164 : Cond.code yX7_fateOf cX7_fateOf 2 (some .int) ∈ BG := BG_at2 182 rfl rfl
theorem wd_165 : Cond.instanceMethod yX7_fateOf ∈ BG := BG_at2 180 (by decide +kernel) rfl
theorem wd_166 : Cond.selects RX7 yX7_fateOf yX7_fateOf ∈ BG := BG_at2 181 (by decide +kernel) rfl
theorem okV_X7_fateOf : okV yX7_fateOf cX7_fateOf 2 (some .int) 1 := ⟨⟨wd_164, wd_93, by decide +kernel⟩, wd_165, wd_166⟩
theorem fk_cX7_bargesOfFate_1 : fq_ck cX7_bargesOfFate 16 [27, 160, 0, 9, 4, 29, 120, 167, 0, 4, 3, 128, 61, 132, 3, 1, 167, 255] := fq_of fW_cX7_bargesOfFate 1 rfl rfl
theorem dX7_bargesOfFate_16 : decode cX7_bargesOfFate 16 = .ok (.iload_n 1, 1) := fq_27 fk_cX7_bargesOfFate_1 0 rfl rfl
theorem dX7_bargesOfFate_17 : decode cX7_bargesOfFate 17 = .ok (.if_icmp .ne 9, 3) := fq_160 fk_cX7_bargesOfFate_1 1 rfl rfl rfl rfl rfl
theorem dX7_bargesOfFate_26 : decode cX7_bargesOfFate 26 = .ok (.iconst 0, 1) := fq_3 fk_cX7_bargesOfFate_1 10 rfl rfl
theorem dX7_bargesOfFate_27 : decode cX7_bargesOfFate 27 = .ok (.ior, 1) := fq_128 fk_cX7_bargesOfFate_1 11 rfl rfl
theorem dX7_bargesOfFate_28 : decode cX7_bargesOfFate 28 = .ok (.istore_n 2, 1) := fq_61 fk_cX7_bargesOfFate_1 12 rfl rfl
theorem dX7_bargesOfFate_29 : decode cX7_bargesOfFate 29 = .ok (.iinc 3 1, 3) := fq_132 fk_cX7_bargesOfFate_1 13 rfl rfl rfl rfl rfl
theorem dX7_bargesOfFate_32 : decode cX7_bargesOfFate 32 = .ok (.goto (-28), 3) := fq_167 fk_cX7_bargesOfFate_2 0 rfl rfl rfl rfl rfl
theorem dX7_bargesOfFate_20 : decode cX7_bargesOfFate 20 = .ok (.iconst 1, 1) := fq_4 fk_cX7_bargesOfFate_1 4 rfl rfl
theorem dX7_bargesOfFate_21 : decode cX7_bargesOfFate 21 = .ok (.iload_n 3, 1) := fq_29 fk_cX7_bargesOfFate_1 5 rfl rfl
theorem dX7_bargesOfFate_22 : decode cX7_bargesOfFate 22 = .ok (.ishl, 1) := fq_120 fk_cX7_bargesOfFate_1 6 rfl rfl
theorem dX7_bargesOfFate_23 : decode cX7_bargesOfFate 23 = .ok (.goto 4, 3) := fq_167 fk_cX7_bargesOfFate_1 7 rfl rfl rfl rfl rfl
def fw_cX7_grievanceOfSet : List (List Nat) := [[3, 61, 3, 62, 29, 16, 6, 162, 0, 23, 28, 27, 29, 122, 4, 126, 42, 29], [42, 29, 182, 0, 49, 104, 96, 61, 132, 3, 1, 167, 255, 233, 28, 172]]
theorem fW_cX7_grievanceOfSet : fq_wins 2 cX7_grievanceOfSet.data.toList = fw_cX7_grievanceOfSet := by decide +kernel
theorem fk_cX7_grievanceOfSet_0 : fq_ck cX7_grievanceOfSet 0 [3, 61, 3, 62, 29, 16, 6, 162, 0, 23, 28, 27, 29, 122, 4, 126, 42, 29] := fq_of fW_cX7_grievanceOfSet 0 rfl rfl
theorem dX7_grievanceOfSet_0 : decode cX7_grievanceOfSet 0 = .ok (.iconst 0, 1) := fq_3 fk_cX7_grievanceOfSet_0 0 rfl rfl
theorem dX7_grievanceOfSet_1 : decode cX7_grievanceOfSet 1 = .ok (.istore_n 2, 1) := fq_61 fk_cX7_grievanceOfSet_0 1 rfl rfl
theorem dX7_grievanceOfSet_2 : decode cX7_grievanceOfSet 2 = .ok (.iconst 0, 1) := fq_3 fk_cX7_grievanceOfSet_0 2 rfl rfl
theorem dX7_grievanceOfSet_3 : decode cX7_grievanceOfSet 3 = .ok (.istore_n 3, 1) := fq_62 fk_cX7_grievanceOfSet_0 3 rfl rfl
theorem fk_cX7_grievanceOfSet_1 : fq_ck cX7_grievanceOfSet 16 [42, 29, 182, 0, 49, 104, 96, 61, 132, 3, 1, 167, 255, 233, 28, 172] := fq_of fW_cX7_grievanceOfSet 1 rfl rfl
theorem dX7_grievanceOfSet_30 : decode cX7_grievanceOfSet 30 = .ok (.iload_n 2, 1) := fq_28 fk_cX7_grievanceOfSet_1 14 rfl rfl
theorem dX7_grievanceOfSet_31 : decode cX7_grievanceOfSet 31 = .ok (.ireturn, 1) := fq_172 fk_cX7_grievanceOfSet_1 15 rfl rfl
theorem dX7_grievanceOfSet_4 : decode cX7_grievanceOfSet 4 = .ok (.iload_n 3, 1) := fq_29 fk_cX7_grievanceOfSet_0 4 rfl rfl
theorem dX7_grievanceOfSet_5 : decode cX7_grievanceOfSet 5 = .ok (.bipush 6, 2) := fq_16 fk_cX7_grievanceOfSet_0 5 rfl rfl rfl rfl
theorem dX7_grievanceOfSet_7 : decode cX7_grievanceOfSet 7 = .ok (.if_icmp .ge 23, 3) := fq_162 fk_cX7_grievanceOfSet_0 7 rfl rfl rfl rfl rfl
theorem dX7_grievanceOfSet_10 : decode cX7_grievanceOfSet 10 = .ok (.iload_n 2, 1) := fq_28 fk_cX7_grievanceOfSet_0 10 rfl rfl
theorem dX7_grievanceOfSet_11 : decode cX7_grievanceOfSet 11 = .ok (.iload_n 1, 1) := fq_27 fk_cX7_grievanceOfSet_0 11 rfl rfl
theorem dX7_grievanceOfSet_12 : decode cX7_grievanceOfSet 12 = .ok (.iload_n 3, 1) := fq_29 fk_cX7_grievanceOfSet_0 12 rfl rfl
theorem dX7_grievanceOfSet_13 : decode cX7_grievanceOfSet 13 = .ok (.ishr, 1) := fq_122 fk_cX7_grievanceOfSet_0 13 rfl rfl
theorem dX7_grievanceOfSet_14 : decode cX7_grievanceOfSet 14 = .ok (.iconst 1, 1) := fq_4 fk_cX7_grievanceOfSet_0 14 rfl rfl
theorem dX7_grievanceOfSet_15 : decode cX7_grievanceOfSet 15 = .ok (.iand, 1) := fq_126 fk_cX7_grievanceOfSet_0 15 rfl rfl
theorem dX7_grievanceOfSet_16 : decode cX7_grievanceOfSet 16 = .ok (.aload_n 0, 1) := fq_42 fk_cX7_grievanceOfSet_1 0 rfl rfl
theorem dX7_grievanceOfSet_17 : decode cX7_grievanceOfSet 17 = .ok (.iload_n 3, 1) := fq_29 fk_cX7_grievanceOfSet_1 1 rfl rfl
theorem dX7_grievanceOfSet_18 : decode cX7_grievanceOfSet 18 = .ok (.invokevirtual 49, 3) := fq_182 fk_cX7_grievanceOfSet_1 2 rfl rfl rfl rfl rfl
theorem dX7_grievanceOfSet_21 : decode cX7_grievanceOfSet 21 = .ok (.imul, 1) := fq_104 fk_cX7_grievanceOfSet_1 5 rfl rfl
theorem dX7_grievanceOfSet_22 : decode cX7_grievanceOfSet 22 = .ok (.iadd, 1) := fq_96 fk_cX7_grievanceOfSet_1 6 rfl rfl
theorem dX7_grievanceOfSet_23 : decode cX7_grievanceOfSet 23 = .ok (.istore_n 2, 1) := fq_61 fk_cX7_grievanceOfSet_1 7 rfl rfl
theorem dX7_grievanceOfSet_24 : decode cX7_grievanceOfSet 24 = .ok (.iinc 3 1, 3) := fq_132 fk_cX7_grievanceOfSet_1 8 rfl rfl rfl rfl rfl
theorem dX7_grievanceOfSet_27 : decode cX7_grievanceOfSet 27 = .ok (.goto (-23), 3) := fq_167 fk_cX7_grievanceOfSet_1 11 rfl rfl rfl rfl rfl
def fw_cX7_grievanceOfAll : List (List Nat) := [[42, 16, 63, 182, 0, 53, 172]]
theorem fW_cX7_grievanceOfAll : fq_wins 1 cX7_grievanceOfAll.data.toList = fw_cX7_grievanceOfAll := by decide +kernel
theorem fk_cX7_grievanceOfAll_0 : fq_ck cX7_grievanceOfAll 0 [42, 16, 63, 182, 0, 53, 172] := fq_of fW_cX7_grievanceOfAll 0 rfl rfl
theorem dX7_grievanceOfAll_0 : decode cX7_grievanceOfAll 0 = .ok (.aload_n 0, 1) := fq_42 fk_cX7_grievanceOfAll_0 0 rfl rfl
theorem dX7_grievanceOfAll_1 : decode cX7_grievanceOfAll 1 = .ok (.bipush 63, 2) := fq_16 fk_cX7_grievanceOfAll_0 1 rfl rfl rfl rfl
theorem dX7_grievanceOfAll_3 : decode cX7_grievanceOfAll 3 = .ok (.invokevirtual 53, 3) := fq_182 fk_cX7_grievanceOfAll_0 3 rfl rfl rfl rfl rfl
theorem wd_167 : Cond.methodLink RX7 53 yX7_grievanceOfSet ∈ BG := BG_at2 187 (by decide +kernel) rfl
theorem wd_168 : Cond.code yX7_grievanceOfSet cX7_grievanceOfSet 4 (some .int) ∈ BG := BG_at2 190 rfl rfl
theorem wd_169 : Cond.instanceMethod yX7_grievanceOfSet ∈ BG := BG_at2 188 (by decide +kernel) rfl
theorem wd_170 : Cond.selects RX7 yX7_grievanceOfSet yX7_grievanceOfSet ∈ BG := BG_at2 189 (by decide +kernel) rfl
theorem okV_X7_grievanceOfSet : okV yX7_grievanceOfSet cX7_grievanceOfSet 4 (some .int) 1 := ⟨⟨wd_168, wd_93, by decide +kernel⟩, wd_169, wd_170⟩
theorem dX7_grievanceOfAll_6 : decode cX7_grievanceOfAll 6 = .ok (.ireturn, 1) := fq_172 fk_cX7_grievanceOfAll_0 6 rfl rfl
def fw_cX7_coupleAt : List (List Nat) := [[3, 61, 28, 16, 6, 162, 0, 20, 42, 28, 182, 0, 65, 27, 160, 0, 5, 28], [5, 28, 172, 132, 2, 1, 167, 255, 236, 2, 172]]
theorem fW_cX7_coupleAt : fq_wins 2 cX7_coupleAt.data.toList = fw_cX7_coupleAt := by decide +kernel
theorem fk_cX7_coupleAt_0 : fq_ck cX7_coupleAt 0 [3, 61, 28, 16, 6, 162, 0, 20, 42, 28, 182, 0, 65, 27, 160, 0, 5, 28] := fq_of fW_cX7_coupleAt 0 rfl rfl
theorem dX7_coupleAt_0 : decode cX7_coupleAt 0 = .ok (.iconst 0, 1) := fq_3 fk_cX7_coupleAt_0 0 rfl rfl
theorem dX7_coupleAt_1 : decode cX7_coupleAt 1 = .ok (.istore_n 2, 1) := fq_61 fk_cX7_coupleAt_0 1 rfl rfl
theorem fk_cX7_coupleAt_1 : fq_ck cX7_coupleAt 16 [5, 28, 172, 132, 2, 1, 167, 255, 236, 2, 172] := fq_of fW_cX7_coupleAt 1 rfl rfl
theorem dX7_coupleAt_25 : decode cX7_coupleAt 25 = .ok (.iconst (-1), 1) := fq_2 fk_cX7_coupleAt_1 9 rfl rfl
theorem dX7_coupleAt_26 : decode cX7_coupleAt 26 = .ok (.ireturn, 1) := fq_172 fk_cX7_coupleAt_1 10 rfl rfl
theorem dX7_coupleAt_2 : decode cX7_coupleAt 2 = .ok (.iload_n 2, 1) := fq_28 fk_cX7_coupleAt_0 2 rfl rfl
theorem dX7_coupleAt_3 : decode cX7_coupleAt 3 = .ok (.bipush 6, 2) := fq_16 fk_cX7_coupleAt_0 3 rfl rfl rfl rfl
theorem dX7_coupleAt_5 : decode cX7_coupleAt 5 = .ok (.if_icmp .ge 20, 3) := fq_162 fk_cX7_coupleAt_0 5 rfl rfl rfl rfl rfl
theorem dX7_coupleAt_8 : decode cX7_coupleAt 8 = .ok (.aload_n 0, 1) := fq_42 fk_cX7_coupleAt_0 8 rfl rfl
theorem dX7_coupleAt_9 : decode cX7_coupleAt 9 = .ok (.iload_n 2, 1) := fq_28 fk_cX7_coupleAt_0 9 rfl rfl
theorem dX7_coupleAt_10 : decode cX7_coupleAt 10 = .ok (.invokevirtual 65, 3) := fq_182 fk_cX7_coupleAt_0 10 rfl rfl rfl rfl rfl
theorem wd_171 : Cond.methodLink RX7 65 yX7_bridgeOf ∈ BG := BG_at2 209 (by decide +kernel) rfl
theorem wd_172 : Cond.code yX7_bridgeOf cX7_bridgeOf 2 (some .int) ∈ BG := BG_at2 212 rfl rfl
theorem wd_173 : Cond.instanceMethod yX7_bridgeOf ∈ BG := BG_at2 210 (by decide +kernel) rfl
theorem wd_174 : Cond.selects RX7 yX7_bridgeOf yX7_bridgeOf ∈ BG := BG_at2 211 (by decide +kernel) rfl
theorem okV_X7_bridgeOf : okV yX7_bridgeOf cX7_bridgeOf 2 (some .int) 1 := ⟨⟨wd_172, wd_93, by decide +kernel⟩, wd_173, wd_174⟩
theorem dX7_coupleAt_13 : decode cX7_coupleAt 13 = .ok (.iload_n 1, 1) := fq_27 fk_cX7_coupleAt_0 13 rfl rfl
theorem dX7_coupleAt_14 : decode cX7_coupleAt 14 = .ok (.if_icmp .ne 5, 3) := fq_160 fk_cX7_coupleAt_0 14 rfl rfl rfl rfl rfl
theorem dX7_coupleAt_19 : decode cX7_coupleAt 19 = .ok (.iinc 2 1, 3) := fq_132 fk_cX7_coupleAt_1 3 rfl rfl rfl rfl rfl
theorem dX7_coupleAt_22 : decode cX7_coupleAt 22 = .ok (.goto (-20), 3) := fq_167 fk_cX7_coupleAt_1 6 rfl rfl rfl rfl rfl
theorem dX7_coupleAt_17 : decode cX7_coupleAt 17 = .ok (.iload_n 2, 1) := fq_28 fk_cX7_coupleAt_1 1 rfl rfl
theorem dX7_coupleAt_18 : decode cX7_coupleAt 18 = .ok (.ireturn, 1) := fq_172 fk_cX7_coupleAt_1 2 rfl rfl
theorem dX7_begin_31 : decode cX7_begin 31 = .ok (.aload_n 1, 1) := fq_43 fk_cX7_begin_1 15 rfl rfl
theorem wd_175 : Cond.fieldLink RX7 27 "QuarrelBridges$Town" "grievances" "[I" ∈ BG := BG_at1 83 (by decide +kernel) rfl
theorem dX7_begin_32 : decode cX7_begin 32 = .ok (.getfield 27, 3) := fq_180 fk_cX7_begin_2 0 rfl rfl rfl rfl rfl
theorem dX7_begin_35 : decode cX7_begin 35 = .ok (.iload_n 2, 1) := fq_28 fk_cX7_begin_2 3 rfl rfl
theorem dX7_begin_36 : decode cX7_begin 36 = .ok (.invokestatic 30, 3) := fq_184 fk_cX7_begin_2 4 rfl rfl rfl rfl rfl
theorem dX7_begin_39 : decode cX7_begin 39 = .ok (.goto 4, 3) := fq_167 fk_cX7_begin_2 7 rfl rfl rfl rfl rfl
def fw_cX8_forceOf : List (List Nat) := [[42, 180, 0, 34, 27, 8, 104, 28, 96, 184, 0, 43, 172]]
theorem fW_cX8_forceOf : fq_wins 1 cX8_forceOf.data.toList = fw_cX8_forceOf := by decide +kernel
theorem fk_cX8_forceOf_0 : fq_ck cX8_forceOf 0 [42, 180, 0, 34, 27, 8, 104, 28, 96, 184, 0, 43, 172] := fq_of fW_cX8_forceOf 0 rfl rfl
theorem dX8_forceOf_0 : decode cX8_forceOf 0 = .ok (.aload_n 0, 1) := fq_42 fk_cX8_forceOf_0 0 rfl rfl
theorem dX8_forceOf_1 : decode cX8_forceOf 1 = .ok (.getfield 34, 3) := fq_180 fk_cX8_forceOf_0 1 rfl rfl rfl rfl rfl
theorem dX8_forceOf_4 : decode cX8_forceOf 4 = .ok (.iload_n 1, 1) := fq_27 fk_cX8_forceOf_0 4 rfl rfl
theorem dX8_forceOf_5 : decode cX8_forceOf 5 = .ok (.iconst 5, 1) := fq_8 fk_cX8_forceOf_0 5 rfl rfl
theorem dX8_forceOf_6 : decode cX8_forceOf 6 = .ok (.imul, 1) := fq_104 fk_cX8_forceOf_0 6 rfl rfl
theorem dX8_forceOf_7 : decode cX8_forceOf 7 = .ok (.iload_n 2, 1) := fq_28 fk_cX8_forceOf_0 7 rfl rfl
theorem dX8_forceOf_8 : decode cX8_forceOf 8 = .ok (.iadd, 1) := fq_96 fk_cX8_forceOf_0 8 rfl rfl
theorem dX8_forceOf_9 : decode cX8_forceOf 9 = .ok (.invokestatic 43, 3) := fq_184 fk_cX8_forceOf_0 9 rfl rfl rfl rfl rfl
theorem dX8_forceOf_12 : decode cX8_forceOf 12 = .ok (.ireturn, 1) := fq_172 fk_cX8_forceOf_0 12 rfl rfl
def fw_cX8_needOfAll : List (List Nat) := [[3, 60, 3, 61, 28, 42, 180, 0, 9, 162, 0, 20, 27, 42, 180, 0, 27, 28], [27, 28, 184, 0, 43, 96, 60, 132, 2, 1, 167, 255, 234, 27, 172]]
theorem fW_cX8_needOfAll : fq_wins 2 cX8_needOfAll.data.toList = fw_cX8_needOfAll := by decide +kernel
theorem fk_cX8_needOfAll_0 : fq_ck cX8_needOfAll 0 [3, 60, 3, 61, 28, 42, 180, 0, 9, 162, 0, 20, 27, 42, 180, 0, 27, 28] := fq_of fW_cX8_needOfAll 0 rfl rfl
theorem dX8_needOfAll_0 : decode cX8_needOfAll 0 = .ok (.iconst 0, 1) := fq_3 fk_cX8_needOfAll_0 0 rfl rfl
theorem dX8_needOfAll_1 : decode cX8_needOfAll 1 = .ok (.istore_n 1, 1) := fq_60 fk_cX8_needOfAll_0 1 rfl rfl
theorem dX8_needOfAll_2 : decode cX8_needOfAll 2 = .ok (.iconst 0, 1) := fq_3 fk_cX8_needOfAll_0 2 rfl rfl
theorem dX8_needOfAll_3 : decode cX8_needOfAll 3 = .ok (.istore_n 2, 1) := fq_61 fk_cX8_needOfAll_0 3 rfl rfl
theorem fk_cX8_needOfAll_1 : fq_ck cX8_needOfAll 16 [27, 28, 184, 0, 43, 96, 60, 132, 2, 1, 167, 255, 234, 27, 172] := fq_of fW_cX8_needOfAll 1 rfl rfl
theorem dX8_needOfAll_29 : decode cX8_needOfAll 29 = .ok (.iload_n 1, 1) := fq_27 fk_cX8_needOfAll_1 13 rfl rfl
theorem dX8_needOfAll_30 : decode cX8_needOfAll 30 = .ok (.ireturn, 1) := fq_172 fk_cX8_needOfAll_1 14 rfl rfl
theorem dX8_needOfAll_4 : decode cX8_needOfAll 4 = .ok (.iload_n 2, 1) := fq_28 fk_cX8_needOfAll_0 4 rfl rfl
theorem dX8_needOfAll_5 : decode cX8_needOfAll 5 = .ok (.aload_n 0, 1) := fq_42 fk_cX8_needOfAll_0 5 rfl rfl
theorem dX8_needOfAll_6 : decode cX8_needOfAll 6 = .ok (.getfield 9, 3) := fq_180 fk_cX8_needOfAll_0 6 rfl rfl rfl rfl rfl
theorem dX8_needOfAll_9 : decode cX8_needOfAll 9 = .ok (.if_icmp .ge 20, 3) := fq_162 fk_cX8_needOfAll_0 9 rfl rfl rfl rfl rfl
theorem dX8_needOfAll_12 : decode cX8_needOfAll 12 = .ok (.iload_n 1, 1) := fq_27 fk_cX8_needOfAll_0 12 rfl rfl
theorem dX8_needOfAll_13 : decode cX8_needOfAll 13 = .ok (.aload_n 0, 1) := fq_42 fk_cX8_needOfAll_0 13 rfl rfl
theorem dX8_needOfAll_14 : decode cX8_needOfAll 14 = .ok (.getfield 27, 3) := fq_180 fk_cX8_needOfAll_0 14 rfl rfl rfl rfl rfl
theorem dX8_needOfAll_17 : decode cX8_needOfAll 17 = .ok (.iload_n 2, 1) := fq_28 fk_cX8_needOfAll_1 1 rfl rfl
theorem dX8_needOfAll_18 : decode cX8_needOfAll 18 = .ok (.invokestatic 43, 3) := fq_184 fk_cX8_needOfAll_1 2 rfl rfl rfl rfl rfl
theorem dX8_needOfAll_21 : decode cX8_needOfAll 21 = .ok (.iadd, 1) := fq_96 fk_cX8_needOfAll_1 5 rfl rfl
theorem dX8_needOfAll_22 : decode cX8_needOfAll 22 = .ok (.istore_n 1, 1) := fq_60 fk_cX8_needOfAll_1 6 rfl rfl
theorem dX8_needOfAll_23 : decode cX8_needOfAll 23 = .ok (.iinc 2 1, 3) := fq_132 fk_cX8_needOfAll_1 7 rfl rfl rfl rfl rfl
theorem dX8_needOfAll_26 : decode cX8_needOfAll 26 = .ok (.goto (-22), 3) := fq_167 fk_cX8_needOfAll_1 10 rfl rfl rfl rfl rfl
def fw_cX8_clear : List (List Nat) := [[42, 3, 181, 0, 9, 42, 4, 181, 0, 15, 42, 3, 181, 0, 18, 42, 3, 181], [3, 181, 0, 21, 42, 3, 181, 0, 24, 177]]
theorem fW_cX8_clear : fq_wins 2 cX8_clear.data.toList = fw_cX8_clear := by decide +kernel
theorem fk_cX8_clear_0 : fq_ck cX8_clear 0 [42, 3, 181, 0, 9, 42, 4, 181, 0, 15, 42, 3, 181, 0, 18, 42, 3, 181] := fq_of fW_cX8_clear 0 rfl rfl
theorem dX8_clear_0 : decode cX8_clear 0 = .ok (.aload_n 0, 1) := fq_42 fk_cX8_clear_0 0 rfl rfl
theorem dX8_clear_1 : decode cX8_clear 1 = .ok (.iconst 0, 1) := fq_3 fk_cX8_clear_0 1 rfl rfl
theorem dX8_clear_2 : decode cX8_clear 2 = .ok (.putfield 9, 3) := fq_181 fk_cX8_clear_0 2 rfl rfl rfl rfl rfl
theorem dX8_clear_5 : decode cX8_clear 5 = .ok (.aload_n 0, 1) := fq_42 fk_cX8_clear_0 5 rfl rfl
theorem dX8_clear_6 : decode cX8_clear 6 = .ok (.iconst 1, 1) := fq_4 fk_cX8_clear_0 6 rfl rfl
theorem dX8_clear_7 : decode cX8_clear 7 = .ok (.putfield 15, 3) := fq_181 fk_cX8_clear_0 7 rfl rfl rfl rfl rfl
theorem dX8_clear_10 : decode cX8_clear 10 = .ok (.aload_n 0, 1) := fq_42 fk_cX8_clear_0 10 rfl rfl
theorem dX8_clear_11 : decode cX8_clear 11 = .ok (.iconst 0, 1) := fq_3 fk_cX8_clear_0 11 rfl rfl
theorem dX8_clear_12 : decode cX8_clear 12 = .ok (.putfield 18, 3) := fq_181 fk_cX8_clear_0 12 rfl rfl rfl rfl rfl
theorem dX8_clear_15 : decode cX8_clear 15 = .ok (.aload_n 0, 1) := fq_42 fk_cX8_clear_0 15 rfl rfl
theorem fk_cX8_clear_1 : fq_ck cX8_clear 16 [3, 181, 0, 21, 42, 3, 181, 0, 24, 177] := fq_of fW_cX8_clear 1 rfl rfl
theorem dX8_clear_16 : decode cX8_clear 16 = .ok (.iconst 0, 1) := fq_3 fk_cX8_clear_1 0 rfl rfl
theorem dX8_clear_17 : decode cX8_clear 17 = .ok (.putfield 21, 3) := fq_181 fk_cX8_clear_1 1 rfl rfl rfl rfl rfl
theorem dX8_clear_20 : decode cX8_clear 20 = .ok (.aload_n 0, 1) := fq_42 fk_cX8_clear_1 4 rfl rfl
theorem dX8_clear_21 : decode cX8_clear 21 = .ok (.iconst 0, 1) := fq_3 fk_cX8_clear_1 5 rfl rfl
theorem dX8_clear_22 : decode cX8_clear 22 = .ok (.putfield 24, 3) := fq_181 fk_cX8_clear_1 6 rfl rfl rfl rfl rfl
theorem dX8_clear_25 : decode cX8_clear 25 = .ok (.return_, 1) := fq_177 fk_cX8_clear_1 9 rfl rfl
def fw_cX6_store : List (List Nat) := [[27, 155, 0, 29, 27, 42, 180, 0, 13, 162, 0, 21, 44, 180, 0, 25, 3, 42], [3, 42, 180, 0, 21, 27, 16, 41, 104, 16, 41, 184, 0, 26, 177]]
theorem fW_cX6_store : fq_wins 2 cX6_store.data.toList = fw_cX6_store := by decide +kernel
theorem fk_cX6_store_0 : fq_ck cX6_store 0 [27, 155, 0, 29, 27, 42, 180, 0, 13, 162, 0, 21, 44, 180, 0, 25, 3, 42] := fq_of fW_cX6_store 0 rfl rfl
theorem dX6_store_0 : decode cX6_store 0 = .ok (.iload_n 1, 1) := fq_27 fk_cX6_store_0 0 rfl rfl
theorem dX6_store_1 : decode cX6_store 1 = .ok (.ifCond .lt 29, 3) := fq_155 fk_cX6_store_0 1 rfl rfl rfl rfl rfl
theorem fk_cX6_store_1 : fq_ck cX6_store 16 [3, 42, 180, 0, 21, 27, 16, 41, 104, 16, 41, 184, 0, 26, 177] := fq_of fW_cX6_store 1 rfl rfl
theorem dX6_store_30 : decode cX6_store 30 = .ok (.return_, 1) := fq_177 fk_cX6_store_1 14 rfl rfl
theorem dX6_store_4 : decode cX6_store 4 = .ok (.iload_n 1, 1) := fq_27 fk_cX6_store_0 4 rfl rfl
theorem dX6_store_5 : decode cX6_store 5 = .ok (.aload_n 0, 1) := fq_42 fk_cX6_store_0 5 rfl rfl
theorem dX6_store_6 : decode cX6_store 6 = .ok (.getfield 13, 3) := fq_180 fk_cX6_store_0 6 rfl rfl rfl rfl rfl
theorem dX6_store_9 : decode cX6_store 9 = .ok (.if_icmp .ge 21, 3) := fq_162 fk_cX6_store_0 9 rfl rfl rfl rfl rfl
theorem dX6_store_12 : decode cX6_store 12 = .ok (.aload_n 2, 1) := fq_44 fk_cX6_store_0 12 rfl rfl
theorem wd_176 : Cond.fieldLink RX6 25 "QuarrelBridges$State" "cells" "[I" ∈ BG := BG_at1 124 (by decide +kernel) rfl
theorem dX6_store_13 : decode cX6_store 13 = .ok (.getfield 25, 3) := fq_180 fk_cX6_store_0 13 rfl rfl rfl rfl rfl
theorem dX6_store_16 : decode cX6_store 16 = .ok (.iconst 0, 1) := fq_3 fk_cX6_store_1 0 rfl rfl
theorem dX6_store_17 : decode cX6_store 17 = .ok (.aload_n 0, 1) := fq_42 fk_cX6_store_1 1 rfl rfl
theorem dX6_store_18 : decode cX6_store 18 = .ok (.getfield 21, 3) := fq_180 fk_cX6_store_1 2 rfl rfl rfl rfl rfl
theorem dX6_store_21 : decode cX6_store 21 = .ok (.iload_n 1, 1) := fq_27 fk_cX6_store_1 5 rfl rfl
theorem dX6_store_22 : decode cX6_store 22 = .ok (.bipush 41, 2) := fq_16 fk_cX6_store_1 6 rfl rfl rfl rfl
theorem dX6_store_24 : decode cX6_store 24 = .ok (.imul, 1) := fq_104 fk_cX6_store_1 8 rfl rfl
theorem dX6_store_25 : decode cX6_store 25 = .ok (.bipush 41, 2) := fq_16 fk_cX6_store_1 9 rfl rfl rfl rfl
theorem dX6_store_27 : decode cX6_store 27 = .ok (.invokestatic 26, 3) := fq_184 fk_cX6_store_1 11 rfl rfl rfl rfl rfl
theorem wd_177 : Cond.methodLink RX6 26 arraycopyName ∈ BG := BG_in (by decide +kernel) rfl
theorem wd_178 : Cond.native arraycopyName ∈ BG := BG_in (by decide +kernel) rfl
theorem wd_179 : Cond.static arraycopyName ∈ BG := BG_in (by decide +kernel) rfl
theorem wd_180 : Cond.initialized "java/lang/System" ∈ BG := BG_at1 14 (by decide +kernel) rfl
def fw_cX6_fetch : List (List Nat) := [[27, 155, 0, 29, 27, 42, 180, 0, 13, 162, 0, 21, 42, 180, 0, 21, 27, 16], [27, 16, 41, 104, 44, 180, 0, 25, 3, 16, 41, 184, 0, 26, 177]]
theorem fW_cX6_fetch : fq_wins 2 cX6_fetch.data.toList = fw_cX6_fetch := by decide +kernel
theorem fk_cX6_fetch_0 : fq_ck cX6_fetch 0 [27, 155, 0, 29, 27, 42, 180, 0, 13, 162, 0, 21, 42, 180, 0, 21, 27, 16] := fq_of fW_cX6_fetch 0 rfl rfl
theorem dX6_fetch_0 : decode cX6_fetch 0 = .ok (.iload_n 1, 1) := fq_27 fk_cX6_fetch_0 0 rfl rfl
theorem dX6_fetch_1 : decode cX6_fetch 1 = .ok (.ifCond .lt 29, 3) := fq_155 fk_cX6_fetch_0 1 rfl rfl rfl rfl rfl
theorem fk_cX6_fetch_1 : fq_ck cX6_fetch 16 [27, 16, 41, 104, 44, 180, 0, 25, 3, 16, 41, 184, 0, 26, 177] := fq_of fW_cX6_fetch 1 rfl rfl
theorem dX6_fetch_30 : decode cX6_fetch 30 = .ok (.return_, 1) := fq_177 fk_cX6_fetch_1 14 rfl rfl
theorem dX6_fetch_4 : decode cX6_fetch 4 = .ok (.iload_n 1, 1) := fq_27 fk_cX6_fetch_0 4 rfl rfl
theorem dX6_fetch_5 : decode cX6_fetch 5 = .ok (.aload_n 0, 1) := fq_42 fk_cX6_fetch_0 5 rfl rfl
theorem dX6_fetch_6 : decode cX6_fetch 6 = .ok (.getfield 13, 3) := fq_180 fk_cX6_fetch_0 6 rfl rfl rfl rfl rfl
theorem dX6_fetch_9 : decode cX6_fetch 9 = .ok (.if_icmp .ge 21, 3) := fq_162 fk_cX6_fetch_0 9 rfl rfl rfl rfl rfl
theorem dX6_fetch_12 : decode cX6_fetch 12 = .ok (.aload_n 0, 1) := fq_42 fk_cX6_fetch_0 12 rfl rfl
theorem dX6_fetch_13 : decode cX6_fetch 13 = .ok (.getfield 21, 3) := fq_180 fk_cX6_fetch_0 13 rfl rfl rfl rfl rfl
theorem dX6_fetch_16 : decode cX6_fetch 16 = .ok (.iload_n 1, 1) := fq_27 fk_cX6_fetch_1 0 rfl rfl
theorem dX6_fetch_17 : decode cX6_fetch 17 = .ok (.bipush 41, 2) := fq_16 fk_cX6_fetch_1 1 rfl rfl rfl rfl
theorem dX6_fetch_19 : decode cX6_fetch 19 = .ok (.imul, 1) := fq_104 fk_cX6_fetch_1 3 rfl rfl
theorem dX6_fetch_20 : decode cX6_fetch 20 = .ok (.aload_n 2, 1) := fq_44 fk_cX6_fetch_1 4 rfl rfl
theorem dX6_fetch_21 : decode cX6_fetch 21 = .ok (.getfield 25, 3) := fq_180 fk_cX6_fetch_1 5 rfl rfl rfl rfl rfl
theorem dX6_fetch_24 : decode cX6_fetch 24 = .ok (.iconst 0, 1) := fq_3 fk_cX6_fetch_1 8 rfl rfl
theorem dX6_fetch_25 : decode cX6_fetch 25 = .ok (.bipush 41, 2) := fq_16 fk_cX6_fetch_1 9 rfl rfl rfl rfl
theorem dX6_fetch_27 : decode cX6_fetch 27 = .ok (.invokestatic 26, 3) := fq_184 fk_cX6_fetch_1 11 rfl rfl rfl rfl rfl
def fw_cX2_remember : List (List Nat) := [[42, 180, 0, 24, 16, 20, 160, 0, 26, 42, 42, 180, 0, 20, 4, 96, 16, 20], [16, 20, 112, 181, 0, 20, 42, 89, 180, 0, 24, 4, 100, 181, 0, 24, 42, 180], [42, 180, 0, 14, 42, 180, 0, 20, 42, 180, 0, 24, 96, 16, 20, 112, 43, 182], [43, 182, 0, 27, 42, 89, 180, 0, 24, 4, 96, 181, 0, 24, 177]]
theorem fW_cX2_remember : fq_wins 4 cX2_remember.data.toList = fw_cX2_remember := by decide +kernel
theorem fk_cX2_remember_0 : fq_ck cX2_remember 0 [42, 180, 0, 24, 16, 20, 160, 0, 26, 42, 42, 180, 0, 20, 4, 96, 16, 20] := fq_of fW_cX2_remember 0 rfl rfl
theorem dX2_remember_0 : decode cX2_remember 0 = .ok (.aload_n 0, 1) := fq_42 fk_cX2_remember_0 0 rfl rfl
theorem dX2_remember_1 : decode cX2_remember 1 = .ok (.getfield 24, 3) := fq_180 fk_cX2_remember_0 1 rfl rfl rfl rfl rfl
theorem dX2_remember_4 : decode cX2_remember 4 = .ok (.bipush 20, 2) := fq_16 fk_cX2_remember_0 4 rfl rfl rfl rfl
theorem dX2_remember_6 : decode cX2_remember 6 = .ok (.if_icmp .ne 26, 3) := fq_160 fk_cX2_remember_0 6 rfl rfl rfl rfl rfl
theorem fk_cX2_remember_2 : fq_ck cX2_remember 32 [42, 180, 0, 14, 42, 180, 0, 20, 42, 180, 0, 24, 96, 16, 20, 112, 43, 182] := fq_of fW_cX2_remember 2 rfl rfl
theorem dX2_remember_32 : decode cX2_remember 32 = .ok (.aload_n 0, 1) := fq_42 fk_cX2_remember_2 0 rfl rfl
theorem dX2_remember_33 : decode cX2_remember 33 = .ok (.getfield 14, 3) := fq_180 fk_cX2_remember_2 1 rfl rfl rfl rfl rfl
theorem dX2_remember_36 : decode cX2_remember 36 = .ok (.aload_n 0, 1) := fq_42 fk_cX2_remember_2 4 rfl rfl
theorem dX2_remember_37 : decode cX2_remember 37 = .ok (.getfield 20, 3) := fq_180 fk_cX2_remember_2 5 rfl rfl rfl rfl rfl
theorem dX2_remember_40 : decode cX2_remember 40 = .ok (.aload_n 0, 1) := fq_42 fk_cX2_remember_2 8 rfl rfl
theorem dX2_remember_41 : decode cX2_remember 41 = .ok (.getfield 24, 3) := fq_180 fk_cX2_remember_2 9 rfl rfl rfl rfl rfl
theorem dX2_remember_44 : decode cX2_remember 44 = .ok (.iadd, 1) := fq_96 fk_cX2_remember_2 12 rfl rfl
theorem dX2_remember_45 : decode cX2_remember 45 = .ok (.bipush 20, 2) := fq_16 fk_cX2_remember_2 13 rfl rfl rfl rfl
theorem dX2_remember_47 : decode cX2_remember 47 = .ok (.irem, 1) := fq_112 fk_cX2_remember_2 15 rfl rfl
theorem fk_cX2_remember_3 : fq_ck cX2_remember 48 [43, 182, 0, 27, 42, 89, 180, 0, 24, 4, 96, 181, 0, 24, 177] := fq_of fW_cX2_remember 3 rfl rfl
theorem dX2_remember_48 : decode cX2_remember 48 = .ok (.aload_n 1, 1) := fq_43 fk_cX2_remember_3 0 rfl rfl
theorem dX2_remember_49 : decode cX2_remember 49 = .ok (.invokevirtual 27, 3) := fq_182 fk_cX2_remember_3 1 rfl rfl rfl rfl rfl
theorem wd_181 : Cond.methodLink RX2 27 yX6_store ∈ BG := BG_at3 31 (by decide +kernel) rfl
theorem wd_182 : Cond.code yX6_store cX6_store 3 none ∈ BG := BG_at3 34 rfl rfl
theorem wd_183 : Cond.instanceMethod yX6_store ∈ BG := BG_at3 32 (by decide +kernel) rfl
theorem wd_184 : Cond.selects RX6 yX6_store yX6_store ∈ BG := BG_at3 33 (by decide +kernel) rfl
theorem okV_X6_store : okV yX6_store cX6_store 3 none 2 := ⟨⟨wd_182, wd_59, by decide +kernel⟩, wd_183, wd_184⟩
theorem dX2_remember_52 : decode cX2_remember 52 = .ok (.aload_n 0, 1) := fq_42 fk_cX2_remember_3 4 rfl rfl
theorem dX2_remember_53 : decode cX2_remember 53 = .ok (.dup, 1) := fq_89 fk_cX2_remember_3 5 rfl rfl
theorem dX2_remember_54 : decode cX2_remember 54 = .ok (.getfield 24, 3) := fq_180 fk_cX2_remember_3 6 rfl rfl rfl rfl rfl
theorem dX2_remember_57 : decode cX2_remember 57 = .ok (.iconst 1, 1) := fq_4 fk_cX2_remember_3 9 rfl rfl
theorem dX2_remember_58 : decode cX2_remember 58 = .ok (.iadd, 1) := fq_96 fk_cX2_remember_3 10 rfl rfl
theorem dX2_remember_59 : decode cX2_remember 59 = .ok (.putfield 24, 3) := fq_181 fk_cX2_remember_3 11 rfl rfl rfl rfl rfl
theorem dX2_remember_62 : decode cX2_remember 62 = .ok (.return_, 1) := fq_177 fk_cX2_remember_3 14 rfl rfl
theorem dX2_remember_9 : decode cX2_remember 9 = .ok (.aload_n 0, 1) := fq_42 fk_cX2_remember_0 9 rfl rfl
theorem dX2_remember_10 : decode cX2_remember 10 = .ok (.aload_n 0, 1) := fq_42 fk_cX2_remember_0 10 rfl rfl
theorem dX2_remember_11 : decode cX2_remember 11 = .ok (.getfield 20, 3) := fq_180 fk_cX2_remember_0 11 rfl rfl rfl rfl rfl
theorem dX2_remember_14 : decode cX2_remember 14 = .ok (.iconst 1, 1) := fq_4 fk_cX2_remember_0 14 rfl rfl
theorem dX2_remember_15 : decode cX2_remember 15 = .ok (.iadd, 1) := fq_96 fk_cX2_remember_0 15 rfl rfl
theorem fk_cX2_remember_1 : fq_ck cX2_remember 16 [16, 20, 112, 181, 0, 20, 42, 89, 180, 0, 24, 4, 100, 181, 0, 24, 42, 180] := fq_of fW_cX2_remember 1 rfl rfl
theorem dX2_remember_16 : decode cX2_remember 16 = .ok (.bipush 20, 2) := fq_16 fk_cX2_remember_1 0 rfl rfl rfl rfl
theorem dX2_remember_18 : decode cX2_remember 18 = .ok (.irem, 1) := fq_112 fk_cX2_remember_1 2 rfl rfl
theorem dX2_remember_19 : decode cX2_remember 19 = .ok (.putfield 20, 3) := fq_181 fk_cX2_remember_1 3 rfl rfl rfl rfl rfl
theorem dX2_remember_22 : decode cX2_remember 22 = .ok (.aload_n 0, 1) := fq_42 fk_cX2_remember_1 6 rfl rfl
theorem dX2_remember_23 : decode cX2_remember 23 = .ok (.dup, 1) := fq_89 fk_cX2_remember_1 7 rfl rfl
theorem dX2_remember_24 : decode cX2_remember 24 = .ok (.getfield 24, 3) := fq_180 fk_cX2_remember_1 8 rfl rfl rfl rfl rfl
theorem dX2_remember_27 : decode cX2_remember 27 = .ok (.iconst 1, 1) := fq_4 fk_cX2_remember_1 11 rfl rfl
theorem dX2_remember_28 : decode cX2_remember 28 = .ok (.isub, 1) := fq_100 fk_cX2_remember_1 12 rfl rfl
theorem dX2_remember_29 : decode cX2_remember 29 = .ok (.putfield 24, 3) := fq_181 fk_cX2_remember_1 13 rfl rfl rfl rfl rfl
def fw_cX2_takeBack : List (List Nat) := [[42, 180, 0, 24, 158, 0, 33, 42, 89, 180, 0, 24, 4, 100, 181, 0, 24, 42], [24, 42, 180, 0, 14, 42, 180, 0, 20, 42, 180, 0, 24, 96, 16, 20, 112, 43], [112, 43, 182, 0, 31, 177]]
theorem fW_cX2_takeBack : fq_wins 3 cX2_takeBack.data.toList = fw_cX2_takeBack := by decide +kernel
theorem fk_cX2_takeBack_0 : fq_ck cX2_takeBack 0 [42, 180, 0, 24, 158, 0, 33, 42, 89, 180, 0, 24, 4, 100, 181, 0, 24, 42] := fq_of fW_cX2_takeBack 0 rfl rfl
theorem dX2_takeBack_0 : decode cX2_takeBack 0 = .ok (.aload_n 0, 1) := fq_42 fk_cX2_takeBack_0 0 rfl rfl
theorem dX2_takeBack_1 : decode cX2_takeBack 1 = .ok (.getfield 24, 3) := fq_180 fk_cX2_takeBack_0 1 rfl rfl rfl rfl rfl
theorem dX2_takeBack_4 : decode cX2_takeBack 4 = .ok (.ifCond .le 33, 3) := fq_158 fk_cX2_takeBack_0 4 rfl rfl rfl rfl rfl
theorem fk_cX2_takeBack_2 : fq_ck cX2_takeBack 32 [112, 43, 182, 0, 31, 177] := fq_of fW_cX2_takeBack 2 rfl rfl
theorem dX2_takeBack_37 : decode cX2_takeBack 37 = .ok (.return_, 1) := fq_177 fk_cX2_takeBack_2 5 rfl rfl
theorem dX2_takeBack_7 : decode cX2_takeBack 7 = .ok (.aload_n 0, 1) := fq_42 fk_cX2_takeBack_0 7 rfl rfl
theorem dX2_takeBack_8 : decode cX2_takeBack 8 = .ok (.dup, 1) := fq_89 fk_cX2_takeBack_0 8 rfl rfl
theorem dX2_takeBack_9 : decode cX2_takeBack 9 = .ok (.getfield 24, 3) := fq_180 fk_cX2_takeBack_0 9 rfl rfl rfl rfl rfl
theorem dX2_takeBack_12 : decode cX2_takeBack 12 = .ok (.iconst 1, 1) := fq_4 fk_cX2_takeBack_0 12 rfl rfl
theorem dX2_takeBack_13 : decode cX2_takeBack 13 = .ok (.isub, 1) := fq_100 fk_cX2_takeBack_0 13 rfl rfl
theorem dX2_takeBack_14 : decode cX2_takeBack 14 = .ok (.putfield 24, 3) := fq_181 fk_cX2_takeBack_0 14 rfl rfl rfl rfl rfl
theorem fk_cX2_takeBack_1 : fq_ck cX2_takeBack 16 [24, 42, 180, 0, 14, 42, 180, 0, 20, 42, 180, 0, 24, 96, 16, 20, 112, 43] := fq_of fW_cX2_takeBack 1 rfl rfl
theorem dX2_takeBack_17 : decode cX2_takeBack 17 = .ok (.aload_n 0, 1) := fq_42 fk_cX2_takeBack_1 1 rfl rfl
theorem dX2_takeBack_18 : decode cX2_takeBack 18 = .ok (.getfield 14, 3) := fq_180 fk_cX2_takeBack_1 2 rfl rfl rfl rfl rfl
theorem dX2_takeBack_21 : decode cX2_takeBack 21 = .ok (.aload_n 0, 1) := fq_42 fk_cX2_takeBack_1 5 rfl rfl
theorem dX2_takeBack_22 : decode cX2_takeBack 22 = .ok (.getfield 20, 3) := fq_180 fk_cX2_takeBack_1 6 rfl rfl rfl rfl rfl
theorem dX2_takeBack_25 : decode cX2_takeBack 25 = .ok (.aload_n 0, 1) := fq_42 fk_cX2_takeBack_1 9 rfl rfl
theorem dX2_takeBack_26 : decode cX2_takeBack 26 = .ok (.getfield 24, 3) := fq_180 fk_cX2_takeBack_1 10 rfl rfl rfl rfl rfl
theorem dX2_takeBack_29 : decode cX2_takeBack 29 = .ok (.iadd, 1) := fq_96 fk_cX2_takeBack_1 13 rfl rfl
theorem dX2_takeBack_30 : decode cX2_takeBack 30 = .ok (.bipush 20, 2) := fq_16 fk_cX2_takeBack_1 14 rfl rfl rfl rfl
theorem dX2_takeBack_32 : decode cX2_takeBack 32 = .ok (.irem, 1) := fq_112 fk_cX2_takeBack_2 0 rfl rfl
theorem dX2_takeBack_33 : decode cX2_takeBack 33 = .ok (.aload_n 1, 1) := fq_43 fk_cX2_takeBack_2 1 rfl rfl
theorem dX2_takeBack_34 : decode cX2_takeBack 34 = .ok (.invokevirtual 31, 3) := fq_182 fk_cX2_takeBack_2 2 rfl rfl rfl rfl rfl
theorem wd_185 : Cond.methodLink RX2 31 yX6_fetch ∈ BG := BG_at3 125 (by decide +kernel) rfl
theorem wd_186 : Cond.code yX6_fetch cX6_fetch 3 none ∈ BG := BG_at3 128 rfl rfl
theorem wd_187 : Cond.instanceMethod yX6_fetch ∈ BG := BG_at3 126 (by decide +kernel) rfl
theorem wd_188 : Cond.selects RX6 yX6_fetch yX6_fetch ∈ BG := BG_at3 127 (by decide +kernel) rfl
theorem okV_X6_fetch : okV yX6_fetch cX6_fetch 3 none 2 := ⟨⟨wd_186, wd_59, by decide +kernel⟩, wd_187, wd_188⟩
def fw_cX2_forget : List (List Nat) := [[42, 3, 181, 0, 24, 177]]
theorem fW_cX2_forget : fq_wins 1 cX2_forget.data.toList = fw_cX2_forget := by decide +kernel
theorem fk_cX2_forget_0 : fq_ck cX2_forget 0 [42, 3, 181, 0, 24, 177] := fq_of fW_cX2_forget 0 rfl rfl
theorem dX2_forget_0 : decode cX2_forget 0 = .ok (.aload_n 0, 1) := fq_42 fk_cX2_forget_0 0 rfl rfl
theorem dX2_forget_1 : decode cX2_forget 1 = .ok (.iconst 0, 1) := fq_3 fk_cX2_forget_0 1 rfl rfl
theorem dX2_forget_2 : decode cX2_forget 2 = .ok (.putfield 24, 3) := fq_181 fk_cX2_forget_0 2 rfl rfl rfl rfl rfl
theorem dX2_forget_5 : decode cX2_forget 5 = .ok (.return_, 1) := fq_177 fk_cX2_forget_0 5 rfl rfl
def fw_cX0_enter : List (List Nat) := [[42, 180, 0, 15, 42, 180, 0, 9, 27, 184, 0, 22, 42, 180, 0, 19, 42, 180], [42, 180, 0, 9, 28, 184, 0, 22, 42, 89, 180, 0, 9, 4, 96, 181, 0, 9], [0, 9, 177]]
theorem fW_cX0_enter : fq_wins 3 cX0_enter.data.toList = fw_cX0_enter := by decide +kernel
theorem fk_cX0_enter_0 : fq_ck cX0_enter 0 [42, 180, 0, 15, 42, 180, 0, 9, 27, 184, 0, 22, 42, 180, 0, 19, 42, 180] := fq_of fW_cX0_enter 0 rfl rfl
theorem dX0_enter_0 : decode cX0_enter 0 = .ok (.aload_n 0, 1) := fq_42 fk_cX0_enter_0 0 rfl rfl
theorem dX0_enter_1 : decode cX0_enter 1 = .ok (.getfield 15, 3) := fq_180 fk_cX0_enter_0 1 rfl rfl rfl rfl rfl
theorem dX0_enter_4 : decode cX0_enter 4 = .ok (.aload_n 0, 1) := fq_42 fk_cX0_enter_0 4 rfl rfl
theorem dX0_enter_5 : decode cX0_enter 5 = .ok (.getfield 9, 3) := fq_180 fk_cX0_enter_0 5 rfl rfl rfl rfl rfl
theorem dX0_enter_8 : decode cX0_enter 8 = .ok (.iload_n 1, 1) := fq_27 fk_cX0_enter_0 8 rfl rfl
theorem dX0_enter_9 : decode cX0_enter 9 = .ok (.invokestatic 22, 3) := fq_184 fk_cX0_enter_0 9 rfl rfl rfl rfl rfl
theorem dX0_enter_12 : decode cX0_enter 12 = .ok (.aload_n 0, 1) := fq_42 fk_cX0_enter_0 12 rfl rfl
theorem dX0_enter_13 : decode cX0_enter 13 = .ok (.getfield 19, 3) := fq_180 fk_cX0_enter_0 13 rfl rfl rfl rfl rfl
theorem fk_cX0_enter_1 : fq_ck cX0_enter 16 [42, 180, 0, 9, 28, 184, 0, 22, 42, 89, 180, 0, 9, 4, 96, 181, 0, 9] := fq_of fW_cX0_enter 1 rfl rfl
theorem dX0_enter_16 : decode cX0_enter 16 = .ok (.aload_n 0, 1) := fq_42 fk_cX0_enter_1 0 rfl rfl
theorem dX0_enter_17 : decode cX0_enter 17 = .ok (.getfield 9, 3) := fq_180 fk_cX0_enter_1 1 rfl rfl rfl rfl rfl
theorem dX0_enter_20 : decode cX0_enter 20 = .ok (.iload_n 2, 1) := fq_28 fk_cX0_enter_1 4 rfl rfl
theorem dX0_enter_21 : decode cX0_enter 21 = .ok (.invokestatic 22, 3) := fq_184 fk_cX0_enter_1 5 rfl rfl rfl rfl rfl
theorem dX0_enter_24 : decode cX0_enter 24 = .ok (.aload_n 0, 1) := fq_42 fk_cX0_enter_1 8 rfl rfl
theorem dX0_enter_25 : decode cX0_enter 25 = .ok (.dup, 1) := fq_89 fk_cX0_enter_1 9 rfl rfl
theorem dX0_enter_26 : decode cX0_enter 26 = .ok (.getfield 9, 3) := fq_180 fk_cX0_enter_1 10 rfl rfl rfl rfl rfl
theorem dX0_enter_29 : decode cX0_enter 29 = .ok (.iconst 1, 1) := fq_4 fk_cX0_enter_1 13 rfl rfl
theorem dX0_enter_30 : decode cX0_enter 30 = .ok (.iadd, 1) := fq_96 fk_cX0_enter_1 14 rfl rfl
theorem dX0_enter_31 : decode cX0_enter 31 = .ok (.putfield 9, 3) := fq_181 fk_cX0_enter_1 15 rfl rfl rfl rfl rfl
theorem fk_cX0_enter_2 : fq_ck cX0_enter 32 [0, 9, 177] := fq_of fW_cX0_enter 2 rfl rfl
theorem dX0_enter_34 : decode cX0_enter 34 = .ok (.return_, 1) := fq_177 fk_cX0_enter_2 2 rfl rfl
def fw_cX0_clear : List (List Nat) := [[42, 3, 181, 0, 9, 177]]
theorem fW_cX0_clear : fq_wins 1 cX0_clear.data.toList = fw_cX0_clear := by decide +kernel
theorem fk_cX0_clear_0 : fq_ck cX0_clear 0 [42, 3, 181, 0, 9, 177] := fq_of fW_cX0_clear 0 rfl rfl
theorem dX0_clear_0 : decode cX0_clear 0 = .ok (.aload_n 0, 1) := fq_42 fk_cX0_clear_0 0 rfl rfl
theorem dX0_clear_1 : decode cX0_clear 1 = .ok (.iconst 0, 1) := fq_3 fk_cX0_clear_0 1 rfl rfl
theorem dX0_clear_2 : decode cX0_clear 2 = .ok (.putfield 9, 3) := fq_181 fk_cX0_clear_0 2 rfl rfl rfl rfl rfl
theorem dX0_clear_5 : decode cX0_clear 5 = .ok (.return_, 1) := fq_177 fk_cX0_clear_0 5 rfl rfl
def fw_cX0_firstWrong : List (List Nat) := [[3, 61, 28, 42, 180, 0, 9, 162, 0, 34, 43, 42, 180, 0, 15, 28, 184, 0], [184, 0, 26, 182, 0, 30, 42, 180, 0, 19, 28, 184, 0, 26, 159, 0, 5, 28], [5, 28, 172, 132, 2, 1, 167, 255, 220, 2, 172]]
theorem fW_cX0_firstWrong : fq_wins 3 cX0_firstWrong.data.toList = fw_cX0_firstWrong := by decide +kernel
theorem fk_cX0_firstWrong_0 : fq_ck cX0_firstWrong 0 [3, 61, 28, 42, 180, 0, 9, 162, 0, 34, 43, 42, 180, 0, 15, 28, 184, 0] := fq_of fW_cX0_firstWrong 0 rfl rfl
theorem dX0_firstWrong_0 : decode cX0_firstWrong 0 = .ok (.iconst 0, 1) := fq_3 fk_cX0_firstWrong_0 0 rfl rfl
theorem dX0_firstWrong_1 : decode cX0_firstWrong 1 = .ok (.istore_n 2, 1) := fq_61 fk_cX0_firstWrong_0 1 rfl rfl
theorem fk_cX0_firstWrong_2 : fq_ck cX0_firstWrong 32 [5, 28, 172, 132, 2, 1, 167, 255, 220, 2, 172] := fq_of fW_cX0_firstWrong 2 rfl rfl
theorem dX0_firstWrong_41 : decode cX0_firstWrong 41 = .ok (.iconst (-1), 1) := fq_2 fk_cX0_firstWrong_2 9 rfl rfl
theorem dX0_firstWrong_42 : decode cX0_firstWrong 42 = .ok (.ireturn, 1) := fq_172 fk_cX0_firstWrong_2 10 rfl rfl
theorem dX0_firstWrong_2 : decode cX0_firstWrong 2 = .ok (.iload_n 2, 1) := fq_28 fk_cX0_firstWrong_0 2 rfl rfl
theorem dX0_firstWrong_3 : decode cX0_firstWrong 3 = .ok (.aload_n 0, 1) := fq_42 fk_cX0_firstWrong_0 3 rfl rfl
theorem dX0_firstWrong_4 : decode cX0_firstWrong 4 = .ok (.getfield 9, 3) := fq_180 fk_cX0_firstWrong_0 4 rfl rfl rfl rfl rfl
theorem dX0_firstWrong_7 : decode cX0_firstWrong 7 = .ok (.if_icmp .ge 34, 3) := fq_162 fk_cX0_firstWrong_0 7 rfl rfl rfl rfl rfl
theorem dX0_firstWrong_10 : decode cX0_firstWrong 10 = .ok (.aload_n 1, 1) := fq_43 fk_cX0_firstWrong_0 10 rfl rfl
theorem dX0_firstWrong_11 : decode cX0_firstWrong 11 = .ok (.aload_n 0, 1) := fq_42 fk_cX0_firstWrong_0 11 rfl rfl
theorem dX0_firstWrong_12 : decode cX0_firstWrong 12 = .ok (.getfield 15, 3) := fq_180 fk_cX0_firstWrong_0 12 rfl rfl rfl rfl rfl
theorem dX0_firstWrong_15 : decode cX0_firstWrong 15 = .ok (.iload_n 2, 1) := fq_28 fk_cX0_firstWrong_0 15 rfl rfl
theorem fk_cX0_firstWrong_1 : fq_ck cX0_firstWrong 16 [184, 0, 26, 182, 0, 30, 42, 180, 0, 19, 28, 184, 0, 26, 159, 0, 5, 28] := fq_of fW_cX0_firstWrong 1 rfl rfl
theorem dX0_firstWrong_16 : decode cX0_firstWrong 16 = .ok (.invokestatic 26, 3) := fq_184 fk_cX0_firstWrong_1 0 rfl rfl rfl rfl rfl
theorem dX0_firstWrong_19 : decode cX0_firstWrong 19 = .ok (.invokevirtual 30, 3) := fq_182 fk_cX0_firstWrong_1 3 rfl rfl rfl rfl rfl
theorem wd_189 : Cond.methodLink RX0 30 yX7_grievanceOf ∈ BG := BG_at4 38 (by decide +kernel) rfl
theorem dX0_firstWrong_22 : decode cX0_firstWrong 22 = .ok (.aload_n 0, 1) := fq_42 fk_cX0_firstWrong_1 6 rfl rfl
theorem dX0_firstWrong_23 : decode cX0_firstWrong 23 = .ok (.getfield 19, 3) := fq_180 fk_cX0_firstWrong_1 7 rfl rfl rfl rfl rfl
theorem dX0_firstWrong_26 : decode cX0_firstWrong 26 = .ok (.iload_n 2, 1) := fq_28 fk_cX0_firstWrong_1 10 rfl rfl
theorem dX0_firstWrong_27 : decode cX0_firstWrong 27 = .ok (.invokestatic 26, 3) := fq_184 fk_cX0_firstWrong_1 11 rfl rfl rfl rfl rfl
theorem dX0_firstWrong_30 : decode cX0_firstWrong 30 = .ok (.if_icmp .eq 5, 3) := fq_159 fk_cX0_firstWrong_1 14 rfl rfl rfl rfl rfl
theorem dX0_firstWrong_35 : decode cX0_firstWrong 35 = .ok (.iinc 2 1, 3) := fq_132 fk_cX0_firstWrong_2 3 rfl rfl rfl rfl rfl
theorem dX0_firstWrong_38 : decode cX0_firstWrong 38 = .ok (.goto (-36), 3) := fq_167 fk_cX0_firstWrong_2 6 rfl rfl rfl rfl rfl
theorem dX0_firstWrong_33 : decode cX0_firstWrong 33 = .ok (.iload_n 2, 1) := fq_28 fk_cX0_firstWrong_2 1 rfl rfl
theorem dX0_firstWrong_34 : decode cX0_firstWrong 34 = .ok (.ireturn, 1) := fq_172 fk_cX0_firstWrong_2 2 rfl rfl
def fw_cX9_stampOf : List (List Nat) := [[27, 26, 16, 10, 108, 96, 62, 26, 28, 154, 0, 7, 29, 167, 0, 6, 29, 5], [29, 5, 108, 184, 0, 230, 172]]
theorem fW_cX9_stampOf : fq_wins 2 cX9_stampOf.data.toList = fw_cX9_stampOf := by decide +kernel
theorem fk_cX9_stampOf_0 : fq_ck cX9_stampOf 0 [27, 26, 16, 10, 108, 96, 62, 26, 28, 154, 0, 7, 29, 167, 0, 6, 29, 5] := fq_of fW_cX9_stampOf 0 rfl rfl
theorem dX9_stampOf_0 : decode cX9_stampOf 0 = .ok (.iload_n 1, 1) := fq_27 fk_cX9_stampOf_0 0 rfl rfl
theorem dX9_stampOf_1 : decode cX9_stampOf 1 = .ok (.iload_n 0, 1) := fq_26 fk_cX9_stampOf_0 1 rfl rfl
theorem dX9_stampOf_2 : decode cX9_stampOf 2 = .ok (.bipush 10, 2) := fq_16 fk_cX9_stampOf_0 2 rfl rfl rfl rfl
theorem dX9_stampOf_4 : decode cX9_stampOf 4 = .ok (.idiv, 1) := fq_108 fk_cX9_stampOf_0 4 rfl rfl
theorem dX9_stampOf_5 : decode cX9_stampOf 5 = .ok (.iadd, 1) := fq_96 fk_cX9_stampOf_0 5 rfl rfl
theorem dX9_stampOf_6 : decode cX9_stampOf 6 = .ok (.istore_n 3, 1) := fq_62 fk_cX9_stampOf_0 6 rfl rfl
theorem dX9_stampOf_7 : decode cX9_stampOf 7 = .ok (.iload_n 0, 1) := fq_26 fk_cX9_stampOf_0 7 rfl rfl
theorem dX9_stampOf_8 : decode cX9_stampOf 8 = .ok (.iload_n 2, 1) := fq_28 fk_cX9_stampOf_0 8 rfl rfl
theorem dX9_stampOf_9 : decode cX9_stampOf 9 = .ok (.ifCond .ne 7, 3) := fq_154 fk_cX9_stampOf_0 9 rfl rfl rfl rfl rfl
theorem fk_cX9_stampOf_1 : fq_ck cX9_stampOf 16 [29, 5, 108, 184, 0, 230, 172] := fq_of fW_cX9_stampOf 1 rfl rfl
theorem dX9_stampOf_16 : decode cX9_stampOf 16 = .ok (.iload_n 3, 1) := fq_29 fk_cX9_stampOf_1 0 rfl rfl
theorem dX9_stampOf_17 : decode cX9_stampOf 17 = .ok (.iconst 2, 1) := fq_5 fk_cX9_stampOf_1 1 rfl rfl
theorem dX9_stampOf_18 : decode cX9_stampOf 18 = .ok (.idiv, 1) := fq_108 fk_cX9_stampOf_1 2 rfl rfl
theorem dX9_stampOf_19 : decode cX9_stampOf 19 = .ok (.invokestatic 230, 3) := fq_184 fk_cX9_stampOf_1 3 rfl rfl rfl rfl rfl
theorem wd_190 : Cond.methodLink RX9 230 Lib.Math.min.name ∈ BG := BG_in (by decide +kernel) rfl
theorem dX9_stampOf_22 : decode cX9_stampOf 22 = .ok (.ireturn, 1) := fq_172 fk_cX9_stampOf_1 6 rfl rfl
theorem dX9_stampOf_12 : decode cX9_stampOf 12 = .ok (.iload_n 3, 1) := fq_29 fk_cX9_stampOf_0 12 rfl rfl
theorem dX9_stampOf_13 : decode cX9_stampOf 13 = .ok (.goto 6, 3) := fq_167 fk_cX9_stampOf_0 13 rfl rfl rfl rfl rfl
def fw_cX4_run : List (List Nat) := [[42, 3, 181, 0, 7, 42, 27, 181, 0, 16, 3, 54, 5, 21, 5, 27, 162, 0], [162, 0, 60, 27, 42, 180, 0, 16, 100, 21, 4, 162, 0, 49, 42, 180, 0, 16], [0, 16, 28, 29, 184, 0, 26, 54, 6, 21, 6, 157, 0, 6, 167, 0, 30, 42], [30, 42, 89, 180, 0, 16, 21, 6, 100, 181, 0, 16, 42, 89, 180, 0, 7, 4], [7, 4, 96, 181, 0, 7, 132, 5, 1, 167, 255, 196, 42, 27, 42, 180, 0, 16], [0, 16, 100, 181, 0, 13, 42, 42, 180, 0, 13, 21, 4, 161, 0, 7, 4, 167], [4, 167, 0, 4, 3, 181, 0, 19, 42, 42, 180, 0, 13, 158, 0, 14, 42, 180], [42, 180, 0, 16, 154, 0, 7, 4, 167, 0, 4, 3, 181, 0, 23, 177]]
theorem fW_cX4_run : fq_wins 8 cX4_run.data.toList = fw_cX4_run := by decide +kernel
theorem fk_cX4_run_0 : fq_ck cX4_run 0 [42, 3, 181, 0, 7, 42, 27, 181, 0, 16, 3, 54, 5, 21, 5, 27, 162, 0] := fq_of fW_cX4_run 0 rfl rfl
theorem dX4_run_0 : decode cX4_run 0 = .ok (.aload_n 0, 1) := fq_42 fk_cX4_run_0 0 rfl rfl
theorem dX4_run_1 : decode cX4_run 1 = .ok (.iconst 0, 1) := fq_3 fk_cX4_run_0 1 rfl rfl
theorem dX4_run_2 : decode cX4_run 2 = .ok (.putfield 7, 3) := fq_181 fk_cX4_run_0 2 rfl rfl rfl rfl rfl
theorem dX4_run_5 : decode cX4_run 5 = .ok (.aload_n 0, 1) := fq_42 fk_cX4_run_0 5 rfl rfl
theorem dX4_run_6 : decode cX4_run 6 = .ok (.iload_n 1, 1) := fq_27 fk_cX4_run_0 6 rfl rfl
theorem dX4_run_7 : decode cX4_run 7 = .ok (.putfield 16, 3) := fq_181 fk_cX4_run_0 7 rfl rfl rfl rfl rfl
theorem dX4_run_10 : decode cX4_run 10 = .ok (.iconst 0, 1) := fq_3 fk_cX4_run_0 10 rfl rfl
theorem dX4_run_11 : decode cX4_run 11 = .ok (.istore 5, 2) := fq_54 fk_cX4_run_0 11 rfl rfl rfl
theorem fk_cX4_run_4 : fq_ck cX4_run 64 [7, 4, 96, 181, 0, 7, 132, 5, 1, 167, 255, 196, 42, 27, 42, 180, 0, 16] := fq_of fW_cX4_run 4 rfl rfl
theorem dX4_run_76 : decode cX4_run 76 = .ok (.aload_n 0, 1) := fq_42 fk_cX4_run_4 12 rfl rfl
theorem dX4_run_77 : decode cX4_run 77 = .ok (.iload_n 1, 1) := fq_27 fk_cX4_run_4 13 rfl rfl
theorem dX4_run_78 : decode cX4_run 78 = .ok (.aload_n 0, 1) := fq_42 fk_cX4_run_4 14 rfl rfl
theorem dX4_run_79 : decode cX4_run 79 = .ok (.getfield 16, 3) := fq_180 fk_cX4_run_4 15 rfl rfl rfl rfl rfl
theorem fk_cX4_run_5 : fq_ck cX4_run 80 [0, 16, 100, 181, 0, 13, 42, 42, 180, 0, 13, 21, 4, 161, 0, 7, 4, 167] := fq_of fW_cX4_run 5 rfl rfl
theorem dX4_run_82 : decode cX4_run 82 = .ok (.isub, 1) := fq_100 fk_cX4_run_5 2 rfl rfl
theorem dX4_run_83 : decode cX4_run 83 = .ok (.putfield 13, 3) := fq_181 fk_cX4_run_5 3 rfl rfl rfl rfl rfl
theorem dX4_run_86 : decode cX4_run 86 = .ok (.aload_n 0, 1) := fq_42 fk_cX4_run_5 6 rfl rfl
theorem dX4_run_87 : decode cX4_run 87 = .ok (.aload_n 0, 1) := fq_42 fk_cX4_run_5 7 rfl rfl
theorem dX4_run_88 : decode cX4_run 88 = .ok (.getfield 13, 3) := fq_180 fk_cX4_run_5 8 rfl rfl rfl rfl rfl
theorem dX4_run_91 : decode cX4_run 91 = .ok (.iload 4, 2) := fq_21 fk_cX4_run_5 11 rfl rfl rfl
theorem dX4_run_93 : decode cX4_run 93 = .ok (.if_icmp .lt 7, 3) := fq_161 fk_cX4_run_5 13 rfl rfl rfl rfl rfl
theorem fk_cX4_run_6 : fq_ck cX4_run 96 [4, 167, 0, 4, 3, 181, 0, 19, 42, 42, 180, 0, 13, 158, 0, 14, 42, 180] := fq_of fW_cX4_run 6 rfl rfl
theorem dX4_run_100 : decode cX4_run 100 = .ok (.iconst 0, 1) := fq_3 fk_cX4_run_6 4 rfl rfl
theorem dX4_run_101 : decode cX4_run 101 = .ok (.putfield 19, 3) := fq_181 fk_cX4_run_6 5 rfl rfl rfl rfl rfl
theorem dX4_run_104 : decode cX4_run 104 = .ok (.aload_n 0, 1) := fq_42 fk_cX4_run_6 8 rfl rfl
theorem dX4_run_105 : decode cX4_run 105 = .ok (.aload_n 0, 1) := fq_42 fk_cX4_run_6 9 rfl rfl
theorem dX4_run_106 : decode cX4_run 106 = .ok (.getfield 13, 3) := fq_180 fk_cX4_run_6 10 rfl rfl rfl rfl rfl
theorem dX4_run_109 : decode cX4_run 109 = .ok (.ifCond .le 14, 3) := fq_158 fk_cX4_run_6 13 rfl rfl rfl rfl rfl
theorem fk_cX4_run_7 : fq_ck cX4_run 112 [42, 180, 0, 16, 154, 0, 7, 4, 167, 0, 4, 3, 181, 0, 23, 177] := fq_of fW_cX4_run 7 rfl rfl
theorem dX4_run_123 : decode cX4_run 123 = .ok (.iconst 0, 1) := fq_3 fk_cX4_run_7 11 rfl rfl
theorem dX4_run_124 : decode cX4_run 124 = .ok (.putfield 23, 3) := fq_181 fk_cX4_run_7 12 rfl rfl rfl rfl rfl
theorem dX4_run_127 : decode cX4_run 127 = .ok (.return_, 1) := fq_177 fk_cX4_run_7 15 rfl rfl
theorem dX4_run_112 : decode cX4_run 112 = .ok (.aload_n 0, 1) := fq_42 fk_cX4_run_7 0 rfl rfl
theorem dX4_run_113 : decode cX4_run 113 = .ok (.getfield 16, 3) := fq_180 fk_cX4_run_7 1 rfl rfl rfl rfl rfl
theorem dX4_run_116 : decode cX4_run 116 = .ok (.ifCond .ne 7, 3) := fq_154 fk_cX4_run_7 4 rfl rfl rfl rfl rfl
theorem dX4_run_119 : decode cX4_run 119 = .ok (.iconst 1, 1) := fq_4 fk_cX4_run_7 7 rfl rfl
theorem dX4_run_120 : decode cX4_run 120 = .ok (.goto 4, 3) := fq_167 fk_cX4_run_7 8 rfl rfl rfl rfl rfl
theorem dX4_run_96 : decode cX4_run 96 = .ok (.iconst 1, 1) := fq_4 fk_cX4_run_6 0 rfl rfl
theorem dX4_run_97 : decode cX4_run 97 = .ok (.goto 4, 3) := fq_167 fk_cX4_run_6 1 rfl rfl rfl rfl rfl
theorem dX4_run_13 : decode cX4_run 13 = .ok (.iload 5, 2) := fq_21 fk_cX4_run_0 13 rfl rfl rfl
theorem dX4_run_15 : decode cX4_run 15 = .ok (.iload_n 1, 1) := fq_27 fk_cX4_run_0 15 rfl rfl
theorem fk_cX4_run_1 : fq_ck cX4_run 16 [162, 0, 60, 27, 42, 180, 0, 16, 100, 21, 4, 162, 0, 49, 42, 180, 0, 16] := fq_of fW_cX4_run 1 rfl rfl
theorem dX4_run_16 : decode cX4_run 16 = .ok (.if_icmp .ge 60, 3) := fq_162 fk_cX4_run_1 0 rfl rfl rfl rfl rfl
theorem dX4_run_19 : decode cX4_run 19 = .ok (.iload_n 1, 1) := fq_27 fk_cX4_run_1 3 rfl rfl
theorem dX4_run_20 : decode cX4_run 20 = .ok (.aload_n 0, 1) := fq_42 fk_cX4_run_1 4 rfl rfl
theorem dX4_run_21 : decode cX4_run 21 = .ok (.getfield 16, 3) := fq_180 fk_cX4_run_1 5 rfl rfl rfl rfl rfl
theorem dX4_run_24 : decode cX4_run 24 = .ok (.isub, 1) := fq_100 fk_cX4_run_1 8 rfl rfl
theorem dX4_run_25 : decode cX4_run 25 = .ok (.iload 4, 2) := fq_21 fk_cX4_run_1 9 rfl rfl rfl
theorem dX4_run_27 : decode cX4_run 27 = .ok (.if_icmp .ge 49, 3) := fq_162 fk_cX4_run_1 11 rfl rfl rfl rfl rfl
theorem dX4_run_30 : decode cX4_run 30 = .ok (.aload_n 0, 1) := fq_42 fk_cX4_run_1 14 rfl rfl
theorem dX4_run_31 : decode cX4_run 31 = .ok (.getfield 16, 3) := fq_180 fk_cX4_run_1 15 rfl rfl rfl rfl rfl
theorem fk_cX4_run_2 : fq_ck cX4_run 32 [0, 16, 28, 29, 184, 0, 26, 54, 6, 21, 6, 157, 0, 6, 167, 0, 30, 42] := fq_of fW_cX4_run 2 rfl rfl
theorem dX4_run_34 : decode cX4_run 34 = .ok (.iload_n 2, 1) := fq_28 fk_cX4_run_2 2 rfl rfl
theorem dX4_run_35 : decode cX4_run 35 = .ok (.iload_n 3, 1) := fq_29 fk_cX4_run_2 3 rfl rfl
theorem dX4_run_36 : decode cX4_run 36 = .ok (.invokestatic 26, 3) := fq_184 fk_cX4_run_2 4 rfl rfl rfl rfl rfl
theorem wd_191 : Cond.code yX9_stampOf cX9_stampOf 4 (some .int) ∈ BG := BG_at3 72 rfl rfl
theorem wd_192 : Cond.static yX9_stampOf ∈ BG := BG_at3 71 (by decide +kernel) rfl
theorem okS_X9_stampOf : okS yX9_stampOf cX9_stampOf 4 (some .int) 3 := ⟨⟨wd_191, wd_71, by decide +kernel⟩, wd_192⟩
theorem dX4_run_39 : decode cX4_run 39 = .ok (.istore 6, 2) := fq_54 fk_cX4_run_2 7 rfl rfl rfl
theorem dX4_run_41 : decode cX4_run 41 = .ok (.iload 6, 2) := fq_21 fk_cX4_run_2 9 rfl rfl rfl
theorem dX4_run_43 : decode cX4_run 43 = .ok (.ifCond .gt 6, 3) := fq_157 fk_cX4_run_2 11 rfl rfl rfl rfl rfl
theorem fk_cX4_run_3 : fq_ck cX4_run 48 [30, 42, 89, 180, 0, 16, 21, 6, 100, 181, 0, 16, 42, 89, 180, 0, 7, 4] := fq_of fW_cX4_run 3 rfl rfl
theorem dX4_run_49 : decode cX4_run 49 = .ok (.aload_n 0, 1) := fq_42 fk_cX4_run_3 1 rfl rfl
theorem dX4_run_50 : decode cX4_run 50 = .ok (.dup, 1) := fq_89 fk_cX4_run_3 2 rfl rfl
theorem dX4_run_51 : decode cX4_run 51 = .ok (.getfield 16, 3) := fq_180 fk_cX4_run_3 3 rfl rfl rfl rfl rfl
theorem dX4_run_54 : decode cX4_run 54 = .ok (.iload 6, 2) := fq_21 fk_cX4_run_3 6 rfl rfl rfl
theorem dX4_run_56 : decode cX4_run 56 = .ok (.isub, 1) := fq_100 fk_cX4_run_3 8 rfl rfl
theorem dX4_run_57 : decode cX4_run 57 = .ok (.putfield 16, 3) := fq_181 fk_cX4_run_3 9 rfl rfl rfl rfl rfl
theorem dX4_run_60 : decode cX4_run 60 = .ok (.aload_n 0, 1) := fq_42 fk_cX4_run_3 12 rfl rfl
theorem dX4_run_61 : decode cX4_run 61 = .ok (.dup, 1) := fq_89 fk_cX4_run_3 13 rfl rfl
theorem dX4_run_62 : decode cX4_run 62 = .ok (.getfield 7, 3) := fq_180 fk_cX4_run_3 14 rfl rfl rfl rfl rfl
theorem dX4_run_65 : decode cX4_run 65 = .ok (.iconst 1, 1) := fq_4 fk_cX4_run_4 1 rfl rfl
theorem dX4_run_66 : decode cX4_run 66 = .ok (.iadd, 1) := fq_96 fk_cX4_run_4 2 rfl rfl
theorem dX4_run_67 : decode cX4_run 67 = .ok (.putfield 7, 3) := fq_181 fk_cX4_run_4 3 rfl rfl rfl rfl rfl
theorem dX4_run_70 : decode cX4_run 70 = .ok (.iinc 5 1, 3) := fq_132 fk_cX4_run_4 6 rfl rfl rfl rfl rfl
theorem dX4_run_73 : decode cX4_run 73 = .ok (.goto (-60), 3) := fq_167 fk_cX4_run_4 9 rfl rfl rfl rfl rfl
theorem dX4_run_46 : decode cX4_run 46 = .ok (.goto 30, 3) := fq_167 fk_cX4_run_2 14 rfl rfl rfl rfl rfl
theorem narrow_b01 {v : Int32} (h : v = 0 ∨ v = 1) : narrow .boolean (.int v) = .int v := by
  rcases h with rfl | rfl <;> rfl
theorem up_step {B i : Int32} {n : Nat} (c : ¬ B ≤ i) (hm : (B.toInt - i.toInt).toNat < n + 1) : (B.toInt - (i + 1).toInt).toNat < n := by
  have h1 : i.toInt < B.toInt := Int32.lt_iff_toInt_lt.mp (Int32.not_le.mp c)
  have h2 := B.toInt_lt
  have h3 := i.le_toInt
  have e : (i + 1).toInt = i.toInt + 1 := by
    rw [Int32.toInt_add]
    have e1 : (1 : Int32).toInt = 1 := rfl
    rw [e1]
    exact Int.bmod_eq_of_le (by omega) (by omega)
  rw [e]
  omega
theorem dn_step {i : Int32} {n : Nat} (c : ¬ i < 0) (hm : (i.toInt + 1).toNat < n + 1) : ((i + (-1)).toInt + 1).toNat < n := by
  have h1 := Int32.le_iff_toInt_le.mp (Int32.not_lt.mp c)
  have h0 : (0 : Int32).toInt = 0 := rfl
  have h2 := i.toInt_lt
  have e : (i + (-1)).toInt = i.toInt - 1 := by
    rw [Int32.toInt_add]
    have e1 : (-1 : Int32).toInt = -1 := rfl
    rw [e1]
    exact Int.bmod_eq_of_le (by omega) (by omega)
  rw [e]
  omega
noncomputable def f_e_hasBridge (t0 : Int32) (t1 : Int32) (t2 : Int32) (t3 : Int32) (t4 : Int32) (b : Int32) : Int32 := (if b < 0 then 0 else (if t0 ≤ b then 0 else 1))
def rm_e_hasBridge : Room := { frames := 0, cells := 0, slots := 0, locals := 0 }
set_option maxHeartbeats 4000000 in
set_option maxRecDepth 100000 in
theorem e_hasBridge {l : Launch} {D : va_G} {cI cZ : ClassId} {sz : Nat} (t ta tb tc td te : Nat) (t0 : Int32) (t1 : Int32) (t2 : Int32) (t3 : Int32) (t4 : Int32) (b : Int32) : KI l yX8_hasBridge cX8_hasBridge 2 (some .boolean) rm_e_hasBridge D cI cZ [.ref t, .int b] sz [(t, .inr (8, [.int t0, .int t1, .int t2, .int t3, .int t4, .ref ta, .ref tb, .ref tc, .ref td, .ref te]))] (fun (r : Int32) (_ : Unit) => r = f_e_hasBridge t0 t1 t2 t3 t4 b) (fun (_ : Unit) => [(t, .inr (8, [.int t0, .int t1, .int t2, .int t3, .int t4, .ref ta, .ref tb, .ref tc, .ref td, .ref te]))]) := by
  refine KI.go rfl (Nat.le_of_ble_eq_true rfl) ?_
  intro p e s m args below meth c ls A Q hx hb hml hts hown hin hP hK hD hS hA hN hl hret
  have hl : lv_has ls 2 [(0, .ref t), (1, .int b)] := hl
  obtain ⟨RES, hE⟩ : ∃ xRES, f_e_hasBridge t0 t1 t2 t3 t4 b = xRES := ⟨_, rfl⟩
  rw [hE] at hret
  rw [f_e_hasBridge] at hE
  refine lv_iload_n hx hb dX8_hasBridge_0 rfl (lv_at hl 1 rfl) ?_
  refine lv_if_lt (tgt := 16) hx hb dX8_hasBridge_1 rfl (fun c_1 => ?_) (fun c_1 => ?_)
  · rw [if_pos c_1] at hE
    refine lv_iconst (v := 0) hx hb dX8_hasBridge_16 rfl ?_
    exact hret 0 () _ _ _ _ dX8_hasBridge_17 rfl hE hP hD hS
  · rw [if_neg c_1] at hE
    refine lv_iload_n hx hb dX8_hasBridge_4 rfl (lv_at hl 1 rfl) ?_
    refine lv_aload_n hx hb dX8_hasBridge_5 rfl (lv_at hl 0 rfl) ?_
    refine va_get (D := D) (ci := 8) (v := .int t0) (C := RX8) (T := TX8) (N := 10) hx hb hts iX8 hown hK hP 0 rfl rfl 0 (Nat.le_of_ble_eq_true rfl) (hts _ wd_3) (fun _ h9 => h9) rfl dX8_hasBridge_6 ?_
    refine lv_icmp_ge (tgt := 16) hx hb dX8_hasBridge_9 rfl (fun c_2 => ?_) (fun c_2 => ?_)
    · rw [if_pos c_2] at hE
      refine lv_iconst (v := 0) hx hb dX8_hasBridge_16 rfl ?_
      exact hret 0 () _ _ _ _ dX8_hasBridge_17 rfl hE hP hD hS
    · rw [if_neg c_2] at hE
      refine lv_iconst (v := 1) hx hb dX8_hasBridge_12 rfl ?_
      refine lv_goto (tgt := 17) hx hb dX8_hasBridge_13 rfl ?_
      exact hret 1 () _ _ _ _ dX8_hasBridge_17 rfl hE hP hD hS
noncomputable def f_e_hasTheme (t0 : Int32) (t1 : Int32) (t2 : Int32) (t3 : Int32) (t4 : Int32) (b : Int32) : Int32 := (if b < 0 then 0 else (if t1 ≤ b then 0 else 1))
def rm_e_hasTheme : Room := { frames := 0, cells := 0, slots := 0, locals := 0 }
set_option maxHeartbeats 4000000 in
set_option maxRecDepth 100000 in
theorem e_hasTheme {l : Launch} {D : va_G} {cI cZ : ClassId} {sz : Nat} (t ta tb tc td te : Nat) (t0 : Int32) (t1 : Int32) (t2 : Int32) (t3 : Int32) (t4 : Int32) (b : Int32) : KI l yX8_hasTheme cX8_hasTheme 2 (some .boolean) rm_e_hasTheme D cI cZ [.ref t, .int b] sz [(t, .inr (8, [.int t0, .int t1, .int t2, .int t3, .int t4, .ref ta, .ref tb, .ref tc, .ref td, .ref te]))] (fun (r : Int32) (_ : Unit) => r = f_e_hasTheme t0 t1 t2 t3 t4 b) (fun (_ : Unit) => [(t, .inr (8, [.int t0, .int t1, .int t2, .int t3, .int t4, .ref ta, .ref tb, .ref tc, .ref td, .ref te]))]) := by
  refine KI.go rfl (Nat.le_of_ble_eq_true rfl) ?_
  intro p e s m args below meth c ls A Q hx hb hml hts hown hin hP hK hD hS hA hN hl hret
  have hl : lv_has ls 2 [(0, .ref t), (1, .int b)] := hl
  obtain ⟨RES, hE⟩ : ∃ xRES, f_e_hasTheme t0 t1 t2 t3 t4 b = xRES := ⟨_, rfl⟩
  rw [hE] at hret
  rw [f_e_hasTheme] at hE
  refine lv_iload_n hx hb dX8_hasTheme_0 rfl (lv_at hl 1 rfl) ?_
  refine lv_if_lt (tgt := 16) hx hb dX8_hasTheme_1 rfl (fun c_1 => ?_) (fun c_1 => ?_)
  · rw [if_pos c_1] at hE
    refine lv_iconst (v := 0) hx hb dX8_hasTheme_16 rfl ?_
    exact hret 0 () _ _ _ _ dX8_hasTheme_17 rfl hE hP hD hS
  · rw [if_neg c_1] at hE
    refine lv_iload_n hx hb dX8_hasTheme_4 rfl (lv_at hl 1 rfl) ?_
    refine lv_aload_n hx hb dX8_hasTheme_5 rfl (lv_at hl 0 rfl) ?_
    refine va_get (D := D) (ci := 8) (v := .int t1) (C := RX8) (T := TX8) (N := 10) hx hb hts iX8 hown hK hP 0 rfl rfl 1 (Nat.le_of_ble_eq_true rfl) (hts _ wd_4) (fun _ h9 => h9) rfl dX8_hasTheme_6 ?_
    refine lv_icmp_ge (tgt := 16) hx hb dX8_hasTheme_9 rfl (fun c_2 => ?_) (fun c_2 => ?_)
    · rw [if_pos c_2] at hE
      refine lv_iconst (v := 0) hx hb dX8_hasTheme_16 rfl ?_
      exact hret 0 () _ _ _ _ dX8_hasTheme_17 rfl hE hP hD hS
    · rw [if_neg c_2] at hE
      refine lv_iconst (v := 1) hx hb dX8_hasTheme_12 rfl ?_
      refine lv_goto (tgt := 17) hx hb dX8_hasTheme_13 rfl ?_
      exact hret 1 () _ _ _ _ dX8_hasTheme_17 rfl hE hP hD hS
noncomputable def f_e_hasCouple (t0 : Int32) (t1 : Int32) (t2 : Int32) (t3 : Int32) (t4 : Int32) (b : Int32) : Int32 := (if b < 0 then 0 else (if t2 ≤ b then 0 else 1))
def rm_e_hasCouple : Room := { frames := 0, cells := 0, slots := 0, locals := 0 }
set_option maxHeartbeats 4000000 in
set_option maxRecDepth 100000 in
theorem e_hasCouple {l : Launch} {D : va_G} {cI cZ : ClassId} {sz : Nat} (t ta tb tc td te : Nat) (t0 : Int32) (t1 : Int32) (t2 : Int32) (t3 : Int32) (t4 : Int32) (b : Int32) : KI l yX8_hasCouple cX8_hasCouple 2 (some .boolean) rm_e_hasCouple D cI cZ [.ref t, .int b] sz [(t, .inr (8, [.int t0, .int t1, .int t2, .int t3, .int t4, .ref ta, .ref tb, .ref tc, .ref td, .ref te]))] (fun (r : Int32) (_ : Unit) => r = f_e_hasCouple t0 t1 t2 t3 t4 b) (fun (_ : Unit) => [(t, .inr (8, [.int t0, .int t1, .int t2, .int t3, .int t4, .ref ta, .ref tb, .ref tc, .ref td, .ref te]))]) := by
  refine KI.go rfl (Nat.le_of_ble_eq_true rfl) ?_
  intro p e s m args below meth c ls A Q hx hb hml hts hown hin hP hK hD hS hA hN hl hret
  have hl : lv_has ls 2 [(0, .ref t), (1, .int b)] := hl
  obtain ⟨RES, hE⟩ : ∃ xRES, f_e_hasCouple t0 t1 t2 t3 t4 b = xRES := ⟨_, rfl⟩
  rw [hE] at hret
  rw [f_e_hasCouple] at hE
  refine lv_iload_n hx hb dX8_hasCouple_0 rfl (lv_at hl 1 rfl) ?_
  refine lv_if_lt (tgt := 16) hx hb dX8_hasCouple_1 rfl (fun c_1 => ?_) (fun c_1 => ?_)
  · rw [if_pos c_1] at hE
    refine lv_iconst (v := 0) hx hb dX8_hasCouple_16 rfl ?_
    exact hret 0 () _ _ _ _ dX8_hasCouple_17 rfl hE hP hD hS
  · rw [if_neg c_1] at hE
    refine lv_iload_n hx hb dX8_hasCouple_4 rfl (lv_at hl 1 rfl) ?_
    refine lv_aload_n hx hb dX8_hasCouple_5 rfl (lv_at hl 0 rfl) ?_
    refine va_get (D := D) (ci := 8) (v := .int t2) (C := RX8) (T := TX8) (N := 10) hx hb hts iX8 hown hK hP 0 rfl rfl 2 (Nat.le_of_ble_eq_true rfl) (hts _ wd_5) (fun _ h9 => h9) rfl dX8_hasCouple_6 ?_
    refine lv_icmp_ge (tgt := 16) hx hb dX8_hasCouple_9 rfl (fun c_2 => ?_) (fun c_2 => ?_)
    · rw [if_pos c_2] at hE
      refine lv_iconst (v := 0) hx hb dX8_hasCouple_16 rfl ?_
      exact hret 0 () _ _ _ _ dX8_hasCouple_17 rfl hE hP hD hS
    · rw [if_neg c_2] at hE
      refine lv_iconst (v := 1) hx hb dX8_hasCouple_12 rfl ?_
      refine lv_goto (tgt := 17) hx hb dX8_hasCouple_13 rfl ?_
      exact hret 1 () _ _ _ _ dX8_hasCouple_17 rfl hE hP hD hS
noncomputable def f_e_hasBarge (t0 : Int32) (t1 : Int32) (t2 : Int32) (t3 : Int32) (t4 : Int32) (b : Int32) : Int32 := (if b < 0 then 0 else (if t3 ≤ b then 0 else 1))
def rm_e_hasBarge : Room := { frames := 0, cells := 0, slots := 0, locals := 0 }
set_option maxHeartbeats 4000000 in
set_option maxRecDepth 100000 in
theorem e_hasBarge {l : Launch} {D : va_G} {cI cZ : ClassId} {sz : Nat} (t ta tb tc td te : Nat) (t0 : Int32) (t1 : Int32) (t2 : Int32) (t3 : Int32) (t4 : Int32) (b : Int32) : KI l yX8_hasBarge cX8_hasBarge 2 (some .boolean) rm_e_hasBarge D cI cZ [.ref t, .int b] sz [(t, .inr (8, [.int t0, .int t1, .int t2, .int t3, .int t4, .ref ta, .ref tb, .ref tc, .ref td, .ref te]))] (fun (r : Int32) (_ : Unit) => r = f_e_hasBarge t0 t1 t2 t3 t4 b) (fun (_ : Unit) => [(t, .inr (8, [.int t0, .int t1, .int t2, .int t3, .int t4, .ref ta, .ref tb, .ref tc, .ref td, .ref te]))]) := by
  refine KI.go rfl (Nat.le_of_ble_eq_true rfl) ?_
  intro p e s m args below meth c ls A Q hx hb hml hts hown hin hP hK hD hS hA hN hl hret
  have hl : lv_has ls 2 [(0, .ref t), (1, .int b)] := hl
  obtain ⟨RES, hE⟩ : ∃ xRES, f_e_hasBarge t0 t1 t2 t3 t4 b = xRES := ⟨_, rfl⟩
  rw [hE] at hret
  rw [f_e_hasBarge] at hE
  refine lv_iload_n hx hb dX8_hasBarge_0 rfl (lv_at hl 1 rfl) ?_
  refine lv_if_lt (tgt := 16) hx hb dX8_hasBarge_1 rfl (fun c_1 => ?_) (fun c_1 => ?_)
  · rw [if_pos c_1] at hE
    refine lv_iconst (v := 0) hx hb dX8_hasBarge_16 rfl ?_
    exact hret 0 () _ _ _ _ dX8_hasBarge_17 rfl hE hP hD hS
  · rw [if_neg c_1] at hE
    refine lv_iload_n hx hb dX8_hasBarge_4 rfl (lv_at hl 1 rfl) ?_
    refine lv_aload_n hx hb dX8_hasBarge_5 rfl (lv_at hl 0 rfl) ?_
    refine va_get (D := D) (ci := 8) (v := .int t3) (C := RX8) (T := TX8) (N := 10) hx hb hts iX8 hown hK hP 0 rfl rfl 3 (Nat.le_of_ble_eq_true rfl) (hts _ wd_6) (fun _ h9 => h9) rfl dX8_hasBarge_6 ?_
    refine lv_icmp_ge (tgt := 16) hx hb dX8_hasBarge_9 rfl (fun c_2 => ?_) (fun c_2 => ?_)
    · rw [if_pos c_2] at hE
      refine lv_iconst (v := 0) hx hb dX8_hasBarge_16 rfl ?_
      exact hret 0 () _ _ _ _ dX8_hasBarge_17 rfl hE hP hD hS
    · rw [if_neg c_2] at hE
      refine lv_iconst (v := 1) hx hb dX8_hasBarge_12 rfl ?_
      refine lv_goto (tgt := 17) hx hb dX8_hasBarge_13 rfl ?_
      exact hret 1 () _ _ _ _ dX8_hasBarge_17 rfl hE hP hD hS
noncomputable def f_e_minutes (f : Nat → Int32) : Int32 := (atF 41 f 0)
def rm_e_minutes : Room := { frames := 1, cells := 0, slots := 0, locals := 21 }
set_option maxHeartbeats 4000000 in
set_option maxRecDepth 100000 in
theorem e_minutes {l : Launch} {D : va_G} {cI cZ : ClassId} {sz : Nat} (h a : Nat) (f : Nat → Int32) : KI l yX7_minutes cX7_minutes 1 (some .int) rm_e_minutes D cI cZ [.ref h] sz [(h, .inr (7, [.ref a])), (a, .inl (cI, 41, .inl f))] (fun (r : Int32) (_ : Unit) => r = f_e_minutes f) (fun (_ : Unit) => [(h, .inr (7, [.ref a])), (a, .inl (cI, 41, .inl f))]) := by
  refine KI.go rfl (Nat.le_of_ble_eq_true rfl) ?_
  intro p e s m args below meth c ls A Q hx hb hml hts hown hin hP hK hD hS hA hN hl hret
  have hl : lv_has ls 1 [(0, .ref h)] := hl
  obtain ⟨RES, hE⟩ : ∃ xRES, f_e_minutes f = xRES := ⟨_, rfl⟩
  rw [hE] at hret
  rw [f_e_minutes] at hE
  refine lv_aload_n hx hb dX7_minutes_0 rfl (lv_at hl 0 rfl) ?_
  refine va_get (D := D) (ci := 7) (v := .ref a) (C := RX7) (T := TX7) (N := 1) hx hb hts iX7 hown hK hP 0 rfl rfl 0 (Nat.le_of_ble_eq_true rfl) (hts _ wd_15) (fun _ h9 => h9) rfl dX7_minutes_1 ?_
  refine lv_iconst (v := 0) hx hb dX7_minutes_4 rfl ?_
  refine cNi (wr := [(h, .inr (7, [.ref a]))]) (rest := []) (k_at a 41 f 0 (of_decide_eq_true rfl)) okS_X9_at 16 rfl hx hb hml hown hts hK hP hD hS hA hN hl.1 [1] [0] rfl rfl rfl rfl (by decide) rfl (Nat.le_of_ble_eq_true rfl) (Nat.le_of_ble_eq_true rfl) (Nat.le_of_ble_eq_true rfl) (Nat.le_of_ble_eq_true rfl) (Nat.le_of_ble_eq_true rfl) dX7_minutes_5 (fun r_2 u_1 H locs hw_u_1 hP hD hS => ?_)
  obtain rfl := hw_u_1
  have hP : va_P D classes [(h, .inr (7, [.ref a])), (a, .inl (cI, 41, .inl f))] H := hP
  have hD : va_D A [(h, .inr (7, [.ref a])), (a, .inl (cI, 41, .inl f))] := hD
  exact hret (atF 41 f 0) () _ _ _ _ dX7_minutes_8 rfl hE hP hD hS
noncomputable def f_e_reconciledSet (f : Nat → Int32) : Int32 := (atF 41 f 1)
def rm_e_reconciledSet : Room := { frames := 1, cells := 0, slots := 0, locals := 21 }
set_option maxHeartbeats 4000000 in
set_option maxRecDepth 100000 in
theorem e_reconciledSet {l : Launch} {D : va_G} {cI cZ : ClassId} {sz : Nat} (h a : Nat) (f : Nat → Int32) : KI l yX7_reconciledSet cX7_reconciledSet 1 (some .int) rm_e_reconciledSet D cI cZ [.ref h] sz [(h, .inr (7, [.ref a])), (a, .inl (cI, 41, .inl f))] (fun (r : Int32) (_ : Unit) => r = f_e_reconciledSet f) (fun (_ : Unit) => [(h, .inr (7, [.ref a])), (a, .inl (cI, 41, .inl f))]) := by
  refine KI.go rfl (Nat.le_of_ble_eq_true rfl) ?_
  intro p e s m args below meth c ls A Q hx hb hml hts hown hin hP hK hD hS hA hN hl hret
  have hl : lv_has ls 1 [(0, .ref h)] := hl
  obtain ⟨RES, hE⟩ : ∃ xRES, f_e_reconciledSet f = xRES := ⟨_, rfl⟩
  rw [hE] at hret
  rw [f_e_reconciledSet] at hE
  refine lv_aload_n hx hb dX7_reconciledSet_0 rfl (lv_at hl 0 rfl) ?_
  refine va_get (D := D) (ci := 7) (v := .ref a) (C := RX7) (T := TX7) (N := 1) hx hb hts iX7 hown hK hP 0 rfl rfl 0 (Nat.le_of_ble_eq_true rfl) (hts _ wd_15) (fun _ h9 => h9) rfl dX7_reconciledSet_1 ?_
  refine lv_iconst (v := 1) hx hb dX7_reconciledSet_4 rfl ?_
  refine cNi (wr := [(h, .inr (7, [.ref a]))]) (rest := []) (k_at a 41 f 1 (of_decide_eq_true rfl)) okS_X9_at 16 rfl hx hb hml hown hts hK hP hD hS hA hN hl.1 [1] [0] rfl rfl rfl rfl (by decide) rfl (Nat.le_of_ble_eq_true rfl) (Nat.le_of_ble_eq_true rfl) (Nat.le_of_ble_eq_true rfl) (Nat.le_of_ble_eq_true rfl) (Nat.le_of_ble_eq_true rfl) dX7_reconciledSet_5 (fun r_2 u_1 H locs hw_u_1 hP hD hS => ?_)
  obtain rfl := hw_u_1
  have hP : va_P D classes [(h, .inr (7, [.ref a])), (a, .inl (cI, 41, .inl f))] H := hP
  have hD : va_D A [(h, .inr (7, [.ref a])), (a, .inl (cI, 41, .inl f))] := hD
  exact hret (atF 41 f 1) () _ _ _ _ dX7_reconciledSet_8 rfl hE hP hD hS
noncomputable def f_e_grievanceOf (f : Nat → Int32) (v : Int32) : Int32 := (atF 41 f (2 + v))
def rm_e_grievanceOf : Room := { frames := 1, cells := 0, slots := 0, locals := 21 }
set_option maxHeartbeats 4000000 in
set_option maxRecDepth 100000 in
theorem e_grievanceOf {l : Launch} {D : va_G} {cI cZ : ClassId} {sz : Nat} (h a : Nat) (f : Nat → Int32) (v : Int32) : KI l yX7_grievanceOf cX7_grievanceOf 2 (some .int) rm_e_grievanceOf D cI cZ [.ref h, .int v] sz [(h, .inr (7, [.ref a])), (a, .inl (cI, 41, .inl f))] (fun (r : Int32) (_ : Unit) => r = f_e_grievanceOf f v) (fun (_ : Unit) => [(h, .inr (7, [.ref a])), (a, .inl (cI, 41, .inl f))]) := by
  refine KI.go rfl (Nat.le_of_ble_eq_true rfl) ?_
  intro p e s m args below meth c ls A Q hx hb hml hts hown hin hP hK hD hS hA hN hl hret
  have hl : lv_has ls 2 [(0, .ref h), (1, .int v)] := hl
  obtain ⟨RES, hE⟩ : ∃ xRES, f_e_grievanceOf f v = xRES := ⟨_, rfl⟩
  rw [hE] at hret
  rw [f_e_grievanceOf] at hE
  refine lv_aload_n hx hb dX7_grievanceOf_0 rfl (lv_at hl 0 rfl) ?_
  refine va_get (D := D) (ci := 7) (v := .ref a) (C := RX7) (T := TX7) (N := 1) hx hb hts iX7 hown hK hP 0 rfl rfl 0 (Nat.le_of_ble_eq_true rfl) (hts _ wd_15) (fun _ h9 => h9) rfl dX7_grievanceOf_1 ?_
  refine lv_iconst (v := 2) hx hb dX7_grievanceOf_4 rfl ?_
  refine lv_iload_n hx hb dX7_grievanceOf_5 rfl (lv_at hl 1 rfl) ?_
  refine lv_iadd hx hb dX7_grievanceOf_6 ?_
  refine cNi (wr := [(h, .inr (7, [.ref a]))]) (rest := []) (k_at a 41 f (2 + v) (of_decide_eq_true rfl)) okS_X9_at 16 rfl hx hb hml hown hts hK hP hD hS hA hN hl.1 [1] [0] rfl rfl rfl rfl (by decide) rfl (Nat.le_of_ble_eq_true rfl) (Nat.le_of_ble_eq_true rfl) (Nat.le_of_ble_eq_true rfl) (Nat.le_of_ble_eq_true rfl) (Nat.le_of_ble_eq_true rfl) dX7_grievanceOf_7 (fun r_2 u_1 H locs hw_u_1 hP hD hS => ?_)
  obtain rfl := hw_u_1
  have hP : va_P D classes [(h, .inr (7, [.ref a])), (a, .inl (cI, 41, .inl f))] H := hP
  have hD : va_D A [(h, .inr (7, [.ref a])), (a, .inl (cI, 41, .inl f))] := hD
  exact hret (atF 41 f (2 + v)) () _ _ _ _ dX7_grievanceOf_10 rfl hE hP hD hS
noncomputable def f_e_bridgeOf (f : Nat → Int32) (v : Int32) : Int32 := (atF 41 f (8 + v))
def rm_e_bridgeOf : Room := { frames := 1, cells := 0, slots := 0, locals := 21 }
set_option maxHeartbeats 4000000 in
set_option maxRecDepth 100000 in
theorem e_bridgeOf {l : Launch} {D : va_G} {cI cZ : ClassId} {sz : Nat} (h a : Nat) (f : Nat → Int32) (v : Int32) : KI l yX7_bridgeOf cX7_bridgeOf 2 (some .int) rm_e_bridgeOf D cI cZ [.ref h, .int v] sz [(h, .inr (7, [.ref a])), (a, .inl (cI, 41, .inl f))] (fun (r : Int32) (_ : Unit) => r = f_e_bridgeOf f v) (fun (_ : Unit) => [(h, .inr (7, [.ref a])), (a, .inl (cI, 41, .inl f))]) := by
  refine KI.go rfl (Nat.le_of_ble_eq_true rfl) ?_
  intro p e s m args below meth c ls A Q hx hb hml hts hown hin hP hK hD hS hA hN hl hret
  have hl : lv_has ls 2 [(0, .ref h), (1, .int v)] := hl
  obtain ⟨RES, hE⟩ : ∃ xRES, f_e_bridgeOf f v = xRES := ⟨_, rfl⟩
  rw [hE] at hret
  rw [f_e_bridgeOf] at hE
  refine lv_aload_n hx hb dX7_bridgeOf_0 rfl (lv_at hl 0 rfl) ?_
  refine va_get (D := D) (ci := 7) (v := .ref a) (C := RX7) (T := TX7) (N := 1) hx hb hts iX7 hown hK hP 0 rfl rfl 0 (Nat.le_of_ble_eq_true rfl) (hts _ wd_15) (fun _ h9 => h9) rfl dX7_bridgeOf_1 ?_
  refine lv_bipush (v := 8) hx hb dX7_bridgeOf_4 rfl ?_
  refine lv_iload_n hx hb dX7_bridgeOf_6 rfl (lv_at hl 1 rfl) ?_
  refine lv_iadd hx hb dX7_bridgeOf_7 ?_
  refine cNi (wr := [(h, .inr (7, [.ref a]))]) (rest := []) (k_at a 41 f (8 + v) (of_decide_eq_true rfl)) okS_X9_at 16 rfl hx hb hml hown hts hK hP hD hS hA hN hl.1 [1] [0] rfl rfl rfl rfl (by decide) rfl (Nat.le_of_ble_eq_true rfl) (Nat.le_of_ble_eq_true rfl) (Nat.le_of_ble_eq_true rfl) (Nat.le_of_ble_eq_true rfl) (Nat.le_of_ble_eq_true rfl) dX7_bridgeOf_8 (fun r_2 u_1 H locs hw_u_1 hP hD hS => ?_)
  obtain rfl := hw_u_1
  have hP : va_P D classes [(h, .inr (7, [.ref a])), (a, .inl (cI, 41, .inl f))] H := hP
  have hD : va_D A [(h, .inr (7, [.ref a])), (a, .inl (cI, 41, .inl f))] := hD
  exact hret (atF 41 f (8 + v)) () _ _ _ _ dX7_bridgeOf_11 rfl hE hP hD hS
noncomputable def f_e_themeOf (f : Nat → Int32) (v : Int32) : Int32 := (atF 41 f (14 + v))
def rm_e_themeOf : Room := { frames := 1, cells := 0, slots := 0, locals := 21 }
set_option maxHeartbeats 4000000 in
set_option maxRecDepth 100000 in
theorem e_themeOf {l : Launch} {D : va_G} {cI cZ : ClassId} {sz : Nat} (h a : Nat) (f : Nat → Int32) (v : Int32) : KI l yX7_themeOf cX7_themeOf 2 (some .int) rm_e_themeOf D cI cZ [.ref h, .int v] sz [(h, .inr (7, [.ref a])), (a, .inl (cI, 41, .inl f))] (fun (r : Int32) (_ : Unit) => r = f_e_themeOf f v) (fun (_ : Unit) => [(h, .inr (7, [.ref a])), (a, .inl (cI, 41, .inl f))]) := by
  refine KI.go rfl (Nat.le_of_ble_eq_true rfl) ?_
  intro p e s m args below meth c ls A Q hx hb hml hts hown hin hP hK hD hS hA hN hl hret
  have hl : lv_has ls 2 [(0, .ref h), (1, .int v)] := hl
  obtain ⟨RES, hE⟩ : ∃ xRES, f_e_themeOf f v = xRES := ⟨_, rfl⟩
  rw [hE] at hret
  rw [f_e_themeOf] at hE
  refine lv_aload_n hx hb dX7_themeOf_0 rfl (lv_at hl 0 rfl) ?_
  refine va_get (D := D) (ci := 7) (v := .ref a) (C := RX7) (T := TX7) (N := 1) hx hb hts iX7 hown hK hP 0 rfl rfl 0 (Nat.le_of_ble_eq_true rfl) (hts _ wd_15) (fun _ h9 => h9) rfl dX7_themeOf_1 ?_
  refine lv_bipush (v := 14) hx hb dX7_themeOf_4 rfl ?_
  refine lv_iload_n hx hb dX7_themeOf_6 rfl (lv_at hl 1 rfl) ?_
  refine lv_iadd hx hb dX7_themeOf_7 ?_
  refine cNi (wr := [(h, .inr (7, [.ref a]))]) (rest := []) (k_at a 41 f (14 + v) (of_decide_eq_true rfl)) okS_X9_at 16 rfl hx hb hml hown hts hK hP hD hS hA hN hl.1 [1] [0] rfl rfl rfl rfl (by decide) rfl (Nat.le_of_ble_eq_true rfl) (Nat.le_of_ble_eq_true rfl) (Nat.le_of_ble_eq_true rfl) (Nat.le_of_ble_eq_true rfl) (Nat.le_of_ble_eq_true rfl) dX7_themeOf_8 (fun r_2 u_1 H locs hw_u_1 hP hD hS => ?_)
  obtain rfl := hw_u_1
  have hP : va_P D classes [(h, .inr (7, [.ref a])), (a, .inl (cI, 41, .inl f))] H := hP
  have hD : va_D A [(h, .inr (7, [.ref a])), (a, .inl (cI, 41, .inl f))] := hD
  exact hret (atF 41 f (14 + v)) () _ _ _ _ dX7_themeOf_11 rfl hE hP hD hS
noncomputable def f_e_fateOf (f : Nat → Int32) (v : Int32) : Int32 := (atF 41 f (20 + v))
def rm_e_fateOf : Room := { frames := 1, cells := 0, slots := 0, locals := 21 }
set_option maxHeartbeats 4000000 in
set_option maxRecDepth 100000 in
theorem e_fateOf {l : Launch} {D : va_G} {cI cZ : ClassId} {sz : Nat} (h a : Nat) (f : Nat → Int32) (v : Int32) : KI l yX7_fateOf cX7_fateOf 2 (some .int) rm_e_fateOf D cI cZ [.ref h, .int v] sz [(h, .inr (7, [.ref a])), (a, .inl (cI, 41, .inl f))] (fun (r : Int32) (_ : Unit) => r = f_e_fateOf f v) (fun (_ : Unit) => [(h, .inr (7, [.ref a])), (a, .inl (cI, 41, .inl f))]) := by
  refine KI.go rfl (Nat.le_of_ble_eq_true rfl) ?_
  intro p e s m args below meth c ls A Q hx hb hml hts hown hin hP hK hD hS hA hN hl hret
  have hl : lv_has ls 2 [(0, .ref h), (1, .int v)] := hl
  obtain ⟨RES, hE⟩ : ∃ xRES, f_e_fateOf f v = xRES := ⟨_, rfl⟩
  rw [hE] at hret
  rw [f_e_fateOf] at hE
  refine lv_aload_n hx hb dX7_fateOf_0 rfl (lv_at hl 0 rfl) ?_
  refine va_get (D := D) (ci := 7) (v := .ref a) (C := RX7) (T := TX7) (N := 1) hx hb hts iX7 hown hK hP 0 rfl rfl 0 (Nat.le_of_ble_eq_true rfl) (hts _ wd_15) (fun _ h9 => h9) rfl dX7_fateOf_1 ?_
  refine lv_bipush (v := 20) hx hb dX7_fateOf_4 rfl ?_
  refine lv_iload_n hx hb dX7_fateOf_6 rfl (lv_at hl 1 rfl) ?_
  refine lv_iadd hx hb dX7_fateOf_7 ?_
  refine cNi (wr := [(h, .inr (7, [.ref a]))]) (rest := []) (k_at a 41 f (20 + v) (of_decide_eq_true rfl)) okS_X9_at 16 rfl hx hb hml hown hts hK hP hD hS hA hN hl.1 [1] [0] rfl rfl rfl rfl (by decide) rfl (Nat.le_of_ble_eq_true rfl) (Nat.le_of_ble_eq_true rfl) (Nat.le_of_ble_eq_true rfl) (Nat.le_of_ble_eq_true rfl) (Nat.le_of_ble_eq_true rfl) dX7_fateOf_8 (fun r_2 u_1 H locs hw_u_1 hP hD hS => ?_)
  obtain rfl := hw_u_1
  have hP : va_P D classes [(h, .inr (7, [.ref a])), (a, .inl (cI, 41, .inl f))] H := hP
  have hD : va_D A [(h, .inr (7, [.ref a])), (a, .inl (cI, 41, .inl f))] := hD
  exact hret (atF 41 f (20 + v)) () _ _ _ _ dX7_fateOf_11 rfl hE hP hD hS
noncomputable def f_e_lyingAt (f : Nat → Int32) (v : Int32) : Int32 := (atF 41 f (27 + v))
def rm_e_lyingAt : Room := { frames := 1, cells := 0, slots := 0, locals := 21 }
set_option maxHeartbeats 4000000 in
set_option maxRecDepth 100000 in
theorem e_lyingAt {l : Launch} {D : va_G} {cI cZ : ClassId} {sz : Nat} (h a : Nat) (f : Nat → Int32) (v : Int32) : KI l yX7_lyingAt cX7_lyingAt 2 (some .int) rm_e_lyingAt D cI cZ [.ref h, .int v] sz [(h, .inr (7, [.ref a])), (a, .inl (cI, 41, .inl f))] (fun (r : Int32) (_ : Unit) => r = f_e_lyingAt f v) (fun (_ : Unit) => [(h, .inr (7, [.ref a])), (a, .inl (cI, 41, .inl f))]) := by
  refine KI.go rfl (Nat.le_of_ble_eq_true rfl) ?_
  intro p e s m args below meth c ls A Q hx hb hml hts hown hin hP hK hD hS hA hN hl hret
  have hl : lv_has ls 2 [(0, .ref h), (1, .int v)] := hl
  obtain ⟨RES, hE⟩ : ∃ xRES, f_e_lyingAt f v = xRES := ⟨_, rfl⟩
  rw [hE] at hret
  rw [f_e_lyingAt] at hE
  refine lv_aload_n hx hb dX7_lyingAt_0 rfl (lv_at hl 0 rfl) ?_
  refine va_get (D := D) (ci := 7) (v := .ref a) (C := RX7) (T := TX7) (N := 1) hx hb hts iX7 hown hK hP 0 rfl rfl 0 (Nat.le_of_ble_eq_true rfl) (hts _ wd_15) (fun _ h9 => h9) rfl dX7_lyingAt_1 ?_
  refine lv_bipush (v := 27) hx hb dX7_lyingAt_4 rfl ?_
  refine lv_iload_n hx hb dX7_lyingAt_6 rfl (lv_at hl 1 rfl) ?_
  refine lv_iadd hx hb dX7_lyingAt_7 ?_
  refine cNi (wr := [(h, .inr (7, [.ref a]))]) (rest := []) (k_at a 41 f (27 + v) (of_decide_eq_true rfl)) okS_X9_at 16 rfl hx hb hml hown hts hK hP hD hS hA hN hl.1 [1] [0] rfl rfl rfl rfl (by decide) rfl (Nat.le_of_ble_eq_true rfl) (Nat.le_of_ble_eq_true rfl) (Nat.le_of_ble_eq_true rfl) (Nat.le_of_ble_eq_true rfl) (Nat.le_of_ble_eq_true rfl) dX7_lyingAt_8 (fun r_2 u_1 H locs hw_u_1 hP hD hS => ?_)
  obtain rfl := hw_u_1
  have hP : va_P D classes [(h, .inr (7, [.ref a])), (a, .inl (cI, 41, .inl f))] H := hP
  have hD : va_D A [(h, .inr (7, [.ref a])), (a, .inl (cI, 41, .inl f))] := hD
  exact hret (atF 41 f (27 + v)) () _ _ _ _ dX7_lyingAt_11 rfl hE hP hD hS
noncomputable def f_e_passedAt (f : Nat → Int32) (v : Int32) : Int32 := (atF 41 f (34 + v))
def rm_e_passedAt : Room := { frames := 1, cells := 0, slots := 0, locals := 21 }
set_option maxHeartbeats 4000000 in
set_option maxRecDepth 100000 in
theorem e_passedAt {l : Launch} {D : va_G} {cI cZ : ClassId} {sz : Nat} (h a : Nat) (f : Nat → Int32) (v : Int32) : KI l yX7_passedAt cX7_passedAt 2 (some .int) rm_e_passedAt D cI cZ [.ref h, .int v] sz [(h, .inr (7, [.ref a])), (a, .inl (cI, 41, .inl f))] (fun (r : Int32) (_ : Unit) => r = f_e_passedAt f v) (fun (_ : Unit) => [(h, .inr (7, [.ref a])), (a, .inl (cI, 41, .inl f))]) := by
  refine KI.go rfl (Nat.le_of_ble_eq_true rfl) ?_
  intro p e s m args below meth c ls A Q hx hb hml hts hown hin hP hK hD hS hA hN hl hret
  have hl : lv_has ls 2 [(0, .ref h), (1, .int v)] := hl
  obtain ⟨RES, hE⟩ : ∃ xRES, f_e_passedAt f v = xRES := ⟨_, rfl⟩
  rw [hE] at hret
  rw [f_e_passedAt] at hE
  refine lv_aload_n hx hb dX7_passedAt_0 rfl (lv_at hl 0 rfl) ?_
  refine va_get (D := D) (ci := 7) (v := .ref a) (C := RX7) (T := TX7) (N := 1) hx hb hts iX7 hown hK hP 0 rfl rfl 0 (Nat.le_of_ble_eq_true rfl) (hts _ wd_15) (fun _ h9 => h9) rfl dX7_passedAt_1 ?_
  refine lv_bipush (v := 34) hx hb dX7_passedAt_4 rfl ?_
  refine lv_iload_n hx hb dX7_passedAt_6 rfl (lv_at hl 1 rfl) ?_
  refine lv_iadd hx hb dX7_passedAt_7 ?_
  refine cNi (wr := [(h, .inr (7, [.ref a]))]) (rest := []) (k_at a 41 f (34 + v) (of_decide_eq_true rfl)) okS_X9_at 16 rfl hx hb hml hown hts hK hP hD hS hA hN hl.1 [1] [0] rfl rfl rfl rfl (by decide) rfl (Nat.le_of_ble_eq_true rfl) (Nat.le_of_ble_eq_true rfl) (Nat.le_of_ble_eq_true rfl) (Nat.le_of_ble_eq_true rfl) (Nat.le_of_ble_eq_true rfl) dX7_passedAt_8 (fun r_2 u_1 H locs hw_u_1 hP hD hS => ?_)
  obtain rfl := hw_u_1
  have hP : va_P D classes [(h, .inr (7, [.ref a])), (a, .inl (cI, 41, .inl f))] H := hP
  have hD : va_D A [(h, .inr (7, [.ref a])), (a, .inl (cI, 41, .inl f))] := hD
  exact hret (atF 41 f (34 + v)) () _ _ _ _ dX7_passedAt_11 rfl hE hP hD hS
noncomputable def f_e_leave (f : Nat → Int32) (v : Int32) (x : Int32) : (Nat → Int32) := (putF 41 f (2 + v) x)
def rm_e_leave : Room := { frames := 1, cells := 0, slots := 0, locals := 22 }
set_option maxHeartbeats 4000000 in
set_option maxRecDepth 100000 in
theorem e_leave {l : Launch} {D : va_G} {cI cZ : ClassId} {sz : Nat} (h a : Nat) (f : Nat → Int32) (v : Int32) (x : Int32) : KV l yX7_leave cX7_leave 3 rm_e_leave D cI cZ [.ref h, .int v, .int x] sz [(h, .inr (7, [.ref a])), (a, .inl (cI, 41, .inl f))] (fun (u : (Nat → Int32)) => u = f_e_leave f v x) (fun (u : (Nat → Int32)) => [(h, .inr (7, [.ref a])), (a, .inl (cI, 41, .inl u))]) := by
  refine KV.go rfl (Nat.le_of_ble_eq_true rfl) ?_
  intro p e s m args below meth c ls A Q hx hb hml hts hown hin hP hK hD hS hA hN hl hret
  have hl : lv_has ls 3 [(0, .ref h), (1, .int v), (2, .int x)] := hl
  obtain ⟨RES, hE⟩ : ∃ xRES, f_e_leave f v x = xRES := ⟨_, rfl⟩
  rw [hE] at hret
  rw [f_e_leave] at hE
  refine lv_aload_n hx hb dX7_leave_0 rfl (lv_at hl 0 rfl) ?_
  refine va_get (D := D) (ci := 7) (v := .ref a) (C := RX7) (T := TX7) (N := 1) hx hb hts iX7 hown hK hP 0 rfl rfl 0 (Nat.le_of_ble_eq_true rfl) (hts _ wd_15) (fun _ h9 => h9) rfl dX7_leave_1 ?_
  refine lv_iconst (v := 2) hx hb dX7_leave_4 rfl ?_
  refine lv_iload_n hx hb dX7_leave_5 rfl (lv_at hl 1 rfl) ?_
  refine lv_iadd hx hb dX7_leave_6 ?_
  refine lv_iload_n hx hb dX7_leave_7 rfl (lv_at hl 2 rfl) ?_
  refine cNv (wr := [(h, .inr (7, [.ref a]))]) (rest := []) (k_put a 41 f (2 + v) x (of_decide_eq_true rfl)) okS_X9_put 17 rfl hx hb hml hown hts hK hP hD hS hA hN hl.1 [1] [0] rfl rfl rfl rfl (by decide) rfl (Nat.le_of_ble_eq_true rfl) (Nat.le_of_ble_eq_true rfl) (Nat.le_of_ble_eq_true rfl) (Nat.le_of_ble_eq_true rfl) (Nat.le_of_ble_eq_true rfl) dX7_leave_8 (fun u_1 H locs hw_u_1 hP hD hS => ?_)
  have hP : va_P D classes [(h, .inr (7, [.ref a])), (a, .inl (cI, 41, .inl (putF 41 f (2 + v) x)))] H := hP
  have hD : va_D A [(h, .inr (7, [.ref a])), (a, .inl (cI, 41, .inl (putF 41 f (2 + v) x)))] := hD
  exact hret (putF 41 f (2 + v) x) _ _ _ _ dX7_leave_11 hE hP hD hS
noncomputable def f_e_place (f : Nat → Int32) (v : Int32) (x : Int32) : (Nat → Int32) := (putF 41 f (8 + v) x)
def rm_e_place : Room := { frames := 1, cells := 0, slots := 0, locals := 22 }
set_option maxHeartbeats 4000000 in
set_option maxRecDepth 100000 in
theorem e_place {l : Launch} {D : va_G} {cI cZ : ClassId} {sz : Nat} (h a : Nat) (f : Nat → Int32) (v : Int32) (x : Int32) : KV l yX7_place cX7_place 3 rm_e_place D cI cZ [.ref h, .int v, .int x] sz [(h, .inr (7, [.ref a])), (a, .inl (cI, 41, .inl f))] (fun (u : (Nat → Int32)) => u = f_e_place f v x) (fun (u : (Nat → Int32)) => [(h, .inr (7, [.ref a])), (a, .inl (cI, 41, .inl u))]) := by
  refine KV.go rfl (Nat.le_of_ble_eq_true rfl) ?_
  intro p e s m args below meth c ls A Q hx hb hml hts hown hin hP hK hD hS hA hN hl hret
  have hl : lv_has ls 3 [(0, .ref h), (1, .int v), (2, .int x)] := hl
  obtain ⟨RES, hE⟩ : ∃ xRES, f_e_place f v x = xRES := ⟨_, rfl⟩
  rw [hE] at hret
  rw [f_e_place] at hE
  refine lv_aload_n hx hb dX7_place_0 rfl (lv_at hl 0 rfl) ?_
  refine va_get (D := D) (ci := 7) (v := .ref a) (C := RX7) (T := TX7) (N := 1) hx hb hts iX7 hown hK hP 0 rfl rfl 0 (Nat.le_of_ble_eq_true rfl) (hts _ wd_15) (fun _ h9 => h9) rfl dX7_place_1 ?_
  refine lv_bipush (v := 8) hx hb dX7_place_4 rfl ?_
  refine lv_iload_n hx hb dX7_place_6 rfl (lv_at hl 1 rfl) ?_
  refine lv_iadd hx hb dX7_place_7 ?_
  refine lv_iload_n hx hb dX7_place_8 rfl (lv_at hl 2 rfl) ?_
  refine cNv (wr := [(h, .inr (7, [.ref a]))]) (rest := []) (k_put a 41 f (8 + v) x (of_decide_eq_true rfl)) okS_X9_put 17 rfl hx hb hml hown hts hK hP hD hS hA hN hl.1 [1] [0] rfl rfl rfl rfl (by decide) rfl (Nat.le_of_ble_eq_true rfl) (Nat.le_of_ble_eq_true rfl) (Nat.le_of_ble_eq_true rfl) (Nat.le_of_ble_eq_true rfl) (Nat.le_of_ble_eq_true rfl) dX7_place_9 (fun u_1 H locs hw_u_1 hP hD hS => ?_)
  have hP : va_P D classes [(h, .inr (7, [.ref a])), (a, .inl (cI, 41, .inl (putF 41 f (8 + v) x)))] H := hP
  have hD : va_D A [(h, .inr (7, [.ref a])), (a, .inl (cI, 41, .inl (putF 41 f (8 + v) x)))] := hD
  exact hret (putF 41 f (8 + v) x) _ _ _ _ dX7_place_12 hE hP hD hS
noncomputable def f_e_turnTo (f : Nat → Int32) (v : Int32) (x : Int32) : (Nat → Int32) := (putF 41 f (14 + v) x)
def rm_e_turnTo : Room := { frames := 1, cells := 0, slots := 0, locals := 22 }
set_option maxHeartbeats 4000000 in
set_option maxRecDepth 100000 in
theorem e_turnTo {l : Launch} {D : va_G} {cI cZ : ClassId} {sz : Nat} (h a : Nat) (f : Nat → Int32) (v : Int32) (x : Int32) : KV l yX7_turnTo cX7_turnTo 3 rm_e_turnTo D cI cZ [.ref h, .int v, .int x] sz [(h, .inr (7, [.ref a])), (a, .inl (cI, 41, .inl f))] (fun (u : (Nat → Int32)) => u = f_e_turnTo f v x) (fun (u : (Nat → Int32)) => [(h, .inr (7, [.ref a])), (a, .inl (cI, 41, .inl u))]) := by
  refine KV.go rfl (Nat.le_of_ble_eq_true rfl) ?_
  intro p e s m args below meth c ls A Q hx hb hml hts hown hin hP hK hD hS hA hN hl hret
  have hl : lv_has ls 3 [(0, .ref h), (1, .int v), (2, .int x)] := hl
  obtain ⟨RES, hE⟩ : ∃ xRES, f_e_turnTo f v x = xRES := ⟨_, rfl⟩
  rw [hE] at hret
  rw [f_e_turnTo] at hE
  refine lv_aload_n hx hb dX7_turnTo_0 rfl (lv_at hl 0 rfl) ?_
  refine va_get (D := D) (ci := 7) (v := .ref a) (C := RX7) (T := TX7) (N := 1) hx hb hts iX7 hown hK hP 0 rfl rfl 0 (Nat.le_of_ble_eq_true rfl) (hts _ wd_15) (fun _ h9 => h9) rfl dX7_turnTo_1 ?_
  refine lv_bipush (v := 14) hx hb dX7_turnTo_4 rfl ?_
  refine lv_iload_n hx hb dX7_turnTo_6 rfl (lv_at hl 1 rfl) ?_
  refine lv_iadd hx hb dX7_turnTo_7 ?_
  refine lv_iload_n hx hb dX7_turnTo_8 rfl (lv_at hl 2 rfl) ?_
  refine cNv (wr := [(h, .inr (7, [.ref a]))]) (rest := []) (k_put a 41 f (14 + v) x (of_decide_eq_true rfl)) okS_X9_put 17 rfl hx hb hml hown hts hK hP hD hS hA hN hl.1 [1] [0] rfl rfl rfl rfl (by decide) rfl (Nat.le_of_ble_eq_true rfl) (Nat.le_of_ble_eq_true rfl) (Nat.le_of_ble_eq_true rfl) (Nat.le_of_ble_eq_true rfl) (Nat.le_of_ble_eq_true rfl) dX7_turnTo_9 (fun u_1 H locs hw_u_1 hP hD hS => ?_)
  have hP : va_P D classes [(h, .inr (7, [.ref a])), (a, .inl (cI, 41, .inl (putF 41 f (14 + v) x)))] H := hP
  have hD : va_D A [(h, .inr (7, [.ref a])), (a, .inl (cI, 41, .inl (putF 41 f (14 + v) x)))] := hD
  exact hret (putF 41 f (14 + v) x) _ _ _ _ dX7_turnTo_12 hE hP hD hS
noncomputable def f_e_lay (f : Nat → Int32) (v : Int32) (x : Int32) : (Nat → Int32) := (putF 41 (putF 41 f (20 + v) 3) (27 + v) x)
def rm_e_lay : Room := { frames := 1, cells := 0, slots := 0, locals := 22 }
set_option maxHeartbeats 4000000 in
set_option maxRecDepth 100000 in
theorem e_lay {l : Launch} {D : va_G} {cI cZ : ClassId} {sz : Nat} (h a : Nat) (f : Nat → Int32) (v : Int32) (x : Int32) : KV l yX7_lay cX7_lay 3 rm_e_lay D cI cZ [.ref h, .int v, .int x] sz [(h, .inr (7, [.ref a])), (a, .inl (cI, 41, .inl f))] (fun (u : (Nat → Int32)) => u = f_e_lay f v x) (fun (u : (Nat → Int32)) => [(h, .inr (7, [.ref a])), (a, .inl (cI, 41, .inl u))]) := by
  refine KV.go rfl (Nat.le_of_ble_eq_true rfl) ?_
  intro p e s m args below meth c ls A Q hx hb hml hts hown hin hP hK hD hS hA hN hl hret
  have hl : lv_has ls 3 [(0, .ref h), (1, .int v), (2, .int x)] := hl
  obtain ⟨RES, hE⟩ : ∃ xRES, f_e_lay f v x = xRES := ⟨_, rfl⟩
  rw [hE] at hret
  rw [f_e_lay] at hE
  refine lv_aload_n hx hb dX7_lay_0 rfl (lv_at hl 0 rfl) ?_
  refine va_get (D := D) (ci := 7) (v := .ref a) (C := RX7) (T := TX7) (N := 1) hx hb hts iX7 hown hK hP 0 rfl rfl 0 (Nat.le_of_ble_eq_true rfl) (hts _ wd_15) (fun _ h9 => h9) rfl dX7_lay_1 ?_
  refine lv_bipush (v := 20) hx hb dX7_lay_4 rfl ?_
  refine lv_iload_n hx hb dX7_lay_6 rfl (lv_at hl 1 rfl) ?_
  refine lv_iadd hx hb dX7_lay_7 ?_
  refine lv_iconst (v := 3) hx hb dX7_lay_8 rfl ?_
  refine cNv (wr := [(h, .inr (7, [.ref a]))]) (rest := []) (k_put a 41 f (20 + v) 3 (of_decide_eq_true rfl)) okS_X9_put 17 rfl hx hb hml hown hts hK hP hD hS hA hN hl.1 [1] [0] rfl rfl rfl rfl (by decide) rfl (Nat.le_of_ble_eq_true rfl) (Nat.le_of_ble_eq_true rfl) (Nat.le_of_ble_eq_true rfl) (Nat.le_of_ble_eq_true rfl) (Nat.le_of_ble_eq_true rfl) dX7_lay_9 (fun u_1 H locs hw_u_1 hP hD hS => ?_)
  have hP : va_P D classes [(h, .inr (7, [.ref a])), (a, .inl (cI, 41, .inl (putF 41 f (20 + v) 3)))] H := hP
  have hD : va_D A [(h, .inr (7, [.ref a])), (a, .inl (cI, 41, .inl (putF 41 f (20 + v) 3)))] := hD
  refine lv_aload_n hx hb dX7_lay_12 rfl (lv_at hl 0 rfl) ?_
  refine va_get (D := D) (ci := 7) (v := .ref a) (C := RX7) (T := TX7) (N := 1) hx hb hts iX7 hown hK hP 0 rfl rfl 0 (Nat.le_of_ble_eq_true rfl) (hts _ wd_15) (fun _ h9 => h9) rfl dX7_lay_13 ?_
  refine lv_bipush (v := 27) hx hb dX7_lay_16 rfl ?_
  refine lv_iload_n hx hb dX7_lay_18 rfl (lv_at hl 1 rfl) ?_
  refine lv_iadd hx hb dX7_lay_19 ?_
  refine lv_iload_n hx hb dX7_lay_20 rfl (lv_at hl 2 rfl) ?_
  refine cNv (wr := [(h, .inr (7, [.ref a]))]) (rest := []) (k_put a 41 (putF 41 f (20 + v) 3) (27 + v) x (of_decide_eq_true rfl)) okS_X9_put 17 rfl hx hb hml hown hts hK hP hD hS hA hN hl.1 [1] [0] rfl rfl rfl rfl (by decide) rfl (Nat.le_of_ble_eq_true rfl) (Nat.le_of_ble_eq_true rfl) (Nat.le_of_ble_eq_true rfl) (Nat.le_of_ble_eq_true rfl) (Nat.le_of_ble_eq_true rfl) dX7_lay_21 (fun u_3 H locs hw_u_3 hP hD hS => ?_)
  have hP : va_P D classes [(h, .inr (7, [.ref a])), (a, .inl (cI, 41, .inl (putF 41 (putF 41 f (20 + v) 3) (27 + v) x)))] H := hP
  have hD : va_D A [(h, .inr (7, [.ref a])), (a, .inl (cI, 41, .inl (putF 41 (putF 41 f (20 + v) 3) (27 + v) x)))] := hD
  exact hret (putF 41 (putF 41 f (20 + v) 3) (27 + v) x) _ _ _ _ dX7_lay_24 hE hP hD hS
noncomputable def f_e_spendMinutes (f : Nat → Int32) (v : Int32) : (Nat → Int32) := (putF 41 f 0 ((f_e_minutes f) + v))
def rm_e_spendMinutes : Room := { frames := 2, cells := 0, slots := 0, locals := 41 }
set_option maxHeartbeats 4000000 in
set_option maxRecDepth 100000 in
theorem e_spendMinutes {l : Launch} {D : va_G} {cI cZ : ClassId} {sz : Nat} (h a : Nat) (f : Nat → Int32) (v : Int32) : KV l yX7_spendMinutes cX7_spendMinutes 2 rm_e_spendMinutes D cI cZ [.ref h, .int v] sz [(h, .inr (7, [.ref a])), (a, .inl (cI, 41, .inl f))] (fun (u : (Nat → Int32)) => u = f_e_spendMinutes f v) (fun (u : (Nat → Int32)) => [(h, .inr (7, [.ref a])), (a, .inl (cI, 41, .inl u))]) := by
  refine KV.go rfl (Nat.le_of_ble_eq_true rfl) ?_
  intro p e s m args below meth c ls A Q hx hb hml hts hown hin hP hK hD hS hA hN hl hret
  have hl : lv_has ls 2 [(0, .ref h), (1, .int v)] := hl
  obtain ⟨RES, hE⟩ : ∃ xRES, f_e_spendMinutes f v = xRES := ⟨_, rfl⟩
  rw [hE] at hret
  rw [f_e_spendMinutes] at hE
  refine lv_aload_n hx hb dX7_spendMinutes_0 rfl (lv_at hl 0 rfl) ?_
  refine va_get (D := D) (ci := 7) (v := .ref a) (C := RX7) (T := TX7) (N := 1) hx hb hts iX7 hown hK hP 0 rfl rfl 0 (Nat.le_of_ble_eq_true rfl) (hts _ wd_15) (fun _ h9 => h9) rfl dX7_spendMinutes_1 ?_
  refine lv_iconst (v := 0) hx hb dX7_spendMinutes_4 rfl ?_
  refine lv_aload_n hx hb dX7_spendMinutes_5 rfl (lv_at hl 0 rfl) ?_
  refine cVi (wr := []) (rest := [.int 0, .ref a]) (e_minutes h a f) okV_X7_minutes wd_140 hx hb hml hown hts hK hP hD hS hA hN hl.1 [0, 1] [] rfl rfl rfl rfl (of_decide_eq_true rfl) rfl rfl rfl (Nat.le_of_ble_eq_true rfl) (Nat.le_of_ble_eq_true rfl) (Nat.le_of_ble_eq_true rfl) (Nat.le_of_ble_eq_true rfl) (Nat.le_of_ble_eq_true rfl) dX7_spendMinutes_6 (fun r_2 u_1 H locs hw_u_1 hP hD hS => ?_)
  replace hw_u_1 : r_2 = (f_e_minutes f) := hw_u_1
  rw [hw_u_1]
  clear hw_u_1
  have hP : va_P D classes [(h, .inr (7, [.ref a])), (a, .inl (cI, 41, .inl f))] H := hP
  have hD : va_D A [(h, .inr (7, [.ref a])), (a, .inl (cI, 41, .inl f))] := hD
  refine lv_iload_n hx hb dX7_spendMinutes_9 rfl (lv_at hl 1 rfl) ?_
  refine lv_iadd hx hb dX7_spendMinutes_10 ?_
  refine cNv (wr := [(h, .inr (7, [.ref a]))]) (rest := []) (k_put a 41 f 0 ((f_e_minutes f) + v) (of_decide_eq_true rfl)) okS_X9_put 17 rfl hx hb hml hown hts hK hP hD hS hA hN hl.1 [1] [0] rfl rfl rfl rfl (by decide) rfl (Nat.le_of_ble_eq_true rfl) (Nat.le_of_ble_eq_true rfl) (Nat.le_of_ble_eq_true rfl) (Nat.le_of_ble_eq_true rfl) (Nat.le_of_ble_eq_true rfl) dX7_spendMinutes_11 (fun u_3 H locs hw_u_3 hP hD hS => ?_)
  have hP : va_P D classes [(h, .inr (7, [.ref a])), (a, .inl (cI, 41, .inl (putF 41 f 0 ((f_e_minutes f) + v))))] H := hP
  have hD : va_D A [(h, .inr (7, [.ref a])), (a, .inl (cI, 41, .inl (putF 41 f 0 ((f_e_minutes f) + v))))] := hD
  exact hret (putF 41 f 0 ((f_e_minutes f) + v)) _ _ _ _ dX7_spendMinutes_14 hE hP hD hS
noncomputable def f_e_isReconciled (f : Nat → Int32) (v : Int32) : Int32 := (if (((f_e_reconciledSet f) >>> (v &&& 31)) &&& 1) = 0 then 0 else 1)
def rm_e_isReconciled : Room := { frames := 2, cells := 0, slots := 0, locals := 41 }
set_option maxHeartbeats 4000000 in
set_option maxRecDepth 100000 in
theorem e_isReconciled {l : Launch} {D : va_G} {cI cZ : ClassId} {sz : Nat} (h a : Nat) (f : Nat → Int32) (v : Int32) : KI l yX7_isReconciled cX7_isReconciled 2 (some .boolean) rm_e_isReconciled D cI cZ [.ref h, .int v] sz [(h, .inr (7, [.ref a])), (a, .inl (cI, 41, .inl f))] (fun (r : Int32) (_ : Unit) => r = f_e_isReconciled f v) (fun (_ : Unit) => [(h, .inr (7, [.ref a])), (a, .inl (cI, 41, .inl f))]) := by
  refine KI.go rfl (Nat.le_of_ble_eq_true rfl) ?_
  intro p e s m args below meth c ls A Q hx hb hml hts hown hin hP hK hD hS hA hN hl hret
  have hl : lv_has ls 2 [(0, .ref h), (1, .int v)] := hl
  obtain ⟨RES, hE⟩ : ∃ xRES, f_e_isReconciled f v = xRES := ⟨_, rfl⟩
  rw [hE] at hret
  rw [f_e_isReconciled] at hE
  refine lv_aload_n hx hb dX7_isReconciled_0 rfl (lv_at hl 0 rfl) ?_
  refine cVi (wr := []) (rest := []) (e_reconciledSet h a f) okV_X7_reconciledSet wd_144 hx hb hml hown hts hK hP hD hS hA hN hl.1 [0, 1] [] rfl rfl rfl rfl (of_decide_eq_true rfl) rfl rfl rfl (Nat.le_of_ble_eq_true rfl) (Nat.le_of_ble_eq_true rfl) (Nat.le_of_ble_eq_true rfl) (Nat.le_of_ble_eq_true rfl) (Nat.le_of_ble_eq_true rfl) dX7_isReconciled_1 (fun r_2 u_1 H locs hw_u_1 hP hD hS => ?_)
  replace hw_u_1 : r_2 = (f_e_reconciledSet f) := hw_u_1
  rw [hw_u_1]
  clear hw_u_1
  have hP : va_P D classes [(h, .inr (7, [.ref a])), (a, .inl (cI, 41, .inl f))] H := hP
  have hD : va_D A [(h, .inr (7, [.ref a])), (a, .inl (cI, 41, .inl f))] := hD
  refine lv_iload_n hx hb dX7_isReconciled_4 rfl (lv_at hl 1 rfl) ?_
  refine lv_ishr hx hb dX7_isReconciled_5 ?_
  refine lv_iconst (v := 1) hx hb dX7_isReconciled_6 rfl ?_
  refine lv_iand hx hb dX7_isReconciled_7 ?_
  refine lv_if_eq (tgt := 15) hx hb dX7_isReconciled_8 rfl (fun c_3 => ?_) (fun c_3 => ?_)
  · rw [if_pos c_3] at hE
    refine lv_iconst (v := 0) hx hb dX7_isReconciled_15 rfl ?_
    exact hret 0 () _ _ _ _ dX7_isReconciled_16 rfl hE hP hD hS
  · rw [if_neg c_3] at hE
    refine lv_iconst (v := 1) hx hb dX7_isReconciled_11 rfl ?_
    refine lv_goto (tgt := 16) hx hb dX7_isReconciled_12 rfl ?_
    exact hret 1 () _ _ _ _ dX7_isReconciled_16 rfl hE hP hD hS
noncomputable def f_e_reconcile (f : Nat → Int32) (v : Int32) : (Nat → Int32) := (f_e_place (putF 41 f 1 ((f_e_reconciledSet f) ||| (1 <<< (v &&& 31)))) v (-1))
def rm_e_reconcile : Room := { frames := 2, cells := 0, slots := 0, locals := 44 }
set_option maxHeartbeats 4000000 in
set_option maxRecDepth 100000 in
theorem e_reconcile {l : Launch} {D : va_G} {cI cZ : ClassId} {sz : Nat} (h a : Nat) (f : Nat → Int32) (v : Int32) : KV l yX7_reconcile cX7_reconcile 2 rm_e_reconcile D cI cZ [.ref h, .int v] sz [(h, .inr (7, [.ref a])), (a, .inl (cI, 41, .inl f))] (fun (u : (Nat → Int32)) => u = f_e_reconcile f v) (fun (u : (Nat → Int32)) => [(h, .inr (7, [.ref a])), (a, .inl (cI, 41, .inl u))]) := by
  refine KV.go rfl (Nat.le_of_ble_eq_true rfl) ?_
  intro p e s m args below meth c ls A Q hx hb hml hts hown hin hP hK hD hS hA hN hl hret
  have hl : lv_has ls 2 [(0, .ref h), (1, .int v)] := hl
  obtain ⟨RES, hE⟩ : ∃ xRES, f_e_reconcile f v = xRES := ⟨_, rfl⟩
  rw [hE] at hret
  rw [f_e_reconcile] at hE
  refine lv_aload_n hx hb dX7_reconcile_0 rfl (lv_at hl 0 rfl) ?_
  refine va_get (D := D) (ci := 7) (v := .ref a) (C := RX7) (T := TX7) (N := 1) hx hb hts iX7 hown hK hP 0 rfl rfl 0 (Nat.le_of_ble_eq_true rfl) (hts _ wd_15) (fun _ h9 => h9) rfl dX7_reconcile_1 ?_
  refine lv_iconst (v := 1) hx hb dX7_reconcile_4 rfl ?_
  refine lv_aload_n hx hb dX7_reconcile_5 rfl (lv_at hl 0 rfl) ?_
  refine cVi (wr := []) (rest := [.int 1, .ref a]) (e_reconciledSet h a f) okV_X7_reconciledSet wd_144 hx hb hml hown hts hK hP hD hS hA hN hl.1 [0, 1] [] rfl rfl rfl rfl (of_decide_eq_true rfl) rfl rfl rfl (Nat.le_of_ble_eq_true rfl) (Nat.le_of_ble_eq_true rfl) (Nat.le_of_ble_eq_true rfl) (Nat.le_of_ble_eq_true rfl) (Nat.le_of_ble_eq_true rfl) dX7_reconcile_6 (fun r_2 u_1 H locs hw_u_1 hP hD hS => ?_)
  replace hw_u_1 : r_2 = (f_e_reconciledSet f) := hw_u_1
  rw [hw_u_1]
  clear hw_u_1
  have hP : va_P D classes [(h, .inr (7, [.ref a])), (a, .inl (cI, 41, .inl f))] H := hP
  have hD : va_D A [(h, .inr (7, [.ref a])), (a, .inl (cI, 41, .inl f))] := hD
  refine lv_iconst (v := 1) hx hb dX7_reconcile_9 rfl ?_
  refine lv_iload_n hx hb dX7_reconcile_10 rfl (lv_at hl 1 rfl) ?_
  refine lv_ishl hx hb dX7_reconcile_11 ?_
  refine lv_ior hx hb dX7_reconcile_12 ?_
  refine cNv (wr := [(h, .inr (7, [.ref a]))]) (rest := []) (k_put a 41 f 1 ((f_e_reconciledSet f) ||| (1 <<< (v &&& 31))) (of_decide_eq_true rfl)) okS_X9_put 17 rfl hx hb hml hown hts hK hP hD hS hA hN hl.1 [1] [0] rfl rfl rfl rfl (by decide) rfl (Nat.le_of_ble_eq_true rfl) (Nat.le_of_ble_eq_true rfl) (Nat.le_of_ble_eq_true rfl) (Nat.le_of_ble_eq_true rfl) (Nat.le_of_ble_eq_true rfl) dX7_reconcile_13 (fun u_3 H locs hw_u_3 hP hD hS => ?_)
  have hP : va_P D classes [(h, .inr (7, [.ref a])), (a, .inl (cI, 41, .inl (putF 41 f 1 ((f_e_reconciledSet f) ||| (1 <<< (v &&& 31))))))] H := hP
  have hD : va_D A [(h, .inr (7, [.ref a])), (a, .inl (cI, 41, .inl (putF 41 f 1 ((f_e_reconciledSet f) ||| (1 <<< (v &&& 31))))))] := hD
  refine lv_aload_n hx hb dX7_reconcile_16 rfl (lv_at hl 0 rfl) ?_
  refine lv_iload_n hx hb dX7_reconcile_17 rfl (lv_at hl 1 rfl) ?_
  refine lv_iconst (v := (-1)) hx hb dX7_reconcile_18 rfl ?_
  refine cVv (wr := []) (rest := []) (e_place h a (putF 41 f 1 ((f_e_reconciledSet f) ||| (1 <<< (v &&& 31)))) v (-1)) okV_X7_place wd_148 hx hb hml hown hts hK hP hD hS hA hN hl.1 [0, 1] [] rfl rfl rfl rfl (of_decide_eq_true rfl) rfl rfl rfl (Nat.le_of_ble_eq_true rfl) (Nat.le_of_ble_eq_true rfl) (Nat.le_of_ble_eq_true rfl) (Nat.le_of_ble_eq_true rfl) (Nat.le_of_ble_eq_true rfl) dX7_reconcile_19 (fun u_5 H locs hw_u_5 hP hD hS => ?_)
  replace hw_u_5 : u_5 = (f_e_place (putF 41 f 1 ((f_e_reconciledSet f) ||| (1 <<< (v &&& 31)))) v (-1)) := hw_u_5
  subst hw_u_5
  have hP : va_P D classes [(h, .inr (7, [.ref a])), (a, .inl (cI, 41, .inl (f_e_place (putF 41 f 1 ((f_e_reconciledSet f) ||| (1 <<< (v &&& 31)))) v (-1))))] H := hP
  have hD : va_D A [(h, .inr (7, [.ref a])), (a, .inl (cI, 41, .inl (f_e_place (putF 41 f 1 ((f_e_reconciledSet f) ||| (1 <<< (v &&& 31)))) v (-1))))] := hD
  exact hret (f_e_place (putF 41 f 1 ((f_e_reconciledSet f) ||| (1 <<< (v &&& 31)))) v (-1)) _ _ _ _ dX7_reconcile_22 hE hP hD hS
noncomputable def f_e_embitter (f : Nat → Int32) (v : Int32) (x : Int32) : (Nat → Int32) := (f_e_leave f v (if ((f_e_grievanceOf f v) + x) < 99 then ((f_e_grievanceOf f v) + x) else 99))
def rm_e_embitter : Room := { frames := 2, cells := 0, slots := 0, locals := 44 }
set_option maxHeartbeats 4000000 in
set_option maxRecDepth 100000 in
theorem e_embitter {l : Launch} {D : va_G} {cI cZ : ClassId} {sz : Nat} (h a : Nat) (f : Nat → Int32) (v : Int32) (x : Int32) : KV l yX7_embitter cX7_embitter 3 rm_e_embitter D cI cZ [.ref h, .int v, .int x] sz [(h, .inr (7, [.ref a])), (a, .inl (cI, 41, .inl f))] (fun (u : (Nat → Int32)) => u = f_e_embitter f v x) (fun (u : (Nat → Int32)) => [(h, .inr (7, [.ref a])), (a, .inl (cI, 41, .inl u))]) := by
  refine KV.go rfl (Nat.le_of_ble_eq_true rfl) ?_
  intro p e s m args below meth c ls A Q hx hb hml hts hown hin hP hK hD hS hA hN hl hret
  have hl : lv_has ls 3 [(0, .ref h), (1, .int v), (2, .int x)] := hl
  obtain ⟨RES, hE⟩ : ∃ xRES, f_e_embitter f v x = xRES := ⟨_, rfl⟩
  rw [hE] at hret
  rw [f_e_embitter] at hE
  refine lv_aload_n hx hb dX7_embitter_0 rfl (lv_at hl 0 rfl) ?_
  refine lv_iload_n hx hb dX7_embitter_1 rfl (lv_at hl 1 rfl) ?_
  refine lv_bipush (v := 99) hx hb dX7_embitter_2 rfl ?_
  refine lv_aload_n hx hb dX7_embitter_4 rfl (lv_at hl 0 rfl) ?_
  refine lv_iload_n hx hb dX7_embitter_5 rfl (lv_at hl 1 rfl) ?_
  refine cVi (wr := []) (rest := [.int 99, .int v, .ref h]) (e_grievanceOf h a f v) okV_X7_grievanceOf wd_152 hx hb hml hown hts hK hP hD hS hA hN hl.1 [0, 1] [] rfl rfl rfl rfl (of_decide_eq_true rfl) rfl rfl rfl (Nat.le_of_ble_eq_true rfl) (Nat.le_of_ble_eq_true rfl) (Nat.le_of_ble_eq_true rfl) (Nat.le_of_ble_eq_true rfl) (Nat.le_of_ble_eq_true rfl) dX7_embitter_6 (fun r_2 u_1 H locs hw_u_1 hP hD hS => ?_)
  replace hw_u_1 : r_2 = (f_e_grievanceOf f v) := hw_u_1
  rw [hw_u_1]
  clear hw_u_1
  have hP : va_P D classes [(h, .inr (7, [.ref a])), (a, .inl (cI, 41, .inl f))] H := hP
  have hD : va_D A [(h, .inr (7, [.ref a])), (a, .inl (cI, 41, .inl f))] := hD
  refine lv_iload_n hx hb dX7_embitter_9 rfl (lv_at hl 2 rfl) ?_
  refine lv_iadd hx hb dX7_embitter_10 ?_
  refine va_mmin hx hb (by rw [hml]; exact hl.1.symm) hown (hts _ wd_156) (hts _ wd_157) (hts _ wd_52) (hts _ wd_158) (Nat.le_of_ble_eq_true rfl) (Nat.le_of_ble_eq_true rfl) (Nat.le_of_ble_eq_true rfl) (Nat.le_of_ble_eq_true rfl) dX7_embitter_11 ?_
  refine cVv (wr := []) (rest := []) (e_leave h a f v (if ((f_e_grievanceOf f v) + x) < 99 then ((f_e_grievanceOf f v) + x) else 99)) okV_X7_leave wd_159 hx hb hml hown hts hK hP hD hS hA hN hl.1 [0, 1] [] rfl rfl rfl rfl (of_decide_eq_true rfl) rfl rfl rfl (Nat.le_of_ble_eq_true rfl) (Nat.le_of_ble_eq_true rfl) (Nat.le_of_ble_eq_true rfl) (Nat.le_of_ble_eq_true rfl) (Nat.le_of_ble_eq_true rfl) dX7_embitter_14 (fun u_3 H locs hw_u_3 hP hD hS => ?_)
  replace hw_u_3 : u_3 = (f_e_leave f v (if ((f_e_grievanceOf f v) + x) < 99 then ((f_e_grievanceOf f v) + x) else 99)) := hw_u_3
  subst hw_u_3
  have hP : va_P D classes [(h, .inr (7, [.ref a])), (a, .inl (cI, 41, .inl (f_e_leave f v (if ((f_e_grievanceOf f v) + x) < 99 then ((f_e_grievanceOf f v) + x) else 99))))] H := hP
  have hD : va_D A [(h, .inr (7, [.ref a])), (a, .inl (cI, 41, .inl (f_e_leave f v (if ((f_e_grievanceOf f v) + x) < 99 then ((f_e_grievanceOf f v) + x) else 99))))] := hD
  exact hret (f_e_leave f v (if ((f_e_grievanceOf f v) + x) < 99 then ((f_e_grievanceOf f v) + x) else 99)) _ _ _ _ dX7_embitter_17 hE hP hD hS
noncomputable def f_e_letThrough (f : Nat → Int32) (v : Int32) (x : Int32) : (Nat → Int32) := (putF 41 (putF 41 f (20 + v) x) (34 + v) (f_e_minutes (putF 41 f (20 + v) x)))
def rm_e_letThrough : Room := { frames := 2, cells := 0, slots := 0, locals := 41 }
set_option maxHeartbeats 4000000 in
set_option maxRecDepth 100000 in
theorem e_letThrough {l : Launch} {D : va_G} {cI cZ : ClassId} {sz : Nat} (h a : Nat) (f : Nat → Int32) (v : Int32) (x : Int32) : KV l yX7_letThrough cX7_letThrough 3 rm_e_letThrough D cI cZ [.ref h, .int v, .int x] sz [(h, .inr (7, [.ref a])), (a, .inl (cI, 41, .inl f))] (fun (u : (Nat → Int32)) => u = f_e_letThrough f v x) (fun (u : (Nat → Int32)) => [(h, .inr (7, [.ref a])), (a, .inl (cI, 41, .inl u))]) := by
  refine KV.go rfl (Nat.le_of_ble_eq_true rfl) ?_
  intro p e s m args below meth c ls A Q hx hb hml hts hown hin hP hK hD hS hA hN hl hret
  have hl : lv_has ls 3 [(0, .ref h), (1, .int v), (2, .int x)] := hl
  obtain ⟨RES, hE⟩ : ∃ xRES, f_e_letThrough f v x = xRES := ⟨_, rfl⟩
  rw [hE] at hret
  rw [f_e_letThrough] at hE
  refine lv_aload_n hx hb dX7_letThrough_0 rfl (lv_at hl 0 rfl) ?_
  refine va_get (D := D) (ci := 7) (v := .ref a) (C := RX7) (T := TX7) (N := 1) hx hb hts iX7 hown hK hP 0 rfl rfl 0 (Nat.le_of_ble_eq_true rfl) (hts _ wd_15) (fun _ h9 => h9) rfl dX7_letThrough_1 ?_
  refine lv_bipush (v := 20) hx hb dX7_letThrough_4 rfl ?_
  refine lv_iload_n hx hb dX7_letThrough_6 rfl (lv_at hl 1 rfl) ?_
  refine lv_iadd hx hb dX7_letThrough_7 ?_
  refine lv_iload_n hx hb dX7_letThrough_8 rfl (lv_at hl 2 rfl) ?_
  refine cNv (wr := [(h, .inr (7, [.ref a]))]) (rest := []) (k_put a 41 f (20 + v) x (of_decide_eq_true rfl)) okS_X9_put 17 rfl hx hb hml hown hts hK hP hD hS hA hN hl.1 [1] [0] rfl rfl rfl rfl (by decide) rfl (Nat.le_of_ble_eq_true rfl) (Nat.le_of_ble_eq_true rfl) (Nat.le_of_ble_eq_true rfl) (Nat.le_of_ble_eq_true rfl) (Nat.le_of_ble_eq_true rfl) dX7_letThrough_9 (fun u_1 H locs hw_u_1 hP hD hS => ?_)
  have hP : va_P D classes [(h, .inr (7, [.ref a])), (a, .inl (cI, 41, .inl (putF 41 f (20 + v) x)))] H := hP
  have hD : va_D A [(h, .inr (7, [.ref a])), (a, .inl (cI, 41, .inl (putF 41 f (20 + v) x)))] := hD
  refine lv_aload_n hx hb dX7_letThrough_12 rfl (lv_at hl 0 rfl) ?_
  refine va_get (D := D) (ci := 7) (v := .ref a) (C := RX7) (T := TX7) (N := 1) hx hb hts iX7 hown hK hP 0 rfl rfl 0 (Nat.le_of_ble_eq_true rfl) (hts _ wd_15) (fun _ h9 => h9) rfl dX7_letThrough_13 ?_
  refine lv_bipush (v := 34) hx hb dX7_letThrough_16 rfl ?_
  refine lv_iload_n hx hb dX7_letThrough_18 rfl (lv_at hl 1 rfl) ?_
  refine lv_iadd hx hb dX7_letThrough_19 ?_
  refine lv_aload_n hx hb dX7_letThrough_20 rfl (lv_at hl 0 rfl) ?_
  refine cVi (wr := []) (rest := [.int (34 + v), .ref a]) (e_minutes h a (putF 41 f (20 + v) x)) okV_X7_minutes wd_140 hx hb hml hown hts hK hP hD hS hA hN hl.1 [0, 1] [] rfl rfl rfl rfl (of_decide_eq_true rfl) rfl rfl rfl (Nat.le_of_ble_eq_true rfl) (Nat.le_of_ble_eq_true rfl) (Nat.le_of_ble_eq_true rfl) (Nat.le_of_ble_eq_true rfl) (Nat.le_of_ble_eq_true rfl) dX7_letThrough_21 (fun r_4 u_3 H locs hw_u_3 hP hD hS => ?_)
  replace hw_u_3 : r_4 = (f_e_minutes (putF 41 f (20 + v) x)) := hw_u_3
  rw [hw_u_3]
  clear hw_u_3
  have hP : va_P D classes [(h, .inr (7, [.ref a])), (a, .inl (cI, 41, .inl (putF 41 f (20 + v) x)))] H := hP
  have hD : va_D A [(h, .inr (7, [.ref a])), (a, .inl (cI, 41, .inl (putF 41 f (20 + v) x)))] := hD
  refine cNv (wr := [(h, .inr (7, [.ref a]))]) (rest := []) (k_put a 41 (putF 41 f (20 + v) x) (34 + v) (f_e_minutes (putF 41 f (20 + v) x)) (of_decide_eq_true rfl)) okS_X9_put 17 rfl hx hb hml hown hts hK hP hD hS hA hN hl.1 [1] [0] rfl rfl rfl rfl (by decide) rfl (Nat.le_of_ble_eq_true rfl) (Nat.le_of_ble_eq_true rfl) (Nat.le_of_ble_eq_true rfl) (Nat.le_of_ble_eq_true rfl) (Nat.le_of_ble_eq_true rfl) dX7_letThrough_24 (fun u_5 H locs hw_u_5 hP hD hS => ?_)
  have hP : va_P D classes [(h, .inr (7, [.ref a])), (a, .inl (cI, 41, .inl (putF 41 (putF 41 f (20 + v) x) (34 + v) (f_e_minutes (putF 41 f (20 + v) x)))))] H := hP
  have hD : va_D A [(h, .inr (7, [.ref a])), (a, .inl (cI, 41, .inl (putF 41 (putF 41 f (20 + v) x) (34 + v) (f_e_minutes (putF 41 f (20 + v) x)))))] := hD
  exact hret (putF 41 (putF 41 f (20 + v) x) (34 + v) (f_e_minutes (putF 41 f (20 + v) x))) _ _ _ _ dX7_letThrough_27 hE hP hD hS
noncomputable def f_e_bargesOfFate_4 (f : Nat → Int32) (v : Int32) (n : Nat) : Int32 → Int32 → Int32 × Int32 := Nat.rec (motive := fun _ => Int32 → Int32 → Int32 × Int32) (fun w_1l3 w_1l2 => (w_1l3, w_1l2)) (fun n ih w_1l3 w_1l2 => (if 7 ≤ w_1l3 then (w_1l3, w_1l2) else (if (f_e_fateOf f w_1l3) = v then (ih (w_1l3 + 1) (w_1l2 ||| (1 <<< (w_1l3 &&& 31)))) else (ih (w_1l3 + 1) (w_1l2 ||| 0))))) n
theorem f_e_bargesOfFate_4_s (f : Nat → Int32) (v : Int32) (n : Nat) (w_1l3 : Int32) (w_1l2 : Int32) : f_e_bargesOfFate_4 f v (n + 1) w_1l3 w_1l2 = (if 7 ≤ w_1l3 then (w_1l3, w_1l2) else (if (f_e_fateOf f w_1l3) = v then (f_e_bargesOfFate_4 f v n (w_1l3 + 1) (w_1l2 ||| (1 <<< (w_1l3 &&& 31)))) else (f_e_bargesOfFate_4 f v n (w_1l3 + 1) (w_1l2 ||| 0)))) := rfl
noncomputable def f_e_bargesOfFate (f : Nat → Int32) (v : Int32) : Int32 := (match (f_e_bargesOfFate_4 f v (((7 : Int32).toInt - (0 : Int32).toInt).toNat + 1) 0 0) with | (w_1l3, w_1l2) => w_1l2)
def rm_e_bargesOfFate : Room := { frames := 2, cells := 0, slots := 0, locals := 42 }
set_option maxHeartbeats 4000000 in
set_option maxRecDepth 100000 in
theorem e_bargesOfFate {l : Launch} {D : va_G} {cI cZ : ClassId} {sz : Nat} (h a : Nat) (f : Nat → Int32) (v : Int32) : KI l yX7_bargesOfFate cX7_bargesOfFate 4 (some .int) rm_e_bargesOfFate D cI cZ [.ref h, .int v] sz [(h, .inr (7, [.ref a])), (a, .inl (cI, 41, .inl f))] (fun (r : Int32) (_ : Unit) => r = f_e_bargesOfFate f v) (fun (_ : Unit) => [(h, .inr (7, [.ref a])), (a, .inl (cI, 41, .inl f))]) := by
  refine KI.go rfl (Nat.le_of_ble_eq_true rfl) ?_
  intro p e s m args below meth c ls A Q hx hb hml hts hown hin hP hK hD hS hA hN hl hret
  have hl : lv_has ls 4 [(0, .ref h), (1, .int v)] := hl
  obtain ⟨RES, hE⟩ : ∃ xRES, f_e_bargesOfFate f v = xRES := ⟨_, rfl⟩
  rw [hE] at hret
  rw [f_e_bargesOfFate] at hE
  refine lv_iconst (v := 0) hx hb dX7_bargesOfFate_0 rfl ?_
  refine lv_istore_n (lv' := [(2, .int 0), (0, .ref h), (1, .int v)]) hx hb dX7_bargesOfFate_1 rfl hl (Nat.le_of_ble_eq_true rfl) rfl (fun ls hl => ?_)
  refine lv_iconst (v := 0) hx hb dX7_bargesOfFate_2 rfl ?_
  refine lv_istore_n (lv' := [(3, .int 0), (2, .int 0), (0, .ref h), (1, .int v)]) hx hb dX7_bargesOfFate_3 rfl hl (Nat.le_of_ble_eq_true rfl) rfl (fun ls hl => ?_)
  have ex_4_w_1 : ∀ (w_1l3 : Int32) (w_1l2 : Int32) (H : Heap) (locs : List Loc) (ls : Array Slot), va_P D classes [(h, .inr (7, [.ref a])), (a, .inl (cI, 41, .inl f))] H → va_D A [(h, .inr (7, [.ref a])), (a, .inl (cI, 41, .inl f))] → va_S A s.heap H locs → lv_has ls 4 [(3, .int w_1l3), (2, .int w_1l2), (0, .ref h), (1, .int v)] → (w_1l2) = RES → W p l e rm_e_bargesOfFate s m args below meth c H locs 0 0 Q (F0 m 35 ls []) := by
    intro w_1l3 w_1l2 H locs ls hP hD hS hl hE
    refine lv_iload_n hx hb dX7_bargesOfFate_35 rfl (lv_at hl 1 rfl) ?_
    exact hret w_1l2 () _ _ _ _ dX7_bargesOfFate_36 rfl hE hP hD hS
  have lp_4_w_1 : ∀ (n_w_1 : Nat) (w_1l3 : Int32) (w_1l2 : Int32) (H : Heap) (locs : List Loc) (ls : Array Slot), va_P D classes [(h, .inr (7, [.ref a])), (a, .inl (cI, 41, .inl f))] H → va_D A [(h, .inr (7, [.ref a])), (a, .inl (cI, 41, .inl f))] → va_S A s.heap H locs → lv_has ls 4 [(3, .int w_1l3), (2, .int w_1l2), (0, .ref h), (1, .int v)] → ((7 : Int32).toInt - (w_1l3 : Int32).toInt).toNat < n_w_1 → (match (f_e_bargesOfFate_4 f v n_w_1 w_1l3 w_1l2) with | (w_1l3, w_1l2) => w_1l2) = RES → W p l e rm_e_bargesOfFate s m args below meth c H locs 0 0 Q (F0 m 4 ls []) := by
    intro n_w_1
    induction n_w_1 with
    | zero => intro w_1l3 w_1l2 H locs ls hP hD hS hl hm; exact absurd hm (Nat.not_lt_zero _)
    | succ n_w_1 ih_w_1 =>
      intro w_1l3 w_1l2 H locs ls hP hD hS hl hm hE
      rw [f_e_bargesOfFate_4_s] at hE
      refine lv_iload_n hx hb dX7_bargesOfFate_4 rfl (lv_at hl 0 rfl) ?_
      refine lv_bipush (v := 7) hx hb dX7_bargesOfFate_5 rfl ?_
      refine lv_icmp_ge (tgt := 35) hx hb dX7_bargesOfFate_7 rfl (fun c_2 => ?_) (fun c_2 => ?_)
      · rw [if_pos c_2] at hE
        exact ex_4_w_1 w_1l3 w_1l2 _ _ ls hP hD hS (lv_sub hl [0, 1, 2, 3] rfl) hE
      · rw [if_neg c_2] at hE
        refine lv_iload_n hx hb dX7_bargesOfFate_10 rfl (lv_at hl 1 rfl) ?_
        refine lv_aload_n hx hb dX7_bargesOfFate_11 rfl (lv_at hl 2 rfl) ?_
        refine lv_iload_n hx hb dX7_bargesOfFate_12 rfl (lv_at hl 0 rfl) ?_
        refine cVi (wr := []) (rest := [.int w_1l2]) (e_fateOf h a f w_1l3) okV_X7_fateOf wd_163 hx hb hml hown hts hK hP hD hS hA hN hl.1 [0, 1] [] rfl rfl rfl rfl (of_decide_eq_true rfl) rfl rfl rfl (Nat.le_of_ble_eq_true rfl) (Nat.le_of_ble_eq_true rfl) (Nat.le_of_ble_eq_true rfl) (Nat.le_of_ble_eq_true rfl) (Nat.le_of_ble_eq_true rfl) dX7_bargesOfFate_13 (fun r_4 u_3 H locs hw_u_3 hP hD hS => ?_)
        replace hw_u_3 : r_4 = (f_e_fateOf f w_1l3) := hw_u_3
        rw [hw_u_3]
        clear hw_u_3
        have hP : va_P D classes [(h, .inr (7, [.ref a])), (a, .inl (cI, 41, .inl f))] H := hP
        have hD : va_D A [(h, .inr (7, [.ref a])), (a, .inl (cI, 41, .inl f))] := hD
        refine lv_iload_n hx hb dX7_bargesOfFate_16 rfl (lv_at hl 3 rfl) ?_
        refine lv_icmp_ne (tgt := 26) hx hb dX7_bargesOfFate_17 rfl (fun c_5 => ?_) (fun c_5 => ?_)
        · rw [if_neg c_5] at hE
          refine lv_iconst (v := 0) hx hb dX7_bargesOfFate_26 rfl ?_
          refine lv_ior hx hb dX7_bargesOfFate_27 ?_
          refine lv_istore_n (lv' := [(2, .int (w_1l2 ||| 0)), (3, .int w_1l3), (0, .ref h), (1, .int v)]) hx hb dX7_bargesOfFate_28 rfl hl (Nat.le_of_ble_eq_true rfl) rfl (fun ls hl => ?_)
          refine lv_iinc (v := (w_1l3 + 1)) (lv' := [(3, .int (w_1l3 + 1)), (2, .int (w_1l2 ||| 0)), (0, .ref h), (1, .int v)]) hx hb dX7_bargesOfFate_29 hl (k := 1) rfl rfl (Nat.le_of_ble_eq_true rfl) rfl (fun ls hl => ?_)
          refine lv_goto (tgt := 4) hx hb dX7_bargesOfFate_32 rfl ?_
          exact ih_w_1 (w_1l3 + 1) (w_1l2 ||| 0) _ _ ls hP hD hS (lv_sub hl [0, 1, 2, 3] rfl) (up_step c_2 hm) hE
        · rw [if_pos c_5] at hE
          refine lv_iconst (v := 1) hx hb dX7_bargesOfFate_20 rfl ?_
          refine lv_iload_n hx hb dX7_bargesOfFate_21 rfl (lv_at hl 0 rfl) ?_
          refine lv_ishl hx hb dX7_bargesOfFate_22 ?_
          refine lv_goto (tgt := 27) hx hb dX7_bargesOfFate_23 rfl ?_
          refine lv_ior hx hb dX7_bargesOfFate_27 ?_
          refine lv_istore_n (lv' := [(2, .int (w_1l2 ||| (1 <<< (w_1l3 &&& 31)))), (3, .int w_1l3), (0, .ref h), (1, .int v)]) hx hb dX7_bargesOfFate_28 rfl hl (Nat.le_of_ble_eq_true rfl) rfl (fun ls hl => ?_)
          refine lv_iinc (v := (w_1l3 + 1)) (lv' := [(3, .int (w_1l3 + 1)), (2, .int (w_1l2 ||| (1 <<< (w_1l3 &&& 31)))), (0, .ref h), (1, .int v)]) hx hb dX7_bargesOfFate_29 hl (k := 1) rfl rfl (Nat.le_of_ble_eq_true rfl) rfl (fun ls hl => ?_)
          refine lv_goto (tgt := 4) hx hb dX7_bargesOfFate_32 rfl ?_
          exact ih_w_1 (w_1l3 + 1) (w_1l2 ||| (1 <<< (w_1l3 &&& 31))) _ _ ls hP hD hS (lv_sub hl [0, 1, 2, 3] rfl) (up_step c_2 hm) hE
  exact lp_4_w_1 (((7 : Int32).toInt - (0 : Int32).toInt).toNat + 1) 0 0 _ _ ls hP hD hS hl (Nat.lt_succ_self _) hE
noncomputable def f_e_grievanceOfSet_4 (f : Nat → Int32) (v : Int32) (n : Nat) : Int32 → Int32 → Int32 × Int32 := Nat.rec (motive := fun _ => Int32 → Int32 → Int32 × Int32) (fun w_1l3 w_1l2 => (w_1l3, w_1l2)) (fun n ih w_1l3 w_1l2 => (if 6 ≤ w_1l3 then (w_1l3, w_1l2) else (ih (w_1l3 + 1) (w_1l2 + (((v >>> (w_1l3 &&& 31)) &&& 1) * (f_e_grievanceOf f w_1l3)))))) n
theorem f_e_grievanceOfSet_4_s (f : Nat → Int32) (v : Int32) (n : Nat) (w_1l3 : Int32) (w_1l2 : Int32) : f_e_grievanceOfSet_4 f v (n + 1) w_1l3 w_1l2 = (if 6 ≤ w_1l3 then (w_1l3, w_1l2) else (f_e_grievanceOfSet_4 f v n (w_1l3 + 1) (w_1l2 + (((v >>> (w_1l3 &&& 31)) &&& 1) * (f_e_grievanceOf f w_1l3))))) := rfl
noncomputable def f_e_grievanceOfSet (f : Nat → Int32) (v : Int32) : Int32 := (match (f_e_grievanceOfSet_4 f v (((6 : Int32).toInt - (0 : Int32).toInt).toNat + 1) 0 0) with | (w_1l3, w_1l2) => w_1l2)
def rm_e_grievanceOfSet : Room := { frames := 2, cells := 0, slots := 0, locals := 42 }
set_option maxHeartbeats 4000000 in
set_option maxRecDepth 100000 in
theorem e_grievanceOfSet {l : Launch} {D : va_G} {cI cZ : ClassId} {sz : Nat} (h a : Nat) (f : Nat → Int32) (v : Int32) : KI l yX7_grievanceOfSet cX7_grievanceOfSet 4 (some .int) rm_e_grievanceOfSet D cI cZ [.ref h, .int v] sz [(h, .inr (7, [.ref a])), (a, .inl (cI, 41, .inl f))] (fun (r : Int32) (_ : Unit) => r = f_e_grievanceOfSet f v) (fun (_ : Unit) => [(h, .inr (7, [.ref a])), (a, .inl (cI, 41, .inl f))]) := by
  refine KI.go rfl (Nat.le_of_ble_eq_true rfl) ?_
  intro p e s m args below meth c ls A Q hx hb hml hts hown hin hP hK hD hS hA hN hl hret
  have hl : lv_has ls 4 [(0, .ref h), (1, .int v)] := hl
  obtain ⟨RES, hE⟩ : ∃ xRES, f_e_grievanceOfSet f v = xRES := ⟨_, rfl⟩
  rw [hE] at hret
  rw [f_e_grievanceOfSet] at hE
  refine lv_iconst (v := 0) hx hb dX7_grievanceOfSet_0 rfl ?_
  refine lv_istore_n (lv' := [(2, .int 0), (0, .ref h), (1, .int v)]) hx hb dX7_grievanceOfSet_1 rfl hl (Nat.le_of_ble_eq_true rfl) rfl (fun ls hl => ?_)
  refine lv_iconst (v := 0) hx hb dX7_grievanceOfSet_2 rfl ?_
  refine lv_istore_n (lv' := [(3, .int 0), (2, .int 0), (0, .ref h), (1, .int v)]) hx hb dX7_grievanceOfSet_3 rfl hl (Nat.le_of_ble_eq_true rfl) rfl (fun ls hl => ?_)
  have ex_4_w_1 : ∀ (w_1l3 : Int32) (w_1l2 : Int32) (H : Heap) (locs : List Loc) (ls : Array Slot), va_P D classes [(h, .inr (7, [.ref a])), (a, .inl (cI, 41, .inl f))] H → va_D A [(h, .inr (7, [.ref a])), (a, .inl (cI, 41, .inl f))] → va_S A s.heap H locs → lv_has ls 4 [(3, .int w_1l3), (2, .int w_1l2), (0, .ref h), (1, .int v)] → (w_1l2) = RES → W p l e rm_e_grievanceOfSet s m args below meth c H locs 0 0 Q (F0 m 30 ls []) := by
    intro w_1l3 w_1l2 H locs ls hP hD hS hl hE
    refine lv_iload_n hx hb dX7_grievanceOfSet_30 rfl (lv_at hl 1 rfl) ?_
    exact hret w_1l2 () _ _ _ _ dX7_grievanceOfSet_31 rfl hE hP hD hS
  have lp_4_w_1 : ∀ (n_w_1 : Nat) (w_1l3 : Int32) (w_1l2 : Int32) (H : Heap) (locs : List Loc) (ls : Array Slot), va_P D classes [(h, .inr (7, [.ref a])), (a, .inl (cI, 41, .inl f))] H → va_D A [(h, .inr (7, [.ref a])), (a, .inl (cI, 41, .inl f))] → va_S A s.heap H locs → lv_has ls 4 [(3, .int w_1l3), (2, .int w_1l2), (0, .ref h), (1, .int v)] → ((6 : Int32).toInt - (w_1l3 : Int32).toInt).toNat < n_w_1 → (match (f_e_grievanceOfSet_4 f v n_w_1 w_1l3 w_1l2) with | (w_1l3, w_1l2) => w_1l2) = RES → W p l e rm_e_grievanceOfSet s m args below meth c H locs 0 0 Q (F0 m 4 ls []) := by
    intro n_w_1
    induction n_w_1 with
    | zero => intro w_1l3 w_1l2 H locs ls hP hD hS hl hm; exact absurd hm (Nat.not_lt_zero _)
    | succ n_w_1 ih_w_1 =>
      intro w_1l3 w_1l2 H locs ls hP hD hS hl hm hE
      rw [f_e_grievanceOfSet_4_s] at hE
      refine lv_iload_n hx hb dX7_grievanceOfSet_4 rfl (lv_at hl 0 rfl) ?_
      refine lv_bipush (v := 6) hx hb dX7_grievanceOfSet_5 rfl ?_
      refine lv_icmp_ge (tgt := 30) hx hb dX7_grievanceOfSet_7 rfl (fun c_2 => ?_) (fun c_2 => ?_)
      · rw [if_pos c_2] at hE
        exact ex_4_w_1 w_1l3 w_1l2 _ _ ls hP hD hS (lv_sub hl [0, 1, 2, 3] rfl) hE
      · rw [if_neg c_2] at hE
        refine lv_iload_n hx hb dX7_grievanceOfSet_10 rfl (lv_at hl 1 rfl) ?_
        refine lv_iload_n hx hb dX7_grievanceOfSet_11 rfl (lv_at hl 3 rfl) ?_
        refine lv_iload_n hx hb dX7_grievanceOfSet_12 rfl (lv_at hl 0 rfl) ?_
        refine lv_ishr hx hb dX7_grievanceOfSet_13 ?_
        refine lv_iconst (v := 1) hx hb dX7_grievanceOfSet_14 rfl ?_
        refine lv_iand hx hb dX7_grievanceOfSet_15 ?_
        refine lv_aload_n hx hb dX7_grievanceOfSet_16 rfl (lv_at hl 2 rfl) ?_
        refine lv_iload_n hx hb dX7_grievanceOfSet_17 rfl (lv_at hl 0 rfl) ?_
        refine cVi (wr := []) (rest := [.int ((v >>> (w_1l3 &&& 31)) &&& 1), .int w_1l2]) (e_grievanceOf h a f w_1l3) okV_X7_grievanceOf wd_152 hx hb hml hown hts hK hP hD hS hA hN hl.1 [0, 1] [] rfl rfl rfl rfl (of_decide_eq_true rfl) rfl rfl rfl (Nat.le_of_ble_eq_true rfl) (Nat.le_of_ble_eq_true rfl) (Nat.le_of_ble_eq_true rfl) (Nat.le_of_ble_eq_true rfl) (Nat.le_of_ble_eq_true rfl) dX7_grievanceOfSet_18 (fun r_4 u_3 H locs hw_u_3 hP hD hS => ?_)
        replace hw_u_3 : r_4 = (f_e_grievanceOf f w_1l3) := hw_u_3
        rw [hw_u_3]
        clear hw_u_3
        have hP : va_P D classes [(h, .inr (7, [.ref a])), (a, .inl (cI, 41, .inl f))] H := hP
        have hD : va_D A [(h, .inr (7, [.ref a])), (a, .inl (cI, 41, .inl f))] := hD
        refine lv_imul hx hb dX7_grievanceOfSet_21 ?_
        refine lv_iadd hx hb dX7_grievanceOfSet_22 ?_
        refine lv_istore_n (lv' := [(2, .int (w_1l2 + (((v >>> (w_1l3 &&& 31)) &&& 1) * (f_e_grievanceOf f w_1l3)))), (3, .int w_1l3), (0, .ref h), (1, .int v)]) hx hb dX7_grievanceOfSet_23 rfl hl (Nat.le_of_ble_eq_true rfl) rfl (fun ls hl => ?_)
        refine lv_iinc (v := (w_1l3 + 1)) (lv' := [(3, .int (w_1l3 + 1)), (2, .int (w_1l2 + (((v >>> (w_1l3 &&& 31)) &&& 1) * (f_e_grievanceOf f w_1l3)))), (0, .ref h), (1, .int v)]) hx hb dX7_grievanceOfSet_24 hl (k := 1) rfl rfl (Nat.le_of_ble_eq_true rfl) rfl (fun ls hl => ?_)
        refine lv_goto (tgt := 4) hx hb dX7_grievanceOfSet_27 rfl ?_
        exact ih_w_1 (w_1l3 + 1) (w_1l2 + (((v >>> (w_1l3 &&& 31)) &&& 1) * (f_e_grievanceOf f w_1l3))) _ _ ls hP hD hS (lv_sub hl [0, 1, 2, 3] rfl) (up_step c_2 hm) hE
  exact lp_4_w_1 (((6 : Int32).toInt - (0 : Int32).toInt).toNat + 1) 0 0 _ _ ls hP hD hS hl (Nat.lt_succ_self _) hE
noncomputable def f_e_grievanceOfAll (f : Nat → Int32) : Int32 := (f_e_grievanceOfSet f 63)
def rm_e_grievanceOfAll : Room := { frames := 3, cells := 0, slots := 0, locals := 65 }
set_option maxHeartbeats 4000000 in
set_option maxRecDepth 100000 in
theorem e_grievanceOfAll {l : Launch} {D : va_G} {cI cZ : ClassId} {sz : Nat} (h a : Nat) (f : Nat → Int32) : KI l yX7_grievanceOfAll cX7_grievanceOfAll 1 (some .int) rm_e_grievanceOfAll D cI cZ [.ref h] sz [(h, .inr (7, [.ref a])), (a, .inl (cI, 41, .inl f))] (fun (r : Int32) (_ : Unit) => r = f_e_grievanceOfAll f) (fun (_ : Unit) => [(h, .inr (7, [.ref a])), (a, .inl (cI, 41, .inl f))]) := by
  refine KI.go rfl (Nat.le_of_ble_eq_true rfl) ?_
  intro p e s m args below meth c ls A Q hx hb hml hts hown hin hP hK hD hS hA hN hl hret
  have hl : lv_has ls 1 [(0, .ref h)] := hl
  obtain ⟨RES, hE⟩ : ∃ xRES, f_e_grievanceOfAll f = xRES := ⟨_, rfl⟩
  rw [hE] at hret
  rw [f_e_grievanceOfAll] at hE
  refine lv_aload_n hx hb dX7_grievanceOfAll_0 rfl (lv_at hl 0 rfl) ?_
  refine lv_bipush (v := 63) hx hb dX7_grievanceOfAll_1 rfl ?_
  refine cVi (wr := []) (rest := []) (e_grievanceOfSet h a f 63) okV_X7_grievanceOfSet wd_167 hx hb hml hown hts hK hP hD hS hA hN hl.1 [0, 1] [] rfl rfl rfl rfl (of_decide_eq_true rfl) rfl rfl rfl (Nat.le_of_ble_eq_true rfl) (Nat.le_of_ble_eq_true rfl) (Nat.le_of_ble_eq_true rfl) (Nat.le_of_ble_eq_true rfl) (Nat.le_of_ble_eq_true rfl) dX7_grievanceOfAll_3 (fun r_2 u_1 H locs hw_u_1 hP hD hS => ?_)
  replace hw_u_1 : r_2 = (f_e_grievanceOfSet f 63) := hw_u_1
  rw [hw_u_1]
  clear hw_u_1
  have hP : va_P D classes [(h, .inr (7, [.ref a])), (a, .inl (cI, 41, .inl f))] H := hP
  have hD : va_D A [(h, .inr (7, [.ref a])), (a, .inl (cI, 41, .inl f))] := hD
  exact hret (f_e_grievanceOfSet f 63) () _ _ _ _ dX7_grievanceOfAll_6 rfl hE hP hD hS
noncomputable def f_e_coupleAt_2 (f : Nat → Int32) (v : Int32) (n : Nat) : Int32 → (Int32) ⊕ (Int32) := Nat.rec (motive := fun _ => Int32 → (Int32) ⊕ (Int32)) (fun w_1l2 => Sum.inl w_1l2) (fun n ih w_1l2 => (if 6 ≤ w_1l2 then (Sum.inl w_1l2) else (if (f_e_bridgeOf f w_1l2) = v then (Sum.inr w_1l2) else (ih (w_1l2 + 1))))) n
theorem f_e_coupleAt_2_s (f : Nat → Int32) (v : Int32) (n : Nat) (w_1l2 : Int32) : f_e_coupleAt_2 f v (n + 1) w_1l2 = (if 6 ≤ w_1l2 then (Sum.inl w_1l2) else (if (f_e_bridgeOf f w_1l2) = v then (Sum.inr w_1l2) else (f_e_coupleAt_2 f v n (w_1l2 + 1)))) := rfl
noncomputable def f_e_coupleAt (f : Nat → Int32) (v : Int32) : Int32 := (match (f_e_coupleAt_2 f v (((6 : Int32).toInt - (0 : Int32).toInt).toNat + 1) 0) with | Sum.inl w_1l2 => (-1) | Sum.inr o => o)
def rm_e_coupleAt : Room := { frames := 2, cells := 0, slots := 0, locals := 42 }
set_option maxHeartbeats 4000000 in
set_option maxRecDepth 100000 in
theorem e_coupleAt {l : Launch} {D : va_G} {cI cZ : ClassId} {sz : Nat} (h a : Nat) (f : Nat → Int32) (v : Int32) : KI l yX7_coupleAt cX7_coupleAt 3 (some .int) rm_e_coupleAt D cI cZ [.ref h, .int v] sz [(h, .inr (7, [.ref a])), (a, .inl (cI, 41, .inl f))] (fun (r : Int32) (_ : Unit) => r = f_e_coupleAt f v) (fun (_ : Unit) => [(h, .inr (7, [.ref a])), (a, .inl (cI, 41, .inl f))]) := by
  refine KI.go rfl (Nat.le_of_ble_eq_true rfl) ?_
  intro p e s m args below meth c ls A Q hx hb hml hts hown hin hP hK hD hS hA hN hl hret
  have hl : lv_has ls 3 [(0, .ref h), (1, .int v)] := hl
  obtain ⟨RES, hE⟩ : ∃ xRES, f_e_coupleAt f v = xRES := ⟨_, rfl⟩
  rw [hE] at hret
  rw [f_e_coupleAt] at hE
  refine lv_iconst (v := 0) hx hb dX7_coupleAt_0 rfl ?_
  refine lv_istore_n (lv' := [(2, .int 0), (0, .ref h), (1, .int v)]) hx hb dX7_coupleAt_1 rfl hl (Nat.le_of_ble_eq_true rfl) rfl (fun ls hl => ?_)
  have ex_2_w_1 : ∀ (w_1l2 : Int32) (H : Heap) (locs : List Loc) (ls : Array Slot), va_P D classes [(h, .inr (7, [.ref a])), (a, .inl (cI, 41, .inl f))] H → va_D A [(h, .inr (7, [.ref a])), (a, .inl (cI, 41, .inl f))] → va_S A s.heap H locs → lv_has ls 3 [(2, .int w_1l2), (0, .ref h), (1, .int v)] → ((-1)) = RES → W p l e rm_e_coupleAt s m args below meth c H locs 0 0 Q (F0 m 25 ls []) := by
    intro w_1l2 H locs ls hP hD hS hl hE
    refine lv_iconst (v := (-1)) hx hb dX7_coupleAt_25 rfl ?_
    exact hret (-1) () _ _ _ _ dX7_coupleAt_26 rfl hE hP hD hS
  have lp_2_w_1 : ∀ (n_w_1 : Nat) (w_1l2 : Int32) (H : Heap) (locs : List Loc) (ls : Array Slot), va_P D classes [(h, .inr (7, [.ref a])), (a, .inl (cI, 41, .inl f))] H → va_D A [(h, .inr (7, [.ref a])), (a, .inl (cI, 41, .inl f))] → va_S A s.heap H locs → lv_has ls 3 [(2, .int w_1l2), (0, .ref h), (1, .int v)] → ((6 : Int32).toInt - (w_1l2 : Int32).toInt).toNat < n_w_1 → (match (f_e_coupleAt_2 f v n_w_1 w_1l2) with | Sum.inl w_1l2 => (-1) | Sum.inr o => o) = RES → W p l e rm_e_coupleAt s m args below meth c H locs 0 0 Q (F0 m 2 ls []) := by
    intro n_w_1
    induction n_w_1 with
    | zero => intro w_1l2 H locs ls hP hD hS hl hm; exact absurd hm (Nat.not_lt_zero _)
    | succ n_w_1 ih_w_1 =>
      intro w_1l2 H locs ls hP hD hS hl hm hE
      rw [f_e_coupleAt_2_s] at hE
      refine lv_iload_n hx hb dX7_coupleAt_2 rfl (lv_at hl 0 rfl) ?_
      refine lv_bipush (v := 6) hx hb dX7_coupleAt_3 rfl ?_
      refine lv_icmp_ge (tgt := 25) hx hb dX7_coupleAt_5 rfl (fun c_2 => ?_) (fun c_2 => ?_)
      · rw [if_pos c_2] at hE
        exact ex_2_w_1 w_1l2 _ _ ls hP hD hS (lv_sub hl [0, 1, 2] rfl) hE
      · rw [if_neg c_2] at hE
        refine lv_aload_n hx hb dX7_coupleAt_8 rfl (lv_at hl 1 rfl) ?_
        refine lv_iload_n hx hb dX7_coupleAt_9 rfl (lv_at hl 0 rfl) ?_
        refine cVi (wr := []) (rest := []) (e_bridgeOf h a f w_1l2) okV_X7_bridgeOf wd_171 hx hb hml hown hts hK hP hD hS hA hN hl.1 [0, 1] [] rfl rfl rfl rfl (of_decide_eq_true rfl) rfl rfl rfl (Nat.le_of_ble_eq_true rfl) (Nat.le_of_ble_eq_true rfl) (Nat.le_of_ble_eq_true rfl) (Nat.le_of_ble_eq_true rfl) (Nat.le_of_ble_eq_true rfl) dX7_coupleAt_10 (fun r_4 u_3 H locs hw_u_3 hP hD hS => ?_)
        replace hw_u_3 : r_4 = (f_e_bridgeOf f w_1l2) := hw_u_3
        rw [hw_u_3]
        clear hw_u_3
        have hP : va_P D classes [(h, .inr (7, [.ref a])), (a, .inl (cI, 41, .inl f))] H := hP
        have hD : va_D A [(h, .inr (7, [.ref a])), (a, .inl (cI, 41, .inl f))] := hD
        refine lv_iload_n hx hb dX7_coupleAt_13 rfl (lv_at hl 2 rfl) ?_
        refine lv_icmp_ne (tgt := 19) hx hb dX7_coupleAt_14 rfl (fun c_5 => ?_) (fun c_5 => ?_)
        · rw [if_neg c_5] at hE
          refine lv_iinc (v := (w_1l2 + 1)) (lv' := [(2, .int (w_1l2 + 1)), (0, .ref h), (1, .int v)]) hx hb dX7_coupleAt_19 hl (k := 0) rfl rfl (Nat.le_of_ble_eq_true rfl) rfl (fun ls hl => ?_)
          refine lv_goto (tgt := 2) hx hb dX7_coupleAt_22 rfl ?_
          exact ih_w_1 (w_1l2 + 1) _ _ ls hP hD hS (lv_sub hl [0, 1, 2] rfl) (up_step c_2 hm) hE
        · rw [if_pos c_5] at hE
          refine lv_iload_n hx hb dX7_coupleAt_17 rfl (lv_at hl 0 rfl) ?_
          exact hret w_1l2 () _ _ _ _ dX7_coupleAt_18 rfl hE hP hD hS
  exact lp_2_w_1 (((6 : Int32).toInt - (0 : Int32).toInt).toNat + 1) 0 _ _ ls hP hD hS hl (Nat.lt_succ_self _) hE
noncomputable def f_e_begin_x7_66 (fn : Nat → Int32) (t0 : Int32) (t1 : Int32) (t2 : Int32) (t3 : Int32) (t4 : Int32) (ftb : Nat → Int32) (n : Nat) : Int32 → (Nat → Int32) → Int32 × (Nat → Int32) := Nat.rec (motive := fun _ => Int32 → (Nat → Int32) → Int32 × (Nat → Int32)) (fun w_4l2 w_4m0 => (w_4l2, w_4m0)) (fun n ih w_4l2 w_4m0 => (if 7 ≤ w_4l2 then (w_4l2, w_4m0) else (ih (w_4l2 + 1) (putF 41 (putF 41 w_4m0 (27 + w_4l2) (-1)) (34 + w_4l2) (-1))))) n
theorem f_e_begin_x7_66_s (fn : Nat → Int32) (t0 : Int32) (t1 : Int32) (t2 : Int32) (t3 : Int32) (t4 : Int32) (ftb : Nat → Int32) (n : Nat) (w_4l2 : Int32) (w_4m0 : (Nat → Int32)) : f_e_begin_x7_66 fn t0 t1 t2 t3 t4 ftb (n + 1) w_4l2 w_4m0 = (if 7 ≤ w_4l2 then (w_4l2, w_4m0) else (f_e_begin_x7_66 fn t0 t1 t2 t3 t4 ftb n (w_4l2 + 1) (putF 41 (putF 41 w_4m0 (27 + w_4l2) (-1)) (34 + w_4l2) (-1)))) := rfl
noncomputable def f_e_begin_x7_10 (fn : Nat → Int32) (t0 : Int32) (t1 : Int32) (t2 : Int32) (t3 : Int32) (t4 : Int32) (ftb : Nat → Int32) (n : Nat) : Int32 → (Nat → Int32) → Int32 × (Nat → Int32) := Nat.rec (motive := fun _ => Int32 → (Nat → Int32) → Int32 × (Nat → Int32)) (fun w_3l2 w_3m0 => (w_3l2, w_3m0)) (fun n ih w_3l2 w_3m0 => (if 6 ≤ w_3l2 then (w_3l2, w_3m0) else (if t2 ≤ w_3l2 then (ih (w_3l2 + 1) (putF 41 (putF 41 w_3m0 (2 + w_3l2) 0) (8 + w_3l2) (-1))) else (ih (w_3l2 + 1) (putF 41 (putF 41 w_3m0 (2 + w_3l2) (atF 6 ftb w_3l2)) (8 + w_3l2) (-1)))))) n
theorem f_e_begin_x7_10_s (fn : Nat → Int32) (t0 : Int32) (t1 : Int32) (t2 : Int32) (t3 : Int32) (t4 : Int32) (ftb : Nat → Int32) (n : Nat) (w_3l2 : Int32) (w_3m0 : (Nat → Int32)) : f_e_begin_x7_10 fn t0 t1 t2 t3 t4 ftb (n + 1) w_3l2 w_3m0 = (if 6 ≤ w_3l2 then (w_3l2, w_3m0) else (if t2 ≤ w_3l2 then (f_e_begin_x7_10 fn t0 t1 t2 t3 t4 ftb n (w_3l2 + 1) (putF 41 (putF 41 w_3m0 (2 + w_3l2) 0) (8 + w_3l2) (-1))) else (f_e_begin_x7_10 fn t0 t1 t2 t3 t4 ftb n (w_3l2 + 1) (putF 41 (putF 41 w_3m0 (2 + w_3l2) (atF 6 ftb w_3l2)) (8 + w_3l2) (-1))))) := rfl
noncomputable def f_e_begin_x7 (fn : Nat → Int32) (t0 : Int32) (t1 : Int32) (t2 : Int32) (t3 : Int32) (t4 : Int32) (ftb : Nat → Int32) : (Nat → Int32) := (match (f_e_begin_x7_10 fn t0 t1 t2 t3 t4 ftb (((6 : Int32).toInt - (0 : Int32).toInt).toNat + 1) 0 (fillZ fn 41)) with | (w_3l2, w_3m0) => (match (f_e_begin_x7_66 fn t0 t1 t2 t3 t4 ftb (((7 : Int32).toInt - (0 : Int32).toInt).toNat + 1) 0 w_3m0) with | (w_4l2, w_4m0) => w_4m0))
def rm_e_begin_x7 : Room := { frames := 1, cells := 0, slots := 0, locals := 23 }
set_option maxHeartbeats 4000000 in
set_option maxRecDepth 100000 in
theorem e_begin_x7 {l : Launch} {D : va_G} {cI cZ : ClassId} {sz : Nat} (nw nwc t ta tb tc td te : Nat) (fn : Nat → Int32) (t0 : Int32) (t1 : Int32) (t2 : Int32) (t3 : Int32) (t4 : Int32) (ftb : Nat → Int32) : KV l yX7_begin cX7_begin 3 rm_e_begin_x7 D cI cZ [.ref nw, .ref t] sz [(nw, .inr (7, [.ref nwc])), (nwc, .inl (cI, 41, .inl fn)), (t, .inr (8, [.int t0, .int t1, .int t2, .int t3, .int t4, .ref ta, .ref tb, .ref tc, .ref td, .ref te])), (tb, .inl (cI, 6, .inl ftb))] (fun (u : (Nat → Int32)) => u = f_e_begin_x7 fn t0 t1 t2 t3 t4 ftb) (fun (u : (Nat → Int32)) => [(nw, .inr (7, [.ref nwc])), (nwc, .inl (cI, 41, .inl u)), (t, .inr (8, [.int t0, .int t1, .int t2, .int t3, .int t4, .ref ta, .ref tb, .ref tc, .ref td, .ref te])), (tb, .inl (cI, 6, .inl ftb))]) := by
  refine KV.go rfl (Nat.le_of_ble_eq_true rfl) ?_
  intro p e s m args below meth c ls A Q hx hb hml hts hown hin hP hK hD hS hA hN hl hret
  have hl : lv_has ls 3 [(0, .ref nw), (1, .ref t)] := hl
  obtain ⟨RES, hE⟩ : ∃ xRES, f_e_begin_x7 fn t0 t1 t2 t3 t4 ftb = xRES := ⟨_, rfl⟩
  rw [hE] at hret
  rw [f_e_begin_x7] at hE
  refine lv_aload_n hx hb dX7_begin_0 rfl (lv_at hl 0 rfl) ?_
  refine va_get (D := D) (ci := 7) (v := .ref nwc) (C := RX7) (T := TX7) (N := 1) hx hb hts iX7 hown hK hP 0 rfl rfl 0 (Nat.le_of_ble_eq_true rfl) (hts _ wd_15) (fun _ h9 => h9) rfl dX7_begin_1 ?_
  refine lv_iconst (v := 0) hx hb dX7_begin_4 rfl ?_
  refine cSv (wr := [(nw, .inr (7, [.ref nwc])), (t, .inr (8, [.int t0, .int t1, .int t2, .int t3, .int t4, .ref ta, .ref tb, .ref tc, .ref td, .ref te])), (tb, .inl (cI, 6, .inl ftb))]) (rest := []) (k_fill41 nwc fn) okS_J7_fill_53178 wd_66 hx hb hml hown hts hK hP hD hS hA hN hl.1 [1] [0, 2, 3] rfl rfl rfl rfl (of_decide_eq_true rfl) rfl (Nat.le_of_ble_eq_true rfl) (Nat.le_of_ble_eq_true rfl) (Nat.le_of_ble_eq_true rfl) (Nat.le_of_ble_eq_true rfl) (Nat.le_of_ble_eq_true rfl) dX7_begin_5 (fun u_1 H locs hw_u_1 hP hD hS => ?_)
  have hP : va_P D classes [(nw, .inr (7, [.ref nwc])), (t, .inr (8, [.int t0, .int t1, .int t2, .int t3, .int t4, .ref ta, .ref tb, .ref tc, .ref td, .ref te])), (tb, .inl (cI, 6, .inl ftb)), (nwc, .inl (cI, 41, .inl (fillZ fn 41)))] H := hP
  have hD : va_D A [(nw, .inr (7, [.ref nwc])), (t, .inr (8, [.int t0, .int t1, .int t2, .int t3, .int t4, .ref ta, .ref tb, .ref tc, .ref td, .ref te])), (tb, .inl (cI, 6, .inl ftb)), (nwc, .inl (cI, 41, .inl (fillZ fn 41)))] := hD
  refine lv_iconst (v := 0) hx hb dX7_begin_8 rfl ?_
  refine lv_istore_n (lv' := [(2, .int 0), (0, .ref nw), (1, .ref t)]) hx hb dX7_begin_9 rfl hl (Nat.le_of_ble_eq_true rfl) rfl (fun ls hl => ?_)
  have ex_10_w_3 : ∀ (w_3l2 : Int32) (w_3m0 : (Nat → Int32)) (H : Heap) (locs : List Loc) (ls : Array Slot), va_P D classes [(nw, .inr (7, [.ref nwc])), (t, .inr (8, [.int t0, .int t1, .int t2, .int t3, .int t4, .ref ta, .ref tb, .ref tc, .ref td, .ref te])), (tb, .inl (cI, 6, .inl ftb)), (nwc, .inl (cI, 41, .inl w_3m0))] H → va_D A [(nw, .inr (7, [.ref nwc])), (t, .inr (8, [.int t0, .int t1, .int t2, .int t3, .int t4, .ref ta, .ref tb, .ref tc, .ref td, .ref te])), (tb, .inl (cI, 6, .inl ftb)), (nwc, .inl (cI, 41, .inl w_3m0))] → va_S A s.heap H locs → lv_has ls 3 [(2, .int w_3l2), (0, .ref nw), (1, .ref t)] → ((match (f_e_begin_x7_66 fn t0 t1 t2 t3 t4 ftb (((7 : Int32).toInt - (0 : Int32).toInt).toNat + 1) 0 w_3m0) with | (w_4l2, w_4m0) => w_4m0)) = RES → W p l e rm_e_begin_x7 s m args below meth c H locs 0 0 Q (F0 m 64 ls []) := by
    intro w_3l2 w_3m0 H locs ls hP hD hS hl hE
    refine lv_iconst (v := 0) hx hb dX7_begin_64 rfl ?_
    refine lv_istore_n (lv' := [(2, .int 0), (0, .ref nw), (1, .ref t)]) hx hb dX7_begin_65 rfl hl (Nat.le_of_ble_eq_true rfl) rfl (fun ls hl => ?_)
    have ex_66_w_4 : ∀ (w_4l2 : Int32) (w_4m0 : (Nat → Int32)) (H : Heap) (locs : List Loc) (ls : Array Slot), va_P D classes [(nw, .inr (7, [.ref nwc])), (t, .inr (8, [.int t0, .int t1, .int t2, .int t3, .int t4, .ref ta, .ref tb, .ref tc, .ref td, .ref te])), (tb, .inl (cI, 6, .inl ftb)), (nwc, .inl (cI, 41, .inl w_4m0))] H → va_D A [(nw, .inr (7, [.ref nwc])), (t, .inr (8, [.int t0, .int t1, .int t2, .int t3, .int t4, .ref ta, .ref tb, .ref tc, .ref td, .ref te])), (tb, .inl (cI, 6, .inl ftb)), (nwc, .inl (cI, 41, .inl w_4m0))] → va_S A s.heap H locs → lv_has ls 3 [(2, .int w_4l2), (0, .ref nw), (1, .ref t)] → (w_4m0) = RES → W p l e rm_e_begin_x7 s m args below meth c H locs 0 0 Q (F0 m 102 ls []) := by
      intro w_4l2 w_4m0 H locs ls hP hD hS hl hE
      exact hret w_4m0 _ _ _ _ dX7_begin_102 hE (cutP (isC := [0, 3, 1, 2]) hP rfl) (cutD (isC := [0, 3, 1, 2]) hD rfl rfl) hS
    have lp_66_w_4 : ∀ (n_w_4 : Nat) (w_4l2 : Int32) (w_4m0 : (Nat → Int32)) (H : Heap) (locs : List Loc) (ls : Array Slot), va_P D classes [(nw, .inr (7, [.ref nwc])), (t, .inr (8, [.int t0, .int t1, .int t2, .int t3, .int t4, .ref ta, .ref tb, .ref tc, .ref td, .ref te])), (tb, .inl (cI, 6, .inl ftb)), (nwc, .inl (cI, 41, .inl w_4m0))] H → va_D A [(nw, .inr (7, [.ref nwc])), (t, .inr (8, [.int t0, .int t1, .int t2, .int t3, .int t4, .ref ta, .ref tb, .ref tc, .ref td, .ref te])), (tb, .inl (cI, 6, .inl ftb)), (nwc, .inl (cI, 41, .inl w_4m0))] → va_S A s.heap H locs → lv_has ls 3 [(2, .int w_4l2), (0, .ref nw), (1, .ref t)] → ((7 : Int32).toInt - (w_4l2 : Int32).toInt).toNat < n_w_4 → (match (f_e_begin_x7_66 fn t0 t1 t2 t3 t4 ftb n_w_4 w_4l2 w_4m0) with | (w_4l2, w_4m0) => w_4m0) = RES → W p l e rm_e_begin_x7 s m args below meth c H locs 0 0 Q (F0 m 66 ls []) := by
      intro n_w_4
      induction n_w_4 with
      | zero => intro w_4l2 w_4m0 H locs ls hP hD hS hl hm; exact absurd hm (Nat.not_lt_zero _)
      | succ n_w_4 ih_w_4 =>
        intro w_4l2 w_4m0 H locs ls hP hD hS hl hm hE
        rw [f_e_begin_x7_66_s] at hE
        refine lv_iload_n hx hb dX7_begin_66 rfl (lv_at hl 0 rfl) ?_
        refine lv_bipush (v := 7) hx hb dX7_begin_67 rfl ?_
        refine lv_icmp_ge (tgt := 102) hx hb dX7_begin_69 rfl (fun c_5 => ?_) (fun c_5 => ?_)
        · rw [if_pos c_5] at hE
          exact ex_66_w_4 w_4l2 w_4m0 _ _ ls hP hD hS (lv_sub hl [0, 1, 2] rfl) hE
        · rw [if_neg c_5] at hE
          refine lv_aload_n hx hb dX7_begin_72 rfl (lv_at hl 1 rfl) ?_
          refine va_get (D := D) (ci := 7) (v := .ref nwc) (C := RX7) (T := TX7) (N := 1) hx hb hts iX7 hown hK hP 0 rfl rfl 0 (Nat.le_of_ble_eq_true rfl) (hts _ wd_15) (fun _ h9 => h9) rfl dX7_begin_73 ?_
          refine lv_bipush (v := 27) hx hb dX7_begin_76 rfl ?_
          refine lv_iload_n hx hb dX7_begin_78 rfl (lv_at hl 0 rfl) ?_
          refine lv_iadd hx hb dX7_begin_79 ?_
          refine lv_iconst (v := (-1)) hx hb dX7_begin_80 rfl ?_
          refine cNv (wr := [(nw, .inr (7, [.ref nwc])), (t, .inr (8, [.int t0, .int t1, .int t2, .int t3, .int t4, .ref ta, .ref tb, .ref tc, .ref td, .ref te])), (tb, .inl (cI, 6, .inl ftb))]) (rest := []) (k_put nwc 41 w_4m0 (27 + w_4l2) (-1) (of_decide_eq_true rfl)) okS_X9_put 17 rfl hx hb hml hown hts hK hP hD hS hA hN hl.1 [3] [0, 1, 2] rfl rfl rfl rfl (by decide) rfl (Nat.le_of_ble_eq_true rfl) (Nat.le_of_ble_eq_true rfl) (Nat.le_of_ble_eq_true rfl) (Nat.le_of_ble_eq_true rfl) (Nat.le_of_ble_eq_true rfl) dX7_begin_81 (fun u_6 H locs hw_u_6 hP hD hS => ?_)
          have hP : va_P D classes [(nw, .inr (7, [.ref nwc])), (t, .inr (8, [.int t0, .int t1, .int t2, .int t3, .int t4, .ref ta, .ref tb, .ref tc, .ref td, .ref te])), (tb, .inl (cI, 6, .inl ftb)), (nwc, .inl (cI, 41, .inl (putF 41 w_4m0 (27 + w_4l2) (-1))))] H := hP
          have hD : va_D A [(nw, .inr (7, [.ref nwc])), (t, .inr (8, [.int t0, .int t1, .int t2, .int t3, .int t4, .ref ta, .ref tb, .ref tc, .ref td, .ref te])), (tb, .inl (cI, 6, .inl ftb)), (nwc, .inl (cI, 41, .inl (putF 41 w_4m0 (27 + w_4l2) (-1))))] := hD
          refine lv_aload_n hx hb dX7_begin_84 rfl (lv_at hl 1 rfl) ?_
          refine va_get (D := D) (ci := 7) (v := .ref nwc) (C := RX7) (T := TX7) (N := 1) hx hb hts iX7 hown hK hP 0 rfl rfl 0 (Nat.le_of_ble_eq_true rfl) (hts _ wd_15) (fun _ h9 => h9) rfl dX7_begin_85 ?_
          refine lv_bipush (v := 34) hx hb dX7_begin_88 rfl ?_
          refine lv_iload_n hx hb dX7_begin_90 rfl (lv_at hl 0 rfl) ?_
          refine lv_iadd hx hb dX7_begin_91 ?_
          refine lv_iconst (v := (-1)) hx hb dX7_begin_92 rfl ?_
          refine cNv (wr := [(nw, .inr (7, [.ref nwc])), (t, .inr (8, [.int t0, .int t1, .int t2, .int t3, .int t4, .ref ta, .ref tb, .ref tc, .ref td, .ref te])), (tb, .inl (cI, 6, .inl ftb))]) (rest := []) (k_put nwc 41 (putF 41 w_4m0 (27 + w_4l2) (-1)) (34 + w_4l2) (-1) (of_decide_eq_true rfl)) okS_X9_put 17 rfl hx hb hml hown hts hK hP hD hS hA hN hl.1 [3] [0, 1, 2] rfl rfl rfl rfl (by decide) rfl (Nat.le_of_ble_eq_true rfl) (Nat.le_of_ble_eq_true rfl) (Nat.le_of_ble_eq_true rfl) (Nat.le_of_ble_eq_true rfl) (Nat.le_of_ble_eq_true rfl) dX7_begin_93 (fun u_8 H locs hw_u_8 hP hD hS => ?_)
          have hP : va_P D classes [(nw, .inr (7, [.ref nwc])), (t, .inr (8, [.int t0, .int t1, .int t2, .int t3, .int t4, .ref ta, .ref tb, .ref tc, .ref td, .ref te])), (tb, .inl (cI, 6, .inl ftb)), (nwc, .inl (cI, 41, .inl (putF 41 (putF 41 w_4m0 (27 + w_4l2) (-1)) (34 + w_4l2) (-1))))] H := hP
          have hD : va_D A [(nw, .inr (7, [.ref nwc])), (t, .inr (8, [.int t0, .int t1, .int t2, .int t3, .int t4, .ref ta, .ref tb, .ref tc, .ref td, .ref te])), (tb, .inl (cI, 6, .inl ftb)), (nwc, .inl (cI, 41, .inl (putF 41 (putF 41 w_4m0 (27 + w_4l2) (-1)) (34 + w_4l2) (-1))))] := hD
          refine lv_iinc (v := (w_4l2 + 1)) (lv' := [(2, .int (w_4l2 + 1)), (0, .ref nw), (1, .ref t)]) hx hb dX7_begin_96 hl (k := 0) rfl rfl (Nat.le_of_ble_eq_true rfl) rfl (fun ls hl => ?_)
          refine lv_goto (tgt := 66) hx hb dX7_begin_99 rfl ?_
          exact ih_w_4 (w_4l2 + 1) (putF 41 (putF 41 w_4m0 (27 + w_4l2) (-1)) (34 + w_4l2) (-1)) _ _ ls hP hD hS (lv_sub hl [0, 1, 2] rfl) (up_step c_5 hm) hE
    exact lp_66_w_4 (((7 : Int32).toInt - (0 : Int32).toInt).toNat + 1) 0 w_3m0 _ _ ls hP hD hS hl (Nat.lt_succ_self _) hE
  have lp_10_w_3 : ∀ (n_w_3 : Nat) (w_3l2 : Int32) (w_3m0 : (Nat → Int32)) (H : Heap) (locs : List Loc) (ls : Array Slot), va_P D classes [(nw, .inr (7, [.ref nwc])), (t, .inr (8, [.int t0, .int t1, .int t2, .int t3, .int t4, .ref ta, .ref tb, .ref tc, .ref td, .ref te])), (tb, .inl (cI, 6, .inl ftb)), (nwc, .inl (cI, 41, .inl w_3m0))] H → va_D A [(nw, .inr (7, [.ref nwc])), (t, .inr (8, [.int t0, .int t1, .int t2, .int t3, .int t4, .ref ta, .ref tb, .ref tc, .ref td, .ref te])), (tb, .inl (cI, 6, .inl ftb)), (nwc, .inl (cI, 41, .inl w_3m0))] → va_S A s.heap H locs → lv_has ls 3 [(2, .int w_3l2), (0, .ref nw), (1, .ref t)] → ((6 : Int32).toInt - (w_3l2 : Int32).toInt).toNat < n_w_3 → (match (f_e_begin_x7_10 fn t0 t1 t2 t3 t4 ftb n_w_3 w_3l2 w_3m0) with | (w_3l2, w_3m0) => (match (f_e_begin_x7_66 fn t0 t1 t2 t3 t4 ftb (((7 : Int32).toInt - (0 : Int32).toInt).toNat + 1) 0 w_3m0) with | (w_4l2, w_4m0) => w_4m0)) = RES → W p l e rm_e_begin_x7 s m args below meth c H locs 0 0 Q (F0 m 10 ls []) := by
    intro n_w_3
    induction n_w_3 with
    | zero => intro w_3l2 w_3m0 H locs ls hP hD hS hl hm; exact absurd hm (Nat.not_lt_zero _)
    | succ n_w_3 ih_w_3 =>
      intro w_3l2 w_3m0 H locs ls hP hD hS hl hm hE
      rw [f_e_begin_x7_10_s] at hE
      refine lv_iload_n hx hb dX7_begin_10 rfl (lv_at hl 0 rfl) ?_
      refine lv_bipush (v := 6) hx hb dX7_begin_11 rfl ?_
      refine lv_icmp_ge (tgt := 64) hx hb dX7_begin_13 rfl (fun c_10 => ?_) (fun c_10 => ?_)
      · rw [if_pos c_10] at hE
        exact ex_10_w_3 w_3l2 w_3m0 _ _ ls hP hD hS (lv_sub hl [0, 1, 2] rfl) hE
      · rw [if_neg c_10] at hE
        refine lv_aload_n hx hb dX7_begin_16 rfl (lv_at hl 1 rfl) ?_
        refine va_get (D := D) (ci := 7) (v := .ref nwc) (C := RX7) (T := TX7) (N := 1) hx hb hts iX7 hown hK hP 0 rfl rfl 0 (Nat.le_of_ble_eq_true rfl) (hts _ wd_15) (fun _ h9 => h9) rfl dX7_begin_17 ?_
        refine lv_iconst (v := 2) hx hb dX7_begin_20 rfl ?_
        refine lv_iload_n hx hb dX7_begin_21 rfl (lv_at hl 0 rfl) ?_
        refine lv_iadd hx hb dX7_begin_22 ?_
        refine lv_iload_n hx hb dX7_begin_23 rfl (lv_at hl 0 rfl) ?_
        refine lv_aload_n hx hb dX7_begin_24 rfl (lv_at hl 2 rfl) ?_
        refine va_get (D := D) (ci := 8) (v := .int t2) (C := RX8) (T := TX8) (N := 10) hx hb hts iX8 hown hK hP 1 rfl rfl 2 (Nat.le_of_ble_eq_true rfl) (hts _ wd_73) (fun _ h9 => h9) rfl dX7_begin_25 ?_
        refine lv_icmp_ge (tgt := 42) hx hb dX7_begin_28 rfl (fun c_11 => ?_) (fun c_11 => ?_)
        · rw [if_pos c_11] at hE
          refine lv_iconst (v := 0) hx hb dX7_begin_42 rfl ?_
          refine cNv (wr := [(nw, .inr (7, [.ref nwc])), (t, .inr (8, [.int t0, .int t1, .int t2, .int t3, .int t4, .ref ta, .ref tb, .ref tc, .ref td, .ref te])), (tb, .inl (cI, 6, .inl ftb))]) (rest := []) (k_put nwc 41 w_3m0 (2 + w_3l2) 0 (of_decide_eq_true rfl)) okS_X9_put 17 rfl hx hb hml hown hts hK hP hD hS hA hN hl.1 [3] [0, 1, 2] rfl rfl rfl rfl (by decide) rfl (Nat.le_of_ble_eq_true rfl) (Nat.le_of_ble_eq_true rfl) (Nat.le_of_ble_eq_true rfl) (Nat.le_of_ble_eq_true rfl) (Nat.le_of_ble_eq_true rfl) dX7_begin_43 (fun u_12 H locs hw_u_12 hP hD hS => ?_)
          have hP : va_P D classes [(nw, .inr (7, [.ref nwc])), (t, .inr (8, [.int t0, .int t1, .int t2, .int t3, .int t4, .ref ta, .ref tb, .ref tc, .ref td, .ref te])), (tb, .inl (cI, 6, .inl ftb)), (nwc, .inl (cI, 41, .inl (putF 41 w_3m0 (2 + w_3l2) 0)))] H := hP
          have hD : va_D A [(nw, .inr (7, [.ref nwc])), (t, .inr (8, [.int t0, .int t1, .int t2, .int t3, .int t4, .ref ta, .ref tb, .ref tc, .ref td, .ref te])), (tb, .inl (cI, 6, .inl ftb)), (nwc, .inl (cI, 41, .inl (putF 41 w_3m0 (2 + w_3l2) 0)))] := hD
          refine lv_aload_n hx hb dX7_begin_46 rfl (lv_at hl 1 rfl) ?_
          refine va_get (D := D) (ci := 7) (v := .ref nwc) (C := RX7) (T := TX7) (N := 1) hx hb hts iX7 hown hK hP 0 rfl rfl 0 (Nat.le_of_ble_eq_true rfl) (hts _ wd_15) (fun _ h9 => h9) rfl dX7_begin_47 ?_
          refine lv_bipush (v := 8) hx hb dX7_begin_50 rfl ?_
          refine lv_iload_n hx hb dX7_begin_52 rfl (lv_at hl 0 rfl) ?_
          refine lv_iadd hx hb dX7_begin_53 ?_
          refine lv_iconst (v := (-1)) hx hb dX7_begin_54 rfl ?_
          refine cNv (wr := [(nw, .inr (7, [.ref nwc])), (t, .inr (8, [.int t0, .int t1, .int t2, .int t3, .int t4, .ref ta, .ref tb, .ref tc, .ref td, .ref te])), (tb, .inl (cI, 6, .inl ftb))]) (rest := []) (k_put nwc 41 (putF 41 w_3m0 (2 + w_3l2) 0) (8 + w_3l2) (-1) (of_decide_eq_true rfl)) okS_X9_put 17 rfl hx hb hml hown hts hK hP hD hS hA hN hl.1 [3] [0, 1, 2] rfl rfl rfl rfl (by decide) rfl (Nat.le_of_ble_eq_true rfl) (Nat.le_of_ble_eq_true rfl) (Nat.le_of_ble_eq_true rfl) (Nat.le_of_ble_eq_true rfl) (Nat.le_of_ble_eq_true rfl) dX7_begin_55 (fun u_14 H locs hw_u_14 hP hD hS => ?_)
          have hP : va_P D classes [(nw, .inr (7, [.ref nwc])), (t, .inr (8, [.int t0, .int t1, .int t2, .int t3, .int t4, .ref ta, .ref tb, .ref tc, .ref td, .ref te])), (tb, .inl (cI, 6, .inl ftb)), (nwc, .inl (cI, 41, .inl (putF 41 (putF 41 w_3m0 (2 + w_3l2) 0) (8 + w_3l2) (-1))))] H := hP
          have hD : va_D A [(nw, .inr (7, [.ref nwc])), (t, .inr (8, [.int t0, .int t1, .int t2, .int t3, .int t4, .ref ta, .ref tb, .ref tc, .ref td, .ref te])), (tb, .inl (cI, 6, .inl ftb)), (nwc, .inl (cI, 41, .inl (putF 41 (putF 41 w_3m0 (2 + w_3l2) 0) (8 + w_3l2) (-1))))] := hD
          refine lv_iinc (v := (w_3l2 + 1)) (lv' := [(2, .int (w_3l2 + 1)), (0, .ref nw), (1, .ref t)]) hx hb dX7_begin_58 hl (k := 0) rfl rfl (Nat.le_of_ble_eq_true rfl) rfl (fun ls hl => ?_)
          refine lv_goto (tgt := 10) hx hb dX7_begin_61 rfl ?_
          exact ih_w_3 (w_3l2 + 1) (putF 41 (putF 41 w_3m0 (2 + w_3l2) 0) (8 + w_3l2) (-1)) _ _ ls hP hD hS (lv_sub hl [0, 1, 2] rfl) (up_step c_10 hm) hE
        · rw [if_neg c_11] at hE
          refine lv_aload_n hx hb dX7_begin_31 rfl (lv_at hl 2 rfl) ?_
          refine va_get (D := D) (ci := 8) (v := .ref tb) (C := RX8) (T := TX8) (N := 10) hx hb hts iX8 hown hK hP 1 rfl rfl 6 (Nat.le_of_ble_eq_true rfl) (hts _ wd_175) (fun _ h9 => h9) rfl dX7_begin_32 ?_
          refine lv_iload_n hx hb dX7_begin_35 rfl (lv_at hl 0 rfl) ?_
          refine cNi (wr := [(nw, .inr (7, [.ref nwc])), (t, .inr (8, [.int t0, .int t1, .int t2, .int t3, .int t4, .ref ta, .ref tb, .ref tc, .ref td, .ref te])), (nwc, .inl (cI, 41, .inl w_3m0))]) (rest := [.int (2 + w_3l2), .ref nwc]) (k_at tb 6 ftb w_3l2 (of_decide_eq_true rfl)) okS_X9_at 16 rfl hx hb hml hown hts hK hP hD hS hA hN hl.1 [2] [0, 1, 3] rfl rfl rfl rfl (by decide) rfl (Nat.le_of_ble_eq_true rfl) (Nat.le_of_ble_eq_true rfl) (Nat.le_of_ble_eq_true rfl) (Nat.le_of_ble_eq_true rfl) (Nat.le_of_ble_eq_true rfl) dX7_begin_36 (fun r_17 u_16 H locs hw_u_16 hP hD hS => ?_)
          obtain rfl := hw_u_16
          have hP : va_P D classes [(nw, .inr (7, [.ref nwc])), (t, .inr (8, [.int t0, .int t1, .int t2, .int t3, .int t4, .ref ta, .ref tb, .ref tc, .ref td, .ref te])), (nwc, .inl (cI, 41, .inl w_3m0)), (tb, .inl (cI, 6, .inl ftb))] H := hP
          have hD : va_D A [(nw, .inr (7, [.ref nwc])), (t, .inr (8, [.int t0, .int t1, .int t2, .int t3, .int t4, .ref ta, .ref tb, .ref tc, .ref td, .ref te])), (nwc, .inl (cI, 41, .inl w_3m0)), (tb, .inl (cI, 6, .inl ftb))] := hD
          refine lv_goto (tgt := 43) hx hb dX7_begin_39 rfl ?_
          refine cNv (wr := [(nw, .inr (7, [.ref nwc])), (t, .inr (8, [.int t0, .int t1, .int t2, .int t3, .int t4, .ref ta, .ref tb, .ref tc, .ref td, .ref te])), (tb, .inl (cI, 6, .inl ftb))]) (rest := []) (k_put nwc 41 w_3m0 (2 + w_3l2) (atF 6 ftb w_3l2) (of_decide_eq_true rfl)) okS_X9_put 17 rfl hx hb hml hown hts hK hP hD hS hA hN hl.1 [2] [0, 1, 3] rfl rfl rfl rfl (by decide) rfl (Nat.le_of_ble_eq_true rfl) (Nat.le_of_ble_eq_true rfl) (Nat.le_of_ble_eq_true rfl) (Nat.le_of_ble_eq_true rfl) (Nat.le_of_ble_eq_true rfl) dX7_begin_43 (fun u_18 H locs hw_u_18 hP hD hS => ?_)
          have hP : va_P D classes [(nw, .inr (7, [.ref nwc])), (t, .inr (8, [.int t0, .int t1, .int t2, .int t3, .int t4, .ref ta, .ref tb, .ref tc, .ref td, .ref te])), (tb, .inl (cI, 6, .inl ftb)), (nwc, .inl (cI, 41, .inl (putF 41 w_3m0 (2 + w_3l2) (atF 6 ftb w_3l2))))] H := hP
          have hD : va_D A [(nw, .inr (7, [.ref nwc])), (t, .inr (8, [.int t0, .int t1, .int t2, .int t3, .int t4, .ref ta, .ref tb, .ref tc, .ref td, .ref te])), (tb, .inl (cI, 6, .inl ftb)), (nwc, .inl (cI, 41, .inl (putF 41 w_3m0 (2 + w_3l2) (atF 6 ftb w_3l2))))] := hD
          refine lv_aload_n hx hb dX7_begin_46 rfl (lv_at hl 1 rfl) ?_
          refine va_get (D := D) (ci := 7) (v := .ref nwc) (C := RX7) (T := TX7) (N := 1) hx hb hts iX7 hown hK hP 0 rfl rfl 0 (Nat.le_of_ble_eq_true rfl) (hts _ wd_15) (fun _ h9 => h9) rfl dX7_begin_47 ?_
          refine lv_bipush (v := 8) hx hb dX7_begin_50 rfl ?_
          refine lv_iload_n hx hb dX7_begin_52 rfl (lv_at hl 0 rfl) ?_
          refine lv_iadd hx hb dX7_begin_53 ?_
          refine lv_iconst (v := (-1)) hx hb dX7_begin_54 rfl ?_
          refine cNv (wr := [(nw, .inr (7, [.ref nwc])), (t, .inr (8, [.int t0, .int t1, .int t2, .int t3, .int t4, .ref ta, .ref tb, .ref tc, .ref td, .ref te])), (tb, .inl (cI, 6, .inl ftb))]) (rest := []) (k_put nwc 41 (putF 41 w_3m0 (2 + w_3l2) (atF 6 ftb w_3l2)) (8 + w_3l2) (-1) (of_decide_eq_true rfl)) okS_X9_put 17 rfl hx hb hml hown hts hK hP hD hS hA hN hl.1 [3] [0, 1, 2] rfl rfl rfl rfl (by decide) rfl (Nat.le_of_ble_eq_true rfl) (Nat.le_of_ble_eq_true rfl) (Nat.le_of_ble_eq_true rfl) (Nat.le_of_ble_eq_true rfl) (Nat.le_of_ble_eq_true rfl) dX7_begin_55 (fun u_20 H locs hw_u_20 hP hD hS => ?_)
          have hP : va_P D classes [(nw, .inr (7, [.ref nwc])), (t, .inr (8, [.int t0, .int t1, .int t2, .int t3, .int t4, .ref ta, .ref tb, .ref tc, .ref td, .ref te])), (tb, .inl (cI, 6, .inl ftb)), (nwc, .inl (cI, 41, .inl (putF 41 (putF 41 w_3m0 (2 + w_3l2) (atF 6 ftb w_3l2)) (8 + w_3l2) (-1))))] H := hP
          have hD : va_D A [(nw, .inr (7, [.ref nwc])), (t, .inr (8, [.int t0, .int t1, .int t2, .int t3, .int t4, .ref ta, .ref tb, .ref tc, .ref td, .ref te])), (tb, .inl (cI, 6, .inl ftb)), (nwc, .inl (cI, 41, .inl (putF 41 (putF 41 w_3m0 (2 + w_3l2) (atF 6 ftb w_3l2)) (8 + w_3l2) (-1))))] := hD
          refine lv_iinc (v := (w_3l2 + 1)) (lv' := [(2, .int (w_3l2 + 1)), (0, .ref nw), (1, .ref t)]) hx hb dX7_begin_58 hl (k := 0) rfl rfl (Nat.le_of_ble_eq_true rfl) rfl (fun ls hl => ?_)
          refine lv_goto (tgt := 10) hx hb dX7_begin_61 rfl ?_
          exact ih_w_3 (w_3l2 + 1) (putF 41 (putF 41 w_3m0 (2 + w_3l2) (atF 6 ftb w_3l2)) (8 + w_3l2) (-1)) _ _ ls hP hD hS (lv_sub hl [0, 1, 2] rfl) (up_step c_10 hm) hE
  exact lp_10_w_3 (((6 : Int32).toInt - (0 : Int32).toInt).toNat + 1) 0 (fillZ fn 41) _ _ ls hP hD hS hl (Nat.lt_succ_self _) hE
noncomputable def f_e_forceOf_x8 (t0 : Int32) (t1 : Int32) (t2 : Int32) (t3 : Int32) (t4 : Int32) (ftc : Nat → Int32) (c_ : Int32) (e_ : Int32) : Int32 := (atF 30 ftc ((c_ * 5) + e_))
def rm_e_forceOf_x8 : Room := { frames := 1, cells := 0, slots := 0, locals := 21 }
set_option maxHeartbeats 4000000 in
set_option maxRecDepth 100000 in
theorem e_forceOf_x8 {l : Launch} {D : va_G} {cI cZ : ClassId} {sz : Nat} (t ta tb tc td te : Nat) (t0 : Int32) (t1 : Int32) (t2 : Int32) (t3 : Int32) (t4 : Int32) (ftc : Nat → Int32) (c_ : Int32) (e_ : Int32) : KI l yX8_forceOf cX8_forceOf 3 (some .int) rm_e_forceOf_x8 D cI cZ [.ref t, .int c_, .int e_] sz [(t, .inr (8, [.int t0, .int t1, .int t2, .int t3, .int t4, .ref ta, .ref tb, .ref tc, .ref td, .ref te])), (tc, .inl (cI, 30, .inl ftc))] (fun (r : Int32) (_ : Unit) => r = f_e_forceOf_x8 t0 t1 t2 t3 t4 ftc c_ e_) (fun (_ : Unit) => [(t, .inr (8, [.int t0, .int t1, .int t2, .int t3, .int t4, .ref ta, .ref tb, .ref tc, .ref td, .ref te])), (tc, .inl (cI, 30, .inl ftc))]) := by
  refine KI.go rfl (Nat.le_of_ble_eq_true rfl) ?_
  intro p e s m args below meth c ls A Q hx hb hml hts hown hin hP hK hD hS hA hN hl hret
  have hl : lv_has ls 3 [(0, .ref t), (1, .int c_), (2, .int e_)] := hl
  obtain ⟨RES, hE⟩ : ∃ xRES, f_e_forceOf_x8 t0 t1 t2 t3 t4 ftc c_ e_ = xRES := ⟨_, rfl⟩
  rw [hE] at hret
  rw [f_e_forceOf_x8] at hE
  refine lv_aload_n hx hb dX8_forceOf_0 rfl (lv_at hl 0 rfl) ?_
  refine va_get (D := D) (ci := 8) (v := .ref tc) (C := RX8) (T := TX8) (N := 10) hx hb hts iX8 hown hK hP 0 rfl rfl 7 (Nat.le_of_ble_eq_true rfl) (hts _ wd_11) (fun _ h9 => h9) rfl dX8_forceOf_1 ?_
  refine lv_iload_n hx hb dX8_forceOf_4 rfl (lv_at hl 1 rfl) ?_
  refine lv_iconst (v := 5) hx hb dX8_forceOf_5 rfl ?_
  refine lv_imul hx hb dX8_forceOf_6 ?_
  refine lv_iload_n hx hb dX8_forceOf_7 rfl (lv_at hl 2 rfl) ?_
  refine lv_iadd hx hb dX8_forceOf_8 ?_
  refine cNi (wr := [(t, .inr (8, [.int t0, .int t1, .int t2, .int t3, .int t4, .ref ta, .ref tb, .ref tc, .ref td, .ref te]))]) (rest := []) (k_at tc 30 ftc ((c_ * 5) + e_) (of_decide_eq_true rfl)) okS_X9_at 18 rfl hx hb hml hown hts hK hP hD hS hA hN hl.1 [1] [0] rfl rfl rfl rfl (by decide) rfl (Nat.le_of_ble_eq_true rfl) (Nat.le_of_ble_eq_true rfl) (Nat.le_of_ble_eq_true rfl) (Nat.le_of_ble_eq_true rfl) (Nat.le_of_ble_eq_true rfl) dX8_forceOf_9 (fun r_2 u_1 H locs hw_u_1 hP hD hS => ?_)
  obtain rfl := hw_u_1
  have hP : va_P D classes [(t, .inr (8, [.int t0, .int t1, .int t2, .int t3, .int t4, .ref ta, .ref tb, .ref tc, .ref td, .ref te])), (tc, .inl (cI, 30, .inl ftc))] H := hP
  have hD : va_D A [(t, .inr (8, [.int t0, .int t1, .int t2, .int t3, .int t4, .ref ta, .ref tb, .ref tc, .ref td, .ref te])), (tc, .inl (cI, 30, .inl ftc))] := hD
  exact hret (atF 30 ftc ((c_ * 5) + e_)) () _ _ _ _ dX8_forceOf_12 rfl hE hP hD hS
noncomputable def f_e_needOfAll_x8_4 (t0 : Int32) (t1 : Int32) (t2 : Int32) (t3 : Int32) (t4 : Int32) (fta : Nat → Int32) (n : Nat) : Int32 → Int32 → Int32 × Int32 := Nat.rec (motive := fun _ => Int32 → Int32 → Int32 × Int32) (fun w_1l2 w_1l1 => (w_1l2, w_1l1)) (fun n ih w_1l2 w_1l1 => (if t0 ≤ w_1l2 then (w_1l2, w_1l1) else (ih (w_1l2 + 1) (w_1l1 + (atF 6 fta w_1l2))))) n
theorem f_e_needOfAll_x8_4_s (t0 : Int32) (t1 : Int32) (t2 : Int32) (t3 : Int32) (t4 : Int32) (fta : Nat → Int32) (n : Nat) (w_1l2 : Int32) (w_1l1 : Int32) : f_e_needOfAll_x8_4 t0 t1 t2 t3 t4 fta (n + 1) w_1l2 w_1l1 = (if t0 ≤ w_1l2 then (w_1l2, w_1l1) else (f_e_needOfAll_x8_4 t0 t1 t2 t3 t4 fta n (w_1l2 + 1) (w_1l1 + (atF 6 fta w_1l2)))) := rfl
noncomputable def f_e_needOfAll_x8 (t0 : Int32) (t1 : Int32) (t2 : Int32) (t3 : Int32) (t4 : Int32) (fta : Nat → Int32) : Int32 := (match (f_e_needOfAll_x8_4 t0 t1 t2 t3 t4 fta (((t0 : Int32).toInt - (0 : Int32).toInt).toNat + 1) 0 0) with | (w_1l2, w_1l1) => w_1l1)
def rm_e_needOfAll_x8 : Room := { frames := 1, cells := 0, slots := 0, locals := 21 }
set_option maxHeartbeats 4000000 in
set_option maxRecDepth 100000 in
theorem e_needOfAll_x8 {l : Launch} {D : va_G} {cI cZ : ClassId} {sz : Nat} (t ta tb tc td te : Nat) (t0 : Int32) (t1 : Int32) (t2 : Int32) (t3 : Int32) (t4 : Int32) (fta : Nat → Int32) : KI l yX8_needOfAll cX8_needOfAll 3 (some .int) rm_e_needOfAll_x8 D cI cZ [.ref t] sz [(t, .inr (8, [.int t0, .int t1, .int t2, .int t3, .int t4, .ref ta, .ref tb, .ref tc, .ref td, .ref te])), (ta, .inl (cI, 6, .inl fta))] (fun (r : Int32) (_ : Unit) => r = f_e_needOfAll_x8 t0 t1 t2 t3 t4 fta) (fun (_ : Unit) => [(t, .inr (8, [.int t0, .int t1, .int t2, .int t3, .int t4, .ref ta, .ref tb, .ref tc, .ref td, .ref te])), (ta, .inl (cI, 6, .inl fta))]) := by
  refine KI.go rfl (Nat.le_of_ble_eq_true rfl) ?_
  intro p e s m args below meth c ls A Q hx hb hml hts hown hin hP hK hD hS hA hN hl hret
  have hl : lv_has ls 3 [(0, .ref t)] := hl
  obtain ⟨RES, hE⟩ : ∃ xRES, f_e_needOfAll_x8 t0 t1 t2 t3 t4 fta = xRES := ⟨_, rfl⟩
  rw [hE] at hret
  rw [f_e_needOfAll_x8] at hE
  refine lv_iconst (v := 0) hx hb dX8_needOfAll_0 rfl ?_
  refine lv_istore_n (lv' := [(1, .int 0), (0, .ref t)]) hx hb dX8_needOfAll_1 rfl hl (Nat.le_of_ble_eq_true rfl) rfl (fun ls hl => ?_)
  refine lv_iconst (v := 0) hx hb dX8_needOfAll_2 rfl ?_
  refine lv_istore_n (lv' := [(2, .int 0), (1, .int 0), (0, .ref t)]) hx hb dX8_needOfAll_3 rfl hl (Nat.le_of_ble_eq_true rfl) rfl (fun ls hl => ?_)
  have ex_4_w_1 : ∀ (w_1l2 : Int32) (w_1l1 : Int32) (H : Heap) (locs : List Loc) (ls : Array Slot), va_P D classes [(t, .inr (8, [.int t0, .int t1, .int t2, .int t3, .int t4, .ref ta, .ref tb, .ref tc, .ref td, .ref te])), (ta, .inl (cI, 6, .inl fta))] H → va_D A [(t, .inr (8, [.int t0, .int t1, .int t2, .int t3, .int t4, .ref ta, .ref tb, .ref tc, .ref td, .ref te])), (ta, .inl (cI, 6, .inl fta))] → va_S A s.heap H locs → lv_has ls 3 [(2, .int w_1l2), (1, .int w_1l1), (0, .ref t)] → (w_1l1) = RES → W p l e rm_e_needOfAll_x8 s m args below meth c H locs 0 0 Q (F0 m 29 ls []) := by
    intro w_1l2 w_1l1 H locs ls hP hD hS hl hE
    refine lv_iload_n hx hb dX8_needOfAll_29 rfl (lv_at hl 1 rfl) ?_
    exact hret w_1l1 () _ _ _ _ dX8_needOfAll_30 rfl hE hP hD hS
  have lp_4_w_1 : ∀ (n_w_1 : Nat) (w_1l2 : Int32) (w_1l1 : Int32) (H : Heap) (locs : List Loc) (ls : Array Slot), va_P D classes [(t, .inr (8, [.int t0, .int t1, .int t2, .int t3, .int t4, .ref ta, .ref tb, .ref tc, .ref td, .ref te])), (ta, .inl (cI, 6, .inl fta))] H → va_D A [(t, .inr (8, [.int t0, .int t1, .int t2, .int t3, .int t4, .ref ta, .ref tb, .ref tc, .ref td, .ref te])), (ta, .inl (cI, 6, .inl fta))] → va_S A s.heap H locs → lv_has ls 3 [(2, .int w_1l2), (1, .int w_1l1), (0, .ref t)] → ((t0 : Int32).toInt - (w_1l2 : Int32).toInt).toNat < n_w_1 → (match (f_e_needOfAll_x8_4 t0 t1 t2 t3 t4 fta n_w_1 w_1l2 w_1l1) with | (w_1l2, w_1l1) => w_1l1) = RES → W p l e rm_e_needOfAll_x8 s m args below meth c H locs 0 0 Q (F0 m 4 ls []) := by
    intro n_w_1
    induction n_w_1 with
    | zero => intro w_1l2 w_1l1 H locs ls hP hD hS hl hm; exact absurd hm (Nat.not_lt_zero _)
    | succ n_w_1 ih_w_1 =>
      intro w_1l2 w_1l1 H locs ls hP hD hS hl hm hE
      rw [f_e_needOfAll_x8_4_s] at hE
      refine lv_iload_n hx hb dX8_needOfAll_4 rfl (lv_at hl 0 rfl) ?_
      refine lv_aload_n hx hb dX8_needOfAll_5 rfl (lv_at hl 2 rfl) ?_
      refine va_get (D := D) (ci := 8) (v := .int t0) (C := RX8) (T := TX8) (N := 10) hx hb hts iX8 hown hK hP 0 rfl rfl 0 (Nat.le_of_ble_eq_true rfl) (hts _ wd_3) (fun _ h9 => h9) rfl dX8_needOfAll_6 ?_
      refine lv_icmp_ge (tgt := 29) hx hb dX8_needOfAll_9 rfl (fun c_2 => ?_) (fun c_2 => ?_)
      · rw [if_pos c_2] at hE
        exact ex_4_w_1 w_1l2 w_1l1 _ _ ls hP hD hS (lv_sub hl [0, 1, 2] rfl) hE
      · rw [if_neg c_2] at hE
        refine lv_iload_n hx hb dX8_needOfAll_12 rfl (lv_at hl 1 rfl) ?_
        refine lv_aload_n hx hb dX8_needOfAll_13 rfl (lv_at hl 2 rfl) ?_
        refine va_get (D := D) (ci := 8) (v := .ref ta) (C := RX8) (T := TX8) (N := 10) hx hb hts iX8 hown hK hP 0 rfl rfl 5 (Nat.le_of_ble_eq_true rfl) (hts _ wd_9) (fun _ h9 => h9) rfl dX8_needOfAll_14 ?_
        refine lv_iload_n hx hb dX8_needOfAll_17 rfl (lv_at hl 0 rfl) ?_
        refine cNi (wr := [(t, .inr (8, [.int t0, .int t1, .int t2, .int t3, .int t4, .ref ta, .ref tb, .ref tc, .ref td, .ref te]))]) (rest := [.int w_1l1]) (k_at ta 6 fta w_1l2 (of_decide_eq_true rfl)) okS_X9_at 18 rfl hx hb hml hown hts hK hP hD hS hA hN hl.1 [1] [0] rfl rfl rfl rfl (by decide) rfl (Nat.le_of_ble_eq_true rfl) (Nat.le_of_ble_eq_true rfl) (Nat.le_of_ble_eq_true rfl) (Nat.le_of_ble_eq_true rfl) (Nat.le_of_ble_eq_true rfl) dX8_needOfAll_18 (fun r_4 u_3 H locs hw_u_3 hP hD hS => ?_)
        obtain rfl := hw_u_3
        have hP : va_P D classes [(t, .inr (8, [.int t0, .int t1, .int t2, .int t3, .int t4, .ref ta, .ref tb, .ref tc, .ref td, .ref te])), (ta, .inl (cI, 6, .inl fta))] H := hP
        have hD : va_D A [(t, .inr (8, [.int t0, .int t1, .int t2, .int t3, .int t4, .ref ta, .ref tb, .ref tc, .ref td, .ref te])), (ta, .inl (cI, 6, .inl fta))] := hD
        refine lv_iadd hx hb dX8_needOfAll_21 ?_
        refine lv_istore_n (lv' := [(1, .int (w_1l1 + (atF 6 fta w_1l2))), (2, .int w_1l2), (0, .ref t)]) hx hb dX8_needOfAll_22 rfl hl (Nat.le_of_ble_eq_true rfl) rfl (fun ls hl => ?_)
        refine lv_iinc (v := (w_1l2 + 1)) (lv' := [(2, .int (w_1l2 + 1)), (1, .int (w_1l1 + (atF 6 fta w_1l2))), (0, .ref t)]) hx hb dX8_needOfAll_23 hl (k := 1) rfl rfl (Nat.le_of_ble_eq_true rfl) rfl (fun ls hl => ?_)
        refine lv_goto (tgt := 4) hx hb dX8_needOfAll_26 rfl ?_
        exact ih_w_1 (w_1l2 + 1) (w_1l1 + (atF 6 fta w_1l2)) _ _ ls hP hD hS (lv_sub hl [0, 1, 2] rfl) (up_step c_2 hm) hE
  exact lp_4_w_1 (((t0 : Int32).toInt - (0 : Int32).toInt).toNat + 1) 0 0 _ _ ls hP hD hS hl (Nat.lt_succ_self _) hE
noncomputable def f_e_clear_x8 (t0 : Int32) (t1 : Int32) (t2 : Int32) (t3 : Int32) (t4 : Int32) : Int32 × Int32 × Int32 × Int32 × Int32 := (0, 1, 0, 0, 0)
def rm_e_clear_x8 : Room := { frames := 0, cells := 0, slots := 0, locals := 0 }
set_option maxHeartbeats 4000000 in
set_option maxRecDepth 100000 in
theorem e_clear_x8 {l : Launch} {D : va_G} {cI cZ : ClassId} {sz : Nat} (t ta tb tc td te : Nat) (t0 : Int32) (t1 : Int32) (t2 : Int32) (t3 : Int32) (t4 : Int32) : KV l yX8_clear cX8_clear 1 rm_e_clear_x8 D cI cZ [.ref t] sz [(t, .inr (8, [.int t0, .int t1, .int t2, .int t3, .int t4, .ref ta, .ref tb, .ref tc, .ref td, .ref te]))] (fun (u : Int32 × Int32 × Int32 × Int32 × Int32) => u = f_e_clear_x8 t0 t1 t2 t3 t4) (fun (u : Int32 × Int32 × Int32 × Int32 × Int32) => [(t, .inr (8, [.int (u.1), .int (u.2.1), .int (u.2.2.1), .int (u.2.2.2.1), .int (u.2.2.2.2), .ref ta, .ref tb, .ref tc, .ref td, .ref te]))]) := by
  refine KV.go rfl (Nat.le_of_ble_eq_true rfl) ?_
  intro p e s m args below meth c ls A Q hx hb hml hts hown hin hP hK hD hS hA hN hl hret
  have hl : lv_has ls 1 [(0, .ref t)] := hl
  obtain ⟨RES, hE⟩ : ∃ xRES, f_e_clear_x8 t0 t1 t2 t3 t4 = xRES := ⟨_, rfl⟩
  rw [hE] at hret
  rw [f_e_clear_x8] at hE
  refine lv_aload_n hx hb dX8_clear_0 rfl (lv_at hl 0 rfl) ?_
  refine lv_iconst (v := 0) hx hb dX8_clear_1 rfl ?_
  refine va_put (D := D) (ci := 8) (v := .int 0) (ty := .int) (C := RX8) (T := TX8) (N := 10) hx hb hts iX8 tyX8 tyX8_ok nmX8 hown hK hP hD hS 0 rfl rfl 0 (Nat.le_of_ble_eq_true rfl) (hts _ wd_3) (fun _ h9 => h9) rfl (by decide +kernel) rfl rfl (Nat.le_of_ble_eq_true rfl) dX8_clear_2 (fun H locs hP hD hS => ?_)
  have hP : va_P D classes [(t, .inr (8, [.int 0, .int t1, .int t2, .int t3, .int t4, .ref ta, .ref tb, .ref tc, .ref td, .ref te]))] H := hP
  have hD : va_D A [(t, .inr (8, [.int 0, .int t1, .int t2, .int t3, .int t4, .ref ta, .ref tb, .ref tc, .ref td, .ref te]))] := hD
  refine lv_aload_n hx hb dX8_clear_5 rfl (lv_at hl 0 rfl) ?_
  refine lv_iconst (v := 1) hx hb dX8_clear_6 rfl ?_
  refine va_put (D := D) (ci := 8) (v := .int 1) (ty := .int) (C := RX8) (T := TX8) (N := 10) hx hb hts iX8 tyX8 tyX8_ok nmX8 hown hK hP hD hS 0 rfl rfl 1 (Nat.le_of_ble_eq_true rfl) (hts _ wd_4) (fun _ h9 => h9) rfl (by decide +kernel) rfl rfl (Nat.le_of_ble_eq_true rfl) dX8_clear_7 (fun H locs hP hD hS => ?_)
  have hP : va_P D classes [(t, .inr (8, [.int 0, .int 1, .int t2, .int t3, .int t4, .ref ta, .ref tb, .ref tc, .ref td, .ref te]))] H := hP
  have hD : va_D A [(t, .inr (8, [.int 0, .int 1, .int t2, .int t3, .int t4, .ref ta, .ref tb, .ref tc, .ref td, .ref te]))] := hD
  refine lv_aload_n hx hb dX8_clear_10 rfl (lv_at hl 0 rfl) ?_
  refine lv_iconst (v := 0) hx hb dX8_clear_11 rfl ?_
  refine va_put (D := D) (ci := 8) (v := .int 0) (ty := .int) (C := RX8) (T := TX8) (N := 10) hx hb hts iX8 tyX8 tyX8_ok nmX8 hown hK hP hD hS 0 rfl rfl 2 (Nat.le_of_ble_eq_true rfl) (hts _ wd_5) (fun _ h9 => h9) rfl (by decide +kernel) rfl rfl (Nat.le_of_ble_eq_true rfl) dX8_clear_12 (fun H locs hP hD hS => ?_)
  have hP : va_P D classes [(t, .inr (8, [.int 0, .int 1, .int 0, .int t3, .int t4, .ref ta, .ref tb, .ref tc, .ref td, .ref te]))] H := hP
  have hD : va_D A [(t, .inr (8, [.int 0, .int 1, .int 0, .int t3, .int t4, .ref ta, .ref tb, .ref tc, .ref td, .ref te]))] := hD
  refine lv_aload_n hx hb dX8_clear_15 rfl (lv_at hl 0 rfl) ?_
  refine lv_iconst (v := 0) hx hb dX8_clear_16 rfl ?_
  refine va_put (D := D) (ci := 8) (v := .int 0) (ty := .int) (C := RX8) (T := TX8) (N := 10) hx hb hts iX8 tyX8 tyX8_ok nmX8 hown hK hP hD hS 0 rfl rfl 3 (Nat.le_of_ble_eq_true rfl) (hts _ wd_6) (fun _ h9 => h9) rfl (by decide +kernel) rfl rfl (Nat.le_of_ble_eq_true rfl) dX8_clear_17 (fun H locs hP hD hS => ?_)
  have hP : va_P D classes [(t, .inr (8, [.int 0, .int 1, .int 0, .int 0, .int t4, .ref ta, .ref tb, .ref tc, .ref td, .ref te]))] H := hP
  have hD : va_D A [(t, .inr (8, [.int 0, .int 1, .int 0, .int 0, .int t4, .ref ta, .ref tb, .ref tc, .ref td, .ref te]))] := hD
  refine lv_aload_n hx hb dX8_clear_20 rfl (lv_at hl 0 rfl) ?_
  refine lv_iconst (v := 0) hx hb dX8_clear_21 rfl ?_
  refine va_put (D := D) (ci := 8) (v := .int 0) (ty := .int) (C := RX8) (T := TX8) (N := 10) hx hb hts iX8 tyX8 tyX8_ok nmX8 hown hK hP hD hS 0 rfl rfl 4 (Nat.le_of_ble_eq_true rfl) (hts _ wd_7) (fun _ h9 => h9) rfl (by decide +kernel) rfl rfl (Nat.le_of_ble_eq_true rfl) dX8_clear_22 (fun H locs hP hD hS => ?_)
  have hP : va_P D classes [(t, .inr (8, [.int 0, .int 1, .int 0, .int 0, .int 0, .ref ta, .ref tb, .ref tc, .ref td, .ref te]))] H := hP
  have hD : va_D A [(t, .inr (8, [.int 0, .int 1, .int 0, .int 0, .int 0, .ref ta, .ref tb, .ref tc, .ref td, .ref te]))] := hD
  exact hret (0, 1, 0, 0, 0) _ _ _ _ dX8_clear_25 hE hP hD hS
theorem sh_fin : ∀ k : Fin 20, ¬ (nI k.1 * 41 < 0) ∧ (nI k.1 * 41).toNatClampNeg + 41 ≤ 820 := by decide +kernel
theorem sh20 {i : Int32} (h1 : ¬ i < 0) (h2 : ¬ (20 : Int32) ≤ i) : ¬ (i * 41 < 0) ∧ (i * 41).toNatClampNeg + 41 ≤ 820 := by
  obtain ⟨j, hj, rfl⟩ := nI_of h1
  have h3 : j < 20 := Nat.lt_of_not_le (fun h => h2 ((nI_leI (a := 20) (by decide) hj).mpr h))
  exact sh_fin ⟨j, h3⟩
theorem im_fin : ∀ k : Fin 2, ¬ (nI k.1 * 41 < 0) ∧ (nI k.1 * 41).toNatClampNeg + 41 ≤ 82 := by decide +kernel
theorem sh2 {i : Int32} (h1 : ¬ i < 0) (h2 : ¬ (2 : Int32) ≤ i) : ¬ (i * 41 < 0) ∧ (i * 41).toNatClampNeg + 41 ≤ 82 := by
  obtain ⟨j, hj, rfl⟩ := nI_of h1
  have h3 : j < 2 := Nat.lt_of_not_le (fun h => h2 ((nI_leI (a := 2) (by decide) hj).mpr h))
  exact im_fin ⟨j, h3⟩
noncomputable def f_e_store20 (fsh : Nat → Int32) (fn : Nat → Int32) (i_ : Int32) : (Nat → Int32) := (if i_ < 0 then fsh else (if 20 ≤ i_ then fsh else (va_cpy fn fsh (0 : Int32).toNatClampNeg ((i_ * 41) : Int32).toNatClampNeg (41 : Int32).toNatClampNeg)))
def rm_e_store20 : Room := { frames := 1, cells := 0, slots := 0, locals := 60 }
set_option maxHeartbeats 4000000 in
set_option maxRecDepth 100000 in
theorem e_store20 {l : Launch} {D : va_G} {cI cZ : ClassId} {sz : Nat} (sh shc nw nwc : Nat) (fsh : Nat → Int32) (fn : Nat → Int32) (i_ : Int32) : KV l yX6_store cX6_store 3 rm_e_store20 D cI cZ [.ref sh, .int i_, .ref nw] sz [(sh, .inr (6, [.int 20, .ref shc])), (shc, .inl (cI, 820, .inl fsh)), (nw, .inr (7, [.ref nwc])), (nwc, .inl (cI, 41, .inl fn))] (fun (u : (Nat → Int32)) => u = f_e_store20 fsh fn i_) (fun (u : (Nat → Int32)) => [(sh, .inr (6, [.int 20, .ref shc])), (shc, .inl (cI, 820, .inl u)), (nw, .inr (7, [.ref nwc])), (nwc, .inl (cI, 41, .inl fn))]) := by
  refine KV.go rfl (Nat.le_of_ble_eq_true rfl) ?_
  intro p e s m args below meth c ls A Q hx hb hml hts hown hin hP hK hD hS hA hN hl hret
  have hl : lv_has ls 3 [(0, .ref sh), (1, .int i_), (2, .ref nw)] := hl
  obtain ⟨RES, hE⟩ : ∃ xRES, f_e_store20 fsh fn i_ = xRES := ⟨_, rfl⟩
  rw [hE] at hret
  rw [f_e_store20] at hE
  refine lv_iload_n hx hb dX6_store_0 rfl (lv_at hl 1 rfl) ?_
  refine lv_if_lt (tgt := 30) hx hb dX6_store_1 rfl (fun c_1 => ?_) (fun c_1 => ?_)
  · rw [if_pos c_1] at hE
    exact hret fsh _ _ _ _ dX6_store_30 hE hP hD hS
  · rw [if_neg c_1] at hE
    refine lv_iload_n hx hb dX6_store_4 rfl (lv_at hl 1 rfl) ?_
    refine lv_aload_n hx hb dX6_store_5 rfl (lv_at hl 0 rfl) ?_
    refine va_get (D := D) (ci := 6) (v := .int 20) (C := RX6) (T := TX6) (N := 2) hx hb hts iX6 hown hK hP 0 rfl rfl 0 (Nat.le_of_ble_eq_true rfl) (hts _ wd_54) (fun _ h9 => h9) rfl dX6_store_6 ?_
    refine lv_icmp_ge (tgt := 30) hx hb dX6_store_9 rfl (fun c_2 => ?_) (fun c_2 => ?_)
    · rw [if_pos c_2] at hE
      exact hret fsh _ _ _ _ dX6_store_30 hE hP hD hS
    · rw [if_neg c_2] at hE
      refine lv_aload_n hx hb dX6_store_12 rfl (lv_at hl 2 rfl) ?_
      refine va_get (D := D) (ci := 7) (v := .ref nwc) (C := RX7) (T := TX7) (N := 1) hx hb hts iX7 hown hK hP 2 rfl rfl 0 (Nat.le_of_ble_eq_true rfl) (hts _ wd_176) (fun _ h9 => h9) rfl dX6_store_13 ?_
      refine lv_iconst (v := 0) hx hb dX6_store_16 rfl ?_
      refine lv_aload_n hx hb dX6_store_17 rfl (lv_at hl 0 rfl) ?_
      refine va_get (D := D) (ci := 6) (v := .ref shc) (C := RX6) (T := TX6) (N := 2) hx hb hts iX6 hown hK hP 0 rfl rfl 1 (Nat.le_of_ble_eq_true rfl) (hts _ wd_55) (fun _ h9 => h9) rfl dX6_store_18 ?_
      refine lv_iload_n hx hb dX6_store_21 rfl (lv_at hl 1 rfl) ?_
      refine lv_bipush (v := 41) hx hb dX6_store_22 rfl ?_
      refine lv_imul hx hb dX6_store_24 ?_
      refine lv_bipush (v := 41) hx hb dX6_store_25 rfl ?_
      refine va_copyi hx hb (by rw [hml]; exact hl.1.symm) hown (hts _ wd_177) (hts _ wd_178) (hts _ wd_179) (hts _ wd_180) hK hP hD hS 3 1 0 0 rfl rfl rfl rfl rfl (by decide +kernel) (sh20 c_1 c_2).1 (by decide +kernel) (by decide +kernel) (sh20 c_1 c_2).2 (fun _ _ => rfl) (Nat.le_of_ble_eq_true rfl) (Nat.le_of_ble_eq_true rfl) dX6_store_27 (fun H locs hP hD hS => ?_)
      have hP : va_P D classes [(sh, .inr (6, [.int 20, .ref shc])), (shc, .inl (cI, 820, .inl (va_cpy fn fsh (0 : Int32).toNatClampNeg ((i_ * 41) : Int32).toNatClampNeg (41 : Int32).toNatClampNeg))), (nw, .inr (7, [.ref nwc])), (nwc, .inl (cI, 41, .inl fn))] H := hP
      have hD : va_D A [(sh, .inr (6, [.int 20, .ref shc])), (shc, .inl (cI, 820, .inl (va_cpy fn fsh (0 : Int32).toNatClampNeg ((i_ * 41) : Int32).toNatClampNeg (41 : Int32).toNatClampNeg))), (nw, .inr (7, [.ref nwc])), (nwc, .inl (cI, 41, .inl fn))] := hD
      exact hret (va_cpy fn fsh (0 : Int32).toNatClampNeg ((i_ * 41) : Int32).toNatClampNeg (41 : Int32).toNatClampNeg) _ _ _ _ dX6_store_30 hE hP hD hS
noncomputable def f_e_fetch20 (fsh : Nat → Int32) (fn : Nat → Int32) (i_ : Int32) : (Nat → Int32) := (if i_ < 0 then fn else (if 20 ≤ i_ then fn else (va_cpy fsh fn ((i_ * 41) : Int32).toNatClampNeg (0 : Int32).toNatClampNeg (41 : Int32).toNatClampNeg)))
def rm_e_fetch20 : Room := { frames := 1, cells := 0, slots := 0, locals := 60 }
set_option maxHeartbeats 4000000 in
set_option maxRecDepth 100000 in
theorem e_fetch20 {l : Launch} {D : va_G} {cI cZ : ClassId} {sz : Nat} (sh shc nw nwc : Nat) (fsh : Nat → Int32) (fn : Nat → Int32) (i_ : Int32) : KV l yX6_fetch cX6_fetch 3 rm_e_fetch20 D cI cZ [.ref sh, .int i_, .ref nw] sz [(sh, .inr (6, [.int 20, .ref shc])), (shc, .inl (cI, 820, .inl fsh)), (nw, .inr (7, [.ref nwc])), (nwc, .inl (cI, 41, .inl fn))] (fun (u : (Nat → Int32)) => u = f_e_fetch20 fsh fn i_) (fun (u : (Nat → Int32)) => [(sh, .inr (6, [.int 20, .ref shc])), (shc, .inl (cI, 820, .inl fsh)), (nw, .inr (7, [.ref nwc])), (nwc, .inl (cI, 41, .inl u))]) := by
  refine KV.go rfl (Nat.le_of_ble_eq_true rfl) ?_
  intro p e s m args below meth c ls A Q hx hb hml hts hown hin hP hK hD hS hA hN hl hret
  have hl : lv_has ls 3 [(0, .ref sh), (1, .int i_), (2, .ref nw)] := hl
  obtain ⟨RES, hE⟩ : ∃ xRES, f_e_fetch20 fsh fn i_ = xRES := ⟨_, rfl⟩
  rw [hE] at hret
  rw [f_e_fetch20] at hE
  refine lv_iload_n hx hb dX6_fetch_0 rfl (lv_at hl 1 rfl) ?_
  refine lv_if_lt (tgt := 30) hx hb dX6_fetch_1 rfl (fun c_1 => ?_) (fun c_1 => ?_)
  · rw [if_pos c_1] at hE
    exact hret fn _ _ _ _ dX6_fetch_30 hE hP hD hS
  · rw [if_neg c_1] at hE
    refine lv_iload_n hx hb dX6_fetch_4 rfl (lv_at hl 1 rfl) ?_
    refine lv_aload_n hx hb dX6_fetch_5 rfl (lv_at hl 0 rfl) ?_
    refine va_get (D := D) (ci := 6) (v := .int 20) (C := RX6) (T := TX6) (N := 2) hx hb hts iX6 hown hK hP 0 rfl rfl 0 (Nat.le_of_ble_eq_true rfl) (hts _ wd_54) (fun _ h9 => h9) rfl dX6_fetch_6 ?_
    refine lv_icmp_ge (tgt := 30) hx hb dX6_fetch_9 rfl (fun c_2 => ?_) (fun c_2 => ?_)
    · rw [if_pos c_2] at hE
      exact hret fn _ _ _ _ dX6_fetch_30 hE hP hD hS
    · rw [if_neg c_2] at hE
      refine lv_aload_n hx hb dX6_fetch_12 rfl (lv_at hl 0 rfl) ?_
      refine va_get (D := D) (ci := 6) (v := .ref shc) (C := RX6) (T := TX6) (N := 2) hx hb hts iX6 hown hK hP 0 rfl rfl 1 (Nat.le_of_ble_eq_true rfl) (hts _ wd_55) (fun _ h9 => h9) rfl dX6_fetch_13 ?_
      refine lv_iload_n hx hb dX6_fetch_16 rfl (lv_at hl 1 rfl) ?_
      refine lv_bipush (v := 41) hx hb dX6_fetch_17 rfl ?_
      refine lv_imul hx hb dX6_fetch_19 ?_
      refine lv_aload_n hx hb dX6_fetch_20 rfl (lv_at hl 2 rfl) ?_
      refine va_get (D := D) (ci := 7) (v := .ref nwc) (C := RX7) (T := TX7) (N := 1) hx hb hts iX7 hown hK hP 2 rfl rfl 0 (Nat.le_of_ble_eq_true rfl) (hts _ wd_176) (fun _ h9 => h9) rfl dX6_fetch_21 ?_
      refine lv_iconst (v := 0) hx hb dX6_fetch_24 rfl ?_
      refine lv_bipush (v := 41) hx hb dX6_fetch_25 rfl ?_
      refine va_copyi hx hb (by rw [hml]; exact hl.1.symm) hown (hts _ wd_177) (hts _ wd_178) (hts _ wd_179) (hts _ wd_180) hK hP hD hS 1 3 0 0 rfl rfl rfl rfl rfl (sh20 c_1 c_2).1 (by decide +kernel) (by decide +kernel) (sh20 c_1 c_2).2 (by decide +kernel) (fun _ _ => rfl) (Nat.le_of_ble_eq_true rfl) (Nat.le_of_ble_eq_true rfl) dX6_fetch_27 (fun H locs hP hD hS => ?_)
      have hP : va_P D classes [(sh, .inr (6, [.int 20, .ref shc])), (shc, .inl (cI, 820, .inl fsh)), (nw, .inr (7, [.ref nwc])), (nwc, .inl (cI, 41, .inl (va_cpy fsh fn ((i_ * 41) : Int32).toNatClampNeg (0 : Int32).toNatClampNeg (41 : Int32).toNatClampNeg)))] H := hP
      have hD : va_D A [(sh, .inr (6, [.int 20, .ref shc])), (shc, .inl (cI, 820, .inl fsh)), (nw, .inr (7, [.ref nwc])), (nwc, .inl (cI, 41, .inl (va_cpy fsh fn ((i_ * 41) : Int32).toNatClampNeg (0 : Int32).toNatClampNeg (41 : Int32).toNatClampNeg)))] := hD
      exact hret (va_cpy fsh fn ((i_ * 41) : Int32).toNatClampNeg (0 : Int32).toNatClampNeg (41 : Int32).toNatClampNeg) _ _ _ _ dX6_fetch_30 hE hP hD hS
noncomputable def f_e_store2 (fsh : Nat → Int32) (fn : Nat → Int32) (i_ : Int32) : (Nat → Int32) := (if i_ < 0 then fsh else (if 2 ≤ i_ then fsh else (va_cpy fn fsh (0 : Int32).toNatClampNeg ((i_ * 41) : Int32).toNatClampNeg (41 : Int32).toNatClampNeg)))
def rm_e_store2 : Room := { frames := 1, cells := 0, slots := 0, locals := 60 }
set_option maxHeartbeats 4000000 in
set_option maxRecDepth 100000 in
theorem e_store2 {l : Launch} {D : va_G} {cI cZ : ClassId} {sz : Nat} (sh shc nw nwc : Nat) (fsh : Nat → Int32) (fn : Nat → Int32) (i_ : Int32) : KV l yX6_store cX6_store 3 rm_e_store2 D cI cZ [.ref sh, .int i_, .ref nw] sz [(sh, .inr (6, [.int 2, .ref shc])), (shc, .inl (cI, 82, .inl fsh)), (nw, .inr (7, [.ref nwc])), (nwc, .inl (cI, 41, .inl fn))] (fun (u : (Nat → Int32)) => u = f_e_store2 fsh fn i_) (fun (u : (Nat → Int32)) => [(sh, .inr (6, [.int 2, .ref shc])), (shc, .inl (cI, 82, .inl u)), (nw, .inr (7, [.ref nwc])), (nwc, .inl (cI, 41, .inl fn))]) := by
  refine KV.go rfl (Nat.le_of_ble_eq_true rfl) ?_
  intro p e s m args below meth c ls A Q hx hb hml hts hown hin hP hK hD hS hA hN hl hret
  have hl : lv_has ls 3 [(0, .ref sh), (1, .int i_), (2, .ref nw)] := hl
  obtain ⟨RES, hE⟩ : ∃ xRES, f_e_store2 fsh fn i_ = xRES := ⟨_, rfl⟩
  rw [hE] at hret
  rw [f_e_store2] at hE
  refine lv_iload_n hx hb dX6_store_0 rfl (lv_at hl 1 rfl) ?_
  refine lv_if_lt (tgt := 30) hx hb dX6_store_1 rfl (fun c_1 => ?_) (fun c_1 => ?_)
  · rw [if_pos c_1] at hE
    exact hret fsh _ _ _ _ dX6_store_30 hE hP hD hS
  · rw [if_neg c_1] at hE
    refine lv_iload_n hx hb dX6_store_4 rfl (lv_at hl 1 rfl) ?_
    refine lv_aload_n hx hb dX6_store_5 rfl (lv_at hl 0 rfl) ?_
    refine va_get (D := D) (ci := 6) (v := .int 2) (C := RX6) (T := TX6) (N := 2) hx hb hts iX6 hown hK hP 0 rfl rfl 0 (Nat.le_of_ble_eq_true rfl) (hts _ wd_54) (fun _ h9 => h9) rfl dX6_store_6 ?_
    refine lv_icmp_ge (tgt := 30) hx hb dX6_store_9 rfl (fun c_2 => ?_) (fun c_2 => ?_)
    · rw [if_pos c_2] at hE
      exact hret fsh _ _ _ _ dX6_store_30 hE hP hD hS
    · rw [if_neg c_2] at hE
      refine lv_aload_n hx hb dX6_store_12 rfl (lv_at hl 2 rfl) ?_
      refine va_get (D := D) (ci := 7) (v := .ref nwc) (C := RX7) (T := TX7) (N := 1) hx hb hts iX7 hown hK hP 2 rfl rfl 0 (Nat.le_of_ble_eq_true rfl) (hts _ wd_176) (fun _ h9 => h9) rfl dX6_store_13 ?_
      refine lv_iconst (v := 0) hx hb dX6_store_16 rfl ?_
      refine lv_aload_n hx hb dX6_store_17 rfl (lv_at hl 0 rfl) ?_
      refine va_get (D := D) (ci := 6) (v := .ref shc) (C := RX6) (T := TX6) (N := 2) hx hb hts iX6 hown hK hP 0 rfl rfl 1 (Nat.le_of_ble_eq_true rfl) (hts _ wd_55) (fun _ h9 => h9) rfl dX6_store_18 ?_
      refine lv_iload_n hx hb dX6_store_21 rfl (lv_at hl 1 rfl) ?_
      refine lv_bipush (v := 41) hx hb dX6_store_22 rfl ?_
      refine lv_imul hx hb dX6_store_24 ?_
      refine lv_bipush (v := 41) hx hb dX6_store_25 rfl ?_
      refine va_copyi hx hb (by rw [hml]; exact hl.1.symm) hown (hts _ wd_177) (hts _ wd_178) (hts _ wd_179) (hts _ wd_180) hK hP hD hS 3 1 0 0 rfl rfl rfl rfl rfl (by decide +kernel) (sh2 c_1 c_2).1 (by decide +kernel) (by decide +kernel) (sh2 c_1 c_2).2 (fun _ _ => rfl) (Nat.le_of_ble_eq_true rfl) (Nat.le_of_ble_eq_true rfl) dX6_store_27 (fun H locs hP hD hS => ?_)
      have hP : va_P D classes [(sh, .inr (6, [.int 2, .ref shc])), (shc, .inl (cI, 82, .inl (va_cpy fn fsh (0 : Int32).toNatClampNeg ((i_ * 41) : Int32).toNatClampNeg (41 : Int32).toNatClampNeg))), (nw, .inr (7, [.ref nwc])), (nwc, .inl (cI, 41, .inl fn))] H := hP
      have hD : va_D A [(sh, .inr (6, [.int 2, .ref shc])), (shc, .inl (cI, 82, .inl (va_cpy fn fsh (0 : Int32).toNatClampNeg ((i_ * 41) : Int32).toNatClampNeg (41 : Int32).toNatClampNeg))), (nw, .inr (7, [.ref nwc])), (nwc, .inl (cI, 41, .inl fn))] := hD
      exact hret (va_cpy fn fsh (0 : Int32).toNatClampNeg ((i_ * 41) : Int32).toNatClampNeg (41 : Int32).toNatClampNeg) _ _ _ _ dX6_store_30 hE hP hD hS
noncomputable def f_e_fetch2 (fsh : Nat → Int32) (fn : Nat → Int32) (i_ : Int32) : (Nat → Int32) := (if i_ < 0 then fn else (if 2 ≤ i_ then fn else (va_cpy fsh fn ((i_ * 41) : Int32).toNatClampNeg (0 : Int32).toNatClampNeg (41 : Int32).toNatClampNeg)))
def rm_e_fetch2 : Room := { frames := 1, cells := 0, slots := 0, locals := 60 }
set_option maxHeartbeats 4000000 in
set_option maxRecDepth 100000 in
theorem e_fetch2 {l : Launch} {D : va_G} {cI cZ : ClassId} {sz : Nat} (sh shc nw nwc : Nat) (fsh : Nat → Int32) (fn : Nat → Int32) (i_ : Int32) : KV l yX6_fetch cX6_fetch 3 rm_e_fetch2 D cI cZ [.ref sh, .int i_, .ref nw] sz [(sh, .inr (6, [.int 2, .ref shc])), (shc, .inl (cI, 82, .inl fsh)), (nw, .inr (7, [.ref nwc])), (nwc, .inl (cI, 41, .inl fn))] (fun (u : (Nat → Int32)) => u = f_e_fetch2 fsh fn i_) (fun (u : (Nat → Int32)) => [(sh, .inr (6, [.int 2, .ref shc])), (shc, .inl (cI, 82, .inl fsh)), (nw, .inr (7, [.ref nwc])), (nwc, .inl (cI, 41, .inl u))]) := by
  refine KV.go rfl (Nat.le_of_ble_eq_true rfl) ?_
  intro p e s m args below meth c ls A Q hx hb hml hts hown hin hP hK hD hS hA hN hl hret
  have hl : lv_has ls 3 [(0, .ref sh), (1, .int i_), (2, .ref nw)] := hl
  obtain ⟨RES, hE⟩ : ∃ xRES, f_e_fetch2 fsh fn i_ = xRES := ⟨_, rfl⟩
  rw [hE] at hret
  rw [f_e_fetch2] at hE
  refine lv_iload_n hx hb dX6_fetch_0 rfl (lv_at hl 1 rfl) ?_
  refine lv_if_lt (tgt := 30) hx hb dX6_fetch_1 rfl (fun c_1 => ?_) (fun c_1 => ?_)
  · rw [if_pos c_1] at hE
    exact hret fn _ _ _ _ dX6_fetch_30 hE hP hD hS
  · rw [if_neg c_1] at hE
    refine lv_iload_n hx hb dX6_fetch_4 rfl (lv_at hl 1 rfl) ?_
    refine lv_aload_n hx hb dX6_fetch_5 rfl (lv_at hl 0 rfl) ?_
    refine va_get (D := D) (ci := 6) (v := .int 2) (C := RX6) (T := TX6) (N := 2) hx hb hts iX6 hown hK hP 0 rfl rfl 0 (Nat.le_of_ble_eq_true rfl) (hts _ wd_54) (fun _ h9 => h9) rfl dX6_fetch_6 ?_
    refine lv_icmp_ge (tgt := 30) hx hb dX6_fetch_9 rfl (fun c_2 => ?_) (fun c_2 => ?_)
    · rw [if_pos c_2] at hE
      exact hret fn _ _ _ _ dX6_fetch_30 hE hP hD hS
    · rw [if_neg c_2] at hE
      refine lv_aload_n hx hb dX6_fetch_12 rfl (lv_at hl 0 rfl) ?_
      refine va_get (D := D) (ci := 6) (v := .ref shc) (C := RX6) (T := TX6) (N := 2) hx hb hts iX6 hown hK hP 0 rfl rfl 1 (Nat.le_of_ble_eq_true rfl) (hts _ wd_55) (fun _ h9 => h9) rfl dX6_fetch_13 ?_
      refine lv_iload_n hx hb dX6_fetch_16 rfl (lv_at hl 1 rfl) ?_
      refine lv_bipush (v := 41) hx hb dX6_fetch_17 rfl ?_
      refine lv_imul hx hb dX6_fetch_19 ?_
      refine lv_aload_n hx hb dX6_fetch_20 rfl (lv_at hl 2 rfl) ?_
      refine va_get (D := D) (ci := 7) (v := .ref nwc) (C := RX7) (T := TX7) (N := 1) hx hb hts iX7 hown hK hP 2 rfl rfl 0 (Nat.le_of_ble_eq_true rfl) (hts _ wd_176) (fun _ h9 => h9) rfl dX6_fetch_21 ?_
      refine lv_iconst (v := 0) hx hb dX6_fetch_24 rfl ?_
      refine lv_bipush (v := 41) hx hb dX6_fetch_25 rfl ?_
      refine va_copyi hx hb (by rw [hml]; exact hl.1.symm) hown (hts _ wd_177) (hts _ wd_178) (hts _ wd_179) (hts _ wd_180) hK hP hD hS 1 3 0 0 rfl rfl rfl rfl rfl (sh2 c_1 c_2).1 (by decide +kernel) (by decide +kernel) (sh2 c_1 c_2).2 (by decide +kernel) (fun _ _ => rfl) (Nat.le_of_ble_eq_true rfl) (Nat.le_of_ble_eq_true rfl) dX6_fetch_27 (fun H locs hP hD hS => ?_)
      have hP : va_P D classes [(sh, .inr (6, [.int 2, .ref shc])), (shc, .inl (cI, 82, .inl fsh)), (nw, .inr (7, [.ref nwc])), (nwc, .inl (cI, 41, .inl (va_cpy fsh fn ((i_ * 41) : Int32).toNatClampNeg (0 : Int32).toNatClampNeg (41 : Int32).toNatClampNeg)))] H := hP
      have hD : va_D A [(sh, .inr (6, [.int 2, .ref shc])), (shc, .inl (cI, 82, .inl fsh)), (nw, .inr (7, [.ref nwc])), (nwc, .inl (cI, 41, .inl (va_cpy fsh fn ((i_ * 41) : Int32).toNatClampNeg (0 : Int32).toNatClampNeg (41 : Int32).toNatClampNeg)))] := hD
      exact hret (va_cpy fsh fn ((i_ * 41) : Int32).toNatClampNeg (0 : Int32).toNatClampNeg (41 : Int32).toNatClampNeg) _ _ _ _ dX6_fetch_30 hE hP hD hS
noncomputable def f_e_remember_x2 (p1 : Int32) (p2 : Int32) (fsh : Nat → Int32) (fn : Nat → Int32) : Int32 × Int32 × (Nat → Int32) := (if p2 = 20 then (((p1 + 1) - (p1 + 1) / 20 * 20), ((p2 - 1) + 1), (f_e_store20 fsh fn ((((p1 + 1) - (p1 + 1) / 20 * 20) + (p2 - 1)) - (((p1 + 1) - (p1 + 1) / 20 * 20) + (p2 - 1)) / 20 * 20))) else (p1, (p2 + 1), (f_e_store20 fsh fn ((p1 + p2) - (p1 + p2) / 20 * 20))))
def rm_e_remember_x2 : Room := { frames := 2, cells := 0, slots := 0, locals := 82 }
set_option maxHeartbeats 4000000 in
set_option maxRecDepth 100000 in
theorem e_remember_x2 {l : Launch} {D : va_G} {cI cZ : ClassId} {sz : Nat} (ps sh shc nw nwc : Nat) (p1 : Int32) (p2 : Int32) (fsh : Nat → Int32) (fn : Nat → Int32) : KV l yX2_remember cX2_remember 2 rm_e_remember_x2 D cI cZ [.ref ps, .ref nw] sz [(ps, .inr (2, [.ref sh, .int p1, .int p2])), (sh, .inr (6, [.int 20, .ref shc])), (shc, .inl (cI, 820, .inl fsh)), (nw, .inr (7, [.ref nwc])), (nwc, .inl (cI, 41, .inl fn))] (fun (u : Int32 × Int32 × (Nat → Int32)) => u = f_e_remember_x2 p1 p2 fsh fn) (fun (u : Int32 × Int32 × (Nat → Int32)) => [(ps, .inr (2, [.ref sh, .int (u.1), .int (u.2.1)])), (sh, .inr (6, [.int 20, .ref shc])), (shc, .inl (cI, 820, .inl u.2.2)), (nw, .inr (7, [.ref nwc])), (nwc, .inl (cI, 41, .inl fn))]) := by
  refine KV.go rfl (Nat.le_of_ble_eq_true rfl) ?_
  intro p e s m args below meth c ls A Q hx hb hml hts hown hin hP hK hD hS hA hN hl hret
  have hl : lv_has ls 2 [(0, .ref ps), (1, .ref nw)] := hl
  obtain ⟨RES, hE⟩ : ∃ xRES, f_e_remember_x2 p1 p2 fsh fn = xRES := ⟨_, rfl⟩
  rw [hE] at hret
  rw [f_e_remember_x2] at hE
  refine lv_aload_n hx hb dX2_remember_0 rfl (lv_at hl 0 rfl) ?_
  refine va_get (D := D) (ci := 2) (v := .int p2) (C := RX2) (T := TX2) (N := 3) hx hb hts iX2 hown hK hP 0 rfl rfl 2 (Nat.le_of_ble_eq_true rfl) (hts _ wd_65) (fun _ h9 => h9) rfl dX2_remember_1 ?_
  refine lv_bipush (v := 20) hx hb dX2_remember_4 rfl ?_
  refine lv_icmp_ne (tgt := 32) hx hb dX2_remember_6 rfl (fun c_1 => ?_) (fun c_1 => ?_)
  · rw [if_neg c_1] at hE
    refine lv_aload_n hx hb dX2_remember_32 rfl (lv_at hl 0 rfl) ?_
    refine va_get (D := D) (ci := 2) (v := .ref sh) (C := RX2) (T := TX2) (N := 3) hx hb hts iX2 hown hK hP 0 rfl rfl 0 (Nat.le_of_ble_eq_true rfl) (hts _ wd_63) (fun _ h9 => h9) rfl dX2_remember_33 ?_
    refine lv_aload_n hx hb dX2_remember_36 rfl (lv_at hl 0 rfl) ?_
    refine va_get (D := D) (ci := 2) (v := .int p1) (C := RX2) (T := TX2) (N := 3) hx hb hts iX2 hown hK hP 0 rfl rfl 1 (Nat.le_of_ble_eq_true rfl) (hts _ wd_64) (fun _ h9 => h9) rfl dX2_remember_37 ?_
    refine lv_aload_n hx hb dX2_remember_40 rfl (lv_at hl 0 rfl) ?_
    refine va_get (D := D) (ci := 2) (v := .int p2) (C := RX2) (T := TX2) (N := 3) hx hb hts iX2 hown hK hP 0 rfl rfl 2 (Nat.le_of_ble_eq_true rfl) (hts _ wd_65) (fun _ h9 => h9) rfl dX2_remember_41 ?_
    refine lv_iadd hx hb dX2_remember_44 ?_
    refine lv_bipush (v := 20) hx hb dX2_remember_45 rfl ?_
    refine lv_irem hx hb dX2_remember_47 (by decide) ?_
    refine lv_aload_n hx hb dX2_remember_48 rfl (lv_at hl 1 rfl) ?_
    refine cVv (wr := [(ps, .inr (2, [.ref sh, .int p1, .int p2]))]) (rest := []) (e_store20 sh shc nw nwc fsh fn ((p1 + p2) - (p1 + p2) / 20 * 20)) okV_X6_store wd_181 hx hb hml hown hts hK hP hD hS hA hN hl.1 [1, 2, 3, 4] [0] rfl rfl rfl rfl (of_decide_eq_true rfl) rfl rfl rfl (Nat.le_of_ble_eq_true rfl) (Nat.le_of_ble_eq_true rfl) (Nat.le_of_ble_eq_true rfl) (Nat.le_of_ble_eq_true rfl) (Nat.le_of_ble_eq_true rfl) dX2_remember_49 (fun u_2 H locs hw_u_2 hP hD hS => ?_)
    replace hw_u_2 : u_2 = (f_e_store20 fsh fn ((p1 + p2) - (p1 + p2) / 20 * 20)) := hw_u_2
    subst hw_u_2
    have hP : va_P D classes [(ps, .inr (2, [.ref sh, .int p1, .int p2])), (sh, .inr (6, [.int 20, .ref shc])), (shc, .inl (cI, 820, .inl (f_e_store20 fsh fn ((p1 + p2) - (p1 + p2) / 20 * 20)))), (nw, .inr (7, [.ref nwc])), (nwc, .inl (cI, 41, .inl fn))] H := hP
    have hD : va_D A [(ps, .inr (2, [.ref sh, .int p1, .int p2])), (sh, .inr (6, [.int 20, .ref shc])), (shc, .inl (cI, 820, .inl (f_e_store20 fsh fn ((p1 + p2) - (p1 + p2) / 20 * 20)))), (nw, .inr (7, [.ref nwc])), (nwc, .inl (cI, 41, .inl fn))] := hD
    refine lv_aload_n hx hb dX2_remember_52 rfl (lv_at hl 0 rfl) ?_
    refine lv_dup hx hb dX2_remember_53 rfl ?_
    refine va_get (D := D) (ci := 2) (v := .int p2) (C := RX2) (T := TX2) (N := 3) hx hb hts iX2 hown hK hP 0 rfl rfl 2 (Nat.le_of_ble_eq_true rfl) (hts _ wd_65) (fun _ h9 => h9) rfl dX2_remember_54 ?_
    refine lv_iconst (v := 1) hx hb dX2_remember_57 rfl ?_
    refine lv_iadd hx hb dX2_remember_58 ?_
    refine va_put (D := D) (ci := 2) (v := .int (p2 + 1)) (ty := .int) (C := RX2) (T := TX2) (N := 3) hx hb hts iX2 tyX2 tyX2_ok nmX2 hown hK hP hD hS 0 rfl rfl 2 (Nat.le_of_ble_eq_true rfl) (hts _ wd_65) (fun _ h9 => h9) rfl (by decide +kernel) rfl rfl (Nat.le_of_ble_eq_true rfl) dX2_remember_59 (fun H locs hP hD hS => ?_)
    have hP : va_P D classes [(ps, .inr (2, [.ref sh, .int p1, .int (p2 + 1)])), (sh, .inr (6, [.int 20, .ref shc])), (shc, .inl (cI, 820, .inl (f_e_store20 fsh fn ((p1 + p2) - (p1 + p2) / 20 * 20)))), (nw, .inr (7, [.ref nwc])), (nwc, .inl (cI, 41, .inl fn))] H := hP
    have hD : va_D A [(ps, .inr (2, [.ref sh, .int p1, .int (p2 + 1)])), (sh, .inr (6, [.int 20, .ref shc])), (shc, .inl (cI, 820, .inl (f_e_store20 fsh fn ((p1 + p2) - (p1 + p2) / 20 * 20)))), (nw, .inr (7, [.ref nwc])), (nwc, .inl (cI, 41, .inl fn))] := hD
    exact hret (p1, (p2 + 1), (f_e_store20 fsh fn ((p1 + p2) - (p1 + p2) / 20 * 20))) _ _ _ _ dX2_remember_62 hE hP hD hS
  · rw [if_pos c_1] at hE
    refine lv_aload_n hx hb dX2_remember_9 rfl (lv_at hl 0 rfl) ?_
    refine lv_aload_n hx hb dX2_remember_10 rfl (lv_at hl 0 rfl) ?_
    refine va_get (D := D) (ci := 2) (v := .int p1) (C := RX2) (T := TX2) (N := 3) hx hb hts iX2 hown hK hP 0 rfl rfl 1 (Nat.le_of_ble_eq_true rfl) (hts _ wd_64) (fun _ h9 => h9) rfl dX2_remember_11 ?_
    refine lv_iconst (v := 1) hx hb dX2_remember_14 rfl ?_
    refine lv_iadd hx hb dX2_remember_15 ?_
    refine lv_bipush (v := 20) hx hb dX2_remember_16 rfl ?_
    refine lv_irem hx hb dX2_remember_18 (by decide) ?_
    refine va_put (D := D) (ci := 2) (v := .int ((p1 + 1) - (p1 + 1) / 20 * 20)) (ty := .int) (C := RX2) (T := TX2) (N := 3) hx hb hts iX2 tyX2 tyX2_ok nmX2 hown hK hP hD hS 0 rfl rfl 1 (Nat.le_of_ble_eq_true rfl) (hts _ wd_64) (fun _ h9 => h9) rfl (by decide +kernel) rfl rfl (Nat.le_of_ble_eq_true rfl) dX2_remember_19 (fun H locs hP hD hS => ?_)
    have hP : va_P D classes [(ps, .inr (2, [.ref sh, .int ((p1 + 1) - (p1 + 1) / 20 * 20), .int p2])), (sh, .inr (6, [.int 20, .ref shc])), (shc, .inl (cI, 820, .inl fsh)), (nw, .inr (7, [.ref nwc])), (nwc, .inl (cI, 41, .inl fn))] H := hP
    have hD : va_D A [(ps, .inr (2, [.ref sh, .int ((p1 + 1) - (p1 + 1) / 20 * 20), .int p2])), (sh, .inr (6, [.int 20, .ref shc])), (shc, .inl (cI, 820, .inl fsh)), (nw, .inr (7, [.ref nwc])), (nwc, .inl (cI, 41, .inl fn))] := hD
    refine lv_aload_n hx hb dX2_remember_22 rfl (lv_at hl 0 rfl) ?_
    refine lv_dup hx hb dX2_remember_23 rfl ?_
    refine va_get (D := D) (ci := 2) (v := .int p2) (C := RX2) (T := TX2) (N := 3) hx hb hts iX2 hown hK hP 0 rfl rfl 2 (Nat.le_of_ble_eq_true rfl) (hts _ wd_65) (fun _ h9 => h9) rfl dX2_remember_24 ?_
    refine lv_iconst (v := 1) hx hb dX2_remember_27 rfl ?_
    refine lv_isub hx hb dX2_remember_28 ?_
    refine va_put (D := D) (ci := 2) (v := .int (p2 - 1)) (ty := .int) (C := RX2) (T := TX2) (N := 3) hx hb hts iX2 tyX2 tyX2_ok nmX2 hown hK hP hD hS 0 rfl rfl 2 (Nat.le_of_ble_eq_true rfl) (hts _ wd_65) (fun _ h9 => h9) rfl (by decide +kernel) rfl rfl (Nat.le_of_ble_eq_true rfl) dX2_remember_29 (fun H locs hP hD hS => ?_)
    have hP : va_P D classes [(ps, .inr (2, [.ref sh, .int ((p1 + 1) - (p1 + 1) / 20 * 20), .int (p2 - 1)])), (sh, .inr (6, [.int 20, .ref shc])), (shc, .inl (cI, 820, .inl fsh)), (nw, .inr (7, [.ref nwc])), (nwc, .inl (cI, 41, .inl fn))] H := hP
    have hD : va_D A [(ps, .inr (2, [.ref sh, .int ((p1 + 1) - (p1 + 1) / 20 * 20), .int (p2 - 1)])), (sh, .inr (6, [.int 20, .ref shc])), (shc, .inl (cI, 820, .inl fsh)), (nw, .inr (7, [.ref nwc])), (nwc, .inl (cI, 41, .inl fn))] := hD
    refine lv_aload_n hx hb dX2_remember_32 rfl (lv_at hl 0 rfl) ?_
    refine va_get (D := D) (ci := 2) (v := .ref sh) (C := RX2) (T := TX2) (N := 3) hx hb hts iX2 hown hK hP 0 rfl rfl 0 (Nat.le_of_ble_eq_true rfl) (hts _ wd_63) (fun _ h9 => h9) rfl dX2_remember_33 ?_
    refine lv_aload_n hx hb dX2_remember_36 rfl (lv_at hl 0 rfl) ?_
    refine va_get (D := D) (ci := 2) (v := .int ((p1 + 1) - (p1 + 1) / 20 * 20)) (C := RX2) (T := TX2) (N := 3) hx hb hts iX2 hown hK hP 0 rfl rfl 1 (Nat.le_of_ble_eq_true rfl) (hts _ wd_64) (fun _ h9 => h9) rfl dX2_remember_37 ?_
    refine lv_aload_n hx hb dX2_remember_40 rfl (lv_at hl 0 rfl) ?_
    refine va_get (D := D) (ci := 2) (v := .int (p2 - 1)) (C := RX2) (T := TX2) (N := 3) hx hb hts iX2 hown hK hP 0 rfl rfl 2 (Nat.le_of_ble_eq_true rfl) (hts _ wd_65) (fun _ h9 => h9) rfl dX2_remember_41 ?_
    refine lv_iadd hx hb dX2_remember_44 ?_
    refine lv_bipush (v := 20) hx hb dX2_remember_45 rfl ?_
    refine lv_irem hx hb dX2_remember_47 (by decide) ?_
    refine lv_aload_n hx hb dX2_remember_48 rfl (lv_at hl 1 rfl) ?_
    refine cVv (wr := [(ps, .inr (2, [.ref sh, .int ((p1 + 1) - (p1 + 1) / 20 * 20), .int (p2 - 1)]))]) (rest := []) (e_store20 sh shc nw nwc fsh fn ((((p1 + 1) - (p1 + 1) / 20 * 20) + (p2 - 1)) - (((p1 + 1) - (p1 + 1) / 20 * 20) + (p2 - 1)) / 20 * 20)) okV_X6_store wd_181 hx hb hml hown hts hK hP hD hS hA hN hl.1 [1, 2, 3, 4] [0] rfl rfl rfl rfl (of_decide_eq_true rfl) rfl rfl rfl (Nat.le_of_ble_eq_true rfl) (Nat.le_of_ble_eq_true rfl) (Nat.le_of_ble_eq_true rfl) (Nat.le_of_ble_eq_true rfl) (Nat.le_of_ble_eq_true rfl) dX2_remember_49 (fun u_4 H locs hw_u_4 hP hD hS => ?_)
    replace hw_u_4 : u_4 = (f_e_store20 fsh fn ((((p1 + 1) - (p1 + 1) / 20 * 20) + (p2 - 1)) - (((p1 + 1) - (p1 + 1) / 20 * 20) + (p2 - 1)) / 20 * 20)) := hw_u_4
    subst hw_u_4
    have hP : va_P D classes [(ps, .inr (2, [.ref sh, .int ((p1 + 1) - (p1 + 1) / 20 * 20), .int (p2 - 1)])), (sh, .inr (6, [.int 20, .ref shc])), (shc, .inl (cI, 820, .inl (f_e_store20 fsh fn ((((p1 + 1) - (p1 + 1) / 20 * 20) + (p2 - 1)) - (((p1 + 1) - (p1 + 1) / 20 * 20) + (p2 - 1)) / 20 * 20)))), (nw, .inr (7, [.ref nwc])), (nwc, .inl (cI, 41, .inl fn))] H := hP
    have hD : va_D A [(ps, .inr (2, [.ref sh, .int ((p1 + 1) - (p1 + 1) / 20 * 20), .int (p2 - 1)])), (sh, .inr (6, [.int 20, .ref shc])), (shc, .inl (cI, 820, .inl (f_e_store20 fsh fn ((((p1 + 1) - (p1 + 1) / 20 * 20) + (p2 - 1)) - (((p1 + 1) - (p1 + 1) / 20 * 20) + (p2 - 1)) / 20 * 20)))), (nw, .inr (7, [.ref nwc])), (nwc, .inl (cI, 41, .inl fn))] := hD
    refine lv_aload_n hx hb dX2_remember_52 rfl (lv_at hl 0 rfl) ?_
    refine lv_dup hx hb dX2_remember_53 rfl ?_
    refine va_get (D := D) (ci := 2) (v := .int (p2 - 1)) (C := RX2) (T := TX2) (N := 3) hx hb hts iX2 hown hK hP 0 rfl rfl 2 (Nat.le_of_ble_eq_true rfl) (hts _ wd_65) (fun _ h9 => h9) rfl dX2_remember_54 ?_
    refine lv_iconst (v := 1) hx hb dX2_remember_57 rfl ?_
    refine lv_iadd hx hb dX2_remember_58 ?_
    refine va_put (D := D) (ci := 2) (v := .int ((p2 - 1) + 1)) (ty := .int) (C := RX2) (T := TX2) (N := 3) hx hb hts iX2 tyX2 tyX2_ok nmX2 hown hK hP hD hS 0 rfl rfl 2 (Nat.le_of_ble_eq_true rfl) (hts _ wd_65) (fun _ h9 => h9) rfl (by decide +kernel) rfl rfl (Nat.le_of_ble_eq_true rfl) dX2_remember_59 (fun H locs hP hD hS => ?_)
    have hP : va_P D classes [(ps, .inr (2, [.ref sh, .int ((p1 + 1) - (p1 + 1) / 20 * 20), .int ((p2 - 1) + 1)])), (sh, .inr (6, [.int 20, .ref shc])), (shc, .inl (cI, 820, .inl (f_e_store20 fsh fn ((((p1 + 1) - (p1 + 1) / 20 * 20) + (p2 - 1)) - (((p1 + 1) - (p1 + 1) / 20 * 20) + (p2 - 1)) / 20 * 20)))), (nw, .inr (7, [.ref nwc])), (nwc, .inl (cI, 41, .inl fn))] H := hP
    have hD : va_D A [(ps, .inr (2, [.ref sh, .int ((p1 + 1) - (p1 + 1) / 20 * 20), .int ((p2 - 1) + 1)])), (sh, .inr (6, [.int 20, .ref shc])), (shc, .inl (cI, 820, .inl (f_e_store20 fsh fn ((((p1 + 1) - (p1 + 1) / 20 * 20) + (p2 - 1)) - (((p1 + 1) - (p1 + 1) / 20 * 20) + (p2 - 1)) / 20 * 20)))), (nw, .inr (7, [.ref nwc])), (nwc, .inl (cI, 41, .inl fn))] := hD
    exact hret (((p1 + 1) - (p1 + 1) / 20 * 20), ((p2 - 1) + 1), (f_e_store20 fsh fn ((((p1 + 1) - (p1 + 1) / 20 * 20) + (p2 - 1)) - (((p1 + 1) - (p1 + 1) / 20 * 20) + (p2 - 1)) / 20 * 20))) _ _ _ _ dX2_remember_62 hE hP hD hS
noncomputable def f_e_takeBack_x2 (p1 : Int32) (p2 : Int32) (fsh : Nat → Int32) (fn : Nat → Int32) : Int32 × (Nat → Int32) := (if p2 ≤ 0 then (p2, fn) else ((p2 - 1), (f_e_fetch20 fsh fn ((p1 + (p2 - 1)) - (p1 + (p2 - 1)) / 20 * 20))))
def rm_e_takeBack_x2 : Room := { frames := 2, cells := 0, slots := 0, locals := 82 }
set_option maxHeartbeats 4000000 in
set_option maxRecDepth 100000 in
theorem e_takeBack_x2 {l : Launch} {D : va_G} {cI cZ : ClassId} {sz : Nat} (ps sh shc nw nwc : Nat) (p1 : Int32) (p2 : Int32) (fsh : Nat → Int32) (fn : Nat → Int32) : KV l yX2_takeBack cX2_takeBack 2 rm_e_takeBack_x2 D cI cZ [.ref ps, .ref nw] sz [(ps, .inr (2, [.ref sh, .int p1, .int p2])), (sh, .inr (6, [.int 20, .ref shc])), (shc, .inl (cI, 820, .inl fsh)), (nw, .inr (7, [.ref nwc])), (nwc, .inl (cI, 41, .inl fn))] (fun (u : Int32 × (Nat → Int32)) => u = f_e_takeBack_x2 p1 p2 fsh fn) (fun (u : Int32 × (Nat → Int32)) => [(ps, .inr (2, [.ref sh, .int p1, .int (u.1)])), (sh, .inr (6, [.int 20, .ref shc])), (shc, .inl (cI, 820, .inl fsh)), (nw, .inr (7, [.ref nwc])), (nwc, .inl (cI, 41, .inl u.2))]) := by
  refine KV.go rfl (Nat.le_of_ble_eq_true rfl) ?_
  intro p e s m args below meth c ls A Q hx hb hml hts hown hin hP hK hD hS hA hN hl hret
  have hl : lv_has ls 2 [(0, .ref ps), (1, .ref nw)] := hl
  obtain ⟨RES, hE⟩ : ∃ xRES, f_e_takeBack_x2 p1 p2 fsh fn = xRES := ⟨_, rfl⟩
  rw [hE] at hret
  rw [f_e_takeBack_x2] at hE
  refine lv_aload_n hx hb dX2_takeBack_0 rfl (lv_at hl 0 rfl) ?_
  refine va_get (D := D) (ci := 2) (v := .int p2) (C := RX2) (T := TX2) (N := 3) hx hb hts iX2 hown hK hP 0 rfl rfl 2 (Nat.le_of_ble_eq_true rfl) (hts _ wd_65) (fun _ h9 => h9) rfl dX2_takeBack_1 ?_
  refine lv_if_le (tgt := 37) hx hb dX2_takeBack_4 rfl (fun c_1 => ?_) (fun c_1 => ?_)
  · rw [if_pos c_1] at hE
    exact hret (p2, fn) _ _ _ _ dX2_takeBack_37 hE hP hD hS
  · rw [if_neg c_1] at hE
    refine lv_aload_n hx hb dX2_takeBack_7 rfl (lv_at hl 0 rfl) ?_
    refine lv_dup hx hb dX2_takeBack_8 rfl ?_
    refine va_get (D := D) (ci := 2) (v := .int p2) (C := RX2) (T := TX2) (N := 3) hx hb hts iX2 hown hK hP 0 rfl rfl 2 (Nat.le_of_ble_eq_true rfl) (hts _ wd_65) (fun _ h9 => h9) rfl dX2_takeBack_9 ?_
    refine lv_iconst (v := 1) hx hb dX2_takeBack_12 rfl ?_
    refine lv_isub hx hb dX2_takeBack_13 ?_
    refine va_put (D := D) (ci := 2) (v := .int (p2 - 1)) (ty := .int) (C := RX2) (T := TX2) (N := 3) hx hb hts iX2 tyX2 tyX2_ok nmX2 hown hK hP hD hS 0 rfl rfl 2 (Nat.le_of_ble_eq_true rfl) (hts _ wd_65) (fun _ h9 => h9) rfl (by decide +kernel) rfl rfl (Nat.le_of_ble_eq_true rfl) dX2_takeBack_14 (fun H locs hP hD hS => ?_)
    have hP : va_P D classes [(ps, .inr (2, [.ref sh, .int p1, .int (p2 - 1)])), (sh, .inr (6, [.int 20, .ref shc])), (shc, .inl (cI, 820, .inl fsh)), (nw, .inr (7, [.ref nwc])), (nwc, .inl (cI, 41, .inl fn))] H := hP
    have hD : va_D A [(ps, .inr (2, [.ref sh, .int p1, .int (p2 - 1)])), (sh, .inr (6, [.int 20, .ref shc])), (shc, .inl (cI, 820, .inl fsh)), (nw, .inr (7, [.ref nwc])), (nwc, .inl (cI, 41, .inl fn))] := hD
    refine lv_aload_n hx hb dX2_takeBack_17 rfl (lv_at hl 0 rfl) ?_
    refine va_get (D := D) (ci := 2) (v := .ref sh) (C := RX2) (T := TX2) (N := 3) hx hb hts iX2 hown hK hP 0 rfl rfl 0 (Nat.le_of_ble_eq_true rfl) (hts _ wd_63) (fun _ h9 => h9) rfl dX2_takeBack_18 ?_
    refine lv_aload_n hx hb dX2_takeBack_21 rfl (lv_at hl 0 rfl) ?_
    refine va_get (D := D) (ci := 2) (v := .int p1) (C := RX2) (T := TX2) (N := 3) hx hb hts iX2 hown hK hP 0 rfl rfl 1 (Nat.le_of_ble_eq_true rfl) (hts _ wd_64) (fun _ h9 => h9) rfl dX2_takeBack_22 ?_
    refine lv_aload_n hx hb dX2_takeBack_25 rfl (lv_at hl 0 rfl) ?_
    refine va_get (D := D) (ci := 2) (v := .int (p2 - 1)) (C := RX2) (T := TX2) (N := 3) hx hb hts iX2 hown hK hP 0 rfl rfl 2 (Nat.le_of_ble_eq_true rfl) (hts _ wd_65) (fun _ h9 => h9) rfl dX2_takeBack_26 ?_
    refine lv_iadd hx hb dX2_takeBack_29 ?_
    refine lv_bipush (v := 20) hx hb dX2_takeBack_30 rfl ?_
    refine lv_irem hx hb dX2_takeBack_32 (by decide) ?_
    refine lv_aload_n hx hb dX2_takeBack_33 rfl (lv_at hl 1 rfl) ?_
    refine cVv (wr := [(ps, .inr (2, [.ref sh, .int p1, .int (p2 - 1)]))]) (rest := []) (e_fetch20 sh shc nw nwc fsh fn ((p1 + (p2 - 1)) - (p1 + (p2 - 1)) / 20 * 20)) okV_X6_fetch wd_185 hx hb hml hown hts hK hP hD hS hA hN hl.1 [1, 2, 3, 4] [0] rfl rfl rfl rfl (of_decide_eq_true rfl) rfl rfl rfl (Nat.le_of_ble_eq_true rfl) (Nat.le_of_ble_eq_true rfl) (Nat.le_of_ble_eq_true rfl) (Nat.le_of_ble_eq_true rfl) (Nat.le_of_ble_eq_true rfl) dX2_takeBack_34 (fun u_2 H locs hw_u_2 hP hD hS => ?_)
    replace hw_u_2 : u_2 = (f_e_fetch20 fsh fn ((p1 + (p2 - 1)) - (p1 + (p2 - 1)) / 20 * 20)) := hw_u_2
    subst hw_u_2
    have hP : va_P D classes [(ps, .inr (2, [.ref sh, .int p1, .int (p2 - 1)])), (sh, .inr (6, [.int 20, .ref shc])), (shc, .inl (cI, 820, .inl fsh)), (nw, .inr (7, [.ref nwc])), (nwc, .inl (cI, 41, .inl (f_e_fetch20 fsh fn ((p1 + (p2 - 1)) - (p1 + (p2 - 1)) / 20 * 20))))] H := hP
    have hD : va_D A [(ps, .inr (2, [.ref sh, .int p1, .int (p2 - 1)])), (sh, .inr (6, [.int 20, .ref shc])), (shc, .inl (cI, 820, .inl fsh)), (nw, .inr (7, [.ref nwc])), (nwc, .inl (cI, 41, .inl (f_e_fetch20 fsh fn ((p1 + (p2 - 1)) - (p1 + (p2 - 1)) / 20 * 20))))] := hD
    exact hret ((p2 - 1), (f_e_fetch20 fsh fn ((p1 + (p2 - 1)) - (p1 + (p2 - 1)) / 20 * 20))) _ _ _ _ dX2_takeBack_37 hE hP hD hS
noncomputable def f_e_forget_x2 (p1 : Int32) (p2 : Int32) : Int32 := 0
def rm_e_forget_x2 : Room := { frames := 0, cells := 0, slots := 0, locals := 0 }
set_option maxHeartbeats 4000000 in
set_option maxRecDepth 100000 in
theorem e_forget_x2 {l : Launch} {D : va_G} {cI cZ : ClassId} {sz : Nat} (ps sh : Nat) (p1 : Int32) (p2 : Int32) : KV l yX2_forget cX2_forget 1 rm_e_forget_x2 D cI cZ [.ref ps] sz [(ps, .inr (2, [.ref sh, .int p1, .int p2]))] (fun (u : Int32) => u = f_e_forget_x2 p1 p2) (fun (u : Int32) => [(ps, .inr (2, [.ref sh, .int p1, .int u]))]) := by
  refine KV.go rfl (Nat.le_of_ble_eq_true rfl) ?_
  intro p e s m args below meth c ls A Q hx hb hml hts hown hin hP hK hD hS hA hN hl hret
  have hl : lv_has ls 1 [(0, .ref ps)] := hl
  obtain ⟨RES, hE⟩ : ∃ xRES, f_e_forget_x2 p1 p2 = xRES := ⟨_, rfl⟩
  rw [hE] at hret
  rw [f_e_forget_x2] at hE
  refine lv_aload_n hx hb dX2_forget_0 rfl (lv_at hl 0 rfl) ?_
  refine lv_iconst (v := 0) hx hb dX2_forget_1 rfl ?_
  refine va_put (D := D) (ci := 2) (v := .int 0) (ty := .int) (C := RX2) (T := TX2) (N := 3) hx hb hts iX2 tyX2 tyX2_ok nmX2 hown hK hP hD hS 0 rfl rfl 2 (Nat.le_of_ble_eq_true rfl) (hts _ wd_65) (fun _ h9 => h9) rfl (by decide +kernel) rfl rfl (Nat.le_of_ble_eq_true rfl) dX2_forget_2 (fun H locs hP hD hS => ?_)
  have hP : va_P D classes [(ps, .inr (2, [.ref sh, .int p1, .int 0]))] H := hP
  have hD : va_D A [(ps, .inr (2, [.ref sh, .int p1, .int 0]))] := hD
  exact hret 0 _ _ _ _ dX2_forget_5 hE hP hD hS
noncomputable def f_e_enter_x0 (b0 : Int32) (fba : Nat → Int32) (fbb : Nat → Int32) (c_ : Int32) (g_ : Int32) : Int32 × (Nat → Int32) × (Nat → Int32) := ((b0 + 1), (putF 15 fba b0 c_), (putF 15 fbb b0 g_))
def rm_e_enter_x0 : Room := { frames := 1, cells := 0, slots := 0, locals := 22 }
set_option maxHeartbeats 4000000 in
set_option maxRecDepth 100000 in
theorem e_enter_x0 {l : Launch} {D : va_G} {cI cZ : ClassId} {sz : Nat} (bk bka bkb : Nat) (b0 : Int32) (fba : Nat → Int32) (fbb : Nat → Int32) (c_ : Int32) (g_ : Int32) : KV l yX0_enter cX0_enter 3 rm_e_enter_x0 D cI cZ [.ref bk, .int c_, .int g_] sz [(bk, .inr (0, [.int b0, .ref bka, .ref bkb])), (bka, .inl (cI, 15, .inl fba)), (bkb, .inl (cI, 15, .inl fbb))] (fun (u : Int32 × (Nat → Int32) × (Nat → Int32)) => u = f_e_enter_x0 b0 fba fbb c_ g_) (fun (u : Int32 × (Nat → Int32) × (Nat → Int32)) => [(bk, .inr (0, [.int (u.1), .ref bka, .ref bkb])), (bka, .inl (cI, 15, .inl u.2.1)), (bkb, .inl (cI, 15, .inl u.2.2))]) := by
  refine KV.go rfl (Nat.le_of_ble_eq_true rfl) ?_
  intro p e s m args below meth c ls A Q hx hb hml hts hown hin hP hK hD hS hA hN hl hret
  have hl : lv_has ls 3 [(0, .ref bk), (1, .int c_), (2, .int g_)] := hl
  obtain ⟨RES, hE⟩ : ∃ xRES, f_e_enter_x0 b0 fba fbb c_ g_ = xRES := ⟨_, rfl⟩
  rw [hE] at hret
  rw [f_e_enter_x0] at hE
  refine lv_aload_n hx hb dX0_enter_0 rfl (lv_at hl 0 rfl) ?_
  refine va_get (D := D) (ci := 0) (v := .ref bka) (C := RX0) (T := TX0) (N := 3) hx hb hts iX0 hown hK hP 0 rfl rfl 1 (Nat.le_of_ble_eq_true rfl) (hts _ wd_18) (fun _ h9 => h9) rfl dX0_enter_1 ?_
  refine lv_aload_n hx hb dX0_enter_4 rfl (lv_at hl 0 rfl) ?_
  refine va_get (D := D) (ci := 0) (v := .int b0) (C := RX0) (T := TX0) (N := 3) hx hb hts iX0 hown hK hP 0 rfl rfl 0 (Nat.le_of_ble_eq_true rfl) (hts _ wd_17) (fun _ h9 => h9) rfl dX0_enter_5 ?_
  refine lv_iload_n hx hb dX0_enter_8 rfl (lv_at hl 1 rfl) ?_
  refine cNv (wr := [(bk, .inr (0, [.int b0, .ref bka, .ref bkb])), (bkb, .inl (cI, 15, .inl fbb))]) (rest := []) (k_put bka 15 fba b0 c_ (of_decide_eq_true rfl)) okS_X9_put 8 rfl hx hb hml hown hts hK hP hD hS hA hN hl.1 [1] [0, 2] rfl rfl rfl rfl (by decide) rfl (Nat.le_of_ble_eq_true rfl) (Nat.le_of_ble_eq_true rfl) (Nat.le_of_ble_eq_true rfl) (Nat.le_of_ble_eq_true rfl) (Nat.le_of_ble_eq_true rfl) dX0_enter_9 (fun u_1 H locs hw_u_1 hP hD hS => ?_)
  have hP : va_P D classes [(bk, .inr (0, [.int b0, .ref bka, .ref bkb])), (bkb, .inl (cI, 15, .inl fbb)), (bka, .inl (cI, 15, .inl (putF 15 fba b0 c_)))] H := hP
  have hD : va_D A [(bk, .inr (0, [.int b0, .ref bka, .ref bkb])), (bkb, .inl (cI, 15, .inl fbb)), (bka, .inl (cI, 15, .inl (putF 15 fba b0 c_)))] := hD
  refine lv_aload_n hx hb dX0_enter_12 rfl (lv_at hl 0 rfl) ?_
  refine va_get (D := D) (ci := 0) (v := .ref bkb) (C := RX0) (T := TX0) (N := 3) hx hb hts iX0 hown hK hP 0 rfl rfl 2 (Nat.le_of_ble_eq_true rfl) (hts _ wd_19) (fun _ h9 => h9) rfl dX0_enter_13 ?_
  refine lv_aload_n hx hb dX0_enter_16 rfl (lv_at hl 0 rfl) ?_
  refine va_get (D := D) (ci := 0) (v := .int b0) (C := RX0) (T := TX0) (N := 3) hx hb hts iX0 hown hK hP 0 rfl rfl 0 (Nat.le_of_ble_eq_true rfl) (hts _ wd_17) (fun _ h9 => h9) rfl dX0_enter_17 ?_
  refine lv_iload_n hx hb dX0_enter_20 rfl (lv_at hl 2 rfl) ?_
  refine cNv (wr := [(bk, .inr (0, [.int b0, .ref bka, .ref bkb])), (bka, .inl (cI, 15, .inl (putF 15 fba b0 c_)))]) (rest := []) (k_put bkb 15 fbb b0 g_ (of_decide_eq_true rfl)) okS_X9_put 8 rfl hx hb hml hown hts hK hP hD hS hA hN hl.1 [1] [0, 2] rfl rfl rfl rfl (by decide) rfl (Nat.le_of_ble_eq_true rfl) (Nat.le_of_ble_eq_true rfl) (Nat.le_of_ble_eq_true rfl) (Nat.le_of_ble_eq_true rfl) (Nat.le_of_ble_eq_true rfl) dX0_enter_21 (fun u_3 H locs hw_u_3 hP hD hS => ?_)
  have hP : va_P D classes [(bk, .inr (0, [.int b0, .ref bka, .ref bkb])), (bka, .inl (cI, 15, .inl (putF 15 fba b0 c_))), (bkb, .inl (cI, 15, .inl (putF 15 fbb b0 g_)))] H := hP
  have hD : va_D A [(bk, .inr (0, [.int b0, .ref bka, .ref bkb])), (bka, .inl (cI, 15, .inl (putF 15 fba b0 c_))), (bkb, .inl (cI, 15, .inl (putF 15 fbb b0 g_)))] := hD
  refine lv_aload_n hx hb dX0_enter_24 rfl (lv_at hl 0 rfl) ?_
  refine lv_dup hx hb dX0_enter_25 rfl ?_
  refine va_get (D := D) (ci := 0) (v := .int b0) (C := RX0) (T := TX0) (N := 3) hx hb hts iX0 hown hK hP 0 rfl rfl 0 (Nat.le_of_ble_eq_true rfl) (hts _ wd_17) (fun _ h9 => h9) rfl dX0_enter_26 ?_
  refine lv_iconst (v := 1) hx hb dX0_enter_29 rfl ?_
  refine lv_iadd hx hb dX0_enter_30 ?_
  refine va_put (D := D) (ci := 0) (v := .int (b0 + 1)) (ty := .int) (C := RX0) (T := TX0) (N := 3) hx hb hts iX0 tyX0 tyX0_ok nmX0 hown hK hP hD hS 0 rfl rfl 0 (Nat.le_of_ble_eq_true rfl) (hts _ wd_17) (fun _ h9 => h9) rfl (by decide +kernel) rfl rfl (Nat.le_of_ble_eq_true rfl) dX0_enter_31 (fun H locs hP hD hS => ?_)
  have hP : va_P D classes [(bk, .inr (0, [.int (b0 + 1), .ref bka, .ref bkb])), (bka, .inl (cI, 15, .inl (putF 15 fba b0 c_))), (bkb, .inl (cI, 15, .inl (putF 15 fbb b0 g_)))] H := hP
  have hD : va_D A [(bk, .inr (0, [.int (b0 + 1), .ref bka, .ref bkb])), (bka, .inl (cI, 15, .inl (putF 15 fba b0 c_))), (bkb, .inl (cI, 15, .inl (putF 15 fbb b0 g_)))] := hD
  exact hret ((b0 + 1), (putF 15 fba b0 c_), (putF 15 fbb b0 g_)) _ _ _ _ dX0_enter_34 hE hP hD hS
noncomputable def f_e_clear_x0 (b0 : Int32) : Int32 := 0
def rm_e_clear_x0 : Room := { frames := 0, cells := 0, slots := 0, locals := 0 }
set_option maxHeartbeats 4000000 in
set_option maxRecDepth 100000 in
theorem e_clear_x0 {l : Launch} {D : va_G} {cI cZ : ClassId} {sz : Nat} (bk bka bkb : Nat) (b0 : Int32) : KV l yX0_clear cX0_clear 1 rm_e_clear_x0 D cI cZ [.ref bk] sz [(bk, .inr (0, [.int b0, .ref bka, .ref bkb]))] (fun (u : Int32) => u = f_e_clear_x0 b0) (fun (u : Int32) => [(bk, .inr (0, [.int u, .ref bka, .ref bkb]))]) := by
  refine KV.go rfl (Nat.le_of_ble_eq_true rfl) ?_
  intro p e s m args below meth c ls A Q hx hb hml hts hown hin hP hK hD hS hA hN hl hret
  have hl : lv_has ls 1 [(0, .ref bk)] := hl
  obtain ⟨RES, hE⟩ : ∃ xRES, f_e_clear_x0 b0 = xRES := ⟨_, rfl⟩
  rw [hE] at hret
  rw [f_e_clear_x0] at hE
  refine lv_aload_n hx hb dX0_clear_0 rfl (lv_at hl 0 rfl) ?_
  refine lv_iconst (v := 0) hx hb dX0_clear_1 rfl ?_
  refine va_put (D := D) (ci := 0) (v := .int 0) (ty := .int) (C := RX0) (T := TX0) (N := 3) hx hb hts iX0 tyX0 tyX0_ok nmX0 hown hK hP hD hS 0 rfl rfl 0 (Nat.le_of_ble_eq_true rfl) (hts _ wd_17) (fun _ h9 => h9) rfl (by decide +kernel) rfl rfl (Nat.le_of_ble_eq_true rfl) dX0_clear_2 (fun H locs hP hD hS => ?_)
  have hP : va_P D classes [(bk, .inr (0, [.int 0, .ref bka, .ref bkb]))] H := hP
  have hD : va_D A [(bk, .inr (0, [.int 0, .ref bka, .ref bkb]))] := hD
  exact hret 0 _ _ _ _ dX0_clear_5 hE hP hD hS
noncomputable def f_e_firstWrong_x0_2 (b0 : Int32) (fba : Nat → Int32) (fbb : Nat → Int32) (fn : Nat → Int32) (n : Nat) : Int32 → (Int32) ⊕ (Int32) := Nat.rec (motive := fun _ => Int32 → (Int32) ⊕ (Int32)) (fun w_1l2 => Sum.inl w_1l2) (fun n ih w_1l2 => (if b0 ≤ w_1l2 then (Sum.inl w_1l2) else (if (f_e_grievanceOf fn (atF 15 fba w_1l2)) = (atF 15 fbb w_1l2) then (ih (w_1l2 + 1)) else (Sum.inr w_1l2)))) n
theorem f_e_firstWrong_x0_2_s (b0 : Int32) (fba : Nat → Int32) (fbb : Nat → Int32) (fn : Nat → Int32) (n : Nat) (w_1l2 : Int32) : f_e_firstWrong_x0_2 b0 fba fbb fn (n + 1) w_1l2 = (if b0 ≤ w_1l2 then (Sum.inl w_1l2) else (if (f_e_grievanceOf fn (atF 15 fba w_1l2)) = (atF 15 fbb w_1l2) then (f_e_firstWrong_x0_2 b0 fba fbb fn n (w_1l2 + 1)) else (Sum.inr w_1l2))) := rfl
noncomputable def f_e_firstWrong_x0 (b0 : Int32) (fba : Nat → Int32) (fbb : Nat → Int32) (fn : Nat → Int32) : Int32 := (match (f_e_firstWrong_x0_2 b0 fba fbb fn (((b0 : Int32).toInt - (0 : Int32).toInt).toNat + 1) 0) with | Sum.inl w_1l2 => (-1) | Sum.inr o => o)
def rm_e_firstWrong_x0 : Room := { frames := 2, cells := 0, slots := 0, locals := 42 }
set_option maxHeartbeats 4000000 in
set_option maxRecDepth 100000 in
theorem e_firstWrong_x0 {l : Launch} {D : va_G} {cI cZ : ClassId} {sz : Nat} (bk bka bkb nw nwc : Nat) (b0 : Int32) (fba : Nat → Int32) (fbb : Nat → Int32) (fn : Nat → Int32) : KI l yX0_firstWrong cX0_firstWrong 3 (some .int) rm_e_firstWrong_x0 D cI cZ [.ref bk, .ref nw] sz [(bk, .inr (0, [.int b0, .ref bka, .ref bkb])), (bka, .inl (cI, 15, .inl fba)), (bkb, .inl (cI, 15, .inl fbb)), (nw, .inr (7, [.ref nwc])), (nwc, .inl (cI, 41, .inl fn))] (fun (r : Int32) (_ : Unit) => r = f_e_firstWrong_x0 b0 fba fbb fn) (fun (_ : Unit) => [(bk, .inr (0, [.int b0, .ref bka, .ref bkb])), (bka, .inl (cI, 15, .inl fba)), (bkb, .inl (cI, 15, .inl fbb)), (nw, .inr (7, [.ref nwc])), (nwc, .inl (cI, 41, .inl fn))]) := by
  refine KI.go rfl (Nat.le_of_ble_eq_true rfl) ?_
  intro p e s m args below meth c ls A Q hx hb hml hts hown hin hP hK hD hS hA hN hl hret
  have hl : lv_has ls 3 [(0, .ref bk), (1, .ref nw)] := hl
  obtain ⟨RES, hE⟩ : ∃ xRES, f_e_firstWrong_x0 b0 fba fbb fn = xRES := ⟨_, rfl⟩
  rw [hE] at hret
  rw [f_e_firstWrong_x0] at hE
  refine lv_iconst (v := 0) hx hb dX0_firstWrong_0 rfl ?_
  refine lv_istore_n (lv' := [(2, .int 0), (0, .ref bk), (1, .ref nw)]) hx hb dX0_firstWrong_1 rfl hl (Nat.le_of_ble_eq_true rfl) rfl (fun ls hl => ?_)
  have ex_2_w_1 : ∀ (w_1l2 : Int32) (H : Heap) (locs : List Loc) (ls : Array Slot), va_P D classes [(bk, .inr (0, [.int b0, .ref bka, .ref bkb])), (bka, .inl (cI, 15, .inl fba)), (bkb, .inl (cI, 15, .inl fbb)), (nw, .inr (7, [.ref nwc])), (nwc, .inl (cI, 41, .inl fn))] H → va_D A [(bk, .inr (0, [.int b0, .ref bka, .ref bkb])), (bka, .inl (cI, 15, .inl fba)), (bkb, .inl (cI, 15, .inl fbb)), (nw, .inr (7, [.ref nwc])), (nwc, .inl (cI, 41, .inl fn))] → va_S A s.heap H locs → lv_has ls 3 [(2, .int w_1l2), (0, .ref bk), (1, .ref nw)] → ((-1)) = RES → W p l e rm_e_firstWrong_x0 s m args below meth c H locs 0 0 Q (F0 m 41 ls []) := by
    intro w_1l2 H locs ls hP hD hS hl hE
    refine lv_iconst (v := (-1)) hx hb dX0_firstWrong_41 rfl ?_
    exact hret (-1) () _ _ _ _ dX0_firstWrong_42 rfl hE hP hD hS
  have lp_2_w_1 : ∀ (n_w_1 : Nat) (w_1l2 : Int32) (H : Heap) (locs : List Loc) (ls : Array Slot), va_P D classes [(bk, .inr (0, [.int b0, .ref bka, .ref bkb])), (bka, .inl (cI, 15, .inl fba)), (bkb, .inl (cI, 15, .inl fbb)), (nw, .inr (7, [.ref nwc])), (nwc, .inl (cI, 41, .inl fn))] H → va_D A [(bk, .inr (0, [.int b0, .ref bka, .ref bkb])), (bka, .inl (cI, 15, .inl fba)), (bkb, .inl (cI, 15, .inl fbb)), (nw, .inr (7, [.ref nwc])), (nwc, .inl (cI, 41, .inl fn))] → va_S A s.heap H locs → lv_has ls 3 [(2, .int w_1l2), (0, .ref bk), (1, .ref nw)] → ((b0 : Int32).toInt - (w_1l2 : Int32).toInt).toNat < n_w_1 → (match (f_e_firstWrong_x0_2 b0 fba fbb fn n_w_1 w_1l2) with | Sum.inl w_1l2 => (-1) | Sum.inr o => o) = RES → W p l e rm_e_firstWrong_x0 s m args below meth c H locs 0 0 Q (F0 m 2 ls []) := by
    intro n_w_1
    induction n_w_1 with
    | zero => intro w_1l2 H locs ls hP hD hS hl hm; exact absurd hm (Nat.not_lt_zero _)
    | succ n_w_1 ih_w_1 =>
      intro w_1l2 H locs ls hP hD hS hl hm hE
      rw [f_e_firstWrong_x0_2_s] at hE
      refine lv_iload_n hx hb dX0_firstWrong_2 rfl (lv_at hl 0 rfl) ?_
      refine lv_aload_n hx hb dX0_firstWrong_3 rfl (lv_at hl 1 rfl) ?_
      refine va_get (D := D) (ci := 0) (v := .int b0) (C := RX0) (T := TX0) (N := 3) hx hb hts iX0 hown hK hP 0 rfl rfl 0 (Nat.le_of_ble_eq_true rfl) (hts _ wd_17) (fun _ h9 => h9) rfl dX0_firstWrong_4 ?_
      refine lv_icmp_ge (tgt := 41) hx hb dX0_firstWrong_7 rfl (fun c_2 => ?_) (fun c_2 => ?_)
      · rw [if_pos c_2] at hE
        exact ex_2_w_1 w_1l2 _ _ ls hP hD hS (lv_sub hl [0, 1, 2] rfl) hE
      · rw [if_neg c_2] at hE
        refine lv_aload_n hx hb dX0_firstWrong_10 rfl (lv_at hl 2 rfl) ?_
        refine lv_aload_n hx hb dX0_firstWrong_11 rfl (lv_at hl 1 rfl) ?_
        refine va_get (D := D) (ci := 0) (v := .ref bka) (C := RX0) (T := TX0) (N := 3) hx hb hts iX0 hown hK hP 0 rfl rfl 1 (Nat.le_of_ble_eq_true rfl) (hts _ wd_18) (fun _ h9 => h9) rfl dX0_firstWrong_12 ?_
        refine lv_iload_n hx hb dX0_firstWrong_15 rfl (lv_at hl 0 rfl) ?_
        refine cNi (wr := [(bk, .inr (0, [.int b0, .ref bka, .ref bkb])), (bkb, .inl (cI, 15, .inl fbb)), (nw, .inr (7, [.ref nwc])), (nwc, .inl (cI, 41, .inl fn))]) (rest := [.ref nw]) (k_at bka 15 fba w_1l2 (of_decide_eq_true rfl)) okS_X9_at 9 rfl hx hb hml hown hts hK hP hD hS hA hN hl.1 [1] [0, 2, 3, 4] rfl rfl rfl rfl (by decide) rfl (Nat.le_of_ble_eq_true rfl) (Nat.le_of_ble_eq_true rfl) (Nat.le_of_ble_eq_true rfl) (Nat.le_of_ble_eq_true rfl) (Nat.le_of_ble_eq_true rfl) dX0_firstWrong_16 (fun r_4 u_3 H locs hw_u_3 hP hD hS => ?_)
        obtain rfl := hw_u_3
        have hP : va_P D classes [(bk, .inr (0, [.int b0, .ref bka, .ref bkb])), (bkb, .inl (cI, 15, .inl fbb)), (nw, .inr (7, [.ref nwc])), (nwc, .inl (cI, 41, .inl fn)), (bka, .inl (cI, 15, .inl fba))] H := hP
        have hD : va_D A [(bk, .inr (0, [.int b0, .ref bka, .ref bkb])), (bkb, .inl (cI, 15, .inl fbb)), (nw, .inr (7, [.ref nwc])), (nwc, .inl (cI, 41, .inl fn)), (bka, .inl (cI, 15, .inl fba))] := hD
        refine cVi (wr := [(bk, .inr (0, [.int b0, .ref bka, .ref bkb])), (bkb, .inl (cI, 15, .inl fbb)), (bka, .inl (cI, 15, .inl fba))]) (rest := []) (e_grievanceOf nw nwc fn (atF 15 fba w_1l2)) okV_X7_grievanceOf wd_189 hx hb hml hown hts hK hP hD hS hA hN hl.1 [2, 3] [0, 1, 4] rfl rfl rfl rfl (of_decide_eq_true rfl) rfl rfl rfl (Nat.le_of_ble_eq_true rfl) (Nat.le_of_ble_eq_true rfl) (Nat.le_of_ble_eq_true rfl) (Nat.le_of_ble_eq_true rfl) (Nat.le_of_ble_eq_true rfl) dX0_firstWrong_19 (fun r_6 u_5 H locs hw_u_5 hP hD hS => ?_)
        replace hw_u_5 : r_6 = (f_e_grievanceOf fn (atF 15 fba w_1l2)) := hw_u_5
        rw [hw_u_5]
        clear hw_u_5
        have hP : va_P D classes [(bk, .inr (0, [.int b0, .ref bka, .ref bkb])), (bkb, .inl (cI, 15, .inl fbb)), (bka, .inl (cI, 15, .inl fba)), (nw, .inr (7, [.ref nwc])), (nwc, .inl (cI, 41, .inl fn))] H := hP
        have hD : va_D A [(bk, .inr (0, [.int b0, .ref bka, .ref bkb])), (bkb, .inl (cI, 15, .inl fbb)), (bka, .inl (cI, 15, .inl fba)), (nw, .inr (7, [.ref nwc])), (nwc, .inl (cI, 41, .inl fn))] := hD
        refine lv_aload_n hx hb dX0_firstWrong_22 rfl (lv_at hl 1 rfl) ?_
        refine va_get (D := D) (ci := 0) (v := .ref bkb) (C := RX0) (T := TX0) (N := 3) hx hb hts iX0 hown hK hP 0 rfl rfl 2 (Nat.le_of_ble_eq_true rfl) (hts _ wd_19) (fun _ h9 => h9) rfl dX0_firstWrong_23 ?_
        refine lv_iload_n hx hb dX0_firstWrong_26 rfl (lv_at hl 0 rfl) ?_
        refine cNi (wr := [(bk, .inr (0, [.int b0, .ref bka, .ref bkb])), (bka, .inl (cI, 15, .inl fba)), (nw, .inr (7, [.ref nwc])), (nwc, .inl (cI, 41, .inl fn))]) (rest := [.int (f_e_grievanceOf fn (atF 15 fba w_1l2))]) (k_at bkb 15 fbb w_1l2 (of_decide_eq_true rfl)) okS_X9_at 9 rfl hx hb hml hown hts hK hP hD hS hA hN hl.1 [1] [0, 2, 3, 4] rfl rfl rfl rfl (by decide) rfl (Nat.le_of_ble_eq_true rfl) (Nat.le_of_ble_eq_true rfl) (Nat.le_of_ble_eq_true rfl) (Nat.le_of_ble_eq_true rfl) (Nat.le_of_ble_eq_true rfl) dX0_firstWrong_27 (fun r_8 u_7 H locs hw_u_7 hP hD hS => ?_)
        obtain rfl := hw_u_7
        have hP : va_P D classes [(bk, .inr (0, [.int b0, .ref bka, .ref bkb])), (bka, .inl (cI, 15, .inl fba)), (nw, .inr (7, [.ref nwc])), (nwc, .inl (cI, 41, .inl fn)), (bkb, .inl (cI, 15, .inl fbb))] H := hP
        have hD : va_D A [(bk, .inr (0, [.int b0, .ref bka, .ref bkb])), (bka, .inl (cI, 15, .inl fba)), (nw, .inr (7, [.ref nwc])), (nwc, .inl (cI, 41, .inl fn)), (bkb, .inl (cI, 15, .inl fbb))] := hD
        refine lv_icmp_eq (tgt := 35) hx hb dX0_firstWrong_30 rfl (fun c_9 => ?_) (fun c_9 => ?_)
        · rw [if_pos c_9] at hE
          refine lv_iinc (v := (w_1l2 + 1)) (lv' := [(2, .int (w_1l2 + 1)), (0, .ref bk), (1, .ref nw)]) hx hb dX0_firstWrong_35 hl (k := 0) rfl rfl (Nat.le_of_ble_eq_true rfl) rfl (fun ls hl => ?_)
          refine lv_goto (tgt := 2) hx hb dX0_firstWrong_38 rfl ?_
          exact ih_w_1 (w_1l2 + 1) _ _ ls (cutP (isC := [0, 1, 4, 2, 3]) hP rfl) (cutD (isC := [0, 1, 4, 2, 3]) hD rfl rfl) hS (lv_sub hl [0, 1, 2] rfl) (up_step c_2 hm) hE
        · rw [if_neg c_9] at hE
          refine lv_iload_n hx hb dX0_firstWrong_33 rfl (lv_at hl 0 rfl) ?_
          exact hret w_1l2 () _ _ _ _ dX0_firstWrong_34 rfl hE (cutP (isC := [0, 1, 4, 2, 3]) hP rfl) (cutD (isC := [0, 1, 4, 2, 3]) hD rfl rfl) hS
  exact lp_2_w_1 (((b0 : Int32).toInt - (0 : Int32).toInt).toNat + 1) 0 _ _ ls hP hD hS hl (Nat.lt_succ_self _) hE
noncomputable def f_e_stampOf_x9 (g_ : Int32) (f_ : Int32) (s_ : Int32) : Int32 := (if s_ = 0 then (if (f_ + (g_ / 10)) < g_ then (f_ + (g_ / 10)) else g_) else (if ((f_ + (g_ / 10)) / 2) < g_ then ((f_ + (g_ / 10)) / 2) else g_))
def rm_e_stampOf_x9 : Room := { frames := 1, cells := 0, slots := 0, locals := 30 }
set_option maxHeartbeats 4000000 in
set_option maxRecDepth 100000 in
theorem e_stampOf_x9 {l : Launch} {D : va_G} {cI cZ : ClassId} {sz : Nat} (g_ : Int32) (f_ : Int32) (s_ : Int32) : KI l yX9_stampOf cX9_stampOf 4 (some .int) rm_e_stampOf_x9 D cI cZ [.int g_, .int f_, .int s_] sz [] (fun (r : Int32) (_ : Unit) => r = f_e_stampOf_x9 g_ f_ s_) (fun (_ : Unit) => []) := by
  refine KI.go rfl (Nat.le_of_ble_eq_true rfl) ?_
  intro p e s m args below meth c ls A Q hx hb hml hts hown hin hP hK hD hS hA hN hl hret
  have hl : lv_has ls 4 [(0, .int g_), (1, .int f_), (2, .int s_)] := hl
  obtain ⟨RES, hE⟩ : ∃ xRES, f_e_stampOf_x9 g_ f_ s_ = xRES := ⟨_, rfl⟩
  rw [hE] at hret
  rw [f_e_stampOf_x9] at hE
  refine lv_iload_n hx hb dX9_stampOf_0 rfl (lv_at hl 1 rfl) ?_
  refine lv_iload_n hx hb dX9_stampOf_1 rfl (lv_at hl 0 rfl) ?_
  refine lv_bipush (v := 10) hx hb dX9_stampOf_2 rfl ?_
  refine lv_idiv hx hb dX9_stampOf_4 (by decide) ?_
  refine lv_iadd hx hb dX9_stampOf_5 ?_
  refine lv_istore_n (lv' := [(3, .int (f_ + (g_ / 10))), (0, .int g_), (1, .int f_), (2, .int s_)]) hx hb dX9_stampOf_6 rfl hl (Nat.le_of_ble_eq_true rfl) rfl (fun ls hl => ?_)
  refine lv_iload_n hx hb dX9_stampOf_7 rfl (lv_at hl 1 rfl) ?_
  refine lv_iload_n hx hb dX9_stampOf_8 rfl (lv_at hl 3 rfl) ?_
  refine lv_if_ne (tgt := 16) hx hb dX9_stampOf_9 rfl (fun c_1 => ?_) (fun c_1 => ?_)
  · rw [if_neg c_1] at hE
    refine lv_iload_n hx hb dX9_stampOf_16 rfl (lv_at hl 0 rfl) ?_
    refine lv_iconst (v := 2) hx hb dX9_stampOf_17 rfl ?_
    refine lv_idiv hx hb dX9_stampOf_18 (by decide) ?_
    refine va_mmin hx hb (by rw [hml]; exact hl.1.symm) hown (hts _ wd_190) (hts _ wd_157) (hts _ wd_52) (hts _ wd_158) (Nat.le_of_ble_eq_true rfl) (Nat.le_of_ble_eq_true rfl) (Nat.le_of_ble_eq_true rfl) (Nat.le_of_ble_eq_true rfl) dX9_stampOf_19 ?_
    exact hret (if ((f_ + (g_ / 10)) / 2) < g_ then ((f_ + (g_ / 10)) / 2) else g_) () _ _ _ _ dX9_stampOf_22 rfl hE hP hD hS
  · rw [if_pos c_1] at hE
    refine lv_iload_n hx hb dX9_stampOf_12 rfl (lv_at hl 0 rfl) ?_
    refine lv_goto (tgt := 19) hx hb dX9_stampOf_13 rfl ?_
    refine va_mmin hx hb (by rw [hml]; exact hl.1.symm) hown (hts _ wd_190) (hts _ wd_157) (hts _ wd_52) (hts _ wd_158) (Nat.le_of_ble_eq_true rfl) (Nat.le_of_ble_eq_true rfl) (Nat.le_of_ble_eq_true rfl) (Nat.le_of_ble_eq_true rfl) dX9_stampOf_19 ?_
    exact hret (if (f_ + (g_ / 10)) < g_ then (f_ + (g_ / 10)) else g_) () _ _ _ _ dX9_stampOf_22 rfl hE hP hD hS
noncomputable def f_e_run_x4_13 (k0 : Int32) (k1 : Int32) (k2 : Int32) (k3 : Int32) (k4 : Int32) (g_ : Int32) (f_ : Int32) (s_ : Int32) (n_ : Int32) (n : Nat) : Int32 → Int32 → Int32 → Int32 → Int32 → Int32 → Int32 × Int32 × Int32 × Int32 × Int32 × Int32 := Nat.rec (motive := fun _ => Int32 → Int32 → Int32 → Int32 → Int32 → Int32 → Int32 × Int32 × Int32 × Int32 × Int32 × Int32) (fun w_1l5 w_1m0 w_1m1 w_1m2 w_1m3 w_1m4 => (w_1l5, w_1m0, w_1m1, w_1m2, w_1m3, w_1m4)) (fun n ih w_1l5 w_1m0 w_1m1 w_1m2 w_1m3 w_1m4 => (if g_ ≤ w_1l5 then (w_1l5, w_1m0, w_1m1, w_1m2, w_1m3, w_1m4) else (if n_ ≤ (g_ - w_1m2) then (w_1l5, w_1m0, w_1m1, w_1m2, w_1m3, w_1m4) else (if 0 < (f_e_stampOf_x9 w_1m2 f_ s_) then (ih (w_1l5 + 1) (w_1m0 + 1) w_1m1 (w_1m2 - (f_e_stampOf_x9 w_1m2 f_ s_)) w_1m3 w_1m4) else (w_1l5, w_1m0, w_1m1, w_1m2, w_1m3, w_1m4))))) n
theorem f_e_run_x4_13_s (k0 : Int32) (k1 : Int32) (k2 : Int32) (k3 : Int32) (k4 : Int32) (g_ : Int32) (f_ : Int32) (s_ : Int32) (n_ : Int32) (n : Nat) (w_1l5 : Int32) (w_1m0 : Int32) (w_1m1 : Int32) (w_1m2 : Int32) (w_1m3 : Int32) (w_1m4 : Int32) : f_e_run_x4_13 k0 k1 k2 k3 k4 g_ f_ s_ n_ (n + 1) w_1l5 w_1m0 w_1m1 w_1m2 w_1m3 w_1m4 = (if g_ ≤ w_1l5 then (w_1l5, w_1m0, w_1m1, w_1m2, w_1m3, w_1m4) else (if n_ ≤ (g_ - w_1m2) then (w_1l5, w_1m0, w_1m1, w_1m2, w_1m3, w_1m4) else (if 0 < (f_e_stampOf_x9 w_1m2 f_ s_) then (f_e_run_x4_13 k0 k1 k2 k3 k4 g_ f_ s_ n_ n (w_1l5 + 1) (w_1m0 + 1) w_1m1 (w_1m2 - (f_e_stampOf_x9 w_1m2 f_ s_)) w_1m3 w_1m4) else (w_1l5, w_1m0, w_1m1, w_1m2, w_1m3, w_1m4)))) := rfl
noncomputable def f_e_run_x4 (k0 : Int32) (k1 : Int32) (k2 : Int32) (k3 : Int32) (k4 : Int32) (g_ : Int32) (f_ : Int32) (s_ : Int32) (n_ : Int32) : Int32 × Int32 × Int32 × Int32 × Int32 := (match (f_e_run_x4_13 k0 k1 k2 k3 k4 g_ f_ s_ n_ (((g_ : Int32).toInt - (0 : Int32).toInt).toNat + 1) 0 0 k1 g_ k3 k4) with | (w_1l5, w_1m0, w_1m1, w_1m2, w_1m3, w_1m4) => (if (g_ - w_1m2) < n_ then (if (g_ - w_1m2) ≤ 0 then (w_1m0, (g_ - w_1m2), w_1m2, 0, 0) else (if w_1m2 = 0 then (w_1m0, (g_ - w_1m2), w_1m2, 0, 1) else (w_1m0, (g_ - w_1m2), w_1m2, 0, 0))) else (if (g_ - w_1m2) ≤ 0 then (w_1m0, (g_ - w_1m2), w_1m2, 1, 0) else (if w_1m2 = 0 then (w_1m0, (g_ - w_1m2), w_1m2, 1, 1) else (w_1m0, (g_ - w_1m2), w_1m2, 1, 0)))))
def rm_e_run_x4 : Room := { frames := 2, cells := 0, slots := 0, locals := 53 }
set_option maxHeartbeats 4000000 in
set_option maxRecDepth 100000 in
theorem e_run_x4 {l : Launch} {D : va_G} {cI cZ : ClassId} {sz : Nat} (qr : Nat) (k0 : Int32) (k1 : Int32) (k2 : Int32) (k3 : Int32) (k4 : Int32) (g_ : Int32) (f_ : Int32) (s_ : Int32) (n_ : Int32) : KV l yX4_run cX4_run 7 rm_e_run_x4 D cI cZ [.ref qr, .int g_, .int f_, .int s_, .int n_] sz [(qr, .inr (4, [.int k0, .int k1, .int k2, .int k3, .int k4]))] (fun (u : Int32 × Int32 × Int32 × Int32 × Int32) => u = f_e_run_x4 k0 k1 k2 k3 k4 g_ f_ s_ n_) (fun (u : Int32 × Int32 × Int32 × Int32 × Int32) => [(qr, .inr (4, [.int (u.1), .int (u.2.1), .int (u.2.2.1), .int (u.2.2.2.1), .int (u.2.2.2.2)]))]) := by
  refine KV.go rfl (Nat.le_of_ble_eq_true rfl) ?_
  intro p e s m args below meth c ls A Q hx hb hml hts hown hin hP hK hD hS hA hN hl hret
  have hl : lv_has ls 7 [(0, .ref qr), (1, .int g_), (2, .int f_), (3, .int s_), (4, .int n_)] := hl
  obtain ⟨RES, hE⟩ : ∃ xRES, f_e_run_x4 k0 k1 k2 k3 k4 g_ f_ s_ n_ = xRES := ⟨_, rfl⟩
  rw [hE] at hret
  rw [f_e_run_x4] at hE
  refine lv_aload_n hx hb dX4_run_0 rfl (lv_at hl 0 rfl) ?_
  refine lv_iconst (v := 0) hx hb dX4_run_1 rfl ?_
  refine va_put (D := D) (ci := 4) (v := .int 0) (ty := .int) (C := RX4) (T := TX4) (N := 5) hx hb hts iX4 tyX4 tyX4_ok nmX4 hown hK hP hD hS 0 rfl rfl 0 (Nat.le_of_ble_eq_true rfl) (hts _ wd_21) (fun _ h9 => h9) rfl (by decide +kernel) rfl rfl (Nat.le_of_ble_eq_true rfl) dX4_run_2 (fun H locs hP hD hS => ?_)
  have hP : va_P D classes [(qr, .inr (4, [.int 0, .int k1, .int k2, .int k3, .int k4]))] H := hP
  have hD : va_D A [(qr, .inr (4, [.int 0, .int k1, .int k2, .int k3, .int k4]))] := hD
  refine lv_aload_n hx hb dX4_run_5 rfl (lv_at hl 0 rfl) ?_
  refine lv_iload_n hx hb dX4_run_6 rfl (lv_at hl 1 rfl) ?_
  refine va_put (D := D) (ci := 4) (v := .int g_) (ty := .int) (C := RX4) (T := TX4) (N := 5) hx hb hts iX4 tyX4 tyX4_ok nmX4 hown hK hP hD hS 0 rfl rfl 2 (Nat.le_of_ble_eq_true rfl) (hts _ wd_23) (fun _ h9 => h9) rfl (by decide +kernel) rfl rfl (Nat.le_of_ble_eq_true rfl) dX4_run_7 (fun H locs hP hD hS => ?_)
  have hP : va_P D classes [(qr, .inr (4, [.int 0, .int k1, .int g_, .int k3, .int k4]))] H := hP
  have hD : va_D A [(qr, .inr (4, [.int 0, .int k1, .int g_, .int k3, .int k4]))] := hD
  refine lv_iconst (v := 0) hx hb dX4_run_10 rfl ?_
  refine lv_istore (lv' := [(5, .int 0), (0, .ref qr), (1, .int g_), (2, .int f_), (3, .int s_), (4, .int n_)]) hx hb dX4_run_11 hl (Nat.le_of_ble_eq_true rfl) rfl (fun ls hl => ?_)
  have ex_13_w_1 : ∀ (w_1l5 : Int32) (w_1m0 : Int32) (w_1m1 : Int32) (w_1m2 : Int32) (w_1m3 : Int32) (w_1m4 : Int32) (H : Heap) (locs : List Loc) (ls : Array Slot), va_P D classes [(qr, .inr (4, [.int w_1m0, .int w_1m1, .int w_1m2, .int w_1m3, .int w_1m4]))] H → va_D A [(qr, .inr (4, [.int w_1m0, .int w_1m1, .int w_1m2, .int w_1m3, .int w_1m4]))] → va_S A s.heap H locs → lv_has ls 7 [(5, .int w_1l5), (0, .ref qr), (1, .int g_), (2, .int f_), (3, .int s_), (4, .int n_)] → ((if (g_ - w_1m2) < n_ then (if (g_ - w_1m2) ≤ 0 then (w_1m0, (g_ - w_1m2), w_1m2, 0, 0) else (if w_1m2 = 0 then (w_1m0, (g_ - w_1m2), w_1m2, 0, 1) else (w_1m0, (g_ - w_1m2), w_1m2, 0, 0))) else (if (g_ - w_1m2) ≤ 0 then (w_1m0, (g_ - w_1m2), w_1m2, 1, 0) else (if w_1m2 = 0 then (w_1m0, (g_ - w_1m2), w_1m2, 1, 1) else (w_1m0, (g_ - w_1m2), w_1m2, 1, 0))))) = RES → W p l e rm_e_run_x4 s m args below meth c H locs 0 0 Q (F0 m 76 ls []) := by
    intro w_1l5 w_1m0 w_1m1 w_1m2 w_1m3 w_1m4 H locs ls hP hD hS hl hE
    refine lv_aload_n hx hb dX4_run_76 rfl (lv_at hl 1 rfl) ?_
    refine lv_iload_n hx hb dX4_run_77 rfl (lv_at hl 2 rfl) ?_
    refine lv_aload_n hx hb dX4_run_78 rfl (lv_at hl 1 rfl) ?_
    refine va_get (D := D) (ci := 4) (v := .int w_1m2) (C := RX4) (T := TX4) (N := 5) hx hb hts iX4 hown hK hP 0 rfl rfl 2 (Nat.le_of_ble_eq_true rfl) (hts _ wd_23) (fun _ h9 => h9) rfl dX4_run_79 ?_
    refine lv_isub hx hb dX4_run_82 ?_
    refine va_put (D := D) (ci := 4) (v := .int (g_ - w_1m2)) (ty := .int) (C := RX4) (T := TX4) (N := 5) hx hb hts iX4 tyX4 tyX4_ok nmX4 hown hK hP hD hS 0 rfl rfl 1 (Nat.le_of_ble_eq_true rfl) (hts _ wd_22) (fun _ h9 => h9) rfl (by decide +kernel) rfl rfl (Nat.le_of_ble_eq_true rfl) dX4_run_83 (fun H locs hP hD hS => ?_)
    have hP : va_P D classes [(qr, .inr (4, [.int w_1m0, .int (g_ - w_1m2), .int w_1m2, .int w_1m3, .int w_1m4]))] H := hP
    have hD : va_D A [(qr, .inr (4, [.int w_1m0, .int (g_ - w_1m2), .int w_1m2, .int w_1m3, .int w_1m4]))] := hD
    refine lv_aload_n hx hb dX4_run_86 rfl (lv_at hl 1 rfl) ?_
    refine lv_aload_n hx hb dX4_run_87 rfl (lv_at hl 1 rfl) ?_
    refine va_get (D := D) (ci := 4) (v := .int (g_ - w_1m2)) (C := RX4) (T := TX4) (N := 5) hx hb hts iX4 hown hK hP 0 rfl rfl 1 (Nat.le_of_ble_eq_true rfl) (hts _ wd_22) (fun _ h9 => h9) rfl dX4_run_88 ?_
    refine lv_iload hx hb dX4_run_91 (lv_at hl 5 rfl) ?_
    refine lv_icmp_lt (tgt := 100) hx hb dX4_run_93 rfl (fun c_2 => ?_) (fun c_2 => ?_)
    · rw [if_pos c_2] at hE
      refine lv_iconst (v := 0) hx hb dX4_run_100 rfl ?_
      refine va_put (D := D) (ci := 4) (v := .int 0) (ty := .boolean) (C := RX4) (T := TX4) (N := 5) hx hb hts iX4 tyX4 tyX4_ok nmX4 hown hK hP hD hS 0 rfl rfl 3 (Nat.le_of_ble_eq_true rfl) (hts _ wd_24) (fun _ h9 => h9) rfl (by decide +kernel) rfl rfl (Nat.le_of_ble_eq_true rfl) dX4_run_101 (fun H locs hP hD hS => ?_)
      have hP : va_P D classes [(qr, .inr (4, [.int w_1m0, .int (g_ - w_1m2), .int w_1m2, .int 0, .int w_1m4]))] H := hP
      have hD : va_D A [(qr, .inr (4, [.int w_1m0, .int (g_ - w_1m2), .int w_1m2, .int 0, .int w_1m4]))] := hD
      refine lv_aload_n hx hb dX4_run_104 rfl (lv_at hl 1 rfl) ?_
      refine lv_aload_n hx hb dX4_run_105 rfl (lv_at hl 1 rfl) ?_
      refine va_get (D := D) (ci := 4) (v := .int (g_ - w_1m2)) (C := RX4) (T := TX4) (N := 5) hx hb hts iX4 hown hK hP 0 rfl rfl 1 (Nat.le_of_ble_eq_true rfl) (hts _ wd_22) (fun _ h9 => h9) rfl dX4_run_106 ?_
      refine lv_if_le (tgt := 123) hx hb dX4_run_109 rfl (fun c_3 => ?_) (fun c_3 => ?_)
      · rw [if_pos c_3] at hE
        refine lv_iconst (v := 0) hx hb dX4_run_123 rfl ?_
        refine va_put (D := D) (ci := 4) (v := .int 0) (ty := .boolean) (C := RX4) (T := TX4) (N := 5) hx hb hts iX4 tyX4 tyX4_ok nmX4 hown hK hP hD hS 0 rfl rfl 4 (Nat.le_of_ble_eq_true rfl) (hts _ wd_25) (fun _ h9 => h9) rfl (by decide +kernel) rfl rfl (Nat.le_of_ble_eq_true rfl) dX4_run_124 (fun H locs hP hD hS => ?_)
        have hP : va_P D classes [(qr, .inr (4, [.int w_1m0, .int (g_ - w_1m2), .int w_1m2, .int 0, .int 0]))] H := hP
        have hD : va_D A [(qr, .inr (4, [.int w_1m0, .int (g_ - w_1m2), .int w_1m2, .int 0, .int 0]))] := hD
        exact hret (w_1m0, (g_ - w_1m2), w_1m2, 0, 0) _ _ _ _ dX4_run_127 hE hP hD hS
      · rw [if_neg c_3] at hE
        refine lv_aload_n hx hb dX4_run_112 rfl (lv_at hl 1 rfl) ?_
        refine va_get (D := D) (ci := 4) (v := .int w_1m2) (C := RX4) (T := TX4) (N := 5) hx hb hts iX4 hown hK hP 0 rfl rfl 2 (Nat.le_of_ble_eq_true rfl) (hts _ wd_23) (fun _ h9 => h9) rfl dX4_run_113 ?_
        refine lv_if_ne (tgt := 123) hx hb dX4_run_116 rfl (fun c_4 => ?_) (fun c_4 => ?_)
        · rw [if_neg c_4] at hE
          refine lv_iconst (v := 0) hx hb dX4_run_123 rfl ?_
          refine va_put (D := D) (ci := 4) (v := .int 0) (ty := .boolean) (C := RX4) (T := TX4) (N := 5) hx hb hts iX4 tyX4 tyX4_ok nmX4 hown hK hP hD hS 0 rfl rfl 4 (Nat.le_of_ble_eq_true rfl) (hts _ wd_25) (fun _ h9 => h9) rfl (by decide +kernel) rfl rfl (Nat.le_of_ble_eq_true rfl) dX4_run_124 (fun H locs hP hD hS => ?_)
          have hP : va_P D classes [(qr, .inr (4, [.int w_1m0, .int (g_ - w_1m2), .int w_1m2, .int 0, .int 0]))] H := hP
          have hD : va_D A [(qr, .inr (4, [.int w_1m0, .int (g_ - w_1m2), .int w_1m2, .int 0, .int 0]))] := hD
          exact hret (w_1m0, (g_ - w_1m2), w_1m2, 0, 0) _ _ _ _ dX4_run_127 hE hP hD hS
        · rw [if_pos c_4] at hE
          refine lv_iconst (v := 1) hx hb dX4_run_119 rfl ?_
          refine lv_goto (tgt := 124) hx hb dX4_run_120 rfl ?_
          refine va_put (D := D) (ci := 4) (v := .int 1) (ty := .boolean) (C := RX4) (T := TX4) (N := 5) hx hb hts iX4 tyX4 tyX4_ok nmX4 hown hK hP hD hS 0 rfl rfl 4 (Nat.le_of_ble_eq_true rfl) (hts _ wd_25) (fun _ h9 => h9) rfl (by decide +kernel) rfl rfl (Nat.le_of_ble_eq_true rfl) dX4_run_124 (fun H locs hP hD hS => ?_)
          have hP : va_P D classes [(qr, .inr (4, [.int w_1m0, .int (g_ - w_1m2), .int w_1m2, .int 0, .int 1]))] H := hP
          have hD : va_D A [(qr, .inr (4, [.int w_1m0, .int (g_ - w_1m2), .int w_1m2, .int 0, .int 1]))] := hD
          exact hret (w_1m0, (g_ - w_1m2), w_1m2, 0, 1) _ _ _ _ dX4_run_127 hE hP hD hS
    · rw [if_neg c_2] at hE
      refine lv_iconst (v := 1) hx hb dX4_run_96 rfl ?_
      refine lv_goto (tgt := 101) hx hb dX4_run_97 rfl ?_
      refine va_put (D := D) (ci := 4) (v := .int 1) (ty := .boolean) (C := RX4) (T := TX4) (N := 5) hx hb hts iX4 tyX4 tyX4_ok nmX4 hown hK hP hD hS 0 rfl rfl 3 (Nat.le_of_ble_eq_true rfl) (hts _ wd_24) (fun _ h9 => h9) rfl (by decide +kernel) rfl rfl (Nat.le_of_ble_eq_true rfl) dX4_run_101 (fun H locs hP hD hS => ?_)
      have hP : va_P D classes [(qr, .inr (4, [.int w_1m0, .int (g_ - w_1m2), .int w_1m2, .int 1, .int w_1m4]))] H := hP
      have hD : va_D A [(qr, .inr (4, [.int w_1m0, .int (g_ - w_1m2), .int w_1m2, .int 1, .int w_1m4]))] := hD
      refine lv_aload_n hx hb dX4_run_104 rfl (lv_at hl 1 rfl) ?_
      refine lv_aload_n hx hb dX4_run_105 rfl (lv_at hl 1 rfl) ?_
      refine va_get (D := D) (ci := 4) (v := .int (g_ - w_1m2)) (C := RX4) (T := TX4) (N := 5) hx hb hts iX4 hown hK hP 0 rfl rfl 1 (Nat.le_of_ble_eq_true rfl) (hts _ wd_22) (fun _ h9 => h9) rfl dX4_run_106 ?_
      refine lv_if_le (tgt := 123) hx hb dX4_run_109 rfl (fun c_5 => ?_) (fun c_5 => ?_)
      · rw [if_pos c_5] at hE
        refine lv_iconst (v := 0) hx hb dX4_run_123 rfl ?_
        refine va_put (D := D) (ci := 4) (v := .int 0) (ty := .boolean) (C := RX4) (T := TX4) (N := 5) hx hb hts iX4 tyX4 tyX4_ok nmX4 hown hK hP hD hS 0 rfl rfl 4 (Nat.le_of_ble_eq_true rfl) (hts _ wd_25) (fun _ h9 => h9) rfl (by decide +kernel) rfl rfl (Nat.le_of_ble_eq_true rfl) dX4_run_124 (fun H locs hP hD hS => ?_)
        have hP : va_P D classes [(qr, .inr (4, [.int w_1m0, .int (g_ - w_1m2), .int w_1m2, .int 1, .int 0]))] H := hP
        have hD : va_D A [(qr, .inr (4, [.int w_1m0, .int (g_ - w_1m2), .int w_1m2, .int 1, .int 0]))] := hD
        exact hret (w_1m0, (g_ - w_1m2), w_1m2, 1, 0) _ _ _ _ dX4_run_127 hE hP hD hS
      · rw [if_neg c_5] at hE
        refine lv_aload_n hx hb dX4_run_112 rfl (lv_at hl 1 rfl) ?_
        refine va_get (D := D) (ci := 4) (v := .int w_1m2) (C := RX4) (T := TX4) (N := 5) hx hb hts iX4 hown hK hP 0 rfl rfl 2 (Nat.le_of_ble_eq_true rfl) (hts _ wd_23) (fun _ h9 => h9) rfl dX4_run_113 ?_
        refine lv_if_ne (tgt := 123) hx hb dX4_run_116 rfl (fun c_6 => ?_) (fun c_6 => ?_)
        · rw [if_neg c_6] at hE
          refine lv_iconst (v := 0) hx hb dX4_run_123 rfl ?_
          refine va_put (D := D) (ci := 4) (v := .int 0) (ty := .boolean) (C := RX4) (T := TX4) (N := 5) hx hb hts iX4 tyX4 tyX4_ok nmX4 hown hK hP hD hS 0 rfl rfl 4 (Nat.le_of_ble_eq_true rfl) (hts _ wd_25) (fun _ h9 => h9) rfl (by decide +kernel) rfl rfl (Nat.le_of_ble_eq_true rfl) dX4_run_124 (fun H locs hP hD hS => ?_)
          have hP : va_P D classes [(qr, .inr (4, [.int w_1m0, .int (g_ - w_1m2), .int w_1m2, .int 1, .int 0]))] H := hP
          have hD : va_D A [(qr, .inr (4, [.int w_1m0, .int (g_ - w_1m2), .int w_1m2, .int 1, .int 0]))] := hD
          exact hret (w_1m0, (g_ - w_1m2), w_1m2, 1, 0) _ _ _ _ dX4_run_127 hE hP hD hS
        · rw [if_pos c_6] at hE
          refine lv_iconst (v := 1) hx hb dX4_run_119 rfl ?_
          refine lv_goto (tgt := 124) hx hb dX4_run_120 rfl ?_
          refine va_put (D := D) (ci := 4) (v := .int 1) (ty := .boolean) (C := RX4) (T := TX4) (N := 5) hx hb hts iX4 tyX4 tyX4_ok nmX4 hown hK hP hD hS 0 rfl rfl 4 (Nat.le_of_ble_eq_true rfl) (hts _ wd_25) (fun _ h9 => h9) rfl (by decide +kernel) rfl rfl (Nat.le_of_ble_eq_true rfl) dX4_run_124 (fun H locs hP hD hS => ?_)
          have hP : va_P D classes [(qr, .inr (4, [.int w_1m0, .int (g_ - w_1m2), .int w_1m2, .int 1, .int 1]))] H := hP
          have hD : va_D A [(qr, .inr (4, [.int w_1m0, .int (g_ - w_1m2), .int w_1m2, .int 1, .int 1]))] := hD
          exact hret (w_1m0, (g_ - w_1m2), w_1m2, 1, 1) _ _ _ _ dX4_run_127 hE hP hD hS
  have lp_13_w_1 : ∀ (n_w_1 : Nat) (w_1l5 : Int32) (w_1m0 : Int32) (w_1m1 : Int32) (w_1m2 : Int32) (w_1m3 : Int32) (w_1m4 : Int32) (H : Heap) (locs : List Loc) (ls : Array Slot), va_P D classes [(qr, .inr (4, [.int w_1m0, .int w_1m1, .int w_1m2, .int w_1m3, .int w_1m4]))] H → va_D A [(qr, .inr (4, [.int w_1m0, .int w_1m1, .int w_1m2, .int w_1m3, .int w_1m4]))] → va_S A s.heap H locs → lv_has ls 7 [(5, .int w_1l5), (0, .ref qr), (1, .int g_), (2, .int f_), (3, .int s_), (4, .int n_)] → ((g_ : Int32).toInt - (w_1l5 : Int32).toInt).toNat < n_w_1 → (match (f_e_run_x4_13 k0 k1 k2 k3 k4 g_ f_ s_ n_ n_w_1 w_1l5 w_1m0 w_1m1 w_1m2 w_1m3 w_1m4) with | (w_1l5, w_1m0, w_1m1, w_1m2, w_1m3, w_1m4) => (if (g_ - w_1m2) < n_ then (if (g_ - w_1m2) ≤ 0 then (w_1m0, (g_ - w_1m2), w_1m2, 0, 0) else (if w_1m2 = 0 then (w_1m0, (g_ - w_1m2), w_1m2, 0, 1) else (w_1m0, (g_ - w_1m2), w_1m2, 0, 0))) else (if (g_ - w_1m2) ≤ 0 then (w_1m0, (g_ - w_1m2), w_1m2, 1, 0) else (if w_1m2 = 0 then (w_1m0, (g_ - w_1m2), w_1m2, 1, 1) else (w_1m0, (g_ - w_1m2), w_1m2, 1, 0))))) = RES → W p l e rm_e_run_x4 s m args below meth c H locs 0 0 Q (F0 m 13 ls []) := by
    intro n_w_1
    induction n_w_1 with
    | zero => intro w_1l5 w_1m0 w_1m1 w_1m2 w_1m3 w_1m4 H locs ls hP hD hS hl hm; exact absurd hm (Nat.not_lt_zero _)
    | succ n_w_1 ih_w_1 =>
      intro w_1l5 w_1m0 w_1m1 w_1m2 w_1m3 w_1m4 H locs ls hP hD hS hl hm hE
      rw [f_e_run_x4_13_s] at hE
      refine lv_iload hx hb dX4_run_13 (lv_at hl 0 rfl) ?_
      refine lv_iload_n hx hb dX4_run_15 rfl (lv_at hl 2 rfl) ?_
      refine lv_icmp_ge (tgt := 76) hx hb dX4_run_16 rfl (fun c_7 => ?_) (fun c_7 => ?_)
      · rw [if_pos c_7] at hE
        exact ex_13_w_1 w_1l5 w_1m0 w_1m1 w_1m2 w_1m3 w_1m4 _ _ ls hP hD hS (lv_sub hl [0, 1, 2, 3, 4, 5] rfl) hE
      · rw [if_neg c_7] at hE
        refine lv_iload_n hx hb dX4_run_19 rfl (lv_at hl 2 rfl) ?_
        refine lv_aload_n hx hb dX4_run_20 rfl (lv_at hl 1 rfl) ?_
        refine va_get (D := D) (ci := 4) (v := .int w_1m2) (C := RX4) (T := TX4) (N := 5) hx hb hts iX4 hown hK hP 0 rfl rfl 2 (Nat.le_of_ble_eq_true rfl) (hts _ wd_23) (fun _ h9 => h9) rfl dX4_run_21 ?_
        refine lv_isub hx hb dX4_run_24 ?_
        refine lv_iload hx hb dX4_run_25 (lv_at hl 5 rfl) ?_
        refine lv_icmp_ge (tgt := 76) hx hb dX4_run_27 rfl (fun c_8 => ?_) (fun c_8 => ?_)
        · rw [if_pos c_8] at hE
          exact ex_13_w_1 w_1l5 w_1m0 w_1m1 w_1m2 w_1m3 w_1m4 _ _ ls hP hD hS (lv_sub hl [0, 1, 2, 3, 4, 5] rfl) hE
        · rw [if_neg c_8] at hE
          refine lv_aload_n hx hb dX4_run_30 rfl (lv_at hl 1 rfl) ?_
          refine va_get (D := D) (ci := 4) (v := .int w_1m2) (C := RX4) (T := TX4) (N := 5) hx hb hts iX4 hown hK hP 0 rfl rfl 2 (Nat.le_of_ble_eq_true rfl) (hts _ wd_23) (fun _ h9 => h9) rfl dX4_run_31 ?_
          refine lv_iload_n hx hb dX4_run_34 rfl (lv_at hl 3 rfl) ?_
          refine lv_iload_n hx hb dX4_run_35 rfl (lv_at hl 4 rfl) ?_
          refine cNi (wr := [(qr, .inr (4, [.int w_1m0, .int w_1m1, .int w_1m2, .int w_1m3, .int w_1m4]))]) (rest := []) (e_stampOf_x9 w_1m2 f_ s_) okS_X9_stampOf 14 rfl hx hb hml hown hts hK hP hD hS hA hN hl.1 [] [0] rfl rfl rfl rfl (of_decide_eq_true rfl) rfl (Nat.le_of_ble_eq_true rfl) (Nat.le_of_ble_eq_true rfl) (Nat.le_of_ble_eq_true rfl) (Nat.le_of_ble_eq_true rfl) (Nat.le_of_ble_eq_true rfl) dX4_run_36 (fun r_10 u_9 H locs hw_u_9 hP hD hS => ?_)
          replace hw_u_9 : r_10 = (f_e_stampOf_x9 w_1m2 f_ s_) := hw_u_9
          rw [hw_u_9]
          clear hw_u_9
          have hP : va_P D classes [(qr, .inr (4, [.int w_1m0, .int w_1m1, .int w_1m2, .int w_1m3, .int w_1m4]))] H := hP
          have hD : va_D A [(qr, .inr (4, [.int w_1m0, .int w_1m1, .int w_1m2, .int w_1m3, .int w_1m4]))] := hD
          refine lv_istore (lv' := [(6, .int (f_e_stampOf_x9 w_1m2 f_ s_)), (5, .int w_1l5), (0, .ref qr), (1, .int g_), (2, .int f_), (3, .int s_), (4, .int n_)]) hx hb dX4_run_39 hl (Nat.le_of_ble_eq_true rfl) rfl (fun ls hl => ?_)
          refine lv_iload hx hb dX4_run_41 (lv_at hl 0 rfl) ?_
          refine lv_if_gt (tgt := 49) hx hb dX4_run_43 rfl (fun c_11 => ?_) (fun c_11 => ?_)
          · rw [if_pos c_11] at hE
            refine lv_aload_n hx hb dX4_run_49 rfl (lv_at hl 2 rfl) ?_
            refine lv_dup hx hb dX4_run_50 rfl ?_
            refine va_get (D := D) (ci := 4) (v := .int w_1m2) (C := RX4) (T := TX4) (N := 5) hx hb hts iX4 hown hK hP 0 rfl rfl 2 (Nat.le_of_ble_eq_true rfl) (hts _ wd_23) (fun _ h9 => h9) rfl dX4_run_51 ?_
            refine lv_iload hx hb dX4_run_54 (lv_at hl 0 rfl) ?_
            refine lv_isub hx hb dX4_run_56 ?_
            refine va_put (D := D) (ci := 4) (v := .int (w_1m2 - (f_e_stampOf_x9 w_1m2 f_ s_))) (ty := .int) (C := RX4) (T := TX4) (N := 5) hx hb hts iX4 tyX4 tyX4_ok nmX4 hown hK hP hD hS 0 rfl rfl 2 (Nat.le_of_ble_eq_true rfl) (hts _ wd_23) (fun _ h9 => h9) rfl (by decide +kernel) rfl rfl (Nat.le_of_ble_eq_true rfl) dX4_run_57 (fun H locs hP hD hS => ?_)
            have hP : va_P D classes [(qr, .inr (4, [.int w_1m0, .int w_1m1, .int (w_1m2 - (f_e_stampOf_x9 w_1m2 f_ s_)), .int w_1m3, .int w_1m4]))] H := hP
            have hD : va_D A [(qr, .inr (4, [.int w_1m0, .int w_1m1, .int (w_1m2 - (f_e_stampOf_x9 w_1m2 f_ s_)), .int w_1m3, .int w_1m4]))] := hD
            refine lv_aload_n hx hb dX4_run_60 rfl (lv_at hl 2 rfl) ?_
            refine lv_dup hx hb dX4_run_61 rfl ?_
            refine va_get (D := D) (ci := 4) (v := .int w_1m0) (C := RX4) (T := TX4) (N := 5) hx hb hts iX4 hown hK hP 0 rfl rfl 0 (Nat.le_of_ble_eq_true rfl) (hts _ wd_21) (fun _ h9 => h9) rfl dX4_run_62 ?_
            refine lv_iconst (v := 1) hx hb dX4_run_65 rfl ?_
            refine lv_iadd hx hb dX4_run_66 ?_
            refine va_put (D := D) (ci := 4) (v := .int (w_1m0 + 1)) (ty := .int) (C := RX4) (T := TX4) (N := 5) hx hb hts iX4 tyX4 tyX4_ok nmX4 hown hK hP hD hS 0 rfl rfl 0 (Nat.le_of_ble_eq_true rfl) (hts _ wd_21) (fun _ h9 => h9) rfl (by decide +kernel) rfl rfl (Nat.le_of_ble_eq_true rfl) dX4_run_67 (fun H locs hP hD hS => ?_)
            have hP : va_P D classes [(qr, .inr (4, [.int (w_1m0 + 1), .int w_1m1, .int (w_1m2 - (f_e_stampOf_x9 w_1m2 f_ s_)), .int w_1m3, .int w_1m4]))] H := hP
            have hD : va_D A [(qr, .inr (4, [.int (w_1m0 + 1), .int w_1m1, .int (w_1m2 - (f_e_stampOf_x9 w_1m2 f_ s_)), .int w_1m3, .int w_1m4]))] := hD
            refine lv_iinc (v := (w_1l5 + 1)) (lv' := [(5, .int (w_1l5 + 1)), (6, .int (f_e_stampOf_x9 w_1m2 f_ s_)), (0, .ref qr), (1, .int g_), (2, .int f_), (3, .int s_), (4, .int n_)]) hx hb dX4_run_70 hl (k := 1) rfl rfl (Nat.le_of_ble_eq_true rfl) rfl (fun ls hl => ?_)
            refine lv_goto (tgt := 13) hx hb dX4_run_73 rfl ?_
            exact ih_w_1 (w_1l5 + 1) (w_1m0 + 1) w_1m1 (w_1m2 - (f_e_stampOf_x9 w_1m2 f_ s_)) w_1m3 w_1m4 _ _ ls hP hD hS (lv_sub hl [0, 2, 3, 4, 5, 6] rfl) (up_step c_7 hm) hE
          · rw [if_neg c_11] at hE
            refine lv_goto (tgt := 76) hx hb dX4_run_46 rfl ?_
            exact ex_13_w_1 w_1l5 w_1m0 w_1m1 w_1m2 w_1m3 w_1m4 _ _ ls hP hD hS (lv_sub hl [1, 2, 3, 4, 5, 6] rfl) hE
  exact lp_13_w_1 (((g_ : Int32).toInt - (0 : Int32).toInt).toNat + 1) 0 0 k1 g_ k3 k4 _ _ ls hP hD hS hl (Nat.lt_succ_self _) hE
end
section
def fw_cX5_letter : List (List Nat) := [[42, 180, 0, 25, 155, 0, 38, 42, 180, 0, 25, 42, 180, 0, 22, 162, 0, 27], [0, 27, 42, 180, 0, 25, 42, 180, 0, 18, 190, 162, 0, 15, 42, 180, 0, 18], [0, 18, 42, 180, 0, 25, 46, 167, 0, 4, 2, 172]]
theorem fW_cX5_letter : fq_wins 3 cX5_letter.data.toList = fw_cX5_letter := by decide +kernel
theorem fk_cX5_letter_0 : fq_ck cX5_letter 0 [42, 180, 0, 25, 155, 0, 38, 42, 180, 0, 25, 42, 180, 0, 22, 162, 0, 27] := fq_of fW_cX5_letter 0 rfl rfl
theorem dX5_letter_0 : decode cX5_letter 0 = .ok (.aload_n 0, 1) := fq_42 fk_cX5_letter_0 0 rfl rfl
theorem dX5_letter_1 : decode cX5_letter 1 = .ok (.getfield 25, 3) := fq_180 fk_cX5_letter_0 1 rfl rfl rfl rfl rfl
theorem dX5_letter_4 : decode cX5_letter 4 = .ok (.ifCond .lt 38, 3) := fq_155 fk_cX5_letter_0 4 rfl rfl rfl rfl rfl
theorem fk_cX5_letter_2 : fq_ck cX5_letter 32 [0, 18, 42, 180, 0, 25, 46, 167, 0, 4, 2, 172] := fq_of fW_cX5_letter 2 rfl rfl
theorem dX5_letter_42 : decode cX5_letter 42 = .ok (.iconst (-1), 1) := fq_2 fk_cX5_letter_2 10 rfl rfl
theorem dX5_letter_43 : decode cX5_letter 43 = .ok (.ireturn, 1) := fq_172 fk_cX5_letter_2 11 rfl rfl
theorem dX5_letter_7 : decode cX5_letter 7 = .ok (.aload_n 0, 1) := fq_42 fk_cX5_letter_0 7 rfl rfl
theorem dX5_letter_8 : decode cX5_letter 8 = .ok (.getfield 25, 3) := fq_180 fk_cX5_letter_0 8 rfl rfl rfl rfl rfl
theorem dX5_letter_11 : decode cX5_letter 11 = .ok (.aload_n 0, 1) := fq_42 fk_cX5_letter_0 11 rfl rfl
theorem dX5_letter_12 : decode cX5_letter 12 = .ok (.getfield 22, 3) := fq_180 fk_cX5_letter_0 12 rfl rfl rfl rfl rfl
theorem dX5_letter_15 : decode cX5_letter 15 = .ok (.if_icmp .ge 27, 3) := fq_162 fk_cX5_letter_0 15 rfl rfl rfl rfl rfl
theorem fk_cX5_letter_1 : fq_ck cX5_letter 16 [0, 27, 42, 180, 0, 25, 42, 180, 0, 18, 190, 162, 0, 15, 42, 180, 0, 18] := fq_of fW_cX5_letter 1 rfl rfl
theorem dX5_letter_18 : decode cX5_letter 18 = .ok (.aload_n 0, 1) := fq_42 fk_cX5_letter_1 2 rfl rfl
theorem dX5_letter_19 : decode cX5_letter 19 = .ok (.getfield 25, 3) := fq_180 fk_cX5_letter_1 3 rfl rfl rfl rfl rfl
theorem dX5_letter_22 : decode cX5_letter 22 = .ok (.aload_n 0, 1) := fq_42 fk_cX5_letter_1 6 rfl rfl
theorem dX5_letter_23 : decode cX5_letter 23 = .ok (.getfield 18, 3) := fq_180 fk_cX5_letter_1 7 rfl rfl rfl rfl rfl
theorem dX5_letter_26 : decode cX5_letter 26 = .ok (.arraylength, 1) := fq_190 fk_cX5_letter_1 10 rfl rfl
theorem dX5_letter_27 : decode cX5_letter 27 = .ok (.if_icmp .ge 15, 3) := fq_162 fk_cX5_letter_1 11 rfl rfl rfl rfl rfl
theorem dX5_letter_30 : decode cX5_letter 30 = .ok (.aload_n 0, 1) := fq_42 fk_cX5_letter_1 14 rfl rfl
theorem dX5_letter_31 : decode cX5_letter 31 = .ok (.getfield 18, 3) := fq_180 fk_cX5_letter_1 15 rfl rfl rfl rfl rfl
theorem dX5_letter_34 : decode cX5_letter 34 = .ok (.aload_n 0, 1) := fq_42 fk_cX5_letter_2 2 rfl rfl
theorem dX5_letter_35 : decode cX5_letter 35 = .ok (.getfield 25, 3) := fq_180 fk_cX5_letter_2 3 rfl rfl rfl rfl rfl
theorem dX5_letter_38 : decode cX5_letter 38 = .ok (.iaload, 1) := fq_46 fk_cX5_letter_2 6 rfl rfl
theorem dX5_letter_39 : decode cX5_letter 39 = .ok (.goto 4, 3) := fq_167 fk_cX5_letter_2 7 rfl rfl rfl rfl rfl
def fw_cX5_next : List (List Nat) := [[3, 60, 27, 17, 0, 240, 162, 0, 28, 42, 182, 0, 107, 16, 32, 160, 0, 19], [0, 19, 42, 89, 180, 0, 25, 4, 96, 181, 0, 25, 132, 1, 1, 167, 255, 227], [255, 227, 42, 182, 0, 107, 172]]
theorem fW_cX5_next : fq_wins 3 cX5_next.data.toList = fw_cX5_next := by decide +kernel
theorem fk_cX5_next_0 : fq_ck cX5_next 0 [3, 60, 27, 17, 0, 240, 162, 0, 28, 42, 182, 0, 107, 16, 32, 160, 0, 19] := fq_of fW_cX5_next 0 rfl rfl
theorem dX5_next_0 : decode cX5_next 0 = .ok (.iconst 0, 1) := fq_3 fk_cX5_next_0 0 rfl rfl
theorem dX5_next_1 : decode cX5_next 1 = .ok (.istore_n 1, 1) := fq_60 fk_cX5_next_0 1 rfl rfl
theorem fk_cX5_next_2 : fq_ck cX5_next 32 [255, 227, 42, 182, 0, 107, 172] := fq_of fW_cX5_next 2 rfl rfl
theorem dX5_next_34 : decode cX5_next 34 = .ok (.aload_n 0, 1) := fq_42 fk_cX5_next_2 2 rfl rfl
theorem dX5_next_35 : decode cX5_next 35 = .ok (.invokevirtual 107, 3) := fq_182 fk_cX5_next_2 3 rfl rfl rfl rfl rfl
theorem wd_193 : Cond.methodLink RX5 107 yX5_letter ∈ BG := BG_at2 110 (by decide +kernel) rfl
theorem wd_194 : Cond.code yX5_letter cX5_letter 1 (some .int) ∈ BG := BG_at2 113 rfl rfl
theorem wd_195 : Cond.instanceMethod yX5_letter ∈ BG := BG_at2 112 (by decide +kernel) rfl
theorem wd_196 : Cond.selects RX5 yX5_letter yX5_letter ∈ BG := BG_in (by decide +kernel) rfl
theorem okV_X5_letter : okV yX5_letter cX5_letter 1 (some .int) 0 := ⟨⟨wd_194, wd_80, by decide +kernel⟩, wd_195, wd_196⟩
theorem dX5_next_38 : decode cX5_next 38 = .ok (.ireturn, 1) := fq_172 fk_cX5_next_2 6 rfl rfl
theorem dX5_next_2 : decode cX5_next 2 = .ok (.iload_n 1, 1) := fq_27 fk_cX5_next_0 2 rfl rfl
theorem dX5_next_3 : decode cX5_next 3 = .ok (.sipush 240, 3) := fq_17 fk_cX5_next_0 3 rfl rfl rfl rfl rfl
theorem dX5_next_6 : decode cX5_next 6 = .ok (.if_icmp .ge 28, 3) := fq_162 fk_cX5_next_0 6 rfl rfl rfl rfl rfl
theorem dX5_next_9 : decode cX5_next 9 = .ok (.aload_n 0, 1) := fq_42 fk_cX5_next_0 9 rfl rfl
theorem dX5_next_10 : decode cX5_next 10 = .ok (.invokevirtual 107, 3) := fq_182 fk_cX5_next_0 10 rfl rfl rfl rfl rfl
theorem dX5_next_13 : decode cX5_next 13 = .ok (.bipush 32, 2) := fq_16 fk_cX5_next_0 13 rfl rfl rfl rfl
theorem dX5_next_15 : decode cX5_next 15 = .ok (.if_icmp .ne 19, 3) := fq_160 fk_cX5_next_0 15 rfl rfl rfl rfl rfl
theorem fk_cX5_next_1 : fq_ck cX5_next 16 [0, 19, 42, 89, 180, 0, 25, 4, 96, 181, 0, 25, 132, 1, 1, 167, 255, 227] := fq_of fW_cX5_next 1 rfl rfl
theorem dX5_next_18 : decode cX5_next 18 = .ok (.aload_n 0, 1) := fq_42 fk_cX5_next_1 2 rfl rfl
theorem dX5_next_19 : decode cX5_next 19 = .ok (.dup, 1) := fq_89 fk_cX5_next_1 3 rfl rfl
theorem dX5_next_20 : decode cX5_next 20 = .ok (.getfield 25, 3) := fq_180 fk_cX5_next_1 4 rfl rfl rfl rfl rfl
theorem dX5_next_23 : decode cX5_next 23 = .ok (.iconst 1, 1) := fq_4 fk_cX5_next_1 7 rfl rfl
theorem dX5_next_24 : decode cX5_next 24 = .ok (.iadd, 1) := fq_96 fk_cX5_next_1 8 rfl rfl
theorem dX5_next_25 : decode cX5_next 25 = .ok (.putfield 25, 3) := fq_181 fk_cX5_next_1 9 rfl rfl rfl rfl rfl
theorem dX5_next_28 : decode cX5_next 28 = .ok (.iinc 1 1, 3) := fq_132 fk_cX5_next_1 12 rfl rfl rfl rfl rfl
theorem dX5_next_31 : decode cX5_next 31 = .ok (.goto (-29), 3) := fq_167 fk_cX5_next_1 15 rfl rfl rfl rfl rfl
def fw_cX5_isFigure : List (List Nat) := [[27, 16, 48, 161, 0, 13, 27, 16, 57, 163, 0, 7, 4, 167, 0, 4, 3, 172], [3, 172]]
theorem fW_cX5_isFigure : fq_wins 2 cX5_isFigure.data.toList = fw_cX5_isFigure := by decide +kernel
theorem fk_cX5_isFigure_0 : fq_ck cX5_isFigure 0 [27, 16, 48, 161, 0, 13, 27, 16, 57, 163, 0, 7, 4, 167, 0, 4, 3, 172] := fq_of fW_cX5_isFigure 0 rfl rfl
theorem dX5_isFigure_0 : decode cX5_isFigure 0 = .ok (.iload_n 1, 1) := fq_27 fk_cX5_isFigure_0 0 rfl rfl
theorem dX5_isFigure_1 : decode cX5_isFigure 1 = .ok (.bipush 48, 2) := fq_16 fk_cX5_isFigure_0 1 rfl rfl rfl rfl
theorem dX5_isFigure_3 : decode cX5_isFigure 3 = .ok (.if_icmp .lt 13, 3) := fq_161 fk_cX5_isFigure_0 3 rfl rfl rfl rfl rfl
theorem fk_cX5_isFigure_1 : fq_ck cX5_isFigure 16 [3, 172] := fq_of fW_cX5_isFigure 1 rfl rfl
theorem dX5_isFigure_16 : decode cX5_isFigure 16 = .ok (.iconst 0, 1) := fq_3 fk_cX5_isFigure_1 0 rfl rfl
theorem dX5_isFigure_17 : decode cX5_isFigure 17 = .ok (.ireturn, 1) := fq_172 fk_cX5_isFigure_1 1 rfl rfl
theorem dX5_isFigure_6 : decode cX5_isFigure 6 = .ok (.iload_n 1, 1) := fq_27 fk_cX5_isFigure_0 6 rfl rfl
theorem dX5_isFigure_7 : decode cX5_isFigure 7 = .ok (.bipush 57, 2) := fq_16 fk_cX5_isFigure_0 7 rfl rfl rfl rfl
theorem dX5_isFigure_9 : decode cX5_isFigure 9 = .ok (.if_icmp .gt 7, 3) := fq_163 fk_cX5_isFigure_0 9 rfl rfl rfl rfl rfl
theorem dX5_isFigure_12 : decode cX5_isFigure 12 = .ok (.iconst 1, 1) := fq_4 fk_cX5_isFigure_0 12 rfl rfl
theorem dX5_isFigure_13 : decode cX5_isFigure 13 = .ok (.goto 4, 3) := fq_167 fk_cX5_isFigure_0 13 rfl rfl rfl rfl rfl
def fw_cX5_blame : List (List Nat) := [[42, 27, 181, 0, 9, 42, 28, 181, 0, 15, 177]]
theorem fW_cX5_blame : fq_wins 1 cX5_blame.data.toList = fw_cX5_blame := by decide +kernel
theorem fk_cX5_blame_0 : fq_ck cX5_blame 0 [42, 27, 181, 0, 9, 42, 28, 181, 0, 15, 177] := fq_of fW_cX5_blame 0 rfl rfl
theorem dX5_blame_0 : decode cX5_blame 0 = .ok (.aload_n 0, 1) := fq_42 fk_cX5_blame_0 0 rfl rfl
theorem dX5_blame_1 : decode cX5_blame 1 = .ok (.iload_n 1, 1) := fq_27 fk_cX5_blame_0 1 rfl rfl
theorem dX5_blame_2 : decode cX5_blame 2 = .ok (.putfield 9, 3) := fq_181 fk_cX5_blame_0 2 rfl rfl rfl rfl rfl
theorem dX5_blame_5 : decode cX5_blame 5 = .ok (.aload_n 0, 1) := fq_42 fk_cX5_blame_0 5 rfl rfl
theorem dX5_blame_6 : decode cX5_blame 6 = .ok (.iload_n 2, 1) := fq_28 fk_cX5_blame_0 6 rfl rfl
theorem dX5_blame_7 : decode cX5_blame 7 = .ok (.putfield 15, 3) := fq_181 fk_cX5_blame_0 7 rfl rfl rfl rfl rfl
theorem dX5_blame_10 : decode cX5_blame 10 = .ok (.return_, 1) := fq_177 fk_cX5_blame_0 10 rfl rfl
def fw_cX5_expect : List (List Nat) := [[42, 180, 0, 9, 153, 0, 4, 177, 42, 182, 0, 40, 27, 159, 0, 13, 42, 4], [42, 4, 42, 180, 0, 25, 182, 0, 51, 177, 42, 89, 180, 0, 25, 4, 96, 181], [96, 181, 0, 25, 177]]
theorem fW_cX5_expect : fq_wins 3 cX5_expect.data.toList = fw_cX5_expect := by decide +kernel
theorem fk_cX5_expect_0 : fq_ck cX5_expect 0 [42, 180, 0, 9, 153, 0, 4, 177, 42, 182, 0, 40, 27, 159, 0, 13, 42, 4] := fq_of fW_cX5_expect 0 rfl rfl
theorem dX5_expect_0 : decode cX5_expect 0 = .ok (.aload_n 0, 1) := fq_42 fk_cX5_expect_0 0 rfl rfl
theorem dX5_expect_1 : decode cX5_expect 1 = .ok (.getfield 9, 3) := fq_180 fk_cX5_expect_0 1 rfl rfl rfl rfl rfl
theorem dX5_expect_4 : decode cX5_expect 4 = .ok (.ifCond .eq 4, 3) := fq_153 fk_cX5_expect_0 4 rfl rfl rfl rfl rfl
theorem dX5_expect_8 : decode cX5_expect 8 = .ok (.aload_n 0, 1) := fq_42 fk_cX5_expect_0 8 rfl rfl
theorem dX5_expect_9 : decode cX5_expect 9 = .ok (.invokevirtual 40, 3) := fq_182 fk_cX5_expect_0 9 rfl rfl rfl rfl rfl
theorem wd_197 : Cond.methodLink RX5 40 yX5_next ∈ BG := BG_at2 106 (by decide +kernel) rfl
theorem wd_198 : Cond.code yX5_next cX5_next 2 (some .int) ∈ BG := BG_at2 109 rfl rfl
theorem wd_199 : Cond.instanceMethod yX5_next ∈ BG := BG_at2 108 (by decide +kernel) rfl
theorem wd_200 : Cond.selects RX5 yX5_next yX5_next ∈ BG := BG_in (by decide +kernel) rfl
theorem okV_X5_next : okV yX5_next cX5_next 2 (some .int) 0 := ⟨⟨wd_198, wd_80, by decide +kernel⟩, wd_199, wd_200⟩
theorem dX5_expect_12 : decode cX5_expect 12 = .ok (.iload_n 1, 1) := fq_27 fk_cX5_expect_0 12 rfl rfl
theorem dX5_expect_13 : decode cX5_expect 13 = .ok (.if_icmp .eq 13, 3) := fq_159 fk_cX5_expect_0 13 rfl rfl rfl rfl rfl
theorem fk_cX5_expect_1 : fq_ck cX5_expect 16 [42, 4, 42, 180, 0, 25, 182, 0, 51, 177, 42, 89, 180, 0, 25, 4, 96, 181] := fq_of fW_cX5_expect 1 rfl rfl
theorem dX5_expect_26 : decode cX5_expect 26 = .ok (.aload_n 0, 1) := fq_42 fk_cX5_expect_1 10 rfl rfl
theorem dX5_expect_27 : decode cX5_expect 27 = .ok (.dup, 1) := fq_89 fk_cX5_expect_1 11 rfl rfl
theorem dX5_expect_28 : decode cX5_expect 28 = .ok (.getfield 25, 3) := fq_180 fk_cX5_expect_1 12 rfl rfl rfl rfl rfl
theorem dX5_expect_31 : decode cX5_expect 31 = .ok (.iconst 1, 1) := fq_4 fk_cX5_expect_1 15 rfl rfl
theorem fk_cX5_expect_2 : fq_ck cX5_expect 32 [96, 181, 0, 25, 177] := fq_of fW_cX5_expect 2 rfl rfl
theorem dX5_expect_32 : decode cX5_expect 32 = .ok (.iadd, 1) := fq_96 fk_cX5_expect_2 0 rfl rfl
theorem dX5_expect_33 : decode cX5_expect 33 = .ok (.putfield 25, 3) := fq_181 fk_cX5_expect_2 1 rfl rfl rfl rfl rfl
theorem dX5_expect_36 : decode cX5_expect 36 = .ok (.return_, 1) := fq_177 fk_cX5_expect_2 4 rfl rfl
theorem dX5_expect_16 : decode cX5_expect 16 = .ok (.aload_n 0, 1) := fq_42 fk_cX5_expect_1 0 rfl rfl
theorem dX5_expect_17 : decode cX5_expect 17 = .ok (.iconst 1, 1) := fq_4 fk_cX5_expect_1 1 rfl rfl
theorem dX5_expect_18 : decode cX5_expect 18 = .ok (.aload_n 0, 1) := fq_42 fk_cX5_expect_1 2 rfl rfl
theorem dX5_expect_19 : decode cX5_expect 19 = .ok (.getfield 25, 3) := fq_180 fk_cX5_expect_1 3 rfl rfl rfl rfl rfl
theorem dX5_expect_22 : decode cX5_expect 22 = .ok (.invokevirtual 51, 3) := fq_182 fk_cX5_expect_1 6 rfl rfl rfl rfl rfl
theorem wd_201 : Cond.methodLink RX5 51 yX5_blame ∈ BG := BG_at2 118 (by decide +kernel) rfl
theorem wd_202 : Cond.code yX5_blame cX5_blame 3 none ∈ BG := BG_at2 121 rfl rfl
theorem wd_203 : Cond.instanceMethod yX5_blame ∈ BG := BG_at2 120 (by decide +kernel) rfl
theorem wd_204 : Cond.selects RX5 yX5_blame yX5_blame ∈ BG := BG_in (by decide +kernel) rfl
theorem okV_X5_blame : okV yX5_blame cX5_blame 3 none 2 := ⟨⟨wd_202, wd_80, by decide +kernel⟩, wd_203, wd_204⟩
theorem dX5_expect_25 : decode cX5_expect 25 = .ok (.return_, 1) := fq_177 fk_cX5_expect_1 9 rfl rfl
theorem dX5_expect_7 : decode cX5_expect 7 = .ok (.return_, 1) := fq_177 fk_cX5_expect_0 7 rfl rfl
def fw_cX5_number : List (List Nat) := [[42, 180, 0, 9, 153, 0, 5, 27, 172, 42, 42, 182, 0, 40, 182, 0, 110, 154], [110, 154, 0, 14, 42, 4, 42, 180, 0, 25, 182, 0, 51, 27, 172, 42, 180, 0], [180, 0, 25, 62, 3, 54, 4, 3, 54, 5, 21, 5, 17, 0, 240, 162, 0, 56], [0, 56, 42, 42, 182, 0, 107, 182, 0, 110, 153, 0, 45, 21, 5, 6, 162, 0], [162, 0, 19, 21, 4, 16, 10, 104, 42, 182, 0, 107, 96, 16, 48, 100, 167, 0], [167, 0, 5, 21, 4, 54, 4, 42, 89, 180, 0, 25, 4, 96, 181, 0, 25, 132], [25, 132, 5, 1, 167, 255, 198, 42, 180, 0, 25, 29, 100, 6, 163, 0, 15, 21], [15, 21, 4, 27, 161, 0, 9, 21, 4, 28, 164, 0, 11, 42, 5, 29, 182, 0], [182, 0, 51, 27, 172, 21, 4, 172]]
theorem fW_cX5_number : fq_wins 9 cX5_number.data.toList = fw_cX5_number := by decide +kernel
theorem fk_cX5_number_0 : fq_ck cX5_number 0 [42, 180, 0, 9, 153, 0, 5, 27, 172, 42, 42, 182, 0, 40, 182, 0, 110, 154] := fq_of fW_cX5_number 0 rfl rfl
theorem dX5_number_0 : decode cX5_number 0 = .ok (.aload_n 0, 1) := fq_42 fk_cX5_number_0 0 rfl rfl
theorem dX5_number_1 : decode cX5_number 1 = .ok (.getfield 9, 3) := fq_180 fk_cX5_number_0 1 rfl rfl rfl rfl rfl
theorem dX5_number_4 : decode cX5_number 4 = .ok (.ifCond .eq 5, 3) := fq_153 fk_cX5_number_0 4 rfl rfl rfl rfl rfl
theorem dX5_number_9 : decode cX5_number 9 = .ok (.aload_n 0, 1) := fq_42 fk_cX5_number_0 9 rfl rfl
theorem dX5_number_10 : decode cX5_number 10 = .ok (.aload_n 0, 1) := fq_42 fk_cX5_number_0 10 rfl rfl
theorem dX5_number_11 : decode cX5_number 11 = .ok (.invokevirtual 40, 3) := fq_182 fk_cX5_number_0 11 rfl rfl rfl rfl rfl
theorem dX5_number_14 : decode cX5_number 14 = .ok (.invokevirtual 110, 3) := fq_182 fk_cX5_number_0 14 rfl rfl rfl rfl rfl
theorem wd_205 : Cond.methodLink RX5 110 yX5_isFigure ∈ BG := BG_at2 134 (by decide +kernel) rfl
theorem wd_206 : Cond.code yX5_isFigure cX5_isFigure 2 (some .boolean) ∈ BG := BG_at2 137 rfl rfl
theorem wd_207 : Cond.instanceMethod yX5_isFigure ∈ BG := BG_at2 136 (by decide +kernel) rfl
theorem wd_208 : Cond.selects RX5 yX5_isFigure yX5_isFigure ∈ BG := BG_in (by decide +kernel) rfl
theorem okV_X5_isFigure : okV yX5_isFigure cX5_isFigure 2 (some .boolean) 1 := ⟨⟨wd_206, wd_80, by decide +kernel⟩, wd_207, wd_208⟩
theorem fk_cX5_number_1 : fq_ck cX5_number 16 [110, 154, 0, 14, 42, 4, 42, 180, 0, 25, 182, 0, 51, 27, 172, 42, 180, 0] := fq_of fW_cX5_number 1 rfl rfl
theorem dX5_number_17 : decode cX5_number 17 = .ok (.ifCond .ne 14, 3) := fq_154 fk_cX5_number_1 1 rfl rfl rfl rfl rfl
theorem dX5_number_31 : decode cX5_number 31 = .ok (.aload_n 0, 1) := fq_42 fk_cX5_number_1 15 rfl rfl
theorem fk_cX5_number_2 : fq_ck cX5_number 32 [180, 0, 25, 62, 3, 54, 4, 3, 54, 5, 21, 5, 17, 0, 240, 162, 0, 56] := fq_of fW_cX5_number 2 rfl rfl
theorem dX5_number_32 : decode cX5_number 32 = .ok (.getfield 25, 3) := fq_180 fk_cX5_number_2 0 rfl rfl rfl rfl rfl
theorem dX5_number_35 : decode cX5_number 35 = .ok (.istore_n 3, 1) := fq_62 fk_cX5_number_2 3 rfl rfl
theorem dX5_number_36 : decode cX5_number 36 = .ok (.iconst 0, 1) := fq_3 fk_cX5_number_2 4 rfl rfl
theorem dX5_number_37 : decode cX5_number 37 = .ok (.istore 4, 2) := fq_54 fk_cX5_number_2 5 rfl rfl rfl
theorem dX5_number_39 : decode cX5_number 39 = .ok (.iconst 0, 1) := fq_3 fk_cX5_number_2 7 rfl rfl
theorem dX5_number_40 : decode cX5_number 40 = .ok (.istore 5, 2) := fq_54 fk_cX5_number_2 8 rfl rfl rfl
theorem fk_cX5_number_6 : fq_ck cX5_number 96 [25, 132, 5, 1, 167, 255, 198, 42, 180, 0, 25, 29, 100, 6, 163, 0, 15, 21] := fq_of fW_cX5_number 6 rfl rfl
theorem dX5_number_103 : decode cX5_number 103 = .ok (.aload_n 0, 1) := fq_42 fk_cX5_number_6 7 rfl rfl
theorem dX5_number_104 : decode cX5_number 104 = .ok (.getfield 25, 3) := fq_180 fk_cX5_number_6 8 rfl rfl rfl rfl rfl
theorem dX5_number_107 : decode cX5_number 107 = .ok (.iload_n 3, 1) := fq_29 fk_cX5_number_6 11 rfl rfl
theorem dX5_number_108 : decode cX5_number 108 = .ok (.isub, 1) := fq_100 fk_cX5_number_6 12 rfl rfl
theorem dX5_number_109 : decode cX5_number 109 = .ok (.iconst 3, 1) := fq_6 fk_cX5_number_6 13 rfl rfl
theorem dX5_number_110 : decode cX5_number 110 = .ok (.if_icmp .gt 15, 3) := fq_163 fk_cX5_number_6 14 rfl rfl rfl rfl rfl
theorem fk_cX5_number_7 : fq_ck cX5_number 112 [15, 21, 4, 27, 161, 0, 9, 21, 4, 28, 164, 0, 11, 42, 5, 29, 182, 0] := fq_of fW_cX5_number 7 rfl rfl
theorem dX5_number_125 : decode cX5_number 125 = .ok (.aload_n 0, 1) := fq_42 fk_cX5_number_7 13 rfl rfl
theorem dX5_number_126 : decode cX5_number 126 = .ok (.iconst 2, 1) := fq_5 fk_cX5_number_7 14 rfl rfl
theorem dX5_number_127 : decode cX5_number 127 = .ok (.iload_n 3, 1) := fq_29 fk_cX5_number_7 15 rfl rfl
theorem fk_cX5_number_8 : fq_ck cX5_number 128 [182, 0, 51, 27, 172, 21, 4, 172] := fq_of fW_cX5_number 8 rfl rfl
theorem dX5_number_128 : decode cX5_number 128 = .ok (.invokevirtual 51, 3) := fq_182 fk_cX5_number_8 0 rfl rfl rfl rfl rfl
theorem dX5_number_131 : decode cX5_number 131 = .ok (.iload_n 1, 1) := fq_27 fk_cX5_number_8 3 rfl rfl
theorem dX5_number_132 : decode cX5_number 132 = .ok (.ireturn, 1) := fq_172 fk_cX5_number_8 4 rfl rfl
theorem dX5_number_113 : decode cX5_number 113 = .ok (.iload 4, 2) := fq_21 fk_cX5_number_7 1 rfl rfl rfl
theorem dX5_number_115 : decode cX5_number 115 = .ok (.iload_n 1, 1) := fq_27 fk_cX5_number_7 3 rfl rfl
theorem dX5_number_116 : decode cX5_number 116 = .ok (.if_icmp .lt 9, 3) := fq_161 fk_cX5_number_7 4 rfl rfl rfl rfl rfl
theorem dX5_number_119 : decode cX5_number 119 = .ok (.iload 4, 2) := fq_21 fk_cX5_number_7 7 rfl rfl rfl
theorem dX5_number_121 : decode cX5_number 121 = .ok (.iload_n 2, 1) := fq_28 fk_cX5_number_7 9 rfl rfl
theorem dX5_number_122 : decode cX5_number 122 = .ok (.if_icmp .le 11, 3) := fq_164 fk_cX5_number_7 10 rfl rfl rfl rfl rfl
theorem dX5_number_133 : decode cX5_number 133 = .ok (.iload 4, 2) := fq_21 fk_cX5_number_8 5 rfl rfl rfl
theorem dX5_number_135 : decode cX5_number 135 = .ok (.ireturn, 1) := fq_172 fk_cX5_number_8 7 rfl rfl
theorem dX5_number_42 : decode cX5_number 42 = .ok (.iload 5, 2) := fq_21 fk_cX5_number_2 10 rfl rfl rfl
theorem dX5_number_44 : decode cX5_number 44 = .ok (.sipush 240, 3) := fq_17 fk_cX5_number_2 12 rfl rfl rfl rfl rfl
theorem dX5_number_47 : decode cX5_number 47 = .ok (.if_icmp .ge 56, 3) := fq_162 fk_cX5_number_2 15 rfl rfl rfl rfl rfl
theorem fk_cX5_number_3 : fq_ck cX5_number 48 [0, 56, 42, 42, 182, 0, 107, 182, 0, 110, 153, 0, 45, 21, 5, 6, 162, 0] := fq_of fW_cX5_number 3 rfl rfl
theorem dX5_number_50 : decode cX5_number 50 = .ok (.aload_n 0, 1) := fq_42 fk_cX5_number_3 2 rfl rfl
theorem dX5_number_51 : decode cX5_number 51 = .ok (.aload_n 0, 1) := fq_42 fk_cX5_number_3 3 rfl rfl
theorem dX5_number_52 : decode cX5_number 52 = .ok (.invokevirtual 107, 3) := fq_182 fk_cX5_number_3 4 rfl rfl rfl rfl rfl
theorem dX5_number_55 : decode cX5_number 55 = .ok (.invokevirtual 110, 3) := fq_182 fk_cX5_number_3 7 rfl rfl rfl rfl rfl
theorem dX5_number_58 : decode cX5_number 58 = .ok (.ifCond .eq 45, 3) := fq_153 fk_cX5_number_3 10 rfl rfl rfl rfl rfl
theorem dX5_number_61 : decode cX5_number 61 = .ok (.iload 5, 2) := fq_21 fk_cX5_number_3 13 rfl rfl rfl
theorem dX5_number_63 : decode cX5_number 63 = .ok (.iconst 3, 1) := fq_6 fk_cX5_number_3 15 rfl rfl
theorem fk_cX5_number_4 : fq_ck cX5_number 64 [162, 0, 19, 21, 4, 16, 10, 104, 42, 182, 0, 107, 96, 16, 48, 100, 167, 0] := fq_of fW_cX5_number 4 rfl rfl
theorem dX5_number_64 : decode cX5_number 64 = .ok (.if_icmp .ge 19, 3) := fq_162 fk_cX5_number_4 0 rfl rfl rfl rfl rfl
theorem fk_cX5_number_5 : fq_ck cX5_number 80 [167, 0, 5, 21, 4, 54, 4, 42, 89, 180, 0, 25, 4, 96, 181, 0, 25, 132] := fq_of fW_cX5_number 5 rfl rfl
theorem dX5_number_83 : decode cX5_number 83 = .ok (.iload 4, 2) := fq_21 fk_cX5_number_5 3 rfl rfl rfl
theorem dX5_number_85 : decode cX5_number 85 = .ok (.istore 4, 2) := fq_54 fk_cX5_number_5 5 rfl rfl rfl
theorem dX5_number_87 : decode cX5_number 87 = .ok (.aload_n 0, 1) := fq_42 fk_cX5_number_5 7 rfl rfl
theorem dX5_number_88 : decode cX5_number 88 = .ok (.dup, 1) := fq_89 fk_cX5_number_5 8 rfl rfl
theorem dX5_number_89 : decode cX5_number 89 = .ok (.getfield 25, 3) := fq_180 fk_cX5_number_5 9 rfl rfl rfl rfl rfl
theorem dX5_number_92 : decode cX5_number 92 = .ok (.iconst 1, 1) := fq_4 fk_cX5_number_5 12 rfl rfl
theorem dX5_number_93 : decode cX5_number 93 = .ok (.iadd, 1) := fq_96 fk_cX5_number_5 13 rfl rfl
theorem dX5_number_94 : decode cX5_number 94 = .ok (.putfield 25, 3) := fq_181 fk_cX5_number_5 14 rfl rfl rfl rfl rfl
theorem dX5_number_97 : decode cX5_number 97 = .ok (.iinc 5 1, 3) := fq_132 fk_cX5_number_6 1 rfl rfl rfl rfl rfl
theorem dX5_number_100 : decode cX5_number 100 = .ok (.goto (-58), 3) := fq_167 fk_cX5_number_6 4 rfl rfl rfl rfl rfl
theorem dX5_number_67 : decode cX5_number 67 = .ok (.iload 4, 2) := fq_21 fk_cX5_number_4 3 rfl rfl rfl
theorem dX5_number_69 : decode cX5_number 69 = .ok (.bipush 10, 2) := fq_16 fk_cX5_number_4 5 rfl rfl rfl rfl
theorem dX5_number_71 : decode cX5_number 71 = .ok (.imul, 1) := fq_104 fk_cX5_number_4 7 rfl rfl
theorem dX5_number_72 : decode cX5_number 72 = .ok (.aload_n 0, 1) := fq_42 fk_cX5_number_4 8 rfl rfl
theorem dX5_number_73 : decode cX5_number 73 = .ok (.invokevirtual 107, 3) := fq_182 fk_cX5_number_4 9 rfl rfl rfl rfl rfl
theorem dX5_number_76 : decode cX5_number 76 = .ok (.iadd, 1) := fq_96 fk_cX5_number_4 12 rfl rfl
theorem dX5_number_77 : decode cX5_number 77 = .ok (.bipush 48, 2) := fq_16 fk_cX5_number_4 13 rfl rfl rfl rfl
theorem dX5_number_79 : decode cX5_number 79 = .ok (.isub, 1) := fq_100 fk_cX5_number_4 15 rfl rfl
theorem dX5_number_80 : decode cX5_number 80 = .ok (.goto 5, 3) := fq_167 fk_cX5_number_5 0 rfl rfl rfl rfl rfl
theorem dX5_number_20 : decode cX5_number 20 = .ok (.aload_n 0, 1) := fq_42 fk_cX5_number_1 4 rfl rfl
theorem dX5_number_21 : decode cX5_number 21 = .ok (.iconst 1, 1) := fq_4 fk_cX5_number_1 5 rfl rfl
theorem dX5_number_22 : decode cX5_number 22 = .ok (.aload_n 0, 1) := fq_42 fk_cX5_number_1 6 rfl rfl
theorem dX5_number_23 : decode cX5_number 23 = .ok (.getfield 25, 3) := fq_180 fk_cX5_number_1 7 rfl rfl rfl rfl rfl
theorem dX5_number_26 : decode cX5_number 26 = .ok (.invokevirtual 51, 3) := fq_182 fk_cX5_number_1 10 rfl rfl rfl rfl rfl
theorem dX5_number_29 : decode cX5_number 29 = .ok (.iload_n 1, 1) := fq_27 fk_cX5_number_1 13 rfl rfl
theorem dX5_number_30 : decode cX5_number 30 = .ok (.ireturn, 1) := fq_172 fk_cX5_number_1 14 rfl rfl
theorem dX5_number_7 : decode cX5_number 7 = .ok (.iload_n 1, 1) := fq_27 fk_cX5_number_0 7 rfl rfl
theorem dX5_number_8 : decode cX5_number 8 = .ok (.ireturn, 1) := fq_172 fk_cX5_number_0 8 rfl rfl
def fw_cX5_isTooOften : List (List Nat) := [[27, 171, 0, 0, 0, 0, 0, 106, 0, 0, 0, 4, 0, 0, 0, 98, 0, 0], [0, 0, 0, 43, 0, 0, 0, 99, 0, 0, 0, 76, 0, 0, 0, 116, 0, 0], [0, 0, 0, 56, 0, 0, 0, 118, 0, 0, 0, 91, 44, 180, 0, 48, 158, 0], [158, 0, 7, 4, 167, 0, 4, 3, 172, 42, 180, 0, 28, 154, 0, 10, 44, 180], [44, 180, 0, 82, 158, 0, 7, 4, 167, 0, 4, 3, 172, 44, 180, 0, 82, 16], [82, 16, 6, 161, 0, 7, 4, 167, 0, 4, 3, 172, 44, 180, 0, 85, 16, 7], [16, 7, 161, 0, 7, 4, 167, 0, 4, 3, 172, 42, 180, 0, 32, 172]]
theorem fW_cX5_isTooOften : fq_wins 7 cX5_isTooOften.data.toList = fw_cX5_isTooOften := by decide +kernel
theorem fk_cX5_isTooOften_0 : fq_ck cX5_isTooOften 0 [27, 171, 0, 0, 0, 0, 0, 106, 0, 0, 0, 4, 0, 0, 0, 98, 0, 0] := fq_of fW_cX5_isTooOften 0 rfl rfl
theorem dX5_isTooOften_0 : decode cX5_isTooOften 0 = .ok (.iload_n 1, 1) := fq_27 fk_cX5_isTooOften_0 0 rfl rfl
theorem dX5_isTooOften_1 : decode cX5_isTooOften 1 = .ok (.lookupswitch 106 #[(98, 43), (99, 76), (116, 56), (118, 91)], 43) := by decide +kernel
theorem fk_cX5_isTooOften_2 : fq_ck cX5_isTooOften 32 [0, 0, 0, 56, 0, 0, 0, 118, 0, 0, 0, 91, 44, 180, 0, 48, 158, 0] := fq_of fW_cX5_isTooOften 2 rfl rfl
theorem dX5_isTooOften_44 : decode cX5_isTooOften 44 = .ok (.aload_n 2, 1) := fq_44 fk_cX5_isTooOften_2 12 rfl rfl
theorem wd_209 : Cond.fieldLink RX5 48 "QuarrelBridges$Town" "bridges" "I" ∈ BG := BG_at1 62 (by decide +kernel) rfl
theorem dX5_isTooOften_45 : decode cX5_isTooOften 45 = .ok (.getfield 48, 3) := fq_180 fk_cX5_isTooOften_2 13 rfl rfl rfl rfl rfl
theorem fk_cX5_isTooOften_3 : fq_ck cX5_isTooOften 48 [158, 0, 7, 4, 167, 0, 4, 3, 172, 42, 180, 0, 28, 154, 0, 10, 44, 180] := fq_of fW_cX5_isTooOften 3 rfl rfl
theorem dX5_isTooOften_48 : decode cX5_isTooOften 48 = .ok (.ifCond .le 7, 3) := fq_158 fk_cX5_isTooOften_3 0 rfl rfl rfl rfl rfl
theorem dX5_isTooOften_55 : decode cX5_isTooOften 55 = .ok (.iconst 0, 1) := fq_3 fk_cX5_isTooOften_3 7 rfl rfl
theorem dX5_isTooOften_56 : decode cX5_isTooOften 56 = .ok (.ireturn, 1) := fq_172 fk_cX5_isTooOften_3 8 rfl rfl
theorem dX5_isTooOften_51 : decode cX5_isTooOften 51 = .ok (.iconst 1, 1) := fq_4 fk_cX5_isTooOften_3 3 rfl rfl
theorem dX5_isTooOften_52 : decode cX5_isTooOften 52 = .ok (.goto 4, 3) := fq_167 fk_cX5_isTooOften_3 4 rfl rfl rfl rfl rfl
theorem fk_cX5_isTooOften_4 : fq_ck cX5_isTooOften 64 [44, 180, 0, 82, 158, 0, 7, 4, 167, 0, 4, 3, 172, 44, 180, 0, 82, 16] := fq_of fW_cX5_isTooOften 4 rfl rfl
theorem dX5_isTooOften_77 : decode cX5_isTooOften 77 = .ok (.aload_n 2, 1) := fq_44 fk_cX5_isTooOften_4 13 rfl rfl
theorem wd_210 : Cond.fieldLink RX5 82 "QuarrelBridges$Town" "couples" "I" ∈ BG := BG_at1 70 (by decide +kernel) rfl
theorem dX5_isTooOften_78 : decode cX5_isTooOften 78 = .ok (.getfield 82, 3) := fq_180 fk_cX5_isTooOften_4 14 rfl rfl rfl rfl rfl
theorem fk_cX5_isTooOften_5 : fq_ck cX5_isTooOften 80 [82, 16, 6, 161, 0, 7, 4, 167, 0, 4, 3, 172, 44, 180, 0, 85, 16, 7] := fq_of fW_cX5_isTooOften 5 rfl rfl
theorem dX5_isTooOften_81 : decode cX5_isTooOften 81 = .ok (.bipush 6, 2) := fq_16 fk_cX5_isTooOften_5 1 rfl rfl rfl rfl
theorem dX5_isTooOften_83 : decode cX5_isTooOften 83 = .ok (.if_icmp .lt 7, 3) := fq_161 fk_cX5_isTooOften_5 3 rfl rfl rfl rfl rfl
theorem dX5_isTooOften_90 : decode cX5_isTooOften 90 = .ok (.iconst 0, 1) := fq_3 fk_cX5_isTooOften_5 10 rfl rfl
theorem dX5_isTooOften_91 : decode cX5_isTooOften 91 = .ok (.ireturn, 1) := fq_172 fk_cX5_isTooOften_5 11 rfl rfl
theorem dX5_isTooOften_86 : decode cX5_isTooOften 86 = .ok (.iconst 1, 1) := fq_4 fk_cX5_isTooOften_5 6 rfl rfl
theorem dX5_isTooOften_87 : decode cX5_isTooOften 87 = .ok (.goto 4, 3) := fq_167 fk_cX5_isTooOften_5 7 rfl rfl rfl rfl rfl
theorem dX5_isTooOften_57 : decode cX5_isTooOften 57 = .ok (.aload_n 0, 1) := fq_42 fk_cX5_isTooOften_3 9 rfl rfl
theorem dX5_isTooOften_58 : decode cX5_isTooOften 58 = .ok (.getfield 28, 3) := fq_180 fk_cX5_isTooOften_3 10 rfl rfl rfl rfl rfl
theorem dX5_isTooOften_61 : decode cX5_isTooOften 61 = .ok (.ifCond .ne 10, 3) := fq_154 fk_cX5_isTooOften_3 13 rfl rfl rfl rfl rfl
theorem dX5_isTooOften_71 : decode cX5_isTooOften 71 = .ok (.iconst 1, 1) := fq_4 fk_cX5_isTooOften_4 7 rfl rfl
theorem dX5_isTooOften_72 : decode cX5_isTooOften 72 = .ok (.goto 4, 3) := fq_167 fk_cX5_isTooOften_4 8 rfl rfl rfl rfl rfl
theorem dX5_isTooOften_76 : decode cX5_isTooOften 76 = .ok (.ireturn, 1) := fq_172 fk_cX5_isTooOften_4 12 rfl rfl
theorem dX5_isTooOften_64 : decode cX5_isTooOften 64 = .ok (.aload_n 2, 1) := fq_44 fk_cX5_isTooOften_4 0 rfl rfl
theorem dX5_isTooOften_65 : decode cX5_isTooOften 65 = .ok (.getfield 82, 3) := fq_180 fk_cX5_isTooOften_4 1 rfl rfl rfl rfl rfl
theorem dX5_isTooOften_68 : decode cX5_isTooOften 68 = .ok (.ifCond .le 7, 3) := fq_158 fk_cX5_isTooOften_4 4 rfl rfl rfl rfl rfl
theorem dX5_isTooOften_75 : decode cX5_isTooOften 75 = .ok (.iconst 0, 1) := fq_3 fk_cX5_isTooOften_4 11 rfl rfl
theorem dX5_isTooOften_92 : decode cX5_isTooOften 92 = .ok (.aload_n 2, 1) := fq_44 fk_cX5_isTooOften_5 12 rfl rfl
theorem wd_211 : Cond.fieldLink RX5 85 "QuarrelBridges$Town" "barges" "I" ∈ BG := BG_at1 74 (by decide +kernel) rfl
theorem dX5_isTooOften_93 : decode cX5_isTooOften 93 = .ok (.getfield 85, 3) := fq_180 fk_cX5_isTooOften_5 13 rfl rfl rfl rfl rfl
theorem fk_cX5_isTooOften_6 : fq_ck cX5_isTooOften 96 [16, 7, 161, 0, 7, 4, 167, 0, 4, 3, 172, 42, 180, 0, 32, 172] := fq_of fW_cX5_isTooOften 6 rfl rfl
theorem dX5_isTooOften_96 : decode cX5_isTooOften 96 = .ok (.bipush 7, 2) := fq_16 fk_cX5_isTooOften_6 0 rfl rfl rfl rfl
theorem dX5_isTooOften_98 : decode cX5_isTooOften 98 = .ok (.if_icmp .lt 7, 3) := fq_161 fk_cX5_isTooOften_6 2 rfl rfl rfl rfl rfl
theorem dX5_isTooOften_105 : decode cX5_isTooOften 105 = .ok (.iconst 0, 1) := fq_3 fk_cX5_isTooOften_6 9 rfl rfl
theorem dX5_isTooOften_106 : decode cX5_isTooOften 106 = .ok (.ireturn, 1) := fq_172 fk_cX5_isTooOften_6 10 rfl rfl
theorem dX5_isTooOften_101 : decode cX5_isTooOften 101 = .ok (.iconst 1, 1) := fq_4 fk_cX5_isTooOften_6 5 rfl rfl
theorem dX5_isTooOften_102 : decode cX5_isTooOften 102 = .ok (.goto 4, 3) := fq_167 fk_cX5_isTooOften_6 6 rfl rfl rfl rfl rfl
theorem dX5_isTooOften_107 : decode cX5_isTooOften 107 = .ok (.aload_n 0, 1) := fq_42 fk_cX5_isTooOften_6 11 rfl rfl
theorem dX5_isTooOften_108 : decode cX5_isTooOften 108 = .ok (.getfield 32, 3) := fq_180 fk_cX5_isTooOften_6 12 rfl rfl rfl rfl rfl
theorem dX5_isTooOften_111 : decode cX5_isTooOften 111 = .ok (.ireturn, 1) := fq_172 fk_cX5_isTooOften_6 15 rfl rfl
theorem letter_in {i : Int32} (h1 : ¬ i < 0) (h2 : ¬ (240 : Int32) ≤ i) : vp_in i 240 := vin (by decide) h1 h2
noncomputable def f_e_letter_x5 (r0 : Int32) (r1 : Int32) (r3 : Int32) (r4 : Int32) (r5 : Int32) (r6 : Int32) (ftx : Nat → Int32) : Int32 := (if r4 < 0 then (-1) else (if r3 ≤ r4 then (-1) else (if 240 ≤ r4 then (-1) else (ftx (r4 : Int32).toNatClampNeg))))
def rm_e_letter_x5 : Room := { frames := 0, cells := 0, slots := 0, locals := 0 }
set_option maxHeartbeats 4000000 in
set_option maxRecDepth 100000 in
theorem e_letter_x5 {l : Launch} {D : va_G} {cI cZ : ClassId} {sz : Nat} (rd x : Nat) (r0 : Int32) (r1 : Int32) (r3 : Int32) (r4 : Int32) (r5 : Int32) (r6 : Int32) (ftx : Nat → Int32) : KI l yX5_letter cX5_letter 1 (some .int) rm_e_letter_x5 D cI cZ [.ref rd] sz [(rd, .inr (5, [.int r0, .int r1, .ref x, .int r3, .int r4, .int r5, .int r6])), (x, .inl (cI, 240, .inl ftx))] (fun (r : Int32) (_ : Unit) => r = f_e_letter_x5 r0 r1 r3 r4 r5 r6 ftx) (fun (_ : Unit) => [(rd, .inr (5, [.int r0, .int r1, .ref x, .int r3, .int r4, .int r5, .int r6])), (x, .inl (cI, 240, .inl ftx))]) := by
  refine KI.go rfl (Nat.le_of_ble_eq_true rfl) ?_
  intro p e s m args below meth c ls A Q hx hb hml hts hown hin hP hK hD hS hA hN hl hret
  have hl : lv_has ls 1 [(0, .ref rd)] := hl
  obtain ⟨RES, hE⟩ : ∃ xRES, f_e_letter_x5 r0 r1 r3 r4 r5 r6 ftx = xRES := ⟨_, rfl⟩
  rw [hE] at hret
  rw [f_e_letter_x5] at hE
  refine lv_aload_n hx hb dX5_letter_0 rfl (lv_at hl 0 rfl) ?_
  refine va_get (D := D) (ci := 5) (v := .int r4) (C := RX5) (T := TX5) (N := 7) hx hb hts iX5 hown hK hP 0 rfl rfl 4 (Nat.le_of_ble_eq_true rfl) (hts _ wd_46) (fun _ h9 => h9) rfl dX5_letter_1 ?_
  refine lv_if_lt (tgt := 42) hx hb dX5_letter_4 rfl (fun c_1 => ?_) (fun c_1 => ?_)
  · rw [if_pos c_1] at hE
    refine lv_iconst (v := (-1)) hx hb dX5_letter_42 rfl ?_
    exact hret (-1) () _ _ _ _ dX5_letter_43 rfl hE hP hD hS
  · rw [if_neg c_1] at hE
    refine lv_aload_n hx hb dX5_letter_7 rfl (lv_at hl 0 rfl) ?_
    refine va_get (D := D) (ci := 5) (v := .int r4) (C := RX5) (T := TX5) (N := 7) hx hb hts iX5 hown hK hP 0 rfl rfl 4 (Nat.le_of_ble_eq_true rfl) (hts _ wd_46) (fun _ h9 => h9) rfl dX5_letter_8 ?_
    refine lv_aload_n hx hb dX5_letter_11 rfl (lv_at hl 0 rfl) ?_
    refine va_get (D := D) (ci := 5) (v := .int r3) (C := RX5) (T := TX5) (N := 7) hx hb hts iX5 hown hK hP 0 rfl rfl 3 (Nat.le_of_ble_eq_true rfl) (hts _ wd_45) (fun _ h9 => h9) rfl dX5_letter_12 ?_
    refine lv_icmp_ge (tgt := 42) hx hb dX5_letter_15 rfl (fun c_2 => ?_) (fun c_2 => ?_)
    · rw [if_pos c_2] at hE
      refine lv_iconst (v := (-1)) hx hb dX5_letter_42 rfl ?_
      exact hret (-1) () _ _ _ _ dX5_letter_43 rfl hE hP hD hS
    · rw [if_neg c_2] at hE
      refine lv_aload_n hx hb dX5_letter_18 rfl (lv_at hl 0 rfl) ?_
      refine va_get (D := D) (ci := 5) (v := .int r4) (C := RX5) (T := TX5) (N := 7) hx hb hts iX5 hown hK hP 0 rfl rfl 4 (Nat.le_of_ble_eq_true rfl) (hts _ wd_46) (fun _ h9 => h9) rfl dX5_letter_19 ?_
      refine lv_aload_n hx hb dX5_letter_22 rfl (lv_at hl 0 rfl) ?_
      refine va_get (D := D) (ci := 5) (v := .ref x) (C := RX5) (T := TX5) (N := 7) hx hb hts iX5 hown hK hP 0 rfl rfl 2 (Nat.le_of_ble_eq_true rfl) (hts _ wd_44) (fun _ h9 => h9) rfl dX5_letter_23 ?_
      refine va_alen (v := 240) hx hb hK hP 1 0 rfl rfl rfl dX5_letter_26 ?_
      refine lv_icmp_ge (tgt := 42) hx hb dX5_letter_27 rfl (fun c_3 => ?_) (fun c_3 => ?_)
      · rw [if_pos c_3] at hE
        refine lv_iconst (v := (-1)) hx hb dX5_letter_42 rfl ?_
        exact hret (-1) () _ _ _ _ dX5_letter_43 rfl hE hP hD hS
      · rw [if_neg c_3] at hE
        refine lv_aload_n hx hb dX5_letter_30 rfl (lv_at hl 0 rfl) ?_
        refine va_get (D := D) (ci := 5) (v := .ref x) (C := RX5) (T := TX5) (N := 7) hx hb hts iX5 hown hK hP 0 rfl rfl 2 (Nat.le_of_ble_eq_true rfl) (hts _ wd_44) (fun _ h9 => h9) rfl dX5_letter_31 ?_
        refine lv_aload_n hx hb dX5_letter_34 rfl (lv_at hl 0 rfl) ?_
        refine va_get (D := D) (ci := 5) (v := .int r4) (C := RX5) (T := TX5) (N := 7) hx hb hts iX5 hown hK hP 0 rfl rfl 4 (Nat.le_of_ble_eq_true rfl) (hts _ wd_46) (fun _ h9 => h9) rfl dX5_letter_35 ?_
        refine va_iald hx hb hK hP 1 0 rfl rfl (letter_in c_1 c_3) dX5_letter_38 ?_
        refine lv_goto (tgt := 43) hx hb dX5_letter_39 rfl ?_
        exact hret (ftx (r4 : Int32).toNatClampNeg) () _ _ _ _ dX5_letter_43 rfl hE hP hD hS
noncomputable def f_e_next_x5_2 (r0 : Int32) (r1 : Int32) (r3 : Int32) (r4 : Int32) (r5 : Int32) (r6 : Int32) (ftx : Nat → Int32) (n : Nat) : Int32 → Int32 → Int32 × Int32 := Nat.rec (motive := fun _ => Int32 → Int32 → Int32 × Int32) (fun w_1l1 w_1m0 => (w_1l1, w_1m0)) (fun n ih w_1l1 w_1m0 => (if 240 ≤ w_1l1 then (w_1l1, w_1m0) else (if (f_e_letter_x5 r0 r1 r3 w_1m0 r5 r6 ftx) = 32 then (ih (w_1l1 + 1) (w_1m0 + 1)) else (w_1l1, w_1m0)))) n
theorem f_e_next_x5_2_s (r0 : Int32) (r1 : Int32) (r3 : Int32) (r4 : Int32) (r5 : Int32) (r6 : Int32) (ftx : Nat → Int32) (n : Nat) (w_1l1 : Int32) (w_1m0 : Int32) : f_e_next_x5_2 r0 r1 r3 r4 r5 r6 ftx (n + 1) w_1l1 w_1m0 = (if 240 ≤ w_1l1 then (w_1l1, w_1m0) else (if (f_e_letter_x5 r0 r1 r3 w_1m0 r5 r6 ftx) = 32 then (f_e_next_x5_2 r0 r1 r3 r4 r5 r6 ftx n (w_1l1 + 1) (w_1m0 + 1)) else (w_1l1, w_1m0))) := rfl
noncomputable def f_e_next_x5 (r0 : Int32) (r1 : Int32) (r3 : Int32) (r4 : Int32) (r5 : Int32) (r6 : Int32) (ftx : Nat → Int32) : Int32 × Int32 := (match (f_e_next_x5_2 r0 r1 r3 r4 r5 r6 ftx (((240 : Int32).toInt - (0 : Int32).toInt).toNat + 1) 0 r4) with | (w_1l1, w_1m0) => ((f_e_letter_x5 r0 r1 r3 w_1m0 r5 r6 ftx), w_1m0))
def rm_e_next_x5 : Room := { frames := 1, cells := 0, slots := 0, locals := 20 }
set_option maxHeartbeats 4000000 in
set_option maxRecDepth 100000 in
theorem e_next_x5 {l : Launch} {D : va_G} {cI cZ : ClassId} {sz : Nat} (rd x : Nat) (r0 : Int32) (r1 : Int32) (r3 : Int32) (r4 : Int32) (r5 : Int32) (r6 : Int32) (ftx : Nat → Int32) : KI l yX5_next cX5_next 2 (some .int) rm_e_next_x5 D cI cZ [.ref rd] sz [(rd, .inr (5, [.int r0, .int r1, .ref x, .int r3, .int r4, .int r5, .int r6])), (x, .inl (cI, 240, .inl ftx))] (fun (r : Int32) (u : Int32) => (r, u) = f_e_next_x5 r0 r1 r3 r4 r5 r6 ftx) (fun (u : Int32) => [(rd, .inr (5, [.int r0, .int r1, .ref x, .int r3, .int u, .int r5, .int r6])), (x, .inl (cI, 240, .inl ftx))]) := by
  refine KI.go rfl (Nat.le_of_ble_eq_true rfl) ?_
  intro p e s m args below meth c ls A Q hx hb hml hts hown hin hP hK hD hS hA hN hl hret
  have hl : lv_has ls 2 [(0, .ref rd)] := hl
  obtain ⟨RES, hE⟩ : ∃ xRES, f_e_next_x5 r0 r1 r3 r4 r5 r6 ftx = xRES := ⟨_, rfl⟩
  rw [hE] at hret
  rw [f_e_next_x5] at hE
  refine lv_iconst (v := 0) hx hb dX5_next_0 rfl ?_
  refine lv_istore_n (lv' := [(1, .int 0), (0, .ref rd)]) hx hb dX5_next_1 rfl hl (Nat.le_of_ble_eq_true rfl) rfl (fun ls hl => ?_)
  have ex_2_w_1 : ∀ (w_1l1 : Int32) (w_1m0 : Int32) (H : Heap) (locs : List Loc) (ls : Array Slot), va_P D classes [(rd, .inr (5, [.int r0, .int r1, .ref x, .int r3, .int w_1m0, .int r5, .int r6])), (x, .inl (cI, 240, .inl ftx))] H → va_D A [(rd, .inr (5, [.int r0, .int r1, .ref x, .int r3, .int w_1m0, .int r5, .int r6])), (x, .inl (cI, 240, .inl ftx))] → va_S A s.heap H locs → lv_has ls 2 [(1, .int w_1l1), (0, .ref rd)] → (((f_e_letter_x5 r0 r1 r3 w_1m0 r5 r6 ftx), w_1m0)) = RES → W p l e rm_e_next_x5 s m args below meth c H locs 0 0 Q (F0 m 34 ls []) := by
    intro w_1l1 w_1m0 H locs ls hP hD hS hl hE
    refine lv_aload_n hx hb dX5_next_34 rfl (lv_at hl 1 rfl) ?_
    refine cVi (wr := []) (rest := []) (e_letter_x5 rd x r0 r1 r3 w_1m0 r5 r6 ftx) okV_X5_letter wd_193 hx hb hml hown hts hK hP hD hS hA hN hl.1 [0, 1] [] rfl rfl rfl rfl (of_decide_eq_true rfl) rfl rfl rfl (Nat.le_of_ble_eq_true rfl) (Nat.le_of_ble_eq_true rfl) (Nat.le_of_ble_eq_true rfl) (Nat.le_of_ble_eq_true rfl) (Nat.le_of_ble_eq_true rfl) dX5_next_35 (fun r_3 u_2 H locs hw_u_2 hP hD hS => ?_)
    replace hw_u_2 : r_3 = (f_e_letter_x5 r0 r1 r3 w_1m0 r5 r6 ftx) := hw_u_2
    rw [hw_u_2]
    clear hw_u_2
    have hP : va_P D classes [(rd, .inr (5, [.int r0, .int r1, .ref x, .int r3, .int w_1m0, .int r5, .int r6])), (x, .inl (cI, 240, .inl ftx))] H := hP
    have hD : va_D A [(rd, .inr (5, [.int r0, .int r1, .ref x, .int r3, .int w_1m0, .int r5, .int r6])), (x, .inl (cI, 240, .inl ftx))] := hD
    exact hret (f_e_letter_x5 r0 r1 r3 w_1m0 r5 r6 ftx) w_1m0 _ _ _ _ dX5_next_38 rfl hE hP hD hS
  have lp_2_w_1 : ∀ (n_w_1 : Nat) (w_1l1 : Int32) (w_1m0 : Int32) (H : Heap) (locs : List Loc) (ls : Array Slot), va_P D classes [(rd, .inr (5, [.int r0, .int r1, .ref x, .int r3, .int w_1m0, .int r5, .int r6])), (x, .inl (cI, 240, .inl ftx))] H → va_D A [(rd, .inr (5, [.int r0, .int r1, .ref x, .int r3, .int w_1m0, .int r5, .int r6])), (x, .inl (cI, 240, .inl ftx))] → va_S A s.heap H locs → lv_has ls 2 [(1, .int w_1l1), (0, .ref rd)] → ((240 : Int32).toInt - (w_1l1 : Int32).toInt).toNat < n_w_1 → (match (f_e_next_x5_2 r0 r1 r3 r4 r5 r6 ftx n_w_1 w_1l1 w_1m0) with | (w_1l1, w_1m0) => ((f_e_letter_x5 r0 r1 r3 w_1m0 r5 r6 ftx), w_1m0)) = RES → W p l e rm_e_next_x5 s m args below meth c H locs 0 0 Q (F0 m 2 ls []) := by
    intro n_w_1
    induction n_w_1 with
    | zero => intro w_1l1 w_1m0 H locs ls hP hD hS hl hm; exact absurd hm (Nat.not_lt_zero _)
    | succ n_w_1 ih_w_1 =>
      intro w_1l1 w_1m0 H locs ls hP hD hS hl hm hE
      rw [f_e_next_x5_2_s] at hE
      refine lv_iload_n hx hb dX5_next_2 rfl (lv_at hl 0 rfl) ?_
      refine lv_sipush (v := 240) hx hb dX5_next_3 rfl ?_
      refine lv_icmp_ge (tgt := 34) hx hb dX5_next_6 rfl (fun c_4 => ?_) (fun c_4 => ?_)
      · rw [if_pos c_4] at hE
        exact ex_2_w_1 w_1l1 w_1m0 _ _ ls hP hD hS (lv_sub hl [0, 1] rfl) hE
      · rw [if_neg c_4] at hE
        refine lv_aload_n hx hb dX5_next_9 rfl (lv_at hl 1 rfl) ?_
        refine cVi (wr := []) (rest := []) (e_letter_x5 rd x r0 r1 r3 w_1m0 r5 r6 ftx) okV_X5_letter wd_193 hx hb hml hown hts hK hP hD hS hA hN hl.1 [0, 1] [] rfl rfl rfl rfl (of_decide_eq_true rfl) rfl rfl rfl (Nat.le_of_ble_eq_true rfl) (Nat.le_of_ble_eq_true rfl) (Nat.le_of_ble_eq_true rfl) (Nat.le_of_ble_eq_true rfl) (Nat.le_of_ble_eq_true rfl) dX5_next_10 (fun r_6 u_5 H locs hw_u_5 hP hD hS => ?_)
        replace hw_u_5 : r_6 = (f_e_letter_x5 r0 r1 r3 w_1m0 r5 r6 ftx) := hw_u_5
        rw [hw_u_5]
        clear hw_u_5
        have hP : va_P D classes [(rd, .inr (5, [.int r0, .int r1, .ref x, .int r3, .int w_1m0, .int r5, .int r6])), (x, .inl (cI, 240, .inl ftx))] H := hP
        have hD : va_D A [(rd, .inr (5, [.int r0, .int r1, .ref x, .int r3, .int w_1m0, .int r5, .int r6])), (x, .inl (cI, 240, .inl ftx))] := hD
        refine lv_bipush (v := 32) hx hb dX5_next_13 rfl ?_
        refine lv_icmp_ne (tgt := 34) hx hb dX5_next_15 rfl (fun c_7 => ?_) (fun c_7 => ?_)
        · rw [if_neg c_7] at hE
          exact ex_2_w_1 w_1l1 w_1m0 _ _ ls hP hD hS (lv_sub hl [0, 1] rfl) hE
        · rw [if_pos c_7] at hE
          refine lv_aload_n hx hb dX5_next_18 rfl (lv_at hl 1 rfl) ?_
          refine lv_dup hx hb dX5_next_19 rfl ?_
          refine va_get (D := D) (ci := 5) (v := .int w_1m0) (C := RX5) (T := TX5) (N := 7) hx hb hts iX5 hown hK hP 0 rfl rfl 4 (Nat.le_of_ble_eq_true rfl) (hts _ wd_46) (fun _ h9 => h9) rfl dX5_next_20 ?_
          refine lv_iconst (v := 1) hx hb dX5_next_23 rfl ?_
          refine lv_iadd hx hb dX5_next_24 ?_
          refine va_put (D := D) (ci := 5) (v := .int (w_1m0 + 1)) (ty := .int) (C := RX5) (T := TX5) (N := 7) hx hb hts iX5 tyX5 tyX5_ok nmX5 hown hK hP hD hS 0 rfl rfl 4 (Nat.le_of_ble_eq_true rfl) (hts _ wd_46) (fun _ h9 => h9) rfl (by decide +kernel) rfl rfl (Nat.le_of_ble_eq_true rfl) dX5_next_25 (fun H locs hP hD hS => ?_)
          have hP : va_P D classes [(rd, .inr (5, [.int r0, .int r1, .ref x, .int r3, .int (w_1m0 + 1), .int r5, .int r6])), (x, .inl (cI, 240, .inl ftx))] H := hP
          have hD : va_D A [(rd, .inr (5, [.int r0, .int r1, .ref x, .int r3, .int (w_1m0 + 1), .int r5, .int r6])), (x, .inl (cI, 240, .inl ftx))] := hD
          refine lv_iinc (v := (w_1l1 + 1)) (lv' := [(1, .int (w_1l1 + 1)), (0, .ref rd)]) hx hb dX5_next_28 hl (k := 0) rfl rfl (Nat.le_of_ble_eq_true rfl) rfl (fun ls hl => ?_)
          refine lv_goto (tgt := 2) hx hb dX5_next_31 rfl ?_
          exact ih_w_1 (w_1l1 + 1) (w_1m0 + 1) _ _ ls hP hD hS (lv_sub hl [0, 1] rfl) (up_step c_4 hm) hE
  exact lp_2_w_1 (((240 : Int32).toInt - (0 : Int32).toInt).toNat + 1) 0 r4 _ _ ls hP hD hS hl (Nat.lt_succ_self _) hE
noncomputable def f_e_isFigure_x5 (r0 : Int32) (r1 : Int32) (r3 : Int32) (r4 : Int32) (r5 : Int32) (r6 : Int32) (c_ : Int32) : Int32 := (if c_ < 48 then 0 else (if 57 < c_ then 0 else 1))
def rm_e_isFigure_x5 : Room := { frames := 0, cells := 0, slots := 0, locals := 0 }
set_option maxHeartbeats 4000000 in
set_option maxRecDepth 100000 in
theorem e_isFigure_x5 {l : Launch} {D : va_G} {cI cZ : ClassId} {sz : Nat} (rd x : Nat) (r0 : Int32) (r1 : Int32) (r3 : Int32) (r4 : Int32) (r5 : Int32) (r6 : Int32) (c_ : Int32) : KI l yX5_isFigure cX5_isFigure 2 (some .boolean) rm_e_isFigure_x5 D cI cZ [.ref rd, .int c_] sz [(rd, .inr (5, [.int r0, .int r1, .ref x, .int r3, .int r4, .int r5, .int r6]))] (fun (r : Int32) (_ : Unit) => r = f_e_isFigure_x5 r0 r1 r3 r4 r5 r6 c_) (fun (_ : Unit) => [(rd, .inr (5, [.int r0, .int r1, .ref x, .int r3, .int r4, .int r5, .int r6]))]) := by
  refine KI.go rfl (Nat.le_of_ble_eq_true rfl) ?_
  intro p e s m args below meth c ls A Q hx hb hml hts hown hin hP hK hD hS hA hN hl hret
  have hl : lv_has ls 2 [(0, .ref rd), (1, .int c_)] := hl
  obtain ⟨RES, hE⟩ : ∃ xRES, f_e_isFigure_x5 r0 r1 r3 r4 r5 r6 c_ = xRES := ⟨_, rfl⟩
  rw [hE] at hret
  rw [f_e_isFigure_x5] at hE
  refine lv_iload_n hx hb dX5_isFigure_0 rfl (lv_at hl 1 rfl) ?_
  refine lv_bipush (v := 48) hx hb dX5_isFigure_1 rfl ?_
  refine lv_icmp_lt (tgt := 16) hx hb dX5_isFigure_3 rfl (fun c_1 => ?_) (fun c_1 => ?_)
  · rw [if_pos c_1] at hE
    refine lv_iconst (v := 0) hx hb dX5_isFigure_16 rfl ?_
    exact hret 0 () _ _ _ _ dX5_isFigure_17 rfl hE hP hD hS
  · rw [if_neg c_1] at hE
    refine lv_iload_n hx hb dX5_isFigure_6 rfl (lv_at hl 1 rfl) ?_
    refine lv_bipush (v := 57) hx hb dX5_isFigure_7 rfl ?_
    refine lv_icmp_gt (tgt := 16) hx hb dX5_isFigure_9 rfl (fun c_2 => ?_) (fun c_2 => ?_)
    · rw [if_pos c_2] at hE
      refine lv_iconst (v := 0) hx hb dX5_isFigure_16 rfl ?_
      exact hret 0 () _ _ _ _ dX5_isFigure_17 rfl hE hP hD hS
    · rw [if_neg c_2] at hE
      refine lv_iconst (v := 1) hx hb dX5_isFigure_12 rfl ?_
      refine lv_goto (tgt := 17) hx hb dX5_isFigure_13 rfl ?_
      exact hret 1 () _ _ _ _ dX5_isFigure_17 rfl hE hP hD hS
noncomputable def f_e_blame_x5 (r0 : Int32) (r1 : Int32) (r3 : Int32) (r4 : Int32) (r5 : Int32) (r6 : Int32) (c_ : Int32) (w_ : Int32) : Int32 × Int32 := (c_, w_)
def rm_e_blame_x5 : Room := { frames := 0, cells := 0, slots := 0, locals := 0 }
set_option maxHeartbeats 4000000 in
set_option maxRecDepth 100000 in
theorem e_blame_x5 {l : Launch} {D : va_G} {cI cZ : ClassId} {sz : Nat} (rd x : Nat) (r0 : Int32) (r1 : Int32) (r3 : Int32) (r4 : Int32) (r5 : Int32) (r6 : Int32) (c_ : Int32) (w_ : Int32) : KV l yX5_blame cX5_blame 3 rm_e_blame_x5 D cI cZ [.ref rd, .int c_, .int w_] sz [(rd, .inr (5, [.int r0, .int r1, .ref x, .int r3, .int r4, .int r5, .int r6]))] (fun (u : Int32 × Int32) => u = f_e_blame_x5 r0 r1 r3 r4 r5 r6 c_ w_) (fun (u : Int32 × Int32) => [(rd, .inr (5, [.int (u.1), .int (u.2), .ref x, .int r3, .int r4, .int r5, .int r6]))]) := by
  refine KV.go rfl (Nat.le_of_ble_eq_true rfl) ?_
  intro p e s m args below meth c ls A Q hx hb hml hts hown hin hP hK hD hS hA hN hl hret
  have hl : lv_has ls 3 [(0, .ref rd), (1, .int c_), (2, .int w_)] := hl
  obtain ⟨RES, hE⟩ : ∃ xRES, f_e_blame_x5 r0 r1 r3 r4 r5 r6 c_ w_ = xRES := ⟨_, rfl⟩
  rw [hE] at hret
  rw [f_e_blame_x5] at hE
  refine lv_aload_n hx hb dX5_blame_0 rfl (lv_at hl 0 rfl) ?_
  refine lv_iload_n hx hb dX5_blame_1 rfl (lv_at hl 1 rfl) ?_
  refine va_put (D := D) (ci := 5) (v := .int c_) (ty := .int) (C := RX5) (T := TX5) (N := 7) hx hb hts iX5 tyX5 tyX5_ok nmX5 hown hK hP hD hS 0 rfl rfl 0 (Nat.le_of_ble_eq_true rfl) (hts _ wd_42) (fun _ h9 => h9) rfl (by decide +kernel) rfl rfl (Nat.le_of_ble_eq_true rfl) dX5_blame_2 (fun H locs hP hD hS => ?_)
  have hP : va_P D classes [(rd, .inr (5, [.int c_, .int r1, .ref x, .int r3, .int r4, .int r5, .int r6]))] H := hP
  have hD : va_D A [(rd, .inr (5, [.int c_, .int r1, .ref x, .int r3, .int r4, .int r5, .int r6]))] := hD
  refine lv_aload_n hx hb dX5_blame_5 rfl (lv_at hl 0 rfl) ?_
  refine lv_iload_n hx hb dX5_blame_6 rfl (lv_at hl 2 rfl) ?_
  refine va_put (D := D) (ci := 5) (v := .int w_) (ty := .int) (C := RX5) (T := TX5) (N := 7) hx hb hts iX5 tyX5 tyX5_ok nmX5 hown hK hP hD hS 0 rfl rfl 1 (Nat.le_of_ble_eq_true rfl) (hts _ wd_43) (fun _ h9 => h9) rfl (by decide +kernel) rfl rfl (Nat.le_of_ble_eq_true rfl) dX5_blame_7 (fun H locs hP hD hS => ?_)
  have hP : va_P D classes [(rd, .inr (5, [.int c_, .int w_, .ref x, .int r3, .int r4, .int r5, .int r6]))] H := hP
  have hD : va_D A [(rd, .inr (5, [.int c_, .int w_, .ref x, .int r3, .int r4, .int r5, .int r6]))] := hD
  exact hret (c_, w_) _ _ _ _ dX5_blame_10 hE hP hD hS
noncomputable def f_e_expect_x5 (r0 : Int32) (r1 : Int32) (r3 : Int32) (r4 : Int32) (r5 : Int32) (r6 : Int32) (ftx : Nat → Int32) (c_ : Int32) : Int32 × Int32 × Int32 := (if r0 = 0 then (match (f_e_next_x5 r0 r1 r3 r4 r5 r6 ftx) with | (r_3, u_2) => (if r_3 = c_ then (r0, r1, (u_2 + 1)) else (match (f_e_blame_x5 r0 r1 r3 u_2 r5 r6 1 u_2) with | (o_7, o_8) => (o_7, o_8, u_2)))) else (r0, r1, r4))
def rm_e_expect_x5 : Room := { frames := 2, cells := 0, slots := 0, locals := 41 }
set_option maxHeartbeats 4000000 in
set_option maxRecDepth 100000 in
theorem e_expect_x5 {l : Launch} {D : va_G} {cI cZ : ClassId} {sz : Nat} (rd x : Nat) (r0 : Int32) (r1 : Int32) (r3 : Int32) (r4 : Int32) (r5 : Int32) (r6 : Int32) (ftx : Nat → Int32) (c_ : Int32) : KV l yX5_expect cX5_expect 2 rm_e_expect_x5 D cI cZ [.ref rd, .int c_] sz [(rd, .inr (5, [.int r0, .int r1, .ref x, .int r3, .int r4, .int r5, .int r6])), (x, .inl (cI, 240, .inl ftx))] (fun (u : Int32 × Int32 × Int32) => u = f_e_expect_x5 r0 r1 r3 r4 r5 r6 ftx c_) (fun (u : Int32 × Int32 × Int32) => [(rd, .inr (5, [.int (u.1), .int (u.2.1), .ref x, .int r3, .int (u.2.2), .int r5, .int r6])), (x, .inl (cI, 240, .inl ftx))]) := by
  refine KV.go rfl (Nat.le_of_ble_eq_true rfl) ?_
  intro p e s m args below meth c ls A Q hx hb hml hts hown hin hP hK hD hS hA hN hl hret
  have hl : lv_has ls 2 [(0, .ref rd), (1, .int c_)] := hl
  obtain ⟨RES, hE⟩ : ∃ xRES, f_e_expect_x5 r0 r1 r3 r4 r5 r6 ftx c_ = xRES := ⟨_, rfl⟩
  rw [hE] at hret
  rw [f_e_expect_x5] at hE
  refine lv_aload_n hx hb dX5_expect_0 rfl (lv_at hl 0 rfl) ?_
  refine va_get (D := D) (ci := 5) (v := .int r0) (C := RX5) (T := TX5) (N := 7) hx hb hts iX5 hown hK hP 0 rfl rfl 0 (Nat.le_of_ble_eq_true rfl) (hts _ wd_42) (fun _ h9 => h9) rfl dX5_expect_1 ?_
  refine lv_if_eq (tgt := 8) hx hb dX5_expect_4 rfl (fun c_1 => ?_) (fun c_1 => ?_)
  · rw [if_pos c_1] at hE
    refine lv_aload_n hx hb dX5_expect_8 rfl (lv_at hl 0 rfl) ?_
    refine cVi (wr := []) (rest := []) (e_next_x5 rd x r0 r1 r3 r4 r5 r6 ftx) okV_X5_next wd_197 hx hb hml hown hts hK hP hD hS hA hN hl.1 [0, 1] [] rfl rfl rfl rfl (of_decide_eq_true rfl) rfl rfl rfl (Nat.le_of_ble_eq_true rfl) (Nat.le_of_ble_eq_true rfl) (Nat.le_of_ble_eq_true rfl) (Nat.le_of_ble_eq_true rfl) (Nat.le_of_ble_eq_true rfl) dX5_expect_9 (fun r_3 u_2 H locs hw_u_2 hP hD hS => ?_)
    replace hw_u_2 : (r_3, u_2) = (f_e_next_x5 r0 r1 r3 r4 r5 r6 ftx) := hw_u_2
    rw [← hw_u_2] at hE
    replace hE : (if r_3 = c_ then (r0, r1, (u_2 + 1)) else (match (f_e_blame_x5 r0 r1 r3 u_2 r5 r6 1 u_2) with | (o_7, o_8) => (o_7, o_8, u_2))) = RES := hE
    have hP : va_P D classes [(rd, .inr (5, [.int r0, .int r1, .ref x, .int r3, .int u_2, .int r5, .int r6])), (x, .inl (cI, 240, .inl ftx))] H := hP
    have hD : va_D A [(rd, .inr (5, [.int r0, .int r1, .ref x, .int r3, .int u_2, .int r5, .int r6])), (x, .inl (cI, 240, .inl ftx))] := hD
    refine lv_iload_n hx hb dX5_expect_12 rfl (lv_at hl 1 rfl) ?_
    refine lv_icmp_eq (tgt := 26) hx hb dX5_expect_13 rfl (fun c_4 => ?_) (fun c_4 => ?_)
    · rw [if_pos c_4] at hE
      refine lv_aload_n hx hb dX5_expect_26 rfl (lv_at hl 0 rfl) ?_
      refine lv_dup hx hb dX5_expect_27 rfl ?_
      refine va_get (D := D) (ci := 5) (v := .int u_2) (C := RX5) (T := TX5) (N := 7) hx hb hts iX5 hown hK hP 0 rfl rfl 4 (Nat.le_of_ble_eq_true rfl) (hts _ wd_46) (fun _ h9 => h9) rfl dX5_expect_28 ?_
      refine lv_iconst (v := 1) hx hb dX5_expect_31 rfl ?_
      refine lv_iadd hx hb dX5_expect_32 ?_
      refine va_put (D := D) (ci := 5) (v := .int (u_2 + 1)) (ty := .int) (C := RX5) (T := TX5) (N := 7) hx hb hts iX5 tyX5 tyX5_ok nmX5 hown hK hP hD hS 0 rfl rfl 4 (Nat.le_of_ble_eq_true rfl) (hts _ wd_46) (fun _ h9 => h9) rfl (by decide +kernel) rfl rfl (Nat.le_of_ble_eq_true rfl) dX5_expect_33 (fun H locs hP hD hS => ?_)
      have hP : va_P D classes [(rd, .inr (5, [.int r0, .int r1, .ref x, .int r3, .int (u_2 + 1), .int r5, .int r6])), (x, .inl (cI, 240, .inl ftx))] H := hP
      have hD : va_D A [(rd, .inr (5, [.int r0, .int r1, .ref x, .int r3, .int (u_2 + 1), .int r5, .int r6])), (x, .inl (cI, 240, .inl ftx))] := hD
      exact hret (r0, r1, (u_2 + 1)) _ _ _ _ dX5_expect_36 hE hP hD hS
    · rw [if_neg c_4] at hE
      refine lv_aload_n hx hb dX5_expect_16 rfl (lv_at hl 0 rfl) ?_
      refine lv_iconst (v := 1) hx hb dX5_expect_17 rfl ?_
      refine lv_aload_n hx hb dX5_expect_18 rfl (lv_at hl 0 rfl) ?_
      refine va_get (D := D) (ci := 5) (v := .int u_2) (C := RX5) (T := TX5) (N := 7) hx hb hts iX5 hown hK hP 0 rfl rfl 4 (Nat.le_of_ble_eq_true rfl) (hts _ wd_46) (fun _ h9 => h9) rfl dX5_expect_19 ?_
      refine cVv (wr := [(x, .inl (cI, 240, .inl ftx))]) (rest := []) (e_blame_x5 rd x r0 r1 r3 u_2 r5 r6 1 u_2) okV_X5_blame wd_201 hx hb hml hown hts hK hP hD hS hA hN hl.1 [0] [1] rfl rfl rfl rfl (of_decide_eq_true rfl) rfl rfl rfl (Nat.le_of_ble_eq_true rfl) (Nat.le_of_ble_eq_true rfl) (Nat.le_of_ble_eq_true rfl) (Nat.le_of_ble_eq_true rfl) (Nat.le_of_ble_eq_true rfl) dX5_expect_22 (fun u_5 H locs hw_u_5 hP hD hS => ?_)
      obtain ⟨o_7, o_8⟩ := u_5
      replace hw_u_5 : (o_7, o_8) = (f_e_blame_x5 r0 r1 r3 u_2 r5 r6 1 u_2) := hw_u_5
      rw [← hw_u_5] at hE
      replace hE : (o_7, o_8, u_2) = RES := hE
      have hP : va_P D classes [(x, .inl (cI, 240, .inl ftx)), (rd, .inr (5, [.int o_7, .int o_8, .ref x, .int r3, .int u_2, .int r5, .int r6]))] H := hP
      have hD : va_D A [(x, .inl (cI, 240, .inl ftx)), (rd, .inr (5, [.int o_7, .int o_8, .ref x, .int r3, .int u_2, .int r5, .int r6]))] := hD
      exact hret (o_7, o_8, u_2) _ _ _ _ dX5_expect_25 hE (cutP (isC := [1, 0]) hP rfl) (cutD (isC := [1, 0]) hD rfl rfl) hS
  · rw [if_neg c_1] at hE
    exact hret (r0, r1, r4) _ _ _ _ dX5_expect_7 hE hP hD hS
noncomputable def f_e_number_x5_42 (r0 : Int32) (r1 : Int32) (r3 : Int32) (r4 : Int32) (r5 : Int32) (r6 : Int32) (ftx : Nat → Int32) (lo_ : Int32) (hi_ : Int32) (n : Nat) : Int32 → Int32 → Int32 → Int32 → Int32 → Int32 × Int32 × Int32 × Int32 × Int32 := Nat.rec (motive := fun _ => Int32 → Int32 → Int32 → Int32 → Int32 → Int32 × Int32 × Int32 × Int32 × Int32) (fun w_7l5 w_7l4 w_7m0 w_7m1 w_7m2 => (w_7l5, w_7l4, w_7m0, w_7m1, w_7m2)) (fun n ih w_7l5 w_7l4 w_7m0 w_7m1 w_7m2 => (if 240 ≤ w_7l5 then (w_7l5, w_7l4, w_7m0, w_7m1, w_7m2) else (if (f_e_isFigure_x5 w_7m0 w_7m1 r3 w_7m2 r5 r6 (f_e_letter_x5 w_7m0 w_7m1 r3 w_7m2 r5 r6 ftx)) = 0 then (w_7l5, w_7l4, w_7m0, w_7m1, w_7m2) else (if 3 ≤ w_7l5 then (ih (w_7l5 + 1) w_7l4 w_7m0 w_7m1 (w_7m2 + 1)) else (ih (w_7l5 + 1) (((w_7l4 * 10) + (f_e_letter_x5 w_7m0 w_7m1 r3 w_7m2 r5 r6 ftx)) - 48) w_7m0 w_7m1 (w_7m2 + 1)))))) n
theorem f_e_number_x5_42_s (r0 : Int32) (r1 : Int32) (r3 : Int32) (r4 : Int32) (r5 : Int32) (r6 : Int32) (ftx : Nat → Int32) (lo_ : Int32) (hi_ : Int32) (n : Nat) (w_7l5 : Int32) (w_7l4 : Int32) (w_7m0 : Int32) (w_7m1 : Int32) (w_7m2 : Int32) : f_e_number_x5_42 r0 r1 r3 r4 r5 r6 ftx lo_ hi_ (n + 1) w_7l5 w_7l4 w_7m0 w_7m1 w_7m2 = (if 240 ≤ w_7l5 then (w_7l5, w_7l4, w_7m0, w_7m1, w_7m2) else (if (f_e_isFigure_x5 w_7m0 w_7m1 r3 w_7m2 r5 r6 (f_e_letter_x5 w_7m0 w_7m1 r3 w_7m2 r5 r6 ftx)) = 0 then (w_7l5, w_7l4, w_7m0, w_7m1, w_7m2) else (if 3 ≤ w_7l5 then (f_e_number_x5_42 r0 r1 r3 r4 r5 r6 ftx lo_ hi_ n (w_7l5 + 1) w_7l4 w_7m0 w_7m1 (w_7m2 + 1)) else (f_e_number_x5_42 r0 r1 r3 r4 r5 r6 ftx lo_ hi_ n (w_7l5 + 1) (((w_7l4 * 10) + (f_e_letter_x5 w_7m0 w_7m1 r3 w_7m2 r5 r6 ftx)) - 48) w_7m0 w_7m1 (w_7m2 + 1))))) := rfl
noncomputable def f_e_number_x5 (r0 : Int32) (r1 : Int32) (r3 : Int32) (r4 : Int32) (r5 : Int32) (r6 : Int32) (ftx : Nat → Int32) (lo_ : Int32) (hi_ : Int32) : Int32 × Int32 × Int32 × Int32 := (if r0 = 0 then (match (f_e_next_x5 r0 r1 r3 r4 r5 r6 ftx) with | (r_3, u_2) => (if (f_e_isFigure_x5 r0 r1 r3 u_2 r5 r6 r_3) = 0 then (match (f_e_blame_x5 r0 r1 r3 u_2 r5 r6 1 u_2) with | (o_34, o_35) => (lo_, o_34, o_35, u_2)) else (match (f_e_number_x5_42 r0 r1 r3 r4 r5 r6 ftx lo_ hi_ (((240 : Int32).toInt - (0 : Int32).toInt).toNat + 1) 0 0 r0 r1 u_2) with | (w_7l5, w_7l4, w_7m0, w_7m1, w_7m2) => (if 3 < (w_7m2 - u_2) then (match (f_e_blame_x5 w_7m0 w_7m1 r3 w_7m2 r5 r6 2 u_2) with | (o_11, o_12) => (lo_, o_11, o_12, w_7m2)) else (if w_7l4 < lo_ then (match (f_e_blame_x5 w_7m0 w_7m1 r3 w_7m2 r5 r6 2 u_2) with | (o_16, o_17) => (lo_, o_16, o_17, w_7m2)) else (if w_7l4 ≤ hi_ then (w_7l4, w_7m0, w_7m1, w_7m2) else (match (f_e_blame_x5 w_7m0 w_7m1 r3 w_7m2 r5 r6 2 u_2) with | (o_21, o_22) => (lo_, o_21, o_22, w_7m2)))))))) else (lo_, r0, r1, r4))
def rm_e_number_x5 : Room := { frames := 2, cells := 0, slots := 0, locals := 41 }
set_option maxHeartbeats 4000000 in
set_option maxRecDepth 100000 in
theorem e_number_x5 {l : Launch} {D : va_G} {cI cZ : ClassId} {sz : Nat} (rd x : Nat) (r0 : Int32) (r1 : Int32) (r3 : Int32) (r4 : Int32) (r5 : Int32) (r6 : Int32) (ftx : Nat → Int32) (lo_ : Int32) (hi_ : Int32) : KI l yX5_number cX5_number 6 (some .int) rm_e_number_x5 D cI cZ [.ref rd, .int lo_, .int hi_] sz [(rd, .inr (5, [.int r0, .int r1, .ref x, .int r3, .int r4, .int r5, .int r6])), (x, .inl (cI, 240, .inl ftx))] (fun (r : Int32) (u : Int32 × Int32 × Int32) => (r, u) = f_e_number_x5 r0 r1 r3 r4 r5 r6 ftx lo_ hi_) (fun (u : Int32 × Int32 × Int32) => [(rd, .inr (5, [.int (u.1), .int (u.2.1), .ref x, .int r3, .int (u.2.2), .int r5, .int r6])), (x, .inl (cI, 240, .inl ftx))]) := by
  refine KI.go rfl (Nat.le_of_ble_eq_true rfl) ?_
  intro p e s m args below meth c ls A Q hx hb hml hts hown hin hP hK hD hS hA hN hl hret
  have hl : lv_has ls 6 [(0, .ref rd), (1, .int lo_), (2, .int hi_)] := hl
  obtain ⟨RES, hE⟩ : ∃ xRES, f_e_number_x5 r0 r1 r3 r4 r5 r6 ftx lo_ hi_ = xRES := ⟨_, rfl⟩
  rw [hE] at hret
  rw [f_e_number_x5] at hE
  refine lv_aload_n hx hb dX5_number_0 rfl (lv_at hl 0 rfl) ?_
  refine va_get (D := D) (ci := 5) (v := .int r0) (C := RX5) (T := TX5) (N := 7) hx hb hts iX5 hown hK hP 0 rfl rfl 0 (Nat.le_of_ble_eq_true rfl) (hts _ wd_42) (fun _ h9 => h9) rfl dX5_number_1 ?_
  refine lv_if_eq (tgt := 9) hx hb dX5_number_4 rfl (fun c_1 => ?_) (fun c_1 => ?_)
  · rw [if_pos c_1] at hE
    refine lv_aload_n hx hb dX5_number_9 rfl (lv_at hl 0 rfl) ?_
    refine lv_aload_n hx hb dX5_number_10 rfl (lv_at hl 0 rfl) ?_
    refine cVi (wr := []) (rest := [.ref rd]) (e_next_x5 rd x r0 r1 r3 r4 r5 r6 ftx) okV_X5_next wd_197 hx hb hml hown hts hK hP hD hS hA hN hl.1 [0, 1] [] rfl rfl rfl rfl (of_decide_eq_true rfl) rfl rfl rfl (Nat.le_of_ble_eq_true rfl) (Nat.le_of_ble_eq_true rfl) (Nat.le_of_ble_eq_true rfl) (Nat.le_of_ble_eq_true rfl) (Nat.le_of_ble_eq_true rfl) dX5_number_11 (fun r_3 u_2 H locs hw_u_2 hP hD hS => ?_)
    replace hw_u_2 : (r_3, u_2) = (f_e_next_x5 r0 r1 r3 r4 r5 r6 ftx) := hw_u_2
    rw [← hw_u_2] at hE
    replace hE : (if (f_e_isFigure_x5 r0 r1 r3 u_2 r5 r6 r_3) = 0 then (match (f_e_blame_x5 r0 r1 r3 u_2 r5 r6 1 u_2) with | (o_34, o_35) => (lo_, o_34, o_35, u_2)) else (match (f_e_number_x5_42 r0 r1 r3 r4 r5 r6 ftx lo_ hi_ (((240 : Int32).toInt - (0 : Int32).toInt).toNat + 1) 0 0 r0 r1 u_2) with | (w_7l5, w_7l4, w_7m0, w_7m1, w_7m2) => (if 3 < (w_7m2 - u_2) then (match (f_e_blame_x5 w_7m0 w_7m1 r3 w_7m2 r5 r6 2 u_2) with | (o_11, o_12) => (lo_, o_11, o_12, w_7m2)) else (if w_7l4 < lo_ then (match (f_e_blame_x5 w_7m0 w_7m1 r3 w_7m2 r5 r6 2 u_2) with | (o_16, o_17) => (lo_, o_16, o_17, w_7m2)) else (if w_7l4 ≤ hi_ then (w_7l4, w_7m0, w_7m1, w_7m2) else (match (f_e_blame_x5 w_7m0 w_7m1 r3 w_7m2 r5 r6 2 u_2) with | (o_21, o_22) => (lo_, o_21, o_22, w_7m2))))))) = RES := hE
    have hP : va_P D classes [(rd, .inr (5, [.int r0, .int r1, .ref x, .int r3, .int u_2, .int r5, .int r6])), (x, .inl (cI, 240, .inl ftx))] H := hP
    have hD : va_D A [(rd, .inr (5, [.int r0, .int r1, .ref x, .int r3, .int u_2, .int r5, .int r6])), (x, .inl (cI, 240, .inl ftx))] := hD
    refine cVi (wr := [(x, .inl (cI, 240, .inl ftx))]) (rest := []) (e_isFigure_x5 rd x r0 r1 r3 u_2 r5 r6 r_3) okV_X5_isFigure wd_205 hx hb hml hown hts hK hP hD hS hA hN hl.1 [0] [1] rfl rfl rfl rfl (of_decide_eq_true rfl) rfl rfl rfl (Nat.le_of_ble_eq_true rfl) (Nat.le_of_ble_eq_true rfl) (Nat.le_of_ble_eq_true rfl) (Nat.le_of_ble_eq_true rfl) (Nat.le_of_ble_eq_true rfl) dX5_number_14 (fun r_5 u_4 H locs hw_u_4 hP hD hS => ?_)
    replace hw_u_4 : r_5 = (f_e_isFigure_x5 r0 r1 r3 u_2 r5 r6 r_3) := hw_u_4
    rw [hw_u_4]
    clear hw_u_4
    have hP : va_P D classes [(x, .inl (cI, 240, .inl ftx)), (rd, .inr (5, [.int r0, .int r1, .ref x, .int r3, .int u_2, .int r5, .int r6]))] H := hP
    have hD : va_D A [(x, .inl (cI, 240, .inl ftx)), (rd, .inr (5, [.int r0, .int r1, .ref x, .int r3, .int u_2, .int r5, .int r6]))] := hD
    refine lv_if_ne (tgt := 31) hx hb dX5_number_17 rfl (fun c_6 => ?_) (fun c_6 => ?_)
    · rw [if_neg c_6] at hE
      refine lv_aload_n hx hb dX5_number_31 rfl (lv_at hl 0 rfl) ?_
      refine va_get (D := D) (ci := 5) (v := .int u_2) (C := RX5) (T := TX5) (N := 7) hx hb hts iX5 hown hK hP 1 rfl rfl 4 (Nat.le_of_ble_eq_true rfl) (hts _ wd_46) (fun _ h9 => h9) rfl dX5_number_32 ?_
      refine lv_istore_n (lv' := [(3, .int u_2), (0, .ref rd), (1, .int lo_), (2, .int hi_)]) hx hb dX5_number_35 rfl hl (Nat.le_of_ble_eq_true rfl) rfl (fun ls hl => ?_)
      refine lv_iconst (v := 0) hx hb dX5_number_36 rfl ?_
      refine lv_istore (lv' := [(4, .int 0), (3, .int u_2), (0, .ref rd), (1, .int lo_), (2, .int hi_)]) hx hb dX5_number_37 hl (Nat.le_of_ble_eq_true rfl) rfl (fun ls hl => ?_)
      refine lv_iconst (v := 0) hx hb dX5_number_39 rfl ?_
      refine lv_istore (lv' := [(5, .int 0), (4, .int 0), (3, .int u_2), (0, .ref rd), (1, .int lo_), (2, .int hi_)]) hx hb dX5_number_40 hl (Nat.le_of_ble_eq_true rfl) rfl (fun ls hl => ?_)
      have ex_42_w_7 : ∀ (w_7l5 : Int32) (w_7l4 : Int32) (w_7m0 : Int32) (w_7m1 : Int32) (w_7m2 : Int32) (H : Heap) (locs : List Loc) (ls : Array Slot), va_P D classes [(x, .inl (cI, 240, .inl ftx)), (rd, .inr (5, [.int w_7m0, .int w_7m1, .ref x, .int r3, .int w_7m2, .int r5, .int r6]))] H → va_D A [(x, .inl (cI, 240, .inl ftx)), (rd, .inr (5, [.int w_7m0, .int w_7m1, .ref x, .int r3, .int w_7m2, .int r5, .int r6]))] → va_S A s.heap H locs → lv_has ls 6 [(5, .int w_7l5), (4, .int w_7l4), (3, .int u_2), (0, .ref rd), (1, .int lo_), (2, .int hi_)] → ((if 3 < (w_7m2 - u_2) then (match (f_e_blame_x5 w_7m0 w_7m1 r3 w_7m2 r5 r6 2 u_2) with | (o_11, o_12) => (lo_, o_11, o_12, w_7m2)) else (if w_7l4 < lo_ then (match (f_e_blame_x5 w_7m0 w_7m1 r3 w_7m2 r5 r6 2 u_2) with | (o_16, o_17) => (lo_, o_16, o_17, w_7m2)) else (if w_7l4 ≤ hi_ then (w_7l4, w_7m0, w_7m1, w_7m2) else (match (f_e_blame_x5 w_7m0 w_7m1 r3 w_7m2 r5 r6 2 u_2) with | (o_21, o_22) => (lo_, o_21, o_22, w_7m2)))))) = RES → W p l e rm_e_number_x5 s m args below meth c H locs 0 0 Q (F0 m 103 ls []) := by
        intro w_7l5 w_7l4 w_7m0 w_7m1 w_7m2 H locs ls hP hD hS hl hE
        refine lv_aload_n hx hb dX5_number_103 rfl (lv_at hl 3 rfl) ?_
        refine va_get (D := D) (ci := 5) (v := .int w_7m2) (C := RX5) (T := TX5) (N := 7) hx hb hts iX5 hown hK hP 1 rfl rfl 4 (Nat.le_of_ble_eq_true rfl) (hts _ wd_46) (fun _ h9 => h9) rfl dX5_number_104 ?_
        refine lv_iload_n hx hb dX5_number_107 rfl (lv_at hl 2 rfl) ?_
        refine lv_isub hx hb dX5_number_108 ?_
        refine lv_iconst (v := 3) hx hb dX5_number_109 rfl ?_
        refine lv_icmp_gt (tgt := 125) hx hb dX5_number_110 rfl (fun c_8 => ?_) (fun c_8 => ?_)
        · rw [if_pos c_8] at hE
          refine lv_aload_n hx hb dX5_number_125 rfl (lv_at hl 3 rfl) ?_
          refine lv_iconst (v := 2) hx hb dX5_number_126 rfl ?_
          refine lv_iload_n hx hb dX5_number_127 rfl (lv_at hl 2 rfl) ?_
          refine cVv (wr := [(x, .inl (cI, 240, .inl ftx))]) (rest := []) (e_blame_x5 rd x w_7m0 w_7m1 r3 w_7m2 r5 r6 2 u_2) okV_X5_blame wd_201 hx hb hml hown hts hK hP hD hS hA hN hl.1 [1] [0] rfl rfl rfl rfl (of_decide_eq_true rfl) rfl rfl rfl (Nat.le_of_ble_eq_true rfl) (Nat.le_of_ble_eq_true rfl) (Nat.le_of_ble_eq_true rfl) (Nat.le_of_ble_eq_true rfl) (Nat.le_of_ble_eq_true rfl) dX5_number_128 (fun u_9 H locs hw_u_9 hP hD hS => ?_)
          obtain ⟨o_11, o_12⟩ := u_9
          replace hw_u_9 : (o_11, o_12) = (f_e_blame_x5 w_7m0 w_7m1 r3 w_7m2 r5 r6 2 u_2) := hw_u_9
          rw [← hw_u_9] at hE
          replace hE : (lo_, o_11, o_12, w_7m2) = RES := hE
          have hP : va_P D classes [(x, .inl (cI, 240, .inl ftx)), (rd, .inr (5, [.int o_11, .int o_12, .ref x, .int r3, .int w_7m2, .int r5, .int r6]))] H := hP
          have hD : va_D A [(x, .inl (cI, 240, .inl ftx)), (rd, .inr (5, [.int o_11, .int o_12, .ref x, .int r3, .int w_7m2, .int r5, .int r6]))] := hD
          refine lv_iload_n hx hb dX5_number_131 rfl (lv_at hl 4 rfl) ?_
          exact hret lo_ (o_11, o_12, w_7m2) _ _ _ _ dX5_number_132 rfl hE (cutP (isC := [1, 0]) hP rfl) (cutD (isC := [1, 0]) hD rfl rfl) hS
        · rw [if_neg c_8] at hE
          refine lv_iload hx hb dX5_number_113 (lv_at hl 1 rfl) ?_
          refine lv_iload_n hx hb dX5_number_115 rfl (lv_at hl 4 rfl) ?_
          refine lv_icmp_lt (tgt := 125) hx hb dX5_number_116 rfl (fun c_13 => ?_) (fun c_13 => ?_)
          · rw [if_pos c_13] at hE
            refine lv_aload_n hx hb dX5_number_125 rfl (lv_at hl 3 rfl) ?_
            refine lv_iconst (v := 2) hx hb dX5_number_126 rfl ?_
            refine lv_iload_n hx hb dX5_number_127 rfl (lv_at hl 2 rfl) ?_
            refine cVv (wr := [(x, .inl (cI, 240, .inl ftx))]) (rest := []) (e_blame_x5 rd x w_7m0 w_7m1 r3 w_7m2 r5 r6 2 u_2) okV_X5_blame wd_201 hx hb hml hown hts hK hP hD hS hA hN hl.1 [1] [0] rfl rfl rfl rfl (of_decide_eq_true rfl) rfl rfl rfl (Nat.le_of_ble_eq_true rfl) (Nat.le_of_ble_eq_true rfl) (Nat.le_of_ble_eq_true rfl) (Nat.le_of_ble_eq_true rfl) (Nat.le_of_ble_eq_true rfl) dX5_number_128 (fun u_14 H locs hw_u_14 hP hD hS => ?_)
            obtain ⟨o_16, o_17⟩ := u_14
            replace hw_u_14 : (o_16, o_17) = (f_e_blame_x5 w_7m0 w_7m1 r3 w_7m2 r5 r6 2 u_2) := hw_u_14
            rw [← hw_u_14] at hE
            replace hE : (lo_, o_16, o_17, w_7m2) = RES := hE
            have hP : va_P D classes [(x, .inl (cI, 240, .inl ftx)), (rd, .inr (5, [.int o_16, .int o_17, .ref x, .int r3, .int w_7m2, .int r5, .int r6]))] H := hP
            have hD : va_D A [(x, .inl (cI, 240, .inl ftx)), (rd, .inr (5, [.int o_16, .int o_17, .ref x, .int r3, .int w_7m2, .int r5, .int r6]))] := hD
            refine lv_iload_n hx hb dX5_number_131 rfl (lv_at hl 4 rfl) ?_
            exact hret lo_ (o_16, o_17, w_7m2) _ _ _ _ dX5_number_132 rfl hE (cutP (isC := [1, 0]) hP rfl) (cutD (isC := [1, 0]) hD rfl rfl) hS
          · rw [if_neg c_13] at hE
            refine lv_iload hx hb dX5_number_119 (lv_at hl 1 rfl) ?_
            refine lv_iload_n hx hb dX5_number_121 rfl (lv_at hl 5 rfl) ?_
            refine lv_icmp_le (tgt := 133) hx hb dX5_number_122 rfl (fun c_18 => ?_) (fun c_18 => ?_)
            · rw [if_pos c_18] at hE
              refine lv_iload hx hb dX5_number_133 (lv_at hl 1 rfl) ?_
              exact hret w_7l4 (w_7m0, w_7m1, w_7m2) _ _ _ _ dX5_number_135 rfl hE (cutP (isC := [1, 0]) hP rfl) (cutD (isC := [1, 0]) hD rfl rfl) hS
            · rw [if_neg c_18] at hE
              refine lv_aload_n hx hb dX5_number_125 rfl (lv_at hl 3 rfl) ?_
              refine lv_iconst (v := 2) hx hb dX5_number_126 rfl ?_
              refine lv_iload_n hx hb dX5_number_127 rfl (lv_at hl 2 rfl) ?_
              refine cVv (wr := [(x, .inl (cI, 240, .inl ftx))]) (rest := []) (e_blame_x5 rd x w_7m0 w_7m1 r3 w_7m2 r5 r6 2 u_2) okV_X5_blame wd_201 hx hb hml hown hts hK hP hD hS hA hN hl.1 [1] [0] rfl rfl rfl rfl (of_decide_eq_true rfl) rfl rfl rfl (Nat.le_of_ble_eq_true rfl) (Nat.le_of_ble_eq_true rfl) (Nat.le_of_ble_eq_true rfl) (Nat.le_of_ble_eq_true rfl) (Nat.le_of_ble_eq_true rfl) dX5_number_128 (fun u_19 H locs hw_u_19 hP hD hS => ?_)
              obtain ⟨o_21, o_22⟩ := u_19
              replace hw_u_19 : (o_21, o_22) = (f_e_blame_x5 w_7m0 w_7m1 r3 w_7m2 r5 r6 2 u_2) := hw_u_19
              rw [← hw_u_19] at hE
              replace hE : (lo_, o_21, o_22, w_7m2) = RES := hE
              have hP : va_P D classes [(x, .inl (cI, 240, .inl ftx)), (rd, .inr (5, [.int o_21, .int o_22, .ref x, .int r3, .int w_7m2, .int r5, .int r6]))] H := hP
              have hD : va_D A [(x, .inl (cI, 240, .inl ftx)), (rd, .inr (5, [.int o_21, .int o_22, .ref x, .int r3, .int w_7m2, .int r5, .int r6]))] := hD
              refine lv_iload_n hx hb dX5_number_131 rfl (lv_at hl 4 rfl) ?_
              exact hret lo_ (o_21, o_22, w_7m2) _ _ _ _ dX5_number_132 rfl hE (cutP (isC := [1, 0]) hP rfl) (cutD (isC := [1, 0]) hD rfl rfl) hS
      have lp_42_w_7 : ∀ (n_w_7 : Nat) (w_7l5 : Int32) (w_7l4 : Int32) (w_7m0 : Int32) (w_7m1 : Int32) (w_7m2 : Int32) (H : Heap) (locs : List Loc) (ls : Array Slot), va_P D classes [(x, .inl (cI, 240, .inl ftx)), (rd, .inr (5, [.int w_7m0, .int w_7m1, .ref x, .int r3, .int w_7m2, .int r5, .int r6]))] H → va_D A [(x, .inl (cI, 240, .inl ftx)), (rd, .inr (5, [.int w_7m0, .int w_7m1, .ref x, .int r3, .int w_7m2, .int r5, .int r6]))] → va_S A s.heap H locs → lv_has ls 6 [(5, .int w_7l5), (4, .int w_7l4), (3, .int u_2), (0, .ref rd), (1, .int lo_), (2, .int hi_)] → ((240 : Int32).toInt - (w_7l5 : Int32).toInt).toNat < n_w_7 → (match (f_e_number_x5_42 r0 r1 r3 r4 r5 r6 ftx lo_ hi_ n_w_7 w_7l5 w_7l4 w_7m0 w_7m1 w_7m2) with | (w_7l5, w_7l4, w_7m0, w_7m1, w_7m2) => (if 3 < (w_7m2 - u_2) then (match (f_e_blame_x5 w_7m0 w_7m1 r3 w_7m2 r5 r6 2 u_2) with | (o_11, o_12) => (lo_, o_11, o_12, w_7m2)) else (if w_7l4 < lo_ then (match (f_e_blame_x5 w_7m0 w_7m1 r3 w_7m2 r5 r6 2 u_2) with | (o_16, o_17) => (lo_, o_16, o_17, w_7m2)) else (if w_7l4 ≤ hi_ then (w_7l4, w_7m0, w_7m1, w_7m2) else (match (f_e_blame_x5 w_7m0 w_7m1 r3 w_7m2 r5 r6 2 u_2) with | (o_21, o_22) => (lo_, o_21, o_22, w_7m2)))))) = RES → W p l e rm_e_number_x5 s m args below meth c H locs 0 0 Q (F0 m 42 ls []) := by
        intro n_w_7
        induction n_w_7 with
        | zero => intro w_7l5 w_7l4 w_7m0 w_7m1 w_7m2 H locs ls hP hD hS hl hm; exact absurd hm (Nat.not_lt_zero _)
        | succ n_w_7 ih_w_7 =>
          intro w_7l5 w_7l4 w_7m0 w_7m1 w_7m2 H locs ls hP hD hS hl hm hE
          rw [f_e_number_x5_42_s] at hE
          refine lv_iload hx hb dX5_number_42 (lv_at hl 0 rfl) ?_
          refine lv_sipush (v := 240) hx hb dX5_number_44 rfl ?_
          refine lv_icmp_ge (tgt := 103) hx hb dX5_number_47 rfl (fun c_23 => ?_) (fun c_23 => ?_)
          · rw [if_pos c_23] at hE
            exact ex_42_w_7 w_7l5 w_7l4 w_7m0 w_7m1 w_7m2 _ _ ls hP hD hS (lv_sub hl [0, 1, 2, 3, 4, 5] rfl) hE
          · rw [if_neg c_23] at hE
            refine lv_aload_n hx hb dX5_number_50 rfl (lv_at hl 3 rfl) ?_
            refine lv_aload_n hx hb dX5_number_51 rfl (lv_at hl 3 rfl) ?_
            refine cVi (wr := []) (rest := [.ref rd]) (e_letter_x5 rd x w_7m0 w_7m1 r3 w_7m2 r5 r6 ftx) okV_X5_letter wd_193 hx hb hml hown hts hK hP hD hS hA hN hl.1 [1, 0] [] rfl rfl rfl rfl (of_decide_eq_true rfl) rfl rfl rfl (Nat.le_of_ble_eq_true rfl) (Nat.le_of_ble_eq_true rfl) (Nat.le_of_ble_eq_true rfl) (Nat.le_of_ble_eq_true rfl) (Nat.le_of_ble_eq_true rfl) dX5_number_52 (fun r_25 u_24 H locs hw_u_24 hP hD hS => ?_)
            replace hw_u_24 : r_25 = (f_e_letter_x5 w_7m0 w_7m1 r3 w_7m2 r5 r6 ftx) := hw_u_24
            rw [hw_u_24]
            clear hw_u_24
            have hP : va_P D classes [(rd, .inr (5, [.int w_7m0, .int w_7m1, .ref x, .int r3, .int w_7m2, .int r5, .int r6])), (x, .inl (cI, 240, .inl ftx))] H := hP
            have hD : va_D A [(rd, .inr (5, [.int w_7m0, .int w_7m1, .ref x, .int r3, .int w_7m2, .int r5, .int r6])), (x, .inl (cI, 240, .inl ftx))] := hD
            refine cVi (wr := [(x, .inl (cI, 240, .inl ftx))]) (rest := []) (e_isFigure_x5 rd x w_7m0 w_7m1 r3 w_7m2 r5 r6 (f_e_letter_x5 w_7m0 w_7m1 r3 w_7m2 r5 r6 ftx)) okV_X5_isFigure wd_205 hx hb hml hown hts hK hP hD hS hA hN hl.1 [0] [1] rfl rfl rfl rfl (of_decide_eq_true rfl) rfl rfl rfl (Nat.le_of_ble_eq_true rfl) (Nat.le_of_ble_eq_true rfl) (Nat.le_of_ble_eq_true rfl) (Nat.le_of_ble_eq_true rfl) (Nat.le_of_ble_eq_true rfl) dX5_number_55 (fun r_27 u_26 H locs hw_u_26 hP hD hS => ?_)
            replace hw_u_26 : r_27 = (f_e_isFigure_x5 w_7m0 w_7m1 r3 w_7m2 r5 r6 (f_e_letter_x5 w_7m0 w_7m1 r3 w_7m2 r5 r6 ftx)) := hw_u_26
            rw [hw_u_26]
            clear hw_u_26
            have hP : va_P D classes [(x, .inl (cI, 240, .inl ftx)), (rd, .inr (5, [.int w_7m0, .int w_7m1, .ref x, .int r3, .int w_7m2, .int r5, .int r6]))] H := hP
            have hD : va_D A [(x, .inl (cI, 240, .inl ftx)), (rd, .inr (5, [.int w_7m0, .int w_7m1, .ref x, .int r3, .int w_7m2, .int r5, .int r6]))] := hD
            refine lv_if_eq (tgt := 103) hx hb dX5_number_58 rfl (fun c_28 => ?_) (fun c_28 => ?_)
            · rw [if_pos c_28] at hE
              exact ex_42_w_7 w_7l5 w_7l4 w_7m0 w_7m1 w_7m2 _ _ ls hP hD hS (lv_sub hl [0, 1, 2, 3, 4, 5] rfl) hE
            · rw [if_neg c_28] at hE
              refine lv_iload hx hb dX5_number_61 (lv_at hl 0 rfl) ?_
              refine lv_iconst (v := 3) hx hb dX5_number_63 rfl ?_
              refine lv_icmp_ge (tgt := 83) hx hb dX5_number_64 rfl (fun c_29 => ?_) (fun c_29 => ?_)
              · rw [if_pos c_29] at hE
                refine lv_iload hx hb dX5_number_83 (lv_at hl 1 rfl) ?_
                refine lv_istore (lv' := [(4, .int w_7l4), (5, .int w_7l5), (3, .int u_2), (0, .ref rd), (1, .int lo_), (2, .int hi_)]) hx hb dX5_number_85 hl (Nat.le_of_ble_eq_true rfl) rfl (fun ls hl => ?_)
                refine lv_aload_n hx hb dX5_number_87 rfl (lv_at hl 3 rfl) ?_
                refine lv_dup hx hb dX5_number_88 rfl ?_
                refine va_get (D := D) (ci := 5) (v := .int w_7m2) (C := RX5) (T := TX5) (N := 7) hx hb hts iX5 hown hK hP 1 rfl rfl 4 (Nat.le_of_ble_eq_true rfl) (hts _ wd_46) (fun _ h9 => h9) rfl dX5_number_89 ?_
                refine lv_iconst (v := 1) hx hb dX5_number_92 rfl ?_
                refine lv_iadd hx hb dX5_number_93 ?_
                refine va_put (D := D) (ci := 5) (v := .int (w_7m2 + 1)) (ty := .int) (C := RX5) (T := TX5) (N := 7) hx hb hts iX5 tyX5 tyX5_ok nmX5 hown hK hP hD hS 1 rfl rfl 4 (Nat.le_of_ble_eq_true rfl) (hts _ wd_46) (fun _ h9 => h9) rfl (by decide +kernel) rfl rfl (Nat.le_of_ble_eq_true rfl) dX5_number_94 (fun H locs hP hD hS => ?_)
                have hP : va_P D classes [(x, .inl (cI, 240, .inl ftx)), (rd, .inr (5, [.int w_7m0, .int w_7m1, .ref x, .int r3, .int (w_7m2 + 1), .int r5, .int r6]))] H := hP
                have hD : va_D A [(x, .inl (cI, 240, .inl ftx)), (rd, .inr (5, [.int w_7m0, .int w_7m1, .ref x, .int r3, .int (w_7m2 + 1), .int r5, .int r6]))] := hD
                refine lv_iinc (v := (w_7l5 + 1)) (lv' := [(5, .int (w_7l5 + 1)), (4, .int w_7l4), (3, .int u_2), (0, .ref rd), (1, .int lo_), (2, .int hi_)]) hx hb dX5_number_97 hl (k := 1) rfl rfl (Nat.le_of_ble_eq_true rfl) rfl (fun ls hl => ?_)
                refine lv_goto (tgt := 42) hx hb dX5_number_100 rfl ?_
                exact ih_w_7 (w_7l5 + 1) w_7l4 w_7m0 w_7m1 (w_7m2 + 1) _ _ ls hP hD hS (lv_sub hl [0, 1, 2, 3, 4, 5] rfl) (up_step c_23 hm) hE
              · rw [if_neg c_29] at hE
                refine lv_iload hx hb dX5_number_67 (lv_at hl 1 rfl) ?_
                refine lv_bipush (v := 10) hx hb dX5_number_69 rfl ?_
                refine lv_imul hx hb dX5_number_71 ?_
                refine lv_aload_n hx hb dX5_number_72 rfl (lv_at hl 3 rfl) ?_
                refine cVi (wr := []) (rest := [.int (w_7l4 * 10)]) (e_letter_x5 rd x w_7m0 w_7m1 r3 w_7m2 r5 r6 ftx) okV_X5_letter wd_193 hx hb hml hown hts hK hP hD hS hA hN hl.1 [1, 0] [] rfl rfl rfl rfl (of_decide_eq_true rfl) rfl rfl rfl (Nat.le_of_ble_eq_true rfl) (Nat.le_of_ble_eq_true rfl) (Nat.le_of_ble_eq_true rfl) (Nat.le_of_ble_eq_true rfl) (Nat.le_of_ble_eq_true rfl) dX5_number_73 (fun r_31 u_30 H locs hw_u_30 hP hD hS => ?_)
                replace hw_u_30 : r_31 = (f_e_letter_x5 w_7m0 w_7m1 r3 w_7m2 r5 r6 ftx) := hw_u_30
                rw [hw_u_30]
                clear hw_u_30
                have hP : va_P D classes [(rd, .inr (5, [.int w_7m0, .int w_7m1, .ref x, .int r3, .int w_7m2, .int r5, .int r6])), (x, .inl (cI, 240, .inl ftx))] H := hP
                have hD : va_D A [(rd, .inr (5, [.int w_7m0, .int w_7m1, .ref x, .int r3, .int w_7m2, .int r5, .int r6])), (x, .inl (cI, 240, .inl ftx))] := hD
                refine lv_iadd hx hb dX5_number_76 ?_
                refine lv_bipush (v := 48) hx hb dX5_number_77 rfl ?_
                refine lv_isub hx hb dX5_number_79 ?_
                refine lv_goto (tgt := 85) hx hb dX5_number_80 rfl ?_
                refine lv_istore (lv' := [(4, .int (((w_7l4 * 10) + (f_e_letter_x5 w_7m0 w_7m1 r3 w_7m2 r5 r6 ftx)) - 48)), (5, .int w_7l5), (3, .int u_2), (0, .ref rd), (1, .int lo_), (2, .int hi_)]) hx hb dX5_number_85 hl (Nat.le_of_ble_eq_true rfl) rfl (fun ls hl => ?_)
                refine lv_aload_n hx hb dX5_number_87 rfl (lv_at hl 3 rfl) ?_
                refine lv_dup hx hb dX5_number_88 rfl ?_
                refine va_get (D := D) (ci := 5) (v := .int w_7m2) (C := RX5) (T := TX5) (N := 7) hx hb hts iX5 hown hK hP 0 rfl rfl 4 (Nat.le_of_ble_eq_true rfl) (hts _ wd_46) (fun _ h9 => h9) rfl dX5_number_89 ?_
                refine lv_iconst (v := 1) hx hb dX5_number_92 rfl ?_
                refine lv_iadd hx hb dX5_number_93 ?_
                refine va_put (D := D) (ci := 5) (v := .int (w_7m2 + 1)) (ty := .int) (C := RX5) (T := TX5) (N := 7) hx hb hts iX5 tyX5 tyX5_ok nmX5 hown hK hP hD hS 0 rfl rfl 4 (Nat.le_of_ble_eq_true rfl) (hts _ wd_46) (fun _ h9 => h9) rfl (by decide +kernel) rfl rfl (Nat.le_of_ble_eq_true rfl) dX5_number_94 (fun H locs hP hD hS => ?_)
                have hP : va_P D classes [(rd, .inr (5, [.int w_7m0, .int w_7m1, .ref x, .int r3, .int (w_7m2 + 1), .int r5, .int r6])), (x, .inl (cI, 240, .inl ftx))] H := hP
                have hD : va_D A [(rd, .inr (5, [.int w_7m0, .int w_7m1, .ref x, .int r3, .int (w_7m2 + 1), .int r5, .int r6])), (x, .inl (cI, 240, .inl ftx))] := hD
                refine lv_iinc (v := (w_7l5 + 1)) (lv' := [(5, .int (w_7l5 + 1)), (4, .int (((w_7l4 * 10) + (f_e_letter_x5 w_7m0 w_7m1 r3 w_7m2 r5 r6 ftx)) - 48)), (3, .int u_2), (0, .ref rd), (1, .int lo_), (2, .int hi_)]) hx hb dX5_number_97 hl (k := 1) rfl rfl (Nat.le_of_ble_eq_true rfl) rfl (fun ls hl => ?_)
                refine lv_goto (tgt := 42) hx hb dX5_number_100 rfl ?_
                exact ih_w_7 (w_7l5 + 1) (((w_7l4 * 10) + (f_e_letter_x5 w_7m0 w_7m1 r3 w_7m2 r5 r6 ftx)) - 48) w_7m0 w_7m1 (w_7m2 + 1) _ _ ls (cutP (isC := [1, 0]) hP rfl) (cutD (isC := [1, 0]) hD rfl rfl) hS (lv_sub hl [0, 1, 2, 3, 4, 5] rfl) (up_step c_23 hm) hE
      exact lp_42_w_7 (((240 : Int32).toInt - (0 : Int32).toInt).toNat + 1) 0 0 r0 r1 u_2 _ _ ls hP hD hS hl (Nat.lt_succ_self _) hE
    · rw [if_pos c_6] at hE
      refine lv_aload_n hx hb dX5_number_20 rfl (lv_at hl 0 rfl) ?_
      refine lv_iconst (v := 1) hx hb dX5_number_21 rfl ?_
      refine lv_aload_n hx hb dX5_number_22 rfl (lv_at hl 0 rfl) ?_
      refine va_get (D := D) (ci := 5) (v := .int u_2) (C := RX5) (T := TX5) (N := 7) hx hb hts iX5 hown hK hP 1 rfl rfl 4 (Nat.le_of_ble_eq_true rfl) (hts _ wd_46) (fun _ h9 => h9) rfl dX5_number_23 ?_
      refine cVv (wr := [(x, .inl (cI, 240, .inl ftx))]) (rest := []) (e_blame_x5 rd x r0 r1 r3 u_2 r5 r6 1 u_2) okV_X5_blame wd_201 hx hb hml hown hts hK hP hD hS hA hN hl.1 [1] [0] rfl rfl rfl rfl (of_decide_eq_true rfl) rfl rfl rfl (Nat.le_of_ble_eq_true rfl) (Nat.le_of_ble_eq_true rfl) (Nat.le_of_ble_eq_true rfl) (Nat.le_of_ble_eq_true rfl) (Nat.le_of_ble_eq_true rfl) dX5_number_26 (fun u_32 H locs hw_u_32 hP hD hS => ?_)
      obtain ⟨o_34, o_35⟩ := u_32
      replace hw_u_32 : (o_34, o_35) = (f_e_blame_x5 r0 r1 r3 u_2 r5 r6 1 u_2) := hw_u_32
      rw [← hw_u_32] at hE
      replace hE : (lo_, o_34, o_35, u_2) = RES := hE
      have hP : va_P D classes [(x, .inl (cI, 240, .inl ftx)), (rd, .inr (5, [.int o_34, .int o_35, .ref x, .int r3, .int u_2, .int r5, .int r6]))] H := hP
      have hD : va_D A [(x, .inl (cI, 240, .inl ftx)), (rd, .inr (5, [.int o_34, .int o_35, .ref x, .int r3, .int u_2, .int r5, .int r6]))] := hD
      refine lv_iload_n hx hb dX5_number_29 rfl (lv_at hl 1 rfl) ?_
      exact hret lo_ (o_34, o_35, u_2) _ _ _ _ dX5_number_30 rfl hE (cutP (isC := [1, 0]) hP rfl) (cutD (isC := [1, 0]) hD rfl rfl) hS
  · rw [if_neg c_1] at hE
    refine lv_iload_n hx hb dX5_number_7 rfl (lv_at hl 1 rfl) ?_
    exact hret lo_ (r0, r1, r4) _ _ _ _ dX5_number_8 rfl hE hP hD hS
noncomputable def f_e_isTooOften_x5 (r0 : Int32) (r1 : Int32) (r3 : Int32) (r4 : Int32) (r5 : Int32) (r6 : Int32) (t0 : Int32) (t1 : Int32) (t2 : Int32) (t3 : Int32) (t4 : Int32) (c_ : Int32) : Int32 := (if c_ = 98 then (if t0 ≤ 0 then 0 else 1) else (if c_ = 99 then (if t2 < 6 then 0 else 1) else (if c_ = 116 then (if r5 = 0 then (if t2 ≤ 0 then 0 else 1) else 1) else (if c_ = 118 then (if t3 < 7 then 0 else 1) else r6))))
def rm_e_isTooOften_x5 : Room := { frames := 0, cells := 0, slots := 0, locals := 0 }
set_option maxHeartbeats 4000000 in
set_option maxRecDepth 100000 in
theorem e_isTooOften_x5 {l : Launch} {D : va_G} {cI cZ : ClassId} {sz : Nat} (rd x t ta tb tc td te : Nat) (r0 : Int32) (r1 : Int32) (r3 : Int32) (r4 : Int32) (r5 : Int32) (r6 : Int32) (t0 : Int32) (t1 : Int32) (t2 : Int32) (t3 : Int32) (t4 : Int32) (c_ : Int32) (h01 : r6 = 0 ∨ r6 = 1) : KI l yX5_isTooOften cX5_isTooOften 3 (some .boolean) rm_e_isTooOften_x5 D cI cZ [.ref rd, .int c_, .ref t] sz [(rd, .inr (5, [.int r0, .int r1, .ref x, .int r3, .int r4, .int r5, .int r6])), (t, .inr (8, [.int t0, .int t1, .int t2, .int t3, .int t4, .ref ta, .ref tb, .ref tc, .ref td, .ref te]))] (fun (r : Int32) (_ : Unit) => r = f_e_isTooOften_x5 r0 r1 r3 r4 r5 r6 t0 t1 t2 t3 t4 c_) (fun (_ : Unit) => [(rd, .inr (5, [.int r0, .int r1, .ref x, .int r3, .int r4, .int r5, .int r6])), (t, .inr (8, [.int t0, .int t1, .int t2, .int t3, .int t4, .ref ta, .ref tb, .ref tc, .ref td, .ref te]))]) := by
  refine KI.go rfl (Nat.le_of_ble_eq_true rfl) ?_
  intro p e s m args below meth c ls A Q hx hb hml hts hown hin hP hK hD hS hA hN hl hret
  have hl : lv_has ls 3 [(0, .ref rd), (1, .int c_), (2, .ref t)] := hl
  obtain ⟨RES, hE⟩ : ∃ xRES, f_e_isTooOften_x5 r0 r1 r3 r4 r5 r6 t0 t1 t2 t3 t4 c_ = xRES := ⟨_, rfl⟩
  rw [hE] at hret
  rw [f_e_isTooOften_x5] at hE
  refine lv_iload_n hx hb dX5_isTooOften_0 rfl (lv_at hl 1 rfl) ?_
  by_cases c_1 : c_ = 98
  · rw [if_pos c_1] at hE
    refine lv_lookup (off := 43) (tgt := 44) hx hb dX5_isTooOften_1 (by decide +kernel) (by rw [c_1]; decide +kernel) rfl ?_
    refine lv_aload_n hx hb dX5_isTooOften_44 rfl (lv_at hl 2 rfl) ?_
    refine va_get (D := D) (ci := 8) (v := .int t0) (C := RX8) (T := TX8) (N := 10) hx hb hts iX8 hown hK hP 1 rfl rfl 0 (Nat.le_of_ble_eq_true rfl) (hts _ wd_209) (fun _ h9 => h9) rfl dX5_isTooOften_45 ?_
    refine lv_if_le (tgt := 55) hx hb dX5_isTooOften_48 rfl (fun c_2 => ?_) (fun c_2 => ?_)
    · rw [if_pos c_2] at hE
      refine lv_iconst (v := 0) hx hb dX5_isTooOften_55 rfl ?_
      exact hret 0 () _ _ _ _ dX5_isTooOften_56 rfl hE hP hD hS
    · rw [if_neg c_2] at hE
      refine lv_iconst (v := 1) hx hb dX5_isTooOften_51 rfl ?_
      refine lv_goto (tgt := 56) hx hb dX5_isTooOften_52 rfl ?_
      exact hret 1 () _ _ _ _ dX5_isTooOften_56 rfl hE hP hD hS
  · skip
    rw [if_neg c_1] at hE
    by_cases c_3 : c_ = 99
    · rw [if_pos c_3] at hE
      refine lv_lookup (off := 76) (tgt := 77) hx hb dX5_isTooOften_1 (by decide +kernel) (by rw [c_3]; decide +kernel) rfl ?_
      refine lv_aload_n hx hb dX5_isTooOften_77 rfl (lv_at hl 2 rfl) ?_
      refine va_get (D := D) (ci := 8) (v := .int t2) (C := RX8) (T := TX8) (N := 10) hx hb hts iX8 hown hK hP 1 rfl rfl 2 (Nat.le_of_ble_eq_true rfl) (hts _ wd_210) (fun _ h9 => h9) rfl dX5_isTooOften_78 ?_
      refine lv_bipush (v := 6) hx hb dX5_isTooOften_81 rfl ?_
      refine lv_icmp_lt (tgt := 90) hx hb dX5_isTooOften_83 rfl (fun c_4 => ?_) (fun c_4 => ?_)
      · rw [if_pos c_4] at hE
        refine lv_iconst (v := 0) hx hb dX5_isTooOften_90 rfl ?_
        exact hret 0 () _ _ _ _ dX5_isTooOften_91 rfl hE hP hD hS
      · rw [if_neg c_4] at hE
        refine lv_iconst (v := 1) hx hb dX5_isTooOften_86 rfl ?_
        refine lv_goto (tgt := 91) hx hb dX5_isTooOften_87 rfl ?_
        exact hret 1 () _ _ _ _ dX5_isTooOften_91 rfl hE hP hD hS
    · skip
      rw [if_neg c_3] at hE
      by_cases c_5 : c_ = 116
      · rw [if_pos c_5] at hE
        refine lv_lookup (off := 56) (tgt := 57) hx hb dX5_isTooOften_1 (by decide +kernel) (by rw [c_5]; decide +kernel) rfl ?_
        refine lv_aload_n hx hb dX5_isTooOften_57 rfl (lv_at hl 0 rfl) ?_
        refine va_get (D := D) (ci := 5) (v := .int r5) (C := RX5) (T := TX5) (N := 7) hx hb hts iX5 hown hK hP 0 rfl rfl 5 (Nat.le_of_ble_eq_true rfl) (hts _ wd_47) (fun _ h9 => h9) rfl dX5_isTooOften_58 ?_
        refine lv_if_ne (tgt := 71) hx hb dX5_isTooOften_61 rfl (fun c_6 => ?_) (fun c_6 => ?_)
        · rw [if_neg c_6] at hE
          refine lv_iconst (v := 1) hx hb dX5_isTooOften_71 rfl ?_
          refine lv_goto (tgt := 76) hx hb dX5_isTooOften_72 rfl ?_
          exact hret 1 () _ _ _ _ dX5_isTooOften_76 rfl hE hP hD hS
        · rw [if_pos c_6] at hE
          refine lv_aload_n hx hb dX5_isTooOften_64 rfl (lv_at hl 2 rfl) ?_
          refine va_get (D := D) (ci := 8) (v := .int t2) (C := RX8) (T := TX8) (N := 10) hx hb hts iX8 hown hK hP 1 rfl rfl 2 (Nat.le_of_ble_eq_true rfl) (hts _ wd_210) (fun _ h9 => h9) rfl dX5_isTooOften_65 ?_
          refine lv_if_le (tgt := 75) hx hb dX5_isTooOften_68 rfl (fun c_7 => ?_) (fun c_7 => ?_)
          · rw [if_pos c_7] at hE
            refine lv_iconst (v := 0) hx hb dX5_isTooOften_75 rfl ?_
            exact hret 0 () _ _ _ _ dX5_isTooOften_76 rfl hE hP hD hS
          · rw [if_neg c_7] at hE
            refine lv_iconst (v := 1) hx hb dX5_isTooOften_71 rfl ?_
            refine lv_goto (tgt := 76) hx hb dX5_isTooOften_72 rfl ?_
            exact hret 1 () _ _ _ _ dX5_isTooOften_76 rfl hE hP hD hS
      · skip
        rw [if_neg c_5] at hE
        by_cases c_8 : c_ = 118
        · rw [if_pos c_8] at hE
          refine lv_lookup (off := 91) (tgt := 92) hx hb dX5_isTooOften_1 (by decide +kernel) (by rw [c_8]; decide +kernel) rfl ?_
          refine lv_aload_n hx hb dX5_isTooOften_92 rfl (lv_at hl 2 rfl) ?_
          refine va_get (D := D) (ci := 8) (v := .int t3) (C := RX8) (T := TX8) (N := 10) hx hb hts iX8 hown hK hP 1 rfl rfl 3 (Nat.le_of_ble_eq_true rfl) (hts _ wd_211) (fun _ h9 => h9) rfl dX5_isTooOften_93 ?_
          refine lv_bipush (v := 7) hx hb dX5_isTooOften_96 rfl ?_
          refine lv_icmp_lt (tgt := 105) hx hb dX5_isTooOften_98 rfl (fun c_9 => ?_) (fun c_9 => ?_)
          · rw [if_pos c_9] at hE
            refine lv_iconst (v := 0) hx hb dX5_isTooOften_105 rfl ?_
            exact hret 0 () _ _ _ _ dX5_isTooOften_106 rfl hE hP hD hS
          · rw [if_neg c_9] at hE
            refine lv_iconst (v := 1) hx hb dX5_isTooOften_101 rfl ?_
            refine lv_goto (tgt := 106) hx hb dX5_isTooOften_102 rfl ?_
            exact hret 1 () _ _ _ _ dX5_isTooOften_106 rfl hE hP hD hS
        · skip
          rw [if_neg c_8] at hE
          refine lv_lookup (off := 106) (tgt := 107) hx hb dX5_isTooOften_1 (by decide +kernel) ((lv_osw c_1 rfl).trans ((lv_osw c_3 rfl).trans ((lv_osw c_5 rfl).trans ((lv_osw c_8 rfl).trans rfl)))) rfl ?_
          refine lv_aload_n hx hb dX5_isTooOften_107 rfl (lv_at hl 0 rfl) ?_
          refine va_get (D := D) (ci := 5) (v := .int r6) (C := RX5) (T := TX5) (N := 7) hx hb hts iX5 hown hK hP 0 rfl rfl 6 (Nat.le_of_ble_eq_true rfl) (hts _ wd_48) (fun _ h9 => h9) rfl dX5_isTooOften_108 ?_
          exact hret r6 () _ _ _ _ dX5_isTooOften_111 (narrow_b01 h01) hE hP hD hS
end
section
def fw_cX5_readBridges : List (List Nat) := [[43, 180, 0, 88, 3, 42, 4, 16, 60, 182, 0, 62, 184, 0, 91, 43, 4, 181], [4, 181, 0, 48, 4, 61, 28, 16, 6, 162, 0, 57, 42, 180, 0, 9, 154, 0], [154, 0, 50, 42, 182, 0, 40, 16, 44, 160, 0, 41, 42, 89, 180, 0, 25, 4], [25, 4, 96, 181, 0, 25, 43, 180, 0, 88, 28, 42, 4, 16, 60, 182, 0, 62], [0, 62, 184, 0, 91, 43, 28, 4, 96, 181, 0, 48, 132, 2, 1, 167, 255, 199], [255, 199, 177]]
theorem fW_cX5_readBridges : fq_wins 6 cX5_readBridges.data.toList = fw_cX5_readBridges := by decide +kernel
theorem fk_cX5_readBridges_0 : fq_ck cX5_readBridges 0 [43, 180, 0, 88, 3, 42, 4, 16, 60, 182, 0, 62, 184, 0, 91, 43, 4, 181] := fq_of fW_cX5_readBridges 0 rfl rfl
theorem dX5_readBridges_0 : decode cX5_readBridges 0 = .ok (.aload_n 1, 1) := fq_43 fk_cX5_readBridges_0 0 rfl rfl
theorem wd_212 : Cond.fieldLink RX5 88 "QuarrelBridges$Town" "needs" "[I" ∈ BG := BG_at1 80 (by decide +kernel) rfl
theorem dX5_readBridges_1 : decode cX5_readBridges 1 = .ok (.getfield 88, 3) := fq_180 fk_cX5_readBridges_0 1 rfl rfl rfl rfl rfl
theorem dX5_readBridges_4 : decode cX5_readBridges 4 = .ok (.iconst 0, 1) := fq_3 fk_cX5_readBridges_0 4 rfl rfl
theorem dX5_readBridges_5 : decode cX5_readBridges 5 = .ok (.aload_n 0, 1) := fq_42 fk_cX5_readBridges_0 5 rfl rfl
theorem dX5_readBridges_6 : decode cX5_readBridges 6 = .ok (.iconst 1, 1) := fq_4 fk_cX5_readBridges_0 6 rfl rfl
theorem dX5_readBridges_7 : decode cX5_readBridges 7 = .ok (.bipush 60, 2) := fq_16 fk_cX5_readBridges_0 7 rfl rfl rfl rfl
theorem dX5_readBridges_9 : decode cX5_readBridges 9 = .ok (.invokevirtual 62, 3) := fq_182 fk_cX5_readBridges_0 9 rfl rfl rfl rfl rfl
theorem wd_213 : Cond.methodLink RX5 62 yX5_number ∈ BG := BG_at2 130 (by decide +kernel) rfl
theorem wd_214 : Cond.code yX5_number cX5_number 6 (some .int) ∈ BG := BG_at2 133 rfl rfl
theorem wd_215 : Cond.instanceMethod yX5_number ∈ BG := BG_at2 132 (by decide +kernel) rfl
theorem wd_216 : Cond.selects RX5 yX5_number yX5_number ∈ BG := BG_in (by decide +kernel) rfl
theorem okV_X5_number : okV yX5_number cX5_number 6 (some .int) 2 := ⟨⟨wd_214, wd_80, by decide +kernel⟩, wd_215, wd_216⟩
theorem dX5_readBridges_12 : decode cX5_readBridges 12 = .ok (.invokestatic 91, 3) := fq_184 fk_cX5_readBridges_0 12 rfl rfl rfl rfl rfl
theorem dX5_readBridges_15 : decode cX5_readBridges 15 = .ok (.aload_n 1, 1) := fq_43 fk_cX5_readBridges_0 15 rfl rfl
theorem fk_cX5_readBridges_1 : fq_ck cX5_readBridges 16 [4, 181, 0, 48, 4, 61, 28, 16, 6, 162, 0, 57, 42, 180, 0, 9, 154, 0] := fq_of fW_cX5_readBridges 1 rfl rfl
theorem dX5_readBridges_16 : decode cX5_readBridges 16 = .ok (.iconst 1, 1) := fq_4 fk_cX5_readBridges_1 0 rfl rfl
theorem dX5_readBridges_17 : decode cX5_readBridges 17 = .ok (.putfield 48, 3) := fq_181 fk_cX5_readBridges_1 1 rfl rfl rfl rfl rfl
theorem dX5_readBridges_20 : decode cX5_readBridges 20 = .ok (.iconst 1, 1) := fq_4 fk_cX5_readBridges_1 4 rfl rfl
theorem dX5_readBridges_21 : decode cX5_readBridges 21 = .ok (.istore_n 2, 1) := fq_61 fk_cX5_readBridges_1 5 rfl rfl
theorem fk_cX5_readBridges_5 : fq_ck cX5_readBridges 80 [255, 199, 177] := fq_of fW_cX5_readBridges 5 rfl rfl
theorem dX5_readBridges_82 : decode cX5_readBridges 82 = .ok (.return_, 1) := fq_177 fk_cX5_readBridges_5 2 rfl rfl
theorem dX5_readBridges_22 : decode cX5_readBridges 22 = .ok (.iload_n 2, 1) := fq_28 fk_cX5_readBridges_1 6 rfl rfl
theorem dX5_readBridges_23 : decode cX5_readBridges 23 = .ok (.bipush 6, 2) := fq_16 fk_cX5_readBridges_1 7 rfl rfl rfl rfl
theorem dX5_readBridges_25 : decode cX5_readBridges 25 = .ok (.if_icmp .ge 57, 3) := fq_162 fk_cX5_readBridges_1 9 rfl rfl rfl rfl rfl
theorem dX5_readBridges_28 : decode cX5_readBridges 28 = .ok (.aload_n 0, 1) := fq_42 fk_cX5_readBridges_1 12 rfl rfl
theorem dX5_readBridges_29 : decode cX5_readBridges 29 = .ok (.getfield 9, 3) := fq_180 fk_cX5_readBridges_1 13 rfl rfl rfl rfl rfl
theorem fk_cX5_readBridges_2 : fq_ck cX5_readBridges 32 [154, 0, 50, 42, 182, 0, 40, 16, 44, 160, 0, 41, 42, 89, 180, 0, 25, 4] := fq_of fW_cX5_readBridges 2 rfl rfl
theorem dX5_readBridges_32 : decode cX5_readBridges 32 = .ok (.ifCond .ne 50, 3) := fq_154 fk_cX5_readBridges_2 0 rfl rfl rfl rfl rfl
theorem dX5_readBridges_35 : decode cX5_readBridges 35 = .ok (.aload_n 0, 1) := fq_42 fk_cX5_readBridges_2 3 rfl rfl
theorem dX5_readBridges_36 : decode cX5_readBridges 36 = .ok (.invokevirtual 40, 3) := fq_182 fk_cX5_readBridges_2 4 rfl rfl rfl rfl rfl
theorem dX5_readBridges_39 : decode cX5_readBridges 39 = .ok (.bipush 44, 2) := fq_16 fk_cX5_readBridges_2 7 rfl rfl rfl rfl
theorem dX5_readBridges_41 : decode cX5_readBridges 41 = .ok (.if_icmp .ne 41, 3) := fq_160 fk_cX5_readBridges_2 9 rfl rfl rfl rfl rfl
theorem dX5_readBridges_44 : decode cX5_readBridges 44 = .ok (.aload_n 0, 1) := fq_42 fk_cX5_readBridges_2 12 rfl rfl
theorem dX5_readBridges_45 : decode cX5_readBridges 45 = .ok (.dup, 1) := fq_89 fk_cX5_readBridges_2 13 rfl rfl
theorem dX5_readBridges_46 : decode cX5_readBridges 46 = .ok (.getfield 25, 3) := fq_180 fk_cX5_readBridges_2 14 rfl rfl rfl rfl rfl
theorem fk_cX5_readBridges_3 : fq_ck cX5_readBridges 48 [25, 4, 96, 181, 0, 25, 43, 180, 0, 88, 28, 42, 4, 16, 60, 182, 0, 62] := fq_of fW_cX5_readBridges 3 rfl rfl
theorem dX5_readBridges_49 : decode cX5_readBridges 49 = .ok (.iconst 1, 1) := fq_4 fk_cX5_readBridges_3 1 rfl rfl
theorem dX5_readBridges_50 : decode cX5_readBridges 50 = .ok (.iadd, 1) := fq_96 fk_cX5_readBridges_3 2 rfl rfl
theorem dX5_readBridges_51 : decode cX5_readBridges 51 = .ok (.putfield 25, 3) := fq_181 fk_cX5_readBridges_3 3 rfl rfl rfl rfl rfl
theorem dX5_readBridges_54 : decode cX5_readBridges 54 = .ok (.aload_n 1, 1) := fq_43 fk_cX5_readBridges_3 6 rfl rfl
theorem dX5_readBridges_55 : decode cX5_readBridges 55 = .ok (.getfield 88, 3) := fq_180 fk_cX5_readBridges_3 7 rfl rfl rfl rfl rfl
theorem dX5_readBridges_58 : decode cX5_readBridges 58 = .ok (.iload_n 2, 1) := fq_28 fk_cX5_readBridges_3 10 rfl rfl
theorem dX5_readBridges_59 : decode cX5_readBridges 59 = .ok (.aload_n 0, 1) := fq_42 fk_cX5_readBridges_3 11 rfl rfl
theorem dX5_readBridges_60 : decode cX5_readBridges 60 = .ok (.iconst 1, 1) := fq_4 fk_cX5_readBridges_3 12 rfl rfl
theorem dX5_readBridges_61 : decode cX5_readBridges 61 = .ok (.bipush 60, 2) := fq_16 fk_cX5_readBridges_3 13 rfl rfl rfl rfl
theorem dX5_readBridges_63 : decode cX5_readBridges 63 = .ok (.invokevirtual 62, 3) := fq_182 fk_cX5_readBridges_3 15 rfl rfl rfl rfl rfl
theorem fk_cX5_readBridges_4 : fq_ck cX5_readBridges 64 [0, 62, 184, 0, 91, 43, 28, 4, 96, 181, 0, 48, 132, 2, 1, 167, 255, 199] := fq_of fW_cX5_readBridges 4 rfl rfl
theorem dX5_readBridges_66 : decode cX5_readBridges 66 = .ok (.invokestatic 91, 3) := fq_184 fk_cX5_readBridges_4 2 rfl rfl rfl rfl rfl
theorem dX5_readBridges_69 : decode cX5_readBridges 69 = .ok (.aload_n 1, 1) := fq_43 fk_cX5_readBridges_4 5 rfl rfl
theorem dX5_readBridges_70 : decode cX5_readBridges 70 = .ok (.iload_n 2, 1) := fq_28 fk_cX5_readBridges_4 6 rfl rfl
theorem dX5_readBridges_71 : decode cX5_readBridges 71 = .ok (.iconst 1, 1) := fq_4 fk_cX5_readBridges_4 7 rfl rfl
theorem dX5_readBridges_72 : decode cX5_readBridges 72 = .ok (.iadd, 1) := fq_96 fk_cX5_readBridges_4 8 rfl rfl
theorem dX5_readBridges_73 : decode cX5_readBridges 73 = .ok (.putfield 48, 3) := fq_181 fk_cX5_readBridges_4 9 rfl rfl rfl rfl rfl
theorem dX5_readBridges_76 : decode cX5_readBridges 76 = .ok (.iinc 2 1, 3) := fq_132 fk_cX5_readBridges_4 12 rfl rfl rfl rfl rfl
theorem dX5_readBridges_79 : decode cX5_readBridges 79 = .ok (.goto (-57), 3) := fq_167 fk_cX5_readBridges_4 15 rfl rfl rfl rfl rfl
def fw_cX5_readCouple : List (List Nat) := [[43, 180, 0, 82, 61, 43, 180, 0, 95, 28, 42, 3, 16, 99, 182, 0, 62, 184], [62, 184, 0, 91, 3, 62, 29, 43, 180, 0, 66, 162, 0, 38, 29, 158, 0, 9], [0, 9, 42, 16, 44, 182, 0, 78, 43, 180, 0, 98, 28, 8, 104, 29, 96, 42], [96, 42, 3, 16, 9, 182, 0, 62, 184, 0, 91, 132, 3, 1, 167, 255, 216, 43], [216, 43, 28, 4, 96, 181, 0, 82, 177]]
theorem fW_cX5_readCouple : fq_wins 5 cX5_readCouple.data.toList = fw_cX5_readCouple := by decide +kernel
theorem fk_cX5_readCouple_0 : fq_ck cX5_readCouple 0 [43, 180, 0, 82, 61, 43, 180, 0, 95, 28, 42, 3, 16, 99, 182, 0, 62, 184] := fq_of fW_cX5_readCouple 0 rfl rfl
theorem dX5_readCouple_0 : decode cX5_readCouple 0 = .ok (.aload_n 1, 1) := fq_43 fk_cX5_readCouple_0 0 rfl rfl
theorem dX5_readCouple_1 : decode cX5_readCouple 1 = .ok (.getfield 82, 3) := fq_180 fk_cX5_readCouple_0 1 rfl rfl rfl rfl rfl
theorem dX5_readCouple_4 : decode cX5_readCouple 4 = .ok (.istore_n 2, 1) := fq_61 fk_cX5_readCouple_0 4 rfl rfl
theorem dX5_readCouple_5 : decode cX5_readCouple 5 = .ok (.aload_n 1, 1) := fq_43 fk_cX5_readCouple_0 5 rfl rfl
theorem wd_217 : Cond.fieldLink RX5 95 "QuarrelBridges$Town" "grievances" "[I" ∈ BG := BG_at1 84 (by decide +kernel) rfl
theorem dX5_readCouple_6 : decode cX5_readCouple 6 = .ok (.getfield 95, 3) := fq_180 fk_cX5_readCouple_0 6 rfl rfl rfl rfl rfl
theorem dX5_readCouple_9 : decode cX5_readCouple 9 = .ok (.iload_n 2, 1) := fq_28 fk_cX5_readCouple_0 9 rfl rfl
theorem dX5_readCouple_10 : decode cX5_readCouple 10 = .ok (.aload_n 0, 1) := fq_42 fk_cX5_readCouple_0 10 rfl rfl
theorem dX5_readCouple_11 : decode cX5_readCouple 11 = .ok (.iconst 0, 1) := fq_3 fk_cX5_readCouple_0 11 rfl rfl
theorem dX5_readCouple_12 : decode cX5_readCouple 12 = .ok (.bipush 99, 2) := fq_16 fk_cX5_readCouple_0 12 rfl rfl rfl rfl
theorem dX5_readCouple_14 : decode cX5_readCouple 14 = .ok (.invokevirtual 62, 3) := fq_182 fk_cX5_readCouple_0 14 rfl rfl rfl rfl rfl
theorem fk_cX5_readCouple_1 : fq_ck cX5_readCouple 16 [62, 184, 0, 91, 3, 62, 29, 43, 180, 0, 66, 162, 0, 38, 29, 158, 0, 9] := fq_of fW_cX5_readCouple 1 rfl rfl
theorem dX5_readCouple_17 : decode cX5_readCouple 17 = .ok (.invokestatic 91, 3) := fq_184 fk_cX5_readCouple_1 1 rfl rfl rfl rfl rfl
theorem dX5_readCouple_20 : decode cX5_readCouple 20 = .ok (.iconst 0, 1) := fq_3 fk_cX5_readCouple_1 4 rfl rfl
theorem dX5_readCouple_21 : decode cX5_readCouple 21 = .ok (.istore_n 3, 1) := fq_62 fk_cX5_readCouple_1 5 rfl rfl
theorem fk_cX5_readCouple_4 : fq_ck cX5_readCouple 64 [216, 43, 28, 4, 96, 181, 0, 82, 177] := fq_of fW_cX5_readCouple 4 rfl rfl
theorem dX5_readCouple_65 : decode cX5_readCouple 65 = .ok (.aload_n 1, 1) := fq_43 fk_cX5_readCouple_4 1 rfl rfl
theorem dX5_readCouple_66 : decode cX5_readCouple 66 = .ok (.iload_n 2, 1) := fq_28 fk_cX5_readCouple_4 2 rfl rfl
theorem dX5_readCouple_67 : decode cX5_readCouple 67 = .ok (.iconst 1, 1) := fq_4 fk_cX5_readCouple_4 3 rfl rfl
theorem dX5_readCouple_68 : decode cX5_readCouple 68 = .ok (.iadd, 1) := fq_96 fk_cX5_readCouple_4 4 rfl rfl
theorem dX5_readCouple_69 : decode cX5_readCouple 69 = .ok (.putfield 82, 3) := fq_181 fk_cX5_readCouple_4 5 rfl rfl rfl rfl rfl
theorem dX5_readCouple_72 : decode cX5_readCouple 72 = .ok (.return_, 1) := fq_177 fk_cX5_readCouple_4 8 rfl rfl
theorem dX5_readCouple_22 : decode cX5_readCouple 22 = .ok (.iload_n 3, 1) := fq_29 fk_cX5_readCouple_1 6 rfl rfl
theorem dX5_readCouple_23 : decode cX5_readCouple 23 = .ok (.aload_n 1, 1) := fq_43 fk_cX5_readCouple_1 7 rfl rfl
theorem wd_218 : Cond.fieldLink RX5 66 "QuarrelBridges$Town" "themes" "I" ∈ BG := BG_at1 66 (by decide +kernel) rfl
theorem dX5_readCouple_24 : decode cX5_readCouple 24 = .ok (.getfield 66, 3) := fq_180 fk_cX5_readCouple_1 8 rfl rfl rfl rfl rfl
theorem dX5_readCouple_27 : decode cX5_readCouple 27 = .ok (.if_icmp .ge 38, 3) := fq_162 fk_cX5_readCouple_1 11 rfl rfl rfl rfl rfl
theorem dX5_readCouple_30 : decode cX5_readCouple 30 = .ok (.iload_n 3, 1) := fq_29 fk_cX5_readCouple_1 14 rfl rfl
theorem dX5_readCouple_31 : decode cX5_readCouple 31 = .ok (.ifCond .le 9, 3) := fq_158 fk_cX5_readCouple_1 15 rfl rfl rfl rfl rfl
theorem fk_cX5_readCouple_2 : fq_ck cX5_readCouple 32 [0, 9, 42, 16, 44, 182, 0, 78, 43, 180, 0, 98, 28, 8, 104, 29, 96, 42] := fq_of fW_cX5_readCouple 2 rfl rfl
theorem dX5_readCouple_40 : decode cX5_readCouple 40 = .ok (.aload_n 1, 1) := fq_43 fk_cX5_readCouple_2 8 rfl rfl
theorem wd_219 : Cond.fieldLink RX5 98 "QuarrelBridges$Town" "forces" "[I" ∈ BG := BG_at1 87 (by decide +kernel) rfl
theorem dX5_readCouple_41 : decode cX5_readCouple 41 = .ok (.getfield 98, 3) := fq_180 fk_cX5_readCouple_2 9 rfl rfl rfl rfl rfl
theorem dX5_readCouple_44 : decode cX5_readCouple 44 = .ok (.iload_n 2, 1) := fq_28 fk_cX5_readCouple_2 12 rfl rfl
theorem dX5_readCouple_45 : decode cX5_readCouple 45 = .ok (.iconst 5, 1) := fq_8 fk_cX5_readCouple_2 13 rfl rfl
theorem dX5_readCouple_46 : decode cX5_readCouple 46 = .ok (.imul, 1) := fq_104 fk_cX5_readCouple_2 14 rfl rfl
theorem dX5_readCouple_47 : decode cX5_readCouple 47 = .ok (.iload_n 3, 1) := fq_29 fk_cX5_readCouple_2 15 rfl rfl
theorem fk_cX5_readCouple_3 : fq_ck cX5_readCouple 48 [96, 42, 3, 16, 9, 182, 0, 62, 184, 0, 91, 132, 3, 1, 167, 255, 216, 43] := fq_of fW_cX5_readCouple 3 rfl rfl
theorem dX5_readCouple_48 : decode cX5_readCouple 48 = .ok (.iadd, 1) := fq_96 fk_cX5_readCouple_3 0 rfl rfl
theorem dX5_readCouple_49 : decode cX5_readCouple 49 = .ok (.aload_n 0, 1) := fq_42 fk_cX5_readCouple_3 1 rfl rfl
theorem dX5_readCouple_50 : decode cX5_readCouple 50 = .ok (.iconst 0, 1) := fq_3 fk_cX5_readCouple_3 2 rfl rfl
theorem dX5_readCouple_51 : decode cX5_readCouple 51 = .ok (.bipush 9, 2) := fq_16 fk_cX5_readCouple_3 3 rfl rfl rfl rfl
theorem dX5_readCouple_53 : decode cX5_readCouple 53 = .ok (.invokevirtual 62, 3) := fq_182 fk_cX5_readCouple_3 5 rfl rfl rfl rfl rfl
theorem dX5_readCouple_56 : decode cX5_readCouple 56 = .ok (.invokestatic 91, 3) := fq_184 fk_cX5_readCouple_3 8 rfl rfl rfl rfl rfl
theorem dX5_readCouple_59 : decode cX5_readCouple 59 = .ok (.iinc 3 1, 3) := fq_132 fk_cX5_readCouple_3 11 rfl rfl rfl rfl rfl
theorem dX5_readCouple_62 : decode cX5_readCouple 62 = .ok (.goto (-40), 3) := fq_167 fk_cX5_readCouple_3 14 rfl rfl rfl rfl rfl
theorem dX5_readCouple_34 : decode cX5_readCouple 34 = .ok (.aload_n 0, 1) := fq_42 fk_cX5_readCouple_2 2 rfl rfl
theorem dX5_readCouple_35 : decode cX5_readCouple 35 = .ok (.bipush 44, 2) := fq_16 fk_cX5_readCouple_2 3 rfl rfl rfl rfl
theorem dX5_readCouple_37 : decode cX5_readCouple 37 = .ok (.invokevirtual 78, 3) := fq_182 fk_cX5_readCouple_2 5 rfl rfl rfl rfl rfl
theorem wd_220 : Cond.methodLink RX5 78 yX5_expect ∈ BG := BG_at2 143 (by decide +kernel) rfl
theorem wd_221 : Cond.code yX5_expect cX5_expect 2 none ∈ BG := BG_at2 146 rfl rfl
theorem wd_222 : Cond.instanceMethod yX5_expect ∈ BG := BG_at2 145 (by decide +kernel) rfl
theorem wd_223 : Cond.selects RX5 yX5_expect yX5_expect ∈ BG := BG_in (by decide +kernel) rfl
theorem okV_X5_expect : okV yX5_expect cX5_expect 2 none 1 := ⟨⟨wd_221, wd_80, by decide +kernel⟩, wd_222, wd_223⟩
def fw_cX5_readBarge : List (List Nat) := [[43, 180, 0, 85, 61, 43, 180, 0, 101, 28, 42, 3, 43, 180, 0, 48, 4, 100], [4, 100, 182, 0, 62, 184, 0, 91, 43, 180, 0, 104, 28, 42, 4, 17, 1, 44], [1, 44, 182, 0, 62, 184, 0, 91, 43, 28, 4, 96, 181, 0, 85, 177]]
theorem fW_cX5_readBarge : fq_wins 3 cX5_readBarge.data.toList = fw_cX5_readBarge := by decide +kernel
theorem fk_cX5_readBarge_0 : fq_ck cX5_readBarge 0 [43, 180, 0, 85, 61, 43, 180, 0, 101, 28, 42, 3, 43, 180, 0, 48, 4, 100] := fq_of fW_cX5_readBarge 0 rfl rfl
theorem dX5_readBarge_0 : decode cX5_readBarge 0 = .ok (.aload_n 1, 1) := fq_43 fk_cX5_readBarge_0 0 rfl rfl
theorem dX5_readBarge_1 : decode cX5_readBarge 1 = .ok (.getfield 85, 3) := fq_180 fk_cX5_readBarge_0 1 rfl rfl rfl rfl rfl
theorem dX5_readBarge_4 : decode cX5_readBarge 4 = .ok (.istore_n 2, 1) := fq_61 fk_cX5_readBarge_0 4 rfl rfl
theorem dX5_readBarge_5 : decode cX5_readBarge 5 = .ok (.aload_n 1, 1) := fq_43 fk_cX5_readBarge_0 5 rfl rfl
theorem wd_224 : Cond.fieldLink RX5 101 "QuarrelBridges$Town" "upTo" "[I" ∈ BG := BG_at1 90 (by decide +kernel) rfl
theorem dX5_readBarge_6 : decode cX5_readBarge 6 = .ok (.getfield 101, 3) := fq_180 fk_cX5_readBarge_0 6 rfl rfl rfl rfl rfl
theorem dX5_readBarge_9 : decode cX5_readBarge 9 = .ok (.iload_n 2, 1) := fq_28 fk_cX5_readBarge_0 9 rfl rfl
theorem dX5_readBarge_10 : decode cX5_readBarge 10 = .ok (.aload_n 0, 1) := fq_42 fk_cX5_readBarge_0 10 rfl rfl
theorem dX5_readBarge_11 : decode cX5_readBarge 11 = .ok (.iconst 0, 1) := fq_3 fk_cX5_readBarge_0 11 rfl rfl
theorem dX5_readBarge_12 : decode cX5_readBarge 12 = .ok (.aload_n 1, 1) := fq_43 fk_cX5_readBarge_0 12 rfl rfl
theorem dX5_readBarge_13 : decode cX5_readBarge 13 = .ok (.getfield 48, 3) := fq_180 fk_cX5_readBarge_0 13 rfl rfl rfl rfl rfl
theorem fk_cX5_readBarge_1 : fq_ck cX5_readBarge 16 [4, 100, 182, 0, 62, 184, 0, 91, 43, 180, 0, 104, 28, 42, 4, 17, 1, 44] := fq_of fW_cX5_readBarge 1 rfl rfl
theorem dX5_readBarge_16 : decode cX5_readBarge 16 = .ok (.iconst 1, 1) := fq_4 fk_cX5_readBarge_1 0 rfl rfl
theorem dX5_readBarge_17 : decode cX5_readBarge 17 = .ok (.isub, 1) := fq_100 fk_cX5_readBarge_1 1 rfl rfl
theorem dX5_readBarge_18 : decode cX5_readBarge 18 = .ok (.invokevirtual 62, 3) := fq_182 fk_cX5_readBarge_1 2 rfl rfl rfl rfl rfl
theorem dX5_readBarge_21 : decode cX5_readBarge 21 = .ok (.invokestatic 91, 3) := fq_184 fk_cX5_readBarge_1 5 rfl rfl rfl rfl rfl
theorem dX5_readBarge_24 : decode cX5_readBarge 24 = .ok (.aload_n 1, 1) := fq_43 fk_cX5_readBarge_1 8 rfl rfl
theorem wd_225 : Cond.fieldLink RX5 104 "QuarrelBridges$Town" "tides" "[I" ∈ BG := BG_at1 94 (by decide +kernel) rfl
theorem dX5_readBarge_25 : decode cX5_readBarge 25 = .ok (.getfield 104, 3) := fq_180 fk_cX5_readBarge_1 9 rfl rfl rfl rfl rfl
theorem dX5_readBarge_28 : decode cX5_readBarge 28 = .ok (.iload_n 2, 1) := fq_28 fk_cX5_readBarge_1 12 rfl rfl
theorem dX5_readBarge_29 : decode cX5_readBarge 29 = .ok (.aload_n 0, 1) := fq_42 fk_cX5_readBarge_1 13 rfl rfl
theorem dX5_readBarge_30 : decode cX5_readBarge 30 = .ok (.iconst 1, 1) := fq_4 fk_cX5_readBarge_1 14 rfl rfl
theorem dX5_readBarge_31 : decode cX5_readBarge 31 = .ok (.sipush 300, 3) := fq_17 fk_cX5_readBarge_1 15 rfl rfl rfl rfl rfl
theorem fk_cX5_readBarge_2 : fq_ck cX5_readBarge 32 [1, 44, 182, 0, 62, 184, 0, 91, 43, 28, 4, 96, 181, 0, 85, 177] := fq_of fW_cX5_readBarge 2 rfl rfl
theorem dX5_readBarge_34 : decode cX5_readBarge 34 = .ok (.invokevirtual 62, 3) := fq_182 fk_cX5_readBarge_2 2 rfl rfl rfl rfl rfl
theorem dX5_readBarge_37 : decode cX5_readBarge 37 = .ok (.invokestatic 91, 3) := fq_184 fk_cX5_readBarge_2 5 rfl rfl rfl rfl rfl
theorem dX5_readBarge_40 : decode cX5_readBarge 40 = .ok (.aload_n 1, 1) := fq_43 fk_cX5_readBarge_2 8 rfl rfl
theorem dX5_readBarge_41 : decode cX5_readBarge 41 = .ok (.iload_n 2, 1) := fq_28 fk_cX5_readBarge_2 9 rfl rfl
theorem dX5_readBarge_42 : decode cX5_readBarge 42 = .ok (.iconst 1, 1) := fq_4 fk_cX5_readBarge_2 10 rfl rfl
theorem dX5_readBarge_43 : decode cX5_readBarge 43 = .ok (.iadd, 1) := fq_96 fk_cX5_readBarge_2 11 rfl rfl
theorem dX5_readBarge_44 : decode cX5_readBarge 44 = .ok (.putfield 85, 3) := fq_181 fk_cX5_readBarge_2 12 rfl rfl rfl rfl rfl
theorem dX5_readBarge_47 : decode cX5_readBarge 47 = .ok (.return_, 1) := fq_177 fk_cX5_readBarge_2 15 rfl rfl
noncomputable def f_e_readBridges_x5_22 (r0 : Int32) (r1 : Int32) (r3 : Int32) (r4 : Int32) (r5 : Int32) (r6 : Int32) (ftx : Nat → Int32) (t0 : Int32) (t1 : Int32) (t2 : Int32) (t3 : Int32) (t4 : Int32) (fta : Nat → Int32) (n : Nat) : Int32 → Int32 → Int32 → Int32 → Int32 → (Nat → Int32) → Int32 × Int32 × Int32 × Int32 × Int32 × (Nat → Int32) := Nat.rec (motive := fun _ => Int32 → Int32 → Int32 → Int32 → Int32 → (Nat → Int32) → Int32 × Int32 × Int32 × Int32 × Int32 × (Nat → Int32)) (fun w_8l2 w_8m0 w_8m1 w_8m2 w_8m3 w_8m4 => (w_8l2, w_8m0, w_8m1, w_8m2, w_8m3, w_8m4)) (fun n ih w_8l2 w_8m0 w_8m1 w_8m2 w_8m3 w_8m4 => (if 6 ≤ w_8l2 then (w_8l2, w_8m0, w_8m1, w_8m2, w_8m3, w_8m4) else (if w_8m0 = 0 then (match (f_e_next_x5 w_8m0 w_8m1 r3 w_8m2 r5 r6 ftx) with | (r_12, u_11) => (if r_12 = 44 then (match (f_e_number_x5 w_8m0 w_8m1 r3 (u_11 + 1) r5 r6 ftx 1 60) with | (r_15, o_16, o_17, o_18) => (ih (w_8l2 + 1) o_16 o_17 o_18 (w_8l2 + 1) (putF 6 w_8m4 w_8l2 r_15))) else (w_8l2, w_8m0, w_8m1, u_11, w_8m3, w_8m4))) else (w_8l2, w_8m0, w_8m1, w_8m2, w_8m3, w_8m4)))) n
theorem f_e_readBridges_x5_22_s (r0 : Int32) (r1 : Int32) (r3 : Int32) (r4 : Int32) (r5 : Int32) (r6 : Int32) (ftx : Nat → Int32) (t0 : Int32) (t1 : Int32) (t2 : Int32) (t3 : Int32) (t4 : Int32) (fta : Nat → Int32) (n : Nat) (w_8l2 : Int32) (w_8m0 : Int32) (w_8m1 : Int32) (w_8m2 : Int32) (w_8m3 : Int32) (w_8m4 : (Nat → Int32)) : f_e_readBridges_x5_22 r0 r1 r3 r4 r5 r6 ftx t0 t1 t2 t3 t4 fta (n + 1) w_8l2 w_8m0 w_8m1 w_8m2 w_8m3 w_8m4 = (if 6 ≤ w_8l2 then (w_8l2, w_8m0, w_8m1, w_8m2, w_8m3, w_8m4) else (if w_8m0 = 0 then (match (f_e_next_x5 w_8m0 w_8m1 r3 w_8m2 r5 r6 ftx) with | (r_12, u_11) => (if r_12 = 44 then (match (f_e_number_x5 w_8m0 w_8m1 r3 (u_11 + 1) r5 r6 ftx 1 60) with | (r_15, o_16, o_17, o_18) => (f_e_readBridges_x5_22 r0 r1 r3 r4 r5 r6 ftx t0 t1 t2 t3 t4 fta n (w_8l2 + 1) o_16 o_17 o_18 (w_8l2 + 1) (putF 6 w_8m4 w_8l2 r_15))) else (w_8l2, w_8m0, w_8m1, u_11, w_8m3, w_8m4))) else (w_8l2, w_8m0, w_8m1, w_8m2, w_8m3, w_8m4))) := rfl
noncomputable def f_e_readBridges_x5 (r0 : Int32) (r1 : Int32) (r3 : Int32) (r4 : Int32) (r5 : Int32) (r6 : Int32) (ftx : Nat → Int32) (t0 : Int32) (t1 : Int32) (t2 : Int32) (t3 : Int32) (t4 : Int32) (fta : Nat → Int32) : Int32 × Int32 × Int32 × Int32 × (Nat → Int32) := (match (f_e_number_x5 r0 r1 r3 r4 r5 r6 ftx 1 60) with | (r_2, o_3, o_4, o_5) => (match (f_e_readBridges_x5_22 r0 r1 r3 r4 r5 r6 ftx t0 t1 t2 t3 t4 fta (((6 : Int32).toInt - (1 : Int32).toInt).toNat + 1) 1 o_3 o_4 o_5 1 (putF 6 fta 0 r_2)) with | (w_8l2, w_8m0, w_8m1, w_8m2, w_8m3, w_8m4) => (w_8m0, w_8m1, w_8m2, w_8m3, w_8m4)))
def rm_e_readBridges_x5 : Room := { frames := 3, cells := 0, slots := 0, locals := 66 }
set_option maxHeartbeats 4000000 in
set_option maxRecDepth 100000 in
theorem e_readBridges_x5 {l : Launch} {D : va_G} {cI cZ : ClassId} {sz : Nat} (rd x t ta tb tc td te : Nat) (r0 : Int32) (r1 : Int32) (r3 : Int32) (r4 : Int32) (r5 : Int32) (r6 : Int32) (ftx : Nat → Int32) (t0 : Int32) (t1 : Int32) (t2 : Int32) (t3 : Int32) (t4 : Int32) (fta : Nat → Int32) : KV l yX5_readBridges cX5_readBridges 3 rm_e_readBridges_x5 D cI cZ [.ref rd, .ref t] sz [(rd, .inr (5, [.int r0, .int r1, .ref x, .int r3, .int r4, .int r5, .int r6])), (x, .inl (cI, 240, .inl ftx)), (t, .inr (8, [.int t0, .int t1, .int t2, .int t3, .int t4, .ref ta, .ref tb, .ref tc, .ref td, .ref te])), (ta, .inl (cI, 6, .inl fta))] (fun (u : Int32 × Int32 × Int32 × Int32 × (Nat → Int32)) => u = f_e_readBridges_x5 r0 r1 r3 r4 r5 r6 ftx t0 t1 t2 t3 t4 fta) (fun (u : Int32 × Int32 × Int32 × Int32 × (Nat → Int32)) => [(rd, .inr (5, [.int (u.1), .int (u.2.1), .ref x, .int r3, .int (u.2.2.1), .int r5, .int r6])), (x, .inl (cI, 240, .inl ftx)), (t, .inr (8, [.int (u.2.2.2.1), .int t1, .int t2, .int t3, .int t4, .ref ta, .ref tb, .ref tc, .ref td, .ref te])), (ta, .inl (cI, 6, .inl u.2.2.2.2))]) := by
  refine KV.go rfl (Nat.le_of_ble_eq_true rfl) ?_
  intro p e s m args below meth c ls A Q hx hb hml hts hown hin hP hK hD hS hA hN hl hret
  have hl : lv_has ls 3 [(0, .ref rd), (1, .ref t)] := hl
  obtain ⟨RES, hE⟩ : ∃ xRES, f_e_readBridges_x5 r0 r1 r3 r4 r5 r6 ftx t0 t1 t2 t3 t4 fta = xRES := ⟨_, rfl⟩
  rw [hE] at hret
  rw [f_e_readBridges_x5] at hE
  refine lv_aload_n hx hb dX5_readBridges_0 rfl (lv_at hl 1 rfl) ?_
  refine va_get (D := D) (ci := 8) (v := .ref ta) (C := RX8) (T := TX8) (N := 10) hx hb hts iX8 hown hK hP 2 rfl rfl 5 (Nat.le_of_ble_eq_true rfl) (hts _ wd_212) (fun _ h9 => h9) rfl dX5_readBridges_1 ?_
  refine lv_iconst (v := 0) hx hb dX5_readBridges_4 rfl ?_
  refine lv_aload_n hx hb dX5_readBridges_5 rfl (lv_at hl 0 rfl) ?_
  refine lv_iconst (v := 1) hx hb dX5_readBridges_6 rfl ?_
  refine lv_bipush (v := 60) hx hb dX5_readBridges_7 rfl ?_
  refine cVi (wr := [(t, .inr (8, [.int t0, .int t1, .int t2, .int t3, .int t4, .ref ta, .ref tb, .ref tc, .ref td, .ref te])), (ta, .inl (cI, 6, .inl fta))]) (rest := [.int 0, .ref ta]) (e_number_x5 rd x r0 r1 r3 r4 r5 r6 ftx 1 60) okV_X5_number wd_213 hx hb hml hown hts hK hP hD hS hA hN hl.1 [0, 1] [2, 3] rfl rfl rfl rfl (of_decide_eq_true rfl) rfl rfl rfl (Nat.le_of_ble_eq_true rfl) (Nat.le_of_ble_eq_true rfl) (Nat.le_of_ble_eq_true rfl) (Nat.le_of_ble_eq_true rfl) (Nat.le_of_ble_eq_true rfl) dX5_readBridges_9 (fun r_2 u_1 H locs hw_u_1 hP hD hS => ?_)
  obtain ⟨o_3, o_4, o_5⟩ := u_1
  replace hw_u_1 : (r_2, o_3, o_4, o_5) = (f_e_number_x5 r0 r1 r3 r4 r5 r6 ftx 1 60) := hw_u_1
  rw [← hw_u_1] at hE
  replace hE : (match (f_e_readBridges_x5_22 r0 r1 r3 r4 r5 r6 ftx t0 t1 t2 t3 t4 fta (((6 : Int32).toInt - (1 : Int32).toInt).toNat + 1) 1 o_3 o_4 o_5 1 (putF 6 fta 0 r_2)) with | (w_8l2, w_8m0, w_8m1, w_8m2, w_8m3, w_8m4) => (w_8m0, w_8m1, w_8m2, w_8m3, w_8m4)) = RES := hE
  have hP : va_P D classes [(t, .inr (8, [.int t0, .int t1, .int t2, .int t3, .int t4, .ref ta, .ref tb, .ref tc, .ref td, .ref te])), (ta, .inl (cI, 6, .inl fta)), (rd, .inr (5, [.int o_3, .int o_4, .ref x, .int r3, .int o_5, .int r5, .int r6])), (x, .inl (cI, 240, .inl ftx))] H := hP
  have hD : va_D A [(t, .inr (8, [.int t0, .int t1, .int t2, .int t3, .int t4, .ref ta, .ref tb, .ref tc, .ref td, .ref te])), (ta, .inl (cI, 6, .inl fta)), (rd, .inr (5, [.int o_3, .int o_4, .ref x, .int r3, .int o_5, .int r5, .int r6])), (x, .inl (cI, 240, .inl ftx))] := hD
  refine cNv (wr := [(t, .inr (8, [.int t0, .int t1, .int t2, .int t3, .int t4, .ref ta, .ref tb, .ref tc, .ref td, .ref te])), (rd, .inr (5, [.int o_3, .int o_4, .ref x, .int r3, .int o_5, .int r5, .int r6])), (x, .inl (cI, 240, .inl ftx))]) (rest := []) (k_put ta 6 fta 0 r_2 (of_decide_eq_true rfl)) okS_X9_put 15 rfl hx hb hml hown hts hK hP hD hS hA hN hl.1 [1] [0, 2, 3] rfl rfl rfl rfl (by decide) rfl (Nat.le_of_ble_eq_true rfl) (Nat.le_of_ble_eq_true rfl) (Nat.le_of_ble_eq_true rfl) (Nat.le_of_ble_eq_true rfl) (Nat.le_of_ble_eq_true rfl) dX5_readBridges_12 (fun u_6 H locs hw_u_6 hP hD hS => ?_)
  have hP : va_P D classes [(t, .inr (8, [.int t0, .int t1, .int t2, .int t3, .int t4, .ref ta, .ref tb, .ref tc, .ref td, .ref te])), (rd, .inr (5, [.int o_3, .int o_4, .ref x, .int r3, .int o_5, .int r5, .int r6])), (x, .inl (cI, 240, .inl ftx)), (ta, .inl (cI, 6, .inl (putF 6 fta 0 r_2)))] H := hP
  have hD : va_D A [(t, .inr (8, [.int t0, .int t1, .int t2, .int t3, .int t4, .ref ta, .ref tb, .ref tc, .ref td, .ref te])), (rd, .inr (5, [.int o_3, .int o_4, .ref x, .int r3, .int o_5, .int r5, .int r6])), (x, .inl (cI, 240, .inl ftx)), (ta, .inl (cI, 6, .inl (putF 6 fta 0 r_2)))] := hD
  refine lv_aload_n hx hb dX5_readBridges_15 rfl (lv_at hl 1 rfl) ?_
  refine lv_iconst (v := 1) hx hb dX5_readBridges_16 rfl ?_
  refine va_put (D := D) (ci := 8) (v := .int 1) (ty := .int) (C := RX8) (T := TX8) (N := 10) hx hb hts iX8 tyX8 tyX8_ok nmX8 hown hK hP hD hS 0 rfl rfl 0 (Nat.le_of_ble_eq_true rfl) (hts _ wd_209) (fun _ h9 => h9) rfl (by decide +kernel) rfl rfl (Nat.le_of_ble_eq_true rfl) dX5_readBridges_17 (fun H locs hP hD hS => ?_)
  have hP : va_P D classes [(t, .inr (8, [.int 1, .int t1, .int t2, .int t3, .int t4, .ref ta, .ref tb, .ref tc, .ref td, .ref te])), (rd, .inr (5, [.int o_3, .int o_4, .ref x, .int r3, .int o_5, .int r5, .int r6])), (x, .inl (cI, 240, .inl ftx)), (ta, .inl (cI, 6, .inl (putF 6 fta 0 r_2)))] H := hP
  have hD : va_D A [(t, .inr (8, [.int 1, .int t1, .int t2, .int t3, .int t4, .ref ta, .ref tb, .ref tc, .ref td, .ref te])), (rd, .inr (5, [.int o_3, .int o_4, .ref x, .int r3, .int o_5, .int r5, .int r6])), (x, .inl (cI, 240, .inl ftx)), (ta, .inl (cI, 6, .inl (putF 6 fta 0 r_2)))] := hD
  refine lv_iconst (v := 1) hx hb dX5_readBridges_20 rfl ?_
  refine lv_istore_n (lv' := [(2, .int 1), (0, .ref rd), (1, .ref t)]) hx hb dX5_readBridges_21 rfl hl (Nat.le_of_ble_eq_true rfl) rfl (fun ls hl => ?_)
  have ex_22_w_8 : ∀ (w_8l2 : Int32) (w_8m0 : Int32) (w_8m1 : Int32) (w_8m2 : Int32) (w_8m3 : Int32) (w_8m4 : (Nat → Int32)) (H : Heap) (locs : List Loc) (ls : Array Slot), va_P D classes [(t, .inr (8, [.int w_8m3, .int t1, .int t2, .int t3, .int t4, .ref ta, .ref tb, .ref tc, .ref td, .ref te])), (rd, .inr (5, [.int w_8m0, .int w_8m1, .ref x, .int r3, .int w_8m2, .int r5, .int r6])), (x, .inl (cI, 240, .inl ftx)), (ta, .inl (cI, 6, .inl w_8m4))] H → va_D A [(t, .inr (8, [.int w_8m3, .int t1, .int t2, .int t3, .int t4, .ref ta, .ref tb, .ref tc, .ref td, .ref te])), (rd, .inr (5, [.int w_8m0, .int w_8m1, .ref x, .int r3, .int w_8m2, .int r5, .int r6])), (x, .inl (cI, 240, .inl ftx)), (ta, .inl (cI, 6, .inl w_8m4))] → va_S A s.heap H locs → lv_has ls 3 [(2, .int w_8l2), (0, .ref rd), (1, .ref t)] → ((w_8m0, w_8m1, w_8m2, w_8m3, w_8m4)) = RES → W p l e rm_e_readBridges_x5 s m args below meth c H locs 0 0 Q (F0 m 82 ls []) := by
    intro w_8l2 w_8m0 w_8m1 w_8m2 w_8m3 w_8m4 H locs ls hP hD hS hl hE
    exact hret (w_8m0, w_8m1, w_8m2, w_8m3, w_8m4) _ _ _ _ dX5_readBridges_82 hE (cutP (isC := [1, 2, 0, 3]) hP rfl) (cutD (isC := [1, 2, 0, 3]) hD rfl rfl) hS
  have lp_22_w_8 : ∀ (n_w_8 : Nat) (w_8l2 : Int32) (w_8m0 : Int32) (w_8m1 : Int32) (w_8m2 : Int32) (w_8m3 : Int32) (w_8m4 : (Nat → Int32)) (H : Heap) (locs : List Loc) (ls : Array Slot), va_P D classes [(t, .inr (8, [.int w_8m3, .int t1, .int t2, .int t3, .int t4, .ref ta, .ref tb, .ref tc, .ref td, .ref te])), (rd, .inr (5, [.int w_8m0, .int w_8m1, .ref x, .int r3, .int w_8m2, .int r5, .int r6])), (x, .inl (cI, 240, .inl ftx)), (ta, .inl (cI, 6, .inl w_8m4))] H → va_D A [(t, .inr (8, [.int w_8m3, .int t1, .int t2, .int t3, .int t4, .ref ta, .ref tb, .ref tc, .ref td, .ref te])), (rd, .inr (5, [.int w_8m0, .int w_8m1, .ref x, .int r3, .int w_8m2, .int r5, .int r6])), (x, .inl (cI, 240, .inl ftx)), (ta, .inl (cI, 6, .inl w_8m4))] → va_S A s.heap H locs → lv_has ls 3 [(2, .int w_8l2), (0, .ref rd), (1, .ref t)] → ((6 : Int32).toInt - (w_8l2 : Int32).toInt).toNat < n_w_8 → (match (f_e_readBridges_x5_22 r0 r1 r3 r4 r5 r6 ftx t0 t1 t2 t3 t4 fta n_w_8 w_8l2 w_8m0 w_8m1 w_8m2 w_8m3 w_8m4) with | (w_8l2, w_8m0, w_8m1, w_8m2, w_8m3, w_8m4) => (w_8m0, w_8m1, w_8m2, w_8m3, w_8m4)) = RES → W p l e rm_e_readBridges_x5 s m args below meth c H locs 0 0 Q (F0 m 22 ls []) := by
    intro n_w_8
    induction n_w_8 with
    | zero => intro w_8l2 w_8m0 w_8m1 w_8m2 w_8m3 w_8m4 H locs ls hP hD hS hl hm; exact absurd hm (Nat.not_lt_zero _)
    | succ n_w_8 ih_w_8 =>
      intro w_8l2 w_8m0 w_8m1 w_8m2 w_8m3 w_8m4 H locs ls hP hD hS hl hm hE
      rw [f_e_readBridges_x5_22_s] at hE
      refine lv_iload_n hx hb dX5_readBridges_22 rfl (lv_at hl 0 rfl) ?_
      refine lv_bipush (v := 6) hx hb dX5_readBridges_23 rfl ?_
      refine lv_icmp_ge (tgt := 82) hx hb dX5_readBridges_25 rfl (fun c_9 => ?_) (fun c_9 => ?_)
      · rw [if_pos c_9] at hE
        exact ex_22_w_8 w_8l2 w_8m0 w_8m1 w_8m2 w_8m3 w_8m4 _ _ ls hP hD hS (lv_sub hl [0, 1, 2] rfl) hE
      · rw [if_neg c_9] at hE
        refine lv_aload_n hx hb dX5_readBridges_28 rfl (lv_at hl 1 rfl) ?_
        refine va_get (D := D) (ci := 5) (v := .int w_8m0) (C := RX5) (T := TX5) (N := 7) hx hb hts iX5 hown hK hP 1 rfl rfl 0 (Nat.le_of_ble_eq_true rfl) (hts _ wd_42) (fun _ h9 => h9) rfl dX5_readBridges_29 ?_
        refine lv_if_ne (tgt := 82) hx hb dX5_readBridges_32 rfl (fun c_10 => ?_) (fun c_10 => ?_)
        · rw [if_neg c_10] at hE
          exact ex_22_w_8 w_8l2 w_8m0 w_8m1 w_8m2 w_8m3 w_8m4 _ _ ls hP hD hS (lv_sub hl [0, 1, 2] rfl) hE
        · rw [if_pos c_10] at hE
          refine lv_aload_n hx hb dX5_readBridges_35 rfl (lv_at hl 1 rfl) ?_
          refine cVi (wr := [(t, .inr (8, [.int w_8m3, .int t1, .int t2, .int t3, .int t4, .ref ta, .ref tb, .ref tc, .ref td, .ref te])), (ta, .inl (cI, 6, .inl w_8m4))]) (rest := []) (e_next_x5 rd x w_8m0 w_8m1 r3 w_8m2 r5 r6 ftx) okV_X5_next wd_197 hx hb hml hown hts hK hP hD hS hA hN hl.1 [1, 2] [0, 3] rfl rfl rfl rfl (of_decide_eq_true rfl) rfl rfl rfl (Nat.le_of_ble_eq_true rfl) (Nat.le_of_ble_eq_true rfl) (Nat.le_of_ble_eq_true rfl) (Nat.le_of_ble_eq_true rfl) (Nat.le_of_ble_eq_true rfl) dX5_readBridges_36 (fun r_12 u_11 H locs hw_u_11 hP hD hS => ?_)
          replace hw_u_11 : (r_12, u_11) = (f_e_next_x5 w_8m0 w_8m1 r3 w_8m2 r5 r6 ftx) := hw_u_11
          rw [← hw_u_11] at hE
          replace hE : (match (if r_12 = 44 then (match (f_e_number_x5 w_8m0 w_8m1 r3 (u_11 + 1) r5 r6 ftx 1 60) with | (r_15, o_16, o_17, o_18) => (f_e_readBridges_x5_22 r0 r1 r3 r4 r5 r6 ftx t0 t1 t2 t3 t4 fta n_w_8 (w_8l2 + 1) o_16 o_17 o_18 (w_8l2 + 1) (putF 6 w_8m4 w_8l2 r_15))) else (w_8l2, w_8m0, w_8m1, u_11, w_8m3, w_8m4)) with | (w_8l2, w_8m0, w_8m1, w_8m2, w_8m3, w_8m4) => (w_8m0, w_8m1, w_8m2, w_8m3, w_8m4)) = RES := hE
          have hP : va_P D classes [(t, .inr (8, [.int w_8m3, .int t1, .int t2, .int t3, .int t4, .ref ta, .ref tb, .ref tc, .ref td, .ref te])), (ta, .inl (cI, 6, .inl w_8m4)), (rd, .inr (5, [.int w_8m0, .int w_8m1, .ref x, .int r3, .int u_11, .int r5, .int r6])), (x, .inl (cI, 240, .inl ftx))] H := hP
          have hD : va_D A [(t, .inr (8, [.int w_8m3, .int t1, .int t2, .int t3, .int t4, .ref ta, .ref tb, .ref tc, .ref td, .ref te])), (ta, .inl (cI, 6, .inl w_8m4)), (rd, .inr (5, [.int w_8m0, .int w_8m1, .ref x, .int r3, .int u_11, .int r5, .int r6])), (x, .inl (cI, 240, .inl ftx))] := hD
          refine lv_bipush (v := 44) hx hb dX5_readBridges_39 rfl ?_
          refine lv_icmp_ne (tgt := 82) hx hb dX5_readBridges_41 rfl (fun c_13 => ?_) (fun c_13 => ?_)
          · rw [if_neg c_13] at hE
            exact ex_22_w_8 w_8l2 w_8m0 w_8m1 u_11 w_8m3 w_8m4 _ _ ls (cutP (isC := [0, 2, 3, 1]) hP rfl) (cutD (isC := [0, 2, 3, 1]) hD rfl rfl) hS (lv_sub hl [0, 1, 2] rfl) hE
          · rw [if_pos c_13] at hE
            subst c_13
            refine lv_aload_n hx hb dX5_readBridges_44 rfl (lv_at hl 1 rfl) ?_
            refine lv_dup hx hb dX5_readBridges_45 rfl ?_
            refine va_get (D := D) (ci := 5) (v := .int u_11) (C := RX5) (T := TX5) (N := 7) hx hb hts iX5 hown hK hP 2 rfl rfl 4 (Nat.le_of_ble_eq_true rfl) (hts _ wd_46) (fun _ h9 => h9) rfl dX5_readBridges_46 ?_
            refine lv_iconst (v := 1) hx hb dX5_readBridges_49 rfl ?_
            refine lv_iadd hx hb dX5_readBridges_50 ?_
            refine va_put (D := D) (ci := 5) (v := .int (u_11 + 1)) (ty := .int) (C := RX5) (T := TX5) (N := 7) hx hb hts iX5 tyX5 tyX5_ok nmX5 hown hK hP hD hS 2 rfl rfl 4 (Nat.le_of_ble_eq_true rfl) (hts _ wd_46) (fun _ h9 => h9) rfl (by decide +kernel) rfl rfl (Nat.le_of_ble_eq_true rfl) dX5_readBridges_51 (fun H locs hP hD hS => ?_)
            have hP : va_P D classes [(t, .inr (8, [.int w_8m3, .int t1, .int t2, .int t3, .int t4, .ref ta, .ref tb, .ref tc, .ref td, .ref te])), (ta, .inl (cI, 6, .inl w_8m4)), (rd, .inr (5, [.int w_8m0, .int w_8m1, .ref x, .int r3, .int (u_11 + 1), .int r5, .int r6])), (x, .inl (cI, 240, .inl ftx))] H := hP
            have hD : va_D A [(t, .inr (8, [.int w_8m3, .int t1, .int t2, .int t3, .int t4, .ref ta, .ref tb, .ref tc, .ref td, .ref te])), (ta, .inl (cI, 6, .inl w_8m4)), (rd, .inr (5, [.int w_8m0, .int w_8m1, .ref x, .int r3, .int (u_11 + 1), .int r5, .int r6])), (x, .inl (cI, 240, .inl ftx))] := hD
            refine lv_aload_n hx hb dX5_readBridges_54 rfl (lv_at hl 2 rfl) ?_
            refine va_get (D := D) (ci := 8) (v := .ref ta) (C := RX8) (T := TX8) (N := 10) hx hb hts iX8 hown hK hP 0 rfl rfl 5 (Nat.le_of_ble_eq_true rfl) (hts _ wd_212) (fun _ h9 => h9) rfl dX5_readBridges_55 ?_
            refine lv_iload_n hx hb dX5_readBridges_58 rfl (lv_at hl 0 rfl) ?_
            refine lv_aload_n hx hb dX5_readBridges_59 rfl (lv_at hl 1 rfl) ?_
            refine lv_iconst (v := 1) hx hb dX5_readBridges_60 rfl ?_
            refine lv_bipush (v := 60) hx hb dX5_readBridges_61 rfl ?_
            refine cVi (wr := [(t, .inr (8, [.int w_8m3, .int t1, .int t2, .int t3, .int t4, .ref ta, .ref tb, .ref tc, .ref td, .ref te])), (ta, .inl (cI, 6, .inl w_8m4))]) (rest := [.int w_8l2, .ref ta]) (e_number_x5 rd x w_8m0 w_8m1 r3 (u_11 + 1) r5 r6 ftx 1 60) okV_X5_number wd_213 hx hb hml hown hts hK hP hD hS hA hN hl.1 [2, 3] [0, 1] rfl rfl rfl rfl (of_decide_eq_true rfl) rfl rfl rfl (Nat.le_of_ble_eq_true rfl) (Nat.le_of_ble_eq_true rfl) (Nat.le_of_ble_eq_true rfl) (Nat.le_of_ble_eq_true rfl) (Nat.le_of_ble_eq_true rfl) dX5_readBridges_63 (fun r_15 u_14 H locs hw_u_14 hP hD hS => ?_)
            obtain ⟨o_16, o_17, o_18⟩ := u_14
            replace hw_u_14 : (r_15, o_16, o_17, o_18) = (f_e_number_x5 w_8m0 w_8m1 r3 (u_11 + 1) r5 r6 ftx 1 60) := hw_u_14
            rw [← hw_u_14] at hE
            replace hE : (match (f_e_readBridges_x5_22 r0 r1 r3 r4 r5 r6 ftx t0 t1 t2 t3 t4 fta n_w_8 (w_8l2 + 1) o_16 o_17 o_18 (w_8l2 + 1) (putF 6 w_8m4 w_8l2 r_15)) with | (w_8l2, w_8m0, w_8m1, w_8m2, w_8m3, w_8m4) => (w_8m0, w_8m1, w_8m2, w_8m3, w_8m4)) = RES := hE
            have hP : va_P D classes [(t, .inr (8, [.int w_8m3, .int t1, .int t2, .int t3, .int t4, .ref ta, .ref tb, .ref tc, .ref td, .ref te])), (ta, .inl (cI, 6, .inl w_8m4)), (rd, .inr (5, [.int o_16, .int o_17, .ref x, .int r3, .int o_18, .int r5, .int r6])), (x, .inl (cI, 240, .inl ftx))] H := hP
            have hD : va_D A [(t, .inr (8, [.int w_8m3, .int t1, .int t2, .int t3, .int t4, .ref ta, .ref tb, .ref tc, .ref td, .ref te])), (ta, .inl (cI, 6, .inl w_8m4)), (rd, .inr (5, [.int o_16, .int o_17, .ref x, .int r3, .int o_18, .int r5, .int r6])), (x, .inl (cI, 240, .inl ftx))] := hD
            refine cNv (wr := [(t, .inr (8, [.int w_8m3, .int t1, .int t2, .int t3, .int t4, .ref ta, .ref tb, .ref tc, .ref td, .ref te])), (rd, .inr (5, [.int o_16, .int o_17, .ref x, .int r3, .int o_18, .int r5, .int r6])), (x, .inl (cI, 240, .inl ftx))]) (rest := []) (k_put ta 6 w_8m4 w_8l2 r_15 (of_decide_eq_true rfl)) okS_X9_put 15 rfl hx hb hml hown hts hK hP hD hS hA hN hl.1 [1] [0, 2, 3] rfl rfl rfl rfl (by decide) rfl (Nat.le_of_ble_eq_true rfl) (Nat.le_of_ble_eq_true rfl) (Nat.le_of_ble_eq_true rfl) (Nat.le_of_ble_eq_true rfl) (Nat.le_of_ble_eq_true rfl) dX5_readBridges_66 (fun u_19 H locs hw_u_19 hP hD hS => ?_)
            have hP : va_P D classes [(t, .inr (8, [.int w_8m3, .int t1, .int t2, .int t3, .int t4, .ref ta, .ref tb, .ref tc, .ref td, .ref te])), (rd, .inr (5, [.int o_16, .int o_17, .ref x, .int r3, .int o_18, .int r5, .int r6])), (x, .inl (cI, 240, .inl ftx)), (ta, .inl (cI, 6, .inl (putF 6 w_8m4 w_8l2 r_15)))] H := hP
            have hD : va_D A [(t, .inr (8, [.int w_8m3, .int t1, .int t2, .int t3, .int t4, .ref ta, .ref tb, .ref tc, .ref td, .ref te])), (rd, .inr (5, [.int o_16, .int o_17, .ref x, .int r3, .int o_18, .int r5, .int r6])), (x, .inl (cI, 240, .inl ftx)), (ta, .inl (cI, 6, .inl (putF 6 w_8m4 w_8l2 r_15)))] := hD
            refine lv_aload_n hx hb dX5_readBridges_69 rfl (lv_at hl 2 rfl) ?_
            refine lv_iload_n hx hb dX5_readBridges_70 rfl (lv_at hl 0 rfl) ?_
            refine lv_iconst (v := 1) hx hb dX5_readBridges_71 rfl ?_
            refine lv_iadd hx hb dX5_readBridges_72 ?_
            refine va_put (D := D) (ci := 8) (v := .int (w_8l2 + 1)) (ty := .int) (C := RX8) (T := TX8) (N := 10) hx hb hts iX8 tyX8 tyX8_ok nmX8 hown hK hP hD hS 0 rfl rfl 0 (Nat.le_of_ble_eq_true rfl) (hts _ wd_209) (fun _ h9 => h9) rfl (by decide +kernel) rfl rfl (Nat.le_of_ble_eq_true rfl) dX5_readBridges_73 (fun H locs hP hD hS => ?_)
            have hP : va_P D classes [(t, .inr (8, [.int (w_8l2 + 1), .int t1, .int t2, .int t3, .int t4, .ref ta, .ref tb, .ref tc, .ref td, .ref te])), (rd, .inr (5, [.int o_16, .int o_17, .ref x, .int r3, .int o_18, .int r5, .int r6])), (x, .inl (cI, 240, .inl ftx)), (ta, .inl (cI, 6, .inl (putF 6 w_8m4 w_8l2 r_15)))] H := hP
            have hD : va_D A [(t, .inr (8, [.int (w_8l2 + 1), .int t1, .int t2, .int t3, .int t4, .ref ta, .ref tb, .ref tc, .ref td, .ref te])), (rd, .inr (5, [.int o_16, .int o_17, .ref x, .int r3, .int o_18, .int r5, .int r6])), (x, .inl (cI, 240, .inl ftx)), (ta, .inl (cI, 6, .inl (putF 6 w_8m4 w_8l2 r_15)))] := hD
            refine lv_iinc (v := (w_8l2 + 1)) (lv' := [(2, .int (w_8l2 + 1)), (0, .ref rd), (1, .ref t)]) hx hb dX5_readBridges_76 hl (k := 0) rfl rfl (Nat.le_of_ble_eq_true rfl) rfl (fun ls hl => ?_)
            refine lv_goto (tgt := 22) hx hb dX5_readBridges_79 rfl ?_
            exact ih_w_8 (w_8l2 + 1) o_16 o_17 o_18 (w_8l2 + 1) (putF 6 w_8m4 w_8l2 r_15) _ _ ls hP hD hS (lv_sub hl [0, 1, 2] rfl) (up_step c_9 hm) hE
  exact lp_22_w_8 (((6 : Int32).toInt - (1 : Int32).toInt).toNat + 1) 1 o_3 o_4 o_5 1 (putF 6 fta 0 r_2) _ _ ls hP hD hS hl (Nat.lt_succ_self _) hE
noncomputable def f_e_readCouple_x5_22 (r0 : Int32) (r1 : Int32) (r3 : Int32) (r4 : Int32) (r5 : Int32) (r6 : Int32) (ftx : Nat → Int32) (t0 : Int32) (t1 : Int32) (t2 : Int32) (t3 : Int32) (t4 : Int32) (ftb : Nat → Int32) (ftc : Nat → Int32) (n : Nat) : Int32 → Int32 → Int32 → Int32 → Int32 → (Nat → Int32) → (Nat → Int32) → Int32 × Int32 × Int32 × Int32 × Int32 × (Nat → Int32) × (Nat → Int32) := Nat.rec (motive := fun _ => Int32 → Int32 → Int32 → Int32 → Int32 → (Nat → Int32) → (Nat → Int32) → Int32 × Int32 × Int32 × Int32 × Int32 × (Nat → Int32) × (Nat → Int32)) (fun w_8l3 w_8m0 w_8m1 w_8m2 w_8m3 w_8m4 w_8m5 => (w_8l3, w_8m0, w_8m1, w_8m2, w_8m3, w_8m4, w_8m5)) (fun n ih w_8l3 w_8m0 w_8m1 w_8m2 w_8m3 w_8m4 w_8m5 => (if t1 ≤ w_8l3 then (w_8l3, w_8m0, w_8m1, w_8m2, w_8m3, w_8m4, w_8m5) else (if w_8l3 ≤ 0 then (match (f_e_number_x5 w_8m0 w_8m1 r3 w_8m2 r5 r6 ftx 0 9) with | (r_12, o_13, o_14, o_15) => (ih (w_8l3 + 1) o_13 o_14 o_15 w_8m3 w_8m4 (putF 30 w_8m5 ((t2 * 5) + w_8l3) r_12))) else (match (f_e_expect_x5 w_8m0 w_8m1 r3 w_8m2 r5 r6 ftx 44) with | (o_20, o_21, o_22) => (match (f_e_number_x5 o_20 o_21 r3 o_22 r5 r6 ftx 0 9) with | (r_24, o_25, o_26, o_27) => (ih (w_8l3 + 1) o_25 o_26 o_27 w_8m3 w_8m4 (putF 30 w_8m5 ((t2 * 5) + w_8l3) r_24))))))) n
theorem f_e_readCouple_x5_22_s (r0 : Int32) (r1 : Int32) (r3 : Int32) (r4 : Int32) (r5 : Int32) (r6 : Int32) (ftx : Nat → Int32) (t0 : Int32) (t1 : Int32) (t2 : Int32) (t3 : Int32) (t4 : Int32) (ftb : Nat → Int32) (ftc : Nat → Int32) (n : Nat) (w_8l3 : Int32) (w_8m0 : Int32) (w_8m1 : Int32) (w_8m2 : Int32) (w_8m3 : Int32) (w_8m4 : (Nat → Int32)) (w_8m5 : (Nat → Int32)) : f_e_readCouple_x5_22 r0 r1 r3 r4 r5 r6 ftx t0 t1 t2 t3 t4 ftb ftc (n + 1) w_8l3 w_8m0 w_8m1 w_8m2 w_8m3 w_8m4 w_8m5 = (if t1 ≤ w_8l3 then (w_8l3, w_8m0, w_8m1, w_8m2, w_8m3, w_8m4, w_8m5) else (if w_8l3 ≤ 0 then (match (f_e_number_x5 w_8m0 w_8m1 r3 w_8m2 r5 r6 ftx 0 9) with | (r_12, o_13, o_14, o_15) => (f_e_readCouple_x5_22 r0 r1 r3 r4 r5 r6 ftx t0 t1 t2 t3 t4 ftb ftc n (w_8l3 + 1) o_13 o_14 o_15 w_8m3 w_8m4 (putF 30 w_8m5 ((t2 * 5) + w_8l3) r_12))) else (match (f_e_expect_x5 w_8m0 w_8m1 r3 w_8m2 r5 r6 ftx 44) with | (o_20, o_21, o_22) => (match (f_e_number_x5 o_20 o_21 r3 o_22 r5 r6 ftx 0 9) with | (r_24, o_25, o_26, o_27) => (f_e_readCouple_x5_22 r0 r1 r3 r4 r5 r6 ftx t0 t1 t2 t3 t4 ftb ftc n (w_8l3 + 1) o_25 o_26 o_27 w_8m3 w_8m4 (putF 30 w_8m5 ((t2 * 5) + w_8l3) r_24)))))) := rfl
noncomputable def f_e_readCouple_x5 (r0 : Int32) (r1 : Int32) (r3 : Int32) (r4 : Int32) (r5 : Int32) (r6 : Int32) (ftx : Nat → Int32) (t0 : Int32) (t1 : Int32) (t2 : Int32) (t3 : Int32) (t4 : Int32) (ftb : Nat → Int32) (ftc : Nat → Int32) : Int32 × Int32 × Int32 × Int32 × (Nat → Int32) × (Nat → Int32) := (match (f_e_number_x5 r0 r1 r3 r4 r5 r6 ftx 0 99) with | (r_2, o_3, o_4, o_5) => (match (f_e_readCouple_x5_22 r0 r1 r3 r4 r5 r6 ftx t0 t1 t2 t3 t4 ftb ftc (((t1 : Int32).toInt - (0 : Int32).toInt).toNat + 1) 0 o_3 o_4 o_5 t2 (putF 6 ftb t2 r_2) ftc) with | (w_8l3, w_8m0, w_8m1, w_8m2, w_8m3, w_8m4, w_8m5) => (w_8m0, w_8m1, w_8m2, (t2 + 1), w_8m4, w_8m5)))
def rm_e_readCouple_x5 : Room := { frames := 3, cells := 0, slots := 0, locals := 66 }
set_option maxHeartbeats 4000000 in
set_option maxRecDepth 100000 in
theorem e_readCouple_x5 {l : Launch} {D : va_G} {cI cZ : ClassId} {sz : Nat} (rd x t ta tb tc td te : Nat) (r0 : Int32) (r1 : Int32) (r3 : Int32) (r4 : Int32) (r5 : Int32) (r6 : Int32) (ftx : Nat → Int32) (t0 : Int32) (t1 : Int32) (t2 : Int32) (t3 : Int32) (t4 : Int32) (ftb : Nat → Int32) (ftc : Nat → Int32) : KV l yX5_readCouple cX5_readCouple 4 rm_e_readCouple_x5 D cI cZ [.ref rd, .ref t] sz [(rd, .inr (5, [.int r0, .int r1, .ref x, .int r3, .int r4, .int r5, .int r6])), (x, .inl (cI, 240, .inl ftx)), (t, .inr (8, [.int t0, .int t1, .int t2, .int t3, .int t4, .ref ta, .ref tb, .ref tc, .ref td, .ref te])), (tb, .inl (cI, 6, .inl ftb)), (tc, .inl (cI, 30, .inl ftc))] (fun (u : Int32 × Int32 × Int32 × Int32 × (Nat → Int32) × (Nat → Int32)) => u = f_e_readCouple_x5 r0 r1 r3 r4 r5 r6 ftx t0 t1 t2 t3 t4 ftb ftc) (fun (u : Int32 × Int32 × Int32 × Int32 × (Nat → Int32) × (Nat → Int32)) => [(rd, .inr (5, [.int (u.1), .int (u.2.1), .ref x, .int r3, .int (u.2.2.1), .int r5, .int r6])), (x, .inl (cI, 240, .inl ftx)), (t, .inr (8, [.int t0, .int t1, .int (u.2.2.2.1), .int t3, .int t4, .ref ta, .ref tb, .ref tc, .ref td, .ref te])), (tb, .inl (cI, 6, .inl u.2.2.2.2.1)), (tc, .inl (cI, 30, .inl u.2.2.2.2.2))]) := by
  refine KV.go rfl (Nat.le_of_ble_eq_true rfl) ?_
  intro p e s m args below meth c ls A Q hx hb hml hts hown hin hP hK hD hS hA hN hl hret
  have hl : lv_has ls 4 [(0, .ref rd), (1, .ref t)] := hl
  obtain ⟨RES, hE⟩ : ∃ xRES, f_e_readCouple_x5 r0 r1 r3 r4 r5 r6 ftx t0 t1 t2 t3 t4 ftb ftc = xRES := ⟨_, rfl⟩
  rw [hE] at hret
  rw [f_e_readCouple_x5] at hE
  refine lv_aload_n hx hb dX5_readCouple_0 rfl (lv_at hl 1 rfl) ?_
  refine va_get (D := D) (ci := 8) (v := .int t2) (C := RX8) (T := TX8) (N := 10) hx hb hts iX8 hown hK hP 2 rfl rfl 2 (Nat.le_of_ble_eq_true rfl) (hts _ wd_210) (fun _ h9 => h9) rfl dX5_readCouple_1 ?_
  refine lv_istore_n (lv' := [(2, .int t2), (0, .ref rd), (1, .ref t)]) hx hb dX5_readCouple_4 rfl hl (Nat.le_of_ble_eq_true rfl) rfl (fun ls hl => ?_)
  refine lv_aload_n hx hb dX5_readCouple_5 rfl (lv_at hl 2 rfl) ?_
  refine va_get (D := D) (ci := 8) (v := .ref tb) (C := RX8) (T := TX8) (N := 10) hx hb hts iX8 hown hK hP 2 rfl rfl 6 (Nat.le_of_ble_eq_true rfl) (hts _ wd_217) (fun _ h9 => h9) rfl dX5_readCouple_6 ?_
  refine lv_iload_n hx hb dX5_readCouple_9 rfl (lv_at hl 0 rfl) ?_
  refine lv_aload_n hx hb dX5_readCouple_10 rfl (lv_at hl 1 rfl) ?_
  refine lv_iconst (v := 0) hx hb dX5_readCouple_11 rfl ?_
  refine lv_bipush (v := 99) hx hb dX5_readCouple_12 rfl ?_
  refine cVi (wr := [(t, .inr (8, [.int t0, .int t1, .int t2, .int t3, .int t4, .ref ta, .ref tb, .ref tc, .ref td, .ref te])), (tb, .inl (cI, 6, .inl ftb)), (tc, .inl (cI, 30, .inl ftc))]) (rest := [.int t2, .ref tb]) (e_number_x5 rd x r0 r1 r3 r4 r5 r6 ftx 0 99) okV_X5_number wd_213 hx hb hml hown hts hK hP hD hS hA hN hl.1 [0, 1] [2, 3, 4] rfl rfl rfl rfl (of_decide_eq_true rfl) rfl rfl rfl (Nat.le_of_ble_eq_true rfl) (Nat.le_of_ble_eq_true rfl) (Nat.le_of_ble_eq_true rfl) (Nat.le_of_ble_eq_true rfl) (Nat.le_of_ble_eq_true rfl) dX5_readCouple_14 (fun r_2 u_1 H locs hw_u_1 hP hD hS => ?_)
  obtain ⟨o_3, o_4, o_5⟩ := u_1
  replace hw_u_1 : (r_2, o_3, o_4, o_5) = (f_e_number_x5 r0 r1 r3 r4 r5 r6 ftx 0 99) := hw_u_1
  rw [← hw_u_1] at hE
  replace hE : (match (f_e_readCouple_x5_22 r0 r1 r3 r4 r5 r6 ftx t0 t1 t2 t3 t4 ftb ftc (((t1 : Int32).toInt - (0 : Int32).toInt).toNat + 1) 0 o_3 o_4 o_5 t2 (putF 6 ftb t2 r_2) ftc) with | (w_8l3, w_8m0, w_8m1, w_8m2, w_8m3, w_8m4, w_8m5) => (w_8m0, w_8m1, w_8m2, (t2 + 1), w_8m4, w_8m5)) = RES := hE
  have hP : va_P D classes [(t, .inr (8, [.int t0, .int t1, .int t2, .int t3, .int t4, .ref ta, .ref tb, .ref tc, .ref td, .ref te])), (tb, .inl (cI, 6, .inl ftb)), (tc, .inl (cI, 30, .inl ftc)), (rd, .inr (5, [.int o_3, .int o_4, .ref x, .int r3, .int o_5, .int r5, .int r6])), (x, .inl (cI, 240, .inl ftx))] H := hP
  have hD : va_D A [(t, .inr (8, [.int t0, .int t1, .int t2, .int t3, .int t4, .ref ta, .ref tb, .ref tc, .ref td, .ref te])), (tb, .inl (cI, 6, .inl ftb)), (tc, .inl (cI, 30, .inl ftc)), (rd, .inr (5, [.int o_3, .int o_4, .ref x, .int r3, .int o_5, .int r5, .int r6])), (x, .inl (cI, 240, .inl ftx))] := hD
  refine cNv (wr := [(t, .inr (8, [.int t0, .int t1, .int t2, .int t3, .int t4, .ref ta, .ref tb, .ref tc, .ref td, .ref te])), (tc, .inl (cI, 30, .inl ftc)), (rd, .inr (5, [.int o_3, .int o_4, .ref x, .int r3, .int o_5, .int r5, .int r6])), (x, .inl (cI, 240, .inl ftx))]) (rest := []) (k_put tb 6 ftb t2 r_2 (of_decide_eq_true rfl)) okS_X9_put 15 rfl hx hb hml hown hts hK hP hD hS hA hN hl.1 [1] [0, 2, 3, 4] rfl rfl rfl rfl (by decide) rfl (Nat.le_of_ble_eq_true rfl) (Nat.le_of_ble_eq_true rfl) (Nat.le_of_ble_eq_true rfl) (Nat.le_of_ble_eq_true rfl) (Nat.le_of_ble_eq_true rfl) dX5_readCouple_17 (fun u_6 H locs hw_u_6 hP hD hS => ?_)
  have hP : va_P D classes [(t, .inr (8, [.int t0, .int t1, .int t2, .int t3, .int t4, .ref ta, .ref tb, .ref tc, .ref td, .ref te])), (tc, .inl (cI, 30, .inl ftc)), (rd, .inr (5, [.int o_3, .int o_4, .ref x, .int r3, .int o_5, .int r5, .int r6])), (x, .inl (cI, 240, .inl ftx)), (tb, .inl (cI, 6, .inl (putF 6 ftb t2 r_2)))] H := hP
  have hD : va_D A [(t, .inr (8, [.int t0, .int t1, .int t2, .int t3, .int t4, .ref ta, .ref tb, .ref tc, .ref td, .ref te])), (tc, .inl (cI, 30, .inl ftc)), (rd, .inr (5, [.int o_3, .int o_4, .ref x, .int r3, .int o_5, .int r5, .int r6])), (x, .inl (cI, 240, .inl ftx)), (tb, .inl (cI, 6, .inl (putF 6 ftb t2 r_2)))] := hD
  refine lv_iconst (v := 0) hx hb dX5_readCouple_20 rfl ?_
  refine lv_istore_n (lv' := [(3, .int 0), (2, .int t2), (0, .ref rd), (1, .ref t)]) hx hb dX5_readCouple_21 rfl hl (Nat.le_of_ble_eq_true rfl) rfl (fun ls hl => ?_)
  have ex_22_w_8 : ∀ (w_8l3 : Int32) (w_8m0 : Int32) (w_8m1 : Int32) (w_8m2 : Int32) (w_8m3 : Int32) (w_8m4 : (Nat → Int32)) (w_8m5 : (Nat → Int32)) (H : Heap) (locs : List Loc) (ls : Array Slot), va_P D classes [(t, .inr (8, [.int t0, .int t1, .int w_8m3, .int t3, .int t4, .ref ta, .ref tb, .ref tc, .ref td, .ref te])), (tc, .inl (cI, 30, .inl w_8m5)), (rd, .inr (5, [.int w_8m0, .int w_8m1, .ref x, .int r3, .int w_8m2, .int r5, .int r6])), (x, .inl (cI, 240, .inl ftx)), (tb, .inl (cI, 6, .inl w_8m4))] H → va_D A [(t, .inr (8, [.int t0, .int t1, .int w_8m3, .int t3, .int t4, .ref ta, .ref tb, .ref tc, .ref td, .ref te])), (tc, .inl (cI, 30, .inl w_8m5)), (rd, .inr (5, [.int w_8m0, .int w_8m1, .ref x, .int r3, .int w_8m2, .int r5, .int r6])), (x, .inl (cI, 240, .inl ftx)), (tb, .inl (cI, 6, .inl w_8m4))] → va_S A s.heap H locs → lv_has ls 4 [(3, .int w_8l3), (2, .int t2), (0, .ref rd), (1, .ref t)] → ((w_8m0, w_8m1, w_8m2, (t2 + 1), w_8m4, w_8m5)) = RES → W p l e rm_e_readCouple_x5 s m args below meth c H locs 0 0 Q (F0 m 65 ls []) := by
    intro w_8l3 w_8m0 w_8m1 w_8m2 w_8m3 w_8m4 w_8m5 H locs ls hP hD hS hl hE
    refine lv_aload_n hx hb dX5_readCouple_65 rfl (lv_at hl 3 rfl) ?_
    refine lv_iload_n hx hb dX5_readCouple_66 rfl (lv_at hl 1 rfl) ?_
    refine lv_iconst (v := 1) hx hb dX5_readCouple_67 rfl ?_
    refine lv_iadd hx hb dX5_readCouple_68 ?_
    refine va_put (D := D) (ci := 8) (v := .int (t2 + 1)) (ty := .int) (C := RX8) (T := TX8) (N := 10) hx hb hts iX8 tyX8 tyX8_ok nmX8 hown hK hP hD hS 0 rfl rfl 2 (Nat.le_of_ble_eq_true rfl) (hts _ wd_210) (fun _ h9 => h9) rfl (by decide +kernel) rfl rfl (Nat.le_of_ble_eq_true rfl) dX5_readCouple_69 (fun H locs hP hD hS => ?_)
    have hP : va_P D classes [(t, .inr (8, [.int t0, .int t1, .int (t2 + 1), .int t3, .int t4, .ref ta, .ref tb, .ref tc, .ref td, .ref te])), (tc, .inl (cI, 30, .inl w_8m5)), (rd, .inr (5, [.int w_8m0, .int w_8m1, .ref x, .int r3, .int w_8m2, .int r5, .int r6])), (x, .inl (cI, 240, .inl ftx)), (tb, .inl (cI, 6, .inl w_8m4))] H := hP
    have hD : va_D A [(t, .inr (8, [.int t0, .int t1, .int (t2 + 1), .int t3, .int t4, .ref ta, .ref tb, .ref tc, .ref td, .ref te])), (tc, .inl (cI, 30, .inl w_8m5)), (rd, .inr (5, [.int w_8m0, .int w_8m1, .ref x, .int r3, .int w_8m2, .int r5, .int r6])), (x, .inl (cI, 240, .inl ftx)), (tb, .inl (cI, 6, .inl w_8m4))] := hD
    exact hret (w_8m0, w_8m1, w_8m2, (t2 + 1), w_8m4, w_8m5) _ _ _ _ dX5_readCouple_72 hE (cutP (isC := [2, 3, 0, 4, 1]) hP rfl) (cutD (isC := [2, 3, 0, 4, 1]) hD rfl rfl) hS
  have lp_22_w_8 : ∀ (n_w_8 : Nat) (w_8l3 : Int32) (w_8m0 : Int32) (w_8m1 : Int32) (w_8m2 : Int32) (w_8m3 : Int32) (w_8m4 : (Nat → Int32)) (w_8m5 : (Nat → Int32)) (H : Heap) (locs : List Loc) (ls : Array Slot), va_P D classes [(t, .inr (8, [.int t0, .int t1, .int w_8m3, .int t3, .int t4, .ref ta, .ref tb, .ref tc, .ref td, .ref te])), (tc, .inl (cI, 30, .inl w_8m5)), (rd, .inr (5, [.int w_8m0, .int w_8m1, .ref x, .int r3, .int w_8m2, .int r5, .int r6])), (x, .inl (cI, 240, .inl ftx)), (tb, .inl (cI, 6, .inl w_8m4))] H → va_D A [(t, .inr (8, [.int t0, .int t1, .int w_8m3, .int t3, .int t4, .ref ta, .ref tb, .ref tc, .ref td, .ref te])), (tc, .inl (cI, 30, .inl w_8m5)), (rd, .inr (5, [.int w_8m0, .int w_8m1, .ref x, .int r3, .int w_8m2, .int r5, .int r6])), (x, .inl (cI, 240, .inl ftx)), (tb, .inl (cI, 6, .inl w_8m4))] → va_S A s.heap H locs → lv_has ls 4 [(3, .int w_8l3), (2, .int t2), (0, .ref rd), (1, .ref t)] → ((t1 : Int32).toInt - (w_8l3 : Int32).toInt).toNat < n_w_8 → (match (f_e_readCouple_x5_22 r0 r1 r3 r4 r5 r6 ftx t0 t1 t2 t3 t4 ftb ftc n_w_8 w_8l3 w_8m0 w_8m1 w_8m2 w_8m3 w_8m4 w_8m5) with | (w_8l3, w_8m0, w_8m1, w_8m2, w_8m3, w_8m4, w_8m5) => (w_8m0, w_8m1, w_8m2, (t2 + 1), w_8m4, w_8m5)) = RES → W p l e rm_e_readCouple_x5 s m args below meth c H locs 0 0 Q (F0 m 22 ls []) := by
    intro n_w_8
    induction n_w_8 with
    | zero => intro w_8l3 w_8m0 w_8m1 w_8m2 w_8m3 w_8m4 w_8m5 H locs ls hP hD hS hl hm; exact absurd hm (Nat.not_lt_zero _)
    | succ n_w_8 ih_w_8 =>
      intro w_8l3 w_8m0 w_8m1 w_8m2 w_8m3 w_8m4 w_8m5 H locs ls hP hD hS hl hm hE
      rw [f_e_readCouple_x5_22_s] at hE
      refine lv_iload_n hx hb dX5_readCouple_22 rfl (lv_at hl 0 rfl) ?_
      refine lv_aload_n hx hb dX5_readCouple_23 rfl (lv_at hl 3 rfl) ?_
      refine va_get (D := D) (ci := 8) (v := .int t1) (C := RX8) (T := TX8) (N := 10) hx hb hts iX8 hown hK hP 0 rfl rfl 1 (Nat.le_of_ble_eq_true rfl) (hts _ wd_218) (fun _ h9 => h9) rfl dX5_readCouple_24 ?_
      refine lv_icmp_ge (tgt := 65) hx hb dX5_readCouple_27 rfl (fun c_9 => ?_) (fun c_9 => ?_)
      · rw [if_pos c_9] at hE
        exact ex_22_w_8 w_8l3 w_8m0 w_8m1 w_8m2 w_8m3 w_8m4 w_8m5 _ _ ls hP hD hS (lv_sub hl [0, 1, 2, 3] rfl) hE
      · rw [if_neg c_9] at hE
        refine lv_iload_n hx hb dX5_readCouple_30 rfl (lv_at hl 0 rfl) ?_
        refine lv_if_le (tgt := 40) hx hb dX5_readCouple_31 rfl (fun c_10 => ?_) (fun c_10 => ?_)
        · rw [if_pos c_10] at hE
          refine lv_aload_n hx hb dX5_readCouple_40 rfl (lv_at hl 3 rfl) ?_
          refine va_get (D := D) (ci := 8) (v := .ref tc) (C := RX8) (T := TX8) (N := 10) hx hb hts iX8 hown hK hP 0 rfl rfl 7 (Nat.le_of_ble_eq_true rfl) (hts _ wd_219) (fun _ h9 => h9) rfl dX5_readCouple_41 ?_
          refine lv_iload_n hx hb dX5_readCouple_44 rfl (lv_at hl 1 rfl) ?_
          refine lv_iconst (v := 5) hx hb dX5_readCouple_45 rfl ?_
          refine lv_imul hx hb dX5_readCouple_46 ?_
          refine lv_iload_n hx hb dX5_readCouple_47 rfl (lv_at hl 0 rfl) ?_
          refine lv_iadd hx hb dX5_readCouple_48 ?_
          refine lv_aload_n hx hb dX5_readCouple_49 rfl (lv_at hl 2 rfl) ?_
          refine lv_iconst (v := 0) hx hb dX5_readCouple_50 rfl ?_
          refine lv_bipush (v := 9) hx hb dX5_readCouple_51 rfl ?_
          refine cVi (wr := [(t, .inr (8, [.int t0, .int t1, .int w_8m3, .int t3, .int t4, .ref ta, .ref tb, .ref tc, .ref td, .ref te])), (tc, .inl (cI, 30, .inl w_8m5)), (tb, .inl (cI, 6, .inl w_8m4))]) (rest := [.int ((t2 * 5) + w_8l3), .ref tc]) (e_number_x5 rd x w_8m0 w_8m1 r3 w_8m2 r5 r6 ftx 0 9) okV_X5_number wd_213 hx hb hml hown hts hK hP hD hS hA hN hl.1 [2, 3] [0, 1, 4] rfl rfl rfl rfl (of_decide_eq_true rfl) rfl rfl rfl (Nat.le_of_ble_eq_true rfl) (Nat.le_of_ble_eq_true rfl) (Nat.le_of_ble_eq_true rfl) (Nat.le_of_ble_eq_true rfl) (Nat.le_of_ble_eq_true rfl) dX5_readCouple_53 (fun r_12 u_11 H locs hw_u_11 hP hD hS => ?_)
          obtain ⟨o_13, o_14, o_15⟩ := u_11
          replace hw_u_11 : (r_12, o_13, o_14, o_15) = (f_e_number_x5 w_8m0 w_8m1 r3 w_8m2 r5 r6 ftx 0 9) := hw_u_11
          rw [← hw_u_11] at hE
          replace hE : (match (f_e_readCouple_x5_22 r0 r1 r3 r4 r5 r6 ftx t0 t1 t2 t3 t4 ftb ftc n_w_8 (w_8l3 + 1) o_13 o_14 o_15 w_8m3 w_8m4 (putF 30 w_8m5 ((t2 * 5) + w_8l3) r_12)) with | (w_8l3, w_8m0, w_8m1, w_8m2, w_8m3, w_8m4, w_8m5) => (w_8m0, w_8m1, w_8m2, (t2 + 1), w_8m4, w_8m5)) = RES := hE
          have hP : va_P D classes [(t, .inr (8, [.int t0, .int t1, .int w_8m3, .int t3, .int t4, .ref ta, .ref tb, .ref tc, .ref td, .ref te])), (tc, .inl (cI, 30, .inl w_8m5)), (tb, .inl (cI, 6, .inl w_8m4)), (rd, .inr (5, [.int o_13, .int o_14, .ref x, .int r3, .int o_15, .int r5, .int r6])), (x, .inl (cI, 240, .inl ftx))] H := hP
          have hD : va_D A [(t, .inr (8, [.int t0, .int t1, .int w_8m3, .int t3, .int t4, .ref ta, .ref tb, .ref tc, .ref td, .ref te])), (tc, .inl (cI, 30, .inl w_8m5)), (tb, .inl (cI, 6, .inl w_8m4)), (rd, .inr (5, [.int o_13, .int o_14, .ref x, .int r3, .int o_15, .int r5, .int r6])), (x, .inl (cI, 240, .inl ftx))] := hD
          refine cNv (wr := [(t, .inr (8, [.int t0, .int t1, .int w_8m3, .int t3, .int t4, .ref ta, .ref tb, .ref tc, .ref td, .ref te])), (tb, .inl (cI, 6, .inl w_8m4)), (rd, .inr (5, [.int o_13, .int o_14, .ref x, .int r3, .int o_15, .int r5, .int r6])), (x, .inl (cI, 240, .inl ftx))]) (rest := []) (k_put tc 30 w_8m5 ((t2 * 5) + w_8l3) r_12 (of_decide_eq_true rfl)) okS_X9_put 15 rfl hx hb hml hown hts hK hP hD hS hA hN hl.1 [1] [0, 2, 3, 4] rfl rfl rfl rfl (by decide) rfl (Nat.le_of_ble_eq_true rfl) (Nat.le_of_ble_eq_true rfl) (Nat.le_of_ble_eq_true rfl) (Nat.le_of_ble_eq_true rfl) (Nat.le_of_ble_eq_true rfl) dX5_readCouple_56 (fun u_16 H locs hw_u_16 hP hD hS => ?_)
          have hP : va_P D classes [(t, .inr (8, [.int t0, .int t1, .int w_8m3, .int t3, .int t4, .ref ta, .ref tb, .ref tc, .ref td, .ref te])), (tb, .inl (cI, 6, .inl w_8m4)), (rd, .inr (5, [.int o_13, .int o_14, .ref x, .int r3, .int o_15, .int r5, .int r6])), (x, .inl (cI, 240, .inl ftx)), (tc, .inl (cI, 30, .inl (putF 30 w_8m5 ((t2 * 5) + w_8l3) r_12)))] H := hP
          have hD : va_D A [(t, .inr (8, [.int t0, .int t1, .int w_8m3, .int t3, .int t4, .ref ta, .ref tb, .ref tc, .ref td, .ref te])), (tb, .inl (cI, 6, .inl w_8m4)), (rd, .inr (5, [.int o_13, .int o_14, .ref x, .int r3, .int o_15, .int r5, .int r6])), (x, .inl (cI, 240, .inl ftx)), (tc, .inl (cI, 30, .inl (putF 30 w_8m5 ((t2 * 5) + w_8l3) r_12)))] := hD
          refine lv_iinc (v := (w_8l3 + 1)) (lv' := [(3, .int (w_8l3 + 1)), (2, .int t2), (0, .ref rd), (1, .ref t)]) hx hb dX5_readCouple_59 hl (k := 0) rfl rfl (Nat.le_of_ble_eq_true rfl) rfl (fun ls hl => ?_)
          refine lv_goto (tgt := 22) hx hb dX5_readCouple_62 rfl ?_
          exact ih_w_8 (w_8l3 + 1) o_13 o_14 o_15 w_8m3 w_8m4 (putF 30 w_8m5 ((t2 * 5) + w_8l3) r_12) _ _ ls (cutP (isC := [0, 4, 2, 3, 1]) hP rfl) (cutD (isC := [0, 4, 2, 3, 1]) hD rfl rfl) hS (lv_sub hl [0, 1, 2, 3] rfl) (up_step c_9 hm) hE
        · rw [if_neg c_10] at hE
          refine lv_aload_n hx hb dX5_readCouple_34 rfl (lv_at hl 2 rfl) ?_
          refine lv_bipush (v := 44) hx hb dX5_readCouple_35 rfl ?_
          refine cVv (wr := [(t, .inr (8, [.int t0, .int t1, .int w_8m3, .int t3, .int t4, .ref ta, .ref tb, .ref tc, .ref td, .ref te])), (tc, .inl (cI, 30, .inl w_8m5)), (tb, .inl (cI, 6, .inl w_8m4))]) (rest := []) (e_expect_x5 rd x w_8m0 w_8m1 r3 w_8m2 r5 r6 ftx 44) okV_X5_expect wd_220 hx hb hml hown hts hK hP hD hS hA hN hl.1 [2, 3] [0, 1, 4] rfl rfl rfl rfl (of_decide_eq_true rfl) rfl rfl rfl (Nat.le_of_ble_eq_true rfl) (Nat.le_of_ble_eq_true rfl) (Nat.le_of_ble_eq_true rfl) (Nat.le_of_ble_eq_true rfl) (Nat.le_of_ble_eq_true rfl) dX5_readCouple_37 (fun u_18 H locs hw_u_18 hP hD hS => ?_)
          obtain ⟨o_20, o_21, o_22⟩ := u_18
          replace hw_u_18 : (o_20, o_21, o_22) = (f_e_expect_x5 w_8m0 w_8m1 r3 w_8m2 r5 r6 ftx 44) := hw_u_18
          rw [← hw_u_18] at hE
          replace hE : (match (match (f_e_number_x5 o_20 o_21 r3 o_22 r5 r6 ftx 0 9) with | (r_24, o_25, o_26, o_27) => (f_e_readCouple_x5_22 r0 r1 r3 r4 r5 r6 ftx t0 t1 t2 t3 t4 ftb ftc n_w_8 (w_8l3 + 1) o_25 o_26 o_27 w_8m3 w_8m4 (putF 30 w_8m5 ((t2 * 5) + w_8l3) r_24))) with | (w_8l3, w_8m0, w_8m1, w_8m2, w_8m3, w_8m4, w_8m5) => (w_8m0, w_8m1, w_8m2, (t2 + 1), w_8m4, w_8m5)) = RES := hE
          have hP : va_P D classes [(t, .inr (8, [.int t0, .int t1, .int w_8m3, .int t3, .int t4, .ref ta, .ref tb, .ref tc, .ref td, .ref te])), (tc, .inl (cI, 30, .inl w_8m5)), (tb, .inl (cI, 6, .inl w_8m4)), (rd, .inr (5, [.int o_20, .int o_21, .ref x, .int r3, .int o_22, .int r5, .int r6])), (x, .inl (cI, 240, .inl ftx))] H := hP
          have hD : va_D A [(t, .inr (8, [.int t0, .int t1, .int w_8m3, .int t3, .int t4, .ref ta, .ref tb, .ref tc, .ref td, .ref te])), (tc, .inl (cI, 30, .inl w_8m5)), (tb, .inl (cI, 6, .inl w_8m4)), (rd, .inr (5, [.int o_20, .int o_21, .ref x, .int r3, .int o_22, .int r5, .int r6])), (x, .inl (cI, 240, .inl ftx))] := hD
          refine lv_aload_n hx hb dX5_readCouple_40 rfl (lv_at hl 3 rfl) ?_
          refine va_get (D := D) (ci := 8) (v := .ref tc) (C := RX8) (T := TX8) (N := 10) hx hb hts iX8 hown hK hP 0 rfl rfl 7 (Nat.le_of_ble_eq_true rfl) (hts _ wd_219) (fun _ h9 => h9) rfl dX5_readCouple_41 ?_
          refine lv_iload_n hx hb dX5_readCouple_44 rfl (lv_at hl 1 rfl) ?_
          refine lv_iconst (v := 5) hx hb dX5_readCouple_45 rfl ?_
          refine lv_imul hx hb dX5_readCouple_46 ?_
          refine lv_iload_n hx hb dX5_readCouple_47 rfl (lv_at hl 0 rfl) ?_
          refine lv_iadd hx hb dX5_readCouple_48 ?_
          refine lv_aload_n hx hb dX5_readCouple_49 rfl (lv_at hl 2 rfl) ?_
          refine lv_iconst (v := 0) hx hb dX5_readCouple_50 rfl ?_
          refine lv_bipush (v := 9) hx hb dX5_readCouple_51 rfl ?_
          refine cVi (wr := [(t, .inr (8, [.int t0, .int t1, .int w_8m3, .int t3, .int t4, .ref ta, .ref tb, .ref tc, .ref td, .ref te])), (tc, .inl (cI, 30, .inl w_8m5)), (tb, .inl (cI, 6, .inl w_8m4))]) (rest := [.int ((t2 * 5) + w_8l3), .ref tc]) (e_number_x5 rd x o_20 o_21 r3 o_22 r5 r6 ftx 0 9) okV_X5_number wd_213 hx hb hml hown hts hK hP hD hS hA hN hl.1 [3, 4] [0, 1, 2] rfl rfl rfl rfl (of_decide_eq_true rfl) rfl rfl rfl (Nat.le_of_ble_eq_true rfl) (Nat.le_of_ble_eq_true rfl) (Nat.le_of_ble_eq_true rfl) (Nat.le_of_ble_eq_true rfl) (Nat.le_of_ble_eq_true rfl) dX5_readCouple_53 (fun r_24 u_23 H locs hw_u_23 hP hD hS => ?_)
          obtain ⟨o_25, o_26, o_27⟩ := u_23
          replace hw_u_23 : (r_24, o_25, o_26, o_27) = (f_e_number_x5 o_20 o_21 r3 o_22 r5 r6 ftx 0 9) := hw_u_23
          rw [← hw_u_23] at hE
          replace hE : (match (f_e_readCouple_x5_22 r0 r1 r3 r4 r5 r6 ftx t0 t1 t2 t3 t4 ftb ftc n_w_8 (w_8l3 + 1) o_25 o_26 o_27 w_8m3 w_8m4 (putF 30 w_8m5 ((t2 * 5) + w_8l3) r_24)) with | (w_8l3, w_8m0, w_8m1, w_8m2, w_8m3, w_8m4, w_8m5) => (w_8m0, w_8m1, w_8m2, (t2 + 1), w_8m4, w_8m5)) = RES := hE
          have hP : va_P D classes [(t, .inr (8, [.int t0, .int t1, .int w_8m3, .int t3, .int t4, .ref ta, .ref tb, .ref tc, .ref td, .ref te])), (tc, .inl (cI, 30, .inl w_8m5)), (tb, .inl (cI, 6, .inl w_8m4)), (rd, .inr (5, [.int o_25, .int o_26, .ref x, .int r3, .int o_27, .int r5, .int r6])), (x, .inl (cI, 240, .inl ftx))] H := hP
          have hD : va_D A [(t, .inr (8, [.int t0, .int t1, .int w_8m3, .int t3, .int t4, .ref ta, .ref tb, .ref tc, .ref td, .ref te])), (tc, .inl (cI, 30, .inl w_8m5)), (tb, .inl (cI, 6, .inl w_8m4)), (rd, .inr (5, [.int o_25, .int o_26, .ref x, .int r3, .int o_27, .int r5, .int r6])), (x, .inl (cI, 240, .inl ftx))] := hD
          refine cNv (wr := [(t, .inr (8, [.int t0, .int t1, .int w_8m3, .int t3, .int t4, .ref ta, .ref tb, .ref tc, .ref td, .ref te])), (tb, .inl (cI, 6, .inl w_8m4)), (rd, .inr (5, [.int o_25, .int o_26, .ref x, .int r3, .int o_27, .int r5, .int r6])), (x, .inl (cI, 240, .inl ftx))]) (rest := []) (k_put tc 30 w_8m5 ((t2 * 5) + w_8l3) r_24 (of_decide_eq_true rfl)) okS_X9_put 15 rfl hx hb hml hown hts hK hP hD hS hA hN hl.1 [1] [0, 2, 3, 4] rfl rfl rfl rfl (by decide) rfl (Nat.le_of_ble_eq_true rfl) (Nat.le_of_ble_eq_true rfl) (Nat.le_of_ble_eq_true rfl) (Nat.le_of_ble_eq_true rfl) (Nat.le_of_ble_eq_true rfl) dX5_readCouple_56 (fun u_28 H locs hw_u_28 hP hD hS => ?_)
          have hP : va_P D classes [(t, .inr (8, [.int t0, .int t1, .int w_8m3, .int t3, .int t4, .ref ta, .ref tb, .ref tc, .ref td, .ref te])), (tb, .inl (cI, 6, .inl w_8m4)), (rd, .inr (5, [.int o_25, .int o_26, .ref x, .int r3, .int o_27, .int r5, .int r6])), (x, .inl (cI, 240, .inl ftx)), (tc, .inl (cI, 30, .inl (putF 30 w_8m5 ((t2 * 5) + w_8l3) r_24)))] H := hP
          have hD : va_D A [(t, .inr (8, [.int t0, .int t1, .int w_8m3, .int t3, .int t4, .ref ta, .ref tb, .ref tc, .ref td, .ref te])), (tb, .inl (cI, 6, .inl w_8m4)), (rd, .inr (5, [.int o_25, .int o_26, .ref x, .int r3, .int o_27, .int r5, .int r6])), (x, .inl (cI, 240, .inl ftx)), (tc, .inl (cI, 30, .inl (putF 30 w_8m5 ((t2 * 5) + w_8l3) r_24)))] := hD
          refine lv_iinc (v := (w_8l3 + 1)) (lv' := [(3, .int (w_8l3 + 1)), (2, .int t2), (0, .ref rd), (1, .ref t)]) hx hb dX5_readCouple_59 hl (k := 0) rfl rfl (Nat.le_of_ble_eq_true rfl) rfl (fun ls hl => ?_)
          refine lv_goto (tgt := 22) hx hb dX5_readCouple_62 rfl ?_
          exact ih_w_8 (w_8l3 + 1) o_25 o_26 o_27 w_8m3 w_8m4 (putF 30 w_8m5 ((t2 * 5) + w_8l3) r_24) _ _ ls (cutP (isC := [0, 4, 2, 3, 1]) hP rfl) (cutD (isC := [0, 4, 2, 3, 1]) hD rfl rfl) hS (lv_sub hl [0, 1, 2, 3] rfl) (up_step c_9 hm) hE
  exact lp_22_w_8 (((t1 : Int32).toInt - (0 : Int32).toInt).toNat + 1) 0 o_3 o_4 o_5 t2 (putF 6 ftb t2 r_2) ftc _ _ ls hP hD hS hl (Nat.lt_succ_self _) hE
noncomputable def f_e_readBarge_x5 (r0 : Int32) (r1 : Int32) (r3 : Int32) (r4 : Int32) (r5 : Int32) (r6 : Int32) (ftx : Nat → Int32) (t0 : Int32) (t1 : Int32) (t2 : Int32) (t3 : Int32) (t4 : Int32) (ftd : Nat → Int32) (fte : Nat → Int32) : Int32 × Int32 × Int32 × Int32 × (Nat → Int32) × (Nat → Int32) := (match (f_e_number_x5 r0 r1 r3 r4 r5 r6 ftx 0 (t0 - 1)) with | (r_2, o_3, o_4, o_5) => (match (f_e_number_x5 o_3 o_4 r3 o_5 r5 r6 ftx 1 300) with | (r_9, o_10, o_11, o_12) => (o_10, o_11, o_12, (t3 + 1), (putF 7 ftd t3 r_2), (putF 7 fte t3 r_9))))
def rm_e_readBarge_x5 : Room := { frames := 3, cells := 0, slots := 0, locals := 66 }
set_option maxHeartbeats 4000000 in
set_option maxRecDepth 100000 in
theorem e_readBarge_x5 {l : Launch} {D : va_G} {cI cZ : ClassId} {sz : Nat} (rd x t ta tb tc td te : Nat) (r0 : Int32) (r1 : Int32) (r3 : Int32) (r4 : Int32) (r5 : Int32) (r6 : Int32) (ftx : Nat → Int32) (t0 : Int32) (t1 : Int32) (t2 : Int32) (t3 : Int32) (t4 : Int32) (ftd : Nat → Int32) (fte : Nat → Int32) : KV l yX5_readBarge cX5_readBarge 3 rm_e_readBarge_x5 D cI cZ [.ref rd, .ref t] sz [(rd, .inr (5, [.int r0, .int r1, .ref x, .int r3, .int r4, .int r5, .int r6])), (x, .inl (cI, 240, .inl ftx)), (t, .inr (8, [.int t0, .int t1, .int t2, .int t3, .int t4, .ref ta, .ref tb, .ref tc, .ref td, .ref te])), (td, .inl (cI, 7, .inl ftd)), (te, .inl (cI, 7, .inl fte))] (fun (u : Int32 × Int32 × Int32 × Int32 × (Nat → Int32) × (Nat → Int32)) => u = f_e_readBarge_x5 r0 r1 r3 r4 r5 r6 ftx t0 t1 t2 t3 t4 ftd fte) (fun (u : Int32 × Int32 × Int32 × Int32 × (Nat → Int32) × (Nat → Int32)) => [(rd, .inr (5, [.int (u.1), .int (u.2.1), .ref x, .int r3, .int (u.2.2.1), .int r5, .int r6])), (x, .inl (cI, 240, .inl ftx)), (t, .inr (8, [.int t0, .int t1, .int t2, .int (u.2.2.2.1), .int t4, .ref ta, .ref tb, .ref tc, .ref td, .ref te])), (td, .inl (cI, 7, .inl u.2.2.2.2.1)), (te, .inl (cI, 7, .inl u.2.2.2.2.2))]) := by
  refine KV.go rfl (Nat.le_of_ble_eq_true rfl) ?_
  intro p e s m args below meth c ls A Q hx hb hml hts hown hin hP hK hD hS hA hN hl hret
  have hl : lv_has ls 3 [(0, .ref rd), (1, .ref t)] := hl
  obtain ⟨RES, hE⟩ : ∃ xRES, f_e_readBarge_x5 r0 r1 r3 r4 r5 r6 ftx t0 t1 t2 t3 t4 ftd fte = xRES := ⟨_, rfl⟩
  rw [hE] at hret
  rw [f_e_readBarge_x5] at hE
  refine lv_aload_n hx hb dX5_readBarge_0 rfl (lv_at hl 1 rfl) ?_
  refine va_get (D := D) (ci := 8) (v := .int t3) (C := RX8) (T := TX8) (N := 10) hx hb hts iX8 hown hK hP 2 rfl rfl 3 (Nat.le_of_ble_eq_true rfl) (hts _ wd_211) (fun _ h9 => h9) rfl dX5_readBarge_1 ?_
  refine lv_istore_n (lv' := [(2, .int t3), (0, .ref rd), (1, .ref t)]) hx hb dX5_readBarge_4 rfl hl (Nat.le_of_ble_eq_true rfl) rfl (fun ls hl => ?_)
  refine lv_aload_n hx hb dX5_readBarge_5 rfl (lv_at hl 2 rfl) ?_
  refine va_get (D := D) (ci := 8) (v := .ref td) (C := RX8) (T := TX8) (N := 10) hx hb hts iX8 hown hK hP 2 rfl rfl 8 (Nat.le_of_ble_eq_true rfl) (hts _ wd_224) (fun _ h9 => h9) rfl dX5_readBarge_6 ?_
  refine lv_iload_n hx hb dX5_readBarge_9 rfl (lv_at hl 0 rfl) ?_
  refine lv_aload_n hx hb dX5_readBarge_10 rfl (lv_at hl 1 rfl) ?_
  refine lv_iconst (v := 0) hx hb dX5_readBarge_11 rfl ?_
  refine lv_aload_n hx hb dX5_readBarge_12 rfl (lv_at hl 2 rfl) ?_
  refine va_get (D := D) (ci := 8) (v := .int t0) (C := RX8) (T := TX8) (N := 10) hx hb hts iX8 hown hK hP 2 rfl rfl 0 (Nat.le_of_ble_eq_true rfl) (hts _ wd_209) (fun _ h9 => h9) rfl dX5_readBarge_13 ?_
  refine lv_iconst (v := 1) hx hb dX5_readBarge_16 rfl ?_
  refine lv_isub hx hb dX5_readBarge_17 ?_
  refine cVi (wr := [(t, .inr (8, [.int t0, .int t1, .int t2, .int t3, .int t4, .ref ta, .ref tb, .ref tc, .ref td, .ref te])), (td, .inl (cI, 7, .inl ftd)), (te, .inl (cI, 7, .inl fte))]) (rest := [.int t3, .ref td]) (e_number_x5 rd x r0 r1 r3 r4 r5 r6 ftx 0 (t0 - 1)) okV_X5_number wd_213 hx hb hml hown hts hK hP hD hS hA hN hl.1 [0, 1] [2, 3, 4] rfl rfl rfl rfl (of_decide_eq_true rfl) rfl rfl rfl (Nat.le_of_ble_eq_true rfl) (Nat.le_of_ble_eq_true rfl) (Nat.le_of_ble_eq_true rfl) (Nat.le_of_ble_eq_true rfl) (Nat.le_of_ble_eq_true rfl) dX5_readBarge_18 (fun r_2 u_1 H locs hw_u_1 hP hD hS => ?_)
  obtain ⟨o_3, o_4, o_5⟩ := u_1
  replace hw_u_1 : (r_2, o_3, o_4, o_5) = (f_e_number_x5 r0 r1 r3 r4 r5 r6 ftx 0 (t0 - 1)) := hw_u_1
  rw [← hw_u_1] at hE
  replace hE : (match (f_e_number_x5 o_3 o_4 r3 o_5 r5 r6 ftx 1 300) with | (r_9, o_10, o_11, o_12) => (o_10, o_11, o_12, (t3 + 1), (putF 7 ftd t3 r_2), (putF 7 fte t3 r_9))) = RES := hE
  have hP : va_P D classes [(t, .inr (8, [.int t0, .int t1, .int t2, .int t3, .int t4, .ref ta, .ref tb, .ref tc, .ref td, .ref te])), (td, .inl (cI, 7, .inl ftd)), (te, .inl (cI, 7, .inl fte)), (rd, .inr (5, [.int o_3, .int o_4, .ref x, .int r3, .int o_5, .int r5, .int r6])), (x, .inl (cI, 240, .inl ftx))] H := hP
  have hD : va_D A [(t, .inr (8, [.int t0, .int t1, .int t2, .int t3, .int t4, .ref ta, .ref tb, .ref tc, .ref td, .ref te])), (td, .inl (cI, 7, .inl ftd)), (te, .inl (cI, 7, .inl fte)), (rd, .inr (5, [.int o_3, .int o_4, .ref x, .int r3, .int o_5, .int r5, .int r6])), (x, .inl (cI, 240, .inl ftx))] := hD
  refine cNv (wr := [(t, .inr (8, [.int t0, .int t1, .int t2, .int t3, .int t4, .ref ta, .ref tb, .ref tc, .ref td, .ref te])), (te, .inl (cI, 7, .inl fte)), (rd, .inr (5, [.int o_3, .int o_4, .ref x, .int r3, .int o_5, .int r5, .int r6])), (x, .inl (cI, 240, .inl ftx))]) (rest := []) (k_put td 7 ftd t3 r_2 (of_decide_eq_true rfl)) okS_X9_put 15 rfl hx hb hml hown hts hK hP hD hS hA hN hl.1 [1] [0, 2, 3, 4] rfl rfl rfl rfl (by decide) rfl (Nat.le_of_ble_eq_true rfl) (Nat.le_of_ble_eq_true rfl) (Nat.le_of_ble_eq_true rfl) (Nat.le_of_ble_eq_true rfl) (Nat.le_of_ble_eq_true rfl) dX5_readBarge_21 (fun u_6 H locs hw_u_6 hP hD hS => ?_)
  have hP : va_P D classes [(t, .inr (8, [.int t0, .int t1, .int t2, .int t3, .int t4, .ref ta, .ref tb, .ref tc, .ref td, .ref te])), (te, .inl (cI, 7, .inl fte)), (rd, .inr (5, [.int o_3, .int o_4, .ref x, .int r3, .int o_5, .int r5, .int r6])), (x, .inl (cI, 240, .inl ftx)), (td, .inl (cI, 7, .inl (putF 7 ftd t3 r_2)))] H := hP
  have hD : va_D A [(t, .inr (8, [.int t0, .int t1, .int t2, .int t3, .int t4, .ref ta, .ref tb, .ref tc, .ref td, .ref te])), (te, .inl (cI, 7, .inl fte)), (rd, .inr (5, [.int o_3, .int o_4, .ref x, .int r3, .int o_5, .int r5, .int r6])), (x, .inl (cI, 240, .inl ftx)), (td, .inl (cI, 7, .inl (putF 7 ftd t3 r_2)))] := hD
  refine lv_aload_n hx hb dX5_readBarge_24 rfl (lv_at hl 2 rfl) ?_
  refine va_get (D := D) (ci := 8) (v := .ref te) (C := RX8) (T := TX8) (N := 10) hx hb hts iX8 hown hK hP 0 rfl rfl 9 (Nat.le_of_ble_eq_true rfl) (hts _ wd_225) (fun _ h9 => h9) rfl dX5_readBarge_25 ?_
  refine lv_iload_n hx hb dX5_readBarge_28 rfl (lv_at hl 0 rfl) ?_
  refine lv_aload_n hx hb dX5_readBarge_29 rfl (lv_at hl 1 rfl) ?_
  refine lv_iconst (v := 1) hx hb dX5_readBarge_30 rfl ?_
  refine lv_sipush (v := 300) hx hb dX5_readBarge_31 rfl ?_
  refine cVi (wr := [(t, .inr (8, [.int t0, .int t1, .int t2, .int t3, .int t4, .ref ta, .ref tb, .ref tc, .ref td, .ref te])), (te, .inl (cI, 7, .inl fte)), (td, .inl (cI, 7, .inl (putF 7 ftd t3 r_2)))]) (rest := [.int t3, .ref te]) (e_number_x5 rd x o_3 o_4 r3 o_5 r5 r6 ftx 1 300) okV_X5_number wd_213 hx hb hml hown hts hK hP hD hS hA hN hl.1 [2, 3] [0, 1, 4] rfl rfl rfl rfl (of_decide_eq_true rfl) rfl rfl rfl (Nat.le_of_ble_eq_true rfl) (Nat.le_of_ble_eq_true rfl) (Nat.le_of_ble_eq_true rfl) (Nat.le_of_ble_eq_true rfl) (Nat.le_of_ble_eq_true rfl) dX5_readBarge_34 (fun r_9 u_8 H locs hw_u_8 hP hD hS => ?_)
  obtain ⟨o_10, o_11, o_12⟩ := u_8
  replace hw_u_8 : (r_9, o_10, o_11, o_12) = (f_e_number_x5 o_3 o_4 r3 o_5 r5 r6 ftx 1 300) := hw_u_8
  rw [← hw_u_8] at hE
  replace hE : (o_10, o_11, o_12, (t3 + 1), (putF 7 ftd t3 r_2), (putF 7 fte t3 r_9)) = RES := hE
  have hP : va_P D classes [(t, .inr (8, [.int t0, .int t1, .int t2, .int t3, .int t4, .ref ta, .ref tb, .ref tc, .ref td, .ref te])), (te, .inl (cI, 7, .inl fte)), (td, .inl (cI, 7, .inl (putF 7 ftd t3 r_2))), (rd, .inr (5, [.int o_10, .int o_11, .ref x, .int r3, .int o_12, .int r5, .int r6])), (x, .inl (cI, 240, .inl ftx))] H := hP
  have hD : va_D A [(t, .inr (8, [.int t0, .int t1, .int t2, .int t3, .int t4, .ref ta, .ref tb, .ref tc, .ref td, .ref te])), (te, .inl (cI, 7, .inl fte)), (td, .inl (cI, 7, .inl (putF 7 ftd t3 r_2))), (rd, .inr (5, [.int o_10, .int o_11, .ref x, .int r3, .int o_12, .int r5, .int r6])), (x, .inl (cI, 240, .inl ftx))] := hD
  refine cNv (wr := [(t, .inr (8, [.int t0, .int t1, .int t2, .int t3, .int t4, .ref ta, .ref tb, .ref tc, .ref td, .ref te])), (td, .inl (cI, 7, .inl (putF 7 ftd t3 r_2))), (rd, .inr (5, [.int o_10, .int o_11, .ref x, .int r3, .int o_12, .int r5, .int r6])), (x, .inl (cI, 240, .inl ftx))]) (rest := []) (k_put te 7 fte t3 r_9 (of_decide_eq_true rfl)) okS_X9_put 15 rfl hx hb hml hown hts hK hP hD hS hA hN hl.1 [1] [0, 2, 3, 4] rfl rfl rfl rfl (by decide) rfl (Nat.le_of_ble_eq_true rfl) (Nat.le_of_ble_eq_true rfl) (Nat.le_of_ble_eq_true rfl) (Nat.le_of_ble_eq_true rfl) (Nat.le_of_ble_eq_true rfl) dX5_readBarge_37 (fun u_13 H locs hw_u_13 hP hD hS => ?_)
  have hP : va_P D classes [(t, .inr (8, [.int t0, .int t1, .int t2, .int t3, .int t4, .ref ta, .ref tb, .ref tc, .ref td, .ref te])), (td, .inl (cI, 7, .inl (putF 7 ftd t3 r_2))), (rd, .inr (5, [.int o_10, .int o_11, .ref x, .int r3, .int o_12, .int r5, .int r6])), (x, .inl (cI, 240, .inl ftx)), (te, .inl (cI, 7, .inl (putF 7 fte t3 r_9)))] H := hP
  have hD : va_D A [(t, .inr (8, [.int t0, .int t1, .int t2, .int t3, .int t4, .ref ta, .ref tb, .ref tc, .ref td, .ref te])), (td, .inl (cI, 7, .inl (putF 7 ftd t3 r_2))), (rd, .inr (5, [.int o_10, .int o_11, .ref x, .int r3, .int o_12, .int r5, .int r6])), (x, .inl (cI, 240, .inl ftx)), (te, .inl (cI, 7, .inl (putF 7 fte t3 r_9)))] := hD
  refine lv_aload_n hx hb dX5_readBarge_40 rfl (lv_at hl 2 rfl) ?_
  refine lv_iload_n hx hb dX5_readBarge_41 rfl (lv_at hl 0 rfl) ?_
  refine lv_iconst (v := 1) hx hb dX5_readBarge_42 rfl ?_
  refine lv_iadd hx hb dX5_readBarge_43 ?_
  refine va_put (D := D) (ci := 8) (v := .int (t3 + 1)) (ty := .int) (C := RX8) (T := TX8) (N := 10) hx hb hts iX8 tyX8 tyX8_ok nmX8 hown hK hP hD hS 0 rfl rfl 3 (Nat.le_of_ble_eq_true rfl) (hts _ wd_211) (fun _ h9 => h9) rfl (by decide +kernel) rfl rfl (Nat.le_of_ble_eq_true rfl) dX5_readBarge_44 (fun H locs hP hD hS => ?_)
  have hP : va_P D classes [(t, .inr (8, [.int t0, .int t1, .int t2, .int (t3 + 1), .int t4, .ref ta, .ref tb, .ref tc, .ref td, .ref te])), (td, .inl (cI, 7, .inl (putF 7 ftd t3 r_2))), (rd, .inr (5, [.int o_10, .int o_11, .ref x, .int r3, .int o_12, .int r5, .int r6])), (x, .inl (cI, 240, .inl ftx)), (te, .inl (cI, 7, .inl (putF 7 fte t3 r_9)))] H := hP
  have hD : va_D A [(t, .inr (8, [.int t0, .int t1, .int t2, .int (t3 + 1), .int t4, .ref ta, .ref tb, .ref tc, .ref td, .ref te])), (td, .inl (cI, 7, .inl (putF 7 ftd t3 r_2))), (rd, .inr (5, [.int o_10, .int o_11, .ref x, .int r3, .int o_12, .int r5, .int r6])), (x, .inl (cI, 240, .inl ftx)), (te, .inl (cI, 7, .inl (putF 7 fte t3 r_9)))] := hD
  exact hret (o_10, o_11, o_12, (t3 + 1), (putF 7 ftd t3 r_2), (putF 7 fte t3 r_9)) _ _ _ _ dX5_readBarge_47 hE (cutP (isC := [2, 3, 0, 1, 4]) hP rfl) (cutD (isC := [2, 3, 0, 1, 4]) hD rfl rfl) hS
end
section
def fw_cX5_readClause : List (List Nat) := [[42, 182, 0, 40, 61, 28, 16, 98, 159, 0, 27, 28, 16, 116, 159, 0, 21, 28], [21, 28, 16, 99, 159, 0, 15, 28, 16, 118, 159, 0, 9, 28, 16, 115, 160, 0], [160, 0, 7, 4, 167, 0, 4, 3, 62, 29, 153, 0, 16, 43, 180, 0, 48, 154], [48, 154, 0, 19, 28, 16, 98, 159, 0, 13, 42, 4, 42, 180, 0, 25, 182, 0], [182, 0, 51, 177, 42, 28, 43, 182, 0, 55, 153, 0, 13, 42, 6, 42, 180, 0], [180, 0, 25, 182, 0, 51, 177, 42, 89, 180, 0, 25, 4, 96, 181, 0, 25, 28], [25, 28, 171, 0, 0, 0, 0, 84, 0, 0, 0, 4, 0, 0, 0, 98, 0, 0], [0, 0, 0, 42, 0, 0, 0, 99, 0, 0, 0, 68, 0, 0, 0, 116, 0, 0], [0, 0, 0, 50, 0, 0, 0, 118, 0, 0, 0, 76, 42, 43, 182, 0, 59, 167], [59, 167, 0, 52, 43, 42, 4, 8, 182, 0, 62, 181, 0, 66, 42, 4, 181, 0], [181, 0, 28, 167, 0, 34, 42, 43, 182, 0, 69, 167, 0, 26, 42, 43, 182, 0], [182, 0, 72, 167, 0, 18, 43, 42, 3, 4, 182, 0, 62, 181, 0, 75, 42, 4], [42, 4, 181, 0, 32, 42, 16, 59, 182, 0, 78, 177]]
theorem fW_cX5_readClause : fq_wins 13 cX5_readClause.data.toList = fw_cX5_readClause := by decide +kernel
theorem fk_cX5_readClause_0 : fq_ck cX5_readClause 0 [42, 182, 0, 40, 61, 28, 16, 98, 159, 0, 27, 28, 16, 116, 159, 0, 21, 28] := fq_of fW_cX5_readClause 0 rfl rfl
theorem dX5_readClause_0 : decode cX5_readClause 0 = .ok (.aload_n 0, 1) := fq_42 fk_cX5_readClause_0 0 rfl rfl
theorem dX5_readClause_1 : decode cX5_readClause 1 = .ok (.invokevirtual 40, 3) := fq_182 fk_cX5_readClause_0 1 rfl rfl rfl rfl rfl
theorem dX5_readClause_4 : decode cX5_readClause 4 = .ok (.istore_n 2, 1) := fq_61 fk_cX5_readClause_0 4 rfl rfl
theorem dX5_readClause_5 : decode cX5_readClause 5 = .ok (.iload_n 2, 1) := fq_28 fk_cX5_readClause_0 5 rfl rfl
theorem dX5_readClause_6 : decode cX5_readClause 6 = .ok (.bipush 98, 2) := fq_16 fk_cX5_readClause_0 6 rfl rfl rfl rfl
theorem dX5_readClause_8 : decode cX5_readClause 8 = .ok (.if_icmp .eq 27, 3) := fq_159 fk_cX5_readClause_0 8 rfl rfl rfl rfl rfl
theorem fk_cX5_readClause_2 : fq_ck cX5_readClause 32 [160, 0, 7, 4, 167, 0, 4, 3, 62, 29, 153, 0, 16, 43, 180, 0, 48, 154] := fq_of fW_cX5_readClause 2 rfl rfl
theorem dX5_readClause_35 : decode cX5_readClause 35 = .ok (.iconst 1, 1) := fq_4 fk_cX5_readClause_2 3 rfl rfl
theorem dX5_readClause_36 : decode cX5_readClause 36 = .ok (.goto 4, 3) := fq_167 fk_cX5_readClause_2 4 rfl rfl rfl rfl rfl
theorem dX5_readClause_40 : decode cX5_readClause 40 = .ok (.istore_n 3, 1) := fq_62 fk_cX5_readClause_2 8 rfl rfl
theorem dX5_readClause_41 : decode cX5_readClause 41 = .ok (.iload_n 3, 1) := fq_29 fk_cX5_readClause_2 9 rfl rfl
theorem dX5_readClause_42 : decode cX5_readClause 42 = .ok (.ifCond .eq 16, 3) := fq_153 fk_cX5_readClause_2 10 rfl rfl rfl rfl rfl
theorem dX5_readClause_45 : decode cX5_readClause 45 = .ok (.aload_n 1, 1) := fq_43 fk_cX5_readClause_2 13 rfl rfl
theorem dX5_readClause_46 : decode cX5_readClause 46 = .ok (.getfield 48, 3) := fq_180 fk_cX5_readClause_2 14 rfl rfl rfl rfl rfl
theorem fk_cX5_readClause_3 : fq_ck cX5_readClause 48 [48, 154, 0, 19, 28, 16, 98, 159, 0, 13, 42, 4, 42, 180, 0, 25, 182, 0] := fq_of fW_cX5_readClause 3 rfl rfl
theorem dX5_readClause_49 : decode cX5_readClause 49 = .ok (.ifCond .ne 19, 3) := fq_154 fk_cX5_readClause_3 1 rfl rfl rfl rfl rfl
theorem fk_cX5_readClause_4 : fq_ck cX5_readClause 64 [182, 0, 51, 177, 42, 28, 43, 182, 0, 55, 153, 0, 13, 42, 6, 42, 180, 0] := fq_of fW_cX5_readClause 4 rfl rfl
theorem dX5_readClause_68 : decode cX5_readClause 68 = .ok (.aload_n 0, 1) := fq_42 fk_cX5_readClause_4 4 rfl rfl
theorem dX5_readClause_69 : decode cX5_readClause 69 = .ok (.iload_n 2, 1) := fq_28 fk_cX5_readClause_4 5 rfl rfl
theorem dX5_readClause_70 : decode cX5_readClause 70 = .ok (.aload_n 1, 1) := fq_43 fk_cX5_readClause_4 6 rfl rfl
theorem dX5_readClause_71 : decode cX5_readClause 71 = .ok (.invokevirtual 55, 3) := fq_182 fk_cX5_readClause_4 7 rfl rfl rfl rfl rfl
theorem wd_226 : Cond.methodLink RX5 55 yX5_isTooOften ∈ BG := BG_at2 122 (by decide +kernel) rfl
theorem wd_227 : Cond.code yX5_isTooOften cX5_isTooOften 3 (some .boolean) ∈ BG := BG_at2 125 rfl rfl
theorem wd_228 : Cond.instanceMethod yX5_isTooOften ∈ BG := BG_at2 124 (by decide +kernel) rfl
theorem wd_229 : Cond.selects RX5 yX5_isTooOften yX5_isTooOften ∈ BG := BG_in (by decide +kernel) rfl
theorem okV_X5_isTooOften : okV yX5_isTooOften cX5_isTooOften 3 (some .boolean) 2 := ⟨⟨wd_227, wd_80, by decide +kernel⟩, wd_228, wd_229⟩
theorem dX5_readClause_74 : decode cX5_readClause 74 = .ok (.ifCond .eq 13, 3) := fq_153 fk_cX5_readClause_4 10 rfl rfl rfl rfl rfl
theorem fk_cX5_readClause_5 : fq_ck cX5_readClause 80 [180, 0, 25, 182, 0, 51, 177, 42, 89, 180, 0, 25, 4, 96, 181, 0, 25, 28] := fq_of fW_cX5_readClause 5 rfl rfl
theorem dX5_readClause_87 : decode cX5_readClause 87 = .ok (.aload_n 0, 1) := fq_42 fk_cX5_readClause_5 7 rfl rfl
theorem dX5_readClause_88 : decode cX5_readClause 88 = .ok (.dup, 1) := fq_89 fk_cX5_readClause_5 8 rfl rfl
theorem dX5_readClause_89 : decode cX5_readClause 89 = .ok (.getfield 25, 3) := fq_180 fk_cX5_readClause_5 9 rfl rfl rfl rfl rfl
theorem dX5_readClause_92 : decode cX5_readClause 92 = .ok (.iconst 1, 1) := fq_4 fk_cX5_readClause_5 12 rfl rfl
theorem dX5_readClause_93 : decode cX5_readClause 93 = .ok (.iadd, 1) := fq_96 fk_cX5_readClause_5 13 rfl rfl
theorem dX5_readClause_94 : decode cX5_readClause 94 = .ok (.putfield 25, 3) := fq_181 fk_cX5_readClause_5 14 rfl rfl rfl rfl rfl
theorem fk_cX5_readClause_6 : fq_ck cX5_readClause 96 [25, 28, 171, 0, 0, 0, 0, 84, 0, 0, 0, 4, 0, 0, 0, 98, 0, 0] := fq_of fW_cX5_readClause 6 rfl rfl
theorem dX5_readClause_97 : decode cX5_readClause 97 = .ok (.iload_n 2, 1) := fq_28 fk_cX5_readClause_6 1 rfl rfl
theorem dX5_readClause_98 : decode cX5_readClause 98 = .ok (.lookupswitch 84 #[(98, 42), (99, 68), (116, 50), (118, 76)], 42) := by decide +kernel
theorem fk_cX5_readClause_8 : fq_ck cX5_readClause 128 [0, 0, 0, 50, 0, 0, 0, 118, 0, 0, 0, 76, 42, 43, 182, 0, 59, 167] := fq_of fW_cX5_readClause 8 rfl rfl
theorem dX5_readClause_140 : decode cX5_readClause 140 = .ok (.aload_n 0, 1) := fq_42 fk_cX5_readClause_8 12 rfl rfl
theorem dX5_readClause_141 : decode cX5_readClause 141 = .ok (.aload_n 1, 1) := fq_43 fk_cX5_readClause_8 13 rfl rfl
theorem dX5_readClause_142 : decode cX5_readClause 142 = .ok (.invokevirtual 59, 3) := fq_182 fk_cX5_readClause_8 14 rfl rfl rfl rfl rfl
theorem wd_230 : Cond.methodLink RX5 59 yX5_readBridges ∈ BG := BG_at2 126 (by decide +kernel) rfl
theorem wd_231 : Cond.code yX5_readBridges cX5_readBridges 3 none ∈ BG := BG_at2 129 rfl rfl
theorem wd_232 : Cond.instanceMethod yX5_readBridges ∈ BG := BG_at2 128 (by decide +kernel) rfl
theorem wd_233 : Cond.selects RX5 yX5_readBridges yX5_readBridges ∈ BG := BG_in (by decide +kernel) rfl
theorem okV_X5_readBridges : okV yX5_readBridges cX5_readBridges 3 none 1 := ⟨⟨wd_231, wd_80, by decide +kernel⟩, wd_232, wd_233⟩
theorem fk_cX5_readClause_9 : fq_ck cX5_readClause 144 [59, 167, 0, 52, 43, 42, 4, 8, 182, 0, 62, 181, 0, 66, 42, 4, 181, 0] := fq_of fW_cX5_readClause 9 rfl rfl
theorem dX5_readClause_145 : decode cX5_readClause 145 = .ok (.goto 52, 3) := fq_167 fk_cX5_readClause_9 1 rfl rfl rfl rfl rfl
theorem fk_cX5_readClause_12 : fq_ck cX5_readClause 192 [42, 4, 181, 0, 32, 42, 16, 59, 182, 0, 78, 177] := fq_of fW_cX5_readClause 12 rfl rfl
theorem dX5_readClause_197 : decode cX5_readClause 197 = .ok (.aload_n 0, 1) := fq_42 fk_cX5_readClause_12 5 rfl rfl
theorem dX5_readClause_198 : decode cX5_readClause 198 = .ok (.bipush 59, 2) := fq_16 fk_cX5_readClause_12 6 rfl rfl rfl rfl
theorem dX5_readClause_200 : decode cX5_readClause 200 = .ok (.invokevirtual 78, 3) := fq_182 fk_cX5_readClause_12 8 rfl rfl rfl rfl rfl
theorem dX5_readClause_203 : decode cX5_readClause 203 = .ok (.return_, 1) := fq_177 fk_cX5_readClause_12 11 rfl rfl
theorem dX5_readClause_77 : decode cX5_readClause 77 = .ok (.aload_n 0, 1) := fq_42 fk_cX5_readClause_4 13 rfl rfl
theorem dX5_readClause_78 : decode cX5_readClause 78 = .ok (.iconst 3, 1) := fq_6 fk_cX5_readClause_4 14 rfl rfl
theorem dX5_readClause_79 : decode cX5_readClause 79 = .ok (.aload_n 0, 1) := fq_42 fk_cX5_readClause_4 15 rfl rfl
theorem dX5_readClause_80 : decode cX5_readClause 80 = .ok (.getfield 25, 3) := fq_180 fk_cX5_readClause_5 0 rfl rfl rfl rfl rfl
theorem dX5_readClause_83 : decode cX5_readClause 83 = .ok (.invokevirtual 51, 3) := fq_182 fk_cX5_readClause_5 3 rfl rfl rfl rfl rfl
theorem dX5_readClause_86 : decode cX5_readClause 86 = .ok (.return_, 1) := fq_177 fk_cX5_readClause_5 6 rfl rfl
theorem dX5_readClause_52 : decode cX5_readClause 52 = .ok (.iload_n 2, 1) := fq_28 fk_cX5_readClause_3 4 rfl rfl
theorem dX5_readClause_53 : decode cX5_readClause 53 = .ok (.bipush 98, 2) := fq_16 fk_cX5_readClause_3 5 rfl rfl rfl rfl
theorem dX5_readClause_55 : decode cX5_readClause 55 = .ok (.if_icmp .eq 13, 3) := fq_159 fk_cX5_readClause_3 7 rfl rfl rfl rfl rfl
theorem dX5_readClause_11 : decode cX5_readClause 11 = .ok (.iload_n 2, 1) := fq_28 fk_cX5_readClause_0 11 rfl rfl
theorem dX5_readClause_12 : decode cX5_readClause 12 = .ok (.bipush 116, 2) := fq_16 fk_cX5_readClause_0 12 rfl rfl rfl rfl
theorem dX5_readClause_14 : decode cX5_readClause 14 = .ok (.if_icmp .eq 21, 3) := fq_159 fk_cX5_readClause_0 14 rfl rfl rfl rfl rfl
theorem dX5_readClause_148 : decode cX5_readClause 148 = .ok (.aload_n 1, 1) := fq_43 fk_cX5_readClause_9 4 rfl rfl
theorem dX5_readClause_149 : decode cX5_readClause 149 = .ok (.aload_n 0, 1) := fq_42 fk_cX5_readClause_9 5 rfl rfl
theorem dX5_readClause_150 : decode cX5_readClause 150 = .ok (.iconst 1, 1) := fq_4 fk_cX5_readClause_9 6 rfl rfl
theorem dX5_readClause_151 : decode cX5_readClause 151 = .ok (.iconst 5, 1) := fq_8 fk_cX5_readClause_9 7 rfl rfl
theorem dX5_readClause_152 : decode cX5_readClause 152 = .ok (.invokevirtual 62, 3) := fq_182 fk_cX5_readClause_9 8 rfl rfl rfl rfl rfl
theorem dX5_readClause_155 : decode cX5_readClause 155 = .ok (.putfield 66, 3) := fq_181 fk_cX5_readClause_9 11 rfl rfl rfl rfl rfl
theorem dX5_readClause_158 : decode cX5_readClause 158 = .ok (.aload_n 0, 1) := fq_42 fk_cX5_readClause_9 14 rfl rfl
theorem dX5_readClause_159 : decode cX5_readClause 159 = .ok (.iconst 1, 1) := fq_4 fk_cX5_readClause_9 15 rfl rfl
theorem fk_cX5_readClause_10 : fq_ck cX5_readClause 160 [181, 0, 28, 167, 0, 34, 42, 43, 182, 0, 69, 167, 0, 26, 42, 43, 182, 0] := fq_of fW_cX5_readClause 10 rfl rfl
theorem dX5_readClause_160 : decode cX5_readClause 160 = .ok (.putfield 28, 3) := fq_181 fk_cX5_readClause_10 0 rfl rfl rfl rfl rfl
theorem dX5_readClause_163 : decode cX5_readClause 163 = .ok (.goto 34, 3) := fq_167 fk_cX5_readClause_10 3 rfl rfl rfl rfl rfl
theorem dX5_readClause_58 : decode cX5_readClause 58 = .ok (.aload_n 0, 1) := fq_42 fk_cX5_readClause_3 10 rfl rfl
theorem dX5_readClause_59 : decode cX5_readClause 59 = .ok (.iconst 1, 1) := fq_4 fk_cX5_readClause_3 11 rfl rfl
theorem dX5_readClause_60 : decode cX5_readClause 60 = .ok (.aload_n 0, 1) := fq_42 fk_cX5_readClause_3 12 rfl rfl
theorem dX5_readClause_61 : decode cX5_readClause 61 = .ok (.getfield 25, 3) := fq_180 fk_cX5_readClause_3 13 rfl rfl rfl rfl rfl
theorem dX5_readClause_64 : decode cX5_readClause 64 = .ok (.invokevirtual 51, 3) := fq_182 fk_cX5_readClause_4 0 rfl rfl rfl rfl rfl
theorem dX5_readClause_67 : decode cX5_readClause 67 = .ok (.return_, 1) := fq_177 fk_cX5_readClause_4 3 rfl rfl
theorem fk_cX5_readClause_1 : fq_ck cX5_readClause 16 [21, 28, 16, 99, 159, 0, 15, 28, 16, 118, 159, 0, 9, 28, 16, 115, 160, 0] := fq_of fW_cX5_readClause 1 rfl rfl
theorem dX5_readClause_17 : decode cX5_readClause 17 = .ok (.iload_n 2, 1) := fq_28 fk_cX5_readClause_1 1 rfl rfl
theorem dX5_readClause_18 : decode cX5_readClause 18 = .ok (.bipush 99, 2) := fq_16 fk_cX5_readClause_1 2 rfl rfl rfl rfl
theorem dX5_readClause_20 : decode cX5_readClause 20 = .ok (.if_icmp .eq 15, 3) := fq_159 fk_cX5_readClause_1 4 rfl rfl rfl rfl rfl
theorem dX5_readClause_166 : decode cX5_readClause 166 = .ok (.aload_n 0, 1) := fq_42 fk_cX5_readClause_10 6 rfl rfl
theorem dX5_readClause_167 : decode cX5_readClause 167 = .ok (.aload_n 1, 1) := fq_43 fk_cX5_readClause_10 7 rfl rfl
theorem dX5_readClause_168 : decode cX5_readClause 168 = .ok (.invokevirtual 69, 3) := fq_182 fk_cX5_readClause_10 8 rfl rfl rfl rfl rfl
theorem wd_234 : Cond.methodLink RX5 69 yX5_readCouple ∈ BG := BG_at2 139 (by decide +kernel) rfl
theorem wd_235 : Cond.code yX5_readCouple cX5_readCouple 4 none ∈ BG := BG_at2 142 rfl rfl
theorem wd_236 : Cond.instanceMethod yX5_readCouple ∈ BG := BG_at2 141 (by decide +kernel) rfl
theorem wd_237 : Cond.selects RX5 yX5_readCouple yX5_readCouple ∈ BG := BG_in (by decide +kernel) rfl
theorem okV_X5_readCouple : okV yX5_readCouple cX5_readCouple 4 none 1 := ⟨⟨wd_235, wd_80, by decide +kernel⟩, wd_236, wd_237⟩
theorem dX5_readClause_171 : decode cX5_readClause 171 = .ok (.goto 26, 3) := fq_167 fk_cX5_readClause_10 11 rfl rfl rfl rfl rfl
theorem dX5_readClause_23 : decode cX5_readClause 23 = .ok (.iload_n 2, 1) := fq_28 fk_cX5_readClause_1 7 rfl rfl
theorem dX5_readClause_24 : decode cX5_readClause 24 = .ok (.bipush 118, 2) := fq_16 fk_cX5_readClause_1 8 rfl rfl rfl rfl
theorem dX5_readClause_26 : decode cX5_readClause 26 = .ok (.if_icmp .eq 9, 3) := fq_159 fk_cX5_readClause_1 10 rfl rfl rfl rfl rfl
theorem dX5_readClause_174 : decode cX5_readClause 174 = .ok (.aload_n 0, 1) := fq_42 fk_cX5_readClause_10 14 rfl rfl
theorem dX5_readClause_175 : decode cX5_readClause 175 = .ok (.aload_n 1, 1) := fq_43 fk_cX5_readClause_10 15 rfl rfl
theorem fk_cX5_readClause_11 : fq_ck cX5_readClause 176 [182, 0, 72, 167, 0, 18, 43, 42, 3, 4, 182, 0, 62, 181, 0, 75, 42, 4] := fq_of fW_cX5_readClause 11 rfl rfl
theorem dX5_readClause_176 : decode cX5_readClause 176 = .ok (.invokevirtual 72, 3) := fq_182 fk_cX5_readClause_11 0 rfl rfl rfl rfl rfl
theorem wd_238 : Cond.methodLink RX5 72 yX5_readBarge ∈ BG := BG_at2 147 (by decide +kernel) rfl
theorem wd_239 : Cond.code yX5_readBarge cX5_readBarge 3 none ∈ BG := BG_at2 150 rfl rfl
theorem wd_240 : Cond.instanceMethod yX5_readBarge ∈ BG := BG_at2 149 (by decide +kernel) rfl
theorem wd_241 : Cond.selects RX5 yX5_readBarge yX5_readBarge ∈ BG := BG_in (by decide +kernel) rfl
theorem okV_X5_readBarge : okV yX5_readBarge cX5_readBarge 3 none 1 := ⟨⟨wd_239, wd_80, by decide +kernel⟩, wd_240, wd_241⟩
theorem dX5_readClause_179 : decode cX5_readClause 179 = .ok (.goto 18, 3) := fq_167 fk_cX5_readClause_11 3 rfl rfl rfl rfl rfl
theorem dX5_readClause_29 : decode cX5_readClause 29 = .ok (.iload_n 2, 1) := fq_28 fk_cX5_readClause_1 13 rfl rfl
theorem dX5_readClause_30 : decode cX5_readClause 30 = .ok (.bipush 115, 2) := fq_16 fk_cX5_readClause_1 14 rfl rfl rfl rfl
theorem dX5_readClause_32 : decode cX5_readClause 32 = .ok (.if_icmp .ne 7, 3) := fq_160 fk_cX5_readClause_2 0 rfl rfl rfl rfl rfl
theorem dX5_readClause_39 : decode cX5_readClause 39 = .ok (.iconst 0, 1) := fq_3 fk_cX5_readClause_2 7 rfl rfl
theorem dX5_readClause_182 : decode cX5_readClause 182 = .ok (.aload_n 1, 1) := fq_43 fk_cX5_readClause_11 6 rfl rfl
theorem dX5_readClause_183 : decode cX5_readClause 183 = .ok (.aload_n 0, 1) := fq_42 fk_cX5_readClause_11 7 rfl rfl
theorem dX5_readClause_184 : decode cX5_readClause 184 = .ok (.iconst 0, 1) := fq_3 fk_cX5_readClause_11 8 rfl rfl
theorem dX5_readClause_185 : decode cX5_readClause 185 = .ok (.iconst 1, 1) := fq_4 fk_cX5_readClause_11 9 rfl rfl
theorem dX5_readClause_186 : decode cX5_readClause 186 = .ok (.invokevirtual 62, 3) := fq_182 fk_cX5_readClause_11 10 rfl rfl rfl rfl rfl
theorem wd_242 : Cond.fieldLink RX5 75 "QuarrelBridges$Town" "snow" "I" ∈ BG := BG_at1 77 (by decide +kernel) rfl
theorem dX5_readClause_189 : decode cX5_readClause 189 = .ok (.putfield 75, 3) := fq_181 fk_cX5_readClause_11 13 rfl rfl rfl rfl rfl
theorem dX5_readClause_192 : decode cX5_readClause 192 = .ok (.aload_n 0, 1) := fq_42 fk_cX5_readClause_12 0 rfl rfl
theorem dX5_readClause_193 : decode cX5_readClause 193 = .ok (.iconst 1, 1) := fq_4 fk_cX5_readClause_12 1 rfl rfl
theorem dX5_readClause_194 : decode cX5_readClause 194 = .ok (.putfield 32, 3) := fq_181 fk_cX5_readClause_12 2 rfl rfl rfl rfl rfl
noncomputable def f_e_readClause_x5 (r0 : Int32) (r1 : Int32) (r3 : Int32) (r4 : Int32) (r5 : Int32) (r6 : Int32) (ftx : Nat → Int32) (t0 : Int32) (t1 : Int32) (t2 : Int32) (t3 : Int32) (t4 : Int32) (fta : Nat → Int32) (ftb : Nat → Int32) (ftc : Nat → Int32) (ftd : Nat → Int32) (fte : Nat → Int32) : Int32 × Int32 × Int32 × Int32 × Int32 × Int32 × Int32 × Int32 × Int32 × Int32 × (Nat → Int32) × (Nat → Int32) × (Nat → Int32) × (Nat → Int32) × (Nat → Int32) := (match (f_e_next_x5 r0 r1 r3 r4 r5 r6 ftx) with | (r_2, u_1) => (if r_2 = 98 then (if t0 = 0 then (if (f_e_isTooOften_x5 r0 r1 r3 u_1 r5 r6 t0 t1 t2 t3 t4 98) = 0 then (match (f_e_readBridges_x5 r0 r1 r3 (u_1 + 1) r5 r6 ftx t0 t1 t2 t3 t4 fta) with | (o_31, o_32, o_33, o_34, o_35) => (match (f_e_expect_x5 o_31 o_32 r3 o_33 r5 r6 ftx 59) with | (o_38, o_39, o_40) => (o_38, o_39, o_40, r5, r6, o_34, t1, t2, t3, t4, o_35, ftb, ftc, ftd, fte))) else (match (f_e_blame_x5 r0 r1 r3 u_1 r5 r6 3 u_1) with | (o_43, o_44) => (o_43, o_44, u_1, r5, r6, t0, t1, t2, t3, t4, fta, ftb, ftc, ftd, fte))) else (if (f_e_isTooOften_x5 r0 r1 r3 u_1 r5 r6 t0 t1 t2 t3 t4 98) = 0 then (match (f_e_readBridges_x5 r0 r1 r3 (u_1 + 1) r5 r6 ftx t0 t1 t2 t3 t4 fta) with | (o_11, o_12, o_13, o_14, o_15) => (match (f_e_expect_x5 o_11 o_12 r3 o_13 r5 r6 ftx 59) with | (o_18, o_19, o_20) => (o_18, o_19, o_20, r5, r6, o_14, t1, t2, t3, t4, o_15, ftb, ftc, ftd, fte))) else (match (f_e_blame_x5 r0 r1 r3 u_1 r5 r6 3 u_1) with | (o_23, o_24) => (o_23, o_24, u_1, r5, r6, t0, t1, t2, t3, t4, fta, ftb, ftc, ftd, fte)))) else (if r_2 = 116 then (if t0 = 0 then (match (f_e_blame_x5 r0 r1 r3 u_1 r5 r6 1 u_1) with | (o_68, o_69) => (o_68, o_69, u_1, r5, r6, t0, t1, t2, t3, t4, fta, ftb, ftc, ftd, fte)) else (if (f_e_isTooOften_x5 r0 r1 r3 u_1 r5 r6 t0 t1 t2 t3 t4 116) = 0 then (match (f_e_number_x5 r0 r1 r3 (u_1 + 1) r5 r6 ftx 1 5) with | (r_52, o_53, o_54, o_55) => (match (f_e_expect_x5 o_53 o_54 r3 o_55 1 r6 ftx 59) with | (o_58, o_59, o_60) => (o_58, o_59, o_60, 1, r6, t0, r_52, t2, t3, t4, fta, ftb, ftc, ftd, fte))) else (match (f_e_blame_x5 r0 r1 r3 u_1 r5 r6 3 u_1) with | (o_63, o_64) => (o_63, o_64, u_1, r5, r6, t0, t1, t2, t3, t4, fta, ftb, ftc, ftd, fte)))) else (if r_2 = 99 then (if t0 = 0 then (match (f_e_blame_x5 r0 r1 r3 u_1 r5 r6 1 u_1) with | (o_96, o_97) => (o_96, o_97, u_1, r5, r6, t0, t1, t2, t3, t4, fta, ftb, ftc, ftd, fte)) else (if (f_e_isTooOften_x5 r0 r1 r3 u_1 r5 r6 t0 t1 t2 t3 t4 99) = 0 then (match (f_e_readCouple_x5 r0 r1 r3 (u_1 + 1) r5 r6 ftx t0 t1 t2 t3 t4 ftb ftc) with | (o_78, o_79, o_80, o_81, o_82, o_83) => (match (f_e_expect_x5 o_78 o_79 r3 o_80 r5 r6 ftx 59) with | (o_86, o_87, o_88) => (o_86, o_87, o_88, r5, r6, t0, t1, o_81, t3, t4, fta, o_82, o_83, ftd, fte))) else (match (f_e_blame_x5 r0 r1 r3 u_1 r5 r6 3 u_1) with | (o_91, o_92) => (o_91, o_92, u_1, r5, r6, t0, t1, t2, t3, t4, fta, ftb, ftc, ftd, fte)))) else (if r_2 = 118 then (if t0 = 0 then (match (f_e_blame_x5 r0 r1 r3 u_1 r5 r6 1 u_1) with | (o_124, o_125) => (o_124, o_125, u_1, r5, r6, t0, t1, t2, t3, t4, fta, ftb, ftc, ftd, fte)) else (if (f_e_isTooOften_x5 r0 r1 r3 u_1 r5 r6 t0 t1 t2 t3 t4 118) = 0 then (match (f_e_readBarge_x5 r0 r1 r3 (u_1 + 1) r5 r6 ftx t0 t1 t2 t3 t4 ftd fte) with | (o_106, o_107, o_108, o_109, o_110, o_111) => (match (f_e_expect_x5 o_106 o_107 r3 o_108 r5 r6 ftx 59) with | (o_114, o_115, o_116) => (o_114, o_115, o_116, r5, r6, t0, t1, t2, o_109, t4, fta, ftb, ftc, o_110, o_111))) else (match (f_e_blame_x5 r0 r1 r3 u_1 r5 r6 3 u_1) with | (o_119, o_120) => (o_119, o_120, u_1, r5, r6, t0, t1, t2, t3, t4, fta, ftb, ftc, ftd, fte)))) else (if r_2 = 115 then (if t0 = 0 then (match (f_e_blame_x5 r0 r1 r3 u_1 r5 r6 1 u_1) with | (o_154, o_155) => (o_154, o_155, u_1, r5, r6, t0, t1, t2, t3, t4, fta, ftb, ftc, ftd, fte)) else (if (f_e_isTooOften_x5 r0 r1 r3 u_1 r5 r6 t0 t1 t2 t3 t4 115) = 0 then (match (f_e_number_x5 r0 r1 r3 (u_1 + 1) r5 r6 ftx 0 1) with | (r_138, o_139, o_140, o_141) => (match (f_e_expect_x5 o_139 o_140 r3 o_141 r5 1 ftx 59) with | (o_144, o_145, o_146) => (o_144, o_145, o_146, r5, 1, t0, t1, t2, t3, r_138, fta, ftb, ftc, ftd, fte))) else (match (f_e_blame_x5 r0 r1 r3 u_1 r5 r6 3 u_1) with | (o_149, o_150) => (o_149, o_150, u_1, r5, r6, t0, t1, t2, t3, t4, fta, ftb, ftc, ftd, fte)))) else (match (f_e_blame_x5 r0 r1 r3 u_1 r5 r6 1 u_1) with | (o_130, o_131) => (o_130, o_131, u_1, r5, r6, t0, t1, t2, t3, t4, fta, ftb, ftc, ftd, fte))))))))
def rm_e_readClause_x5 : Room := { frames := 4, cells := 0, slots := 0, locals := 89 }
set_option maxHeartbeats 4000000 in
set_option maxRecDepth 100000 in
theorem e_readClause_x5 {l : Launch} {D : va_G} {cI cZ : ClassId} {sz : Nat} (rd x t ta tb tc td te : Nat) (r0 : Int32) (r1 : Int32) (r3 : Int32) (r4 : Int32) (r5 : Int32) (r6 : Int32) (ftx : Nat → Int32) (t0 : Int32) (t1 : Int32) (t2 : Int32) (t3 : Int32) (t4 : Int32) (fta : Nat → Int32) (ftb : Nat → Int32) (ftc : Nat → Int32) (ftd : Nat → Int32) (fte : Nat → Int32) (h01 : r6 = 0 ∨ r6 = 1) : KV l yX5_readClause cX5_readClause 4 rm_e_readClause_x5 D cI cZ [.ref rd, .ref t] sz [(rd, .inr (5, [.int r0, .int r1, .ref x, .int r3, .int r4, .int r5, .int r6])), (x, .inl (cI, 240, .inl ftx)), (t, .inr (8, [.int t0, .int t1, .int t2, .int t3, .int t4, .ref ta, .ref tb, .ref tc, .ref td, .ref te])), (ta, .inl (cI, 6, .inl fta)), (tb, .inl (cI, 6, .inl ftb)), (tc, .inl (cI, 30, .inl ftc)), (td, .inl (cI, 7, .inl ftd)), (te, .inl (cI, 7, .inl fte))] (fun (u : Int32 × Int32 × Int32 × Int32 × Int32 × Int32 × Int32 × Int32 × Int32 × Int32 × (Nat → Int32) × (Nat → Int32) × (Nat → Int32) × (Nat → Int32) × (Nat → Int32)) => u = f_e_readClause_x5 r0 r1 r3 r4 r5 r6 ftx t0 t1 t2 t3 t4 fta ftb ftc ftd fte) (fun (u : Int32 × Int32 × Int32 × Int32 × Int32 × Int32 × Int32 × Int32 × Int32 × Int32 × (Nat → Int32) × (Nat → Int32) × (Nat → Int32) × (Nat → Int32) × (Nat → Int32)) => [(rd, .inr (5, [.int (u.1), .int (u.2.1), .ref x, .int r3, .int (u.2.2.1), .int (u.2.2.2.1), .int (u.2.2.2.2.1)])), (x, .inl (cI, 240, .inl ftx)), (t, .inr (8, [.int (u.2.2.2.2.2.1), .int (u.2.2.2.2.2.2.1), .int (u.2.2.2.2.2.2.2.1), .int (u.2.2.2.2.2.2.2.2.1), .int (u.2.2.2.2.2.2.2.2.2.1), .ref ta, .ref tb, .ref tc, .ref td, .ref te])), (ta, .inl (cI, 6, .inl u.2.2.2.2.2.2.2.2.2.2.1)), (tb, .inl (cI, 6, .inl u.2.2.2.2.2.2.2.2.2.2.2.1)), (tc, .inl (cI, 30, .inl u.2.2.2.2.2.2.2.2.2.2.2.2.1)), (td, .inl (cI, 7, .inl u.2.2.2.2.2.2.2.2.2.2.2.2.2.1)), (te, .inl (cI, 7, .inl u.2.2.2.2.2.2.2.2.2.2.2.2.2.2))]) := by
  refine KV.go rfl (Nat.le_of_ble_eq_true rfl) ?_
  intro p e s m args below meth c ls A Q hx hb hml hts hown hin hP hK hD hS hA hN hl hret
  have hl : lv_has ls 4 [(0, .ref rd), (1, .ref t)] := hl
  obtain ⟨RES, hE⟩ : ∃ xRES, f_e_readClause_x5 r0 r1 r3 r4 r5 r6 ftx t0 t1 t2 t3 t4 fta ftb ftc ftd fte = xRES := ⟨_, rfl⟩
  rw [hE] at hret
  rw [f_e_readClause_x5] at hE
  refine lv_aload_n hx hb dX5_readClause_0 rfl (lv_at hl 0 rfl) ?_
  refine cVi (wr := [(t, .inr (8, [.int t0, .int t1, .int t2, .int t3, .int t4, .ref ta, .ref tb, .ref tc, .ref td, .ref te])), (ta, .inl (cI, 6, .inl fta)), (tb, .inl (cI, 6, .inl ftb)), (tc, .inl (cI, 30, .inl ftc)), (td, .inl (cI, 7, .inl ftd)), (te, .inl (cI, 7, .inl fte))]) (rest := []) (e_next_x5 rd x r0 r1 r3 r4 r5 r6 ftx) okV_X5_next wd_197 hx hb hml hown hts hK hP hD hS hA hN hl.1 [0, 1] [2, 3, 4, 5, 6, 7] rfl rfl rfl rfl (of_decide_eq_true rfl) rfl rfl rfl (Nat.le_of_ble_eq_true rfl) (Nat.le_of_ble_eq_true rfl) (Nat.le_of_ble_eq_true rfl) (Nat.le_of_ble_eq_true rfl) (Nat.le_of_ble_eq_true rfl) dX5_readClause_1 (fun r_2 u_1 H locs hw_u_1 hP hD hS => ?_)
  replace hw_u_1 : (r_2, u_1) = (f_e_next_x5 r0 r1 r3 r4 r5 r6 ftx) := hw_u_1
  rw [← hw_u_1] at hE
  replace hE : (if r_2 = 98 then (if t0 = 0 then (if (f_e_isTooOften_x5 r0 r1 r3 u_1 r5 r6 t0 t1 t2 t3 t4 98) = 0 then (match (f_e_readBridges_x5 r0 r1 r3 (u_1 + 1) r5 r6 ftx t0 t1 t2 t3 t4 fta) with | (o_31, o_32, o_33, o_34, o_35) => (match (f_e_expect_x5 o_31 o_32 r3 o_33 r5 r6 ftx 59) with | (o_38, o_39, o_40) => (o_38, o_39, o_40, r5, r6, o_34, t1, t2, t3, t4, o_35, ftb, ftc, ftd, fte))) else (match (f_e_blame_x5 r0 r1 r3 u_1 r5 r6 3 u_1) with | (o_43, o_44) => (o_43, o_44, u_1, r5, r6, t0, t1, t2, t3, t4, fta, ftb, ftc, ftd, fte))) else (if (f_e_isTooOften_x5 r0 r1 r3 u_1 r5 r6 t0 t1 t2 t3 t4 98) = 0 then (match (f_e_readBridges_x5 r0 r1 r3 (u_1 + 1) r5 r6 ftx t0 t1 t2 t3 t4 fta) with | (o_11, o_12, o_13, o_14, o_15) => (match (f_e_expect_x5 o_11 o_12 r3 o_13 r5 r6 ftx 59) with | (o_18, o_19, o_20) => (o_18, o_19, o_20, r5, r6, o_14, t1, t2, t3, t4, o_15, ftb, ftc, ftd, fte))) else (match (f_e_blame_x5 r0 r1 r3 u_1 r5 r6 3 u_1) with | (o_23, o_24) => (o_23, o_24, u_1, r5, r6, t0, t1, t2, t3, t4, fta, ftb, ftc, ftd, fte)))) else (if r_2 = 116 then (if t0 = 0 then (match (f_e_blame_x5 r0 r1 r3 u_1 r5 r6 1 u_1) with | (o_68, o_69) => (o_68, o_69, u_1, r5, r6, t0, t1, t2, t3, t4, fta, ftb, ftc, ftd, fte)) else (if (f_e_isTooOften_x5 r0 r1 r3 u_1 r5 r6 t0 t1 t2 t3 t4 116) = 0 then (match (f_e_number_x5 r0 r1 r3 (u_1 + 1) r5 r6 ftx 1 5) with | (r_52, o_53, o_54, o_55) => (match (f_e_expect_x5 o_53 o_54 r3 o_55 1 r6 ftx 59) with | (o_58, o_59, o_60) => (o_58, o_59, o_60, 1, r6, t0, r_52, t2, t3, t4, fta, ftb, ftc, ftd, fte))) else (match (f_e_blame_x5 r0 r1 r3 u_1 r5 r6 3 u_1) with | (o_63, o_64) => (o_63, o_64, u_1, r5, r6, t0, t1, t2, t3, t4, fta, ftb, ftc, ftd, fte)))) else (if r_2 = 99 then (if t0 = 0 then (match (f_e_blame_x5 r0 r1 r3 u_1 r5 r6 1 u_1) with | (o_96, o_97) => (o_96, o_97, u_1, r5, r6, t0, t1, t2, t3, t4, fta, ftb, ftc, ftd, fte)) else (if (f_e_isTooOften_x5 r0 r1 r3 u_1 r5 r6 t0 t1 t2 t3 t4 99) = 0 then (match (f_e_readCouple_x5 r0 r1 r3 (u_1 + 1) r5 r6 ftx t0 t1 t2 t3 t4 ftb ftc) with | (o_78, o_79, o_80, o_81, o_82, o_83) => (match (f_e_expect_x5 o_78 o_79 r3 o_80 r5 r6 ftx 59) with | (o_86, o_87, o_88) => (o_86, o_87, o_88, r5, r6, t0, t1, o_81, t3, t4, fta, o_82, o_83, ftd, fte))) else (match (f_e_blame_x5 r0 r1 r3 u_1 r5 r6 3 u_1) with | (o_91, o_92) => (o_91, o_92, u_1, r5, r6, t0, t1, t2, t3, t4, fta, ftb, ftc, ftd, fte)))) else (if r_2 = 118 then (if t0 = 0 then (match (f_e_blame_x5 r0 r1 r3 u_1 r5 r6 1 u_1) with | (o_124, o_125) => (o_124, o_125, u_1, r5, r6, t0, t1, t2, t3, t4, fta, ftb, ftc, ftd, fte)) else (if (f_e_isTooOften_x5 r0 r1 r3 u_1 r5 r6 t0 t1 t2 t3 t4 118) = 0 then (match (f_e_readBarge_x5 r0 r1 r3 (u_1 + 1) r5 r6 ftx t0 t1 t2 t3 t4 ftd fte) with | (o_106, o_107, o_108, o_109, o_110, o_111) => (match (f_e_expect_x5 o_106 o_107 r3 o_108 r5 r6 ftx 59) with | (o_114, o_115, o_116) => (o_114, o_115, o_116, r5, r6, t0, t1, t2, o_109, t4, fta, ftb, ftc, o_110, o_111))) else (match (f_e_blame_x5 r0 r1 r3 u_1 r5 r6 3 u_1) with | (o_119, o_120) => (o_119, o_120, u_1, r5, r6, t0, t1, t2, t3, t4, fta, ftb, ftc, ftd, fte)))) else (if r_2 = 115 then (if t0 = 0 then (match (f_e_blame_x5 r0 r1 r3 u_1 r5 r6 1 u_1) with | (o_154, o_155) => (o_154, o_155, u_1, r5, r6, t0, t1, t2, t3, t4, fta, ftb, ftc, ftd, fte)) else (if (f_e_isTooOften_x5 r0 r1 r3 u_1 r5 r6 t0 t1 t2 t3 t4 115) = 0 then (match (f_e_number_x5 r0 r1 r3 (u_1 + 1) r5 r6 ftx 0 1) with | (r_138, o_139, o_140, o_141) => (match (f_e_expect_x5 o_139 o_140 r3 o_141 r5 1 ftx 59) with | (o_144, o_145, o_146) => (o_144, o_145, o_146, r5, 1, t0, t1, t2, t3, r_138, fta, ftb, ftc, ftd, fte))) else (match (f_e_blame_x5 r0 r1 r3 u_1 r5 r6 3 u_1) with | (o_149, o_150) => (o_149, o_150, u_1, r5, r6, t0, t1, t2, t3, t4, fta, ftb, ftc, ftd, fte)))) else (match (f_e_blame_x5 r0 r1 r3 u_1 r5 r6 1 u_1) with | (o_130, o_131) => (o_130, o_131, u_1, r5, r6, t0, t1, t2, t3, t4, fta, ftb, ftc, ftd, fte))))))) = RES := hE
  have hP : va_P D classes [(t, .inr (8, [.int t0, .int t1, .int t2, .int t3, .int t4, .ref ta, .ref tb, .ref tc, .ref td, .ref te])), (ta, .inl (cI, 6, .inl fta)), (tb, .inl (cI, 6, .inl ftb)), (tc, .inl (cI, 30, .inl ftc)), (td, .inl (cI, 7, .inl ftd)), (te, .inl (cI, 7, .inl fte)), (rd, .inr (5, [.int r0, .int r1, .ref x, .int r3, .int u_1, .int r5, .int r6])), (x, .inl (cI, 240, .inl ftx))] H := hP
  have hD : va_D A [(t, .inr (8, [.int t0, .int t1, .int t2, .int t3, .int t4, .ref ta, .ref tb, .ref tc, .ref td, .ref te])), (ta, .inl (cI, 6, .inl fta)), (tb, .inl (cI, 6, .inl ftb)), (tc, .inl (cI, 30, .inl ftc)), (td, .inl (cI, 7, .inl ftd)), (te, .inl (cI, 7, .inl fte)), (rd, .inr (5, [.int r0, .int r1, .ref x, .int r3, .int u_1, .int r5, .int r6])), (x, .inl (cI, 240, .inl ftx))] := hD
  refine lv_istore_n (lv' := [(2, .int r_2), (0, .ref rd), (1, .ref t)]) hx hb dX5_readClause_4 rfl hl (Nat.le_of_ble_eq_true rfl) rfl (fun ls hl => ?_)
  refine lv_iload_n hx hb dX5_readClause_5 rfl (lv_at hl 0 rfl) ?_
  refine lv_bipush (v := 98) hx hb dX5_readClause_6 rfl ?_
  refine lv_icmp_eq (tgt := 35) hx hb dX5_readClause_8 rfl (fun c_3 => ?_) (fun c_3 => ?_)
  · rw [if_pos c_3] at hE
    subst c_3
    refine lv_iconst (v := 1) hx hb dX5_readClause_35 rfl ?_
    refine lv_goto (tgt := 40) hx hb dX5_readClause_36 rfl ?_
    refine lv_istore_n (lv' := [(3, .int 1), (2, .int 98), (0, .ref rd), (1, .ref t)]) hx hb dX5_readClause_40 rfl hl (Nat.le_of_ble_eq_true rfl) rfl (fun ls hl => ?_)
    refine lv_iload_n hx hb dX5_readClause_41 rfl (lv_at hl 0 rfl) ?_
    refine lv_if_eq (tgt := 58) hx hb dX5_readClause_42 rfl (fun c_4 => absurd c_4 (by decide +kernel)) (fun c_4 => ?_)
    refine lv_aload_n hx hb dX5_readClause_45 rfl (lv_at hl 3 rfl) ?_
    refine va_get (D := D) (ci := 8) (v := .int t0) (C := RX8) (T := TX8) (N := 10) hx hb hts iX8 hown hK hP 0 rfl rfl 0 (Nat.le_of_ble_eq_true rfl) (hts _ wd_209) (fun _ h9 => h9) rfl dX5_readClause_46 ?_
    refine lv_if_ne (tgt := 68) hx hb dX5_readClause_49 rfl (fun c_5 => ?_) (fun c_5 => ?_)
    · rw [if_neg c_5] at hE
      refine lv_aload_n hx hb dX5_readClause_68 rfl (lv_at hl 2 rfl) ?_
      refine lv_iload_n hx hb dX5_readClause_69 rfl (lv_at hl 1 rfl) ?_
      refine lv_aload_n hx hb dX5_readClause_70 rfl (lv_at hl 3 rfl) ?_
      refine cVi (wr := [(ta, .inl (cI, 6, .inl fta)), (tb, .inl (cI, 6, .inl ftb)), (tc, .inl (cI, 30, .inl ftc)), (td, .inl (cI, 7, .inl ftd)), (te, .inl (cI, 7, .inl fte)), (x, .inl (cI, 240, .inl ftx))]) (rest := []) (e_isTooOften_x5 rd x t ta tb tc td te r0 r1 r3 u_1 r5 r6 t0 t1 t2 t3 t4 98 h01) okV_X5_isTooOften wd_226 hx hb hml hown hts hK hP hD hS hA hN hl.1 [6, 0] [1, 2, 3, 4, 5, 7] rfl rfl rfl rfl (of_decide_eq_true rfl) rfl rfl rfl (Nat.le_of_ble_eq_true rfl) (Nat.le_of_ble_eq_true rfl) (Nat.le_of_ble_eq_true rfl) (Nat.le_of_ble_eq_true rfl) (Nat.le_of_ble_eq_true rfl) dX5_readClause_71 (fun r_7 u_6 H locs hw_u_6 hP hD hS => ?_)
      replace hw_u_6 : r_7 = (f_e_isTooOften_x5 r0 r1 r3 u_1 r5 r6 t0 t1 t2 t3 t4 98) := hw_u_6
      rw [hw_u_6]
      clear hw_u_6
      have hP : va_P D classes [(ta, .inl (cI, 6, .inl fta)), (tb, .inl (cI, 6, .inl ftb)), (tc, .inl (cI, 30, .inl ftc)), (td, .inl (cI, 7, .inl ftd)), (te, .inl (cI, 7, .inl fte)), (x, .inl (cI, 240, .inl ftx)), (rd, .inr (5, [.int r0, .int r1, .ref x, .int r3, .int u_1, .int r5, .int r6])), (t, .inr (8, [.int t0, .int t1, .int t2, .int t3, .int t4, .ref ta, .ref tb, .ref tc, .ref td, .ref te]))] H := hP
      have hD : va_D A [(ta, .inl (cI, 6, .inl fta)), (tb, .inl (cI, 6, .inl ftb)), (tc, .inl (cI, 30, .inl ftc)), (td, .inl (cI, 7, .inl ftd)), (te, .inl (cI, 7, .inl fte)), (x, .inl (cI, 240, .inl ftx)), (rd, .inr (5, [.int r0, .int r1, .ref x, .int r3, .int u_1, .int r5, .int r6])), (t, .inr (8, [.int t0, .int t1, .int t2, .int t3, .int t4, .ref ta, .ref tb, .ref tc, .ref td, .ref te]))] := hD
      refine lv_if_eq (tgt := 87) hx hb dX5_readClause_74 rfl (fun c_8 => ?_) (fun c_8 => ?_)
      · rw [if_pos c_8] at hE
        refine lv_aload_n hx hb dX5_readClause_87 rfl (lv_at hl 2 rfl) ?_
        refine lv_dup hx hb dX5_readClause_88 rfl ?_
        refine va_get (D := D) (ci := 5) (v := .int u_1) (C := RX5) (T := TX5) (N := 7) hx hb hts iX5 hown hK hP 6 rfl rfl 4 (Nat.le_of_ble_eq_true rfl) (hts _ wd_46) (fun _ h9 => h9) rfl dX5_readClause_89 ?_
        refine lv_iconst (v := 1) hx hb dX5_readClause_92 rfl ?_
        refine lv_iadd hx hb dX5_readClause_93 ?_
        refine va_put (D := D) (ci := 5) (v := .int (u_1 + 1)) (ty := .int) (C := RX5) (T := TX5) (N := 7) hx hb hts iX5 tyX5 tyX5_ok nmX5 hown hK hP hD hS 6 rfl rfl 4 (Nat.le_of_ble_eq_true rfl) (hts _ wd_46) (fun _ h9 => h9) rfl (by decide +kernel) rfl rfl (Nat.le_of_ble_eq_true rfl) dX5_readClause_94 (fun H locs hP hD hS => ?_)
        have hP : va_P D classes [(ta, .inl (cI, 6, .inl fta)), (tb, .inl (cI, 6, .inl ftb)), (tc, .inl (cI, 30, .inl ftc)), (td, .inl (cI, 7, .inl ftd)), (te, .inl (cI, 7, .inl fte)), (x, .inl (cI, 240, .inl ftx)), (rd, .inr (5, [.int r0, .int r1, .ref x, .int r3, .int (u_1 + 1), .int r5, .int r6])), (t, .inr (8, [.int t0, .int t1, .int t2, .int t3, .int t4, .ref ta, .ref tb, .ref tc, .ref td, .ref te]))] H := hP
        have hD : va_D A [(ta, .inl (cI, 6, .inl fta)), (tb, .inl (cI, 6, .inl ftb)), (tc, .inl (cI, 30, .inl ftc)), (td, .inl (cI, 7, .inl ftd)), (te, .inl (cI, 7, .inl fte)), (x, .inl (cI, 240, .inl ftx)), (rd, .inr (5, [.int r0, .int r1, .ref x, .int r3, .int (u_1 + 1), .int r5, .int r6])), (t, .inr (8, [.int t0, .int t1, .int t2, .int t3, .int t4, .ref ta, .ref tb, .ref tc, .ref td, .ref te]))] := hD
        refine lv_iload_n hx hb dX5_readClause_97 rfl (lv_at hl 1 rfl) ?_
        refine lv_lookup (off := 42) (tgt := 140) hx hb dX5_readClause_98 (by decide +kernel) (by decide +kernel) rfl ?_
        refine lv_aload_n hx hb dX5_readClause_140 rfl (lv_at hl 2 rfl) ?_
        refine lv_aload_n hx hb dX5_readClause_141 rfl (lv_at hl 3 rfl) ?_
        refine cVv (wr := [(tb, .inl (cI, 6, .inl ftb)), (tc, .inl (cI, 30, .inl ftc)), (td, .inl (cI, 7, .inl ftd)), (te, .inl (cI, 7, .inl fte))]) (rest := []) (e_readBridges_x5 rd x t ta tb tc td te r0 r1 r3 (u_1 + 1) r5 r6 ftx t0 t1 t2 t3 t4 fta) okV_X5_readBridges wd_230 hx hb hml hown hts hK hP hD hS hA hN hl.1 [6, 5, 7, 0] [1, 2, 3, 4] rfl rfl rfl rfl (of_decide_eq_true rfl) rfl rfl rfl (Nat.le_of_ble_eq_true rfl) (Nat.le_of_ble_eq_true rfl) (Nat.le_of_ble_eq_true rfl) (Nat.le_of_ble_eq_true rfl) (Nat.le_of_ble_eq_true rfl) dX5_readClause_142 (fun u_9 H locs hw_u_9 hP hD hS => ?_)
        obtain ⟨o_11, o_12, o_13, o_14, o_15⟩ := u_9
        replace hw_u_9 : (o_11, o_12, o_13, o_14, o_15) = (f_e_readBridges_x5 r0 r1 r3 (u_1 + 1) r5 r6 ftx t0 t1 t2 t3 t4 fta) := hw_u_9
        rw [← hw_u_9] at hE
        replace hE : (match (f_e_expect_x5 o_11 o_12 r3 o_13 r5 r6 ftx 59) with | (o_18, o_19, o_20) => (o_18, o_19, o_20, r5, r6, o_14, t1, t2, t3, t4, o_15, ftb, ftc, ftd, fte)) = RES := hE
        have hP : va_P D classes [(tb, .inl (cI, 6, .inl ftb)), (tc, .inl (cI, 30, .inl ftc)), (td, .inl (cI, 7, .inl ftd)), (te, .inl (cI, 7, .inl fte)), (rd, .inr (5, [.int o_11, .int o_12, .ref x, .int r3, .int o_13, .int r5, .int r6])), (x, .inl (cI, 240, .inl ftx)), (t, .inr (8, [.int o_14, .int t1, .int t2, .int t3, .int t4, .ref ta, .ref tb, .ref tc, .ref td, .ref te])), (ta, .inl (cI, 6, .inl o_15))] H := hP
        have hD : va_D A [(tb, .inl (cI, 6, .inl ftb)), (tc, .inl (cI, 30, .inl ftc)), (td, .inl (cI, 7, .inl ftd)), (te, .inl (cI, 7, .inl fte)), (rd, .inr (5, [.int o_11, .int o_12, .ref x, .int r3, .int o_13, .int r5, .int r6])), (x, .inl (cI, 240, .inl ftx)), (t, .inr (8, [.int o_14, .int t1, .int t2, .int t3, .int t4, .ref ta, .ref tb, .ref tc, .ref td, .ref te])), (ta, .inl (cI, 6, .inl o_15))] := hD
        refine lv_goto (tgt := 197) hx hb dX5_readClause_145 rfl ?_
        refine lv_aload_n hx hb dX5_readClause_197 rfl (lv_at hl 2 rfl) ?_
        refine lv_bipush (v := 59) hx hb dX5_readClause_198 rfl ?_
        refine cVv (wr := [(tb, .inl (cI, 6, .inl ftb)), (tc, .inl (cI, 30, .inl ftc)), (td, .inl (cI, 7, .inl ftd)), (te, .inl (cI, 7, .inl fte)), (t, .inr (8, [.int o_14, .int t1, .int t2, .int t3, .int t4, .ref ta, .ref tb, .ref tc, .ref td, .ref te])), (ta, .inl (cI, 6, .inl o_15))]) (rest := []) (e_expect_x5 rd x o_11 o_12 r3 o_13 r5 r6 ftx 59) okV_X5_expect wd_220 hx hb hml hown hts hK hP hD hS hA hN hl.1 [4, 5] [0, 1, 2, 3, 6, 7] rfl rfl rfl rfl (of_decide_eq_true rfl) rfl rfl rfl (Nat.le_of_ble_eq_true rfl) (Nat.le_of_ble_eq_true rfl) (Nat.le_of_ble_eq_true rfl) (Nat.le_of_ble_eq_true rfl) (Nat.le_of_ble_eq_true rfl) dX5_readClause_200 (fun u_16 H locs hw_u_16 hP hD hS => ?_)
        obtain ⟨o_18, o_19, o_20⟩ := u_16
        replace hw_u_16 : (o_18, o_19, o_20) = (f_e_expect_x5 o_11 o_12 r3 o_13 r5 r6 ftx 59) := hw_u_16
        rw [← hw_u_16] at hE
        replace hE : (o_18, o_19, o_20, r5, r6, o_14, t1, t2, t3, t4, o_15, ftb, ftc, ftd, fte) = RES := hE
        have hP : va_P D classes [(tb, .inl (cI, 6, .inl ftb)), (tc, .inl (cI, 30, .inl ftc)), (td, .inl (cI, 7, .inl ftd)), (te, .inl (cI, 7, .inl fte)), (t, .inr (8, [.int o_14, .int t1, .int t2, .int t3, .int t4, .ref ta, .ref tb, .ref tc, .ref td, .ref te])), (ta, .inl (cI, 6, .inl o_15)), (rd, .inr (5, [.int o_18, .int o_19, .ref x, .int r3, .int o_20, .int r5, .int r6])), (x, .inl (cI, 240, .inl ftx))] H := hP
        have hD : va_D A [(tb, .inl (cI, 6, .inl ftb)), (tc, .inl (cI, 30, .inl ftc)), (td, .inl (cI, 7, .inl ftd)), (te, .inl (cI, 7, .inl fte)), (t, .inr (8, [.int o_14, .int t1, .int t2, .int t3, .int t4, .ref ta, .ref tb, .ref tc, .ref td, .ref te])), (ta, .inl (cI, 6, .inl o_15)), (rd, .inr (5, [.int o_18, .int o_19, .ref x, .int r3, .int o_20, .int r5, .int r6])), (x, .inl (cI, 240, .inl ftx))] := hD
        exact hret (o_18, o_19, o_20, r5, r6, o_14, t1, t2, t3, t4, o_15, ftb, ftc, ftd, fte) _ _ _ _ dX5_readClause_203 hE (cutP (isC := [6, 7, 4, 5, 0, 1, 2, 3]) hP rfl) (cutD (isC := [6, 7, 4, 5, 0, 1, 2, 3]) hD rfl rfl) hS
      · rw [if_neg c_8] at hE
        refine lv_aload_n hx hb dX5_readClause_77 rfl (lv_at hl 2 rfl) ?_
        refine lv_iconst (v := 3) hx hb dX5_readClause_78 rfl ?_
        refine lv_aload_n hx hb dX5_readClause_79 rfl (lv_at hl 2 rfl) ?_
        refine va_get (D := D) (ci := 5) (v := .int u_1) (C := RX5) (T := TX5) (N := 7) hx hb hts iX5 hown hK hP 6 rfl rfl 4 (Nat.le_of_ble_eq_true rfl) (hts _ wd_46) (fun _ h9 => h9) rfl dX5_readClause_80 ?_
        refine cVv (wr := [(ta, .inl (cI, 6, .inl fta)), (tb, .inl (cI, 6, .inl ftb)), (tc, .inl (cI, 30, .inl ftc)), (td, .inl (cI, 7, .inl ftd)), (te, .inl (cI, 7, .inl fte)), (x, .inl (cI, 240, .inl ftx)), (t, .inr (8, [.int t0, .int t1, .int t2, .int t3, .int t4, .ref ta, .ref tb, .ref tc, .ref td, .ref te]))]) (rest := []) (e_blame_x5 rd x r0 r1 r3 u_1 r5 r6 3 u_1) okV_X5_blame wd_201 hx hb hml hown hts hK hP hD hS hA hN hl.1 [6] [0, 1, 2, 3, 4, 5, 7] rfl rfl rfl rfl (of_decide_eq_true rfl) rfl rfl rfl (Nat.le_of_ble_eq_true rfl) (Nat.le_of_ble_eq_true rfl) (Nat.le_of_ble_eq_true rfl) (Nat.le_of_ble_eq_true rfl) (Nat.le_of_ble_eq_true rfl) dX5_readClause_83 (fun u_21 H locs hw_u_21 hP hD hS => ?_)
        obtain ⟨o_23, o_24⟩ := u_21
        replace hw_u_21 : (o_23, o_24) = (f_e_blame_x5 r0 r1 r3 u_1 r5 r6 3 u_1) := hw_u_21
        rw [← hw_u_21] at hE
        replace hE : (o_23, o_24, u_1, r5, r6, t0, t1, t2, t3, t4, fta, ftb, ftc, ftd, fte) = RES := hE
        have hP : va_P D classes [(ta, .inl (cI, 6, .inl fta)), (tb, .inl (cI, 6, .inl ftb)), (tc, .inl (cI, 30, .inl ftc)), (td, .inl (cI, 7, .inl ftd)), (te, .inl (cI, 7, .inl fte)), (x, .inl (cI, 240, .inl ftx)), (t, .inr (8, [.int t0, .int t1, .int t2, .int t3, .int t4, .ref ta, .ref tb, .ref tc, .ref td, .ref te])), (rd, .inr (5, [.int o_23, .int o_24, .ref x, .int r3, .int u_1, .int r5, .int r6]))] H := hP
        have hD : va_D A [(ta, .inl (cI, 6, .inl fta)), (tb, .inl (cI, 6, .inl ftb)), (tc, .inl (cI, 30, .inl ftc)), (td, .inl (cI, 7, .inl ftd)), (te, .inl (cI, 7, .inl fte)), (x, .inl (cI, 240, .inl ftx)), (t, .inr (8, [.int t0, .int t1, .int t2, .int t3, .int t4, .ref ta, .ref tb, .ref tc, .ref td, .ref te])), (rd, .inr (5, [.int o_23, .int o_24, .ref x, .int r3, .int u_1, .int r5, .int r6]))] := hD
        exact hret (o_23, o_24, u_1, r5, r6, t0, t1, t2, t3, t4, fta, ftb, ftc, ftd, fte) _ _ _ _ dX5_readClause_86 hE (cutP (isC := [7, 5, 6, 0, 1, 2, 3, 4]) hP rfl) (cutD (isC := [7, 5, 6, 0, 1, 2, 3, 4]) hD rfl rfl) hS
    · rw [if_pos c_5] at hE
      refine lv_iload_n hx hb dX5_readClause_52 rfl (lv_at hl 1 rfl) ?_
      refine lv_bipush (v := 98) hx hb dX5_readClause_53 rfl ?_
      refine lv_icmp_eq (tgt := 68) hx hb dX5_readClause_55 rfl (fun c_25 => ?_) (fun c_25 => absurd (by decide +kernel) c_25)
      refine lv_aload_n hx hb dX5_readClause_68 rfl (lv_at hl 2 rfl) ?_
      refine lv_iload_n hx hb dX5_readClause_69 rfl (lv_at hl 1 rfl) ?_
      refine lv_aload_n hx hb dX5_readClause_70 rfl (lv_at hl 3 rfl) ?_
      refine cVi (wr := [(ta, .inl (cI, 6, .inl fta)), (tb, .inl (cI, 6, .inl ftb)), (tc, .inl (cI, 30, .inl ftc)), (td, .inl (cI, 7, .inl ftd)), (te, .inl (cI, 7, .inl fte)), (x, .inl (cI, 240, .inl ftx))]) (rest := []) (e_isTooOften_x5 rd x t ta tb tc td te r0 r1 r3 u_1 r5 r6 t0 t1 t2 t3 t4 98 h01) okV_X5_isTooOften wd_226 hx hb hml hown hts hK hP hD hS hA hN hl.1 [6, 0] [1, 2, 3, 4, 5, 7] rfl rfl rfl rfl (of_decide_eq_true rfl) rfl rfl rfl (Nat.le_of_ble_eq_true rfl) (Nat.le_of_ble_eq_true rfl) (Nat.le_of_ble_eq_true rfl) (Nat.le_of_ble_eq_true rfl) (Nat.le_of_ble_eq_true rfl) dX5_readClause_71 (fun r_27 u_26 H locs hw_u_26 hP hD hS => ?_)
      replace hw_u_26 : r_27 = (f_e_isTooOften_x5 r0 r1 r3 u_1 r5 r6 t0 t1 t2 t3 t4 98) := hw_u_26
      rw [hw_u_26]
      clear hw_u_26
      have hP : va_P D classes [(ta, .inl (cI, 6, .inl fta)), (tb, .inl (cI, 6, .inl ftb)), (tc, .inl (cI, 30, .inl ftc)), (td, .inl (cI, 7, .inl ftd)), (te, .inl (cI, 7, .inl fte)), (x, .inl (cI, 240, .inl ftx)), (rd, .inr (5, [.int r0, .int r1, .ref x, .int r3, .int u_1, .int r5, .int r6])), (t, .inr (8, [.int t0, .int t1, .int t2, .int t3, .int t4, .ref ta, .ref tb, .ref tc, .ref td, .ref te]))] H := hP
      have hD : va_D A [(ta, .inl (cI, 6, .inl fta)), (tb, .inl (cI, 6, .inl ftb)), (tc, .inl (cI, 30, .inl ftc)), (td, .inl (cI, 7, .inl ftd)), (te, .inl (cI, 7, .inl fte)), (x, .inl (cI, 240, .inl ftx)), (rd, .inr (5, [.int r0, .int r1, .ref x, .int r3, .int u_1, .int r5, .int r6])), (t, .inr (8, [.int t0, .int t1, .int t2, .int t3, .int t4, .ref ta, .ref tb, .ref tc, .ref td, .ref te]))] := hD
      refine lv_if_eq (tgt := 87) hx hb dX5_readClause_74 rfl (fun c_28 => ?_) (fun c_28 => ?_)
      · rw [if_pos c_28] at hE
        refine lv_aload_n hx hb dX5_readClause_87 rfl (lv_at hl 2 rfl) ?_
        refine lv_dup hx hb dX5_readClause_88 rfl ?_
        refine va_get (D := D) (ci := 5) (v := .int u_1) (C := RX5) (T := TX5) (N := 7) hx hb hts iX5 hown hK hP 6 rfl rfl 4 (Nat.le_of_ble_eq_true rfl) (hts _ wd_46) (fun _ h9 => h9) rfl dX5_readClause_89 ?_
        refine lv_iconst (v := 1) hx hb dX5_readClause_92 rfl ?_
        refine lv_iadd hx hb dX5_readClause_93 ?_
        refine va_put (D := D) (ci := 5) (v := .int (u_1 + 1)) (ty := .int) (C := RX5) (T := TX5) (N := 7) hx hb hts iX5 tyX5 tyX5_ok nmX5 hown hK hP hD hS 6 rfl rfl 4 (Nat.le_of_ble_eq_true rfl) (hts _ wd_46) (fun _ h9 => h9) rfl (by decide +kernel) rfl rfl (Nat.le_of_ble_eq_true rfl) dX5_readClause_94 (fun H locs hP hD hS => ?_)
        have hP : va_P D classes [(ta, .inl (cI, 6, .inl fta)), (tb, .inl (cI, 6, .inl ftb)), (tc, .inl (cI, 30, .inl ftc)), (td, .inl (cI, 7, .inl ftd)), (te, .inl (cI, 7, .inl fte)), (x, .inl (cI, 240, .inl ftx)), (rd, .inr (5, [.int r0, .int r1, .ref x, .int r3, .int (u_1 + 1), .int r5, .int r6])), (t, .inr (8, [.int t0, .int t1, .int t2, .int t3, .int t4, .ref ta, .ref tb, .ref tc, .ref td, .ref te]))] H := hP
        have hD : va_D A [(ta, .inl (cI, 6, .inl fta)), (tb, .inl (cI, 6, .inl ftb)), (tc, .inl (cI, 30, .inl ftc)), (td, .inl (cI, 7, .inl ftd)), (te, .inl (cI, 7, .inl fte)), (x, .inl (cI, 240, .inl ftx)), (rd, .inr (5, [.int r0, .int r1, .ref x, .int r3, .int (u_1 + 1), .int r5, .int r6])), (t, .inr (8, [.int t0, .int t1, .int t2, .int t3, .int t4, .ref ta, .ref tb, .ref tc, .ref td, .ref te]))] := hD
        refine lv_iload_n hx hb dX5_readClause_97 rfl (lv_at hl 1 rfl) ?_
        refine lv_lookup (off := 42) (tgt := 140) hx hb dX5_readClause_98 (by decide +kernel) (by decide +kernel) rfl ?_
        refine lv_aload_n hx hb dX5_readClause_140 rfl (lv_at hl 2 rfl) ?_
        refine lv_aload_n hx hb dX5_readClause_141 rfl (lv_at hl 3 rfl) ?_
        refine cVv (wr := [(tb, .inl (cI, 6, .inl ftb)), (tc, .inl (cI, 30, .inl ftc)), (td, .inl (cI, 7, .inl ftd)), (te, .inl (cI, 7, .inl fte))]) (rest := []) (e_readBridges_x5 rd x t ta tb tc td te r0 r1 r3 (u_1 + 1) r5 r6 ftx t0 t1 t2 t3 t4 fta) okV_X5_readBridges wd_230 hx hb hml hown hts hK hP hD hS hA hN hl.1 [6, 5, 7, 0] [1, 2, 3, 4] rfl rfl rfl rfl (of_decide_eq_true rfl) rfl rfl rfl (Nat.le_of_ble_eq_true rfl) (Nat.le_of_ble_eq_true rfl) (Nat.le_of_ble_eq_true rfl) (Nat.le_of_ble_eq_true rfl) (Nat.le_of_ble_eq_true rfl) dX5_readClause_142 (fun u_29 H locs hw_u_29 hP hD hS => ?_)
        obtain ⟨o_31, o_32, o_33, o_34, o_35⟩ := u_29
        replace hw_u_29 : (o_31, o_32, o_33, o_34, o_35) = (f_e_readBridges_x5 r0 r1 r3 (u_1 + 1) r5 r6 ftx t0 t1 t2 t3 t4 fta) := hw_u_29
        rw [← hw_u_29] at hE
        replace hE : (match (f_e_expect_x5 o_31 o_32 r3 o_33 r5 r6 ftx 59) with | (o_38, o_39, o_40) => (o_38, o_39, o_40, r5, r6, o_34, t1, t2, t3, t4, o_35, ftb, ftc, ftd, fte)) = RES := hE
        have hP : va_P D classes [(tb, .inl (cI, 6, .inl ftb)), (tc, .inl (cI, 30, .inl ftc)), (td, .inl (cI, 7, .inl ftd)), (te, .inl (cI, 7, .inl fte)), (rd, .inr (5, [.int o_31, .int o_32, .ref x, .int r3, .int o_33, .int r5, .int r6])), (x, .inl (cI, 240, .inl ftx)), (t, .inr (8, [.int o_34, .int t1, .int t2, .int t3, .int t4, .ref ta, .ref tb, .ref tc, .ref td, .ref te])), (ta, .inl (cI, 6, .inl o_35))] H := hP
        have hD : va_D A [(tb, .inl (cI, 6, .inl ftb)), (tc, .inl (cI, 30, .inl ftc)), (td, .inl (cI, 7, .inl ftd)), (te, .inl (cI, 7, .inl fte)), (rd, .inr (5, [.int o_31, .int o_32, .ref x, .int r3, .int o_33, .int r5, .int r6])), (x, .inl (cI, 240, .inl ftx)), (t, .inr (8, [.int o_34, .int t1, .int t2, .int t3, .int t4, .ref ta, .ref tb, .ref tc, .ref td, .ref te])), (ta, .inl (cI, 6, .inl o_35))] := hD
        refine lv_goto (tgt := 197) hx hb dX5_readClause_145 rfl ?_
        refine lv_aload_n hx hb dX5_readClause_197 rfl (lv_at hl 2 rfl) ?_
        refine lv_bipush (v := 59) hx hb dX5_readClause_198 rfl ?_
        refine cVv (wr := [(tb, .inl (cI, 6, .inl ftb)), (tc, .inl (cI, 30, .inl ftc)), (td, .inl (cI, 7, .inl ftd)), (te, .inl (cI, 7, .inl fte)), (t, .inr (8, [.int o_34, .int t1, .int t2, .int t3, .int t4, .ref ta, .ref tb, .ref tc, .ref td, .ref te])), (ta, .inl (cI, 6, .inl o_35))]) (rest := []) (e_expect_x5 rd x o_31 o_32 r3 o_33 r5 r6 ftx 59) okV_X5_expect wd_220 hx hb hml hown hts hK hP hD hS hA hN hl.1 [4, 5] [0, 1, 2, 3, 6, 7] rfl rfl rfl rfl (of_decide_eq_true rfl) rfl rfl rfl (Nat.le_of_ble_eq_true rfl) (Nat.le_of_ble_eq_true rfl) (Nat.le_of_ble_eq_true rfl) (Nat.le_of_ble_eq_true rfl) (Nat.le_of_ble_eq_true rfl) dX5_readClause_200 (fun u_36 H locs hw_u_36 hP hD hS => ?_)
        obtain ⟨o_38, o_39, o_40⟩ := u_36
        replace hw_u_36 : (o_38, o_39, o_40) = (f_e_expect_x5 o_31 o_32 r3 o_33 r5 r6 ftx 59) := hw_u_36
        rw [← hw_u_36] at hE
        replace hE : (o_38, o_39, o_40, r5, r6, o_34, t1, t2, t3, t4, o_35, ftb, ftc, ftd, fte) = RES := hE
        have hP : va_P D classes [(tb, .inl (cI, 6, .inl ftb)), (tc, .inl (cI, 30, .inl ftc)), (td, .inl (cI, 7, .inl ftd)), (te, .inl (cI, 7, .inl fte)), (t, .inr (8, [.int o_34, .int t1, .int t2, .int t3, .int t4, .ref ta, .ref tb, .ref tc, .ref td, .ref te])), (ta, .inl (cI, 6, .inl o_35)), (rd, .inr (5, [.int o_38, .int o_39, .ref x, .int r3, .int o_40, .int r5, .int r6])), (x, .inl (cI, 240, .inl ftx))] H := hP
        have hD : va_D A [(tb, .inl (cI, 6, .inl ftb)), (tc, .inl (cI, 30, .inl ftc)), (td, .inl (cI, 7, .inl ftd)), (te, .inl (cI, 7, .inl fte)), (t, .inr (8, [.int o_34, .int t1, .int t2, .int t3, .int t4, .ref ta, .ref tb, .ref tc, .ref td, .ref te])), (ta, .inl (cI, 6, .inl o_35)), (rd, .inr (5, [.int o_38, .int o_39, .ref x, .int r3, .int o_40, .int r5, .int r6])), (x, .inl (cI, 240, .inl ftx))] := hD
        exact hret (o_38, o_39, o_40, r5, r6, o_34, t1, t2, t3, t4, o_35, ftb, ftc, ftd, fte) _ _ _ _ dX5_readClause_203 hE (cutP (isC := [6, 7, 4, 5, 0, 1, 2, 3]) hP rfl) (cutD (isC := [6, 7, 4, 5, 0, 1, 2, 3]) hD rfl rfl) hS
      · rw [if_neg c_28] at hE
        refine lv_aload_n hx hb dX5_readClause_77 rfl (lv_at hl 2 rfl) ?_
        refine lv_iconst (v := 3) hx hb dX5_readClause_78 rfl ?_
        refine lv_aload_n hx hb dX5_readClause_79 rfl (lv_at hl 2 rfl) ?_
        refine va_get (D := D) (ci := 5) (v := .int u_1) (C := RX5) (T := TX5) (N := 7) hx hb hts iX5 hown hK hP 6 rfl rfl 4 (Nat.le_of_ble_eq_true rfl) (hts _ wd_46) (fun _ h9 => h9) rfl dX5_readClause_80 ?_
        refine cVv (wr := [(ta, .inl (cI, 6, .inl fta)), (tb, .inl (cI, 6, .inl ftb)), (tc, .inl (cI, 30, .inl ftc)), (td, .inl (cI, 7, .inl ftd)), (te, .inl (cI, 7, .inl fte)), (x, .inl (cI, 240, .inl ftx)), (t, .inr (8, [.int t0, .int t1, .int t2, .int t3, .int t4, .ref ta, .ref tb, .ref tc, .ref td, .ref te]))]) (rest := []) (e_blame_x5 rd x r0 r1 r3 u_1 r5 r6 3 u_1) okV_X5_blame wd_201 hx hb hml hown hts hK hP hD hS hA hN hl.1 [6] [0, 1, 2, 3, 4, 5, 7] rfl rfl rfl rfl (of_decide_eq_true rfl) rfl rfl rfl (Nat.le_of_ble_eq_true rfl) (Nat.le_of_ble_eq_true rfl) (Nat.le_of_ble_eq_true rfl) (Nat.le_of_ble_eq_true rfl) (Nat.le_of_ble_eq_true rfl) dX5_readClause_83 (fun u_41 H locs hw_u_41 hP hD hS => ?_)
        obtain ⟨o_43, o_44⟩ := u_41
        replace hw_u_41 : (o_43, o_44) = (f_e_blame_x5 r0 r1 r3 u_1 r5 r6 3 u_1) := hw_u_41
        rw [← hw_u_41] at hE
        replace hE : (o_43, o_44, u_1, r5, r6, t0, t1, t2, t3, t4, fta, ftb, ftc, ftd, fte) = RES := hE
        have hP : va_P D classes [(ta, .inl (cI, 6, .inl fta)), (tb, .inl (cI, 6, .inl ftb)), (tc, .inl (cI, 30, .inl ftc)), (td, .inl (cI, 7, .inl ftd)), (te, .inl (cI, 7, .inl fte)), (x, .inl (cI, 240, .inl ftx)), (t, .inr (8, [.int t0, .int t1, .int t2, .int t3, .int t4, .ref ta, .ref tb, .ref tc, .ref td, .ref te])), (rd, .inr (5, [.int o_43, .int o_44, .ref x, .int r3, .int u_1, .int r5, .int r6]))] H := hP
        have hD : va_D A [(ta, .inl (cI, 6, .inl fta)), (tb, .inl (cI, 6, .inl ftb)), (tc, .inl (cI, 30, .inl ftc)), (td, .inl (cI, 7, .inl ftd)), (te, .inl (cI, 7, .inl fte)), (x, .inl (cI, 240, .inl ftx)), (t, .inr (8, [.int t0, .int t1, .int t2, .int t3, .int t4, .ref ta, .ref tb, .ref tc, .ref td, .ref te])), (rd, .inr (5, [.int o_43, .int o_44, .ref x, .int r3, .int u_1, .int r5, .int r6]))] := hD
        exact hret (o_43, o_44, u_1, r5, r6, t0, t1, t2, t3, t4, fta, ftb, ftc, ftd, fte) _ _ _ _ dX5_readClause_86 hE (cutP (isC := [7, 5, 6, 0, 1, 2, 3, 4]) hP rfl) (cutD (isC := [7, 5, 6, 0, 1, 2, 3, 4]) hD rfl rfl) hS
  · rw [if_neg c_3] at hE
    refine lv_iload_n hx hb dX5_readClause_11 rfl (lv_at hl 0 rfl) ?_
    refine lv_bipush (v := 116) hx hb dX5_readClause_12 rfl ?_
    refine lv_icmp_eq (tgt := 35) hx hb dX5_readClause_14 rfl (fun c_45 => ?_) (fun c_45 => ?_)
    · rw [if_pos c_45] at hE
      subst c_45
      refine lv_iconst (v := 1) hx hb dX5_readClause_35 rfl ?_
      refine lv_goto (tgt := 40) hx hb dX5_readClause_36 rfl ?_
      refine lv_istore_n (lv' := [(3, .int 1), (2, .int 116), (0, .ref rd), (1, .ref t)]) hx hb dX5_readClause_40 rfl hl (Nat.le_of_ble_eq_true rfl) rfl (fun ls hl => ?_)
      refine lv_iload_n hx hb dX5_readClause_41 rfl (lv_at hl 0 rfl) ?_
      refine lv_if_eq (tgt := 58) hx hb dX5_readClause_42 rfl (fun c_46 => absurd c_46 (by decide +kernel)) (fun c_46 => ?_)
      refine lv_aload_n hx hb dX5_readClause_45 rfl (lv_at hl 3 rfl) ?_
      refine va_get (D := D) (ci := 8) (v := .int t0) (C := RX8) (T := TX8) (N := 10) hx hb hts iX8 hown hK hP 0 rfl rfl 0 (Nat.le_of_ble_eq_true rfl) (hts _ wd_209) (fun _ h9 => h9) rfl dX5_readClause_46 ?_
      refine lv_if_ne (tgt := 68) hx hb dX5_readClause_49 rfl (fun c_47 => ?_) (fun c_47 => ?_)
      · rw [if_neg c_47] at hE
        refine lv_aload_n hx hb dX5_readClause_68 rfl (lv_at hl 2 rfl) ?_
        refine lv_iload_n hx hb dX5_readClause_69 rfl (lv_at hl 1 rfl) ?_
        refine lv_aload_n hx hb dX5_readClause_70 rfl (lv_at hl 3 rfl) ?_
        refine cVi (wr := [(ta, .inl (cI, 6, .inl fta)), (tb, .inl (cI, 6, .inl ftb)), (tc, .inl (cI, 30, .inl ftc)), (td, .inl (cI, 7, .inl ftd)), (te, .inl (cI, 7, .inl fte)), (x, .inl (cI, 240, .inl ftx))]) (rest := []) (e_isTooOften_x5 rd x t ta tb tc td te r0 r1 r3 u_1 r5 r6 t0 t1 t2 t3 t4 116 h01) okV_X5_isTooOften wd_226 hx hb hml hown hts hK hP hD hS hA hN hl.1 [6, 0] [1, 2, 3, 4, 5, 7] rfl rfl rfl rfl (of_decide_eq_true rfl) rfl rfl rfl (Nat.le_of_ble_eq_true rfl) (Nat.le_of_ble_eq_true rfl) (Nat.le_of_ble_eq_true rfl) (Nat.le_of_ble_eq_true rfl) (Nat.le_of_ble_eq_true rfl) dX5_readClause_71 (fun r_49 u_48 H locs hw_u_48 hP hD hS => ?_)
        replace hw_u_48 : r_49 = (f_e_isTooOften_x5 r0 r1 r3 u_1 r5 r6 t0 t1 t2 t3 t4 116) := hw_u_48
        rw [hw_u_48]
        clear hw_u_48
        have hP : va_P D classes [(ta, .inl (cI, 6, .inl fta)), (tb, .inl (cI, 6, .inl ftb)), (tc, .inl (cI, 30, .inl ftc)), (td, .inl (cI, 7, .inl ftd)), (te, .inl (cI, 7, .inl fte)), (x, .inl (cI, 240, .inl ftx)), (rd, .inr (5, [.int r0, .int r1, .ref x, .int r3, .int u_1, .int r5, .int r6])), (t, .inr (8, [.int t0, .int t1, .int t2, .int t3, .int t4, .ref ta, .ref tb, .ref tc, .ref td, .ref te]))] H := hP
        have hD : va_D A [(ta, .inl (cI, 6, .inl fta)), (tb, .inl (cI, 6, .inl ftb)), (tc, .inl (cI, 30, .inl ftc)), (td, .inl (cI, 7, .inl ftd)), (te, .inl (cI, 7, .inl fte)), (x, .inl (cI, 240, .inl ftx)), (rd, .inr (5, [.int r0, .int r1, .ref x, .int r3, .int u_1, .int r5, .int r6])), (t, .inr (8, [.int t0, .int t1, .int t2, .int t3, .int t4, .ref ta, .ref tb, .ref tc, .ref td, .ref te]))] := hD
        refine lv_if_eq (tgt := 87) hx hb dX5_readClause_74 rfl (fun c_50 => ?_) (fun c_50 => ?_)
        · rw [if_pos c_50] at hE
          refine lv_aload_n hx hb dX5_readClause_87 rfl (lv_at hl 2 rfl) ?_
          refine lv_dup hx hb dX5_readClause_88 rfl ?_
          refine va_get (D := D) (ci := 5) (v := .int u_1) (C := RX5) (T := TX5) (N := 7) hx hb hts iX5 hown hK hP 6 rfl rfl 4 (Nat.le_of_ble_eq_true rfl) (hts _ wd_46) (fun _ h9 => h9) rfl dX5_readClause_89 ?_
          refine lv_iconst (v := 1) hx hb dX5_readClause_92 rfl ?_
          refine lv_iadd hx hb dX5_readClause_93 ?_
          refine va_put (D := D) (ci := 5) (v := .int (u_1 + 1)) (ty := .int) (C := RX5) (T := TX5) (N := 7) hx hb hts iX5 tyX5 tyX5_ok nmX5 hown hK hP hD hS 6 rfl rfl 4 (Nat.le_of_ble_eq_true rfl) (hts _ wd_46) (fun _ h9 => h9) rfl (by decide +kernel) rfl rfl (Nat.le_of_ble_eq_true rfl) dX5_readClause_94 (fun H locs hP hD hS => ?_)
          have hP : va_P D classes [(ta, .inl (cI, 6, .inl fta)), (tb, .inl (cI, 6, .inl ftb)), (tc, .inl (cI, 30, .inl ftc)), (td, .inl (cI, 7, .inl ftd)), (te, .inl (cI, 7, .inl fte)), (x, .inl (cI, 240, .inl ftx)), (rd, .inr (5, [.int r0, .int r1, .ref x, .int r3, .int (u_1 + 1), .int r5, .int r6])), (t, .inr (8, [.int t0, .int t1, .int t2, .int t3, .int t4, .ref ta, .ref tb, .ref tc, .ref td, .ref te]))] H := hP
          have hD : va_D A [(ta, .inl (cI, 6, .inl fta)), (tb, .inl (cI, 6, .inl ftb)), (tc, .inl (cI, 30, .inl ftc)), (td, .inl (cI, 7, .inl ftd)), (te, .inl (cI, 7, .inl fte)), (x, .inl (cI, 240, .inl ftx)), (rd, .inr (5, [.int r0, .int r1, .ref x, .int r3, .int (u_1 + 1), .int r5, .int r6])), (t, .inr (8, [.int t0, .int t1, .int t2, .int t3, .int t4, .ref ta, .ref tb, .ref tc, .ref td, .ref te]))] := hD
          refine lv_iload_n hx hb dX5_readClause_97 rfl (lv_at hl 1 rfl) ?_
          refine lv_lookup (off := 50) (tgt := 148) hx hb dX5_readClause_98 (by decide +kernel) (by decide +kernel) rfl ?_
          refine lv_aload_n hx hb dX5_readClause_148 rfl (lv_at hl 3 rfl) ?_
          refine lv_aload_n hx hb dX5_readClause_149 rfl (lv_at hl 2 rfl) ?_
          refine lv_iconst (v := 1) hx hb dX5_readClause_150 rfl ?_
          refine lv_iconst (v := 5) hx hb dX5_readClause_151 rfl ?_
          refine cVi (wr := [(ta, .inl (cI, 6, .inl fta)), (tb, .inl (cI, 6, .inl ftb)), (tc, .inl (cI, 30, .inl ftc)), (td, .inl (cI, 7, .inl ftd)), (te, .inl (cI, 7, .inl fte)), (t, .inr (8, [.int t0, .int t1, .int t2, .int t3, .int t4, .ref ta, .ref tb, .ref tc, .ref td, .ref te]))]) (rest := [.ref t]) (e_number_x5 rd x r0 r1 r3 (u_1 + 1) r5 r6 ftx 1 5) okV_X5_number wd_213 hx hb hml hown hts hK hP hD hS hA hN hl.1 [6, 5] [0, 1, 2, 3, 4, 7] rfl rfl rfl rfl (of_decide_eq_true rfl) rfl rfl rfl (Nat.le_of_ble_eq_true rfl) (Nat.le_of_ble_eq_true rfl) (Nat.le_of_ble_eq_true rfl) (Nat.le_of_ble_eq_true rfl) (Nat.le_of_ble_eq_true rfl) dX5_readClause_152 (fun r_52 u_51 H locs hw_u_51 hP hD hS => ?_)
          obtain ⟨o_53, o_54, o_55⟩ := u_51
          replace hw_u_51 : (r_52, o_53, o_54, o_55) = (f_e_number_x5 r0 r1 r3 (u_1 + 1) r5 r6 ftx 1 5) := hw_u_51
          rw [← hw_u_51] at hE
          replace hE : (match (f_e_expect_x5 o_53 o_54 r3 o_55 1 r6 ftx 59) with | (o_58, o_59, o_60) => (o_58, o_59, o_60, 1, r6, t0, r_52, t2, t3, t4, fta, ftb, ftc, ftd, fte)) = RES := hE
          have hP : va_P D classes [(ta, .inl (cI, 6, .inl fta)), (tb, .inl (cI, 6, .inl ftb)), (tc, .inl (cI, 30, .inl ftc)), (td, .inl (cI, 7, .inl ftd)), (te, .inl (cI, 7, .inl fte)), (t, .inr (8, [.int t0, .int t1, .int t2, .int t3, .int t4, .ref ta, .ref tb, .ref tc, .ref td, .ref te])), (rd, .inr (5, [.int o_53, .int o_54, .ref x, .int r3, .int o_55, .int r5, .int r6])), (x, .inl (cI, 240, .inl ftx))] H := hP
          have hD : va_D A [(ta, .inl (cI, 6, .inl fta)), (tb, .inl (cI, 6, .inl ftb)), (tc, .inl (cI, 30, .inl ftc)), (td, .inl (cI, 7, .inl ftd)), (te, .inl (cI, 7, .inl fte)), (t, .inr (8, [.int t0, .int t1, .int t2, .int t3, .int t4, .ref ta, .ref tb, .ref tc, .ref td, .ref te])), (rd, .inr (5, [.int o_53, .int o_54, .ref x, .int r3, .int o_55, .int r5, .int r6])), (x, .inl (cI, 240, .inl ftx))] := hD
          refine va_put (D := D) (ci := 8) (v := .int r_52) (ty := .int) (C := RX8) (T := TX8) (N := 10) hx hb hts iX8 tyX8 tyX8_ok nmX8 hown hK hP hD hS 5 rfl rfl 1 (Nat.le_of_ble_eq_true rfl) (hts _ wd_218) (fun _ h9 => h9) rfl (by decide +kernel) rfl rfl (Nat.le_of_ble_eq_true rfl) dX5_readClause_155 (fun H locs hP hD hS => ?_)
          have hP : va_P D classes [(ta, .inl (cI, 6, .inl fta)), (tb, .inl (cI, 6, .inl ftb)), (tc, .inl (cI, 30, .inl ftc)), (td, .inl (cI, 7, .inl ftd)), (te, .inl (cI, 7, .inl fte)), (t, .inr (8, [.int t0, .int r_52, .int t2, .int t3, .int t4, .ref ta, .ref tb, .ref tc, .ref td, .ref te])), (rd, .inr (5, [.int o_53, .int o_54, .ref x, .int r3, .int o_55, .int r5, .int r6])), (x, .inl (cI, 240, .inl ftx))] H := hP
          have hD : va_D A [(ta, .inl (cI, 6, .inl fta)), (tb, .inl (cI, 6, .inl ftb)), (tc, .inl (cI, 30, .inl ftc)), (td, .inl (cI, 7, .inl ftd)), (te, .inl (cI, 7, .inl fte)), (t, .inr (8, [.int t0, .int r_52, .int t2, .int t3, .int t4, .ref ta, .ref tb, .ref tc, .ref td, .ref te])), (rd, .inr (5, [.int o_53, .int o_54, .ref x, .int r3, .int o_55, .int r5, .int r6])), (x, .inl (cI, 240, .inl ftx))] := hD
          refine lv_aload_n hx hb dX5_readClause_158 rfl (lv_at hl 2 rfl) ?_
          refine lv_iconst (v := 1) hx hb dX5_readClause_159 rfl ?_
          refine va_put (D := D) (ci := 5) (v := .int 1) (ty := .boolean) (C := RX5) (T := TX5) (N := 7) hx hb hts iX5 tyX5 tyX5_ok nmX5 hown hK hP hD hS 6 rfl rfl 5 (Nat.le_of_ble_eq_true rfl) (hts _ wd_47) (fun _ h9 => h9) rfl (by decide +kernel) rfl rfl (Nat.le_of_ble_eq_true rfl) dX5_readClause_160 (fun H locs hP hD hS => ?_)
          have hP : va_P D classes [(ta, .inl (cI, 6, .inl fta)), (tb, .inl (cI, 6, .inl ftb)), (tc, .inl (cI, 30, .inl ftc)), (td, .inl (cI, 7, .inl ftd)), (te, .inl (cI, 7, .inl fte)), (t, .inr (8, [.int t0, .int r_52, .int t2, .int t3, .int t4, .ref ta, .ref tb, .ref tc, .ref td, .ref te])), (rd, .inr (5, [.int o_53, .int o_54, .ref x, .int r3, .int o_55, .int 1, .int r6])), (x, .inl (cI, 240, .inl ftx))] H := hP
          have hD : va_D A [(ta, .inl (cI, 6, .inl fta)), (tb, .inl (cI, 6, .inl ftb)), (tc, .inl (cI, 30, .inl ftc)), (td, .inl (cI, 7, .inl ftd)), (te, .inl (cI, 7, .inl fte)), (t, .inr (8, [.int t0, .int r_52, .int t2, .int t3, .int t4, .ref ta, .ref tb, .ref tc, .ref td, .ref te])), (rd, .inr (5, [.int o_53, .int o_54, .ref x, .int r3, .int o_55, .int 1, .int r6])), (x, .inl (cI, 240, .inl ftx))] := hD
          refine lv_goto (tgt := 197) hx hb dX5_readClause_163 rfl ?_
          refine lv_aload_n hx hb dX5_readClause_197 rfl (lv_at hl 2 rfl) ?_
          refine lv_bipush (v := 59) hx hb dX5_readClause_198 rfl ?_
          refine cVv (wr := [(ta, .inl (cI, 6, .inl fta)), (tb, .inl (cI, 6, .inl ftb)), (tc, .inl (cI, 30, .inl ftc)), (td, .inl (cI, 7, .inl ftd)), (te, .inl (cI, 7, .inl fte)), (t, .inr (8, [.int t0, .int r_52, .int t2, .int t3, .int t4, .ref ta, .ref tb, .ref tc, .ref td, .ref te]))]) (rest := []) (e_expect_x5 rd x o_53 o_54 r3 o_55 1 r6 ftx 59) okV_X5_expect wd_220 hx hb hml hown hts hK hP hD hS hA hN hl.1 [6, 7] [0, 1, 2, 3, 4, 5] rfl rfl rfl rfl (of_decide_eq_true rfl) rfl rfl rfl (Nat.le_of_ble_eq_true rfl) (Nat.le_of_ble_eq_true rfl) (Nat.le_of_ble_eq_true rfl) (Nat.le_of_ble_eq_true rfl) (Nat.le_of_ble_eq_true rfl) dX5_readClause_200 (fun u_56 H locs hw_u_56 hP hD hS => ?_)
          obtain ⟨o_58, o_59, o_60⟩ := u_56
          replace hw_u_56 : (o_58, o_59, o_60) = (f_e_expect_x5 o_53 o_54 r3 o_55 1 r6 ftx 59) := hw_u_56
          rw [← hw_u_56] at hE
          replace hE : (o_58, o_59, o_60, 1, r6, t0, r_52, t2, t3, t4, fta, ftb, ftc, ftd, fte) = RES := hE
          have hP : va_P D classes [(ta, .inl (cI, 6, .inl fta)), (tb, .inl (cI, 6, .inl ftb)), (tc, .inl (cI, 30, .inl ftc)), (td, .inl (cI, 7, .inl ftd)), (te, .inl (cI, 7, .inl fte)), (t, .inr (8, [.int t0, .int r_52, .int t2, .int t3, .int t4, .ref ta, .ref tb, .ref tc, .ref td, .ref te])), (rd, .inr (5, [.int o_58, .int o_59, .ref x, .int r3, .int o_60, .int 1, .int r6])), (x, .inl (cI, 240, .inl ftx))] H := hP
          have hD : va_D A [(ta, .inl (cI, 6, .inl fta)), (tb, .inl (cI, 6, .inl ftb)), (tc, .inl (cI, 30, .inl ftc)), (td, .inl (cI, 7, .inl ftd)), (te, .inl (cI, 7, .inl fte)), (t, .inr (8, [.int t0, .int r_52, .int t2, .int t3, .int t4, .ref ta, .ref tb, .ref tc, .ref td, .ref te])), (rd, .inr (5, [.int o_58, .int o_59, .ref x, .int r3, .int o_60, .int 1, .int r6])), (x, .inl (cI, 240, .inl ftx))] := hD
          exact hret (o_58, o_59, o_60, 1, r6, t0, r_52, t2, t3, t4, fta, ftb, ftc, ftd, fte) _ _ _ _ dX5_readClause_203 hE (cutP (isC := [6, 7, 5, 0, 1, 2, 3, 4]) hP rfl) (cutD (isC := [6, 7, 5, 0, 1, 2, 3, 4]) hD rfl rfl) hS
        · rw [if_neg c_50] at hE
          refine lv_aload_n hx hb dX5_readClause_77 rfl (lv_at hl 2 rfl) ?_
          refine lv_iconst (v := 3) hx hb dX5_readClause_78 rfl ?_
          refine lv_aload_n hx hb dX5_readClause_79 rfl (lv_at hl 2 rfl) ?_
          refine va_get (D := D) (ci := 5) (v := .int u_1) (C := RX5) (T := TX5) (N := 7) hx hb hts iX5 hown hK hP 6 rfl rfl 4 (Nat.le_of_ble_eq_true rfl) (hts _ wd_46) (fun _ h9 => h9) rfl dX5_readClause_80 ?_
          refine cVv (wr := [(ta, .inl (cI, 6, .inl fta)), (tb, .inl (cI, 6, .inl ftb)), (tc, .inl (cI, 30, .inl ftc)), (td, .inl (cI, 7, .inl ftd)), (te, .inl (cI, 7, .inl fte)), (x, .inl (cI, 240, .inl ftx)), (t, .inr (8, [.int t0, .int t1, .int t2, .int t3, .int t4, .ref ta, .ref tb, .ref tc, .ref td, .ref te]))]) (rest := []) (e_blame_x5 rd x r0 r1 r3 u_1 r5 r6 3 u_1) okV_X5_blame wd_201 hx hb hml hown hts hK hP hD hS hA hN hl.1 [6] [0, 1, 2, 3, 4, 5, 7] rfl rfl rfl rfl (of_decide_eq_true rfl) rfl rfl rfl (Nat.le_of_ble_eq_true rfl) (Nat.le_of_ble_eq_true rfl) (Nat.le_of_ble_eq_true rfl) (Nat.le_of_ble_eq_true rfl) (Nat.le_of_ble_eq_true rfl) dX5_readClause_83 (fun u_61 H locs hw_u_61 hP hD hS => ?_)
          obtain ⟨o_63, o_64⟩ := u_61
          replace hw_u_61 : (o_63, o_64) = (f_e_blame_x5 r0 r1 r3 u_1 r5 r6 3 u_1) := hw_u_61
          rw [← hw_u_61] at hE
          replace hE : (o_63, o_64, u_1, r5, r6, t0, t1, t2, t3, t4, fta, ftb, ftc, ftd, fte) = RES := hE
          have hP : va_P D classes [(ta, .inl (cI, 6, .inl fta)), (tb, .inl (cI, 6, .inl ftb)), (tc, .inl (cI, 30, .inl ftc)), (td, .inl (cI, 7, .inl ftd)), (te, .inl (cI, 7, .inl fte)), (x, .inl (cI, 240, .inl ftx)), (t, .inr (8, [.int t0, .int t1, .int t2, .int t3, .int t4, .ref ta, .ref tb, .ref tc, .ref td, .ref te])), (rd, .inr (5, [.int o_63, .int o_64, .ref x, .int r3, .int u_1, .int r5, .int r6]))] H := hP
          have hD : va_D A [(ta, .inl (cI, 6, .inl fta)), (tb, .inl (cI, 6, .inl ftb)), (tc, .inl (cI, 30, .inl ftc)), (td, .inl (cI, 7, .inl ftd)), (te, .inl (cI, 7, .inl fte)), (x, .inl (cI, 240, .inl ftx)), (t, .inr (8, [.int t0, .int t1, .int t2, .int t3, .int t4, .ref ta, .ref tb, .ref tc, .ref td, .ref te])), (rd, .inr (5, [.int o_63, .int o_64, .ref x, .int r3, .int u_1, .int r5, .int r6]))] := hD
          exact hret (o_63, o_64, u_1, r5, r6, t0, t1, t2, t3, t4, fta, ftb, ftc, ftd, fte) _ _ _ _ dX5_readClause_86 hE (cutP (isC := [7, 5, 6, 0, 1, 2, 3, 4]) hP rfl) (cutD (isC := [7, 5, 6, 0, 1, 2, 3, 4]) hD rfl rfl) hS
      · rw [if_pos c_47] at hE
        refine lv_iload_n hx hb dX5_readClause_52 rfl (lv_at hl 1 rfl) ?_
        refine lv_bipush (v := 98) hx hb dX5_readClause_53 rfl ?_
        refine lv_icmp_eq (tgt := 68) hx hb dX5_readClause_55 rfl (fun c_65 => absurd c_65 (by decide +kernel)) (fun c_65 => ?_)
        refine lv_aload_n hx hb dX5_readClause_58 rfl (lv_at hl 2 rfl) ?_
        refine lv_iconst (v := 1) hx hb dX5_readClause_59 rfl ?_
        refine lv_aload_n hx hb dX5_readClause_60 rfl (lv_at hl 2 rfl) ?_
        refine va_get (D := D) (ci := 5) (v := .int u_1) (C := RX5) (T := TX5) (N := 7) hx hb hts iX5 hown hK hP 6 rfl rfl 4 (Nat.le_of_ble_eq_true rfl) (hts _ wd_46) (fun _ h9 => h9) rfl dX5_readClause_61 ?_
        refine cVv (wr := [(t, .inr (8, [.int t0, .int t1, .int t2, .int t3, .int t4, .ref ta, .ref tb, .ref tc, .ref td, .ref te])), (ta, .inl (cI, 6, .inl fta)), (tb, .inl (cI, 6, .inl ftb)), (tc, .inl (cI, 30, .inl ftc)), (td, .inl (cI, 7, .inl ftd)), (te, .inl (cI, 7, .inl fte)), (x, .inl (cI, 240, .inl ftx))]) (rest := []) (e_blame_x5 rd x r0 r1 r3 u_1 r5 r6 1 u_1) okV_X5_blame wd_201 hx hb hml hown hts hK hP hD hS hA hN hl.1 [6] [0, 1, 2, 3, 4, 5, 7] rfl rfl rfl rfl (of_decide_eq_true rfl) rfl rfl rfl (Nat.le_of_ble_eq_true rfl) (Nat.le_of_ble_eq_true rfl) (Nat.le_of_ble_eq_true rfl) (Nat.le_of_ble_eq_true rfl) (Nat.le_of_ble_eq_true rfl) dX5_readClause_64 (fun u_66 H locs hw_u_66 hP hD hS => ?_)
        obtain ⟨o_68, o_69⟩ := u_66
        replace hw_u_66 : (o_68, o_69) = (f_e_blame_x5 r0 r1 r3 u_1 r5 r6 1 u_1) := hw_u_66
        rw [← hw_u_66] at hE
        replace hE : (o_68, o_69, u_1, r5, r6, t0, t1, t2, t3, t4, fta, ftb, ftc, ftd, fte) = RES := hE
        have hP : va_P D classes [(t, .inr (8, [.int t0, .int t1, .int t2, .int t3, .int t4, .ref ta, .ref tb, .ref tc, .ref td, .ref te])), (ta, .inl (cI, 6, .inl fta)), (tb, .inl (cI, 6, .inl ftb)), (tc, .inl (cI, 30, .inl ftc)), (td, .inl (cI, 7, .inl ftd)), (te, .inl (cI, 7, .inl fte)), (x, .inl (cI, 240, .inl ftx)), (rd, .inr (5, [.int o_68, .int o_69, .ref x, .int r3, .int u_1, .int r5, .int r6]))] H := hP
        have hD : va_D A [(t, .inr (8, [.int t0, .int t1, .int t2, .int t3, .int t4, .ref ta, .ref tb, .ref tc, .ref td, .ref te])), (ta, .inl (cI, 6, .inl fta)), (tb, .inl (cI, 6, .inl ftb)), (tc, .inl (cI, 30, .inl ftc)), (td, .inl (cI, 7, .inl ftd)), (te, .inl (cI, 7, .inl fte)), (x, .inl (cI, 240, .inl ftx)), (rd, .inr (5, [.int o_68, .int o_69, .ref x, .int r3, .int u_1, .int r5, .int r6]))] := hD
        exact hret (o_68, o_69, u_1, r5, r6, t0, t1, t2, t3, t4, fta, ftb, ftc, ftd, fte) _ _ _ _ dX5_readClause_67 hE (cutP (isC := [7, 6, 0, 1, 2, 3, 4, 5]) hP rfl) (cutD (isC := [7, 6, 0, 1, 2, 3, 4, 5]) hD rfl rfl) hS
    · rw [if_neg c_45] at hE
      refine lv_iload_n hx hb dX5_readClause_17 rfl (lv_at hl 0 rfl) ?_
      refine lv_bipush (v := 99) hx hb dX5_readClause_18 rfl ?_
      refine lv_icmp_eq (tgt := 35) hx hb dX5_readClause_20 rfl (fun c_70 => ?_) (fun c_70 => ?_)
      · rw [if_pos c_70] at hE
        subst c_70
        refine lv_iconst (v := 1) hx hb dX5_readClause_35 rfl ?_
        refine lv_goto (tgt := 40) hx hb dX5_readClause_36 rfl ?_
        refine lv_istore_n (lv' := [(3, .int 1), (2, .int 99), (0, .ref rd), (1, .ref t)]) hx hb dX5_readClause_40 rfl hl (Nat.le_of_ble_eq_true rfl) rfl (fun ls hl => ?_)
        refine lv_iload_n hx hb dX5_readClause_41 rfl (lv_at hl 0 rfl) ?_
        refine lv_if_eq (tgt := 58) hx hb dX5_readClause_42 rfl (fun c_71 => absurd c_71 (by decide +kernel)) (fun c_71 => ?_)
        refine lv_aload_n hx hb dX5_readClause_45 rfl (lv_at hl 3 rfl) ?_
        refine va_get (D := D) (ci := 8) (v := .int t0) (C := RX8) (T := TX8) (N := 10) hx hb hts iX8 hown hK hP 0 rfl rfl 0 (Nat.le_of_ble_eq_true rfl) (hts _ wd_209) (fun _ h9 => h9) rfl dX5_readClause_46 ?_
        refine lv_if_ne (tgt := 68) hx hb dX5_readClause_49 rfl (fun c_72 => ?_) (fun c_72 => ?_)
        · rw [if_neg c_72] at hE
          refine lv_aload_n hx hb dX5_readClause_68 rfl (lv_at hl 2 rfl) ?_
          refine lv_iload_n hx hb dX5_readClause_69 rfl (lv_at hl 1 rfl) ?_
          refine lv_aload_n hx hb dX5_readClause_70 rfl (lv_at hl 3 rfl) ?_
          refine cVi (wr := [(ta, .inl (cI, 6, .inl fta)), (tb, .inl (cI, 6, .inl ftb)), (tc, .inl (cI, 30, .inl ftc)), (td, .inl (cI, 7, .inl ftd)), (te, .inl (cI, 7, .inl fte)), (x, .inl (cI, 240, .inl ftx))]) (rest := []) (e_isTooOften_x5 rd x t ta tb tc td te r0 r1 r3 u_1 r5 r6 t0 t1 t2 t3 t4 99 h01) okV_X5_isTooOften wd_226 hx hb hml hown hts hK hP hD hS hA hN hl.1 [6, 0] [1, 2, 3, 4, 5, 7] rfl rfl rfl rfl (of_decide_eq_true rfl) rfl rfl rfl (Nat.le_of_ble_eq_true rfl) (Nat.le_of_ble_eq_true rfl) (Nat.le_of_ble_eq_true rfl) (Nat.le_of_ble_eq_true rfl) (Nat.le_of_ble_eq_true rfl) dX5_readClause_71 (fun r_74 u_73 H locs hw_u_73 hP hD hS => ?_)
          replace hw_u_73 : r_74 = (f_e_isTooOften_x5 r0 r1 r3 u_1 r5 r6 t0 t1 t2 t3 t4 99) := hw_u_73
          rw [hw_u_73]
          clear hw_u_73
          have hP : va_P D classes [(ta, .inl (cI, 6, .inl fta)), (tb, .inl (cI, 6, .inl ftb)), (tc, .inl (cI, 30, .inl ftc)), (td, .inl (cI, 7, .inl ftd)), (te, .inl (cI, 7, .inl fte)), (x, .inl (cI, 240, .inl ftx)), (rd, .inr (5, [.int r0, .int r1, .ref x, .int r3, .int u_1, .int r5, .int r6])), (t, .inr (8, [.int t0, .int t1, .int t2, .int t3, .int t4, .ref ta, .ref tb, .ref tc, .ref td, .ref te]))] H := hP
          have hD : va_D A [(ta, .inl (cI, 6, .inl fta)), (tb, .inl (cI, 6, .inl ftb)), (tc, .inl (cI, 30, .inl ftc)), (td, .inl (cI, 7, .inl ftd)), (te, .inl (cI, 7, .inl fte)), (x, .inl (cI, 240, .inl ftx)), (rd, .inr (5, [.int r0, .int r1, .ref x, .int r3, .int u_1, .int r5, .int r6])), (t, .inr (8, [.int t0, .int t1, .int t2, .int t3, .int t4, .ref ta, .ref tb, .ref tc, .ref td, .ref te]))] := hD
          refine lv_if_eq (tgt := 87) hx hb dX5_readClause_74 rfl (fun c_75 => ?_) (fun c_75 => ?_)
          · rw [if_pos c_75] at hE
            refine lv_aload_n hx hb dX5_readClause_87 rfl (lv_at hl 2 rfl) ?_
            refine lv_dup hx hb dX5_readClause_88 rfl ?_
            refine va_get (D := D) (ci := 5) (v := .int u_1) (C := RX5) (T := TX5) (N := 7) hx hb hts iX5 hown hK hP 6 rfl rfl 4 (Nat.le_of_ble_eq_true rfl) (hts _ wd_46) (fun _ h9 => h9) rfl dX5_readClause_89 ?_
            refine lv_iconst (v := 1) hx hb dX5_readClause_92 rfl ?_
            refine lv_iadd hx hb dX5_readClause_93 ?_
            refine va_put (D := D) (ci := 5) (v := .int (u_1 + 1)) (ty := .int) (C := RX5) (T := TX5) (N := 7) hx hb hts iX5 tyX5 tyX5_ok nmX5 hown hK hP hD hS 6 rfl rfl 4 (Nat.le_of_ble_eq_true rfl) (hts _ wd_46) (fun _ h9 => h9) rfl (by decide +kernel) rfl rfl (Nat.le_of_ble_eq_true rfl) dX5_readClause_94 (fun H locs hP hD hS => ?_)
            have hP : va_P D classes [(ta, .inl (cI, 6, .inl fta)), (tb, .inl (cI, 6, .inl ftb)), (tc, .inl (cI, 30, .inl ftc)), (td, .inl (cI, 7, .inl ftd)), (te, .inl (cI, 7, .inl fte)), (x, .inl (cI, 240, .inl ftx)), (rd, .inr (5, [.int r0, .int r1, .ref x, .int r3, .int (u_1 + 1), .int r5, .int r6])), (t, .inr (8, [.int t0, .int t1, .int t2, .int t3, .int t4, .ref ta, .ref tb, .ref tc, .ref td, .ref te]))] H := hP
            have hD : va_D A [(ta, .inl (cI, 6, .inl fta)), (tb, .inl (cI, 6, .inl ftb)), (tc, .inl (cI, 30, .inl ftc)), (td, .inl (cI, 7, .inl ftd)), (te, .inl (cI, 7, .inl fte)), (x, .inl (cI, 240, .inl ftx)), (rd, .inr (5, [.int r0, .int r1, .ref x, .int r3, .int (u_1 + 1), .int r5, .int r6])), (t, .inr (8, [.int t0, .int t1, .int t2, .int t3, .int t4, .ref ta, .ref tb, .ref tc, .ref td, .ref te]))] := hD
            refine lv_iload_n hx hb dX5_readClause_97 rfl (lv_at hl 1 rfl) ?_
            refine lv_lookup (off := 68) (tgt := 166) hx hb dX5_readClause_98 (by decide +kernel) (by decide +kernel) rfl ?_
            refine lv_aload_n hx hb dX5_readClause_166 rfl (lv_at hl 2 rfl) ?_
            refine lv_aload_n hx hb dX5_readClause_167 rfl (lv_at hl 3 rfl) ?_
            refine cVv (wr := [(ta, .inl (cI, 6, .inl fta)), (td, .inl (cI, 7, .inl ftd)), (te, .inl (cI, 7, .inl fte))]) (rest := []) (e_readCouple_x5 rd x t ta tb tc td te r0 r1 r3 (u_1 + 1) r5 r6 ftx t0 t1 t2 t3 t4 ftb ftc) okV_X5_readCouple wd_234 hx hb hml hown hts hK hP hD hS hA hN hl.1 [6, 5, 7, 1, 2] [0, 3, 4] rfl rfl rfl rfl (of_decide_eq_true rfl) rfl rfl rfl (Nat.le_of_ble_eq_true rfl) (Nat.le_of_ble_eq_true rfl) (Nat.le_of_ble_eq_true rfl) (Nat.le_of_ble_eq_true rfl) (Nat.le_of_ble_eq_true rfl) dX5_readClause_168 (fun u_76 H locs hw_u_76 hP hD hS => ?_)
            obtain ⟨o_78, o_79, o_80, o_81, o_82, o_83⟩ := u_76
            replace hw_u_76 : (o_78, o_79, o_80, o_81, o_82, o_83) = (f_e_readCouple_x5 r0 r1 r3 (u_1 + 1) r5 r6 ftx t0 t1 t2 t3 t4 ftb ftc) := hw_u_76
            rw [← hw_u_76] at hE
            replace hE : (match (f_e_expect_x5 o_78 o_79 r3 o_80 r5 r6 ftx 59) with | (o_86, o_87, o_88) => (o_86, o_87, o_88, r5, r6, t0, t1, o_81, t3, t4, fta, o_82, o_83, ftd, fte)) = RES := hE
            have hP : va_P D classes [(ta, .inl (cI, 6, .inl fta)), (td, .inl (cI, 7, .inl ftd)), (te, .inl (cI, 7, .inl fte)), (rd, .inr (5, [.int o_78, .int o_79, .ref x, .int r3, .int o_80, .int r5, .int r6])), (x, .inl (cI, 240, .inl ftx)), (t, .inr (8, [.int t0, .int t1, .int o_81, .int t3, .int t4, .ref ta, .ref tb, .ref tc, .ref td, .ref te])), (tb, .inl (cI, 6, .inl o_82)), (tc, .inl (cI, 30, .inl o_83))] H := hP
            have hD : va_D A [(ta, .inl (cI, 6, .inl fta)), (td, .inl (cI, 7, .inl ftd)), (te, .inl (cI, 7, .inl fte)), (rd, .inr (5, [.int o_78, .int o_79, .ref x, .int r3, .int o_80, .int r5, .int r6])), (x, .inl (cI, 240, .inl ftx)), (t, .inr (8, [.int t0, .int t1, .int o_81, .int t3, .int t4, .ref ta, .ref tb, .ref tc, .ref td, .ref te])), (tb, .inl (cI, 6, .inl o_82)), (tc, .inl (cI, 30, .inl o_83))] := hD
            refine lv_goto (tgt := 197) hx hb dX5_readClause_171 rfl ?_
            refine lv_aload_n hx hb dX5_readClause_197 rfl (lv_at hl 2 rfl) ?_
            refine lv_bipush (v := 59) hx hb dX5_readClause_198 rfl ?_
            refine cVv (wr := [(ta, .inl (cI, 6, .inl fta)), (td, .inl (cI, 7, .inl ftd)), (te, .inl (cI, 7, .inl fte)), (t, .inr (8, [.int t0, .int t1, .int o_81, .int t3, .int t4, .ref ta, .ref tb, .ref tc, .ref td, .ref te])), (tb, .inl (cI, 6, .inl o_82)), (tc, .inl (cI, 30, .inl o_83))]) (rest := []) (e_expect_x5 rd x o_78 o_79 r3 o_80 r5 r6 ftx 59) okV_X5_expect wd_220 hx hb hml hown hts hK hP hD hS hA hN hl.1 [3, 4] [0, 1, 2, 5, 6, 7] rfl rfl rfl rfl (of_decide_eq_true rfl) rfl rfl rfl (Nat.le_of_ble_eq_true rfl) (Nat.le_of_ble_eq_true rfl) (Nat.le_of_ble_eq_true rfl) (Nat.le_of_ble_eq_true rfl) (Nat.le_of_ble_eq_true rfl) dX5_readClause_200 (fun u_84 H locs hw_u_84 hP hD hS => ?_)
            obtain ⟨o_86, o_87, o_88⟩ := u_84
            replace hw_u_84 : (o_86, o_87, o_88) = (f_e_expect_x5 o_78 o_79 r3 o_80 r5 r6 ftx 59) := hw_u_84
            rw [← hw_u_84] at hE
            replace hE : (o_86, o_87, o_88, r5, r6, t0, t1, o_81, t3, t4, fta, o_82, o_83, ftd, fte) = RES := hE
            have hP : va_P D classes [(ta, .inl (cI, 6, .inl fta)), (td, .inl (cI, 7, .inl ftd)), (te, .inl (cI, 7, .inl fte)), (t, .inr (8, [.int t0, .int t1, .int o_81, .int t3, .int t4, .ref ta, .ref tb, .ref tc, .ref td, .ref te])), (tb, .inl (cI, 6, .inl o_82)), (tc, .inl (cI, 30, .inl o_83)), (rd, .inr (5, [.int o_86, .int o_87, .ref x, .int r3, .int o_88, .int r5, .int r6])), (x, .inl (cI, 240, .inl ftx))] H := hP
            have hD : va_D A [(ta, .inl (cI, 6, .inl fta)), (td, .inl (cI, 7, .inl ftd)), (te, .inl (cI, 7, .inl fte)), (t, .inr (8, [.int t0, .int t1, .int o_81, .int t3, .int t4, .ref ta, .ref tb, .ref tc, .ref td, .ref te])), (tb, .inl (cI, 6, .inl o_82)), (tc, .inl (cI, 30, .inl o_83)), (rd, .inr (5, [.int o_86, .int o_87, .ref x, .int r3, .int o_88, .int r5, .int r6])), (x, .inl (cI, 240, .inl ftx))] := hD
            exact hret (o_86, o_87, o_88, r5, r6, t0, t1, o_81, t3, t4, fta, o_82, o_83, ftd, fte) _ _ _ _ dX5_readClause_203 hE (cutP (isC := [6, 7, 3, 0, 4, 5, 1, 2]) hP rfl) (cutD (isC := [6, 7, 3, 0, 4, 5, 1, 2]) hD rfl rfl) hS
          · rw [if_neg c_75] at hE
            refine lv_aload_n hx hb dX5_readClause_77 rfl (lv_at hl 2 rfl) ?_
            refine lv_iconst (v := 3) hx hb dX5_readClause_78 rfl ?_
            refine lv_aload_n hx hb dX5_readClause_79 rfl (lv_at hl 2 rfl) ?_
            refine va_get (D := D) (ci := 5) (v := .int u_1) (C := RX5) (T := TX5) (N := 7) hx hb hts iX5 hown hK hP 6 rfl rfl 4 (Nat.le_of_ble_eq_true rfl) (hts _ wd_46) (fun _ h9 => h9) rfl dX5_readClause_80 ?_
            refine cVv (wr := [(ta, .inl (cI, 6, .inl fta)), (tb, .inl (cI, 6, .inl ftb)), (tc, .inl (cI, 30, .inl ftc)), (td, .inl (cI, 7, .inl ftd)), (te, .inl (cI, 7, .inl fte)), (x, .inl (cI, 240, .inl ftx)), (t, .inr (8, [.int t0, .int t1, .int t2, .int t3, .int t4, .ref ta, .ref tb, .ref tc, .ref td, .ref te]))]) (rest := []) (e_blame_x5 rd x r0 r1 r3 u_1 r5 r6 3 u_1) okV_X5_blame wd_201 hx hb hml hown hts hK hP hD hS hA hN hl.1 [6] [0, 1, 2, 3, 4, 5, 7] rfl rfl rfl rfl (of_decide_eq_true rfl) rfl rfl rfl (Nat.le_of_ble_eq_true rfl) (Nat.le_of_ble_eq_true rfl) (Nat.le_of_ble_eq_true rfl) (Nat.le_of_ble_eq_true rfl) (Nat.le_of_ble_eq_true rfl) dX5_readClause_83 (fun u_89 H locs hw_u_89 hP hD hS => ?_)
            obtain ⟨o_91, o_92⟩ := u_89
            replace hw_u_89 : (o_91, o_92) = (f_e_blame_x5 r0 r1 r3 u_1 r5 r6 3 u_1) := hw_u_89
            rw [← hw_u_89] at hE
            replace hE : (o_91, o_92, u_1, r5, r6, t0, t1, t2, t3, t4, fta, ftb, ftc, ftd, fte) = RES := hE
            have hP : va_P D classes [(ta, .inl (cI, 6, .inl fta)), (tb, .inl (cI, 6, .inl ftb)), (tc, .inl (cI, 30, .inl ftc)), (td, .inl (cI, 7, .inl ftd)), (te, .inl (cI, 7, .inl fte)), (x, .inl (cI, 240, .inl ftx)), (t, .inr (8, [.int t0, .int t1, .int t2, .int t3, .int t4, .ref ta, .ref tb, .ref tc, .ref td, .ref te])), (rd, .inr (5, [.int o_91, .int o_92, .ref x, .int r3, .int u_1, .int r5, .int r6]))] H := hP
            have hD : va_D A [(ta, .inl (cI, 6, .inl fta)), (tb, .inl (cI, 6, .inl ftb)), (tc, .inl (cI, 30, .inl ftc)), (td, .inl (cI, 7, .inl ftd)), (te, .inl (cI, 7, .inl fte)), (x, .inl (cI, 240, .inl ftx)), (t, .inr (8, [.int t0, .int t1, .int t2, .int t3, .int t4, .ref ta, .ref tb, .ref tc, .ref td, .ref te])), (rd, .inr (5, [.int o_91, .int o_92, .ref x, .int r3, .int u_1, .int r5, .int r6]))] := hD
            exact hret (o_91, o_92, u_1, r5, r6, t0, t1, t2, t3, t4, fta, ftb, ftc, ftd, fte) _ _ _ _ dX5_readClause_86 hE (cutP (isC := [7, 5, 6, 0, 1, 2, 3, 4]) hP rfl) (cutD (isC := [7, 5, 6, 0, 1, 2, 3, 4]) hD rfl rfl) hS
        · rw [if_pos c_72] at hE
          refine lv_iload_n hx hb dX5_readClause_52 rfl (lv_at hl 1 rfl) ?_
          refine lv_bipush (v := 98) hx hb dX5_readClause_53 rfl ?_
          refine lv_icmp_eq (tgt := 68) hx hb dX5_readClause_55 rfl (fun c_93 => absurd c_93 (by decide +kernel)) (fun c_93 => ?_)
          refine lv_aload_n hx hb dX5_readClause_58 rfl (lv_at hl 2 rfl) ?_
          refine lv_iconst (v := 1) hx hb dX5_readClause_59 rfl ?_
          refine lv_aload_n hx hb dX5_readClause_60 rfl (lv_at hl 2 rfl) ?_
          refine va_get (D := D) (ci := 5) (v := .int u_1) (C := RX5) (T := TX5) (N := 7) hx hb hts iX5 hown hK hP 6 rfl rfl 4 (Nat.le_of_ble_eq_true rfl) (hts _ wd_46) (fun _ h9 => h9) rfl dX5_readClause_61 ?_
          refine cVv (wr := [(t, .inr (8, [.int t0, .int t1, .int t2, .int t3, .int t4, .ref ta, .ref tb, .ref tc, .ref td, .ref te])), (ta, .inl (cI, 6, .inl fta)), (tb, .inl (cI, 6, .inl ftb)), (tc, .inl (cI, 30, .inl ftc)), (td, .inl (cI, 7, .inl ftd)), (te, .inl (cI, 7, .inl fte)), (x, .inl (cI, 240, .inl ftx))]) (rest := []) (e_blame_x5 rd x r0 r1 r3 u_1 r5 r6 1 u_1) okV_X5_blame wd_201 hx hb hml hown hts hK hP hD hS hA hN hl.1 [6] [0, 1, 2, 3, 4, 5, 7] rfl rfl rfl rfl (of_decide_eq_true rfl) rfl rfl rfl (Nat.le_of_ble_eq_true rfl) (Nat.le_of_ble_eq_true rfl) (Nat.le_of_ble_eq_true rfl) (Nat.le_of_ble_eq_true rfl) (Nat.le_of_ble_eq_true rfl) dX5_readClause_64 (fun u_94 H locs hw_u_94 hP hD hS => ?_)
          obtain ⟨o_96, o_97⟩ := u_94
          replace hw_u_94 : (o_96, o_97) = (f_e_blame_x5 r0 r1 r3 u_1 r5 r6 1 u_1) := hw_u_94
          rw [← hw_u_94] at hE
          replace hE : (o_96, o_97, u_1, r5, r6, t0, t1, t2, t3, t4, fta, ftb, ftc, ftd, fte) = RES := hE
          have hP : va_P D classes [(t, .inr (8, [.int t0, .int t1, .int t2, .int t3, .int t4, .ref ta, .ref tb, .ref tc, .ref td, .ref te])), (ta, .inl (cI, 6, .inl fta)), (tb, .inl (cI, 6, .inl ftb)), (tc, .inl (cI, 30, .inl ftc)), (td, .inl (cI, 7, .inl ftd)), (te, .inl (cI, 7, .inl fte)), (x, .inl (cI, 240, .inl ftx)), (rd, .inr (5, [.int o_96, .int o_97, .ref x, .int r3, .int u_1, .int r5, .int r6]))] H := hP
          have hD : va_D A [(t, .inr (8, [.int t0, .int t1, .int t2, .int t3, .int t4, .ref ta, .ref tb, .ref tc, .ref td, .ref te])), (ta, .inl (cI, 6, .inl fta)), (tb, .inl (cI, 6, .inl ftb)), (tc, .inl (cI, 30, .inl ftc)), (td, .inl (cI, 7, .inl ftd)), (te, .inl (cI, 7, .inl fte)), (x, .inl (cI, 240, .inl ftx)), (rd, .inr (5, [.int o_96, .int o_97, .ref x, .int r3, .int u_1, .int r5, .int r6]))] := hD
          exact hret (o_96, o_97, u_1, r5, r6, t0, t1, t2, t3, t4, fta, ftb, ftc, ftd, fte) _ _ _ _ dX5_readClause_67 hE (cutP (isC := [7, 6, 0, 1, 2, 3, 4, 5]) hP rfl) (cutD (isC := [7, 6, 0, 1, 2, 3, 4, 5]) hD rfl rfl) hS
      · rw [if_neg c_70] at hE
        refine lv_iload_n hx hb dX5_readClause_23 rfl (lv_at hl 0 rfl) ?_
        refine lv_bipush (v := 118) hx hb dX5_readClause_24 rfl ?_
        refine lv_icmp_eq (tgt := 35) hx hb dX5_readClause_26 rfl (fun c_98 => ?_) (fun c_98 => ?_)
        · rw [if_pos c_98] at hE
          subst c_98
          refine lv_iconst (v := 1) hx hb dX5_readClause_35 rfl ?_
          refine lv_goto (tgt := 40) hx hb dX5_readClause_36 rfl ?_
          refine lv_istore_n (lv' := [(3, .int 1), (2, .int 118), (0, .ref rd), (1, .ref t)]) hx hb dX5_readClause_40 rfl hl (Nat.le_of_ble_eq_true rfl) rfl (fun ls hl => ?_)
          refine lv_iload_n hx hb dX5_readClause_41 rfl (lv_at hl 0 rfl) ?_
          refine lv_if_eq (tgt := 58) hx hb dX5_readClause_42 rfl (fun c_99 => absurd c_99 (by decide +kernel)) (fun c_99 => ?_)
          refine lv_aload_n hx hb dX5_readClause_45 rfl (lv_at hl 3 rfl) ?_
          refine va_get (D := D) (ci := 8) (v := .int t0) (C := RX8) (T := TX8) (N := 10) hx hb hts iX8 hown hK hP 0 rfl rfl 0 (Nat.le_of_ble_eq_true rfl) (hts _ wd_209) (fun _ h9 => h9) rfl dX5_readClause_46 ?_
          refine lv_if_ne (tgt := 68) hx hb dX5_readClause_49 rfl (fun c_100 => ?_) (fun c_100 => ?_)
          · rw [if_neg c_100] at hE
            refine lv_aload_n hx hb dX5_readClause_68 rfl (lv_at hl 2 rfl) ?_
            refine lv_iload_n hx hb dX5_readClause_69 rfl (lv_at hl 1 rfl) ?_
            refine lv_aload_n hx hb dX5_readClause_70 rfl (lv_at hl 3 rfl) ?_
            refine cVi (wr := [(ta, .inl (cI, 6, .inl fta)), (tb, .inl (cI, 6, .inl ftb)), (tc, .inl (cI, 30, .inl ftc)), (td, .inl (cI, 7, .inl ftd)), (te, .inl (cI, 7, .inl fte)), (x, .inl (cI, 240, .inl ftx))]) (rest := []) (e_isTooOften_x5 rd x t ta tb tc td te r0 r1 r3 u_1 r5 r6 t0 t1 t2 t3 t4 118 h01) okV_X5_isTooOften wd_226 hx hb hml hown hts hK hP hD hS hA hN hl.1 [6, 0] [1, 2, 3, 4, 5, 7] rfl rfl rfl rfl (of_decide_eq_true rfl) rfl rfl rfl (Nat.le_of_ble_eq_true rfl) (Nat.le_of_ble_eq_true rfl) (Nat.le_of_ble_eq_true rfl) (Nat.le_of_ble_eq_true rfl) (Nat.le_of_ble_eq_true rfl) dX5_readClause_71 (fun r_102 u_101 H locs hw_u_101 hP hD hS => ?_)
            replace hw_u_101 : r_102 = (f_e_isTooOften_x5 r0 r1 r3 u_1 r5 r6 t0 t1 t2 t3 t4 118) := hw_u_101
            rw [hw_u_101]
            clear hw_u_101
            have hP : va_P D classes [(ta, .inl (cI, 6, .inl fta)), (tb, .inl (cI, 6, .inl ftb)), (tc, .inl (cI, 30, .inl ftc)), (td, .inl (cI, 7, .inl ftd)), (te, .inl (cI, 7, .inl fte)), (x, .inl (cI, 240, .inl ftx)), (rd, .inr (5, [.int r0, .int r1, .ref x, .int r3, .int u_1, .int r5, .int r6])), (t, .inr (8, [.int t0, .int t1, .int t2, .int t3, .int t4, .ref ta, .ref tb, .ref tc, .ref td, .ref te]))] H := hP
            have hD : va_D A [(ta, .inl (cI, 6, .inl fta)), (tb, .inl (cI, 6, .inl ftb)), (tc, .inl (cI, 30, .inl ftc)), (td, .inl (cI, 7, .inl ftd)), (te, .inl (cI, 7, .inl fte)), (x, .inl (cI, 240, .inl ftx)), (rd, .inr (5, [.int r0, .int r1, .ref x, .int r3, .int u_1, .int r5, .int r6])), (t, .inr (8, [.int t0, .int t1, .int t2, .int t3, .int t4, .ref ta, .ref tb, .ref tc, .ref td, .ref te]))] := hD
            refine lv_if_eq (tgt := 87) hx hb dX5_readClause_74 rfl (fun c_103 => ?_) (fun c_103 => ?_)
            · rw [if_pos c_103] at hE
              refine lv_aload_n hx hb dX5_readClause_87 rfl (lv_at hl 2 rfl) ?_
              refine lv_dup hx hb dX5_readClause_88 rfl ?_
              refine va_get (D := D) (ci := 5) (v := .int u_1) (C := RX5) (T := TX5) (N := 7) hx hb hts iX5 hown hK hP 6 rfl rfl 4 (Nat.le_of_ble_eq_true rfl) (hts _ wd_46) (fun _ h9 => h9) rfl dX5_readClause_89 ?_
              refine lv_iconst (v := 1) hx hb dX5_readClause_92 rfl ?_
              refine lv_iadd hx hb dX5_readClause_93 ?_
              refine va_put (D := D) (ci := 5) (v := .int (u_1 + 1)) (ty := .int) (C := RX5) (T := TX5) (N := 7) hx hb hts iX5 tyX5 tyX5_ok nmX5 hown hK hP hD hS 6 rfl rfl 4 (Nat.le_of_ble_eq_true rfl) (hts _ wd_46) (fun _ h9 => h9) rfl (by decide +kernel) rfl rfl (Nat.le_of_ble_eq_true rfl) dX5_readClause_94 (fun H locs hP hD hS => ?_)
              have hP : va_P D classes [(ta, .inl (cI, 6, .inl fta)), (tb, .inl (cI, 6, .inl ftb)), (tc, .inl (cI, 30, .inl ftc)), (td, .inl (cI, 7, .inl ftd)), (te, .inl (cI, 7, .inl fte)), (x, .inl (cI, 240, .inl ftx)), (rd, .inr (5, [.int r0, .int r1, .ref x, .int r3, .int (u_1 + 1), .int r5, .int r6])), (t, .inr (8, [.int t0, .int t1, .int t2, .int t3, .int t4, .ref ta, .ref tb, .ref tc, .ref td, .ref te]))] H := hP
              have hD : va_D A [(ta, .inl (cI, 6, .inl fta)), (tb, .inl (cI, 6, .inl ftb)), (tc, .inl (cI, 30, .inl ftc)), (td, .inl (cI, 7, .inl ftd)), (te, .inl (cI, 7, .inl fte)), (x, .inl (cI, 240, .inl ftx)), (rd, .inr (5, [.int r0, .int r1, .ref x, .int r3, .int (u_1 + 1), .int r5, .int r6])), (t, .inr (8, [.int t0, .int t1, .int t2, .int t3, .int t4, .ref ta, .ref tb, .ref tc, .ref td, .ref te]))] := hD
              refine lv_iload_n hx hb dX5_readClause_97 rfl (lv_at hl 1 rfl) ?_
              refine lv_lookup (off := 76) (tgt := 174) hx hb dX5_readClause_98 (by decide +kernel) (by decide +kernel) rfl ?_
              refine lv_aload_n hx hb dX5_readClause_174 rfl (lv_at hl 2 rfl) ?_
              refine lv_aload_n hx hb dX5_readClause_175 rfl (lv_at hl 3 rfl) ?_
              refine cVv (wr := [(ta, .inl (cI, 6, .inl fta)), (tb, .inl (cI, 6, .inl ftb)), (tc, .inl (cI, 30, .inl ftc))]) (rest := []) (e_readBarge_x5 rd x t ta tb tc td te r0 r1 r3 (u_1 + 1) r5 r6 ftx t0 t1 t2 t3 t4 ftd fte) okV_X5_readBarge wd_238 hx hb hml hown hts hK hP hD hS hA hN hl.1 [6, 5, 7, 3, 4] [0, 1, 2] rfl rfl rfl rfl (of_decide_eq_true rfl) rfl rfl rfl (Nat.le_of_ble_eq_true rfl) (Nat.le_of_ble_eq_true rfl) (Nat.le_of_ble_eq_true rfl) (Nat.le_of_ble_eq_true rfl) (Nat.le_of_ble_eq_true rfl) dX5_readClause_176 (fun u_104 H locs hw_u_104 hP hD hS => ?_)
              obtain ⟨o_106, o_107, o_108, o_109, o_110, o_111⟩ := u_104
              replace hw_u_104 : (o_106, o_107, o_108, o_109, o_110, o_111) = (f_e_readBarge_x5 r0 r1 r3 (u_1 + 1) r5 r6 ftx t0 t1 t2 t3 t4 ftd fte) := hw_u_104
              rw [← hw_u_104] at hE
              replace hE : (match (f_e_expect_x5 o_106 o_107 r3 o_108 r5 r6 ftx 59) with | (o_114, o_115, o_116) => (o_114, o_115, o_116, r5, r6, t0, t1, t2, o_109, t4, fta, ftb, ftc, o_110, o_111)) = RES := hE
              have hP : va_P D classes [(ta, .inl (cI, 6, .inl fta)), (tb, .inl (cI, 6, .inl ftb)), (tc, .inl (cI, 30, .inl ftc)), (rd, .inr (5, [.int o_106, .int o_107, .ref x, .int r3, .int o_108, .int r5, .int r6])), (x, .inl (cI, 240, .inl ftx)), (t, .inr (8, [.int t0, .int t1, .int t2, .int o_109, .int t4, .ref ta, .ref tb, .ref tc, .ref td, .ref te])), (td, .inl (cI, 7, .inl o_110)), (te, .inl (cI, 7, .inl o_111))] H := hP
              have hD : va_D A [(ta, .inl (cI, 6, .inl fta)), (tb, .inl (cI, 6, .inl ftb)), (tc, .inl (cI, 30, .inl ftc)), (rd, .inr (5, [.int o_106, .int o_107, .ref x, .int r3, .int o_108, .int r5, .int r6])), (x, .inl (cI, 240, .inl ftx)), (t, .inr (8, [.int t0, .int t1, .int t2, .int o_109, .int t4, .ref ta, .ref tb, .ref tc, .ref td, .ref te])), (td, .inl (cI, 7, .inl o_110)), (te, .inl (cI, 7, .inl o_111))] := hD
              refine lv_goto (tgt := 197) hx hb dX5_readClause_179 rfl ?_
              refine lv_aload_n hx hb dX5_readClause_197 rfl (lv_at hl 2 rfl) ?_
              refine lv_bipush (v := 59) hx hb dX5_readClause_198 rfl ?_
              refine cVv (wr := [(ta, .inl (cI, 6, .inl fta)), (tb, .inl (cI, 6, .inl ftb)), (tc, .inl (cI, 30, .inl ftc)), (t, .inr (8, [.int t0, .int t1, .int t2, .int o_109, .int t4, .ref ta, .ref tb, .ref tc, .ref td, .ref te])), (td, .inl (cI, 7, .inl o_110)), (te, .inl (cI, 7, .inl o_111))]) (rest := []) (e_expect_x5 rd x o_106 o_107 r3 o_108 r5 r6 ftx 59) okV_X5_expect wd_220 hx hb hml hown hts hK hP hD hS hA hN hl.1 [3, 4] [0, 1, 2, 5, 6, 7] rfl rfl rfl rfl (of_decide_eq_true rfl) rfl rfl rfl (Nat.le_of_ble_eq_true rfl) (Nat.le_of_ble_eq_true rfl) (Nat.le_of_ble_eq_true rfl) (Nat.le_of_ble_eq_true rfl) (Nat.le_of_ble_eq_true rfl) dX5_readClause_200 (fun u_112 H locs hw_u_112 hP hD hS => ?_)
              obtain ⟨o_114, o_115, o_116⟩ := u_112
              replace hw_u_112 : (o_114, o_115, o_116) = (f_e_expect_x5 o_106 o_107 r3 o_108 r5 r6 ftx 59) := hw_u_112
              rw [← hw_u_112] at hE
              replace hE : (o_114, o_115, o_116, r5, r6, t0, t1, t2, o_109, t4, fta, ftb, ftc, o_110, o_111) = RES := hE
              have hP : va_P D classes [(ta, .inl (cI, 6, .inl fta)), (tb, .inl (cI, 6, .inl ftb)), (tc, .inl (cI, 30, .inl ftc)), (t, .inr (8, [.int t0, .int t1, .int t2, .int o_109, .int t4, .ref ta, .ref tb, .ref tc, .ref td, .ref te])), (td, .inl (cI, 7, .inl o_110)), (te, .inl (cI, 7, .inl o_111)), (rd, .inr (5, [.int o_114, .int o_115, .ref x, .int r3, .int o_116, .int r5, .int r6])), (x, .inl (cI, 240, .inl ftx))] H := hP
              have hD : va_D A [(ta, .inl (cI, 6, .inl fta)), (tb, .inl (cI, 6, .inl ftb)), (tc, .inl (cI, 30, .inl ftc)), (t, .inr (8, [.int t0, .int t1, .int t2, .int o_109, .int t4, .ref ta, .ref tb, .ref tc, .ref td, .ref te])), (td, .inl (cI, 7, .inl o_110)), (te, .inl (cI, 7, .inl o_111)), (rd, .inr (5, [.int o_114, .int o_115, .ref x, .int r3, .int o_116, .int r5, .int r6])), (x, .inl (cI, 240, .inl ftx))] := hD
              exact hret (o_114, o_115, o_116, r5, r6, t0, t1, t2, o_109, t4, fta, ftb, ftc, o_110, o_111) _ _ _ _ dX5_readClause_203 hE (cutP (isC := [6, 7, 3, 0, 1, 2, 4, 5]) hP rfl) (cutD (isC := [6, 7, 3, 0, 1, 2, 4, 5]) hD rfl rfl) hS
            · rw [if_neg c_103] at hE
              refine lv_aload_n hx hb dX5_readClause_77 rfl (lv_at hl 2 rfl) ?_
              refine lv_iconst (v := 3) hx hb dX5_readClause_78 rfl ?_
              refine lv_aload_n hx hb dX5_readClause_79 rfl (lv_at hl 2 rfl) ?_
              refine va_get (D := D) (ci := 5) (v := .int u_1) (C := RX5) (T := TX5) (N := 7) hx hb hts iX5 hown hK hP 6 rfl rfl 4 (Nat.le_of_ble_eq_true rfl) (hts _ wd_46) (fun _ h9 => h9) rfl dX5_readClause_80 ?_
              refine cVv (wr := [(ta, .inl (cI, 6, .inl fta)), (tb, .inl (cI, 6, .inl ftb)), (tc, .inl (cI, 30, .inl ftc)), (td, .inl (cI, 7, .inl ftd)), (te, .inl (cI, 7, .inl fte)), (x, .inl (cI, 240, .inl ftx)), (t, .inr (8, [.int t0, .int t1, .int t2, .int t3, .int t4, .ref ta, .ref tb, .ref tc, .ref td, .ref te]))]) (rest := []) (e_blame_x5 rd x r0 r1 r3 u_1 r5 r6 3 u_1) okV_X5_blame wd_201 hx hb hml hown hts hK hP hD hS hA hN hl.1 [6] [0, 1, 2, 3, 4, 5, 7] rfl rfl rfl rfl (of_decide_eq_true rfl) rfl rfl rfl (Nat.le_of_ble_eq_true rfl) (Nat.le_of_ble_eq_true rfl) (Nat.le_of_ble_eq_true rfl) (Nat.le_of_ble_eq_true rfl) (Nat.le_of_ble_eq_true rfl) dX5_readClause_83 (fun u_117 H locs hw_u_117 hP hD hS => ?_)
              obtain ⟨o_119, o_120⟩ := u_117
              replace hw_u_117 : (o_119, o_120) = (f_e_blame_x5 r0 r1 r3 u_1 r5 r6 3 u_1) := hw_u_117
              rw [← hw_u_117] at hE
              replace hE : (o_119, o_120, u_1, r5, r6, t0, t1, t2, t3, t4, fta, ftb, ftc, ftd, fte) = RES := hE
              have hP : va_P D classes [(ta, .inl (cI, 6, .inl fta)), (tb, .inl (cI, 6, .inl ftb)), (tc, .inl (cI, 30, .inl ftc)), (td, .inl (cI, 7, .inl ftd)), (te, .inl (cI, 7, .inl fte)), (x, .inl (cI, 240, .inl ftx)), (t, .inr (8, [.int t0, .int t1, .int t2, .int t3, .int t4, .ref ta, .ref tb, .ref tc, .ref td, .ref te])), (rd, .inr (5, [.int o_119, .int o_120, .ref x, .int r3, .int u_1, .int r5, .int r6]))] H := hP
              have hD : va_D A [(ta, .inl (cI, 6, .inl fta)), (tb, .inl (cI, 6, .inl ftb)), (tc, .inl (cI, 30, .inl ftc)), (td, .inl (cI, 7, .inl ftd)), (te, .inl (cI, 7, .inl fte)), (x, .inl (cI, 240, .inl ftx)), (t, .inr (8, [.int t0, .int t1, .int t2, .int t3, .int t4, .ref ta, .ref tb, .ref tc, .ref td, .ref te])), (rd, .inr (5, [.int o_119, .int o_120, .ref x, .int r3, .int u_1, .int r5, .int r6]))] := hD
              exact hret (o_119, o_120, u_1, r5, r6, t0, t1, t2, t3, t4, fta, ftb, ftc, ftd, fte) _ _ _ _ dX5_readClause_86 hE (cutP (isC := [7, 5, 6, 0, 1, 2, 3, 4]) hP rfl) (cutD (isC := [7, 5, 6, 0, 1, 2, 3, 4]) hD rfl rfl) hS
          · rw [if_pos c_100] at hE
            refine lv_iload_n hx hb dX5_readClause_52 rfl (lv_at hl 1 rfl) ?_
            refine lv_bipush (v := 98) hx hb dX5_readClause_53 rfl ?_
            refine lv_icmp_eq (tgt := 68) hx hb dX5_readClause_55 rfl (fun c_121 => absurd c_121 (by decide +kernel)) (fun c_121 => ?_)
            refine lv_aload_n hx hb dX5_readClause_58 rfl (lv_at hl 2 rfl) ?_
            refine lv_iconst (v := 1) hx hb dX5_readClause_59 rfl ?_
            refine lv_aload_n hx hb dX5_readClause_60 rfl (lv_at hl 2 rfl) ?_
            refine va_get (D := D) (ci := 5) (v := .int u_1) (C := RX5) (T := TX5) (N := 7) hx hb hts iX5 hown hK hP 6 rfl rfl 4 (Nat.le_of_ble_eq_true rfl) (hts _ wd_46) (fun _ h9 => h9) rfl dX5_readClause_61 ?_
            refine cVv (wr := [(t, .inr (8, [.int t0, .int t1, .int t2, .int t3, .int t4, .ref ta, .ref tb, .ref tc, .ref td, .ref te])), (ta, .inl (cI, 6, .inl fta)), (tb, .inl (cI, 6, .inl ftb)), (tc, .inl (cI, 30, .inl ftc)), (td, .inl (cI, 7, .inl ftd)), (te, .inl (cI, 7, .inl fte)), (x, .inl (cI, 240, .inl ftx))]) (rest := []) (e_blame_x5 rd x r0 r1 r3 u_1 r5 r6 1 u_1) okV_X5_blame wd_201 hx hb hml hown hts hK hP hD hS hA hN hl.1 [6] [0, 1, 2, 3, 4, 5, 7] rfl rfl rfl rfl (of_decide_eq_true rfl) rfl rfl rfl (Nat.le_of_ble_eq_true rfl) (Nat.le_of_ble_eq_true rfl) (Nat.le_of_ble_eq_true rfl) (Nat.le_of_ble_eq_true rfl) (Nat.le_of_ble_eq_true rfl) dX5_readClause_64 (fun u_122 H locs hw_u_122 hP hD hS => ?_)
            obtain ⟨o_124, o_125⟩ := u_122
            replace hw_u_122 : (o_124, o_125) = (f_e_blame_x5 r0 r1 r3 u_1 r5 r6 1 u_1) := hw_u_122
            rw [← hw_u_122] at hE
            replace hE : (o_124, o_125, u_1, r5, r6, t0, t1, t2, t3, t4, fta, ftb, ftc, ftd, fte) = RES := hE
            have hP : va_P D classes [(t, .inr (8, [.int t0, .int t1, .int t2, .int t3, .int t4, .ref ta, .ref tb, .ref tc, .ref td, .ref te])), (ta, .inl (cI, 6, .inl fta)), (tb, .inl (cI, 6, .inl ftb)), (tc, .inl (cI, 30, .inl ftc)), (td, .inl (cI, 7, .inl ftd)), (te, .inl (cI, 7, .inl fte)), (x, .inl (cI, 240, .inl ftx)), (rd, .inr (5, [.int o_124, .int o_125, .ref x, .int r3, .int u_1, .int r5, .int r6]))] H := hP
            have hD : va_D A [(t, .inr (8, [.int t0, .int t1, .int t2, .int t3, .int t4, .ref ta, .ref tb, .ref tc, .ref td, .ref te])), (ta, .inl (cI, 6, .inl fta)), (tb, .inl (cI, 6, .inl ftb)), (tc, .inl (cI, 30, .inl ftc)), (td, .inl (cI, 7, .inl ftd)), (te, .inl (cI, 7, .inl fte)), (x, .inl (cI, 240, .inl ftx)), (rd, .inr (5, [.int o_124, .int o_125, .ref x, .int r3, .int u_1, .int r5, .int r6]))] := hD
            exact hret (o_124, o_125, u_1, r5, r6, t0, t1, t2, t3, t4, fta, ftb, ftc, ftd, fte) _ _ _ _ dX5_readClause_67 hE (cutP (isC := [7, 6, 0, 1, 2, 3, 4, 5]) hP rfl) (cutD (isC := [7, 6, 0, 1, 2, 3, 4, 5]) hD rfl rfl) hS
        · rw [if_neg c_98] at hE
          refine lv_iload_n hx hb dX5_readClause_29 rfl (lv_at hl 0 rfl) ?_
          refine lv_bipush (v := 115) hx hb dX5_readClause_30 rfl ?_
          refine lv_icmp_ne (tgt := 39) hx hb dX5_readClause_32 rfl (fun c_126 => ?_) (fun c_126 => ?_)
          · rw [if_neg c_126] at hE
            refine lv_iconst (v := 0) hx hb dX5_readClause_39 rfl ?_
            refine lv_istore_n (lv' := [(3, .int 0), (2, .int r_2), (0, .ref rd), (1, .ref t)]) hx hb dX5_readClause_40 rfl hl (Nat.le_of_ble_eq_true rfl) rfl (fun ls hl => ?_)
            refine lv_iload_n hx hb dX5_readClause_41 rfl (lv_at hl 0 rfl) ?_
            refine lv_if_eq (tgt := 58) hx hb dX5_readClause_42 rfl (fun c_127 => ?_) (fun c_127 => absurd (by decide +kernel) c_127)
            refine lv_aload_n hx hb dX5_readClause_58 rfl (lv_at hl 2 rfl) ?_
            refine lv_iconst (v := 1) hx hb dX5_readClause_59 rfl ?_
            refine lv_aload_n hx hb dX5_readClause_60 rfl (lv_at hl 2 rfl) ?_
            refine va_get (D := D) (ci := 5) (v := .int u_1) (C := RX5) (T := TX5) (N := 7) hx hb hts iX5 hown hK hP 6 rfl rfl 4 (Nat.le_of_ble_eq_true rfl) (hts _ wd_46) (fun _ h9 => h9) rfl dX5_readClause_61 ?_
            refine cVv (wr := [(t, .inr (8, [.int t0, .int t1, .int t2, .int t3, .int t4, .ref ta, .ref tb, .ref tc, .ref td, .ref te])), (ta, .inl (cI, 6, .inl fta)), (tb, .inl (cI, 6, .inl ftb)), (tc, .inl (cI, 30, .inl ftc)), (td, .inl (cI, 7, .inl ftd)), (te, .inl (cI, 7, .inl fte)), (x, .inl (cI, 240, .inl ftx))]) (rest := []) (e_blame_x5 rd x r0 r1 r3 u_1 r5 r6 1 u_1) okV_X5_blame wd_201 hx hb hml hown hts hK hP hD hS hA hN hl.1 [6] [0, 1, 2, 3, 4, 5, 7] rfl rfl rfl rfl (of_decide_eq_true rfl) rfl rfl rfl (Nat.le_of_ble_eq_true rfl) (Nat.le_of_ble_eq_true rfl) (Nat.le_of_ble_eq_true rfl) (Nat.le_of_ble_eq_true rfl) (Nat.le_of_ble_eq_true rfl) dX5_readClause_64 (fun u_128 H locs hw_u_128 hP hD hS => ?_)
            obtain ⟨o_130, o_131⟩ := u_128
            replace hw_u_128 : (o_130, o_131) = (f_e_blame_x5 r0 r1 r3 u_1 r5 r6 1 u_1) := hw_u_128
            rw [← hw_u_128] at hE
            replace hE : (o_130, o_131, u_1, r5, r6, t0, t1, t2, t3, t4, fta, ftb, ftc, ftd, fte) = RES := hE
            have hP : va_P D classes [(t, .inr (8, [.int t0, .int t1, .int t2, .int t3, .int t4, .ref ta, .ref tb, .ref tc, .ref td, .ref te])), (ta, .inl (cI, 6, .inl fta)), (tb, .inl (cI, 6, .inl ftb)), (tc, .inl (cI, 30, .inl ftc)), (td, .inl (cI, 7, .inl ftd)), (te, .inl (cI, 7, .inl fte)), (x, .inl (cI, 240, .inl ftx)), (rd, .inr (5, [.int o_130, .int o_131, .ref x, .int r3, .int u_1, .int r5, .int r6]))] H := hP
            have hD : va_D A [(t, .inr (8, [.int t0, .int t1, .int t2, .int t3, .int t4, .ref ta, .ref tb, .ref tc, .ref td, .ref te])), (ta, .inl (cI, 6, .inl fta)), (tb, .inl (cI, 6, .inl ftb)), (tc, .inl (cI, 30, .inl ftc)), (td, .inl (cI, 7, .inl ftd)), (te, .inl (cI, 7, .inl fte)), (x, .inl (cI, 240, .inl ftx)), (rd, .inr (5, [.int o_130, .int o_131, .ref x, .int r3, .int u_1, .int r5, .int r6]))] := hD
            exact hret (o_130, o_131, u_1, r5, r6, t0, t1, t2, t3, t4, fta, ftb, ftc, ftd, fte) _ _ _ _ dX5_readClause_67 hE (cutP (isC := [7, 6, 0, 1, 2, 3, 4, 5]) hP rfl) (cutD (isC := [7, 6, 0, 1, 2, 3, 4, 5]) hD rfl rfl) hS
          · rw [if_pos c_126] at hE
            subst c_126
            refine lv_iconst (v := 1) hx hb dX5_readClause_35 rfl ?_
            refine lv_goto (tgt := 40) hx hb dX5_readClause_36 rfl ?_
            refine lv_istore_n (lv' := [(3, .int 1), (2, .int 115), (0, .ref rd), (1, .ref t)]) hx hb dX5_readClause_40 rfl hl (Nat.le_of_ble_eq_true rfl) rfl (fun ls hl => ?_)
            refine lv_iload_n hx hb dX5_readClause_41 rfl (lv_at hl 0 rfl) ?_
            refine lv_if_eq (tgt := 58) hx hb dX5_readClause_42 rfl (fun c_132 => absurd c_132 (by decide +kernel)) (fun c_132 => ?_)
            refine lv_aload_n hx hb dX5_readClause_45 rfl (lv_at hl 3 rfl) ?_
            refine va_get (D := D) (ci := 8) (v := .int t0) (C := RX8) (T := TX8) (N := 10) hx hb hts iX8 hown hK hP 0 rfl rfl 0 (Nat.le_of_ble_eq_true rfl) (hts _ wd_209) (fun _ h9 => h9) rfl dX5_readClause_46 ?_
            refine lv_if_ne (tgt := 68) hx hb dX5_readClause_49 rfl (fun c_133 => ?_) (fun c_133 => ?_)
            · rw [if_neg c_133] at hE
              refine lv_aload_n hx hb dX5_readClause_68 rfl (lv_at hl 2 rfl) ?_
              refine lv_iload_n hx hb dX5_readClause_69 rfl (lv_at hl 1 rfl) ?_
              refine lv_aload_n hx hb dX5_readClause_70 rfl (lv_at hl 3 rfl) ?_
              refine cVi (wr := [(ta, .inl (cI, 6, .inl fta)), (tb, .inl (cI, 6, .inl ftb)), (tc, .inl (cI, 30, .inl ftc)), (td, .inl (cI, 7, .inl ftd)), (te, .inl (cI, 7, .inl fte)), (x, .inl (cI, 240, .inl ftx))]) (rest := []) (e_isTooOften_x5 rd x t ta tb tc td te r0 r1 r3 u_1 r5 r6 t0 t1 t2 t3 t4 115 h01) okV_X5_isTooOften wd_226 hx hb hml hown hts hK hP hD hS hA hN hl.1 [6, 0] [1, 2, 3, 4, 5, 7] rfl rfl rfl rfl (of_decide_eq_true rfl) rfl rfl rfl (Nat.le_of_ble_eq_true rfl) (Nat.le_of_ble_eq_true rfl) (Nat.le_of_ble_eq_true rfl) (Nat.le_of_ble_eq_true rfl) (Nat.le_of_ble_eq_true rfl) dX5_readClause_71 (fun r_135 u_134 H locs hw_u_134 hP hD hS => ?_)
              replace hw_u_134 : r_135 = (f_e_isTooOften_x5 r0 r1 r3 u_1 r5 r6 t0 t1 t2 t3 t4 115) := hw_u_134
              rw [hw_u_134]
              clear hw_u_134
              have hP : va_P D classes [(ta, .inl (cI, 6, .inl fta)), (tb, .inl (cI, 6, .inl ftb)), (tc, .inl (cI, 30, .inl ftc)), (td, .inl (cI, 7, .inl ftd)), (te, .inl (cI, 7, .inl fte)), (x, .inl (cI, 240, .inl ftx)), (rd, .inr (5, [.int r0, .int r1, .ref x, .int r3, .int u_1, .int r5, .int r6])), (t, .inr (8, [.int t0, .int t1, .int t2, .int t3, .int t4, .ref ta, .ref tb, .ref tc, .ref td, .ref te]))] H := hP
              have hD : va_D A [(ta, .inl (cI, 6, .inl fta)), (tb, .inl (cI, 6, .inl ftb)), (tc, .inl (cI, 30, .inl ftc)), (td, .inl (cI, 7, .inl ftd)), (te, .inl (cI, 7, .inl fte)), (x, .inl (cI, 240, .inl ftx)), (rd, .inr (5, [.int r0, .int r1, .ref x, .int r3, .int u_1, .int r5, .int r6])), (t, .inr (8, [.int t0, .int t1, .int t2, .int t3, .int t4, .ref ta, .ref tb, .ref tc, .ref td, .ref te]))] := hD
              refine lv_if_eq (tgt := 87) hx hb dX5_readClause_74 rfl (fun c_136 => ?_) (fun c_136 => ?_)
              · rw [if_pos c_136] at hE
                refine lv_aload_n hx hb dX5_readClause_87 rfl (lv_at hl 2 rfl) ?_
                refine lv_dup hx hb dX5_readClause_88 rfl ?_
                refine va_get (D := D) (ci := 5) (v := .int u_1) (C := RX5) (T := TX5) (N := 7) hx hb hts iX5 hown hK hP 6 rfl rfl 4 (Nat.le_of_ble_eq_true rfl) (hts _ wd_46) (fun _ h9 => h9) rfl dX5_readClause_89 ?_
                refine lv_iconst (v := 1) hx hb dX5_readClause_92 rfl ?_
                refine lv_iadd hx hb dX5_readClause_93 ?_
                refine va_put (D := D) (ci := 5) (v := .int (u_1 + 1)) (ty := .int) (C := RX5) (T := TX5) (N := 7) hx hb hts iX5 tyX5 tyX5_ok nmX5 hown hK hP hD hS 6 rfl rfl 4 (Nat.le_of_ble_eq_true rfl) (hts _ wd_46) (fun _ h9 => h9) rfl (by decide +kernel) rfl rfl (Nat.le_of_ble_eq_true rfl) dX5_readClause_94 (fun H locs hP hD hS => ?_)
                have hP : va_P D classes [(ta, .inl (cI, 6, .inl fta)), (tb, .inl (cI, 6, .inl ftb)), (tc, .inl (cI, 30, .inl ftc)), (td, .inl (cI, 7, .inl ftd)), (te, .inl (cI, 7, .inl fte)), (x, .inl (cI, 240, .inl ftx)), (rd, .inr (5, [.int r0, .int r1, .ref x, .int r3, .int (u_1 + 1), .int r5, .int r6])), (t, .inr (8, [.int t0, .int t1, .int t2, .int t3, .int t4, .ref ta, .ref tb, .ref tc, .ref td, .ref te]))] H := hP
                have hD : va_D A [(ta, .inl (cI, 6, .inl fta)), (tb, .inl (cI, 6, .inl ftb)), (tc, .inl (cI, 30, .inl ftc)), (td, .inl (cI, 7, .inl ftd)), (te, .inl (cI, 7, .inl fte)), (x, .inl (cI, 240, .inl ftx)), (rd, .inr (5, [.int r0, .int r1, .ref x, .int r3, .int (u_1 + 1), .int r5, .int r6])), (t, .inr (8, [.int t0, .int t1, .int t2, .int t3, .int t4, .ref ta, .ref tb, .ref tc, .ref td, .ref te]))] := hD
                refine lv_iload_n hx hb dX5_readClause_97 rfl (lv_at hl 1 rfl) ?_
                refine lv_lookup (off := 84) (tgt := 182) hx hb dX5_readClause_98 (by decide +kernel) (by decide +kernel) rfl ?_
                refine lv_aload_n hx hb dX5_readClause_182 rfl (lv_at hl 3 rfl) ?_
                refine lv_aload_n hx hb dX5_readClause_183 rfl (lv_at hl 2 rfl) ?_
                refine lv_iconst (v := 0) hx hb dX5_readClause_184 rfl ?_
                refine lv_iconst (v := 1) hx hb dX5_readClause_185 rfl ?_
                refine cVi (wr := [(ta, .inl (cI, 6, .inl fta)), (tb, .inl (cI, 6, .inl ftb)), (tc, .inl (cI, 30, .inl ftc)), (td, .inl (cI, 7, .inl ftd)), (te, .inl (cI, 7, .inl fte)), (t, .inr (8, [.int t0, .int t1, .int t2, .int t3, .int t4, .ref ta, .ref tb, .ref tc, .ref td, .ref te]))]) (rest := [.ref t]) (e_number_x5 rd x r0 r1 r3 (u_1 + 1) r5 r6 ftx 0 1) okV_X5_number wd_213 hx hb hml hown hts hK hP hD hS hA hN hl.1 [6, 5] [0, 1, 2, 3, 4, 7] rfl rfl rfl rfl (of_decide_eq_true rfl) rfl rfl rfl (Nat.le_of_ble_eq_true rfl) (Nat.le_of_ble_eq_true rfl) (Nat.le_of_ble_eq_true rfl) (Nat.le_of_ble_eq_true rfl) (Nat.le_of_ble_eq_true rfl) dX5_readClause_186 (fun r_138 u_137 H locs hw_u_137 hP hD hS => ?_)
                obtain ⟨o_139, o_140, o_141⟩ := u_137
                replace hw_u_137 : (r_138, o_139, o_140, o_141) = (f_e_number_x5 r0 r1 r3 (u_1 + 1) r5 r6 ftx 0 1) := hw_u_137
                rw [← hw_u_137] at hE
                replace hE : (match (f_e_expect_x5 o_139 o_140 r3 o_141 r5 1 ftx 59) with | (o_144, o_145, o_146) => (o_144, o_145, o_146, r5, 1, t0, t1, t2, t3, r_138, fta, ftb, ftc, ftd, fte)) = RES := hE
                have hP : va_P D classes [(ta, .inl (cI, 6, .inl fta)), (tb, .inl (cI, 6, .inl ftb)), (tc, .inl (cI, 30, .inl ftc)), (td, .inl (cI, 7, .inl ftd)), (te, .inl (cI, 7, .inl fte)), (t, .inr (8, [.int t0, .int t1, .int t2, .int t3, .int t4, .ref ta, .ref tb, .ref tc, .ref td, .ref te])), (rd, .inr (5, [.int o_139, .int o_140, .ref x, .int r3, .int o_141, .int r5, .int r6])), (x, .inl (cI, 240, .inl ftx))] H := hP
                have hD : va_D A [(ta, .inl (cI, 6, .inl fta)), (tb, .inl (cI, 6, .inl ftb)), (tc, .inl (cI, 30, .inl ftc)), (td, .inl (cI, 7, .inl ftd)), (te, .inl (cI, 7, .inl fte)), (t, .inr (8, [.int t0, .int t1, .int t2, .int t3, .int t4, .ref ta, .ref tb, .ref tc, .ref td, .ref te])), (rd, .inr (5, [.int o_139, .int o_140, .ref x, .int r3, .int o_141, .int r5, .int r6])), (x, .inl (cI, 240, .inl ftx))] := hD
                refine va_put (D := D) (ci := 8) (v := .int r_138) (ty := .int) (C := RX8) (T := TX8) (N := 10) hx hb hts iX8 tyX8 tyX8_ok nmX8 hown hK hP hD hS 5 rfl rfl 4 (Nat.le_of_ble_eq_true rfl) (hts _ wd_242) (fun _ h9 => h9) rfl (by decide +kernel) rfl rfl (Nat.le_of_ble_eq_true rfl) dX5_readClause_189 (fun H locs hP hD hS => ?_)
                have hP : va_P D classes [(ta, .inl (cI, 6, .inl fta)), (tb, .inl (cI, 6, .inl ftb)), (tc, .inl (cI, 30, .inl ftc)), (td, .inl (cI, 7, .inl ftd)), (te, .inl (cI, 7, .inl fte)), (t, .inr (8, [.int t0, .int t1, .int t2, .int t3, .int r_138, .ref ta, .ref tb, .ref tc, .ref td, .ref te])), (rd, .inr (5, [.int o_139, .int o_140, .ref x, .int r3, .int o_141, .int r5, .int r6])), (x, .inl (cI, 240, .inl ftx))] H := hP
                have hD : va_D A [(ta, .inl (cI, 6, .inl fta)), (tb, .inl (cI, 6, .inl ftb)), (tc, .inl (cI, 30, .inl ftc)), (td, .inl (cI, 7, .inl ftd)), (te, .inl (cI, 7, .inl fte)), (t, .inr (8, [.int t0, .int t1, .int t2, .int t3, .int r_138, .ref ta, .ref tb, .ref tc, .ref td, .ref te])), (rd, .inr (5, [.int o_139, .int o_140, .ref x, .int r3, .int o_141, .int r5, .int r6])), (x, .inl (cI, 240, .inl ftx))] := hD
                refine lv_aload_n hx hb dX5_readClause_192 rfl (lv_at hl 2 rfl) ?_
                refine lv_iconst (v := 1) hx hb dX5_readClause_193 rfl ?_
                refine va_put (D := D) (ci := 5) (v := .int 1) (ty := .boolean) (C := RX5) (T := TX5) (N := 7) hx hb hts iX5 tyX5 tyX5_ok nmX5 hown hK hP hD hS 6 rfl rfl 6 (Nat.le_of_ble_eq_true rfl) (hts _ wd_48) (fun _ h9 => h9) rfl (by decide +kernel) rfl rfl (Nat.le_of_ble_eq_true rfl) dX5_readClause_194 (fun H locs hP hD hS => ?_)
                have hP : va_P D classes [(ta, .inl (cI, 6, .inl fta)), (tb, .inl (cI, 6, .inl ftb)), (tc, .inl (cI, 30, .inl ftc)), (td, .inl (cI, 7, .inl ftd)), (te, .inl (cI, 7, .inl fte)), (t, .inr (8, [.int t0, .int t1, .int t2, .int t3, .int r_138, .ref ta, .ref tb, .ref tc, .ref td, .ref te])), (rd, .inr (5, [.int o_139, .int o_140, .ref x, .int r3, .int o_141, .int r5, .int 1])), (x, .inl (cI, 240, .inl ftx))] H := hP
                have hD : va_D A [(ta, .inl (cI, 6, .inl fta)), (tb, .inl (cI, 6, .inl ftb)), (tc, .inl (cI, 30, .inl ftc)), (td, .inl (cI, 7, .inl ftd)), (te, .inl (cI, 7, .inl fte)), (t, .inr (8, [.int t0, .int t1, .int t2, .int t3, .int r_138, .ref ta, .ref tb, .ref tc, .ref td, .ref te])), (rd, .inr (5, [.int o_139, .int o_140, .ref x, .int r3, .int o_141, .int r5, .int 1])), (x, .inl (cI, 240, .inl ftx))] := hD
                refine lv_aload_n hx hb dX5_readClause_197 rfl (lv_at hl 2 rfl) ?_
                refine lv_bipush (v := 59) hx hb dX5_readClause_198 rfl ?_
                refine cVv (wr := [(ta, .inl (cI, 6, .inl fta)), (tb, .inl (cI, 6, .inl ftb)), (tc, .inl (cI, 30, .inl ftc)), (td, .inl (cI, 7, .inl ftd)), (te, .inl (cI, 7, .inl fte)), (t, .inr (8, [.int t0, .int t1, .int t2, .int t3, .int r_138, .ref ta, .ref tb, .ref tc, .ref td, .ref te]))]) (rest := []) (e_expect_x5 rd x o_139 o_140 r3 o_141 r5 1 ftx 59) okV_X5_expect wd_220 hx hb hml hown hts hK hP hD hS hA hN hl.1 [6, 7] [0, 1, 2, 3, 4, 5] rfl rfl rfl rfl (of_decide_eq_true rfl) rfl rfl rfl (Nat.le_of_ble_eq_true rfl) (Nat.le_of_ble_eq_true rfl) (Nat.le_of_ble_eq_true rfl) (Nat.le_of_ble_eq_true rfl) (Nat.le_of_ble_eq_true rfl) dX5_readClause_200 (fun u_142 H locs hw_u_142 hP hD hS => ?_)
                obtain ⟨o_144, o_145, o_146⟩ := u_142
                replace hw_u_142 : (o_144, o_145, o_146) = (f_e_expect_x5 o_139 o_140 r3 o_141 r5 1 ftx 59) := hw_u_142
                rw [← hw_u_142] at hE
                replace hE : (o_144, o_145, o_146, r5, 1, t0, t1, t2, t3, r_138, fta, ftb, ftc, ftd, fte) = RES := hE
                have hP : va_P D classes [(ta, .inl (cI, 6, .inl fta)), (tb, .inl (cI, 6, .inl ftb)), (tc, .inl (cI, 30, .inl ftc)), (td, .inl (cI, 7, .inl ftd)), (te, .inl (cI, 7, .inl fte)), (t, .inr (8, [.int t0, .int t1, .int t2, .int t3, .int r_138, .ref ta, .ref tb, .ref tc, .ref td, .ref te])), (rd, .inr (5, [.int o_144, .int o_145, .ref x, .int r3, .int o_146, .int r5, .int 1])), (x, .inl (cI, 240, .inl ftx))] H := hP
                have hD : va_D A [(ta, .inl (cI, 6, .inl fta)), (tb, .inl (cI, 6, .inl ftb)), (tc, .inl (cI, 30, .inl ftc)), (td, .inl (cI, 7, .inl ftd)), (te, .inl (cI, 7, .inl fte)), (t, .inr (8, [.int t0, .int t1, .int t2, .int t3, .int r_138, .ref ta, .ref tb, .ref tc, .ref td, .ref te])), (rd, .inr (5, [.int o_144, .int o_145, .ref x, .int r3, .int o_146, .int r5, .int 1])), (x, .inl (cI, 240, .inl ftx))] := hD
                exact hret (o_144, o_145, o_146, r5, 1, t0, t1, t2, t3, r_138, fta, ftb, ftc, ftd, fte) _ _ _ _ dX5_readClause_203 hE (cutP (isC := [6, 7, 5, 0, 1, 2, 3, 4]) hP rfl) (cutD (isC := [6, 7, 5, 0, 1, 2, 3, 4]) hD rfl rfl) hS
              · rw [if_neg c_136] at hE
                refine lv_aload_n hx hb dX5_readClause_77 rfl (lv_at hl 2 rfl) ?_
                refine lv_iconst (v := 3) hx hb dX5_readClause_78 rfl ?_
                refine lv_aload_n hx hb dX5_readClause_79 rfl (lv_at hl 2 rfl) ?_
                refine va_get (D := D) (ci := 5) (v := .int u_1) (C := RX5) (T := TX5) (N := 7) hx hb hts iX5 hown hK hP 6 rfl rfl 4 (Nat.le_of_ble_eq_true rfl) (hts _ wd_46) (fun _ h9 => h9) rfl dX5_readClause_80 ?_
                refine cVv (wr := [(ta, .inl (cI, 6, .inl fta)), (tb, .inl (cI, 6, .inl ftb)), (tc, .inl (cI, 30, .inl ftc)), (td, .inl (cI, 7, .inl ftd)), (te, .inl (cI, 7, .inl fte)), (x, .inl (cI, 240, .inl ftx)), (t, .inr (8, [.int t0, .int t1, .int t2, .int t3, .int t4, .ref ta, .ref tb, .ref tc, .ref td, .ref te]))]) (rest := []) (e_blame_x5 rd x r0 r1 r3 u_1 r5 r6 3 u_1) okV_X5_blame wd_201 hx hb hml hown hts hK hP hD hS hA hN hl.1 [6] [0, 1, 2, 3, 4, 5, 7] rfl rfl rfl rfl (of_decide_eq_true rfl) rfl rfl rfl (Nat.le_of_ble_eq_true rfl) (Nat.le_of_ble_eq_true rfl) (Nat.le_of_ble_eq_true rfl) (Nat.le_of_ble_eq_true rfl) (Nat.le_of_ble_eq_true rfl) dX5_readClause_83 (fun u_147 H locs hw_u_147 hP hD hS => ?_)
                obtain ⟨o_149, o_150⟩ := u_147
                replace hw_u_147 : (o_149, o_150) = (f_e_blame_x5 r0 r1 r3 u_1 r5 r6 3 u_1) := hw_u_147
                rw [← hw_u_147] at hE
                replace hE : (o_149, o_150, u_1, r5, r6, t0, t1, t2, t3, t4, fta, ftb, ftc, ftd, fte) = RES := hE
                have hP : va_P D classes [(ta, .inl (cI, 6, .inl fta)), (tb, .inl (cI, 6, .inl ftb)), (tc, .inl (cI, 30, .inl ftc)), (td, .inl (cI, 7, .inl ftd)), (te, .inl (cI, 7, .inl fte)), (x, .inl (cI, 240, .inl ftx)), (t, .inr (8, [.int t0, .int t1, .int t2, .int t3, .int t4, .ref ta, .ref tb, .ref tc, .ref td, .ref te])), (rd, .inr (5, [.int o_149, .int o_150, .ref x, .int r3, .int u_1, .int r5, .int r6]))] H := hP
                have hD : va_D A [(ta, .inl (cI, 6, .inl fta)), (tb, .inl (cI, 6, .inl ftb)), (tc, .inl (cI, 30, .inl ftc)), (td, .inl (cI, 7, .inl ftd)), (te, .inl (cI, 7, .inl fte)), (x, .inl (cI, 240, .inl ftx)), (t, .inr (8, [.int t0, .int t1, .int t2, .int t3, .int t4, .ref ta, .ref tb, .ref tc, .ref td, .ref te])), (rd, .inr (5, [.int o_149, .int o_150, .ref x, .int r3, .int u_1, .int r5, .int r6]))] := hD
                exact hret (o_149, o_150, u_1, r5, r6, t0, t1, t2, t3, t4, fta, ftb, ftc, ftd, fte) _ _ _ _ dX5_readClause_86 hE (cutP (isC := [7, 5, 6, 0, 1, 2, 3, 4]) hP rfl) (cutD (isC := [7, 5, 6, 0, 1, 2, 3, 4]) hD rfl rfl) hS
            · rw [if_pos c_133] at hE
              refine lv_iload_n hx hb dX5_readClause_52 rfl (lv_at hl 1 rfl) ?_
              refine lv_bipush (v := 98) hx hb dX5_readClause_53 rfl ?_
              refine lv_icmp_eq (tgt := 68) hx hb dX5_readClause_55 rfl (fun c_151 => absurd c_151 (by decide +kernel)) (fun c_151 => ?_)
              refine lv_aload_n hx hb dX5_readClause_58 rfl (lv_at hl 2 rfl) ?_
              refine lv_iconst (v := 1) hx hb dX5_readClause_59 rfl ?_
              refine lv_aload_n hx hb dX5_readClause_60 rfl (lv_at hl 2 rfl) ?_
              refine va_get (D := D) (ci := 5) (v := .int u_1) (C := RX5) (T := TX5) (N := 7) hx hb hts iX5 hown hK hP 6 rfl rfl 4 (Nat.le_of_ble_eq_true rfl) (hts _ wd_46) (fun _ h9 => h9) rfl dX5_readClause_61 ?_
              refine cVv (wr := [(t, .inr (8, [.int t0, .int t1, .int t2, .int t3, .int t4, .ref ta, .ref tb, .ref tc, .ref td, .ref te])), (ta, .inl (cI, 6, .inl fta)), (tb, .inl (cI, 6, .inl ftb)), (tc, .inl (cI, 30, .inl ftc)), (td, .inl (cI, 7, .inl ftd)), (te, .inl (cI, 7, .inl fte)), (x, .inl (cI, 240, .inl ftx))]) (rest := []) (e_blame_x5 rd x r0 r1 r3 u_1 r5 r6 1 u_1) okV_X5_blame wd_201 hx hb hml hown hts hK hP hD hS hA hN hl.1 [6] [0, 1, 2, 3, 4, 5, 7] rfl rfl rfl rfl (of_decide_eq_true rfl) rfl rfl rfl (Nat.le_of_ble_eq_true rfl) (Nat.le_of_ble_eq_true rfl) (Nat.le_of_ble_eq_true rfl) (Nat.le_of_ble_eq_true rfl) (Nat.le_of_ble_eq_true rfl) dX5_readClause_64 (fun u_152 H locs hw_u_152 hP hD hS => ?_)
              obtain ⟨o_154, o_155⟩ := u_152
              replace hw_u_152 : (o_154, o_155) = (f_e_blame_x5 r0 r1 r3 u_1 r5 r6 1 u_1) := hw_u_152
              rw [← hw_u_152] at hE
              replace hE : (o_154, o_155, u_1, r5, r6, t0, t1, t2, t3, t4, fta, ftb, ftc, ftd, fte) = RES := hE
              have hP : va_P D classes [(t, .inr (8, [.int t0, .int t1, .int t2, .int t3, .int t4, .ref ta, .ref tb, .ref tc, .ref td, .ref te])), (ta, .inl (cI, 6, .inl fta)), (tb, .inl (cI, 6, .inl ftb)), (tc, .inl (cI, 30, .inl ftc)), (td, .inl (cI, 7, .inl ftd)), (te, .inl (cI, 7, .inl fte)), (x, .inl (cI, 240, .inl ftx)), (rd, .inr (5, [.int o_154, .int o_155, .ref x, .int r3, .int u_1, .int r5, .int r6]))] H := hP
              have hD : va_D A [(t, .inr (8, [.int t0, .int t1, .int t2, .int t3, .int t4, .ref ta, .ref tb, .ref tc, .ref td, .ref te])), (ta, .inl (cI, 6, .inl fta)), (tb, .inl (cI, 6, .inl ftb)), (tc, .inl (cI, 30, .inl ftc)), (td, .inl (cI, 7, .inl ftd)), (te, .inl (cI, 7, .inl fte)), (x, .inl (cI, 240, .inl ftx)), (rd, .inr (5, [.int o_154, .int o_155, .ref x, .int r3, .int u_1, .int r5, .int r6]))] := hD
              exact hret (o_154, o_155, u_1, r5, r6, t0, t1, t2, t3, t4, fta, ftb, ftc, ftd, fte) _ _ _ _ dX5_readClause_67 hE (cutP (isC := [7, 6, 0, 1, 2, 3, 4, 5]) hP rfl) (cutD (isC := [7, 6, 0, 1, 2, 3, 4, 5]) hD rfl rfl) hS
end
section
def fw_cX5_read : List (List Nat) := [[42, 43, 181, 0, 18, 42, 28, 181, 0, 22, 42, 3, 181, 0, 25, 42, 3, 181], [3, 181, 0, 9, 42, 2, 181, 0, 15, 42, 3, 181, 0, 28, 42, 3, 181, 0], [181, 0, 32, 45, 182, 0, 35, 3, 54, 4, 21, 4, 17, 0, 240, 162, 0, 29], [0, 29, 42, 180, 0, 9, 154, 0, 22, 42, 182, 0, 40, 2, 159, 0, 14, 42], [14, 42, 45, 182, 0, 44, 132, 4, 1, 167, 255, 225, 177]]
theorem fW_cX5_read : fq_wins 5 cX5_read.data.toList = fw_cX5_read := by decide +kernel
theorem fk_cX5_read_0 : fq_ck cX5_read 0 [42, 43, 181, 0, 18, 42, 28, 181, 0, 22, 42, 3, 181, 0, 25, 42, 3, 181] := fq_of fW_cX5_read 0 rfl rfl
theorem dX5_read_0 : decode cX5_read 0 = .ok (.aload_n 0, 1) := fq_42 fk_cX5_read_0 0 rfl rfl
theorem dX5_read_1 : decode cX5_read 1 = .ok (.aload_n 1, 1) := fq_43 fk_cX5_read_0 1 rfl rfl
theorem dX5_read_2 : decode cX5_read 2 = .ok (.putfield 18, 3) := fq_181 fk_cX5_read_0 2 rfl rfl rfl rfl rfl
theorem dX5_read_5 : decode cX5_read 5 = .ok (.aload_n 0, 1) := fq_42 fk_cX5_read_0 5 rfl rfl
theorem dX5_read_6 : decode cX5_read 6 = .ok (.iload_n 2, 1) := fq_28 fk_cX5_read_0 6 rfl rfl
theorem dX5_read_7 : decode cX5_read 7 = .ok (.putfield 22, 3) := fq_181 fk_cX5_read_0 7 rfl rfl rfl rfl rfl
theorem dX5_read_10 : decode cX5_read 10 = .ok (.aload_n 0, 1) := fq_42 fk_cX5_read_0 10 rfl rfl
theorem dX5_read_11 : decode cX5_read 11 = .ok (.iconst 0, 1) := fq_3 fk_cX5_read_0 11 rfl rfl
theorem dX5_read_12 : decode cX5_read 12 = .ok (.putfield 25, 3) := fq_181 fk_cX5_read_0 12 rfl rfl rfl rfl rfl
theorem dX5_read_15 : decode cX5_read 15 = .ok (.aload_n 0, 1) := fq_42 fk_cX5_read_0 15 rfl rfl
theorem fk_cX5_read_1 : fq_ck cX5_read 16 [3, 181, 0, 9, 42, 2, 181, 0, 15, 42, 3, 181, 0, 28, 42, 3, 181, 0] := fq_of fW_cX5_read 1 rfl rfl
theorem dX5_read_16 : decode cX5_read 16 = .ok (.iconst 0, 1) := fq_3 fk_cX5_read_1 0 rfl rfl
theorem dX5_read_17 : decode cX5_read 17 = .ok (.putfield 9, 3) := fq_181 fk_cX5_read_1 1 rfl rfl rfl rfl rfl
theorem dX5_read_20 : decode cX5_read 20 = .ok (.aload_n 0, 1) := fq_42 fk_cX5_read_1 4 rfl rfl
theorem dX5_read_21 : decode cX5_read 21 = .ok (.iconst (-1), 1) := fq_2 fk_cX5_read_1 5 rfl rfl
theorem dX5_read_22 : decode cX5_read 22 = .ok (.putfield 15, 3) := fq_181 fk_cX5_read_1 6 rfl rfl rfl rfl rfl
theorem dX5_read_25 : decode cX5_read 25 = .ok (.aload_n 0, 1) := fq_42 fk_cX5_read_1 9 rfl rfl
theorem dX5_read_26 : decode cX5_read 26 = .ok (.iconst 0, 1) := fq_3 fk_cX5_read_1 10 rfl rfl
theorem dX5_read_27 : decode cX5_read 27 = .ok (.putfield 28, 3) := fq_181 fk_cX5_read_1 11 rfl rfl rfl rfl rfl
theorem dX5_read_30 : decode cX5_read 30 = .ok (.aload_n 0, 1) := fq_42 fk_cX5_read_1 14 rfl rfl
theorem dX5_read_31 : decode cX5_read 31 = .ok (.iconst 0, 1) := fq_3 fk_cX5_read_1 15 rfl rfl
theorem fk_cX5_read_2 : fq_ck cX5_read 32 [181, 0, 32, 45, 182, 0, 35, 3, 54, 4, 21, 4, 17, 0, 240, 162, 0, 29] := fq_of fW_cX5_read 2 rfl rfl
theorem dX5_read_32 : decode cX5_read 32 = .ok (.putfield 32, 3) := fq_181 fk_cX5_read_2 0 rfl rfl rfl rfl rfl
theorem dX5_read_35 : decode cX5_read 35 = .ok (.aload_n 3, 1) := fq_45 fk_cX5_read_2 3 rfl rfl
theorem dX5_read_36 : decode cX5_read 36 = .ok (.invokevirtual 35, 3) := fq_182 fk_cX5_read_2 4 rfl rfl rfl rfl rfl
theorem wd_243 : Cond.methodLink RX5 35 yX8_clear ∈ BG := BG_at2 102 (by decide +kernel) rfl
theorem wd_244 : Cond.code yX8_clear cX8_clear 1 none ∈ BG := BG_at2 105 rfl rfl
theorem wd_245 : Cond.instanceMethod yX8_clear ∈ BG := BG_at2 103 (by decide +kernel) rfl
theorem wd_246 : Cond.selects RX8 yX8_clear yX8_clear ∈ BG := BG_at2 104 (by decide +kernel) rfl
theorem okV_X8_clear : okV yX8_clear cX8_clear 1 none 0 := ⟨⟨wd_244, wd_86, by decide +kernel⟩, wd_245, wd_246⟩
theorem dX5_read_39 : decode cX5_read 39 = .ok (.iconst 0, 1) := fq_3 fk_cX5_read_2 7 rfl rfl
theorem dX5_read_40 : decode cX5_read 40 = .ok (.istore 4, 2) := fq_54 fk_cX5_read_2 8 rfl rfl rfl
theorem fk_cX5_read_4 : fq_ck cX5_read 64 [14, 42, 45, 182, 0, 44, 132, 4, 1, 167, 255, 225, 177] := fq_of fW_cX5_read 4 rfl rfl
theorem dX5_read_76 : decode cX5_read 76 = .ok (.return_, 1) := fq_177 fk_cX5_read_4 12 rfl rfl
theorem dX5_read_42 : decode cX5_read 42 = .ok (.iload 4, 2) := fq_21 fk_cX5_read_2 10 rfl rfl rfl
theorem dX5_read_44 : decode cX5_read 44 = .ok (.sipush 240, 3) := fq_17 fk_cX5_read_2 12 rfl rfl rfl rfl rfl
theorem dX5_read_47 : decode cX5_read 47 = .ok (.if_icmp .ge 29, 3) := fq_162 fk_cX5_read_2 15 rfl rfl rfl rfl rfl
theorem fk_cX5_read_3 : fq_ck cX5_read 48 [0, 29, 42, 180, 0, 9, 154, 0, 22, 42, 182, 0, 40, 2, 159, 0, 14, 42] := fq_of fW_cX5_read 3 rfl rfl
theorem dX5_read_50 : decode cX5_read 50 = .ok (.aload_n 0, 1) := fq_42 fk_cX5_read_3 2 rfl rfl
theorem dX5_read_51 : decode cX5_read 51 = .ok (.getfield 9, 3) := fq_180 fk_cX5_read_3 3 rfl rfl rfl rfl rfl
theorem dX5_read_54 : decode cX5_read 54 = .ok (.ifCond .ne 22, 3) := fq_154 fk_cX5_read_3 6 rfl rfl rfl rfl rfl
theorem dX5_read_57 : decode cX5_read 57 = .ok (.aload_n 0, 1) := fq_42 fk_cX5_read_3 9 rfl rfl
theorem dX5_read_58 : decode cX5_read 58 = .ok (.invokevirtual 40, 3) := fq_182 fk_cX5_read_3 10 rfl rfl rfl rfl rfl
theorem dX5_read_61 : decode cX5_read 61 = .ok (.iconst (-1), 1) := fq_2 fk_cX5_read_3 13 rfl rfl
theorem dX5_read_62 : decode cX5_read 62 = .ok (.if_icmp .eq 14, 3) := fq_159 fk_cX5_read_3 14 rfl rfl rfl rfl rfl
theorem dX5_read_65 : decode cX5_read 65 = .ok (.aload_n 0, 1) := fq_42 fk_cX5_read_4 1 rfl rfl
theorem dX5_read_66 : decode cX5_read 66 = .ok (.aload_n 3, 1) := fq_45 fk_cX5_read_4 2 rfl rfl
theorem dX5_read_67 : decode cX5_read 67 = .ok (.invokevirtual 44, 3) := fq_182 fk_cX5_read_4 3 rfl rfl rfl rfl rfl
theorem wd_247 : Cond.methodLink RX5 44 yX5_readClause ∈ BG := BG_at2 114 (by decide +kernel) rfl
theorem wd_248 : Cond.code yX5_readClause cX5_readClause 4 none ∈ BG := BG_at2 117 rfl rfl
theorem wd_249 : Cond.instanceMethod yX5_readClause ∈ BG := BG_at2 116 (by decide +kernel) rfl
theorem wd_250 : Cond.selects RX5 yX5_readClause yX5_readClause ∈ BG := BG_in (by decide +kernel) rfl
theorem okV_X5_readClause : okV yX5_readClause cX5_readClause 4 none 1 := ⟨⟨wd_248, wd_80, by decide +kernel⟩, wd_249, wd_250⟩
theorem dX5_read_70 : decode cX5_read 70 = .ok (.iinc 4 1, 3) := fq_132 fk_cX5_read_4 6 rfl rfl rfl rfl rfl
theorem dX5_read_73 : decode cX5_read 73 = .ok (.goto (-31), 3) := fq_167 fk_cX5_read_4 9 rfl rfl rfl rfl rfl
theorem rc_b (r0 : Int32) (r1 : Int32) (r3 : Int32) (r4 : Int32) (r5 : Int32) (r6 : Int32) (ftx : Nat → Int32) (t0 : Int32) (t1 : Int32) (t2 : Int32) (t3 : Int32) (t4 : Int32) (fta : Nat → Int32) (ftb : Nat → Int32) (ftc : Nat → Int32) (ftd : Nat → Int32) (fte : Nat → Int32) (h01 : r6 = 0 ∨ r6 = 1) : (f_e_readClause_x5 r0 r1 r3 r4 r5 r6 ftx t0 t1 t2 t3 t4 fta ftb ftc ftd fte).2.2.2.2.1 = 0 ∨ (f_e_readClause_x5 r0 r1 r3 r4 r5 r6 ftx t0 t1 t2 t3 t4 fta ftb ftc ftd fte).2.2.2.2.1 = 1 := by
  unfold f_e_readClause_x5
  repeat' split
  all_goals first | exact h01 | exact Or.inr rfl
noncomputable def f_e_read_x5_42 (r0 : Int32) (r1 : Int32) (r3 : Int32) (r4 : Int32) (r5 : Int32) (r6 : Int32) (ftx : Nat → Int32) (t0 : Int32) (t1 : Int32) (t2 : Int32) (t3 : Int32) (t4 : Int32) (fta : Nat → Int32) (ftb : Nat → Int32) (ftc : Nat → Int32) (ftd : Nat → Int32) (fte : Nat → Int32) (l_ : Int32) (n : Nat) : Int32 → Int32 → Int32 → Int32 → Int32 → Int32 → Int32 → Int32 → Int32 → Int32 → Int32 → Int32 → (Nat → Int32) → (Nat → Int32) → (Nat → Int32) → (Nat → Int32) → (Nat → Int32) → Int32 × Int32 × Int32 × Int32 × Int32 × Int32 × Int32 × Int32 × Int32 × Int32 × Int32 × Int32 × (Nat → Int32) × (Nat → Int32) × (Nat → Int32) × (Nat → Int32) × (Nat → Int32) := Nat.rec (motive := fun _ => Int32 → Int32 → Int32 → Int32 → Int32 → Int32 → Int32 → Int32 → Int32 → Int32 → Int32 → Int32 → (Nat → Int32) → (Nat → Int32) → (Nat → Int32) → (Nat → Int32) → (Nat → Int32) → Int32 × Int32 × Int32 × Int32 × Int32 × Int32 × Int32 × Int32 × Int32 × Int32 × Int32 × Int32 × (Nat → Int32) × (Nat → Int32) × (Nat → Int32) × (Nat → Int32) × (Nat → Int32)) (fun w_8l4 w_8m0 w_8m1 w_8m2 w_8m3 w_8m4 w_8m5 w_8m6 w_8m7 w_8m8 w_8m9 w_8m10 w_8m11 w_8m12 w_8m13 w_8m14 w_8m15 => (w_8l4, w_8m0, w_8m1, w_8m2, w_8m3, w_8m4, w_8m5, w_8m6, w_8m7, w_8m8, w_8m9, w_8m10, w_8m11, w_8m12, w_8m13, w_8m14, w_8m15)) (fun n ih w_8l4 w_8m0 w_8m1 w_8m2 w_8m3 w_8m4 w_8m5 w_8m6 w_8m7 w_8m8 w_8m9 w_8m10 w_8m11 w_8m12 w_8m13 w_8m14 w_8m15 => (if 240 ≤ w_8l4 then (w_8l4, w_8m0, w_8m1, w_8m2, w_8m3, w_8m4, w_8m5, w_8m6, w_8m7, w_8m8, w_8m9, w_8m10, w_8m11, w_8m12, w_8m13, w_8m14, w_8m15) else (if w_8m0 = 0 then (match (f_e_next_x5 w_8m0 w_8m1 w_8m2 w_8m3 w_8m4 w_8m5 ftx) with | (r_12, u_11) => (if r_12 = (-1) then (w_8l4, w_8m0, w_8m1, w_8m2, u_11, w_8m4, w_8m5, w_8m6, w_8m7, w_8m8, w_8m9, w_8m10, w_8m11, w_8m12, w_8m13, w_8m14, w_8m15) else (match (f_e_readClause_x5 w_8m0 w_8m1 w_8m2 u_11 w_8m4 w_8m5 ftx w_8m6 w_8m7 w_8m8 w_8m9 w_8m10 w_8m11 w_8m12 w_8m13 w_8m14 w_8m15) with | (o_16, o_17, o_18, o_19, o_20, o_21, o_22, o_23, o_24, o_25, o_26, o_27, o_28, o_29, o_30) => (ih (w_8l4 + 1) o_16 o_17 w_8m2 o_18 o_19 o_20 o_21 o_22 o_23 o_24 o_25 o_26 o_27 o_28 o_29 o_30)))) else (w_8l4, w_8m0, w_8m1, w_8m2, w_8m3, w_8m4, w_8m5, w_8m6, w_8m7, w_8m8, w_8m9, w_8m10, w_8m11, w_8m12, w_8m13, w_8m14, w_8m15)))) n
theorem f_e_read_x5_42_s (r0 : Int32) (r1 : Int32) (r3 : Int32) (r4 : Int32) (r5 : Int32) (r6 : Int32) (ftx : Nat → Int32) (t0 : Int32) (t1 : Int32) (t2 : Int32) (t3 : Int32) (t4 : Int32) (fta : Nat → Int32) (ftb : Nat → Int32) (ftc : Nat → Int32) (ftd : Nat → Int32) (fte : Nat → Int32) (l_ : Int32) (n : Nat) (w_8l4 : Int32) (w_8m0 : Int32) (w_8m1 : Int32) (w_8m2 : Int32) (w_8m3 : Int32) (w_8m4 : Int32) (w_8m5 : Int32) (w_8m6 : Int32) (w_8m7 : Int32) (w_8m8 : Int32) (w_8m9 : Int32) (w_8m10 : Int32) (w_8m11 : (Nat → Int32)) (w_8m12 : (Nat → Int32)) (w_8m13 : (Nat → Int32)) (w_8m14 : (Nat → Int32)) (w_8m15 : (Nat → Int32)) : f_e_read_x5_42 r0 r1 r3 r4 r5 r6 ftx t0 t1 t2 t3 t4 fta ftb ftc ftd fte l_ (n + 1) w_8l4 w_8m0 w_8m1 w_8m2 w_8m3 w_8m4 w_8m5 w_8m6 w_8m7 w_8m8 w_8m9 w_8m10 w_8m11 w_8m12 w_8m13 w_8m14 w_8m15 = (if 240 ≤ w_8l4 then (w_8l4, w_8m0, w_8m1, w_8m2, w_8m3, w_8m4, w_8m5, w_8m6, w_8m7, w_8m8, w_8m9, w_8m10, w_8m11, w_8m12, w_8m13, w_8m14, w_8m15) else (if w_8m0 = 0 then (match (f_e_next_x5 w_8m0 w_8m1 w_8m2 w_8m3 w_8m4 w_8m5 ftx) with | (r_12, u_11) => (if r_12 = (-1) then (w_8l4, w_8m0, w_8m1, w_8m2, u_11, w_8m4, w_8m5, w_8m6, w_8m7, w_8m8, w_8m9, w_8m10, w_8m11, w_8m12, w_8m13, w_8m14, w_8m15) else (match (f_e_readClause_x5 w_8m0 w_8m1 w_8m2 u_11 w_8m4 w_8m5 ftx w_8m6 w_8m7 w_8m8 w_8m9 w_8m10 w_8m11 w_8m12 w_8m13 w_8m14 w_8m15) with | (o_16, o_17, o_18, o_19, o_20, o_21, o_22, o_23, o_24, o_25, o_26, o_27, o_28, o_29, o_30) => (f_e_read_x5_42 r0 r1 r3 r4 r5 r6 ftx t0 t1 t2 t3 t4 fta ftb ftc ftd fte l_ n (w_8l4 + 1) o_16 o_17 w_8m2 o_18 o_19 o_20 o_21 o_22 o_23 o_24 o_25 o_26 o_27 o_28 o_29 o_30)))) else (w_8l4, w_8m0, w_8m1, w_8m2, w_8m3, w_8m4, w_8m5, w_8m6, w_8m7, w_8m8, w_8m9, w_8m10, w_8m11, w_8m12, w_8m13, w_8m14, w_8m15))) := rfl
noncomputable def f_e_read_x5 (r0 : Int32) (r1 : Int32) (r3 : Int32) (r4 : Int32) (r5 : Int32) (r6 : Int32) (ftx : Nat → Int32) (t0 : Int32) (t1 : Int32) (t2 : Int32) (t3 : Int32) (t4 : Int32) (fta : Nat → Int32) (ftb : Nat → Int32) (ftc : Nat → Int32) (ftd : Nat → Int32) (fte : Nat → Int32) (l_ : Int32) : Int32 × Int32 × Int32 × Int32 × Int32 × Int32 × Int32 × Int32 × Int32 × Int32 × Int32 × (Nat → Int32) × (Nat → Int32) × (Nat → Int32) × (Nat → Int32) × (Nat → Int32) := (match (f_e_clear_x8 t0 t1 t2 t3 t4) with | (o_3, o_4, o_5, o_6, o_7) => (match (f_e_read_x5_42 r0 r1 r3 r4 r5 r6 ftx t0 t1 t2 t3 t4 fta ftb ftc ftd fte l_ (((240 : Int32).toInt - (0 : Int32).toInt).toNat + 1) 0 0 (-1) l_ 0 0 0 o_3 o_4 o_5 o_6 o_7 fta ftb ftc ftd fte) with | (w_8l4, w_8m0, w_8m1, w_8m2, w_8m3, w_8m4, w_8m5, w_8m6, w_8m7, w_8m8, w_8m9, w_8m10, w_8m11, w_8m12, w_8m13, w_8m14, w_8m15) => (w_8m0, w_8m1, w_8m2, w_8m3, w_8m4, w_8m5, w_8m6, w_8m7, w_8m8, w_8m9, w_8m10, w_8m11, w_8m12, w_8m13, w_8m14, w_8m15)))
def rm_e_read_x5 : Room := { frames := 5, cells := 0, slots := 0, locals := 112 }
set_option maxHeartbeats 4000000 in
set_option maxRecDepth 100000 in
theorem e_read_x5 {l : Launch} {D : va_G} {cI cZ : ClassId} {sz : Nat} (rd u0 x t ta tb tc td te : Nat) (r0 : Int32) (r1 : Int32) (r3 : Int32) (r4 : Int32) (r5 : Int32) (r6 : Int32) (ftx : Nat → Int32) (t0 : Int32) (t1 : Int32) (t2 : Int32) (t3 : Int32) (t4 : Int32) (fta : Nat → Int32) (ftb : Nat → Int32) (ftc : Nat → Int32) (ftd : Nat → Int32) (fte : Nat → Int32) (l_ : Int32) : KV l yX5_read cX5_read 5 rm_e_read_x5 D cI cZ [.ref rd, .ref x, .int l_, .ref t] sz [(rd, .inr (5, [.int r0, .int r1, .ref u0, .int r3, .int r4, .int r5, .int r6])), (x, .inl (cI, 240, .inl ftx)), (t, .inr (8, [.int t0, .int t1, .int t2, .int t3, .int t4, .ref ta, .ref tb, .ref tc, .ref td, .ref te])), (ta, .inl (cI, 6, .inl fta)), (tb, .inl (cI, 6, .inl ftb)), (tc, .inl (cI, 30, .inl ftc)), (td, .inl (cI, 7, .inl ftd)), (te, .inl (cI, 7, .inl fte))] (fun (u : Int32 × Int32 × Int32 × Int32 × Int32 × Int32 × Int32 × Int32 × Int32 × Int32 × Int32 × (Nat → Int32) × (Nat → Int32) × (Nat → Int32) × (Nat → Int32) × (Nat → Int32)) => u = f_e_read_x5 r0 r1 r3 r4 r5 r6 ftx t0 t1 t2 t3 t4 fta ftb ftc ftd fte l_) (fun (u : Int32 × Int32 × Int32 × Int32 × Int32 × Int32 × Int32 × Int32 × Int32 × Int32 × Int32 × (Nat → Int32) × (Nat → Int32) × (Nat → Int32) × (Nat → Int32) × (Nat → Int32)) => [(rd, .inr (5, [.int (u.1), .int (u.2.1), .ref x, .int (u.2.2.1), .int (u.2.2.2.1), .int (u.2.2.2.2.1), .int (u.2.2.2.2.2.1)])), (x, .inl (cI, 240, .inl ftx)), (t, .inr (8, [.int (u.2.2.2.2.2.2.1), .int (u.2.2.2.2.2.2.2.1), .int (u.2.2.2.2.2.2.2.2.1), .int (u.2.2.2.2.2.2.2.2.2.1), .int (u.2.2.2.2.2.2.2.2.2.2.1), .ref ta, .ref tb, .ref tc, .ref td, .ref te])), (ta, .inl (cI, 6, .inl u.2.2.2.2.2.2.2.2.2.2.2.1)), (tb, .inl (cI, 6, .inl u.2.2.2.2.2.2.2.2.2.2.2.2.1)), (tc, .inl (cI, 30, .inl u.2.2.2.2.2.2.2.2.2.2.2.2.2.1)), (td, .inl (cI, 7, .inl u.2.2.2.2.2.2.2.2.2.2.2.2.2.2.1)), (te, .inl (cI, 7, .inl u.2.2.2.2.2.2.2.2.2.2.2.2.2.2.2))]) := by
  refine KV.go rfl (Nat.le_of_ble_eq_true rfl) ?_
  intro p e s m args below meth c ls A Q hx hb hml hts hown hin hP hK hD hS hA hN hl hret
  have hl : lv_has ls 5 [(0, .ref rd), (1, .ref x), (2, .int l_), (3, .ref t)] := hl
  obtain ⟨RES, hE⟩ : ∃ xRES, f_e_read_x5 r0 r1 r3 r4 r5 r6 ftx t0 t1 t2 t3 t4 fta ftb ftc ftd fte l_ = xRES := ⟨_, rfl⟩
  rw [hE] at hret
  rw [f_e_read_x5] at hE
  refine lv_aload_n hx hb dX5_read_0 rfl (lv_at hl 0 rfl) ?_
  refine lv_aload_n hx hb dX5_read_1 rfl (lv_at hl 1 rfl) ?_
  refine va_put (D := D) (ci := 5) (v := .ref x) (ty := (.array .int)) (C := RX5) (T := TX5) (N := 7) hx hb hts iX5 tyX5 tyX5_ok nmX5 hown hK hP hD hS 0 rfl rfl 2 (Nat.le_of_ble_eq_true rfl) (hts _ wd_44) (fun _ h9 => h9) rfl (by decide +kernel) rfl rfl (Nat.le_of_ble_eq_true rfl) dX5_read_2 (fun H locs hP hD hS => ?_)
  have hP : va_P D classes [(rd, .inr (5, [.int r0, .int r1, .ref x, .int r3, .int r4, .int r5, .int r6])), (x, .inl (cI, 240, .inl ftx)), (t, .inr (8, [.int t0, .int t1, .int t2, .int t3, .int t4, .ref ta, .ref tb, .ref tc, .ref td, .ref te])), (ta, .inl (cI, 6, .inl fta)), (tb, .inl (cI, 6, .inl ftb)), (tc, .inl (cI, 30, .inl ftc)), (td, .inl (cI, 7, .inl ftd)), (te, .inl (cI, 7, .inl fte))] H := hP
  have hD : va_D A [(rd, .inr (5, [.int r0, .int r1, .ref x, .int r3, .int r4, .int r5, .int r6])), (x, .inl (cI, 240, .inl ftx)), (t, .inr (8, [.int t0, .int t1, .int t2, .int t3, .int t4, .ref ta, .ref tb, .ref tc, .ref td, .ref te])), (ta, .inl (cI, 6, .inl fta)), (tb, .inl (cI, 6, .inl ftb)), (tc, .inl (cI, 30, .inl ftc)), (td, .inl (cI, 7, .inl ftd)), (te, .inl (cI, 7, .inl fte))] := hD
  refine lv_aload_n hx hb dX5_read_5 rfl (lv_at hl 0 rfl) ?_
  refine lv_iload_n hx hb dX5_read_6 rfl (lv_at hl 2 rfl) ?_
  refine va_put (D := D) (ci := 5) (v := .int l_) (ty := .int) (C := RX5) (T := TX5) (N := 7) hx hb hts iX5 tyX5 tyX5_ok nmX5 hown hK hP hD hS 0 rfl rfl 3 (Nat.le_of_ble_eq_true rfl) (hts _ wd_45) (fun _ h9 => h9) rfl (by decide +kernel) rfl rfl (Nat.le_of_ble_eq_true rfl) dX5_read_7 (fun H locs hP hD hS => ?_)
  have hP : va_P D classes [(rd, .inr (5, [.int r0, .int r1, .ref x, .int l_, .int r4, .int r5, .int r6])), (x, .inl (cI, 240, .inl ftx)), (t, .inr (8, [.int t0, .int t1, .int t2, .int t3, .int t4, .ref ta, .ref tb, .ref tc, .ref td, .ref te])), (ta, .inl (cI, 6, .inl fta)), (tb, .inl (cI, 6, .inl ftb)), (tc, .inl (cI, 30, .inl ftc)), (td, .inl (cI, 7, .inl ftd)), (te, .inl (cI, 7, .inl fte))] H := hP
  have hD : va_D A [(rd, .inr (5, [.int r0, .int r1, .ref x, .int l_, .int r4, .int r5, .int r6])), (x, .inl (cI, 240, .inl ftx)), (t, .inr (8, [.int t0, .int t1, .int t2, .int t3, .int t4, .ref ta, .ref tb, .ref tc, .ref td, .ref te])), (ta, .inl (cI, 6, .inl fta)), (tb, .inl (cI, 6, .inl ftb)), (tc, .inl (cI, 30, .inl ftc)), (td, .inl (cI, 7, .inl ftd)), (te, .inl (cI, 7, .inl fte))] := hD
  refine lv_aload_n hx hb dX5_read_10 rfl (lv_at hl 0 rfl) ?_
  refine lv_iconst (v := 0) hx hb dX5_read_11 rfl ?_
  refine va_put (D := D) (ci := 5) (v := .int 0) (ty := .int) (C := RX5) (T := TX5) (N := 7) hx hb hts iX5 tyX5 tyX5_ok nmX5 hown hK hP hD hS 0 rfl rfl 4 (Nat.le_of_ble_eq_true rfl) (hts _ wd_46) (fun _ h9 => h9) rfl (by decide +kernel) rfl rfl (Nat.le_of_ble_eq_true rfl) dX5_read_12 (fun H locs hP hD hS => ?_)
  have hP : va_P D classes [(rd, .inr (5, [.int r0, .int r1, .ref x, .int l_, .int 0, .int r5, .int r6])), (x, .inl (cI, 240, .inl ftx)), (t, .inr (8, [.int t0, .int t1, .int t2, .int t3, .int t4, .ref ta, .ref tb, .ref tc, .ref td, .ref te])), (ta, .inl (cI, 6, .inl fta)), (tb, .inl (cI, 6, .inl ftb)), (tc, .inl (cI, 30, .inl ftc)), (td, .inl (cI, 7, .inl ftd)), (te, .inl (cI, 7, .inl fte))] H := hP
  have hD : va_D A [(rd, .inr (5, [.int r0, .int r1, .ref x, .int l_, .int 0, .int r5, .int r6])), (x, .inl (cI, 240, .inl ftx)), (t, .inr (8, [.int t0, .int t1, .int t2, .int t3, .int t4, .ref ta, .ref tb, .ref tc, .ref td, .ref te])), (ta, .inl (cI, 6, .inl fta)), (tb, .inl (cI, 6, .inl ftb)), (tc, .inl (cI, 30, .inl ftc)), (td, .inl (cI, 7, .inl ftd)), (te, .inl (cI, 7, .inl fte))] := hD
  refine lv_aload_n hx hb dX5_read_15 rfl (lv_at hl 0 rfl) ?_
  refine lv_iconst (v := 0) hx hb dX5_read_16 rfl ?_
  refine va_put (D := D) (ci := 5) (v := .int 0) (ty := .int) (C := RX5) (T := TX5) (N := 7) hx hb hts iX5 tyX5 tyX5_ok nmX5 hown hK hP hD hS 0 rfl rfl 0 (Nat.le_of_ble_eq_true rfl) (hts _ wd_42) (fun _ h9 => h9) rfl (by decide +kernel) rfl rfl (Nat.le_of_ble_eq_true rfl) dX5_read_17 (fun H locs hP hD hS => ?_)
  have hP : va_P D classes [(rd, .inr (5, [.int 0, .int r1, .ref x, .int l_, .int 0, .int r5, .int r6])), (x, .inl (cI, 240, .inl ftx)), (t, .inr (8, [.int t0, .int t1, .int t2, .int t3, .int t4, .ref ta, .ref tb, .ref tc, .ref td, .ref te])), (ta, .inl (cI, 6, .inl fta)), (tb, .inl (cI, 6, .inl ftb)), (tc, .inl (cI, 30, .inl ftc)), (td, .inl (cI, 7, .inl ftd)), (te, .inl (cI, 7, .inl fte))] H := hP
  have hD : va_D A [(rd, .inr (5, [.int 0, .int r1, .ref x, .int l_, .int 0, .int r5, .int r6])), (x, .inl (cI, 240, .inl ftx)), (t, .inr (8, [.int t0, .int t1, .int t2, .int t3, .int t4, .ref ta, .ref tb, .ref tc, .ref td, .ref te])), (ta, .inl (cI, 6, .inl fta)), (tb, .inl (cI, 6, .inl ftb)), (tc, .inl (cI, 30, .inl ftc)), (td, .inl (cI, 7, .inl ftd)), (te, .inl (cI, 7, .inl fte))] := hD
  refine lv_aload_n hx hb dX5_read_20 rfl (lv_at hl 0 rfl) ?_
  refine lv_iconst (v := (-1)) hx hb dX5_read_21 rfl ?_
  refine va_put (D := D) (ci := 5) (v := .int (-1)) (ty := .int) (C := RX5) (T := TX5) (N := 7) hx hb hts iX5 tyX5 tyX5_ok nmX5 hown hK hP hD hS 0 rfl rfl 1 (Nat.le_of_ble_eq_true rfl) (hts _ wd_43) (fun _ h9 => h9) rfl (by decide +kernel) rfl rfl (Nat.le_of_ble_eq_true rfl) dX5_read_22 (fun H locs hP hD hS => ?_)
  have hP : va_P D classes [(rd, .inr (5, [.int 0, .int (-1), .ref x, .int l_, .int 0, .int r5, .int r6])), (x, .inl (cI, 240, .inl ftx)), (t, .inr (8, [.int t0, .int t1, .int t2, .int t3, .int t4, .ref ta, .ref tb, .ref tc, .ref td, .ref te])), (ta, .inl (cI, 6, .inl fta)), (tb, .inl (cI, 6, .inl ftb)), (tc, .inl (cI, 30, .inl ftc)), (td, .inl (cI, 7, .inl ftd)), (te, .inl (cI, 7, .inl fte))] H := hP
  have hD : va_D A [(rd, .inr (5, [.int 0, .int (-1), .ref x, .int l_, .int 0, .int r5, .int r6])), (x, .inl (cI, 240, .inl ftx)), (t, .inr (8, [.int t0, .int t1, .int t2, .int t3, .int t4, .ref ta, .ref tb, .ref tc, .ref td, .ref te])), (ta, .inl (cI, 6, .inl fta)), (tb, .inl (cI, 6, .inl ftb)), (tc, .inl (cI, 30, .inl ftc)), (td, .inl (cI, 7, .inl ftd)), (te, .inl (cI, 7, .inl fte))] := hD
  refine lv_aload_n hx hb dX5_read_25 rfl (lv_at hl 0 rfl) ?_
  refine lv_iconst (v := 0) hx hb dX5_read_26 rfl ?_
  refine va_put (D := D) (ci := 5) (v := .int 0) (ty := .boolean) (C := RX5) (T := TX5) (N := 7) hx hb hts iX5 tyX5 tyX5_ok nmX5 hown hK hP hD hS 0 rfl rfl 5 (Nat.le_of_ble_eq_true rfl) (hts _ wd_47) (fun _ h9 => h9) rfl (by decide +kernel) rfl rfl (Nat.le_of_ble_eq_true rfl) dX5_read_27 (fun H locs hP hD hS => ?_)
  have hP : va_P D classes [(rd, .inr (5, [.int 0, .int (-1), .ref x, .int l_, .int 0, .int 0, .int r6])), (x, .inl (cI, 240, .inl ftx)), (t, .inr (8, [.int t0, .int t1, .int t2, .int t3, .int t4, .ref ta, .ref tb, .ref tc, .ref td, .ref te])), (ta, .inl (cI, 6, .inl fta)), (tb, .inl (cI, 6, .inl ftb)), (tc, .inl (cI, 30, .inl ftc)), (td, .inl (cI, 7, .inl ftd)), (te, .inl (cI, 7, .inl fte))] H := hP
  have hD : va_D A [(rd, .inr (5, [.int 0, .int (-1), .ref x, .int l_, .int 0, .int 0, .int r6])), (x, .inl (cI, 240, .inl ftx)), (t, .inr (8, [.int t0, .int t1, .int t2, .int t3, .int t4, .ref ta, .ref tb, .ref tc, .ref td, .ref te])), (ta, .inl (cI, 6, .inl fta)), (tb, .inl (cI, 6, .inl ftb)), (tc, .inl (cI, 30, .inl ftc)), (td, .inl (cI, 7, .inl ftd)), (te, .inl (cI, 7, .inl fte))] := hD
  refine lv_aload_n hx hb dX5_read_30 rfl (lv_at hl 0 rfl) ?_
  refine lv_iconst (v := 0) hx hb dX5_read_31 rfl ?_
  refine va_put (D := D) (ci := 5) (v := .int 0) (ty := .boolean) (C := RX5) (T := TX5) (N := 7) hx hb hts iX5 tyX5 tyX5_ok nmX5 hown hK hP hD hS 0 rfl rfl 6 (Nat.le_of_ble_eq_true rfl) (hts _ wd_48) (fun _ h9 => h9) rfl (by decide +kernel) rfl rfl (Nat.le_of_ble_eq_true rfl) dX5_read_32 (fun H locs hP hD hS => ?_)
  have hP : va_P D classes [(rd, .inr (5, [.int 0, .int (-1), .ref x, .int l_, .int 0, .int 0, .int 0])), (x, .inl (cI, 240, .inl ftx)), (t, .inr (8, [.int t0, .int t1, .int t2, .int t3, .int t4, .ref ta, .ref tb, .ref tc, .ref td, .ref te])), (ta, .inl (cI, 6, .inl fta)), (tb, .inl (cI, 6, .inl ftb)), (tc, .inl (cI, 30, .inl ftc)), (td, .inl (cI, 7, .inl ftd)), (te, .inl (cI, 7, .inl fte))] H := hP
  have hD : va_D A [(rd, .inr (5, [.int 0, .int (-1), .ref x, .int l_, .int 0, .int 0, .int 0])), (x, .inl (cI, 240, .inl ftx)), (t, .inr (8, [.int t0, .int t1, .int t2, .int t3, .int t4, .ref ta, .ref tb, .ref tc, .ref td, .ref te])), (ta, .inl (cI, 6, .inl fta)), (tb, .inl (cI, 6, .inl ftb)), (tc, .inl (cI, 30, .inl ftc)), (td, .inl (cI, 7, .inl ftd)), (te, .inl (cI, 7, .inl fte))] := hD
  refine lv_aload_n hx hb dX5_read_35 rfl (lv_at hl 3 rfl) ?_
  refine cVv (wr := [(rd, .inr (5, [.int 0, .int (-1), .ref x, .int l_, .int 0, .int 0, .int 0])), (x, .inl (cI, 240, .inl ftx)), (ta, .inl (cI, 6, .inl fta)), (tb, .inl (cI, 6, .inl ftb)), (tc, .inl (cI, 30, .inl ftc)), (td, .inl (cI, 7, .inl ftd)), (te, .inl (cI, 7, .inl fte))]) (rest := []) (e_clear_x8 t ta tb tc td te t0 t1 t2 t3 t4) okV_X8_clear wd_243 hx hb hml hown hts hK hP hD hS hA hN hl.1 [2] [0, 1, 3, 4, 5, 6, 7] rfl rfl rfl rfl (of_decide_eq_true rfl) rfl rfl rfl (Nat.le_of_ble_eq_true rfl) (Nat.le_of_ble_eq_true rfl) (Nat.le_of_ble_eq_true rfl) (Nat.le_of_ble_eq_true rfl) (Nat.le_of_ble_eq_true rfl) dX5_read_36 (fun u_1 H locs hw_u_1 hP hD hS => ?_)
  obtain ⟨o_3, o_4, o_5, o_6, o_7⟩ := u_1
  replace hw_u_1 : (o_3, o_4, o_5, o_6, o_7) = (f_e_clear_x8 t0 t1 t2 t3 t4) := hw_u_1
  rw [← hw_u_1] at hE
  replace hE : (match (f_e_read_x5_42 r0 r1 r3 r4 r5 r6 ftx t0 t1 t2 t3 t4 fta ftb ftc ftd fte l_ (((240 : Int32).toInt - (0 : Int32).toInt).toNat + 1) 0 0 (-1) l_ 0 0 0 o_3 o_4 o_5 o_6 o_7 fta ftb ftc ftd fte) with | (w_8l4, w_8m0, w_8m1, w_8m2, w_8m3, w_8m4, w_8m5, w_8m6, w_8m7, w_8m8, w_8m9, w_8m10, w_8m11, w_8m12, w_8m13, w_8m14, w_8m15) => (w_8m0, w_8m1, w_8m2, w_8m3, w_8m4, w_8m5, w_8m6, w_8m7, w_8m8, w_8m9, w_8m10, w_8m11, w_8m12, w_8m13, w_8m14, w_8m15)) = RES := hE
  have hP : va_P D classes [(rd, .inr (5, [.int 0, .int (-1), .ref x, .int l_, .int 0, .int 0, .int 0])), (x, .inl (cI, 240, .inl ftx)), (ta, .inl (cI, 6, .inl fta)), (tb, .inl (cI, 6, .inl ftb)), (tc, .inl (cI, 30, .inl ftc)), (td, .inl (cI, 7, .inl ftd)), (te, .inl (cI, 7, .inl fte)), (t, .inr (8, [.int o_3, .int o_4, .int o_5, .int o_6, .int o_7, .ref ta, .ref tb, .ref tc, .ref td, .ref te]))] H := hP
  have hD : va_D A [(rd, .inr (5, [.int 0, .int (-1), .ref x, .int l_, .int 0, .int 0, .int 0])), (x, .inl (cI, 240, .inl ftx)), (ta, .inl (cI, 6, .inl fta)), (tb, .inl (cI, 6, .inl ftb)), (tc, .inl (cI, 30, .inl ftc)), (td, .inl (cI, 7, .inl ftd)), (te, .inl (cI, 7, .inl fte)), (t, .inr (8, [.int o_3, .int o_4, .int o_5, .int o_6, .int o_7, .ref ta, .ref tb, .ref tc, .ref td, .ref te]))] := hD
  refine lv_iconst (v := 0) hx hb dX5_read_39 rfl ?_
  refine lv_istore (lv' := [(4, .int 0), (0, .ref rd), (1, .ref x), (2, .int l_), (3, .ref t)]) hx hb dX5_read_40 hl (Nat.le_of_ble_eq_true rfl) rfl (fun ls hl => ?_)
  have ex_42_w_8 : ∀ (w_8l4 : Int32) (w_8m0 : Int32) (w_8m1 : Int32) (w_8m2 : Int32) (w_8m3 : Int32) (w_8m4 : Int32) (w_8m5 : Int32) (w_8m6 : Int32) (w_8m7 : Int32) (w_8m8 : Int32) (w_8m9 : Int32) (w_8m10 : Int32) (w_8m11 : (Nat → Int32)) (w_8m12 : (Nat → Int32)) (w_8m13 : (Nat → Int32)) (w_8m14 : (Nat → Int32)) (w_8m15 : (Nat → Int32)) (H : Heap) (locs : List Loc) (ls : Array Slot), va_P D classes [(rd, .inr (5, [.int w_8m0, .int w_8m1, .ref x, .int w_8m2, .int w_8m3, .int w_8m4, .int w_8m5])), (x, .inl (cI, 240, .inl ftx)), (ta, .inl (cI, 6, .inl w_8m11)), (tb, .inl (cI, 6, .inl w_8m12)), (tc, .inl (cI, 30, .inl w_8m13)), (td, .inl (cI, 7, .inl w_8m14)), (te, .inl (cI, 7, .inl w_8m15)), (t, .inr (8, [.int w_8m6, .int w_8m7, .int w_8m8, .int w_8m9, .int w_8m10, .ref ta, .ref tb, .ref tc, .ref td, .ref te]))] H → va_D A [(rd, .inr (5, [.int w_8m0, .int w_8m1, .ref x, .int w_8m2, .int w_8m3, .int w_8m4, .int w_8m5])), (x, .inl (cI, 240, .inl ftx)), (ta, .inl (cI, 6, .inl w_8m11)), (tb, .inl (cI, 6, .inl w_8m12)), (tc, .inl (cI, 30, .inl w_8m13)), (td, .inl (cI, 7, .inl w_8m14)), (te, .inl (cI, 7, .inl w_8m15)), (t, .inr (8, [.int w_8m6, .int w_8m7, .int w_8m8, .int w_8m9, .int w_8m10, .ref ta, .ref tb, .ref tc, .ref td, .ref te]))] → va_S A s.heap H locs → lv_has ls 5 [(4, .int w_8l4), (0, .ref rd), (1, .ref x), (2, .int l_), (3, .ref t)] → (w_8m5 = 0 ∨ w_8m5 = 1) → ((w_8m0, w_8m1, w_8m2, w_8m3, w_8m4, w_8m5, w_8m6, w_8m7, w_8m8, w_8m9, w_8m10, w_8m11, w_8m12, w_8m13, w_8m14, w_8m15)) = RES → W p l e rm_e_read_x5 s m args below meth c H locs 0 0 Q (F0 m 76 ls []) := by
    intro w_8l4 w_8m0 w_8m1 w_8m2 w_8m3 w_8m4 w_8m5 w_8m6 w_8m7 w_8m8 w_8m9 w_8m10 w_8m11 w_8m12 w_8m13 w_8m14 w_8m15 H locs ls hP hD hS hl hI hE
    exact hret (w_8m0, w_8m1, w_8m2, w_8m3, w_8m4, w_8m5, w_8m6, w_8m7, w_8m8, w_8m9, w_8m10, w_8m11, w_8m12, w_8m13, w_8m14, w_8m15) _ _ _ _ dX5_read_76 hE (cutP (isC := [0, 1, 7, 2, 3, 4, 5, 6]) hP rfl) (cutD (isC := [0, 1, 7, 2, 3, 4, 5, 6]) hD rfl rfl) hS
  have lp_42_w_8 : ∀ (n_w_8 : Nat) (w_8l4 : Int32) (w_8m0 : Int32) (w_8m1 : Int32) (w_8m2 : Int32) (w_8m3 : Int32) (w_8m4 : Int32) (w_8m5 : Int32) (w_8m6 : Int32) (w_8m7 : Int32) (w_8m8 : Int32) (w_8m9 : Int32) (w_8m10 : Int32) (w_8m11 : (Nat → Int32)) (w_8m12 : (Nat → Int32)) (w_8m13 : (Nat → Int32)) (w_8m14 : (Nat → Int32)) (w_8m15 : (Nat → Int32)) (H : Heap) (locs : List Loc) (ls : Array Slot), va_P D classes [(rd, .inr (5, [.int w_8m0, .int w_8m1, .ref x, .int w_8m2, .int w_8m3, .int w_8m4, .int w_8m5])), (x, .inl (cI, 240, .inl ftx)), (ta, .inl (cI, 6, .inl w_8m11)), (tb, .inl (cI, 6, .inl w_8m12)), (tc, .inl (cI, 30, .inl w_8m13)), (td, .inl (cI, 7, .inl w_8m14)), (te, .inl (cI, 7, .inl w_8m15)), (t, .inr (8, [.int w_8m6, .int w_8m7, .int w_8m8, .int w_8m9, .int w_8m10, .ref ta, .ref tb, .ref tc, .ref td, .ref te]))] H → va_D A [(rd, .inr (5, [.int w_8m0, .int w_8m1, .ref x, .int w_8m2, .int w_8m3, .int w_8m4, .int w_8m5])), (x, .inl (cI, 240, .inl ftx)), (ta, .inl (cI, 6, .inl w_8m11)), (tb, .inl (cI, 6, .inl w_8m12)), (tc, .inl (cI, 30, .inl w_8m13)), (td, .inl (cI, 7, .inl w_8m14)), (te, .inl (cI, 7, .inl w_8m15)), (t, .inr (8, [.int w_8m6, .int w_8m7, .int w_8m8, .int w_8m9, .int w_8m10, .ref ta, .ref tb, .ref tc, .ref td, .ref te]))] → va_S A s.heap H locs → lv_has ls 5 [(4, .int w_8l4), (0, .ref rd), (1, .ref x), (2, .int l_), (3, .ref t)] → (w_8m5 = 0 ∨ w_8m5 = 1) → ((240 : Int32).toInt - (w_8l4 : Int32).toInt).toNat < n_w_8 → (match (f_e_read_x5_42 r0 r1 r3 r4 r5 r6 ftx t0 t1 t2 t3 t4 fta ftb ftc ftd fte l_ n_w_8 w_8l4 w_8m0 w_8m1 w_8m2 w_8m3 w_8m4 w_8m5 w_8m6 w_8m7 w_8m8 w_8m9 w_8m10 w_8m11 w_8m12 w_8m13 w_8m14 w_8m15) with | (w_8l4, w_8m0, w_8m1, w_8m2, w_8m3, w_8m4, w_8m5, w_8m6, w_8m7, w_8m8, w_8m9, w_8m10, w_8m11, w_8m12, w_8m13, w_8m14, w_8m15) => (w_8m0, w_8m1, w_8m2, w_8m3, w_8m4, w_8m5, w_8m6, w_8m7, w_8m8, w_8m9, w_8m10, w_8m11, w_8m12, w_8m13, w_8m14, w_8m15)) = RES → W p l e rm_e_read_x5 s m args below meth c H locs 0 0 Q (F0 m 42 ls []) := by
    intro n_w_8
    induction n_w_8 with
    | zero => intro w_8l4 w_8m0 w_8m1 w_8m2 w_8m3 w_8m4 w_8m5 w_8m6 w_8m7 w_8m8 w_8m9 w_8m10 w_8m11 w_8m12 w_8m13 w_8m14 w_8m15 H locs ls hP hD hS hl hI hm; exact absurd hm (Nat.not_lt_zero _)
    | succ n_w_8 ih_w_8 =>
      intro w_8l4 w_8m0 w_8m1 w_8m2 w_8m3 w_8m4 w_8m5 w_8m6 w_8m7 w_8m8 w_8m9 w_8m10 w_8m11 w_8m12 w_8m13 w_8m14 w_8m15 H locs ls hP hD hS hl hI hm hE
      rw [f_e_read_x5_42_s] at hE
      refine lv_iload hx hb dX5_read_42 (lv_at hl 0 rfl) ?_
      refine lv_sipush (v := 240) hx hb dX5_read_44 rfl ?_
      refine lv_icmp_ge (tgt := 76) hx hb dX5_read_47 rfl (fun c_9 => ?_) (fun c_9 => ?_)
      · rw [if_pos c_9] at hE
        exact ex_42_w_8 w_8l4 w_8m0 w_8m1 w_8m2 w_8m3 w_8m4 w_8m5 w_8m6 w_8m7 w_8m8 w_8m9 w_8m10 w_8m11 w_8m12 w_8m13 w_8m14 w_8m15 _ _ ls hP hD hS (lv_sub hl [0, 1, 2, 3, 4] rfl) hI hE
      · rw [if_neg c_9] at hE
        refine lv_aload_n hx hb dX5_read_50 rfl (lv_at hl 1 rfl) ?_
        refine va_get (D := D) (ci := 5) (v := .int w_8m0) (C := RX5) (T := TX5) (N := 7) hx hb hts iX5 hown hK hP 0 rfl rfl 0 (Nat.le_of_ble_eq_true rfl) (hts _ wd_42) (fun _ h9 => h9) rfl dX5_read_51 ?_
        refine lv_if_ne (tgt := 76) hx hb dX5_read_54 rfl (fun c_10 => ?_) (fun c_10 => ?_)
        · rw [if_neg c_10] at hE
          exact ex_42_w_8 w_8l4 w_8m0 w_8m1 w_8m2 w_8m3 w_8m4 w_8m5 w_8m6 w_8m7 w_8m8 w_8m9 w_8m10 w_8m11 w_8m12 w_8m13 w_8m14 w_8m15 _ _ ls hP hD hS (lv_sub hl [0, 1, 2, 3, 4] rfl) hI hE
        · rw [if_pos c_10] at hE
          refine lv_aload_n hx hb dX5_read_57 rfl (lv_at hl 1 rfl) ?_
          refine cVi (wr := [(ta, .inl (cI, 6, .inl w_8m11)), (tb, .inl (cI, 6, .inl w_8m12)), (tc, .inl (cI, 30, .inl w_8m13)), (td, .inl (cI, 7, .inl w_8m14)), (te, .inl (cI, 7, .inl w_8m15)), (t, .inr (8, [.int w_8m6, .int w_8m7, .int w_8m8, .int w_8m9, .int w_8m10, .ref ta, .ref tb, .ref tc, .ref td, .ref te]))]) (rest := []) (e_next_x5 rd x w_8m0 w_8m1 w_8m2 w_8m3 w_8m4 w_8m5 ftx) okV_X5_next wd_197 hx hb hml hown hts hK hP hD hS hA hN hl.1 [0, 1] [2, 3, 4, 5, 6, 7] rfl rfl rfl rfl (of_decide_eq_true rfl) rfl rfl rfl (Nat.le_of_ble_eq_true rfl) (Nat.le_of_ble_eq_true rfl) (Nat.le_of_ble_eq_true rfl) (Nat.le_of_ble_eq_true rfl) (Nat.le_of_ble_eq_true rfl) dX5_read_58 (fun r_12 u_11 H locs hw_u_11 hP hD hS => ?_)
          replace hw_u_11 : (r_12, u_11) = (f_e_next_x5 w_8m0 w_8m1 w_8m2 w_8m3 w_8m4 w_8m5 ftx) := hw_u_11
          rw [← hw_u_11] at hE
          replace hE : (match (if r_12 = (-1) then (w_8l4, w_8m0, w_8m1, w_8m2, u_11, w_8m4, w_8m5, w_8m6, w_8m7, w_8m8, w_8m9, w_8m10, w_8m11, w_8m12, w_8m13, w_8m14, w_8m15) else (match (f_e_readClause_x5 w_8m0 w_8m1 w_8m2 u_11 w_8m4 w_8m5 ftx w_8m6 w_8m7 w_8m8 w_8m9 w_8m10 w_8m11 w_8m12 w_8m13 w_8m14 w_8m15) with | (o_16, o_17, o_18, o_19, o_20, o_21, o_22, o_23, o_24, o_25, o_26, o_27, o_28, o_29, o_30) => (f_e_read_x5_42 r0 r1 r3 r4 r5 r6 ftx t0 t1 t2 t3 t4 fta ftb ftc ftd fte l_ n_w_8 (w_8l4 + 1) o_16 o_17 w_8m2 o_18 o_19 o_20 o_21 o_22 o_23 o_24 o_25 o_26 o_27 o_28 o_29 o_30))) with | (w_8l4, w_8m0, w_8m1, w_8m2, w_8m3, w_8m4, w_8m5, w_8m6, w_8m7, w_8m8, w_8m9, w_8m10, w_8m11, w_8m12, w_8m13, w_8m14, w_8m15) => (w_8m0, w_8m1, w_8m2, w_8m3, w_8m4, w_8m5, w_8m6, w_8m7, w_8m8, w_8m9, w_8m10, w_8m11, w_8m12, w_8m13, w_8m14, w_8m15)) = RES := hE
          have hP : va_P D classes [(ta, .inl (cI, 6, .inl w_8m11)), (tb, .inl (cI, 6, .inl w_8m12)), (tc, .inl (cI, 30, .inl w_8m13)), (td, .inl (cI, 7, .inl w_8m14)), (te, .inl (cI, 7, .inl w_8m15)), (t, .inr (8, [.int w_8m6, .int w_8m7, .int w_8m8, .int w_8m9, .int w_8m10, .ref ta, .ref tb, .ref tc, .ref td, .ref te])), (rd, .inr (5, [.int w_8m0, .int w_8m1, .ref x, .int w_8m2, .int u_11, .int w_8m4, .int w_8m5])), (x, .inl (cI, 240, .inl ftx))] H := hP
          have hD : va_D A [(ta, .inl (cI, 6, .inl w_8m11)), (tb, .inl (cI, 6, .inl w_8m12)), (tc, .inl (cI, 30, .inl w_8m13)), (td, .inl (cI, 7, .inl w_8m14)), (te, .inl (cI, 7, .inl w_8m15)), (t, .inr (8, [.int w_8m6, .int w_8m7, .int w_8m8, .int w_8m9, .int w_8m10, .ref ta, .ref tb, .ref tc, .ref td, .ref te])), (rd, .inr (5, [.int w_8m0, .int w_8m1, .ref x, .int w_8m2, .int u_11, .int w_8m4, .int w_8m5])), (x, .inl (cI, 240, .inl ftx))] := hD
          refine lv_iconst (v := (-1)) hx hb dX5_read_61 rfl ?_
          refine lv_icmp_eq (tgt := 76) hx hb dX5_read_62 rfl (fun c_13 => ?_) (fun c_13 => ?_)
          · rw [if_pos c_13] at hE
            subst c_13
            exact ex_42_w_8 w_8l4 w_8m0 w_8m1 w_8m2 u_11 w_8m4 w_8m5 w_8m6 w_8m7 w_8m8 w_8m9 w_8m10 w_8m11 w_8m12 w_8m13 w_8m14 w_8m15 _ _ ls (cutP (isC := [6, 7, 0, 1, 2, 3, 4, 5]) hP rfl) (cutD (isC := [6, 7, 0, 1, 2, 3, 4, 5]) hD rfl rfl) hS (lv_sub hl [0, 1, 2, 3, 4] rfl) hI hE
          · rw [if_neg c_13] at hE
            refine lv_aload_n hx hb dX5_read_65 rfl (lv_at hl 1 rfl) ?_
            refine lv_aload_n hx hb dX5_read_66 rfl (lv_at hl 4 rfl) ?_
            refine cVv (wr := []) (rest := []) (e_readClause_x5 rd x t ta tb tc td te w_8m0 w_8m1 w_8m2 u_11 w_8m4 w_8m5 ftx w_8m6 w_8m7 w_8m8 w_8m9 w_8m10 w_8m11 w_8m12 w_8m13 w_8m14 w_8m15 hI) okV_X5_readClause wd_247 hx hb hml hown hts hK hP hD hS hA hN hl.1 [6, 7, 5, 0, 1, 2, 3, 4] [] rfl rfl rfl rfl (of_decide_eq_true rfl) rfl rfl rfl (Nat.le_of_ble_eq_true rfl) (Nat.le_of_ble_eq_true rfl) (Nat.le_of_ble_eq_true rfl) (Nat.le_of_ble_eq_true rfl) (Nat.le_of_ble_eq_true rfl) dX5_read_67 (fun u_14 H locs hw_u_14 hP hD hS => ?_)
            obtain ⟨o_16, o_17, o_18, o_19, o_20, o_21, o_22, o_23, o_24, o_25, o_26, o_27, o_28, o_29, o_30⟩ := u_14
            have hb_u_14 := rc_b w_8m0 w_8m1 w_8m2 u_11 w_8m4 w_8m5 ftx w_8m6 w_8m7 w_8m8 w_8m9 w_8m10 w_8m11 w_8m12 w_8m13 w_8m14 w_8m15 hI
            rw [← show (o_16, o_17, o_18, o_19, o_20, o_21, o_22, o_23, o_24, o_25, o_26, o_27, o_28, o_29, o_30) = (f_e_readClause_x5 w_8m0 w_8m1 w_8m2 u_11 w_8m4 w_8m5 ftx w_8m6 w_8m7 w_8m8 w_8m9 w_8m10 w_8m11 w_8m12 w_8m13 w_8m14 w_8m15) from hw_u_14] at hb_u_14
            replace hw_u_14 : (o_16, o_17, o_18, o_19, o_20, o_21, o_22, o_23, o_24, o_25, o_26, o_27, o_28, o_29, o_30) = (f_e_readClause_x5 w_8m0 w_8m1 w_8m2 u_11 w_8m4 w_8m5 ftx w_8m6 w_8m7 w_8m8 w_8m9 w_8m10 w_8m11 w_8m12 w_8m13 w_8m14 w_8m15) := hw_u_14
            rw [← hw_u_14] at hE
            replace hE : (match (f_e_read_x5_42 r0 r1 r3 r4 r5 r6 ftx t0 t1 t2 t3 t4 fta ftb ftc ftd fte l_ n_w_8 (w_8l4 + 1) o_16 o_17 w_8m2 o_18 o_19 o_20 o_21 o_22 o_23 o_24 o_25 o_26 o_27 o_28 o_29 o_30) with | (w_8l4, w_8m0, w_8m1, w_8m2, w_8m3, w_8m4, w_8m5, w_8m6, w_8m7, w_8m8, w_8m9, w_8m10, w_8m11, w_8m12, w_8m13, w_8m14, w_8m15) => (w_8m0, w_8m1, w_8m2, w_8m3, w_8m4, w_8m5, w_8m6, w_8m7, w_8m8, w_8m9, w_8m10, w_8m11, w_8m12, w_8m13, w_8m14, w_8m15)) = RES := hE
            have hP : va_P D classes [(rd, .inr (5, [.int o_16, .int o_17, .ref x, .int w_8m2, .int o_18, .int o_19, .int o_20])), (x, .inl (cI, 240, .inl ftx)), (t, .inr (8, [.int o_21, .int o_22, .int o_23, .int o_24, .int o_25, .ref ta, .ref tb, .ref tc, .ref td, .ref te])), (ta, .inl (cI, 6, .inl o_26)), (tb, .inl (cI, 6, .inl o_27)), (tc, .inl (cI, 30, .inl o_28)), (td, .inl (cI, 7, .inl o_29)), (te, .inl (cI, 7, .inl o_30))] H := hP
            have hD : va_D A [(rd, .inr (5, [.int o_16, .int o_17, .ref x, .int w_8m2, .int o_18, .int o_19, .int o_20])), (x, .inl (cI, 240, .inl ftx)), (t, .inr (8, [.int o_21, .int o_22, .int o_23, .int o_24, .int o_25, .ref ta, .ref tb, .ref tc, .ref td, .ref te])), (ta, .inl (cI, 6, .inl o_26)), (tb, .inl (cI, 6, .inl o_27)), (tc, .inl (cI, 30, .inl o_28)), (td, .inl (cI, 7, .inl o_29)), (te, .inl (cI, 7, .inl o_30))] := hD
            refine lv_iinc (v := (w_8l4 + 1)) (lv' := [(4, .int (w_8l4 + 1)), (0, .ref rd), (1, .ref x), (2, .int l_), (3, .ref t)]) hx hb dX5_read_70 hl (k := 0) rfl rfl (Nat.le_of_ble_eq_true rfl) rfl (fun ls hl => ?_)
            refine lv_goto (tgt := 42) hx hb dX5_read_73 rfl ?_
            exact ih_w_8 (w_8l4 + 1) o_16 o_17 w_8m2 o_18 o_19 o_20 o_21 o_22 o_23 o_24 o_25 o_26 o_27 o_28 o_29 o_30 _ _ ls (cutP (isC := [0, 1, 3, 4, 5, 6, 7, 2]) hP rfl) (cutD (isC := [0, 1, 3, 4, 5, 6, 7, 2]) hD rfl rfl) hS (lv_sub hl [0, 1, 2, 3, 4] rfl) hb_u_14 (up_step c_9 hm) hE
  exact lp_42_w_8 (((240 : Int32).toInt - (0 : Int32).toInt).toNat + 1) 0 0 (-1) l_ 0 0 0 o_3 o_4 o_5 o_6 o_7 fta ftb ftc ftd fte _ _ ls hP hD hS hl (Or.inl rfl) (Nat.lt_succ_self _) hE
end
