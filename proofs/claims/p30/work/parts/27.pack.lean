section
def fw_cX9_feed : List (List Nat) := [[27, 155, 0, 10, 27, 17, 0, 255, 164, 0, 6, 18, 104, 172, 42, 180, 0, 13], [0, 13, 17, 0, 240, 161, 0, 6, 18, 105, 172, 42, 180, 0, 9, 42, 180, 0], [180, 0, 13, 27, 184, 0, 106, 42, 89, 180, 0, 13, 4, 96, 181, 0, 13, 42], [13, 42, 180, 0, 13, 172]]
theorem fW_cX9_feed : fq_wins 4 cX9_feed.data.toList = fw_cX9_feed := by decide +kernel
theorem fk_cX9_feed_0 : fq_ck cX9_feed 0 [27, 155, 0, 10, 27, 17, 0, 255, 164, 0, 6, 18, 104, 172, 42, 180, 0, 13] := fq_of fW_cX9_feed 0 rfl rfl
theorem dX9_feed_0 : decode cX9_feed 0 = .ok (.iload_n 1, 1) := fq_27 fk_cX9_feed_0 0 rfl rfl
theorem dX9_feed_1 : decode cX9_feed 1 = .ok (.ifCond .lt 10, 3) := fq_155 fk_cX9_feed_0 1 rfl rfl rfl rfl rfl
theorem wd_339 : Cond.constant RX9 104 (-1000000002) ∈ BG := BG_at2 91 (by decide +kernel) rfl
theorem dX9_feed_11 : decode cX9_feed 11 = .ok (.ldc 104, 2) := fq_18 fk_cX9_feed_0 11 rfl rfl rfl
theorem dX9_feed_13 : decode cX9_feed 13 = .ok (.ireturn, 1) := fq_172 fk_cX9_feed_0 13 rfl rfl
theorem dX9_feed_4 : decode cX9_feed 4 = .ok (.iload_n 1, 1) := fq_27 fk_cX9_feed_0 4 rfl rfl
theorem dX9_feed_5 : decode cX9_feed 5 = .ok (.sipush 255, 3) := fq_17 fk_cX9_feed_0 5 rfl rfl rfl rfl rfl
theorem dX9_feed_8 : decode cX9_feed 8 = .ok (.if_icmp .le 6, 3) := fq_164 fk_cX9_feed_0 8 rfl rfl rfl rfl rfl
theorem dX9_feed_14 : decode cX9_feed 14 = .ok (.aload_n 0, 1) := fq_42 fk_cX9_feed_0 14 rfl rfl
theorem dX9_feed_15 : decode cX9_feed 15 = .ok (.getfield 13, 3) := fq_180 fk_cX9_feed_0 15 rfl rfl rfl rfl rfl
theorem fk_cX9_feed_1 : fq_ck cX9_feed 16 [0, 13, 17, 0, 240, 161, 0, 6, 18, 105, 172, 42, 180, 0, 9, 42, 180, 0] := fq_of fW_cX9_feed 1 rfl rfl
theorem dX9_feed_18 : decode cX9_feed 18 = .ok (.sipush 240, 3) := fq_17 fk_cX9_feed_1 2 rfl rfl rfl rfl rfl
theorem dX9_feed_21 : decode cX9_feed 21 = .ok (.if_icmp .lt 6, 3) := fq_161 fk_cX9_feed_1 5 rfl rfl rfl rfl rfl
theorem dX9_feed_27 : decode cX9_feed 27 = .ok (.aload_n 0, 1) := fq_42 fk_cX9_feed_1 11 rfl rfl
theorem dX9_feed_28 : decode cX9_feed 28 = .ok (.getfield 9, 3) := fq_180 fk_cX9_feed_1 12 rfl rfl rfl rfl rfl
theorem dX9_feed_31 : decode cX9_feed 31 = .ok (.aload_n 0, 1) := fq_42 fk_cX9_feed_1 15 rfl rfl
theorem fk_cX9_feed_2 : fq_ck cX9_feed 32 [180, 0, 13, 27, 184, 0, 106, 42, 89, 180, 0, 13, 4, 96, 181, 0, 13, 42] := fq_of fW_cX9_feed 2 rfl rfl
theorem dX9_feed_32 : decode cX9_feed 32 = .ok (.getfield 13, 3) := fq_180 fk_cX9_feed_2 0 rfl rfl rfl rfl rfl
theorem dX9_feed_35 : decode cX9_feed 35 = .ok (.iload_n 1, 1) := fq_27 fk_cX9_feed_2 3 rfl rfl
theorem dX9_feed_36 : decode cX9_feed 36 = .ok (.invokestatic 106, 3) := fq_184 fk_cX9_feed_2 4 rfl rfl rfl rfl rfl
theorem wd_340 : Cond.methodLink RX9 106 yX9_put ∈ BG := BG_at2 93 (by decide +kernel) rfl
theorem dX9_feed_39 : decode cX9_feed 39 = .ok (.aload_n 0, 1) := fq_42 fk_cX9_feed_2 7 rfl rfl
theorem dX9_feed_40 : decode cX9_feed 40 = .ok (.dup, 1) := fq_89 fk_cX9_feed_2 8 rfl rfl
theorem dX9_feed_41 : decode cX9_feed 41 = .ok (.getfield 13, 3) := fq_180 fk_cX9_feed_2 9 rfl rfl rfl rfl rfl
theorem dX9_feed_44 : decode cX9_feed 44 = .ok (.iconst 1, 1) := fq_4 fk_cX9_feed_2 12 rfl rfl
theorem dX9_feed_45 : decode cX9_feed 45 = .ok (.iadd, 1) := fq_96 fk_cX9_feed_2 13 rfl rfl
theorem dX9_feed_46 : decode cX9_feed 46 = .ok (.putfield 13, 3) := fq_181 fk_cX9_feed_2 14 rfl rfl rfl rfl rfl
theorem fk_cX9_feed_3 : fq_ck cX9_feed 48 [13, 42, 180, 0, 13, 172] := fq_of fW_cX9_feed 3 rfl rfl
theorem dX9_feed_49 : decode cX9_feed 49 = .ok (.aload_n 0, 1) := fq_42 fk_cX9_feed_3 1 rfl rfl
theorem dX9_feed_50 : decode cX9_feed 50 = .ok (.getfield 13, 3) := fq_180 fk_cX9_feed_3 2 rfl rfl rfl rfl rfl
theorem dX9_feed_53 : decode cX9_feed 53 = .ok (.ireturn, 1) := fq_172 fk_cX9_feed_3 5 rfl rfl
theorem wd_341 : Cond.constant RX9 105 (-1000000004) ∈ BG := BG_at2 92 (by decide +kernel) rfl
theorem dX9_feed_24 : decode cX9_feed 24 = .ok (.ldc 105, 2) := fq_18 fk_cX9_feed_1 8 rfl rfl rfl
theorem dX9_feed_26 : decode cX9_feed 26 = .ok (.ireturn, 1) := fq_172 fk_cX9_feed_1 10 rfl rfl
def fw_cX9_fault : List (List Nat) := [[42, 180, 0, 17, 172]]
theorem fW_cX9_fault : fq_wins 1 cX9_fault.data.toList = fw_cX9_fault := by decide +kernel
theorem fk_cX9_fault_0 : fq_ck cX9_fault 0 [42, 180, 0, 17, 172] := fq_of fW_cX9_fault 0 rfl rfl
theorem dX9_fault_0 : decode cX9_fault 0 = .ok (.aload_n 0, 1) := fq_42 fk_cX9_fault_0 0 rfl rfl
theorem dX9_fault_1 : decode cX9_fault 1 = .ok (.getfield 17, 3) := fq_180 fk_cX9_fault_0 1 rfl rfl rfl rfl rfl
theorem dX9_fault_4 : decode cX9_fault 4 = .ok (.ireturn, 1) := fq_172 fk_cX9_fault_0 4 rfl rfl
def fw_cX9_bridge : List (List Nat) := [[42, 180, 0, 30, 27, 182, 0, 159, 154, 0, 6, 18, 163, 172, 28, 171, 0, 0], [0, 0, 0, 46, 0, 0, 0, 2, 0, 0, 0, 0, 0, 0, 0, 25, 0, 0], [0, 0, 0, 1, 0, 0, 0, 37, 42, 180, 0, 30, 180, 0, 164, 27, 184, 0], [184, 0, 167, 172, 42, 180, 0, 40, 27, 182, 0, 171, 172, 18, 104, 172]]
theorem fW_cX9_bridge : fq_wins 4 cX9_bridge.data.toList = fw_cX9_bridge := by decide +kernel
theorem fk_cX9_bridge_0 : fq_ck cX9_bridge 0 [42, 180, 0, 30, 27, 182, 0, 159, 154, 0, 6, 18, 163, 172, 28, 171, 0, 0] := fq_of fW_cX9_bridge 0 rfl rfl
theorem dX9_bridge_0 : decode cX9_bridge 0 = .ok (.aload_n 0, 1) := fq_42 fk_cX9_bridge_0 0 rfl rfl
theorem dX9_bridge_1 : decode cX9_bridge 1 = .ok (.getfield 30, 3) := fq_180 fk_cX9_bridge_0 1 rfl rfl rfl rfl rfl
theorem dX9_bridge_4 : decode cX9_bridge 4 = .ok (.iload_n 1, 1) := fq_27 fk_cX9_bridge_0 4 rfl rfl
theorem dX9_bridge_5 : decode cX9_bridge 5 = .ok (.invokevirtual 159, 3) := fq_182 fk_cX9_bridge_0 5 rfl rfl rfl rfl rfl
theorem wd_342 : Cond.methodLink RX9 159 yX8_hasBridge ∈ BG := BG_at2 199 (by decide +kernel) rfl
theorem wd_343 : Cond.code yX8_hasBridge cX8_hasBridge 2 (some .boolean) ∈ BG := BG_at2 202 rfl rfl
theorem wd_344 : Cond.instanceMethod yX8_hasBridge ∈ BG := BG_at2 200 (by decide +kernel) rfl
theorem wd_345 : Cond.selects RX8 yX8_hasBridge yX8_hasBridge ∈ BG := BG_at2 201 (by decide +kernel) rfl
theorem okV_X8_hasBridge : okV yX8_hasBridge cX8_hasBridge 2 (some .boolean) 1 := ⟨⟨wd_343, wd_86, by decide +kernel⟩, wd_344, wd_345⟩
theorem dX9_bridge_8 : decode cX9_bridge 8 = .ok (.ifCond .ne 6, 3) := fq_154 fk_cX9_bridge_0 8 rfl rfl rfl rfl rfl
theorem dX9_bridge_14 : decode cX9_bridge 14 = .ok (.iload_n 2, 1) := fq_28 fk_cX9_bridge_0 14 rfl rfl
theorem dX9_bridge_15 : decode cX9_bridge 15 = .ok (.lookupswitch 46 #[(0, 25), (1, 37)], 25) := by decide +kernel
theorem fk_cX9_bridge_2 : fq_ck cX9_bridge 32 [0, 0, 0, 1, 0, 0, 0, 37, 42, 180, 0, 30, 180, 0, 164, 27, 184, 0] := fq_of fW_cX9_bridge 2 rfl rfl
theorem dX9_bridge_40 : decode cX9_bridge 40 = .ok (.aload_n 0, 1) := fq_42 fk_cX9_bridge_2 8 rfl rfl
theorem dX9_bridge_41 : decode cX9_bridge 41 = .ok (.getfield 30, 3) := fq_180 fk_cX9_bridge_2 9 rfl rfl rfl rfl rfl
theorem dX9_bridge_44 : decode cX9_bridge 44 = .ok (.getfield 164, 3) := fq_180 fk_cX9_bridge_2 12 rfl rfl rfl rfl rfl
theorem dX9_bridge_47 : decode cX9_bridge 47 = .ok (.iload_n 1, 1) := fq_27 fk_cX9_bridge_2 15 rfl rfl
theorem fk_cX9_bridge_3 : fq_ck cX9_bridge 48 [184, 0, 167, 172, 42, 180, 0, 40, 27, 182, 0, 171, 172, 18, 104, 172] := fq_of fW_cX9_bridge 3 rfl rfl
theorem dX9_bridge_48 : decode cX9_bridge 48 = .ok (.invokestatic 167, 3) := fq_184 fk_cX9_bridge_3 0 rfl rfl rfl rfl rfl
theorem dX9_bridge_51 : decode cX9_bridge 51 = .ok (.ireturn, 1) := fq_172 fk_cX9_bridge_3 3 rfl rfl
theorem dX9_bridge_52 : decode cX9_bridge 52 = .ok (.aload_n 0, 1) := fq_42 fk_cX9_bridge_3 4 rfl rfl
theorem dX9_bridge_53 : decode cX9_bridge 53 = .ok (.getfield 40, 3) := fq_180 fk_cX9_bridge_3 5 rfl rfl rfl rfl rfl
theorem dX9_bridge_56 : decode cX9_bridge 56 = .ok (.iload_n 1, 1) := fq_27 fk_cX9_bridge_3 8 rfl rfl
theorem dX9_bridge_57 : decode cX9_bridge 57 = .ok (.invokevirtual 171, 3) := fq_182 fk_cX9_bridge_3 9 rfl rfl rfl rfl rfl
theorem dX9_bridge_60 : decode cX9_bridge 60 = .ok (.ireturn, 1) := fq_172 fk_cX9_bridge_3 12 rfl rfl
theorem dX9_bridge_61 : decode cX9_bridge 61 = .ok (.ldc 104, 2) := fq_18 fk_cX9_bridge_3 13 rfl rfl rfl
theorem dX9_bridge_63 : decode cX9_bridge 63 = .ok (.ireturn, 1) := fq_172 fk_cX9_bridge_3 15 rfl rfl
theorem wd_346 : Cond.constant RX9 163 (-1000000001) ∈ BG := BG_at2 203 (by decide +kernel) rfl
theorem dX9_bridge_11 : decode cX9_bridge 11 = .ok (.ldc 163, 2) := fq_18 fk_cX9_bridge_0 11 rfl rfl rfl
theorem dX9_bridge_13 : decode cX9_bridge 13 = .ok (.ireturn, 1) := fq_172 fk_cX9_bridge_0 13 rfl rfl
def fw_cX9_couple : List (List Nat) := [[42, 180, 0, 30, 27, 182, 0, 174, 154, 0, 6, 18, 163, 172, 28, 170, 0, 0], [0, 0, 0, 89, 0, 0, 0, 0, 0, 0, 0, 4, 0, 0, 0, 33, 0, 0], [0, 0, 0, 42, 0, 0, 0, 54, 0, 0, 0, 63, 0, 0, 0, 72, 42, 180], [42, 180, 0, 40, 27, 182, 0, 177, 172, 42, 180, 0, 30, 180, 0, 180, 27, 184], [27, 184, 0, 167, 172, 42, 180, 0, 40, 27, 182, 0, 183, 172, 42, 180, 0, 40], [0, 40, 27, 182, 0, 186, 172, 42, 180, 0, 40, 27, 182, 0, 189, 153, 0, 7], [0, 7, 4, 167, 0, 4, 3, 172, 18, 104, 172]]
theorem fW_cX9_couple : fq_wins 7 cX9_couple.data.toList = fw_cX9_couple := by decide +kernel
theorem fk_cX9_couple_0 : fq_ck cX9_couple 0 [42, 180, 0, 30, 27, 182, 0, 174, 154, 0, 6, 18, 163, 172, 28, 170, 0, 0] := fq_of fW_cX9_couple 0 rfl rfl
theorem dX9_couple_0 : decode cX9_couple 0 = .ok (.aload_n 0, 1) := fq_42 fk_cX9_couple_0 0 rfl rfl
theorem dX9_couple_1 : decode cX9_couple 1 = .ok (.getfield 30, 3) := fq_180 fk_cX9_couple_0 1 rfl rfl rfl rfl rfl
theorem dX9_couple_4 : decode cX9_couple 4 = .ok (.iload_n 1, 1) := fq_27 fk_cX9_couple_0 4 rfl rfl
theorem dX9_couple_5 : decode cX9_couple 5 = .ok (.invokevirtual 174, 3) := fq_182 fk_cX9_couple_0 5 rfl rfl rfl rfl rfl
theorem wd_347 : Cond.methodLink RX9 174 yX8_hasCouple ∈ BG := BG_at2 217 (by decide +kernel) rfl
theorem wd_348 : Cond.code yX8_hasCouple cX8_hasCouple 2 (some .boolean) ∈ BG := BG_at2 220 rfl rfl
theorem wd_349 : Cond.instanceMethod yX8_hasCouple ∈ BG := BG_at2 218 (by decide +kernel) rfl
theorem wd_350 : Cond.selects RX8 yX8_hasCouple yX8_hasCouple ∈ BG := BG_at2 219 (by decide +kernel) rfl
theorem okV_X8_hasCouple : okV yX8_hasCouple cX8_hasCouple 2 (some .boolean) 1 := ⟨⟨wd_348, wd_86, by decide +kernel⟩, wd_349, wd_350⟩
theorem dX9_couple_8 : decode cX9_couple 8 = .ok (.ifCond .ne 6, 3) := fq_154 fk_cX9_couple_0 8 rfl rfl rfl rfl rfl
theorem dX9_couple_14 : decode cX9_couple 14 = .ok (.iload_n 2, 1) := fq_28 fk_cX9_couple_0 14 rfl rfl
theorem dX9_couple_15 : decode cX9_couple 15 = .ok (.tableswitch 89 0 4 #[33, 42, 54, 63, 72], 33) := by decide +kernel
theorem fk_cX9_couple_3 : fq_ck cX9_couple 48 [42, 180, 0, 40, 27, 182, 0, 177, 172, 42, 180, 0, 30, 180, 0, 180, 27, 184] := fq_of fW_cX9_couple 3 rfl rfl
theorem dX9_couple_48 : decode cX9_couple 48 = .ok (.aload_n 0, 1) := fq_42 fk_cX9_couple_3 0 rfl rfl
theorem dX9_couple_49 : decode cX9_couple 49 = .ok (.getfield 40, 3) := fq_180 fk_cX9_couple_3 1 rfl rfl rfl rfl rfl
theorem dX9_couple_52 : decode cX9_couple 52 = .ok (.iload_n 1, 1) := fq_27 fk_cX9_couple_3 4 rfl rfl
theorem dX9_couple_53 : decode cX9_couple 53 = .ok (.invokevirtual 177, 3) := fq_182 fk_cX9_couple_3 5 rfl rfl rfl rfl rfl
theorem dX9_couple_56 : decode cX9_couple 56 = .ok (.ireturn, 1) := fq_172 fk_cX9_couple_3 8 rfl rfl
theorem dX9_couple_57 : decode cX9_couple 57 = .ok (.aload_n 0, 1) := fq_42 fk_cX9_couple_3 9 rfl rfl
theorem dX9_couple_58 : decode cX9_couple 58 = .ok (.getfield 30, 3) := fq_180 fk_cX9_couple_3 10 rfl rfl rfl rfl rfl
theorem wd_351 : Cond.fieldLink RX9 180 "QuarrelBridges$Town" "grievances" "[I" ∈ BG := BG_at1 85 (by decide +kernel) rfl
theorem dX9_couple_61 : decode cX9_couple 61 = .ok (.getfield 180, 3) := fq_180 fk_cX9_couple_3 13 rfl rfl rfl rfl rfl
theorem fk_cX9_couple_4 : fq_ck cX9_couple 64 [27, 184, 0, 167, 172, 42, 180, 0, 40, 27, 182, 0, 183, 172, 42, 180, 0, 40] := fq_of fW_cX9_couple 4 rfl rfl
theorem dX9_couple_64 : decode cX9_couple 64 = .ok (.iload_n 1, 1) := fq_27 fk_cX9_couple_4 0 rfl rfl
theorem dX9_couple_65 : decode cX9_couple 65 = .ok (.invokestatic 167, 3) := fq_184 fk_cX9_couple_4 1 rfl rfl rfl rfl rfl
theorem dX9_couple_68 : decode cX9_couple 68 = .ok (.ireturn, 1) := fq_172 fk_cX9_couple_4 4 rfl rfl
theorem dX9_couple_69 : decode cX9_couple 69 = .ok (.aload_n 0, 1) := fq_42 fk_cX9_couple_4 5 rfl rfl
theorem dX9_couple_70 : decode cX9_couple 70 = .ok (.getfield 40, 3) := fq_180 fk_cX9_couple_4 6 rfl rfl rfl rfl rfl
theorem dX9_couple_73 : decode cX9_couple 73 = .ok (.iload_n 1, 1) := fq_27 fk_cX9_couple_4 9 rfl rfl
theorem dX9_couple_74 : decode cX9_couple 74 = .ok (.invokevirtual 183, 3) := fq_182 fk_cX9_couple_4 10 rfl rfl rfl rfl rfl
theorem wd_352 : Cond.methodLink RX9 183 yX7_bridgeOf ∈ BG := BG_at2 222 (by decide +kernel) rfl
theorem dX9_couple_77 : decode cX9_couple 77 = .ok (.ireturn, 1) := fq_172 fk_cX9_couple_4 13 rfl rfl
theorem dX9_couple_78 : decode cX9_couple 78 = .ok (.aload_n 0, 1) := fq_42 fk_cX9_couple_4 14 rfl rfl
theorem dX9_couple_79 : decode cX9_couple 79 = .ok (.getfield 40, 3) := fq_180 fk_cX9_couple_4 15 rfl rfl rfl rfl rfl
theorem fk_cX9_couple_5 : fq_ck cX9_couple 80 [0, 40, 27, 182, 0, 186, 172, 42, 180, 0, 40, 27, 182, 0, 189, 153, 0, 7] := fq_of fW_cX9_couple 5 rfl rfl
theorem dX9_couple_82 : decode cX9_couple 82 = .ok (.iload_n 1, 1) := fq_27 fk_cX9_couple_5 2 rfl rfl
theorem dX9_couple_83 : decode cX9_couple 83 = .ok (.invokevirtual 186, 3) := fq_182 fk_cX9_couple_5 3 rfl rfl rfl rfl rfl
theorem dX9_couple_86 : decode cX9_couple 86 = .ok (.ireturn, 1) := fq_172 fk_cX9_couple_5 6 rfl rfl
theorem dX9_couple_87 : decode cX9_couple 87 = .ok (.aload_n 0, 1) := fq_42 fk_cX9_couple_5 7 rfl rfl
theorem dX9_couple_88 : decode cX9_couple 88 = .ok (.getfield 40, 3) := fq_180 fk_cX9_couple_5 8 rfl rfl rfl rfl rfl
theorem dX9_couple_91 : decode cX9_couple 91 = .ok (.iload_n 1, 1) := fq_27 fk_cX9_couple_5 11 rfl rfl
theorem dX9_couple_92 : decode cX9_couple 92 = .ok (.invokevirtual 189, 3) := fq_182 fk_cX9_couple_5 12 rfl rfl rfl rfl rfl
theorem dX9_couple_95 : decode cX9_couple 95 = .ok (.ifCond .eq 7, 3) := fq_153 fk_cX9_couple_5 15 rfl rfl rfl rfl rfl
theorem fk_cX9_couple_6 : fq_ck cX9_couple 96 [0, 7, 4, 167, 0, 4, 3, 172, 18, 104, 172] := fq_of fW_cX9_couple 6 rfl rfl
theorem dX9_couple_102 : decode cX9_couple 102 = .ok (.iconst 0, 1) := fq_3 fk_cX9_couple_6 6 rfl rfl
theorem dX9_couple_103 : decode cX9_couple 103 = .ok (.ireturn, 1) := fq_172 fk_cX9_couple_6 7 rfl rfl
theorem dX9_couple_98 : decode cX9_couple 98 = .ok (.iconst 1, 1) := fq_4 fk_cX9_couple_6 2 rfl rfl
theorem dX9_couple_99 : decode cX9_couple 99 = .ok (.goto 4, 3) := fq_167 fk_cX9_couple_6 3 rfl rfl rfl rfl rfl
theorem dX9_couple_104 : decode cX9_couple 104 = .ok (.ldc 104, 2) := fq_18 fk_cX9_couple_6 8 rfl rfl rfl
theorem dX9_couple_106 : decode cX9_couple 106 = .ok (.ireturn, 1) := fq_172 fk_cX9_couple_6 10 rfl rfl
theorem dX9_couple_11 : decode cX9_couple 11 = .ok (.ldc 163, 2) := fq_18 fk_cX9_couple_0 11 rfl rfl rfl
theorem dX9_couple_13 : decode cX9_couple 13 = .ok (.ireturn, 1) := fq_172 fk_cX9_couple_0 13 rfl rfl
def fw_cX9_force : List (List Nat) := [[42, 180, 0, 30, 27, 182, 0, 174, 153, 0, 14, 42, 180, 0, 30, 28, 182, 0], [182, 0, 192, 154, 0, 6, 18, 163, 172, 42, 180, 0, 30, 27, 28, 182, 0, 195], [0, 195, 172]]
theorem fW_cX9_force : fq_wins 3 cX9_force.data.toList = fw_cX9_force := by decide +kernel
theorem fk_cX9_force_0 : fq_ck cX9_force 0 [42, 180, 0, 30, 27, 182, 0, 174, 153, 0, 14, 42, 180, 0, 30, 28, 182, 0] := fq_of fW_cX9_force 0 rfl rfl
theorem dX9_force_0 : decode cX9_force 0 = .ok (.aload_n 0, 1) := fq_42 fk_cX9_force_0 0 rfl rfl
theorem dX9_force_1 : decode cX9_force 1 = .ok (.getfield 30, 3) := fq_180 fk_cX9_force_0 1 rfl rfl rfl rfl rfl
theorem dX9_force_4 : decode cX9_force 4 = .ok (.iload_n 1, 1) := fq_27 fk_cX9_force_0 4 rfl rfl
theorem dX9_force_5 : decode cX9_force 5 = .ok (.invokevirtual 174, 3) := fq_182 fk_cX9_force_0 5 rfl rfl rfl rfl rfl
theorem dX9_force_8 : decode cX9_force 8 = .ok (.ifCond .eq 14, 3) := fq_153 fk_cX9_force_0 8 rfl rfl rfl rfl rfl
theorem fk_cX9_force_1 : fq_ck cX9_force 16 [182, 0, 192, 154, 0, 6, 18, 163, 172, 42, 180, 0, 30, 27, 28, 182, 0, 195] := fq_of fW_cX9_force 1 rfl rfl
theorem dX9_force_22 : decode cX9_force 22 = .ok (.ldc 163, 2) := fq_18 fk_cX9_force_1 6 rfl rfl rfl
theorem dX9_force_24 : decode cX9_force 24 = .ok (.ireturn, 1) := fq_172 fk_cX9_force_1 8 rfl rfl
theorem dX9_force_11 : decode cX9_force 11 = .ok (.aload_n 0, 1) := fq_42 fk_cX9_force_0 11 rfl rfl
theorem dX9_force_12 : decode cX9_force 12 = .ok (.getfield 30, 3) := fq_180 fk_cX9_force_0 12 rfl rfl rfl rfl rfl
theorem dX9_force_15 : decode cX9_force 15 = .ok (.iload_n 2, 1) := fq_28 fk_cX9_force_0 15 rfl rfl
theorem dX9_force_16 : decode cX9_force 16 = .ok (.invokevirtual 192, 3) := fq_182 fk_cX9_force_1 0 rfl rfl rfl rfl rfl
theorem wd_353 : Cond.methodLink RX9 192 yX8_hasTheme ∈ BG := BG_at2 236 (by decide +kernel) rfl
theorem wd_354 : Cond.code yX8_hasTheme cX8_hasTheme 2 (some .boolean) ∈ BG := BG_at2 239 rfl rfl
theorem wd_355 : Cond.instanceMethod yX8_hasTheme ∈ BG := BG_at2 237 (by decide +kernel) rfl
theorem wd_356 : Cond.selects RX8 yX8_hasTheme yX8_hasTheme ∈ BG := BG_at2 238 (by decide +kernel) rfl
theorem okV_X8_hasTheme : okV yX8_hasTheme cX8_hasTheme 2 (some .boolean) 1 := ⟨⟨wd_354, wd_86, by decide +kernel⟩, wd_355, wd_356⟩
theorem dX9_force_19 : decode cX9_force 19 = .ok (.ifCond .ne 6, 3) := fq_154 fk_cX9_force_1 3 rfl rfl rfl rfl rfl
theorem dX9_force_25 : decode cX9_force 25 = .ok (.aload_n 0, 1) := fq_42 fk_cX9_force_1 9 rfl rfl
theorem dX9_force_26 : decode cX9_force 26 = .ok (.getfield 30, 3) := fq_180 fk_cX9_force_1 10 rfl rfl rfl rfl rfl
theorem dX9_force_29 : decode cX9_force 29 = .ok (.iload_n 1, 1) := fq_27 fk_cX9_force_1 13 rfl rfl
theorem dX9_force_30 : decode cX9_force 30 = .ok (.iload_n 2, 1) := fq_28 fk_cX9_force_1 14 rfl rfl
theorem dX9_force_31 : decode cX9_force 31 = .ok (.invokevirtual 195, 3) := fq_182 fk_cX9_force_1 15 rfl rfl rfl rfl rfl
theorem fk_cX9_force_2 : fq_ck cX9_force 32 [0, 195, 172] := fq_of fW_cX9_force 2 rfl rfl
theorem dX9_force_34 : decode cX9_force 34 = .ok (.ireturn, 1) := fq_172 fk_cX9_force_2 2 rfl rfl
def fw_cX9_barge : List (List Nat) := [[42, 180, 0, 30, 27, 182, 0, 199, 154, 0, 6, 18, 163, 172, 28, 170, 0, 0], [0, 0, 0, 84, 0, 0, 0, 0, 0, 0, 0, 4, 0, 0, 0, 33, 0, 0], [0, 0, 0, 45, 0, 0, 0, 57, 0, 0, 0, 66, 0, 0, 0, 75, 42, 180], [42, 180, 0, 30, 180, 0, 202, 27, 184, 0, 167, 172, 42, 180, 0, 30, 180, 0], [180, 0, 205, 27, 184, 0, 167, 172, 42, 180, 0, 40, 27, 182, 0, 208, 172, 42], [172, 42, 180, 0, 40, 27, 182, 0, 211, 172, 42, 180, 0, 40, 27, 182, 0, 214], [0, 214, 172, 18, 104, 172]]
theorem fW_cX9_barge : fq_wins 7 cX9_barge.data.toList = fw_cX9_barge := by decide +kernel
theorem fk_cX9_barge_0 : fq_ck cX9_barge 0 [42, 180, 0, 30, 27, 182, 0, 199, 154, 0, 6, 18, 163, 172, 28, 170, 0, 0] := fq_of fW_cX9_barge 0 rfl rfl
theorem dX9_barge_0 : decode cX9_barge 0 = .ok (.aload_n 0, 1) := fq_42 fk_cX9_barge_0 0 rfl rfl
theorem dX9_barge_1 : decode cX9_barge 1 = .ok (.getfield 30, 3) := fq_180 fk_cX9_barge_0 1 rfl rfl rfl rfl rfl
theorem dX9_barge_4 : decode cX9_barge 4 = .ok (.iload_n 1, 1) := fq_27 fk_cX9_barge_0 4 rfl rfl
theorem dX9_barge_5 : decode cX9_barge 5 = .ok (.invokevirtual 199, 3) := fq_182 fk_cX9_barge_0 5 rfl rfl rfl rfl rfl
theorem wd_357 : Cond.methodLink RX9 199 yX8_hasBarge ∈ BG := BG_at3 9 (by decide +kernel) rfl
theorem wd_358 : Cond.code yX8_hasBarge cX8_hasBarge 2 (some .boolean) ∈ BG := BG_at3 12 rfl rfl
theorem wd_359 : Cond.instanceMethod yX8_hasBarge ∈ BG := BG_at3 10 (by decide +kernel) rfl
theorem wd_360 : Cond.selects RX8 yX8_hasBarge yX8_hasBarge ∈ BG := BG_at3 11 (by decide +kernel) rfl
theorem okV_X8_hasBarge : okV yX8_hasBarge cX8_hasBarge 2 (some .boolean) 1 := ⟨⟨wd_358, wd_86, by decide +kernel⟩, wd_359, wd_360⟩
theorem dX9_barge_8 : decode cX9_barge 8 = .ok (.ifCond .ne 6, 3) := fq_154 fk_cX9_barge_0 8 rfl rfl rfl rfl rfl
theorem dX9_barge_14 : decode cX9_barge 14 = .ok (.iload_n 2, 1) := fq_28 fk_cX9_barge_0 14 rfl rfl
theorem dX9_barge_15 : decode cX9_barge 15 = .ok (.tableswitch 84 0 4 #[33, 45, 57, 66, 75], 33) := by decide +kernel
theorem fk_cX9_barge_3 : fq_ck cX9_barge 48 [42, 180, 0, 30, 180, 0, 202, 27, 184, 0, 167, 172, 42, 180, 0, 30, 180, 0] := fq_of fW_cX9_barge 3 rfl rfl
theorem dX9_barge_48 : decode cX9_barge 48 = .ok (.aload_n 0, 1) := fq_42 fk_cX9_barge_3 0 rfl rfl
theorem dX9_barge_49 : decode cX9_barge 49 = .ok (.getfield 30, 3) := fq_180 fk_cX9_barge_3 1 rfl rfl rfl rfl rfl
theorem wd_361 : Cond.fieldLink RX9 202 "QuarrelBridges$Town" "upTo" "[I" ∈ BG := BG_at1 91 (by decide +kernel) rfl
theorem dX9_barge_52 : decode cX9_barge 52 = .ok (.getfield 202, 3) := fq_180 fk_cX9_barge_3 4 rfl rfl rfl rfl rfl
theorem dX9_barge_55 : decode cX9_barge 55 = .ok (.iload_n 1, 1) := fq_27 fk_cX9_barge_3 7 rfl rfl
theorem dX9_barge_56 : decode cX9_barge 56 = .ok (.invokestatic 167, 3) := fq_184 fk_cX9_barge_3 8 rfl rfl rfl rfl rfl
theorem dX9_barge_59 : decode cX9_barge 59 = .ok (.ireturn, 1) := fq_172 fk_cX9_barge_3 11 rfl rfl
theorem dX9_barge_60 : decode cX9_barge 60 = .ok (.aload_n 0, 1) := fq_42 fk_cX9_barge_3 12 rfl rfl
theorem dX9_barge_61 : decode cX9_barge 61 = .ok (.getfield 30, 3) := fq_180 fk_cX9_barge_3 13 rfl rfl rfl rfl rfl
theorem wd_362 : Cond.fieldLink RX9 205 "QuarrelBridges$Town" "tides" "[I" ∈ BG := BG_at1 95 (by decide +kernel) rfl
theorem fk_cX9_barge_4 : fq_ck cX9_barge 64 [180, 0, 205, 27, 184, 0, 167, 172, 42, 180, 0, 40, 27, 182, 0, 208, 172, 42] := fq_of fW_cX9_barge 4 rfl rfl
theorem dX9_barge_64 : decode cX9_barge 64 = .ok (.getfield 205, 3) := fq_180 fk_cX9_barge_4 0 rfl rfl rfl rfl rfl
theorem dX9_barge_67 : decode cX9_barge 67 = .ok (.iload_n 1, 1) := fq_27 fk_cX9_barge_4 3 rfl rfl
theorem dX9_barge_68 : decode cX9_barge 68 = .ok (.invokestatic 167, 3) := fq_184 fk_cX9_barge_4 4 rfl rfl rfl rfl rfl
theorem dX9_barge_71 : decode cX9_barge 71 = .ok (.ireturn, 1) := fq_172 fk_cX9_barge_4 7 rfl rfl
theorem dX9_barge_72 : decode cX9_barge 72 = .ok (.aload_n 0, 1) := fq_42 fk_cX9_barge_4 8 rfl rfl
theorem dX9_barge_73 : decode cX9_barge 73 = .ok (.getfield 40, 3) := fq_180 fk_cX9_barge_4 9 rfl rfl rfl rfl rfl
theorem dX9_barge_76 : decode cX9_barge 76 = .ok (.iload_n 1, 1) := fq_27 fk_cX9_barge_4 12 rfl rfl
theorem dX9_barge_77 : decode cX9_barge 77 = .ok (.invokevirtual 208, 3) := fq_182 fk_cX9_barge_4 13 rfl rfl rfl rfl rfl
theorem wd_363 : Cond.methodLink RX9 208 yX7_fateOf ∈ BG := BG_at3 13 (by decide +kernel) rfl
theorem fk_cX9_barge_5 : fq_ck cX9_barge 80 [172, 42, 180, 0, 40, 27, 182, 0, 211, 172, 42, 180, 0, 40, 27, 182, 0, 214] := fq_of fW_cX9_barge 5 rfl rfl
theorem dX9_barge_80 : decode cX9_barge 80 = .ok (.ireturn, 1) := fq_172 fk_cX9_barge_5 0 rfl rfl
theorem dX9_barge_81 : decode cX9_barge 81 = .ok (.aload_n 0, 1) := fq_42 fk_cX9_barge_5 1 rfl rfl
theorem dX9_barge_82 : decode cX9_barge 82 = .ok (.getfield 40, 3) := fq_180 fk_cX9_barge_5 2 rfl rfl rfl rfl rfl
theorem dX9_barge_85 : decode cX9_barge 85 = .ok (.iload_n 1, 1) := fq_27 fk_cX9_barge_5 5 rfl rfl
theorem dX9_barge_86 : decode cX9_barge 86 = .ok (.invokevirtual 211, 3) := fq_182 fk_cX9_barge_5 6 rfl rfl rfl rfl rfl
theorem wd_364 : Cond.methodLink RX9 211 yX7_lyingAt ∈ BG := BG_at3 14 (by decide +kernel) rfl
theorem wd_365 : Cond.code yX7_lyingAt cX7_lyingAt 2 (some .int) ∈ BG := BG_at3 17 rfl rfl
theorem wd_366 : Cond.instanceMethod yX7_lyingAt ∈ BG := BG_at3 15 (by decide +kernel) rfl
theorem wd_367 : Cond.selects RX7 yX7_lyingAt yX7_lyingAt ∈ BG := BG_at3 16 (by decide +kernel) rfl
theorem okV_X7_lyingAt : okV yX7_lyingAt cX7_lyingAt 2 (some .int) 1 := ⟨⟨wd_365, wd_93, by decide +kernel⟩, wd_366, wd_367⟩
theorem dX9_barge_89 : decode cX9_barge 89 = .ok (.ireturn, 1) := fq_172 fk_cX9_barge_5 9 rfl rfl
theorem dX9_barge_90 : decode cX9_barge 90 = .ok (.aload_n 0, 1) := fq_42 fk_cX9_barge_5 10 rfl rfl
theorem dX9_barge_91 : decode cX9_barge 91 = .ok (.getfield 40, 3) := fq_180 fk_cX9_barge_5 11 rfl rfl rfl rfl rfl
theorem dX9_barge_94 : decode cX9_barge 94 = .ok (.iload_n 1, 1) := fq_27 fk_cX9_barge_5 14 rfl rfl
theorem dX9_barge_95 : decode cX9_barge 95 = .ok (.invokevirtual 214, 3) := fq_182 fk_cX9_barge_5 15 rfl rfl rfl rfl rfl
theorem wd_368 : Cond.methodLink RX9 214 yX7_passedAt ∈ BG := BG_at3 18 (by decide +kernel) rfl
theorem wd_369 : Cond.code yX7_passedAt cX7_passedAt 2 (some .int) ∈ BG := BG_at3 21 rfl rfl
theorem wd_370 : Cond.instanceMethod yX7_passedAt ∈ BG := BG_at3 19 (by decide +kernel) rfl
theorem wd_371 : Cond.selects RX7 yX7_passedAt yX7_passedAt ∈ BG := BG_at3 20 (by decide +kernel) rfl
theorem okV_X7_passedAt : okV yX7_passedAt cX7_passedAt 2 (some .int) 1 := ⟨⟨wd_369, wd_93, by decide +kernel⟩, wd_370, wd_371⟩
theorem fk_cX9_barge_6 : fq_ck cX9_barge 96 [0, 214, 172, 18, 104, 172] := fq_of fW_cX9_barge 6 rfl rfl
theorem dX9_barge_98 : decode cX9_barge 98 = .ok (.ireturn, 1) := fq_172 fk_cX9_barge_6 2 rfl rfl
theorem dX9_barge_99 : decode cX9_barge 99 = .ok (.ldc 104, 2) := fq_18 fk_cX9_barge_6 3 rfl rfl rfl
theorem dX9_barge_101 : decode cX9_barge 101 = .ok (.ireturn, 1) := fq_172 fk_cX9_barge_6 5 rfl rfl
theorem dX9_barge_11 : decode cX9_barge 11 = .ok (.ldc 163, 2) := fq_18 fk_cX9_barge_0 11 rfl rfl rfl
theorem dX9_barge_13 : decode cX9_barge 13 = .ok (.ireturn, 1) := fq_172 fk_cX9_barge_0 13 rfl rfl
def fw_cX9_told : List (List Nat) := [[27, 170, 0, 0, 0, 0, 0, 183, 0, 0, 0, 0, 0, 0, 0, 13, 0, 0], [0, 0, 0, 71, 0, 0, 0, 79, 0, 0, 0, 87, 0, 0, 0, 95, 0, 0], [0, 0, 0, 103, 0, 0, 0, 111, 0, 0, 0, 116, 0, 0, 0, 124, 0, 0], [0, 0, 0, 132, 0, 0, 0, 141, 0, 0, 0, 150, 0, 0, 0, 159, 0, 0], [0, 0, 0, 167, 0, 0, 0, 175, 42, 180, 0, 30, 180, 0, 124, 172, 42, 180], [42, 180, 0, 30, 180, 0, 127, 172, 42, 180, 0, 30, 180, 0, 130, 172, 42, 180], [42, 180, 0, 30, 180, 0, 133, 172, 42, 180, 0, 30, 180, 0, 136, 172, 42, 180], [42, 180, 0, 13, 172, 42, 180, 0, 40, 182, 0, 139, 172, 42, 180, 0, 40, 182], [40, 182, 0, 143, 172, 42, 180, 0, 40, 4, 182, 0, 146, 172, 42, 180, 0, 40], [0, 40, 5, 182, 0, 146, 172, 42, 180, 0, 40, 6, 182, 0, 146, 172, 42, 180], [42, 180, 0, 40, 182, 0, 150, 172, 42, 180, 0, 69, 180, 0, 153, 172, 42, 180], [42, 180, 0, 47, 180, 0, 156, 172, 18, 104, 172]]
theorem fW_cX9_told : fq_wins 12 cX9_told.data.toList = fw_cX9_told := by decide +kernel
theorem fk_cX9_told_0 : fq_ck cX9_told 0 [27, 170, 0, 0, 0, 0, 0, 183, 0, 0, 0, 0, 0, 0, 0, 13, 0, 0] := fq_of fW_cX9_told 0 rfl rfl
theorem dX9_told_0 : decode cX9_told 0 = .ok (.iload_n 1, 1) := fq_27 fk_cX9_told_0 0 rfl rfl
theorem dX9_told_1 : decode cX9_told 1 = .ok (.tableswitch 183 0 13 #[71, 79, 87, 95, 103, 111, 116, 124, 132, 141, 150, 159, 167, 175], 71) := by decide +kernel
theorem fk_cX9_told_4 : fq_ck cX9_told 64 [0, 0, 0, 167, 0, 0, 0, 175, 42, 180, 0, 30, 180, 0, 124, 172, 42, 180] := fq_of fW_cX9_told 4 rfl rfl
theorem dX9_told_72 : decode cX9_told 72 = .ok (.aload_n 0, 1) := fq_42 fk_cX9_told_4 8 rfl rfl
theorem dX9_told_73 : decode cX9_told 73 = .ok (.getfield 30, 3) := fq_180 fk_cX9_told_4 9 rfl rfl rfl rfl rfl
theorem wd_372 : Cond.fieldLink RX9 124 "QuarrelBridges$Town" "bridges" "I" ∈ BG := BG_at1 63 (by decide +kernel) rfl
theorem dX9_told_76 : decode cX9_told 76 = .ok (.getfield 124, 3) := fq_180 fk_cX9_told_4 12 rfl rfl rfl rfl rfl
theorem dX9_told_79 : decode cX9_told 79 = .ok (.ireturn, 1) := fq_172 fk_cX9_told_4 15 rfl rfl
theorem fk_cX9_told_5 : fq_ck cX9_told 80 [42, 180, 0, 30, 180, 0, 127, 172, 42, 180, 0, 30, 180, 0, 130, 172, 42, 180] := fq_of fW_cX9_told 5 rfl rfl
theorem dX9_told_80 : decode cX9_told 80 = .ok (.aload_n 0, 1) := fq_42 fk_cX9_told_5 0 rfl rfl
theorem dX9_told_81 : decode cX9_told 81 = .ok (.getfield 30, 3) := fq_180 fk_cX9_told_5 1 rfl rfl rfl rfl rfl
theorem dX9_told_84 : decode cX9_told 84 = .ok (.getfield 127, 3) := fq_180 fk_cX9_told_5 4 rfl rfl rfl rfl rfl
theorem dX9_told_87 : decode cX9_told 87 = .ok (.ireturn, 1) := fq_172 fk_cX9_told_5 7 rfl rfl
theorem dX9_told_88 : decode cX9_told 88 = .ok (.aload_n 0, 1) := fq_42 fk_cX9_told_5 8 rfl rfl
theorem dX9_told_89 : decode cX9_told 89 = .ok (.getfield 30, 3) := fq_180 fk_cX9_told_5 9 rfl rfl rfl rfl rfl
theorem wd_373 : Cond.fieldLink RX9 130 "QuarrelBridges$Town" "couples" "I" ∈ BG := BG_at1 71 (by decide +kernel) rfl
theorem dX9_told_92 : decode cX9_told 92 = .ok (.getfield 130, 3) := fq_180 fk_cX9_told_5 12 rfl rfl rfl rfl rfl
theorem dX9_told_95 : decode cX9_told 95 = .ok (.ireturn, 1) := fq_172 fk_cX9_told_5 15 rfl rfl
theorem fk_cX9_told_6 : fq_ck cX9_told 96 [42, 180, 0, 30, 180, 0, 133, 172, 42, 180, 0, 30, 180, 0, 136, 172, 42, 180] := fq_of fW_cX9_told 6 rfl rfl
theorem dX9_told_96 : decode cX9_told 96 = .ok (.aload_n 0, 1) := fq_42 fk_cX9_told_6 0 rfl rfl
theorem dX9_told_97 : decode cX9_told 97 = .ok (.getfield 30, 3) := fq_180 fk_cX9_told_6 1 rfl rfl rfl rfl rfl
theorem wd_374 : Cond.fieldLink RX9 133 "QuarrelBridges$Town" "barges" "I" ∈ BG := BG_at1 75 (by decide +kernel) rfl
theorem dX9_told_100 : decode cX9_told 100 = .ok (.getfield 133, 3) := fq_180 fk_cX9_told_6 4 rfl rfl rfl rfl rfl
theorem dX9_told_103 : decode cX9_told 103 = .ok (.ireturn, 1) := fq_172 fk_cX9_told_6 7 rfl rfl
theorem dX9_told_104 : decode cX9_told 104 = .ok (.aload_n 0, 1) := fq_42 fk_cX9_told_6 8 rfl rfl
theorem dX9_told_105 : decode cX9_told 105 = .ok (.getfield 30, 3) := fq_180 fk_cX9_told_6 9 rfl rfl rfl rfl rfl
theorem dX9_told_108 : decode cX9_told 108 = .ok (.getfield 136, 3) := fq_180 fk_cX9_told_6 12 rfl rfl rfl rfl rfl
theorem dX9_told_111 : decode cX9_told 111 = .ok (.ireturn, 1) := fq_172 fk_cX9_told_6 15 rfl rfl
theorem fk_cX9_told_7 : fq_ck cX9_told 112 [42, 180, 0, 13, 172, 42, 180, 0, 40, 182, 0, 139, 172, 42, 180, 0, 40, 182] := fq_of fW_cX9_told 7 rfl rfl
theorem dX9_told_112 : decode cX9_told 112 = .ok (.aload_n 0, 1) := fq_42 fk_cX9_told_7 0 rfl rfl
theorem dX9_told_113 : decode cX9_told 113 = .ok (.getfield 13, 3) := fq_180 fk_cX9_told_7 1 rfl rfl rfl rfl rfl
theorem dX9_told_116 : decode cX9_told 116 = .ok (.ireturn, 1) := fq_172 fk_cX9_told_7 4 rfl rfl
theorem dX9_told_117 : decode cX9_told 117 = .ok (.aload_n 0, 1) := fq_42 fk_cX9_told_7 5 rfl rfl
theorem dX9_told_118 : decode cX9_told 118 = .ok (.getfield 40, 3) := fq_180 fk_cX9_told_7 6 rfl rfl rfl rfl rfl
theorem dX9_told_121 : decode cX9_told 121 = .ok (.invokevirtual 139, 3) := fq_182 fk_cX9_told_7 9 rfl rfl rfl rfl rfl
theorem wd_375 : Cond.methodLink RX9 139 yX7_minutes ∈ BG := BG_at2 167 (by decide +kernel) rfl
theorem dX9_told_124 : decode cX9_told 124 = .ok (.ireturn, 1) := fq_172 fk_cX9_told_7 12 rfl rfl
theorem dX9_told_125 : decode cX9_told 125 = .ok (.aload_n 0, 1) := fq_42 fk_cX9_told_7 13 rfl rfl
theorem dX9_told_126 : decode cX9_told 126 = .ok (.getfield 40, 3) := fq_180 fk_cX9_told_7 14 rfl rfl rfl rfl rfl
theorem fk_cX9_told_8 : fq_ck cX9_told 128 [40, 182, 0, 143, 172, 42, 180, 0, 40, 4, 182, 0, 146, 172, 42, 180, 0, 40] := fq_of fW_cX9_told 8 rfl rfl
theorem dX9_told_129 : decode cX9_told 129 = .ok (.invokevirtual 143, 3) := fq_182 fk_cX9_told_8 1 rfl rfl rfl rfl rfl
theorem wd_376 : Cond.methodLink RX9 143 yX7_reconciledSet ∈ BG := BG_at2 171 (by decide +kernel) rfl
theorem dX9_told_132 : decode cX9_told 132 = .ok (.ireturn, 1) := fq_172 fk_cX9_told_8 4 rfl rfl
theorem dX9_told_133 : decode cX9_told 133 = .ok (.aload_n 0, 1) := fq_42 fk_cX9_told_8 5 rfl rfl
theorem dX9_told_134 : decode cX9_told 134 = .ok (.getfield 40, 3) := fq_180 fk_cX9_told_8 6 rfl rfl rfl rfl rfl
theorem dX9_told_137 : decode cX9_told 137 = .ok (.iconst 1, 1) := fq_4 fk_cX9_told_8 9 rfl rfl
theorem dX9_told_138 : decode cX9_told 138 = .ok (.invokevirtual 146, 3) := fq_182 fk_cX9_told_8 10 rfl rfl rfl rfl rfl
theorem wd_377 : Cond.methodLink RX9 146 yX7_bargesOfFate ∈ BG := BG_at2 175 (by decide +kernel) rfl
theorem dX9_told_141 : decode cX9_told 141 = .ok (.ireturn, 1) := fq_172 fk_cX9_told_8 13 rfl rfl
theorem dX9_told_142 : decode cX9_told 142 = .ok (.aload_n 0, 1) := fq_42 fk_cX9_told_8 14 rfl rfl
theorem dX9_told_143 : decode cX9_told 143 = .ok (.getfield 40, 3) := fq_180 fk_cX9_told_8 15 rfl rfl rfl rfl rfl
theorem fk_cX9_told_9 : fq_ck cX9_told 144 [0, 40, 5, 182, 0, 146, 172, 42, 180, 0, 40, 6, 182, 0, 146, 172, 42, 180] := fq_of fW_cX9_told 9 rfl rfl
theorem dX9_told_146 : decode cX9_told 146 = .ok (.iconst 2, 1) := fq_5 fk_cX9_told_9 2 rfl rfl
theorem dX9_told_147 : decode cX9_told 147 = .ok (.invokevirtual 146, 3) := fq_182 fk_cX9_told_9 3 rfl rfl rfl rfl rfl
theorem dX9_told_150 : decode cX9_told 150 = .ok (.ireturn, 1) := fq_172 fk_cX9_told_9 6 rfl rfl
theorem dX9_told_151 : decode cX9_told 151 = .ok (.aload_n 0, 1) := fq_42 fk_cX9_told_9 7 rfl rfl
theorem dX9_told_152 : decode cX9_told 152 = .ok (.getfield 40, 3) := fq_180 fk_cX9_told_9 8 rfl rfl rfl rfl rfl
theorem dX9_told_155 : decode cX9_told 155 = .ok (.iconst 3, 1) := fq_6 fk_cX9_told_9 11 rfl rfl
theorem dX9_told_156 : decode cX9_told 156 = .ok (.invokevirtual 146, 3) := fq_182 fk_cX9_told_9 12 rfl rfl rfl rfl rfl
theorem dX9_told_159 : decode cX9_told 159 = .ok (.ireturn, 1) := fq_172 fk_cX9_told_9 15 rfl rfl
theorem fk_cX9_told_10 : fq_ck cX9_told 160 [42, 180, 0, 40, 182, 0, 150, 172, 42, 180, 0, 69, 180, 0, 153, 172, 42, 180] := fq_of fW_cX9_told 10 rfl rfl
theorem dX9_told_160 : decode cX9_told 160 = .ok (.aload_n 0, 1) := fq_42 fk_cX9_told_10 0 rfl rfl
theorem dX9_told_161 : decode cX9_told 161 = .ok (.getfield 40, 3) := fq_180 fk_cX9_told_10 1 rfl rfl rfl rfl rfl
theorem dX9_told_164 : decode cX9_told 164 = .ok (.invokevirtual 150, 3) := fq_182 fk_cX9_told_10 4 rfl rfl rfl rfl rfl
theorem wd_378 : Cond.methodLink RX9 150 yX7_grievanceOfAll ∈ BG := BG_at2 183 (by decide +kernel) rfl
theorem wd_379 : Cond.code yX7_grievanceOfAll cX7_grievanceOfAll 1 (some .int) ∈ BG := BG_at2 186 rfl rfl
theorem wd_380 : Cond.instanceMethod yX7_grievanceOfAll ∈ BG := BG_at2 184 (by decide +kernel) rfl
theorem wd_381 : Cond.selects RX7 yX7_grievanceOfAll yX7_grievanceOfAll ∈ BG := BG_at2 185 (by decide +kernel) rfl
theorem okV_X7_grievanceOfAll : okV yX7_grievanceOfAll cX7_grievanceOfAll 1 (some .int) 0 := ⟨⟨wd_379, wd_93, by decide +kernel⟩, wd_380, wd_381⟩
theorem dX9_told_167 : decode cX9_told 167 = .ok (.ireturn, 1) := fq_172 fk_cX9_told_10 7 rfl rfl
theorem dX9_told_168 : decode cX9_told 168 = .ok (.aload_n 0, 1) := fq_42 fk_cX9_told_10 8 rfl rfl
theorem dX9_told_169 : decode cX9_told 169 = .ok (.getfield 69, 3) := fq_180 fk_cX9_told_10 9 rfl rfl rfl rfl rfl
theorem wd_382 : Cond.fieldLink RX9 153 "QuarrelBridges$Book" "entries" "I" ∈ BG := BG_at1 170 (by decide +kernel) rfl
theorem dX9_told_172 : decode cX9_told 172 = .ok (.getfield 153, 3) := fq_180 fk_cX9_told_10 12 rfl rfl rfl rfl rfl
theorem dX9_told_175 : decode cX9_told 175 = .ok (.ireturn, 1) := fq_172 fk_cX9_told_10 15 rfl rfl
theorem fk_cX9_told_11 : fq_ck cX9_told 176 [42, 180, 0, 47, 180, 0, 156, 172, 18, 104, 172] := fq_of fW_cX9_told 11 rfl rfl
theorem dX9_told_176 : decode cX9_told 176 = .ok (.aload_n 0, 1) := fq_42 fk_cX9_told_11 0 rfl rfl
theorem dX9_told_177 : decode cX9_told 177 = .ok (.getfield 47, 3) := fq_180 fk_cX9_told_11 1 rfl rfl rfl rfl rfl
theorem wd_383 : Cond.fieldLink RX9 156 "QuarrelBridges$History" "count" "I" ∈ BG := BG_at1 153 (by decide +kernel) rfl
theorem dX9_told_180 : decode cX9_told 180 = .ok (.getfield 156, 3) := fq_180 fk_cX9_told_11 4 rfl rfl rfl rfl rfl
theorem dX9_told_183 : decode cX9_told 183 = .ok (.ireturn, 1) := fq_172 fk_cX9_told_11 7 rfl rfl
theorem dX9_told_184 : decode cX9_told 184 = .ok (.ldc 104, 2) := fq_18 fk_cX9_told_11 8 rfl rfl rfl
theorem dX9_told_186 : decode cX9_told 186 = .ok (.ireturn, 1) := fq_172 fk_cX9_told_11 10 rfl rfl
def fw_cX9_send : List (List Nat) := [[42, 180, 0, 30, 27, 182, 0, 174, 153, 0, 25, 42, 180, 0, 30, 28, 182, 0], [182, 0, 159, 153, 0, 14, 42, 180, 0, 30, 29, 182, 0, 192, 154, 0, 6, 18], [6, 18, 163, 172, 42, 180, 0, 40, 28, 182, 0, 171, 54, 4, 42, 180, 0, 40], [0, 40, 27, 182, 0, 189, 154, 0, 15, 21, 4, 2, 159, 0, 12, 21, 4, 27], [4, 27, 159, 0, 6, 18, 217, 172, 42, 180, 0, 47, 42, 180, 0, 40, 182, 0], [182, 0, 218, 42, 180, 0, 40, 27, 182, 0, 183, 54, 5, 42, 180, 0, 40, 27], [40, 27, 28, 182, 0, 222, 42, 180, 0, 40, 27, 29, 182, 0, 226, 21, 5, 172], [5, 172]]
theorem fW_cX9_send : fq_wins 8 cX9_send.data.toList = fw_cX9_send := by decide +kernel
theorem fk_cX9_send_0 : fq_ck cX9_send 0 [42, 180, 0, 30, 27, 182, 0, 174, 153, 0, 25, 42, 180, 0, 30, 28, 182, 0] := fq_of fW_cX9_send 0 rfl rfl
theorem dX9_send_0 : decode cX9_send 0 = .ok (.aload_n 0, 1) := fq_42 fk_cX9_send_0 0 rfl rfl
theorem dX9_send_1 : decode cX9_send 1 = .ok (.getfield 30, 3) := fq_180 fk_cX9_send_0 1 rfl rfl rfl rfl rfl
theorem dX9_send_4 : decode cX9_send 4 = .ok (.iload_n 1, 1) := fq_27 fk_cX9_send_0 4 rfl rfl
theorem dX9_send_5 : decode cX9_send 5 = .ok (.invokevirtual 174, 3) := fq_182 fk_cX9_send_0 5 rfl rfl rfl rfl rfl
theorem dX9_send_8 : decode cX9_send 8 = .ok (.ifCond .eq 25, 3) := fq_153 fk_cX9_send_0 8 rfl rfl rfl rfl rfl
theorem fk_cX9_send_2 : fq_ck cX9_send 32 [6, 18, 163, 172, 42, 180, 0, 40, 28, 182, 0, 171, 54, 4, 42, 180, 0, 40] := fq_of fW_cX9_send 2 rfl rfl
theorem dX9_send_33 : decode cX9_send 33 = .ok (.ldc 163, 2) := fq_18 fk_cX9_send_2 1 rfl rfl rfl
theorem dX9_send_35 : decode cX9_send 35 = .ok (.ireturn, 1) := fq_172 fk_cX9_send_2 3 rfl rfl
theorem dX9_send_11 : decode cX9_send 11 = .ok (.aload_n 0, 1) := fq_42 fk_cX9_send_0 11 rfl rfl
theorem dX9_send_12 : decode cX9_send 12 = .ok (.getfield 30, 3) := fq_180 fk_cX9_send_0 12 rfl rfl rfl rfl rfl
theorem dX9_send_15 : decode cX9_send 15 = .ok (.iload_n 2, 1) := fq_28 fk_cX9_send_0 15 rfl rfl
theorem fk_cX9_send_1 : fq_ck cX9_send 16 [182, 0, 159, 153, 0, 14, 42, 180, 0, 30, 29, 182, 0, 192, 154, 0, 6, 18] := fq_of fW_cX9_send 1 rfl rfl
theorem dX9_send_16 : decode cX9_send 16 = .ok (.invokevirtual 159, 3) := fq_182 fk_cX9_send_1 0 rfl rfl rfl rfl rfl
theorem dX9_send_19 : decode cX9_send 19 = .ok (.ifCond .eq 14, 3) := fq_153 fk_cX9_send_1 3 rfl rfl rfl rfl rfl
theorem dX9_send_22 : decode cX9_send 22 = .ok (.aload_n 0, 1) := fq_42 fk_cX9_send_1 6 rfl rfl
theorem dX9_send_23 : decode cX9_send 23 = .ok (.getfield 30, 3) := fq_180 fk_cX9_send_1 7 rfl rfl rfl rfl rfl
theorem dX9_send_26 : decode cX9_send 26 = .ok (.iload_n 3, 1) := fq_29 fk_cX9_send_1 10 rfl rfl
theorem dX9_send_27 : decode cX9_send 27 = .ok (.invokevirtual 192, 3) := fq_182 fk_cX9_send_1 11 rfl rfl rfl rfl rfl
theorem dX9_send_30 : decode cX9_send 30 = .ok (.ifCond .ne 6, 3) := fq_154 fk_cX9_send_1 14 rfl rfl rfl rfl rfl
theorem dX9_send_36 : decode cX9_send 36 = .ok (.aload_n 0, 1) := fq_42 fk_cX9_send_2 4 rfl rfl
theorem dX9_send_37 : decode cX9_send 37 = .ok (.getfield 40, 3) := fq_180 fk_cX9_send_2 5 rfl rfl rfl rfl rfl
theorem dX9_send_40 : decode cX9_send 40 = .ok (.iload_n 2, 1) := fq_28 fk_cX9_send_2 8 rfl rfl
theorem dX9_send_41 : decode cX9_send 41 = .ok (.invokevirtual 171, 3) := fq_182 fk_cX9_send_2 9 rfl rfl rfl rfl rfl
theorem dX9_send_44 : decode cX9_send 44 = .ok (.istore 4, 2) := fq_54 fk_cX9_send_2 12 rfl rfl rfl
theorem dX9_send_46 : decode cX9_send 46 = .ok (.aload_n 0, 1) := fq_42 fk_cX9_send_2 14 rfl rfl
theorem dX9_send_47 : decode cX9_send 47 = .ok (.getfield 40, 3) := fq_180 fk_cX9_send_2 15 rfl rfl rfl rfl rfl
theorem fk_cX9_send_3 : fq_ck cX9_send 48 [0, 40, 27, 182, 0, 189, 154, 0, 15, 21, 4, 2, 159, 0, 12, 21, 4, 27] := fq_of fW_cX9_send 3 rfl rfl
theorem dX9_send_50 : decode cX9_send 50 = .ok (.iload_n 1, 1) := fq_27 fk_cX9_send_3 2 rfl rfl
theorem dX9_send_51 : decode cX9_send 51 = .ok (.invokevirtual 189, 3) := fq_182 fk_cX9_send_3 3 rfl rfl rfl rfl rfl
theorem dX9_send_54 : decode cX9_send 54 = .ok (.ifCond .ne 15, 3) := fq_154 fk_cX9_send_3 6 rfl rfl rfl rfl rfl
theorem wd_384 : Cond.constant RX9 217 (-1000000003) ∈ BG := BG_at3 26 (by decide +kernel) rfl
theorem fk_cX9_send_4 : fq_ck cX9_send 64 [4, 27, 159, 0, 6, 18, 217, 172, 42, 180, 0, 47, 42, 180, 0, 40, 182, 0] := fq_of fW_cX9_send 4 rfl rfl
theorem dX9_send_69 : decode cX9_send 69 = .ok (.ldc 217, 2) := fq_18 fk_cX9_send_4 5 rfl rfl rfl
theorem dX9_send_71 : decode cX9_send 71 = .ok (.ireturn, 1) := fq_172 fk_cX9_send_4 7 rfl rfl
theorem dX9_send_57 : decode cX9_send 57 = .ok (.iload 4, 2) := fq_21 fk_cX9_send_3 9 rfl rfl rfl
theorem dX9_send_59 : decode cX9_send 59 = .ok (.iconst (-1), 1) := fq_2 fk_cX9_send_3 11 rfl rfl
theorem dX9_send_60 : decode cX9_send 60 = .ok (.if_icmp .eq 12, 3) := fq_159 fk_cX9_send_3 12 rfl rfl rfl rfl rfl
theorem dX9_send_72 : decode cX9_send 72 = .ok (.aload_n 0, 1) := fq_42 fk_cX9_send_4 8 rfl rfl
theorem dX9_send_73 : decode cX9_send 73 = .ok (.getfield 47, 3) := fq_180 fk_cX9_send_4 9 rfl rfl rfl rfl rfl
theorem dX9_send_76 : decode cX9_send 76 = .ok (.aload_n 0, 1) := fq_42 fk_cX9_send_4 12 rfl rfl
theorem dX9_send_77 : decode cX9_send 77 = .ok (.getfield 40, 3) := fq_180 fk_cX9_send_4 13 rfl rfl rfl rfl rfl
theorem fk_cX9_send_5 : fq_ck cX9_send 80 [182, 0, 218, 42, 180, 0, 40, 27, 182, 0, 183, 54, 5, 42, 180, 0, 40, 27] := fq_of fW_cX9_send 5 rfl rfl
theorem dX9_send_80 : decode cX9_send 80 = .ok (.invokevirtual 218, 3) := fq_182 fk_cX9_send_5 0 rfl rfl rfl rfl rfl
theorem wd_385 : Cond.methodLink RX9 218 yX2_remember ∈ BG := BG_at3 27 (by decide +kernel) rfl
theorem wd_386 : Cond.code yX2_remember cX2_remember 2 none ∈ BG := BG_at3 30 rfl rfl
theorem wd_387 : Cond.instanceMethod yX2_remember ∈ BG := BG_at3 28 (by decide +kernel) rfl
theorem wd_388 : Cond.selects RX2 yX2_remember yX2_remember ∈ BG := BG_at3 29 (by decide +kernel) rfl
theorem okV_X2_remember : okV yX2_remember cX2_remember 2 none 1 := ⟨⟨wd_386, wd_99, by decide +kernel⟩, wd_387, wd_388⟩
theorem dX9_send_83 : decode cX9_send 83 = .ok (.aload_n 0, 1) := fq_42 fk_cX9_send_5 3 rfl rfl
theorem dX9_send_84 : decode cX9_send 84 = .ok (.getfield 40, 3) := fq_180 fk_cX9_send_5 4 rfl rfl rfl rfl rfl
theorem dX9_send_87 : decode cX9_send 87 = .ok (.iload_n 1, 1) := fq_27 fk_cX9_send_5 7 rfl rfl
theorem dX9_send_88 : decode cX9_send 88 = .ok (.invokevirtual 183, 3) := fq_182 fk_cX9_send_5 8 rfl rfl rfl rfl rfl
theorem dX9_send_91 : decode cX9_send 91 = .ok (.istore 5, 2) := fq_54 fk_cX9_send_5 11 rfl rfl rfl
theorem dX9_send_93 : decode cX9_send 93 = .ok (.aload_n 0, 1) := fq_42 fk_cX9_send_5 13 rfl rfl
theorem dX9_send_94 : decode cX9_send 94 = .ok (.getfield 40, 3) := fq_180 fk_cX9_send_5 14 rfl rfl rfl rfl rfl
theorem fk_cX9_send_6 : fq_ck cX9_send 96 [40, 27, 28, 182, 0, 222, 42, 180, 0, 40, 27, 29, 182, 0, 226, 21, 5, 172] := fq_of fW_cX9_send 6 rfl rfl
theorem dX9_send_97 : decode cX9_send 97 = .ok (.iload_n 1, 1) := fq_27 fk_cX9_send_6 1 rfl rfl
theorem dX9_send_98 : decode cX9_send 98 = .ok (.iload_n 2, 1) := fq_28 fk_cX9_send_6 2 rfl rfl
theorem dX9_send_99 : decode cX9_send 99 = .ok (.invokevirtual 222, 3) := fq_182 fk_cX9_send_6 3 rfl rfl rfl rfl rfl
theorem wd_389 : Cond.methodLink RX9 222 yX7_place ∈ BG := BG_at3 38 (by decide +kernel) rfl
theorem dX9_send_102 : decode cX9_send 102 = .ok (.aload_n 0, 1) := fq_42 fk_cX9_send_6 6 rfl rfl
theorem dX9_send_103 : decode cX9_send 103 = .ok (.getfield 40, 3) := fq_180 fk_cX9_send_6 7 rfl rfl rfl rfl rfl
theorem dX9_send_106 : decode cX9_send 106 = .ok (.iload_n 1, 1) := fq_27 fk_cX9_send_6 10 rfl rfl
theorem dX9_send_107 : decode cX9_send 107 = .ok (.iload_n 3, 1) := fq_29 fk_cX9_send_6 11 rfl rfl
theorem dX9_send_108 : decode cX9_send 108 = .ok (.invokevirtual 226, 3) := fq_182 fk_cX9_send_6 12 rfl rfl rfl rfl rfl
theorem wd_390 : Cond.methodLink RX9 226 yX7_turnTo ∈ BG := BG_at3 42 (by decide +kernel) rfl
theorem wd_391 : Cond.code yX7_turnTo cX7_turnTo 3 none ∈ BG := BG_at3 45 rfl rfl
theorem wd_392 : Cond.instanceMethod yX7_turnTo ∈ BG := BG_at3 43 (by decide +kernel) rfl
theorem wd_393 : Cond.selects RX7 yX7_turnTo yX7_turnTo ∈ BG := BG_at3 44 (by decide +kernel) rfl
theorem okV_X7_turnTo : okV yX7_turnTo cX7_turnTo 3 none 2 := ⟨⟨wd_391, wd_93, by decide +kernel⟩, wd_392, wd_393⟩
theorem dX9_send_111 : decode cX9_send 111 = .ok (.iload 5, 2) := fq_21 fk_cX9_send_6 15 rfl rfl rfl
theorem fk_cX9_send_7 : fq_ck cX9_send 112 [5, 172] := fq_of fW_cX9_send 7 rfl rfl
theorem dX9_send_113 : decode cX9_send 113 = .ok (.ireturn, 1) := fq_172 fk_cX9_send_7 1 rfl rfl
theorem dX9_send_63 : decode cX9_send 63 = .ok (.iload 4, 2) := fq_21 fk_cX9_send_3 15 rfl rfl rfl
theorem dX9_send_65 : decode cX9_send 65 = .ok (.iload_n 1, 1) := fq_27 fk_cX9_send_4 1 rfl rfl
theorem dX9_send_66 : decode cX9_send 66 = .ok (.if_icmp .eq 6, 3) := fq_159 fk_cX9_send_4 2 rfl rfl rfl rfl rfl
def fw_cX9_home : List (List Nat) := [[42, 180, 0, 30, 27, 182, 0, 174, 154, 0, 6, 18, 163, 172, 42, 180, 0, 40], [0, 40, 27, 182, 0, 183, 61, 28, 2, 160, 0, 6, 18, 217, 172, 42, 180, 0], [180, 0, 47, 42, 180, 0, 40, 182, 0, 218, 42, 180, 0, 40, 27, 2, 182, 0], [182, 0, 222, 28, 172]]
theorem fW_cX9_home : fq_wins 4 cX9_home.data.toList = fw_cX9_home := by decide +kernel
theorem fk_cX9_home_0 : fq_ck cX9_home 0 [42, 180, 0, 30, 27, 182, 0, 174, 154, 0, 6, 18, 163, 172, 42, 180, 0, 40] := fq_of fW_cX9_home 0 rfl rfl
theorem dX9_home_0 : decode cX9_home 0 = .ok (.aload_n 0, 1) := fq_42 fk_cX9_home_0 0 rfl rfl
theorem dX9_home_1 : decode cX9_home 1 = .ok (.getfield 30, 3) := fq_180 fk_cX9_home_0 1 rfl rfl rfl rfl rfl
theorem dX9_home_4 : decode cX9_home 4 = .ok (.iload_n 1, 1) := fq_27 fk_cX9_home_0 4 rfl rfl
theorem dX9_home_5 : decode cX9_home 5 = .ok (.invokevirtual 174, 3) := fq_182 fk_cX9_home_0 5 rfl rfl rfl rfl rfl
theorem dX9_home_8 : decode cX9_home 8 = .ok (.ifCond .ne 6, 3) := fq_154 fk_cX9_home_0 8 rfl rfl rfl rfl rfl
theorem dX9_home_14 : decode cX9_home 14 = .ok (.aload_n 0, 1) := fq_42 fk_cX9_home_0 14 rfl rfl
theorem dX9_home_15 : decode cX9_home 15 = .ok (.getfield 40, 3) := fq_180 fk_cX9_home_0 15 rfl rfl rfl rfl rfl
theorem fk_cX9_home_1 : fq_ck cX9_home 16 [0, 40, 27, 182, 0, 183, 61, 28, 2, 160, 0, 6, 18, 217, 172, 42, 180, 0] := fq_of fW_cX9_home 1 rfl rfl
theorem dX9_home_18 : decode cX9_home 18 = .ok (.iload_n 1, 1) := fq_27 fk_cX9_home_1 2 rfl rfl
theorem dX9_home_19 : decode cX9_home 19 = .ok (.invokevirtual 183, 3) := fq_182 fk_cX9_home_1 3 rfl rfl rfl rfl rfl
theorem dX9_home_22 : decode cX9_home 22 = .ok (.istore_n 2, 1) := fq_61 fk_cX9_home_1 6 rfl rfl
theorem dX9_home_23 : decode cX9_home 23 = .ok (.iload_n 2, 1) := fq_28 fk_cX9_home_1 7 rfl rfl
theorem dX9_home_24 : decode cX9_home 24 = .ok (.iconst (-1), 1) := fq_2 fk_cX9_home_1 8 rfl rfl
theorem dX9_home_25 : decode cX9_home 25 = .ok (.if_icmp .ne 6, 3) := fq_160 fk_cX9_home_1 9 rfl rfl rfl rfl rfl
theorem dX9_home_31 : decode cX9_home 31 = .ok (.aload_n 0, 1) := fq_42 fk_cX9_home_1 15 rfl rfl
theorem fk_cX9_home_2 : fq_ck cX9_home 32 [180, 0, 47, 42, 180, 0, 40, 182, 0, 218, 42, 180, 0, 40, 27, 2, 182, 0] := fq_of fW_cX9_home 2 rfl rfl
theorem dX9_home_32 : decode cX9_home 32 = .ok (.getfield 47, 3) := fq_180 fk_cX9_home_2 0 rfl rfl rfl rfl rfl
theorem dX9_home_35 : decode cX9_home 35 = .ok (.aload_n 0, 1) := fq_42 fk_cX9_home_2 3 rfl rfl
theorem dX9_home_36 : decode cX9_home 36 = .ok (.getfield 40, 3) := fq_180 fk_cX9_home_2 4 rfl rfl rfl rfl rfl
theorem dX9_home_39 : decode cX9_home 39 = .ok (.invokevirtual 218, 3) := fq_182 fk_cX9_home_2 7 rfl rfl rfl rfl rfl
theorem dX9_home_42 : decode cX9_home 42 = .ok (.aload_n 0, 1) := fq_42 fk_cX9_home_2 10 rfl rfl
theorem dX9_home_43 : decode cX9_home 43 = .ok (.getfield 40, 3) := fq_180 fk_cX9_home_2 11 rfl rfl rfl rfl rfl
theorem dX9_home_46 : decode cX9_home 46 = .ok (.iload_n 1, 1) := fq_27 fk_cX9_home_2 14 rfl rfl
theorem dX9_home_47 : decode cX9_home 47 = .ok (.iconst (-1), 1) := fq_2 fk_cX9_home_2 15 rfl rfl
theorem fk_cX9_home_3 : fq_ck cX9_home 48 [182, 0, 222, 28, 172] := fq_of fW_cX9_home 3 rfl rfl
theorem dX9_home_48 : decode cX9_home 48 = .ok (.invokevirtual 222, 3) := fq_182 fk_cX9_home_3 0 rfl rfl rfl rfl rfl
theorem dX9_home_51 : decode cX9_home 51 = .ok (.iload_n 2, 1) := fq_28 fk_cX9_home_3 3 rfl rfl
theorem dX9_home_52 : decode cX9_home 52 = .ok (.ireturn, 1) := fq_172 fk_cX9_home_3 4 rfl rfl
theorem dX9_home_28 : decode cX9_home 28 = .ok (.ldc 217, 2) := fq_18 fk_cX9_home_1 12 rfl rfl rfl
theorem dX9_home_30 : decode cX9_home 30 = .ok (.ireturn, 1) := fq_172 fk_cX9_home_1 14 rfl rfl
theorem dX9_home_11 : decode cX9_home 11 = .ok (.ldc 163, 2) := fq_18 fk_cX9_home_0 11 rfl rfl rfl
theorem dX9_home_13 : decode cX9_home 13 = .ok (.ireturn, 1) := fq_172 fk_cX9_home_0 13 rfl rfl
def fw_cX9_grieve : List (List Nat) := [[42, 180, 0, 30, 27, 182, 0, 174, 154, 0, 6, 18, 163, 172, 28, 4, 161, 0], [161, 0, 9, 28, 16, 99, 164, 0, 6, 18, 104, 172, 42, 180, 0, 40, 27, 182], [27, 182, 0, 189, 153, 0, 6, 18, 217, 172, 42, 180, 0, 47, 42, 180, 0, 40], [0, 40, 182, 0, 218, 42, 180, 0, 40, 27, 28, 182, 0, 244, 42, 180, 0, 40], [0, 40, 27, 182, 0, 177, 172]]
theorem fW_cX9_grieve : fq_wins 5 cX9_grieve.data.toList = fw_cX9_grieve := by decide +kernel
theorem fk_cX9_grieve_0 : fq_ck cX9_grieve 0 [42, 180, 0, 30, 27, 182, 0, 174, 154, 0, 6, 18, 163, 172, 28, 4, 161, 0] := fq_of fW_cX9_grieve 0 rfl rfl
theorem dX9_grieve_0 : decode cX9_grieve 0 = .ok (.aload_n 0, 1) := fq_42 fk_cX9_grieve_0 0 rfl rfl
theorem dX9_grieve_1 : decode cX9_grieve 1 = .ok (.getfield 30, 3) := fq_180 fk_cX9_grieve_0 1 rfl rfl rfl rfl rfl
theorem dX9_grieve_4 : decode cX9_grieve 4 = .ok (.iload_n 1, 1) := fq_27 fk_cX9_grieve_0 4 rfl rfl
theorem dX9_grieve_5 : decode cX9_grieve 5 = .ok (.invokevirtual 174, 3) := fq_182 fk_cX9_grieve_0 5 rfl rfl rfl rfl rfl
theorem dX9_grieve_8 : decode cX9_grieve 8 = .ok (.ifCond .ne 6, 3) := fq_154 fk_cX9_grieve_0 8 rfl rfl rfl rfl rfl
theorem dX9_grieve_14 : decode cX9_grieve 14 = .ok (.iload_n 2, 1) := fq_28 fk_cX9_grieve_0 14 rfl rfl
theorem dX9_grieve_15 : decode cX9_grieve 15 = .ok (.iconst 1, 1) := fq_4 fk_cX9_grieve_0 15 rfl rfl
theorem fk_cX9_grieve_1 : fq_ck cX9_grieve 16 [161, 0, 9, 28, 16, 99, 164, 0, 6, 18, 104, 172, 42, 180, 0, 40, 27, 182] := fq_of fW_cX9_grieve 1 rfl rfl
theorem dX9_grieve_16 : decode cX9_grieve 16 = .ok (.if_icmp .lt 9, 3) := fq_161 fk_cX9_grieve_1 0 rfl rfl rfl rfl rfl
theorem dX9_grieve_25 : decode cX9_grieve 25 = .ok (.ldc 104, 2) := fq_18 fk_cX9_grieve_1 9 rfl rfl rfl
theorem dX9_grieve_27 : decode cX9_grieve 27 = .ok (.ireturn, 1) := fq_172 fk_cX9_grieve_1 11 rfl rfl
theorem dX9_grieve_19 : decode cX9_grieve 19 = .ok (.iload_n 2, 1) := fq_28 fk_cX9_grieve_1 3 rfl rfl
theorem dX9_grieve_20 : decode cX9_grieve 20 = .ok (.bipush 99, 2) := fq_16 fk_cX9_grieve_1 4 rfl rfl rfl rfl
theorem dX9_grieve_22 : decode cX9_grieve 22 = .ok (.if_icmp .le 6, 3) := fq_164 fk_cX9_grieve_1 6 rfl rfl rfl rfl rfl
theorem dX9_grieve_28 : decode cX9_grieve 28 = .ok (.aload_n 0, 1) := fq_42 fk_cX9_grieve_1 12 rfl rfl
theorem dX9_grieve_29 : decode cX9_grieve 29 = .ok (.getfield 40, 3) := fq_180 fk_cX9_grieve_1 13 rfl rfl rfl rfl rfl
theorem fk_cX9_grieve_2 : fq_ck cX9_grieve 32 [27, 182, 0, 189, 153, 0, 6, 18, 217, 172, 42, 180, 0, 47, 42, 180, 0, 40] := fq_of fW_cX9_grieve 2 rfl rfl
theorem dX9_grieve_32 : decode cX9_grieve 32 = .ok (.iload_n 1, 1) := fq_27 fk_cX9_grieve_2 0 rfl rfl
theorem dX9_grieve_33 : decode cX9_grieve 33 = .ok (.invokevirtual 189, 3) := fq_182 fk_cX9_grieve_2 1 rfl rfl rfl rfl rfl
theorem dX9_grieve_36 : decode cX9_grieve 36 = .ok (.ifCond .eq 6, 3) := fq_153 fk_cX9_grieve_2 4 rfl rfl rfl rfl rfl
theorem dX9_grieve_42 : decode cX9_grieve 42 = .ok (.aload_n 0, 1) := fq_42 fk_cX9_grieve_2 10 rfl rfl
theorem dX9_grieve_43 : decode cX9_grieve 43 = .ok (.getfield 47, 3) := fq_180 fk_cX9_grieve_2 11 rfl rfl rfl rfl rfl
theorem dX9_grieve_46 : decode cX9_grieve 46 = .ok (.aload_n 0, 1) := fq_42 fk_cX9_grieve_2 14 rfl rfl
theorem dX9_grieve_47 : decode cX9_grieve 47 = .ok (.getfield 40, 3) := fq_180 fk_cX9_grieve_2 15 rfl rfl rfl rfl rfl
theorem fk_cX9_grieve_3 : fq_ck cX9_grieve 48 [0, 40, 182, 0, 218, 42, 180, 0, 40, 27, 28, 182, 0, 244, 42, 180, 0, 40] := fq_of fW_cX9_grieve 3 rfl rfl
theorem dX9_grieve_50 : decode cX9_grieve 50 = .ok (.invokevirtual 218, 3) := fq_182 fk_cX9_grieve_3 2 rfl rfl rfl rfl rfl
theorem dX9_grieve_53 : decode cX9_grieve 53 = .ok (.aload_n 0, 1) := fq_42 fk_cX9_grieve_3 5 rfl rfl
theorem dX9_grieve_54 : decode cX9_grieve 54 = .ok (.getfield 40, 3) := fq_180 fk_cX9_grieve_3 6 rfl rfl rfl rfl rfl
theorem dX9_grieve_57 : decode cX9_grieve 57 = .ok (.iload_n 1, 1) := fq_27 fk_cX9_grieve_3 9 rfl rfl
theorem dX9_grieve_58 : decode cX9_grieve 58 = .ok (.iload_n 2, 1) := fq_28 fk_cX9_grieve_3 10 rfl rfl
theorem dX9_grieve_59 : decode cX9_grieve 59 = .ok (.invokevirtual 244, 3) := fq_182 fk_cX9_grieve_3 11 rfl rfl rfl rfl rfl
theorem wd_394 : Cond.methodLink RX9 244 yX7_embitter ∈ BG := BG_at3 99 (by decide +kernel) rfl
theorem wd_395 : Cond.code yX7_embitter cX7_embitter 3 none ∈ BG := BG_at3 102 rfl rfl
theorem wd_396 : Cond.instanceMethod yX7_embitter ∈ BG := BG_at3 100 (by decide +kernel) rfl
theorem wd_397 : Cond.selects RX7 yX7_embitter yX7_embitter ∈ BG := BG_at3 101 (by decide +kernel) rfl
theorem okV_X7_embitter : okV yX7_embitter cX7_embitter 3 none 2 := ⟨⟨wd_395, wd_93, by decide +kernel⟩, wd_396, wd_397⟩
theorem dX9_grieve_62 : decode cX9_grieve 62 = .ok (.aload_n 0, 1) := fq_42 fk_cX9_grieve_3 14 rfl rfl
theorem dX9_grieve_63 : decode cX9_grieve 63 = .ok (.getfield 40, 3) := fq_180 fk_cX9_grieve_3 15 rfl rfl rfl rfl rfl
theorem fk_cX9_grieve_4 : fq_ck cX9_grieve 64 [0, 40, 27, 182, 0, 177, 172] := fq_of fW_cX9_grieve 4 rfl rfl
theorem dX9_grieve_66 : decode cX9_grieve 66 = .ok (.iload_n 1, 1) := fq_27 fk_cX9_grieve_4 2 rfl rfl
theorem dX9_grieve_67 : decode cX9_grieve 67 = .ok (.invokevirtual 177, 3) := fq_182 fk_cX9_grieve_4 3 rfl rfl rfl rfl rfl
theorem dX9_grieve_70 : decode cX9_grieve 70 = .ok (.ireturn, 1) := fq_172 fk_cX9_grieve_4 6 rfl rfl
theorem dX9_grieve_39 : decode cX9_grieve 39 = .ok (.ldc 217, 2) := fq_18 fk_cX9_grieve_2 7 rfl rfl rfl
theorem dX9_grieve_41 : decode cX9_grieve 41 = .ok (.ireturn, 1) := fq_172 fk_cX9_grieve_2 9 rfl rfl
theorem dX9_grieve_11 : decode cX9_grieve 11 = .ok (.ldc 163, 2) := fq_18 fk_cX9_grieve_0 11 rfl rfl rfl
theorem dX9_grieve_13 : decode cX9_grieve 13 = .ok (.ireturn, 1) := fq_172 fk_cX9_grieve_0 13 rfl rfl
def fw_cX9_drift : List (List Nat) := [[27, 4, 161, 0, 9, 27, 16, 99, 164, 0, 6, 18, 104, 172, 42, 180, 0, 30], [0, 30, 180, 0, 130, 154, 0, 6, 18, 217, 172, 42, 180, 0, 40, 182, 0, 139], [0, 139, 18, 229, 164, 0, 6, 18, 105, 172, 42, 180, 0, 47, 42, 180, 0, 40], [0, 40, 182, 0, 218, 3, 61, 28, 27, 162, 0, 58, 42, 42, 180, 0, 30, 180], [30, 180, 0, 130, 182, 0, 247, 62, 42, 16, 10, 182, 0, 247, 54, 4, 42, 180], [42, 180, 0, 40, 29, 182, 0, 189, 154, 0, 13, 42, 180, 0, 40, 29, 21, 4], [21, 4, 182, 0, 244, 42, 180, 0, 40, 4, 182, 0, 250, 132, 2, 1, 167, 255], [167, 255, 199, 42, 180, 0, 40, 182, 0, 139, 172]]
theorem fW_cX9_drift : fq_wins 8 cX9_drift.data.toList = fw_cX9_drift := by decide +kernel
theorem fk_cX9_drift_0 : fq_ck cX9_drift 0 [27, 4, 161, 0, 9, 27, 16, 99, 164, 0, 6, 18, 104, 172, 42, 180, 0, 30] := fq_of fW_cX9_drift 0 rfl rfl
theorem dX9_drift_0 : decode cX9_drift 0 = .ok (.iload_n 1, 1) := fq_27 fk_cX9_drift_0 0 rfl rfl
theorem dX9_drift_1 : decode cX9_drift 1 = .ok (.iconst 1, 1) := fq_4 fk_cX9_drift_0 1 rfl rfl
theorem dX9_drift_2 : decode cX9_drift 2 = .ok (.if_icmp .lt 9, 3) := fq_161 fk_cX9_drift_0 2 rfl rfl rfl rfl rfl
theorem dX9_drift_11 : decode cX9_drift 11 = .ok (.ldc 104, 2) := fq_18 fk_cX9_drift_0 11 rfl rfl rfl
theorem dX9_drift_13 : decode cX9_drift 13 = .ok (.ireturn, 1) := fq_172 fk_cX9_drift_0 13 rfl rfl
theorem dX9_drift_5 : decode cX9_drift 5 = .ok (.iload_n 1, 1) := fq_27 fk_cX9_drift_0 5 rfl rfl
theorem dX9_drift_6 : decode cX9_drift 6 = .ok (.bipush 99, 2) := fq_16 fk_cX9_drift_0 6 rfl rfl rfl rfl
theorem dX9_drift_8 : decode cX9_drift 8 = .ok (.if_icmp .le 6, 3) := fq_164 fk_cX9_drift_0 8 rfl rfl rfl rfl rfl
theorem dX9_drift_14 : decode cX9_drift 14 = .ok (.aload_n 0, 1) := fq_42 fk_cX9_drift_0 14 rfl rfl
theorem dX9_drift_15 : decode cX9_drift 15 = .ok (.getfield 30, 3) := fq_180 fk_cX9_drift_0 15 rfl rfl rfl rfl rfl
theorem fk_cX9_drift_1 : fq_ck cX9_drift 16 [0, 30, 180, 0, 130, 154, 0, 6, 18, 217, 172, 42, 180, 0, 40, 182, 0, 139] := fq_of fW_cX9_drift 1 rfl rfl
theorem dX9_drift_18 : decode cX9_drift 18 = .ok (.getfield 130, 3) := fq_180 fk_cX9_drift_1 2 rfl rfl rfl rfl rfl
theorem dX9_drift_21 : decode cX9_drift 21 = .ok (.ifCond .ne 6, 3) := fq_154 fk_cX9_drift_1 5 rfl rfl rfl rfl rfl
theorem dX9_drift_27 : decode cX9_drift 27 = .ok (.aload_n 0, 1) := fq_42 fk_cX9_drift_1 11 rfl rfl
theorem dX9_drift_28 : decode cX9_drift 28 = .ok (.getfield 40, 3) := fq_180 fk_cX9_drift_1 12 rfl rfl rfl rfl rfl
theorem dX9_drift_31 : decode cX9_drift 31 = .ok (.invokevirtual 139, 3) := fq_182 fk_cX9_drift_1 15 rfl rfl rfl rfl rfl
theorem wd_398 : Cond.constant RX9 229 (90000) ∈ BG := BG_at3 54 (by decide +kernel) rfl
theorem fk_cX9_drift_2 : fq_ck cX9_drift 32 [0, 139, 18, 229, 164, 0, 6, 18, 105, 172, 42, 180, 0, 47, 42, 180, 0, 40] := fq_of fW_cX9_drift 2 rfl rfl
theorem dX9_drift_34 : decode cX9_drift 34 = .ok (.ldc 229, 2) := fq_18 fk_cX9_drift_2 2 rfl rfl rfl
theorem dX9_drift_36 : decode cX9_drift 36 = .ok (.if_icmp .le 6, 3) := fq_164 fk_cX9_drift_2 4 rfl rfl rfl rfl rfl
theorem dX9_drift_42 : decode cX9_drift 42 = .ok (.aload_n 0, 1) := fq_42 fk_cX9_drift_2 10 rfl rfl
theorem dX9_drift_43 : decode cX9_drift 43 = .ok (.getfield 47, 3) := fq_180 fk_cX9_drift_2 11 rfl rfl rfl rfl rfl
theorem dX9_drift_46 : decode cX9_drift 46 = .ok (.aload_n 0, 1) := fq_42 fk_cX9_drift_2 14 rfl rfl
theorem dX9_drift_47 : decode cX9_drift 47 = .ok (.getfield 40, 3) := fq_180 fk_cX9_drift_2 15 rfl rfl rfl rfl rfl
theorem fk_cX9_drift_3 : fq_ck cX9_drift 48 [0, 40, 182, 0, 218, 3, 61, 28, 27, 162, 0, 58, 42, 42, 180, 0, 30, 180] := fq_of fW_cX9_drift 3 rfl rfl
theorem dX9_drift_50 : decode cX9_drift 50 = .ok (.invokevirtual 218, 3) := fq_182 fk_cX9_drift_3 2 rfl rfl rfl rfl rfl
theorem dX9_drift_53 : decode cX9_drift 53 = .ok (.iconst 0, 1) := fq_3 fk_cX9_drift_3 5 rfl rfl
theorem dX9_drift_54 : decode cX9_drift 54 = .ok (.istore_n 2, 1) := fq_61 fk_cX9_drift_3 6 rfl rfl
theorem fk_cX9_drift_7 : fq_ck cX9_drift 112 [167, 255, 199, 42, 180, 0, 40, 182, 0, 139, 172] := fq_of fW_cX9_drift 7 rfl rfl
theorem dX9_drift_115 : decode cX9_drift 115 = .ok (.aload_n 0, 1) := fq_42 fk_cX9_drift_7 3 rfl rfl
theorem dX9_drift_116 : decode cX9_drift 116 = .ok (.getfield 40, 3) := fq_180 fk_cX9_drift_7 4 rfl rfl rfl rfl rfl
theorem dX9_drift_119 : decode cX9_drift 119 = .ok (.invokevirtual 139, 3) := fq_182 fk_cX9_drift_7 7 rfl rfl rfl rfl rfl
theorem dX9_drift_122 : decode cX9_drift 122 = .ok (.ireturn, 1) := fq_172 fk_cX9_drift_7 10 rfl rfl
theorem dX9_drift_55 : decode cX9_drift 55 = .ok (.iload_n 2, 1) := fq_28 fk_cX9_drift_3 7 rfl rfl
theorem dX9_drift_56 : decode cX9_drift 56 = .ok (.iload_n 1, 1) := fq_27 fk_cX9_drift_3 8 rfl rfl
theorem dX9_drift_57 : decode cX9_drift 57 = .ok (.if_icmp .ge 58, 3) := fq_162 fk_cX9_drift_3 9 rfl rfl rfl rfl rfl
theorem dX9_drift_60 : decode cX9_drift 60 = .ok (.aload_n 0, 1) := fq_42 fk_cX9_drift_3 12 rfl rfl
theorem dX9_drift_61 : decode cX9_drift 61 = .ok (.aload_n 0, 1) := fq_42 fk_cX9_drift_3 13 rfl rfl
theorem dX9_drift_62 : decode cX9_drift 62 = .ok (.getfield 30, 3) := fq_180 fk_cX9_drift_3 14 rfl rfl rfl rfl rfl
theorem fk_cX9_drift_4 : fq_ck cX9_drift 64 [30, 180, 0, 130, 182, 0, 247, 62, 42, 16, 10, 182, 0, 247, 54, 4, 42, 180] := fq_of fW_cX9_drift 4 rfl rfl
theorem dX9_drift_65 : decode cX9_drift 65 = .ok (.getfield 130, 3) := fq_180 fk_cX9_drift_4 1 rfl rfl rfl rfl rfl
theorem dX9_drift_68 : decode cX9_drift 68 = .ok (.invokevirtual 247, 3) := fq_182 fk_cX9_drift_4 4 rfl rfl rfl rfl rfl
theorem wd_399 : Cond.methodLink RX9 247 yX9_draw ∈ BG := BG_at3 109 (by decide +kernel) rfl
theorem wd_400 : Cond.code yX9_draw cX9_draw 2 (some .int) ∈ BG := BG_at3 112 rfl rfl
theorem wd_401 : Cond.instanceMethod yX9_draw ∈ BG := BG_at3 111 (by decide +kernel) rfl
theorem wd_402 : Cond.selects RX9 yX9_draw yX9_draw ∈ BG := BG_in (by decide +kernel) rfl
theorem okV_X9_draw : okV yX9_draw cX9_draw 2 (some .int) 1 := ⟨⟨wd_400, wd_71, by decide +kernel⟩, wd_401, wd_402⟩
theorem dX9_drift_71 : decode cX9_drift 71 = .ok (.istore_n 3, 1) := fq_62 fk_cX9_drift_4 7 rfl rfl
theorem dX9_drift_72 : decode cX9_drift 72 = .ok (.aload_n 0, 1) := fq_42 fk_cX9_drift_4 8 rfl rfl
theorem dX9_drift_73 : decode cX9_drift 73 = .ok (.bipush 10, 2) := fq_16 fk_cX9_drift_4 9 rfl rfl rfl rfl
theorem dX9_drift_75 : decode cX9_drift 75 = .ok (.invokevirtual 247, 3) := fq_182 fk_cX9_drift_4 11 rfl rfl rfl rfl rfl
theorem dX9_drift_78 : decode cX9_drift 78 = .ok (.istore 4, 2) := fq_54 fk_cX9_drift_4 14 rfl rfl rfl
theorem fk_cX9_drift_5 : fq_ck cX9_drift 80 [42, 180, 0, 40, 29, 182, 0, 189, 154, 0, 13, 42, 180, 0, 40, 29, 21, 4] := fq_of fW_cX9_drift 5 rfl rfl
theorem dX9_drift_80 : decode cX9_drift 80 = .ok (.aload_n 0, 1) := fq_42 fk_cX9_drift_5 0 rfl rfl
theorem dX9_drift_81 : decode cX9_drift 81 = .ok (.getfield 40, 3) := fq_180 fk_cX9_drift_5 1 rfl rfl rfl rfl rfl
theorem dX9_drift_84 : decode cX9_drift 84 = .ok (.iload_n 3, 1) := fq_29 fk_cX9_drift_5 4 rfl rfl
theorem dX9_drift_85 : decode cX9_drift 85 = .ok (.invokevirtual 189, 3) := fq_182 fk_cX9_drift_5 5 rfl rfl rfl rfl rfl
theorem dX9_drift_88 : decode cX9_drift 88 = .ok (.ifCond .ne 13, 3) := fq_154 fk_cX9_drift_5 8 rfl rfl rfl rfl rfl
theorem fk_cX9_drift_6 : fq_ck cX9_drift 96 [21, 4, 182, 0, 244, 42, 180, 0, 40, 4, 182, 0, 250, 132, 2, 1, 167, 255] := fq_of fW_cX9_drift 6 rfl rfl
theorem dX9_drift_101 : decode cX9_drift 101 = .ok (.aload_n 0, 1) := fq_42 fk_cX9_drift_6 5 rfl rfl
theorem dX9_drift_102 : decode cX9_drift 102 = .ok (.getfield 40, 3) := fq_180 fk_cX9_drift_6 6 rfl rfl rfl rfl rfl
theorem dX9_drift_105 : decode cX9_drift 105 = .ok (.iconst 1, 1) := fq_4 fk_cX9_drift_6 9 rfl rfl
theorem dX9_drift_106 : decode cX9_drift 106 = .ok (.invokevirtual 250, 3) := fq_182 fk_cX9_drift_6 10 rfl rfl rfl rfl rfl
theorem dX9_drift_109 : decode cX9_drift 109 = .ok (.iinc 2 1, 3) := fq_132 fk_cX9_drift_6 13 rfl rfl rfl rfl rfl
theorem dX9_drift_112 : decode cX9_drift 112 = .ok (.goto (-57), 3) := fq_167 fk_cX9_drift_7 0 rfl rfl rfl rfl rfl
theorem dX9_drift_91 : decode cX9_drift 91 = .ok (.aload_n 0, 1) := fq_42 fk_cX9_drift_5 11 rfl rfl
theorem dX9_drift_92 : decode cX9_drift 92 = .ok (.getfield 40, 3) := fq_180 fk_cX9_drift_5 12 rfl rfl rfl rfl rfl
theorem dX9_drift_95 : decode cX9_drift 95 = .ok (.iload_n 3, 1) := fq_29 fk_cX9_drift_5 15 rfl rfl
theorem dX9_drift_96 : decode cX9_drift 96 = .ok (.iload 4, 2) := fq_21 fk_cX9_drift_6 0 rfl rfl rfl
theorem dX9_drift_98 : decode cX9_drift 98 = .ok (.invokevirtual 244, 3) := fq_182 fk_cX9_drift_6 2 rfl rfl rfl rfl rfl
theorem dX9_drift_39 : decode cX9_drift 39 = .ok (.ldc 105, 2) := fq_18 fk_cX9_drift_2 7 rfl rfl rfl
theorem dX9_drift_41 : decode cX9_drift 41 = .ok (.ireturn, 1) := fq_172 fk_cX9_drift_2 9 rfl rfl
theorem dX9_drift_24 : decode cX9_drift 24 = .ok (.ldc 217, 2) := fq_18 fk_cX9_drift_1 8 rfl rfl rfl
theorem dX9_drift_26 : decode cX9_drift 26 = .ok (.ireturn, 1) := fq_172 fk_cX9_drift_1 10 rfl rfl
def fw_cX9_undo : List (List Nat) := [[42, 180, 0, 47, 180, 0, 156, 154, 0, 6, 18, 217, 172, 42, 180, 0, 47, 42], [47, 42, 180, 0, 40, 182, 0, 253, 42, 180, 0, 47, 180, 0, 156, 172]]
theorem fW_cX9_undo : fq_wins 2 cX9_undo.data.toList = fw_cX9_undo := by decide +kernel
theorem fk_cX9_undo_0 : fq_ck cX9_undo 0 [42, 180, 0, 47, 180, 0, 156, 154, 0, 6, 18, 217, 172, 42, 180, 0, 47, 42] := fq_of fW_cX9_undo 0 rfl rfl
theorem dX9_undo_0 : decode cX9_undo 0 = .ok (.aload_n 0, 1) := fq_42 fk_cX9_undo_0 0 rfl rfl
theorem dX9_undo_1 : decode cX9_undo 1 = .ok (.getfield 47, 3) := fq_180 fk_cX9_undo_0 1 rfl rfl rfl rfl rfl
theorem dX9_undo_4 : decode cX9_undo 4 = .ok (.getfield 156, 3) := fq_180 fk_cX9_undo_0 4 rfl rfl rfl rfl rfl
theorem dX9_undo_7 : decode cX9_undo 7 = .ok (.ifCond .ne 6, 3) := fq_154 fk_cX9_undo_0 7 rfl rfl rfl rfl rfl
theorem dX9_undo_13 : decode cX9_undo 13 = .ok (.aload_n 0, 1) := fq_42 fk_cX9_undo_0 13 rfl rfl
theorem dX9_undo_14 : decode cX9_undo 14 = .ok (.getfield 47, 3) := fq_180 fk_cX9_undo_0 14 rfl rfl rfl rfl rfl
theorem fk_cX9_undo_1 : fq_ck cX9_undo 16 [47, 42, 180, 0, 40, 182, 0, 253, 42, 180, 0, 47, 180, 0, 156, 172] := fq_of fW_cX9_undo 1 rfl rfl
theorem dX9_undo_17 : decode cX9_undo 17 = .ok (.aload_n 0, 1) := fq_42 fk_cX9_undo_1 1 rfl rfl
theorem dX9_undo_18 : decode cX9_undo 18 = .ok (.getfield 40, 3) := fq_180 fk_cX9_undo_1 2 rfl rfl rfl rfl rfl
theorem dX9_undo_21 : decode cX9_undo 21 = .ok (.invokevirtual 253, 3) := fq_182 fk_cX9_undo_1 5 rfl rfl rfl rfl rfl
theorem wd_403 : Cond.methodLink RX9 253 yX2_takeBack ∈ BG := BG_at3 121 (by decide +kernel) rfl
theorem wd_404 : Cond.code yX2_takeBack cX2_takeBack 2 none ∈ BG := BG_at3 124 rfl rfl
theorem wd_405 : Cond.instanceMethod yX2_takeBack ∈ BG := BG_at3 122 (by decide +kernel) rfl
theorem wd_406 : Cond.selects RX2 yX2_takeBack yX2_takeBack ∈ BG := BG_at3 123 (by decide +kernel) rfl
theorem okV_X2_takeBack : okV yX2_takeBack cX2_takeBack 2 none 1 := ⟨⟨wd_404, wd_99, by decide +kernel⟩, wd_405, wd_406⟩
theorem dX9_undo_24 : decode cX9_undo 24 = .ok (.aload_n 0, 1) := fq_42 fk_cX9_undo_1 8 rfl rfl
theorem dX9_undo_25 : decode cX9_undo 25 = .ok (.getfield 47, 3) := fq_180 fk_cX9_undo_1 9 rfl rfl rfl rfl rfl
theorem dX9_undo_28 : decode cX9_undo 28 = .ok (.getfield 156, 3) := fq_180 fk_cX9_undo_1 12 rfl rfl rfl rfl rfl
theorem dX9_undo_31 : decode cX9_undo 31 = .ok (.ireturn, 1) := fq_172 fk_cX9_undo_1 15 rfl rfl
theorem dX9_undo_10 : decode cX9_undo 10 = .ok (.ldc 217, 2) := fq_18 fk_cX9_undo_0 10 rfl rfl rfl
theorem dX9_undo_12 : decode cX9_undo 12 = .ok (.ireturn, 1) := fq_172 fk_cX9_undo_0 12 rfl rfl
def fw_cX9_could : List (List Nat) := [[42, 180, 0, 30, 27, 182, 0, 174, 153, 0, 25, 42, 180, 0, 30, 28, 182, 0], [182, 0, 159, 153, 0, 14, 42, 180, 0, 30, 29, 182, 0, 192, 154, 0, 6, 18], [6, 18, 163, 172, 21, 4, 153, 0, 12, 21, 4, 4, 159, 0, 6, 18, 104, 172], [104, 172, 42, 180, 0, 40, 27, 182, 0, 189, 153, 0, 5, 2, 172, 42, 27, 28], [27, 28, 29, 182, 1, 0, 42, 180, 0, 79, 180, 1, 4, 154, 0, 5, 2, 172], [2, 172, 21, 4, 154, 0, 13, 42, 180, 0, 79, 180, 1, 8, 167, 0, 10, 42], [10, 42, 180, 0, 79, 180, 1, 10, 172]]
theorem fW_cX9_could : fq_wins 7 cX9_could.data.toList = fw_cX9_could := by decide +kernel
theorem fk_cX9_could_0 : fq_ck cX9_could 0 [42, 180, 0, 30, 27, 182, 0, 174, 153, 0, 25, 42, 180, 0, 30, 28, 182, 0] := fq_of fW_cX9_could 0 rfl rfl
theorem dX9_could_0 : decode cX9_could 0 = .ok (.aload_n 0, 1) := fq_42 fk_cX9_could_0 0 rfl rfl
theorem dX9_could_1 : decode cX9_could 1 = .ok (.getfield 30, 3) := fq_180 fk_cX9_could_0 1 rfl rfl rfl rfl rfl
theorem dX9_could_4 : decode cX9_could 4 = .ok (.iload_n 1, 1) := fq_27 fk_cX9_could_0 4 rfl rfl
theorem dX9_could_5 : decode cX9_could 5 = .ok (.invokevirtual 174, 3) := fq_182 fk_cX9_could_0 5 rfl rfl rfl rfl rfl
theorem dX9_could_8 : decode cX9_could 8 = .ok (.ifCond .eq 25, 3) := fq_153 fk_cX9_could_0 8 rfl rfl rfl rfl rfl
theorem fk_cX9_could_2 : fq_ck cX9_could 32 [6, 18, 163, 172, 21, 4, 153, 0, 12, 21, 4, 4, 159, 0, 6, 18, 104, 172] := fq_of fW_cX9_could 2 rfl rfl
theorem dX9_could_33 : decode cX9_could 33 = .ok (.ldc 163, 2) := fq_18 fk_cX9_could_2 1 rfl rfl rfl
theorem dX9_could_35 : decode cX9_could 35 = .ok (.ireturn, 1) := fq_172 fk_cX9_could_2 3 rfl rfl
theorem dX9_could_11 : decode cX9_could 11 = .ok (.aload_n 0, 1) := fq_42 fk_cX9_could_0 11 rfl rfl
theorem dX9_could_12 : decode cX9_could 12 = .ok (.getfield 30, 3) := fq_180 fk_cX9_could_0 12 rfl rfl rfl rfl rfl
theorem dX9_could_15 : decode cX9_could 15 = .ok (.iload_n 2, 1) := fq_28 fk_cX9_could_0 15 rfl rfl
theorem fk_cX9_could_1 : fq_ck cX9_could 16 [182, 0, 159, 153, 0, 14, 42, 180, 0, 30, 29, 182, 0, 192, 154, 0, 6, 18] := fq_of fW_cX9_could 1 rfl rfl
theorem dX9_could_16 : decode cX9_could 16 = .ok (.invokevirtual 159, 3) := fq_182 fk_cX9_could_1 0 rfl rfl rfl rfl rfl
theorem dX9_could_19 : decode cX9_could 19 = .ok (.ifCond .eq 14, 3) := fq_153 fk_cX9_could_1 3 rfl rfl rfl rfl rfl
theorem dX9_could_22 : decode cX9_could 22 = .ok (.aload_n 0, 1) := fq_42 fk_cX9_could_1 6 rfl rfl
theorem dX9_could_23 : decode cX9_could 23 = .ok (.getfield 30, 3) := fq_180 fk_cX9_could_1 7 rfl rfl rfl rfl rfl
theorem dX9_could_26 : decode cX9_could 26 = .ok (.iload_n 3, 1) := fq_29 fk_cX9_could_1 10 rfl rfl
theorem dX9_could_27 : decode cX9_could 27 = .ok (.invokevirtual 192, 3) := fq_182 fk_cX9_could_1 11 rfl rfl rfl rfl rfl
theorem dX9_could_30 : decode cX9_could 30 = .ok (.ifCond .ne 6, 3) := fq_154 fk_cX9_could_1 14 rfl rfl rfl rfl rfl
theorem dX9_could_36 : decode cX9_could 36 = .ok (.iload 4, 2) := fq_21 fk_cX9_could_2 4 rfl rfl rfl
theorem dX9_could_38 : decode cX9_could 38 = .ok (.ifCond .eq 12, 3) := fq_153 fk_cX9_could_2 6 rfl rfl rfl rfl rfl
theorem fk_cX9_could_3 : fq_ck cX9_could 48 [104, 172, 42, 180, 0, 40, 27, 182, 0, 189, 153, 0, 5, 2, 172, 42, 27, 28] := fq_of fW_cX9_could 3 rfl rfl
theorem dX9_could_50 : decode cX9_could 50 = .ok (.aload_n 0, 1) := fq_42 fk_cX9_could_3 2 rfl rfl
theorem dX9_could_51 : decode cX9_could 51 = .ok (.getfield 40, 3) := fq_180 fk_cX9_could_3 3 rfl rfl rfl rfl rfl
theorem dX9_could_54 : decode cX9_could 54 = .ok (.iload_n 1, 1) := fq_27 fk_cX9_could_3 6 rfl rfl
theorem dX9_could_55 : decode cX9_could 55 = .ok (.invokevirtual 189, 3) := fq_182 fk_cX9_could_3 7 rfl rfl rfl rfl rfl
theorem dX9_could_58 : decode cX9_could 58 = .ok (.ifCond .eq 5, 3) := fq_153 fk_cX9_could_3 10 rfl rfl rfl rfl rfl
theorem dX9_could_63 : decode cX9_could 63 = .ok (.aload_n 0, 1) := fq_42 fk_cX9_could_3 15 rfl rfl
theorem fk_cX9_could_4 : fq_ck cX9_could 64 [27, 28, 29, 182, 1, 0, 42, 180, 0, 79, 180, 1, 4, 154, 0, 5, 2, 172] := fq_of fW_cX9_could 4 rfl rfl
theorem dX9_could_64 : decode cX9_could 64 = .ok (.iload_n 1, 1) := fq_27 fk_cX9_could_4 0 rfl rfl
theorem dX9_could_65 : decode cX9_could 65 = .ok (.iload_n 2, 1) := fq_28 fk_cX9_could_4 1 rfl rfl
theorem dX9_could_66 : decode cX9_could 66 = .ok (.iload_n 3, 1) := fq_29 fk_cX9_could_4 2 rfl rfl
theorem dX9_could_67 : decode cX9_could 67 = .ok (.invokevirtual 256, 3) := fq_182 fk_cX9_could_4 3 rfl rfl rfl rfl rfl
theorem dX9_could_70 : decode cX9_could 70 = .ok (.aload_n 0, 1) := fq_42 fk_cX9_could_4 6 rfl rfl
theorem dX9_could_71 : decode cX9_could 71 = .ok (.getfield 79, 3) := fq_180 fk_cX9_could_4 7 rfl rfl rfl rfl rfl
theorem dX9_could_74 : decode cX9_could 74 = .ok (.getfield 260, 3) := fq_180 fk_cX9_could_4 10 rfl rfl rfl rfl rfl
theorem dX9_could_77 : decode cX9_could 77 = .ok (.ifCond .ne 5, 3) := fq_154 fk_cX9_could_4 13 rfl rfl rfl rfl rfl
theorem fk_cX9_could_5 : fq_ck cX9_could 80 [2, 172, 21, 4, 154, 0, 13, 42, 180, 0, 79, 180, 1, 8, 167, 0, 10, 42] := fq_of fW_cX9_could 5 rfl rfl
theorem dX9_could_82 : decode cX9_could 82 = .ok (.iload 4, 2) := fq_21 fk_cX9_could_5 2 rfl rfl rfl
theorem dX9_could_84 : decode cX9_could 84 = .ok (.ifCond .ne 13, 3) := fq_154 fk_cX9_could_5 4 rfl rfl rfl rfl rfl
theorem fk_cX9_could_6 : fq_ck cX9_could 96 [10, 42, 180, 0, 79, 180, 1, 10, 172] := fq_of fW_cX9_could 6 rfl rfl
theorem dX9_could_97 : decode cX9_could 97 = .ok (.aload_n 0, 1) := fq_42 fk_cX9_could_6 1 rfl rfl
theorem dX9_could_98 : decode cX9_could 98 = .ok (.getfield 79, 3) := fq_180 fk_cX9_could_6 2 rfl rfl rfl rfl rfl
theorem dX9_could_101 : decode cX9_could 101 = .ok (.getfield 266, 3) := fq_180 fk_cX9_could_6 5 rfl rfl rfl rfl rfl
theorem dX9_could_104 : decode cX9_could 104 = .ok (.ireturn, 1) := fq_172 fk_cX9_could_6 8 rfl rfl
theorem dX9_could_87 : decode cX9_could 87 = .ok (.aload_n 0, 1) := fq_42 fk_cX9_could_5 7 rfl rfl
theorem dX9_could_88 : decode cX9_could 88 = .ok (.getfield 79, 3) := fq_180 fk_cX9_could_5 8 rfl rfl rfl rfl rfl
theorem dX9_could_91 : decode cX9_could 91 = .ok (.getfield 264, 3) := fq_180 fk_cX9_could_5 11 rfl rfl rfl rfl rfl
theorem dX9_could_94 : decode cX9_could 94 = .ok (.goto 10, 3) := fq_167 fk_cX9_could_5 14 rfl rfl rfl rfl rfl
theorem dX9_could_80 : decode cX9_could 80 = .ok (.iconst (-1), 1) := fq_2 fk_cX9_could_5 0 rfl rfl
theorem dX9_could_81 : decode cX9_could 81 = .ok (.ireturn, 1) := fq_172 fk_cX9_could_5 1 rfl rfl
theorem dX9_could_61 : decode cX9_could 61 = .ok (.iconst (-1), 1) := fq_2 fk_cX9_could_3 13 rfl rfl
theorem dX9_could_62 : decode cX9_could 62 = .ok (.ireturn, 1) := fq_172 fk_cX9_could_3 14 rfl rfl
theorem dX9_could_41 : decode cX9_could 41 = .ok (.iload 4, 2) := fq_21 fk_cX9_could_2 9 rfl rfl rfl
theorem dX9_could_43 : decode cX9_could 43 = .ok (.iconst 1, 1) := fq_4 fk_cX9_could_2 11 rfl rfl
theorem dX9_could_44 : decode cX9_could 44 = .ok (.if_icmp .eq 6, 3) := fq_159 fk_cX9_could_2 12 rfl rfl rfl rfl rfl
theorem dX9_could_47 : decode cX9_could 47 = .ok (.ldc 104, 2) := fq_18 fk_cX9_could_2 15 rfl rfl rfl
theorem dX9_could_49 : decode cX9_could 49 = .ok (.ireturn, 1) := fq_172 fk_cX9_could_3 1 rfl rfl
def fw_cX9_bestTheme : List (List Nat) := [[42, 180, 0, 30, 27, 182, 0, 174, 153, 0, 14, 42, 180, 0, 30, 28, 182, 0], [182, 0, 159, 154, 0, 6, 18, 163, 172, 42, 27, 28, 182, 1, 13, 172]]
theorem fW_cX9_bestTheme : fq_wins 2 cX9_bestTheme.data.toList = fw_cX9_bestTheme := by decide +kernel
theorem fk_cX9_bestTheme_0 : fq_ck cX9_bestTheme 0 [42, 180, 0, 30, 27, 182, 0, 174, 153, 0, 14, 42, 180, 0, 30, 28, 182, 0] := fq_of fW_cX9_bestTheme 0 rfl rfl
theorem dX9_bestTheme_0 : decode cX9_bestTheme 0 = .ok (.aload_n 0, 1) := fq_42 fk_cX9_bestTheme_0 0 rfl rfl
theorem dX9_bestTheme_1 : decode cX9_bestTheme 1 = .ok (.getfield 30, 3) := fq_180 fk_cX9_bestTheme_0 1 rfl rfl rfl rfl rfl
theorem dX9_bestTheme_4 : decode cX9_bestTheme 4 = .ok (.iload_n 1, 1) := fq_27 fk_cX9_bestTheme_0 4 rfl rfl
theorem dX9_bestTheme_5 : decode cX9_bestTheme 5 = .ok (.invokevirtual 174, 3) := fq_182 fk_cX9_bestTheme_0 5 rfl rfl rfl rfl rfl
theorem dX9_bestTheme_8 : decode cX9_bestTheme 8 = .ok (.ifCond .eq 14, 3) := fq_153 fk_cX9_bestTheme_0 8 rfl rfl rfl rfl rfl
theorem fk_cX9_bestTheme_1 : fq_ck cX9_bestTheme 16 [182, 0, 159, 154, 0, 6, 18, 163, 172, 42, 27, 28, 182, 1, 13, 172] := fq_of fW_cX9_bestTheme 1 rfl rfl
theorem dX9_bestTheme_22 : decode cX9_bestTheme 22 = .ok (.ldc 163, 2) := fq_18 fk_cX9_bestTheme_1 6 rfl rfl rfl
theorem dX9_bestTheme_24 : decode cX9_bestTheme 24 = .ok (.ireturn, 1) := fq_172 fk_cX9_bestTheme_1 8 rfl rfl
theorem dX9_bestTheme_11 : decode cX9_bestTheme 11 = .ok (.aload_n 0, 1) := fq_42 fk_cX9_bestTheme_0 11 rfl rfl
theorem dX9_bestTheme_12 : decode cX9_bestTheme 12 = .ok (.getfield 30, 3) := fq_180 fk_cX9_bestTheme_0 12 rfl rfl rfl rfl rfl
theorem dX9_bestTheme_15 : decode cX9_bestTheme 15 = .ok (.iload_n 2, 1) := fq_28 fk_cX9_bestTheme_0 15 rfl rfl
theorem dX9_bestTheme_16 : decode cX9_bestTheme 16 = .ok (.invokevirtual 159, 3) := fq_182 fk_cX9_bestTheme_1 0 rfl rfl rfl rfl rfl
theorem dX9_bestTheme_19 : decode cX9_bestTheme 19 = .ok (.ifCond .ne 6, 3) := fq_154 fk_cX9_bestTheme_1 3 rfl rfl rfl rfl rfl
theorem dX9_bestTheme_25 : decode cX9_bestTheme 25 = .ok (.aload_n 0, 1) := fq_42 fk_cX9_bestTheme_1 9 rfl rfl
theorem dX9_bestTheme_26 : decode cX9_bestTheme 26 = .ok (.iload_n 1, 1) := fq_27 fk_cX9_bestTheme_1 10 rfl rfl
theorem dX9_bestTheme_27 : decode cX9_bestTheme 27 = .ok (.iload_n 2, 1) := fq_28 fk_cX9_bestTheme_1 11 rfl rfl
theorem dX9_bestTheme_28 : decode cX9_bestTheme 28 = .ok (.invokevirtual 269, 3) := fq_182 fk_cX9_bestTheme_1 12 rfl rfl rfl rfl rfl
theorem dX9_bestTheme_31 : decode cX9_bestTheme 31 = .ok (.ireturn, 1) := fq_172 fk_cX9_bestTheme_1 15 rfl rfl
def fw_cX9_lasts : List (List Nat) := [[42, 180, 0, 30, 27, 182, 0, 174, 153, 0, 14, 42, 180, 0, 30, 28, 182, 0], [182, 0, 192, 154, 0, 6, 18, 163, 172, 42, 180, 0, 40, 27, 182, 0, 189, 153], [189, 153, 0, 6, 18, 217, 172, 42, 27, 28, 182, 1, 52, 172]]
theorem fW_cX9_lasts : fq_wins 3 cX9_lasts.data.toList = fw_cX9_lasts := by decide +kernel
theorem fk_cX9_lasts_0 : fq_ck cX9_lasts 0 [42, 180, 0, 30, 27, 182, 0, 174, 153, 0, 14, 42, 180, 0, 30, 28, 182, 0] := fq_of fW_cX9_lasts 0 rfl rfl
theorem dX9_lasts_0 : decode cX9_lasts 0 = .ok (.aload_n 0, 1) := fq_42 fk_cX9_lasts_0 0 rfl rfl
theorem dX9_lasts_1 : decode cX9_lasts 1 = .ok (.getfield 30, 3) := fq_180 fk_cX9_lasts_0 1 rfl rfl rfl rfl rfl
theorem dX9_lasts_4 : decode cX9_lasts 4 = .ok (.iload_n 1, 1) := fq_27 fk_cX9_lasts_0 4 rfl rfl
theorem dX9_lasts_5 : decode cX9_lasts 5 = .ok (.invokevirtual 174, 3) := fq_182 fk_cX9_lasts_0 5 rfl rfl rfl rfl rfl
theorem dX9_lasts_8 : decode cX9_lasts 8 = .ok (.ifCond .eq 14, 3) := fq_153 fk_cX9_lasts_0 8 rfl rfl rfl rfl rfl
theorem fk_cX9_lasts_1 : fq_ck cX9_lasts 16 [182, 0, 192, 154, 0, 6, 18, 163, 172, 42, 180, 0, 40, 27, 182, 0, 189, 153] := fq_of fW_cX9_lasts 1 rfl rfl
theorem dX9_lasts_22 : decode cX9_lasts 22 = .ok (.ldc 163, 2) := fq_18 fk_cX9_lasts_1 6 rfl rfl rfl
theorem dX9_lasts_24 : decode cX9_lasts 24 = .ok (.ireturn, 1) := fq_172 fk_cX9_lasts_1 8 rfl rfl
theorem dX9_lasts_11 : decode cX9_lasts 11 = .ok (.aload_n 0, 1) := fq_42 fk_cX9_lasts_0 11 rfl rfl
theorem dX9_lasts_12 : decode cX9_lasts 12 = .ok (.getfield 30, 3) := fq_180 fk_cX9_lasts_0 12 rfl rfl rfl rfl rfl
theorem dX9_lasts_15 : decode cX9_lasts 15 = .ok (.iload_n 2, 1) := fq_28 fk_cX9_lasts_0 15 rfl rfl
theorem dX9_lasts_16 : decode cX9_lasts 16 = .ok (.invokevirtual 192, 3) := fq_182 fk_cX9_lasts_1 0 rfl rfl rfl rfl rfl
theorem dX9_lasts_19 : decode cX9_lasts 19 = .ok (.ifCond .ne 6, 3) := fq_154 fk_cX9_lasts_1 3 rfl rfl rfl rfl rfl
theorem dX9_lasts_25 : decode cX9_lasts 25 = .ok (.aload_n 0, 1) := fq_42 fk_cX9_lasts_1 9 rfl rfl
theorem dX9_lasts_26 : decode cX9_lasts 26 = .ok (.getfield 40, 3) := fq_180 fk_cX9_lasts_1 10 rfl rfl rfl rfl rfl
theorem dX9_lasts_29 : decode cX9_lasts 29 = .ok (.iload_n 1, 1) := fq_27 fk_cX9_lasts_1 13 rfl rfl
theorem dX9_lasts_30 : decode cX9_lasts 30 = .ok (.invokevirtual 189, 3) := fq_182 fk_cX9_lasts_1 14 rfl rfl rfl rfl rfl
theorem fk_cX9_lasts_2 : fq_ck cX9_lasts 32 [189, 153, 0, 6, 18, 217, 172, 42, 27, 28, 182, 1, 52, 172] := fq_of fW_cX9_lasts 2 rfl rfl
theorem dX9_lasts_33 : decode cX9_lasts 33 = .ok (.ifCond .eq 6, 3) := fq_153 fk_cX9_lasts_2 1 rfl rfl rfl rfl rfl
theorem dX9_lasts_39 : decode cX9_lasts 39 = .ok (.aload_n 0, 1) := fq_42 fk_cX9_lasts_2 7 rfl rfl
theorem dX9_lasts_40 : decode cX9_lasts 40 = .ok (.iload_n 1, 1) := fq_27 fk_cX9_lasts_2 8 rfl rfl
theorem dX9_lasts_41 : decode cX9_lasts 41 = .ok (.iload_n 2, 1) := fq_28 fk_cX9_lasts_2 9 rfl rfl
theorem dX9_lasts_42 : decode cX9_lasts 42 = .ok (.invokevirtual 308, 3) := fq_182 fk_cX9_lasts_2 10 rfl rfl rfl rfl rfl
theorem wd_407 : Cond.methodLink RX9 308 yX9_minutesLeft ∈ BG := BG_at3 222 (by decide +kernel) rfl
theorem wd_408 : Cond.code yX9_minutesLeft cX9_minutesLeft 3 (some .int) ∈ BG := BG_at3 225 rfl rfl
theorem wd_409 : Cond.instanceMethod yX9_minutesLeft ∈ BG := BG_at3 224 (by decide +kernel) rfl
theorem wd_410 : Cond.selects RX9 yX9_minutesLeft yX9_minutesLeft ∈ BG := BG_in (by decide +kernel) rfl
theorem okV_X9_minutesLeft : okV yX9_minutesLeft cX9_minutesLeft 3 (some .int) 2 := ⟨⟨wd_408, wd_71, by decide +kernel⟩, wd_409, wd_410⟩
theorem dX9_lasts_45 : decode cX9_lasts 45 = .ok (.ireturn, 1) := fq_172 fk_cX9_lasts_2 13 rfl rfl
theorem dX9_lasts_36 : decode cX9_lasts 36 = .ok (.ldc 217, 2) := fq_18 fk_cX9_lasts_2 4 rfl rfl rfl
theorem dX9_lasts_38 : decode cX9_lasts 38 = .ok (.ireturn, 1) := fq_172 fk_cX9_lasts_2 6 rfl rfl
def fw_cX9_wornOut : List (List Nat) := [[2, 60, 3, 61, 3, 62, 29, 42, 180, 0, 30, 180, 0, 130, 162, 0, 77, 42], [77, 42, 180, 0, 40, 29, 182, 0, 189, 153, 0, 6, 167, 0, 57, 3, 54, 4], [54, 4, 3, 54, 5, 21, 5, 42, 180, 0, 30, 180, 0, 127, 162, 0, 23, 21], [23, 21, 4, 42, 29, 21, 5, 182, 1, 52, 184, 1, 55, 54, 4, 132, 5, 1], [5, 1, 167, 255, 227, 27, 2, 159, 0, 9, 21, 4, 28, 162, 0, 8, 29, 60], [29, 60, 21, 4, 61, 132, 3, 1, 167, 255, 174, 27, 172]]
theorem fW_cX9_wornOut : fq_wins 6 cX9_wornOut.data.toList = fw_cX9_wornOut := by decide +kernel
theorem fk_cX9_wornOut_0 : fq_ck cX9_wornOut 0 [2, 60, 3, 61, 3, 62, 29, 42, 180, 0, 30, 180, 0, 130, 162, 0, 77, 42] := fq_of fW_cX9_wornOut 0 rfl rfl
theorem dX9_wornOut_0 : decode cX9_wornOut 0 = .ok (.iconst (-1), 1) := fq_2 fk_cX9_wornOut_0 0 rfl rfl
theorem dX9_wornOut_1 : decode cX9_wornOut 1 = .ok (.istore_n 1, 1) := fq_60 fk_cX9_wornOut_0 1 rfl rfl
theorem dX9_wornOut_2 : decode cX9_wornOut 2 = .ok (.iconst 0, 1) := fq_3 fk_cX9_wornOut_0 2 rfl rfl
theorem dX9_wornOut_3 : decode cX9_wornOut 3 = .ok (.istore_n 2, 1) := fq_61 fk_cX9_wornOut_0 3 rfl rfl
theorem dX9_wornOut_4 : decode cX9_wornOut 4 = .ok (.iconst 0, 1) := fq_3 fk_cX9_wornOut_0 4 rfl rfl
theorem dX9_wornOut_5 : decode cX9_wornOut 5 = .ok (.istore_n 3, 1) := fq_62 fk_cX9_wornOut_0 5 rfl rfl
theorem fk_cX9_wornOut_5 : fq_ck cX9_wornOut 80 [29, 60, 21, 4, 61, 132, 3, 1, 167, 255, 174, 27, 172] := fq_of fW_cX9_wornOut 5 rfl rfl
theorem dX9_wornOut_91 : decode cX9_wornOut 91 = .ok (.iload_n 1, 1) := fq_27 fk_cX9_wornOut_5 11 rfl rfl
theorem dX9_wornOut_92 : decode cX9_wornOut 92 = .ok (.ireturn, 1) := fq_172 fk_cX9_wornOut_5 12 rfl rfl
theorem dX9_wornOut_6 : decode cX9_wornOut 6 = .ok (.iload_n 3, 1) := fq_29 fk_cX9_wornOut_0 6 rfl rfl
theorem dX9_wornOut_7 : decode cX9_wornOut 7 = .ok (.aload_n 0, 1) := fq_42 fk_cX9_wornOut_0 7 rfl rfl
theorem dX9_wornOut_8 : decode cX9_wornOut 8 = .ok (.getfield 30, 3) := fq_180 fk_cX9_wornOut_0 8 rfl rfl rfl rfl rfl
theorem dX9_wornOut_11 : decode cX9_wornOut 11 = .ok (.getfield 130, 3) := fq_180 fk_cX9_wornOut_0 11 rfl rfl rfl rfl rfl
theorem dX9_wornOut_14 : decode cX9_wornOut 14 = .ok (.if_icmp .ge 77, 3) := fq_162 fk_cX9_wornOut_0 14 rfl rfl rfl rfl rfl
theorem fk_cX9_wornOut_1 : fq_ck cX9_wornOut 16 [77, 42, 180, 0, 40, 29, 182, 0, 189, 153, 0, 6, 167, 0, 57, 3, 54, 4] := fq_of fW_cX9_wornOut 1 rfl rfl
theorem dX9_wornOut_17 : decode cX9_wornOut 17 = .ok (.aload_n 0, 1) := fq_42 fk_cX9_wornOut_1 1 rfl rfl
theorem dX9_wornOut_18 : decode cX9_wornOut 18 = .ok (.getfield 40, 3) := fq_180 fk_cX9_wornOut_1 2 rfl rfl rfl rfl rfl
theorem dX9_wornOut_21 : decode cX9_wornOut 21 = .ok (.iload_n 3, 1) := fq_29 fk_cX9_wornOut_1 5 rfl rfl
theorem dX9_wornOut_22 : decode cX9_wornOut 22 = .ok (.invokevirtual 189, 3) := fq_182 fk_cX9_wornOut_1 6 rfl rfl rfl rfl rfl
theorem dX9_wornOut_25 : decode cX9_wornOut 25 = .ok (.ifCond .eq 6, 3) := fq_153 fk_cX9_wornOut_1 9 rfl rfl rfl rfl rfl
theorem dX9_wornOut_31 : decode cX9_wornOut 31 = .ok (.iconst 0, 1) := fq_3 fk_cX9_wornOut_1 15 rfl rfl
theorem fk_cX9_wornOut_2 : fq_ck cX9_wornOut 32 [54, 4, 3, 54, 5, 21, 5, 42, 180, 0, 30, 180, 0, 127, 162, 0, 23, 21] := fq_of fW_cX9_wornOut 2 rfl rfl
theorem dX9_wornOut_32 : decode cX9_wornOut 32 = .ok (.istore 4, 2) := fq_54 fk_cX9_wornOut_2 0 rfl rfl rfl
theorem dX9_wornOut_34 : decode cX9_wornOut 34 = .ok (.iconst 0, 1) := fq_3 fk_cX9_wornOut_2 2 rfl rfl
theorem dX9_wornOut_35 : decode cX9_wornOut 35 = .ok (.istore 5, 2) := fq_54 fk_cX9_wornOut_2 3 rfl rfl rfl
theorem fk_cX9_wornOut_4 : fq_ck cX9_wornOut 64 [5, 1, 167, 255, 227, 27, 2, 159, 0, 9, 21, 4, 28, 162, 0, 8, 29, 60] := fq_of fW_cX9_wornOut 4 rfl rfl
theorem dX9_wornOut_69 : decode cX9_wornOut 69 = .ok (.iload_n 1, 1) := fq_27 fk_cX9_wornOut_4 5 rfl rfl
theorem dX9_wornOut_70 : decode cX9_wornOut 70 = .ok (.iconst (-1), 1) := fq_2 fk_cX9_wornOut_4 6 rfl rfl
theorem dX9_wornOut_71 : decode cX9_wornOut 71 = .ok (.if_icmp .eq 9, 3) := fq_159 fk_cX9_wornOut_4 7 rfl rfl rfl rfl rfl
theorem dX9_wornOut_80 : decode cX9_wornOut 80 = .ok (.iload_n 3, 1) := fq_29 fk_cX9_wornOut_5 0 rfl rfl
theorem dX9_wornOut_81 : decode cX9_wornOut 81 = .ok (.istore_n 1, 1) := fq_60 fk_cX9_wornOut_5 1 rfl rfl
theorem dX9_wornOut_82 : decode cX9_wornOut 82 = .ok (.iload 4, 2) := fq_21 fk_cX9_wornOut_5 2 rfl rfl rfl
theorem dX9_wornOut_84 : decode cX9_wornOut 84 = .ok (.istore_n 2, 1) := fq_61 fk_cX9_wornOut_5 4 rfl rfl
theorem dX9_wornOut_85 : decode cX9_wornOut 85 = .ok (.iinc 3 1, 3) := fq_132 fk_cX9_wornOut_5 5 rfl rfl rfl rfl rfl
theorem dX9_wornOut_88 : decode cX9_wornOut 88 = .ok (.goto (-82), 3) := fq_167 fk_cX9_wornOut_5 8 rfl rfl rfl rfl rfl
theorem dX9_wornOut_74 : decode cX9_wornOut 74 = .ok (.iload 4, 2) := fq_21 fk_cX9_wornOut_4 10 rfl rfl rfl
theorem dX9_wornOut_76 : decode cX9_wornOut 76 = .ok (.iload_n 2, 1) := fq_28 fk_cX9_wornOut_4 12 rfl rfl
theorem dX9_wornOut_77 : decode cX9_wornOut 77 = .ok (.if_icmp .ge 8, 3) := fq_162 fk_cX9_wornOut_4 13 rfl rfl rfl rfl rfl
theorem dX9_wornOut_37 : decode cX9_wornOut 37 = .ok (.iload 5, 2) := fq_21 fk_cX9_wornOut_2 5 rfl rfl rfl
theorem dX9_wornOut_39 : decode cX9_wornOut 39 = .ok (.aload_n 0, 1) := fq_42 fk_cX9_wornOut_2 7 rfl rfl
theorem dX9_wornOut_40 : decode cX9_wornOut 40 = .ok (.getfield 30, 3) := fq_180 fk_cX9_wornOut_2 8 rfl rfl rfl rfl rfl
theorem dX9_wornOut_43 : decode cX9_wornOut 43 = .ok (.getfield 127, 3) := fq_180 fk_cX9_wornOut_2 11 rfl rfl rfl rfl rfl
theorem dX9_wornOut_46 : decode cX9_wornOut 46 = .ok (.if_icmp .ge 23, 3) := fq_162 fk_cX9_wornOut_2 14 rfl rfl rfl rfl rfl
theorem fk_cX9_wornOut_3 : fq_ck cX9_wornOut 48 [23, 21, 4, 42, 29, 21, 5, 182, 1, 52, 184, 1, 55, 54, 4, 132, 5, 1] := fq_of fW_cX9_wornOut 3 rfl rfl
theorem dX9_wornOut_49 : decode cX9_wornOut 49 = .ok (.iload 4, 2) := fq_21 fk_cX9_wornOut_3 1 rfl rfl rfl
theorem dX9_wornOut_51 : decode cX9_wornOut 51 = .ok (.aload_n 0, 1) := fq_42 fk_cX9_wornOut_3 3 rfl rfl
theorem dX9_wornOut_52 : decode cX9_wornOut 52 = .ok (.iload_n 3, 1) := fq_29 fk_cX9_wornOut_3 4 rfl rfl
theorem dX9_wornOut_53 : decode cX9_wornOut 53 = .ok (.iload 5, 2) := fq_21 fk_cX9_wornOut_3 5 rfl rfl rfl
theorem dX9_wornOut_55 : decode cX9_wornOut 55 = .ok (.invokevirtual 308, 3) := fq_182 fk_cX9_wornOut_3 7 rfl rfl rfl rfl rfl
theorem dX9_wornOut_58 : decode cX9_wornOut 58 = .ok (.invokestatic 311, 3) := fq_184 fk_cX9_wornOut_3 10 rfl rfl rfl rfl rfl
theorem wd_411 : Cond.methodLink RX9 311 Lib.Math.max.name ∈ BG := BG_in (by decide +kernel) rfl
theorem dX9_wornOut_61 : decode cX9_wornOut 61 = .ok (.istore 4, 2) := fq_54 fk_cX9_wornOut_3 13 rfl rfl rfl
theorem dX9_wornOut_63 : decode cX9_wornOut 63 = .ok (.iinc 5 1, 3) := fq_132 fk_cX9_wornOut_3 15 rfl rfl rfl rfl rfl
theorem dX9_wornOut_66 : decode cX9_wornOut 66 = .ok (.goto (-29), 3) := fq_167 fk_cX9_wornOut_4 2 rfl rfl rfl rfl rfl
theorem dX9_wornOut_28 : decode cX9_wornOut 28 = .ok (.goto 57, 3) := fq_167 fk_cX9_wornOut_1 12 rfl rfl rfl rfl rfl
def fw_cX9_carried : List (List Nat) := [[27, 2, 159, 0, 17, 42, 180, 0, 30, 27, 182, 0, 159, 154, 0, 6, 18, 163], [18, 163, 172, 42, 180, 0, 40, 3, 182, 0, 171, 61, 28, 2, 160, 0, 6, 18], [6, 18, 217, 172, 42, 180, 0, 40, 28, 182, 0, 177, 42, 180, 0, 30, 28, 42], [28, 42, 180, 0, 40, 28, 182, 0, 186, 182, 0, 195, 42, 180, 0, 30, 180, 0], [180, 0, 136, 184, 1, 58, 62, 4, 54, 4, 21, 4, 42, 180, 0, 30, 180, 0], [180, 0, 124, 162, 0, 46, 27, 2, 160, 0, 10, 29, 154, 0, 6, 21, 4, 172], [4, 172, 27, 21, 4, 160, 0, 5, 29, 172, 42, 180, 0, 40, 21, 4, 182, 0], [182, 0, 171, 2, 159, 0, 7, 29, 5, 108, 62, 132, 4, 1, 167, 255, 204, 27], [204, 27, 2, 160, 0, 7, 2, 167, 0, 4, 3, 172]]
theorem fW_cX9_carried : fq_wins 9 cX9_carried.data.toList = fw_cX9_carried := by decide +kernel
theorem fk_cX9_carried_0 : fq_ck cX9_carried 0 [27, 2, 159, 0, 17, 42, 180, 0, 30, 27, 182, 0, 159, 154, 0, 6, 18, 163] := fq_of fW_cX9_carried 0 rfl rfl
theorem dX9_carried_0 : decode cX9_carried 0 = .ok (.iload_n 1, 1) := fq_27 fk_cX9_carried_0 0 rfl rfl
theorem dX9_carried_1 : decode cX9_carried 1 = .ok (.iconst (-1), 1) := fq_2 fk_cX9_carried_0 1 rfl rfl
theorem dX9_carried_2 : decode cX9_carried 2 = .ok (.if_icmp .eq 17, 3) := fq_159 fk_cX9_carried_0 2 rfl rfl rfl rfl rfl
theorem fk_cX9_carried_1 : fq_ck cX9_carried 16 [18, 163, 172, 42, 180, 0, 40, 3, 182, 0, 171, 61, 28, 2, 160, 0, 6, 18] := fq_of fW_cX9_carried 1 rfl rfl
theorem dX9_carried_19 : decode cX9_carried 19 = .ok (.aload_n 0, 1) := fq_42 fk_cX9_carried_1 3 rfl rfl
theorem dX9_carried_20 : decode cX9_carried 20 = .ok (.getfield 40, 3) := fq_180 fk_cX9_carried_1 4 rfl rfl rfl rfl rfl
theorem dX9_carried_23 : decode cX9_carried 23 = .ok (.iconst 0, 1) := fq_3 fk_cX9_carried_1 7 rfl rfl
theorem dX9_carried_24 : decode cX9_carried 24 = .ok (.invokevirtual 171, 3) := fq_182 fk_cX9_carried_1 8 rfl rfl rfl rfl rfl
theorem dX9_carried_27 : decode cX9_carried 27 = .ok (.istore_n 2, 1) := fq_61 fk_cX9_carried_1 11 rfl rfl
theorem dX9_carried_28 : decode cX9_carried 28 = .ok (.iload_n 2, 1) := fq_28 fk_cX9_carried_1 12 rfl rfl
theorem dX9_carried_29 : decode cX9_carried 29 = .ok (.iconst (-1), 1) := fq_2 fk_cX9_carried_1 13 rfl rfl
theorem dX9_carried_30 : decode cX9_carried 30 = .ok (.if_icmp .ne 6, 3) := fq_160 fk_cX9_carried_1 14 rfl rfl rfl rfl rfl
theorem fk_cX9_carried_2 : fq_ck cX9_carried 32 [6, 18, 217, 172, 42, 180, 0, 40, 28, 182, 0, 177, 42, 180, 0, 30, 28, 42] := fq_of fW_cX9_carried 2 rfl rfl
theorem dX9_carried_36 : decode cX9_carried 36 = .ok (.aload_n 0, 1) := fq_42 fk_cX9_carried_2 4 rfl rfl
theorem dX9_carried_37 : decode cX9_carried 37 = .ok (.getfield 40, 3) := fq_180 fk_cX9_carried_2 5 rfl rfl rfl rfl rfl
theorem dX9_carried_40 : decode cX9_carried 40 = .ok (.iload_n 2, 1) := fq_28 fk_cX9_carried_2 8 rfl rfl
theorem dX9_carried_41 : decode cX9_carried 41 = .ok (.invokevirtual 177, 3) := fq_182 fk_cX9_carried_2 9 rfl rfl rfl rfl rfl
theorem dX9_carried_44 : decode cX9_carried 44 = .ok (.aload_n 0, 1) := fq_42 fk_cX9_carried_2 12 rfl rfl
theorem dX9_carried_45 : decode cX9_carried 45 = .ok (.getfield 30, 3) := fq_180 fk_cX9_carried_2 13 rfl rfl rfl rfl rfl
theorem fk_cX9_carried_3 : fq_ck cX9_carried 48 [28, 42, 180, 0, 40, 28, 182, 0, 186, 182, 0, 195, 42, 180, 0, 30, 180, 0] := fq_of fW_cX9_carried 3 rfl rfl
theorem dX9_carried_48 : decode cX9_carried 48 = .ok (.iload_n 2, 1) := fq_28 fk_cX9_carried_3 0 rfl rfl
theorem dX9_carried_49 : decode cX9_carried 49 = .ok (.aload_n 0, 1) := fq_42 fk_cX9_carried_3 1 rfl rfl
theorem dX9_carried_50 : decode cX9_carried 50 = .ok (.getfield 40, 3) := fq_180 fk_cX9_carried_3 2 rfl rfl rfl rfl rfl
theorem dX9_carried_53 : decode cX9_carried 53 = .ok (.iload_n 2, 1) := fq_28 fk_cX9_carried_3 5 rfl rfl
theorem dX9_carried_54 : decode cX9_carried 54 = .ok (.invokevirtual 186, 3) := fq_182 fk_cX9_carried_3 6 rfl rfl rfl rfl rfl
theorem dX9_carried_57 : decode cX9_carried 57 = .ok (.invokevirtual 195, 3) := fq_182 fk_cX9_carried_3 9 rfl rfl rfl rfl rfl
theorem dX9_carried_60 : decode cX9_carried 60 = .ok (.aload_n 0, 1) := fq_42 fk_cX9_carried_3 12 rfl rfl
theorem dX9_carried_61 : decode cX9_carried 61 = .ok (.getfield 30, 3) := fq_180 fk_cX9_carried_3 13 rfl rfl rfl rfl rfl
theorem fk_cX9_carried_4 : fq_ck cX9_carried 64 [180, 0, 136, 184, 1, 58, 62, 4, 54, 4, 21, 4, 42, 180, 0, 30, 180, 0] := fq_of fW_cX9_carried 4 rfl rfl
theorem dX9_carried_64 : decode cX9_carried 64 = .ok (.getfield 136, 3) := fq_180 fk_cX9_carried_4 0 rfl rfl rfl rfl rfl
theorem dX9_carried_67 : decode cX9_carried 67 = .ok (.invokestatic 314, 3) := fq_184 fk_cX9_carried_4 3 rfl rfl rfl rfl rfl
theorem wd_412 : Cond.methodLink RX9 314 yX9_stampOf ∈ BG := BG_at3 235 (by decide +kernel) rfl
theorem dX9_carried_70 : decode cX9_carried 70 = .ok (.istore_n 3, 1) := fq_62 fk_cX9_carried_4 6 rfl rfl
theorem dX9_carried_71 : decode cX9_carried 71 = .ok (.iconst 1, 1) := fq_4 fk_cX9_carried_4 7 rfl rfl
theorem dX9_carried_72 : decode cX9_carried 72 = .ok (.istore 4, 2) := fq_54 fk_cX9_carried_4 8 rfl rfl rfl
theorem fk_cX9_carried_8 : fq_ck cX9_carried 128 [204, 27, 2, 160, 0, 7, 2, 167, 0, 4, 3, 172] := fq_of fW_cX9_carried 8 rfl rfl
theorem dX9_carried_129 : decode cX9_carried 129 = .ok (.iload_n 1, 1) := fq_27 fk_cX9_carried_8 1 rfl rfl
theorem dX9_carried_130 : decode cX9_carried 130 = .ok (.iconst (-1), 1) := fq_2 fk_cX9_carried_8 2 rfl rfl
theorem dX9_carried_131 : decode cX9_carried 131 = .ok (.if_icmp .ne 7, 3) := fq_160 fk_cX9_carried_8 3 rfl rfl rfl rfl rfl
theorem dX9_carried_138 : decode cX9_carried 138 = .ok (.iconst 0, 1) := fq_3 fk_cX9_carried_8 10 rfl rfl
theorem dX9_carried_139 : decode cX9_carried 139 = .ok (.ireturn, 1) := fq_172 fk_cX9_carried_8 11 rfl rfl
theorem dX9_carried_134 : decode cX9_carried 134 = .ok (.iconst (-1), 1) := fq_2 fk_cX9_carried_8 6 rfl rfl
theorem dX9_carried_135 : decode cX9_carried 135 = .ok (.goto 4, 3) := fq_167 fk_cX9_carried_8 7 rfl rfl rfl rfl rfl
theorem dX9_carried_74 : decode cX9_carried 74 = .ok (.iload 4, 2) := fq_21 fk_cX9_carried_4 10 rfl rfl rfl
theorem dX9_carried_76 : decode cX9_carried 76 = .ok (.aload_n 0, 1) := fq_42 fk_cX9_carried_4 12 rfl rfl
theorem dX9_carried_77 : decode cX9_carried 77 = .ok (.getfield 30, 3) := fq_180 fk_cX9_carried_4 13 rfl rfl rfl rfl rfl
theorem fk_cX9_carried_5 : fq_ck cX9_carried 80 [180, 0, 124, 162, 0, 46, 27, 2, 160, 0, 10, 29, 154, 0, 6, 21, 4, 172] := fq_of fW_cX9_carried 5 rfl rfl
theorem dX9_carried_80 : decode cX9_carried 80 = .ok (.getfield 124, 3) := fq_180 fk_cX9_carried_5 0 rfl rfl rfl rfl rfl
theorem dX9_carried_83 : decode cX9_carried 83 = .ok (.if_icmp .ge 46, 3) := fq_162 fk_cX9_carried_5 3 rfl rfl rfl rfl rfl
theorem dX9_carried_86 : decode cX9_carried 86 = .ok (.iload_n 1, 1) := fq_27 fk_cX9_carried_5 6 rfl rfl
theorem dX9_carried_87 : decode cX9_carried 87 = .ok (.iconst (-1), 1) := fq_2 fk_cX9_carried_5 7 rfl rfl
theorem dX9_carried_88 : decode cX9_carried 88 = .ok (.if_icmp .ne 10, 3) := fq_160 fk_cX9_carried_5 8 rfl rfl rfl rfl rfl
theorem fk_cX9_carried_6 : fq_ck cX9_carried 96 [4, 172, 27, 21, 4, 160, 0, 5, 29, 172, 42, 180, 0, 40, 21, 4, 182, 0] := fq_of fW_cX9_carried 6 rfl rfl
theorem dX9_carried_98 : decode cX9_carried 98 = .ok (.iload_n 1, 1) := fq_27 fk_cX9_carried_6 2 rfl rfl
theorem dX9_carried_99 : decode cX9_carried 99 = .ok (.iload 4, 2) := fq_21 fk_cX9_carried_6 3 rfl rfl rfl
theorem dX9_carried_101 : decode cX9_carried 101 = .ok (.if_icmp .ne 5, 3) := fq_160 fk_cX9_carried_6 5 rfl rfl rfl rfl rfl
theorem dX9_carried_106 : decode cX9_carried 106 = .ok (.aload_n 0, 1) := fq_42 fk_cX9_carried_6 10 rfl rfl
theorem dX9_carried_107 : decode cX9_carried 107 = .ok (.getfield 40, 3) := fq_180 fk_cX9_carried_6 11 rfl rfl rfl rfl rfl
theorem dX9_carried_110 : decode cX9_carried 110 = .ok (.iload 4, 2) := fq_21 fk_cX9_carried_6 14 rfl rfl rfl
theorem fk_cX9_carried_7 : fq_ck cX9_carried 112 [182, 0, 171, 2, 159, 0, 7, 29, 5, 108, 62, 132, 4, 1, 167, 255, 204, 27] := fq_of fW_cX9_carried 7 rfl rfl
theorem dX9_carried_112 : decode cX9_carried 112 = .ok (.invokevirtual 171, 3) := fq_182 fk_cX9_carried_7 0 rfl rfl rfl rfl rfl
theorem dX9_carried_115 : decode cX9_carried 115 = .ok (.iconst (-1), 1) := fq_2 fk_cX9_carried_7 3 rfl rfl
theorem dX9_carried_116 : decode cX9_carried 116 = .ok (.if_icmp .eq 7, 3) := fq_159 fk_cX9_carried_7 4 rfl rfl rfl rfl rfl
theorem dX9_carried_123 : decode cX9_carried 123 = .ok (.iinc 4 1, 3) := fq_132 fk_cX9_carried_7 11 rfl rfl rfl rfl rfl
theorem dX9_carried_126 : decode cX9_carried 126 = .ok (.goto (-52), 3) := fq_167 fk_cX9_carried_7 14 rfl rfl rfl rfl rfl
theorem dX9_carried_119 : decode cX9_carried 119 = .ok (.iload_n 3, 1) := fq_29 fk_cX9_carried_7 7 rfl rfl
theorem dX9_carried_120 : decode cX9_carried 120 = .ok (.iconst 2, 1) := fq_5 fk_cX9_carried_7 8 rfl rfl
theorem dX9_carried_121 : decode cX9_carried 121 = .ok (.idiv, 1) := fq_108 fk_cX9_carried_7 9 rfl rfl
theorem dX9_carried_122 : decode cX9_carried 122 = .ok (.istore_n 3, 1) := fq_62 fk_cX9_carried_7 10 rfl rfl
theorem dX9_carried_104 : decode cX9_carried 104 = .ok (.iload_n 3, 1) := fq_29 fk_cX9_carried_6 8 rfl rfl
theorem dX9_carried_105 : decode cX9_carried 105 = .ok (.ireturn, 1) := fq_172 fk_cX9_carried_6 9 rfl rfl
theorem dX9_carried_91 : decode cX9_carried 91 = .ok (.iload_n 3, 1) := fq_29 fk_cX9_carried_5 11 rfl rfl
theorem dX9_carried_92 : decode cX9_carried 92 = .ok (.ifCond .ne 6, 3) := fq_154 fk_cX9_carried_5 12 rfl rfl rfl rfl rfl
theorem dX9_carried_95 : decode cX9_carried 95 = .ok (.iload 4, 2) := fq_21 fk_cX9_carried_5 15 rfl rfl rfl
theorem dX9_carried_97 : decode cX9_carried 97 = .ok (.ireturn, 1) := fq_172 fk_cX9_carried_6 1 rfl rfl
theorem dX9_carried_33 : decode cX9_carried 33 = .ok (.ldc 217, 2) := fq_18 fk_cX9_carried_2 1 rfl rfl rfl
theorem dX9_carried_35 : decode cX9_carried 35 = .ok (.ireturn, 1) := fq_172 fk_cX9_carried_2 3 rfl rfl
theorem dX9_carried_5 : decode cX9_carried 5 = .ok (.aload_n 0, 1) := fq_42 fk_cX9_carried_0 5 rfl rfl
theorem dX9_carried_6 : decode cX9_carried 6 = .ok (.getfield 30, 3) := fq_180 fk_cX9_carried_0 6 rfl rfl rfl rfl rfl
theorem dX9_carried_9 : decode cX9_carried 9 = .ok (.iload_n 1, 1) := fq_27 fk_cX9_carried_0 9 rfl rfl
theorem dX9_carried_10 : decode cX9_carried 10 = .ok (.invokevirtual 159, 3) := fq_182 fk_cX9_carried_0 10 rfl rfl rfl rfl rfl
theorem dX9_carried_13 : decode cX9_carried 13 = .ok (.ifCond .ne 6, 3) := fq_154 fk_cX9_carried_0 13 rfl rfl rfl rfl rfl
theorem dX9_carried_16 : decode cX9_carried 16 = .ok (.ldc 163, 2) := fq_18 fk_cX9_carried_1 0 rfl rfl rfl
theorem dX9_carried_18 : decode cX9_carried 18 = .ok (.ireturn, 1) := fq_172 fk_cX9_carried_1 2 rfl rfl
def fw_cX9_hire : List (List Nat) := [[42, 180, 0, 30, 27, 182, 0, 159, 154, 0, 6, 18, 163, 172, 28, 153, 0, 11], [0, 11, 28, 4, 159, 0, 6, 18, 104, 172, 2, 62, 2, 54, 4, 2, 54, 5], [54, 5, 3, 54, 6, 21, 6, 42, 180, 0, 30, 180, 0, 130, 162, 0, 70, 42], [70, 42, 21, 6, 27, 182, 1, 16, 54, 7, 21, 7, 2, 160, 0, 6, 167, 0], [167, 0, 46, 29, 2, 159, 0, 10, 21, 7, 21, 4, 162, 0, 17, 21, 4, 54], [4, 54, 5, 21, 7, 54, 4, 21, 6, 62, 167, 0, 20, 21, 5, 2, 159, 0], [159, 0, 10, 21, 7, 21, 5, 162, 0, 7, 21, 7, 54, 5, 132, 6, 1, 167], [1, 167, 255, 180, 28, 154, 0, 5, 29, 172, 21, 5, 2, 160, 0, 8, 21, 4], [21, 4, 167, 0, 5, 21, 5, 172]]
theorem fW_cX9_hire : fq_wins 9 cX9_hire.data.toList = fw_cX9_hire := by decide +kernel
theorem fk_cX9_hire_0 : fq_ck cX9_hire 0 [42, 180, 0, 30, 27, 182, 0, 159, 154, 0, 6, 18, 163, 172, 28, 153, 0, 11] := fq_of fW_cX9_hire 0 rfl rfl
theorem dX9_hire_0 : decode cX9_hire 0 = .ok (.aload_n 0, 1) := fq_42 fk_cX9_hire_0 0 rfl rfl
theorem dX9_hire_1 : decode cX9_hire 1 = .ok (.getfield 30, 3) := fq_180 fk_cX9_hire_0 1 rfl rfl rfl rfl rfl
theorem dX9_hire_4 : decode cX9_hire 4 = .ok (.iload_n 1, 1) := fq_27 fk_cX9_hire_0 4 rfl rfl
theorem dX9_hire_5 : decode cX9_hire 5 = .ok (.invokevirtual 159, 3) := fq_182 fk_cX9_hire_0 5 rfl rfl rfl rfl rfl
theorem dX9_hire_8 : decode cX9_hire 8 = .ok (.ifCond .ne 6, 3) := fq_154 fk_cX9_hire_0 8 rfl rfl rfl rfl rfl
theorem dX9_hire_14 : decode cX9_hire 14 = .ok (.iload_n 2, 1) := fq_28 fk_cX9_hire_0 14 rfl rfl
theorem dX9_hire_15 : decode cX9_hire 15 = .ok (.ifCond .eq 11, 3) := fq_153 fk_cX9_hire_0 15 rfl rfl rfl rfl rfl
theorem fk_cX9_hire_1 : fq_ck cX9_hire 16 [0, 11, 28, 4, 159, 0, 6, 18, 104, 172, 2, 62, 2, 54, 4, 2, 54, 5] := fq_of fW_cX9_hire 1 rfl rfl
theorem dX9_hire_26 : decode cX9_hire 26 = .ok (.iconst (-1), 1) := fq_2 fk_cX9_hire_1 10 rfl rfl
theorem dX9_hire_27 : decode cX9_hire 27 = .ok (.istore_n 3, 1) := fq_62 fk_cX9_hire_1 11 rfl rfl
theorem dX9_hire_28 : decode cX9_hire 28 = .ok (.iconst (-1), 1) := fq_2 fk_cX9_hire_1 12 rfl rfl
theorem dX9_hire_29 : decode cX9_hire 29 = .ok (.istore 4, 2) := fq_54 fk_cX9_hire_1 13 rfl rfl rfl
theorem dX9_hire_31 : decode cX9_hire 31 = .ok (.iconst (-1), 1) := fq_2 fk_cX9_hire_1 15 rfl rfl
theorem fk_cX9_hire_2 : fq_ck cX9_hire 32 [54, 5, 3, 54, 6, 21, 6, 42, 180, 0, 30, 180, 0, 130, 162, 0, 70, 42] := fq_of fW_cX9_hire 2 rfl rfl
theorem dX9_hire_32 : decode cX9_hire 32 = .ok (.istore 5, 2) := fq_54 fk_cX9_hire_2 0 rfl rfl rfl
theorem dX9_hire_34 : decode cX9_hire 34 = .ok (.iconst 0, 1) := fq_3 fk_cX9_hire_2 2 rfl rfl
theorem dX9_hire_35 : decode cX9_hire 35 = .ok (.istore 6, 2) := fq_54 fk_cX9_hire_2 3 rfl rfl rfl
theorem fk_cX9_hire_7 : fq_ck cX9_hire 112 [1, 167, 255, 180, 28, 154, 0, 5, 29, 172, 21, 5, 2, 160, 0, 8, 21, 4] := fq_of fW_cX9_hire 7 rfl rfl
theorem dX9_hire_116 : decode cX9_hire 116 = .ok (.iload_n 2, 1) := fq_28 fk_cX9_hire_7 4 rfl rfl
theorem dX9_hire_117 : decode cX9_hire 117 = .ok (.ifCond .ne 5, 3) := fq_154 fk_cX9_hire_7 5 rfl rfl rfl rfl rfl
theorem dX9_hire_122 : decode cX9_hire 122 = .ok (.iload 5, 2) := fq_21 fk_cX9_hire_7 10 rfl rfl rfl
theorem dX9_hire_124 : decode cX9_hire 124 = .ok (.iconst (-1), 1) := fq_2 fk_cX9_hire_7 12 rfl rfl
theorem dX9_hire_125 : decode cX9_hire 125 = .ok (.if_icmp .ne 8, 3) := fq_160 fk_cX9_hire_7 13 rfl rfl rfl rfl rfl
theorem fk_cX9_hire_8 : fq_ck cX9_hire 128 [21, 4, 167, 0, 5, 21, 5, 172] := fq_of fW_cX9_hire 8 rfl rfl
theorem dX9_hire_133 : decode cX9_hire 133 = .ok (.iload 5, 2) := fq_21 fk_cX9_hire_8 5 rfl rfl rfl
theorem dX9_hire_135 : decode cX9_hire 135 = .ok (.ireturn, 1) := fq_172 fk_cX9_hire_8 7 rfl rfl
theorem dX9_hire_128 : decode cX9_hire 128 = .ok (.iload 4, 2) := fq_21 fk_cX9_hire_8 0 rfl rfl rfl
theorem dX9_hire_130 : decode cX9_hire 130 = .ok (.goto 5, 3) := fq_167 fk_cX9_hire_8 2 rfl rfl rfl rfl rfl
theorem dX9_hire_120 : decode cX9_hire 120 = .ok (.iload_n 3, 1) := fq_29 fk_cX9_hire_7 8 rfl rfl
theorem dX9_hire_121 : decode cX9_hire 121 = .ok (.ireturn, 1) := fq_172 fk_cX9_hire_7 9 rfl rfl
theorem dX9_hire_37 : decode cX9_hire 37 = .ok (.iload 6, 2) := fq_21 fk_cX9_hire_2 5 rfl rfl rfl
theorem dX9_hire_39 : decode cX9_hire 39 = .ok (.aload_n 0, 1) := fq_42 fk_cX9_hire_2 7 rfl rfl
theorem dX9_hire_40 : decode cX9_hire 40 = .ok (.getfield 30, 3) := fq_180 fk_cX9_hire_2 8 rfl rfl rfl rfl rfl
theorem dX9_hire_43 : decode cX9_hire 43 = .ok (.getfield 130, 3) := fq_180 fk_cX9_hire_2 11 rfl rfl rfl rfl rfl
theorem dX9_hire_46 : decode cX9_hire 46 = .ok (.if_icmp .ge 70, 3) := fq_162 fk_cX9_hire_2 14 rfl rfl rfl rfl rfl
theorem fk_cX9_hire_3 : fq_ck cX9_hire 48 [70, 42, 21, 6, 27, 182, 1, 16, 54, 7, 21, 7, 2, 160, 0, 6, 167, 0] := fq_of fW_cX9_hire 3 rfl rfl
theorem dX9_hire_49 : decode cX9_hire 49 = .ok (.aload_n 0, 1) := fq_42 fk_cX9_hire_3 1 rfl rfl
theorem dX9_hire_50 : decode cX9_hire 50 = .ok (.iload 6, 2) := fq_21 fk_cX9_hire_3 2 rfl rfl rfl
theorem dX9_hire_52 : decode cX9_hire 52 = .ok (.iload_n 1, 1) := fq_27 fk_cX9_hire_3 4 rfl rfl
theorem dX9_hire_53 : decode cX9_hire 53 = .ok (.invokevirtual 272, 3) := fq_182 fk_cX9_hire_3 5 rfl rfl rfl rfl rfl
theorem wd_413 : Cond.methodLink RX9 272 yX9_costFor ∈ BG := BG_at3 145 (by decide +kernel) rfl
theorem wd_414 : Cond.code yX9_costFor cX9_costFor 4 (some .int) ∈ BG := BG_at3 148 rfl rfl
theorem wd_415 : Cond.instanceMethod yX9_costFor ∈ BG := BG_at3 147 (by decide +kernel) rfl
theorem wd_416 : Cond.selects RX9 yX9_costFor yX9_costFor ∈ BG := BG_in (by decide +kernel) rfl
theorem okV_X9_costFor : okV yX9_costFor cX9_costFor 4 (some .int) 2 := ⟨⟨wd_414, wd_71, by decide +kernel⟩, wd_415, wd_416⟩
theorem dX9_hire_56 : decode cX9_hire 56 = .ok (.istore 7, 2) := fq_54 fk_cX9_hire_3 8 rfl rfl rfl
theorem dX9_hire_58 : decode cX9_hire 58 = .ok (.iload 7, 2) := fq_21 fk_cX9_hire_3 10 rfl rfl rfl
theorem dX9_hire_60 : decode cX9_hire 60 = .ok (.iconst (-1), 1) := fq_2 fk_cX9_hire_3 12 rfl rfl
theorem dX9_hire_61 : decode cX9_hire 61 = .ok (.if_icmp .ne 6, 3) := fq_160 fk_cX9_hire_3 13 rfl rfl rfl rfl rfl
theorem fk_cX9_hire_4 : fq_ck cX9_hire 64 [167, 0, 46, 29, 2, 159, 0, 10, 21, 7, 21, 4, 162, 0, 17, 21, 4, 54] := fq_of fW_cX9_hire 4 rfl rfl
theorem dX9_hire_67 : decode cX9_hire 67 = .ok (.iload_n 3, 1) := fq_29 fk_cX9_hire_4 3 rfl rfl
theorem dX9_hire_68 : decode cX9_hire 68 = .ok (.iconst (-1), 1) := fq_2 fk_cX9_hire_4 4 rfl rfl
theorem dX9_hire_69 : decode cX9_hire 69 = .ok (.if_icmp .eq 10, 3) := fq_159 fk_cX9_hire_4 5 rfl rfl rfl rfl rfl
theorem dX9_hire_79 : decode cX9_hire 79 = .ok (.iload 4, 2) := fq_21 fk_cX9_hire_4 15 rfl rfl rfl
theorem fk_cX9_hire_5 : fq_ck cX9_hire 80 [4, 54, 5, 21, 7, 54, 4, 21, 6, 62, 167, 0, 20, 21, 5, 2, 159, 0] := fq_of fW_cX9_hire 5 rfl rfl
theorem dX9_hire_81 : decode cX9_hire 81 = .ok (.istore 5, 2) := fq_54 fk_cX9_hire_5 1 rfl rfl rfl
theorem dX9_hire_83 : decode cX9_hire 83 = .ok (.iload 7, 2) := fq_21 fk_cX9_hire_5 3 rfl rfl rfl
theorem dX9_hire_85 : decode cX9_hire 85 = .ok (.istore 4, 2) := fq_54 fk_cX9_hire_5 5 rfl rfl rfl
theorem dX9_hire_87 : decode cX9_hire 87 = .ok (.iload 6, 2) := fq_21 fk_cX9_hire_5 7 rfl rfl rfl
theorem dX9_hire_89 : decode cX9_hire 89 = .ok (.istore_n 3, 1) := fq_62 fk_cX9_hire_5 9 rfl rfl
theorem dX9_hire_90 : decode cX9_hire 90 = .ok (.goto 20, 3) := fq_167 fk_cX9_hire_5 10 rfl rfl rfl rfl rfl
theorem fk_cX9_hire_6 : fq_ck cX9_hire 96 [159, 0, 10, 21, 7, 21, 5, 162, 0, 7, 21, 7, 54, 5, 132, 6, 1, 167] := fq_of fW_cX9_hire 6 rfl rfl
theorem dX9_hire_110 : decode cX9_hire 110 = .ok (.iinc 6 1, 3) := fq_132 fk_cX9_hire_6 14 rfl rfl rfl rfl rfl
theorem dX9_hire_113 : decode cX9_hire 113 = .ok (.goto (-76), 3) := fq_167 fk_cX9_hire_7 1 rfl rfl rfl rfl rfl
theorem dX9_hire_72 : decode cX9_hire 72 = .ok (.iload 7, 2) := fq_21 fk_cX9_hire_4 8 rfl rfl rfl
theorem dX9_hire_74 : decode cX9_hire 74 = .ok (.iload 4, 2) := fq_21 fk_cX9_hire_4 10 rfl rfl rfl
theorem dX9_hire_76 : decode cX9_hire 76 = .ok (.if_icmp .ge 17, 3) := fq_162 fk_cX9_hire_4 12 rfl rfl rfl rfl rfl
theorem dX9_hire_93 : decode cX9_hire 93 = .ok (.iload 5, 2) := fq_21 fk_cX9_hire_5 13 rfl rfl rfl
theorem dX9_hire_95 : decode cX9_hire 95 = .ok (.iconst (-1), 1) := fq_2 fk_cX9_hire_5 15 rfl rfl
theorem dX9_hire_96 : decode cX9_hire 96 = .ok (.if_icmp .eq 10, 3) := fq_159 fk_cX9_hire_6 0 rfl rfl rfl rfl rfl
theorem dX9_hire_106 : decode cX9_hire 106 = .ok (.iload 7, 2) := fq_21 fk_cX9_hire_6 10 rfl rfl rfl
theorem dX9_hire_108 : decode cX9_hire 108 = .ok (.istore 5, 2) := fq_54 fk_cX9_hire_6 12 rfl rfl rfl
theorem dX9_hire_99 : decode cX9_hire 99 = .ok (.iload 7, 2) := fq_21 fk_cX9_hire_6 3 rfl rfl rfl
theorem dX9_hire_101 : decode cX9_hire 101 = .ok (.iload 5, 2) := fq_21 fk_cX9_hire_6 5 rfl rfl rfl
theorem dX9_hire_103 : decode cX9_hire 103 = .ok (.if_icmp .ge 7, 3) := fq_162 fk_cX9_hire_6 7 rfl rfl rfl rfl rfl
theorem dX9_hire_64 : decode cX9_hire 64 = .ok (.goto 46, 3) := fq_167 fk_cX9_hire_4 0 rfl rfl rfl rfl rfl
theorem dX9_hire_18 : decode cX9_hire 18 = .ok (.iload_n 2, 1) := fq_28 fk_cX9_hire_1 2 rfl rfl
theorem dX9_hire_19 : decode cX9_hire 19 = .ok (.iconst 1, 1) := fq_4 fk_cX9_hire_1 3 rfl rfl
theorem dX9_hire_20 : decode cX9_hire 20 = .ok (.if_icmp .eq 6, 3) := fq_159 fk_cX9_hire_1 4 rfl rfl rfl rfl rfl
theorem dX9_hire_23 : decode cX9_hire 23 = .ok (.ldc 104, 2) := fq_18 fk_cX9_hire_1 7 rfl rfl rfl
theorem dX9_hire_25 : decode cX9_hire 25 = .ok (.ireturn, 1) := fq_172 fk_cX9_hire_1 9 rfl rfl
theorem dX9_hire_11 : decode cX9_hire 11 = .ok (.ldc 163, 2) := fq_18 fk_cX9_hire_0 11 rfl rfl rfl
theorem dX9_hire_13 : decode cX9_hire 13 = .ok (.ireturn, 1) := fq_172 fk_cX9_hire_0 13 rfl rfl
def fw_cX9_midstream : List (List Nat) := [[42, 180, 0, 30, 27, 182, 0, 174, 154, 0, 6, 18, 163, 172, 28, 155, 0, 20], [0, 20, 28, 16, 99, 163, 0, 14, 29, 155, 0, 10, 29, 17, 3, 232, 164, 0], [164, 0, 6, 18, 104, 172, 3, 29, 42, 180, 0, 40, 27, 182, 0, 177, 100, 184], [100, 184, 1, 55, 54, 4, 20, 1, 62, 55, 5, 3, 54, 7, 21, 7, 28, 162], [28, 162, 0, 25, 22, 5, 17, 3, 232, 21, 4, 100, 133, 105, 20, 1, 64, 109], [64, 109, 55, 5, 132, 7, 1, 167, 255, 231, 22, 5, 136, 172]]
theorem fW_cX9_midstream : fq_wins 6 cX9_midstream.data.toList = fw_cX9_midstream := by decide +kernel
theorem fk_cX9_midstream_0 : fq_ck cX9_midstream 0 [42, 180, 0, 30, 27, 182, 0, 174, 154, 0, 6, 18, 163, 172, 28, 155, 0, 20] := fq_of fW_cX9_midstream 0 rfl rfl
theorem dX9_midstream_0 : decode cX9_midstream 0 = .ok (.aload_n 0, 1) := fq_42 fk_cX9_midstream_0 0 rfl rfl
theorem dX9_midstream_1 : decode cX9_midstream 1 = .ok (.getfield 30, 3) := fq_180 fk_cX9_midstream_0 1 rfl rfl rfl rfl rfl
theorem dX9_midstream_4 : decode cX9_midstream 4 = .ok (.iload_n 1, 1) := fq_27 fk_cX9_midstream_0 4 rfl rfl
theorem dX9_midstream_5 : decode cX9_midstream 5 = .ok (.invokevirtual 174, 3) := fq_182 fk_cX9_midstream_0 5 rfl rfl rfl rfl rfl
theorem dX9_midstream_8 : decode cX9_midstream 8 = .ok (.ifCond .ne 6, 3) := fq_154 fk_cX9_midstream_0 8 rfl rfl rfl rfl rfl
theorem dX9_midstream_14 : decode cX9_midstream 14 = .ok (.iload_n 2, 1) := fq_28 fk_cX9_midstream_0 14 rfl rfl
theorem dX9_midstream_15 : decode cX9_midstream 15 = .ok (.ifCond .lt 20, 3) := fq_155 fk_cX9_midstream_0 15 rfl rfl rfl rfl rfl
theorem fk_cX9_midstream_2 : fq_ck cX9_midstream 32 [164, 0, 6, 18, 104, 172, 3, 29, 42, 180, 0, 40, 27, 182, 0, 177, 100, 184] := fq_of fW_cX9_midstream 2 rfl rfl
theorem dX9_midstream_35 : decode cX9_midstream 35 = .ok (.ldc 104, 2) := fq_18 fk_cX9_midstream_2 3 rfl rfl rfl
theorem dX9_midstream_37 : decode cX9_midstream 37 = .ok (.ireturn, 1) := fq_172 fk_cX9_midstream_2 5 rfl rfl
theorem fk_cX9_midstream_1 : fq_ck cX9_midstream 16 [0, 20, 28, 16, 99, 163, 0, 14, 29, 155, 0, 10, 29, 17, 3, 232, 164, 0] := fq_of fW_cX9_midstream 1 rfl rfl
theorem dX9_midstream_18 : decode cX9_midstream 18 = .ok (.iload_n 2, 1) := fq_28 fk_cX9_midstream_1 2 rfl rfl
theorem dX9_midstream_19 : decode cX9_midstream 19 = .ok (.bipush 99, 2) := fq_16 fk_cX9_midstream_1 3 rfl rfl rfl rfl
theorem dX9_midstream_21 : decode cX9_midstream 21 = .ok (.if_icmp .gt 14, 3) := fq_163 fk_cX9_midstream_1 5 rfl rfl rfl rfl rfl
theorem dX9_midstream_24 : decode cX9_midstream 24 = .ok (.iload_n 3, 1) := fq_29 fk_cX9_midstream_1 8 rfl rfl
theorem dX9_midstream_25 : decode cX9_midstream 25 = .ok (.ifCond .lt 10, 3) := fq_155 fk_cX9_midstream_1 9 rfl rfl rfl rfl rfl
theorem dX9_midstream_28 : decode cX9_midstream 28 = .ok (.iload_n 3, 1) := fq_29 fk_cX9_midstream_1 12 rfl rfl
theorem dX9_midstream_29 : decode cX9_midstream 29 = .ok (.sipush 1000, 3) := fq_17 fk_cX9_midstream_1 13 rfl rfl rfl rfl rfl
theorem dX9_midstream_32 : decode cX9_midstream 32 = .ok (.if_icmp .le 6, 3) := fq_164 fk_cX9_midstream_2 0 rfl rfl rfl rfl rfl
theorem dX9_midstream_38 : decode cX9_midstream 38 = .ok (.iconst 0, 1) := fq_3 fk_cX9_midstream_2 6 rfl rfl
theorem dX9_midstream_39 : decode cX9_midstream 39 = .ok (.iload_n 3, 1) := fq_29 fk_cX9_midstream_2 7 rfl rfl
theorem dX9_midstream_40 : decode cX9_midstream 40 = .ok (.aload_n 0, 1) := fq_42 fk_cX9_midstream_2 8 rfl rfl
theorem dX9_midstream_41 : decode cX9_midstream 41 = .ok (.getfield 40, 3) := fq_180 fk_cX9_midstream_2 9 rfl rfl rfl rfl rfl
theorem dX9_midstream_44 : decode cX9_midstream 44 = .ok (.iload_n 1, 1) := fq_27 fk_cX9_midstream_2 12 rfl rfl
theorem dX9_midstream_45 : decode cX9_midstream 45 = .ok (.invokevirtual 177, 3) := fq_182 fk_cX9_midstream_2 13 rfl rfl rfl rfl rfl
theorem fk_cX9_midstream_3 : fq_ck cX9_midstream 48 [100, 184, 1, 55, 54, 4, 20, 1, 62, 55, 5, 3, 54, 7, 21, 7, 28, 162] := fq_of fW_cX9_midstream 3 rfl rfl
theorem dX9_midstream_48 : decode cX9_midstream 48 = .ok (.isub, 1) := fq_100 fk_cX9_midstream_3 0 rfl rfl
theorem dX9_midstream_49 : decode cX9_midstream 49 = .ok (.invokestatic 311, 3) := fq_184 fk_cX9_midstream_3 1 rfl rfl rfl rfl rfl
theorem dX9_midstream_52 : decode cX9_midstream 52 = .ok (.istore 4, 2) := fq_54 fk_cX9_midstream_3 4 rfl rfl rfl
theorem wd_417 : Cond.constantLong RX9 318 (1000000000) ∈ BG := BG_at4 4 (by decide +kernel) rfl
theorem dX9_midstream_54 : decode cX9_midstream 54 = .ok (.ldc2_w 318, 3) := fq_20 fk_cX9_midstream_3 6 rfl rfl rfl rfl rfl
theorem dX9_midstream_57 : decode cX9_midstream 57 = .ok (.lstore 5, 2) := fq_55 fk_cX9_midstream_3 9 rfl rfl rfl
theorem dX9_midstream_59 : decode cX9_midstream 59 = .ok (.iconst 0, 1) := fq_3 fk_cX9_midstream_3 11 rfl rfl
theorem dX9_midstream_60 : decode cX9_midstream 60 = .ok (.istore 7, 2) := fq_54 fk_cX9_midstream_3 12 rfl rfl rfl
theorem fk_cX9_midstream_5 : fq_ck cX9_midstream 80 [64, 109, 55, 5, 132, 7, 1, 167, 255, 231, 22, 5, 136, 172] := fq_of fW_cX9_midstream 5 rfl rfl
theorem dX9_midstream_90 : decode cX9_midstream 90 = .ok (.lload 5, 2) := fq_22 fk_cX9_midstream_5 10 rfl rfl rfl
theorem dX9_midstream_92 : decode cX9_midstream 92 = .ok (.l2i, 1) := fq_136 fk_cX9_midstream_5 12 rfl rfl
theorem dX9_midstream_93 : decode cX9_midstream 93 = .ok (.ireturn, 1) := fq_172 fk_cX9_midstream_5 13 rfl rfl
theorem dX9_midstream_62 : decode cX9_midstream 62 = .ok (.iload 7, 2) := fq_21 fk_cX9_midstream_3 14 rfl rfl rfl
theorem fk_cX9_midstream_4 : fq_ck cX9_midstream 64 [28, 162, 0, 25, 22, 5, 17, 3, 232, 21, 4, 100, 133, 105, 20, 1, 64, 109] := fq_of fW_cX9_midstream 4 rfl rfl
theorem dX9_midstream_64 : decode cX9_midstream 64 = .ok (.iload_n 2, 1) := fq_28 fk_cX9_midstream_4 0 rfl rfl
theorem dX9_midstream_65 : decode cX9_midstream 65 = .ok (.if_icmp .ge 25, 3) := fq_162 fk_cX9_midstream_4 1 rfl rfl rfl rfl rfl
theorem dX9_midstream_68 : decode cX9_midstream 68 = .ok (.lload 5, 2) := fq_22 fk_cX9_midstream_4 4 rfl rfl rfl
theorem dX9_midstream_70 : decode cX9_midstream 70 = .ok (.sipush 1000, 3) := fq_17 fk_cX9_midstream_4 6 rfl rfl rfl rfl rfl
theorem dX9_midstream_73 : decode cX9_midstream 73 = .ok (.iload 4, 2) := fq_21 fk_cX9_midstream_4 9 rfl rfl rfl
theorem dX9_midstream_75 : decode cX9_midstream 75 = .ok (.isub, 1) := fq_100 fk_cX9_midstream_4 11 rfl rfl
theorem dX9_midstream_76 : decode cX9_midstream 76 = .ok (.i2l, 1) := fq_133 fk_cX9_midstream_4 12 rfl rfl
theorem dX9_midstream_77 : decode cX9_midstream 77 = .ok (.lmul, 1) := fq_105 fk_cX9_midstream_4 13 rfl rfl
theorem wd_418 : Cond.constantLong RX9 320 (1000) ∈ BG := BG_at4 5 (by decide +kernel) rfl
theorem dX9_midstream_78 : decode cX9_midstream 78 = .ok (.ldc2_w 320, 3) := fq_20 fk_cX9_midstream_4 14 rfl rfl rfl rfl rfl
theorem dX9_midstream_81 : decode cX9_midstream 81 = .ok (.ldiv, 1) := fq_109 fk_cX9_midstream_5 1 rfl rfl
theorem dX9_midstream_82 : decode cX9_midstream 82 = .ok (.lstore 5, 2) := fq_55 fk_cX9_midstream_5 2 rfl rfl rfl
theorem dX9_midstream_84 : decode cX9_midstream 84 = .ok (.iinc 7 1, 3) := fq_132 fk_cX9_midstream_5 4 rfl rfl rfl rfl rfl
theorem dX9_midstream_87 : decode cX9_midstream 87 = .ok (.goto (-25), 3) := fq_167 fk_cX9_midstream_5 7 rfl rfl rfl rfl rfl
theorem dX9_midstream_11 : decode cX9_midstream 11 = .ok (.ldc 163, 2) := fq_18 fk_cX9_midstream_0 11 rfl rfl rfl
theorem dX9_midstream_13 : decode cX9_midstream 13 = .ok (.ireturn, 1) := fq_172 fk_cX9_midstream_0 13 rfl rfl
def fw_cX9_fleet : List (List Nat) := [[27, 4, 161, 0, 9, 27, 16, 9, 164, 0, 6, 18, 104, 172, 27, 42, 180, 0], [180, 0, 30, 182, 1, 66, 104, 61, 2, 62, 3, 54, 4, 21, 4, 4, 42, 180], [42, 180, 0, 30, 180, 0, 130, 120, 162, 0, 79, 29, 2, 159, 0, 15, 21, 4], [21, 4, 184, 1, 69, 29, 184, 1, 69, 162, 0, 7, 4, 167, 0, 4, 3, 54], [3, 54, 5, 21, 4, 42, 180, 0, 40, 182, 0, 143, 126, 154, 0, 7, 4, 167], [4, 167, 0, 4, 3, 54, 6, 21, 5, 153, 0, 24, 21, 6, 153, 0, 19, 42], [19, 42, 180, 0, 40, 21, 4, 182, 1, 74, 28, 161, 0, 6, 21, 4, 62, 132], [62, 132, 4, 1, 167, 255, 169, 29, 172]]
theorem fW_cX9_fleet : fq_wins 8 cX9_fleet.data.toList = fw_cX9_fleet := by decide +kernel
theorem fk_cX9_fleet_0 : fq_ck cX9_fleet 0 [27, 4, 161, 0, 9, 27, 16, 9, 164, 0, 6, 18, 104, 172, 27, 42, 180, 0] := fq_of fW_cX9_fleet 0 rfl rfl
theorem dX9_fleet_0 : decode cX9_fleet 0 = .ok (.iload_n 1, 1) := fq_27 fk_cX9_fleet_0 0 rfl rfl
theorem dX9_fleet_1 : decode cX9_fleet 1 = .ok (.iconst 1, 1) := fq_4 fk_cX9_fleet_0 1 rfl rfl
theorem dX9_fleet_2 : decode cX9_fleet 2 = .ok (.if_icmp .lt 9, 3) := fq_161 fk_cX9_fleet_0 2 rfl rfl rfl rfl rfl
theorem dX9_fleet_11 : decode cX9_fleet 11 = .ok (.ldc 104, 2) := fq_18 fk_cX9_fleet_0 11 rfl rfl rfl
theorem dX9_fleet_13 : decode cX9_fleet 13 = .ok (.ireturn, 1) := fq_172 fk_cX9_fleet_0 13 rfl rfl
theorem dX9_fleet_5 : decode cX9_fleet 5 = .ok (.iload_n 1, 1) := fq_27 fk_cX9_fleet_0 5 rfl rfl
theorem dX9_fleet_6 : decode cX9_fleet 6 = .ok (.bipush 9, 2) := fq_16 fk_cX9_fleet_0 6 rfl rfl rfl rfl
theorem dX9_fleet_8 : decode cX9_fleet 8 = .ok (.if_icmp .le 6, 3) := fq_164 fk_cX9_fleet_0 8 rfl rfl rfl rfl rfl
theorem dX9_fleet_14 : decode cX9_fleet 14 = .ok (.iload_n 1, 1) := fq_27 fk_cX9_fleet_0 14 rfl rfl
theorem dX9_fleet_15 : decode cX9_fleet 15 = .ok (.aload_n 0, 1) := fq_42 fk_cX9_fleet_0 15 rfl rfl
theorem fk_cX9_fleet_1 : fq_ck cX9_fleet 16 [180, 0, 30, 182, 1, 66, 104, 61, 2, 62, 3, 54, 4, 21, 4, 4, 42, 180] := fq_of fW_cX9_fleet 1 rfl rfl
theorem dX9_fleet_16 : decode cX9_fleet 16 = .ok (.getfield 30, 3) := fq_180 fk_cX9_fleet_1 0 rfl rfl rfl rfl rfl
theorem dX9_fleet_19 : decode cX9_fleet 19 = .ok (.invokevirtual 322, 3) := fq_182 fk_cX9_fleet_1 3 rfl rfl rfl rfl rfl
theorem wd_419 : Cond.methodLink RX9 322 yX8_needOfAll ∈ BG := BG_at4 10 (by decide +kernel) rfl
theorem wd_420 : Cond.code yX8_needOfAll cX8_needOfAll 3 (some .int) ∈ BG := BG_at4 13 rfl rfl
theorem wd_421 : Cond.instanceMethod yX8_needOfAll ∈ BG := BG_at4 11 (by decide +kernel) rfl
theorem wd_422 : Cond.selects RX8 yX8_needOfAll yX8_needOfAll ∈ BG := BG_at4 12 (by decide +kernel) rfl
theorem okV_X8_needOfAll : okV yX8_needOfAll cX8_needOfAll 3 (some .int) 0 := ⟨⟨wd_420, wd_86, by decide +kernel⟩, wd_421, wd_422⟩
theorem dX9_fleet_22 : decode cX9_fleet 22 = .ok (.imul, 1) := fq_104 fk_cX9_fleet_1 6 rfl rfl
theorem dX9_fleet_23 : decode cX9_fleet 23 = .ok (.istore_n 2, 1) := fq_61 fk_cX9_fleet_1 7 rfl rfl
theorem dX9_fleet_24 : decode cX9_fleet 24 = .ok (.iconst (-1), 1) := fq_2 fk_cX9_fleet_1 8 rfl rfl
theorem dX9_fleet_25 : decode cX9_fleet 25 = .ok (.istore_n 3, 1) := fq_62 fk_cX9_fleet_1 9 rfl rfl
theorem dX9_fleet_26 : decode cX9_fleet 26 = .ok (.iconst 0, 1) := fq_3 fk_cX9_fleet_1 10 rfl rfl
theorem dX9_fleet_27 : decode cX9_fleet 27 = .ok (.istore 4, 2) := fq_54 fk_cX9_fleet_1 11 rfl rfl rfl
theorem fk_cX9_fleet_7 : fq_ck cX9_fleet 112 [62, 132, 4, 1, 167, 255, 169, 29, 172] := fq_of fW_cX9_fleet 7 rfl rfl
theorem dX9_fleet_119 : decode cX9_fleet 119 = .ok (.iload_n 3, 1) := fq_29 fk_cX9_fleet_7 7 rfl rfl
theorem dX9_fleet_120 : decode cX9_fleet 120 = .ok (.ireturn, 1) := fq_172 fk_cX9_fleet_7 8 rfl rfl
theorem dX9_fleet_29 : decode cX9_fleet 29 = .ok (.iload 4, 2) := fq_21 fk_cX9_fleet_1 13 rfl rfl rfl
theorem dX9_fleet_31 : decode cX9_fleet 31 = .ok (.iconst 1, 1) := fq_4 fk_cX9_fleet_1 15 rfl rfl
theorem fk_cX9_fleet_2 : fq_ck cX9_fleet 32 [42, 180, 0, 30, 180, 0, 130, 120, 162, 0, 79, 29, 2, 159, 0, 15, 21, 4] := fq_of fW_cX9_fleet 2 rfl rfl
theorem dX9_fleet_32 : decode cX9_fleet 32 = .ok (.aload_n 0, 1) := fq_42 fk_cX9_fleet_2 0 rfl rfl
theorem dX9_fleet_33 : decode cX9_fleet 33 = .ok (.getfield 30, 3) := fq_180 fk_cX9_fleet_2 1 rfl rfl rfl rfl rfl
theorem dX9_fleet_36 : decode cX9_fleet 36 = .ok (.getfield 130, 3) := fq_180 fk_cX9_fleet_2 4 rfl rfl rfl rfl rfl
theorem dX9_fleet_39 : decode cX9_fleet 39 = .ok (.ishl, 1) := fq_120 fk_cX9_fleet_2 7 rfl rfl
theorem dX9_fleet_40 : decode cX9_fleet 40 = .ok (.if_icmp .ge 79, 3) := fq_162 fk_cX9_fleet_2 8 rfl rfl rfl rfl rfl
theorem dX9_fleet_43 : decode cX9_fleet 43 = .ok (.iload_n 3, 1) := fq_29 fk_cX9_fleet_2 11 rfl rfl
theorem dX9_fleet_44 : decode cX9_fleet 44 = .ok (.iconst (-1), 1) := fq_2 fk_cX9_fleet_2 12 rfl rfl
theorem dX9_fleet_45 : decode cX9_fleet 45 = .ok (.if_icmp .eq 15, 3) := fq_159 fk_cX9_fleet_2 13 rfl rfl rfl rfl rfl
theorem fk_cX9_fleet_3 : fq_ck cX9_fleet 48 [21, 4, 184, 1, 69, 29, 184, 1, 69, 162, 0, 7, 4, 167, 0, 4, 3, 54] := fq_of fW_cX9_fleet 3 rfl rfl
theorem dX9_fleet_60 : decode cX9_fleet 60 = .ok (.iconst 1, 1) := fq_4 fk_cX9_fleet_3 12 rfl rfl
theorem dX9_fleet_61 : decode cX9_fleet 61 = .ok (.goto 4, 3) := fq_167 fk_cX9_fleet_3 13 rfl rfl rfl rfl rfl
theorem fk_cX9_fleet_4 : fq_ck cX9_fleet 64 [3, 54, 5, 21, 4, 42, 180, 0, 40, 182, 0, 143, 126, 154, 0, 7, 4, 167] := fq_of fW_cX9_fleet 4 rfl rfl
theorem dX9_fleet_65 : decode cX9_fleet 65 = .ok (.istore 5, 2) := fq_54 fk_cX9_fleet_4 1 rfl rfl rfl
theorem dX9_fleet_67 : decode cX9_fleet 67 = .ok (.iload 4, 2) := fq_21 fk_cX9_fleet_4 3 rfl rfl rfl
theorem dX9_fleet_69 : decode cX9_fleet 69 = .ok (.aload_n 0, 1) := fq_42 fk_cX9_fleet_4 5 rfl rfl
theorem dX9_fleet_70 : decode cX9_fleet 70 = .ok (.getfield 40, 3) := fq_180 fk_cX9_fleet_4 6 rfl rfl rfl rfl rfl
theorem dX9_fleet_73 : decode cX9_fleet 73 = .ok (.invokevirtual 143, 3) := fq_182 fk_cX9_fleet_4 9 rfl rfl rfl rfl rfl
theorem dX9_fleet_76 : decode cX9_fleet 76 = .ok (.iand, 1) := fq_126 fk_cX9_fleet_4 12 rfl rfl
theorem dX9_fleet_77 : decode cX9_fleet 77 = .ok (.ifCond .ne 7, 3) := fq_154 fk_cX9_fleet_4 13 rfl rfl rfl rfl rfl
theorem fk_cX9_fleet_5 : fq_ck cX9_fleet 80 [4, 167, 0, 4, 3, 54, 6, 21, 5, 153, 0, 24, 21, 6, 153, 0, 19, 42] := fq_of fW_cX9_fleet 5 rfl rfl
theorem dX9_fleet_84 : decode cX9_fleet 84 = .ok (.iconst 0, 1) := fq_3 fk_cX9_fleet_5 4 rfl rfl
theorem dX9_fleet_85 : decode cX9_fleet 85 = .ok (.istore 6, 2) := fq_54 fk_cX9_fleet_5 5 rfl rfl rfl
theorem dX9_fleet_87 : decode cX9_fleet 87 = .ok (.iload 5, 2) := fq_21 fk_cX9_fleet_5 7 rfl rfl rfl
theorem dX9_fleet_89 : decode cX9_fleet 89 = .ok (.ifCond .eq 24, 3) := fq_153 fk_cX9_fleet_5 9 rfl rfl rfl rfl rfl
theorem dX9_fleet_92 : decode cX9_fleet 92 = .ok (.iload 6, 2) := fq_21 fk_cX9_fleet_5 12 rfl rfl rfl
theorem dX9_fleet_94 : decode cX9_fleet 94 = .ok (.ifCond .eq 19, 3) := fq_153 fk_cX9_fleet_5 14 rfl rfl rfl rfl rfl
theorem dX9_fleet_113 : decode cX9_fleet 113 = .ok (.iinc 4 1, 3) := fq_132 fk_cX9_fleet_7 1 rfl rfl rfl rfl rfl
theorem dX9_fleet_116 : decode cX9_fleet 116 = .ok (.goto (-87), 3) := fq_167 fk_cX9_fleet_7 4 rfl rfl rfl rfl rfl
theorem dX9_fleet_80 : decode cX9_fleet 80 = .ok (.iconst 1, 1) := fq_4 fk_cX9_fleet_5 0 rfl rfl
theorem dX9_fleet_81 : decode cX9_fleet 81 = .ok (.goto 4, 3) := fq_167 fk_cX9_fleet_5 1 rfl rfl rfl rfl rfl
theorem fk_cX9_fleet_6 : fq_ck cX9_fleet 96 [19, 42, 180, 0, 40, 21, 4, 182, 1, 74, 28, 161, 0, 6, 21, 4, 62, 132] := fq_of fW_cX9_fleet 6 rfl rfl
theorem dX9_fleet_97 : decode cX9_fleet 97 = .ok (.aload_n 0, 1) := fq_42 fk_cX9_fleet_6 1 rfl rfl
theorem dX9_fleet_98 : decode cX9_fleet 98 = .ok (.getfield 40, 3) := fq_180 fk_cX9_fleet_6 2 rfl rfl rfl rfl rfl
theorem dX9_fleet_101 : decode cX9_fleet 101 = .ok (.iload 4, 2) := fq_21 fk_cX9_fleet_6 5 rfl rfl rfl
theorem dX9_fleet_103 : decode cX9_fleet 103 = .ok (.invokevirtual 330, 3) := fq_182 fk_cX9_fleet_6 7 rfl rfl rfl rfl rfl
theorem wd_423 : Cond.methodLink RX9 330 yX7_grievanceOfSet ∈ BG := BG_at4 15 (by decide +kernel) rfl
theorem dX9_fleet_106 : decode cX9_fleet 106 = .ok (.iload_n 2, 1) := fq_28 fk_cX9_fleet_6 10 rfl rfl
theorem dX9_fleet_107 : decode cX9_fleet 107 = .ok (.if_icmp .lt 6, 3) := fq_161 fk_cX9_fleet_6 11 rfl rfl rfl rfl rfl
theorem dX9_fleet_110 : decode cX9_fleet 110 = .ok (.iload 4, 2) := fq_21 fk_cX9_fleet_6 14 rfl rfl rfl
theorem dX9_fleet_112 : decode cX9_fleet 112 = .ok (.istore_n 3, 1) := fq_62 fk_cX9_fleet_7 0 rfl rfl
theorem dX9_fleet_48 : decode cX9_fleet 48 = .ok (.iload 4, 2) := fq_21 fk_cX9_fleet_3 0 rfl rfl rfl
theorem dX9_fleet_50 : decode cX9_fleet 50 = .ok (.invokestatic 325, 3) := fq_184 fk_cX9_fleet_3 2 rfl rfl rfl rfl rfl
theorem wd_424 : Cond.methodLink RX9 325 yJ6_bitCount_0f7a4 ∈ BG := BG_at4 14 (by decide +kernel) rfl
theorem dX9_fleet_53 : decode cX9_fleet 53 = .ok (.iload_n 3, 1) := fq_29 fk_cX9_fleet_3 5 rfl rfl
theorem dX9_fleet_54 : decode cX9_fleet 54 = .ok (.invokestatic 325, 3) := fq_184 fk_cX9_fleet_3 6 rfl rfl rfl rfl rfl
theorem dX9_fleet_57 : decode cX9_fleet 57 = .ok (.if_icmp .ge 7, 3) := fq_162 fk_cX9_fleet_3 9 rfl rfl rfl rfl rfl
theorem dX9_fleet_64 : decode cX9_fleet 64 = .ok (.iconst 0, 1) := fq_3 fk_cX9_fleet_4 0 rfl rfl
def fw_cX9_write : List (List Nat) := [[42, 180, 0, 30, 27, 182, 0, 174, 154, 0, 6, 18, 163, 172, 28, 155, 0, 9], [0, 9, 28, 16, 99, 164, 0, 6, 18, 104, 172, 42, 180, 0, 69, 180, 0, 153], [0, 153, 16, 15, 161, 0, 6, 18, 105, 172, 42, 180, 0, 69, 27, 28, 182, 1], [182, 1, 77, 42, 180, 0, 69, 180, 0, 153, 172]]
theorem fW_cX9_write : fq_wins 4 cX9_write.data.toList = fw_cX9_write := by decide +kernel
theorem fk_cX9_write_0 : fq_ck cX9_write 0 [42, 180, 0, 30, 27, 182, 0, 174, 154, 0, 6, 18, 163, 172, 28, 155, 0, 9] := fq_of fW_cX9_write 0 rfl rfl
theorem dX9_write_0 : decode cX9_write 0 = .ok (.aload_n 0, 1) := fq_42 fk_cX9_write_0 0 rfl rfl
theorem dX9_write_1 : decode cX9_write 1 = .ok (.getfield 30, 3) := fq_180 fk_cX9_write_0 1 rfl rfl rfl rfl rfl
theorem dX9_write_4 : decode cX9_write 4 = .ok (.iload_n 1, 1) := fq_27 fk_cX9_write_0 4 rfl rfl
theorem dX9_write_5 : decode cX9_write 5 = .ok (.invokevirtual 174, 3) := fq_182 fk_cX9_write_0 5 rfl rfl rfl rfl rfl
theorem dX9_write_8 : decode cX9_write 8 = .ok (.ifCond .ne 6, 3) := fq_154 fk_cX9_write_0 8 rfl rfl rfl rfl rfl
theorem dX9_write_14 : decode cX9_write 14 = .ok (.iload_n 2, 1) := fq_28 fk_cX9_write_0 14 rfl rfl
theorem dX9_write_15 : decode cX9_write 15 = .ok (.ifCond .lt 9, 3) := fq_155 fk_cX9_write_0 15 rfl rfl rfl rfl rfl
theorem fk_cX9_write_1 : fq_ck cX9_write 16 [0, 9, 28, 16, 99, 164, 0, 6, 18, 104, 172, 42, 180, 0, 69, 180, 0, 153] := fq_of fW_cX9_write 1 rfl rfl
theorem dX9_write_24 : decode cX9_write 24 = .ok (.ldc 104, 2) := fq_18 fk_cX9_write_1 8 rfl rfl rfl
theorem dX9_write_26 : decode cX9_write 26 = .ok (.ireturn, 1) := fq_172 fk_cX9_write_1 10 rfl rfl
theorem dX9_write_18 : decode cX9_write 18 = .ok (.iload_n 2, 1) := fq_28 fk_cX9_write_1 2 rfl rfl
theorem dX9_write_19 : decode cX9_write 19 = .ok (.bipush 99, 2) := fq_16 fk_cX9_write_1 3 rfl rfl rfl rfl
theorem dX9_write_21 : decode cX9_write 21 = .ok (.if_icmp .le 6, 3) := fq_164 fk_cX9_write_1 5 rfl rfl rfl rfl rfl
theorem dX9_write_27 : decode cX9_write 27 = .ok (.aload_n 0, 1) := fq_42 fk_cX9_write_1 11 rfl rfl
theorem dX9_write_28 : decode cX9_write 28 = .ok (.getfield 69, 3) := fq_180 fk_cX9_write_1 12 rfl rfl rfl rfl rfl
theorem dX9_write_31 : decode cX9_write 31 = .ok (.getfield 153, 3) := fq_180 fk_cX9_write_1 15 rfl rfl rfl rfl rfl
theorem fk_cX9_write_2 : fq_ck cX9_write 32 [0, 153, 16, 15, 161, 0, 6, 18, 105, 172, 42, 180, 0, 69, 27, 28, 182, 1] := fq_of fW_cX9_write 2 rfl rfl
theorem dX9_write_34 : decode cX9_write 34 = .ok (.bipush 15, 2) := fq_16 fk_cX9_write_2 2 rfl rfl rfl rfl
theorem dX9_write_36 : decode cX9_write 36 = .ok (.if_icmp .lt 6, 3) := fq_161 fk_cX9_write_2 4 rfl rfl rfl rfl rfl
theorem dX9_write_42 : decode cX9_write 42 = .ok (.aload_n 0, 1) := fq_42 fk_cX9_write_2 10 rfl rfl
theorem dX9_write_43 : decode cX9_write 43 = .ok (.getfield 69, 3) := fq_180 fk_cX9_write_2 11 rfl rfl rfl rfl rfl
theorem dX9_write_46 : decode cX9_write 46 = .ok (.iload_n 1, 1) := fq_27 fk_cX9_write_2 14 rfl rfl
theorem dX9_write_47 : decode cX9_write 47 = .ok (.iload_n 2, 1) := fq_28 fk_cX9_write_2 15 rfl rfl
theorem fk_cX9_write_3 : fq_ck cX9_write 48 [182, 1, 77, 42, 180, 0, 69, 180, 0, 153, 172] := fq_of fW_cX9_write 3 rfl rfl
theorem dX9_write_48 : decode cX9_write 48 = .ok (.invokevirtual 333, 3) := fq_182 fk_cX9_write_3 0 rfl rfl rfl rfl rfl
theorem wd_425 : Cond.methodLink RX9 333 yX0_enter ∈ BG := BG_at4 20 (by decide +kernel) rfl
theorem wd_426 : Cond.code yX0_enter cX0_enter 3 none ∈ BG := BG_at4 23 rfl rfl
theorem wd_427 : Cond.instanceMethod yX0_enter ∈ BG := BG_at4 21 (by decide +kernel) rfl
theorem wd_428 : Cond.selects RX0 yX0_enter yX0_enter ∈ BG := BG_at4 22 (by decide +kernel) rfl
theorem okV_X0_enter : okV yX0_enter cX0_enter 3 none 2 := ⟨⟨wd_426, wd_110, by decide +kernel⟩, wd_427, wd_428⟩
theorem dX9_write_51 : decode cX9_write 51 = .ok (.aload_n 0, 1) := fq_42 fk_cX9_write_3 3 rfl rfl
theorem dX9_write_52 : decode cX9_write 52 = .ok (.getfield 69, 3) := fq_180 fk_cX9_write_3 4 rfl rfl rfl rfl rfl
theorem dX9_write_55 : decode cX9_write 55 = .ok (.getfield 153, 3) := fq_180 fk_cX9_write_3 7 rfl rfl rfl rfl rfl
theorem dX9_write_58 : decode cX9_write 58 = .ok (.ireturn, 1) := fq_172 fk_cX9_write_3 10 rfl rfl
theorem dX9_write_39 : decode cX9_write 39 = .ok (.ldc 105, 2) := fq_18 fk_cX9_write_2 7 rfl rfl rfl
theorem dX9_write_41 : decode cX9_write 41 = .ok (.ireturn, 1) := fq_172 fk_cX9_write_2 9 rfl rfl
theorem dX9_write_11 : decode cX9_write 11 = .ok (.ldc 163, 2) := fq_18 fk_cX9_write_0 11 rfl rfl rfl
theorem dX9_write_13 : decode cX9_write 13 = .ok (.ireturn, 1) := fq_172 fk_cX9_write_0 13 rfl rfl
def fw_cX9_tear : List (List Nat) := [[42, 180, 0, 69, 180, 0, 153, 60, 42, 180, 0, 69, 182, 0, 121, 27, 172], [172]]
theorem fW_cX9_tear : fq_wins 2 cX9_tear.data.toList = fw_cX9_tear := by decide +kernel
theorem fk_cX9_tear_0 : fq_ck cX9_tear 0 [42, 180, 0, 69, 180, 0, 153, 60, 42, 180, 0, 69, 182, 0, 121, 27, 172] := fq_of fW_cX9_tear 0 rfl rfl
theorem dX9_tear_0 : decode cX9_tear 0 = .ok (.aload_n 0, 1) := fq_42 fk_cX9_tear_0 0 rfl rfl
theorem dX9_tear_1 : decode cX9_tear 1 = .ok (.getfield 69, 3) := fq_180 fk_cX9_tear_0 1 rfl rfl rfl rfl rfl
theorem dX9_tear_4 : decode cX9_tear 4 = .ok (.getfield 153, 3) := fq_180 fk_cX9_tear_0 4 rfl rfl rfl rfl rfl
theorem dX9_tear_7 : decode cX9_tear 7 = .ok (.istore_n 1, 1) := fq_60 fk_cX9_tear_0 7 rfl rfl
theorem dX9_tear_8 : decode cX9_tear 8 = .ok (.aload_n 0, 1) := fq_42 fk_cX9_tear_0 8 rfl rfl
theorem dX9_tear_9 : decode cX9_tear 9 = .ok (.getfield 69, 3) := fq_180 fk_cX9_tear_0 9 rfl rfl rfl rfl rfl
theorem dX9_tear_12 : decode cX9_tear 12 = .ok (.invokevirtual 121, 3) := fq_182 fk_cX9_tear_0 12 rfl rfl rfl rfl rfl
theorem wd_429 : Cond.methodLink RX9 121 yX0_clear ∈ BG := BG_at2 155 (by decide +kernel) rfl
theorem wd_430 : Cond.code yX0_clear cX0_clear 1 none ∈ BG := BG_at2 158 rfl rfl
theorem wd_431 : Cond.instanceMethod yX0_clear ∈ BG := BG_at2 156 (by decide +kernel) rfl
theorem wd_432 : Cond.selects RX0 yX0_clear yX0_clear ∈ BG := BG_at2 157 (by decide +kernel) rfl
theorem okV_X0_clear : okV yX0_clear cX0_clear 1 none 0 := ⟨⟨wd_430, wd_110, by decide +kernel⟩, wd_431, wd_432⟩
theorem dX9_tear_15 : decode cX9_tear 15 = .ok (.iload_n 1, 1) := fq_27 fk_cX9_tear_0 15 rfl rfl
theorem fk_cX9_tear_1 : fq_ck cX9_tear 16 [172] := fq_of fW_cX9_tear 1 rfl rfl
theorem dX9_tear_16 : decode cX9_tear 16 = .ok (.ireturn, 1) := fq_172 fk_cX9_tear_1 0 rfl rfl
def fw_cX9_judge : List (List Nat) := [[42, 180, 0, 69, 42, 180, 0, 40, 182, 1, 80, 172]]
theorem fW_cX9_judge : fq_wins 1 cX9_judge.data.toList = fw_cX9_judge := by decide +kernel
theorem fk_cX9_judge_0 : fq_ck cX9_judge 0 [42, 180, 0, 69, 42, 180, 0, 40, 182, 1, 80, 172] := fq_of fW_cX9_judge 0 rfl rfl
theorem dX9_judge_0 : decode cX9_judge 0 = .ok (.aload_n 0, 1) := fq_42 fk_cX9_judge_0 0 rfl rfl
theorem dX9_judge_1 : decode cX9_judge 1 = .ok (.getfield 69, 3) := fq_180 fk_cX9_judge_0 1 rfl rfl rfl rfl rfl
theorem dX9_judge_4 : decode cX9_judge 4 = .ok (.aload_n 0, 1) := fq_42 fk_cX9_judge_0 4 rfl rfl
theorem dX9_judge_5 : decode cX9_judge 5 = .ok (.getfield 40, 3) := fq_180 fk_cX9_judge_0 5 rfl rfl rfl rfl rfl
theorem dX9_judge_8 : decode cX9_judge 8 = .ok (.invokevirtual 336, 3) := fq_182 fk_cX9_judge_0 8 rfl rfl rfl rfl rfl
theorem wd_433 : Cond.methodLink RX9 336 yX0_firstWrong ∈ BG := BG_at4 33 (by decide +kernel) rfl
theorem wd_434 : Cond.code yX0_firstWrong cX0_firstWrong 3 (some .int) ∈ BG := BG_at4 36 rfl rfl
theorem wd_435 : Cond.instanceMethod yX0_firstWrong ∈ BG := BG_at4 34 (by decide +kernel) rfl
theorem wd_436 : Cond.selects RX0 yX0_firstWrong yX0_firstWrong ∈ BG := BG_at4 35 (by decide +kernel) rfl
theorem okV_X0_firstWrong : okV yX0_firstWrong cX0_firstWrong 3 (some .int) 1 := ⟨⟨wd_434, wd_110, by decide +kernel⟩, wd_435, wd_436⟩
theorem dX9_judge_11 : decode cX9_judge 11 = .ok (.ireturn, 1) := fq_172 fk_cX9_judge_0 11 rfl rfl
def fw_cX9_seed : List (List Nat) := [[27, 156, 0, 6, 18, 104, 172, 42, 180, 0, 73, 61, 42, 27, 181, 0, 73, 28], [73, 28, 172]]
theorem fW_cX9_seed : fq_wins 2 cX9_seed.data.toList = fw_cX9_seed := by decide +kernel
theorem fk_cX9_seed_0 : fq_ck cX9_seed 0 [27, 156, 0, 6, 18, 104, 172, 42, 180, 0, 73, 61, 42, 27, 181, 0, 73, 28] := fq_of fW_cX9_seed 0 rfl rfl
theorem dX9_seed_0 : decode cX9_seed 0 = .ok (.iload_n 1, 1) := fq_27 fk_cX9_seed_0 0 rfl rfl
theorem dX9_seed_1 : decode cX9_seed 1 = .ok (.ifCond .ge 6, 3) := fq_156 fk_cX9_seed_0 1 rfl rfl rfl rfl rfl
theorem dX9_seed_7 : decode cX9_seed 7 = .ok (.aload_n 0, 1) := fq_42 fk_cX9_seed_0 7 rfl rfl
theorem dX9_seed_8 : decode cX9_seed 8 = .ok (.getfield 73, 3) := fq_180 fk_cX9_seed_0 8 rfl rfl rfl rfl rfl
theorem dX9_seed_11 : decode cX9_seed 11 = .ok (.istore_n 2, 1) := fq_61 fk_cX9_seed_0 11 rfl rfl
theorem dX9_seed_12 : decode cX9_seed 12 = .ok (.aload_n 0, 1) := fq_42 fk_cX9_seed_0 12 rfl rfl
theorem dX9_seed_13 : decode cX9_seed 13 = .ok (.iload_n 1, 1) := fq_27 fk_cX9_seed_0 13 rfl rfl
theorem dX9_seed_14 : decode cX9_seed 14 = .ok (.putfield 73, 3) := fq_181 fk_cX9_seed_0 14 rfl rfl rfl rfl rfl
theorem fk_cX9_seed_1 : fq_ck cX9_seed 16 [73, 28, 172] := fq_of fW_cX9_seed 1 rfl rfl
theorem dX9_seed_17 : decode cX9_seed 17 = .ok (.iload_n 2, 1) := fq_28 fk_cX9_seed_1 1 rfl rfl
theorem dX9_seed_18 : decode cX9_seed 18 = .ok (.ireturn, 1) := fq_172 fk_cX9_seed_1 2 rfl rfl
theorem dX9_seed_4 : decode cX9_seed 4 = .ok (.ldc 104, 2) := fq_18 fk_cX9_seed_0 4 rfl rfl rfl
theorem dX9_seed_6 : decode cX9_seed 6 = .ok (.ireturn, 1) := fq_172 fk_cX9_seed_0 6 rfl rfl
def fw_cX9_keep : List (List Nat) := [[27, 155, 0, 8, 27, 5, 161, 0, 6, 18, 163, 172, 42, 180, 0, 56, 27, 42], [27, 42, 180, 0, 40, 182, 1, 84, 42, 180, 0, 60, 27, 42, 180, 0, 73, 184], [73, 184, 0, 106, 42, 89, 180, 0, 63, 4, 27, 120, 128, 181, 0, 63, 42, 180], [42, 180, 0, 47, 182, 0, 118, 4, 172]]
theorem fW_cX9_keep : fq_wins 4 cX9_keep.data.toList = fw_cX9_keep := by decide +kernel
theorem fk_cX9_keep_0 : fq_ck cX9_keep 0 [27, 155, 0, 8, 27, 5, 161, 0, 6, 18, 163, 172, 42, 180, 0, 56, 27, 42] := fq_of fW_cX9_keep 0 rfl rfl
theorem dX9_keep_0 : decode cX9_keep 0 = .ok (.iload_n 1, 1) := fq_27 fk_cX9_keep_0 0 rfl rfl
theorem dX9_keep_1 : decode cX9_keep 1 = .ok (.ifCond .lt 8, 3) := fq_155 fk_cX9_keep_0 1 rfl rfl rfl rfl rfl
theorem dX9_keep_9 : decode cX9_keep 9 = .ok (.ldc 163, 2) := fq_18 fk_cX9_keep_0 9 rfl rfl rfl
theorem dX9_keep_11 : decode cX9_keep 11 = .ok (.ireturn, 1) := fq_172 fk_cX9_keep_0 11 rfl rfl
theorem dX9_keep_4 : decode cX9_keep 4 = .ok (.iload_n 1, 1) := fq_27 fk_cX9_keep_0 4 rfl rfl
theorem dX9_keep_5 : decode cX9_keep 5 = .ok (.iconst 2, 1) := fq_5 fk_cX9_keep_0 5 rfl rfl
theorem dX9_keep_6 : decode cX9_keep 6 = .ok (.if_icmp .lt 6, 3) := fq_161 fk_cX9_keep_0 6 rfl rfl rfl rfl rfl
theorem dX9_keep_12 : decode cX9_keep 12 = .ok (.aload_n 0, 1) := fq_42 fk_cX9_keep_0 12 rfl rfl
theorem dX9_keep_13 : decode cX9_keep 13 = .ok (.getfield 56, 3) := fq_180 fk_cX9_keep_0 13 rfl rfl rfl rfl rfl
theorem fk_cX9_keep_1 : fq_ck cX9_keep 16 [27, 42, 180, 0, 40, 182, 1, 84, 42, 180, 0, 60, 27, 42, 180, 0, 73, 184] := fq_of fW_cX9_keep 1 rfl rfl
theorem dX9_keep_16 : decode cX9_keep 16 = .ok (.iload_n 1, 1) := fq_27 fk_cX9_keep_1 0 rfl rfl
theorem dX9_keep_17 : decode cX9_keep 17 = .ok (.aload_n 0, 1) := fq_42 fk_cX9_keep_1 1 rfl rfl
theorem dX9_keep_18 : decode cX9_keep 18 = .ok (.getfield 40, 3) := fq_180 fk_cX9_keep_1 2 rfl rfl rfl rfl rfl
theorem dX9_keep_21 : decode cX9_keep 21 = .ok (.invokevirtual 340, 3) := fq_182 fk_cX9_keep_1 5 rfl rfl rfl rfl rfl
theorem wd_437 : Cond.methodLink RX9 340 yX6_store ∈ BG := BG_at4 47 (by decide +kernel) rfl
theorem dX9_keep_24 : decode cX9_keep 24 = .ok (.aload_n 0, 1) := fq_42 fk_cX9_keep_1 8 rfl rfl
theorem dX9_keep_25 : decode cX9_keep 25 = .ok (.getfield 60, 3) := fq_180 fk_cX9_keep_1 9 rfl rfl rfl rfl rfl
theorem dX9_keep_28 : decode cX9_keep 28 = .ok (.iload_n 1, 1) := fq_27 fk_cX9_keep_1 12 rfl rfl
theorem dX9_keep_29 : decode cX9_keep 29 = .ok (.aload_n 0, 1) := fq_42 fk_cX9_keep_1 13 rfl rfl
theorem dX9_keep_30 : decode cX9_keep 30 = .ok (.getfield 73, 3) := fq_180 fk_cX9_keep_1 14 rfl rfl rfl rfl rfl
theorem fk_cX9_keep_2 : fq_ck cX9_keep 32 [73, 184, 0, 106, 42, 89, 180, 0, 63, 4, 27, 120, 128, 181, 0, 63, 42, 180] := fq_of fW_cX9_keep 2 rfl rfl
theorem dX9_keep_33 : decode cX9_keep 33 = .ok (.invokestatic 106, 3) := fq_184 fk_cX9_keep_2 1 rfl rfl rfl rfl rfl
theorem dX9_keep_36 : decode cX9_keep 36 = .ok (.aload_n 0, 1) := fq_42 fk_cX9_keep_2 4 rfl rfl
theorem dX9_keep_37 : decode cX9_keep 37 = .ok (.dup, 1) := fq_89 fk_cX9_keep_2 5 rfl rfl
theorem dX9_keep_38 : decode cX9_keep 38 = .ok (.getfield 63, 3) := fq_180 fk_cX9_keep_2 6 rfl rfl rfl rfl rfl
theorem dX9_keep_41 : decode cX9_keep 41 = .ok (.iconst 1, 1) := fq_4 fk_cX9_keep_2 9 rfl rfl
theorem dX9_keep_42 : decode cX9_keep 42 = .ok (.iload_n 1, 1) := fq_27 fk_cX9_keep_2 10 rfl rfl
theorem dX9_keep_43 : decode cX9_keep 43 = .ok (.ishl, 1) := fq_120 fk_cX9_keep_2 11 rfl rfl
theorem dX9_keep_44 : decode cX9_keep 44 = .ok (.ior, 1) := fq_128 fk_cX9_keep_2 12 rfl rfl
theorem dX9_keep_45 : decode cX9_keep 45 = .ok (.putfield 63, 3) := fq_181 fk_cX9_keep_2 13 rfl rfl rfl rfl rfl
theorem fk_cX9_keep_3 : fq_ck cX9_keep 48 [42, 180, 0, 47, 182, 0, 118, 4, 172] := fq_of fW_cX9_keep 3 rfl rfl
theorem dX9_keep_48 : decode cX9_keep 48 = .ok (.aload_n 0, 1) := fq_42 fk_cX9_keep_3 0 rfl rfl
theorem dX9_keep_49 : decode cX9_keep 49 = .ok (.getfield 47, 3) := fq_180 fk_cX9_keep_3 1 rfl rfl rfl rfl rfl
theorem dX9_keep_52 : decode cX9_keep 52 = .ok (.invokevirtual 118, 3) := fq_182 fk_cX9_keep_3 4 rfl rfl rfl rfl rfl
theorem wd_438 : Cond.methodLink RX9 118 yX2_forget ∈ BG := BG_at2 151 (by decide +kernel) rfl
theorem wd_439 : Cond.code yX2_forget cX2_forget 1 none ∈ BG := BG_at2 154 rfl rfl
theorem wd_440 : Cond.instanceMethod yX2_forget ∈ BG := BG_at2 152 (by decide +kernel) rfl
theorem wd_441 : Cond.selects RX2 yX2_forget yX2_forget ∈ BG := BG_at2 153 (by decide +kernel) rfl
theorem okV_X2_forget : okV yX2_forget cX2_forget 1 none 0 := ⟨⟨wd_439, wd_99, by decide +kernel⟩, wd_440, wd_441⟩
theorem dX9_keep_55 : decode cX9_keep 55 = .ok (.iconst 1, 1) := fq_4 fk_cX9_keep_3 7 rfl rfl
theorem dX9_keep_56 : decode cX9_keep 56 = .ok (.ireturn, 1) := fq_172 fk_cX9_keep_3 8 rfl rfl
def fw_cX9_goBack : List (List Nat) := [[27, 155, 0, 8, 27, 5, 161, 0, 6, 18, 163, 172, 42, 180, 0, 63, 27, 122], [27, 122, 4, 126, 154, 0, 6, 18, 217, 172, 42, 180, 0, 56, 27, 42, 180, 0], [180, 0, 40, 182, 1, 88, 42, 42, 180, 0, 60, 27, 184, 0, 167, 181, 0, 73], [0, 73, 42, 180, 0, 47, 182, 0, 118, 4, 172]]
theorem fW_cX9_goBack : fq_wins 4 cX9_goBack.data.toList = fw_cX9_goBack := by decide +kernel
theorem fk_cX9_goBack_0 : fq_ck cX9_goBack 0 [27, 155, 0, 8, 27, 5, 161, 0, 6, 18, 163, 172, 42, 180, 0, 63, 27, 122] := fq_of fW_cX9_goBack 0 rfl rfl
theorem dX9_goBack_0 : decode cX9_goBack 0 = .ok (.iload_n 1, 1) := fq_27 fk_cX9_goBack_0 0 rfl rfl
theorem dX9_goBack_1 : decode cX9_goBack 1 = .ok (.ifCond .lt 8, 3) := fq_155 fk_cX9_goBack_0 1 rfl rfl rfl rfl rfl
theorem dX9_goBack_9 : decode cX9_goBack 9 = .ok (.ldc 163, 2) := fq_18 fk_cX9_goBack_0 9 rfl rfl rfl
theorem dX9_goBack_11 : decode cX9_goBack 11 = .ok (.ireturn, 1) := fq_172 fk_cX9_goBack_0 11 rfl rfl
theorem dX9_goBack_4 : decode cX9_goBack 4 = .ok (.iload_n 1, 1) := fq_27 fk_cX9_goBack_0 4 rfl rfl
theorem dX9_goBack_5 : decode cX9_goBack 5 = .ok (.iconst 2, 1) := fq_5 fk_cX9_goBack_0 5 rfl rfl
theorem dX9_goBack_6 : decode cX9_goBack 6 = .ok (.if_icmp .lt 6, 3) := fq_161 fk_cX9_goBack_0 6 rfl rfl rfl rfl rfl
theorem dX9_goBack_12 : decode cX9_goBack 12 = .ok (.aload_n 0, 1) := fq_42 fk_cX9_goBack_0 12 rfl rfl
theorem dX9_goBack_13 : decode cX9_goBack 13 = .ok (.getfield 63, 3) := fq_180 fk_cX9_goBack_0 13 rfl rfl rfl rfl rfl
theorem fk_cX9_goBack_1 : fq_ck cX9_goBack 16 [27, 122, 4, 126, 154, 0, 6, 18, 217, 172, 42, 180, 0, 56, 27, 42, 180, 0] := fq_of fW_cX9_goBack 1 rfl rfl
theorem dX9_goBack_16 : decode cX9_goBack 16 = .ok (.iload_n 1, 1) := fq_27 fk_cX9_goBack_1 0 rfl rfl
theorem dX9_goBack_17 : decode cX9_goBack 17 = .ok (.ishr, 1) := fq_122 fk_cX9_goBack_1 1 rfl rfl
theorem dX9_goBack_18 : decode cX9_goBack 18 = .ok (.iconst 1, 1) := fq_4 fk_cX9_goBack_1 2 rfl rfl
theorem dX9_goBack_19 : decode cX9_goBack 19 = .ok (.iand, 1) := fq_126 fk_cX9_goBack_1 3 rfl rfl
theorem dX9_goBack_20 : decode cX9_goBack 20 = .ok (.ifCond .ne 6, 3) := fq_154 fk_cX9_goBack_1 4 rfl rfl rfl rfl rfl
theorem dX9_goBack_26 : decode cX9_goBack 26 = .ok (.aload_n 0, 1) := fq_42 fk_cX9_goBack_1 10 rfl rfl
theorem dX9_goBack_27 : decode cX9_goBack 27 = .ok (.getfield 56, 3) := fq_180 fk_cX9_goBack_1 11 rfl rfl rfl rfl rfl
theorem dX9_goBack_30 : decode cX9_goBack 30 = .ok (.iload_n 1, 1) := fq_27 fk_cX9_goBack_1 14 rfl rfl
theorem dX9_goBack_31 : decode cX9_goBack 31 = .ok (.aload_n 0, 1) := fq_42 fk_cX9_goBack_1 15 rfl rfl
theorem fk_cX9_goBack_2 : fq_ck cX9_goBack 32 [180, 0, 40, 182, 1, 88, 42, 42, 180, 0, 60, 27, 184, 0, 167, 181, 0, 73] := fq_of fW_cX9_goBack 2 rfl rfl
theorem dX9_goBack_32 : decode cX9_goBack 32 = .ok (.getfield 40, 3) := fq_180 fk_cX9_goBack_2 0 rfl rfl rfl rfl rfl
theorem dX9_goBack_35 : decode cX9_goBack 35 = .ok (.invokevirtual 344, 3) := fq_182 fk_cX9_goBack_2 3 rfl rfl rfl rfl rfl
theorem wd_442 : Cond.methodLink RX9 344 yX6_fetch ∈ BG := BG_at4 52 (by decide +kernel) rfl
theorem dX9_goBack_38 : decode cX9_goBack 38 = .ok (.aload_n 0, 1) := fq_42 fk_cX9_goBack_2 6 rfl rfl
theorem dX9_goBack_39 : decode cX9_goBack 39 = .ok (.aload_n 0, 1) := fq_42 fk_cX9_goBack_2 7 rfl rfl
theorem dX9_goBack_40 : decode cX9_goBack 40 = .ok (.getfield 60, 3) := fq_180 fk_cX9_goBack_2 8 rfl rfl rfl rfl rfl
theorem dX9_goBack_43 : decode cX9_goBack 43 = .ok (.iload_n 1, 1) := fq_27 fk_cX9_goBack_2 11 rfl rfl
theorem dX9_goBack_44 : decode cX9_goBack 44 = .ok (.invokestatic 167, 3) := fq_184 fk_cX9_goBack_2 12 rfl rfl rfl rfl rfl
theorem dX9_goBack_47 : decode cX9_goBack 47 = .ok (.putfield 73, 3) := fq_181 fk_cX9_goBack_2 15 rfl rfl rfl rfl rfl
theorem fk_cX9_goBack_3 : fq_ck cX9_goBack 48 [0, 73, 42, 180, 0, 47, 182, 0, 118, 4, 172] := fq_of fW_cX9_goBack 3 rfl rfl
theorem dX9_goBack_50 : decode cX9_goBack 50 = .ok (.aload_n 0, 1) := fq_42 fk_cX9_goBack_3 2 rfl rfl
theorem dX9_goBack_51 : decode cX9_goBack 51 = .ok (.getfield 47, 3) := fq_180 fk_cX9_goBack_3 3 rfl rfl rfl rfl rfl
theorem dX9_goBack_54 : decode cX9_goBack 54 = .ok (.invokevirtual 118, 3) := fq_182 fk_cX9_goBack_3 6 rfl rfl rfl rfl rfl
theorem dX9_goBack_57 : decode cX9_goBack 57 = .ok (.iconst 1, 1) := fq_4 fk_cX9_goBack_3 9 rfl rfl
theorem dX9_goBack_58 : decode cX9_goBack 58 = .ok (.ireturn, 1) := fq_172 fk_cX9_goBack_3 10 rfl rfl
theorem dX9_goBack_23 : decode cX9_goBack 23 = .ok (.ldc 217, 2) := fq_18 fk_cX9_goBack_1 7 rfl rfl rfl
theorem dX9_goBack_25 : decode cX9_goBack 25 = .ok (.ireturn, 1) := fq_172 fk_cX9_goBack_1 9 rfl rfl
noncomputable def f_e_feed_x9 (q1 : Int32) (q2 : Int32) (q10 : Int32) (q12 : Int32) (ftx : Nat → Int32) (c_ : Int32) : Int32 × Int32 × (Nat → Int32) := (if c_ < 0 then ((-1000000002), q1, ftx) else (if c_ ≤ 255 then (if q1 < 240 then ((q1 + 1), (q1 + 1), (putF 240 ftx q1 c_)) else ((-1000000004), q1, ftx)) else ((-1000000002), q1, ftx)))
def rm_e_feed_x9 : Room := { frames := 1, cells := 0, slots := 0, locals := 22 }
set_option maxHeartbeats 4000000 in
set_option maxRecDepth 100000 in
theorem e_feed_x9 {l : Launch} {D : va_G} {cI cZ : ClassId} {sz : Nat} (h x rd t d nw ps im is_ bk qr pr cv ft : Nat) (q1 : Int32) (q2 : Int32) (q10 : Int32) (q12 : Int32) (ftx : Nat → Int32) (c_ : Int32) : KI l yX9_feed cX9_feed 2 (some .int) rm_e_feed_x9 D cI cZ [.ref h, .int c_] sz [(h, .inr (9, [.ref x, .int q1, .int q2, .ref rd, .ref t, .ref d, .ref nw, .ref ps, .ref im, .ref is_, .int q10, .ref bk, .int q12, .ref qr, .ref pr, .ref cv, .ref ft])), (x, .inl (cI, 240, .inl ftx))] (fun (r : Int32) (u : Int32 × (Nat → Int32)) => (r, u) = f_e_feed_x9 q1 q2 q10 q12 ftx c_) (fun (u : Int32 × (Nat → Int32)) => [(h, .inr (9, [.ref x, .int (u.1), .int q2, .ref rd, .ref t, .ref d, .ref nw, .ref ps, .ref im, .ref is_, .int q10, .ref bk, .int q12, .ref qr, .ref pr, .ref cv, .ref ft])), (x, .inl (cI, 240, .inl u.2))]) := by
  refine KI.go rfl (Nat.le_of_ble_eq_true rfl) ?_
  intro p e s m args below meth c ls A Q hx hb hml hts hown hin hP hK hD hS hA hN hl hret
  have hl : lv_has ls 2 [(0, .ref h), (1, .int c_)] := hl
  obtain ⟨RES, hE⟩ : ∃ xRES, f_e_feed_x9 q1 q2 q10 q12 ftx c_ = xRES := ⟨_, rfl⟩
  rw [hE] at hret
  rw [f_e_feed_x9] at hE
  refine lv_iload_n hx hb dX9_feed_0 rfl (lv_at hl 1 rfl) ?_
  refine lv_if_lt (tgt := 11) hx hb dX9_feed_1 rfl (fun c_1 => ?_) (fun c_1 => ?_)
  · rw [if_pos c_1] at hE
    refine lv_ldc (v := (-1000000002)) hx hb hown (hts _ wd_339) dX9_feed_11 ?_
    exact hret (-1000000002) (q1, ftx) _ _ _ _ dX9_feed_13 rfl hE hP hD hS
  · rw [if_neg c_1] at hE
    refine lv_iload_n hx hb dX9_feed_4 rfl (lv_at hl 1 rfl) ?_
    refine lv_sipush (v := 255) hx hb dX9_feed_5 rfl ?_
    refine lv_icmp_le (tgt := 14) hx hb dX9_feed_8 rfl (fun c_2 => ?_) (fun c_2 => ?_)
    · rw [if_pos c_2] at hE
      refine lv_aload_n hx hb dX9_feed_14 rfl (lv_at hl 0 rfl) ?_
      refine va_get (D := D) (ci := 9) (v := .int q1) (C := RX9) (T := TX9) (N := 17) hx hb hts iX9 hown hK hP 0 rfl rfl 1 (Nat.le_of_ble_eq_true rfl) (hts _ wd_76) (fun _ h9 => h9) rfl dX9_feed_15 ?_
      refine lv_sipush (v := 240) hx hb dX9_feed_18 rfl ?_
      refine lv_icmp_lt (tgt := 27) hx hb dX9_feed_21 rfl (fun c_3 => ?_) (fun c_3 => ?_)
      · rw [if_pos c_3] at hE
        refine lv_aload_n hx hb dX9_feed_27 rfl (lv_at hl 0 rfl) ?_
        refine va_get (D := D) (ci := 9) (v := .ref x) (C := RX9) (T := TX9) (N := 17) hx hb hts iX9 hown hK hP 0 rfl rfl 0 (Nat.le_of_ble_eq_true rfl) (hts _ wd_75) (fun _ h9 => h9) rfl dX9_feed_28 ?_
        refine lv_aload_n hx hb dX9_feed_31 rfl (lv_at hl 0 rfl) ?_
        refine va_get (D := D) (ci := 9) (v := .int q1) (C := RX9) (T := TX9) (N := 17) hx hb hts iX9 hown hK hP 0 rfl rfl 1 (Nat.le_of_ble_eq_true rfl) (hts _ wd_76) (fun _ h9 => h9) rfl dX9_feed_32 ?_
        refine lv_iload_n hx hb dX9_feed_35 rfl (lv_at hl 1 rfl) ?_
        refine cSv (wr := [(h, .inr (9, [.ref x, .int q1, .int q2, .ref rd, .ref t, .ref d, .ref nw, .ref ps, .ref im, .ref is_, .int q10, .ref bk, .int q12, .ref qr, .ref pr, .ref cv, .ref ft]))]) (rest := []) (k_put x 240 ftx q1 c_ (of_decide_eq_true rfl)) okS_X9_put wd_340 hx hb hml hown hts hK hP hD hS hA hN hl.1 [1] [0] rfl rfl rfl rfl (by decide) rfl (Nat.le_of_ble_eq_true rfl) (Nat.le_of_ble_eq_true rfl) (Nat.le_of_ble_eq_true rfl) (Nat.le_of_ble_eq_true rfl) (Nat.le_of_ble_eq_true rfl) dX9_feed_36 (fun u_4 H locs hw_u_4 hP hD hS => ?_)
        have hP : va_P D classes [(h, .inr (9, [.ref x, .int q1, .int q2, .ref rd, .ref t, .ref d, .ref nw, .ref ps, .ref im, .ref is_, .int q10, .ref bk, .int q12, .ref qr, .ref pr, .ref cv, .ref ft])), (x, .inl (cI, 240, .inl (putF 240 ftx q1 c_)))] H := hP
        have hD : va_D A [(h, .inr (9, [.ref x, .int q1, .int q2, .ref rd, .ref t, .ref d, .ref nw, .ref ps, .ref im, .ref is_, .int q10, .ref bk, .int q12, .ref qr, .ref pr, .ref cv, .ref ft])), (x, .inl (cI, 240, .inl (putF 240 ftx q1 c_)))] := hD
        refine lv_aload_n hx hb dX9_feed_39 rfl (lv_at hl 0 rfl) ?_
        refine lv_dup hx hb dX9_feed_40 rfl ?_
        refine va_get (D := D) (ci := 9) (v := .int q1) (C := RX9) (T := TX9) (N := 17) hx hb hts iX9 hown hK hP 0 rfl rfl 1 (Nat.le_of_ble_eq_true rfl) (hts _ wd_76) (fun _ h9 => h9) rfl dX9_feed_41 ?_
        refine lv_iconst (v := 1) hx hb dX9_feed_44 rfl ?_
        refine lv_iadd hx hb dX9_feed_45 ?_
        refine va_put (D := D) (ci := 9) (v := .int (q1 + 1)) (ty := .int) (C := RX9) (T := TX9) (N := 17) hx hb hts iX9 tyX9 tyX9_ok nmX9 hown hK hP hD hS 0 rfl rfl 1 (Nat.le_of_ble_eq_true rfl) (hts _ wd_76) (fun _ h9 => h9) rfl (by decide +kernel) rfl rfl (Nat.le_of_ble_eq_true rfl) dX9_feed_46 (fun H locs hP hD hS => ?_)
        have hP : va_P D classes [(h, .inr (9, [.ref x, .int (q1 + 1), .int q2, .ref rd, .ref t, .ref d, .ref nw, .ref ps, .ref im, .ref is_, .int q10, .ref bk, .int q12, .ref qr, .ref pr, .ref cv, .ref ft])), (x, .inl (cI, 240, .inl (putF 240 ftx q1 c_)))] H := hP
        have hD : va_D A [(h, .inr (9, [.ref x, .int (q1 + 1), .int q2, .ref rd, .ref t, .ref d, .ref nw, .ref ps, .ref im, .ref is_, .int q10, .ref bk, .int q12, .ref qr, .ref pr, .ref cv, .ref ft])), (x, .inl (cI, 240, .inl (putF 240 ftx q1 c_)))] := hD
        refine lv_aload_n hx hb dX9_feed_49 rfl (lv_at hl 0 rfl) ?_
        refine va_get (D := D) (ci := 9) (v := .int (q1 + 1)) (C := RX9) (T := TX9) (N := 17) hx hb hts iX9 hown hK hP 0 rfl rfl 1 (Nat.le_of_ble_eq_true rfl) (hts _ wd_76) (fun _ h9 => h9) rfl dX9_feed_50 ?_
        exact hret (q1 + 1) ((q1 + 1), (putF 240 ftx q1 c_)) _ _ _ _ dX9_feed_53 rfl hE hP hD hS
      · rw [if_neg c_3] at hE
        refine lv_ldc (v := (-1000000004)) hx hb hown (hts _ wd_341) dX9_feed_24 ?_
        exact hret (-1000000004) (q1, ftx) _ _ _ _ dX9_feed_26 rfl hE hP hD hS
    · rw [if_neg c_2] at hE
      refine lv_ldc (v := (-1000000002)) hx hb hown (hts _ wd_339) dX9_feed_11 ?_
      exact hret (-1000000002) (q1, ftx) _ _ _ _ dX9_feed_13 rfl hE hP hD hS
noncomputable def f_e_fault_x9 (q1 : Int32) (q2 : Int32) (q10 : Int32) (q12 : Int32) : Int32 := q2
def rm_e_fault_x9 : Room := { frames := 0, cells := 0, slots := 0, locals := 0 }
set_option maxHeartbeats 4000000 in
set_option maxRecDepth 100000 in
theorem e_fault_x9 {l : Launch} {D : va_G} {cI cZ : ClassId} {sz : Nat} (h x rd t d nw ps im is_ bk qr pr cv ft : Nat) (q1 : Int32) (q2 : Int32) (q10 : Int32) (q12 : Int32) : KI l yX9_fault cX9_fault 1 (some .int) rm_e_fault_x9 D cI cZ [.ref h] sz [(h, .inr (9, [.ref x, .int q1, .int q2, .ref rd, .ref t, .ref d, .ref nw, .ref ps, .ref im, .ref is_, .int q10, .ref bk, .int q12, .ref qr, .ref pr, .ref cv, .ref ft]))] (fun (r : Int32) (_ : Unit) => r = f_e_fault_x9 q1 q2 q10 q12) (fun (_ : Unit) => [(h, .inr (9, [.ref x, .int q1, .int q2, .ref rd, .ref t, .ref d, .ref nw, .ref ps, .ref im, .ref is_, .int q10, .ref bk, .int q12, .ref qr, .ref pr, .ref cv, .ref ft]))]) := by
  refine KI.go rfl (Nat.le_of_ble_eq_true rfl) ?_
  intro p e s m args below meth c ls A Q hx hb hml hts hown hin hP hK hD hS hA hN hl hret
  have hl : lv_has ls 1 [(0, .ref h)] := hl
  obtain ⟨RES, hE⟩ : ∃ xRES, f_e_fault_x9 q1 q2 q10 q12 = xRES := ⟨_, rfl⟩
  rw [hE] at hret
  rw [f_e_fault_x9] at hE
  refine lv_aload_n hx hb dX9_fault_0 rfl (lv_at hl 0 rfl) ?_
  refine va_get (D := D) (ci := 9) (v := .int q2) (C := RX9) (T := TX9) (N := 17) hx hb hts iX9 hown hK hP 0 rfl rfl 2 (Nat.le_of_ble_eq_true rfl) (hts _ wd_77) (fun _ h9 => h9) rfl dX9_fault_1 ?_
  exact hret q2 () _ _ _ _ dX9_fault_4 rfl hE hP hD hS
noncomputable def f_e_bridge_x9 (q1 : Int32) (q2 : Int32) (q10 : Int32) (q12 : Int32) (t0 : Int32) (t1 : Int32) (t2 : Int32) (t3 : Int32) (t4 : Int32) (fta : Nat → Int32) (fn : Nat → Int32) (b_ : Int32) (w_ : Int32) : Int32 := (if (f_e_hasBridge t0 t1 t2 t3 t4 b_) = 0 then (-1000000001) else (if w_ = 0 then (atF 6 fta b_) else (if w_ = 1 then (f_e_coupleAt fn b_) else (-1000000002))))
def rm_e_bridge_x9 : Room := { frames := 3, cells := 0, slots := 0, locals := 64 }
set_option maxHeartbeats 4000000 in
set_option maxRecDepth 100000 in
theorem e_bridge_x9 {l : Launch} {D : va_G} {cI cZ : ClassId} {sz : Nat} (h x rd t d nw ps im is_ bk qr pr cv ft ta tb tc td te nwc : Nat) (q1 : Int32) (q2 : Int32) (q10 : Int32) (q12 : Int32) (t0 : Int32) (t1 : Int32) (t2 : Int32) (t3 : Int32) (t4 : Int32) (fta : Nat → Int32) (fn : Nat → Int32) (b_ : Int32) (w_ : Int32) : KI l yX9_bridge cX9_bridge 3 (some .int) rm_e_bridge_x9 D cI cZ [.ref h, .int b_, .int w_] sz [(h, .inr (9, [.ref x, .int q1, .int q2, .ref rd, .ref t, .ref d, .ref nw, .ref ps, .ref im, .ref is_, .int q10, .ref bk, .int q12, .ref qr, .ref pr, .ref cv, .ref ft])), (t, .inr (8, [.int t0, .int t1, .int t2, .int t3, .int t4, .ref ta, .ref tb, .ref tc, .ref td, .ref te])), (ta, .inl (cI, 6, .inl fta)), (nw, .inr (7, [.ref nwc])), (nwc, .inl (cI, 41, .inl fn))] (fun (r : Int32) (_ : Unit) => r = f_e_bridge_x9 q1 q2 q10 q12 t0 t1 t2 t3 t4 fta fn b_ w_) (fun (_ : Unit) => [(h, .inr (9, [.ref x, .int q1, .int q2, .ref rd, .ref t, .ref d, .ref nw, .ref ps, .ref im, .ref is_, .int q10, .ref bk, .int q12, .ref qr, .ref pr, .ref cv, .ref ft])), (t, .inr (8, [.int t0, .int t1, .int t2, .int t3, .int t4, .ref ta, .ref tb, .ref tc, .ref td, .ref te])), (ta, .inl (cI, 6, .inl fta)), (nw, .inr (7, [.ref nwc])), (nwc, .inl (cI, 41, .inl fn))]) := by
  refine KI.go rfl (Nat.le_of_ble_eq_true rfl) ?_
  intro p e s m args below meth c ls A Q hx hb hml hts hown hin hP hK hD hS hA hN hl hret
  have hl : lv_has ls 3 [(0, .ref h), (1, .int b_), (2, .int w_)] := hl
  obtain ⟨RES, hE⟩ : ∃ xRES, f_e_bridge_x9 q1 q2 q10 q12 t0 t1 t2 t3 t4 fta fn b_ w_ = xRES := ⟨_, rfl⟩
  rw [hE] at hret
  rw [f_e_bridge_x9] at hE
  refine lv_aload_n hx hb dX9_bridge_0 rfl (lv_at hl 0 rfl) ?_
  refine va_get (D := D) (ci := 9) (v := .ref t) (C := RX9) (T := TX9) (N := 17) hx hb hts iX9 hown hK hP 0 rfl rfl 4 (Nat.le_of_ble_eq_true rfl) (hts _ wd_89) (fun _ h9 => h9) rfl dX9_bridge_1 ?_
  refine lv_iload_n hx hb dX9_bridge_4 rfl (lv_at hl 1 rfl) ?_
  refine cVi (wr := [(h, .inr (9, [.ref x, .int q1, .int q2, .ref rd, .ref t, .ref d, .ref nw, .ref ps, .ref im, .ref is_, .int q10, .ref bk, .int q12, .ref qr, .ref pr, .ref cv, .ref ft])), (ta, .inl (cI, 6, .inl fta)), (nw, .inr (7, [.ref nwc])), (nwc, .inl (cI, 41, .inl fn))]) (rest := []) (e_hasBridge t ta tb tc td te t0 t1 t2 t3 t4 b_) okV_X8_hasBridge wd_342 hx hb hml hown hts hK hP hD hS hA hN hl.1 [1] [0, 2, 3, 4] rfl rfl rfl rfl (of_decide_eq_true rfl) rfl rfl rfl (Nat.le_of_ble_eq_true rfl) (Nat.le_of_ble_eq_true rfl) (Nat.le_of_ble_eq_true rfl) (Nat.le_of_ble_eq_true rfl) (Nat.le_of_ble_eq_true rfl) dX9_bridge_5 (fun r_2 u_1 H locs hw_u_1 hP hD hS => ?_)
  replace hw_u_1 : r_2 = (f_e_hasBridge t0 t1 t2 t3 t4 b_) := hw_u_1
  rw [hw_u_1]
  clear hw_u_1
  have hP : va_P D classes [(h, .inr (9, [.ref x, .int q1, .int q2, .ref rd, .ref t, .ref d, .ref nw, .ref ps, .ref im, .ref is_, .int q10, .ref bk, .int q12, .ref qr, .ref pr, .ref cv, .ref ft])), (ta, .inl (cI, 6, .inl fta)), (nw, .inr (7, [.ref nwc])), (nwc, .inl (cI, 41, .inl fn)), (t, .inr (8, [.int t0, .int t1, .int t2, .int t3, .int t4, .ref ta, .ref tb, .ref tc, .ref td, .ref te]))] H := hP
  have hD : va_D A [(h, .inr (9, [.ref x, .int q1, .int q2, .ref rd, .ref t, .ref d, .ref nw, .ref ps, .ref im, .ref is_, .int q10, .ref bk, .int q12, .ref qr, .ref pr, .ref cv, .ref ft])), (ta, .inl (cI, 6, .inl fta)), (nw, .inr (7, [.ref nwc])), (nwc, .inl (cI, 41, .inl fn)), (t, .inr (8, [.int t0, .int t1, .int t2, .int t3, .int t4, .ref ta, .ref tb, .ref tc, .ref td, .ref te]))] := hD
  refine lv_if_ne (tgt := 14) hx hb dX9_bridge_8 rfl (fun c_3 => ?_) (fun c_3 => ?_)
  · rw [if_neg c_3] at hE
    refine lv_iload_n hx hb dX9_bridge_14 rfl (lv_at hl 2 rfl) ?_
    by_cases c_4 : w_ = 0
    · rw [if_pos c_4] at hE
      refine lv_lookup (off := 25) (tgt := 40) hx hb dX9_bridge_15 (by decide +kernel) (by rw [c_4]; decide +kernel) rfl ?_
      refine lv_aload_n hx hb dX9_bridge_40 rfl (lv_at hl 0 rfl) ?_
      refine va_get (D := D) (ci := 9) (v := .ref t) (C := RX9) (T := TX9) (N := 17) hx hb hts iX9 hown hK hP 0 rfl rfl 4 (Nat.le_of_ble_eq_true rfl) (hts _ wd_89) (fun _ h9 => h9) rfl dX9_bridge_41 ?_
      refine va_get (D := D) (ci := 8) (v := .ref ta) (C := RX8) (T := TX8) (N := 10) hx hb hts iX8 hown hK hP 4 rfl rfl 5 (Nat.le_of_ble_eq_true rfl) (hts _ wd_257) (fun _ h9 => h9) rfl dX9_bridge_44 ?_
      refine lv_iload_n hx hb dX9_bridge_47 rfl (lv_at hl 1 rfl) ?_
      refine cSi (wr := [(h, .inr (9, [.ref x, .int q1, .int q2, .ref rd, .ref t, .ref d, .ref nw, .ref ps, .ref im, .ref is_, .int q10, .ref bk, .int q12, .ref qr, .ref pr, .ref cv, .ref ft])), (nw, .inr (7, [.ref nwc])), (nwc, .inl (cI, 41, .inl fn)), (t, .inr (8, [.int t0, .int t1, .int t2, .int t3, .int t4, .ref ta, .ref tb, .ref tc, .ref td, .ref te]))]) (rest := []) (k_at ta 6 fta b_ (of_decide_eq_true rfl)) okS_X9_at wd_258 hx hb hml hown hts hK hP hD hS hA hN hl.1 [1] [0, 2, 3, 4] rfl rfl rfl rfl (by decide) rfl (Nat.le_of_ble_eq_true rfl) (Nat.le_of_ble_eq_true rfl) (Nat.le_of_ble_eq_true rfl) (Nat.le_of_ble_eq_true rfl) (Nat.le_of_ble_eq_true rfl) dX9_bridge_48 (fun r_6 u_5 H locs hw_u_5 hP hD hS => ?_)
      obtain rfl := hw_u_5
      have hP : va_P D classes [(h, .inr (9, [.ref x, .int q1, .int q2, .ref rd, .ref t, .ref d, .ref nw, .ref ps, .ref im, .ref is_, .int q10, .ref bk, .int q12, .ref qr, .ref pr, .ref cv, .ref ft])), (nw, .inr (7, [.ref nwc])), (nwc, .inl (cI, 41, .inl fn)), (t, .inr (8, [.int t0, .int t1, .int t2, .int t3, .int t4, .ref ta, .ref tb, .ref tc, .ref td, .ref te])), (ta, .inl (cI, 6, .inl fta))] H := hP
      have hD : va_D A [(h, .inr (9, [.ref x, .int q1, .int q2, .ref rd, .ref t, .ref d, .ref nw, .ref ps, .ref im, .ref is_, .int q10, .ref bk, .int q12, .ref qr, .ref pr, .ref cv, .ref ft])), (nw, .inr (7, [.ref nwc])), (nwc, .inl (cI, 41, .inl fn)), (t, .inr (8, [.int t0, .int t1, .int t2, .int t3, .int t4, .ref ta, .ref tb, .ref tc, .ref td, .ref te])), (ta, .inl (cI, 6, .inl fta))] := hD
      exact hret (atF 6 fta b_) () _ _ _ _ dX9_bridge_51 rfl hE (cutP (isC := [0, 3, 4, 1, 2]) hP rfl) (cutD (isC := [0, 3, 4, 1, 2]) hD rfl rfl) hS
    · skip
      rw [if_neg c_4] at hE
      by_cases c_7 : w_ = 1
      · rw [if_pos c_7] at hE
        refine lv_lookup (off := 37) (tgt := 52) hx hb dX9_bridge_15 (by decide +kernel) (by rw [c_7]; decide +kernel) rfl ?_
        refine lv_aload_n hx hb dX9_bridge_52 rfl (lv_at hl 0 rfl) ?_
        refine va_get (D := D) (ci := 9) (v := .ref nw) (C := RX9) (T := TX9) (N := 17) hx hb hts iX9 hown hK hP 0 rfl rfl 6 (Nat.le_of_ble_eq_true rfl) (hts _ wd_96) (fun _ h9 => h9) rfl dX9_bridge_53 ?_
        refine lv_iload_n hx hb dX9_bridge_56 rfl (lv_at hl 1 rfl) ?_
        refine cVi (wr := [(h, .inr (9, [.ref x, .int q1, .int q2, .ref rd, .ref t, .ref d, .ref nw, .ref ps, .ref im, .ref is_, .int q10, .ref bk, .int q12, .ref qr, .ref pr, .ref cv, .ref ft])), (ta, .inl (cI, 6, .inl fta)), (t, .inr (8, [.int t0, .int t1, .int t2, .int t3, .int t4, .ref ta, .ref tb, .ref tc, .ref td, .ref te]))]) (rest := []) (e_coupleAt nw nwc fn b_) okV_X7_coupleAt wd_287 hx hb hml hown hts hK hP hD hS hA hN hl.1 [2, 3] [0, 1, 4] rfl rfl rfl rfl (of_decide_eq_true rfl) rfl rfl rfl (Nat.le_of_ble_eq_true rfl) (Nat.le_of_ble_eq_true rfl) (Nat.le_of_ble_eq_true rfl) (Nat.le_of_ble_eq_true rfl) (Nat.le_of_ble_eq_true rfl) dX9_bridge_57 (fun r_9 u_8 H locs hw_u_8 hP hD hS => ?_)
        replace hw_u_8 : r_9 = (f_e_coupleAt fn b_) := hw_u_8
        rw [hw_u_8]
        clear hw_u_8
        have hP : va_P D classes [(h, .inr (9, [.ref x, .int q1, .int q2, .ref rd, .ref t, .ref d, .ref nw, .ref ps, .ref im, .ref is_, .int q10, .ref bk, .int q12, .ref qr, .ref pr, .ref cv, .ref ft])), (ta, .inl (cI, 6, .inl fta)), (t, .inr (8, [.int t0, .int t1, .int t2, .int t3, .int t4, .ref ta, .ref tb, .ref tc, .ref td, .ref te])), (nw, .inr (7, [.ref nwc])), (nwc, .inl (cI, 41, .inl fn))] H := hP
        have hD : va_D A [(h, .inr (9, [.ref x, .int q1, .int q2, .ref rd, .ref t, .ref d, .ref nw, .ref ps, .ref im, .ref is_, .int q10, .ref bk, .int q12, .ref qr, .ref pr, .ref cv, .ref ft])), (ta, .inl (cI, 6, .inl fta)), (t, .inr (8, [.int t0, .int t1, .int t2, .int t3, .int t4, .ref ta, .ref tb, .ref tc, .ref td, .ref te])), (nw, .inr (7, [.ref nwc])), (nwc, .inl (cI, 41, .inl fn))] := hD
        exact hret (f_e_coupleAt fn b_) () _ _ _ _ dX9_bridge_60 rfl hE (cutP (isC := [0, 2, 1, 3, 4]) hP rfl) (cutD (isC := [0, 2, 1, 3, 4]) hD rfl rfl) hS
      · skip
        rw [if_neg c_7] at hE
        refine lv_lookup (off := 46) (tgt := 61) hx hb dX9_bridge_15 (by decide +kernel) ((lv_osw c_4 rfl).trans ((lv_osw c_7 rfl).trans rfl)) rfl ?_
        refine lv_ldc (v := (-1000000002)) hx hb hown (hts _ wd_339) dX9_bridge_61 ?_
        exact hret (-1000000002) () _ _ _ _ dX9_bridge_63 rfl hE (cutP (isC := [0, 4, 1, 2, 3]) hP rfl) (cutD (isC := [0, 4, 1, 2, 3]) hD rfl rfl) hS
  · rw [if_pos c_3] at hE
    refine lv_ldc (v := (-1000000001)) hx hb hown (hts _ wd_346) dX9_bridge_11 ?_
    exact hret (-1000000001) () _ _ _ _ dX9_bridge_13 rfl hE (cutP (isC := [0, 4, 1, 2, 3]) hP rfl) (cutD (isC := [0, 4, 1, 2, 3]) hD rfl rfl) hS
noncomputable def f_e_couple_x9 (q1 : Int32) (q2 : Int32) (q10 : Int32) (q12 : Int32) (t0 : Int32) (t1 : Int32) (t2 : Int32) (t3 : Int32) (t4 : Int32) (ftb : Nat → Int32) (fn : Nat → Int32) (c_ : Int32) (w_ : Int32) : Int32 := (if (f_e_hasCouple t0 t1 t2 t3 t4 c_) = 0 then (-1000000001) else (if w_ = 0 then (f_e_grievanceOf fn c_) else (if w_ = 1 then (atF 6 ftb c_) else (if w_ = 2 then (f_e_bridgeOf fn c_) else (if w_ = 3 then (f_e_themeOf fn c_) else (if w_ = 4 then (if (f_e_isReconciled fn c_) = 0 then 0 else 1) else (-1000000002)))))))
def rm_e_couple_x9 : Room := { frames := 3, cells := 0, slots := 0, locals := 62 }
set_option maxHeartbeats 4000000 in
set_option maxRecDepth 100000 in
theorem e_couple_x9 {l : Launch} {D : va_G} {cI cZ : ClassId} {sz : Nat} (h x rd t d nw ps im is_ bk qr pr cv ft ta tb tc td te nwc : Nat) (q1 : Int32) (q2 : Int32) (q10 : Int32) (q12 : Int32) (t0 : Int32) (t1 : Int32) (t2 : Int32) (t3 : Int32) (t4 : Int32) (ftb : Nat → Int32) (fn : Nat → Int32) (c_ : Int32) (w_ : Int32) : KI l yX9_couple cX9_couple 3 (some .int) rm_e_couple_x9 D cI cZ [.ref h, .int c_, .int w_] sz [(h, .inr (9, [.ref x, .int q1, .int q2, .ref rd, .ref t, .ref d, .ref nw, .ref ps, .ref im, .ref is_, .int q10, .ref bk, .int q12, .ref qr, .ref pr, .ref cv, .ref ft])), (t, .inr (8, [.int t0, .int t1, .int t2, .int t3, .int t4, .ref ta, .ref tb, .ref tc, .ref td, .ref te])), (tb, .inl (cI, 6, .inl ftb)), (nw, .inr (7, [.ref nwc])), (nwc, .inl (cI, 41, .inl fn))] (fun (r : Int32) (_ : Unit) => r = f_e_couple_x9 q1 q2 q10 q12 t0 t1 t2 t3 t4 ftb fn c_ w_) (fun (_ : Unit) => [(h, .inr (9, [.ref x, .int q1, .int q2, .ref rd, .ref t, .ref d, .ref nw, .ref ps, .ref im, .ref is_, .int q10, .ref bk, .int q12, .ref qr, .ref pr, .ref cv, .ref ft])), (t, .inr (8, [.int t0, .int t1, .int t2, .int t3, .int t4, .ref ta, .ref tb, .ref tc, .ref td, .ref te])), (tb, .inl (cI, 6, .inl ftb)), (nw, .inr (7, [.ref nwc])), (nwc, .inl (cI, 41, .inl fn))]) := by
  refine KI.go rfl (Nat.le_of_ble_eq_true rfl) ?_
  intro p e s m args below meth c ls A Q hx hb hml hts hown hin hP hK hD hS hA hN hl hret
  have hl : lv_has ls 3 [(0, .ref h), (1, .int c_), (2, .int w_)] := hl
  obtain ⟨RES, hE⟩ : ∃ xRES, f_e_couple_x9 q1 q2 q10 q12 t0 t1 t2 t3 t4 ftb fn c_ w_ = xRES := ⟨_, rfl⟩
  rw [hE] at hret
  rw [f_e_couple_x9] at hE
  refine lv_aload_n hx hb dX9_couple_0 rfl (lv_at hl 0 rfl) ?_
  refine va_get (D := D) (ci := 9) (v := .ref t) (C := RX9) (T := TX9) (N := 17) hx hb hts iX9 hown hK hP 0 rfl rfl 4 (Nat.le_of_ble_eq_true rfl) (hts _ wd_89) (fun _ h9 => h9) rfl dX9_couple_1 ?_
  refine lv_iload_n hx hb dX9_couple_4 rfl (lv_at hl 1 rfl) ?_
  refine cVi (wr := [(h, .inr (9, [.ref x, .int q1, .int q2, .ref rd, .ref t, .ref d, .ref nw, .ref ps, .ref im, .ref is_, .int q10, .ref bk, .int q12, .ref qr, .ref pr, .ref cv, .ref ft])), (tb, .inl (cI, 6, .inl ftb)), (nw, .inr (7, [.ref nwc])), (nwc, .inl (cI, 41, .inl fn))]) (rest := []) (e_hasCouple t ta tb tc td te t0 t1 t2 t3 t4 c_) okV_X8_hasCouple wd_347 hx hb hml hown hts hK hP hD hS hA hN hl.1 [1] [0, 2, 3, 4] rfl rfl rfl rfl (of_decide_eq_true rfl) rfl rfl rfl (Nat.le_of_ble_eq_true rfl) (Nat.le_of_ble_eq_true rfl) (Nat.le_of_ble_eq_true rfl) (Nat.le_of_ble_eq_true rfl) (Nat.le_of_ble_eq_true rfl) dX9_couple_5 (fun r_2 u_1 H locs hw_u_1 hP hD hS => ?_)
  replace hw_u_1 : r_2 = (f_e_hasCouple t0 t1 t2 t3 t4 c_) := hw_u_1
  rw [hw_u_1]
  clear hw_u_1
  have hP : va_P D classes [(h, .inr (9, [.ref x, .int q1, .int q2, .ref rd, .ref t, .ref d, .ref nw, .ref ps, .ref im, .ref is_, .int q10, .ref bk, .int q12, .ref qr, .ref pr, .ref cv, .ref ft])), (tb, .inl (cI, 6, .inl ftb)), (nw, .inr (7, [.ref nwc])), (nwc, .inl (cI, 41, .inl fn)), (t, .inr (8, [.int t0, .int t1, .int t2, .int t3, .int t4, .ref ta, .ref tb, .ref tc, .ref td, .ref te]))] H := hP
  have hD : va_D A [(h, .inr (9, [.ref x, .int q1, .int q2, .ref rd, .ref t, .ref d, .ref nw, .ref ps, .ref im, .ref is_, .int q10, .ref bk, .int q12, .ref qr, .ref pr, .ref cv, .ref ft])), (tb, .inl (cI, 6, .inl ftb)), (nw, .inr (7, [.ref nwc])), (nwc, .inl (cI, 41, .inl fn)), (t, .inr (8, [.int t0, .int t1, .int t2, .int t3, .int t4, .ref ta, .ref tb, .ref tc, .ref td, .ref te]))] := hD
  refine lv_if_ne (tgt := 14) hx hb dX9_couple_8 rfl (fun c_3 => ?_) (fun c_3 => ?_)
  · rw [if_neg c_3] at hE
    refine lv_iload_n hx hb dX9_couple_14 rfl (lv_at hl 2 rfl) ?_
    by_cases c_4 : w_ = 0
    · rw [if_pos c_4] at hE
      subst c_4
      refine lv_tableIn (off := 33) (tgt := 48) hx hb dX9_couple_15 (by decide +kernel) (by decide +kernel) (by decide +kernel) rfl ?_
      refine lv_aload_n hx hb dX9_couple_48 rfl (lv_at hl 0 rfl) ?_
      refine va_get (D := D) (ci := 9) (v := .ref nw) (C := RX9) (T := TX9) (N := 17) hx hb hts iX9 hown hK hP 0 rfl rfl 6 (Nat.le_of_ble_eq_true rfl) (hts _ wd_96) (fun _ h9 => h9) rfl dX9_couple_49 ?_
      refine lv_iload_n hx hb dX9_couple_52 rfl (lv_at hl 1 rfl) ?_
      refine cVi (wr := [(h, .inr (9, [.ref x, .int q1, .int q2, .ref rd, .ref t, .ref d, .ref nw, .ref ps, .ref im, .ref is_, .int q10, .ref bk, .int q12, .ref qr, .ref pr, .ref cv, .ref ft])), (tb, .inl (cI, 6, .inl ftb)), (t, .inr (8, [.int t0, .int t1, .int t2, .int t3, .int t4, .ref ta, .ref tb, .ref tc, .ref td, .ref te]))]) (rest := []) (e_grievanceOf nw nwc fn c_) okV_X7_grievanceOf wd_251 hx hb hml hown hts hK hP hD hS hA hN hl.1 [2, 3] [0, 1, 4] rfl rfl rfl rfl (of_decide_eq_true rfl) rfl rfl rfl (Nat.le_of_ble_eq_true rfl) (Nat.le_of_ble_eq_true rfl) (Nat.le_of_ble_eq_true rfl) (Nat.le_of_ble_eq_true rfl) (Nat.le_of_ble_eq_true rfl) dX9_couple_53 (fun r_6 u_5 H locs hw_u_5 hP hD hS => ?_)
      replace hw_u_5 : r_6 = (f_e_grievanceOf fn c_) := hw_u_5
      rw [hw_u_5]
      clear hw_u_5
      have hP : va_P D classes [(h, .inr (9, [.ref x, .int q1, .int q2, .ref rd, .ref t, .ref d, .ref nw, .ref ps, .ref im, .ref is_, .int q10, .ref bk, .int q12, .ref qr, .ref pr, .ref cv, .ref ft])), (tb, .inl (cI, 6, .inl ftb)), (t, .inr (8, [.int t0, .int t1, .int t2, .int t3, .int t4, .ref ta, .ref tb, .ref tc, .ref td, .ref te])), (nw, .inr (7, [.ref nwc])), (nwc, .inl (cI, 41, .inl fn))] H := hP
      have hD : va_D A [(h, .inr (9, [.ref x, .int q1, .int q2, .ref rd, .ref t, .ref d, .ref nw, .ref ps, .ref im, .ref is_, .int q10, .ref bk, .int q12, .ref qr, .ref pr, .ref cv, .ref ft])), (tb, .inl (cI, 6, .inl ftb)), (t, .inr (8, [.int t0, .int t1, .int t2, .int t3, .int t4, .ref ta, .ref tb, .ref tc, .ref td, .ref te])), (nw, .inr (7, [.ref nwc])), (nwc, .inl (cI, 41, .inl fn))] := hD
      exact hret (f_e_grievanceOf fn c_) () _ _ _ _ dX9_couple_56 rfl hE (cutP (isC := [0, 2, 1, 3, 4]) hP rfl) (cutD (isC := [0, 2, 1, 3, 4]) hD rfl rfl) hS
    · skip
      rw [if_neg c_4] at hE
      by_cases c_7 : w_ = 1
      · rw [if_pos c_7] at hE
        subst c_7
        refine lv_tableIn (off := 42) (tgt := 57) hx hb dX9_couple_15 (by decide +kernel) (by decide +kernel) (by decide +kernel) rfl ?_
        refine lv_aload_n hx hb dX9_couple_57 rfl (lv_at hl 0 rfl) ?_
        refine va_get (D := D) (ci := 9) (v := .ref t) (C := RX9) (T := TX9) (N := 17) hx hb hts iX9 hown hK hP 0 rfl rfl 4 (Nat.le_of_ble_eq_true rfl) (hts _ wd_89) (fun _ h9 => h9) rfl dX9_couple_58 ?_
        refine va_get (D := D) (ci := 8) (v := .ref tb) (C := RX8) (T := TX8) (N := 10) hx hb hts iX8 hown hK hP 4 rfl rfl 6 (Nat.le_of_ble_eq_true rfl) (hts _ wd_351) (fun _ h9 => h9) rfl dX9_couple_61 ?_
        refine lv_iload_n hx hb dX9_couple_64 rfl (lv_at hl 1 rfl) ?_
        refine cSi (wr := [(h, .inr (9, [.ref x, .int q1, .int q2, .ref rd, .ref t, .ref d, .ref nw, .ref ps, .ref im, .ref is_, .int q10, .ref bk, .int q12, .ref qr, .ref pr, .ref cv, .ref ft])), (nw, .inr (7, [.ref nwc])), (nwc, .inl (cI, 41, .inl fn)), (t, .inr (8, [.int t0, .int t1, .int t2, .int t3, .int t4, .ref ta, .ref tb, .ref tc, .ref td, .ref te]))]) (rest := []) (k_at tb 6 ftb c_ (of_decide_eq_true rfl)) okS_X9_at wd_258 hx hb hml hown hts hK hP hD hS hA hN hl.1 [1] [0, 2, 3, 4] rfl rfl rfl rfl (by decide) rfl (Nat.le_of_ble_eq_true rfl) (Nat.le_of_ble_eq_true rfl) (Nat.le_of_ble_eq_true rfl) (Nat.le_of_ble_eq_true rfl) (Nat.le_of_ble_eq_true rfl) dX9_couple_65 (fun r_9 u_8 H locs hw_u_8 hP hD hS => ?_)
        obtain rfl := hw_u_8
        have hP : va_P D classes [(h, .inr (9, [.ref x, .int q1, .int q2, .ref rd, .ref t, .ref d, .ref nw, .ref ps, .ref im, .ref is_, .int q10, .ref bk, .int q12, .ref qr, .ref pr, .ref cv, .ref ft])), (nw, .inr (7, [.ref nwc])), (nwc, .inl (cI, 41, .inl fn)), (t, .inr (8, [.int t0, .int t1, .int t2, .int t3, .int t4, .ref ta, .ref tb, .ref tc, .ref td, .ref te])), (tb, .inl (cI, 6, .inl ftb))] H := hP
        have hD : va_D A [(h, .inr (9, [.ref x, .int q1, .int q2, .ref rd, .ref t, .ref d, .ref nw, .ref ps, .ref im, .ref is_, .int q10, .ref bk, .int q12, .ref qr, .ref pr, .ref cv, .ref ft])), (nw, .inr (7, [.ref nwc])), (nwc, .inl (cI, 41, .inl fn)), (t, .inr (8, [.int t0, .int t1, .int t2, .int t3, .int t4, .ref ta, .ref tb, .ref tc, .ref td, .ref te])), (tb, .inl (cI, 6, .inl ftb))] := hD
        exact hret (atF 6 ftb c_) () _ _ _ _ dX9_couple_68 rfl hE (cutP (isC := [0, 3, 4, 1, 2]) hP rfl) (cutD (isC := [0, 3, 4, 1, 2]) hD rfl rfl) hS
      · skip
        rw [if_neg c_7] at hE
        by_cases c_10 : w_ = 2
        · rw [if_pos c_10] at hE
          subst c_10
          refine lv_tableIn (off := 54) (tgt := 69) hx hb dX9_couple_15 (by decide +kernel) (by decide +kernel) (by decide +kernel) rfl ?_
          refine lv_aload_n hx hb dX9_couple_69 rfl (lv_at hl 0 rfl) ?_
          refine va_get (D := D) (ci := 9) (v := .ref nw) (C := RX9) (T := TX9) (N := 17) hx hb hts iX9 hown hK hP 0 rfl rfl 6 (Nat.le_of_ble_eq_true rfl) (hts _ wd_96) (fun _ h9 => h9) rfl dX9_couple_70 ?_
          refine lv_iload_n hx hb dX9_couple_73 rfl (lv_at hl 1 rfl) ?_
          refine cVi (wr := [(h, .inr (9, [.ref x, .int q1, .int q2, .ref rd, .ref t, .ref d, .ref nw, .ref ps, .ref im, .ref is_, .int q10, .ref bk, .int q12, .ref qr, .ref pr, .ref cv, .ref ft])), (tb, .inl (cI, 6, .inl ftb)), (t, .inr (8, [.int t0, .int t1, .int t2, .int t3, .int t4, .ref ta, .ref tb, .ref tc, .ref td, .ref te]))]) (rest := []) (e_bridgeOf nw nwc fn c_) okV_X7_bridgeOf wd_352 hx hb hml hown hts hK hP hD hS hA hN hl.1 [2, 3] [0, 1, 4] rfl rfl rfl rfl (of_decide_eq_true rfl) rfl rfl rfl (Nat.le_of_ble_eq_true rfl) (Nat.le_of_ble_eq_true rfl) (Nat.le_of_ble_eq_true rfl) (Nat.le_of_ble_eq_true rfl) (Nat.le_of_ble_eq_true rfl) dX9_couple_74 (fun r_12 u_11 H locs hw_u_11 hP hD hS => ?_)
          replace hw_u_11 : r_12 = (f_e_bridgeOf fn c_) := hw_u_11
          rw [hw_u_11]
          clear hw_u_11
          have hP : va_P D classes [(h, .inr (9, [.ref x, .int q1, .int q2, .ref rd, .ref t, .ref d, .ref nw, .ref ps, .ref im, .ref is_, .int q10, .ref bk, .int q12, .ref qr, .ref pr, .ref cv, .ref ft])), (tb, .inl (cI, 6, .inl ftb)), (t, .inr (8, [.int t0, .int t1, .int t2, .int t3, .int t4, .ref ta, .ref tb, .ref tc, .ref td, .ref te])), (nw, .inr (7, [.ref nwc])), (nwc, .inl (cI, 41, .inl fn))] H := hP
          have hD : va_D A [(h, .inr (9, [.ref x, .int q1, .int q2, .ref rd, .ref t, .ref d, .ref nw, .ref ps, .ref im, .ref is_, .int q10, .ref bk, .int q12, .ref qr, .ref pr, .ref cv, .ref ft])), (tb, .inl (cI, 6, .inl ftb)), (t, .inr (8, [.int t0, .int t1, .int t2, .int t3, .int t4, .ref ta, .ref tb, .ref tc, .ref td, .ref te])), (nw, .inr (7, [.ref nwc])), (nwc, .inl (cI, 41, .inl fn))] := hD
          exact hret (f_e_bridgeOf fn c_) () _ _ _ _ dX9_couple_77 rfl hE (cutP (isC := [0, 2, 1, 3, 4]) hP rfl) (cutD (isC := [0, 2, 1, 3, 4]) hD rfl rfl) hS
        · skip
          rw [if_neg c_10] at hE
          by_cases c_13 : w_ = 3
          · rw [if_pos c_13] at hE
            subst c_13
            refine lv_tableIn (off := 63) (tgt := 78) hx hb dX9_couple_15 (by decide +kernel) (by decide +kernel) (by decide +kernel) rfl ?_
            refine lv_aload_n hx hb dX9_couple_78 rfl (lv_at hl 0 rfl) ?_
            refine va_get (D := D) (ci := 9) (v := .ref nw) (C := RX9) (T := TX9) (N := 17) hx hb hts iX9 hown hK hP 0 rfl rfl 6 (Nat.le_of_ble_eq_true rfl) (hts _ wd_96) (fun _ h9 => h9) rfl dX9_couple_79 ?_
            refine lv_iload_n hx hb dX9_couple_82 rfl (lv_at hl 1 rfl) ?_
            refine cVi (wr := [(h, .inr (9, [.ref x, .int q1, .int q2, .ref rd, .ref t, .ref d, .ref nw, .ref ps, .ref im, .ref is_, .int q10, .ref bk, .int q12, .ref qr, .ref pr, .ref cv, .ref ft])), (tb, .inl (cI, 6, .inl ftb)), (t, .inr (8, [.int t0, .int t1, .int t2, .int t3, .int t4, .ref ta, .ref tb, .ref tc, .ref td, .ref te]))]) (rest := []) (e_themeOf nw nwc fn c_) okV_X7_themeOf wd_291 hx hb hml hown hts hK hP hD hS hA hN hl.1 [2, 3] [0, 1, 4] rfl rfl rfl rfl (of_decide_eq_true rfl) rfl rfl rfl (Nat.le_of_ble_eq_true rfl) (Nat.le_of_ble_eq_true rfl) (Nat.le_of_ble_eq_true rfl) (Nat.le_of_ble_eq_true rfl) (Nat.le_of_ble_eq_true rfl) dX9_couple_83 (fun r_15 u_14 H locs hw_u_14 hP hD hS => ?_)
            replace hw_u_14 : r_15 = (f_e_themeOf fn c_) := hw_u_14
            rw [hw_u_14]
            clear hw_u_14
            have hP : va_P D classes [(h, .inr (9, [.ref x, .int q1, .int q2, .ref rd, .ref t, .ref d, .ref nw, .ref ps, .ref im, .ref is_, .int q10, .ref bk, .int q12, .ref qr, .ref pr, .ref cv, .ref ft])), (tb, .inl (cI, 6, .inl ftb)), (t, .inr (8, [.int t0, .int t1, .int t2, .int t3, .int t4, .ref ta, .ref tb, .ref tc, .ref td, .ref te])), (nw, .inr (7, [.ref nwc])), (nwc, .inl (cI, 41, .inl fn))] H := hP
            have hD : va_D A [(h, .inr (9, [.ref x, .int q1, .int q2, .ref rd, .ref t, .ref d, .ref nw, .ref ps, .ref im, .ref is_, .int q10, .ref bk, .int q12, .ref qr, .ref pr, .ref cv, .ref ft])), (tb, .inl (cI, 6, .inl ftb)), (t, .inr (8, [.int t0, .int t1, .int t2, .int t3, .int t4, .ref ta, .ref tb, .ref tc, .ref td, .ref te])), (nw, .inr (7, [.ref nwc])), (nwc, .inl (cI, 41, .inl fn))] := hD
            exact hret (f_e_themeOf fn c_) () _ _ _ _ dX9_couple_86 rfl hE (cutP (isC := [0, 2, 1, 3, 4]) hP rfl) (cutD (isC := [0, 2, 1, 3, 4]) hD rfl rfl) hS
          · skip
            rw [if_neg c_13] at hE
            by_cases c_16 : w_ = 4
            · rw [if_pos c_16] at hE
              subst c_16
              refine lv_tableIn (off := 72) (tgt := 87) hx hb dX9_couple_15 (by decide +kernel) (by decide +kernel) (by decide +kernel) rfl ?_
              refine lv_aload_n hx hb dX9_couple_87 rfl (lv_at hl 0 rfl) ?_
              refine va_get (D := D) (ci := 9) (v := .ref nw) (C := RX9) (T := TX9) (N := 17) hx hb hts iX9 hown hK hP 0 rfl rfl 6 (Nat.le_of_ble_eq_true rfl) (hts _ wd_96) (fun _ h9 => h9) rfl dX9_couple_88 ?_
              refine lv_iload_n hx hb dX9_couple_91 rfl (lv_at hl 1 rfl) ?_
              refine cVi (wr := [(h, .inr (9, [.ref x, .int q1, .int q2, .ref rd, .ref t, .ref d, .ref nw, .ref ps, .ref im, .ref is_, .int q10, .ref bk, .int q12, .ref qr, .ref pr, .ref cv, .ref ft])), (tb, .inl (cI, 6, .inl ftb)), (t, .inr (8, [.int t0, .int t1, .int t2, .int t3, .int t4, .ref ta, .ref tb, .ref tc, .ref td, .ref te]))]) (rest := []) (e_isReconciled nw nwc fn c_) okV_X7_isReconciled wd_265 hx hb hml hown hts hK hP hD hS hA hN hl.1 [2, 3] [0, 1, 4] rfl rfl rfl rfl (of_decide_eq_true rfl) rfl rfl rfl (Nat.le_of_ble_eq_true rfl) (Nat.le_of_ble_eq_true rfl) (Nat.le_of_ble_eq_true rfl) (Nat.le_of_ble_eq_true rfl) (Nat.le_of_ble_eq_true rfl) dX9_couple_92 (fun r_18 u_17 H locs hw_u_17 hP hD hS => ?_)
              replace hw_u_17 : r_18 = (f_e_isReconciled fn c_) := hw_u_17
              rw [hw_u_17]
              clear hw_u_17
              have hP : va_P D classes [(h, .inr (9, [.ref x, .int q1, .int q2, .ref rd, .ref t, .ref d, .ref nw, .ref ps, .ref im, .ref is_, .int q10, .ref bk, .int q12, .ref qr, .ref pr, .ref cv, .ref ft])), (tb, .inl (cI, 6, .inl ftb)), (t, .inr (8, [.int t0, .int t1, .int t2, .int t3, .int t4, .ref ta, .ref tb, .ref tc, .ref td, .ref te])), (nw, .inr (7, [.ref nwc])), (nwc, .inl (cI, 41, .inl fn))] H := hP
              have hD : va_D A [(h, .inr (9, [.ref x, .int q1, .int q2, .ref rd, .ref t, .ref d, .ref nw, .ref ps, .ref im, .ref is_, .int q10, .ref bk, .int q12, .ref qr, .ref pr, .ref cv, .ref ft])), (tb, .inl (cI, 6, .inl ftb)), (t, .inr (8, [.int t0, .int t1, .int t2, .int t3, .int t4, .ref ta, .ref tb, .ref tc, .ref td, .ref te])), (nw, .inr (7, [.ref nwc])), (nwc, .inl (cI, 41, .inl fn))] := hD
              refine lv_if_eq (tgt := 102) hx hb dX9_couple_95 rfl (fun c_19 => ?_) (fun c_19 => ?_)
              · rw [if_pos c_19] at hE
                refine lv_iconst (v := 0) hx hb dX9_couple_102 rfl ?_
                exact hret 0 () _ _ _ _ dX9_couple_103 rfl hE (cutP (isC := [0, 2, 1, 3, 4]) hP rfl) (cutD (isC := [0, 2, 1, 3, 4]) hD rfl rfl) hS
              · rw [if_neg c_19] at hE
                refine lv_iconst (v := 1) hx hb dX9_couple_98 rfl ?_
                refine lv_goto (tgt := 103) hx hb dX9_couple_99 rfl ?_
                exact hret 1 () _ _ _ _ dX9_couple_103 rfl hE (cutP (isC := [0, 2, 1, 3, 4]) hP rfl) (cutD (isC := [0, 2, 1, 3, 4]) hD rfl rfl) hS
            · skip
              rw [if_neg c_16] at hE
              refine lv_tableOut (tgt := 104) hx hb dX9_couple_15 (by have q := lv_neT (a := 0) c_4 rfl; have q0 := lv_neT (a := 0) c_4 rfl; have q1 := lv_neT (a := 1) c_7 rfl; have q2 := lv_neT (a := 2) c_10 rfl; have q3 := lv_neT (a := 3) c_13 rfl; have q4 := lv_neT (a := 4) c_16 rfl; omega) rfl ?_
              refine lv_ldc (v := (-1000000002)) hx hb hown (hts _ wd_339) dX9_couple_104 ?_
              exact hret (-1000000002) () _ _ _ _ dX9_couple_106 rfl hE (cutP (isC := [0, 4, 1, 2, 3]) hP rfl) (cutD (isC := [0, 4, 1, 2, 3]) hD rfl rfl) hS
  · rw [if_pos c_3] at hE
    refine lv_ldc (v := (-1000000001)) hx hb hown (hts _ wd_346) dX9_couple_11 ?_
    exact hret (-1000000001) () _ _ _ _ dX9_couple_13 rfl hE (cutP (isC := [0, 4, 1, 2, 3]) hP rfl) (cutD (isC := [0, 4, 1, 2, 3]) hD rfl rfl) hS
noncomputable def f_e_force_x9 (q1 : Int32) (q2 : Int32) (q10 : Int32) (q12 : Int32) (t0 : Int32) (t1 : Int32) (t2 : Int32) (t3 : Int32) (t4 : Int32) (ftc : Nat → Int32) (c_ : Int32) (e_ : Int32) : Int32 := (if (f_e_hasCouple t0 t1 t2 t3 t4 c_) = 0 then (-1000000001) else (if (f_e_hasTheme t0 t1 t2 t3 t4 e_) = 0 then (-1000000001) else (f_e_forceOf_x8 t0 t1 t2 t3 t4 ftc c_ e_)))
def rm_e_force_x9 : Room := { frames := 2, cells := 0, slots := 0, locals := 43 }
set_option maxHeartbeats 4000000 in
set_option maxRecDepth 100000 in
theorem e_force_x9 {l : Launch} {D : va_G} {cI cZ : ClassId} {sz : Nat} (h x rd t d nw ps im is_ bk qr pr cv ft ta tb tc td te : Nat) (q1 : Int32) (q2 : Int32) (q10 : Int32) (q12 : Int32) (t0 : Int32) (t1 : Int32) (t2 : Int32) (t3 : Int32) (t4 : Int32) (ftc : Nat → Int32) (c_ : Int32) (e_ : Int32) : KI l yX9_force cX9_force 3 (some .int) rm_e_force_x9 D cI cZ [.ref h, .int c_, .int e_] sz [(h, .inr (9, [.ref x, .int q1, .int q2, .ref rd, .ref t, .ref d, .ref nw, .ref ps, .ref im, .ref is_, .int q10, .ref bk, .int q12, .ref qr, .ref pr, .ref cv, .ref ft])), (t, .inr (8, [.int t0, .int t1, .int t2, .int t3, .int t4, .ref ta, .ref tb, .ref tc, .ref td, .ref te])), (tc, .inl (cI, 30, .inl ftc))] (fun (r : Int32) (_ : Unit) => r = f_e_force_x9 q1 q2 q10 q12 t0 t1 t2 t3 t4 ftc c_ e_) (fun (_ : Unit) => [(h, .inr (9, [.ref x, .int q1, .int q2, .ref rd, .ref t, .ref d, .ref nw, .ref ps, .ref im, .ref is_, .int q10, .ref bk, .int q12, .ref qr, .ref pr, .ref cv, .ref ft])), (t, .inr (8, [.int t0, .int t1, .int t2, .int t3, .int t4, .ref ta, .ref tb, .ref tc, .ref td, .ref te])), (tc, .inl (cI, 30, .inl ftc))]) := by
  refine KI.go rfl (Nat.le_of_ble_eq_true rfl) ?_
  intro p e s m args below meth c ls A Q hx hb hml hts hown hin hP hK hD hS hA hN hl hret
  have hl : lv_has ls 3 [(0, .ref h), (1, .int c_), (2, .int e_)] := hl
  obtain ⟨RES, hE⟩ : ∃ xRES, f_e_force_x9 q1 q2 q10 q12 t0 t1 t2 t3 t4 ftc c_ e_ = xRES := ⟨_, rfl⟩
  rw [hE] at hret
  rw [f_e_force_x9] at hE
  refine lv_aload_n hx hb dX9_force_0 rfl (lv_at hl 0 rfl) ?_
  refine va_get (D := D) (ci := 9) (v := .ref t) (C := RX9) (T := TX9) (N := 17) hx hb hts iX9 hown hK hP 0 rfl rfl 4 (Nat.le_of_ble_eq_true rfl) (hts _ wd_89) (fun _ h9 => h9) rfl dX9_force_1 ?_
  refine lv_iload_n hx hb dX9_force_4 rfl (lv_at hl 1 rfl) ?_
  refine cVi (wr := [(h, .inr (9, [.ref x, .int q1, .int q2, .ref rd, .ref t, .ref d, .ref nw, .ref ps, .ref im, .ref is_, .int q10, .ref bk, .int q12, .ref qr, .ref pr, .ref cv, .ref ft])), (tc, .inl (cI, 30, .inl ftc))]) (rest := []) (e_hasCouple t ta tb tc td te t0 t1 t2 t3 t4 c_) okV_X8_hasCouple wd_347 hx hb hml hown hts hK hP hD hS hA hN hl.1 [1] [0, 2] rfl rfl rfl rfl (of_decide_eq_true rfl) rfl rfl rfl (Nat.le_of_ble_eq_true rfl) (Nat.le_of_ble_eq_true rfl) (Nat.le_of_ble_eq_true rfl) (Nat.le_of_ble_eq_true rfl) (Nat.le_of_ble_eq_true rfl) dX9_force_5 (fun r_2 u_1 H locs hw_u_1 hP hD hS => ?_)
  replace hw_u_1 : r_2 = (f_e_hasCouple t0 t1 t2 t3 t4 c_) := hw_u_1
  rw [hw_u_1]
  clear hw_u_1
  have hP : va_P D classes [(h, .inr (9, [.ref x, .int q1, .int q2, .ref rd, .ref t, .ref d, .ref nw, .ref ps, .ref im, .ref is_, .int q10, .ref bk, .int q12, .ref qr, .ref pr, .ref cv, .ref ft])), (tc, .inl (cI, 30, .inl ftc)), (t, .inr (8, [.int t0, .int t1, .int t2, .int t3, .int t4, .ref ta, .ref tb, .ref tc, .ref td, .ref te]))] H := hP
  have hD : va_D A [(h, .inr (9, [.ref x, .int q1, .int q2, .ref rd, .ref t, .ref d, .ref nw, .ref ps, .ref im, .ref is_, .int q10, .ref bk, .int q12, .ref qr, .ref pr, .ref cv, .ref ft])), (tc, .inl (cI, 30, .inl ftc)), (t, .inr (8, [.int t0, .int t1, .int t2, .int t3, .int t4, .ref ta, .ref tb, .ref tc, .ref td, .ref te]))] := hD
  refine lv_if_eq (tgt := 22) hx hb dX9_force_8 rfl (fun c_3 => ?_) (fun c_3 => ?_)
  · rw [if_pos c_3] at hE
    refine lv_ldc (v := (-1000000001)) hx hb hown (hts _ wd_346) dX9_force_22 ?_
    exact hret (-1000000001) () _ _ _ _ dX9_force_24 rfl hE (cutP (isC := [0, 2, 1]) hP rfl) (cutD (isC := [0, 2, 1]) hD rfl rfl) hS
  · rw [if_neg c_3] at hE
    refine lv_aload_n hx hb dX9_force_11 rfl (lv_at hl 0 rfl) ?_
    refine va_get (D := D) (ci := 9) (v := .ref t) (C := RX9) (T := TX9) (N := 17) hx hb hts iX9 hown hK hP 0 rfl rfl 4 (Nat.le_of_ble_eq_true rfl) (hts _ wd_89) (fun _ h9 => h9) rfl dX9_force_12 ?_
    refine lv_iload_n hx hb dX9_force_15 rfl (lv_at hl 2 rfl) ?_
    refine cVi (wr := [(h, .inr (9, [.ref x, .int q1, .int q2, .ref rd, .ref t, .ref d, .ref nw, .ref ps, .ref im, .ref is_, .int q10, .ref bk, .int q12, .ref qr, .ref pr, .ref cv, .ref ft])), (tc, .inl (cI, 30, .inl ftc))]) (rest := []) (e_hasTheme t ta tb tc td te t0 t1 t2 t3 t4 e_) okV_X8_hasTheme wd_353 hx hb hml hown hts hK hP hD hS hA hN hl.1 [2] [0, 1] rfl rfl rfl rfl (of_decide_eq_true rfl) rfl rfl rfl (Nat.le_of_ble_eq_true rfl) (Nat.le_of_ble_eq_true rfl) (Nat.le_of_ble_eq_true rfl) (Nat.le_of_ble_eq_true rfl) (Nat.le_of_ble_eq_true rfl) dX9_force_16 (fun r_5 u_4 H locs hw_u_4 hP hD hS => ?_)
    replace hw_u_4 : r_5 = (f_e_hasTheme t0 t1 t2 t3 t4 e_) := hw_u_4
    rw [hw_u_4]
    clear hw_u_4
    have hP : va_P D classes [(h, .inr (9, [.ref x, .int q1, .int q2, .ref rd, .ref t, .ref d, .ref nw, .ref ps, .ref im, .ref is_, .int q10, .ref bk, .int q12, .ref qr, .ref pr, .ref cv, .ref ft])), (tc, .inl (cI, 30, .inl ftc)), (t, .inr (8, [.int t0, .int t1, .int t2, .int t3, .int t4, .ref ta, .ref tb, .ref tc, .ref td, .ref te]))] H := hP
    have hD : va_D A [(h, .inr (9, [.ref x, .int q1, .int q2, .ref rd, .ref t, .ref d, .ref nw, .ref ps, .ref im, .ref is_, .int q10, .ref bk, .int q12, .ref qr, .ref pr, .ref cv, .ref ft])), (tc, .inl (cI, 30, .inl ftc)), (t, .inr (8, [.int t0, .int t1, .int t2, .int t3, .int t4, .ref ta, .ref tb, .ref tc, .ref td, .ref te]))] := hD
    refine lv_if_ne (tgt := 25) hx hb dX9_force_19 rfl (fun c_6 => ?_) (fun c_6 => ?_)
    · rw [if_neg c_6] at hE
      refine lv_aload_n hx hb dX9_force_25 rfl (lv_at hl 0 rfl) ?_
      refine va_get (D := D) (ci := 9) (v := .ref t) (C := RX9) (T := TX9) (N := 17) hx hb hts iX9 hown hK hP 0 rfl rfl 4 (Nat.le_of_ble_eq_true rfl) (hts _ wd_89) (fun _ h9 => h9) rfl dX9_force_26 ?_
      refine lv_iload_n hx hb dX9_force_29 rfl (lv_at hl 1 rfl) ?_
      refine lv_iload_n hx hb dX9_force_30 rfl (lv_at hl 2 rfl) ?_
      refine cVi (wr := [(h, .inr (9, [.ref x, .int q1, .int q2, .ref rd, .ref t, .ref d, .ref nw, .ref ps, .ref im, .ref is_, .int q10, .ref bk, .int q12, .ref qr, .ref pr, .ref cv, .ref ft]))]) (rest := []) (e_forceOf_x8 t ta tb tc td te t0 t1 t2 t3 t4 ftc c_ e_) okV_X8_forceOf wd_252 hx hb hml hown hts hK hP hD hS hA hN hl.1 [2, 1] [0] rfl rfl rfl rfl (of_decide_eq_true rfl) rfl rfl rfl (Nat.le_of_ble_eq_true rfl) (Nat.le_of_ble_eq_true rfl) (Nat.le_of_ble_eq_true rfl) (Nat.le_of_ble_eq_true rfl) (Nat.le_of_ble_eq_true rfl) dX9_force_31 (fun r_8 u_7 H locs hw_u_7 hP hD hS => ?_)
      replace hw_u_7 : r_8 = (f_e_forceOf_x8 t0 t1 t2 t3 t4 ftc c_ e_) := hw_u_7
      rw [hw_u_7]
      clear hw_u_7
      have hP : va_P D classes [(h, .inr (9, [.ref x, .int q1, .int q2, .ref rd, .ref t, .ref d, .ref nw, .ref ps, .ref im, .ref is_, .int q10, .ref bk, .int q12, .ref qr, .ref pr, .ref cv, .ref ft])), (t, .inr (8, [.int t0, .int t1, .int t2, .int t3, .int t4, .ref ta, .ref tb, .ref tc, .ref td, .ref te])), (tc, .inl (cI, 30, .inl ftc))] H := hP
      have hD : va_D A [(h, .inr (9, [.ref x, .int q1, .int q2, .ref rd, .ref t, .ref d, .ref nw, .ref ps, .ref im, .ref is_, .int q10, .ref bk, .int q12, .ref qr, .ref pr, .ref cv, .ref ft])), (t, .inr (8, [.int t0, .int t1, .int t2, .int t3, .int t4, .ref ta, .ref tb, .ref tc, .ref td, .ref te])), (tc, .inl (cI, 30, .inl ftc))] := hD
      exact hret (f_e_forceOf_x8 t0 t1 t2 t3 t4 ftc c_ e_) () _ _ _ _ dX9_force_34 rfl hE hP hD hS
    · rw [if_pos c_6] at hE
      refine lv_ldc (v := (-1000000001)) hx hb hown (hts _ wd_346) dX9_force_22 ?_
      exact hret (-1000000001) () _ _ _ _ dX9_force_24 rfl hE (cutP (isC := [0, 2, 1]) hP rfl) (cutD (isC := [0, 2, 1]) hD rfl rfl) hS
noncomputable def f_e_barge_x9 (q1 : Int32) (q2 : Int32) (q10 : Int32) (q12 : Int32) (t0 : Int32) (t1 : Int32) (t2 : Int32) (t3 : Int32) (t4 : Int32) (ftd : Nat → Int32) (fte : Nat → Int32) (fn : Nat → Int32) (v_ : Int32) (w_ : Int32) : Int32 := (if (f_e_hasBarge t0 t1 t2 t3 t4 v_) = 0 then (-1000000001) else (if w_ = 0 then (atF 7 ftd v_) else (if w_ = 1 then (atF 7 fte v_) else (if w_ = 2 then (f_e_fateOf fn v_) else (if w_ = 3 then (f_e_lyingAt fn v_) else (if w_ = 4 then (f_e_passedAt fn v_) else (-1000000002)))))))
def rm_e_barge_x9 : Room := { frames := 2, cells := 0, slots := 0, locals := 42 }
set_option maxHeartbeats 4000000 in
set_option maxRecDepth 100000 in
theorem e_barge_x9 {l : Launch} {D : va_G} {cI cZ : ClassId} {sz : Nat} (h x rd t d nw ps im is_ bk qr pr cv ft ta tb tc td te nwc : Nat) (q1 : Int32) (q2 : Int32) (q10 : Int32) (q12 : Int32) (t0 : Int32) (t1 : Int32) (t2 : Int32) (t3 : Int32) (t4 : Int32) (ftd : Nat → Int32) (fte : Nat → Int32) (fn : Nat → Int32) (v_ : Int32) (w_ : Int32) : KI l yX9_barge cX9_barge 3 (some .int) rm_e_barge_x9 D cI cZ [.ref h, .int v_, .int w_] sz [(h, .inr (9, [.ref x, .int q1, .int q2, .ref rd, .ref t, .ref d, .ref nw, .ref ps, .ref im, .ref is_, .int q10, .ref bk, .int q12, .ref qr, .ref pr, .ref cv, .ref ft])), (t, .inr (8, [.int t0, .int t1, .int t2, .int t3, .int t4, .ref ta, .ref tb, .ref tc, .ref td, .ref te])), (td, .inl (cI, 7, .inl ftd)), (te, .inl (cI, 7, .inl fte)), (nw, .inr (7, [.ref nwc])), (nwc, .inl (cI, 41, .inl fn))] (fun (r : Int32) (_ : Unit) => r = f_e_barge_x9 q1 q2 q10 q12 t0 t1 t2 t3 t4 ftd fte fn v_ w_) (fun (_ : Unit) => [(h, .inr (9, [.ref x, .int q1, .int q2, .ref rd, .ref t, .ref d, .ref nw, .ref ps, .ref im, .ref is_, .int q10, .ref bk, .int q12, .ref qr, .ref pr, .ref cv, .ref ft])), (t, .inr (8, [.int t0, .int t1, .int t2, .int t3, .int t4, .ref ta, .ref tb, .ref tc, .ref td, .ref te])), (td, .inl (cI, 7, .inl ftd)), (te, .inl (cI, 7, .inl fte)), (nw, .inr (7, [.ref nwc])), (nwc, .inl (cI, 41, .inl fn))]) := by
  refine KI.go rfl (Nat.le_of_ble_eq_true rfl) ?_
  intro p e s m args below meth c ls A Q hx hb hml hts hown hin hP hK hD hS hA hN hl hret
  have hl : lv_has ls 3 [(0, .ref h), (1, .int v_), (2, .int w_)] := hl
  obtain ⟨RES, hE⟩ : ∃ xRES, f_e_barge_x9 q1 q2 q10 q12 t0 t1 t2 t3 t4 ftd fte fn v_ w_ = xRES := ⟨_, rfl⟩
  rw [hE] at hret
  rw [f_e_barge_x9] at hE
  refine lv_aload_n hx hb dX9_barge_0 rfl (lv_at hl 0 rfl) ?_
  refine va_get (D := D) (ci := 9) (v := .ref t) (C := RX9) (T := TX9) (N := 17) hx hb hts iX9 hown hK hP 0 rfl rfl 4 (Nat.le_of_ble_eq_true rfl) (hts _ wd_89) (fun _ h9 => h9) rfl dX9_barge_1 ?_
  refine lv_iload_n hx hb dX9_barge_4 rfl (lv_at hl 1 rfl) ?_
  refine cVi (wr := [(h, .inr (9, [.ref x, .int q1, .int q2, .ref rd, .ref t, .ref d, .ref nw, .ref ps, .ref im, .ref is_, .int q10, .ref bk, .int q12, .ref qr, .ref pr, .ref cv, .ref ft])), (td, .inl (cI, 7, .inl ftd)), (te, .inl (cI, 7, .inl fte)), (nw, .inr (7, [.ref nwc])), (nwc, .inl (cI, 41, .inl fn))]) (rest := []) (e_hasBarge t ta tb tc td te t0 t1 t2 t3 t4 v_) okV_X8_hasBarge wd_357 hx hb hml hown hts hK hP hD hS hA hN hl.1 [1] [0, 2, 3, 4, 5] rfl rfl rfl rfl (of_decide_eq_true rfl) rfl rfl rfl (Nat.le_of_ble_eq_true rfl) (Nat.le_of_ble_eq_true rfl) (Nat.le_of_ble_eq_true rfl) (Nat.le_of_ble_eq_true rfl) (Nat.le_of_ble_eq_true rfl) dX9_barge_5 (fun r_2 u_1 H locs hw_u_1 hP hD hS => ?_)
  replace hw_u_1 : r_2 = (f_e_hasBarge t0 t1 t2 t3 t4 v_) := hw_u_1
  rw [hw_u_1]
  clear hw_u_1
  have hP : va_P D classes [(h, .inr (9, [.ref x, .int q1, .int q2, .ref rd, .ref t, .ref d, .ref nw, .ref ps, .ref im, .ref is_, .int q10, .ref bk, .int q12, .ref qr, .ref pr, .ref cv, .ref ft])), (td, .inl (cI, 7, .inl ftd)), (te, .inl (cI, 7, .inl fte)), (nw, .inr (7, [.ref nwc])), (nwc, .inl (cI, 41, .inl fn)), (t, .inr (8, [.int t0, .int t1, .int t2, .int t3, .int t4, .ref ta, .ref tb, .ref tc, .ref td, .ref te]))] H := hP
  have hD : va_D A [(h, .inr (9, [.ref x, .int q1, .int q2, .ref rd, .ref t, .ref d, .ref nw, .ref ps, .ref im, .ref is_, .int q10, .ref bk, .int q12, .ref qr, .ref pr, .ref cv, .ref ft])), (td, .inl (cI, 7, .inl ftd)), (te, .inl (cI, 7, .inl fte)), (nw, .inr (7, [.ref nwc])), (nwc, .inl (cI, 41, .inl fn)), (t, .inr (8, [.int t0, .int t1, .int t2, .int t3, .int t4, .ref ta, .ref tb, .ref tc, .ref td, .ref te]))] := hD
  refine lv_if_ne (tgt := 14) hx hb dX9_barge_8 rfl (fun c_3 => ?_) (fun c_3 => ?_)
  · rw [if_neg c_3] at hE
    refine lv_iload_n hx hb dX9_barge_14 rfl (lv_at hl 2 rfl) ?_
    by_cases c_4 : w_ = 0
    · rw [if_pos c_4] at hE
      subst c_4
      refine lv_tableIn (off := 33) (tgt := 48) hx hb dX9_barge_15 (by decide +kernel) (by decide +kernel) (by decide +kernel) rfl ?_
      refine lv_aload_n hx hb dX9_barge_48 rfl (lv_at hl 0 rfl) ?_
      refine va_get (D := D) (ci := 9) (v := .ref t) (C := RX9) (T := TX9) (N := 17) hx hb hts iX9 hown hK hP 0 rfl rfl 4 (Nat.le_of_ble_eq_true rfl) (hts _ wd_89) (fun _ h9 => h9) rfl dX9_barge_49 ?_
      refine va_get (D := D) (ci := 8) (v := .ref td) (C := RX8) (T := TX8) (N := 10) hx hb hts iX8 hown hK hP 5 rfl rfl 8 (Nat.le_of_ble_eq_true rfl) (hts _ wd_361) (fun _ h9 => h9) rfl dX9_barge_52 ?_
      refine lv_iload_n hx hb dX9_barge_55 rfl (lv_at hl 1 rfl) ?_
      refine cSi (wr := [(h, .inr (9, [.ref x, .int q1, .int q2, .ref rd, .ref t, .ref d, .ref nw, .ref ps, .ref im, .ref is_, .int q10, .ref bk, .int q12, .ref qr, .ref pr, .ref cv, .ref ft])), (te, .inl (cI, 7, .inl fte)), (nw, .inr (7, [.ref nwc])), (nwc, .inl (cI, 41, .inl fn)), (t, .inr (8, [.int t0, .int t1, .int t2, .int t3, .int t4, .ref ta, .ref tb, .ref tc, .ref td, .ref te]))]) (rest := []) (k_at td 7 ftd v_ (of_decide_eq_true rfl)) okS_X9_at wd_258 hx hb hml hown hts hK hP hD hS hA hN hl.1 [1] [0, 2, 3, 4, 5] rfl rfl rfl rfl (by decide) rfl (Nat.le_of_ble_eq_true rfl) (Nat.le_of_ble_eq_true rfl) (Nat.le_of_ble_eq_true rfl) (Nat.le_of_ble_eq_true rfl) (Nat.le_of_ble_eq_true rfl) dX9_barge_56 (fun r_6 u_5 H locs hw_u_5 hP hD hS => ?_)
      obtain rfl := hw_u_5
      have hP : va_P D classes [(h, .inr (9, [.ref x, .int q1, .int q2, .ref rd, .ref t, .ref d, .ref nw, .ref ps, .ref im, .ref is_, .int q10, .ref bk, .int q12, .ref qr, .ref pr, .ref cv, .ref ft])), (te, .inl (cI, 7, .inl fte)), (nw, .inr (7, [.ref nwc])), (nwc, .inl (cI, 41, .inl fn)), (t, .inr (8, [.int t0, .int t1, .int t2, .int t3, .int t4, .ref ta, .ref tb, .ref tc, .ref td, .ref te])), (td, .inl (cI, 7, .inl ftd))] H := hP
      have hD : va_D A [(h, .inr (9, [.ref x, .int q1, .int q2, .ref rd, .ref t, .ref d, .ref nw, .ref ps, .ref im, .ref is_, .int q10, .ref bk, .int q12, .ref qr, .ref pr, .ref cv, .ref ft])), (te, .inl (cI, 7, .inl fte)), (nw, .inr (7, [.ref nwc])), (nwc, .inl (cI, 41, .inl fn)), (t, .inr (8, [.int t0, .int t1, .int t2, .int t3, .int t4, .ref ta, .ref tb, .ref tc, .ref td, .ref te])), (td, .inl (cI, 7, .inl ftd))] := hD
      exact hret (atF 7 ftd v_) () _ _ _ _ dX9_barge_59 rfl hE (cutP (isC := [0, 4, 5, 1, 2, 3]) hP rfl) (cutD (isC := [0, 4, 5, 1, 2, 3]) hD rfl rfl) hS
    · skip
      rw [if_neg c_4] at hE
      by_cases c_7 : w_ = 1
      · rw [if_pos c_7] at hE
        subst c_7
        refine lv_tableIn (off := 45) (tgt := 60) hx hb dX9_barge_15 (by decide +kernel) (by decide +kernel) (by decide +kernel) rfl ?_
        refine lv_aload_n hx hb dX9_barge_60 rfl (lv_at hl 0 rfl) ?_
        refine va_get (D := D) (ci := 9) (v := .ref t) (C := RX9) (T := TX9) (N := 17) hx hb hts iX9 hown hK hP 0 rfl rfl 4 (Nat.le_of_ble_eq_true rfl) (hts _ wd_89) (fun _ h9 => h9) rfl dX9_barge_61 ?_
        refine va_get (D := D) (ci := 8) (v := .ref te) (C := RX8) (T := TX8) (N := 10) hx hb hts iX8 hown hK hP 5 rfl rfl 9 (Nat.le_of_ble_eq_true rfl) (hts _ wd_362) (fun _ h9 => h9) rfl dX9_barge_64 ?_
        refine lv_iload_n hx hb dX9_barge_67 rfl (lv_at hl 1 rfl) ?_
        refine cSi (wr := [(h, .inr (9, [.ref x, .int q1, .int q2, .ref rd, .ref t, .ref d, .ref nw, .ref ps, .ref im, .ref is_, .int q10, .ref bk, .int q12, .ref qr, .ref pr, .ref cv, .ref ft])), (td, .inl (cI, 7, .inl ftd)), (nw, .inr (7, [.ref nwc])), (nwc, .inl (cI, 41, .inl fn)), (t, .inr (8, [.int t0, .int t1, .int t2, .int t3, .int t4, .ref ta, .ref tb, .ref tc, .ref td, .ref te]))]) (rest := []) (k_at te 7 fte v_ (of_decide_eq_true rfl)) okS_X9_at wd_258 hx hb hml hown hts hK hP hD hS hA hN hl.1 [2] [0, 1, 3, 4, 5] rfl rfl rfl rfl (by decide) rfl (Nat.le_of_ble_eq_true rfl) (Nat.le_of_ble_eq_true rfl) (Nat.le_of_ble_eq_true rfl) (Nat.le_of_ble_eq_true rfl) (Nat.le_of_ble_eq_true rfl) dX9_barge_68 (fun r_9 u_8 H locs hw_u_8 hP hD hS => ?_)
        obtain rfl := hw_u_8
        have hP : va_P D classes [(h, .inr (9, [.ref x, .int q1, .int q2, .ref rd, .ref t, .ref d, .ref nw, .ref ps, .ref im, .ref is_, .int q10, .ref bk, .int q12, .ref qr, .ref pr, .ref cv, .ref ft])), (td, .inl (cI, 7, .inl ftd)), (nw, .inr (7, [.ref nwc])), (nwc, .inl (cI, 41, .inl fn)), (t, .inr (8, [.int t0, .int t1, .int t2, .int t3, .int t4, .ref ta, .ref tb, .ref tc, .ref td, .ref te])), (te, .inl (cI, 7, .inl fte))] H := hP
        have hD : va_D A [(h, .inr (9, [.ref x, .int q1, .int q2, .ref rd, .ref t, .ref d, .ref nw, .ref ps, .ref im, .ref is_, .int q10, .ref bk, .int q12, .ref qr, .ref pr, .ref cv, .ref ft])), (td, .inl (cI, 7, .inl ftd)), (nw, .inr (7, [.ref nwc])), (nwc, .inl (cI, 41, .inl fn)), (t, .inr (8, [.int t0, .int t1, .int t2, .int t3, .int t4, .ref ta, .ref tb, .ref tc, .ref td, .ref te])), (te, .inl (cI, 7, .inl fte))] := hD
        exact hret (atF 7 fte v_) () _ _ _ _ dX9_barge_71 rfl hE (cutP (isC := [0, 4, 1, 5, 2, 3]) hP rfl) (cutD (isC := [0, 4, 1, 5, 2, 3]) hD rfl rfl) hS
      · skip
        rw [if_neg c_7] at hE
        by_cases c_10 : w_ = 2
        · rw [if_pos c_10] at hE
          subst c_10
          refine lv_tableIn (off := 57) (tgt := 72) hx hb dX9_barge_15 (by decide +kernel) (by decide +kernel) (by decide +kernel) rfl ?_
          refine lv_aload_n hx hb dX9_barge_72 rfl (lv_at hl 0 rfl) ?_
          refine va_get (D := D) (ci := 9) (v := .ref nw) (C := RX9) (T := TX9) (N := 17) hx hb hts iX9 hown hK hP 0 rfl rfl 6 (Nat.le_of_ble_eq_true rfl) (hts _ wd_96) (fun _ h9 => h9) rfl dX9_barge_73 ?_
          refine lv_iload_n hx hb dX9_barge_76 rfl (lv_at hl 1 rfl) ?_
          refine cVi (wr := [(h, .inr (9, [.ref x, .int q1, .int q2, .ref rd, .ref t, .ref d, .ref nw, .ref ps, .ref im, .ref is_, .int q10, .ref bk, .int q12, .ref qr, .ref pr, .ref cv, .ref ft])), (td, .inl (cI, 7, .inl ftd)), (te, .inl (cI, 7, .inl fte)), (t, .inr (8, [.int t0, .int t1, .int t2, .int t3, .int t4, .ref ta, .ref tb, .ref tc, .ref td, .ref te]))]) (rest := []) (e_fateOf nw nwc fn v_) okV_X7_fateOf wd_363 hx hb hml hown hts hK hP hD hS hA hN hl.1 [3, 4] [0, 1, 2, 5] rfl rfl rfl rfl (of_decide_eq_true rfl) rfl rfl rfl (Nat.le_of_ble_eq_true rfl) (Nat.le_of_ble_eq_true rfl) (Nat.le_of_ble_eq_true rfl) (Nat.le_of_ble_eq_true rfl) (Nat.le_of_ble_eq_true rfl) dX9_barge_77 (fun r_12 u_11 H locs hw_u_11 hP hD hS => ?_)
          replace hw_u_11 : r_12 = (f_e_fateOf fn v_) := hw_u_11
          rw [hw_u_11]
          clear hw_u_11
          have hP : va_P D classes [(h, .inr (9, [.ref x, .int q1, .int q2, .ref rd, .ref t, .ref d, .ref nw, .ref ps, .ref im, .ref is_, .int q10, .ref bk, .int q12, .ref qr, .ref pr, .ref cv, .ref ft])), (td, .inl (cI, 7, .inl ftd)), (te, .inl (cI, 7, .inl fte)), (t, .inr (8, [.int t0, .int t1, .int t2, .int t3, .int t4, .ref ta, .ref tb, .ref tc, .ref td, .ref te])), (nw, .inr (7, [.ref nwc])), (nwc, .inl (cI, 41, .inl fn))] H := hP
          have hD : va_D A [(h, .inr (9, [.ref x, .int q1, .int q2, .ref rd, .ref t, .ref d, .ref nw, .ref ps, .ref im, .ref is_, .int q10, .ref bk, .int q12, .ref qr, .ref pr, .ref cv, .ref ft])), (td, .inl (cI, 7, .inl ftd)), (te, .inl (cI, 7, .inl fte)), (t, .inr (8, [.int t0, .int t1, .int t2, .int t3, .int t4, .ref ta, .ref tb, .ref tc, .ref td, .ref te])), (nw, .inr (7, [.ref nwc])), (nwc, .inl (cI, 41, .inl fn))] := hD
          exact hret (f_e_fateOf fn v_) () _ _ _ _ dX9_barge_80 rfl hE (cutP (isC := [0, 3, 1, 2, 4, 5]) hP rfl) (cutD (isC := [0, 3, 1, 2, 4, 5]) hD rfl rfl) hS
        · skip
          rw [if_neg c_10] at hE
          by_cases c_13 : w_ = 3
          · rw [if_pos c_13] at hE
            subst c_13
            refine lv_tableIn (off := 66) (tgt := 81) hx hb dX9_barge_15 (by decide +kernel) (by decide +kernel) (by decide +kernel) rfl ?_
            refine lv_aload_n hx hb dX9_barge_81 rfl (lv_at hl 0 rfl) ?_
            refine va_get (D := D) (ci := 9) (v := .ref nw) (C := RX9) (T := TX9) (N := 17) hx hb hts iX9 hown hK hP 0 rfl rfl 6 (Nat.le_of_ble_eq_true rfl) (hts _ wd_96) (fun _ h9 => h9) rfl dX9_barge_82 ?_
            refine lv_iload_n hx hb dX9_barge_85 rfl (lv_at hl 1 rfl) ?_
            refine cVi (wr := [(h, .inr (9, [.ref x, .int q1, .int q2, .ref rd, .ref t, .ref d, .ref nw, .ref ps, .ref im, .ref is_, .int q10, .ref bk, .int q12, .ref qr, .ref pr, .ref cv, .ref ft])), (td, .inl (cI, 7, .inl ftd)), (te, .inl (cI, 7, .inl fte)), (t, .inr (8, [.int t0, .int t1, .int t2, .int t3, .int t4, .ref ta, .ref tb, .ref tc, .ref td, .ref te]))]) (rest := []) (e_lyingAt nw nwc fn v_) okV_X7_lyingAt wd_364 hx hb hml hown hts hK hP hD hS hA hN hl.1 [3, 4] [0, 1, 2, 5] rfl rfl rfl rfl (of_decide_eq_true rfl) rfl rfl rfl (Nat.le_of_ble_eq_true rfl) (Nat.le_of_ble_eq_true rfl) (Nat.le_of_ble_eq_true rfl) (Nat.le_of_ble_eq_true rfl) (Nat.le_of_ble_eq_true rfl) dX9_barge_86 (fun r_15 u_14 H locs hw_u_14 hP hD hS => ?_)
            replace hw_u_14 : r_15 = (f_e_lyingAt fn v_) := hw_u_14
            rw [hw_u_14]
            clear hw_u_14
            have hP : va_P D classes [(h, .inr (9, [.ref x, .int q1, .int q2, .ref rd, .ref t, .ref d, .ref nw, .ref ps, .ref im, .ref is_, .int q10, .ref bk, .int q12, .ref qr, .ref pr, .ref cv, .ref ft])), (td, .inl (cI, 7, .inl ftd)), (te, .inl (cI, 7, .inl fte)), (t, .inr (8, [.int t0, .int t1, .int t2, .int t3, .int t4, .ref ta, .ref tb, .ref tc, .ref td, .ref te])), (nw, .inr (7, [.ref nwc])), (nwc, .inl (cI, 41, .inl fn))] H := hP
            have hD : va_D A [(h, .inr (9, [.ref x, .int q1, .int q2, .ref rd, .ref t, .ref d, .ref nw, .ref ps, .ref im, .ref is_, .int q10, .ref bk, .int q12, .ref qr, .ref pr, .ref cv, .ref ft])), (td, .inl (cI, 7, .inl ftd)), (te, .inl (cI, 7, .inl fte)), (t, .inr (8, [.int t0, .int t1, .int t2, .int t3, .int t4, .ref ta, .ref tb, .ref tc, .ref td, .ref te])), (nw, .inr (7, [.ref nwc])), (nwc, .inl (cI, 41, .inl fn))] := hD
            exact hret (f_e_lyingAt fn v_) () _ _ _ _ dX9_barge_89 rfl hE (cutP (isC := [0, 3, 1, 2, 4, 5]) hP rfl) (cutD (isC := [0, 3, 1, 2, 4, 5]) hD rfl rfl) hS
          · skip
            rw [if_neg c_13] at hE
            by_cases c_16 : w_ = 4
            · rw [if_pos c_16] at hE
              subst c_16
              refine lv_tableIn (off := 75) (tgt := 90) hx hb dX9_barge_15 (by decide +kernel) (by decide +kernel) (by decide +kernel) rfl ?_
              refine lv_aload_n hx hb dX9_barge_90 rfl (lv_at hl 0 rfl) ?_
              refine va_get (D := D) (ci := 9) (v := .ref nw) (C := RX9) (T := TX9) (N := 17) hx hb hts iX9 hown hK hP 0 rfl rfl 6 (Nat.le_of_ble_eq_true rfl) (hts _ wd_96) (fun _ h9 => h9) rfl dX9_barge_91 ?_
              refine lv_iload_n hx hb dX9_barge_94 rfl (lv_at hl 1 rfl) ?_
              refine cVi (wr := [(h, .inr (9, [.ref x, .int q1, .int q2, .ref rd, .ref t, .ref d, .ref nw, .ref ps, .ref im, .ref is_, .int q10, .ref bk, .int q12, .ref qr, .ref pr, .ref cv, .ref ft])), (td, .inl (cI, 7, .inl ftd)), (te, .inl (cI, 7, .inl fte)), (t, .inr (8, [.int t0, .int t1, .int t2, .int t3, .int t4, .ref ta, .ref tb, .ref tc, .ref td, .ref te]))]) (rest := []) (e_passedAt nw nwc fn v_) okV_X7_passedAt wd_368 hx hb hml hown hts hK hP hD hS hA hN hl.1 [3, 4] [0, 1, 2, 5] rfl rfl rfl rfl (of_decide_eq_true rfl) rfl rfl rfl (Nat.le_of_ble_eq_true rfl) (Nat.le_of_ble_eq_true rfl) (Nat.le_of_ble_eq_true rfl) (Nat.le_of_ble_eq_true rfl) (Nat.le_of_ble_eq_true rfl) dX9_barge_95 (fun r_18 u_17 H locs hw_u_17 hP hD hS => ?_)
              replace hw_u_17 : r_18 = (f_e_passedAt fn v_) := hw_u_17
              rw [hw_u_17]
              clear hw_u_17
              have hP : va_P D classes [(h, .inr (9, [.ref x, .int q1, .int q2, .ref rd, .ref t, .ref d, .ref nw, .ref ps, .ref im, .ref is_, .int q10, .ref bk, .int q12, .ref qr, .ref pr, .ref cv, .ref ft])), (td, .inl (cI, 7, .inl ftd)), (te, .inl (cI, 7, .inl fte)), (t, .inr (8, [.int t0, .int t1, .int t2, .int t3, .int t4, .ref ta, .ref tb, .ref tc, .ref td, .ref te])), (nw, .inr (7, [.ref nwc])), (nwc, .inl (cI, 41, .inl fn))] H := hP
              have hD : va_D A [(h, .inr (9, [.ref x, .int q1, .int q2, .ref rd, .ref t, .ref d, .ref nw, .ref ps, .ref im, .ref is_, .int q10, .ref bk, .int q12, .ref qr, .ref pr, .ref cv, .ref ft])), (td, .inl (cI, 7, .inl ftd)), (te, .inl (cI, 7, .inl fte)), (t, .inr (8, [.int t0, .int t1, .int t2, .int t3, .int t4, .ref ta, .ref tb, .ref tc, .ref td, .ref te])), (nw, .inr (7, [.ref nwc])), (nwc, .inl (cI, 41, .inl fn))] := hD
              exact hret (f_e_passedAt fn v_) () _ _ _ _ dX9_barge_98 rfl hE (cutP (isC := [0, 3, 1, 2, 4, 5]) hP rfl) (cutD (isC := [0, 3, 1, 2, 4, 5]) hD rfl rfl) hS
            · skip
              rw [if_neg c_16] at hE
              refine lv_tableOut (tgt := 99) hx hb dX9_barge_15 (by have q := lv_neT (a := 0) c_4 rfl; have q0 := lv_neT (a := 0) c_4 rfl; have q1 := lv_neT (a := 1) c_7 rfl; have q2 := lv_neT (a := 2) c_10 rfl; have q3 := lv_neT (a := 3) c_13 rfl; have q4 := lv_neT (a := 4) c_16 rfl; omega) rfl ?_
              refine lv_ldc (v := (-1000000002)) hx hb hown (hts _ wd_339) dX9_barge_99 ?_
              exact hret (-1000000002) () _ _ _ _ dX9_barge_101 rfl hE (cutP (isC := [0, 5, 1, 2, 3, 4]) hP rfl) (cutD (isC := [0, 5, 1, 2, 3, 4]) hD rfl rfl) hS
  · rw [if_pos c_3] at hE
    refine lv_ldc (v := (-1000000001)) hx hb hown (hts _ wd_346) dX9_barge_11 ?_
    exact hret (-1000000001) () _ _ _ _ dX9_barge_13 rfl hE (cutP (isC := [0, 5, 1, 2, 3, 4]) hP rfl) (cutD (isC := [0, 5, 1, 2, 3, 4]) hD rfl rfl) hS
noncomputable def f_e_told_x9 (q1 : Int32) (q2 : Int32) (q10 : Int32) (q12 : Int32) (t0 : Int32) (t1 : Int32) (t2 : Int32) (t3 : Int32) (t4 : Int32) (fn : Nat → Int32) (b0 : Int32) (p1 : Int32) (p2 : Int32) (w_ : Int32) : Int32 := (if w_ = 0 then t0 else (if w_ = 1 then t1 else (if w_ = 2 then t2 else (if w_ = 3 then t3 else (if w_ = 4 then t4 else (if w_ = 5 then q1 else (if w_ = 6 then (f_e_minutes fn) else (if w_ = 7 then (f_e_reconciledSet fn) else (if w_ = 8 then (f_e_bargesOfFate fn 1) else (if w_ = 9 then (f_e_bargesOfFate fn 2) else (if w_ = 10 then (f_e_bargesOfFate fn 3) else (if w_ = 11 then (f_e_grievanceOfAll fn) else (if w_ = 12 then b0 else (if w_ = 13 then p2 else (-1000000002)))))))))))))))
def rm_e_told_x9 : Room := { frames := 4, cells := 0, slots := 0, locals := 85 }
set_option maxHeartbeats 4000000 in
set_option maxRecDepth 100000 in
theorem e_told_x9 {l : Launch} {D : va_G} {cI cZ : ClassId} {sz : Nat} (h x rd t d nw ps im is_ bk qr pr cv ft ta tb tc td te nwc bka bkb sh : Nat) (q1 : Int32) (q2 : Int32) (q10 : Int32) (q12 : Int32) (t0 : Int32) (t1 : Int32) (t2 : Int32) (t3 : Int32) (t4 : Int32) (fn : Nat → Int32) (b0 : Int32) (p1 : Int32) (p2 : Int32) (w_ : Int32) : KI l yX9_told cX9_told 2 (some .int) rm_e_told_x9 D cI cZ [.ref h, .int w_] sz [(h, .inr (9, [.ref x, .int q1, .int q2, .ref rd, .ref t, .ref d, .ref nw, .ref ps, .ref im, .ref is_, .int q10, .ref bk, .int q12, .ref qr, .ref pr, .ref cv, .ref ft])), (t, .inr (8, [.int t0, .int t1, .int t2, .int t3, .int t4, .ref ta, .ref tb, .ref tc, .ref td, .ref te])), (nw, .inr (7, [.ref nwc])), (nwc, .inl (cI, 41, .inl fn)), (bk, .inr (0, [.int b0, .ref bka, .ref bkb])), (ps, .inr (2, [.ref sh, .int p1, .int p2]))] (fun (r : Int32) (_ : Unit) => r = f_e_told_x9 q1 q2 q10 q12 t0 t1 t2 t3 t4 fn b0 p1 p2 w_) (fun (_ : Unit) => [(h, .inr (9, [.ref x, .int q1, .int q2, .ref rd, .ref t, .ref d, .ref nw, .ref ps, .ref im, .ref is_, .int q10, .ref bk, .int q12, .ref qr, .ref pr, .ref cv, .ref ft])), (t, .inr (8, [.int t0, .int t1, .int t2, .int t3, .int t4, .ref ta, .ref tb, .ref tc, .ref td, .ref te])), (nw, .inr (7, [.ref nwc])), (nwc, .inl (cI, 41, .inl fn)), (bk, .inr (0, [.int b0, .ref bka, .ref bkb])), (ps, .inr (2, [.ref sh, .int p1, .int p2]))]) := by
  refine KI.go rfl (Nat.le_of_ble_eq_true rfl) ?_
  intro p e s m args below meth c ls A Q hx hb hml hts hown hin hP hK hD hS hA hN hl hret
  have hl : lv_has ls 2 [(0, .ref h), (1, .int w_)] := hl
  obtain ⟨RES, hE⟩ : ∃ xRES, f_e_told_x9 q1 q2 q10 q12 t0 t1 t2 t3 t4 fn b0 p1 p2 w_ = xRES := ⟨_, rfl⟩
  rw [hE] at hret
  rw [f_e_told_x9] at hE
  refine lv_iload_n hx hb dX9_told_0 rfl (lv_at hl 1 rfl) ?_
  by_cases c_1 : w_ = 0
  · rw [if_pos c_1] at hE
    subst c_1
    refine lv_tableIn (off := 71) (tgt := 72) hx hb dX9_told_1 (by decide +kernel) (by decide +kernel) (by decide +kernel) rfl ?_
    refine lv_aload_n hx hb dX9_told_72 rfl (lv_at hl 0 rfl) ?_
    refine va_get (D := D) (ci := 9) (v := .ref t) (C := RX9) (T := TX9) (N := 17) hx hb hts iX9 hown hK hP 0 rfl rfl 4 (Nat.le_of_ble_eq_true rfl) (hts _ wd_89) (fun _ h9 => h9) rfl dX9_told_73 ?_
    refine va_get (D := D) (ci := 8) (v := .int t0) (C := RX8) (T := TX8) (N := 10) hx hb hts iX8 hown hK hP 1 rfl rfl 0 (Nat.le_of_ble_eq_true rfl) (hts _ wd_372) (fun _ h9 => h9) rfl dX9_told_76 ?_
    exact hret t0 () _ _ _ _ dX9_told_79 rfl hE hP hD hS
  · skip
    rw [if_neg c_1] at hE
    by_cases c_2 : w_ = 1
    · rw [if_pos c_2] at hE
      subst c_2
      refine lv_tableIn (off := 79) (tgt := 80) hx hb dX9_told_1 (by decide +kernel) (by decide +kernel) (by decide +kernel) rfl ?_
      refine lv_aload_n hx hb dX9_told_80 rfl (lv_at hl 0 rfl) ?_
      refine va_get (D := D) (ci := 9) (v := .ref t) (C := RX9) (T := TX9) (N := 17) hx hb hts iX9 hown hK hP 0 rfl rfl 4 (Nat.le_of_ble_eq_true rfl) (hts _ wd_89) (fun _ h9 => h9) rfl dX9_told_81 ?_
      refine va_get (D := D) (ci := 8) (v := .int t1) (C := RX8) (T := TX8) (N := 10) hx hb hts iX8 hown hK hP 1 rfl rfl 1 (Nat.le_of_ble_eq_true rfl) (hts _ wd_269) (fun _ h9 => h9) rfl dX9_told_84 ?_
      exact hret t1 () _ _ _ _ dX9_told_87 rfl hE hP hD hS
    · skip
      rw [if_neg c_2] at hE
      by_cases c_3 : w_ = 2
      · rw [if_pos c_3] at hE
        subst c_3
        refine lv_tableIn (off := 87) (tgt := 88) hx hb dX9_told_1 (by decide +kernel) (by decide +kernel) (by decide +kernel) rfl ?_
        refine lv_aload_n hx hb dX9_told_88 rfl (lv_at hl 0 rfl) ?_
        refine va_get (D := D) (ci := 9) (v := .ref t) (C := RX9) (T := TX9) (N := 17) hx hb hts iX9 hown hK hP 0 rfl rfl 4 (Nat.le_of_ble_eq_true rfl) (hts _ wd_89) (fun _ h9 => h9) rfl dX9_told_89 ?_
        refine va_get (D := D) (ci := 8) (v := .int t2) (C := RX8) (T := TX8) (N := 10) hx hb hts iX8 hown hK hP 1 rfl rfl 2 (Nat.le_of_ble_eq_true rfl) (hts _ wd_373) (fun _ h9 => h9) rfl dX9_told_92 ?_
        exact hret t2 () _ _ _ _ dX9_told_95 rfl hE hP hD hS
      · skip
        rw [if_neg c_3] at hE
        by_cases c_4 : w_ = 3
        · rw [if_pos c_4] at hE
          subst c_4
          refine lv_tableIn (off := 95) (tgt := 96) hx hb dX9_told_1 (by decide +kernel) (by decide +kernel) (by decide +kernel) rfl ?_
          refine lv_aload_n hx hb dX9_told_96 rfl (lv_at hl 0 rfl) ?_
          refine va_get (D := D) (ci := 9) (v := .ref t) (C := RX9) (T := TX9) (N := 17) hx hb hts iX9 hown hK hP 0 rfl rfl 4 (Nat.le_of_ble_eq_true rfl) (hts _ wd_89) (fun _ h9 => h9) rfl dX9_told_97 ?_
          refine va_get (D := D) (ci := 8) (v := .int t3) (C := RX8) (T := TX8) (N := 10) hx hb hts iX8 hown hK hP 1 rfl rfl 3 (Nat.le_of_ble_eq_true rfl) (hts _ wd_374) (fun _ h9 => h9) rfl dX9_told_100 ?_
          exact hret t3 () _ _ _ _ dX9_told_103 rfl hE hP hD hS
        · skip
          rw [if_neg c_4] at hE
          by_cases c_5 : w_ = 4
          · rw [if_pos c_5] at hE
            subst c_5
            refine lv_tableIn (off := 103) (tgt := 104) hx hb dX9_told_1 (by decide +kernel) (by decide +kernel) (by decide +kernel) rfl ?_
            refine lv_aload_n hx hb dX9_told_104 rfl (lv_at hl 0 rfl) ?_
            refine va_get (D := D) (ci := 9) (v := .ref t) (C := RX9) (T := TX9) (N := 17) hx hb hts iX9 hown hK hP 0 rfl rfl 4 (Nat.le_of_ble_eq_true rfl) (hts _ wd_89) (fun _ h9 => h9) rfl dX9_told_105 ?_
            refine va_get (D := D) (ci := 8) (v := .int t4) (C := RX8) (T := TX8) (N := 10) hx hb hts iX8 hown hK hP 1 rfl rfl 4 (Nat.le_of_ble_eq_true rfl) (hts _ wd_256) (fun _ h9 => h9) rfl dX9_told_108 ?_
            exact hret t4 () _ _ _ _ dX9_told_111 rfl hE hP hD hS
          · skip
            rw [if_neg c_5] at hE
            by_cases c_6 : w_ = 5
            · rw [if_pos c_6] at hE
              subst c_6
              refine lv_tableIn (off := 111) (tgt := 112) hx hb dX9_told_1 (by decide +kernel) (by decide +kernel) (by decide +kernel) rfl ?_
              refine lv_aload_n hx hb dX9_told_112 rfl (lv_at hl 0 rfl) ?_
              refine va_get (D := D) (ci := 9) (v := .int q1) (C := RX9) (T := TX9) (N := 17) hx hb hts iX9 hown hK hP 0 rfl rfl 1 (Nat.le_of_ble_eq_true rfl) (hts _ wd_76) (fun _ h9 => h9) rfl dX9_told_113 ?_
              exact hret q1 () _ _ _ _ dX9_told_116 rfl hE hP hD hS
            · skip
              rw [if_neg c_6] at hE
              by_cases c_7 : w_ = 6
              · rw [if_pos c_7] at hE
                subst c_7
                refine lv_tableIn (off := 116) (tgt := 117) hx hb dX9_told_1 (by decide +kernel) (by decide +kernel) (by decide +kernel) rfl ?_
                refine lv_aload_n hx hb dX9_told_117 rfl (lv_at hl 0 rfl) ?_
                refine va_get (D := D) (ci := 9) (v := .ref nw) (C := RX9) (T := TX9) (N := 17) hx hb hts iX9 hown hK hP 0 rfl rfl 6 (Nat.le_of_ble_eq_true rfl) (hts _ wd_96) (fun _ h9 => h9) rfl dX9_told_118 ?_
                refine cVi (wr := [(h, .inr (9, [.ref x, .int q1, .int q2, .ref rd, .ref t, .ref d, .ref nw, .ref ps, .ref im, .ref is_, .int q10, .ref bk, .int q12, .ref qr, .ref pr, .ref cv, .ref ft])), (t, .inr (8, [.int t0, .int t1, .int t2, .int t3, .int t4, .ref ta, .ref tb, .ref tc, .ref td, .ref te])), (bk, .inr (0, [.int b0, .ref bka, .ref bkb])), (ps, .inr (2, [.ref sh, .int p1, .int p2]))]) (rest := []) (e_minutes nw nwc fn) okV_X7_minutes wd_375 hx hb hml hown hts hK hP hD hS hA hN hl.1 [2, 3] [0, 1, 4, 5] rfl rfl rfl rfl (of_decide_eq_true rfl) rfl rfl rfl (Nat.le_of_ble_eq_true rfl) (Nat.le_of_ble_eq_true rfl) (Nat.le_of_ble_eq_true rfl) (Nat.le_of_ble_eq_true rfl) (Nat.le_of_ble_eq_true rfl) dX9_told_121 (fun r_9 u_8 H locs hw_u_8 hP hD hS => ?_)
                replace hw_u_8 : r_9 = (f_e_minutes fn) := hw_u_8
                rw [hw_u_8]
                clear hw_u_8
                have hP : va_P D classes [(h, .inr (9, [.ref x, .int q1, .int q2, .ref rd, .ref t, .ref d, .ref nw, .ref ps, .ref im, .ref is_, .int q10, .ref bk, .int q12, .ref qr, .ref pr, .ref cv, .ref ft])), (t, .inr (8, [.int t0, .int t1, .int t2, .int t3, .int t4, .ref ta, .ref tb, .ref tc, .ref td, .ref te])), (bk, .inr (0, [.int b0, .ref bka, .ref bkb])), (ps, .inr (2, [.ref sh, .int p1, .int p2])), (nw, .inr (7, [.ref nwc])), (nwc, .inl (cI, 41, .inl fn))] H := hP
                have hD : va_D A [(h, .inr (9, [.ref x, .int q1, .int q2, .ref rd, .ref t, .ref d, .ref nw, .ref ps, .ref im, .ref is_, .int q10, .ref bk, .int q12, .ref qr, .ref pr, .ref cv, .ref ft])), (t, .inr (8, [.int t0, .int t1, .int t2, .int t3, .int t4, .ref ta, .ref tb, .ref tc, .ref td, .ref te])), (bk, .inr (0, [.int b0, .ref bka, .ref bkb])), (ps, .inr (2, [.ref sh, .int p1, .int p2])), (nw, .inr (7, [.ref nwc])), (nwc, .inl (cI, 41, .inl fn))] := hD
                exact hret (f_e_minutes fn) () _ _ _ _ dX9_told_124 rfl hE (cutP (isC := [0, 1, 4, 5, 2, 3]) hP rfl) (cutD (isC := [0, 1, 4, 5, 2, 3]) hD rfl rfl) hS
              · skip
                rw [if_neg c_7] at hE
                by_cases c_10 : w_ = 7
                · rw [if_pos c_10] at hE
                  subst c_10
                  refine lv_tableIn (off := 124) (tgt := 125) hx hb dX9_told_1 (by decide +kernel) (by decide +kernel) (by decide +kernel) rfl ?_
                  refine lv_aload_n hx hb dX9_told_125 rfl (lv_at hl 0 rfl) ?_
                  refine va_get (D := D) (ci := 9) (v := .ref nw) (C := RX9) (T := TX9) (N := 17) hx hb hts iX9 hown hK hP 0 rfl rfl 6 (Nat.le_of_ble_eq_true rfl) (hts _ wd_96) (fun _ h9 => h9) rfl dX9_told_126 ?_
                  refine cVi (wr := [(h, .inr (9, [.ref x, .int q1, .int q2, .ref rd, .ref t, .ref d, .ref nw, .ref ps, .ref im, .ref is_, .int q10, .ref bk, .int q12, .ref qr, .ref pr, .ref cv, .ref ft])), (t, .inr (8, [.int t0, .int t1, .int t2, .int t3, .int t4, .ref ta, .ref tb, .ref tc, .ref td, .ref te])), (bk, .inr (0, [.int b0, .ref bka, .ref bkb])), (ps, .inr (2, [.ref sh, .int p1, .int p2]))]) (rest := []) (e_reconciledSet nw nwc fn) okV_X7_reconciledSet wd_376 hx hb hml hown hts hK hP hD hS hA hN hl.1 [2, 3] [0, 1, 4, 5] rfl rfl rfl rfl (of_decide_eq_true rfl) rfl rfl rfl (Nat.le_of_ble_eq_true rfl) (Nat.le_of_ble_eq_true rfl) (Nat.le_of_ble_eq_true rfl) (Nat.le_of_ble_eq_true rfl) (Nat.le_of_ble_eq_true rfl) dX9_told_129 (fun r_12 u_11 H locs hw_u_11 hP hD hS => ?_)
                  replace hw_u_11 : r_12 = (f_e_reconciledSet fn) := hw_u_11
                  rw [hw_u_11]
                  clear hw_u_11
                  have hP : va_P D classes [(h, .inr (9, [.ref x, .int q1, .int q2, .ref rd, .ref t, .ref d, .ref nw, .ref ps, .ref im, .ref is_, .int q10, .ref bk, .int q12, .ref qr, .ref pr, .ref cv, .ref ft])), (t, .inr (8, [.int t0, .int t1, .int t2, .int t3, .int t4, .ref ta, .ref tb, .ref tc, .ref td, .ref te])), (bk, .inr (0, [.int b0, .ref bka, .ref bkb])), (ps, .inr (2, [.ref sh, .int p1, .int p2])), (nw, .inr (7, [.ref nwc])), (nwc, .inl (cI, 41, .inl fn))] H := hP
                  have hD : va_D A [(h, .inr (9, [.ref x, .int q1, .int q2, .ref rd, .ref t, .ref d, .ref nw, .ref ps, .ref im, .ref is_, .int q10, .ref bk, .int q12, .ref qr, .ref pr, .ref cv, .ref ft])), (t, .inr (8, [.int t0, .int t1, .int t2, .int t3, .int t4, .ref ta, .ref tb, .ref tc, .ref td, .ref te])), (bk, .inr (0, [.int b0, .ref bka, .ref bkb])), (ps, .inr (2, [.ref sh, .int p1, .int p2])), (nw, .inr (7, [.ref nwc])), (nwc, .inl (cI, 41, .inl fn))] := hD
                  exact hret (f_e_reconciledSet fn) () _ _ _ _ dX9_told_132 rfl hE (cutP (isC := [0, 1, 4, 5, 2, 3]) hP rfl) (cutD (isC := [0, 1, 4, 5, 2, 3]) hD rfl rfl) hS
                · skip
                  rw [if_neg c_10] at hE
                  by_cases c_13 : w_ = 8
                  · rw [if_pos c_13] at hE
                    subst c_13
                    refine lv_tableIn (off := 132) (tgt := 133) hx hb dX9_told_1 (by decide +kernel) (by decide +kernel) (by decide +kernel) rfl ?_
                    refine lv_aload_n hx hb dX9_told_133 rfl (lv_at hl 0 rfl) ?_
                    refine va_get (D := D) (ci := 9) (v := .ref nw) (C := RX9) (T := TX9) (N := 17) hx hb hts iX9 hown hK hP 0 rfl rfl 6 (Nat.le_of_ble_eq_true rfl) (hts _ wd_96) (fun _ h9 => h9) rfl dX9_told_134 ?_
                    refine lv_iconst (v := 1) hx hb dX9_told_137 rfl ?_
                    refine cVi (wr := [(h, .inr (9, [.ref x, .int q1, .int q2, .ref rd, .ref t, .ref d, .ref nw, .ref ps, .ref im, .ref is_, .int q10, .ref bk, .int q12, .ref qr, .ref pr, .ref cv, .ref ft])), (t, .inr (8, [.int t0, .int t1, .int t2, .int t3, .int t4, .ref ta, .ref tb, .ref tc, .ref td, .ref te])), (bk, .inr (0, [.int b0, .ref bka, .ref bkb])), (ps, .inr (2, [.ref sh, .int p1, .int p2]))]) (rest := []) (e_bargesOfFate nw nwc fn 1) okV_X7_bargesOfFate wd_377 hx hb hml hown hts hK hP hD hS hA hN hl.1 [2, 3] [0, 1, 4, 5] rfl rfl rfl rfl (of_decide_eq_true rfl) rfl rfl rfl (Nat.le_of_ble_eq_true rfl) (Nat.le_of_ble_eq_true rfl) (Nat.le_of_ble_eq_true rfl) (Nat.le_of_ble_eq_true rfl) (Nat.le_of_ble_eq_true rfl) dX9_told_138 (fun r_15 u_14 H locs hw_u_14 hP hD hS => ?_)
                    replace hw_u_14 : r_15 = (f_e_bargesOfFate fn 1) := hw_u_14
                    rw [hw_u_14]
                    clear hw_u_14
                    have hP : va_P D classes [(h, .inr (9, [.ref x, .int q1, .int q2, .ref rd, .ref t, .ref d, .ref nw, .ref ps, .ref im, .ref is_, .int q10, .ref bk, .int q12, .ref qr, .ref pr, .ref cv, .ref ft])), (t, .inr (8, [.int t0, .int t1, .int t2, .int t3, .int t4, .ref ta, .ref tb, .ref tc, .ref td, .ref te])), (bk, .inr (0, [.int b0, .ref bka, .ref bkb])), (ps, .inr (2, [.ref sh, .int p1, .int p2])), (nw, .inr (7, [.ref nwc])), (nwc, .inl (cI, 41, .inl fn))] H := hP
                    have hD : va_D A [(h, .inr (9, [.ref x, .int q1, .int q2, .ref rd, .ref t, .ref d, .ref nw, .ref ps, .ref im, .ref is_, .int q10, .ref bk, .int q12, .ref qr, .ref pr, .ref cv, .ref ft])), (t, .inr (8, [.int t0, .int t1, .int t2, .int t3, .int t4, .ref ta, .ref tb, .ref tc, .ref td, .ref te])), (bk, .inr (0, [.int b0, .ref bka, .ref bkb])), (ps, .inr (2, [.ref sh, .int p1, .int p2])), (nw, .inr (7, [.ref nwc])), (nwc, .inl (cI, 41, .inl fn))] := hD
                    exact hret (f_e_bargesOfFate fn 1) () _ _ _ _ dX9_told_141 rfl hE (cutP (isC := [0, 1, 4, 5, 2, 3]) hP rfl) (cutD (isC := [0, 1, 4, 5, 2, 3]) hD rfl rfl) hS
                  · skip
                    rw [if_neg c_13] at hE
                    by_cases c_16 : w_ = 9
                    · rw [if_pos c_16] at hE
                      subst c_16
                      refine lv_tableIn (off := 141) (tgt := 142) hx hb dX9_told_1 (by decide +kernel) (by decide +kernel) (by decide +kernel) rfl ?_
                      refine lv_aload_n hx hb dX9_told_142 rfl (lv_at hl 0 rfl) ?_
                      refine va_get (D := D) (ci := 9) (v := .ref nw) (C := RX9) (T := TX9) (N := 17) hx hb hts iX9 hown hK hP 0 rfl rfl 6 (Nat.le_of_ble_eq_true rfl) (hts _ wd_96) (fun _ h9 => h9) rfl dX9_told_143 ?_
                      refine lv_iconst (v := 2) hx hb dX9_told_146 rfl ?_
                      refine cVi (wr := [(h, .inr (9, [.ref x, .int q1, .int q2, .ref rd, .ref t, .ref d, .ref nw, .ref ps, .ref im, .ref is_, .int q10, .ref bk, .int q12, .ref qr, .ref pr, .ref cv, .ref ft])), (t, .inr (8, [.int t0, .int t1, .int t2, .int t3, .int t4, .ref ta, .ref tb, .ref tc, .ref td, .ref te])), (bk, .inr (0, [.int b0, .ref bka, .ref bkb])), (ps, .inr (2, [.ref sh, .int p1, .int p2]))]) (rest := []) (e_bargesOfFate nw nwc fn 2) okV_X7_bargesOfFate wd_377 hx hb hml hown hts hK hP hD hS hA hN hl.1 [2, 3] [0, 1, 4, 5] rfl rfl rfl rfl (of_decide_eq_true rfl) rfl rfl rfl (Nat.le_of_ble_eq_true rfl) (Nat.le_of_ble_eq_true rfl) (Nat.le_of_ble_eq_true rfl) (Nat.le_of_ble_eq_true rfl) (Nat.le_of_ble_eq_true rfl) dX9_told_147 (fun r_18 u_17 H locs hw_u_17 hP hD hS => ?_)
                      replace hw_u_17 : r_18 = (f_e_bargesOfFate fn 2) := hw_u_17
                      rw [hw_u_17]
                      clear hw_u_17
                      have hP : va_P D classes [(h, .inr (9, [.ref x, .int q1, .int q2, .ref rd, .ref t, .ref d, .ref nw, .ref ps, .ref im, .ref is_, .int q10, .ref bk, .int q12, .ref qr, .ref pr, .ref cv, .ref ft])), (t, .inr (8, [.int t0, .int t1, .int t2, .int t3, .int t4, .ref ta, .ref tb, .ref tc, .ref td, .ref te])), (bk, .inr (0, [.int b0, .ref bka, .ref bkb])), (ps, .inr (2, [.ref sh, .int p1, .int p2])), (nw, .inr (7, [.ref nwc])), (nwc, .inl (cI, 41, .inl fn))] H := hP
                      have hD : va_D A [(h, .inr (9, [.ref x, .int q1, .int q2, .ref rd, .ref t, .ref d, .ref nw, .ref ps, .ref im, .ref is_, .int q10, .ref bk, .int q12, .ref qr, .ref pr, .ref cv, .ref ft])), (t, .inr (8, [.int t0, .int t1, .int t2, .int t3, .int t4, .ref ta, .ref tb, .ref tc, .ref td, .ref te])), (bk, .inr (0, [.int b0, .ref bka, .ref bkb])), (ps, .inr (2, [.ref sh, .int p1, .int p2])), (nw, .inr (7, [.ref nwc])), (nwc, .inl (cI, 41, .inl fn))] := hD
                      exact hret (f_e_bargesOfFate fn 2) () _ _ _ _ dX9_told_150 rfl hE (cutP (isC := [0, 1, 4, 5, 2, 3]) hP rfl) (cutD (isC := [0, 1, 4, 5, 2, 3]) hD rfl rfl) hS
                    · skip
                      rw [if_neg c_16] at hE
                      by_cases c_19 : w_ = 10
                      · rw [if_pos c_19] at hE
                        subst c_19
                        refine lv_tableIn (off := 150) (tgt := 151) hx hb dX9_told_1 (by decide +kernel) (by decide +kernel) (by decide +kernel) rfl ?_
                        refine lv_aload_n hx hb dX9_told_151 rfl (lv_at hl 0 rfl) ?_
                        refine va_get (D := D) (ci := 9) (v := .ref nw) (C := RX9) (T := TX9) (N := 17) hx hb hts iX9 hown hK hP 0 rfl rfl 6 (Nat.le_of_ble_eq_true rfl) (hts _ wd_96) (fun _ h9 => h9) rfl dX9_told_152 ?_
                        refine lv_iconst (v := 3) hx hb dX9_told_155 rfl ?_
                        refine cVi (wr := [(h, .inr (9, [.ref x, .int q1, .int q2, .ref rd, .ref t, .ref d, .ref nw, .ref ps, .ref im, .ref is_, .int q10, .ref bk, .int q12, .ref qr, .ref pr, .ref cv, .ref ft])), (t, .inr (8, [.int t0, .int t1, .int t2, .int t3, .int t4, .ref ta, .ref tb, .ref tc, .ref td, .ref te])), (bk, .inr (0, [.int b0, .ref bka, .ref bkb])), (ps, .inr (2, [.ref sh, .int p1, .int p2]))]) (rest := []) (e_bargesOfFate nw nwc fn 3) okV_X7_bargesOfFate wd_377 hx hb hml hown hts hK hP hD hS hA hN hl.1 [2, 3] [0, 1, 4, 5] rfl rfl rfl rfl (of_decide_eq_true rfl) rfl rfl rfl (Nat.le_of_ble_eq_true rfl) (Nat.le_of_ble_eq_true rfl) (Nat.le_of_ble_eq_true rfl) (Nat.le_of_ble_eq_true rfl) (Nat.le_of_ble_eq_true rfl) dX9_told_156 (fun r_21 u_20 H locs hw_u_20 hP hD hS => ?_)
                        replace hw_u_20 : r_21 = (f_e_bargesOfFate fn 3) := hw_u_20
                        rw [hw_u_20]
                        clear hw_u_20
                        have hP : va_P D classes [(h, .inr (9, [.ref x, .int q1, .int q2, .ref rd, .ref t, .ref d, .ref nw, .ref ps, .ref im, .ref is_, .int q10, .ref bk, .int q12, .ref qr, .ref pr, .ref cv, .ref ft])), (t, .inr (8, [.int t0, .int t1, .int t2, .int t3, .int t4, .ref ta, .ref tb, .ref tc, .ref td, .ref te])), (bk, .inr (0, [.int b0, .ref bka, .ref bkb])), (ps, .inr (2, [.ref sh, .int p1, .int p2])), (nw, .inr (7, [.ref nwc])), (nwc, .inl (cI, 41, .inl fn))] H := hP
                        have hD : va_D A [(h, .inr (9, [.ref x, .int q1, .int q2, .ref rd, .ref t, .ref d, .ref nw, .ref ps, .ref im, .ref is_, .int q10, .ref bk, .int q12, .ref qr, .ref pr, .ref cv, .ref ft])), (t, .inr (8, [.int t0, .int t1, .int t2, .int t3, .int t4, .ref ta, .ref tb, .ref tc, .ref td, .ref te])), (bk, .inr (0, [.int b0, .ref bka, .ref bkb])), (ps, .inr (2, [.ref sh, .int p1, .int p2])), (nw, .inr (7, [.ref nwc])), (nwc, .inl (cI, 41, .inl fn))] := hD
                        exact hret (f_e_bargesOfFate fn 3) () _ _ _ _ dX9_told_159 rfl hE (cutP (isC := [0, 1, 4, 5, 2, 3]) hP rfl) (cutD (isC := [0, 1, 4, 5, 2, 3]) hD rfl rfl) hS
                      · skip
                        rw [if_neg c_19] at hE
                        by_cases c_22 : w_ = 11
                        · rw [if_pos c_22] at hE
                          subst c_22
                          refine lv_tableIn (off := 159) (tgt := 160) hx hb dX9_told_1 (by decide +kernel) (by decide +kernel) (by decide +kernel) rfl ?_
                          refine lv_aload_n hx hb dX9_told_160 rfl (lv_at hl 0 rfl) ?_
                          refine va_get (D := D) (ci := 9) (v := .ref nw) (C := RX9) (T := TX9) (N := 17) hx hb hts iX9 hown hK hP 0 rfl rfl 6 (Nat.le_of_ble_eq_true rfl) (hts _ wd_96) (fun _ h9 => h9) rfl dX9_told_161 ?_
                          refine cVi (wr := [(h, .inr (9, [.ref x, .int q1, .int q2, .ref rd, .ref t, .ref d, .ref nw, .ref ps, .ref im, .ref is_, .int q10, .ref bk, .int q12, .ref qr, .ref pr, .ref cv, .ref ft])), (t, .inr (8, [.int t0, .int t1, .int t2, .int t3, .int t4, .ref ta, .ref tb, .ref tc, .ref td, .ref te])), (bk, .inr (0, [.int b0, .ref bka, .ref bkb])), (ps, .inr (2, [.ref sh, .int p1, .int p2]))]) (rest := []) (e_grievanceOfAll nw nwc fn) okV_X7_grievanceOfAll wd_378 hx hb hml hown hts hK hP hD hS hA hN hl.1 [2, 3] [0, 1, 4, 5] rfl rfl rfl rfl (of_decide_eq_true rfl) rfl rfl rfl (Nat.le_of_ble_eq_true rfl) (Nat.le_of_ble_eq_true rfl) (Nat.le_of_ble_eq_true rfl) (Nat.le_of_ble_eq_true rfl) (Nat.le_of_ble_eq_true rfl) dX9_told_164 (fun r_24 u_23 H locs hw_u_23 hP hD hS => ?_)
                          replace hw_u_23 : r_24 = (f_e_grievanceOfAll fn) := hw_u_23
                          rw [hw_u_23]
                          clear hw_u_23
                          have hP : va_P D classes [(h, .inr (9, [.ref x, .int q1, .int q2, .ref rd, .ref t, .ref d, .ref nw, .ref ps, .ref im, .ref is_, .int q10, .ref bk, .int q12, .ref qr, .ref pr, .ref cv, .ref ft])), (t, .inr (8, [.int t0, .int t1, .int t2, .int t3, .int t4, .ref ta, .ref tb, .ref tc, .ref td, .ref te])), (bk, .inr (0, [.int b0, .ref bka, .ref bkb])), (ps, .inr (2, [.ref sh, .int p1, .int p2])), (nw, .inr (7, [.ref nwc])), (nwc, .inl (cI, 41, .inl fn))] H := hP
                          have hD : va_D A [(h, .inr (9, [.ref x, .int q1, .int q2, .ref rd, .ref t, .ref d, .ref nw, .ref ps, .ref im, .ref is_, .int q10, .ref bk, .int q12, .ref qr, .ref pr, .ref cv, .ref ft])), (t, .inr (8, [.int t0, .int t1, .int t2, .int t3, .int t4, .ref ta, .ref tb, .ref tc, .ref td, .ref te])), (bk, .inr (0, [.int b0, .ref bka, .ref bkb])), (ps, .inr (2, [.ref sh, .int p1, .int p2])), (nw, .inr (7, [.ref nwc])), (nwc, .inl (cI, 41, .inl fn))] := hD
                          exact hret (f_e_grievanceOfAll fn) () _ _ _ _ dX9_told_167 rfl hE (cutP (isC := [0, 1, 4, 5, 2, 3]) hP rfl) (cutD (isC := [0, 1, 4, 5, 2, 3]) hD rfl rfl) hS
                        · skip
                          rw [if_neg c_22] at hE
                          by_cases c_25 : w_ = 12
                          · rw [if_pos c_25] at hE
                            subst c_25
                            refine lv_tableIn (off := 167) (tgt := 168) hx hb dX9_told_1 (by decide +kernel) (by decide +kernel) (by decide +kernel) rfl ?_
                            refine lv_aload_n hx hb dX9_told_168 rfl (lv_at hl 0 rfl) ?_
                            refine va_get (D := D) (ci := 9) (v := .ref bk) (C := RX9) (T := TX9) (N := 17) hx hb hts iX9 hown hK hP 0 rfl rfl 11 (Nat.le_of_ble_eq_true rfl) (hts _ wd_113) (fun _ h9 => h9) rfl dX9_told_169 ?_
                            refine va_get (D := D) (ci := 0) (v := .int b0) (C := RX0) (T := TX0) (N := 3) hx hb hts iX0 hown hK hP 4 rfl rfl 0 (Nat.le_of_ble_eq_true rfl) (hts _ wd_382) (fun _ h9 => h9) rfl dX9_told_172 ?_
                            exact hret b0 () _ _ _ _ dX9_told_175 rfl hE hP hD hS
                          · skip
                            rw [if_neg c_25] at hE
                            by_cases c_26 : w_ = 13
                            · rw [if_pos c_26] at hE
                              subst c_26
                              refine lv_tableIn (off := 175) (tgt := 176) hx hb dX9_told_1 (by decide +kernel) (by decide +kernel) (by decide +kernel) rfl ?_
                              refine lv_aload_n hx hb dX9_told_176 rfl (lv_at hl 0 rfl) ?_
                              refine va_get (D := D) (ci := 9) (v := .ref ps) (C := RX9) (T := TX9) (N := 17) hx hb hts iX9 hown hK hP 0 rfl rfl 7 (Nat.le_of_ble_eq_true rfl) (hts _ wd_102) (fun _ h9 => h9) rfl dX9_told_177 ?_
                              refine va_get (D := D) (ci := 2) (v := .int p2) (C := RX2) (T := TX2) (N := 3) hx hb hts iX2 hown hK hP 5 rfl rfl 2 (Nat.le_of_ble_eq_true rfl) (hts _ wd_383) (fun _ h9 => h9) rfl dX9_told_180 ?_
                              exact hret p2 () _ _ _ _ dX9_told_183 rfl hE hP hD hS
                            · skip
                              rw [if_neg c_26] at hE
                              refine lv_tableOut (tgt := 184) hx hb dX9_told_1 (by have q := lv_neT (a := 0) c_1 rfl; have q0 := lv_neT (a := 0) c_1 rfl; have q1 := lv_neT (a := 1) c_2 rfl; have q2 := lv_neT (a := 2) c_3 rfl; have q3 := lv_neT (a := 3) c_4 rfl; have q4 := lv_neT (a := 4) c_5 rfl; have q5 := lv_neT (a := 5) c_6 rfl; have q6 := lv_neT (a := 6) c_7 rfl; have q7 := lv_neT (a := 7) c_10 rfl; have q8 := lv_neT (a := 8) c_13 rfl; have q9 := lv_neT (a := 9) c_16 rfl; have q10 := lv_neT (a := 10) c_19 rfl; have q11 := lv_neT (a := 11) c_22 rfl; have q12 := lv_neT (a := 12) c_25 rfl; have q13 := lv_neT (a := 13) c_26 rfl; omega) rfl ?_
                              refine lv_ldc (v := (-1000000002)) hx hb hown (hts _ wd_339) dX9_told_184 ?_
                              exact hret (-1000000002) () _ _ _ _ dX9_told_186 rfl hE hP hD hS
noncomputable def f_e_send_x9 (q1 : Int32) (q2 : Int32) (q10 : Int32) (q12 : Int32) (t0 : Int32) (t1 : Int32) (t2 : Int32) (t3 : Int32) (t4 : Int32) (fn : Nat → Int32) (p1 : Int32) (p2 : Int32) (fsh : Nat → Int32) (c_ : Int32) (b_ : Int32) (e_ : Int32) : Int32 × (Nat → Int32) × Int32 × Int32 × (Nat → Int32) := (if (f_e_hasCouple t0 t1 t2 t3 t4 c_) = 0 then ((-1000000001), fn, p1, p2, fsh) else (if (f_e_hasBridge t0 t1 t2 t3 t4 b_) = 0 then ((-1000000001), fn, p1, p2, fsh) else (if (f_e_hasTheme t0 t1 t2 t3 t4 e_) = 0 then ((-1000000001), fn, p1, p2, fsh) else (if (f_e_isReconciled fn c_) = 0 then (if (f_e_coupleAt fn b_) = (-1) then (match (f_e_remember_x2 p1 p2 fsh fn) with | (o_18, o_19, o_20) => ((f_e_bridgeOf fn c_), (f_e_turnTo (f_e_place fn c_ b_) c_ e_), o_18, o_19, o_20)) else (if (f_e_coupleAt fn b_) = c_ then (match (f_e_remember_x2 p1 p2 fsh fn) with | (o_30, o_31, o_32) => ((f_e_bridgeOf fn c_), (f_e_turnTo (f_e_place fn c_ b_) c_ e_), o_30, o_31, o_32)) else ((-1000000003), fn, p1, p2, fsh))) else ((-1000000003), fn, p1, p2, fsh)))))
def rm_e_send_x9 : Room := { frames := 3, cells := 0, slots := 0, locals := 103 }
set_option maxHeartbeats 4000000 in
set_option maxRecDepth 100000 in
theorem e_send_x9 {l : Launch} {D : va_G} {cI cZ : ClassId} {sz : Nat} (h x rd t d nw ps im is_ bk qr pr cv ft ta tb tc td te nwc sh shc : Nat) (q1 : Int32) (q2 : Int32) (q10 : Int32) (q12 : Int32) (t0 : Int32) (t1 : Int32) (t2 : Int32) (t3 : Int32) (t4 : Int32) (fn : Nat → Int32) (p1 : Int32) (p2 : Int32) (fsh : Nat → Int32) (c_ : Int32) (b_ : Int32) (e_ : Int32) : KI l yX9_send cX9_send 6 (some .int) rm_e_send_x9 D cI cZ [.ref h, .int c_, .int b_, .int e_] sz [(h, .inr (9, [.ref x, .int q1, .int q2, .ref rd, .ref t, .ref d, .ref nw, .ref ps, .ref im, .ref is_, .int q10, .ref bk, .int q12, .ref qr, .ref pr, .ref cv, .ref ft])), (t, .inr (8, [.int t0, .int t1, .int t2, .int t3, .int t4, .ref ta, .ref tb, .ref tc, .ref td, .ref te])), (nw, .inr (7, [.ref nwc])), (nwc, .inl (cI, 41, .inl fn)), (ps, .inr (2, [.ref sh, .int p1, .int p2])), (sh, .inr (6, [.int 20, .ref shc])), (shc, .inl (cI, 820, .inl fsh))] (fun (r : Int32) (u : (Nat → Int32) × Int32 × Int32 × (Nat → Int32)) => (r, u) = f_e_send_x9 q1 q2 q10 q12 t0 t1 t2 t3 t4 fn p1 p2 fsh c_ b_ e_) (fun (u : (Nat → Int32) × Int32 × Int32 × (Nat → Int32)) => [(h, .inr (9, [.ref x, .int q1, .int q2, .ref rd, .ref t, .ref d, .ref nw, .ref ps, .ref im, .ref is_, .int q10, .ref bk, .int q12, .ref qr, .ref pr, .ref cv, .ref ft])), (t, .inr (8, [.int t0, .int t1, .int t2, .int t3, .int t4, .ref ta, .ref tb, .ref tc, .ref td, .ref te])), (nw, .inr (7, [.ref nwc])), (nwc, .inl (cI, 41, .inl u.1)), (ps, .inr (2, [.ref sh, .int (u.2.1), .int (u.2.2.1)])), (sh, .inr (6, [.int 20, .ref shc])), (shc, .inl (cI, 820, .inl u.2.2.2))]) := by
  refine KI.go rfl (Nat.le_of_ble_eq_true rfl) ?_
  intro p e s m args below meth c ls A Q hx hb hml hts hown hin hP hK hD hS hA hN hl hret
  have hl : lv_has ls 6 [(0, .ref h), (1, .int c_), (2, .int b_), (3, .int e_)] := hl
  obtain ⟨RES, hE⟩ : ∃ xRES, f_e_send_x9 q1 q2 q10 q12 t0 t1 t2 t3 t4 fn p1 p2 fsh c_ b_ e_ = xRES := ⟨_, rfl⟩
  rw [hE] at hret
  rw [f_e_send_x9] at hE
  refine lv_aload_n hx hb dX9_send_0 rfl (lv_at hl 0 rfl) ?_
  refine va_get (D := D) (ci := 9) (v := .ref t) (C := RX9) (T := TX9) (N := 17) hx hb hts iX9 hown hK hP 0 rfl rfl 4 (Nat.le_of_ble_eq_true rfl) (hts _ wd_89) (fun _ h9 => h9) rfl dX9_send_1 ?_
  refine lv_iload_n hx hb dX9_send_4 rfl (lv_at hl 1 rfl) ?_
  refine cVi (wr := [(h, .inr (9, [.ref x, .int q1, .int q2, .ref rd, .ref t, .ref d, .ref nw, .ref ps, .ref im, .ref is_, .int q10, .ref bk, .int q12, .ref qr, .ref pr, .ref cv, .ref ft])), (nw, .inr (7, [.ref nwc])), (nwc, .inl (cI, 41, .inl fn)), (ps, .inr (2, [.ref sh, .int p1, .int p2])), (sh, .inr (6, [.int 20, .ref shc])), (shc, .inl (cI, 820, .inl fsh))]) (rest := []) (e_hasCouple t ta tb tc td te t0 t1 t2 t3 t4 c_) okV_X8_hasCouple wd_347 hx hb hml hown hts hK hP hD hS hA hN hl.1 [1] [0, 2, 3, 4, 5, 6] rfl rfl rfl rfl (of_decide_eq_true rfl) rfl rfl rfl (Nat.le_of_ble_eq_true rfl) (Nat.le_of_ble_eq_true rfl) (Nat.le_of_ble_eq_true rfl) (Nat.le_of_ble_eq_true rfl) (Nat.le_of_ble_eq_true rfl) dX9_send_5 (fun r_2 u_1 H locs hw_u_1 hP hD hS => ?_)
  replace hw_u_1 : r_2 = (f_e_hasCouple t0 t1 t2 t3 t4 c_) := hw_u_1
  rw [hw_u_1]
  clear hw_u_1
  have hP : va_P D classes [(h, .inr (9, [.ref x, .int q1, .int q2, .ref rd, .ref t, .ref d, .ref nw, .ref ps, .ref im, .ref is_, .int q10, .ref bk, .int q12, .ref qr, .ref pr, .ref cv, .ref ft])), (nw, .inr (7, [.ref nwc])), (nwc, .inl (cI, 41, .inl fn)), (ps, .inr (2, [.ref sh, .int p1, .int p2])), (sh, .inr (6, [.int 20, .ref shc])), (shc, .inl (cI, 820, .inl fsh)), (t, .inr (8, [.int t0, .int t1, .int t2, .int t3, .int t4, .ref ta, .ref tb, .ref tc, .ref td, .ref te]))] H := hP
  have hD : va_D A [(h, .inr (9, [.ref x, .int q1, .int q2, .ref rd, .ref t, .ref d, .ref nw, .ref ps, .ref im, .ref is_, .int q10, .ref bk, .int q12, .ref qr, .ref pr, .ref cv, .ref ft])), (nw, .inr (7, [.ref nwc])), (nwc, .inl (cI, 41, .inl fn)), (ps, .inr (2, [.ref sh, .int p1, .int p2])), (sh, .inr (6, [.int 20, .ref shc])), (shc, .inl (cI, 820, .inl fsh)), (t, .inr (8, [.int t0, .int t1, .int t2, .int t3, .int t4, .ref ta, .ref tb, .ref tc, .ref td, .ref te]))] := hD
  refine lv_if_eq (tgt := 33) hx hb dX9_send_8 rfl (fun c_3 => ?_) (fun c_3 => ?_)
  · rw [if_pos c_3] at hE
    refine lv_ldc (v := (-1000000001)) hx hb hown (hts _ wd_346) dX9_send_33 ?_
    exact hret (-1000000001) (fn, p1, p2, fsh) _ _ _ _ dX9_send_35 rfl hE (cutP (isC := [0, 6, 1, 2, 3, 4, 5]) hP rfl) (cutD (isC := [0, 6, 1, 2, 3, 4, 5]) hD rfl rfl) hS
  · rw [if_neg c_3] at hE
    refine lv_aload_n hx hb dX9_send_11 rfl (lv_at hl 0 rfl) ?_
    refine va_get (D := D) (ci := 9) (v := .ref t) (C := RX9) (T := TX9) (N := 17) hx hb hts iX9 hown hK hP 0 rfl rfl 4 (Nat.le_of_ble_eq_true rfl) (hts _ wd_89) (fun _ h9 => h9) rfl dX9_send_12 ?_
    refine lv_iload_n hx hb dX9_send_15 rfl (lv_at hl 2 rfl) ?_
    refine cVi (wr := [(h, .inr (9, [.ref x, .int q1, .int q2, .ref rd, .ref t, .ref d, .ref nw, .ref ps, .ref im, .ref is_, .int q10, .ref bk, .int q12, .ref qr, .ref pr, .ref cv, .ref ft])), (nw, .inr (7, [.ref nwc])), (nwc, .inl (cI, 41, .inl fn)), (ps, .inr (2, [.ref sh, .int p1, .int p2])), (sh, .inr (6, [.int 20, .ref shc])), (shc, .inl (cI, 820, .inl fsh))]) (rest := []) (e_hasBridge t ta tb tc td te t0 t1 t2 t3 t4 b_) okV_X8_hasBridge wd_342 hx hb hml hown hts hK hP hD hS hA hN hl.1 [6] [0, 1, 2, 3, 4, 5] rfl rfl rfl rfl (of_decide_eq_true rfl) rfl rfl rfl (Nat.le_of_ble_eq_true rfl) (Nat.le_of_ble_eq_true rfl) (Nat.le_of_ble_eq_true rfl) (Nat.le_of_ble_eq_true rfl) (Nat.le_of_ble_eq_true rfl) dX9_send_16 (fun r_5 u_4 H locs hw_u_4 hP hD hS => ?_)
    replace hw_u_4 : r_5 = (f_e_hasBridge t0 t1 t2 t3 t4 b_) := hw_u_4
    rw [hw_u_4]
    clear hw_u_4
    have hP : va_P D classes [(h, .inr (9, [.ref x, .int q1, .int q2, .ref rd, .ref t, .ref d, .ref nw, .ref ps, .ref im, .ref is_, .int q10, .ref bk, .int q12, .ref qr, .ref pr, .ref cv, .ref ft])), (nw, .inr (7, [.ref nwc])), (nwc, .inl (cI, 41, .inl fn)), (ps, .inr (2, [.ref sh, .int p1, .int p2])), (sh, .inr (6, [.int 20, .ref shc])), (shc, .inl (cI, 820, .inl fsh)), (t, .inr (8, [.int t0, .int t1, .int t2, .int t3, .int t4, .ref ta, .ref tb, .ref tc, .ref td, .ref te]))] H := hP
    have hD : va_D A [(h, .inr (9, [.ref x, .int q1, .int q2, .ref rd, .ref t, .ref d, .ref nw, .ref ps, .ref im, .ref is_, .int q10, .ref bk, .int q12, .ref qr, .ref pr, .ref cv, .ref ft])), (nw, .inr (7, [.ref nwc])), (nwc, .inl (cI, 41, .inl fn)), (ps, .inr (2, [.ref sh, .int p1, .int p2])), (sh, .inr (6, [.int 20, .ref shc])), (shc, .inl (cI, 820, .inl fsh)), (t, .inr (8, [.int t0, .int t1, .int t2, .int t3, .int t4, .ref ta, .ref tb, .ref tc, .ref td, .ref te]))] := hD
    refine lv_if_eq (tgt := 33) hx hb dX9_send_19 rfl (fun c_6 => ?_) (fun c_6 => ?_)
    · rw [if_pos c_6] at hE
      refine lv_ldc (v := (-1000000001)) hx hb hown (hts _ wd_346) dX9_send_33 ?_
      exact hret (-1000000001) (fn, p1, p2, fsh) _ _ _ _ dX9_send_35 rfl hE (cutP (isC := [0, 6, 1, 2, 3, 4, 5]) hP rfl) (cutD (isC := [0, 6, 1, 2, 3, 4, 5]) hD rfl rfl) hS
    · rw [if_neg c_6] at hE
      refine lv_aload_n hx hb dX9_send_22 rfl (lv_at hl 0 rfl) ?_
      refine va_get (D := D) (ci := 9) (v := .ref t) (C := RX9) (T := TX9) (N := 17) hx hb hts iX9 hown hK hP 0 rfl rfl 4 (Nat.le_of_ble_eq_true rfl) (hts _ wd_89) (fun _ h9 => h9) rfl dX9_send_23 ?_
      refine lv_iload_n hx hb dX9_send_26 rfl (lv_at hl 3 rfl) ?_
      refine cVi (wr := [(h, .inr (9, [.ref x, .int q1, .int q2, .ref rd, .ref t, .ref d, .ref nw, .ref ps, .ref im, .ref is_, .int q10, .ref bk, .int q12, .ref qr, .ref pr, .ref cv, .ref ft])), (nw, .inr (7, [.ref nwc])), (nwc, .inl (cI, 41, .inl fn)), (ps, .inr (2, [.ref sh, .int p1, .int p2])), (sh, .inr (6, [.int 20, .ref shc])), (shc, .inl (cI, 820, .inl fsh))]) (rest := []) (e_hasTheme t ta tb tc td te t0 t1 t2 t3 t4 e_) okV_X8_hasTheme wd_353 hx hb hml hown hts hK hP hD hS hA hN hl.1 [6] [0, 1, 2, 3, 4, 5] rfl rfl rfl rfl (of_decide_eq_true rfl) rfl rfl rfl (Nat.le_of_ble_eq_true rfl) (Nat.le_of_ble_eq_true rfl) (Nat.le_of_ble_eq_true rfl) (Nat.le_of_ble_eq_true rfl) (Nat.le_of_ble_eq_true rfl) dX9_send_27 (fun r_8 u_7 H locs hw_u_7 hP hD hS => ?_)
      replace hw_u_7 : r_8 = (f_e_hasTheme t0 t1 t2 t3 t4 e_) := hw_u_7
      rw [hw_u_7]
      clear hw_u_7
      have hP : va_P D classes [(h, .inr (9, [.ref x, .int q1, .int q2, .ref rd, .ref t, .ref d, .ref nw, .ref ps, .ref im, .ref is_, .int q10, .ref bk, .int q12, .ref qr, .ref pr, .ref cv, .ref ft])), (nw, .inr (7, [.ref nwc])), (nwc, .inl (cI, 41, .inl fn)), (ps, .inr (2, [.ref sh, .int p1, .int p2])), (sh, .inr (6, [.int 20, .ref shc])), (shc, .inl (cI, 820, .inl fsh)), (t, .inr (8, [.int t0, .int t1, .int t2, .int t3, .int t4, .ref ta, .ref tb, .ref tc, .ref td, .ref te]))] H := hP
      have hD : va_D A [(h, .inr (9, [.ref x, .int q1, .int q2, .ref rd, .ref t, .ref d, .ref nw, .ref ps, .ref im, .ref is_, .int q10, .ref bk, .int q12, .ref qr, .ref pr, .ref cv, .ref ft])), (nw, .inr (7, [.ref nwc])), (nwc, .inl (cI, 41, .inl fn)), (ps, .inr (2, [.ref sh, .int p1, .int p2])), (sh, .inr (6, [.int 20, .ref shc])), (shc, .inl (cI, 820, .inl fsh)), (t, .inr (8, [.int t0, .int t1, .int t2, .int t3, .int t4, .ref ta, .ref tb, .ref tc, .ref td, .ref te]))] := hD
      refine lv_if_ne (tgt := 36) hx hb dX9_send_30 rfl (fun c_9 => ?_) (fun c_9 => ?_)
      · rw [if_neg c_9] at hE
        refine lv_aload_n hx hb dX9_send_36 rfl (lv_at hl 0 rfl) ?_
        refine va_get (D := D) (ci := 9) (v := .ref nw) (C := RX9) (T := TX9) (N := 17) hx hb hts iX9 hown hK hP 0 rfl rfl 6 (Nat.le_of_ble_eq_true rfl) (hts _ wd_96) (fun _ h9 => h9) rfl dX9_send_37 ?_
        refine lv_iload_n hx hb dX9_send_40 rfl (lv_at hl 2 rfl) ?_
        refine cVi (wr := [(h, .inr (9, [.ref x, .int q1, .int q2, .ref rd, .ref t, .ref d, .ref nw, .ref ps, .ref im, .ref is_, .int q10, .ref bk, .int q12, .ref qr, .ref pr, .ref cv, .ref ft])), (ps, .inr (2, [.ref sh, .int p1, .int p2])), (sh, .inr (6, [.int 20, .ref shc])), (shc, .inl (cI, 820, .inl fsh)), (t, .inr (8, [.int t0, .int t1, .int t2, .int t3, .int t4, .ref ta, .ref tb, .ref tc, .ref td, .ref te]))]) (rest := []) (e_coupleAt nw nwc fn b_) okV_X7_coupleAt wd_287 hx hb hml hown hts hK hP hD hS hA hN hl.1 [1, 2] [0, 3, 4, 5, 6] rfl rfl rfl rfl (of_decide_eq_true rfl) rfl rfl rfl (Nat.le_of_ble_eq_true rfl) (Nat.le_of_ble_eq_true rfl) (Nat.le_of_ble_eq_true rfl) (Nat.le_of_ble_eq_true rfl) (Nat.le_of_ble_eq_true rfl) dX9_send_41 (fun r_11 u_10 H locs hw_u_10 hP hD hS => ?_)
        replace hw_u_10 : r_11 = (f_e_coupleAt fn b_) := hw_u_10
        rw [hw_u_10]
        clear hw_u_10
        have hP : va_P D classes [(h, .inr (9, [.ref x, .int q1, .int q2, .ref rd, .ref t, .ref d, .ref nw, .ref ps, .ref im, .ref is_, .int q10, .ref bk, .int q12, .ref qr, .ref pr, .ref cv, .ref ft])), (ps, .inr (2, [.ref sh, .int p1, .int p2])), (sh, .inr (6, [.int 20, .ref shc])), (shc, .inl (cI, 820, .inl fsh)), (t, .inr (8, [.int t0, .int t1, .int t2, .int t3, .int t4, .ref ta, .ref tb, .ref tc, .ref td, .ref te])), (nw, .inr (7, [.ref nwc])), (nwc, .inl (cI, 41, .inl fn))] H := hP
        have hD : va_D A [(h, .inr (9, [.ref x, .int q1, .int q2, .ref rd, .ref t, .ref d, .ref nw, .ref ps, .ref im, .ref is_, .int q10, .ref bk, .int q12, .ref qr, .ref pr, .ref cv, .ref ft])), (ps, .inr (2, [.ref sh, .int p1, .int p2])), (sh, .inr (6, [.int 20, .ref shc])), (shc, .inl (cI, 820, .inl fsh)), (t, .inr (8, [.int t0, .int t1, .int t2, .int t3, .int t4, .ref ta, .ref tb, .ref tc, .ref td, .ref te])), (nw, .inr (7, [.ref nwc])), (nwc, .inl (cI, 41, .inl fn))] := hD
        refine lv_istore (lv' := [(4, .int (f_e_coupleAt fn b_)), (0, .ref h), (1, .int c_), (2, .int b_), (3, .int e_)]) hx hb dX9_send_44 hl (Nat.le_of_ble_eq_true rfl) rfl (fun ls hl => ?_)
        refine lv_aload_n hx hb dX9_send_46 rfl (lv_at hl 1 rfl) ?_
        refine va_get (D := D) (ci := 9) (v := .ref nw) (C := RX9) (T := TX9) (N := 17) hx hb hts iX9 hown hK hP 0 rfl rfl 6 (Nat.le_of_ble_eq_true rfl) (hts _ wd_96) (fun _ h9 => h9) rfl dX9_send_47 ?_
        refine lv_iload_n hx hb dX9_send_50 rfl (lv_at hl 2 rfl) ?_
        refine cVi (wr := [(h, .inr (9, [.ref x, .int q1, .int q2, .ref rd, .ref t, .ref d, .ref nw, .ref ps, .ref im, .ref is_, .int q10, .ref bk, .int q12, .ref qr, .ref pr, .ref cv, .ref ft])), (ps, .inr (2, [.ref sh, .int p1, .int p2])), (sh, .inr (6, [.int 20, .ref shc])), (shc, .inl (cI, 820, .inl fsh)), (t, .inr (8, [.int t0, .int t1, .int t2, .int t3, .int t4, .ref ta, .ref tb, .ref tc, .ref td, .ref te]))]) (rest := []) (e_isReconciled nw nwc fn c_) okV_X7_isReconciled wd_265 hx hb hml hown hts hK hP hD hS hA hN hl.1 [5, 6] [0, 1, 2, 3, 4] rfl rfl rfl rfl (of_decide_eq_true rfl) rfl rfl rfl (Nat.le_of_ble_eq_true rfl) (Nat.le_of_ble_eq_true rfl) (Nat.le_of_ble_eq_true rfl) (Nat.le_of_ble_eq_true rfl) (Nat.le_of_ble_eq_true rfl) dX9_send_51 (fun r_13 u_12 H locs hw_u_12 hP hD hS => ?_)
        replace hw_u_12 : r_13 = (f_e_isReconciled fn c_) := hw_u_12
        rw [hw_u_12]
        clear hw_u_12
        have hP : va_P D classes [(h, .inr (9, [.ref x, .int q1, .int q2, .ref rd, .ref t, .ref d, .ref nw, .ref ps, .ref im, .ref is_, .int q10, .ref bk, .int q12, .ref qr, .ref pr, .ref cv, .ref ft])), (ps, .inr (2, [.ref sh, .int p1, .int p2])), (sh, .inr (6, [.int 20, .ref shc])), (shc, .inl (cI, 820, .inl fsh)), (t, .inr (8, [.int t0, .int t1, .int t2, .int t3, .int t4, .ref ta, .ref tb, .ref tc, .ref td, .ref te])), (nw, .inr (7, [.ref nwc])), (nwc, .inl (cI, 41, .inl fn))] H := hP
        have hD : va_D A [(h, .inr (9, [.ref x, .int q1, .int q2, .ref rd, .ref t, .ref d, .ref nw, .ref ps, .ref im, .ref is_, .int q10, .ref bk, .int q12, .ref qr, .ref pr, .ref cv, .ref ft])), (ps, .inr (2, [.ref sh, .int p1, .int p2])), (sh, .inr (6, [.int 20, .ref shc])), (shc, .inl (cI, 820, .inl fsh)), (t, .inr (8, [.int t0, .int t1, .int t2, .int t3, .int t4, .ref ta, .ref tb, .ref tc, .ref td, .ref te])), (nw, .inr (7, [.ref nwc])), (nwc, .inl (cI, 41, .inl fn))] := hD
        refine lv_if_ne (tgt := 69) hx hb dX9_send_54 rfl (fun c_14 => ?_) (fun c_14 => ?_)
        · rw [if_neg c_14] at hE
          refine lv_ldc (v := (-1000000003)) hx hb hown (hts _ wd_384) dX9_send_69 ?_
          exact hret (-1000000003) (fn, p1, p2, fsh) _ _ _ _ dX9_send_71 rfl hE (cutP (isC := [0, 4, 5, 6, 1, 2, 3]) hP rfl) (cutD (isC := [0, 4, 5, 6, 1, 2, 3]) hD rfl rfl) hS
        · rw [if_pos c_14] at hE
          refine lv_iload hx hb dX9_send_57 (lv_at hl 0 rfl) ?_
          refine lv_iconst (v := (-1)) hx hb dX9_send_59 rfl ?_
          refine lv_icmp_eq (tgt := 72) hx hb dX9_send_60 rfl (fun c_15 => ?_) (fun c_15 => ?_)
          · rw [if_pos c_15] at hE
            refine lv_aload_n hx hb dX9_send_72 rfl (lv_at hl 1 rfl) ?_
            refine va_get (D := D) (ci := 9) (v := .ref ps) (C := RX9) (T := TX9) (N := 17) hx hb hts iX9 hown hK hP 0 rfl rfl 7 (Nat.le_of_ble_eq_true rfl) (hts _ wd_102) (fun _ h9 => h9) rfl dX9_send_73 ?_
            refine lv_aload_n hx hb dX9_send_76 rfl (lv_at hl 1 rfl) ?_
            refine va_get (D := D) (ci := 9) (v := .ref nw) (C := RX9) (T := TX9) (N := 17) hx hb hts iX9 hown hK hP 0 rfl rfl 6 (Nat.le_of_ble_eq_true rfl) (hts _ wd_96) (fun _ h9 => h9) rfl dX9_send_77 ?_
            refine cVv (wr := [(h, .inr (9, [.ref x, .int q1, .int q2, .ref rd, .ref t, .ref d, .ref nw, .ref ps, .ref im, .ref is_, .int q10, .ref bk, .int q12, .ref qr, .ref pr, .ref cv, .ref ft])), (t, .inr (8, [.int t0, .int t1, .int t2, .int t3, .int t4, .ref ta, .ref tb, .ref tc, .ref td, .ref te]))]) (rest := []) (e_remember_x2 ps sh shc nw nwc p1 p2 fsh fn) okV_X2_remember wd_385 hx hb hml hown hts hK hP hD hS hA hN hl.1 [1, 2, 3, 5, 6] [0, 4] rfl rfl rfl rfl (of_decide_eq_true rfl) rfl rfl rfl (Nat.le_of_ble_eq_true rfl) (Nat.le_of_ble_eq_true rfl) (Nat.le_of_ble_eq_true rfl) (Nat.le_of_ble_eq_true rfl) (Nat.le_of_ble_eq_true rfl) dX9_send_80 (fun u_16 H locs hw_u_16 hP hD hS => ?_)
            obtain ⟨o_18, o_19, o_20⟩ := u_16
            replace hw_u_16 : (o_18, o_19, o_20) = (f_e_remember_x2 p1 p2 fsh fn) := hw_u_16
            rw [← hw_u_16] at hE
            replace hE : ((f_e_bridgeOf fn c_), (f_e_turnTo (f_e_place fn c_ b_) c_ e_), o_18, o_19, o_20) = RES := hE
            have hP : va_P D classes [(h, .inr (9, [.ref x, .int q1, .int q2, .ref rd, .ref t, .ref d, .ref nw, .ref ps, .ref im, .ref is_, .int q10, .ref bk, .int q12, .ref qr, .ref pr, .ref cv, .ref ft])), (t, .inr (8, [.int t0, .int t1, .int t2, .int t3, .int t4, .ref ta, .ref tb, .ref tc, .ref td, .ref te])), (ps, .inr (2, [.ref sh, .int o_18, .int o_19])), (sh, .inr (6, [.int 20, .ref shc])), (shc, .inl (cI, 820, .inl o_20)), (nw, .inr (7, [.ref nwc])), (nwc, .inl (cI, 41, .inl fn))] H := hP
            have hD : va_D A [(h, .inr (9, [.ref x, .int q1, .int q2, .ref rd, .ref t, .ref d, .ref nw, .ref ps, .ref im, .ref is_, .int q10, .ref bk, .int q12, .ref qr, .ref pr, .ref cv, .ref ft])), (t, .inr (8, [.int t0, .int t1, .int t2, .int t3, .int t4, .ref ta, .ref tb, .ref tc, .ref td, .ref te])), (ps, .inr (2, [.ref sh, .int o_18, .int o_19])), (sh, .inr (6, [.int 20, .ref shc])), (shc, .inl (cI, 820, .inl o_20)), (nw, .inr (7, [.ref nwc])), (nwc, .inl (cI, 41, .inl fn))] := hD
            refine lv_aload_n hx hb dX9_send_83 rfl (lv_at hl 1 rfl) ?_
            refine va_get (D := D) (ci := 9) (v := .ref nw) (C := RX9) (T := TX9) (N := 17) hx hb hts iX9 hown hK hP 0 rfl rfl 6 (Nat.le_of_ble_eq_true rfl) (hts _ wd_96) (fun _ h9 => h9) rfl dX9_send_84 ?_
            refine lv_iload_n hx hb dX9_send_87 rfl (lv_at hl 2 rfl) ?_
            refine cVi (wr := [(h, .inr (9, [.ref x, .int q1, .int q2, .ref rd, .ref t, .ref d, .ref nw, .ref ps, .ref im, .ref is_, .int q10, .ref bk, .int q12, .ref qr, .ref pr, .ref cv, .ref ft])), (t, .inr (8, [.int t0, .int t1, .int t2, .int t3, .int t4, .ref ta, .ref tb, .ref tc, .ref td, .ref te])), (ps, .inr (2, [.ref sh, .int o_18, .int o_19])), (sh, .inr (6, [.int 20, .ref shc])), (shc, .inl (cI, 820, .inl o_20))]) (rest := []) (e_bridgeOf nw nwc fn c_) okV_X7_bridgeOf wd_352 hx hb hml hown hts hK hP hD hS hA hN hl.1 [5, 6] [0, 1, 2, 3, 4] rfl rfl rfl rfl (of_decide_eq_true rfl) rfl rfl rfl (Nat.le_of_ble_eq_true rfl) (Nat.le_of_ble_eq_true rfl) (Nat.le_of_ble_eq_true rfl) (Nat.le_of_ble_eq_true rfl) (Nat.le_of_ble_eq_true rfl) dX9_send_88 (fun r_22 u_21 H locs hw_u_21 hP hD hS => ?_)
            replace hw_u_21 : r_22 = (f_e_bridgeOf fn c_) := hw_u_21
            rw [hw_u_21]
            clear hw_u_21
            have hP : va_P D classes [(h, .inr (9, [.ref x, .int q1, .int q2, .ref rd, .ref t, .ref d, .ref nw, .ref ps, .ref im, .ref is_, .int q10, .ref bk, .int q12, .ref qr, .ref pr, .ref cv, .ref ft])), (t, .inr (8, [.int t0, .int t1, .int t2, .int t3, .int t4, .ref ta, .ref tb, .ref tc, .ref td, .ref te])), (ps, .inr (2, [.ref sh, .int o_18, .int o_19])), (sh, .inr (6, [.int 20, .ref shc])), (shc, .inl (cI, 820, .inl o_20)), (nw, .inr (7, [.ref nwc])), (nwc, .inl (cI, 41, .inl fn))] H := hP
            have hD : va_D A [(h, .inr (9, [.ref x, .int q1, .int q2, .ref rd, .ref t, .ref d, .ref nw, .ref ps, .ref im, .ref is_, .int q10, .ref bk, .int q12, .ref qr, .ref pr, .ref cv, .ref ft])), (t, .inr (8, [.int t0, .int t1, .int t2, .int t3, .int t4, .ref ta, .ref tb, .ref tc, .ref td, .ref te])), (ps, .inr (2, [.ref sh, .int o_18, .int o_19])), (sh, .inr (6, [.int 20, .ref shc])), (shc, .inl (cI, 820, .inl o_20)), (nw, .inr (7, [.ref nwc])), (nwc, .inl (cI, 41, .inl fn))] := hD
            refine lv_istore (lv' := [(5, .int (f_e_bridgeOf fn c_)), (4, .int (f_e_coupleAt fn b_)), (0, .ref h), (1, .int c_), (2, .int b_), (3, .int e_)]) hx hb dX9_send_91 hl (Nat.le_of_ble_eq_true rfl) rfl (fun ls hl => ?_)
            refine lv_aload_n hx hb dX9_send_93 rfl (lv_at hl 2 rfl) ?_
            refine va_get (D := D) (ci := 9) (v := .ref nw) (C := RX9) (T := TX9) (N := 17) hx hb hts iX9 hown hK hP 0 rfl rfl 6 (Nat.le_of_ble_eq_true rfl) (hts _ wd_96) (fun _ h9 => h9) rfl dX9_send_94 ?_
            refine lv_iload_n hx hb dX9_send_97 rfl (lv_at hl 3 rfl) ?_
            refine lv_iload_n hx hb dX9_send_98 rfl (lv_at hl 4 rfl) ?_
            refine cVv (wr := [(h, .inr (9, [.ref x, .int q1, .int q2, .ref rd, .ref t, .ref d, .ref nw, .ref ps, .ref im, .ref is_, .int q10, .ref bk, .int q12, .ref qr, .ref pr, .ref cv, .ref ft])), (t, .inr (8, [.int t0, .int t1, .int t2, .int t3, .int t4, .ref ta, .ref tb, .ref tc, .ref td, .ref te])), (ps, .inr (2, [.ref sh, .int o_18, .int o_19])), (sh, .inr (6, [.int 20, .ref shc])), (shc, .inl (cI, 820, .inl o_20))]) (rest := []) (e_place nw nwc fn c_ b_) okV_X7_place wd_389 hx hb hml hown hts hK hP hD hS hA hN hl.1 [5, 6] [0, 1, 2, 3, 4] rfl rfl rfl rfl (of_decide_eq_true rfl) rfl rfl rfl (Nat.le_of_ble_eq_true rfl) (Nat.le_of_ble_eq_true rfl) (Nat.le_of_ble_eq_true rfl) (Nat.le_of_ble_eq_true rfl) (Nat.le_of_ble_eq_true rfl) dX9_send_99 (fun u_23 H locs hw_u_23 hP hD hS => ?_)
            replace hw_u_23 : u_23 = (f_e_place fn c_ b_) := hw_u_23
            subst hw_u_23
            have hP : va_P D classes [(h, .inr (9, [.ref x, .int q1, .int q2, .ref rd, .ref t, .ref d, .ref nw, .ref ps, .ref im, .ref is_, .int q10, .ref bk, .int q12, .ref qr, .ref pr, .ref cv, .ref ft])), (t, .inr (8, [.int t0, .int t1, .int t2, .int t3, .int t4, .ref ta, .ref tb, .ref tc, .ref td, .ref te])), (ps, .inr (2, [.ref sh, .int o_18, .int o_19])), (sh, .inr (6, [.int 20, .ref shc])), (shc, .inl (cI, 820, .inl o_20)), (nw, .inr (7, [.ref nwc])), (nwc, .inl (cI, 41, .inl (f_e_place fn c_ b_)))] H := hP
            have hD : va_D A [(h, .inr (9, [.ref x, .int q1, .int q2, .ref rd, .ref t, .ref d, .ref nw, .ref ps, .ref im, .ref is_, .int q10, .ref bk, .int q12, .ref qr, .ref pr, .ref cv, .ref ft])), (t, .inr (8, [.int t0, .int t1, .int t2, .int t3, .int t4, .ref ta, .ref tb, .ref tc, .ref td, .ref te])), (ps, .inr (2, [.ref sh, .int o_18, .int o_19])), (sh, .inr (6, [.int 20, .ref shc])), (shc, .inl (cI, 820, .inl o_20)), (nw, .inr (7, [.ref nwc])), (nwc, .inl (cI, 41, .inl (f_e_place fn c_ b_)))] := hD
            refine lv_aload_n hx hb dX9_send_102 rfl (lv_at hl 2 rfl) ?_
            refine va_get (D := D) (ci := 9) (v := .ref nw) (C := RX9) (T := TX9) (N := 17) hx hb hts iX9 hown hK hP 0 rfl rfl 6 (Nat.le_of_ble_eq_true rfl) (hts _ wd_96) (fun _ h9 => h9) rfl dX9_send_103 ?_
            refine lv_iload_n hx hb dX9_send_106 rfl (lv_at hl 3 rfl) ?_
            refine lv_iload_n hx hb dX9_send_107 rfl (lv_at hl 5 rfl) ?_
            refine cVv (wr := [(h, .inr (9, [.ref x, .int q1, .int q2, .ref rd, .ref t, .ref d, .ref nw, .ref ps, .ref im, .ref is_, .int q10, .ref bk, .int q12, .ref qr, .ref pr, .ref cv, .ref ft])), (t, .inr (8, [.int t0, .int t1, .int t2, .int t3, .int t4, .ref ta, .ref tb, .ref tc, .ref td, .ref te])), (ps, .inr (2, [.ref sh, .int o_18, .int o_19])), (sh, .inr (6, [.int 20, .ref shc])), (shc, .inl (cI, 820, .inl o_20))]) (rest := []) (e_turnTo nw nwc (f_e_place fn c_ b_) c_ e_) okV_X7_turnTo wd_390 hx hb hml hown hts hK hP hD hS hA hN hl.1 [5, 6] [0, 1, 2, 3, 4] rfl rfl rfl rfl (of_decide_eq_true rfl) rfl rfl rfl (Nat.le_of_ble_eq_true rfl) (Nat.le_of_ble_eq_true rfl) (Nat.le_of_ble_eq_true rfl) (Nat.le_of_ble_eq_true rfl) (Nat.le_of_ble_eq_true rfl) dX9_send_108 (fun u_25 H locs hw_u_25 hP hD hS => ?_)
            replace hw_u_25 : u_25 = (f_e_turnTo (f_e_place fn c_ b_) c_ e_) := hw_u_25
            subst hw_u_25
            have hP : va_P D classes [(h, .inr (9, [.ref x, .int q1, .int q2, .ref rd, .ref t, .ref d, .ref nw, .ref ps, .ref im, .ref is_, .int q10, .ref bk, .int q12, .ref qr, .ref pr, .ref cv, .ref ft])), (t, .inr (8, [.int t0, .int t1, .int t2, .int t3, .int t4, .ref ta, .ref tb, .ref tc, .ref td, .ref te])), (ps, .inr (2, [.ref sh, .int o_18, .int o_19])), (sh, .inr (6, [.int 20, .ref shc])), (shc, .inl (cI, 820, .inl o_20)), (nw, .inr (7, [.ref nwc])), (nwc, .inl (cI, 41, .inl (f_e_turnTo (f_e_place fn c_ b_) c_ e_)))] H := hP
            have hD : va_D A [(h, .inr (9, [.ref x, .int q1, .int q2, .ref rd, .ref t, .ref d, .ref nw, .ref ps, .ref im, .ref is_, .int q10, .ref bk, .int q12, .ref qr, .ref pr, .ref cv, .ref ft])), (t, .inr (8, [.int t0, .int t1, .int t2, .int t3, .int t4, .ref ta, .ref tb, .ref tc, .ref td, .ref te])), (ps, .inr (2, [.ref sh, .int o_18, .int o_19])), (sh, .inr (6, [.int 20, .ref shc])), (shc, .inl (cI, 820, .inl o_20)), (nw, .inr (7, [.ref nwc])), (nwc, .inl (cI, 41, .inl (f_e_turnTo (f_e_place fn c_ b_) c_ e_)))] := hD
            refine lv_iload hx hb dX9_send_111 (lv_at hl 0 rfl) ?_
            exact hret (f_e_bridgeOf fn c_) ((f_e_turnTo (f_e_place fn c_ b_) c_ e_), o_18, o_19, o_20) _ _ _ _ dX9_send_113 rfl hE (cutP (isC := [0, 1, 5, 6, 2, 3, 4]) hP rfl) (cutD (isC := [0, 1, 5, 6, 2, 3, 4]) hD rfl rfl) hS
          · rw [if_neg c_15] at hE
            refine lv_iload hx hb dX9_send_63 (lv_at hl 0 rfl) ?_
            refine lv_iload_n hx hb dX9_send_65 rfl (lv_at hl 2 rfl) ?_
            refine lv_icmp_eq (tgt := 72) hx hb dX9_send_66 rfl (fun c_27 => ?_) (fun c_27 => ?_)
            · rw [if_pos c_27] at hE
              refine lv_aload_n hx hb dX9_send_72 rfl (lv_at hl 1 rfl) ?_
              refine va_get (D := D) (ci := 9) (v := .ref ps) (C := RX9) (T := TX9) (N := 17) hx hb hts iX9 hown hK hP 0 rfl rfl 7 (Nat.le_of_ble_eq_true rfl) (hts _ wd_102) (fun _ h9 => h9) rfl dX9_send_73 ?_
              refine lv_aload_n hx hb dX9_send_76 rfl (lv_at hl 1 rfl) ?_
              refine va_get (D := D) (ci := 9) (v := .ref nw) (C := RX9) (T := TX9) (N := 17) hx hb hts iX9 hown hK hP 0 rfl rfl 6 (Nat.le_of_ble_eq_true rfl) (hts _ wd_96) (fun _ h9 => h9) rfl dX9_send_77 ?_
              refine cVv (wr := [(h, .inr (9, [.ref x, .int q1, .int q2, .ref rd, .ref t, .ref d, .ref nw, .ref ps, .ref im, .ref is_, .int q10, .ref bk, .int q12, .ref qr, .ref pr, .ref cv, .ref ft])), (t, .inr (8, [.int t0, .int t1, .int t2, .int t3, .int t4, .ref ta, .ref tb, .ref tc, .ref td, .ref te]))]) (rest := []) (e_remember_x2 ps sh shc nw nwc p1 p2 fsh fn) okV_X2_remember wd_385 hx hb hml hown hts hK hP hD hS hA hN hl.1 [1, 2, 3, 5, 6] [0, 4] rfl rfl rfl rfl (of_decide_eq_true rfl) rfl rfl rfl (Nat.le_of_ble_eq_true rfl) (Nat.le_of_ble_eq_true rfl) (Nat.le_of_ble_eq_true rfl) (Nat.le_of_ble_eq_true rfl) (Nat.le_of_ble_eq_true rfl) dX9_send_80 (fun u_28 H locs hw_u_28 hP hD hS => ?_)
              obtain ⟨o_30, o_31, o_32⟩ := u_28
              replace hw_u_28 : (o_30, o_31, o_32) = (f_e_remember_x2 p1 p2 fsh fn) := hw_u_28
              rw [← hw_u_28] at hE
              replace hE : ((f_e_bridgeOf fn c_), (f_e_turnTo (f_e_place fn c_ b_) c_ e_), o_30, o_31, o_32) = RES := hE
              have hP : va_P D classes [(h, .inr (9, [.ref x, .int q1, .int q2, .ref rd, .ref t, .ref d, .ref nw, .ref ps, .ref im, .ref is_, .int q10, .ref bk, .int q12, .ref qr, .ref pr, .ref cv, .ref ft])), (t, .inr (8, [.int t0, .int t1, .int t2, .int t3, .int t4, .ref ta, .ref tb, .ref tc, .ref td, .ref te])), (ps, .inr (2, [.ref sh, .int o_30, .int o_31])), (sh, .inr (6, [.int 20, .ref shc])), (shc, .inl (cI, 820, .inl o_32)), (nw, .inr (7, [.ref nwc])), (nwc, .inl (cI, 41, .inl fn))] H := hP
              have hD : va_D A [(h, .inr (9, [.ref x, .int q1, .int q2, .ref rd, .ref t, .ref d, .ref nw, .ref ps, .ref im, .ref is_, .int q10, .ref bk, .int q12, .ref qr, .ref pr, .ref cv, .ref ft])), (t, .inr (8, [.int t0, .int t1, .int t2, .int t3, .int t4, .ref ta, .ref tb, .ref tc, .ref td, .ref te])), (ps, .inr (2, [.ref sh, .int o_30, .int o_31])), (sh, .inr (6, [.int 20, .ref shc])), (shc, .inl (cI, 820, .inl o_32)), (nw, .inr (7, [.ref nwc])), (nwc, .inl (cI, 41, .inl fn))] := hD
              refine lv_aload_n hx hb dX9_send_83 rfl (lv_at hl 1 rfl) ?_
              refine va_get (D := D) (ci := 9) (v := .ref nw) (C := RX9) (T := TX9) (N := 17) hx hb hts iX9 hown hK hP 0 rfl rfl 6 (Nat.le_of_ble_eq_true rfl) (hts _ wd_96) (fun _ h9 => h9) rfl dX9_send_84 ?_
              refine lv_iload_n hx hb dX9_send_87 rfl (lv_at hl 2 rfl) ?_
              refine cVi (wr := [(h, .inr (9, [.ref x, .int q1, .int q2, .ref rd, .ref t, .ref d, .ref nw, .ref ps, .ref im, .ref is_, .int q10, .ref bk, .int q12, .ref qr, .ref pr, .ref cv, .ref ft])), (t, .inr (8, [.int t0, .int t1, .int t2, .int t3, .int t4, .ref ta, .ref tb, .ref tc, .ref td, .ref te])), (ps, .inr (2, [.ref sh, .int o_30, .int o_31])), (sh, .inr (6, [.int 20, .ref shc])), (shc, .inl (cI, 820, .inl o_32))]) (rest := []) (e_bridgeOf nw nwc fn c_) okV_X7_bridgeOf wd_352 hx hb hml hown hts hK hP hD hS hA hN hl.1 [5, 6] [0, 1, 2, 3, 4] rfl rfl rfl rfl (of_decide_eq_true rfl) rfl rfl rfl (Nat.le_of_ble_eq_true rfl) (Nat.le_of_ble_eq_true rfl) (Nat.le_of_ble_eq_true rfl) (Nat.le_of_ble_eq_true rfl) (Nat.le_of_ble_eq_true rfl) dX9_send_88 (fun r_34 u_33 H locs hw_u_33 hP hD hS => ?_)
              replace hw_u_33 : r_34 = (f_e_bridgeOf fn c_) := hw_u_33
              rw [hw_u_33]
              clear hw_u_33
              have hP : va_P D classes [(h, .inr (9, [.ref x, .int q1, .int q2, .ref rd, .ref t, .ref d, .ref nw, .ref ps, .ref im, .ref is_, .int q10, .ref bk, .int q12, .ref qr, .ref pr, .ref cv, .ref ft])), (t, .inr (8, [.int t0, .int t1, .int t2, .int t3, .int t4, .ref ta, .ref tb, .ref tc, .ref td, .ref te])), (ps, .inr (2, [.ref sh, .int o_30, .int o_31])), (sh, .inr (6, [.int 20, .ref shc])), (shc, .inl (cI, 820, .inl o_32)), (nw, .inr (7, [.ref nwc])), (nwc, .inl (cI, 41, .inl fn))] H := hP
              have hD : va_D A [(h, .inr (9, [.ref x, .int q1, .int q2, .ref rd, .ref t, .ref d, .ref nw, .ref ps, .ref im, .ref is_, .int q10, .ref bk, .int q12, .ref qr, .ref pr, .ref cv, .ref ft])), (t, .inr (8, [.int t0, .int t1, .int t2, .int t3, .int t4, .ref ta, .ref tb, .ref tc, .ref td, .ref te])), (ps, .inr (2, [.ref sh, .int o_30, .int o_31])), (sh, .inr (6, [.int 20, .ref shc])), (shc, .inl (cI, 820, .inl o_32)), (nw, .inr (7, [.ref nwc])), (nwc, .inl (cI, 41, .inl fn))] := hD
              refine lv_istore (lv' := [(5, .int (f_e_bridgeOf fn c_)), (4, .int (f_e_coupleAt fn b_)), (0, .ref h), (1, .int c_), (2, .int b_), (3, .int e_)]) hx hb dX9_send_91 hl (Nat.le_of_ble_eq_true rfl) rfl (fun ls hl => ?_)
              refine lv_aload_n hx hb dX9_send_93 rfl (lv_at hl 2 rfl) ?_
              refine va_get (D := D) (ci := 9) (v := .ref nw) (C := RX9) (T := TX9) (N := 17) hx hb hts iX9 hown hK hP 0 rfl rfl 6 (Nat.le_of_ble_eq_true rfl) (hts _ wd_96) (fun _ h9 => h9) rfl dX9_send_94 ?_
              refine lv_iload_n hx hb dX9_send_97 rfl (lv_at hl 3 rfl) ?_
              refine lv_iload_n hx hb dX9_send_98 rfl (lv_at hl 4 rfl) ?_
              refine cVv (wr := [(h, .inr (9, [.ref x, .int q1, .int q2, .ref rd, .ref t, .ref d, .ref nw, .ref ps, .ref im, .ref is_, .int q10, .ref bk, .int q12, .ref qr, .ref pr, .ref cv, .ref ft])), (t, .inr (8, [.int t0, .int t1, .int t2, .int t3, .int t4, .ref ta, .ref tb, .ref tc, .ref td, .ref te])), (ps, .inr (2, [.ref sh, .int o_30, .int o_31])), (sh, .inr (6, [.int 20, .ref shc])), (shc, .inl (cI, 820, .inl o_32))]) (rest := []) (e_place nw nwc fn c_ b_) okV_X7_place wd_389 hx hb hml hown hts hK hP hD hS hA hN hl.1 [5, 6] [0, 1, 2, 3, 4] rfl rfl rfl rfl (of_decide_eq_true rfl) rfl rfl rfl (Nat.le_of_ble_eq_true rfl) (Nat.le_of_ble_eq_true rfl) (Nat.le_of_ble_eq_true rfl) (Nat.le_of_ble_eq_true rfl) (Nat.le_of_ble_eq_true rfl) dX9_send_99 (fun u_35 H locs hw_u_35 hP hD hS => ?_)
              replace hw_u_35 : u_35 = (f_e_place fn c_ b_) := hw_u_35
              subst hw_u_35
              have hP : va_P D classes [(h, .inr (9, [.ref x, .int q1, .int q2, .ref rd, .ref t, .ref d, .ref nw, .ref ps, .ref im, .ref is_, .int q10, .ref bk, .int q12, .ref qr, .ref pr, .ref cv, .ref ft])), (t, .inr (8, [.int t0, .int t1, .int t2, .int t3, .int t4, .ref ta, .ref tb, .ref tc, .ref td, .ref te])), (ps, .inr (2, [.ref sh, .int o_30, .int o_31])), (sh, .inr (6, [.int 20, .ref shc])), (shc, .inl (cI, 820, .inl o_32)), (nw, .inr (7, [.ref nwc])), (nwc, .inl (cI, 41, .inl (f_e_place fn c_ b_)))] H := hP
              have hD : va_D A [(h, .inr (9, [.ref x, .int q1, .int q2, .ref rd, .ref t, .ref d, .ref nw, .ref ps, .ref im, .ref is_, .int q10, .ref bk, .int q12, .ref qr, .ref pr, .ref cv, .ref ft])), (t, .inr (8, [.int t0, .int t1, .int t2, .int t3, .int t4, .ref ta, .ref tb, .ref tc, .ref td, .ref te])), (ps, .inr (2, [.ref sh, .int o_30, .int o_31])), (sh, .inr (6, [.int 20, .ref shc])), (shc, .inl (cI, 820, .inl o_32)), (nw, .inr (7, [.ref nwc])), (nwc, .inl (cI, 41, .inl (f_e_place fn c_ b_)))] := hD
              refine lv_aload_n hx hb dX9_send_102 rfl (lv_at hl 2 rfl) ?_
              refine va_get (D := D) (ci := 9) (v := .ref nw) (C := RX9) (T := TX9) (N := 17) hx hb hts iX9 hown hK hP 0 rfl rfl 6 (Nat.le_of_ble_eq_true rfl) (hts _ wd_96) (fun _ h9 => h9) rfl dX9_send_103 ?_
              refine lv_iload_n hx hb dX9_send_106 rfl (lv_at hl 3 rfl) ?_
              refine lv_iload_n hx hb dX9_send_107 rfl (lv_at hl 5 rfl) ?_
              refine cVv (wr := [(h, .inr (9, [.ref x, .int q1, .int q2, .ref rd, .ref t, .ref d, .ref nw, .ref ps, .ref im, .ref is_, .int q10, .ref bk, .int q12, .ref qr, .ref pr, .ref cv, .ref ft])), (t, .inr (8, [.int t0, .int t1, .int t2, .int t3, .int t4, .ref ta, .ref tb, .ref tc, .ref td, .ref te])), (ps, .inr (2, [.ref sh, .int o_30, .int o_31])), (sh, .inr (6, [.int 20, .ref shc])), (shc, .inl (cI, 820, .inl o_32))]) (rest := []) (e_turnTo nw nwc (f_e_place fn c_ b_) c_ e_) okV_X7_turnTo wd_390 hx hb hml hown hts hK hP hD hS hA hN hl.1 [5, 6] [0, 1, 2, 3, 4] rfl rfl rfl rfl (of_decide_eq_true rfl) rfl rfl rfl (Nat.le_of_ble_eq_true rfl) (Nat.le_of_ble_eq_true rfl) (Nat.le_of_ble_eq_true rfl) (Nat.le_of_ble_eq_true rfl) (Nat.le_of_ble_eq_true rfl) dX9_send_108 (fun u_37 H locs hw_u_37 hP hD hS => ?_)
              replace hw_u_37 : u_37 = (f_e_turnTo (f_e_place fn c_ b_) c_ e_) := hw_u_37
              subst hw_u_37
              have hP : va_P D classes [(h, .inr (9, [.ref x, .int q1, .int q2, .ref rd, .ref t, .ref d, .ref nw, .ref ps, .ref im, .ref is_, .int q10, .ref bk, .int q12, .ref qr, .ref pr, .ref cv, .ref ft])), (t, .inr (8, [.int t0, .int t1, .int t2, .int t3, .int t4, .ref ta, .ref tb, .ref tc, .ref td, .ref te])), (ps, .inr (2, [.ref sh, .int o_30, .int o_31])), (sh, .inr (6, [.int 20, .ref shc])), (shc, .inl (cI, 820, .inl o_32)), (nw, .inr (7, [.ref nwc])), (nwc, .inl (cI, 41, .inl (f_e_turnTo (f_e_place fn c_ b_) c_ e_)))] H := hP
              have hD : va_D A [(h, .inr (9, [.ref x, .int q1, .int q2, .ref rd, .ref t, .ref d, .ref nw, .ref ps, .ref im, .ref is_, .int q10, .ref bk, .int q12, .ref qr, .ref pr, .ref cv, .ref ft])), (t, .inr (8, [.int t0, .int t1, .int t2, .int t3, .int t4, .ref ta, .ref tb, .ref tc, .ref td, .ref te])), (ps, .inr (2, [.ref sh, .int o_30, .int o_31])), (sh, .inr (6, [.int 20, .ref shc])), (shc, .inl (cI, 820, .inl o_32)), (nw, .inr (7, [.ref nwc])), (nwc, .inl (cI, 41, .inl (f_e_turnTo (f_e_place fn c_ b_) c_ e_)))] := hD
              refine lv_iload hx hb dX9_send_111 (lv_at hl 0 rfl) ?_
              exact hret (f_e_bridgeOf fn c_) ((f_e_turnTo (f_e_place fn c_ b_) c_ e_), o_30, o_31, o_32) _ _ _ _ dX9_send_113 rfl hE (cutP (isC := [0, 1, 5, 6, 2, 3, 4]) hP rfl) (cutD (isC := [0, 1, 5, 6, 2, 3, 4]) hD rfl rfl) hS
            · rw [if_neg c_27] at hE
              refine lv_ldc (v := (-1000000003)) hx hb hown (hts _ wd_384) dX9_send_69 ?_
              exact hret (-1000000003) (fn, p1, p2, fsh) _ _ _ _ dX9_send_71 rfl hE (cutP (isC := [0, 4, 5, 6, 1, 2, 3]) hP rfl) (cutD (isC := [0, 4, 5, 6, 1, 2, 3]) hD rfl rfl) hS
      · rw [if_pos c_9] at hE
        refine lv_ldc (v := (-1000000001)) hx hb hown (hts _ wd_346) dX9_send_33 ?_
        exact hret (-1000000001) (fn, p1, p2, fsh) _ _ _ _ dX9_send_35 rfl hE (cutP (isC := [0, 6, 1, 2, 3, 4, 5]) hP rfl) (cutD (isC := [0, 6, 1, 2, 3, 4, 5]) hD rfl rfl) hS
noncomputable def f_e_home_x9 (q1 : Int32) (q2 : Int32) (q10 : Int32) (q12 : Int32) (t0 : Int32) (t1 : Int32) (t2 : Int32) (t3 : Int32) (t4 : Int32) (fn : Nat → Int32) (p1 : Int32) (p2 : Int32) (fsh : Nat → Int32) (c_ : Int32) : Int32 × (Nat → Int32) × Int32 × Int32 × (Nat → Int32) := (if (f_e_hasCouple t0 t1 t2 t3 t4 c_) = 0 then ((-1000000001), fn, p1, p2, fsh) else (if (f_e_bridgeOf fn c_) = (-1) then ((-1000000003), fn, p1, p2, fsh) else (match (f_e_remember_x2 p1 p2 fsh fn) with | (o_9, o_10, o_11) => ((f_e_bridgeOf fn c_), (f_e_place fn c_ (-1)), o_9, o_10, o_11))))
def rm_e_home_x9 : Room := { frames := 3, cells := 0, slots := 0, locals := 103 }
set_option maxHeartbeats 4000000 in
set_option maxRecDepth 100000 in
theorem e_home_x9 {l : Launch} {D : va_G} {cI cZ : ClassId} {sz : Nat} (h x rd t d nw ps im is_ bk qr pr cv ft ta tb tc td te nwc sh shc : Nat) (q1 : Int32) (q2 : Int32) (q10 : Int32) (q12 : Int32) (t0 : Int32) (t1 : Int32) (t2 : Int32) (t3 : Int32) (t4 : Int32) (fn : Nat → Int32) (p1 : Int32) (p2 : Int32) (fsh : Nat → Int32) (c_ : Int32) : KI l yX9_home cX9_home 3 (some .int) rm_e_home_x9 D cI cZ [.ref h, .int c_] sz [(h, .inr (9, [.ref x, .int q1, .int q2, .ref rd, .ref t, .ref d, .ref nw, .ref ps, .ref im, .ref is_, .int q10, .ref bk, .int q12, .ref qr, .ref pr, .ref cv, .ref ft])), (t, .inr (8, [.int t0, .int t1, .int t2, .int t3, .int t4, .ref ta, .ref tb, .ref tc, .ref td, .ref te])), (nw, .inr (7, [.ref nwc])), (nwc, .inl (cI, 41, .inl fn)), (ps, .inr (2, [.ref sh, .int p1, .int p2])), (sh, .inr (6, [.int 20, .ref shc])), (shc, .inl (cI, 820, .inl fsh))] (fun (r : Int32) (u : (Nat → Int32) × Int32 × Int32 × (Nat → Int32)) => (r, u) = f_e_home_x9 q1 q2 q10 q12 t0 t1 t2 t3 t4 fn p1 p2 fsh c_) (fun (u : (Nat → Int32) × Int32 × Int32 × (Nat → Int32)) => [(h, .inr (9, [.ref x, .int q1, .int q2, .ref rd, .ref t, .ref d, .ref nw, .ref ps, .ref im, .ref is_, .int q10, .ref bk, .int q12, .ref qr, .ref pr, .ref cv, .ref ft])), (t, .inr (8, [.int t0, .int t1, .int t2, .int t3, .int t4, .ref ta, .ref tb, .ref tc, .ref td, .ref te])), (nw, .inr (7, [.ref nwc])), (nwc, .inl (cI, 41, .inl u.1)), (ps, .inr (2, [.ref sh, .int (u.2.1), .int (u.2.2.1)])), (sh, .inr (6, [.int 20, .ref shc])), (shc, .inl (cI, 820, .inl u.2.2.2))]) := by
  refine KI.go rfl (Nat.le_of_ble_eq_true rfl) ?_
  intro p e s m args below meth c ls A Q hx hb hml hts hown hin hP hK hD hS hA hN hl hret
  have hl : lv_has ls 3 [(0, .ref h), (1, .int c_)] := hl
  obtain ⟨RES, hE⟩ : ∃ xRES, f_e_home_x9 q1 q2 q10 q12 t0 t1 t2 t3 t4 fn p1 p2 fsh c_ = xRES := ⟨_, rfl⟩
  rw [hE] at hret
  rw [f_e_home_x9] at hE
  refine lv_aload_n hx hb dX9_home_0 rfl (lv_at hl 0 rfl) ?_
  refine va_get (D := D) (ci := 9) (v := .ref t) (C := RX9) (T := TX9) (N := 17) hx hb hts iX9 hown hK hP 0 rfl rfl 4 (Nat.le_of_ble_eq_true rfl) (hts _ wd_89) (fun _ h9 => h9) rfl dX9_home_1 ?_
  refine lv_iload_n hx hb dX9_home_4 rfl (lv_at hl 1 rfl) ?_
  refine cVi (wr := [(h, .inr (9, [.ref x, .int q1, .int q2, .ref rd, .ref t, .ref d, .ref nw, .ref ps, .ref im, .ref is_, .int q10, .ref bk, .int q12, .ref qr, .ref pr, .ref cv, .ref ft])), (nw, .inr (7, [.ref nwc])), (nwc, .inl (cI, 41, .inl fn)), (ps, .inr (2, [.ref sh, .int p1, .int p2])), (sh, .inr (6, [.int 20, .ref shc])), (shc, .inl (cI, 820, .inl fsh))]) (rest := []) (e_hasCouple t ta tb tc td te t0 t1 t2 t3 t4 c_) okV_X8_hasCouple wd_347 hx hb hml hown hts hK hP hD hS hA hN hl.1 [1] [0, 2, 3, 4, 5, 6] rfl rfl rfl rfl (of_decide_eq_true rfl) rfl rfl rfl (Nat.le_of_ble_eq_true rfl) (Nat.le_of_ble_eq_true rfl) (Nat.le_of_ble_eq_true rfl) (Nat.le_of_ble_eq_true rfl) (Nat.le_of_ble_eq_true rfl) dX9_home_5 (fun r_2 u_1 H locs hw_u_1 hP hD hS => ?_)
  replace hw_u_1 : r_2 = (f_e_hasCouple t0 t1 t2 t3 t4 c_) := hw_u_1
  rw [hw_u_1]
  clear hw_u_1
  have hP : va_P D classes [(h, .inr (9, [.ref x, .int q1, .int q2, .ref rd, .ref t, .ref d, .ref nw, .ref ps, .ref im, .ref is_, .int q10, .ref bk, .int q12, .ref qr, .ref pr, .ref cv, .ref ft])), (nw, .inr (7, [.ref nwc])), (nwc, .inl (cI, 41, .inl fn)), (ps, .inr (2, [.ref sh, .int p1, .int p2])), (sh, .inr (6, [.int 20, .ref shc])), (shc, .inl (cI, 820, .inl fsh)), (t, .inr (8, [.int t0, .int t1, .int t2, .int t3, .int t4, .ref ta, .ref tb, .ref tc, .ref td, .ref te]))] H := hP
  have hD : va_D A [(h, .inr (9, [.ref x, .int q1, .int q2, .ref rd, .ref t, .ref d, .ref nw, .ref ps, .ref im, .ref is_, .int q10, .ref bk, .int q12, .ref qr, .ref pr, .ref cv, .ref ft])), (nw, .inr (7, [.ref nwc])), (nwc, .inl (cI, 41, .inl fn)), (ps, .inr (2, [.ref sh, .int p1, .int p2])), (sh, .inr (6, [.int 20, .ref shc])), (shc, .inl (cI, 820, .inl fsh)), (t, .inr (8, [.int t0, .int t1, .int t2, .int t3, .int t4, .ref ta, .ref tb, .ref tc, .ref td, .ref te]))] := hD
  refine lv_if_ne (tgt := 14) hx hb dX9_home_8 rfl (fun c_3 => ?_) (fun c_3 => ?_)
  · rw [if_neg c_3] at hE
    refine lv_aload_n hx hb dX9_home_14 rfl (lv_at hl 0 rfl) ?_
    refine va_get (D := D) (ci := 9) (v := .ref nw) (C := RX9) (T := TX9) (N := 17) hx hb hts iX9 hown hK hP 0 rfl rfl 6 (Nat.le_of_ble_eq_true rfl) (hts _ wd_96) (fun _ h9 => h9) rfl dX9_home_15 ?_
    refine lv_iload_n hx hb dX9_home_18 rfl (lv_at hl 1 rfl) ?_
    refine cVi (wr := [(h, .inr (9, [.ref x, .int q1, .int q2, .ref rd, .ref t, .ref d, .ref nw, .ref ps, .ref im, .ref is_, .int q10, .ref bk, .int q12, .ref qr, .ref pr, .ref cv, .ref ft])), (ps, .inr (2, [.ref sh, .int p1, .int p2])), (sh, .inr (6, [.int 20, .ref shc])), (shc, .inl (cI, 820, .inl fsh)), (t, .inr (8, [.int t0, .int t1, .int t2, .int t3, .int t4, .ref ta, .ref tb, .ref tc, .ref td, .ref te]))]) (rest := []) (e_bridgeOf nw nwc fn c_) okV_X7_bridgeOf wd_352 hx hb hml hown hts hK hP hD hS hA hN hl.1 [1, 2] [0, 3, 4, 5, 6] rfl rfl rfl rfl (of_decide_eq_true rfl) rfl rfl rfl (Nat.le_of_ble_eq_true rfl) (Nat.le_of_ble_eq_true rfl) (Nat.le_of_ble_eq_true rfl) (Nat.le_of_ble_eq_true rfl) (Nat.le_of_ble_eq_true rfl) dX9_home_19 (fun r_5 u_4 H locs hw_u_4 hP hD hS => ?_)
    replace hw_u_4 : r_5 = (f_e_bridgeOf fn c_) := hw_u_4
    rw [hw_u_4]
    clear hw_u_4
    have hP : va_P D classes [(h, .inr (9, [.ref x, .int q1, .int q2, .ref rd, .ref t, .ref d, .ref nw, .ref ps, .ref im, .ref is_, .int q10, .ref bk, .int q12, .ref qr, .ref pr, .ref cv, .ref ft])), (ps, .inr (2, [.ref sh, .int p1, .int p2])), (sh, .inr (6, [.int 20, .ref shc])), (shc, .inl (cI, 820, .inl fsh)), (t, .inr (8, [.int t0, .int t1, .int t2, .int t3, .int t4, .ref ta, .ref tb, .ref tc, .ref td, .ref te])), (nw, .inr (7, [.ref nwc])), (nwc, .inl (cI, 41, .inl fn))] H := hP
    have hD : va_D A [(h, .inr (9, [.ref x, .int q1, .int q2, .ref rd, .ref t, .ref d, .ref nw, .ref ps, .ref im, .ref is_, .int q10, .ref bk, .int q12, .ref qr, .ref pr, .ref cv, .ref ft])), (ps, .inr (2, [.ref sh, .int p1, .int p2])), (sh, .inr (6, [.int 20, .ref shc])), (shc, .inl (cI, 820, .inl fsh)), (t, .inr (8, [.int t0, .int t1, .int t2, .int t3, .int t4, .ref ta, .ref tb, .ref tc, .ref td, .ref te])), (nw, .inr (7, [.ref nwc])), (nwc, .inl (cI, 41, .inl fn))] := hD
    refine lv_istore_n (lv' := [(2, .int (f_e_bridgeOf fn c_)), (0, .ref h), (1, .int c_)]) hx hb dX9_home_22 rfl hl (Nat.le_of_ble_eq_true rfl) rfl (fun ls hl => ?_)
    refine lv_iload_n hx hb dX9_home_23 rfl (lv_at hl 0 rfl) ?_
    refine lv_iconst (v := (-1)) hx hb dX9_home_24 rfl ?_
    refine lv_icmp_ne (tgt := 31) hx hb dX9_home_25 rfl (fun c_6 => ?_) (fun c_6 => ?_)
    · rw [if_neg c_6] at hE
      refine lv_aload_n hx hb dX9_home_31 rfl (lv_at hl 1 rfl) ?_
      refine va_get (D := D) (ci := 9) (v := .ref ps) (C := RX9) (T := TX9) (N := 17) hx hb hts iX9 hown hK hP 0 rfl rfl 7 (Nat.le_of_ble_eq_true rfl) (hts _ wd_102) (fun _ h9 => h9) rfl dX9_home_32 ?_
      refine lv_aload_n hx hb dX9_home_35 rfl (lv_at hl 1 rfl) ?_
      refine va_get (D := D) (ci := 9) (v := .ref nw) (C := RX9) (T := TX9) (N := 17) hx hb hts iX9 hown hK hP 0 rfl rfl 6 (Nat.le_of_ble_eq_true rfl) (hts _ wd_96) (fun _ h9 => h9) rfl dX9_home_36 ?_
      refine cVv (wr := [(h, .inr (9, [.ref x, .int q1, .int q2, .ref rd, .ref t, .ref d, .ref nw, .ref ps, .ref im, .ref is_, .int q10, .ref bk, .int q12, .ref qr, .ref pr, .ref cv, .ref ft])), (t, .inr (8, [.int t0, .int t1, .int t2, .int t3, .int t4, .ref ta, .ref tb, .ref tc, .ref td, .ref te]))]) (rest := []) (e_remember_x2 ps sh shc nw nwc p1 p2 fsh fn) okV_X2_remember wd_385 hx hb hml hown hts hK hP hD hS hA hN hl.1 [1, 2, 3, 5, 6] [0, 4] rfl rfl rfl rfl (of_decide_eq_true rfl) rfl rfl rfl (Nat.le_of_ble_eq_true rfl) (Nat.le_of_ble_eq_true rfl) (Nat.le_of_ble_eq_true rfl) (Nat.le_of_ble_eq_true rfl) (Nat.le_of_ble_eq_true rfl) dX9_home_39 (fun u_7 H locs hw_u_7 hP hD hS => ?_)
      obtain ⟨o_9, o_10, o_11⟩ := u_7
      replace hw_u_7 : (o_9, o_10, o_11) = (f_e_remember_x2 p1 p2 fsh fn) := hw_u_7
      rw [← hw_u_7] at hE
      replace hE : ((f_e_bridgeOf fn c_), (f_e_place fn c_ (-1)), o_9, o_10, o_11) = RES := hE
      have hP : va_P D classes [(h, .inr (9, [.ref x, .int q1, .int q2, .ref rd, .ref t, .ref d, .ref nw, .ref ps, .ref im, .ref is_, .int q10, .ref bk, .int q12, .ref qr, .ref pr, .ref cv, .ref ft])), (t, .inr (8, [.int t0, .int t1, .int t2, .int t3, .int t4, .ref ta, .ref tb, .ref tc, .ref td, .ref te])), (ps, .inr (2, [.ref sh, .int o_9, .int o_10])), (sh, .inr (6, [.int 20, .ref shc])), (shc, .inl (cI, 820, .inl o_11)), (nw, .inr (7, [.ref nwc])), (nwc, .inl (cI, 41, .inl fn))] H := hP
      have hD : va_D A [(h, .inr (9, [.ref x, .int q1, .int q2, .ref rd, .ref t, .ref d, .ref nw, .ref ps, .ref im, .ref is_, .int q10, .ref bk, .int q12, .ref qr, .ref pr, .ref cv, .ref ft])), (t, .inr (8, [.int t0, .int t1, .int t2, .int t3, .int t4, .ref ta, .ref tb, .ref tc, .ref td, .ref te])), (ps, .inr (2, [.ref sh, .int o_9, .int o_10])), (sh, .inr (6, [.int 20, .ref shc])), (shc, .inl (cI, 820, .inl o_11)), (nw, .inr (7, [.ref nwc])), (nwc, .inl (cI, 41, .inl fn))] := hD
      refine lv_aload_n hx hb dX9_home_42 rfl (lv_at hl 1 rfl) ?_
      refine va_get (D := D) (ci := 9) (v := .ref nw) (C := RX9) (T := TX9) (N := 17) hx hb hts iX9 hown hK hP 0 rfl rfl 6 (Nat.le_of_ble_eq_true rfl) (hts _ wd_96) (fun _ h9 => h9) rfl dX9_home_43 ?_
      refine lv_iload_n hx hb dX9_home_46 rfl (lv_at hl 2 rfl) ?_
      refine lv_iconst (v := (-1)) hx hb dX9_home_47 rfl ?_
      refine cVv (wr := [(h, .inr (9, [.ref x, .int q1, .int q2, .ref rd, .ref t, .ref d, .ref nw, .ref ps, .ref im, .ref is_, .int q10, .ref bk, .int q12, .ref qr, .ref pr, .ref cv, .ref ft])), (t, .inr (8, [.int t0, .int t1, .int t2, .int t3, .int t4, .ref ta, .ref tb, .ref tc, .ref td, .ref te])), (ps, .inr (2, [.ref sh, .int o_9, .int o_10])), (sh, .inr (6, [.int 20, .ref shc])), (shc, .inl (cI, 820, .inl o_11))]) (rest := []) (e_place nw nwc fn c_ (-1)) okV_X7_place wd_389 hx hb hml hown hts hK hP hD hS hA hN hl.1 [5, 6] [0, 1, 2, 3, 4] rfl rfl rfl rfl (of_decide_eq_true rfl) rfl rfl rfl (Nat.le_of_ble_eq_true rfl) (Nat.le_of_ble_eq_true rfl) (Nat.le_of_ble_eq_true rfl) (Nat.le_of_ble_eq_true rfl) (Nat.le_of_ble_eq_true rfl) dX9_home_48 (fun u_12 H locs hw_u_12 hP hD hS => ?_)
      replace hw_u_12 : u_12 = (f_e_place fn c_ (-1)) := hw_u_12
      subst hw_u_12
      have hP : va_P D classes [(h, .inr (9, [.ref x, .int q1, .int q2, .ref rd, .ref t, .ref d, .ref nw, .ref ps, .ref im, .ref is_, .int q10, .ref bk, .int q12, .ref qr, .ref pr, .ref cv, .ref ft])), (t, .inr (8, [.int t0, .int t1, .int t2, .int t3, .int t4, .ref ta, .ref tb, .ref tc, .ref td, .ref te])), (ps, .inr (2, [.ref sh, .int o_9, .int o_10])), (sh, .inr (6, [.int 20, .ref shc])), (shc, .inl (cI, 820, .inl o_11)), (nw, .inr (7, [.ref nwc])), (nwc, .inl (cI, 41, .inl (f_e_place fn c_ (-1))))] H := hP
      have hD : va_D A [(h, .inr (9, [.ref x, .int q1, .int q2, .ref rd, .ref t, .ref d, .ref nw, .ref ps, .ref im, .ref is_, .int q10, .ref bk, .int q12, .ref qr, .ref pr, .ref cv, .ref ft])), (t, .inr (8, [.int t0, .int t1, .int t2, .int t3, .int t4, .ref ta, .ref tb, .ref tc, .ref td, .ref te])), (ps, .inr (2, [.ref sh, .int o_9, .int o_10])), (sh, .inr (6, [.int 20, .ref shc])), (shc, .inl (cI, 820, .inl o_11)), (nw, .inr (7, [.ref nwc])), (nwc, .inl (cI, 41, .inl (f_e_place fn c_ (-1))))] := hD
      refine lv_iload_n hx hb dX9_home_51 rfl (lv_at hl 0 rfl) ?_
      exact hret (f_e_bridgeOf fn c_) ((f_e_place fn c_ (-1)), o_9, o_10, o_11) _ _ _ _ dX9_home_52 rfl hE (cutP (isC := [0, 1, 5, 6, 2, 3, 4]) hP rfl) (cutD (isC := [0, 1, 5, 6, 2, 3, 4]) hD rfl rfl) hS
    · rw [if_pos c_6] at hE
      refine lv_ldc (v := (-1000000003)) hx hb hown (hts _ wd_384) dX9_home_28 ?_
      exact hret (-1000000003) (fn, p1, p2, fsh) _ _ _ _ dX9_home_30 rfl hE (cutP (isC := [0, 4, 5, 6, 1, 2, 3]) hP rfl) (cutD (isC := [0, 4, 5, 6, 1, 2, 3]) hD rfl rfl) hS
  · rw [if_pos c_3] at hE
    refine lv_ldc (v := (-1000000001)) hx hb hown (hts _ wd_346) dX9_home_11 ?_
    exact hret (-1000000001) (fn, p1, p2, fsh) _ _ _ _ dX9_home_13 rfl hE (cutP (isC := [0, 6, 1, 2, 3, 4, 5]) hP rfl) (cutD (isC := [0, 6, 1, 2, 3, 4, 5]) hD rfl rfl) hS
noncomputable def f_e_grieve_x9 (q1 : Int32) (q2 : Int32) (q10 : Int32) (q12 : Int32) (t0 : Int32) (t1 : Int32) (t2 : Int32) (t3 : Int32) (t4 : Int32) (fn : Nat → Int32) (p1 : Int32) (p2 : Int32) (fsh : Nat → Int32) (c_ : Int32) (v_ : Int32) : Int32 × (Nat → Int32) × Int32 × Int32 × (Nat → Int32) := (if (f_e_hasCouple t0 t1 t2 t3 t4 c_) = 0 then ((-1000000001), fn, p1, p2, fsh) else (if v_ < 1 then ((-1000000002), fn, p1, p2, fsh) else (if v_ ≤ 99 then (if (f_e_isReconciled fn c_) = 0 then (match (f_e_remember_x2 p1 p2 fsh fn) with | (o_11, o_12, o_13) => ((f_e_grievanceOf (f_e_embitter fn c_ v_) c_), (f_e_embitter fn c_ v_), o_11, o_12, o_13)) else ((-1000000003), fn, p1, p2, fsh)) else ((-1000000002), fn, p1, p2, fsh))))
def rm_e_grieve_x9 : Room := { frames := 3, cells := 0, slots := 0, locals := 103 }
set_option maxHeartbeats 4000000 in
set_option maxRecDepth 100000 in
theorem e_grieve_x9 {l : Launch} {D : va_G} {cI cZ : ClassId} {sz : Nat} (h x rd t d nw ps im is_ bk qr pr cv ft ta tb tc td te nwc sh shc : Nat) (q1 : Int32) (q2 : Int32) (q10 : Int32) (q12 : Int32) (t0 : Int32) (t1 : Int32) (t2 : Int32) (t3 : Int32) (t4 : Int32) (fn : Nat → Int32) (p1 : Int32) (p2 : Int32) (fsh : Nat → Int32) (c_ : Int32) (v_ : Int32) : KI l yX9_grieve cX9_grieve 3 (some .int) rm_e_grieve_x9 D cI cZ [.ref h, .int c_, .int v_] sz [(h, .inr (9, [.ref x, .int q1, .int q2, .ref rd, .ref t, .ref d, .ref nw, .ref ps, .ref im, .ref is_, .int q10, .ref bk, .int q12, .ref qr, .ref pr, .ref cv, .ref ft])), (t, .inr (8, [.int t0, .int t1, .int t2, .int t3, .int t4, .ref ta, .ref tb, .ref tc, .ref td, .ref te])), (nw, .inr (7, [.ref nwc])), (nwc, .inl (cI, 41, .inl fn)), (ps, .inr (2, [.ref sh, .int p1, .int p2])), (sh, .inr (6, [.int 20, .ref shc])), (shc, .inl (cI, 820, .inl fsh))] (fun (r : Int32) (u : (Nat → Int32) × Int32 × Int32 × (Nat → Int32)) => (r, u) = f_e_grieve_x9 q1 q2 q10 q12 t0 t1 t2 t3 t4 fn p1 p2 fsh c_ v_) (fun (u : (Nat → Int32) × Int32 × Int32 × (Nat → Int32)) => [(h, .inr (9, [.ref x, .int q1, .int q2, .ref rd, .ref t, .ref d, .ref nw, .ref ps, .ref im, .ref is_, .int q10, .ref bk, .int q12, .ref qr, .ref pr, .ref cv, .ref ft])), (t, .inr (8, [.int t0, .int t1, .int t2, .int t3, .int t4, .ref ta, .ref tb, .ref tc, .ref td, .ref te])), (nw, .inr (7, [.ref nwc])), (nwc, .inl (cI, 41, .inl u.1)), (ps, .inr (2, [.ref sh, .int (u.2.1), .int (u.2.2.1)])), (sh, .inr (6, [.int 20, .ref shc])), (shc, .inl (cI, 820, .inl u.2.2.2))]) := by
  refine KI.go rfl (Nat.le_of_ble_eq_true rfl) ?_
  intro p e s m args below meth c ls A Q hx hb hml hts hown hin hP hK hD hS hA hN hl hret
  have hl : lv_has ls 3 [(0, .ref h), (1, .int c_), (2, .int v_)] := hl
  obtain ⟨RES, hE⟩ : ∃ xRES, f_e_grieve_x9 q1 q2 q10 q12 t0 t1 t2 t3 t4 fn p1 p2 fsh c_ v_ = xRES := ⟨_, rfl⟩
  rw [hE] at hret
  rw [f_e_grieve_x9] at hE
  refine lv_aload_n hx hb dX9_grieve_0 rfl (lv_at hl 0 rfl) ?_
  refine va_get (D := D) (ci := 9) (v := .ref t) (C := RX9) (T := TX9) (N := 17) hx hb hts iX9 hown hK hP 0 rfl rfl 4 (Nat.le_of_ble_eq_true rfl) (hts _ wd_89) (fun _ h9 => h9) rfl dX9_grieve_1 ?_
  refine lv_iload_n hx hb dX9_grieve_4 rfl (lv_at hl 1 rfl) ?_
  refine cVi (wr := [(h, .inr (9, [.ref x, .int q1, .int q2, .ref rd, .ref t, .ref d, .ref nw, .ref ps, .ref im, .ref is_, .int q10, .ref bk, .int q12, .ref qr, .ref pr, .ref cv, .ref ft])), (nw, .inr (7, [.ref nwc])), (nwc, .inl (cI, 41, .inl fn)), (ps, .inr (2, [.ref sh, .int p1, .int p2])), (sh, .inr (6, [.int 20, .ref shc])), (shc, .inl (cI, 820, .inl fsh))]) (rest := []) (e_hasCouple t ta tb tc td te t0 t1 t2 t3 t4 c_) okV_X8_hasCouple wd_347 hx hb hml hown hts hK hP hD hS hA hN hl.1 [1] [0, 2, 3, 4, 5, 6] rfl rfl rfl rfl (of_decide_eq_true rfl) rfl rfl rfl (Nat.le_of_ble_eq_true rfl) (Nat.le_of_ble_eq_true rfl) (Nat.le_of_ble_eq_true rfl) (Nat.le_of_ble_eq_true rfl) (Nat.le_of_ble_eq_true rfl) dX9_grieve_5 (fun r_2 u_1 H locs hw_u_1 hP hD hS => ?_)
  replace hw_u_1 : r_2 = (f_e_hasCouple t0 t1 t2 t3 t4 c_) := hw_u_1
  rw [hw_u_1]
  clear hw_u_1
  have hP : va_P D classes [(h, .inr (9, [.ref x, .int q1, .int q2, .ref rd, .ref t, .ref d, .ref nw, .ref ps, .ref im, .ref is_, .int q10, .ref bk, .int q12, .ref qr, .ref pr, .ref cv, .ref ft])), (nw, .inr (7, [.ref nwc])), (nwc, .inl (cI, 41, .inl fn)), (ps, .inr (2, [.ref sh, .int p1, .int p2])), (sh, .inr (6, [.int 20, .ref shc])), (shc, .inl (cI, 820, .inl fsh)), (t, .inr (8, [.int t0, .int t1, .int t2, .int t3, .int t4, .ref ta, .ref tb, .ref tc, .ref td, .ref te]))] H := hP
  have hD : va_D A [(h, .inr (9, [.ref x, .int q1, .int q2, .ref rd, .ref t, .ref d, .ref nw, .ref ps, .ref im, .ref is_, .int q10, .ref bk, .int q12, .ref qr, .ref pr, .ref cv, .ref ft])), (nw, .inr (7, [.ref nwc])), (nwc, .inl (cI, 41, .inl fn)), (ps, .inr (2, [.ref sh, .int p1, .int p2])), (sh, .inr (6, [.int 20, .ref shc])), (shc, .inl (cI, 820, .inl fsh)), (t, .inr (8, [.int t0, .int t1, .int t2, .int t3, .int t4, .ref ta, .ref tb, .ref tc, .ref td, .ref te]))] := hD
  refine lv_if_ne (tgt := 14) hx hb dX9_grieve_8 rfl (fun c_3 => ?_) (fun c_3 => ?_)
  · rw [if_neg c_3] at hE
    refine lv_iload_n hx hb dX9_grieve_14 rfl (lv_at hl 2 rfl) ?_
    refine lv_iconst (v := 1) hx hb dX9_grieve_15 rfl ?_
    refine lv_icmp_lt (tgt := 25) hx hb dX9_grieve_16 rfl (fun c_4 => ?_) (fun c_4 => ?_)
    · rw [if_pos c_4] at hE
      refine lv_ldc (v := (-1000000002)) hx hb hown (hts _ wd_339) dX9_grieve_25 ?_
      exact hret (-1000000002) (fn, p1, p2, fsh) _ _ _ _ dX9_grieve_27 rfl hE (cutP (isC := [0, 6, 1, 2, 3, 4, 5]) hP rfl) (cutD (isC := [0, 6, 1, 2, 3, 4, 5]) hD rfl rfl) hS
    · rw [if_neg c_4] at hE
      refine lv_iload_n hx hb dX9_grieve_19 rfl (lv_at hl 2 rfl) ?_
      refine lv_bipush (v := 99) hx hb dX9_grieve_20 rfl ?_
      refine lv_icmp_le (tgt := 28) hx hb dX9_grieve_22 rfl (fun c_5 => ?_) (fun c_5 => ?_)
      · rw [if_pos c_5] at hE
        refine lv_aload_n hx hb dX9_grieve_28 rfl (lv_at hl 0 rfl) ?_
        refine va_get (D := D) (ci := 9) (v := .ref nw) (C := RX9) (T := TX9) (N := 17) hx hb hts iX9 hown hK hP 0 rfl rfl 6 (Nat.le_of_ble_eq_true rfl) (hts _ wd_96) (fun _ h9 => h9) rfl dX9_grieve_29 ?_
        refine lv_iload_n hx hb dX9_grieve_32 rfl (lv_at hl 1 rfl) ?_
        refine cVi (wr := [(h, .inr (9, [.ref x, .int q1, .int q2, .ref rd, .ref t, .ref d, .ref nw, .ref ps, .ref im, .ref is_, .int q10, .ref bk, .int q12, .ref qr, .ref pr, .ref cv, .ref ft])), (ps, .inr (2, [.ref sh, .int p1, .int p2])), (sh, .inr (6, [.int 20, .ref shc])), (shc, .inl (cI, 820, .inl fsh)), (t, .inr (8, [.int t0, .int t1, .int t2, .int t3, .int t4, .ref ta, .ref tb, .ref tc, .ref td, .ref te]))]) (rest := []) (e_isReconciled nw nwc fn c_) okV_X7_isReconciled wd_265 hx hb hml hown hts hK hP hD hS hA hN hl.1 [1, 2] [0, 3, 4, 5, 6] rfl rfl rfl rfl (of_decide_eq_true rfl) rfl rfl rfl (Nat.le_of_ble_eq_true rfl) (Nat.le_of_ble_eq_true rfl) (Nat.le_of_ble_eq_true rfl) (Nat.le_of_ble_eq_true rfl) (Nat.le_of_ble_eq_true rfl) dX9_grieve_33 (fun r_7 u_6 H locs hw_u_6 hP hD hS => ?_)
        replace hw_u_6 : r_7 = (f_e_isReconciled fn c_) := hw_u_6
        rw [hw_u_6]
        clear hw_u_6
        have hP : va_P D classes [(h, .inr (9, [.ref x, .int q1, .int q2, .ref rd, .ref t, .ref d, .ref nw, .ref ps, .ref im, .ref is_, .int q10, .ref bk, .int q12, .ref qr, .ref pr, .ref cv, .ref ft])), (ps, .inr (2, [.ref sh, .int p1, .int p2])), (sh, .inr (6, [.int 20, .ref shc])), (shc, .inl (cI, 820, .inl fsh)), (t, .inr (8, [.int t0, .int t1, .int t2, .int t3, .int t4, .ref ta, .ref tb, .ref tc, .ref td, .ref te])), (nw, .inr (7, [.ref nwc])), (nwc, .inl (cI, 41, .inl fn))] H := hP
        have hD : va_D A [(h, .inr (9, [.ref x, .int q1, .int q2, .ref rd, .ref t, .ref d, .ref nw, .ref ps, .ref im, .ref is_, .int q10, .ref bk, .int q12, .ref qr, .ref pr, .ref cv, .ref ft])), (ps, .inr (2, [.ref sh, .int p1, .int p2])), (sh, .inr (6, [.int 20, .ref shc])), (shc, .inl (cI, 820, .inl fsh)), (t, .inr (8, [.int t0, .int t1, .int t2, .int t3, .int t4, .ref ta, .ref tb, .ref tc, .ref td, .ref te])), (nw, .inr (7, [.ref nwc])), (nwc, .inl (cI, 41, .inl fn))] := hD
        refine lv_if_eq (tgt := 42) hx hb dX9_grieve_36 rfl (fun c_8 => ?_) (fun c_8 => ?_)
        · rw [if_pos c_8] at hE
          refine lv_aload_n hx hb dX9_grieve_42 rfl (lv_at hl 0 rfl) ?_
          refine va_get (D := D) (ci := 9) (v := .ref ps) (C := RX9) (T := TX9) (N := 17) hx hb hts iX9 hown hK hP 0 rfl rfl 7 (Nat.le_of_ble_eq_true rfl) (hts _ wd_102) (fun _ h9 => h9) rfl dX9_grieve_43 ?_
          refine lv_aload_n hx hb dX9_grieve_46 rfl (lv_at hl 0 rfl) ?_
          refine va_get (D := D) (ci := 9) (v := .ref nw) (C := RX9) (T := TX9) (N := 17) hx hb hts iX9 hown hK hP 0 rfl rfl 6 (Nat.le_of_ble_eq_true rfl) (hts _ wd_96) (fun _ h9 => h9) rfl dX9_grieve_47 ?_
          refine cVv (wr := [(h, .inr (9, [.ref x, .int q1, .int q2, .ref rd, .ref t, .ref d, .ref nw, .ref ps, .ref im, .ref is_, .int q10, .ref bk, .int q12, .ref qr, .ref pr, .ref cv, .ref ft])), (t, .inr (8, [.int t0, .int t1, .int t2, .int t3, .int t4, .ref ta, .ref tb, .ref tc, .ref td, .ref te]))]) (rest := []) (e_remember_x2 ps sh shc nw nwc p1 p2 fsh fn) okV_X2_remember wd_385 hx hb hml hown hts hK hP hD hS hA hN hl.1 [1, 2, 3, 5, 6] [0, 4] rfl rfl rfl rfl (of_decide_eq_true rfl) rfl rfl rfl (Nat.le_of_ble_eq_true rfl) (Nat.le_of_ble_eq_true rfl) (Nat.le_of_ble_eq_true rfl) (Nat.le_of_ble_eq_true rfl) (Nat.le_of_ble_eq_true rfl) dX9_grieve_50 (fun u_9 H locs hw_u_9 hP hD hS => ?_)
          obtain ⟨o_11, o_12, o_13⟩ := u_9
          replace hw_u_9 : (o_11, o_12, o_13) = (f_e_remember_x2 p1 p2 fsh fn) := hw_u_9
          rw [← hw_u_9] at hE
          replace hE : ((f_e_grievanceOf (f_e_embitter fn c_ v_) c_), (f_e_embitter fn c_ v_), o_11, o_12, o_13) = RES := hE
          have hP : va_P D classes [(h, .inr (9, [.ref x, .int q1, .int q2, .ref rd, .ref t, .ref d, .ref nw, .ref ps, .ref im, .ref is_, .int q10, .ref bk, .int q12, .ref qr, .ref pr, .ref cv, .ref ft])), (t, .inr (8, [.int t0, .int t1, .int t2, .int t3, .int t4, .ref ta, .ref tb, .ref tc, .ref td, .ref te])), (ps, .inr (2, [.ref sh, .int o_11, .int o_12])), (sh, .inr (6, [.int 20, .ref shc])), (shc, .inl (cI, 820, .inl o_13)), (nw, .inr (7, [.ref nwc])), (nwc, .inl (cI, 41, .inl fn))] H := hP
          have hD : va_D A [(h, .inr (9, [.ref x, .int q1, .int q2, .ref rd, .ref t, .ref d, .ref nw, .ref ps, .ref im, .ref is_, .int q10, .ref bk, .int q12, .ref qr, .ref pr, .ref cv, .ref ft])), (t, .inr (8, [.int t0, .int t1, .int t2, .int t3, .int t4, .ref ta, .ref tb, .ref tc, .ref td, .ref te])), (ps, .inr (2, [.ref sh, .int o_11, .int o_12])), (sh, .inr (6, [.int 20, .ref shc])), (shc, .inl (cI, 820, .inl o_13)), (nw, .inr (7, [.ref nwc])), (nwc, .inl (cI, 41, .inl fn))] := hD
          refine lv_aload_n hx hb dX9_grieve_53 rfl (lv_at hl 0 rfl) ?_
          refine va_get (D := D) (ci := 9) (v := .ref nw) (C := RX9) (T := TX9) (N := 17) hx hb hts iX9 hown hK hP 0 rfl rfl 6 (Nat.le_of_ble_eq_true rfl) (hts _ wd_96) (fun _ h9 => h9) rfl dX9_grieve_54 ?_
          refine lv_iload_n hx hb dX9_grieve_57 rfl (lv_at hl 1 rfl) ?_
          refine lv_iload_n hx hb dX9_grieve_58 rfl (lv_at hl 2 rfl) ?_
          refine cVv (wr := [(h, .inr (9, [.ref x, .int q1, .int q2, .ref rd, .ref t, .ref d, .ref nw, .ref ps, .ref im, .ref is_, .int q10, .ref bk, .int q12, .ref qr, .ref pr, .ref cv, .ref ft])), (t, .inr (8, [.int t0, .int t1, .int t2, .int t3, .int t4, .ref ta, .ref tb, .ref tc, .ref td, .ref te])), (ps, .inr (2, [.ref sh, .int o_11, .int o_12])), (sh, .inr (6, [.int 20, .ref shc])), (shc, .inl (cI, 820, .inl o_13))]) (rest := []) (e_embitter nw nwc fn c_ v_) okV_X7_embitter wd_394 hx hb hml hown hts hK hP hD hS hA hN hl.1 [5, 6] [0, 1, 2, 3, 4] rfl rfl rfl rfl (of_decide_eq_true rfl) rfl rfl rfl (Nat.le_of_ble_eq_true rfl) (Nat.le_of_ble_eq_true rfl) (Nat.le_of_ble_eq_true rfl) (Nat.le_of_ble_eq_true rfl) (Nat.le_of_ble_eq_true rfl) dX9_grieve_59 (fun u_14 H locs hw_u_14 hP hD hS => ?_)
          replace hw_u_14 : u_14 = (f_e_embitter fn c_ v_) := hw_u_14
          subst hw_u_14
          have hP : va_P D classes [(h, .inr (9, [.ref x, .int q1, .int q2, .ref rd, .ref t, .ref d, .ref nw, .ref ps, .ref im, .ref is_, .int q10, .ref bk, .int q12, .ref qr, .ref pr, .ref cv, .ref ft])), (t, .inr (8, [.int t0, .int t1, .int t2, .int t3, .int t4, .ref ta, .ref tb, .ref tc, .ref td, .ref te])), (ps, .inr (2, [.ref sh, .int o_11, .int o_12])), (sh, .inr (6, [.int 20, .ref shc])), (shc, .inl (cI, 820, .inl o_13)), (nw, .inr (7, [.ref nwc])), (nwc, .inl (cI, 41, .inl (f_e_embitter fn c_ v_)))] H := hP
          have hD : va_D A [(h, .inr (9, [.ref x, .int q1, .int q2, .ref rd, .ref t, .ref d, .ref nw, .ref ps, .ref im, .ref is_, .int q10, .ref bk, .int q12, .ref qr, .ref pr, .ref cv, .ref ft])), (t, .inr (8, [.int t0, .int t1, .int t2, .int t3, .int t4, .ref ta, .ref tb, .ref tc, .ref td, .ref te])), (ps, .inr (2, [.ref sh, .int o_11, .int o_12])), (sh, .inr (6, [.int 20, .ref shc])), (shc, .inl (cI, 820, .inl o_13)), (nw, .inr (7, [.ref nwc])), (nwc, .inl (cI, 41, .inl (f_e_embitter fn c_ v_)))] := hD
          refine lv_aload_n hx hb dX9_grieve_62 rfl (lv_at hl 0 rfl) ?_
          refine va_get (D := D) (ci := 9) (v := .ref nw) (C := RX9) (T := TX9) (N := 17) hx hb hts iX9 hown hK hP 0 rfl rfl 6 (Nat.le_of_ble_eq_true rfl) (hts _ wd_96) (fun _ h9 => h9) rfl dX9_grieve_63 ?_
          refine lv_iload_n hx hb dX9_grieve_66 rfl (lv_at hl 1 rfl) ?_
          refine cVi (wr := [(h, .inr (9, [.ref x, .int q1, .int q2, .ref rd, .ref t, .ref d, .ref nw, .ref ps, .ref im, .ref is_, .int q10, .ref bk, .int q12, .ref qr, .ref pr, .ref cv, .ref ft])), (t, .inr (8, [.int t0, .int t1, .int t2, .int t3, .int t4, .ref ta, .ref tb, .ref tc, .ref td, .ref te])), (ps, .inr (2, [.ref sh, .int o_11, .int o_12])), (sh, .inr (6, [.int 20, .ref shc])), (shc, .inl (cI, 820, .inl o_13))]) (rest := []) (e_grievanceOf nw nwc (f_e_embitter fn c_ v_) c_) okV_X7_grievanceOf wd_251 hx hb hml hown hts hK hP hD hS hA hN hl.1 [5, 6] [0, 1, 2, 3, 4] rfl rfl rfl rfl (of_decide_eq_true rfl) rfl rfl rfl (Nat.le_of_ble_eq_true rfl) (Nat.le_of_ble_eq_true rfl) (Nat.le_of_ble_eq_true rfl) (Nat.le_of_ble_eq_true rfl) (Nat.le_of_ble_eq_true rfl) dX9_grieve_67 (fun r_17 u_16 H locs hw_u_16 hP hD hS => ?_)
          replace hw_u_16 : r_17 = (f_e_grievanceOf (f_e_embitter fn c_ v_) c_) := hw_u_16
          rw [hw_u_16]
          clear hw_u_16
          have hP : va_P D classes [(h, .inr (9, [.ref x, .int q1, .int q2, .ref rd, .ref t, .ref d, .ref nw, .ref ps, .ref im, .ref is_, .int q10, .ref bk, .int q12, .ref qr, .ref pr, .ref cv, .ref ft])), (t, .inr (8, [.int t0, .int t1, .int t2, .int t3, .int t4, .ref ta, .ref tb, .ref tc, .ref td, .ref te])), (ps, .inr (2, [.ref sh, .int o_11, .int o_12])), (sh, .inr (6, [.int 20, .ref shc])), (shc, .inl (cI, 820, .inl o_13)), (nw, .inr (7, [.ref nwc])), (nwc, .inl (cI, 41, .inl (f_e_embitter fn c_ v_)))] H := hP
          have hD : va_D A [(h, .inr (9, [.ref x, .int q1, .int q2, .ref rd, .ref t, .ref d, .ref nw, .ref ps, .ref im, .ref is_, .int q10, .ref bk, .int q12, .ref qr, .ref pr, .ref cv, .ref ft])), (t, .inr (8, [.int t0, .int t1, .int t2, .int t3, .int t4, .ref ta, .ref tb, .ref tc, .ref td, .ref te])), (ps, .inr (2, [.ref sh, .int o_11, .int o_12])), (sh, .inr (6, [.int 20, .ref shc])), (shc, .inl (cI, 820, .inl o_13)), (nw, .inr (7, [.ref nwc])), (nwc, .inl (cI, 41, .inl (f_e_embitter fn c_ v_)))] := hD
          exact hret (f_e_grievanceOf (f_e_embitter fn c_ v_) c_) ((f_e_embitter fn c_ v_), o_11, o_12, o_13) _ _ _ _ dX9_grieve_70 rfl hE (cutP (isC := [0, 1, 5, 6, 2, 3, 4]) hP rfl) (cutD (isC := [0, 1, 5, 6, 2, 3, 4]) hD rfl rfl) hS
        · rw [if_neg c_8] at hE
          refine lv_ldc (v := (-1000000003)) hx hb hown (hts _ wd_384) dX9_grieve_39 ?_
          exact hret (-1000000003) (fn, p1, p2, fsh) _ _ _ _ dX9_grieve_41 rfl hE (cutP (isC := [0, 4, 5, 6, 1, 2, 3]) hP rfl) (cutD (isC := [0, 4, 5, 6, 1, 2, 3]) hD rfl rfl) hS
      · rw [if_neg c_5] at hE
        refine lv_ldc (v := (-1000000002)) hx hb hown (hts _ wd_339) dX9_grieve_25 ?_
        exact hret (-1000000002) (fn, p1, p2, fsh) _ _ _ _ dX9_grieve_27 rfl hE (cutP (isC := [0, 6, 1, 2, 3, 4, 5]) hP rfl) (cutD (isC := [0, 6, 1, 2, 3, 4, 5]) hD rfl rfl) hS
  · rw [if_pos c_3] at hE
    refine lv_ldc (v := (-1000000001)) hx hb hown (hts _ wd_346) dX9_grieve_11 ?_
    exact hret (-1000000001) (fn, p1, p2, fsh) _ _ _ _ dX9_grieve_13 rfl hE (cutP (isC := [0, 6, 1, 2, 3, 4, 5]) hP rfl) (cutD (isC := [0, 6, 1, 2, 3, 4, 5]) hD rfl rfl) hS
noncomputable def f_e_drift_x9_55 (q1 : Int32) (q2 : Int32) (q10 : Int32) (q12 : Int32) (t0 : Int32) (t1 : Int32) (t2 : Int32) (t3 : Int32) (t4 : Int32) (fn : Nat → Int32) (p1 : Int32) (p2 : Int32) (fsh : Nat → Int32) (n_ : Int32) (n : Nat) : Int32 → Int32 → (Nat → Int32) → Int32 → Int32 → (Nat → Int32) → Int32 × Int32 × (Nat → Int32) × Int32 × Int32 × (Nat → Int32) := Nat.rec (motive := fun _ => Int32 → Int32 → (Nat → Int32) → Int32 → Int32 → (Nat → Int32) → Int32 × Int32 × (Nat → Int32) × Int32 × Int32 × (Nat → Int32)) (fun w_12l2 w_12m0 w_12m1 w_12m2 w_12m3 w_12m4 => (w_12l2, w_12m0, w_12m1, w_12m2, w_12m3, w_12m4)) (fun n ih w_12l2 w_12m0 w_12m1 w_12m2 w_12m3 w_12m4 => (if n_ ≤ w_12l2 then (w_12l2, w_12m0, w_12m1, w_12m2, w_12m3, w_12m4) else (match (f_e_draw_x9 q1 q2 q10 w_12m0 t2) with | (r_17, u_16) => (match (f_e_draw_x9 q1 q2 q10 u_16 10) with | (r_19, u_18) => (if (f_e_isReconciled w_12m1 r_17) = 0 then (ih (w_12l2 + 1) u_18 (f_e_spendMinutes (f_e_embitter w_12m1 r_17 r_19) 1) w_12m2 w_12m3 w_12m4) else (ih (w_12l2 + 1) u_18 (f_e_spendMinutes w_12m1 1) w_12m2 w_12m3 w_12m4)))))) n
theorem f_e_drift_x9_55_s (q1 : Int32) (q2 : Int32) (q10 : Int32) (q12 : Int32) (t0 : Int32) (t1 : Int32) (t2 : Int32) (t3 : Int32) (t4 : Int32) (fn : Nat → Int32) (p1 : Int32) (p2 : Int32) (fsh : Nat → Int32) (n_ : Int32) (n : Nat) (w_12l2 : Int32) (w_12m0 : Int32) (w_12m1 : (Nat → Int32)) (w_12m2 : Int32) (w_12m3 : Int32) (w_12m4 : (Nat → Int32)) : f_e_drift_x9_55 q1 q2 q10 q12 t0 t1 t2 t3 t4 fn p1 p2 fsh n_ (n + 1) w_12l2 w_12m0 w_12m1 w_12m2 w_12m3 w_12m4 = (if n_ ≤ w_12l2 then (w_12l2, w_12m0, w_12m1, w_12m2, w_12m3, w_12m4) else (match (f_e_draw_x9 q1 q2 q10 w_12m0 t2) with | (r_17, u_16) => (match (f_e_draw_x9 q1 q2 q10 u_16 10) with | (r_19, u_18) => (if (f_e_isReconciled w_12m1 r_17) = 0 then (f_e_drift_x9_55 q1 q2 q10 q12 t0 t1 t2 t3 t4 fn p1 p2 fsh n_ n (w_12l2 + 1) u_18 (f_e_spendMinutes (f_e_embitter w_12m1 r_17 r_19) 1) w_12m2 w_12m3 w_12m4) else (f_e_drift_x9_55 q1 q2 q10 q12 t0 t1 t2 t3 t4 fn p1 p2 fsh n_ n (w_12l2 + 1) u_18 (f_e_spendMinutes w_12m1 1) w_12m2 w_12m3 w_12m4))))) := rfl
noncomputable def f_e_drift_x9 (q1 : Int32) (q2 : Int32) (q10 : Int32) (q12 : Int32) (t0 : Int32) (t1 : Int32) (t2 : Int32) (t3 : Int32) (t4 : Int32) (fn : Nat → Int32) (p1 : Int32) (p2 : Int32) (fsh : Nat → Int32) (n_ : Int32) : Int32 × Int32 × (Nat → Int32) × Int32 × Int32 × (Nat → Int32) := (if n_ < 1 then ((-1000000002), q12, fn, p1, p2, fsh) else (if n_ ≤ 99 then (if t2 = 0 then ((-1000000003), q12, fn, p1, p2, fsh) else (if (f_e_minutes fn) ≤ 90000 then (match (f_e_remember_x2 p1 p2 fsh fn) with | (o_9, o_10, o_11) => (match (f_e_drift_x9_55 q1 q2 q10 q12 t0 t1 t2 t3 t4 fn p1 p2 fsh n_ (((n_ : Int32).toInt - (0 : Int32).toInt).toNat + 1) 0 q12 fn o_9 o_10 o_11) with | (w_12l2, w_12m0, w_12m1, w_12m2, w_12m3, w_12m4) => ((f_e_minutes w_12m1), w_12m0, w_12m1, w_12m2, w_12m3, w_12m4))) else ((-1000000004), q12, fn, p1, p2, fsh))) else ((-1000000002), q12, fn, p1, p2, fsh)))
def rm_e_drift_x9 : Room := { frames := 3, cells := 0, slots := 0, locals := 103 }
set_option maxHeartbeats 4000000 in
set_option maxRecDepth 100000 in
theorem e_drift_x9 {l : Launch} {D : va_G} {cI cZ : ClassId} {sz : Nat} (h x rd t d nw ps im is_ bk qr pr cv ft ta tb tc td te nwc sh shc : Nat) (q1 : Int32) (q2 : Int32) (q10 : Int32) (q12 : Int32) (t0 : Int32) (t1 : Int32) (t2 : Int32) (t3 : Int32) (t4 : Int32) (fn : Nat → Int32) (p1 : Int32) (p2 : Int32) (fsh : Nat → Int32) (n_ : Int32) : KI l yX9_drift cX9_drift 5 (some .int) rm_e_drift_x9 D cI cZ [.ref h, .int n_] sz [(h, .inr (9, [.ref x, .int q1, .int q2, .ref rd, .ref t, .ref d, .ref nw, .ref ps, .ref im, .ref is_, .int q10, .ref bk, .int q12, .ref qr, .ref pr, .ref cv, .ref ft])), (t, .inr (8, [.int t0, .int t1, .int t2, .int t3, .int t4, .ref ta, .ref tb, .ref tc, .ref td, .ref te])), (nw, .inr (7, [.ref nwc])), (nwc, .inl (cI, 41, .inl fn)), (ps, .inr (2, [.ref sh, .int p1, .int p2])), (sh, .inr (6, [.int 20, .ref shc])), (shc, .inl (cI, 820, .inl fsh))] (fun (r : Int32) (u : Int32 × (Nat → Int32) × Int32 × Int32 × (Nat → Int32)) => (r, u) = f_e_drift_x9 q1 q2 q10 q12 t0 t1 t2 t3 t4 fn p1 p2 fsh n_) (fun (u : Int32 × (Nat → Int32) × Int32 × Int32 × (Nat → Int32)) => [(h, .inr (9, [.ref x, .int q1, .int q2, .ref rd, .ref t, .ref d, .ref nw, .ref ps, .ref im, .ref is_, .int q10, .ref bk, .int (u.1), .ref qr, .ref pr, .ref cv, .ref ft])), (t, .inr (8, [.int t0, .int t1, .int t2, .int t3, .int t4, .ref ta, .ref tb, .ref tc, .ref td, .ref te])), (nw, .inr (7, [.ref nwc])), (nwc, .inl (cI, 41, .inl u.2.1)), (ps, .inr (2, [.ref sh, .int (u.2.2.1), .int (u.2.2.2.1)])), (sh, .inr (6, [.int 20, .ref shc])), (shc, .inl (cI, 820, .inl u.2.2.2.2))]) := by
  refine KI.go rfl (Nat.le_of_ble_eq_true rfl) ?_
  intro p e s m args below meth c ls A Q hx hb hml hts hown hin hP hK hD hS hA hN hl hret
  have hl : lv_has ls 5 [(0, .ref h), (1, .int n_)] := hl
  obtain ⟨RES, hE⟩ : ∃ xRES, f_e_drift_x9 q1 q2 q10 q12 t0 t1 t2 t3 t4 fn p1 p2 fsh n_ = xRES := ⟨_, rfl⟩
  rw [hE] at hret
  rw [f_e_drift_x9] at hE
  refine lv_iload_n hx hb dX9_drift_0 rfl (lv_at hl 1 rfl) ?_
  refine lv_iconst (v := 1) hx hb dX9_drift_1 rfl ?_
  refine lv_icmp_lt (tgt := 11) hx hb dX9_drift_2 rfl (fun c_1 => ?_) (fun c_1 => ?_)
  · rw [if_pos c_1] at hE
    refine lv_ldc (v := (-1000000002)) hx hb hown (hts _ wd_339) dX9_drift_11 ?_
    exact hret (-1000000002) (q12, fn, p1, p2, fsh) _ _ _ _ dX9_drift_13 rfl hE hP hD hS
  · rw [if_neg c_1] at hE
    refine lv_iload_n hx hb dX9_drift_5 rfl (lv_at hl 1 rfl) ?_
    refine lv_bipush (v := 99) hx hb dX9_drift_6 rfl ?_
    refine lv_icmp_le (tgt := 14) hx hb dX9_drift_8 rfl (fun c_2 => ?_) (fun c_2 => ?_)
    · rw [if_pos c_2] at hE
      refine lv_aload_n hx hb dX9_drift_14 rfl (lv_at hl 0 rfl) ?_
      refine va_get (D := D) (ci := 9) (v := .ref t) (C := RX9) (T := TX9) (N := 17) hx hb hts iX9 hown hK hP 0 rfl rfl 4 (Nat.le_of_ble_eq_true rfl) (hts _ wd_89) (fun _ h9 => h9) rfl dX9_drift_15 ?_
      refine va_get (D := D) (ci := 8) (v := .int t2) (C := RX8) (T := TX8) (N := 10) hx hb hts iX8 hown hK hP 1 rfl rfl 2 (Nat.le_of_ble_eq_true rfl) (hts _ wd_373) (fun _ h9 => h9) rfl dX9_drift_18 ?_
      refine lv_if_ne (tgt := 27) hx hb dX9_drift_21 rfl (fun c_3 => ?_) (fun c_3 => ?_)
      · rw [if_neg c_3] at hE
        refine lv_aload_n hx hb dX9_drift_27 rfl (lv_at hl 0 rfl) ?_
        refine va_get (D := D) (ci := 9) (v := .ref nw) (C := RX9) (T := TX9) (N := 17) hx hb hts iX9 hown hK hP 0 rfl rfl 6 (Nat.le_of_ble_eq_true rfl) (hts _ wd_96) (fun _ h9 => h9) rfl dX9_drift_28 ?_
        refine cVi (wr := [(h, .inr (9, [.ref x, .int q1, .int q2, .ref rd, .ref t, .ref d, .ref nw, .ref ps, .ref im, .ref is_, .int q10, .ref bk, .int q12, .ref qr, .ref pr, .ref cv, .ref ft])), (t, .inr (8, [.int t0, .int t1, .int t2, .int t3, .int t4, .ref ta, .ref tb, .ref tc, .ref td, .ref te])), (ps, .inr (2, [.ref sh, .int p1, .int p2])), (sh, .inr (6, [.int 20, .ref shc])), (shc, .inl (cI, 820, .inl fsh))]) (rest := []) (e_minutes nw nwc fn) okV_X7_minutes wd_375 hx hb hml hown hts hK hP hD hS hA hN hl.1 [2, 3] [0, 1, 4, 5, 6] rfl rfl rfl rfl (of_decide_eq_true rfl) rfl rfl rfl (Nat.le_of_ble_eq_true rfl) (Nat.le_of_ble_eq_true rfl) (Nat.le_of_ble_eq_true rfl) (Nat.le_of_ble_eq_true rfl) (Nat.le_of_ble_eq_true rfl) dX9_drift_31 (fun r_5 u_4 H locs hw_u_4 hP hD hS => ?_)
        replace hw_u_4 : r_5 = (f_e_minutes fn) := hw_u_4
        rw [hw_u_4]
        clear hw_u_4
        have hP : va_P D classes [(h, .inr (9, [.ref x, .int q1, .int q2, .ref rd, .ref t, .ref d, .ref nw, .ref ps, .ref im, .ref is_, .int q10, .ref bk, .int q12, .ref qr, .ref pr, .ref cv, .ref ft])), (t, .inr (8, [.int t0, .int t1, .int t2, .int t3, .int t4, .ref ta, .ref tb, .ref tc, .ref td, .ref te])), (ps, .inr (2, [.ref sh, .int p1, .int p2])), (sh, .inr (6, [.int 20, .ref shc])), (shc, .inl (cI, 820, .inl fsh)), (nw, .inr (7, [.ref nwc])), (nwc, .inl (cI, 41, .inl fn))] H := hP
        have hD : va_D A [(h, .inr (9, [.ref x, .int q1, .int q2, .ref rd, .ref t, .ref d, .ref nw, .ref ps, .ref im, .ref is_, .int q10, .ref bk, .int q12, .ref qr, .ref pr, .ref cv, .ref ft])), (t, .inr (8, [.int t0, .int t1, .int t2, .int t3, .int t4, .ref ta, .ref tb, .ref tc, .ref td, .ref te])), (ps, .inr (2, [.ref sh, .int p1, .int p2])), (sh, .inr (6, [.int 20, .ref shc])), (shc, .inl (cI, 820, .inl fsh)), (nw, .inr (7, [.ref nwc])), (nwc, .inl (cI, 41, .inl fn))] := hD
        refine lv_ldc (v := 90000) hx hb hown (hts _ wd_398) dX9_drift_34 ?_
        refine lv_icmp_le (tgt := 42) hx hb dX9_drift_36 rfl (fun c_6 => ?_) (fun c_6 => ?_)
        · rw [if_pos c_6] at hE
          refine lv_aload_n hx hb dX9_drift_42 rfl (lv_at hl 0 rfl) ?_
          refine va_get (D := D) (ci := 9) (v := .ref ps) (C := RX9) (T := TX9) (N := 17) hx hb hts iX9 hown hK hP 0 rfl rfl 7 (Nat.le_of_ble_eq_true rfl) (hts _ wd_102) (fun _ h9 => h9) rfl dX9_drift_43 ?_
          refine lv_aload_n hx hb dX9_drift_46 rfl (lv_at hl 0 rfl) ?_
          refine va_get (D := D) (ci := 9) (v := .ref nw) (C := RX9) (T := TX9) (N := 17) hx hb hts iX9 hown hK hP 0 rfl rfl 6 (Nat.le_of_ble_eq_true rfl) (hts _ wd_96) (fun _ h9 => h9) rfl dX9_drift_47 ?_
          refine cVv (wr := [(h, .inr (9, [.ref x, .int q1, .int q2, .ref rd, .ref t, .ref d, .ref nw, .ref ps, .ref im, .ref is_, .int q10, .ref bk, .int q12, .ref qr, .ref pr, .ref cv, .ref ft])), (t, .inr (8, [.int t0, .int t1, .int t2, .int t3, .int t4, .ref ta, .ref tb, .ref tc, .ref td, .ref te]))]) (rest := []) (e_remember_x2 ps sh shc nw nwc p1 p2 fsh fn) okV_X2_remember wd_385 hx hb hml hown hts hK hP hD hS hA hN hl.1 [2, 3, 4, 5, 6] [0, 1] rfl rfl rfl rfl (of_decide_eq_true rfl) rfl rfl rfl (Nat.le_of_ble_eq_true rfl) (Nat.le_of_ble_eq_true rfl) (Nat.le_of_ble_eq_true rfl) (Nat.le_of_ble_eq_true rfl) (Nat.le_of_ble_eq_true rfl) dX9_drift_50 (fun u_7 H locs hw_u_7 hP hD hS => ?_)
          obtain ⟨o_9, o_10, o_11⟩ := u_7
          replace hw_u_7 : (o_9, o_10, o_11) = (f_e_remember_x2 p1 p2 fsh fn) := hw_u_7
          rw [← hw_u_7] at hE
          replace hE : (match (f_e_drift_x9_55 q1 q2 q10 q12 t0 t1 t2 t3 t4 fn p1 p2 fsh n_ (((n_ : Int32).toInt - (0 : Int32).toInt).toNat + 1) 0 q12 fn o_9 o_10 o_11) with | (w_12l2, w_12m0, w_12m1, w_12m2, w_12m3, w_12m4) => ((f_e_minutes w_12m1), w_12m0, w_12m1, w_12m2, w_12m3, w_12m4)) = RES := hE
          have hP : va_P D classes [(h, .inr (9, [.ref x, .int q1, .int q2, .ref rd, .ref t, .ref d, .ref nw, .ref ps, .ref im, .ref is_, .int q10, .ref bk, .int q12, .ref qr, .ref pr, .ref cv, .ref ft])), (t, .inr (8, [.int t0, .int t1, .int t2, .int t3, .int t4, .ref ta, .ref tb, .ref tc, .ref td, .ref te])), (ps, .inr (2, [.ref sh, .int o_9, .int o_10])), (sh, .inr (6, [.int 20, .ref shc])), (shc, .inl (cI, 820, .inl o_11)), (nw, .inr (7, [.ref nwc])), (nwc, .inl (cI, 41, .inl fn))] H := hP
          have hD : va_D A [(h, .inr (9, [.ref x, .int q1, .int q2, .ref rd, .ref t, .ref d, .ref nw, .ref ps, .ref im, .ref is_, .int q10, .ref bk, .int q12, .ref qr, .ref pr, .ref cv, .ref ft])), (t, .inr (8, [.int t0, .int t1, .int t2, .int t3, .int t4, .ref ta, .ref tb, .ref tc, .ref td, .ref te])), (ps, .inr (2, [.ref sh, .int o_9, .int o_10])), (sh, .inr (6, [.int 20, .ref shc])), (shc, .inl (cI, 820, .inl o_11)), (nw, .inr (7, [.ref nwc])), (nwc, .inl (cI, 41, .inl fn))] := hD
          refine lv_iconst (v := 0) hx hb dX9_drift_53 rfl ?_
          refine lv_istore_n (lv' := [(2, .int 0), (0, .ref h), (1, .int n_)]) hx hb dX9_drift_54 rfl hl (Nat.le_of_ble_eq_true rfl) rfl (fun ls hl => ?_)
          have ex_55_w_12 : ∀ (w_12l2 : Int32) (w_12m0 : Int32) (w_12m1 : (Nat → Int32)) (w_12m2 : Int32) (w_12m3 : Int32) (w_12m4 : (Nat → Int32)) (H : Heap) (locs : List Loc) (ls : Array Slot), va_P D classes [(h, .inr (9, [.ref x, .int q1, .int q2, .ref rd, .ref t, .ref d, .ref nw, .ref ps, .ref im, .ref is_, .int q10, .ref bk, .int w_12m0, .ref qr, .ref pr, .ref cv, .ref ft])), (t, .inr (8, [.int t0, .int t1, .int t2, .int t3, .int t4, .ref ta, .ref tb, .ref tc, .ref td, .ref te])), (ps, .inr (2, [.ref sh, .int w_12m2, .int w_12m3])), (sh, .inr (6, [.int 20, .ref shc])), (shc, .inl (cI, 820, .inl w_12m4)), (nw, .inr (7, [.ref nwc])), (nwc, .inl (cI, 41, .inl w_12m1))] H → va_D A [(h, .inr (9, [.ref x, .int q1, .int q2, .ref rd, .ref t, .ref d, .ref nw, .ref ps, .ref im, .ref is_, .int q10, .ref bk, .int w_12m0, .ref qr, .ref pr, .ref cv, .ref ft])), (t, .inr (8, [.int t0, .int t1, .int t2, .int t3, .int t4, .ref ta, .ref tb, .ref tc, .ref td, .ref te])), (ps, .inr (2, [.ref sh, .int w_12m2, .int w_12m3])), (sh, .inr (6, [.int 20, .ref shc])), (shc, .inl (cI, 820, .inl w_12m4)), (nw, .inr (7, [.ref nwc])), (nwc, .inl (cI, 41, .inl w_12m1))] → va_S A s.heap H locs → lv_has ls 5 [(2, .int w_12l2), (0, .ref h), (1, .int n_)] → (((f_e_minutes w_12m1), w_12m0, w_12m1, w_12m2, w_12m3, w_12m4)) = RES → W p l e rm_e_drift_x9 s m args below meth c H locs 0 0 Q (F0 m 115 ls []) := by
            intro w_12l2 w_12m0 w_12m1 w_12m2 w_12m3 w_12m4 H locs ls hP hD hS hl hE
            refine lv_aload_n hx hb dX9_drift_115 rfl (lv_at hl 1 rfl) ?_
            refine va_get (D := D) (ci := 9) (v := .ref nw) (C := RX9) (T := TX9) (N := 17) hx hb hts iX9 hown hK hP 0 rfl rfl 6 (Nat.le_of_ble_eq_true rfl) (hts _ wd_96) (fun _ h9 => h9) rfl dX9_drift_116 ?_
            refine cVi (wr := [(h, .inr (9, [.ref x, .int q1, .int q2, .ref rd, .ref t, .ref d, .ref nw, .ref ps, .ref im, .ref is_, .int q10, .ref bk, .int w_12m0, .ref qr, .ref pr, .ref cv, .ref ft])), (t, .inr (8, [.int t0, .int t1, .int t2, .int t3, .int t4, .ref ta, .ref tb, .ref tc, .ref td, .ref te])), (ps, .inr (2, [.ref sh, .int w_12m2, .int w_12m3])), (sh, .inr (6, [.int 20, .ref shc])), (shc, .inl (cI, 820, .inl w_12m4))]) (rest := []) (e_minutes nw nwc w_12m1) okV_X7_minutes wd_375 hx hb hml hown hts hK hP hD hS hA hN hl.1 [5, 6] [0, 1, 2, 3, 4] rfl rfl rfl rfl (of_decide_eq_true rfl) rfl rfl rfl (Nat.le_of_ble_eq_true rfl) (Nat.le_of_ble_eq_true rfl) (Nat.le_of_ble_eq_true rfl) (Nat.le_of_ble_eq_true rfl) (Nat.le_of_ble_eq_true rfl) dX9_drift_119 (fun r_14 u_13 H locs hw_u_13 hP hD hS => ?_)
            replace hw_u_13 : r_14 = (f_e_minutes w_12m1) := hw_u_13
            rw [hw_u_13]
            clear hw_u_13
            have hP : va_P D classes [(h, .inr (9, [.ref x, .int q1, .int q2, .ref rd, .ref t, .ref d, .ref nw, .ref ps, .ref im, .ref is_, .int q10, .ref bk, .int w_12m0, .ref qr, .ref pr, .ref cv, .ref ft])), (t, .inr (8, [.int t0, .int t1, .int t2, .int t3, .int t4, .ref ta, .ref tb, .ref tc, .ref td, .ref te])), (ps, .inr (2, [.ref sh, .int w_12m2, .int w_12m3])), (sh, .inr (6, [.int 20, .ref shc])), (shc, .inl (cI, 820, .inl w_12m4)), (nw, .inr (7, [.ref nwc])), (nwc, .inl (cI, 41, .inl w_12m1))] H := hP
            have hD : va_D A [(h, .inr (9, [.ref x, .int q1, .int q2, .ref rd, .ref t, .ref d, .ref nw, .ref ps, .ref im, .ref is_, .int q10, .ref bk, .int w_12m0, .ref qr, .ref pr, .ref cv, .ref ft])), (t, .inr (8, [.int t0, .int t1, .int t2, .int t3, .int t4, .ref ta, .ref tb, .ref tc, .ref td, .ref te])), (ps, .inr (2, [.ref sh, .int w_12m2, .int w_12m3])), (sh, .inr (6, [.int 20, .ref shc])), (shc, .inl (cI, 820, .inl w_12m4)), (nw, .inr (7, [.ref nwc])), (nwc, .inl (cI, 41, .inl w_12m1))] := hD
            exact hret (f_e_minutes w_12m1) (w_12m0, w_12m1, w_12m2, w_12m3, w_12m4) _ _ _ _ dX9_drift_122 rfl hE (cutP (isC := [0, 1, 5, 6, 2, 3, 4]) hP rfl) (cutD (isC := [0, 1, 5, 6, 2, 3, 4]) hD rfl rfl) hS
          have lp_55_w_12 : ∀ (n_w_12 : Nat) (w_12l2 : Int32) (w_12m0 : Int32) (w_12m1 : (Nat → Int32)) (w_12m2 : Int32) (w_12m3 : Int32) (w_12m4 : (Nat → Int32)) (H : Heap) (locs : List Loc) (ls : Array Slot), va_P D classes [(h, .inr (9, [.ref x, .int q1, .int q2, .ref rd, .ref t, .ref d, .ref nw, .ref ps, .ref im, .ref is_, .int q10, .ref bk, .int w_12m0, .ref qr, .ref pr, .ref cv, .ref ft])), (t, .inr (8, [.int t0, .int t1, .int t2, .int t3, .int t4, .ref ta, .ref tb, .ref tc, .ref td, .ref te])), (ps, .inr (2, [.ref sh, .int w_12m2, .int w_12m3])), (sh, .inr (6, [.int 20, .ref shc])), (shc, .inl (cI, 820, .inl w_12m4)), (nw, .inr (7, [.ref nwc])), (nwc, .inl (cI, 41, .inl w_12m1))] H → va_D A [(h, .inr (9, [.ref x, .int q1, .int q2, .ref rd, .ref t, .ref d, .ref nw, .ref ps, .ref im, .ref is_, .int q10, .ref bk, .int w_12m0, .ref qr, .ref pr, .ref cv, .ref ft])), (t, .inr (8, [.int t0, .int t1, .int t2, .int t3, .int t4, .ref ta, .ref tb, .ref tc, .ref td, .ref te])), (ps, .inr (2, [.ref sh, .int w_12m2, .int w_12m3])), (sh, .inr (6, [.int 20, .ref shc])), (shc, .inl (cI, 820, .inl w_12m4)), (nw, .inr (7, [.ref nwc])), (nwc, .inl (cI, 41, .inl w_12m1))] → va_S A s.heap H locs → lv_has ls 5 [(2, .int w_12l2), (0, .ref h), (1, .int n_)] → ((n_ : Int32).toInt - (w_12l2 : Int32).toInt).toNat < n_w_12 → (match (f_e_drift_x9_55 q1 q2 q10 q12 t0 t1 t2 t3 t4 fn p1 p2 fsh n_ n_w_12 w_12l2 w_12m0 w_12m1 w_12m2 w_12m3 w_12m4) with | (w_12l2, w_12m0, w_12m1, w_12m2, w_12m3, w_12m4) => ((f_e_minutes w_12m1), w_12m0, w_12m1, w_12m2, w_12m3, w_12m4)) = RES → W p l e rm_e_drift_x9 s m args below meth c H locs 0 0 Q (F0 m 55 ls []) := by
            intro n_w_12
            induction n_w_12 with
            | zero => intro w_12l2 w_12m0 w_12m1 w_12m2 w_12m3 w_12m4 H locs ls hP hD hS hl hm; exact absurd hm (Nat.not_lt_zero _)
            | succ n_w_12 ih_w_12 =>
              intro w_12l2 w_12m0 w_12m1 w_12m2 w_12m3 w_12m4 H locs ls hP hD hS hl hm hE
              rw [f_e_drift_x9_55_s] at hE
              refine lv_iload_n hx hb dX9_drift_55 rfl (lv_at hl 0 rfl) ?_
              refine lv_iload_n hx hb dX9_drift_56 rfl (lv_at hl 2 rfl) ?_
              refine lv_icmp_ge (tgt := 115) hx hb dX9_drift_57 rfl (fun c_15 => ?_) (fun c_15 => ?_)
              · rw [if_pos c_15] at hE
                exact ex_55_w_12 w_12l2 w_12m0 w_12m1 w_12m2 w_12m3 w_12m4 _ _ ls hP hD hS (lv_sub hl [0, 1, 2] rfl) hE
              · rw [if_neg c_15] at hE
                refine lv_aload_n hx hb dX9_drift_60 rfl (lv_at hl 1 rfl) ?_
                refine lv_aload_n hx hb dX9_drift_61 rfl (lv_at hl 1 rfl) ?_
                refine va_get (D := D) (ci := 9) (v := .ref t) (C := RX9) (T := TX9) (N := 17) hx hb hts iX9 hown hK hP 0 rfl rfl 4 (Nat.le_of_ble_eq_true rfl) (hts _ wd_89) (fun _ h9 => h9) rfl dX9_drift_62 ?_
                refine va_get (D := D) (ci := 8) (v := .int t2) (C := RX8) (T := TX8) (N := 10) hx hb hts iX8 hown hK hP 1 rfl rfl 2 (Nat.le_of_ble_eq_true rfl) (hts _ wd_373) (fun _ h9 => h9) rfl dX9_drift_65 ?_
                refine cVi (wr := [(t, .inr (8, [.int t0, .int t1, .int t2, .int t3, .int t4, .ref ta, .ref tb, .ref tc, .ref td, .ref te])), (ps, .inr (2, [.ref sh, .int w_12m2, .int w_12m3])), (sh, .inr (6, [.int 20, .ref shc])), (shc, .inl (cI, 820, .inl w_12m4)), (nw, .inr (7, [.ref nwc])), (nwc, .inl (cI, 41, .inl w_12m1))]) (rest := []) (e_draw_x9 h x rd t d nw ps im is_ bk qr pr cv ft q1 q2 q10 w_12m0 t2) okV_X9_draw wd_399 hx hb hml hown hts hK hP hD hS hA hN hl.1 [0] [1, 2, 3, 4, 5, 6] rfl rfl rfl rfl (of_decide_eq_true rfl) rfl rfl rfl (Nat.le_of_ble_eq_true rfl) (Nat.le_of_ble_eq_true rfl) (Nat.le_of_ble_eq_true rfl) (Nat.le_of_ble_eq_true rfl) (Nat.le_of_ble_eq_true rfl) dX9_drift_68 (fun r_17 u_16 H locs hw_u_16 hP hD hS => ?_)
                replace hw_u_16 : (r_17, u_16) = (f_e_draw_x9 q1 q2 q10 w_12m0 t2) := hw_u_16
                rw [← hw_u_16] at hE
                replace hE : (match (match (f_e_draw_x9 q1 q2 q10 u_16 10) with | (r_19, u_18) => (if (f_e_isReconciled w_12m1 r_17) = 0 then (f_e_drift_x9_55 q1 q2 q10 q12 t0 t1 t2 t3 t4 fn p1 p2 fsh n_ n_w_12 (w_12l2 + 1) u_18 (f_e_spendMinutes (f_e_embitter w_12m1 r_17 r_19) 1) w_12m2 w_12m3 w_12m4) else (f_e_drift_x9_55 q1 q2 q10 q12 t0 t1 t2 t3 t4 fn p1 p2 fsh n_ n_w_12 (w_12l2 + 1) u_18 (f_e_spendMinutes w_12m1 1) w_12m2 w_12m3 w_12m4))) with | (w_12l2, w_12m0, w_12m1, w_12m2, w_12m3, w_12m4) => ((f_e_minutes w_12m1), w_12m0, w_12m1, w_12m2, w_12m3, w_12m4)) = RES := hE
                have hP : va_P D classes [(t, .inr (8, [.int t0, .int t1, .int t2, .int t3, .int t4, .ref ta, .ref tb, .ref tc, .ref td, .ref te])), (ps, .inr (2, [.ref sh, .int w_12m2, .int w_12m3])), (sh, .inr (6, [.int 20, .ref shc])), (shc, .inl (cI, 820, .inl w_12m4)), (nw, .inr (7, [.ref nwc])), (nwc, .inl (cI, 41, .inl w_12m1)), (h, .inr (9, [.ref x, .int q1, .int q2, .ref rd, .ref t, .ref d, .ref nw, .ref ps, .ref im, .ref is_, .int q10, .ref bk, .int u_16, .ref qr, .ref pr, .ref cv, .ref ft]))] H := hP
                have hD : va_D A [(t, .inr (8, [.int t0, .int t1, .int t2, .int t3, .int t4, .ref ta, .ref tb, .ref tc, .ref td, .ref te])), (ps, .inr (2, [.ref sh, .int w_12m2, .int w_12m3])), (sh, .inr (6, [.int 20, .ref shc])), (shc, .inl (cI, 820, .inl w_12m4)), (nw, .inr (7, [.ref nwc])), (nwc, .inl (cI, 41, .inl w_12m1)), (h, .inr (9, [.ref x, .int q1, .int q2, .ref rd, .ref t, .ref d, .ref nw, .ref ps, .ref im, .ref is_, .int q10, .ref bk, .int u_16, .ref qr, .ref pr, .ref cv, .ref ft]))] := hD
                refine lv_istore_n (lv' := [(3, .int r_17), (2, .int w_12l2), (0, .ref h), (1, .int n_)]) hx hb dX9_drift_71 rfl hl (Nat.le_of_ble_eq_true rfl) rfl (fun ls hl => ?_)
                refine lv_aload_n hx hb dX9_drift_72 rfl (lv_at hl 2 rfl) ?_
                refine lv_bipush (v := 10) hx hb dX9_drift_73 rfl ?_
                refine cVi (wr := [(t, .inr (8, [.int t0, .int t1, .int t2, .int t3, .int t4, .ref ta, .ref tb, .ref tc, .ref td, .ref te])), (ps, .inr (2, [.ref sh, .int w_12m2, .int w_12m3])), (sh, .inr (6, [.int 20, .ref shc])), (shc, .inl (cI, 820, .inl w_12m4)), (nw, .inr (7, [.ref nwc])), (nwc, .inl (cI, 41, .inl w_12m1))]) (rest := []) (e_draw_x9 h x rd t d nw ps im is_ bk qr pr cv ft q1 q2 q10 u_16 10) okV_X9_draw wd_399 hx hb hml hown hts hK hP hD hS hA hN hl.1 [6] [0, 1, 2, 3, 4, 5] rfl rfl rfl rfl (of_decide_eq_true rfl) rfl rfl rfl (Nat.le_of_ble_eq_true rfl) (Nat.le_of_ble_eq_true rfl) (Nat.le_of_ble_eq_true rfl) (Nat.le_of_ble_eq_true rfl) (Nat.le_of_ble_eq_true rfl) dX9_drift_75 (fun r_19 u_18 H locs hw_u_18 hP hD hS => ?_)
                replace hw_u_18 : (r_19, u_18) = (f_e_draw_x9 q1 q2 q10 u_16 10) := hw_u_18
                rw [← hw_u_18] at hE
                replace hE : (match (if (f_e_isReconciled w_12m1 r_17) = 0 then (f_e_drift_x9_55 q1 q2 q10 q12 t0 t1 t2 t3 t4 fn p1 p2 fsh n_ n_w_12 (w_12l2 + 1) u_18 (f_e_spendMinutes (f_e_embitter w_12m1 r_17 r_19) 1) w_12m2 w_12m3 w_12m4) else (f_e_drift_x9_55 q1 q2 q10 q12 t0 t1 t2 t3 t4 fn p1 p2 fsh n_ n_w_12 (w_12l2 + 1) u_18 (f_e_spendMinutes w_12m1 1) w_12m2 w_12m3 w_12m4)) with | (w_12l2, w_12m0, w_12m1, w_12m2, w_12m3, w_12m4) => ((f_e_minutes w_12m1), w_12m0, w_12m1, w_12m2, w_12m3, w_12m4)) = RES := hE
                have hP : va_P D classes [(t, .inr (8, [.int t0, .int t1, .int t2, .int t3, .int t4, .ref ta, .ref tb, .ref tc, .ref td, .ref te])), (ps, .inr (2, [.ref sh, .int w_12m2, .int w_12m3])), (sh, .inr (6, [.int 20, .ref shc])), (shc, .inl (cI, 820, .inl w_12m4)), (nw, .inr (7, [.ref nwc])), (nwc, .inl (cI, 41, .inl w_12m1)), (h, .inr (9, [.ref x, .int q1, .int q2, .ref rd, .ref t, .ref d, .ref nw, .ref ps, .ref im, .ref is_, .int q10, .ref bk, .int u_18, .ref qr, .ref pr, .ref cv, .ref ft]))] H := hP
                have hD : va_D A [(t, .inr (8, [.int t0, .int t1, .int t2, .int t3, .int t4, .ref ta, .ref tb, .ref tc, .ref td, .ref te])), (ps, .inr (2, [.ref sh, .int w_12m2, .int w_12m3])), (sh, .inr (6, [.int 20, .ref shc])), (shc, .inl (cI, 820, .inl w_12m4)), (nw, .inr (7, [.ref nwc])), (nwc, .inl (cI, 41, .inl w_12m1)), (h, .inr (9, [.ref x, .int q1, .int q2, .ref rd, .ref t, .ref d, .ref nw, .ref ps, .ref im, .ref is_, .int q10, .ref bk, .int u_18, .ref qr, .ref pr, .ref cv, .ref ft]))] := hD
                refine lv_istore (lv' := [(4, .int r_19), (3, .int r_17), (2, .int w_12l2), (0, .ref h), (1, .int n_)]) hx hb dX9_drift_78 hl (Nat.le_of_ble_eq_true rfl) rfl (fun ls hl => ?_)
                refine lv_aload_n hx hb dX9_drift_80 rfl (lv_at hl 3 rfl) ?_
                refine va_get (D := D) (ci := 9) (v := .ref nw) (C := RX9) (T := TX9) (N := 17) hx hb hts iX9 hown hK hP 6 rfl rfl 6 (Nat.le_of_ble_eq_true rfl) (hts _ wd_96) (fun _ h9 => h9) rfl dX9_drift_81 ?_
                refine lv_iload_n hx hb dX9_drift_84 rfl (lv_at hl 1 rfl) ?_
                refine cVi (wr := [(t, .inr (8, [.int t0, .int t1, .int t2, .int t3, .int t4, .ref ta, .ref tb, .ref tc, .ref td, .ref te])), (ps, .inr (2, [.ref sh, .int w_12m2, .int w_12m3])), (sh, .inr (6, [.int 20, .ref shc])), (shc, .inl (cI, 820, .inl w_12m4)), (h, .inr (9, [.ref x, .int q1, .int q2, .ref rd, .ref t, .ref d, .ref nw, .ref ps, .ref im, .ref is_, .int q10, .ref bk, .int u_18, .ref qr, .ref pr, .ref cv, .ref ft]))]) (rest := []) (e_isReconciled nw nwc w_12m1 r_17) okV_X7_isReconciled wd_265 hx hb hml hown hts hK hP hD hS hA hN hl.1 [4, 5] [0, 1, 2, 3, 6] rfl rfl rfl rfl (of_decide_eq_true rfl) rfl rfl rfl (Nat.le_of_ble_eq_true rfl) (Nat.le_of_ble_eq_true rfl) (Nat.le_of_ble_eq_true rfl) (Nat.le_of_ble_eq_true rfl) (Nat.le_of_ble_eq_true rfl) dX9_drift_85 (fun r_21 u_20 H locs hw_u_20 hP hD hS => ?_)
                replace hw_u_20 : r_21 = (f_e_isReconciled w_12m1 r_17) := hw_u_20
                rw [hw_u_20]
                clear hw_u_20
                have hP : va_P D classes [(t, .inr (8, [.int t0, .int t1, .int t2, .int t3, .int t4, .ref ta, .ref tb, .ref tc, .ref td, .ref te])), (ps, .inr (2, [.ref sh, .int w_12m2, .int w_12m3])), (sh, .inr (6, [.int 20, .ref shc])), (shc, .inl (cI, 820, .inl w_12m4)), (h, .inr (9, [.ref x, .int q1, .int q2, .ref rd, .ref t, .ref d, .ref nw, .ref ps, .ref im, .ref is_, .int q10, .ref bk, .int u_18, .ref qr, .ref pr, .ref cv, .ref ft])), (nw, .inr (7, [.ref nwc])), (nwc, .inl (cI, 41, .inl w_12m1))] H := hP
                have hD : va_D A [(t, .inr (8, [.int t0, .int t1, .int t2, .int t3, .int t4, .ref ta, .ref tb, .ref tc, .ref td, .ref te])), (ps, .inr (2, [.ref sh, .int w_12m2, .int w_12m3])), (sh, .inr (6, [.int 20, .ref shc])), (shc, .inl (cI, 820, .inl w_12m4)), (h, .inr (9, [.ref x, .int q1, .int q2, .ref rd, .ref t, .ref d, .ref nw, .ref ps, .ref im, .ref is_, .int q10, .ref bk, .int u_18, .ref qr, .ref pr, .ref cv, .ref ft])), (nw, .inr (7, [.ref nwc])), (nwc, .inl (cI, 41, .inl w_12m1))] := hD
                refine lv_if_ne (tgt := 101) hx hb dX9_drift_88 rfl (fun c_22 => ?_) (fun c_22 => ?_)
                · rw [if_neg c_22] at hE
                  refine lv_aload_n hx hb dX9_drift_101 rfl (lv_at hl 3 rfl) ?_
                  refine va_get (D := D) (ci := 9) (v := .ref nw) (C := RX9) (T := TX9) (N := 17) hx hb hts iX9 hown hK hP 4 rfl rfl 6 (Nat.le_of_ble_eq_true rfl) (hts _ wd_96) (fun _ h9 => h9) rfl dX9_drift_102 ?_
                  refine lv_iconst (v := 1) hx hb dX9_drift_105 rfl ?_
                  refine cVv (wr := [(t, .inr (8, [.int t0, .int t1, .int t2, .int t3, .int t4, .ref ta, .ref tb, .ref tc, .ref td, .ref te])), (ps, .inr (2, [.ref sh, .int w_12m2, .int w_12m3])), (sh, .inr (6, [.int 20, .ref shc])), (shc, .inl (cI, 820, .inl w_12m4)), (h, .inr (9, [.ref x, .int q1, .int q2, .ref rd, .ref t, .ref d, .ref nw, .ref ps, .ref im, .ref is_, .int q10, .ref bk, .int u_18, .ref qr, .ref pr, .ref cv, .ref ft]))]) (rest := []) (e_spendMinutes nw nwc w_12m1 1) okV_X7_spendMinutes wd_295 hx hb hml hown hts hK hP hD hS hA hN hl.1 [5, 6] [0, 1, 2, 3, 4] rfl rfl rfl rfl (of_decide_eq_true rfl) rfl rfl rfl (Nat.le_of_ble_eq_true rfl) (Nat.le_of_ble_eq_true rfl) (Nat.le_of_ble_eq_true rfl) (Nat.le_of_ble_eq_true rfl) (Nat.le_of_ble_eq_true rfl) dX9_drift_106 (fun u_23 H locs hw_u_23 hP hD hS => ?_)
                  replace hw_u_23 : u_23 = (f_e_spendMinutes w_12m1 1) := hw_u_23
                  subst hw_u_23
                  have hP : va_P D classes [(t, .inr (8, [.int t0, .int t1, .int t2, .int t3, .int t4, .ref ta, .ref tb, .ref tc, .ref td, .ref te])), (ps, .inr (2, [.ref sh, .int w_12m2, .int w_12m3])), (sh, .inr (6, [.int 20, .ref shc])), (shc, .inl (cI, 820, .inl w_12m4)), (h, .inr (9, [.ref x, .int q1, .int q2, .ref rd, .ref t, .ref d, .ref nw, .ref ps, .ref im, .ref is_, .int q10, .ref bk, .int u_18, .ref qr, .ref pr, .ref cv, .ref ft])), (nw, .inr (7, [.ref nwc])), (nwc, .inl (cI, 41, .inl (f_e_spendMinutes w_12m1 1)))] H := hP
                  have hD : va_D A [(t, .inr (8, [.int t0, .int t1, .int t2, .int t3, .int t4, .ref ta, .ref tb, .ref tc, .ref td, .ref te])), (ps, .inr (2, [.ref sh, .int w_12m2, .int w_12m3])), (sh, .inr (6, [.int 20, .ref shc])), (shc, .inl (cI, 820, .inl w_12m4)), (h, .inr (9, [.ref x, .int q1, .int q2, .ref rd, .ref t, .ref d, .ref nw, .ref ps, .ref im, .ref is_, .int q10, .ref bk, .int u_18, .ref qr, .ref pr, .ref cv, .ref ft])), (nw, .inr (7, [.ref nwc])), (nwc, .inl (cI, 41, .inl (f_e_spendMinutes w_12m1 1)))] := hD
                  refine lv_iinc (v := (w_12l2 + 1)) (lv' := [(2, .int (w_12l2 + 1)), (4, .int r_19), (3, .int r_17), (0, .ref h), (1, .int n_)]) hx hb dX9_drift_109 hl (k := 2) rfl rfl (Nat.le_of_ble_eq_true rfl) rfl (fun ls hl => ?_)
                  refine lv_goto (tgt := 55) hx hb dX9_drift_112 rfl ?_
                  exact ih_w_12 (w_12l2 + 1) u_18 (f_e_spendMinutes w_12m1 1) w_12m2 w_12m3 w_12m4 _ _ ls (cutP (isC := [4, 0, 1, 2, 3, 5, 6]) hP rfl) (cutD (isC := [4, 0, 1, 2, 3, 5, 6]) hD rfl rfl) hS (lv_sub hl [0, 3, 4] rfl) (up_step c_15 hm) hE
                · rw [if_pos c_22] at hE
                  refine lv_aload_n hx hb dX9_drift_91 rfl (lv_at hl 3 rfl) ?_
                  refine va_get (D := D) (ci := 9) (v := .ref nw) (C := RX9) (T := TX9) (N := 17) hx hb hts iX9 hown hK hP 4 rfl rfl 6 (Nat.le_of_ble_eq_true rfl) (hts _ wd_96) (fun _ h9 => h9) rfl dX9_drift_92 ?_
                  refine lv_iload_n hx hb dX9_drift_95 rfl (lv_at hl 1 rfl) ?_
                  refine lv_iload hx hb dX9_drift_96 (lv_at hl 0 rfl) ?_
                  refine cVv (wr := [(t, .inr (8, [.int t0, .int t1, .int t2, .int t3, .int t4, .ref ta, .ref tb, .ref tc, .ref td, .ref te])), (ps, .inr (2, [.ref sh, .int w_12m2, .int w_12m3])), (sh, .inr (6, [.int 20, .ref shc])), (shc, .inl (cI, 820, .inl w_12m4)), (h, .inr (9, [.ref x, .int q1, .int q2, .ref rd, .ref t, .ref d, .ref nw, .ref ps, .ref im, .ref is_, .int q10, .ref bk, .int u_18, .ref qr, .ref pr, .ref cv, .ref ft]))]) (rest := []) (e_embitter nw nwc w_12m1 r_17 r_19) okV_X7_embitter wd_394 hx hb hml hown hts hK hP hD hS hA hN hl.1 [5, 6] [0, 1, 2, 3, 4] rfl rfl rfl rfl (of_decide_eq_true rfl) rfl rfl rfl (Nat.le_of_ble_eq_true rfl) (Nat.le_of_ble_eq_true rfl) (Nat.le_of_ble_eq_true rfl) (Nat.le_of_ble_eq_true rfl) (Nat.le_of_ble_eq_true rfl) dX9_drift_98 (fun u_25 H locs hw_u_25 hP hD hS => ?_)
                  replace hw_u_25 : u_25 = (f_e_embitter w_12m1 r_17 r_19) := hw_u_25
                  subst hw_u_25
                  have hP : va_P D classes [(t, .inr (8, [.int t0, .int t1, .int t2, .int t3, .int t4, .ref ta, .ref tb, .ref tc, .ref td, .ref te])), (ps, .inr (2, [.ref sh, .int w_12m2, .int w_12m3])), (sh, .inr (6, [.int 20, .ref shc])), (shc, .inl (cI, 820, .inl w_12m4)), (h, .inr (9, [.ref x, .int q1, .int q2, .ref rd, .ref t, .ref d, .ref nw, .ref ps, .ref im, .ref is_, .int q10, .ref bk, .int u_18, .ref qr, .ref pr, .ref cv, .ref ft])), (nw, .inr (7, [.ref nwc])), (nwc, .inl (cI, 41, .inl (f_e_embitter w_12m1 r_17 r_19)))] H := hP
                  have hD : va_D A [(t, .inr (8, [.int t0, .int t1, .int t2, .int t3, .int t4, .ref ta, .ref tb, .ref tc, .ref td, .ref te])), (ps, .inr (2, [.ref sh, .int w_12m2, .int w_12m3])), (sh, .inr (6, [.int 20, .ref shc])), (shc, .inl (cI, 820, .inl w_12m4)), (h, .inr (9, [.ref x, .int q1, .int q2, .ref rd, .ref t, .ref d, .ref nw, .ref ps, .ref im, .ref is_, .int q10, .ref bk, .int u_18, .ref qr, .ref pr, .ref cv, .ref ft])), (nw, .inr (7, [.ref nwc])), (nwc, .inl (cI, 41, .inl (f_e_embitter w_12m1 r_17 r_19)))] := hD
                  refine lv_aload_n hx hb dX9_drift_101 rfl (lv_at hl 3 rfl) ?_
                  refine va_get (D := D) (ci := 9) (v := .ref nw) (C := RX9) (T := TX9) (N := 17) hx hb hts iX9 hown hK hP 4 rfl rfl 6 (Nat.le_of_ble_eq_true rfl) (hts _ wd_96) (fun _ h9 => h9) rfl dX9_drift_102 ?_
                  refine lv_iconst (v := 1) hx hb dX9_drift_105 rfl ?_
                  refine cVv (wr := [(t, .inr (8, [.int t0, .int t1, .int t2, .int t3, .int t4, .ref ta, .ref tb, .ref tc, .ref td, .ref te])), (ps, .inr (2, [.ref sh, .int w_12m2, .int w_12m3])), (sh, .inr (6, [.int 20, .ref shc])), (shc, .inl (cI, 820, .inl w_12m4)), (h, .inr (9, [.ref x, .int q1, .int q2, .ref rd, .ref t, .ref d, .ref nw, .ref ps, .ref im, .ref is_, .int q10, .ref bk, .int u_18, .ref qr, .ref pr, .ref cv, .ref ft]))]) (rest := []) (e_spendMinutes nw nwc (f_e_embitter w_12m1 r_17 r_19) 1) okV_X7_spendMinutes wd_295 hx hb hml hown hts hK hP hD hS hA hN hl.1 [5, 6] [0, 1, 2, 3, 4] rfl rfl rfl rfl (of_decide_eq_true rfl) rfl rfl rfl (Nat.le_of_ble_eq_true rfl) (Nat.le_of_ble_eq_true rfl) (Nat.le_of_ble_eq_true rfl) (Nat.le_of_ble_eq_true rfl) (Nat.le_of_ble_eq_true rfl) dX9_drift_106 (fun u_27 H locs hw_u_27 hP hD hS => ?_)
                  replace hw_u_27 : u_27 = (f_e_spendMinutes (f_e_embitter w_12m1 r_17 r_19) 1) := hw_u_27
                  subst hw_u_27
                  have hP : va_P D classes [(t, .inr (8, [.int t0, .int t1, .int t2, .int t3, .int t4, .ref ta, .ref tb, .ref tc, .ref td, .ref te])), (ps, .inr (2, [.ref sh, .int w_12m2, .int w_12m3])), (sh, .inr (6, [.int 20, .ref shc])), (shc, .inl (cI, 820, .inl w_12m4)), (h, .inr (9, [.ref x, .int q1, .int q2, .ref rd, .ref t, .ref d, .ref nw, .ref ps, .ref im, .ref is_, .int q10, .ref bk, .int u_18, .ref qr, .ref pr, .ref cv, .ref ft])), (nw, .inr (7, [.ref nwc])), (nwc, .inl (cI, 41, .inl (f_e_spendMinutes (f_e_embitter w_12m1 r_17 r_19) 1)))] H := hP
                  have hD : va_D A [(t, .inr (8, [.int t0, .int t1, .int t2, .int t3, .int t4, .ref ta, .ref tb, .ref tc, .ref td, .ref te])), (ps, .inr (2, [.ref sh, .int w_12m2, .int w_12m3])), (sh, .inr (6, [.int 20, .ref shc])), (shc, .inl (cI, 820, .inl w_12m4)), (h, .inr (9, [.ref x, .int q1, .int q2, .ref rd, .ref t, .ref d, .ref nw, .ref ps, .ref im, .ref is_, .int q10, .ref bk, .int u_18, .ref qr, .ref pr, .ref cv, .ref ft])), (nw, .inr (7, [.ref nwc])), (nwc, .inl (cI, 41, .inl (f_e_spendMinutes (f_e_embitter w_12m1 r_17 r_19) 1)))] := hD
                  refine lv_iinc (v := (w_12l2 + 1)) (lv' := [(2, .int (w_12l2 + 1)), (4, .int r_19), (3, .int r_17), (0, .ref h), (1, .int n_)]) hx hb dX9_drift_109 hl (k := 2) rfl rfl (Nat.le_of_ble_eq_true rfl) rfl (fun ls hl => ?_)
                  refine lv_goto (tgt := 55) hx hb dX9_drift_112 rfl ?_
                  exact ih_w_12 (w_12l2 + 1) u_18 (f_e_spendMinutes (f_e_embitter w_12m1 r_17 r_19) 1) w_12m2 w_12m3 w_12m4 _ _ ls (cutP (isC := [4, 0, 1, 2, 3, 5, 6]) hP rfl) (cutD (isC := [4, 0, 1, 2, 3, 5, 6]) hD rfl rfl) hS (lv_sub hl [0, 3, 4] rfl) (up_step c_15 hm) hE
          exact lp_55_w_12 (((n_ : Int32).toInt - (0 : Int32).toInt).toNat + 1) 0 q12 fn o_9 o_10 o_11 _ _ ls hP hD hS hl (Nat.lt_succ_self _) hE
        · rw [if_neg c_6] at hE
          refine lv_ldc (v := (-1000000004)) hx hb hown (hts _ wd_341) dX9_drift_39 ?_
          exact hret (-1000000004) (q12, fn, p1, p2, fsh) _ _ _ _ dX9_drift_41 rfl hE (cutP (isC := [0, 1, 5, 6, 2, 3, 4]) hP rfl) (cutD (isC := [0, 1, 5, 6, 2, 3, 4]) hD rfl rfl) hS
      · rw [if_pos c_3] at hE
        refine lv_ldc (v := (-1000000003)) hx hb hown (hts _ wd_384) dX9_drift_24 ?_
        exact hret (-1000000003) (q12, fn, p1, p2, fsh) _ _ _ _ dX9_drift_26 rfl hE hP hD hS
    · rw [if_neg c_2] at hE
      refine lv_ldc (v := (-1000000002)) hx hb hown (hts _ wd_339) dX9_drift_11 ?_
      exact hret (-1000000002) (q12, fn, p1, p2, fsh) _ _ _ _ dX9_drift_13 rfl hE hP hD hS
noncomputable def f_e_undo_x9 (q1 : Int32) (q2 : Int32) (q10 : Int32) (q12 : Int32) (p1 : Int32) (p2 : Int32) (fsh : Nat → Int32) (fn : Nat → Int32) : Int32 × Int32 × (Nat → Int32) := (if p2 = 0 then ((-1000000003), p2, fn) else (match (f_e_takeBack_x2 p1 p2 fsh fn) with | (o_4, o_5) => (o_4, o_4, o_5)))
def rm_e_undo_x9 : Room := { frames := 3, cells := 0, slots := 0, locals := 103 }
set_option maxHeartbeats 4000000 in
set_option maxRecDepth 100000 in
theorem e_undo_x9 {l : Launch} {D : va_G} {cI cZ : ClassId} {sz : Nat} (h x rd t d nw ps im is_ bk qr pr cv ft sh shc nwc : Nat) (q1 : Int32) (q2 : Int32) (q10 : Int32) (q12 : Int32) (p1 : Int32) (p2 : Int32) (fsh : Nat → Int32) (fn : Nat → Int32) : KI l yX9_undo cX9_undo 1 (some .int) rm_e_undo_x9 D cI cZ [.ref h] sz [(h, .inr (9, [.ref x, .int q1, .int q2, .ref rd, .ref t, .ref d, .ref nw, .ref ps, .ref im, .ref is_, .int q10, .ref bk, .int q12, .ref qr, .ref pr, .ref cv, .ref ft])), (ps, .inr (2, [.ref sh, .int p1, .int p2])), (sh, .inr (6, [.int 20, .ref shc])), (shc, .inl (cI, 820, .inl fsh)), (nw, .inr (7, [.ref nwc])), (nwc, .inl (cI, 41, .inl fn))] (fun (r : Int32) (u : Int32 × (Nat → Int32)) => (r, u) = f_e_undo_x9 q1 q2 q10 q12 p1 p2 fsh fn) (fun (u : Int32 × (Nat → Int32)) => [(h, .inr (9, [.ref x, .int q1, .int q2, .ref rd, .ref t, .ref d, .ref nw, .ref ps, .ref im, .ref is_, .int q10, .ref bk, .int q12, .ref qr, .ref pr, .ref cv, .ref ft])), (ps, .inr (2, [.ref sh, .int p1, .int (u.1)])), (sh, .inr (6, [.int 20, .ref shc])), (shc, .inl (cI, 820, .inl fsh)), (nw, .inr (7, [.ref nwc])), (nwc, .inl (cI, 41, .inl u.2))]) := by
  refine KI.go rfl (Nat.le_of_ble_eq_true rfl) ?_
  intro p e s m args below meth c ls A Q hx hb hml hts hown hin hP hK hD hS hA hN hl hret
  have hl : lv_has ls 1 [(0, .ref h)] := hl
  obtain ⟨RES, hE⟩ : ∃ xRES, f_e_undo_x9 q1 q2 q10 q12 p1 p2 fsh fn = xRES := ⟨_, rfl⟩
  rw [hE] at hret
  rw [f_e_undo_x9] at hE
  refine lv_aload_n hx hb dX9_undo_0 rfl (lv_at hl 0 rfl) ?_
  refine va_get (D := D) (ci := 9) (v := .ref ps) (C := RX9) (T := TX9) (N := 17) hx hb hts iX9 hown hK hP 0 rfl rfl 7 (Nat.le_of_ble_eq_true rfl) (hts _ wd_102) (fun _ h9 => h9) rfl dX9_undo_1 ?_
  refine va_get (D := D) (ci := 2) (v := .int p2) (C := RX2) (T := TX2) (N := 3) hx hb hts iX2 hown hK hP 1 rfl rfl 2 (Nat.le_of_ble_eq_true rfl) (hts _ wd_383) (fun _ h9 => h9) rfl dX9_undo_4 ?_
  refine lv_if_ne (tgt := 13) hx hb dX9_undo_7 rfl (fun c_1 => ?_) (fun c_1 => ?_)
  · rw [if_neg c_1] at hE
    refine lv_aload_n hx hb dX9_undo_13 rfl (lv_at hl 0 rfl) ?_
    refine va_get (D := D) (ci := 9) (v := .ref ps) (C := RX9) (T := TX9) (N := 17) hx hb hts iX9 hown hK hP 0 rfl rfl 7 (Nat.le_of_ble_eq_true rfl) (hts _ wd_102) (fun _ h9 => h9) rfl dX9_undo_14 ?_
    refine lv_aload_n hx hb dX9_undo_17 rfl (lv_at hl 0 rfl) ?_
    refine va_get (D := D) (ci := 9) (v := .ref nw) (C := RX9) (T := TX9) (N := 17) hx hb hts iX9 hown hK hP 0 rfl rfl 6 (Nat.le_of_ble_eq_true rfl) (hts _ wd_96) (fun _ h9 => h9) rfl dX9_undo_18 ?_
    refine cVv (wr := [(h, .inr (9, [.ref x, .int q1, .int q2, .ref rd, .ref t, .ref d, .ref nw, .ref ps, .ref im, .ref is_, .int q10, .ref bk, .int q12, .ref qr, .ref pr, .ref cv, .ref ft]))]) (rest := []) (e_takeBack_x2 ps sh shc nw nwc p1 p2 fsh fn) okV_X2_takeBack wd_403 hx hb hml hown hts hK hP hD hS hA hN hl.1 [1, 2, 3, 4, 5] [0] rfl rfl rfl rfl (of_decide_eq_true rfl) rfl rfl rfl (Nat.le_of_ble_eq_true rfl) (Nat.le_of_ble_eq_true rfl) (Nat.le_of_ble_eq_true rfl) (Nat.le_of_ble_eq_true rfl) (Nat.le_of_ble_eq_true rfl) dX9_undo_21 (fun u_2 H locs hw_u_2 hP hD hS => ?_)
    obtain ⟨o_4, o_5⟩ := u_2
    replace hw_u_2 : (o_4, o_5) = (f_e_takeBack_x2 p1 p2 fsh fn) := hw_u_2
    rw [← hw_u_2] at hE
    replace hE : (o_4, o_4, o_5) = RES := hE
    have hP : va_P D classes [(h, .inr (9, [.ref x, .int q1, .int q2, .ref rd, .ref t, .ref d, .ref nw, .ref ps, .ref im, .ref is_, .int q10, .ref bk, .int q12, .ref qr, .ref pr, .ref cv, .ref ft])), (ps, .inr (2, [.ref sh, .int p1, .int o_4])), (sh, .inr (6, [.int 20, .ref shc])), (shc, .inl (cI, 820, .inl fsh)), (nw, .inr (7, [.ref nwc])), (nwc, .inl (cI, 41, .inl o_5))] H := hP
    have hD : va_D A [(h, .inr (9, [.ref x, .int q1, .int q2, .ref rd, .ref t, .ref d, .ref nw, .ref ps, .ref im, .ref is_, .int q10, .ref bk, .int q12, .ref qr, .ref pr, .ref cv, .ref ft])), (ps, .inr (2, [.ref sh, .int p1, .int o_4])), (sh, .inr (6, [.int 20, .ref shc])), (shc, .inl (cI, 820, .inl fsh)), (nw, .inr (7, [.ref nwc])), (nwc, .inl (cI, 41, .inl o_5))] := hD
    refine lv_aload_n hx hb dX9_undo_24 rfl (lv_at hl 0 rfl) ?_
    refine va_get (D := D) (ci := 9) (v := .ref ps) (C := RX9) (T := TX9) (N := 17) hx hb hts iX9 hown hK hP 0 rfl rfl 7 (Nat.le_of_ble_eq_true rfl) (hts _ wd_102) (fun _ h9 => h9) rfl dX9_undo_25 ?_
    refine va_get (D := D) (ci := 2) (v := .int o_4) (C := RX2) (T := TX2) (N := 3) hx hb hts iX2 hown hK hP 1 rfl rfl 2 (Nat.le_of_ble_eq_true rfl) (hts _ wd_383) (fun _ h9 => h9) rfl dX9_undo_28 ?_
    exact hret o_4 (o_4, o_5) _ _ _ _ dX9_undo_31 rfl hE hP hD hS
  · rw [if_pos c_1] at hE
    refine lv_ldc (v := (-1000000003)) hx hb hown (hts _ wd_384) dX9_undo_10 ?_
    exact hret (-1000000003) (p2, fn) _ _ _ _ dX9_undo_12 rfl hE hP hD hS
noncomputable def f_e_could_x9 (q1 : Int32) (q2 : Int32) (q10 : Int32) (q12 : Int32) (k0 : Int32) (k1 : Int32) (k2 : Int32) (k3 : Int32) (k4 : Int32) (t0 : Int32) (t1 : Int32) (t2 : Int32) (t3 : Int32) (t4 : Int32) (fta : Nat → Int32) (ftc : Nat → Int32) (fn : Nat → Int32) (c_ : Int32) (b_ : Int32) (e_ : Int32) (w_ : Int32) : Int32 × Int32 × Int32 × Int32 × Int32 × Int32 := (if (f_e_hasCouple t0 t1 t2 t3 t4 c_) = 0 then ((-1000000001), k0, k1, k2, k3, k4) else (if (f_e_hasBridge t0 t1 t2 t3 t4 b_) = 0 then ((-1000000001), k0, k1, k2, k3, k4) else (if (f_e_hasTheme t0 t1 t2 t3 t4 e_) = 0 then ((-1000000001), k0, k1, k2, k3, k4) else (if w_ = 0 then (if (f_e_isReconciled fn c_) = 0 then (match (f_e_attempt_x9 q1 q2 q10 q12 k0 k1 k2 k3 k4 t0 t1 t2 t3 t4 fta ftc fn c_ b_ e_) with | (o_16, o_17, o_18, o_19, o_20) => (if o_19 = 0 then ((-1), o_16, o_17, o_18, o_19, o_20) else (if w_ = 0 then (o_16, o_16, o_17, o_18, o_19, o_20) else (o_17, o_16, o_17, o_18, o_19, o_20)))) else ((-1), k0, k1, k2, k3, k4)) else (if w_ = 1 then (if (f_e_isReconciled fn c_) = 0 then (match (f_e_attempt_x9 q1 q2 q10 q12 k0 k1 k2 k3 k4 t0 t1 t2 t3 t4 fta ftc fn c_ b_ e_) with | (o_29, o_30, o_31, o_32, o_33) => (if o_32 = 0 then ((-1), o_29, o_30, o_31, o_32, o_33) else (if w_ = 0 then (o_29, o_29, o_30, o_31, o_32, o_33) else (o_30, o_29, o_30, o_31, o_32, o_33)))) else ((-1), k0, k1, k2, k3, k4)) else ((-1000000002), k0, k1, k2, k3, k4))))))
def rm_e_could_x9 : Room := { frames := 4, cells := 0, slots := 0, locals := 102 }
set_option maxHeartbeats 4000000 in
set_option maxRecDepth 100000 in
theorem e_could_x9 {l : Launch} {D : va_G} {cI cZ : ClassId} {sz : Nat} (h x rd t d nw ps im is_ bk qr pr cv ft ta tb tc td te nwc : Nat) (q1 : Int32) (q2 : Int32) (q10 : Int32) (q12 : Int32) (k0 : Int32) (k1 : Int32) (k2 : Int32) (k3 : Int32) (k4 : Int32) (t0 : Int32) (t1 : Int32) (t2 : Int32) (t3 : Int32) (t4 : Int32) (fta : Nat → Int32) (ftc : Nat → Int32) (fn : Nat → Int32) (c_ : Int32) (b_ : Int32) (e_ : Int32) (w_ : Int32) : KI l yX9_could cX9_could 5 (some .int) rm_e_could_x9 D cI cZ [.ref h, .int c_, .int b_, .int e_, .int w_] sz [(h, .inr (9, [.ref x, .int q1, .int q2, .ref rd, .ref t, .ref d, .ref nw, .ref ps, .ref im, .ref is_, .int q10, .ref bk, .int q12, .ref qr, .ref pr, .ref cv, .ref ft])), (qr, .inr (4, [.int k0, .int k1, .int k2, .int k3, .int k4])), (t, .inr (8, [.int t0, .int t1, .int t2, .int t3, .int t4, .ref ta, .ref tb, .ref tc, .ref td, .ref te])), (ta, .inl (cI, 6, .inl fta)), (tc, .inl (cI, 30, .inl ftc)), (nw, .inr (7, [.ref nwc])), (nwc, .inl (cI, 41, .inl fn))] (fun (r : Int32) (u : Int32 × Int32 × Int32 × Int32 × Int32) => (r, u) = f_e_could_x9 q1 q2 q10 q12 k0 k1 k2 k3 k4 t0 t1 t2 t3 t4 fta ftc fn c_ b_ e_ w_) (fun (u : Int32 × Int32 × Int32 × Int32 × Int32) => [(h, .inr (9, [.ref x, .int q1, .int q2, .ref rd, .ref t, .ref d, .ref nw, .ref ps, .ref im, .ref is_, .int q10, .ref bk, .int q12, .ref qr, .ref pr, .ref cv, .ref ft])), (qr, .inr (4, [.int (u.1), .int (u.2.1), .int (u.2.2.1), .int (u.2.2.2.1), .int (u.2.2.2.2)])), (t, .inr (8, [.int t0, .int t1, .int t2, .int t3, .int t4, .ref ta, .ref tb, .ref tc, .ref td, .ref te])), (ta, .inl (cI, 6, .inl fta)), (tc, .inl (cI, 30, .inl ftc)), (nw, .inr (7, [.ref nwc])), (nwc, .inl (cI, 41, .inl fn))]) := by
  refine KI.go rfl (Nat.le_of_ble_eq_true rfl) ?_
  intro p e s m args below meth c ls A Q hx hb hml hts hown hin hP hK hD hS hA hN hl hret
  have hl : lv_has ls 5 [(0, .ref h), (1, .int c_), (2, .int b_), (3, .int e_), (4, .int w_)] := hl
  obtain ⟨RES, hE⟩ : ∃ xRES, f_e_could_x9 q1 q2 q10 q12 k0 k1 k2 k3 k4 t0 t1 t2 t3 t4 fta ftc fn c_ b_ e_ w_ = xRES := ⟨_, rfl⟩
  rw [hE] at hret
  rw [f_e_could_x9] at hE
  refine lv_aload_n hx hb dX9_could_0 rfl (lv_at hl 0 rfl) ?_
  refine va_get (D := D) (ci := 9) (v := .ref t) (C := RX9) (T := TX9) (N := 17) hx hb hts iX9 hown hK hP 0 rfl rfl 4 (Nat.le_of_ble_eq_true rfl) (hts _ wd_89) (fun _ h9 => h9) rfl dX9_could_1 ?_
  refine lv_iload_n hx hb dX9_could_4 rfl (lv_at hl 1 rfl) ?_
  refine cVi (wr := [(h, .inr (9, [.ref x, .int q1, .int q2, .ref rd, .ref t, .ref d, .ref nw, .ref ps, .ref im, .ref is_, .int q10, .ref bk, .int q12, .ref qr, .ref pr, .ref cv, .ref ft])), (qr, .inr (4, [.int k0, .int k1, .int k2, .int k3, .int k4])), (ta, .inl (cI, 6, .inl fta)), (tc, .inl (cI, 30, .inl ftc)), (nw, .inr (7, [.ref nwc])), (nwc, .inl (cI, 41, .inl fn))]) (rest := []) (e_hasCouple t ta tb tc td te t0 t1 t2 t3 t4 c_) okV_X8_hasCouple wd_347 hx hb hml hown hts hK hP hD hS hA hN hl.1 [2] [0, 1, 3, 4, 5, 6] rfl rfl rfl rfl (of_decide_eq_true rfl) rfl rfl rfl (Nat.le_of_ble_eq_true rfl) (Nat.le_of_ble_eq_true rfl) (Nat.le_of_ble_eq_true rfl) (Nat.le_of_ble_eq_true rfl) (Nat.le_of_ble_eq_true rfl) dX9_could_5 (fun r_2 u_1 H locs hw_u_1 hP hD hS => ?_)
  replace hw_u_1 : r_2 = (f_e_hasCouple t0 t1 t2 t3 t4 c_) := hw_u_1
  rw [hw_u_1]
  clear hw_u_1
  have hP : va_P D classes [(h, .inr (9, [.ref x, .int q1, .int q2, .ref rd, .ref t, .ref d, .ref nw, .ref ps, .ref im, .ref is_, .int q10, .ref bk, .int q12, .ref qr, .ref pr, .ref cv, .ref ft])), (qr, .inr (4, [.int k0, .int k1, .int k2, .int k3, .int k4])), (ta, .inl (cI, 6, .inl fta)), (tc, .inl (cI, 30, .inl ftc)), (nw, .inr (7, [.ref nwc])), (nwc, .inl (cI, 41, .inl fn)), (t, .inr (8, [.int t0, .int t1, .int t2, .int t3, .int t4, .ref ta, .ref tb, .ref tc, .ref td, .ref te]))] H := hP
  have hD : va_D A [(h, .inr (9, [.ref x, .int q1, .int q2, .ref rd, .ref t, .ref d, .ref nw, .ref ps, .ref im, .ref is_, .int q10, .ref bk, .int q12, .ref qr, .ref pr, .ref cv, .ref ft])), (qr, .inr (4, [.int k0, .int k1, .int k2, .int k3, .int k4])), (ta, .inl (cI, 6, .inl fta)), (tc, .inl (cI, 30, .inl ftc)), (nw, .inr (7, [.ref nwc])), (nwc, .inl (cI, 41, .inl fn)), (t, .inr (8, [.int t0, .int t1, .int t2, .int t3, .int t4, .ref ta, .ref tb, .ref tc, .ref td, .ref te]))] := hD
  refine lv_if_eq (tgt := 33) hx hb dX9_could_8 rfl (fun c_3 => ?_) (fun c_3 => ?_)
  · rw [if_pos c_3] at hE
    refine lv_ldc (v := (-1000000001)) hx hb hown (hts _ wd_346) dX9_could_33 ?_
    exact hret (-1000000001) (k0, k1, k2, k3, k4) _ _ _ _ dX9_could_35 rfl hE (cutP (isC := [0, 1, 6, 2, 3, 4, 5]) hP rfl) (cutD (isC := [0, 1, 6, 2, 3, 4, 5]) hD rfl rfl) hS
  · rw [if_neg c_3] at hE
    refine lv_aload_n hx hb dX9_could_11 rfl (lv_at hl 0 rfl) ?_
    refine va_get (D := D) (ci := 9) (v := .ref t) (C := RX9) (T := TX9) (N := 17) hx hb hts iX9 hown hK hP 0 rfl rfl 4 (Nat.le_of_ble_eq_true rfl) (hts _ wd_89) (fun _ h9 => h9) rfl dX9_could_12 ?_
    refine lv_iload_n hx hb dX9_could_15 rfl (lv_at hl 2 rfl) ?_
    refine cVi (wr := [(h, .inr (9, [.ref x, .int q1, .int q2, .ref rd, .ref t, .ref d, .ref nw, .ref ps, .ref im, .ref is_, .int q10, .ref bk, .int q12, .ref qr, .ref pr, .ref cv, .ref ft])), (qr, .inr (4, [.int k0, .int k1, .int k2, .int k3, .int k4])), (ta, .inl (cI, 6, .inl fta)), (tc, .inl (cI, 30, .inl ftc)), (nw, .inr (7, [.ref nwc])), (nwc, .inl (cI, 41, .inl fn))]) (rest := []) (e_hasBridge t ta tb tc td te t0 t1 t2 t3 t4 b_) okV_X8_hasBridge wd_342 hx hb hml hown hts hK hP hD hS hA hN hl.1 [6] [0, 1, 2, 3, 4, 5] rfl rfl rfl rfl (of_decide_eq_true rfl) rfl rfl rfl (Nat.le_of_ble_eq_true rfl) (Nat.le_of_ble_eq_true rfl) (Nat.le_of_ble_eq_true rfl) (Nat.le_of_ble_eq_true rfl) (Nat.le_of_ble_eq_true rfl) dX9_could_16 (fun r_5 u_4 H locs hw_u_4 hP hD hS => ?_)
    replace hw_u_4 : r_5 = (f_e_hasBridge t0 t1 t2 t3 t4 b_) := hw_u_4
    rw [hw_u_4]
    clear hw_u_4
    have hP : va_P D classes [(h, .inr (9, [.ref x, .int q1, .int q2, .ref rd, .ref t, .ref d, .ref nw, .ref ps, .ref im, .ref is_, .int q10, .ref bk, .int q12, .ref qr, .ref pr, .ref cv, .ref ft])), (qr, .inr (4, [.int k0, .int k1, .int k2, .int k3, .int k4])), (ta, .inl (cI, 6, .inl fta)), (tc, .inl (cI, 30, .inl ftc)), (nw, .inr (7, [.ref nwc])), (nwc, .inl (cI, 41, .inl fn)), (t, .inr (8, [.int t0, .int t1, .int t2, .int t3, .int t4, .ref ta, .ref tb, .ref tc, .ref td, .ref te]))] H := hP
    have hD : va_D A [(h, .inr (9, [.ref x, .int q1, .int q2, .ref rd, .ref t, .ref d, .ref nw, .ref ps, .ref im, .ref is_, .int q10, .ref bk, .int q12, .ref qr, .ref pr, .ref cv, .ref ft])), (qr, .inr (4, [.int k0, .int k1, .int k2, .int k3, .int k4])), (ta, .inl (cI, 6, .inl fta)), (tc, .inl (cI, 30, .inl ftc)), (nw, .inr (7, [.ref nwc])), (nwc, .inl (cI, 41, .inl fn)), (t, .inr (8, [.int t0, .int t1, .int t2, .int t3, .int t4, .ref ta, .ref tb, .ref tc, .ref td, .ref te]))] := hD
    refine lv_if_eq (tgt := 33) hx hb dX9_could_19 rfl (fun c_6 => ?_) (fun c_6 => ?_)
    · rw [if_pos c_6] at hE
      refine lv_ldc (v := (-1000000001)) hx hb hown (hts _ wd_346) dX9_could_33 ?_
      exact hret (-1000000001) (k0, k1, k2, k3, k4) _ _ _ _ dX9_could_35 rfl hE (cutP (isC := [0, 1, 6, 2, 3, 4, 5]) hP rfl) (cutD (isC := [0, 1, 6, 2, 3, 4, 5]) hD rfl rfl) hS
    · rw [if_neg c_6] at hE
      refine lv_aload_n hx hb dX9_could_22 rfl (lv_at hl 0 rfl) ?_
      refine va_get (D := D) (ci := 9) (v := .ref t) (C := RX9) (T := TX9) (N := 17) hx hb hts iX9 hown hK hP 0 rfl rfl 4 (Nat.le_of_ble_eq_true rfl) (hts _ wd_89) (fun _ h9 => h9) rfl dX9_could_23 ?_
      refine lv_iload_n hx hb dX9_could_26 rfl (lv_at hl 3 rfl) ?_
      refine cVi (wr := [(h, .inr (9, [.ref x, .int q1, .int q2, .ref rd, .ref t, .ref d, .ref nw, .ref ps, .ref im, .ref is_, .int q10, .ref bk, .int q12, .ref qr, .ref pr, .ref cv, .ref ft])), (qr, .inr (4, [.int k0, .int k1, .int k2, .int k3, .int k4])), (ta, .inl (cI, 6, .inl fta)), (tc, .inl (cI, 30, .inl ftc)), (nw, .inr (7, [.ref nwc])), (nwc, .inl (cI, 41, .inl fn))]) (rest := []) (e_hasTheme t ta tb tc td te t0 t1 t2 t3 t4 e_) okV_X8_hasTheme wd_353 hx hb hml hown hts hK hP hD hS hA hN hl.1 [6] [0, 1, 2, 3, 4, 5] rfl rfl rfl rfl (of_decide_eq_true rfl) rfl rfl rfl (Nat.le_of_ble_eq_true rfl) (Nat.le_of_ble_eq_true rfl) (Nat.le_of_ble_eq_true rfl) (Nat.le_of_ble_eq_true rfl) (Nat.le_of_ble_eq_true rfl) dX9_could_27 (fun r_8 u_7 H locs hw_u_7 hP hD hS => ?_)
      replace hw_u_7 : r_8 = (f_e_hasTheme t0 t1 t2 t3 t4 e_) := hw_u_7
      rw [hw_u_7]
      clear hw_u_7
      have hP : va_P D classes [(h, .inr (9, [.ref x, .int q1, .int q2, .ref rd, .ref t, .ref d, .ref nw, .ref ps, .ref im, .ref is_, .int q10, .ref bk, .int q12, .ref qr, .ref pr, .ref cv, .ref ft])), (qr, .inr (4, [.int k0, .int k1, .int k2, .int k3, .int k4])), (ta, .inl (cI, 6, .inl fta)), (tc, .inl (cI, 30, .inl ftc)), (nw, .inr (7, [.ref nwc])), (nwc, .inl (cI, 41, .inl fn)), (t, .inr (8, [.int t0, .int t1, .int t2, .int t3, .int t4, .ref ta, .ref tb, .ref tc, .ref td, .ref te]))] H := hP
      have hD : va_D A [(h, .inr (9, [.ref x, .int q1, .int q2, .ref rd, .ref t, .ref d, .ref nw, .ref ps, .ref im, .ref is_, .int q10, .ref bk, .int q12, .ref qr, .ref pr, .ref cv, .ref ft])), (qr, .inr (4, [.int k0, .int k1, .int k2, .int k3, .int k4])), (ta, .inl (cI, 6, .inl fta)), (tc, .inl (cI, 30, .inl ftc)), (nw, .inr (7, [.ref nwc])), (nwc, .inl (cI, 41, .inl fn)), (t, .inr (8, [.int t0, .int t1, .int t2, .int t3, .int t4, .ref ta, .ref tb, .ref tc, .ref td, .ref te]))] := hD
      refine lv_if_ne (tgt := 36) hx hb dX9_could_30 rfl (fun c_9 => ?_) (fun c_9 => ?_)
      · rw [if_neg c_9] at hE
        refine lv_iload hx hb dX9_could_36 (lv_at hl 4 rfl) ?_
        refine lv_if_eq (tgt := 50) hx hb dX9_could_38 rfl (fun c_10 => ?_) (fun c_10 => ?_)
        · rw [if_pos c_10] at hE
          refine lv_aload_n hx hb dX9_could_50 rfl (lv_at hl 0 rfl) ?_
          refine va_get (D := D) (ci := 9) (v := .ref nw) (C := RX9) (T := TX9) (N := 17) hx hb hts iX9 hown hK hP 0 rfl rfl 6 (Nat.le_of_ble_eq_true rfl) (hts _ wd_96) (fun _ h9 => h9) rfl dX9_could_51 ?_
          refine lv_iload_n hx hb dX9_could_54 rfl (lv_at hl 1 rfl) ?_
          refine cVi (wr := [(h, .inr (9, [.ref x, .int q1, .int q2, .ref rd, .ref t, .ref d, .ref nw, .ref ps, .ref im, .ref is_, .int q10, .ref bk, .int q12, .ref qr, .ref pr, .ref cv, .ref ft])), (qr, .inr (4, [.int k0, .int k1, .int k2, .int k3, .int k4])), (ta, .inl (cI, 6, .inl fta)), (tc, .inl (cI, 30, .inl ftc)), (t, .inr (8, [.int t0, .int t1, .int t2, .int t3, .int t4, .ref ta, .ref tb, .ref tc, .ref td, .ref te]))]) (rest := []) (e_isReconciled nw nwc fn c_) okV_X7_isReconciled wd_265 hx hb hml hown hts hK hP hD hS hA hN hl.1 [4, 5] [0, 1, 2, 3, 6] rfl rfl rfl rfl (of_decide_eq_true rfl) rfl rfl rfl (Nat.le_of_ble_eq_true rfl) (Nat.le_of_ble_eq_true rfl) (Nat.le_of_ble_eq_true rfl) (Nat.le_of_ble_eq_true rfl) (Nat.le_of_ble_eq_true rfl) dX9_could_55 (fun r_12 u_11 H locs hw_u_11 hP hD hS => ?_)
          replace hw_u_11 : r_12 = (f_e_isReconciled fn c_) := hw_u_11
          rw [hw_u_11]
          clear hw_u_11
          have hP : va_P D classes [(h, .inr (9, [.ref x, .int q1, .int q2, .ref rd, .ref t, .ref d, .ref nw, .ref ps, .ref im, .ref is_, .int q10, .ref bk, .int q12, .ref qr, .ref pr, .ref cv, .ref ft])), (qr, .inr (4, [.int k0, .int k1, .int k2, .int k3, .int k4])), (ta, .inl (cI, 6, .inl fta)), (tc, .inl (cI, 30, .inl ftc)), (t, .inr (8, [.int t0, .int t1, .int t2, .int t3, .int t4, .ref ta, .ref tb, .ref tc, .ref td, .ref te])), (nw, .inr (7, [.ref nwc])), (nwc, .inl (cI, 41, .inl fn))] H := hP
          have hD : va_D A [(h, .inr (9, [.ref x, .int q1, .int q2, .ref rd, .ref t, .ref d, .ref nw, .ref ps, .ref im, .ref is_, .int q10, .ref bk, .int q12, .ref qr, .ref pr, .ref cv, .ref ft])), (qr, .inr (4, [.int k0, .int k1, .int k2, .int k3, .int k4])), (ta, .inl (cI, 6, .inl fta)), (tc, .inl (cI, 30, .inl ftc)), (t, .inr (8, [.int t0, .int t1, .int t2, .int t3, .int t4, .ref ta, .ref tb, .ref tc, .ref td, .ref te])), (nw, .inr (7, [.ref nwc])), (nwc, .inl (cI, 41, .inl fn))] := hD
          refine lv_if_eq (tgt := 63) hx hb dX9_could_58 rfl (fun c_13 => ?_) (fun c_13 => ?_)
          · rw [if_pos c_13] at hE
            refine lv_aload_n hx hb dX9_could_63 rfl (lv_at hl 0 rfl) ?_
            refine lv_iload_n hx hb dX9_could_64 rfl (lv_at hl 1 rfl) ?_
            refine lv_iload_n hx hb dX9_could_65 rfl (lv_at hl 2 rfl) ?_
            refine lv_iload_n hx hb dX9_could_66 rfl (lv_at hl 3 rfl) ?_
            refine cVv (wr := []) (rest := []) (e_attempt_x9 h x rd t d nw ps im is_ bk qr pr cv ft ta tb tc td te nwc q1 q2 q10 q12 k0 k1 k2 k3 k4 t0 t1 t2 t3 t4 fta ftc fn c_ b_ e_) okV_X9_attempt wd_270 hx hb hml hown hts hK hP hD hS hA hN hl.1 [0, 1, 4, 2, 3, 5, 6] [] rfl rfl rfl rfl (of_decide_eq_true rfl) rfl rfl rfl (Nat.le_of_ble_eq_true rfl) (Nat.le_of_ble_eq_true rfl) (Nat.le_of_ble_eq_true rfl) (Nat.le_of_ble_eq_true rfl) (Nat.le_of_ble_eq_true rfl) dX9_could_67 (fun u_14 H locs hw_u_14 hP hD hS => ?_)
            obtain ⟨o_16, o_17, o_18, o_19, o_20⟩ := u_14
            have hb_u_14 := att_b q1 q2 q10 q12 k0 k1 k2 k3 k4 t0 t1 t2 t3 t4 fta ftc fn c_ b_ e_
            rw [← show (o_16, o_17, o_18, o_19, o_20) = (f_e_attempt_x9 q1 q2 q10 q12 k0 k1 k2 k3 k4 t0 t1 t2 t3 t4 fta ftc fn c_ b_ e_) from hw_u_14] at hb_u_14
            replace hw_u_14 : (o_16, o_17, o_18, o_19, o_20) = (f_e_attempt_x9 q1 q2 q10 q12 k0 k1 k2 k3 k4 t0 t1 t2 t3 t4 fta ftc fn c_ b_ e_) := hw_u_14
            rw [← hw_u_14] at hE
            replace hE : (if o_19 = 0 then ((-1), o_16, o_17, o_18, o_19, o_20) else (if w_ = 0 then (o_16, o_16, o_17, o_18, o_19, o_20) else (o_17, o_16, o_17, o_18, o_19, o_20))) = RES := hE
            have hP : va_P D classes [(h, .inr (9, [.ref x, .int q1, .int q2, .ref rd, .ref t, .ref d, .ref nw, .ref ps, .ref im, .ref is_, .int q10, .ref bk, .int q12, .ref qr, .ref pr, .ref cv, .ref ft])), (qr, .inr (4, [.int o_16, .int o_17, .int o_18, .int o_19, .int o_20])), (t, .inr (8, [.int t0, .int t1, .int t2, .int t3, .int t4, .ref ta, .ref tb, .ref tc, .ref td, .ref te])), (ta, .inl (cI, 6, .inl fta)), (tc, .inl (cI, 30, .inl ftc)), (nw, .inr (7, [.ref nwc])), (nwc, .inl (cI, 41, .inl fn))] H := hP
            have hD : va_D A [(h, .inr (9, [.ref x, .int q1, .int q2, .ref rd, .ref t, .ref d, .ref nw, .ref ps, .ref im, .ref is_, .int q10, .ref bk, .int q12, .ref qr, .ref pr, .ref cv, .ref ft])), (qr, .inr (4, [.int o_16, .int o_17, .int o_18, .int o_19, .int o_20])), (t, .inr (8, [.int t0, .int t1, .int t2, .int t3, .int t4, .ref ta, .ref tb, .ref tc, .ref td, .ref te])), (ta, .inl (cI, 6, .inl fta)), (tc, .inl (cI, 30, .inl ftc)), (nw, .inr (7, [.ref nwc])), (nwc, .inl (cI, 41, .inl fn))] := hD
            refine lv_aload_n hx hb dX9_could_70 rfl (lv_at hl 0 rfl) ?_
            refine va_get (D := D) (ci := 9) (v := .ref qr) (C := RX9) (T := TX9) (N := 17) hx hb hts iX9 hown hK hP 0 rfl rfl 13 (Nat.le_of_ble_eq_true rfl) (hts _ wd_120) (fun _ h9 => h9) rfl dX9_could_71 ?_
            refine va_get (D := D) (ci := 4) (v := .int o_19) (C := RX4) (T := TX4) (N := 5) hx hb hts iX4 hown hK hP 1 rfl rfl 3 (Nat.le_of_ble_eq_true rfl) (hts _ wd_274) (fun _ h9 => h9) rfl dX9_could_74 ?_
            refine lv_if_ne (tgt := 82) hx hb dX9_could_77 rfl (fun c_21 => ?_) (fun c_21 => ?_)
            · rw [if_neg c_21] at hE
              refine lv_iload hx hb dX9_could_82 (lv_at hl 4 rfl) ?_
              refine lv_if_ne (tgt := 97) hx hb dX9_could_84 rfl (fun c_22 => ?_) (fun c_22 => ?_)
              · rw [if_neg c_22] at hE
                refine lv_aload_n hx hb dX9_could_97 rfl (lv_at hl 0 rfl) ?_
                refine va_get (D := D) (ci := 9) (v := .ref qr) (C := RX9) (T := TX9) (N := 17) hx hb hts iX9 hown hK hP 0 rfl rfl 13 (Nat.le_of_ble_eq_true rfl) (hts _ wd_120) (fun _ h9 => h9) rfl dX9_could_98 ?_
                refine va_get (D := D) (ci := 4) (v := .int o_17) (C := RX4) (T := TX4) (N := 5) hx hb hts iX4 hown hK hP 1 rfl rfl 1 (Nat.le_of_ble_eq_true rfl) (hts _ wd_275) (fun _ h9 => h9) rfl dX9_could_101 ?_
                exact hret o_17 (o_16, o_17, o_18, o_19, o_20) _ _ _ _ dX9_could_104 rfl hE hP hD hS
              · rw [if_pos c_22] at hE
                refine lv_aload_n hx hb dX9_could_87 rfl (lv_at hl 0 rfl) ?_
                refine va_get (D := D) (ci := 9) (v := .ref qr) (C := RX9) (T := TX9) (N := 17) hx hb hts iX9 hown hK hP 0 rfl rfl 13 (Nat.le_of_ble_eq_true rfl) (hts _ wd_120) (fun _ h9 => h9) rfl dX9_could_88 ?_
                refine va_get (D := D) (ci := 4) (v := .int o_16) (C := RX4) (T := TX4) (N := 5) hx hb hts iX4 hown hK hP 1 rfl rfl 0 (Nat.le_of_ble_eq_true rfl) (hts _ wd_264) (fun _ h9 => h9) rfl dX9_could_91 ?_
                refine lv_goto (tgt := 104) hx hb dX9_could_94 rfl ?_
                exact hret o_16 (o_16, o_17, o_18, o_19, o_20) _ _ _ _ dX9_could_104 rfl hE hP hD hS
            · rw [if_pos c_21] at hE
              refine lv_iconst (v := (-1)) hx hb dX9_could_80 rfl ?_
              exact hret (-1) (o_16, o_17, o_18, o_19, o_20) _ _ _ _ dX9_could_81 rfl hE hP hD hS
          · rw [if_neg c_13] at hE
            refine lv_iconst (v := (-1)) hx hb dX9_could_61 rfl ?_
            exact hret (-1) (k0, k1, k2, k3, k4) _ _ _ _ dX9_could_62 rfl hE (cutP (isC := [0, 1, 4, 2, 3, 5, 6]) hP rfl) (cutD (isC := [0, 1, 4, 2, 3, 5, 6]) hD rfl rfl) hS
        · rw [if_neg c_10] at hE
          refine lv_iload hx hb dX9_could_41 (lv_at hl 4 rfl) ?_
          refine lv_iconst (v := 1) hx hb dX9_could_43 rfl ?_
          refine lv_icmp_eq (tgt := 50) hx hb dX9_could_44 rfl (fun c_23 => ?_) (fun c_23 => ?_)
          · rw [if_pos c_23] at hE
            refine lv_aload_n hx hb dX9_could_50 rfl (lv_at hl 0 rfl) ?_
            refine va_get (D := D) (ci := 9) (v := .ref nw) (C := RX9) (T := TX9) (N := 17) hx hb hts iX9 hown hK hP 0 rfl rfl 6 (Nat.le_of_ble_eq_true rfl) (hts _ wd_96) (fun _ h9 => h9) rfl dX9_could_51 ?_
            refine lv_iload_n hx hb dX9_could_54 rfl (lv_at hl 1 rfl) ?_
            refine cVi (wr := [(h, .inr (9, [.ref x, .int q1, .int q2, .ref rd, .ref t, .ref d, .ref nw, .ref ps, .ref im, .ref is_, .int q10, .ref bk, .int q12, .ref qr, .ref pr, .ref cv, .ref ft])), (qr, .inr (4, [.int k0, .int k1, .int k2, .int k3, .int k4])), (ta, .inl (cI, 6, .inl fta)), (tc, .inl (cI, 30, .inl ftc)), (t, .inr (8, [.int t0, .int t1, .int t2, .int t3, .int t4, .ref ta, .ref tb, .ref tc, .ref td, .ref te]))]) (rest := []) (e_isReconciled nw nwc fn c_) okV_X7_isReconciled wd_265 hx hb hml hown hts hK hP hD hS hA hN hl.1 [4, 5] [0, 1, 2, 3, 6] rfl rfl rfl rfl (of_decide_eq_true rfl) rfl rfl rfl (Nat.le_of_ble_eq_true rfl) (Nat.le_of_ble_eq_true rfl) (Nat.le_of_ble_eq_true rfl) (Nat.le_of_ble_eq_true rfl) (Nat.le_of_ble_eq_true rfl) dX9_could_55 (fun r_25 u_24 H locs hw_u_24 hP hD hS => ?_)
            replace hw_u_24 : r_25 = (f_e_isReconciled fn c_) := hw_u_24
            rw [hw_u_24]
            clear hw_u_24
            have hP : va_P D classes [(h, .inr (9, [.ref x, .int q1, .int q2, .ref rd, .ref t, .ref d, .ref nw, .ref ps, .ref im, .ref is_, .int q10, .ref bk, .int q12, .ref qr, .ref pr, .ref cv, .ref ft])), (qr, .inr (4, [.int k0, .int k1, .int k2, .int k3, .int k4])), (ta, .inl (cI, 6, .inl fta)), (tc, .inl (cI, 30, .inl ftc)), (t, .inr (8, [.int t0, .int t1, .int t2, .int t3, .int t4, .ref ta, .ref tb, .ref tc, .ref td, .ref te])), (nw, .inr (7, [.ref nwc])), (nwc, .inl (cI, 41, .inl fn))] H := hP
            have hD : va_D A [(h, .inr (9, [.ref x, .int q1, .int q2, .ref rd, .ref t, .ref d, .ref nw, .ref ps, .ref im, .ref is_, .int q10, .ref bk, .int q12, .ref qr, .ref pr, .ref cv, .ref ft])), (qr, .inr (4, [.int k0, .int k1, .int k2, .int k3, .int k4])), (ta, .inl (cI, 6, .inl fta)), (tc, .inl (cI, 30, .inl ftc)), (t, .inr (8, [.int t0, .int t1, .int t2, .int t3, .int t4, .ref ta, .ref tb, .ref tc, .ref td, .ref te])), (nw, .inr (7, [.ref nwc])), (nwc, .inl (cI, 41, .inl fn))] := hD
            refine lv_if_eq (tgt := 63) hx hb dX9_could_58 rfl (fun c_26 => ?_) (fun c_26 => ?_)
            · rw [if_pos c_26] at hE
              refine lv_aload_n hx hb dX9_could_63 rfl (lv_at hl 0 rfl) ?_
              refine lv_iload_n hx hb dX9_could_64 rfl (lv_at hl 1 rfl) ?_
              refine lv_iload_n hx hb dX9_could_65 rfl (lv_at hl 2 rfl) ?_
              refine lv_iload_n hx hb dX9_could_66 rfl (lv_at hl 3 rfl) ?_
              refine cVv (wr := []) (rest := []) (e_attempt_x9 h x rd t d nw ps im is_ bk qr pr cv ft ta tb tc td te nwc q1 q2 q10 q12 k0 k1 k2 k3 k4 t0 t1 t2 t3 t4 fta ftc fn c_ b_ e_) okV_X9_attempt wd_270 hx hb hml hown hts hK hP hD hS hA hN hl.1 [0, 1, 4, 2, 3, 5, 6] [] rfl rfl rfl rfl (of_decide_eq_true rfl) rfl rfl rfl (Nat.le_of_ble_eq_true rfl) (Nat.le_of_ble_eq_true rfl) (Nat.le_of_ble_eq_true rfl) (Nat.le_of_ble_eq_true rfl) (Nat.le_of_ble_eq_true rfl) dX9_could_67 (fun u_27 H locs hw_u_27 hP hD hS => ?_)
              obtain ⟨o_29, o_30, o_31, o_32, o_33⟩ := u_27
              have hb_u_27 := att_b q1 q2 q10 q12 k0 k1 k2 k3 k4 t0 t1 t2 t3 t4 fta ftc fn c_ b_ e_
              rw [← show (o_29, o_30, o_31, o_32, o_33) = (f_e_attempt_x9 q1 q2 q10 q12 k0 k1 k2 k3 k4 t0 t1 t2 t3 t4 fta ftc fn c_ b_ e_) from hw_u_27] at hb_u_27
              replace hw_u_27 : (o_29, o_30, o_31, o_32, o_33) = (f_e_attempt_x9 q1 q2 q10 q12 k0 k1 k2 k3 k4 t0 t1 t2 t3 t4 fta ftc fn c_ b_ e_) := hw_u_27
              rw [← hw_u_27] at hE
              replace hE : (if o_32 = 0 then ((-1), o_29, o_30, o_31, o_32, o_33) else (if w_ = 0 then (o_29, o_29, o_30, o_31, o_32, o_33) else (o_30, o_29, o_30, o_31, o_32, o_33))) = RES := hE
              have hP : va_P D classes [(h, .inr (9, [.ref x, .int q1, .int q2, .ref rd, .ref t, .ref d, .ref nw, .ref ps, .ref im, .ref is_, .int q10, .ref bk, .int q12, .ref qr, .ref pr, .ref cv, .ref ft])), (qr, .inr (4, [.int o_29, .int o_30, .int o_31, .int o_32, .int o_33])), (t, .inr (8, [.int t0, .int t1, .int t2, .int t3, .int t4, .ref ta, .ref tb, .ref tc, .ref td, .ref te])), (ta, .inl (cI, 6, .inl fta)), (tc, .inl (cI, 30, .inl ftc)), (nw, .inr (7, [.ref nwc])), (nwc, .inl (cI, 41, .inl fn))] H := hP
              have hD : va_D A [(h, .inr (9, [.ref x, .int q1, .int q2, .ref rd, .ref t, .ref d, .ref nw, .ref ps, .ref im, .ref is_, .int q10, .ref bk, .int q12, .ref qr, .ref pr, .ref cv, .ref ft])), (qr, .inr (4, [.int o_29, .int o_30, .int o_31, .int o_32, .int o_33])), (t, .inr (8, [.int t0, .int t1, .int t2, .int t3, .int t4, .ref ta, .ref tb, .ref tc, .ref td, .ref te])), (ta, .inl (cI, 6, .inl fta)), (tc, .inl (cI, 30, .inl ftc)), (nw, .inr (7, [.ref nwc])), (nwc, .inl (cI, 41, .inl fn))] := hD
              refine lv_aload_n hx hb dX9_could_70 rfl (lv_at hl 0 rfl) ?_
              refine va_get (D := D) (ci := 9) (v := .ref qr) (C := RX9) (T := TX9) (N := 17) hx hb hts iX9 hown hK hP 0 rfl rfl 13 (Nat.le_of_ble_eq_true rfl) (hts _ wd_120) (fun _ h9 => h9) rfl dX9_could_71 ?_
              refine va_get (D := D) (ci := 4) (v := .int o_32) (C := RX4) (T := TX4) (N := 5) hx hb hts iX4 hown hK hP 1 rfl rfl 3 (Nat.le_of_ble_eq_true rfl) (hts _ wd_274) (fun _ h9 => h9) rfl dX9_could_74 ?_
              refine lv_if_ne (tgt := 82) hx hb dX9_could_77 rfl (fun c_34 => ?_) (fun c_34 => ?_)
              · rw [if_neg c_34] at hE
                refine lv_iload hx hb dX9_could_82 (lv_at hl 4 rfl) ?_
                refine lv_if_ne (tgt := 97) hx hb dX9_could_84 rfl (fun c_35 => ?_) (fun c_35 => ?_)
                · rw [if_neg c_35] at hE
                  refine lv_aload_n hx hb dX9_could_97 rfl (lv_at hl 0 rfl) ?_
                  refine va_get (D := D) (ci := 9) (v := .ref qr) (C := RX9) (T := TX9) (N := 17) hx hb hts iX9 hown hK hP 0 rfl rfl 13 (Nat.le_of_ble_eq_true rfl) (hts _ wd_120) (fun _ h9 => h9) rfl dX9_could_98 ?_
                  refine va_get (D := D) (ci := 4) (v := .int o_30) (C := RX4) (T := TX4) (N := 5) hx hb hts iX4 hown hK hP 1 rfl rfl 1 (Nat.le_of_ble_eq_true rfl) (hts _ wd_275) (fun _ h9 => h9) rfl dX9_could_101 ?_
                  exact hret o_30 (o_29, o_30, o_31, o_32, o_33) _ _ _ _ dX9_could_104 rfl hE hP hD hS
                · rw [if_pos c_35] at hE
                  refine lv_aload_n hx hb dX9_could_87 rfl (lv_at hl 0 rfl) ?_
                  refine va_get (D := D) (ci := 9) (v := .ref qr) (C := RX9) (T := TX9) (N := 17) hx hb hts iX9 hown hK hP 0 rfl rfl 13 (Nat.le_of_ble_eq_true rfl) (hts _ wd_120) (fun _ h9 => h9) rfl dX9_could_88 ?_
                  refine va_get (D := D) (ci := 4) (v := .int o_29) (C := RX4) (T := TX4) (N := 5) hx hb hts iX4 hown hK hP 1 rfl rfl 0 (Nat.le_of_ble_eq_true rfl) (hts _ wd_264) (fun _ h9 => h9) rfl dX9_could_91 ?_
                  refine lv_goto (tgt := 104) hx hb dX9_could_94 rfl ?_
                  exact hret o_29 (o_29, o_30, o_31, o_32, o_33) _ _ _ _ dX9_could_104 rfl hE hP hD hS
              · rw [if_pos c_34] at hE
                refine lv_iconst (v := (-1)) hx hb dX9_could_80 rfl ?_
                exact hret (-1) (o_29, o_30, o_31, o_32, o_33) _ _ _ _ dX9_could_81 rfl hE hP hD hS
            · rw [if_neg c_26] at hE
              refine lv_iconst (v := (-1)) hx hb dX9_could_61 rfl ?_
              exact hret (-1) (k0, k1, k2, k3, k4) _ _ _ _ dX9_could_62 rfl hE (cutP (isC := [0, 1, 4, 2, 3, 5, 6]) hP rfl) (cutD (isC := [0, 1, 4, 2, 3, 5, 6]) hD rfl rfl) hS
          · rw [if_neg c_23] at hE
            refine lv_ldc (v := (-1000000002)) hx hb hown (hts _ wd_339) dX9_could_47 ?_
            exact hret (-1000000002) (k0, k1, k2, k3, k4) _ _ _ _ dX9_could_49 rfl hE (cutP (isC := [0, 1, 6, 2, 3, 4, 5]) hP rfl) (cutD (isC := [0, 1, 6, 2, 3, 4, 5]) hD rfl rfl) hS
      · rw [if_pos c_9] at hE
        refine lv_ldc (v := (-1000000001)) hx hb hown (hts _ wd_346) dX9_could_33 ?_
        exact hret (-1000000001) (k0, k1, k2, k3, k4) _ _ _ _ dX9_could_35 rfl hE (cutP (isC := [0, 1, 6, 2, 3, 4, 5]) hP rfl) (cutD (isC := [0, 1, 6, 2, 3, 4, 5]) hD rfl rfl) hS
noncomputable def f_e_bestTheme_x9 (q1 : Int32) (q2 : Int32) (q10 : Int32) (q12 : Int32) (k0 : Int32) (k1 : Int32) (k2 : Int32) (k3 : Int32) (k4 : Int32) (t0 : Int32) (t1 : Int32) (t2 : Int32) (t3 : Int32) (t4 : Int32) (fta : Nat → Int32) (ftc : Nat → Int32) (fn : Nat → Int32) (c_ : Int32) (b_ : Int32) : Int32 × Int32 × Int32 × Int32 × Int32 × Int32 := (if (f_e_hasCouple t0 t1 t2 t3 t4 c_) = 0 then ((-1000000001), k0, k1, k2, k3, k4) else (if (f_e_hasBridge t0 t1 t2 t3 t4 b_) = 0 then ((-1000000001), k0, k1, k2, k3, k4) else (match (f_e_themeFor_x9 q1 q2 q10 q12 k0 k1 k2 k3 k4 t0 t1 t2 t3 t4 fta ftc fn c_ b_) with | (r_8, o_9, o_10, o_11, o_12, o_13) => (r_8, o_9, o_10, o_11, o_12, o_13))))
def rm_e_bestTheme_x9 : Room := { frames := 5, cells := 0, slots := 0, locals := 129 }
set_option maxHeartbeats 4000000 in
set_option maxRecDepth 100000 in
theorem e_bestTheme_x9 {l : Launch} {D : va_G} {cI cZ : ClassId} {sz : Nat} (h x rd t d nw ps im is_ bk qr pr cv ft ta tb tc td te nwc : Nat) (q1 : Int32) (q2 : Int32) (q10 : Int32) (q12 : Int32) (k0 : Int32) (k1 : Int32) (k2 : Int32) (k3 : Int32) (k4 : Int32) (t0 : Int32) (t1 : Int32) (t2 : Int32) (t3 : Int32) (t4 : Int32) (fta : Nat → Int32) (ftc : Nat → Int32) (fn : Nat → Int32) (c_ : Int32) (b_ : Int32) : KI l yX9_bestTheme cX9_bestTheme 3 (some .int) rm_e_bestTheme_x9 D cI cZ [.ref h, .int c_, .int b_] sz [(h, .inr (9, [.ref x, .int q1, .int q2, .ref rd, .ref t, .ref d, .ref nw, .ref ps, .ref im, .ref is_, .int q10, .ref bk, .int q12, .ref qr, .ref pr, .ref cv, .ref ft])), (qr, .inr (4, [.int k0, .int k1, .int k2, .int k3, .int k4])), (t, .inr (8, [.int t0, .int t1, .int t2, .int t3, .int t4, .ref ta, .ref tb, .ref tc, .ref td, .ref te])), (ta, .inl (cI, 6, .inl fta)), (tc, .inl (cI, 30, .inl ftc)), (nw, .inr (7, [.ref nwc])), (nwc, .inl (cI, 41, .inl fn))] (fun (r : Int32) (u : Int32 × Int32 × Int32 × Int32 × Int32) => (r, u) = f_e_bestTheme_x9 q1 q2 q10 q12 k0 k1 k2 k3 k4 t0 t1 t2 t3 t4 fta ftc fn c_ b_) (fun (u : Int32 × Int32 × Int32 × Int32 × Int32) => [(h, .inr (9, [.ref x, .int q1, .int q2, .ref rd, .ref t, .ref d, .ref nw, .ref ps, .ref im, .ref is_, .int q10, .ref bk, .int q12, .ref qr, .ref pr, .ref cv, .ref ft])), (qr, .inr (4, [.int (u.1), .int (u.2.1), .int (u.2.2.1), .int (u.2.2.2.1), .int (u.2.2.2.2)])), (t, .inr (8, [.int t0, .int t1, .int t2, .int t3, .int t4, .ref ta, .ref tb, .ref tc, .ref td, .ref te])), (ta, .inl (cI, 6, .inl fta)), (tc, .inl (cI, 30, .inl ftc)), (nw, .inr (7, [.ref nwc])), (nwc, .inl (cI, 41, .inl fn))]) := by
  refine KI.go rfl (Nat.le_of_ble_eq_true rfl) ?_
  intro p e s m args below meth c ls A Q hx hb hml hts hown hin hP hK hD hS hA hN hl hret
  have hl : lv_has ls 3 [(0, .ref h), (1, .int c_), (2, .int b_)] := hl
  obtain ⟨RES, hE⟩ : ∃ xRES, f_e_bestTheme_x9 q1 q2 q10 q12 k0 k1 k2 k3 k4 t0 t1 t2 t3 t4 fta ftc fn c_ b_ = xRES := ⟨_, rfl⟩
  rw [hE] at hret
  rw [f_e_bestTheme_x9] at hE
  refine lv_aload_n hx hb dX9_bestTheme_0 rfl (lv_at hl 0 rfl) ?_
  refine va_get (D := D) (ci := 9) (v := .ref t) (C := RX9) (T := TX9) (N := 17) hx hb hts iX9 hown hK hP 0 rfl rfl 4 (Nat.le_of_ble_eq_true rfl) (hts _ wd_89) (fun _ h9 => h9) rfl dX9_bestTheme_1 ?_
  refine lv_iload_n hx hb dX9_bestTheme_4 rfl (lv_at hl 1 rfl) ?_
  refine cVi (wr := [(h, .inr (9, [.ref x, .int q1, .int q2, .ref rd, .ref t, .ref d, .ref nw, .ref ps, .ref im, .ref is_, .int q10, .ref bk, .int q12, .ref qr, .ref pr, .ref cv, .ref ft])), (qr, .inr (4, [.int k0, .int k1, .int k2, .int k3, .int k4])), (ta, .inl (cI, 6, .inl fta)), (tc, .inl (cI, 30, .inl ftc)), (nw, .inr (7, [.ref nwc])), (nwc, .inl (cI, 41, .inl fn))]) (rest := []) (e_hasCouple t ta tb tc td te t0 t1 t2 t3 t4 c_) okV_X8_hasCouple wd_347 hx hb hml hown hts hK hP hD hS hA hN hl.1 [2] [0, 1, 3, 4, 5, 6] rfl rfl rfl rfl (of_decide_eq_true rfl) rfl rfl rfl (Nat.le_of_ble_eq_true rfl) (Nat.le_of_ble_eq_true rfl) (Nat.le_of_ble_eq_true rfl) (Nat.le_of_ble_eq_true rfl) (Nat.le_of_ble_eq_true rfl) dX9_bestTheme_5 (fun r_2 u_1 H locs hw_u_1 hP hD hS => ?_)
  replace hw_u_1 : r_2 = (f_e_hasCouple t0 t1 t2 t3 t4 c_) := hw_u_1
  rw [hw_u_1]
  clear hw_u_1
  have hP : va_P D classes [(h, .inr (9, [.ref x, .int q1, .int q2, .ref rd, .ref t, .ref d, .ref nw, .ref ps, .ref im, .ref is_, .int q10, .ref bk, .int q12, .ref qr, .ref pr, .ref cv, .ref ft])), (qr, .inr (4, [.int k0, .int k1, .int k2, .int k3, .int k4])), (ta, .inl (cI, 6, .inl fta)), (tc, .inl (cI, 30, .inl ftc)), (nw, .inr (7, [.ref nwc])), (nwc, .inl (cI, 41, .inl fn)), (t, .inr (8, [.int t0, .int t1, .int t2, .int t3, .int t4, .ref ta, .ref tb, .ref tc, .ref td, .ref te]))] H := hP
  have hD : va_D A [(h, .inr (9, [.ref x, .int q1, .int q2, .ref rd, .ref t, .ref d, .ref nw, .ref ps, .ref im, .ref is_, .int q10, .ref bk, .int q12, .ref qr, .ref pr, .ref cv, .ref ft])), (qr, .inr (4, [.int k0, .int k1, .int k2, .int k3, .int k4])), (ta, .inl (cI, 6, .inl fta)), (tc, .inl (cI, 30, .inl ftc)), (nw, .inr (7, [.ref nwc])), (nwc, .inl (cI, 41, .inl fn)), (t, .inr (8, [.int t0, .int t1, .int t2, .int t3, .int t4, .ref ta, .ref tb, .ref tc, .ref td, .ref te]))] := hD
  refine lv_if_eq (tgt := 22) hx hb dX9_bestTheme_8 rfl (fun c_3 => ?_) (fun c_3 => ?_)
  · rw [if_pos c_3] at hE
    refine lv_ldc (v := (-1000000001)) hx hb hown (hts _ wd_346) dX9_bestTheme_22 ?_
    exact hret (-1000000001) (k0, k1, k2, k3, k4) _ _ _ _ dX9_bestTheme_24 rfl hE (cutP (isC := [0, 1, 6, 2, 3, 4, 5]) hP rfl) (cutD (isC := [0, 1, 6, 2, 3, 4, 5]) hD rfl rfl) hS
  · rw [if_neg c_3] at hE
    refine lv_aload_n hx hb dX9_bestTheme_11 rfl (lv_at hl 0 rfl) ?_
    refine va_get (D := D) (ci := 9) (v := .ref t) (C := RX9) (T := TX9) (N := 17) hx hb hts iX9 hown hK hP 0 rfl rfl 4 (Nat.le_of_ble_eq_true rfl) (hts _ wd_89) (fun _ h9 => h9) rfl dX9_bestTheme_12 ?_
    refine lv_iload_n hx hb dX9_bestTheme_15 rfl (lv_at hl 2 rfl) ?_
    refine cVi (wr := [(h, .inr (9, [.ref x, .int q1, .int q2, .ref rd, .ref t, .ref d, .ref nw, .ref ps, .ref im, .ref is_, .int q10, .ref bk, .int q12, .ref qr, .ref pr, .ref cv, .ref ft])), (qr, .inr (4, [.int k0, .int k1, .int k2, .int k3, .int k4])), (ta, .inl (cI, 6, .inl fta)), (tc, .inl (cI, 30, .inl ftc)), (nw, .inr (7, [.ref nwc])), (nwc, .inl (cI, 41, .inl fn))]) (rest := []) (e_hasBridge t ta tb tc td te t0 t1 t2 t3 t4 b_) okV_X8_hasBridge wd_342 hx hb hml hown hts hK hP hD hS hA hN hl.1 [6] [0, 1, 2, 3, 4, 5] rfl rfl rfl rfl (of_decide_eq_true rfl) rfl rfl rfl (Nat.le_of_ble_eq_true rfl) (Nat.le_of_ble_eq_true rfl) (Nat.le_of_ble_eq_true rfl) (Nat.le_of_ble_eq_true rfl) (Nat.le_of_ble_eq_true rfl) dX9_bestTheme_16 (fun r_5 u_4 H locs hw_u_4 hP hD hS => ?_)
    replace hw_u_4 : r_5 = (f_e_hasBridge t0 t1 t2 t3 t4 b_) := hw_u_4
    rw [hw_u_4]
    clear hw_u_4
    have hP : va_P D classes [(h, .inr (9, [.ref x, .int q1, .int q2, .ref rd, .ref t, .ref d, .ref nw, .ref ps, .ref im, .ref is_, .int q10, .ref bk, .int q12, .ref qr, .ref pr, .ref cv, .ref ft])), (qr, .inr (4, [.int k0, .int k1, .int k2, .int k3, .int k4])), (ta, .inl (cI, 6, .inl fta)), (tc, .inl (cI, 30, .inl ftc)), (nw, .inr (7, [.ref nwc])), (nwc, .inl (cI, 41, .inl fn)), (t, .inr (8, [.int t0, .int t1, .int t2, .int t3, .int t4, .ref ta, .ref tb, .ref tc, .ref td, .ref te]))] H := hP
    have hD : va_D A [(h, .inr (9, [.ref x, .int q1, .int q2, .ref rd, .ref t, .ref d, .ref nw, .ref ps, .ref im, .ref is_, .int q10, .ref bk, .int q12, .ref qr, .ref pr, .ref cv, .ref ft])), (qr, .inr (4, [.int k0, .int k1, .int k2, .int k3, .int k4])), (ta, .inl (cI, 6, .inl fta)), (tc, .inl (cI, 30, .inl ftc)), (nw, .inr (7, [.ref nwc])), (nwc, .inl (cI, 41, .inl fn)), (t, .inr (8, [.int t0, .int t1, .int t2, .int t3, .int t4, .ref ta, .ref tb, .ref tc, .ref td, .ref te]))] := hD
    refine lv_if_ne (tgt := 25) hx hb dX9_bestTheme_19 rfl (fun c_6 => ?_) (fun c_6 => ?_)
    · rw [if_neg c_6] at hE
      refine lv_aload_n hx hb dX9_bestTheme_25 rfl (lv_at hl 0 rfl) ?_
      refine lv_iload_n hx hb dX9_bestTheme_26 rfl (lv_at hl 1 rfl) ?_
      refine lv_iload_n hx hb dX9_bestTheme_27 rfl (lv_at hl 2 rfl) ?_
      refine cVi (wr := []) (rest := []) (e_themeFor_x9 h x rd t d nw ps im is_ bk qr pr cv ft ta tb tc td te nwc q1 q2 q10 q12 k0 k1 k2 k3 k4 t0 t1 t2 t3 t4 fta ftc fn c_ b_) okV_X9_themeFor wd_276 hx hb hml hown hts hK hP hD hS hA hN hl.1 [0, 1, 6, 2, 3, 4, 5] [] rfl rfl rfl rfl (of_decide_eq_true rfl) rfl rfl rfl (Nat.le_of_ble_eq_true rfl) (Nat.le_of_ble_eq_true rfl) (Nat.le_of_ble_eq_true rfl) (Nat.le_of_ble_eq_true rfl) (Nat.le_of_ble_eq_true rfl) dX9_bestTheme_28 (fun r_8 u_7 H locs hw_u_7 hP hD hS => ?_)
      obtain ⟨o_9, o_10, o_11, o_12, o_13⟩ := u_7
      replace hw_u_7 : (r_8, o_9, o_10, o_11, o_12, o_13) = (f_e_themeFor_x9 q1 q2 q10 q12 k0 k1 k2 k3 k4 t0 t1 t2 t3 t4 fta ftc fn c_ b_) := hw_u_7
      rw [← hw_u_7] at hE
      replace hE : (r_8, o_9, o_10, o_11, o_12, o_13) = RES := hE
      have hP : va_P D classes [(h, .inr (9, [.ref x, .int q1, .int q2, .ref rd, .ref t, .ref d, .ref nw, .ref ps, .ref im, .ref is_, .int q10, .ref bk, .int q12, .ref qr, .ref pr, .ref cv, .ref ft])), (qr, .inr (4, [.int o_9, .int o_10, .int o_11, .int o_12, .int o_13])), (t, .inr (8, [.int t0, .int t1, .int t2, .int t3, .int t4, .ref ta, .ref tb, .ref tc, .ref td, .ref te])), (ta, .inl (cI, 6, .inl fta)), (tc, .inl (cI, 30, .inl ftc)), (nw, .inr (7, [.ref nwc])), (nwc, .inl (cI, 41, .inl fn))] H := hP
      have hD : va_D A [(h, .inr (9, [.ref x, .int q1, .int q2, .ref rd, .ref t, .ref d, .ref nw, .ref ps, .ref im, .ref is_, .int q10, .ref bk, .int q12, .ref qr, .ref pr, .ref cv, .ref ft])), (qr, .inr (4, [.int o_9, .int o_10, .int o_11, .int o_12, .int o_13])), (t, .inr (8, [.int t0, .int t1, .int t2, .int t3, .int t4, .ref ta, .ref tb, .ref tc, .ref td, .ref te])), (ta, .inl (cI, 6, .inl fta)), (tc, .inl (cI, 30, .inl ftc)), (nw, .inr (7, [.ref nwc])), (nwc, .inl (cI, 41, .inl fn))] := hD
      exact hret r_8 (o_9, o_10, o_11, o_12, o_13) _ _ _ _ dX9_bestTheme_31 rfl hE hP hD hS
    · rw [if_pos c_6] at hE
      refine lv_ldc (v := (-1000000001)) hx hb hown (hts _ wd_346) dX9_bestTheme_22 ?_
      exact hret (-1000000001) (k0, k1, k2, k3, k4) _ _ _ _ dX9_bestTheme_24 rfl hE (cutP (isC := [0, 1, 6, 2, 3, 4, 5]) hP rfl) (cutD (isC := [0, 1, 6, 2, 3, 4, 5]) hD rfl rfl) hS
noncomputable def f_e_lasts_x9 (q1 : Int32) (q2 : Int32) (q10 : Int32) (q12 : Int32) (k0 : Int32) (k1 : Int32) (k2 : Int32) (k3 : Int32) (k4 : Int32) (t0 : Int32) (t1 : Int32) (t2 : Int32) (t3 : Int32) (t4 : Int32) (ftc : Nat → Int32) (fn : Nat → Int32) (c_ : Int32) (e_ : Int32) : Int32 × Int32 × Int32 × Int32 × Int32 × Int32 := (if (f_e_hasCouple t0 t1 t2 t3 t4 c_) = 0 then ((-1000000001), k0, k1, k2, k3, k4) else (if (f_e_hasTheme t0 t1 t2 t3 t4 e_) = 0 then ((-1000000001), k0, k1, k2, k3, k4) else (if (f_e_isReconciled fn c_) = 0 then (match (f_e_minutesLeft_x9 q1 q2 q10 q12 k0 k1 k2 k3 k4 t0 t1 t2 t3 t4 ftc fn c_ e_) with | (r_11, o_12, o_13, o_14, o_15, o_16) => (r_11, o_12, o_13, o_14, o_15, o_16)) else ((-1000000003), k0, k1, k2, k3, k4))))
def rm_e_lasts_x9 : Room := { frames := 4, cells := 0, slots := 0, locals := 101 }
set_option maxHeartbeats 4000000 in
set_option maxRecDepth 100000 in
theorem e_lasts_x9 {l : Launch} {D : va_G} {cI cZ : ClassId} {sz : Nat} (h x rd t d nw ps im is_ bk qr pr cv ft ta tb tc td te nwc : Nat) (q1 : Int32) (q2 : Int32) (q10 : Int32) (q12 : Int32) (k0 : Int32) (k1 : Int32) (k2 : Int32) (k3 : Int32) (k4 : Int32) (t0 : Int32) (t1 : Int32) (t2 : Int32) (t3 : Int32) (t4 : Int32) (ftc : Nat → Int32) (fn : Nat → Int32) (c_ : Int32) (e_ : Int32) : KI l yX9_lasts cX9_lasts 3 (some .int) rm_e_lasts_x9 D cI cZ [.ref h, .int c_, .int e_] sz [(h, .inr (9, [.ref x, .int q1, .int q2, .ref rd, .ref t, .ref d, .ref nw, .ref ps, .ref im, .ref is_, .int q10, .ref bk, .int q12, .ref qr, .ref pr, .ref cv, .ref ft])), (qr, .inr (4, [.int k0, .int k1, .int k2, .int k3, .int k4])), (t, .inr (8, [.int t0, .int t1, .int t2, .int t3, .int t4, .ref ta, .ref tb, .ref tc, .ref td, .ref te])), (tc, .inl (cI, 30, .inl ftc)), (nw, .inr (7, [.ref nwc])), (nwc, .inl (cI, 41, .inl fn))] (fun (r : Int32) (u : Int32 × Int32 × Int32 × Int32 × Int32) => (r, u) = f_e_lasts_x9 q1 q2 q10 q12 k0 k1 k2 k3 k4 t0 t1 t2 t3 t4 ftc fn c_ e_) (fun (u : Int32 × Int32 × Int32 × Int32 × Int32) => [(h, .inr (9, [.ref x, .int q1, .int q2, .ref rd, .ref t, .ref d, .ref nw, .ref ps, .ref im, .ref is_, .int q10, .ref bk, .int q12, .ref qr, .ref pr, .ref cv, .ref ft])), (qr, .inr (4, [.int (u.1), .int (u.2.1), .int (u.2.2.1), .int (u.2.2.2.1), .int (u.2.2.2.2)])), (t, .inr (8, [.int t0, .int t1, .int t2, .int t3, .int t4, .ref ta, .ref tb, .ref tc, .ref td, .ref te])), (tc, .inl (cI, 30, .inl ftc)), (nw, .inr (7, [.ref nwc])), (nwc, .inl (cI, 41, .inl fn))]) := by
  refine KI.go rfl (Nat.le_of_ble_eq_true rfl) ?_
  intro p e s m args below meth c ls A Q hx hb hml hts hown hin hP hK hD hS hA hN hl hret
  have hl : lv_has ls 3 [(0, .ref h), (1, .int c_), (2, .int e_)] := hl
  obtain ⟨RES, hE⟩ : ∃ xRES, f_e_lasts_x9 q1 q2 q10 q12 k0 k1 k2 k3 k4 t0 t1 t2 t3 t4 ftc fn c_ e_ = xRES := ⟨_, rfl⟩
  rw [hE] at hret
  rw [f_e_lasts_x9] at hE
  refine lv_aload_n hx hb dX9_lasts_0 rfl (lv_at hl 0 rfl) ?_
  refine va_get (D := D) (ci := 9) (v := .ref t) (C := RX9) (T := TX9) (N := 17) hx hb hts iX9 hown hK hP 0 rfl rfl 4 (Nat.le_of_ble_eq_true rfl) (hts _ wd_89) (fun _ h9 => h9) rfl dX9_lasts_1 ?_
  refine lv_iload_n hx hb dX9_lasts_4 rfl (lv_at hl 1 rfl) ?_
  refine cVi (wr := [(h, .inr (9, [.ref x, .int q1, .int q2, .ref rd, .ref t, .ref d, .ref nw, .ref ps, .ref im, .ref is_, .int q10, .ref bk, .int q12, .ref qr, .ref pr, .ref cv, .ref ft])), (qr, .inr (4, [.int k0, .int k1, .int k2, .int k3, .int k4])), (tc, .inl (cI, 30, .inl ftc)), (nw, .inr (7, [.ref nwc])), (nwc, .inl (cI, 41, .inl fn))]) (rest := []) (e_hasCouple t ta tb tc td te t0 t1 t2 t3 t4 c_) okV_X8_hasCouple wd_347 hx hb hml hown hts hK hP hD hS hA hN hl.1 [2] [0, 1, 3, 4, 5] rfl rfl rfl rfl (of_decide_eq_true rfl) rfl rfl rfl (Nat.le_of_ble_eq_true rfl) (Nat.le_of_ble_eq_true rfl) (Nat.le_of_ble_eq_true rfl) (Nat.le_of_ble_eq_true rfl) (Nat.le_of_ble_eq_true rfl) dX9_lasts_5 (fun r_2 u_1 H locs hw_u_1 hP hD hS => ?_)
  replace hw_u_1 : r_2 = (f_e_hasCouple t0 t1 t2 t3 t4 c_) := hw_u_1
  rw [hw_u_1]
  clear hw_u_1
  have hP : va_P D classes [(h, .inr (9, [.ref x, .int q1, .int q2, .ref rd, .ref t, .ref d, .ref nw, .ref ps, .ref im, .ref is_, .int q10, .ref bk, .int q12, .ref qr, .ref pr, .ref cv, .ref ft])), (qr, .inr (4, [.int k0, .int k1, .int k2, .int k3, .int k4])), (tc, .inl (cI, 30, .inl ftc)), (nw, .inr (7, [.ref nwc])), (nwc, .inl (cI, 41, .inl fn)), (t, .inr (8, [.int t0, .int t1, .int t2, .int t3, .int t4, .ref ta, .ref tb, .ref tc, .ref td, .ref te]))] H := hP
  have hD : va_D A [(h, .inr (9, [.ref x, .int q1, .int q2, .ref rd, .ref t, .ref d, .ref nw, .ref ps, .ref im, .ref is_, .int q10, .ref bk, .int q12, .ref qr, .ref pr, .ref cv, .ref ft])), (qr, .inr (4, [.int k0, .int k1, .int k2, .int k3, .int k4])), (tc, .inl (cI, 30, .inl ftc)), (nw, .inr (7, [.ref nwc])), (nwc, .inl (cI, 41, .inl fn)), (t, .inr (8, [.int t0, .int t1, .int t2, .int t3, .int t4, .ref ta, .ref tb, .ref tc, .ref td, .ref te]))] := hD
  refine lv_if_eq (tgt := 22) hx hb dX9_lasts_8 rfl (fun c_3 => ?_) (fun c_3 => ?_)
  · rw [if_pos c_3] at hE
    refine lv_ldc (v := (-1000000001)) hx hb hown (hts _ wd_346) dX9_lasts_22 ?_
    exact hret (-1000000001) (k0, k1, k2, k3, k4) _ _ _ _ dX9_lasts_24 rfl hE (cutP (isC := [0, 1, 5, 2, 3, 4]) hP rfl) (cutD (isC := [0, 1, 5, 2, 3, 4]) hD rfl rfl) hS
  · rw [if_neg c_3] at hE
    refine lv_aload_n hx hb dX9_lasts_11 rfl (lv_at hl 0 rfl) ?_
    refine va_get (D := D) (ci := 9) (v := .ref t) (C := RX9) (T := TX9) (N := 17) hx hb hts iX9 hown hK hP 0 rfl rfl 4 (Nat.le_of_ble_eq_true rfl) (hts _ wd_89) (fun _ h9 => h9) rfl dX9_lasts_12 ?_
    refine lv_iload_n hx hb dX9_lasts_15 rfl (lv_at hl 2 rfl) ?_
    refine cVi (wr := [(h, .inr (9, [.ref x, .int q1, .int q2, .ref rd, .ref t, .ref d, .ref nw, .ref ps, .ref im, .ref is_, .int q10, .ref bk, .int q12, .ref qr, .ref pr, .ref cv, .ref ft])), (qr, .inr (4, [.int k0, .int k1, .int k2, .int k3, .int k4])), (tc, .inl (cI, 30, .inl ftc)), (nw, .inr (7, [.ref nwc])), (nwc, .inl (cI, 41, .inl fn))]) (rest := []) (e_hasTheme t ta tb tc td te t0 t1 t2 t3 t4 e_) okV_X8_hasTheme wd_353 hx hb hml hown hts hK hP hD hS hA hN hl.1 [5] [0, 1, 2, 3, 4] rfl rfl rfl rfl (of_decide_eq_true rfl) rfl rfl rfl (Nat.le_of_ble_eq_true rfl) (Nat.le_of_ble_eq_true rfl) (Nat.le_of_ble_eq_true rfl) (Nat.le_of_ble_eq_true rfl) (Nat.le_of_ble_eq_true rfl) dX9_lasts_16 (fun r_5 u_4 H locs hw_u_4 hP hD hS => ?_)
    replace hw_u_4 : r_5 = (f_e_hasTheme t0 t1 t2 t3 t4 e_) := hw_u_4
    rw [hw_u_4]
    clear hw_u_4
    have hP : va_P D classes [(h, .inr (9, [.ref x, .int q1, .int q2, .ref rd, .ref t, .ref d, .ref nw, .ref ps, .ref im, .ref is_, .int q10, .ref bk, .int q12, .ref qr, .ref pr, .ref cv, .ref ft])), (qr, .inr (4, [.int k0, .int k1, .int k2, .int k3, .int k4])), (tc, .inl (cI, 30, .inl ftc)), (nw, .inr (7, [.ref nwc])), (nwc, .inl (cI, 41, .inl fn)), (t, .inr (8, [.int t0, .int t1, .int t2, .int t3, .int t4, .ref ta, .ref tb, .ref tc, .ref td, .ref te]))] H := hP
    have hD : va_D A [(h, .inr (9, [.ref x, .int q1, .int q2, .ref rd, .ref t, .ref d, .ref nw, .ref ps, .ref im, .ref is_, .int q10, .ref bk, .int q12, .ref qr, .ref pr, .ref cv, .ref ft])), (qr, .inr (4, [.int k0, .int k1, .int k2, .int k3, .int k4])), (tc, .inl (cI, 30, .inl ftc)), (nw, .inr (7, [.ref nwc])), (nwc, .inl (cI, 41, .inl fn)), (t, .inr (8, [.int t0, .int t1, .int t2, .int t3, .int t4, .ref ta, .ref tb, .ref tc, .ref td, .ref te]))] := hD
    refine lv_if_ne (tgt := 25) hx hb dX9_lasts_19 rfl (fun c_6 => ?_) (fun c_6 => ?_)
    · rw [if_neg c_6] at hE
      refine lv_aload_n hx hb dX9_lasts_25 rfl (lv_at hl 0 rfl) ?_
      refine va_get (D := D) (ci := 9) (v := .ref nw) (C := RX9) (T := TX9) (N := 17) hx hb hts iX9 hown hK hP 0 rfl rfl 6 (Nat.le_of_ble_eq_true rfl) (hts _ wd_96) (fun _ h9 => h9) rfl dX9_lasts_26 ?_
      refine lv_iload_n hx hb dX9_lasts_29 rfl (lv_at hl 1 rfl) ?_
      refine cVi (wr := [(h, .inr (9, [.ref x, .int q1, .int q2, .ref rd, .ref t, .ref d, .ref nw, .ref ps, .ref im, .ref is_, .int q10, .ref bk, .int q12, .ref qr, .ref pr, .ref cv, .ref ft])), (qr, .inr (4, [.int k0, .int k1, .int k2, .int k3, .int k4])), (tc, .inl (cI, 30, .inl ftc)), (t, .inr (8, [.int t0, .int t1, .int t2, .int t3, .int t4, .ref ta, .ref tb, .ref tc, .ref td, .ref te]))]) (rest := []) (e_isReconciled nw nwc fn c_) okV_X7_isReconciled wd_265 hx hb hml hown hts hK hP hD hS hA hN hl.1 [3, 4] [0, 1, 2, 5] rfl rfl rfl rfl (of_decide_eq_true rfl) rfl rfl rfl (Nat.le_of_ble_eq_true rfl) (Nat.le_of_ble_eq_true rfl) (Nat.le_of_ble_eq_true rfl) (Nat.le_of_ble_eq_true rfl) (Nat.le_of_ble_eq_true rfl) dX9_lasts_30 (fun r_8 u_7 H locs hw_u_7 hP hD hS => ?_)
      replace hw_u_7 : r_8 = (f_e_isReconciled fn c_) := hw_u_7
      rw [hw_u_7]
      clear hw_u_7
      have hP : va_P D classes [(h, .inr (9, [.ref x, .int q1, .int q2, .ref rd, .ref t, .ref d, .ref nw, .ref ps, .ref im, .ref is_, .int q10, .ref bk, .int q12, .ref qr, .ref pr, .ref cv, .ref ft])), (qr, .inr (4, [.int k0, .int k1, .int k2, .int k3, .int k4])), (tc, .inl (cI, 30, .inl ftc)), (t, .inr (8, [.int t0, .int t1, .int t2, .int t3, .int t4, .ref ta, .ref tb, .ref tc, .ref td, .ref te])), (nw, .inr (7, [.ref nwc])), (nwc, .inl (cI, 41, .inl fn))] H := hP
      have hD : va_D A [(h, .inr (9, [.ref x, .int q1, .int q2, .ref rd, .ref t, .ref d, .ref nw, .ref ps, .ref im, .ref is_, .int q10, .ref bk, .int q12, .ref qr, .ref pr, .ref cv, .ref ft])), (qr, .inr (4, [.int k0, .int k1, .int k2, .int k3, .int k4])), (tc, .inl (cI, 30, .inl ftc)), (t, .inr (8, [.int t0, .int t1, .int t2, .int t3, .int t4, .ref ta, .ref tb, .ref tc, .ref td, .ref te])), (nw, .inr (7, [.ref nwc])), (nwc, .inl (cI, 41, .inl fn))] := hD
      refine lv_if_eq (tgt := 39) hx hb dX9_lasts_33 rfl (fun c_9 => ?_) (fun c_9 => ?_)
      · rw [if_pos c_9] at hE
        refine lv_aload_n hx hb dX9_lasts_39 rfl (lv_at hl 0 rfl) ?_
        refine lv_iload_n hx hb dX9_lasts_40 rfl (lv_at hl 1 rfl) ?_
        refine lv_iload_n hx hb dX9_lasts_41 rfl (lv_at hl 2 rfl) ?_
        refine cVi (wr := []) (rest := []) (e_minutesLeft_x9 h x rd t d nw ps im is_ bk qr pr cv ft ta tb tc td te nwc q1 q2 q10 q12 k0 k1 k2 k3 k4 t0 t1 t2 t3 t4 ftc fn c_ e_) okV_X9_minutesLeft wd_407 hx hb hml hown hts hK hP hD hS hA hN hl.1 [0, 1, 3, 2, 4, 5] [] rfl rfl rfl rfl (of_decide_eq_true rfl) rfl rfl rfl (Nat.le_of_ble_eq_true rfl) (Nat.le_of_ble_eq_true rfl) (Nat.le_of_ble_eq_true rfl) (Nat.le_of_ble_eq_true rfl) (Nat.le_of_ble_eq_true rfl) dX9_lasts_42 (fun r_11 u_10 H locs hw_u_10 hP hD hS => ?_)
        obtain ⟨o_12, o_13, o_14, o_15, o_16⟩ := u_10
        replace hw_u_10 : (r_11, o_12, o_13, o_14, o_15, o_16) = (f_e_minutesLeft_x9 q1 q2 q10 q12 k0 k1 k2 k3 k4 t0 t1 t2 t3 t4 ftc fn c_ e_) := hw_u_10
        rw [← hw_u_10] at hE
        replace hE : (r_11, o_12, o_13, o_14, o_15, o_16) = RES := hE
        have hP : va_P D classes [(h, .inr (9, [.ref x, .int q1, .int q2, .ref rd, .ref t, .ref d, .ref nw, .ref ps, .ref im, .ref is_, .int q10, .ref bk, .int q12, .ref qr, .ref pr, .ref cv, .ref ft])), (qr, .inr (4, [.int o_12, .int o_13, .int o_14, .int o_15, .int o_16])), (t, .inr (8, [.int t0, .int t1, .int t2, .int t3, .int t4, .ref ta, .ref tb, .ref tc, .ref td, .ref te])), (tc, .inl (cI, 30, .inl ftc)), (nw, .inr (7, [.ref nwc])), (nwc, .inl (cI, 41, .inl fn))] H := hP
        have hD : va_D A [(h, .inr (9, [.ref x, .int q1, .int q2, .ref rd, .ref t, .ref d, .ref nw, .ref ps, .ref im, .ref is_, .int q10, .ref bk, .int q12, .ref qr, .ref pr, .ref cv, .ref ft])), (qr, .inr (4, [.int o_12, .int o_13, .int o_14, .int o_15, .int o_16])), (t, .inr (8, [.int t0, .int t1, .int t2, .int t3, .int t4, .ref ta, .ref tb, .ref tc, .ref td, .ref te])), (tc, .inl (cI, 30, .inl ftc)), (nw, .inr (7, [.ref nwc])), (nwc, .inl (cI, 41, .inl fn))] := hD
        exact hret r_11 (o_12, o_13, o_14, o_15, o_16) _ _ _ _ dX9_lasts_45 rfl hE hP hD hS
      · rw [if_neg c_9] at hE
        refine lv_ldc (v := (-1000000003)) hx hb hown (hts _ wd_384) dX9_lasts_36 ?_
        exact hret (-1000000003) (k0, k1, k2, k3, k4) _ _ _ _ dX9_lasts_38 rfl hE (cutP (isC := [0, 1, 3, 2, 4, 5]) hP rfl) (cutD (isC := [0, 1, 3, 2, 4, 5]) hD rfl rfl) hS
    · rw [if_pos c_6] at hE
      refine lv_ldc (v := (-1000000001)) hx hb hown (hts _ wd_346) dX9_lasts_22 ?_
      exact hret (-1000000001) (k0, k1, k2, k3, k4) _ _ _ _ dX9_lasts_24 rfl hE (cutP (isC := [0, 1, 5, 2, 3, 4]) hP rfl) (cutD (isC := [0, 1, 5, 2, 3, 4]) hD rfl rfl) hS
noncomputable def f_e_wornOut_x9_37 (q1 : Int32) (q2 : Int32) (q10 : Int32) (q12 : Int32) (k0 : Int32) (k1 : Int32) (k2 : Int32) (k3 : Int32) (k4 : Int32) (t0 : Int32) (t1 : Int32) (t2 : Int32) (t3 : Int32) (t4 : Int32) (ftc : Nat → Int32) (fn : Nat → Int32) (w_1l3 : Int32) (n : Nat) : Int32 → Int32 → Int32 → Int32 → Int32 → Int32 → Int32 → Int32 × Int32 × Int32 × Int32 × Int32 × Int32 × Int32 := Nat.rec (motive := fun _ => Int32 → Int32 → Int32 → Int32 → Int32 → Int32 → Int32 → Int32 × Int32 × Int32 × Int32 × Int32 × Int32 × Int32) (fun w_6l5 w_6l4 w_6m0 w_6m1 w_6m2 w_6m3 w_6m4 => (w_6l5, w_6l4, w_6m0, w_6m1, w_6m2, w_6m3, w_6m4)) (fun n ih w_6l5 w_6l4 w_6m0 w_6m1 w_6m2 w_6m3 w_6m4 => (if t1 ≤ w_6l5 then (w_6l5, w_6l4, w_6m0, w_6m1, w_6m2, w_6m3, w_6m4) else (match (f_e_minutesLeft_x9 q1 q2 q10 q12 w_6m0 w_6m1 w_6m2 w_6m3 w_6m4 t0 t1 t2 t3 t4 ftc fn w_1l3 w_6l5) with | (r_11, o_12, o_13, o_14, o_15, o_16) => (ih (w_6l5 + 1) (if w_6l4 < r_11 then r_11 else w_6l4) o_12 o_13 o_14 o_15 o_16)))) n
theorem f_e_wornOut_x9_37_s (q1 : Int32) (q2 : Int32) (q10 : Int32) (q12 : Int32) (k0 : Int32) (k1 : Int32) (k2 : Int32) (k3 : Int32) (k4 : Int32) (t0 : Int32) (t1 : Int32) (t2 : Int32) (t3 : Int32) (t4 : Int32) (ftc : Nat → Int32) (fn : Nat → Int32) (w_1l3 : Int32) (n : Nat) (w_6l5 : Int32) (w_6l4 : Int32) (w_6m0 : Int32) (w_6m1 : Int32) (w_6m2 : Int32) (w_6m3 : Int32) (w_6m4 : Int32) : f_e_wornOut_x9_37 q1 q2 q10 q12 k0 k1 k2 k3 k4 t0 t1 t2 t3 t4 ftc fn w_1l3 (n + 1) w_6l5 w_6l4 w_6m0 w_6m1 w_6m2 w_6m3 w_6m4 = (if t1 ≤ w_6l5 then (w_6l5, w_6l4, w_6m0, w_6m1, w_6m2, w_6m3, w_6m4) else (match (f_e_minutesLeft_x9 q1 q2 q10 q12 w_6m0 w_6m1 w_6m2 w_6m3 w_6m4 t0 t1 t2 t3 t4 ftc fn w_1l3 w_6l5) with | (r_11, o_12, o_13, o_14, o_15, o_16) => (f_e_wornOut_x9_37 q1 q2 q10 q12 k0 k1 k2 k3 k4 t0 t1 t2 t3 t4 ftc fn w_1l3 n (w_6l5 + 1) (if w_6l4 < r_11 then r_11 else w_6l4) o_12 o_13 o_14 o_15 o_16))) := rfl
noncomputable def f_e_wornOut_x9_6 (q1 : Int32) (q2 : Int32) (q10 : Int32) (q12 : Int32) (k0 : Int32) (k1 : Int32) (k2 : Int32) (k3 : Int32) (k4 : Int32) (t0 : Int32) (t1 : Int32) (t2 : Int32) (t3 : Int32) (t4 : Int32) (ftc : Nat → Int32) (fn : Nat → Int32) (n : Nat) : Int32 → Int32 → Int32 → Int32 → Int32 → Int32 → Int32 → Int32 → Int32 × Int32 × Int32 × Int32 × Int32 × Int32 × Int32 × Int32 := Nat.rec (motive := fun _ => Int32 → Int32 → Int32 → Int32 → Int32 → Int32 → Int32 → Int32 → Int32 × Int32 × Int32 × Int32 × Int32 × Int32 × Int32 × Int32) (fun w_1l3 w_1l2 w_1l1 w_1m0 w_1m1 w_1m2 w_1m3 w_1m4 => (w_1l3, w_1l2, w_1l1, w_1m0, w_1m1, w_1m2, w_1m3, w_1m4)) (fun n ih w_1l3 w_1l2 w_1l1 w_1m0 w_1m1 w_1m2 w_1m3 w_1m4 => (if t2 ≤ w_1l3 then (w_1l3, w_1l2, w_1l1, w_1m0, w_1m1, w_1m2, w_1m3, w_1m4) else (if (f_e_isReconciled fn w_1l3) = 0 then (match (f_e_wornOut_x9_37 q1 q2 q10 q12 k0 k1 k2 k3 k4 t0 t1 t2 t3 t4 ftc fn w_1l3 (((t1 : Int32).toInt - (0 : Int32).toInt).toNat + 1) 0 0 w_1m0 w_1m1 w_1m2 w_1m3 w_1m4) with | (w_6l5, w_6l4, w_6m0, w_6m1, w_6m2, w_6m3, w_6m4) => (if w_1l1 = (-1) then (ih (w_1l3 + 1) w_6l4 w_1l3 w_6m0 w_6m1 w_6m2 w_6m3 w_6m4) else (if w_1l2 ≤ w_6l4 then (ih (w_1l3 + 1) w_1l2 w_1l1 w_6m0 w_6m1 w_6m2 w_6m3 w_6m4) else (ih (w_1l3 + 1) w_6l4 w_1l3 w_6m0 w_6m1 w_6m2 w_6m3 w_6m4)))) else (ih (w_1l3 + 1) w_1l2 w_1l1 w_1m0 w_1m1 w_1m2 w_1m3 w_1m4)))) n
theorem f_e_wornOut_x9_6_s (q1 : Int32) (q2 : Int32) (q10 : Int32) (q12 : Int32) (k0 : Int32) (k1 : Int32) (k2 : Int32) (k3 : Int32) (k4 : Int32) (t0 : Int32) (t1 : Int32) (t2 : Int32) (t3 : Int32) (t4 : Int32) (ftc : Nat → Int32) (fn : Nat → Int32) (n : Nat) (w_1l3 : Int32) (w_1l2 : Int32) (w_1l1 : Int32) (w_1m0 : Int32) (w_1m1 : Int32) (w_1m2 : Int32) (w_1m3 : Int32) (w_1m4 : Int32) : f_e_wornOut_x9_6 q1 q2 q10 q12 k0 k1 k2 k3 k4 t0 t1 t2 t3 t4 ftc fn (n + 1) w_1l3 w_1l2 w_1l1 w_1m0 w_1m1 w_1m2 w_1m3 w_1m4 = (if t2 ≤ w_1l3 then (w_1l3, w_1l2, w_1l1, w_1m0, w_1m1, w_1m2, w_1m3, w_1m4) else (if (f_e_isReconciled fn w_1l3) = 0 then (match (f_e_wornOut_x9_37 q1 q2 q10 q12 k0 k1 k2 k3 k4 t0 t1 t2 t3 t4 ftc fn w_1l3 (((t1 : Int32).toInt - (0 : Int32).toInt).toNat + 1) 0 0 w_1m0 w_1m1 w_1m2 w_1m3 w_1m4) with | (w_6l5, w_6l4, w_6m0, w_6m1, w_6m2, w_6m3, w_6m4) => (if w_1l1 = (-1) then (f_e_wornOut_x9_6 q1 q2 q10 q12 k0 k1 k2 k3 k4 t0 t1 t2 t3 t4 ftc fn n (w_1l3 + 1) w_6l4 w_1l3 w_6m0 w_6m1 w_6m2 w_6m3 w_6m4) else (if w_1l2 ≤ w_6l4 then (f_e_wornOut_x9_6 q1 q2 q10 q12 k0 k1 k2 k3 k4 t0 t1 t2 t3 t4 ftc fn n (w_1l3 + 1) w_1l2 w_1l1 w_6m0 w_6m1 w_6m2 w_6m3 w_6m4) else (f_e_wornOut_x9_6 q1 q2 q10 q12 k0 k1 k2 k3 k4 t0 t1 t2 t3 t4 ftc fn n (w_1l3 + 1) w_6l4 w_1l3 w_6m0 w_6m1 w_6m2 w_6m3 w_6m4)))) else (f_e_wornOut_x9_6 q1 q2 q10 q12 k0 k1 k2 k3 k4 t0 t1 t2 t3 t4 ftc fn n (w_1l3 + 1) w_1l2 w_1l1 w_1m0 w_1m1 w_1m2 w_1m3 w_1m4))) := rfl
noncomputable def f_e_wornOut_x9 (q1 : Int32) (q2 : Int32) (q10 : Int32) (q12 : Int32) (k0 : Int32) (k1 : Int32) (k2 : Int32) (k3 : Int32) (k4 : Int32) (t0 : Int32) (t1 : Int32) (t2 : Int32) (t3 : Int32) (t4 : Int32) (ftc : Nat → Int32) (fn : Nat → Int32) : Int32 × Int32 × Int32 × Int32 × Int32 × Int32 := (match (f_e_wornOut_x9_6 q1 q2 q10 q12 k0 k1 k2 k3 k4 t0 t1 t2 t3 t4 ftc fn (((t2 : Int32).toInt - (0 : Int32).toInt).toNat + 1) 0 0 (-1) k0 k1 k2 k3 k4) with | (w_1l3, w_1l2, w_1l1, w_1m0, w_1m1, w_1m2, w_1m3, w_1m4) => (w_1l1, w_1m0, w_1m1, w_1m2, w_1m3, w_1m4))
def rm_e_wornOut_x9 : Room := { frames := 4, cells := 0, slots := 0, locals := 101 }
set_option maxHeartbeats 4000000 in
set_option maxRecDepth 100000 in
theorem e_wornOut_x9 {l : Launch} {D : va_G} {cI cZ : ClassId} {sz : Nat} (h x rd t d nw ps im is_ bk qr pr cv ft ta tb tc td te nwc : Nat) (q1 : Int32) (q2 : Int32) (q10 : Int32) (q12 : Int32) (k0 : Int32) (k1 : Int32) (k2 : Int32) (k3 : Int32) (k4 : Int32) (t0 : Int32) (t1 : Int32) (t2 : Int32) (t3 : Int32) (t4 : Int32) (ftc : Nat → Int32) (fn : Nat → Int32) : KI l yX9_wornOut cX9_wornOut 6 (some .int) rm_e_wornOut_x9 D cI cZ [.ref h] sz [(h, .inr (9, [.ref x, .int q1, .int q2, .ref rd, .ref t, .ref d, .ref nw, .ref ps, .ref im, .ref is_, .int q10, .ref bk, .int q12, .ref qr, .ref pr, .ref cv, .ref ft])), (qr, .inr (4, [.int k0, .int k1, .int k2, .int k3, .int k4])), (t, .inr (8, [.int t0, .int t1, .int t2, .int t3, .int t4, .ref ta, .ref tb, .ref tc, .ref td, .ref te])), (tc, .inl (cI, 30, .inl ftc)), (nw, .inr (7, [.ref nwc])), (nwc, .inl (cI, 41, .inl fn))] (fun (r : Int32) (u : Int32 × Int32 × Int32 × Int32 × Int32) => (r, u) = f_e_wornOut_x9 q1 q2 q10 q12 k0 k1 k2 k3 k4 t0 t1 t2 t3 t4 ftc fn) (fun (u : Int32 × Int32 × Int32 × Int32 × Int32) => [(h, .inr (9, [.ref x, .int q1, .int q2, .ref rd, .ref t, .ref d, .ref nw, .ref ps, .ref im, .ref is_, .int q10, .ref bk, .int q12, .ref qr, .ref pr, .ref cv, .ref ft])), (qr, .inr (4, [.int (u.1), .int (u.2.1), .int (u.2.2.1), .int (u.2.2.2.1), .int (u.2.2.2.2)])), (t, .inr (8, [.int t0, .int t1, .int t2, .int t3, .int t4, .ref ta, .ref tb, .ref tc, .ref td, .ref te])), (tc, .inl (cI, 30, .inl ftc)), (nw, .inr (7, [.ref nwc])), (nwc, .inl (cI, 41, .inl fn))]) := by
  refine KI.go rfl (Nat.le_of_ble_eq_true rfl) ?_
  intro p e s m args below meth c ls A Q hx hb hml hts hown hin hP hK hD hS hA hN hl hret
  have hl : lv_has ls 6 [(0, .ref h)] := hl
  obtain ⟨RES, hE⟩ : ∃ xRES, f_e_wornOut_x9 q1 q2 q10 q12 k0 k1 k2 k3 k4 t0 t1 t2 t3 t4 ftc fn = xRES := ⟨_, rfl⟩
  rw [hE] at hret
  rw [f_e_wornOut_x9] at hE
  refine lv_iconst (v := (-1)) hx hb dX9_wornOut_0 rfl ?_
  refine lv_istore_n (lv' := [(1, .int (-1)), (0, .ref h)]) hx hb dX9_wornOut_1 rfl hl (Nat.le_of_ble_eq_true rfl) rfl (fun ls hl => ?_)
  refine lv_iconst (v := 0) hx hb dX9_wornOut_2 rfl ?_
  refine lv_istore_n (lv' := [(2, .int 0), (1, .int (-1)), (0, .ref h)]) hx hb dX9_wornOut_3 rfl hl (Nat.le_of_ble_eq_true rfl) rfl (fun ls hl => ?_)
  refine lv_iconst (v := 0) hx hb dX9_wornOut_4 rfl ?_
  refine lv_istore_n (lv' := [(3, .int 0), (2, .int 0), (1, .int (-1)), (0, .ref h)]) hx hb dX9_wornOut_5 rfl hl (Nat.le_of_ble_eq_true rfl) rfl (fun ls hl => ?_)
  have ex_6_w_1 : ∀ (w_1l3 : Int32) (w_1l2 : Int32) (w_1l1 : Int32) (w_1m0 : Int32) (w_1m1 : Int32) (w_1m2 : Int32) (w_1m3 : Int32) (w_1m4 : Int32) (H : Heap) (locs : List Loc) (ls : Array Slot), va_P D classes [(h, .inr (9, [.ref x, .int q1, .int q2, .ref rd, .ref t, .ref d, .ref nw, .ref ps, .ref im, .ref is_, .int q10, .ref bk, .int q12, .ref qr, .ref pr, .ref cv, .ref ft])), (qr, .inr (4, [.int w_1m0, .int w_1m1, .int w_1m2, .int w_1m3, .int w_1m4])), (t, .inr (8, [.int t0, .int t1, .int t2, .int t3, .int t4, .ref ta, .ref tb, .ref tc, .ref td, .ref te])), (tc, .inl (cI, 30, .inl ftc)), (nw, .inr (7, [.ref nwc])), (nwc, .inl (cI, 41, .inl fn))] H → va_D A [(h, .inr (9, [.ref x, .int q1, .int q2, .ref rd, .ref t, .ref d, .ref nw, .ref ps, .ref im, .ref is_, .int q10, .ref bk, .int q12, .ref qr, .ref pr, .ref cv, .ref ft])), (qr, .inr (4, [.int w_1m0, .int w_1m1, .int w_1m2, .int w_1m3, .int w_1m4])), (t, .inr (8, [.int t0, .int t1, .int t2, .int t3, .int t4, .ref ta, .ref tb, .ref tc, .ref td, .ref te])), (tc, .inl (cI, 30, .inl ftc)), (nw, .inr (7, [.ref nwc])), (nwc, .inl (cI, 41, .inl fn))] → va_S A s.heap H locs → lv_has ls 6 [(3, .int w_1l3), (2, .int w_1l2), (1, .int w_1l1), (0, .ref h)] → ((w_1l1, w_1m0, w_1m1, w_1m2, w_1m3, w_1m4)) = RES → W p l e rm_e_wornOut_x9 s m args below meth c H locs 0 0 Q (F0 m 91 ls []) := by
    intro w_1l3 w_1l2 w_1l1 w_1m0 w_1m1 w_1m2 w_1m3 w_1m4 H locs ls hP hD hS hl hE
    refine lv_iload_n hx hb dX9_wornOut_91 rfl (lv_at hl 2 rfl) ?_
    exact hret w_1l1 (w_1m0, w_1m1, w_1m2, w_1m3, w_1m4) _ _ _ _ dX9_wornOut_92 rfl hE hP hD hS
  have lp_6_w_1 : ∀ (n_w_1 : Nat) (w_1l3 : Int32) (w_1l2 : Int32) (w_1l1 : Int32) (w_1m0 : Int32) (w_1m1 : Int32) (w_1m2 : Int32) (w_1m3 : Int32) (w_1m4 : Int32) (H : Heap) (locs : List Loc) (ls : Array Slot), va_P D classes [(h, .inr (9, [.ref x, .int q1, .int q2, .ref rd, .ref t, .ref d, .ref nw, .ref ps, .ref im, .ref is_, .int q10, .ref bk, .int q12, .ref qr, .ref pr, .ref cv, .ref ft])), (qr, .inr (4, [.int w_1m0, .int w_1m1, .int w_1m2, .int w_1m3, .int w_1m4])), (t, .inr (8, [.int t0, .int t1, .int t2, .int t3, .int t4, .ref ta, .ref tb, .ref tc, .ref td, .ref te])), (tc, .inl (cI, 30, .inl ftc)), (nw, .inr (7, [.ref nwc])), (nwc, .inl (cI, 41, .inl fn))] H → va_D A [(h, .inr (9, [.ref x, .int q1, .int q2, .ref rd, .ref t, .ref d, .ref nw, .ref ps, .ref im, .ref is_, .int q10, .ref bk, .int q12, .ref qr, .ref pr, .ref cv, .ref ft])), (qr, .inr (4, [.int w_1m0, .int w_1m1, .int w_1m2, .int w_1m3, .int w_1m4])), (t, .inr (8, [.int t0, .int t1, .int t2, .int t3, .int t4, .ref ta, .ref tb, .ref tc, .ref td, .ref te])), (tc, .inl (cI, 30, .inl ftc)), (nw, .inr (7, [.ref nwc])), (nwc, .inl (cI, 41, .inl fn))] → va_S A s.heap H locs → lv_has ls 6 [(3, .int w_1l3), (2, .int w_1l2), (1, .int w_1l1), (0, .ref h)] → ((t2 : Int32).toInt - (w_1l3 : Int32).toInt).toNat < n_w_1 → (match (f_e_wornOut_x9_6 q1 q2 q10 q12 k0 k1 k2 k3 k4 t0 t1 t2 t3 t4 ftc fn n_w_1 w_1l3 w_1l2 w_1l1 w_1m0 w_1m1 w_1m2 w_1m3 w_1m4) with | (w_1l3, w_1l2, w_1l1, w_1m0, w_1m1, w_1m2, w_1m3, w_1m4) => (w_1l1, w_1m0, w_1m1, w_1m2, w_1m3, w_1m4)) = RES → W p l e rm_e_wornOut_x9 s m args below meth c H locs 0 0 Q (F0 m 6 ls []) := by
    intro n_w_1
    induction n_w_1 with
    | zero => intro w_1l3 w_1l2 w_1l1 w_1m0 w_1m1 w_1m2 w_1m3 w_1m4 H locs ls hP hD hS hl hm; exact absurd hm (Nat.not_lt_zero _)
    | succ n_w_1 ih_w_1 =>
      intro w_1l3 w_1l2 w_1l1 w_1m0 w_1m1 w_1m2 w_1m3 w_1m4 H locs ls hP hD hS hl hm hE
      rw [f_e_wornOut_x9_6_s] at hE
      refine lv_iload_n hx hb dX9_wornOut_6 rfl (lv_at hl 0 rfl) ?_
      refine lv_aload_n hx hb dX9_wornOut_7 rfl (lv_at hl 3 rfl) ?_
      refine va_get (D := D) (ci := 9) (v := .ref t) (C := RX9) (T := TX9) (N := 17) hx hb hts iX9 hown hK hP 0 rfl rfl 4 (Nat.le_of_ble_eq_true rfl) (hts _ wd_89) (fun _ h9 => h9) rfl dX9_wornOut_8 ?_
      refine va_get (D := D) (ci := 8) (v := .int t2) (C := RX8) (T := TX8) (N := 10) hx hb hts iX8 hown hK hP 2 rfl rfl 2 (Nat.le_of_ble_eq_true rfl) (hts _ wd_373) (fun _ h9 => h9) rfl dX9_wornOut_11 ?_
      refine lv_icmp_ge (tgt := 91) hx hb dX9_wornOut_14 rfl (fun c_2 => ?_) (fun c_2 => ?_)
      · rw [if_pos c_2] at hE
        exact ex_6_w_1 w_1l3 w_1l2 w_1l1 w_1m0 w_1m1 w_1m2 w_1m3 w_1m4 _ _ ls hP hD hS (lv_sub hl [0, 1, 2, 3] rfl) hE
      · rw [if_neg c_2] at hE
        refine lv_aload_n hx hb dX9_wornOut_17 rfl (lv_at hl 3 rfl) ?_
        refine va_get (D := D) (ci := 9) (v := .ref nw) (C := RX9) (T := TX9) (N := 17) hx hb hts iX9 hown hK hP 0 rfl rfl 6 (Nat.le_of_ble_eq_true rfl) (hts _ wd_96) (fun _ h9 => h9) rfl dX9_wornOut_18 ?_
        refine lv_iload_n hx hb dX9_wornOut_21 rfl (lv_at hl 0 rfl) ?_
        refine cVi (wr := [(h, .inr (9, [.ref x, .int q1, .int q2, .ref rd, .ref t, .ref d, .ref nw, .ref ps, .ref im, .ref is_, .int q10, .ref bk, .int q12, .ref qr, .ref pr, .ref cv, .ref ft])), (qr, .inr (4, [.int w_1m0, .int w_1m1, .int w_1m2, .int w_1m3, .int w_1m4])), (t, .inr (8, [.int t0, .int t1, .int t2, .int t3, .int t4, .ref ta, .ref tb, .ref tc, .ref td, .ref te])), (tc, .inl (cI, 30, .inl ftc))]) (rest := []) (e_isReconciled nw nwc fn w_1l3) okV_X7_isReconciled wd_265 hx hb hml hown hts hK hP hD hS hA hN hl.1 [4, 5] [0, 1, 2, 3] rfl rfl rfl rfl (of_decide_eq_true rfl) rfl rfl rfl (Nat.le_of_ble_eq_true rfl) (Nat.le_of_ble_eq_true rfl) (Nat.le_of_ble_eq_true rfl) (Nat.le_of_ble_eq_true rfl) (Nat.le_of_ble_eq_true rfl) dX9_wornOut_22 (fun r_4 u_3 H locs hw_u_3 hP hD hS => ?_)
        replace hw_u_3 : r_4 = (f_e_isReconciled fn w_1l3) := hw_u_3
        rw [hw_u_3]
        clear hw_u_3
        have hP : va_P D classes [(h, .inr (9, [.ref x, .int q1, .int q2, .ref rd, .ref t, .ref d, .ref nw, .ref ps, .ref im, .ref is_, .int q10, .ref bk, .int q12, .ref qr, .ref pr, .ref cv, .ref ft])), (qr, .inr (4, [.int w_1m0, .int w_1m1, .int w_1m2, .int w_1m3, .int w_1m4])), (t, .inr (8, [.int t0, .int t1, .int t2, .int t3, .int t4, .ref ta, .ref tb, .ref tc, .ref td, .ref te])), (tc, .inl (cI, 30, .inl ftc)), (nw, .inr (7, [.ref nwc])), (nwc, .inl (cI, 41, .inl fn))] H := hP
        have hD : va_D A [(h, .inr (9, [.ref x, .int q1, .int q2, .ref rd, .ref t, .ref d, .ref nw, .ref ps, .ref im, .ref is_, .int q10, .ref bk, .int q12, .ref qr, .ref pr, .ref cv, .ref ft])), (qr, .inr (4, [.int w_1m0, .int w_1m1, .int w_1m2, .int w_1m3, .int w_1m4])), (t, .inr (8, [.int t0, .int t1, .int t2, .int t3, .int t4, .ref ta, .ref tb, .ref tc, .ref td, .ref te])), (tc, .inl (cI, 30, .inl ftc)), (nw, .inr (7, [.ref nwc])), (nwc, .inl (cI, 41, .inl fn))] := hD
        refine lv_if_eq (tgt := 31) hx hb dX9_wornOut_25 rfl (fun c_5 => ?_) (fun c_5 => ?_)
        · rw [if_pos c_5] at hE
          refine lv_iconst (v := 0) hx hb dX9_wornOut_31 rfl ?_
          refine lv_istore (lv' := [(4, .int 0), (3, .int w_1l3), (2, .int w_1l2), (1, .int w_1l1), (0, .ref h)]) hx hb dX9_wornOut_32 hl (Nat.le_of_ble_eq_true rfl) rfl (fun ls hl => ?_)
          refine lv_iconst (v := 0) hx hb dX9_wornOut_34 rfl ?_
          refine lv_istore (lv' := [(5, .int 0), (4, .int 0), (3, .int w_1l3), (2, .int w_1l2), (1, .int w_1l1), (0, .ref h)]) hx hb dX9_wornOut_35 hl (Nat.le_of_ble_eq_true rfl) rfl (fun ls hl => ?_)
          have ex_37_w_6 : ∀ (w_6l5 : Int32) (w_6l4 : Int32) (w_6m0 : Int32) (w_6m1 : Int32) (w_6m2 : Int32) (w_6m3 : Int32) (w_6m4 : Int32) (H : Heap) (locs : List Loc) (ls : Array Slot), va_P D classes [(h, .inr (9, [.ref x, .int q1, .int q2, .ref rd, .ref t, .ref d, .ref nw, .ref ps, .ref im, .ref is_, .int q10, .ref bk, .int q12, .ref qr, .ref pr, .ref cv, .ref ft])), (qr, .inr (4, [.int w_6m0, .int w_6m1, .int w_6m2, .int w_6m3, .int w_6m4])), (t, .inr (8, [.int t0, .int t1, .int t2, .int t3, .int t4, .ref ta, .ref tb, .ref tc, .ref td, .ref te])), (tc, .inl (cI, 30, .inl ftc)), (nw, .inr (7, [.ref nwc])), (nwc, .inl (cI, 41, .inl fn))] H → va_D A [(h, .inr (9, [.ref x, .int q1, .int q2, .ref rd, .ref t, .ref d, .ref nw, .ref ps, .ref im, .ref is_, .int q10, .ref bk, .int q12, .ref qr, .ref pr, .ref cv, .ref ft])), (qr, .inr (4, [.int w_6m0, .int w_6m1, .int w_6m2, .int w_6m3, .int w_6m4])), (t, .inr (8, [.int t0, .int t1, .int t2, .int t3, .int t4, .ref ta, .ref tb, .ref tc, .ref td, .ref te])), (tc, .inl (cI, 30, .inl ftc)), (nw, .inr (7, [.ref nwc])), (nwc, .inl (cI, 41, .inl fn))] → va_S A s.heap H locs → lv_has ls 6 [(5, .int w_6l5), (4, .int w_6l4), (3, .int w_1l3), (2, .int w_1l2), (1, .int w_1l1), (0, .ref h)] → ((match (if w_1l1 = (-1) then (f_e_wornOut_x9_6 q1 q2 q10 q12 k0 k1 k2 k3 k4 t0 t1 t2 t3 t4 ftc fn n_w_1 (w_1l3 + 1) w_6l4 w_1l3 w_6m0 w_6m1 w_6m2 w_6m3 w_6m4) else (if w_1l2 ≤ w_6l4 then (f_e_wornOut_x9_6 q1 q2 q10 q12 k0 k1 k2 k3 k4 t0 t1 t2 t3 t4 ftc fn n_w_1 (w_1l3 + 1) w_1l2 w_1l1 w_6m0 w_6m1 w_6m2 w_6m3 w_6m4) else (f_e_wornOut_x9_6 q1 q2 q10 q12 k0 k1 k2 k3 k4 t0 t1 t2 t3 t4 ftc fn n_w_1 (w_1l3 + 1) w_6l4 w_1l3 w_6m0 w_6m1 w_6m2 w_6m3 w_6m4))) with | (w_1l3, w_1l2, w_1l1, w_1m0, w_1m1, w_1m2, w_1m3, w_1m4) => (w_1l1, w_1m0, w_1m1, w_1m2, w_1m3, w_1m4))) = RES → W p l e rm_e_wornOut_x9 s m args below meth c H locs 0 0 Q (F0 m 69 ls []) := by
            intro w_6l5 w_6l4 w_6m0 w_6m1 w_6m2 w_6m3 w_6m4 H locs ls hP hD hS hl hE
            refine lv_iload_n hx hb dX9_wornOut_69 rfl (lv_at hl 4 rfl) ?_
            refine lv_iconst (v := (-1)) hx hb dX9_wornOut_70 rfl ?_
            refine lv_icmp_eq (tgt := 80) hx hb dX9_wornOut_71 rfl (fun c_7 => ?_) (fun c_7 => ?_)
            · rw [if_pos c_7] at hE
              refine lv_iload_n hx hb dX9_wornOut_80 rfl (lv_at hl 2 rfl) ?_
              refine lv_istore_n (lv' := [(1, .int w_1l3), (5, .int w_6l5), (4, .int w_6l4), (3, .int w_1l3), (2, .int w_1l2), (0, .ref h)]) hx hb dX9_wornOut_81 rfl hl (Nat.le_of_ble_eq_true rfl) rfl (fun ls hl => ?_)
              refine lv_iload hx hb dX9_wornOut_82 (lv_at hl 2 rfl) ?_
              refine lv_istore_n (lv' := [(2, .int w_6l4), (1, .int w_1l3), (5, .int w_6l5), (4, .int w_6l4), (3, .int w_1l3), (0, .ref h)]) hx hb dX9_wornOut_84 rfl hl (Nat.le_of_ble_eq_true rfl) rfl (fun ls hl => ?_)
              refine lv_iinc (v := (w_1l3 + 1)) (lv' := [(3, .int (w_1l3 + 1)), (2, .int w_6l4), (1, .int w_1l3), (5, .int w_6l5), (4, .int w_6l4), (0, .ref h)]) hx hb dX9_wornOut_85 hl (k := 4) rfl rfl (Nat.le_of_ble_eq_true rfl) rfl (fun ls hl => ?_)
              refine lv_goto (tgt := 6) hx hb dX9_wornOut_88 rfl ?_
              exact ih_w_1 (w_1l3 + 1) w_6l4 w_1l3 w_6m0 w_6m1 w_6m2 w_6m3 w_6m4 _ _ ls hP hD hS (lv_sub hl [0, 1, 2, 5] rfl) (up_step c_2 hm) hE
            · rw [if_neg c_7] at hE
              refine lv_iload hx hb dX9_wornOut_74 (lv_at hl 1 rfl) ?_
              refine lv_iload_n hx hb dX9_wornOut_76 rfl (lv_at hl 3 rfl) ?_
              refine lv_icmp_ge (tgt := 85) hx hb dX9_wornOut_77 rfl (fun c_8 => ?_) (fun c_8 => ?_)
              · rw [if_pos c_8] at hE
                refine lv_iinc (v := (w_1l3 + 1)) (lv' := [(3, .int (w_1l3 + 1)), (5, .int w_6l5), (4, .int w_6l4), (2, .int w_1l2), (1, .int w_1l1), (0, .ref h)]) hx hb dX9_wornOut_85 hl (k := 2) rfl rfl (Nat.le_of_ble_eq_true rfl) rfl (fun ls hl => ?_)
                refine lv_goto (tgt := 6) hx hb dX9_wornOut_88 rfl ?_
                exact ih_w_1 (w_1l3 + 1) w_1l2 w_1l1 w_6m0 w_6m1 w_6m2 w_6m3 w_6m4 _ _ ls hP hD hS (lv_sub hl [0, 3, 4, 5] rfl) (up_step c_2 hm) hE
              · rw [if_neg c_8] at hE
                refine lv_iload_n hx hb dX9_wornOut_80 rfl (lv_at hl 2 rfl) ?_
                refine lv_istore_n (lv' := [(1, .int w_1l3), (5, .int w_6l5), (4, .int w_6l4), (3, .int w_1l3), (2, .int w_1l2), (0, .ref h)]) hx hb dX9_wornOut_81 rfl hl (Nat.le_of_ble_eq_true rfl) rfl (fun ls hl => ?_)
                refine lv_iload hx hb dX9_wornOut_82 (lv_at hl 2 rfl) ?_
                refine lv_istore_n (lv' := [(2, .int w_6l4), (1, .int w_1l3), (5, .int w_6l5), (4, .int w_6l4), (3, .int w_1l3), (0, .ref h)]) hx hb dX9_wornOut_84 rfl hl (Nat.le_of_ble_eq_true rfl) rfl (fun ls hl => ?_)
                refine lv_iinc (v := (w_1l3 + 1)) (lv' := [(3, .int (w_1l3 + 1)), (2, .int w_6l4), (1, .int w_1l3), (5, .int w_6l5), (4, .int w_6l4), (0, .ref h)]) hx hb dX9_wornOut_85 hl (k := 4) rfl rfl (Nat.le_of_ble_eq_true rfl) rfl (fun ls hl => ?_)
                refine lv_goto (tgt := 6) hx hb dX9_wornOut_88 rfl ?_
                exact ih_w_1 (w_1l3 + 1) w_6l4 w_1l3 w_6m0 w_6m1 w_6m2 w_6m3 w_6m4 _ _ ls hP hD hS (lv_sub hl [0, 1, 2, 5] rfl) (up_step c_2 hm) hE
          have lp_37_w_6 : ∀ (n_w_6 : Nat) (w_6l5 : Int32) (w_6l4 : Int32) (w_6m0 : Int32) (w_6m1 : Int32) (w_6m2 : Int32) (w_6m3 : Int32) (w_6m4 : Int32) (H : Heap) (locs : List Loc) (ls : Array Slot), va_P D classes [(h, .inr (9, [.ref x, .int q1, .int q2, .ref rd, .ref t, .ref d, .ref nw, .ref ps, .ref im, .ref is_, .int q10, .ref bk, .int q12, .ref qr, .ref pr, .ref cv, .ref ft])), (qr, .inr (4, [.int w_6m0, .int w_6m1, .int w_6m2, .int w_6m3, .int w_6m4])), (t, .inr (8, [.int t0, .int t1, .int t2, .int t3, .int t4, .ref ta, .ref tb, .ref tc, .ref td, .ref te])), (tc, .inl (cI, 30, .inl ftc)), (nw, .inr (7, [.ref nwc])), (nwc, .inl (cI, 41, .inl fn))] H → va_D A [(h, .inr (9, [.ref x, .int q1, .int q2, .ref rd, .ref t, .ref d, .ref nw, .ref ps, .ref im, .ref is_, .int q10, .ref bk, .int q12, .ref qr, .ref pr, .ref cv, .ref ft])), (qr, .inr (4, [.int w_6m0, .int w_6m1, .int w_6m2, .int w_6m3, .int w_6m4])), (t, .inr (8, [.int t0, .int t1, .int t2, .int t3, .int t4, .ref ta, .ref tb, .ref tc, .ref td, .ref te])), (tc, .inl (cI, 30, .inl ftc)), (nw, .inr (7, [.ref nwc])), (nwc, .inl (cI, 41, .inl fn))] → va_S A s.heap H locs → lv_has ls 6 [(5, .int w_6l5), (4, .int w_6l4), (3, .int w_1l3), (2, .int w_1l2), (1, .int w_1l1), (0, .ref h)] → ((t1 : Int32).toInt - (w_6l5 : Int32).toInt).toNat < n_w_6 → (match (match (f_e_wornOut_x9_37 q1 q2 q10 q12 k0 k1 k2 k3 k4 t0 t1 t2 t3 t4 ftc fn w_1l3 n_w_6 w_6l5 w_6l4 w_6m0 w_6m1 w_6m2 w_6m3 w_6m4) with | (w_6l5, w_6l4, w_6m0, w_6m1, w_6m2, w_6m3, w_6m4) => (if w_1l1 = (-1) then (f_e_wornOut_x9_6 q1 q2 q10 q12 k0 k1 k2 k3 k4 t0 t1 t2 t3 t4 ftc fn n_w_1 (w_1l3 + 1) w_6l4 w_1l3 w_6m0 w_6m1 w_6m2 w_6m3 w_6m4) else (if w_1l2 ≤ w_6l4 then (f_e_wornOut_x9_6 q1 q2 q10 q12 k0 k1 k2 k3 k4 t0 t1 t2 t3 t4 ftc fn n_w_1 (w_1l3 + 1) w_1l2 w_1l1 w_6m0 w_6m1 w_6m2 w_6m3 w_6m4) else (f_e_wornOut_x9_6 q1 q2 q10 q12 k0 k1 k2 k3 k4 t0 t1 t2 t3 t4 ftc fn n_w_1 (w_1l3 + 1) w_6l4 w_1l3 w_6m0 w_6m1 w_6m2 w_6m3 w_6m4)))) with | (w_1l3, w_1l2, w_1l1, w_1m0, w_1m1, w_1m2, w_1m3, w_1m4) => (w_1l1, w_1m0, w_1m1, w_1m2, w_1m3, w_1m4)) = RES → W p l e rm_e_wornOut_x9 s m args below meth c H locs 0 0 Q (F0 m 37 ls []) := by
            intro n_w_6
            induction n_w_6 with
            | zero => intro w_6l5 w_6l4 w_6m0 w_6m1 w_6m2 w_6m3 w_6m4 H locs ls hP hD hS hl hm; exact absurd hm (Nat.not_lt_zero _)
            | succ n_w_6 ih_w_6 =>
              intro w_6l5 w_6l4 w_6m0 w_6m1 w_6m2 w_6m3 w_6m4 H locs ls hP hD hS hl hm hE
              rw [f_e_wornOut_x9_37_s] at hE
              refine lv_iload hx hb dX9_wornOut_37 (lv_at hl 0 rfl) ?_
              refine lv_aload_n hx hb dX9_wornOut_39 rfl (lv_at hl 5 rfl) ?_
              refine va_get (D := D) (ci := 9) (v := .ref t) (C := RX9) (T := TX9) (N := 17) hx hb hts iX9 hown hK hP 0 rfl rfl 4 (Nat.le_of_ble_eq_true rfl) (hts _ wd_89) (fun _ h9 => h9) rfl dX9_wornOut_40 ?_
              refine va_get (D := D) (ci := 8) (v := .int t1) (C := RX8) (T := TX8) (N := 10) hx hb hts iX8 hown hK hP 2 rfl rfl 1 (Nat.le_of_ble_eq_true rfl) (hts _ wd_269) (fun _ h9 => h9) rfl dX9_wornOut_43 ?_
              refine lv_icmp_ge (tgt := 69) hx hb dX9_wornOut_46 rfl (fun c_9 => ?_) (fun c_9 => ?_)
              · rw [if_pos c_9] at hE
                exact ex_37_w_6 w_6l5 w_6l4 w_6m0 w_6m1 w_6m2 w_6m3 w_6m4 _ _ ls hP hD hS (lv_sub hl [0, 1, 2, 3, 4, 5] rfl) hE
              · rw [if_neg c_9] at hE
                refine lv_iload hx hb dX9_wornOut_49 (lv_at hl 1 rfl) ?_
                refine lv_aload_n hx hb dX9_wornOut_51 rfl (lv_at hl 5 rfl) ?_
                refine lv_iload_n hx hb dX9_wornOut_52 rfl (lv_at hl 2 rfl) ?_
                refine lv_iload hx hb dX9_wornOut_53 (lv_at hl 0 rfl) ?_
                refine cVi (wr := []) (rest := [.int w_6l4]) (e_minutesLeft_x9 h x rd t d nw ps im is_ bk qr pr cv ft ta tb tc td te nwc q1 q2 q10 q12 w_6m0 w_6m1 w_6m2 w_6m3 w_6m4 t0 t1 t2 t3 t4 ftc fn w_1l3 w_6l5) okV_X9_minutesLeft wd_407 hx hb hml hown hts hK hP hD hS hA hN hl.1 [0, 1, 2, 3, 4, 5] [] rfl rfl rfl rfl (of_decide_eq_true rfl) rfl rfl rfl (Nat.le_of_ble_eq_true rfl) (Nat.le_of_ble_eq_true rfl) (Nat.le_of_ble_eq_true rfl) (Nat.le_of_ble_eq_true rfl) (Nat.le_of_ble_eq_true rfl) dX9_wornOut_55 (fun r_11 u_10 H locs hw_u_10 hP hD hS => ?_)
                obtain ⟨o_12, o_13, o_14, o_15, o_16⟩ := u_10
                replace hw_u_10 : (r_11, o_12, o_13, o_14, o_15, o_16) = (f_e_minutesLeft_x9 q1 q2 q10 q12 w_6m0 w_6m1 w_6m2 w_6m3 w_6m4 t0 t1 t2 t3 t4 ftc fn w_1l3 w_6l5) := hw_u_10
                rw [← hw_u_10] at hE
                replace hE : (match (match (f_e_wornOut_x9_37 q1 q2 q10 q12 k0 k1 k2 k3 k4 t0 t1 t2 t3 t4 ftc fn w_1l3 n_w_6 (w_6l5 + 1) (if w_6l4 < r_11 then r_11 else w_6l4) o_12 o_13 o_14 o_15 o_16) with | (w_6l5, w_6l4, w_6m0, w_6m1, w_6m2, w_6m3, w_6m4) => (if w_1l1 = (-1) then (f_e_wornOut_x9_6 q1 q2 q10 q12 k0 k1 k2 k3 k4 t0 t1 t2 t3 t4 ftc fn n_w_1 (w_1l3 + 1) w_6l4 w_1l3 w_6m0 w_6m1 w_6m2 w_6m3 w_6m4) else (if w_1l2 ≤ w_6l4 then (f_e_wornOut_x9_6 q1 q2 q10 q12 k0 k1 k2 k3 k4 t0 t1 t2 t3 t4 ftc fn n_w_1 (w_1l3 + 1) w_1l2 w_1l1 w_6m0 w_6m1 w_6m2 w_6m3 w_6m4) else (f_e_wornOut_x9_6 q1 q2 q10 q12 k0 k1 k2 k3 k4 t0 t1 t2 t3 t4 ftc fn n_w_1 (w_1l3 + 1) w_6l4 w_1l3 w_6m0 w_6m1 w_6m2 w_6m3 w_6m4)))) with | (w_1l3, w_1l2, w_1l1, w_1m0, w_1m1, w_1m2, w_1m3, w_1m4) => (w_1l1, w_1m0, w_1m1, w_1m2, w_1m3, w_1m4)) = RES := hE
                have hP : va_P D classes [(h, .inr (9, [.ref x, .int q1, .int q2, .ref rd, .ref t, .ref d, .ref nw, .ref ps, .ref im, .ref is_, .int q10, .ref bk, .int q12, .ref qr, .ref pr, .ref cv, .ref ft])), (qr, .inr (4, [.int o_12, .int o_13, .int o_14, .int o_15, .int o_16])), (t, .inr (8, [.int t0, .int t1, .int t2, .int t3, .int t4, .ref ta, .ref tb, .ref tc, .ref td, .ref te])), (tc, .inl (cI, 30, .inl ftc)), (nw, .inr (7, [.ref nwc])), (nwc, .inl (cI, 41, .inl fn))] H := hP
                have hD : va_D A [(h, .inr (9, [.ref x, .int q1, .int q2, .ref rd, .ref t, .ref d, .ref nw, .ref ps, .ref im, .ref is_, .int q10, .ref bk, .int q12, .ref qr, .ref pr, .ref cv, .ref ft])), (qr, .inr (4, [.int o_12, .int o_13, .int o_14, .int o_15, .int o_16])), (t, .inr (8, [.int t0, .int t1, .int t2, .int t3, .int t4, .ref ta, .ref tb, .ref tc, .ref td, .ref te])), (tc, .inl (cI, 30, .inl ftc)), (nw, .inr (7, [.ref nwc])), (nwc, .inl (cI, 41, .inl fn))] := hD
                refine va_mmax hx hb (by rw [hml]; exact hl.1.symm) hown (hts _ wd_411) (hts _ wd_51) (hts _ wd_52) (hts _ wd_53) (Nat.le_of_ble_eq_true rfl) (Nat.le_of_ble_eq_true rfl) (Nat.le_of_ble_eq_true rfl) (Nat.le_of_ble_eq_true rfl) dX9_wornOut_58 ?_
                refine lv_istore (lv' := [(4, .int (if w_6l4 < r_11 then r_11 else w_6l4)), (5, .int w_6l5), (3, .int w_1l3), (2, .int w_1l2), (1, .int w_1l1), (0, .ref h)]) hx hb dX9_wornOut_61 hl (Nat.le_of_ble_eq_true rfl) rfl (fun ls hl => ?_)
                refine lv_iinc (v := (w_6l5 + 1)) (lv' := [(5, .int (w_6l5 + 1)), (4, .int (if w_6l4 < r_11 then r_11 else w_6l4)), (3, .int w_1l3), (2, .int w_1l2), (1, .int w_1l1), (0, .ref h)]) hx hb dX9_wornOut_63 hl (k := 1) rfl rfl (Nat.le_of_ble_eq_true rfl) rfl (fun ls hl => ?_)
                refine lv_goto (tgt := 37) hx hb dX9_wornOut_66 rfl ?_
                exact ih_w_6 (w_6l5 + 1) (if w_6l4 < r_11 then r_11 else w_6l4) o_12 o_13 o_14 o_15 o_16 _ _ ls hP hD hS (lv_sub hl [0, 1, 2, 3, 4, 5] rfl) (up_step c_9 hm) hE
          exact lp_37_w_6 (((t1 : Int32).toInt - (0 : Int32).toInt).toNat + 1) 0 0 w_1m0 w_1m1 w_1m2 w_1m3 w_1m4 _ _ ls hP hD hS hl (Nat.lt_succ_self _) hE
        · rw [if_neg c_5] at hE
          refine lv_goto (tgt := 85) hx hb dX9_wornOut_28 rfl ?_
          refine lv_iinc (v := (w_1l3 + 1)) (lv' := [(3, .int (w_1l3 + 1)), (2, .int w_1l2), (1, .int w_1l1), (0, .ref h)]) hx hb dX9_wornOut_85 hl (k := 0) rfl rfl (Nat.le_of_ble_eq_true rfl) rfl (fun ls hl => ?_)
          refine lv_goto (tgt := 6) hx hb dX9_wornOut_88 rfl ?_
          exact ih_w_1 (w_1l3 + 1) w_1l2 w_1l1 w_1m0 w_1m1 w_1m2 w_1m3 w_1m4 _ _ ls hP hD hS (lv_sub hl [0, 1, 2, 3] rfl) (up_step c_2 hm) hE
  exact lp_6_w_1 (((t2 : Int32).toInt - (0 : Int32).toInt).toNat + 1) 0 0 (-1) k0 k1 k2 k3 k4 _ _ ls hP hD hS hl (Nat.lt_succ_self _) hE
noncomputable def f_e_carried_x9_74 (q1 : Int32) (q2 : Int32) (q10 : Int32) (q12 : Int32) (t0 : Int32) (t1 : Int32) (t2 : Int32) (t3 : Int32) (t4 : Int32) (ftc : Nat → Int32) (fn : Nat → Int32) (b_ : Int32) (n : Nat) : Int32 → Int32 → (Int32 × Int32) ⊕ (Int32) := Nat.rec (motive := fun _ => Int32 → Int32 → (Int32 × Int32) ⊕ (Int32)) (fun w_13l4 w_13l3 => Sum.inl (w_13l4, w_13l3)) (fun n ih w_13l4 w_13l3 => (if t0 ≤ w_13l4 then (Sum.inl (w_13l4, w_13l3)) else (if b_ = (-1) then (if w_13l3 = 0 then (Sum.inr w_13l4) else (if b_ = w_13l4 then (Sum.inr w_13l3) else (if (f_e_coupleAt fn w_13l4) = (-1) then (ih (w_13l4 + 1) w_13l3) else (ih (w_13l4 + 1) (w_13l3 / 2))))) else (if b_ = w_13l4 then (Sum.inr w_13l3) else (if (f_e_coupleAt fn w_13l4) = (-1) then (ih (w_13l4 + 1) w_13l3) else (ih (w_13l4 + 1) (w_13l3 / 2))))))) n
theorem f_e_carried_x9_74_s (q1 : Int32) (q2 : Int32) (q10 : Int32) (q12 : Int32) (t0 : Int32) (t1 : Int32) (t2 : Int32) (t3 : Int32) (t4 : Int32) (ftc : Nat → Int32) (fn : Nat → Int32) (b_ : Int32) (n : Nat) (w_13l4 : Int32) (w_13l3 : Int32) : f_e_carried_x9_74 q1 q2 q10 q12 t0 t1 t2 t3 t4 ftc fn b_ (n + 1) w_13l4 w_13l3 = (if t0 ≤ w_13l4 then (Sum.inl (w_13l4, w_13l3)) else (if b_ = (-1) then (if w_13l3 = 0 then (Sum.inr w_13l4) else (if b_ = w_13l4 then (Sum.inr w_13l3) else (if (f_e_coupleAt fn w_13l4) = (-1) then (f_e_carried_x9_74 q1 q2 q10 q12 t0 t1 t2 t3 t4 ftc fn b_ n (w_13l4 + 1) w_13l3) else (f_e_carried_x9_74 q1 q2 q10 q12 t0 t1 t2 t3 t4 ftc fn b_ n (w_13l4 + 1) (w_13l3 / 2))))) else (if b_ = w_13l4 then (Sum.inr w_13l3) else (if (f_e_coupleAt fn w_13l4) = (-1) then (f_e_carried_x9_74 q1 q2 q10 q12 t0 t1 t2 t3 t4 ftc fn b_ n (w_13l4 + 1) w_13l3) else (f_e_carried_x9_74 q1 q2 q10 q12 t0 t1 t2 t3 t4 ftc fn b_ n (w_13l4 + 1) (w_13l3 / 2)))))) := rfl
noncomputable def f_e_carried_x9 (q1 : Int32) (q2 : Int32) (q10 : Int32) (q12 : Int32) (t0 : Int32) (t1 : Int32) (t2 : Int32) (t3 : Int32) (t4 : Int32) (ftc : Nat → Int32) (fn : Nat → Int32) (b_ : Int32) : Int32 := (if b_ = (-1) then (if (f_e_coupleAt fn 0) = (-1) then (-1000000003) else (match (f_e_carried_x9_74 q1 q2 q10 q12 t0 t1 t2 t3 t4 ftc fn b_ (((t0 : Int32).toInt - (1 : Int32).toInt).toNat + 1) 1 (f_e_stampOf_x9 (f_e_grievanceOf fn (f_e_coupleAt fn 0)) (f_e_forceOf_x8 t0 t1 t2 t3 t4 ftc (f_e_coupleAt fn 0) (f_e_themeOf fn (f_e_coupleAt fn 0))) t4)) with | Sum.inl (w_13l4, w_13l3) => (if b_ = (-1) then (-1) else 0) | Sum.inr o => o)) else (if (f_e_hasBridge t0 t1 t2 t3 t4 b_) = 0 then (-1000000001) else (if (f_e_coupleAt fn 0) = (-1) then (-1000000003) else (match (f_e_carried_x9_74 q1 q2 q10 q12 t0 t1 t2 t3 t4 ftc fn b_ (((t0 : Int32).toInt - (1 : Int32).toInt).toNat + 1) 1 (f_e_stampOf_x9 (f_e_grievanceOf fn (f_e_coupleAt fn 0)) (f_e_forceOf_x8 t0 t1 t2 t3 t4 ftc (f_e_coupleAt fn 0) (f_e_themeOf fn (f_e_coupleAt fn 0))) t4)) with | Sum.inl (w_40l4, w_40l3) => (if b_ = (-1) then (-1) else 0) | Sum.inr o => o))))
def rm_e_carried_x9 : Room := { frames := 3, cells := 0, slots := 0, locals := 64 }
set_option maxHeartbeats 4000000 in
set_option maxRecDepth 100000 in
theorem e_carried_x9 {l : Launch} {D : va_G} {cI cZ : ClassId} {sz : Nat} (h x rd t d nw ps im is_ bk qr pr cv ft ta tb tc td te nwc : Nat) (q1 : Int32) (q2 : Int32) (q10 : Int32) (q12 : Int32) (t0 : Int32) (t1 : Int32) (t2 : Int32) (t3 : Int32) (t4 : Int32) (ftc : Nat → Int32) (fn : Nat → Int32) (b_ : Int32) : KI l yX9_carried cX9_carried 5 (some .int) rm_e_carried_x9 D cI cZ [.ref h, .int b_] sz [(h, .inr (9, [.ref x, .int q1, .int q2, .ref rd, .ref t, .ref d, .ref nw, .ref ps, .ref im, .ref is_, .int q10, .ref bk, .int q12, .ref qr, .ref pr, .ref cv, .ref ft])), (t, .inr (8, [.int t0, .int t1, .int t2, .int t3, .int t4, .ref ta, .ref tb, .ref tc, .ref td, .ref te])), (tc, .inl (cI, 30, .inl ftc)), (nw, .inr (7, [.ref nwc])), (nwc, .inl (cI, 41, .inl fn))] (fun (r : Int32) (_ : Unit) => r = f_e_carried_x9 q1 q2 q10 q12 t0 t1 t2 t3 t4 ftc fn b_) (fun (_ : Unit) => [(h, .inr (9, [.ref x, .int q1, .int q2, .ref rd, .ref t, .ref d, .ref nw, .ref ps, .ref im, .ref is_, .int q10, .ref bk, .int q12, .ref qr, .ref pr, .ref cv, .ref ft])), (t, .inr (8, [.int t0, .int t1, .int t2, .int t3, .int t4, .ref ta, .ref tb, .ref tc, .ref td, .ref te])), (tc, .inl (cI, 30, .inl ftc)), (nw, .inr (7, [.ref nwc])), (nwc, .inl (cI, 41, .inl fn))]) := by
  refine KI.go rfl (Nat.le_of_ble_eq_true rfl) ?_
  intro p e s m args below meth c ls A Q hx hb hml hts hown hin hP hK hD hS hA hN hl hret
  have hl : lv_has ls 5 [(0, .ref h), (1, .int b_)] := hl
  obtain ⟨RES, hE⟩ : ∃ xRES, f_e_carried_x9 q1 q2 q10 q12 t0 t1 t2 t3 t4 ftc fn b_ = xRES := ⟨_, rfl⟩
  rw [hE] at hret
  rw [f_e_carried_x9] at hE
  refine lv_iload_n hx hb dX9_carried_0 rfl (lv_at hl 1 rfl) ?_
  refine lv_iconst (v := (-1)) hx hb dX9_carried_1 rfl ?_
  refine lv_icmp_eq (tgt := 19) hx hb dX9_carried_2 rfl (fun c_1 => ?_) (fun c_1 => ?_)
  · rw [if_pos c_1] at hE
    refine lv_aload_n hx hb dX9_carried_19 rfl (lv_at hl 0 rfl) ?_
    refine va_get (D := D) (ci := 9) (v := .ref nw) (C := RX9) (T := TX9) (N := 17) hx hb hts iX9 hown hK hP 0 rfl rfl 6 (Nat.le_of_ble_eq_true rfl) (hts _ wd_96) (fun _ h9 => h9) rfl dX9_carried_20 ?_
    refine lv_iconst (v := 0) hx hb dX9_carried_23 rfl ?_
    refine cVi (wr := [(h, .inr (9, [.ref x, .int q1, .int q2, .ref rd, .ref t, .ref d, .ref nw, .ref ps, .ref im, .ref is_, .int q10, .ref bk, .int q12, .ref qr, .ref pr, .ref cv, .ref ft])), (t, .inr (8, [.int t0, .int t1, .int t2, .int t3, .int t4, .ref ta, .ref tb, .ref tc, .ref td, .ref te])), (tc, .inl (cI, 30, .inl ftc))]) (rest := []) (e_coupleAt nw nwc fn 0) okV_X7_coupleAt wd_287 hx hb hml hown hts hK hP hD hS hA hN hl.1 [3, 4] [0, 1, 2] rfl rfl rfl rfl (of_decide_eq_true rfl) rfl rfl rfl (Nat.le_of_ble_eq_true rfl) (Nat.le_of_ble_eq_true rfl) (Nat.le_of_ble_eq_true rfl) (Nat.le_of_ble_eq_true rfl) (Nat.le_of_ble_eq_true rfl) dX9_carried_24 (fun r_3 u_2 H locs hw_u_2 hP hD hS => ?_)
    replace hw_u_2 : r_3 = (f_e_coupleAt fn 0) := hw_u_2
    rw [hw_u_2]
    clear hw_u_2
    have hP : va_P D classes [(h, .inr (9, [.ref x, .int q1, .int q2, .ref rd, .ref t, .ref d, .ref nw, .ref ps, .ref im, .ref is_, .int q10, .ref bk, .int q12, .ref qr, .ref pr, .ref cv, .ref ft])), (t, .inr (8, [.int t0, .int t1, .int t2, .int t3, .int t4, .ref ta, .ref tb, .ref tc, .ref td, .ref te])), (tc, .inl (cI, 30, .inl ftc)), (nw, .inr (7, [.ref nwc])), (nwc, .inl (cI, 41, .inl fn))] H := hP
    have hD : va_D A [(h, .inr (9, [.ref x, .int q1, .int q2, .ref rd, .ref t, .ref d, .ref nw, .ref ps, .ref im, .ref is_, .int q10, .ref bk, .int q12, .ref qr, .ref pr, .ref cv, .ref ft])), (t, .inr (8, [.int t0, .int t1, .int t2, .int t3, .int t4, .ref ta, .ref tb, .ref tc, .ref td, .ref te])), (tc, .inl (cI, 30, .inl ftc)), (nw, .inr (7, [.ref nwc])), (nwc, .inl (cI, 41, .inl fn))] := hD
    refine lv_istore_n (lv' := [(2, .int (f_e_coupleAt fn 0)), (0, .ref h), (1, .int b_)]) hx hb dX9_carried_27 rfl hl (Nat.le_of_ble_eq_true rfl) rfl (fun ls hl => ?_)
    refine lv_iload_n hx hb dX9_carried_28 rfl (lv_at hl 0 rfl) ?_
    refine lv_iconst (v := (-1)) hx hb dX9_carried_29 rfl ?_
    refine lv_icmp_ne (tgt := 36) hx hb dX9_carried_30 rfl (fun c_4 => ?_) (fun c_4 => ?_)
    · rw [if_neg c_4] at hE
      refine lv_aload_n hx hb dX9_carried_36 rfl (lv_at hl 1 rfl) ?_
      refine va_get (D := D) (ci := 9) (v := .ref nw) (C := RX9) (T := TX9) (N := 17) hx hb hts iX9 hown hK hP 0 rfl rfl 6 (Nat.le_of_ble_eq_true rfl) (hts _ wd_96) (fun _ h9 => h9) rfl dX9_carried_37 ?_
      refine lv_iload_n hx hb dX9_carried_40 rfl (lv_at hl 0 rfl) ?_
      refine cVi (wr := [(h, .inr (9, [.ref x, .int q1, .int q2, .ref rd, .ref t, .ref d, .ref nw, .ref ps, .ref im, .ref is_, .int q10, .ref bk, .int q12, .ref qr, .ref pr, .ref cv, .ref ft])), (t, .inr (8, [.int t0, .int t1, .int t2, .int t3, .int t4, .ref ta, .ref tb, .ref tc, .ref td, .ref te])), (tc, .inl (cI, 30, .inl ftc))]) (rest := []) (e_grievanceOf nw nwc fn (f_e_coupleAt fn 0)) okV_X7_grievanceOf wd_251 hx hb hml hown hts hK hP hD hS hA hN hl.1 [3, 4] [0, 1, 2] rfl rfl rfl rfl (of_decide_eq_true rfl) rfl rfl rfl (Nat.le_of_ble_eq_true rfl) (Nat.le_of_ble_eq_true rfl) (Nat.le_of_ble_eq_true rfl) (Nat.le_of_ble_eq_true rfl) (Nat.le_of_ble_eq_true rfl) dX9_carried_41 (fun r_6 u_5 H locs hw_u_5 hP hD hS => ?_)
      replace hw_u_5 : r_6 = (f_e_grievanceOf fn (f_e_coupleAt fn 0)) := hw_u_5
      rw [hw_u_5]
      clear hw_u_5
      have hP : va_P D classes [(h, .inr (9, [.ref x, .int q1, .int q2, .ref rd, .ref t, .ref d, .ref nw, .ref ps, .ref im, .ref is_, .int q10, .ref bk, .int q12, .ref qr, .ref pr, .ref cv, .ref ft])), (t, .inr (8, [.int t0, .int t1, .int t2, .int t3, .int t4, .ref ta, .ref tb, .ref tc, .ref td, .ref te])), (tc, .inl (cI, 30, .inl ftc)), (nw, .inr (7, [.ref nwc])), (nwc, .inl (cI, 41, .inl fn))] H := hP
      have hD : va_D A [(h, .inr (9, [.ref x, .int q1, .int q2, .ref rd, .ref t, .ref d, .ref nw, .ref ps, .ref im, .ref is_, .int q10, .ref bk, .int q12, .ref qr, .ref pr, .ref cv, .ref ft])), (t, .inr (8, [.int t0, .int t1, .int t2, .int t3, .int t4, .ref ta, .ref tb, .ref tc, .ref td, .ref te])), (tc, .inl (cI, 30, .inl ftc)), (nw, .inr (7, [.ref nwc])), (nwc, .inl (cI, 41, .inl fn))] := hD
      refine lv_aload_n hx hb dX9_carried_44 rfl (lv_at hl 1 rfl) ?_
      refine va_get (D := D) (ci := 9) (v := .ref t) (C := RX9) (T := TX9) (N := 17) hx hb hts iX9 hown hK hP 0 rfl rfl 4 (Nat.le_of_ble_eq_true rfl) (hts _ wd_89) (fun _ h9 => h9) rfl dX9_carried_45 ?_
      refine lv_iload_n hx hb dX9_carried_48 rfl (lv_at hl 0 rfl) ?_
      refine lv_aload_n hx hb dX9_carried_49 rfl (lv_at hl 1 rfl) ?_
      refine va_get (D := D) (ci := 9) (v := .ref nw) (C := RX9) (T := TX9) (N := 17) hx hb hts iX9 hown hK hP 0 rfl rfl 6 (Nat.le_of_ble_eq_true rfl) (hts _ wd_96) (fun _ h9 => h9) rfl dX9_carried_50 ?_
      refine lv_iload_n hx hb dX9_carried_53 rfl (lv_at hl 0 rfl) ?_
      refine cVi (wr := [(h, .inr (9, [.ref x, .int q1, .int q2, .ref rd, .ref t, .ref d, .ref nw, .ref ps, .ref im, .ref is_, .int q10, .ref bk, .int q12, .ref qr, .ref pr, .ref cv, .ref ft])), (t, .inr (8, [.int t0, .int t1, .int t2, .int t3, .int t4, .ref ta, .ref tb, .ref tc, .ref td, .ref te])), (tc, .inl (cI, 30, .inl ftc))]) (rest := [.int (f_e_coupleAt fn 0), .ref t, .int (f_e_grievanceOf fn (f_e_coupleAt fn 0))]) (e_themeOf nw nwc fn (f_e_coupleAt fn 0)) okV_X7_themeOf wd_291 hx hb hml hown hts hK hP hD hS hA hN hl.1 [3, 4] [0, 1, 2] rfl rfl rfl rfl (of_decide_eq_true rfl) rfl rfl rfl (Nat.le_of_ble_eq_true rfl) (Nat.le_of_ble_eq_true rfl) (Nat.le_of_ble_eq_true rfl) (Nat.le_of_ble_eq_true rfl) (Nat.le_of_ble_eq_true rfl) dX9_carried_54 (fun r_8 u_7 H locs hw_u_7 hP hD hS => ?_)
      replace hw_u_7 : r_8 = (f_e_themeOf fn (f_e_coupleAt fn 0)) := hw_u_7
      rw [hw_u_7]
      clear hw_u_7
      have hP : va_P D classes [(h, .inr (9, [.ref x, .int q1, .int q2, .ref rd, .ref t, .ref d, .ref nw, .ref ps, .ref im, .ref is_, .int q10, .ref bk, .int q12, .ref qr, .ref pr, .ref cv, .ref ft])), (t, .inr (8, [.int t0, .int t1, .int t2, .int t3, .int t4, .ref ta, .ref tb, .ref tc, .ref td, .ref te])), (tc, .inl (cI, 30, .inl ftc)), (nw, .inr (7, [.ref nwc])), (nwc, .inl (cI, 41, .inl fn))] H := hP
      have hD : va_D A [(h, .inr (9, [.ref x, .int q1, .int q2, .ref rd, .ref t, .ref d, .ref nw, .ref ps, .ref im, .ref is_, .int q10, .ref bk, .int q12, .ref qr, .ref pr, .ref cv, .ref ft])), (t, .inr (8, [.int t0, .int t1, .int t2, .int t3, .int t4, .ref ta, .ref tb, .ref tc, .ref td, .ref te])), (tc, .inl (cI, 30, .inl ftc)), (nw, .inr (7, [.ref nwc])), (nwc, .inl (cI, 41, .inl fn))] := hD
      refine cVi (wr := [(h, .inr (9, [.ref x, .int q1, .int q2, .ref rd, .ref t, .ref d, .ref nw, .ref ps, .ref im, .ref is_, .int q10, .ref bk, .int q12, .ref qr, .ref pr, .ref cv, .ref ft])), (nw, .inr (7, [.ref nwc])), (nwc, .inl (cI, 41, .inl fn))]) (rest := [.int (f_e_grievanceOf fn (f_e_coupleAt fn 0))]) (e_forceOf_x8 t ta tb tc td te t0 t1 t2 t3 t4 ftc (f_e_coupleAt fn 0) (f_e_themeOf fn (f_e_coupleAt fn 0))) okV_X8_forceOf wd_252 hx hb hml hown hts hK hP hD hS hA hN hl.1 [1, 2] [0, 3, 4] rfl rfl rfl rfl (of_decide_eq_true rfl) rfl rfl rfl (Nat.le_of_ble_eq_true rfl) (Nat.le_of_ble_eq_true rfl) (Nat.le_of_ble_eq_true rfl) (Nat.le_of_ble_eq_true rfl) (Nat.le_of_ble_eq_true rfl) dX9_carried_57 (fun r_10 u_9 H locs hw_u_9 hP hD hS => ?_)
      replace hw_u_9 : r_10 = (f_e_forceOf_x8 t0 t1 t2 t3 t4 ftc (f_e_coupleAt fn 0) (f_e_themeOf fn (f_e_coupleAt fn 0))) := hw_u_9
      rw [hw_u_9]
      clear hw_u_9
      have hP : va_P D classes [(h, .inr (9, [.ref x, .int q1, .int q2, .ref rd, .ref t, .ref d, .ref nw, .ref ps, .ref im, .ref is_, .int q10, .ref bk, .int q12, .ref qr, .ref pr, .ref cv, .ref ft])), (nw, .inr (7, [.ref nwc])), (nwc, .inl (cI, 41, .inl fn)), (t, .inr (8, [.int t0, .int t1, .int t2, .int t3, .int t4, .ref ta, .ref tb, .ref tc, .ref td, .ref te])), (tc, .inl (cI, 30, .inl ftc))] H := hP
      have hD : va_D A [(h, .inr (9, [.ref x, .int q1, .int q2, .ref rd, .ref t, .ref d, .ref nw, .ref ps, .ref im, .ref is_, .int q10, .ref bk, .int q12, .ref qr, .ref pr, .ref cv, .ref ft])), (nw, .inr (7, [.ref nwc])), (nwc, .inl (cI, 41, .inl fn)), (t, .inr (8, [.int t0, .int t1, .int t2, .int t3, .int t4, .ref ta, .ref tb, .ref tc, .ref td, .ref te])), (tc, .inl (cI, 30, .inl ftc))] := hD
      refine lv_aload_n hx hb dX9_carried_60 rfl (lv_at hl 1 rfl) ?_
      refine va_get (D := D) (ci := 9) (v := .ref t) (C := RX9) (T := TX9) (N := 17) hx hb hts iX9 hown hK hP 0 rfl rfl 4 (Nat.le_of_ble_eq_true rfl) (hts _ wd_89) (fun _ h9 => h9) rfl dX9_carried_61 ?_
      refine va_get (D := D) (ci := 8) (v := .int t4) (C := RX8) (T := TX8) (N := 10) hx hb hts iX8 hown hK hP 3 rfl rfl 4 (Nat.le_of_ble_eq_true rfl) (hts _ wd_256) (fun _ h9 => h9) rfl dX9_carried_64 ?_
      refine cSi (wr := [(h, .inr (9, [.ref x, .int q1, .int q2, .ref rd, .ref t, .ref d, .ref nw, .ref ps, .ref im, .ref is_, .int q10, .ref bk, .int q12, .ref qr, .ref pr, .ref cv, .ref ft])), (nw, .inr (7, [.ref nwc])), (nwc, .inl (cI, 41, .inl fn)), (t, .inr (8, [.int t0, .int t1, .int t2, .int t3, .int t4, .ref ta, .ref tb, .ref tc, .ref td, .ref te])), (tc, .inl (cI, 30, .inl ftc))]) (rest := []) (e_stampOf_x9 (f_e_grievanceOf fn (f_e_coupleAt fn 0)) (f_e_forceOf_x8 t0 t1 t2 t3 t4 ftc (f_e_coupleAt fn 0) (f_e_themeOf fn (f_e_coupleAt fn 0))) t4) okS_X9_stampOf wd_412 hx hb hml hown hts hK hP hD hS hA hN hl.1 [] [0, 1, 2, 3, 4] rfl rfl rfl rfl (of_decide_eq_true rfl) rfl (Nat.le_of_ble_eq_true rfl) (Nat.le_of_ble_eq_true rfl) (Nat.le_of_ble_eq_true rfl) (Nat.le_of_ble_eq_true rfl) (Nat.le_of_ble_eq_true rfl) dX9_carried_67 (fun r_12 u_11 H locs hw_u_11 hP hD hS => ?_)
      replace hw_u_11 : r_12 = (f_e_stampOf_x9 (f_e_grievanceOf fn (f_e_coupleAt fn 0)) (f_e_forceOf_x8 t0 t1 t2 t3 t4 ftc (f_e_coupleAt fn 0) (f_e_themeOf fn (f_e_coupleAt fn 0))) t4) := hw_u_11
      rw [hw_u_11]
      clear hw_u_11
      have hP : va_P D classes [(h, .inr (9, [.ref x, .int q1, .int q2, .ref rd, .ref t, .ref d, .ref nw, .ref ps, .ref im, .ref is_, .int q10, .ref bk, .int q12, .ref qr, .ref pr, .ref cv, .ref ft])), (nw, .inr (7, [.ref nwc])), (nwc, .inl (cI, 41, .inl fn)), (t, .inr (8, [.int t0, .int t1, .int t2, .int t3, .int t4, .ref ta, .ref tb, .ref tc, .ref td, .ref te])), (tc, .inl (cI, 30, .inl ftc))] H := hP
      have hD : va_D A [(h, .inr (9, [.ref x, .int q1, .int q2, .ref rd, .ref t, .ref d, .ref nw, .ref ps, .ref im, .ref is_, .int q10, .ref bk, .int q12, .ref qr, .ref pr, .ref cv, .ref ft])), (nw, .inr (7, [.ref nwc])), (nwc, .inl (cI, 41, .inl fn)), (t, .inr (8, [.int t0, .int t1, .int t2, .int t3, .int t4, .ref ta, .ref tb, .ref tc, .ref td, .ref te])), (tc, .inl (cI, 30, .inl ftc))] := hD
      refine lv_istore_n (lv' := [(3, .int (f_e_stampOf_x9 (f_e_grievanceOf fn (f_e_coupleAt fn 0)) (f_e_forceOf_x8 t0 t1 t2 t3 t4 ftc (f_e_coupleAt fn 0) (f_e_themeOf fn (f_e_coupleAt fn 0))) t4)), (2, .int (f_e_coupleAt fn 0)), (0, .ref h), (1, .int b_)]) hx hb dX9_carried_70 rfl hl (Nat.le_of_ble_eq_true rfl) rfl (fun ls hl => ?_)
      refine lv_iconst (v := 1) hx hb dX9_carried_71 rfl ?_
      refine lv_istore (lv' := [(4, .int 1), (3, .int (f_e_stampOf_x9 (f_e_grievanceOf fn (f_e_coupleAt fn 0)) (f_e_forceOf_x8 t0 t1 t2 t3 t4 ftc (f_e_coupleAt fn 0) (f_e_themeOf fn (f_e_coupleAt fn 0))) t4)), (2, .int (f_e_coupleAt fn 0)), (0, .ref h), (1, .int b_)]) hx hb dX9_carried_72 hl (Nat.le_of_ble_eq_true rfl) rfl (fun ls hl => ?_)
      have ex_74_w_13 : ∀ (w_13l4 : Int32) (w_13l3 : Int32) (H : Heap) (locs : List Loc) (ls : Array Slot), va_P D classes [(h, .inr (9, [.ref x, .int q1, .int q2, .ref rd, .ref t, .ref d, .ref nw, .ref ps, .ref im, .ref is_, .int q10, .ref bk, .int q12, .ref qr, .ref pr, .ref cv, .ref ft])), (nw, .inr (7, [.ref nwc])), (nwc, .inl (cI, 41, .inl fn)), (t, .inr (8, [.int t0, .int t1, .int t2, .int t3, .int t4, .ref ta, .ref tb, .ref tc, .ref td, .ref te])), (tc, .inl (cI, 30, .inl ftc))] H → va_D A [(h, .inr (9, [.ref x, .int q1, .int q2, .ref rd, .ref t, .ref d, .ref nw, .ref ps, .ref im, .ref is_, .int q10, .ref bk, .int q12, .ref qr, .ref pr, .ref cv, .ref ft])), (nw, .inr (7, [.ref nwc])), (nwc, .inl (cI, 41, .inl fn)), (t, .inr (8, [.int t0, .int t1, .int t2, .int t3, .int t4, .ref ta, .ref tb, .ref tc, .ref td, .ref te])), (tc, .inl (cI, 30, .inl ftc))] → va_S A s.heap H locs → lv_has ls 5 [(4, .int w_13l4), (3, .int w_13l3), (2, .int (f_e_coupleAt fn 0)), (0, .ref h), (1, .int b_)] → ((if b_ = (-1) then (-1) else 0)) = RES → W p l e rm_e_carried_x9 s m args below meth c H locs 0 0 Q (F0 m 129 ls []) := by
        intro w_13l4 w_13l3 H locs ls hP hD hS hl hE
        refine lv_iload_n hx hb dX9_carried_129 rfl (lv_at hl 4 rfl) ?_
        refine lv_iconst (v := (-1)) hx hb dX9_carried_130 rfl ?_
        refine lv_icmp_ne (tgt := 138) hx hb dX9_carried_131 rfl (fun c_14 => ?_) (fun c_14 => ?_)
        · rw [if_neg c_14] at hE
          refine lv_iconst (v := 0) hx hb dX9_carried_138 rfl ?_
          exact hret 0 () _ _ _ _ dX9_carried_139 rfl hE (cutP (isC := [0, 3, 4, 1, 2]) hP rfl) (cutD (isC := [0, 3, 4, 1, 2]) hD rfl rfl) hS
        · rw [if_pos c_14] at hE
          refine lv_iconst (v := (-1)) hx hb dX9_carried_134 rfl ?_
          refine lv_goto (tgt := 139) hx hb dX9_carried_135 rfl ?_
          exact hret (-1) () _ _ _ _ dX9_carried_139 rfl hE (cutP (isC := [0, 3, 4, 1, 2]) hP rfl) (cutD (isC := [0, 3, 4, 1, 2]) hD rfl rfl) hS
      have lp_74_w_13 : ∀ (n_w_13 : Nat) (w_13l4 : Int32) (w_13l3 : Int32) (H : Heap) (locs : List Loc) (ls : Array Slot), va_P D classes [(h, .inr (9, [.ref x, .int q1, .int q2, .ref rd, .ref t, .ref d, .ref nw, .ref ps, .ref im, .ref is_, .int q10, .ref bk, .int q12, .ref qr, .ref pr, .ref cv, .ref ft])), (nw, .inr (7, [.ref nwc])), (nwc, .inl (cI, 41, .inl fn)), (t, .inr (8, [.int t0, .int t1, .int t2, .int t3, .int t4, .ref ta, .ref tb, .ref tc, .ref td, .ref te])), (tc, .inl (cI, 30, .inl ftc))] H → va_D A [(h, .inr (9, [.ref x, .int q1, .int q2, .ref rd, .ref t, .ref d, .ref nw, .ref ps, .ref im, .ref is_, .int q10, .ref bk, .int q12, .ref qr, .ref pr, .ref cv, .ref ft])), (nw, .inr (7, [.ref nwc])), (nwc, .inl (cI, 41, .inl fn)), (t, .inr (8, [.int t0, .int t1, .int t2, .int t3, .int t4, .ref ta, .ref tb, .ref tc, .ref td, .ref te])), (tc, .inl (cI, 30, .inl ftc))] → va_S A s.heap H locs → lv_has ls 5 [(4, .int w_13l4), (3, .int w_13l3), (2, .int (f_e_coupleAt fn 0)), (0, .ref h), (1, .int b_)] → ((t0 : Int32).toInt - (w_13l4 : Int32).toInt).toNat < n_w_13 → (match (f_e_carried_x9_74 q1 q2 q10 q12 t0 t1 t2 t3 t4 ftc fn b_ n_w_13 w_13l4 w_13l3) with | Sum.inl (w_13l4, w_13l3) => (if b_ = (-1) then (-1) else 0) | Sum.inr o => o) = RES → W p l e rm_e_carried_x9 s m args below meth c H locs 0 0 Q (F0 m 74 ls []) := by
        intro n_w_13
        induction n_w_13 with
        | zero => intro w_13l4 w_13l3 H locs ls hP hD hS hl hm; exact absurd hm (Nat.not_lt_zero _)
        | succ n_w_13 ih_w_13 =>
          intro w_13l4 w_13l3 H locs ls hP hD hS hl hm hE
          rw [f_e_carried_x9_74_s] at hE
          refine lv_iload hx hb dX9_carried_74 (lv_at hl 0 rfl) ?_
          refine lv_aload_n hx hb dX9_carried_76 rfl (lv_at hl 3 rfl) ?_
          refine va_get (D := D) (ci := 9) (v := .ref t) (C := RX9) (T := TX9) (N := 17) hx hb hts iX9 hown hK hP 0 rfl rfl 4 (Nat.le_of_ble_eq_true rfl) (hts _ wd_89) (fun _ h9 => h9) rfl dX9_carried_77 ?_
          refine va_get (D := D) (ci := 8) (v := .int t0) (C := RX8) (T := TX8) (N := 10) hx hb hts iX8 hown hK hP 3 rfl rfl 0 (Nat.le_of_ble_eq_true rfl) (hts _ wd_372) (fun _ h9 => h9) rfl dX9_carried_80 ?_
          refine lv_icmp_ge (tgt := 129) hx hb dX9_carried_83 rfl (fun c_15 => ?_) (fun c_15 => ?_)
          · rw [if_pos c_15] at hE
            exact ex_74_w_13 w_13l4 w_13l3 _ _ ls hP hD hS (lv_sub hl [0, 1, 2, 3, 4] rfl) hE
          · rw [if_neg c_15] at hE
            refine lv_iload_n hx hb dX9_carried_86 rfl (lv_at hl 4 rfl) ?_
            refine lv_iconst (v := (-1)) hx hb dX9_carried_87 rfl ?_
            refine lv_icmp_ne (tgt := 98) hx hb dX9_carried_88 rfl (fun c_16 => ?_) (fun c_16 => ?_)
            · rw [if_neg c_16] at hE
              refine lv_iload_n hx hb dX9_carried_98 rfl (lv_at hl 4 rfl) ?_
              refine lv_iload hx hb dX9_carried_99 (lv_at hl 0 rfl) ?_
              refine lv_icmp_ne (tgt := 106) hx hb dX9_carried_101 rfl (fun c_17 => ?_) (fun c_17 => ?_)
              · rw [if_neg c_17] at hE
                refine lv_aload_n hx hb dX9_carried_106 rfl (lv_at hl 3 rfl) ?_
                refine va_get (D := D) (ci := 9) (v := .ref nw) (C := RX9) (T := TX9) (N := 17) hx hb hts iX9 hown hK hP 0 rfl rfl 6 (Nat.le_of_ble_eq_true rfl) (hts _ wd_96) (fun _ h9 => h9) rfl dX9_carried_107 ?_
                refine lv_iload hx hb dX9_carried_110 (lv_at hl 0 rfl) ?_
                refine cVi (wr := [(h, .inr (9, [.ref x, .int q1, .int q2, .ref rd, .ref t, .ref d, .ref nw, .ref ps, .ref im, .ref is_, .int q10, .ref bk, .int q12, .ref qr, .ref pr, .ref cv, .ref ft])), (t, .inr (8, [.int t0, .int t1, .int t2, .int t3, .int t4, .ref ta, .ref tb, .ref tc, .ref td, .ref te])), (tc, .inl (cI, 30, .inl ftc))]) (rest := []) (e_coupleAt nw nwc fn w_13l4) okV_X7_coupleAt wd_287 hx hb hml hown hts hK hP hD hS hA hN hl.1 [1, 2] [0, 3, 4] rfl rfl rfl rfl (of_decide_eq_true rfl) rfl rfl rfl (Nat.le_of_ble_eq_true rfl) (Nat.le_of_ble_eq_true rfl) (Nat.le_of_ble_eq_true rfl) (Nat.le_of_ble_eq_true rfl) (Nat.le_of_ble_eq_true rfl) dX9_carried_112 (fun r_19 u_18 H locs hw_u_18 hP hD hS => ?_)
                replace hw_u_18 : r_19 = (f_e_coupleAt fn w_13l4) := hw_u_18
                rw [hw_u_18]
                clear hw_u_18
                have hP : va_P D classes [(h, .inr (9, [.ref x, .int q1, .int q2, .ref rd, .ref t, .ref d, .ref nw, .ref ps, .ref im, .ref is_, .int q10, .ref bk, .int q12, .ref qr, .ref pr, .ref cv, .ref ft])), (t, .inr (8, [.int t0, .int t1, .int t2, .int t3, .int t4, .ref ta, .ref tb, .ref tc, .ref td, .ref te])), (tc, .inl (cI, 30, .inl ftc)), (nw, .inr (7, [.ref nwc])), (nwc, .inl (cI, 41, .inl fn))] H := hP
                have hD : va_D A [(h, .inr (9, [.ref x, .int q1, .int q2, .ref rd, .ref t, .ref d, .ref nw, .ref ps, .ref im, .ref is_, .int q10, .ref bk, .int q12, .ref qr, .ref pr, .ref cv, .ref ft])), (t, .inr (8, [.int t0, .int t1, .int t2, .int t3, .int t4, .ref ta, .ref tb, .ref tc, .ref td, .ref te])), (tc, .inl (cI, 30, .inl ftc)), (nw, .inr (7, [.ref nwc])), (nwc, .inl (cI, 41, .inl fn))] := hD
                refine lv_iconst (v := (-1)) hx hb dX9_carried_115 rfl ?_
                refine lv_icmp_eq (tgt := 123) hx hb dX9_carried_116 rfl (fun c_20 => ?_) (fun c_20 => ?_)
                · rw [if_pos c_20] at hE
                  refine lv_iinc (v := (w_13l4 + 1)) (lv' := [(4, .int (w_13l4 + 1)), (3, .int w_13l3), (2, .int (f_e_coupleAt fn 0)), (0, .ref h), (1, .int b_)]) hx hb dX9_carried_123 hl (k := 0) rfl rfl (Nat.le_of_ble_eq_true rfl) rfl (fun ls hl => ?_)
                  refine lv_goto (tgt := 74) hx hb dX9_carried_126 rfl ?_
                  exact ih_w_13 (w_13l4 + 1) w_13l3 _ _ ls (cutP (isC := [0, 3, 4, 1, 2]) hP rfl) (cutD (isC := [0, 3, 4, 1, 2]) hD rfl rfl) hS (lv_sub hl [0, 1, 2, 3, 4] rfl) (up_step c_15 hm) hE
                · rw [if_neg c_20] at hE
                  refine lv_iload_n hx hb dX9_carried_119 rfl (lv_at hl 1 rfl) ?_
                  refine lv_iconst (v := 2) hx hb dX9_carried_120 rfl ?_
                  refine lv_idiv hx hb dX9_carried_121 (by decide) ?_
                  refine lv_istore_n (lv' := [(3, .int (w_13l3 / 2)), (4, .int w_13l4), (2, .int (f_e_coupleAt fn 0)), (0, .ref h), (1, .int b_)]) hx hb dX9_carried_122 rfl hl (Nat.le_of_ble_eq_true rfl) rfl (fun ls hl => ?_)
                  refine lv_iinc (v := (w_13l4 + 1)) (lv' := [(4, .int (w_13l4 + 1)), (3, .int (w_13l3 / 2)), (2, .int (f_e_coupleAt fn 0)), (0, .ref h), (1, .int b_)]) hx hb dX9_carried_123 hl (k := 1) rfl rfl (Nat.le_of_ble_eq_true rfl) rfl (fun ls hl => ?_)
                  refine lv_goto (tgt := 74) hx hb dX9_carried_126 rfl ?_
                  exact ih_w_13 (w_13l4 + 1) (w_13l3 / 2) _ _ ls (cutP (isC := [0, 3, 4, 1, 2]) hP rfl) (cutD (isC := [0, 3, 4, 1, 2]) hD rfl rfl) hS (lv_sub hl [0, 1, 2, 3, 4] rfl) (up_step c_15 hm) hE
              · rw [if_pos c_17] at hE
                refine lv_iload_n hx hb dX9_carried_104 rfl (lv_at hl 1 rfl) ?_
                exact hret w_13l3 () _ _ _ _ dX9_carried_105 rfl hE (cutP (isC := [0, 3, 4, 1, 2]) hP rfl) (cutD (isC := [0, 3, 4, 1, 2]) hD rfl rfl) hS
            · rw [if_pos c_16] at hE
              refine lv_iload_n hx hb dX9_carried_91 rfl (lv_at hl 1 rfl) ?_
              refine lv_if_ne (tgt := 98) hx hb dX9_carried_92 rfl (fun c_21 => ?_) (fun c_21 => ?_)
              · rw [if_neg c_21] at hE
                refine lv_iload_n hx hb dX9_carried_98 rfl (lv_at hl 4 rfl) ?_
                refine lv_iload hx hb dX9_carried_99 (lv_at hl 0 rfl) ?_
                refine lv_icmp_ne (tgt := 106) hx hb dX9_carried_101 rfl (fun c_22 => ?_) (fun c_22 => ?_)
                · rw [if_neg c_22] at hE
                  refine lv_aload_n hx hb dX9_carried_106 rfl (lv_at hl 3 rfl) ?_
                  refine va_get (D := D) (ci := 9) (v := .ref nw) (C := RX9) (T := TX9) (N := 17) hx hb hts iX9 hown hK hP 0 rfl rfl 6 (Nat.le_of_ble_eq_true rfl) (hts _ wd_96) (fun _ h9 => h9) rfl dX9_carried_107 ?_
                  refine lv_iload hx hb dX9_carried_110 (lv_at hl 0 rfl) ?_
                  refine cVi (wr := [(h, .inr (9, [.ref x, .int q1, .int q2, .ref rd, .ref t, .ref d, .ref nw, .ref ps, .ref im, .ref is_, .int q10, .ref bk, .int q12, .ref qr, .ref pr, .ref cv, .ref ft])), (t, .inr (8, [.int t0, .int t1, .int t2, .int t3, .int t4, .ref ta, .ref tb, .ref tc, .ref td, .ref te])), (tc, .inl (cI, 30, .inl ftc))]) (rest := []) (e_coupleAt nw nwc fn w_13l4) okV_X7_coupleAt wd_287 hx hb hml hown hts hK hP hD hS hA hN hl.1 [1, 2] [0, 3, 4] rfl rfl rfl rfl (of_decide_eq_true rfl) rfl rfl rfl (Nat.le_of_ble_eq_true rfl) (Nat.le_of_ble_eq_true rfl) (Nat.le_of_ble_eq_true rfl) (Nat.le_of_ble_eq_true rfl) (Nat.le_of_ble_eq_true rfl) dX9_carried_112 (fun r_24 u_23 H locs hw_u_23 hP hD hS => ?_)
                  replace hw_u_23 : r_24 = (f_e_coupleAt fn w_13l4) := hw_u_23
                  rw [hw_u_23]
                  clear hw_u_23
                  have hP : va_P D classes [(h, .inr (9, [.ref x, .int q1, .int q2, .ref rd, .ref t, .ref d, .ref nw, .ref ps, .ref im, .ref is_, .int q10, .ref bk, .int q12, .ref qr, .ref pr, .ref cv, .ref ft])), (t, .inr (8, [.int t0, .int t1, .int t2, .int t3, .int t4, .ref ta, .ref tb, .ref tc, .ref td, .ref te])), (tc, .inl (cI, 30, .inl ftc)), (nw, .inr (7, [.ref nwc])), (nwc, .inl (cI, 41, .inl fn))] H := hP
                  have hD : va_D A [(h, .inr (9, [.ref x, .int q1, .int q2, .ref rd, .ref t, .ref d, .ref nw, .ref ps, .ref im, .ref is_, .int q10, .ref bk, .int q12, .ref qr, .ref pr, .ref cv, .ref ft])), (t, .inr (8, [.int t0, .int t1, .int t2, .int t3, .int t4, .ref ta, .ref tb, .ref tc, .ref td, .ref te])), (tc, .inl (cI, 30, .inl ftc)), (nw, .inr (7, [.ref nwc])), (nwc, .inl (cI, 41, .inl fn))] := hD
                  refine lv_iconst (v := (-1)) hx hb dX9_carried_115 rfl ?_
                  refine lv_icmp_eq (tgt := 123) hx hb dX9_carried_116 rfl (fun c_25 => ?_) (fun c_25 => ?_)
                  · rw [if_pos c_25] at hE
                    refine lv_iinc (v := (w_13l4 + 1)) (lv' := [(4, .int (w_13l4 + 1)), (3, .int w_13l3), (2, .int (f_e_coupleAt fn 0)), (0, .ref h), (1, .int b_)]) hx hb dX9_carried_123 hl (k := 0) rfl rfl (Nat.le_of_ble_eq_true rfl) rfl (fun ls hl => ?_)
                    refine lv_goto (tgt := 74) hx hb dX9_carried_126 rfl ?_
                    exact ih_w_13 (w_13l4 + 1) w_13l3 _ _ ls (cutP (isC := [0, 3, 4, 1, 2]) hP rfl) (cutD (isC := [0, 3, 4, 1, 2]) hD rfl rfl) hS (lv_sub hl [0, 1, 2, 3, 4] rfl) (up_step c_15 hm) hE
                  · rw [if_neg c_25] at hE
                    refine lv_iload_n hx hb dX9_carried_119 rfl (lv_at hl 1 rfl) ?_
                    refine lv_iconst (v := 2) hx hb dX9_carried_120 rfl ?_
                    refine lv_idiv hx hb dX9_carried_121 (by decide) ?_
                    refine lv_istore_n (lv' := [(3, .int (w_13l3 / 2)), (4, .int w_13l4), (2, .int (f_e_coupleAt fn 0)), (0, .ref h), (1, .int b_)]) hx hb dX9_carried_122 rfl hl (Nat.le_of_ble_eq_true rfl) rfl (fun ls hl => ?_)
                    refine lv_iinc (v := (w_13l4 + 1)) (lv' := [(4, .int (w_13l4 + 1)), (3, .int (w_13l3 / 2)), (2, .int (f_e_coupleAt fn 0)), (0, .ref h), (1, .int b_)]) hx hb dX9_carried_123 hl (k := 1) rfl rfl (Nat.le_of_ble_eq_true rfl) rfl (fun ls hl => ?_)
                    refine lv_goto (tgt := 74) hx hb dX9_carried_126 rfl ?_
                    exact ih_w_13 (w_13l4 + 1) (w_13l3 / 2) _ _ ls (cutP (isC := [0, 3, 4, 1, 2]) hP rfl) (cutD (isC := [0, 3, 4, 1, 2]) hD rfl rfl) hS (lv_sub hl [0, 1, 2, 3, 4] rfl) (up_step c_15 hm) hE
                · rw [if_pos c_22] at hE
                  refine lv_iload_n hx hb dX9_carried_104 rfl (lv_at hl 1 rfl) ?_
                  exact hret w_13l3 () _ _ _ _ dX9_carried_105 rfl hE (cutP (isC := [0, 3, 4, 1, 2]) hP rfl) (cutD (isC := [0, 3, 4, 1, 2]) hD rfl rfl) hS
              · rw [if_pos c_21] at hE
                refine lv_iload hx hb dX9_carried_95 (lv_at hl 0 rfl) ?_
                exact hret w_13l4 () _ _ _ _ dX9_carried_97 rfl hE (cutP (isC := [0, 3, 4, 1, 2]) hP rfl) (cutD (isC := [0, 3, 4, 1, 2]) hD rfl rfl) hS
      exact lp_74_w_13 (((t0 : Int32).toInt - (1 : Int32).toInt).toNat + 1) 1 (f_e_stampOf_x9 (f_e_grievanceOf fn (f_e_coupleAt fn 0)) (f_e_forceOf_x8 t0 t1 t2 t3 t4 ftc (f_e_coupleAt fn 0) (f_e_themeOf fn (f_e_coupleAt fn 0))) t4) _ _ ls hP hD hS hl (Nat.lt_succ_self _) hE
    · rw [if_pos c_4] at hE
      refine lv_ldc (v := (-1000000003)) hx hb hown (hts _ wd_384) dX9_carried_33 ?_
      exact hret (-1000000003) () _ _ _ _ dX9_carried_35 rfl hE hP hD hS
  · rw [if_neg c_1] at hE
    refine lv_aload_n hx hb dX9_carried_5 rfl (lv_at hl 0 rfl) ?_
    refine va_get (D := D) (ci := 9) (v := .ref t) (C := RX9) (T := TX9) (N := 17) hx hb hts iX9 hown hK hP 0 rfl rfl 4 (Nat.le_of_ble_eq_true rfl) (hts _ wd_89) (fun _ h9 => h9) rfl dX9_carried_6 ?_
    refine lv_iload_n hx hb dX9_carried_9 rfl (lv_at hl 1 rfl) ?_
    refine cVi (wr := [(h, .inr (9, [.ref x, .int q1, .int q2, .ref rd, .ref t, .ref d, .ref nw, .ref ps, .ref im, .ref is_, .int q10, .ref bk, .int q12, .ref qr, .ref pr, .ref cv, .ref ft])), (tc, .inl (cI, 30, .inl ftc)), (nw, .inr (7, [.ref nwc])), (nwc, .inl (cI, 41, .inl fn))]) (rest := []) (e_hasBridge t ta tb tc td te t0 t1 t2 t3 t4 b_) okV_X8_hasBridge wd_342 hx hb hml hown hts hK hP hD hS hA hN hl.1 [1] [0, 2, 3, 4] rfl rfl rfl rfl (of_decide_eq_true rfl) rfl rfl rfl (Nat.le_of_ble_eq_true rfl) (Nat.le_of_ble_eq_true rfl) (Nat.le_of_ble_eq_true rfl) (Nat.le_of_ble_eq_true rfl) (Nat.le_of_ble_eq_true rfl) dX9_carried_10 (fun r_27 u_26 H locs hw_u_26 hP hD hS => ?_)
    replace hw_u_26 : r_27 = (f_e_hasBridge t0 t1 t2 t3 t4 b_) := hw_u_26
    rw [hw_u_26]
    clear hw_u_26
    have hP : va_P D classes [(h, .inr (9, [.ref x, .int q1, .int q2, .ref rd, .ref t, .ref d, .ref nw, .ref ps, .ref im, .ref is_, .int q10, .ref bk, .int q12, .ref qr, .ref pr, .ref cv, .ref ft])), (tc, .inl (cI, 30, .inl ftc)), (nw, .inr (7, [.ref nwc])), (nwc, .inl (cI, 41, .inl fn)), (t, .inr (8, [.int t0, .int t1, .int t2, .int t3, .int t4, .ref ta, .ref tb, .ref tc, .ref td, .ref te]))] H := hP
    have hD : va_D A [(h, .inr (9, [.ref x, .int q1, .int q2, .ref rd, .ref t, .ref d, .ref nw, .ref ps, .ref im, .ref is_, .int q10, .ref bk, .int q12, .ref qr, .ref pr, .ref cv, .ref ft])), (tc, .inl (cI, 30, .inl ftc)), (nw, .inr (7, [.ref nwc])), (nwc, .inl (cI, 41, .inl fn)), (t, .inr (8, [.int t0, .int t1, .int t2, .int t3, .int t4, .ref ta, .ref tb, .ref tc, .ref td, .ref te]))] := hD
    refine lv_if_ne (tgt := 19) hx hb dX9_carried_13 rfl (fun c_28 => ?_) (fun c_28 => ?_)
    · rw [if_neg c_28] at hE
      refine lv_aload_n hx hb dX9_carried_19 rfl (lv_at hl 0 rfl) ?_
      refine va_get (D := D) (ci := 9) (v := .ref nw) (C := RX9) (T := TX9) (N := 17) hx hb hts iX9 hown hK hP 0 rfl rfl 6 (Nat.le_of_ble_eq_true rfl) (hts _ wd_96) (fun _ h9 => h9) rfl dX9_carried_20 ?_
      refine lv_iconst (v := 0) hx hb dX9_carried_23 rfl ?_
      refine cVi (wr := [(h, .inr (9, [.ref x, .int q1, .int q2, .ref rd, .ref t, .ref d, .ref nw, .ref ps, .ref im, .ref is_, .int q10, .ref bk, .int q12, .ref qr, .ref pr, .ref cv, .ref ft])), (tc, .inl (cI, 30, .inl ftc)), (t, .inr (8, [.int t0, .int t1, .int t2, .int t3, .int t4, .ref ta, .ref tb, .ref tc, .ref td, .ref te]))]) (rest := []) (e_coupleAt nw nwc fn 0) okV_X7_coupleAt wd_287 hx hb hml hown hts hK hP hD hS hA hN hl.1 [2, 3] [0, 1, 4] rfl rfl rfl rfl (of_decide_eq_true rfl) rfl rfl rfl (Nat.le_of_ble_eq_true rfl) (Nat.le_of_ble_eq_true rfl) (Nat.le_of_ble_eq_true rfl) (Nat.le_of_ble_eq_true rfl) (Nat.le_of_ble_eq_true rfl) dX9_carried_24 (fun r_30 u_29 H locs hw_u_29 hP hD hS => ?_)
      replace hw_u_29 : r_30 = (f_e_coupleAt fn 0) := hw_u_29
      rw [hw_u_29]
      clear hw_u_29
      have hP : va_P D classes [(h, .inr (9, [.ref x, .int q1, .int q2, .ref rd, .ref t, .ref d, .ref nw, .ref ps, .ref im, .ref is_, .int q10, .ref bk, .int q12, .ref qr, .ref pr, .ref cv, .ref ft])), (tc, .inl (cI, 30, .inl ftc)), (t, .inr (8, [.int t0, .int t1, .int t2, .int t3, .int t4, .ref ta, .ref tb, .ref tc, .ref td, .ref te])), (nw, .inr (7, [.ref nwc])), (nwc, .inl (cI, 41, .inl fn))] H := hP
      have hD : va_D A [(h, .inr (9, [.ref x, .int q1, .int q2, .ref rd, .ref t, .ref d, .ref nw, .ref ps, .ref im, .ref is_, .int q10, .ref bk, .int q12, .ref qr, .ref pr, .ref cv, .ref ft])), (tc, .inl (cI, 30, .inl ftc)), (t, .inr (8, [.int t0, .int t1, .int t2, .int t3, .int t4, .ref ta, .ref tb, .ref tc, .ref td, .ref te])), (nw, .inr (7, [.ref nwc])), (nwc, .inl (cI, 41, .inl fn))] := hD
      refine lv_istore_n (lv' := [(2, .int (f_e_coupleAt fn 0)), (0, .ref h), (1, .int b_)]) hx hb dX9_carried_27 rfl hl (Nat.le_of_ble_eq_true rfl) rfl (fun ls hl => ?_)
      refine lv_iload_n hx hb dX9_carried_28 rfl (lv_at hl 0 rfl) ?_
      refine lv_iconst (v := (-1)) hx hb dX9_carried_29 rfl ?_
      refine lv_icmp_ne (tgt := 36) hx hb dX9_carried_30 rfl (fun c_31 => ?_) (fun c_31 => ?_)
      · rw [if_neg c_31] at hE
        refine lv_aload_n hx hb dX9_carried_36 rfl (lv_at hl 1 rfl) ?_
        refine va_get (D := D) (ci := 9) (v := .ref nw) (C := RX9) (T := TX9) (N := 17) hx hb hts iX9 hown hK hP 0 rfl rfl 6 (Nat.le_of_ble_eq_true rfl) (hts _ wd_96) (fun _ h9 => h9) rfl dX9_carried_37 ?_
        refine lv_iload_n hx hb dX9_carried_40 rfl (lv_at hl 0 rfl) ?_
        refine cVi (wr := [(h, .inr (9, [.ref x, .int q1, .int q2, .ref rd, .ref t, .ref d, .ref nw, .ref ps, .ref im, .ref is_, .int q10, .ref bk, .int q12, .ref qr, .ref pr, .ref cv, .ref ft])), (tc, .inl (cI, 30, .inl ftc)), (t, .inr (8, [.int t0, .int t1, .int t2, .int t3, .int t4, .ref ta, .ref tb, .ref tc, .ref td, .ref te]))]) (rest := []) (e_grievanceOf nw nwc fn (f_e_coupleAt fn 0)) okV_X7_grievanceOf wd_251 hx hb hml hown hts hK hP hD hS hA hN hl.1 [3, 4] [0, 1, 2] rfl rfl rfl rfl (of_decide_eq_true rfl) rfl rfl rfl (Nat.le_of_ble_eq_true rfl) (Nat.le_of_ble_eq_true rfl) (Nat.le_of_ble_eq_true rfl) (Nat.le_of_ble_eq_true rfl) (Nat.le_of_ble_eq_true rfl) dX9_carried_41 (fun r_33 u_32 H locs hw_u_32 hP hD hS => ?_)
        replace hw_u_32 : r_33 = (f_e_grievanceOf fn (f_e_coupleAt fn 0)) := hw_u_32
        rw [hw_u_32]
        clear hw_u_32
        have hP : va_P D classes [(h, .inr (9, [.ref x, .int q1, .int q2, .ref rd, .ref t, .ref d, .ref nw, .ref ps, .ref im, .ref is_, .int q10, .ref bk, .int q12, .ref qr, .ref pr, .ref cv, .ref ft])), (tc, .inl (cI, 30, .inl ftc)), (t, .inr (8, [.int t0, .int t1, .int t2, .int t3, .int t4, .ref ta, .ref tb, .ref tc, .ref td, .ref te])), (nw, .inr (7, [.ref nwc])), (nwc, .inl (cI, 41, .inl fn))] H := hP
        have hD : va_D A [(h, .inr (9, [.ref x, .int q1, .int q2, .ref rd, .ref t, .ref d, .ref nw, .ref ps, .ref im, .ref is_, .int q10, .ref bk, .int q12, .ref qr, .ref pr, .ref cv, .ref ft])), (tc, .inl (cI, 30, .inl ftc)), (t, .inr (8, [.int t0, .int t1, .int t2, .int t3, .int t4, .ref ta, .ref tb, .ref tc, .ref td, .ref te])), (nw, .inr (7, [.ref nwc])), (nwc, .inl (cI, 41, .inl fn))] := hD
        refine lv_aload_n hx hb dX9_carried_44 rfl (lv_at hl 1 rfl) ?_
        refine va_get (D := D) (ci := 9) (v := .ref t) (C := RX9) (T := TX9) (N := 17) hx hb hts iX9 hown hK hP 0 rfl rfl 4 (Nat.le_of_ble_eq_true rfl) (hts _ wd_89) (fun _ h9 => h9) rfl dX9_carried_45 ?_
        refine lv_iload_n hx hb dX9_carried_48 rfl (lv_at hl 0 rfl) ?_
        refine lv_aload_n hx hb dX9_carried_49 rfl (lv_at hl 1 rfl) ?_
        refine va_get (D := D) (ci := 9) (v := .ref nw) (C := RX9) (T := TX9) (N := 17) hx hb hts iX9 hown hK hP 0 rfl rfl 6 (Nat.le_of_ble_eq_true rfl) (hts _ wd_96) (fun _ h9 => h9) rfl dX9_carried_50 ?_
        refine lv_iload_n hx hb dX9_carried_53 rfl (lv_at hl 0 rfl) ?_
        refine cVi (wr := [(h, .inr (9, [.ref x, .int q1, .int q2, .ref rd, .ref t, .ref d, .ref nw, .ref ps, .ref im, .ref is_, .int q10, .ref bk, .int q12, .ref qr, .ref pr, .ref cv, .ref ft])), (tc, .inl (cI, 30, .inl ftc)), (t, .inr (8, [.int t0, .int t1, .int t2, .int t3, .int t4, .ref ta, .ref tb, .ref tc, .ref td, .ref te]))]) (rest := [.int (f_e_coupleAt fn 0), .ref t, .int (f_e_grievanceOf fn (f_e_coupleAt fn 0))]) (e_themeOf nw nwc fn (f_e_coupleAt fn 0)) okV_X7_themeOf wd_291 hx hb hml hown hts hK hP hD hS hA hN hl.1 [3, 4] [0, 1, 2] rfl rfl rfl rfl (of_decide_eq_true rfl) rfl rfl rfl (Nat.le_of_ble_eq_true rfl) (Nat.le_of_ble_eq_true rfl) (Nat.le_of_ble_eq_true rfl) (Nat.le_of_ble_eq_true rfl) (Nat.le_of_ble_eq_true rfl) dX9_carried_54 (fun r_35 u_34 H locs hw_u_34 hP hD hS => ?_)
        replace hw_u_34 : r_35 = (f_e_themeOf fn (f_e_coupleAt fn 0)) := hw_u_34
        rw [hw_u_34]
        clear hw_u_34
        have hP : va_P D classes [(h, .inr (9, [.ref x, .int q1, .int q2, .ref rd, .ref t, .ref d, .ref nw, .ref ps, .ref im, .ref is_, .int q10, .ref bk, .int q12, .ref qr, .ref pr, .ref cv, .ref ft])), (tc, .inl (cI, 30, .inl ftc)), (t, .inr (8, [.int t0, .int t1, .int t2, .int t3, .int t4, .ref ta, .ref tb, .ref tc, .ref td, .ref te])), (nw, .inr (7, [.ref nwc])), (nwc, .inl (cI, 41, .inl fn))] H := hP
        have hD : va_D A [(h, .inr (9, [.ref x, .int q1, .int q2, .ref rd, .ref t, .ref d, .ref nw, .ref ps, .ref im, .ref is_, .int q10, .ref bk, .int q12, .ref qr, .ref pr, .ref cv, .ref ft])), (tc, .inl (cI, 30, .inl ftc)), (t, .inr (8, [.int t0, .int t1, .int t2, .int t3, .int t4, .ref ta, .ref tb, .ref tc, .ref td, .ref te])), (nw, .inr (7, [.ref nwc])), (nwc, .inl (cI, 41, .inl fn))] := hD
        refine cVi (wr := [(h, .inr (9, [.ref x, .int q1, .int q2, .ref rd, .ref t, .ref d, .ref nw, .ref ps, .ref im, .ref is_, .int q10, .ref bk, .int q12, .ref qr, .ref pr, .ref cv, .ref ft])), (nw, .inr (7, [.ref nwc])), (nwc, .inl (cI, 41, .inl fn))]) (rest := [.int (f_e_grievanceOf fn (f_e_coupleAt fn 0))]) (e_forceOf_x8 t ta tb tc td te t0 t1 t2 t3 t4 ftc (f_e_coupleAt fn 0) (f_e_themeOf fn (f_e_coupleAt fn 0))) okV_X8_forceOf wd_252 hx hb hml hown hts hK hP hD hS hA hN hl.1 [2, 1] [0, 3, 4] rfl rfl rfl rfl (of_decide_eq_true rfl) rfl rfl rfl (Nat.le_of_ble_eq_true rfl) (Nat.le_of_ble_eq_true rfl) (Nat.le_of_ble_eq_true rfl) (Nat.le_of_ble_eq_true rfl) (Nat.le_of_ble_eq_true rfl) dX9_carried_57 (fun r_37 u_36 H locs hw_u_36 hP hD hS => ?_)
        replace hw_u_36 : r_37 = (f_e_forceOf_x8 t0 t1 t2 t3 t4 ftc (f_e_coupleAt fn 0) (f_e_themeOf fn (f_e_coupleAt fn 0))) := hw_u_36
        rw [hw_u_36]
        clear hw_u_36
        have hP : va_P D classes [(h, .inr (9, [.ref x, .int q1, .int q2, .ref rd, .ref t, .ref d, .ref nw, .ref ps, .ref im, .ref is_, .int q10, .ref bk, .int q12, .ref qr, .ref pr, .ref cv, .ref ft])), (nw, .inr (7, [.ref nwc])), (nwc, .inl (cI, 41, .inl fn)), (t, .inr (8, [.int t0, .int t1, .int t2, .int t3, .int t4, .ref ta, .ref tb, .ref tc, .ref td, .ref te])), (tc, .inl (cI, 30, .inl ftc))] H := hP
        have hD : va_D A [(h, .inr (9, [.ref x, .int q1, .int q2, .ref rd, .ref t, .ref d, .ref nw, .ref ps, .ref im, .ref is_, .int q10, .ref bk, .int q12, .ref qr, .ref pr, .ref cv, .ref ft])), (nw, .inr (7, [.ref nwc])), (nwc, .inl (cI, 41, .inl fn)), (t, .inr (8, [.int t0, .int t1, .int t2, .int t3, .int t4, .ref ta, .ref tb, .ref tc, .ref td, .ref te])), (tc, .inl (cI, 30, .inl ftc))] := hD
        refine lv_aload_n hx hb dX9_carried_60 rfl (lv_at hl 1 rfl) ?_
        refine va_get (D := D) (ci := 9) (v := .ref t) (C := RX9) (T := TX9) (N := 17) hx hb hts iX9 hown hK hP 0 rfl rfl 4 (Nat.le_of_ble_eq_true rfl) (hts _ wd_89) (fun _ h9 => h9) rfl dX9_carried_61 ?_
        refine va_get (D := D) (ci := 8) (v := .int t4) (C := RX8) (T := TX8) (N := 10) hx hb hts iX8 hown hK hP 3 rfl rfl 4 (Nat.le_of_ble_eq_true rfl) (hts _ wd_256) (fun _ h9 => h9) rfl dX9_carried_64 ?_
        refine cSi (wr := [(h, .inr (9, [.ref x, .int q1, .int q2, .ref rd, .ref t, .ref d, .ref nw, .ref ps, .ref im, .ref is_, .int q10, .ref bk, .int q12, .ref qr, .ref pr, .ref cv, .ref ft])), (nw, .inr (7, [.ref nwc])), (nwc, .inl (cI, 41, .inl fn)), (t, .inr (8, [.int t0, .int t1, .int t2, .int t3, .int t4, .ref ta, .ref tb, .ref tc, .ref td, .ref te])), (tc, .inl (cI, 30, .inl ftc))]) (rest := []) (e_stampOf_x9 (f_e_grievanceOf fn (f_e_coupleAt fn 0)) (f_e_forceOf_x8 t0 t1 t2 t3 t4 ftc (f_e_coupleAt fn 0) (f_e_themeOf fn (f_e_coupleAt fn 0))) t4) okS_X9_stampOf wd_412 hx hb hml hown hts hK hP hD hS hA hN hl.1 [] [0, 1, 2, 3, 4] rfl rfl rfl rfl (of_decide_eq_true rfl) rfl (Nat.le_of_ble_eq_true rfl) (Nat.le_of_ble_eq_true rfl) (Nat.le_of_ble_eq_true rfl) (Nat.le_of_ble_eq_true rfl) (Nat.le_of_ble_eq_true rfl) dX9_carried_67 (fun r_39 u_38 H locs hw_u_38 hP hD hS => ?_)
        replace hw_u_38 : r_39 = (f_e_stampOf_x9 (f_e_grievanceOf fn (f_e_coupleAt fn 0)) (f_e_forceOf_x8 t0 t1 t2 t3 t4 ftc (f_e_coupleAt fn 0) (f_e_themeOf fn (f_e_coupleAt fn 0))) t4) := hw_u_38
        rw [hw_u_38]
        clear hw_u_38
        have hP : va_P D classes [(h, .inr (9, [.ref x, .int q1, .int q2, .ref rd, .ref t, .ref d, .ref nw, .ref ps, .ref im, .ref is_, .int q10, .ref bk, .int q12, .ref qr, .ref pr, .ref cv, .ref ft])), (nw, .inr (7, [.ref nwc])), (nwc, .inl (cI, 41, .inl fn)), (t, .inr (8, [.int t0, .int t1, .int t2, .int t3, .int t4, .ref ta, .ref tb, .ref tc, .ref td, .ref te])), (tc, .inl (cI, 30, .inl ftc))] H := hP
        have hD : va_D A [(h, .inr (9, [.ref x, .int q1, .int q2, .ref rd, .ref t, .ref d, .ref nw, .ref ps, .ref im, .ref is_, .int q10, .ref bk, .int q12, .ref qr, .ref pr, .ref cv, .ref ft])), (nw, .inr (7, [.ref nwc])), (nwc, .inl (cI, 41, .inl fn)), (t, .inr (8, [.int t0, .int t1, .int t2, .int t3, .int t4, .ref ta, .ref tb, .ref tc, .ref td, .ref te])), (tc, .inl (cI, 30, .inl ftc))] := hD
        refine lv_istore_n (lv' := [(3, .int (f_e_stampOf_x9 (f_e_grievanceOf fn (f_e_coupleAt fn 0)) (f_e_forceOf_x8 t0 t1 t2 t3 t4 ftc (f_e_coupleAt fn 0) (f_e_themeOf fn (f_e_coupleAt fn 0))) t4)), (2, .int (f_e_coupleAt fn 0)), (0, .ref h), (1, .int b_)]) hx hb dX9_carried_70 rfl hl (Nat.le_of_ble_eq_true rfl) rfl (fun ls hl => ?_)
        refine lv_iconst (v := 1) hx hb dX9_carried_71 rfl ?_
        refine lv_istore (lv' := [(4, .int 1), (3, .int (f_e_stampOf_x9 (f_e_grievanceOf fn (f_e_coupleAt fn 0)) (f_e_forceOf_x8 t0 t1 t2 t3 t4 ftc (f_e_coupleAt fn 0) (f_e_themeOf fn (f_e_coupleAt fn 0))) t4)), (2, .int (f_e_coupleAt fn 0)), (0, .ref h), (1, .int b_)]) hx hb dX9_carried_72 hl (Nat.le_of_ble_eq_true rfl) rfl (fun ls hl => ?_)
        have ex_74_w_40 : ∀ (w_40l4 : Int32) (w_40l3 : Int32) (H : Heap) (locs : List Loc) (ls : Array Slot), va_P D classes [(h, .inr (9, [.ref x, .int q1, .int q2, .ref rd, .ref t, .ref d, .ref nw, .ref ps, .ref im, .ref is_, .int q10, .ref bk, .int q12, .ref qr, .ref pr, .ref cv, .ref ft])), (nw, .inr (7, [.ref nwc])), (nwc, .inl (cI, 41, .inl fn)), (t, .inr (8, [.int t0, .int t1, .int t2, .int t3, .int t4, .ref ta, .ref tb, .ref tc, .ref td, .ref te])), (tc, .inl (cI, 30, .inl ftc))] H → va_D A [(h, .inr (9, [.ref x, .int q1, .int q2, .ref rd, .ref t, .ref d, .ref nw, .ref ps, .ref im, .ref is_, .int q10, .ref bk, .int q12, .ref qr, .ref pr, .ref cv, .ref ft])), (nw, .inr (7, [.ref nwc])), (nwc, .inl (cI, 41, .inl fn)), (t, .inr (8, [.int t0, .int t1, .int t2, .int t3, .int t4, .ref ta, .ref tb, .ref tc, .ref td, .ref te])), (tc, .inl (cI, 30, .inl ftc))] → va_S A s.heap H locs → lv_has ls 5 [(4, .int w_40l4), (3, .int w_40l3), (2, .int (f_e_coupleAt fn 0)), (0, .ref h), (1, .int b_)] → ((if b_ = (-1) then (-1) else 0)) = RES → W p l e rm_e_carried_x9 s m args below meth c H locs 0 0 Q (F0 m 129 ls []) := by
          intro w_40l4 w_40l3 H locs ls hP hD hS hl hE
          refine lv_iload_n hx hb dX9_carried_129 rfl (lv_at hl 4 rfl) ?_
          refine lv_iconst (v := (-1)) hx hb dX9_carried_130 rfl ?_
          refine lv_icmp_ne (tgt := 138) hx hb dX9_carried_131 rfl (fun c_41 => ?_) (fun c_41 => ?_)
          · rw [if_neg c_41] at hE
            refine lv_iconst (v := 0) hx hb dX9_carried_138 rfl ?_
            exact hret 0 () _ _ _ _ dX9_carried_139 rfl hE (cutP (isC := [0, 3, 4, 1, 2]) hP rfl) (cutD (isC := [0, 3, 4, 1, 2]) hD rfl rfl) hS
          · rw [if_pos c_41] at hE
            refine lv_iconst (v := (-1)) hx hb dX9_carried_134 rfl ?_
            refine lv_goto (tgt := 139) hx hb dX9_carried_135 rfl ?_
            exact hret (-1) () _ _ _ _ dX9_carried_139 rfl hE (cutP (isC := [0, 3, 4, 1, 2]) hP rfl) (cutD (isC := [0, 3, 4, 1, 2]) hD rfl rfl) hS
        have lp_74_w_40 : ∀ (n_w_40 : Nat) (w_40l4 : Int32) (w_40l3 : Int32) (H : Heap) (locs : List Loc) (ls : Array Slot), va_P D classes [(h, .inr (9, [.ref x, .int q1, .int q2, .ref rd, .ref t, .ref d, .ref nw, .ref ps, .ref im, .ref is_, .int q10, .ref bk, .int q12, .ref qr, .ref pr, .ref cv, .ref ft])), (nw, .inr (7, [.ref nwc])), (nwc, .inl (cI, 41, .inl fn)), (t, .inr (8, [.int t0, .int t1, .int t2, .int t3, .int t4, .ref ta, .ref tb, .ref tc, .ref td, .ref te])), (tc, .inl (cI, 30, .inl ftc))] H → va_D A [(h, .inr (9, [.ref x, .int q1, .int q2, .ref rd, .ref t, .ref d, .ref nw, .ref ps, .ref im, .ref is_, .int q10, .ref bk, .int q12, .ref qr, .ref pr, .ref cv, .ref ft])), (nw, .inr (7, [.ref nwc])), (nwc, .inl (cI, 41, .inl fn)), (t, .inr (8, [.int t0, .int t1, .int t2, .int t3, .int t4, .ref ta, .ref tb, .ref tc, .ref td, .ref te])), (tc, .inl (cI, 30, .inl ftc))] → va_S A s.heap H locs → lv_has ls 5 [(4, .int w_40l4), (3, .int w_40l3), (2, .int (f_e_coupleAt fn 0)), (0, .ref h), (1, .int b_)] → ((t0 : Int32).toInt - (w_40l4 : Int32).toInt).toNat < n_w_40 → (match (f_e_carried_x9_74 q1 q2 q10 q12 t0 t1 t2 t3 t4 ftc fn b_ n_w_40 w_40l4 w_40l3) with | Sum.inl (w_40l4, w_40l3) => (if b_ = (-1) then (-1) else 0) | Sum.inr o => o) = RES → W p l e rm_e_carried_x9 s m args below meth c H locs 0 0 Q (F0 m 74 ls []) := by
          intro n_w_40
          induction n_w_40 with
          | zero => intro w_40l4 w_40l3 H locs ls hP hD hS hl hm; exact absurd hm (Nat.not_lt_zero _)
          | succ n_w_40 ih_w_40 =>
            intro w_40l4 w_40l3 H locs ls hP hD hS hl hm hE
            rw [f_e_carried_x9_74_s] at hE
            refine lv_iload hx hb dX9_carried_74 (lv_at hl 0 rfl) ?_
            refine lv_aload_n hx hb dX9_carried_76 rfl (lv_at hl 3 rfl) ?_
            refine va_get (D := D) (ci := 9) (v := .ref t) (C := RX9) (T := TX9) (N := 17) hx hb hts iX9 hown hK hP 0 rfl rfl 4 (Nat.le_of_ble_eq_true rfl) (hts _ wd_89) (fun _ h9 => h9) rfl dX9_carried_77 ?_
            refine va_get (D := D) (ci := 8) (v := .int t0) (C := RX8) (T := TX8) (N := 10) hx hb hts iX8 hown hK hP 3 rfl rfl 0 (Nat.le_of_ble_eq_true rfl) (hts _ wd_372) (fun _ h9 => h9) rfl dX9_carried_80 ?_
            refine lv_icmp_ge (tgt := 129) hx hb dX9_carried_83 rfl (fun c_42 => ?_) (fun c_42 => ?_)
            · rw [if_pos c_42] at hE
              exact ex_74_w_40 w_40l4 w_40l3 _ _ ls hP hD hS (lv_sub hl [0, 1, 2, 3, 4] rfl) hE
            · rw [if_neg c_42] at hE
              refine lv_iload_n hx hb dX9_carried_86 rfl (lv_at hl 4 rfl) ?_
              refine lv_iconst (v := (-1)) hx hb dX9_carried_87 rfl ?_
              refine lv_icmp_ne (tgt := 98) hx hb dX9_carried_88 rfl (fun c_43 => ?_) (fun c_43 => ?_)
              · rw [if_neg c_43] at hE
                refine lv_iload_n hx hb dX9_carried_98 rfl (lv_at hl 4 rfl) ?_
                refine lv_iload hx hb dX9_carried_99 (lv_at hl 0 rfl) ?_
                refine lv_icmp_ne (tgt := 106) hx hb dX9_carried_101 rfl (fun c_44 => ?_) (fun c_44 => ?_)
                · rw [if_neg c_44] at hE
                  refine lv_aload_n hx hb dX9_carried_106 rfl (lv_at hl 3 rfl) ?_
                  refine va_get (D := D) (ci := 9) (v := .ref nw) (C := RX9) (T := TX9) (N := 17) hx hb hts iX9 hown hK hP 0 rfl rfl 6 (Nat.le_of_ble_eq_true rfl) (hts _ wd_96) (fun _ h9 => h9) rfl dX9_carried_107 ?_
                  refine lv_iload hx hb dX9_carried_110 (lv_at hl 0 rfl) ?_
                  refine cVi (wr := [(h, .inr (9, [.ref x, .int q1, .int q2, .ref rd, .ref t, .ref d, .ref nw, .ref ps, .ref im, .ref is_, .int q10, .ref bk, .int q12, .ref qr, .ref pr, .ref cv, .ref ft])), (t, .inr (8, [.int t0, .int t1, .int t2, .int t3, .int t4, .ref ta, .ref tb, .ref tc, .ref td, .ref te])), (tc, .inl (cI, 30, .inl ftc))]) (rest := []) (e_coupleAt nw nwc fn w_40l4) okV_X7_coupleAt wd_287 hx hb hml hown hts hK hP hD hS hA hN hl.1 [1, 2] [0, 3, 4] rfl rfl rfl rfl (of_decide_eq_true rfl) rfl rfl rfl (Nat.le_of_ble_eq_true rfl) (Nat.le_of_ble_eq_true rfl) (Nat.le_of_ble_eq_true rfl) (Nat.le_of_ble_eq_true rfl) (Nat.le_of_ble_eq_true rfl) dX9_carried_112 (fun r_46 u_45 H locs hw_u_45 hP hD hS => ?_)
                  replace hw_u_45 : r_46 = (f_e_coupleAt fn w_40l4) := hw_u_45
                  rw [hw_u_45]
                  clear hw_u_45
                  have hP : va_P D classes [(h, .inr (9, [.ref x, .int q1, .int q2, .ref rd, .ref t, .ref d, .ref nw, .ref ps, .ref im, .ref is_, .int q10, .ref bk, .int q12, .ref qr, .ref pr, .ref cv, .ref ft])), (t, .inr (8, [.int t0, .int t1, .int t2, .int t3, .int t4, .ref ta, .ref tb, .ref tc, .ref td, .ref te])), (tc, .inl (cI, 30, .inl ftc)), (nw, .inr (7, [.ref nwc])), (nwc, .inl (cI, 41, .inl fn))] H := hP
                  have hD : va_D A [(h, .inr (9, [.ref x, .int q1, .int q2, .ref rd, .ref t, .ref d, .ref nw, .ref ps, .ref im, .ref is_, .int q10, .ref bk, .int q12, .ref qr, .ref pr, .ref cv, .ref ft])), (t, .inr (8, [.int t0, .int t1, .int t2, .int t3, .int t4, .ref ta, .ref tb, .ref tc, .ref td, .ref te])), (tc, .inl (cI, 30, .inl ftc)), (nw, .inr (7, [.ref nwc])), (nwc, .inl (cI, 41, .inl fn))] := hD
                  refine lv_iconst (v := (-1)) hx hb dX9_carried_115 rfl ?_
                  refine lv_icmp_eq (tgt := 123) hx hb dX9_carried_116 rfl (fun c_47 => ?_) (fun c_47 => ?_)
                  · rw [if_pos c_47] at hE
                    refine lv_iinc (v := (w_40l4 + 1)) (lv' := [(4, .int (w_40l4 + 1)), (3, .int w_40l3), (2, .int (f_e_coupleAt fn 0)), (0, .ref h), (1, .int b_)]) hx hb dX9_carried_123 hl (k := 0) rfl rfl (Nat.le_of_ble_eq_true rfl) rfl (fun ls hl => ?_)
                    refine lv_goto (tgt := 74) hx hb dX9_carried_126 rfl ?_
                    exact ih_w_40 (w_40l4 + 1) w_40l3 _ _ ls (cutP (isC := [0, 3, 4, 1, 2]) hP rfl) (cutD (isC := [0, 3, 4, 1, 2]) hD rfl rfl) hS (lv_sub hl [0, 1, 2, 3, 4] rfl) (up_step c_42 hm) hE
                  · rw [if_neg c_47] at hE
                    refine lv_iload_n hx hb dX9_carried_119 rfl (lv_at hl 1 rfl) ?_
                    refine lv_iconst (v := 2) hx hb dX9_carried_120 rfl ?_
                    refine lv_idiv hx hb dX9_carried_121 (by decide) ?_
                    refine lv_istore_n (lv' := [(3, .int (w_40l3 / 2)), (4, .int w_40l4), (2, .int (f_e_coupleAt fn 0)), (0, .ref h), (1, .int b_)]) hx hb dX9_carried_122 rfl hl (Nat.le_of_ble_eq_true rfl) rfl (fun ls hl => ?_)
                    refine lv_iinc (v := (w_40l4 + 1)) (lv' := [(4, .int (w_40l4 + 1)), (3, .int (w_40l3 / 2)), (2, .int (f_e_coupleAt fn 0)), (0, .ref h), (1, .int b_)]) hx hb dX9_carried_123 hl (k := 1) rfl rfl (Nat.le_of_ble_eq_true rfl) rfl (fun ls hl => ?_)
                    refine lv_goto (tgt := 74) hx hb dX9_carried_126 rfl ?_
                    exact ih_w_40 (w_40l4 + 1) (w_40l3 / 2) _ _ ls (cutP (isC := [0, 3, 4, 1, 2]) hP rfl) (cutD (isC := [0, 3, 4, 1, 2]) hD rfl rfl) hS (lv_sub hl [0, 1, 2, 3, 4] rfl) (up_step c_42 hm) hE
                · rw [if_pos c_44] at hE
                  refine lv_iload_n hx hb dX9_carried_104 rfl (lv_at hl 1 rfl) ?_
                  exact hret w_40l3 () _ _ _ _ dX9_carried_105 rfl hE (cutP (isC := [0, 3, 4, 1, 2]) hP rfl) (cutD (isC := [0, 3, 4, 1, 2]) hD rfl rfl) hS
              · rw [if_pos c_43] at hE
                refine lv_iload_n hx hb dX9_carried_91 rfl (lv_at hl 1 rfl) ?_
                refine lv_if_ne (tgt := 98) hx hb dX9_carried_92 rfl (fun c_48 => ?_) (fun c_48 => ?_)
                · rw [if_neg c_48] at hE
                  refine lv_iload_n hx hb dX9_carried_98 rfl (lv_at hl 4 rfl) ?_
                  refine lv_iload hx hb dX9_carried_99 (lv_at hl 0 rfl) ?_
                  refine lv_icmp_ne (tgt := 106) hx hb dX9_carried_101 rfl (fun c_49 => ?_) (fun c_49 => ?_)
                  · rw [if_neg c_49] at hE
                    refine lv_aload_n hx hb dX9_carried_106 rfl (lv_at hl 3 rfl) ?_
                    refine va_get (D := D) (ci := 9) (v := .ref nw) (C := RX9) (T := TX9) (N := 17) hx hb hts iX9 hown hK hP 0 rfl rfl 6 (Nat.le_of_ble_eq_true rfl) (hts _ wd_96) (fun _ h9 => h9) rfl dX9_carried_107 ?_
                    refine lv_iload hx hb dX9_carried_110 (lv_at hl 0 rfl) ?_
                    refine cVi (wr := [(h, .inr (9, [.ref x, .int q1, .int q2, .ref rd, .ref t, .ref d, .ref nw, .ref ps, .ref im, .ref is_, .int q10, .ref bk, .int q12, .ref qr, .ref pr, .ref cv, .ref ft])), (t, .inr (8, [.int t0, .int t1, .int t2, .int t3, .int t4, .ref ta, .ref tb, .ref tc, .ref td, .ref te])), (tc, .inl (cI, 30, .inl ftc))]) (rest := []) (e_coupleAt nw nwc fn w_40l4) okV_X7_coupleAt wd_287 hx hb hml hown hts hK hP hD hS hA hN hl.1 [1, 2] [0, 3, 4] rfl rfl rfl rfl (of_decide_eq_true rfl) rfl rfl rfl (Nat.le_of_ble_eq_true rfl) (Nat.le_of_ble_eq_true rfl) (Nat.le_of_ble_eq_true rfl) (Nat.le_of_ble_eq_true rfl) (Nat.le_of_ble_eq_true rfl) dX9_carried_112 (fun r_51 u_50 H locs hw_u_50 hP hD hS => ?_)
                    replace hw_u_50 : r_51 = (f_e_coupleAt fn w_40l4) := hw_u_50
                    rw [hw_u_50]
                    clear hw_u_50
                    have hP : va_P D classes [(h, .inr (9, [.ref x, .int q1, .int q2, .ref rd, .ref t, .ref d, .ref nw, .ref ps, .ref im, .ref is_, .int q10, .ref bk, .int q12, .ref qr, .ref pr, .ref cv, .ref ft])), (t, .inr (8, [.int t0, .int t1, .int t2, .int t3, .int t4, .ref ta, .ref tb, .ref tc, .ref td, .ref te])), (tc, .inl (cI, 30, .inl ftc)), (nw, .inr (7, [.ref nwc])), (nwc, .inl (cI, 41, .inl fn))] H := hP
                    have hD : va_D A [(h, .inr (9, [.ref x, .int q1, .int q2, .ref rd, .ref t, .ref d, .ref nw, .ref ps, .ref im, .ref is_, .int q10, .ref bk, .int q12, .ref qr, .ref pr, .ref cv, .ref ft])), (t, .inr (8, [.int t0, .int t1, .int t2, .int t3, .int t4, .ref ta, .ref tb, .ref tc, .ref td, .ref te])), (tc, .inl (cI, 30, .inl ftc)), (nw, .inr (7, [.ref nwc])), (nwc, .inl (cI, 41, .inl fn))] := hD
                    refine lv_iconst (v := (-1)) hx hb dX9_carried_115 rfl ?_
                    refine lv_icmp_eq (tgt := 123) hx hb dX9_carried_116 rfl (fun c_52 => ?_) (fun c_52 => ?_)
                    · rw [if_pos c_52] at hE
                      refine lv_iinc (v := (w_40l4 + 1)) (lv' := [(4, .int (w_40l4 + 1)), (3, .int w_40l3), (2, .int (f_e_coupleAt fn 0)), (0, .ref h), (1, .int b_)]) hx hb dX9_carried_123 hl (k := 0) rfl rfl (Nat.le_of_ble_eq_true rfl) rfl (fun ls hl => ?_)
                      refine lv_goto (tgt := 74) hx hb dX9_carried_126 rfl ?_
                      exact ih_w_40 (w_40l4 + 1) w_40l3 _ _ ls (cutP (isC := [0, 3, 4, 1, 2]) hP rfl) (cutD (isC := [0, 3, 4, 1, 2]) hD rfl rfl) hS (lv_sub hl [0, 1, 2, 3, 4] rfl) (up_step c_42 hm) hE
                    · rw [if_neg c_52] at hE
                      refine lv_iload_n hx hb dX9_carried_119 rfl (lv_at hl 1 rfl) ?_
                      refine lv_iconst (v := 2) hx hb dX9_carried_120 rfl ?_
                      refine lv_idiv hx hb dX9_carried_121 (by decide) ?_
                      refine lv_istore_n (lv' := [(3, .int (w_40l3 / 2)), (4, .int w_40l4), (2, .int (f_e_coupleAt fn 0)), (0, .ref h), (1, .int b_)]) hx hb dX9_carried_122 rfl hl (Nat.le_of_ble_eq_true rfl) rfl (fun ls hl => ?_)
                      refine lv_iinc (v := (w_40l4 + 1)) (lv' := [(4, .int (w_40l4 + 1)), (3, .int (w_40l3 / 2)), (2, .int (f_e_coupleAt fn 0)), (0, .ref h), (1, .int b_)]) hx hb dX9_carried_123 hl (k := 1) rfl rfl (Nat.le_of_ble_eq_true rfl) rfl (fun ls hl => ?_)
                      refine lv_goto (tgt := 74) hx hb dX9_carried_126 rfl ?_
                      exact ih_w_40 (w_40l4 + 1) (w_40l3 / 2) _ _ ls (cutP (isC := [0, 3, 4, 1, 2]) hP rfl) (cutD (isC := [0, 3, 4, 1, 2]) hD rfl rfl) hS (lv_sub hl [0, 1, 2, 3, 4] rfl) (up_step c_42 hm) hE
                  · rw [if_pos c_49] at hE
                    refine lv_iload_n hx hb dX9_carried_104 rfl (lv_at hl 1 rfl) ?_
                    exact hret w_40l3 () _ _ _ _ dX9_carried_105 rfl hE (cutP (isC := [0, 3, 4, 1, 2]) hP rfl) (cutD (isC := [0, 3, 4, 1, 2]) hD rfl rfl) hS
                · rw [if_pos c_48] at hE
                  refine lv_iload hx hb dX9_carried_95 (lv_at hl 0 rfl) ?_
                  exact hret w_40l4 () _ _ _ _ dX9_carried_97 rfl hE (cutP (isC := [0, 3, 4, 1, 2]) hP rfl) (cutD (isC := [0, 3, 4, 1, 2]) hD rfl rfl) hS
        exact lp_74_w_40 (((t0 : Int32).toInt - (1 : Int32).toInt).toNat + 1) 1 (f_e_stampOf_x9 (f_e_grievanceOf fn (f_e_coupleAt fn 0)) (f_e_forceOf_x8 t0 t1 t2 t3 t4 ftc (f_e_coupleAt fn 0) (f_e_themeOf fn (f_e_coupleAt fn 0))) t4) _ _ ls hP hD hS hl (Nat.lt_succ_self _) hE
      · rw [if_pos c_31] at hE
        refine lv_ldc (v := (-1000000003)) hx hb hown (hts _ wd_384) dX9_carried_33 ?_
        exact hret (-1000000003) () _ _ _ _ dX9_carried_35 rfl hE (cutP (isC := [0, 2, 1, 3, 4]) hP rfl) (cutD (isC := [0, 2, 1, 3, 4]) hD rfl rfl) hS
    · rw [if_pos c_28] at hE
      refine lv_ldc (v := (-1000000001)) hx hb hown (hts _ wd_346) dX9_carried_16 ?_
      exact hret (-1000000001) () _ _ _ _ dX9_carried_18 rfl hE (cutP (isC := [0, 4, 1, 2, 3]) hP rfl) (cutD (isC := [0, 4, 1, 2, 3]) hD rfl rfl) hS
noncomputable def f_e_hire_x9_37 (q1 : Int32) (q2 : Int32) (q10 : Int32) (q12 : Int32) (k0 : Int32) (k1 : Int32) (k2 : Int32) (k3 : Int32) (k4 : Int32) (t0 : Int32) (t1 : Int32) (t2 : Int32) (t3 : Int32) (t4 : Int32) (fta : Nat → Int32) (ftc : Nat → Int32) (fn : Nat → Int32) (b_ : Int32) (w_ : Int32) (n : Nat) : Int32 → Int32 → Int32 → Int32 → Int32 → Int32 → Int32 → Int32 → Int32 → Int32 × Int32 × Int32 × Int32 × Int32 × Int32 × Int32 × Int32 × Int32 := Nat.rec (motive := fun _ => Int32 → Int32 → Int32 → Int32 → Int32 → Int32 → Int32 → Int32 → Int32 → Int32 × Int32 × Int32 × Int32 × Int32 × Int32 × Int32 × Int32 × Int32) (fun w_5l6 w_5l5 w_5l4 w_5l3 w_5m0 w_5m1 w_5m2 w_5m3 w_5m4 => (w_5l6, w_5l5, w_5l4, w_5l3, w_5m0, w_5m1, w_5m2, w_5m3, w_5m4)) (fun n ih w_5l6 w_5l5 w_5l4 w_5l3 w_5m0 w_5m1 w_5m2 w_5m3 w_5m4 => (if t2 ≤ w_5l6 then (w_5l6, w_5l5, w_5l4, w_5l3, w_5m0, w_5m1, w_5m2, w_5m3, w_5m4) else (match (f_e_costFor_x9 q1 q2 q10 q12 w_5m0 w_5m1 w_5m2 w_5m3 w_5m4 t0 t1 t2 t3 t4 fta ftc fn w_5l6 b_) with | (r_10, o_11, o_12, o_13, o_14, o_15) => (if r_10 = (-1) then (ih (w_5l6 + 1) w_5l5 w_5l4 w_5l3 o_11 o_12 o_13 o_14 o_15) else (if w_5l3 = (-1) then (ih (w_5l6 + 1) w_5l4 r_10 w_5l6 o_11 o_12 o_13 o_14 o_15) else (if w_5l4 ≤ r_10 then (if w_5l5 = (-1) then (ih (w_5l6 + 1) r_10 w_5l4 w_5l3 o_11 o_12 o_13 o_14 o_15) else (if w_5l5 ≤ r_10 then (ih (w_5l6 + 1) w_5l5 w_5l4 w_5l3 o_11 o_12 o_13 o_14 o_15) else (ih (w_5l6 + 1) r_10 w_5l4 w_5l3 o_11 o_12 o_13 o_14 o_15))) else (ih (w_5l6 + 1) w_5l4 r_10 w_5l6 o_11 o_12 o_13 o_14 o_15))))))) n
theorem f_e_hire_x9_37_s (q1 : Int32) (q2 : Int32) (q10 : Int32) (q12 : Int32) (k0 : Int32) (k1 : Int32) (k2 : Int32) (k3 : Int32) (k4 : Int32) (t0 : Int32) (t1 : Int32) (t2 : Int32) (t3 : Int32) (t4 : Int32) (fta : Nat → Int32) (ftc : Nat → Int32) (fn : Nat → Int32) (b_ : Int32) (w_ : Int32) (n : Nat) (w_5l6 : Int32) (w_5l5 : Int32) (w_5l4 : Int32) (w_5l3 : Int32) (w_5m0 : Int32) (w_5m1 : Int32) (w_5m2 : Int32) (w_5m3 : Int32) (w_5m4 : Int32) : f_e_hire_x9_37 q1 q2 q10 q12 k0 k1 k2 k3 k4 t0 t1 t2 t3 t4 fta ftc fn b_ w_ (n + 1) w_5l6 w_5l5 w_5l4 w_5l3 w_5m0 w_5m1 w_5m2 w_5m3 w_5m4 = (if t2 ≤ w_5l6 then (w_5l6, w_5l5, w_5l4, w_5l3, w_5m0, w_5m1, w_5m2, w_5m3, w_5m4) else (match (f_e_costFor_x9 q1 q2 q10 q12 w_5m0 w_5m1 w_5m2 w_5m3 w_5m4 t0 t1 t2 t3 t4 fta ftc fn w_5l6 b_) with | (r_10, o_11, o_12, o_13, o_14, o_15) => (if r_10 = (-1) then (f_e_hire_x9_37 q1 q2 q10 q12 k0 k1 k2 k3 k4 t0 t1 t2 t3 t4 fta ftc fn b_ w_ n (w_5l6 + 1) w_5l5 w_5l4 w_5l3 o_11 o_12 o_13 o_14 o_15) else (if w_5l3 = (-1) then (f_e_hire_x9_37 q1 q2 q10 q12 k0 k1 k2 k3 k4 t0 t1 t2 t3 t4 fta ftc fn b_ w_ n (w_5l6 + 1) w_5l4 r_10 w_5l6 o_11 o_12 o_13 o_14 o_15) else (if w_5l4 ≤ r_10 then (if w_5l5 = (-1) then (f_e_hire_x9_37 q1 q2 q10 q12 k0 k1 k2 k3 k4 t0 t1 t2 t3 t4 fta ftc fn b_ w_ n (w_5l6 + 1) r_10 w_5l4 w_5l3 o_11 o_12 o_13 o_14 o_15) else (if w_5l5 ≤ r_10 then (f_e_hire_x9_37 q1 q2 q10 q12 k0 k1 k2 k3 k4 t0 t1 t2 t3 t4 fta ftc fn b_ w_ n (w_5l6 + 1) w_5l5 w_5l4 w_5l3 o_11 o_12 o_13 o_14 o_15) else (f_e_hire_x9_37 q1 q2 q10 q12 k0 k1 k2 k3 k4 t0 t1 t2 t3 t4 fta ftc fn b_ w_ n (w_5l6 + 1) r_10 w_5l4 w_5l3 o_11 o_12 o_13 o_14 o_15))) else (f_e_hire_x9_37 q1 q2 q10 q12 k0 k1 k2 k3 k4 t0 t1 t2 t3 t4 fta ftc fn b_ w_ n (w_5l6 + 1) w_5l4 r_10 w_5l6 o_11 o_12 o_13 o_14 o_15)))))) := rfl
noncomputable def f_e_hire_x9 (q1 : Int32) (q2 : Int32) (q10 : Int32) (q12 : Int32) (k0 : Int32) (k1 : Int32) (k2 : Int32) (k3 : Int32) (k4 : Int32) (t0 : Int32) (t1 : Int32) (t2 : Int32) (t3 : Int32) (t4 : Int32) (fta : Nat → Int32) (ftc : Nat → Int32) (fn : Nat → Int32) (b_ : Int32) (w_ : Int32) : Int32 × Int32 × Int32 × Int32 × Int32 × Int32 := (if (f_e_hasBridge t0 t1 t2 t3 t4 b_) = 0 then ((-1000000001), k0, k1, k2, k3, k4) else (if w_ = 0 then (match (f_e_hire_x9_37 q1 q2 q10 q12 k0 k1 k2 k3 k4 t0 t1 t2 t3 t4 fta ftc fn b_ w_ (((t2 : Int32).toInt - (0 : Int32).toInt).toNat + 1) 0 (-1) (-1) (-1) k0 k1 k2 k3 k4) with | (w_5l6, w_5l5, w_5l4, w_5l3, w_5m0, w_5m1, w_5m2, w_5m3, w_5m4) => (if w_ = 0 then (w_5l3, w_5m0, w_5m1, w_5m2, w_5m3, w_5m4) else (if w_5l5 = (-1) then (w_5l4, w_5m0, w_5m1, w_5m2, w_5m3, w_5m4) else (w_5l5, w_5m0, w_5m1, w_5m2, w_5m3, w_5m4)))) else (if w_ = 1 then (match (f_e_hire_x9_37 q1 q2 q10 q12 k0 k1 k2 k3 k4 t0 t1 t2 t3 t4 fta ftc fn b_ w_ (((t2 : Int32).toInt - (0 : Int32).toInt).toNat + 1) 0 (-1) (-1) (-1) k0 k1 k2 k3 k4) with | (w_22l6, w_22l5, w_22l4, w_22l3, w_22m0, w_22m1, w_22m2, w_22m3, w_22m4) => (if w_ = 0 then (w_22l3, w_22m0, w_22m1, w_22m2, w_22m3, w_22m4) else (if w_22l5 = (-1) then (w_22l4, w_22m0, w_22m1, w_22m2, w_22m3, w_22m4) else (w_22l5, w_22m0, w_22m1, w_22m2, w_22m3, w_22m4)))) else ((-1000000002), k0, k1, k2, k3, k4))))
def rm_e_hire_x9 : Room := { frames := 6, cells := 0, slots := 0, locals := 152 }
set_option maxHeartbeats 4000000 in
set_option maxRecDepth 100000 in
theorem e_hire_x9 {l : Launch} {D : va_G} {cI cZ : ClassId} {sz : Nat} (h x rd t d nw ps im is_ bk qr pr cv ft ta tb tc td te nwc : Nat) (q1 : Int32) (q2 : Int32) (q10 : Int32) (q12 : Int32) (k0 : Int32) (k1 : Int32) (k2 : Int32) (k3 : Int32) (k4 : Int32) (t0 : Int32) (t1 : Int32) (t2 : Int32) (t3 : Int32) (t4 : Int32) (fta : Nat → Int32) (ftc : Nat → Int32) (fn : Nat → Int32) (b_ : Int32) (w_ : Int32) : KI l yX9_hire cX9_hire 8 (some .int) rm_e_hire_x9 D cI cZ [.ref h, .int b_, .int w_] sz [(h, .inr (9, [.ref x, .int q1, .int q2, .ref rd, .ref t, .ref d, .ref nw, .ref ps, .ref im, .ref is_, .int q10, .ref bk, .int q12, .ref qr, .ref pr, .ref cv, .ref ft])), (qr, .inr (4, [.int k0, .int k1, .int k2, .int k3, .int k4])), (t, .inr (8, [.int t0, .int t1, .int t2, .int t3, .int t4, .ref ta, .ref tb, .ref tc, .ref td, .ref te])), (ta, .inl (cI, 6, .inl fta)), (tc, .inl (cI, 30, .inl ftc)), (nw, .inr (7, [.ref nwc])), (nwc, .inl (cI, 41, .inl fn))] (fun (r : Int32) (u : Int32 × Int32 × Int32 × Int32 × Int32) => (r, u) = f_e_hire_x9 q1 q2 q10 q12 k0 k1 k2 k3 k4 t0 t1 t2 t3 t4 fta ftc fn b_ w_) (fun (u : Int32 × Int32 × Int32 × Int32 × Int32) => [(h, .inr (9, [.ref x, .int q1, .int q2, .ref rd, .ref t, .ref d, .ref nw, .ref ps, .ref im, .ref is_, .int q10, .ref bk, .int q12, .ref qr, .ref pr, .ref cv, .ref ft])), (qr, .inr (4, [.int (u.1), .int (u.2.1), .int (u.2.2.1), .int (u.2.2.2.1), .int (u.2.2.2.2)])), (t, .inr (8, [.int t0, .int t1, .int t2, .int t3, .int t4, .ref ta, .ref tb, .ref tc, .ref td, .ref te])), (ta, .inl (cI, 6, .inl fta)), (tc, .inl (cI, 30, .inl ftc)), (nw, .inr (7, [.ref nwc])), (nwc, .inl (cI, 41, .inl fn))]) := by
  refine KI.go rfl (Nat.le_of_ble_eq_true rfl) ?_
  intro p e s m args below meth c ls A Q hx hb hml hts hown hin hP hK hD hS hA hN hl hret
  have hl : lv_has ls 8 [(0, .ref h), (1, .int b_), (2, .int w_)] := hl
  obtain ⟨RES, hE⟩ : ∃ xRES, f_e_hire_x9 q1 q2 q10 q12 k0 k1 k2 k3 k4 t0 t1 t2 t3 t4 fta ftc fn b_ w_ = xRES := ⟨_, rfl⟩
  rw [hE] at hret
  rw [f_e_hire_x9] at hE
  refine lv_aload_n hx hb dX9_hire_0 rfl (lv_at hl 0 rfl) ?_
  refine va_get (D := D) (ci := 9) (v := .ref t) (C := RX9) (T := TX9) (N := 17) hx hb hts iX9 hown hK hP 0 rfl rfl 4 (Nat.le_of_ble_eq_true rfl) (hts _ wd_89) (fun _ h9 => h9) rfl dX9_hire_1 ?_
  refine lv_iload_n hx hb dX9_hire_4 rfl (lv_at hl 1 rfl) ?_
  refine cVi (wr := [(h, .inr (9, [.ref x, .int q1, .int q2, .ref rd, .ref t, .ref d, .ref nw, .ref ps, .ref im, .ref is_, .int q10, .ref bk, .int q12, .ref qr, .ref pr, .ref cv, .ref ft])), (qr, .inr (4, [.int k0, .int k1, .int k2, .int k3, .int k4])), (ta, .inl (cI, 6, .inl fta)), (tc, .inl (cI, 30, .inl ftc)), (nw, .inr (7, [.ref nwc])), (nwc, .inl (cI, 41, .inl fn))]) (rest := []) (e_hasBridge t ta tb tc td te t0 t1 t2 t3 t4 b_) okV_X8_hasBridge wd_342 hx hb hml hown hts hK hP hD hS hA hN hl.1 [2] [0, 1, 3, 4, 5, 6] rfl rfl rfl rfl (of_decide_eq_true rfl) rfl rfl rfl (Nat.le_of_ble_eq_true rfl) (Nat.le_of_ble_eq_true rfl) (Nat.le_of_ble_eq_true rfl) (Nat.le_of_ble_eq_true rfl) (Nat.le_of_ble_eq_true rfl) dX9_hire_5 (fun r_2 u_1 H locs hw_u_1 hP hD hS => ?_)
  replace hw_u_1 : r_2 = (f_e_hasBridge t0 t1 t2 t3 t4 b_) := hw_u_1
  rw [hw_u_1]
  clear hw_u_1
  have hP : va_P D classes [(h, .inr (9, [.ref x, .int q1, .int q2, .ref rd, .ref t, .ref d, .ref nw, .ref ps, .ref im, .ref is_, .int q10, .ref bk, .int q12, .ref qr, .ref pr, .ref cv, .ref ft])), (qr, .inr (4, [.int k0, .int k1, .int k2, .int k3, .int k4])), (ta, .inl (cI, 6, .inl fta)), (tc, .inl (cI, 30, .inl ftc)), (nw, .inr (7, [.ref nwc])), (nwc, .inl (cI, 41, .inl fn)), (t, .inr (8, [.int t0, .int t1, .int t2, .int t3, .int t4, .ref ta, .ref tb, .ref tc, .ref td, .ref te]))] H := hP
  have hD : va_D A [(h, .inr (9, [.ref x, .int q1, .int q2, .ref rd, .ref t, .ref d, .ref nw, .ref ps, .ref im, .ref is_, .int q10, .ref bk, .int q12, .ref qr, .ref pr, .ref cv, .ref ft])), (qr, .inr (4, [.int k0, .int k1, .int k2, .int k3, .int k4])), (ta, .inl (cI, 6, .inl fta)), (tc, .inl (cI, 30, .inl ftc)), (nw, .inr (7, [.ref nwc])), (nwc, .inl (cI, 41, .inl fn)), (t, .inr (8, [.int t0, .int t1, .int t2, .int t3, .int t4, .ref ta, .ref tb, .ref tc, .ref td, .ref te]))] := hD
  refine lv_if_ne (tgt := 14) hx hb dX9_hire_8 rfl (fun c_3 => ?_) (fun c_3 => ?_)
  · rw [if_neg c_3] at hE
    refine lv_iload_n hx hb dX9_hire_14 rfl (lv_at hl 2 rfl) ?_
    refine lv_if_eq (tgt := 26) hx hb dX9_hire_15 rfl (fun c_4 => ?_) (fun c_4 => ?_)
    · rw [if_pos c_4] at hE
      refine lv_iconst (v := (-1)) hx hb dX9_hire_26 rfl ?_
      refine lv_istore_n (lv' := [(3, .int (-1)), (0, .ref h), (1, .int b_), (2, .int w_)]) hx hb dX9_hire_27 rfl hl (Nat.le_of_ble_eq_true rfl) rfl (fun ls hl => ?_)
      refine lv_iconst (v := (-1)) hx hb dX9_hire_28 rfl ?_
      refine lv_istore (lv' := [(4, .int (-1)), (3, .int (-1)), (0, .ref h), (1, .int b_), (2, .int w_)]) hx hb dX9_hire_29 hl (Nat.le_of_ble_eq_true rfl) rfl (fun ls hl => ?_)
      refine lv_iconst (v := (-1)) hx hb dX9_hire_31 rfl ?_
      refine lv_istore (lv' := [(5, .int (-1)), (4, .int (-1)), (3, .int (-1)), (0, .ref h), (1, .int b_), (2, .int w_)]) hx hb dX9_hire_32 hl (Nat.le_of_ble_eq_true rfl) rfl (fun ls hl => ?_)
      refine lv_iconst (v := 0) hx hb dX9_hire_34 rfl ?_
      refine lv_istore (lv' := [(6, .int 0), (5, .int (-1)), (4, .int (-1)), (3, .int (-1)), (0, .ref h), (1, .int b_), (2, .int w_)]) hx hb dX9_hire_35 hl (Nat.le_of_ble_eq_true rfl) rfl (fun ls hl => ?_)
      have ex_37_w_5 : ∀ (w_5l6 : Int32) (w_5l5 : Int32) (w_5l4 : Int32) (w_5l3 : Int32) (w_5m0 : Int32) (w_5m1 : Int32) (w_5m2 : Int32) (w_5m3 : Int32) (w_5m4 : Int32) (H : Heap) (locs : List Loc) (ls : Array Slot), va_P D classes [(h, .inr (9, [.ref x, .int q1, .int q2, .ref rd, .ref t, .ref d, .ref nw, .ref ps, .ref im, .ref is_, .int q10, .ref bk, .int q12, .ref qr, .ref pr, .ref cv, .ref ft])), (qr, .inr (4, [.int w_5m0, .int w_5m1, .int w_5m2, .int w_5m3, .int w_5m4])), (ta, .inl (cI, 6, .inl fta)), (tc, .inl (cI, 30, .inl ftc)), (nw, .inr (7, [.ref nwc])), (nwc, .inl (cI, 41, .inl fn)), (t, .inr (8, [.int t0, .int t1, .int t2, .int t3, .int t4, .ref ta, .ref tb, .ref tc, .ref td, .ref te]))] H → va_D A [(h, .inr (9, [.ref x, .int q1, .int q2, .ref rd, .ref t, .ref d, .ref nw, .ref ps, .ref im, .ref is_, .int q10, .ref bk, .int q12, .ref qr, .ref pr, .ref cv, .ref ft])), (qr, .inr (4, [.int w_5m0, .int w_5m1, .int w_5m2, .int w_5m3, .int w_5m4])), (ta, .inl (cI, 6, .inl fta)), (tc, .inl (cI, 30, .inl ftc)), (nw, .inr (7, [.ref nwc])), (nwc, .inl (cI, 41, .inl fn)), (t, .inr (8, [.int t0, .int t1, .int t2, .int t3, .int t4, .ref ta, .ref tb, .ref tc, .ref td, .ref te]))] → va_S A s.heap H locs → lv_has ls 8 [(6, .int w_5l6), (5, .int w_5l5), (4, .int w_5l4), (3, .int w_5l3), (0, .ref h), (1, .int b_), (2, .int w_)] → ((if w_ = 0 then (w_5l3, w_5m0, w_5m1, w_5m2, w_5m3, w_5m4) else (if w_5l5 = (-1) then (w_5l4, w_5m0, w_5m1, w_5m2, w_5m3, w_5m4) else (w_5l5, w_5m0, w_5m1, w_5m2, w_5m3, w_5m4)))) = RES → W p l e rm_e_hire_x9 s m args below meth c H locs 0 0 Q (F0 m 116 ls []) := by
        intro w_5l6 w_5l5 w_5l4 w_5l3 w_5m0 w_5m1 w_5m2 w_5m3 w_5m4 H locs ls hP hD hS hl hE
        refine lv_iload_n hx hb dX9_hire_116 rfl (lv_at hl 6 rfl) ?_
        refine lv_if_ne (tgt := 122) hx hb dX9_hire_117 rfl (fun c_6 => ?_) (fun c_6 => ?_)
        · rw [if_neg c_6] at hE
          refine lv_iload hx hb dX9_hire_122 (lv_at hl 1 rfl) ?_
          refine lv_iconst (v := (-1)) hx hb dX9_hire_124 rfl ?_
          refine lv_icmp_ne (tgt := 133) hx hb dX9_hire_125 rfl (fun c_7 => ?_) (fun c_7 => ?_)
          · rw [if_neg c_7] at hE
            refine lv_iload hx hb dX9_hire_133 (lv_at hl 1 rfl) ?_
            exact hret w_5l5 (w_5m0, w_5m1, w_5m2, w_5m3, w_5m4) _ _ _ _ dX9_hire_135 rfl hE (cutP (isC := [0, 1, 6, 2, 3, 4, 5]) hP rfl) (cutD (isC := [0, 1, 6, 2, 3, 4, 5]) hD rfl rfl) hS
          · rw [if_pos c_7] at hE
            refine lv_iload hx hb dX9_hire_128 (lv_at hl 2 rfl) ?_
            refine lv_goto (tgt := 135) hx hb dX9_hire_130 rfl ?_
            exact hret w_5l4 (w_5m0, w_5m1, w_5m2, w_5m3, w_5m4) _ _ _ _ dX9_hire_135 rfl hE (cutP (isC := [0, 1, 6, 2, 3, 4, 5]) hP rfl) (cutD (isC := [0, 1, 6, 2, 3, 4, 5]) hD rfl rfl) hS
        · rw [if_pos c_6] at hE
          refine lv_iload_n hx hb dX9_hire_120 rfl (lv_at hl 3 rfl) ?_
          exact hret w_5l3 (w_5m0, w_5m1, w_5m2, w_5m3, w_5m4) _ _ _ _ dX9_hire_121 rfl hE (cutP (isC := [0, 1, 6, 2, 3, 4, 5]) hP rfl) (cutD (isC := [0, 1, 6, 2, 3, 4, 5]) hD rfl rfl) hS
      have lp_37_w_5 : ∀ (n_w_5 : Nat) (w_5l6 : Int32) (w_5l5 : Int32) (w_5l4 : Int32) (w_5l3 : Int32) (w_5m0 : Int32) (w_5m1 : Int32) (w_5m2 : Int32) (w_5m3 : Int32) (w_5m4 : Int32) (H : Heap) (locs : List Loc) (ls : Array Slot), va_P D classes [(h, .inr (9, [.ref x, .int q1, .int q2, .ref rd, .ref t, .ref d, .ref nw, .ref ps, .ref im, .ref is_, .int q10, .ref bk, .int q12, .ref qr, .ref pr, .ref cv, .ref ft])), (qr, .inr (4, [.int w_5m0, .int w_5m1, .int w_5m2, .int w_5m3, .int w_5m4])), (ta, .inl (cI, 6, .inl fta)), (tc, .inl (cI, 30, .inl ftc)), (nw, .inr (7, [.ref nwc])), (nwc, .inl (cI, 41, .inl fn)), (t, .inr (8, [.int t0, .int t1, .int t2, .int t3, .int t4, .ref ta, .ref tb, .ref tc, .ref td, .ref te]))] H → va_D A [(h, .inr (9, [.ref x, .int q1, .int q2, .ref rd, .ref t, .ref d, .ref nw, .ref ps, .ref im, .ref is_, .int q10, .ref bk, .int q12, .ref qr, .ref pr, .ref cv, .ref ft])), (qr, .inr (4, [.int w_5m0, .int w_5m1, .int w_5m2, .int w_5m3, .int w_5m4])), (ta, .inl (cI, 6, .inl fta)), (tc, .inl (cI, 30, .inl ftc)), (nw, .inr (7, [.ref nwc])), (nwc, .inl (cI, 41, .inl fn)), (t, .inr (8, [.int t0, .int t1, .int t2, .int t3, .int t4, .ref ta, .ref tb, .ref tc, .ref td, .ref te]))] → va_S A s.heap H locs → lv_has ls 8 [(6, .int w_5l6), (5, .int w_5l5), (4, .int w_5l4), (3, .int w_5l3), (0, .ref h), (1, .int b_), (2, .int w_)] → ((t2 : Int32).toInt - (w_5l6 : Int32).toInt).toNat < n_w_5 → (match (f_e_hire_x9_37 q1 q2 q10 q12 k0 k1 k2 k3 k4 t0 t1 t2 t3 t4 fta ftc fn b_ w_ n_w_5 w_5l6 w_5l5 w_5l4 w_5l3 w_5m0 w_5m1 w_5m2 w_5m3 w_5m4) with | (w_5l6, w_5l5, w_5l4, w_5l3, w_5m0, w_5m1, w_5m2, w_5m3, w_5m4) => (if w_ = 0 then (w_5l3, w_5m0, w_5m1, w_5m2, w_5m3, w_5m4) else (if w_5l5 = (-1) then (w_5l4, w_5m0, w_5m1, w_5m2, w_5m3, w_5m4) else (w_5l5, w_5m0, w_5m1, w_5m2, w_5m3, w_5m4)))) = RES → W p l e rm_e_hire_x9 s m args below meth c H locs 0 0 Q (F0 m 37 ls []) := by
        intro n_w_5
        induction n_w_5 with
        | zero => intro w_5l6 w_5l5 w_5l4 w_5l3 w_5m0 w_5m1 w_5m2 w_5m3 w_5m4 H locs ls hP hD hS hl hm; exact absurd hm (Nat.not_lt_zero _)
        | succ n_w_5 ih_w_5 =>
          intro w_5l6 w_5l5 w_5l4 w_5l3 w_5m0 w_5m1 w_5m2 w_5m3 w_5m4 H locs ls hP hD hS hl hm hE
          rw [f_e_hire_x9_37_s] at hE
          refine lv_iload hx hb dX9_hire_37 (lv_at hl 0 rfl) ?_
          refine lv_aload_n hx hb dX9_hire_39 rfl (lv_at hl 4 rfl) ?_
          refine va_get (D := D) (ci := 9) (v := .ref t) (C := RX9) (T := TX9) (N := 17) hx hb hts iX9 hown hK hP 0 rfl rfl 4 (Nat.le_of_ble_eq_true rfl) (hts _ wd_89) (fun _ h9 => h9) rfl dX9_hire_40 ?_
          refine va_get (D := D) (ci := 8) (v := .int t2) (C := RX8) (T := TX8) (N := 10) hx hb hts iX8 hown hK hP 6 rfl rfl 2 (Nat.le_of_ble_eq_true rfl) (hts _ wd_373) (fun _ h9 => h9) rfl dX9_hire_43 ?_
          refine lv_icmp_ge (tgt := 116) hx hb dX9_hire_46 rfl (fun c_8 => ?_) (fun c_8 => ?_)
          · rw [if_pos c_8] at hE
            exact ex_37_w_5 w_5l6 w_5l5 w_5l4 w_5l3 w_5m0 w_5m1 w_5m2 w_5m3 w_5m4 _ _ ls hP hD hS (lv_sub hl [0, 1, 2, 3, 4, 5, 6] rfl) hE
          · rw [if_neg c_8] at hE
            refine lv_aload_n hx hb dX9_hire_49 rfl (lv_at hl 4 rfl) ?_
            refine lv_iload hx hb dX9_hire_50 (lv_at hl 0 rfl) ?_
            refine lv_iload_n hx hb dX9_hire_52 rfl (lv_at hl 5 rfl) ?_
            refine cVi (wr := []) (rest := []) (e_costFor_x9 h x rd t d nw ps im is_ bk qr pr cv ft ta tb tc td te nwc q1 q2 q10 q12 w_5m0 w_5m1 w_5m2 w_5m3 w_5m4 t0 t1 t2 t3 t4 fta ftc fn w_5l6 b_) okV_X9_costFor wd_413 hx hb hml hown hts hK hP hD hS hA hN hl.1 [0, 1, 6, 2, 3, 4, 5] [] rfl rfl rfl rfl (of_decide_eq_true rfl) rfl rfl rfl (Nat.le_of_ble_eq_true rfl) (Nat.le_of_ble_eq_true rfl) (Nat.le_of_ble_eq_true rfl) (Nat.le_of_ble_eq_true rfl) (Nat.le_of_ble_eq_true rfl) dX9_hire_53 (fun r_10 u_9 H locs hw_u_9 hP hD hS => ?_)
            obtain ⟨o_11, o_12, o_13, o_14, o_15⟩ := u_9
            replace hw_u_9 : (r_10, o_11, o_12, o_13, o_14, o_15) = (f_e_costFor_x9 q1 q2 q10 q12 w_5m0 w_5m1 w_5m2 w_5m3 w_5m4 t0 t1 t2 t3 t4 fta ftc fn w_5l6 b_) := hw_u_9
            rw [← hw_u_9] at hE
            replace hE : (match (if r_10 = (-1) then (f_e_hire_x9_37 q1 q2 q10 q12 k0 k1 k2 k3 k4 t0 t1 t2 t3 t4 fta ftc fn b_ w_ n_w_5 (w_5l6 + 1) w_5l5 w_5l4 w_5l3 o_11 o_12 o_13 o_14 o_15) else (if w_5l3 = (-1) then (f_e_hire_x9_37 q1 q2 q10 q12 k0 k1 k2 k3 k4 t0 t1 t2 t3 t4 fta ftc fn b_ w_ n_w_5 (w_5l6 + 1) w_5l4 r_10 w_5l6 o_11 o_12 o_13 o_14 o_15) else (if w_5l4 ≤ r_10 then (if w_5l5 = (-1) then (f_e_hire_x9_37 q1 q2 q10 q12 k0 k1 k2 k3 k4 t0 t1 t2 t3 t4 fta ftc fn b_ w_ n_w_5 (w_5l6 + 1) r_10 w_5l4 w_5l3 o_11 o_12 o_13 o_14 o_15) else (if w_5l5 ≤ r_10 then (f_e_hire_x9_37 q1 q2 q10 q12 k0 k1 k2 k3 k4 t0 t1 t2 t3 t4 fta ftc fn b_ w_ n_w_5 (w_5l6 + 1) w_5l5 w_5l4 w_5l3 o_11 o_12 o_13 o_14 o_15) else (f_e_hire_x9_37 q1 q2 q10 q12 k0 k1 k2 k3 k4 t0 t1 t2 t3 t4 fta ftc fn b_ w_ n_w_5 (w_5l6 + 1) r_10 w_5l4 w_5l3 o_11 o_12 o_13 o_14 o_15))) else (f_e_hire_x9_37 q1 q2 q10 q12 k0 k1 k2 k3 k4 t0 t1 t2 t3 t4 fta ftc fn b_ w_ n_w_5 (w_5l6 + 1) w_5l4 r_10 w_5l6 o_11 o_12 o_13 o_14 o_15)))) with | (w_5l6, w_5l5, w_5l4, w_5l3, w_5m0, w_5m1, w_5m2, w_5m3, w_5m4) => (if w_ = 0 then (w_5l3, w_5m0, w_5m1, w_5m2, w_5m3, w_5m4) else (if w_5l5 = (-1) then (w_5l4, w_5m0, w_5m1, w_5m2, w_5m3, w_5m4) else (w_5l5, w_5m0, w_5m1, w_5m2, w_5m3, w_5m4)))) = RES := hE
            have hP : va_P D classes [(h, .inr (9, [.ref x, .int q1, .int q2, .ref rd, .ref t, .ref d, .ref nw, .ref ps, .ref im, .ref is_, .int q10, .ref bk, .int q12, .ref qr, .ref pr, .ref cv, .ref ft])), (qr, .inr (4, [.int o_11, .int o_12, .int o_13, .int o_14, .int o_15])), (t, .inr (8, [.int t0, .int t1, .int t2, .int t3, .int t4, .ref ta, .ref tb, .ref tc, .ref td, .ref te])), (ta, .inl (cI, 6, .inl fta)), (tc, .inl (cI, 30, .inl ftc)), (nw, .inr (7, [.ref nwc])), (nwc, .inl (cI, 41, .inl fn))] H := hP
            have hD : va_D A [(h, .inr (9, [.ref x, .int q1, .int q2, .ref rd, .ref t, .ref d, .ref nw, .ref ps, .ref im, .ref is_, .int q10, .ref bk, .int q12, .ref qr, .ref pr, .ref cv, .ref ft])), (qr, .inr (4, [.int o_11, .int o_12, .int o_13, .int o_14, .int o_15])), (t, .inr (8, [.int t0, .int t1, .int t2, .int t3, .int t4, .ref ta, .ref tb, .ref tc, .ref td, .ref te])), (ta, .inl (cI, 6, .inl fta)), (tc, .inl (cI, 30, .inl ftc)), (nw, .inr (7, [.ref nwc])), (nwc, .inl (cI, 41, .inl fn))] := hD
            refine lv_istore (lv' := [(7, .int r_10), (6, .int w_5l6), (5, .int w_5l5), (4, .int w_5l4), (3, .int w_5l3), (0, .ref h), (1, .int b_), (2, .int w_)]) hx hb dX9_hire_56 hl (Nat.le_of_ble_eq_true rfl) rfl (fun ls hl => ?_)
            refine lv_iload hx hb dX9_hire_58 (lv_at hl 0 rfl) ?_
            refine lv_iconst (v := (-1)) hx hb dX9_hire_60 rfl ?_
            refine lv_icmp_ne (tgt := 67) hx hb dX9_hire_61 rfl (fun c_16 => ?_) (fun c_16 => ?_)
            · rw [if_neg c_16] at hE
              refine lv_iload_n hx hb dX9_hire_67 rfl (lv_at hl 4 rfl) ?_
              refine lv_iconst (v := (-1)) hx hb dX9_hire_68 rfl ?_
              refine lv_icmp_eq (tgt := 79) hx hb dX9_hire_69 rfl (fun c_17 => ?_) (fun c_17 => ?_)
              · rw [if_pos c_17] at hE
                refine lv_iload hx hb dX9_hire_79 (lv_at hl 3 rfl) ?_
                refine lv_istore (lv' := [(5, .int w_5l4), (7, .int r_10), (6, .int w_5l6), (4, .int w_5l4), (3, .int w_5l3), (0, .ref h), (1, .int b_), (2, .int w_)]) hx hb dX9_hire_81 hl (Nat.le_of_ble_eq_true rfl) rfl (fun ls hl => ?_)
                refine lv_iload hx hb dX9_hire_83 (lv_at hl 1 rfl) ?_
                refine lv_istore (lv' := [(4, .int r_10), (5, .int w_5l4), (7, .int r_10), (6, .int w_5l6), (3, .int w_5l3), (0, .ref h), (1, .int b_), (2, .int w_)]) hx hb dX9_hire_85 hl (Nat.le_of_ble_eq_true rfl) rfl (fun ls hl => ?_)
                refine lv_iload hx hb dX9_hire_87 (lv_at hl 3 rfl) ?_
                refine lv_istore_n (lv' := [(3, .int w_5l6), (4, .int r_10), (5, .int w_5l4), (7, .int r_10), (6, .int w_5l6), (0, .ref h), (1, .int b_), (2, .int w_)]) hx hb dX9_hire_89 rfl hl (Nat.le_of_ble_eq_true rfl) rfl (fun ls hl => ?_)
                refine lv_goto (tgt := 110) hx hb dX9_hire_90 rfl ?_
                refine lv_iinc (v := (w_5l6 + 1)) (lv' := [(6, .int (w_5l6 + 1)), (3, .int w_5l6), (4, .int r_10), (5, .int w_5l4), (7, .int r_10), (0, .ref h), (1, .int b_), (2, .int w_)]) hx hb dX9_hire_110 hl (k := 4) rfl rfl (Nat.le_of_ble_eq_true rfl) rfl (fun ls hl => ?_)
                refine lv_goto (tgt := 37) hx hb dX9_hire_113 rfl ?_
                exact ih_w_5 (w_5l6 + 1) w_5l4 r_10 w_5l6 o_11 o_12 o_13 o_14 o_15 _ _ ls (cutP (isC := [0, 1, 3, 4, 5, 6, 2]) hP rfl) (cutD (isC := [0, 1, 3, 4, 5, 6, 2]) hD rfl rfl) hS (lv_sub hl [0, 3, 2, 1, 5, 6, 7] rfl) (up_step c_8 hm) hE
              · rw [if_neg c_17] at hE
                refine lv_iload hx hb dX9_hire_72 (lv_at hl 0 rfl) ?_
                refine lv_iload hx hb dX9_hire_74 (lv_at hl 3 rfl) ?_
                refine lv_icmp_ge (tgt := 93) hx hb dX9_hire_76 rfl (fun c_18 => ?_) (fun c_18 => ?_)
                · rw [if_pos c_18] at hE
                  refine lv_iload hx hb dX9_hire_93 (lv_at hl 2 rfl) ?_
                  refine lv_iconst (v := (-1)) hx hb dX9_hire_95 rfl ?_
                  refine lv_icmp_eq (tgt := 106) hx hb dX9_hire_96 rfl (fun c_19 => ?_) (fun c_19 => ?_)
                  · rw [if_pos c_19] at hE
                    refine lv_iload hx hb dX9_hire_106 (lv_at hl 0 rfl) ?_
                    refine lv_istore (lv' := [(5, .int r_10), (7, .int r_10), (6, .int w_5l6), (4, .int w_5l4), (3, .int w_5l3), (0, .ref h), (1, .int b_), (2, .int w_)]) hx hb dX9_hire_108 hl (Nat.le_of_ble_eq_true rfl) rfl (fun ls hl => ?_)
                    refine lv_iinc (v := (w_5l6 + 1)) (lv' := [(6, .int (w_5l6 + 1)), (5, .int r_10), (7, .int r_10), (4, .int w_5l4), (3, .int w_5l3), (0, .ref h), (1, .int b_), (2, .int w_)]) hx hb dX9_hire_110 hl (k := 2) rfl rfl (Nat.le_of_ble_eq_true rfl) rfl (fun ls hl => ?_)
                    refine lv_goto (tgt := 37) hx hb dX9_hire_113 rfl ?_
                    exact ih_w_5 (w_5l6 + 1) r_10 w_5l4 w_5l3 o_11 o_12 o_13 o_14 o_15 _ _ ls (cutP (isC := [0, 1, 3, 4, 5, 6, 2]) hP rfl) (cutD (isC := [0, 1, 3, 4, 5, 6, 2]) hD rfl rfl) hS (lv_sub hl [0, 1, 3, 4, 5, 6, 7] rfl) (up_step c_8 hm) hE
                  · rw [if_neg c_19] at hE
                    refine lv_iload hx hb dX9_hire_99 (lv_at hl 0 rfl) ?_
                    refine lv_iload hx hb dX9_hire_101 (lv_at hl 2 rfl) ?_
                    refine lv_icmp_ge (tgt := 110) hx hb dX9_hire_103 rfl (fun c_20 => ?_) (fun c_20 => ?_)
                    · rw [if_pos c_20] at hE
                      refine lv_iinc (v := (w_5l6 + 1)) (lv' := [(6, .int (w_5l6 + 1)), (7, .int r_10), (5, .int w_5l5), (4, .int w_5l4), (3, .int w_5l3), (0, .ref h), (1, .int b_), (2, .int w_)]) hx hb dX9_hire_110 hl (k := 1) rfl rfl (Nat.le_of_ble_eq_true rfl) rfl (fun ls hl => ?_)
                      refine lv_goto (tgt := 37) hx hb dX9_hire_113 rfl ?_
                      exact ih_w_5 (w_5l6 + 1) w_5l5 w_5l4 w_5l3 o_11 o_12 o_13 o_14 o_15 _ _ ls (cutP (isC := [0, 1, 3, 4, 5, 6, 2]) hP rfl) (cutD (isC := [0, 1, 3, 4, 5, 6, 2]) hD rfl rfl) hS (lv_sub hl [0, 2, 3, 4, 5, 6, 7] rfl) (up_step c_8 hm) hE
                    · rw [if_neg c_20] at hE
                      refine lv_iload hx hb dX9_hire_106 (lv_at hl 0 rfl) ?_
                      refine lv_istore (lv' := [(5, .int r_10), (7, .int r_10), (6, .int w_5l6), (4, .int w_5l4), (3, .int w_5l3), (0, .ref h), (1, .int b_), (2, .int w_)]) hx hb dX9_hire_108 hl (Nat.le_of_ble_eq_true rfl) rfl (fun ls hl => ?_)
                      refine lv_iinc (v := (w_5l6 + 1)) (lv' := [(6, .int (w_5l6 + 1)), (5, .int r_10), (7, .int r_10), (4, .int w_5l4), (3, .int w_5l3), (0, .ref h), (1, .int b_), (2, .int w_)]) hx hb dX9_hire_110 hl (k := 2) rfl rfl (Nat.le_of_ble_eq_true rfl) rfl (fun ls hl => ?_)
                      refine lv_goto (tgt := 37) hx hb dX9_hire_113 rfl ?_
                      exact ih_w_5 (w_5l6 + 1) r_10 w_5l4 w_5l3 o_11 o_12 o_13 o_14 o_15 _ _ ls (cutP (isC := [0, 1, 3, 4, 5, 6, 2]) hP rfl) (cutD (isC := [0, 1, 3, 4, 5, 6, 2]) hD rfl rfl) hS (lv_sub hl [0, 1, 3, 4, 5, 6, 7] rfl) (up_step c_8 hm) hE
                · rw [if_neg c_18] at hE
                  refine lv_iload hx hb dX9_hire_79 (lv_at hl 3 rfl) ?_
                  refine lv_istore (lv' := [(5, .int w_5l4), (7, .int r_10), (6, .int w_5l6), (4, .int w_5l4), (3, .int w_5l3), (0, .ref h), (1, .int b_), (2, .int w_)]) hx hb dX9_hire_81 hl (Nat.le_of_ble_eq_true rfl) rfl (fun ls hl => ?_)
                  refine lv_iload hx hb dX9_hire_83 (lv_at hl 1 rfl) ?_
                  refine lv_istore (lv' := [(4, .int r_10), (5, .int w_5l4), (7, .int r_10), (6, .int w_5l6), (3, .int w_5l3), (0, .ref h), (1, .int b_), (2, .int w_)]) hx hb dX9_hire_85 hl (Nat.le_of_ble_eq_true rfl) rfl (fun ls hl => ?_)
                  refine lv_iload hx hb dX9_hire_87 (lv_at hl 3 rfl) ?_
                  refine lv_istore_n (lv' := [(3, .int w_5l6), (4, .int r_10), (5, .int w_5l4), (7, .int r_10), (6, .int w_5l6), (0, .ref h), (1, .int b_), (2, .int w_)]) hx hb dX9_hire_89 rfl hl (Nat.le_of_ble_eq_true rfl) rfl (fun ls hl => ?_)
                  refine lv_goto (tgt := 110) hx hb dX9_hire_90 rfl ?_
                  refine lv_iinc (v := (w_5l6 + 1)) (lv' := [(6, .int (w_5l6 + 1)), (3, .int w_5l6), (4, .int r_10), (5, .int w_5l4), (7, .int r_10), (0, .ref h), (1, .int b_), (2, .int w_)]) hx hb dX9_hire_110 hl (k := 4) rfl rfl (Nat.le_of_ble_eq_true rfl) rfl (fun ls hl => ?_)
                  refine lv_goto (tgt := 37) hx hb dX9_hire_113 rfl ?_
                  exact ih_w_5 (w_5l6 + 1) w_5l4 r_10 w_5l6 o_11 o_12 o_13 o_14 o_15 _ _ ls (cutP (isC := [0, 1, 3, 4, 5, 6, 2]) hP rfl) (cutD (isC := [0, 1, 3, 4, 5, 6, 2]) hD rfl rfl) hS (lv_sub hl [0, 3, 2, 1, 5, 6, 7] rfl) (up_step c_8 hm) hE
            · rw [if_pos c_16] at hE
              subst c_16
              refine lv_goto (tgt := 110) hx hb dX9_hire_64 rfl ?_
              refine lv_iinc (v := (w_5l6 + 1)) (lv' := [(6, .int (w_5l6 + 1)), (7, .int (-1)), (5, .int w_5l5), (4, .int w_5l4), (3, .int w_5l3), (0, .ref h), (1, .int b_), (2, .int w_)]) hx hb dX9_hire_110 hl (k := 1) rfl rfl (Nat.le_of_ble_eq_true rfl) rfl (fun ls hl => ?_)
              refine lv_goto (tgt := 37) hx hb dX9_hire_113 rfl ?_
              exact ih_w_5 (w_5l6 + 1) w_5l5 w_5l4 w_5l3 o_11 o_12 o_13 o_14 o_15 _ _ ls (cutP (isC := [0, 1, 3, 4, 5, 6, 2]) hP rfl) (cutD (isC := [0, 1, 3, 4, 5, 6, 2]) hD rfl rfl) hS (lv_sub hl [0, 2, 3, 4, 5, 6, 7] rfl) (up_step c_8 hm) hE
      exact lp_37_w_5 (((t2 : Int32).toInt - (0 : Int32).toInt).toNat + 1) 0 (-1) (-1) (-1) k0 k1 k2 k3 k4 _ _ ls hP hD hS hl (Nat.lt_succ_self _) hE
    · rw [if_neg c_4] at hE
      refine lv_iload_n hx hb dX9_hire_18 rfl (lv_at hl 2 rfl) ?_
      refine lv_iconst (v := 1) hx hb dX9_hire_19 rfl ?_
      refine lv_icmp_eq (tgt := 26) hx hb dX9_hire_20 rfl (fun c_21 => ?_) (fun c_21 => ?_)
      · rw [if_pos c_21] at hE
        refine lv_iconst (v := (-1)) hx hb dX9_hire_26 rfl ?_
        refine lv_istore_n (lv' := [(3, .int (-1)), (0, .ref h), (1, .int b_), (2, .int w_)]) hx hb dX9_hire_27 rfl hl (Nat.le_of_ble_eq_true rfl) rfl (fun ls hl => ?_)
        refine lv_iconst (v := (-1)) hx hb dX9_hire_28 rfl ?_
        refine lv_istore (lv' := [(4, .int (-1)), (3, .int (-1)), (0, .ref h), (1, .int b_), (2, .int w_)]) hx hb dX9_hire_29 hl (Nat.le_of_ble_eq_true rfl) rfl (fun ls hl => ?_)
        refine lv_iconst (v := (-1)) hx hb dX9_hire_31 rfl ?_
        refine lv_istore (lv' := [(5, .int (-1)), (4, .int (-1)), (3, .int (-1)), (0, .ref h), (1, .int b_), (2, .int w_)]) hx hb dX9_hire_32 hl (Nat.le_of_ble_eq_true rfl) rfl (fun ls hl => ?_)
        refine lv_iconst (v := 0) hx hb dX9_hire_34 rfl ?_
        refine lv_istore (lv' := [(6, .int 0), (5, .int (-1)), (4, .int (-1)), (3, .int (-1)), (0, .ref h), (1, .int b_), (2, .int w_)]) hx hb dX9_hire_35 hl (Nat.le_of_ble_eq_true rfl) rfl (fun ls hl => ?_)
        have ex_37_w_22 : ∀ (w_22l6 : Int32) (w_22l5 : Int32) (w_22l4 : Int32) (w_22l3 : Int32) (w_22m0 : Int32) (w_22m1 : Int32) (w_22m2 : Int32) (w_22m3 : Int32) (w_22m4 : Int32) (H : Heap) (locs : List Loc) (ls : Array Slot), va_P D classes [(h, .inr (9, [.ref x, .int q1, .int q2, .ref rd, .ref t, .ref d, .ref nw, .ref ps, .ref im, .ref is_, .int q10, .ref bk, .int q12, .ref qr, .ref pr, .ref cv, .ref ft])), (qr, .inr (4, [.int w_22m0, .int w_22m1, .int w_22m2, .int w_22m3, .int w_22m4])), (ta, .inl (cI, 6, .inl fta)), (tc, .inl (cI, 30, .inl ftc)), (nw, .inr (7, [.ref nwc])), (nwc, .inl (cI, 41, .inl fn)), (t, .inr (8, [.int t0, .int t1, .int t2, .int t3, .int t4, .ref ta, .ref tb, .ref tc, .ref td, .ref te]))] H → va_D A [(h, .inr (9, [.ref x, .int q1, .int q2, .ref rd, .ref t, .ref d, .ref nw, .ref ps, .ref im, .ref is_, .int q10, .ref bk, .int q12, .ref qr, .ref pr, .ref cv, .ref ft])), (qr, .inr (4, [.int w_22m0, .int w_22m1, .int w_22m2, .int w_22m3, .int w_22m4])), (ta, .inl (cI, 6, .inl fta)), (tc, .inl (cI, 30, .inl ftc)), (nw, .inr (7, [.ref nwc])), (nwc, .inl (cI, 41, .inl fn)), (t, .inr (8, [.int t0, .int t1, .int t2, .int t3, .int t4, .ref ta, .ref tb, .ref tc, .ref td, .ref te]))] → va_S A s.heap H locs → lv_has ls 8 [(6, .int w_22l6), (5, .int w_22l5), (4, .int w_22l4), (3, .int w_22l3), (0, .ref h), (1, .int b_), (2, .int w_)] → ((if w_ = 0 then (w_22l3, w_22m0, w_22m1, w_22m2, w_22m3, w_22m4) else (if w_22l5 = (-1) then (w_22l4, w_22m0, w_22m1, w_22m2, w_22m3, w_22m4) else (w_22l5, w_22m0, w_22m1, w_22m2, w_22m3, w_22m4)))) = RES → W p l e rm_e_hire_x9 s m args below meth c H locs 0 0 Q (F0 m 116 ls []) := by
          intro w_22l6 w_22l5 w_22l4 w_22l3 w_22m0 w_22m1 w_22m2 w_22m3 w_22m4 H locs ls hP hD hS hl hE
          refine lv_iload_n hx hb dX9_hire_116 rfl (lv_at hl 6 rfl) ?_
          refine lv_if_ne (tgt := 122) hx hb dX9_hire_117 rfl (fun c_23 => ?_) (fun c_23 => ?_)
          · rw [if_neg c_23] at hE
            refine lv_iload hx hb dX9_hire_122 (lv_at hl 1 rfl) ?_
            refine lv_iconst (v := (-1)) hx hb dX9_hire_124 rfl ?_
            refine lv_icmp_ne (tgt := 133) hx hb dX9_hire_125 rfl (fun c_24 => ?_) (fun c_24 => ?_)
            · rw [if_neg c_24] at hE
              refine lv_iload hx hb dX9_hire_133 (lv_at hl 1 rfl) ?_
              exact hret w_22l5 (w_22m0, w_22m1, w_22m2, w_22m3, w_22m4) _ _ _ _ dX9_hire_135 rfl hE (cutP (isC := [0, 1, 6, 2, 3, 4, 5]) hP rfl) (cutD (isC := [0, 1, 6, 2, 3, 4, 5]) hD rfl rfl) hS
            · rw [if_pos c_24] at hE
              refine lv_iload hx hb dX9_hire_128 (lv_at hl 2 rfl) ?_
              refine lv_goto (tgt := 135) hx hb dX9_hire_130 rfl ?_
              exact hret w_22l4 (w_22m0, w_22m1, w_22m2, w_22m3, w_22m4) _ _ _ _ dX9_hire_135 rfl hE (cutP (isC := [0, 1, 6, 2, 3, 4, 5]) hP rfl) (cutD (isC := [0, 1, 6, 2, 3, 4, 5]) hD rfl rfl) hS
          · rw [if_pos c_23] at hE
            refine lv_iload_n hx hb dX9_hire_120 rfl (lv_at hl 3 rfl) ?_
            exact hret w_22l3 (w_22m0, w_22m1, w_22m2, w_22m3, w_22m4) _ _ _ _ dX9_hire_121 rfl hE (cutP (isC := [0, 1, 6, 2, 3, 4, 5]) hP rfl) (cutD (isC := [0, 1, 6, 2, 3, 4, 5]) hD rfl rfl) hS
        have lp_37_w_22 : ∀ (n_w_22 : Nat) (w_22l6 : Int32) (w_22l5 : Int32) (w_22l4 : Int32) (w_22l3 : Int32) (w_22m0 : Int32) (w_22m1 : Int32) (w_22m2 : Int32) (w_22m3 : Int32) (w_22m4 : Int32) (H : Heap) (locs : List Loc) (ls : Array Slot), va_P D classes [(h, .inr (9, [.ref x, .int q1, .int q2, .ref rd, .ref t, .ref d, .ref nw, .ref ps, .ref im, .ref is_, .int q10, .ref bk, .int q12, .ref qr, .ref pr, .ref cv, .ref ft])), (qr, .inr (4, [.int w_22m0, .int w_22m1, .int w_22m2, .int w_22m3, .int w_22m4])), (ta, .inl (cI, 6, .inl fta)), (tc, .inl (cI, 30, .inl ftc)), (nw, .inr (7, [.ref nwc])), (nwc, .inl (cI, 41, .inl fn)), (t, .inr (8, [.int t0, .int t1, .int t2, .int t3, .int t4, .ref ta, .ref tb, .ref tc, .ref td, .ref te]))] H → va_D A [(h, .inr (9, [.ref x, .int q1, .int q2, .ref rd, .ref t, .ref d, .ref nw, .ref ps, .ref im, .ref is_, .int q10, .ref bk, .int q12, .ref qr, .ref pr, .ref cv, .ref ft])), (qr, .inr (4, [.int w_22m0, .int w_22m1, .int w_22m2, .int w_22m3, .int w_22m4])), (ta, .inl (cI, 6, .inl fta)), (tc, .inl (cI, 30, .inl ftc)), (nw, .inr (7, [.ref nwc])), (nwc, .inl (cI, 41, .inl fn)), (t, .inr (8, [.int t0, .int t1, .int t2, .int t3, .int t4, .ref ta, .ref tb, .ref tc, .ref td, .ref te]))] → va_S A s.heap H locs → lv_has ls 8 [(6, .int w_22l6), (5, .int w_22l5), (4, .int w_22l4), (3, .int w_22l3), (0, .ref h), (1, .int b_), (2, .int w_)] → ((t2 : Int32).toInt - (w_22l6 : Int32).toInt).toNat < n_w_22 → (match (f_e_hire_x9_37 q1 q2 q10 q12 k0 k1 k2 k3 k4 t0 t1 t2 t3 t4 fta ftc fn b_ w_ n_w_22 w_22l6 w_22l5 w_22l4 w_22l3 w_22m0 w_22m1 w_22m2 w_22m3 w_22m4) with | (w_22l6, w_22l5, w_22l4, w_22l3, w_22m0, w_22m1, w_22m2, w_22m3, w_22m4) => (if w_ = 0 then (w_22l3, w_22m0, w_22m1, w_22m2, w_22m3, w_22m4) else (if w_22l5 = (-1) then (w_22l4, w_22m0, w_22m1, w_22m2, w_22m3, w_22m4) else (w_22l5, w_22m0, w_22m1, w_22m2, w_22m3, w_22m4)))) = RES → W p l e rm_e_hire_x9 s m args below meth c H locs 0 0 Q (F0 m 37 ls []) := by
          intro n_w_22
          induction n_w_22 with
          | zero => intro w_22l6 w_22l5 w_22l4 w_22l3 w_22m0 w_22m1 w_22m2 w_22m3 w_22m4 H locs ls hP hD hS hl hm; exact absurd hm (Nat.not_lt_zero _)
          | succ n_w_22 ih_w_22 =>
            intro w_22l6 w_22l5 w_22l4 w_22l3 w_22m0 w_22m1 w_22m2 w_22m3 w_22m4 H locs ls hP hD hS hl hm hE
            rw [f_e_hire_x9_37_s] at hE
            refine lv_iload hx hb dX9_hire_37 (lv_at hl 0 rfl) ?_
            refine lv_aload_n hx hb dX9_hire_39 rfl (lv_at hl 4 rfl) ?_
            refine va_get (D := D) (ci := 9) (v := .ref t) (C := RX9) (T := TX9) (N := 17) hx hb hts iX9 hown hK hP 0 rfl rfl 4 (Nat.le_of_ble_eq_true rfl) (hts _ wd_89) (fun _ h9 => h9) rfl dX9_hire_40 ?_
            refine va_get (D := D) (ci := 8) (v := .int t2) (C := RX8) (T := TX8) (N := 10) hx hb hts iX8 hown hK hP 6 rfl rfl 2 (Nat.le_of_ble_eq_true rfl) (hts _ wd_373) (fun _ h9 => h9) rfl dX9_hire_43 ?_
            refine lv_icmp_ge (tgt := 116) hx hb dX9_hire_46 rfl (fun c_25 => ?_) (fun c_25 => ?_)
            · rw [if_pos c_25] at hE
              exact ex_37_w_22 w_22l6 w_22l5 w_22l4 w_22l3 w_22m0 w_22m1 w_22m2 w_22m3 w_22m4 _ _ ls hP hD hS (lv_sub hl [0, 1, 2, 3, 4, 5, 6] rfl) hE
            · rw [if_neg c_25] at hE
              refine lv_aload_n hx hb dX9_hire_49 rfl (lv_at hl 4 rfl) ?_
              refine lv_iload hx hb dX9_hire_50 (lv_at hl 0 rfl) ?_
              refine lv_iload_n hx hb dX9_hire_52 rfl (lv_at hl 5 rfl) ?_
              refine cVi (wr := []) (rest := []) (e_costFor_x9 h x rd t d nw ps im is_ bk qr pr cv ft ta tb tc td te nwc q1 q2 q10 q12 w_22m0 w_22m1 w_22m2 w_22m3 w_22m4 t0 t1 t2 t3 t4 fta ftc fn w_22l6 b_) okV_X9_costFor wd_413 hx hb hml hown hts hK hP hD hS hA hN hl.1 [0, 1, 6, 2, 3, 4, 5] [] rfl rfl rfl rfl (of_decide_eq_true rfl) rfl rfl rfl (Nat.le_of_ble_eq_true rfl) (Nat.le_of_ble_eq_true rfl) (Nat.le_of_ble_eq_true rfl) (Nat.le_of_ble_eq_true rfl) (Nat.le_of_ble_eq_true rfl) dX9_hire_53 (fun r_27 u_26 H locs hw_u_26 hP hD hS => ?_)
              obtain ⟨o_28, o_29, o_30, o_31, o_32⟩ := u_26
              replace hw_u_26 : (r_27, o_28, o_29, o_30, o_31, o_32) = (f_e_costFor_x9 q1 q2 q10 q12 w_22m0 w_22m1 w_22m2 w_22m3 w_22m4 t0 t1 t2 t3 t4 fta ftc fn w_22l6 b_) := hw_u_26
              rw [← hw_u_26] at hE
              replace hE : (match (if r_27 = (-1) then (f_e_hire_x9_37 q1 q2 q10 q12 k0 k1 k2 k3 k4 t0 t1 t2 t3 t4 fta ftc fn b_ w_ n_w_22 (w_22l6 + 1) w_22l5 w_22l4 w_22l3 o_28 o_29 o_30 o_31 o_32) else (if w_22l3 = (-1) then (f_e_hire_x9_37 q1 q2 q10 q12 k0 k1 k2 k3 k4 t0 t1 t2 t3 t4 fta ftc fn b_ w_ n_w_22 (w_22l6 + 1) w_22l4 r_27 w_22l6 o_28 o_29 o_30 o_31 o_32) else (if w_22l4 ≤ r_27 then (if w_22l5 = (-1) then (f_e_hire_x9_37 q1 q2 q10 q12 k0 k1 k2 k3 k4 t0 t1 t2 t3 t4 fta ftc fn b_ w_ n_w_22 (w_22l6 + 1) r_27 w_22l4 w_22l3 o_28 o_29 o_30 o_31 o_32) else (if w_22l5 ≤ r_27 then (f_e_hire_x9_37 q1 q2 q10 q12 k0 k1 k2 k3 k4 t0 t1 t2 t3 t4 fta ftc fn b_ w_ n_w_22 (w_22l6 + 1) w_22l5 w_22l4 w_22l3 o_28 o_29 o_30 o_31 o_32) else (f_e_hire_x9_37 q1 q2 q10 q12 k0 k1 k2 k3 k4 t0 t1 t2 t3 t4 fta ftc fn b_ w_ n_w_22 (w_22l6 + 1) r_27 w_22l4 w_22l3 o_28 o_29 o_30 o_31 o_32))) else (f_e_hire_x9_37 q1 q2 q10 q12 k0 k1 k2 k3 k4 t0 t1 t2 t3 t4 fta ftc fn b_ w_ n_w_22 (w_22l6 + 1) w_22l4 r_27 w_22l6 o_28 o_29 o_30 o_31 o_32)))) with | (w_22l6, w_22l5, w_22l4, w_22l3, w_22m0, w_22m1, w_22m2, w_22m3, w_22m4) => (if w_ = 0 then (w_22l3, w_22m0, w_22m1, w_22m2, w_22m3, w_22m4) else (if w_22l5 = (-1) then (w_22l4, w_22m0, w_22m1, w_22m2, w_22m3, w_22m4) else (w_22l5, w_22m0, w_22m1, w_22m2, w_22m3, w_22m4)))) = RES := hE
              have hP : va_P D classes [(h, .inr (9, [.ref x, .int q1, .int q2, .ref rd, .ref t, .ref d, .ref nw, .ref ps, .ref im, .ref is_, .int q10, .ref bk, .int q12, .ref qr, .ref pr, .ref cv, .ref ft])), (qr, .inr (4, [.int o_28, .int o_29, .int o_30, .int o_31, .int o_32])), (t, .inr (8, [.int t0, .int t1, .int t2, .int t3, .int t4, .ref ta, .ref tb, .ref tc, .ref td, .ref te])), (ta, .inl (cI, 6, .inl fta)), (tc, .inl (cI, 30, .inl ftc)), (nw, .inr (7, [.ref nwc])), (nwc, .inl (cI, 41, .inl fn))] H := hP
              have hD : va_D A [(h, .inr (9, [.ref x, .int q1, .int q2, .ref rd, .ref t, .ref d, .ref nw, .ref ps, .ref im, .ref is_, .int q10, .ref bk, .int q12, .ref qr, .ref pr, .ref cv, .ref ft])), (qr, .inr (4, [.int o_28, .int o_29, .int o_30, .int o_31, .int o_32])), (t, .inr (8, [.int t0, .int t1, .int t2, .int t3, .int t4, .ref ta, .ref tb, .ref tc, .ref td, .ref te])), (ta, .inl (cI, 6, .inl fta)), (tc, .inl (cI, 30, .inl ftc)), (nw, .inr (7, [.ref nwc])), (nwc, .inl (cI, 41, .inl fn))] := hD
              refine lv_istore (lv' := [(7, .int r_27), (6, .int w_22l6), (5, .int w_22l5), (4, .int w_22l4), (3, .int w_22l3), (0, .ref h), (1, .int b_), (2, .int w_)]) hx hb dX9_hire_56 hl (Nat.le_of_ble_eq_true rfl) rfl (fun ls hl => ?_)
              refine lv_iload hx hb dX9_hire_58 (lv_at hl 0 rfl) ?_
              refine lv_iconst (v := (-1)) hx hb dX9_hire_60 rfl ?_
              refine lv_icmp_ne (tgt := 67) hx hb dX9_hire_61 rfl (fun c_33 => ?_) (fun c_33 => ?_)
              · rw [if_neg c_33] at hE
                refine lv_iload_n hx hb dX9_hire_67 rfl (lv_at hl 4 rfl) ?_
                refine lv_iconst (v := (-1)) hx hb dX9_hire_68 rfl ?_
                refine lv_icmp_eq (tgt := 79) hx hb dX9_hire_69 rfl (fun c_34 => ?_) (fun c_34 => ?_)
                · rw [if_pos c_34] at hE
                  refine lv_iload hx hb dX9_hire_79 (lv_at hl 3 rfl) ?_
                  refine lv_istore (lv' := [(5, .int w_22l4), (7, .int r_27), (6, .int w_22l6), (4, .int w_22l4), (3, .int w_22l3), (0, .ref h), (1, .int b_), (2, .int w_)]) hx hb dX9_hire_81 hl (Nat.le_of_ble_eq_true rfl) rfl (fun ls hl => ?_)
                  refine lv_iload hx hb dX9_hire_83 (lv_at hl 1 rfl) ?_
                  refine lv_istore (lv' := [(4, .int r_27), (5, .int w_22l4), (7, .int r_27), (6, .int w_22l6), (3, .int w_22l3), (0, .ref h), (1, .int b_), (2, .int w_)]) hx hb dX9_hire_85 hl (Nat.le_of_ble_eq_true rfl) rfl (fun ls hl => ?_)
                  refine lv_iload hx hb dX9_hire_87 (lv_at hl 3 rfl) ?_
                  refine lv_istore_n (lv' := [(3, .int w_22l6), (4, .int r_27), (5, .int w_22l4), (7, .int r_27), (6, .int w_22l6), (0, .ref h), (1, .int b_), (2, .int w_)]) hx hb dX9_hire_89 rfl hl (Nat.le_of_ble_eq_true rfl) rfl (fun ls hl => ?_)
                  refine lv_goto (tgt := 110) hx hb dX9_hire_90 rfl ?_
                  refine lv_iinc (v := (w_22l6 + 1)) (lv' := [(6, .int (w_22l6 + 1)), (3, .int w_22l6), (4, .int r_27), (5, .int w_22l4), (7, .int r_27), (0, .ref h), (1, .int b_), (2, .int w_)]) hx hb dX9_hire_110 hl (k := 4) rfl rfl (Nat.le_of_ble_eq_true rfl) rfl (fun ls hl => ?_)
                  refine lv_goto (tgt := 37) hx hb dX9_hire_113 rfl ?_
                  exact ih_w_22 (w_22l6 + 1) w_22l4 r_27 w_22l6 o_28 o_29 o_30 o_31 o_32 _ _ ls (cutP (isC := [0, 1, 3, 4, 5, 6, 2]) hP rfl) (cutD (isC := [0, 1, 3, 4, 5, 6, 2]) hD rfl rfl) hS (lv_sub hl [0, 3, 2, 1, 5, 6, 7] rfl) (up_step c_25 hm) hE
                · rw [if_neg c_34] at hE
                  refine lv_iload hx hb dX9_hire_72 (lv_at hl 0 rfl) ?_
                  refine lv_iload hx hb dX9_hire_74 (lv_at hl 3 rfl) ?_
                  refine lv_icmp_ge (tgt := 93) hx hb dX9_hire_76 rfl (fun c_35 => ?_) (fun c_35 => ?_)
                  · rw [if_pos c_35] at hE
                    refine lv_iload hx hb dX9_hire_93 (lv_at hl 2 rfl) ?_
                    refine lv_iconst (v := (-1)) hx hb dX9_hire_95 rfl ?_
                    refine lv_icmp_eq (tgt := 106) hx hb dX9_hire_96 rfl (fun c_36 => ?_) (fun c_36 => ?_)
                    · rw [if_pos c_36] at hE
                      refine lv_iload hx hb dX9_hire_106 (lv_at hl 0 rfl) ?_
                      refine lv_istore (lv' := [(5, .int r_27), (7, .int r_27), (6, .int w_22l6), (4, .int w_22l4), (3, .int w_22l3), (0, .ref h), (1, .int b_), (2, .int w_)]) hx hb dX9_hire_108 hl (Nat.le_of_ble_eq_true rfl) rfl (fun ls hl => ?_)
                      refine lv_iinc (v := (w_22l6 + 1)) (lv' := [(6, .int (w_22l6 + 1)), (5, .int r_27), (7, .int r_27), (4, .int w_22l4), (3, .int w_22l3), (0, .ref h), (1, .int b_), (2, .int w_)]) hx hb dX9_hire_110 hl (k := 2) rfl rfl (Nat.le_of_ble_eq_true rfl) rfl (fun ls hl => ?_)
                      refine lv_goto (tgt := 37) hx hb dX9_hire_113 rfl ?_
                      exact ih_w_22 (w_22l6 + 1) r_27 w_22l4 w_22l3 o_28 o_29 o_30 o_31 o_32 _ _ ls (cutP (isC := [0, 1, 3, 4, 5, 6, 2]) hP rfl) (cutD (isC := [0, 1, 3, 4, 5, 6, 2]) hD rfl rfl) hS (lv_sub hl [0, 1, 3, 4, 5, 6, 7] rfl) (up_step c_25 hm) hE
                    · rw [if_neg c_36] at hE
                      refine lv_iload hx hb dX9_hire_99 (lv_at hl 0 rfl) ?_
                      refine lv_iload hx hb dX9_hire_101 (lv_at hl 2 rfl) ?_
                      refine lv_icmp_ge (tgt := 110) hx hb dX9_hire_103 rfl (fun c_37 => ?_) (fun c_37 => ?_)
                      · rw [if_pos c_37] at hE
                        refine lv_iinc (v := (w_22l6 + 1)) (lv' := [(6, .int (w_22l6 + 1)), (7, .int r_27), (5, .int w_22l5), (4, .int w_22l4), (3, .int w_22l3), (0, .ref h), (1, .int b_), (2, .int w_)]) hx hb dX9_hire_110 hl (k := 1) rfl rfl (Nat.le_of_ble_eq_true rfl) rfl (fun ls hl => ?_)
                        refine lv_goto (tgt := 37) hx hb dX9_hire_113 rfl ?_
                        exact ih_w_22 (w_22l6 + 1) w_22l5 w_22l4 w_22l3 o_28 o_29 o_30 o_31 o_32 _ _ ls (cutP (isC := [0, 1, 3, 4, 5, 6, 2]) hP rfl) (cutD (isC := [0, 1, 3, 4, 5, 6, 2]) hD rfl rfl) hS (lv_sub hl [0, 2, 3, 4, 5, 6, 7] rfl) (up_step c_25 hm) hE
                      · rw [if_neg c_37] at hE
                        refine lv_iload hx hb dX9_hire_106 (lv_at hl 0 rfl) ?_
                        refine lv_istore (lv' := [(5, .int r_27), (7, .int r_27), (6, .int w_22l6), (4, .int w_22l4), (3, .int w_22l3), (0, .ref h), (1, .int b_), (2, .int w_)]) hx hb dX9_hire_108 hl (Nat.le_of_ble_eq_true rfl) rfl (fun ls hl => ?_)
                        refine lv_iinc (v := (w_22l6 + 1)) (lv' := [(6, .int (w_22l6 + 1)), (5, .int r_27), (7, .int r_27), (4, .int w_22l4), (3, .int w_22l3), (0, .ref h), (1, .int b_), (2, .int w_)]) hx hb dX9_hire_110 hl (k := 2) rfl rfl (Nat.le_of_ble_eq_true rfl) rfl (fun ls hl => ?_)
                        refine lv_goto (tgt := 37) hx hb dX9_hire_113 rfl ?_
                        exact ih_w_22 (w_22l6 + 1) r_27 w_22l4 w_22l3 o_28 o_29 o_30 o_31 o_32 _ _ ls (cutP (isC := [0, 1, 3, 4, 5, 6, 2]) hP rfl) (cutD (isC := [0, 1, 3, 4, 5, 6, 2]) hD rfl rfl) hS (lv_sub hl [0, 1, 3, 4, 5, 6, 7] rfl) (up_step c_25 hm) hE
                  · rw [if_neg c_35] at hE
                    refine lv_iload hx hb dX9_hire_79 (lv_at hl 3 rfl) ?_
                    refine lv_istore (lv' := [(5, .int w_22l4), (7, .int r_27), (6, .int w_22l6), (4, .int w_22l4), (3, .int w_22l3), (0, .ref h), (1, .int b_), (2, .int w_)]) hx hb dX9_hire_81 hl (Nat.le_of_ble_eq_true rfl) rfl (fun ls hl => ?_)
                    refine lv_iload hx hb dX9_hire_83 (lv_at hl 1 rfl) ?_
                    refine lv_istore (lv' := [(4, .int r_27), (5, .int w_22l4), (7, .int r_27), (6, .int w_22l6), (3, .int w_22l3), (0, .ref h), (1, .int b_), (2, .int w_)]) hx hb dX9_hire_85 hl (Nat.le_of_ble_eq_true rfl) rfl (fun ls hl => ?_)
                    refine lv_iload hx hb dX9_hire_87 (lv_at hl 3 rfl) ?_
                    refine lv_istore_n (lv' := [(3, .int w_22l6), (4, .int r_27), (5, .int w_22l4), (7, .int r_27), (6, .int w_22l6), (0, .ref h), (1, .int b_), (2, .int w_)]) hx hb dX9_hire_89 rfl hl (Nat.le_of_ble_eq_true rfl) rfl (fun ls hl => ?_)
                    refine lv_goto (tgt := 110) hx hb dX9_hire_90 rfl ?_
                    refine lv_iinc (v := (w_22l6 + 1)) (lv' := [(6, .int (w_22l6 + 1)), (3, .int w_22l6), (4, .int r_27), (5, .int w_22l4), (7, .int r_27), (0, .ref h), (1, .int b_), (2, .int w_)]) hx hb dX9_hire_110 hl (k := 4) rfl rfl (Nat.le_of_ble_eq_true rfl) rfl (fun ls hl => ?_)
                    refine lv_goto (tgt := 37) hx hb dX9_hire_113 rfl ?_
                    exact ih_w_22 (w_22l6 + 1) w_22l4 r_27 w_22l6 o_28 o_29 o_30 o_31 o_32 _ _ ls (cutP (isC := [0, 1, 3, 4, 5, 6, 2]) hP rfl) (cutD (isC := [0, 1, 3, 4, 5, 6, 2]) hD rfl rfl) hS (lv_sub hl [0, 3, 2, 1, 5, 6, 7] rfl) (up_step c_25 hm) hE
              · rw [if_pos c_33] at hE
                subst c_33
                refine lv_goto (tgt := 110) hx hb dX9_hire_64 rfl ?_
                refine lv_iinc (v := (w_22l6 + 1)) (lv' := [(6, .int (w_22l6 + 1)), (7, .int (-1)), (5, .int w_22l5), (4, .int w_22l4), (3, .int w_22l3), (0, .ref h), (1, .int b_), (2, .int w_)]) hx hb dX9_hire_110 hl (k := 1) rfl rfl (Nat.le_of_ble_eq_true rfl) rfl (fun ls hl => ?_)
                refine lv_goto (tgt := 37) hx hb dX9_hire_113 rfl ?_
                exact ih_w_22 (w_22l6 + 1) w_22l5 w_22l4 w_22l3 o_28 o_29 o_30 o_31 o_32 _ _ ls (cutP (isC := [0, 1, 3, 4, 5, 6, 2]) hP rfl) (cutD (isC := [0, 1, 3, 4, 5, 6, 2]) hD rfl rfl) hS (lv_sub hl [0, 2, 3, 4, 5, 6, 7] rfl) (up_step c_25 hm) hE
        exact lp_37_w_22 (((t2 : Int32).toInt - (0 : Int32).toInt).toNat + 1) 0 (-1) (-1) (-1) k0 k1 k2 k3 k4 _ _ ls hP hD hS hl (Nat.lt_succ_self _) hE
      · rw [if_neg c_21] at hE
        refine lv_ldc (v := (-1000000002)) hx hb hown (hts _ wd_339) dX9_hire_23 ?_
        exact hret (-1000000002) (k0, k1, k2, k3, k4) _ _ _ _ dX9_hire_25 rfl hE (cutP (isC := [0, 1, 6, 2, 3, 4, 5]) hP rfl) (cutD (isC := [0, 1, 6, 2, 3, 4, 5]) hD rfl rfl) hS
  · rw [if_pos c_3] at hE
    refine lv_ldc (v := (-1000000001)) hx hb hown (hts _ wd_346) dX9_hire_11 ?_
    exact hret (-1000000001) (k0, k1, k2, k3, k4) _ _ _ _ dX9_hire_13 rfl hE (cutP (isC := [0, 1, 6, 2, 3, 4, 5]) hP rfl) (cutD (isC := [0, 1, 6, 2, 3, 4, 5]) hD rfl rfl) hS
noncomputable def f_e_midstream_x9_62 (q1 : Int32) (q2 : Int32) (q10 : Int32) (q12 : Int32) (t0 : Int32) (t1 : Int32) (t2 : Int32) (t3 : Int32) (t4 : Int32) (fn : Nat → Int32) (c_ : Int32) (n_ : Int32) (q_ : Int32) (n : Nat) : Int32 → Int64 → Int32 × Int64 := Nat.rec (motive := fun _ => Int32 → Int64 → Int32 × Int64) (fun w_10l7 w_10l5 => (w_10l7, w_10l5)) (fun n ih w_10l7 w_10l5 => (if n_ ≤ w_10l7 then (w_10l7, w_10l5) else (ih (w_10l7 + 1) ((w_10l5 * ((1000 - (if 0 < (q_ - (f_e_grievanceOf fn c_)) then (q_ - (f_e_grievanceOf fn c_)) else 0))).toInt64) / 1000)))) n
theorem f_e_midstream_x9_62_s (q1 : Int32) (q2 : Int32) (q10 : Int32) (q12 : Int32) (t0 : Int32) (t1 : Int32) (t2 : Int32) (t3 : Int32) (t4 : Int32) (fn : Nat → Int32) (c_ : Int32) (n_ : Int32) (q_ : Int32) (n : Nat) (w_10l7 : Int32) (w_10l5 : Int64) : f_e_midstream_x9_62 q1 q2 q10 q12 t0 t1 t2 t3 t4 fn c_ n_ q_ (n + 1) w_10l7 w_10l5 = (if n_ ≤ w_10l7 then (w_10l7, w_10l5) else (f_e_midstream_x9_62 q1 q2 q10 q12 t0 t1 t2 t3 t4 fn c_ n_ q_ n (w_10l7 + 1) ((w_10l5 * ((1000 - (if 0 < (q_ - (f_e_grievanceOf fn c_)) then (q_ - (f_e_grievanceOf fn c_)) else 0))).toInt64) / 1000))) := rfl
noncomputable def f_e_midstream_x9 (q1 : Int32) (q2 : Int32) (q10 : Int32) (q12 : Int32) (t0 : Int32) (t1 : Int32) (t2 : Int32) (t3 : Int32) (t4 : Int32) (fn : Nat → Int32) (c_ : Int32) (n_ : Int32) (q_ : Int32) : Int32 := (if (f_e_hasCouple t0 t1 t2 t3 t4 c_) = 0 then (-1000000001) else (if n_ < 0 then (-1000000002) else (if 99 < n_ then (-1000000002) else (if q_ < 0 then (-1000000002) else (if q_ ≤ 1000 then (match (f_e_midstream_x9_62 q1 q2 q10 q12 t0 t1 t2 t3 t4 fn c_ n_ q_ (((n_ : Int32).toInt - (0 : Int32).toInt).toNat + 1) 0 1000000000) with | (w_10l7, w_10l5) => ((w_10l5).toInt32)) else (-1000000002))))))
def rm_e_midstream_x9 : Room := { frames := 2, cells := 0, slots := 0, locals := 42 }
set_option maxHeartbeats 4000000 in
set_option maxRecDepth 100000 in
theorem e_midstream_x9 {l : Launch} {D : va_G} {cI cZ : ClassId} {sz : Nat} (h x rd t d nw ps im is_ bk qr pr cv ft ta tb tc td te nwc : Nat) (q1 : Int32) (q2 : Int32) (q10 : Int32) (q12 : Int32) (t0 : Int32) (t1 : Int32) (t2 : Int32) (t3 : Int32) (t4 : Int32) (fn : Nat → Int32) (c_ : Int32) (n_ : Int32) (q_ : Int32) : KI l yX9_midstream cX9_midstream 8 (some .int) rm_e_midstream_x9 D cI cZ [.ref h, .int c_, .int n_, .int q_] sz [(h, .inr (9, [.ref x, .int q1, .int q2, .ref rd, .ref t, .ref d, .ref nw, .ref ps, .ref im, .ref is_, .int q10, .ref bk, .int q12, .ref qr, .ref pr, .ref cv, .ref ft])), (t, .inr (8, [.int t0, .int t1, .int t2, .int t3, .int t4, .ref ta, .ref tb, .ref tc, .ref td, .ref te])), (nw, .inr (7, [.ref nwc])), (nwc, .inl (cI, 41, .inl fn))] (fun (r : Int32) (_ : Unit) => r = f_e_midstream_x9 q1 q2 q10 q12 t0 t1 t2 t3 t4 fn c_ n_ q_) (fun (_ : Unit) => [(h, .inr (9, [.ref x, .int q1, .int q2, .ref rd, .ref t, .ref d, .ref nw, .ref ps, .ref im, .ref is_, .int q10, .ref bk, .int q12, .ref qr, .ref pr, .ref cv, .ref ft])), (t, .inr (8, [.int t0, .int t1, .int t2, .int t3, .int t4, .ref ta, .ref tb, .ref tc, .ref td, .ref te])), (nw, .inr (7, [.ref nwc])), (nwc, .inl (cI, 41, .inl fn))]) := by
  refine KI.go rfl (Nat.le_of_ble_eq_true rfl) ?_
  intro p e s m args below meth c ls A Q hx hb hml hts hown hin hP hK hD hS hA hN hl hret
  have hl : lv_has ls 8 [(0, .ref h), (1, .int c_), (2, .int n_), (3, .int q_)] := hl
  obtain ⟨RES, hE⟩ : ∃ xRES, f_e_midstream_x9 q1 q2 q10 q12 t0 t1 t2 t3 t4 fn c_ n_ q_ = xRES := ⟨_, rfl⟩
  rw [hE] at hret
  rw [f_e_midstream_x9] at hE
  refine lv_aload_n hx hb dX9_midstream_0 rfl (lv_at hl 0 rfl) ?_
  refine va_get (D := D) (ci := 9) (v := .ref t) (C := RX9) (T := TX9) (N := 17) hx hb hts iX9 hown hK hP 0 rfl rfl 4 (Nat.le_of_ble_eq_true rfl) (hts _ wd_89) (fun _ h9 => h9) rfl dX9_midstream_1 ?_
  refine lv_iload_n hx hb dX9_midstream_4 rfl (lv_at hl 1 rfl) ?_
  refine cVi (wr := [(h, .inr (9, [.ref x, .int q1, .int q2, .ref rd, .ref t, .ref d, .ref nw, .ref ps, .ref im, .ref is_, .int q10, .ref bk, .int q12, .ref qr, .ref pr, .ref cv, .ref ft])), (nw, .inr (7, [.ref nwc])), (nwc, .inl (cI, 41, .inl fn))]) (rest := []) (e_hasCouple t ta tb tc td te t0 t1 t2 t3 t4 c_) okV_X8_hasCouple wd_347 hx hb hml hown hts hK hP hD hS hA hN hl.1 [1] [0, 2, 3] rfl rfl rfl rfl (of_decide_eq_true rfl) rfl rfl rfl (Nat.le_of_ble_eq_true rfl) (Nat.le_of_ble_eq_true rfl) (Nat.le_of_ble_eq_true rfl) (Nat.le_of_ble_eq_true rfl) (Nat.le_of_ble_eq_true rfl) dX9_midstream_5 (fun r_2 u_1 H locs hw_u_1 hP hD hS => ?_)
  replace hw_u_1 : r_2 = (f_e_hasCouple t0 t1 t2 t3 t4 c_) := hw_u_1
  rw [hw_u_1]
  clear hw_u_1
  have hP : va_P D classes [(h, .inr (9, [.ref x, .int q1, .int q2, .ref rd, .ref t, .ref d, .ref nw, .ref ps, .ref im, .ref is_, .int q10, .ref bk, .int q12, .ref qr, .ref pr, .ref cv, .ref ft])), (nw, .inr (7, [.ref nwc])), (nwc, .inl (cI, 41, .inl fn)), (t, .inr (8, [.int t0, .int t1, .int t2, .int t3, .int t4, .ref ta, .ref tb, .ref tc, .ref td, .ref te]))] H := hP
  have hD : va_D A [(h, .inr (9, [.ref x, .int q1, .int q2, .ref rd, .ref t, .ref d, .ref nw, .ref ps, .ref im, .ref is_, .int q10, .ref bk, .int q12, .ref qr, .ref pr, .ref cv, .ref ft])), (nw, .inr (7, [.ref nwc])), (nwc, .inl (cI, 41, .inl fn)), (t, .inr (8, [.int t0, .int t1, .int t2, .int t3, .int t4, .ref ta, .ref tb, .ref tc, .ref td, .ref te]))] := hD
  refine lv_if_ne (tgt := 14) hx hb dX9_midstream_8 rfl (fun c_3 => ?_) (fun c_3 => ?_)
  · rw [if_neg c_3] at hE
    refine lv_iload_n hx hb dX9_midstream_14 rfl (lv_at hl 2 rfl) ?_
    refine lv_if_lt (tgt := 35) hx hb dX9_midstream_15 rfl (fun c_4 => ?_) (fun c_4 => ?_)
    · rw [if_pos c_4] at hE
      refine lv_ldc (v := (-1000000002)) hx hb hown (hts _ wd_339) dX9_midstream_35 ?_
      exact hret (-1000000002) () _ _ _ _ dX9_midstream_37 rfl hE (cutP (isC := [0, 3, 1, 2]) hP rfl) (cutD (isC := [0, 3, 1, 2]) hD rfl rfl) hS
    · rw [if_neg c_4] at hE
      refine lv_iload_n hx hb dX9_midstream_18 rfl (lv_at hl 2 rfl) ?_
      refine lv_bipush (v := 99) hx hb dX9_midstream_19 rfl ?_
      refine lv_icmp_gt (tgt := 35) hx hb dX9_midstream_21 rfl (fun c_5 => ?_) (fun c_5 => ?_)
      · rw [if_pos c_5] at hE
        refine lv_ldc (v := (-1000000002)) hx hb hown (hts _ wd_339) dX9_midstream_35 ?_
        exact hret (-1000000002) () _ _ _ _ dX9_midstream_37 rfl hE (cutP (isC := [0, 3, 1, 2]) hP rfl) (cutD (isC := [0, 3, 1, 2]) hD rfl rfl) hS
      · rw [if_neg c_5] at hE
        refine lv_iload_n hx hb dX9_midstream_24 rfl (lv_at hl 3 rfl) ?_
        refine lv_if_lt (tgt := 35) hx hb dX9_midstream_25 rfl (fun c_6 => ?_) (fun c_6 => ?_)
        · rw [if_pos c_6] at hE
          refine lv_ldc (v := (-1000000002)) hx hb hown (hts _ wd_339) dX9_midstream_35 ?_
          exact hret (-1000000002) () _ _ _ _ dX9_midstream_37 rfl hE (cutP (isC := [0, 3, 1, 2]) hP rfl) (cutD (isC := [0, 3, 1, 2]) hD rfl rfl) hS
        · rw [if_neg c_6] at hE
          refine lv_iload_n hx hb dX9_midstream_28 rfl (lv_at hl 3 rfl) ?_
          refine lv_sipush (v := 1000) hx hb dX9_midstream_29 rfl ?_
          refine lv_icmp_le (tgt := 38) hx hb dX9_midstream_32 rfl (fun c_7 => ?_) (fun c_7 => ?_)
          · rw [if_pos c_7] at hE
            refine lv_iconst (v := 0) hx hb dX9_midstream_38 rfl ?_
            refine lv_iload_n hx hb dX9_midstream_39 rfl (lv_at hl 3 rfl) ?_
            refine lv_aload_n hx hb dX9_midstream_40 rfl (lv_at hl 0 rfl) ?_
            refine va_get (D := D) (ci := 9) (v := .ref nw) (C := RX9) (T := TX9) (N := 17) hx hb hts iX9 hown hK hP 0 rfl rfl 6 (Nat.le_of_ble_eq_true rfl) (hts _ wd_96) (fun _ h9 => h9) rfl dX9_midstream_41 ?_
            refine lv_iload_n hx hb dX9_midstream_44 rfl (lv_at hl 1 rfl) ?_
            refine cVi (wr := [(h, .inr (9, [.ref x, .int q1, .int q2, .ref rd, .ref t, .ref d, .ref nw, .ref ps, .ref im, .ref is_, .int q10, .ref bk, .int q12, .ref qr, .ref pr, .ref cv, .ref ft])), (t, .inr (8, [.int t0, .int t1, .int t2, .int t3, .int t4, .ref ta, .ref tb, .ref tc, .ref td, .ref te]))]) (rest := [.int q_, .int 0]) (e_grievanceOf nw nwc fn c_) okV_X7_grievanceOf wd_251 hx hb hml hown hts hK hP hD hS hA hN hl.1 [1, 2] [0, 3] rfl rfl rfl rfl (of_decide_eq_true rfl) rfl rfl rfl (Nat.le_of_ble_eq_true rfl) (Nat.le_of_ble_eq_true rfl) (Nat.le_of_ble_eq_true rfl) (Nat.le_of_ble_eq_true rfl) (Nat.le_of_ble_eq_true rfl) dX9_midstream_45 (fun r_9 u_8 H locs hw_u_8 hP hD hS => ?_)
            replace hw_u_8 : r_9 = (f_e_grievanceOf fn c_) := hw_u_8
            rw [hw_u_8]
            clear hw_u_8
            have hP : va_P D classes [(h, .inr (9, [.ref x, .int q1, .int q2, .ref rd, .ref t, .ref d, .ref nw, .ref ps, .ref im, .ref is_, .int q10, .ref bk, .int q12, .ref qr, .ref pr, .ref cv, .ref ft])), (t, .inr (8, [.int t0, .int t1, .int t2, .int t3, .int t4, .ref ta, .ref tb, .ref tc, .ref td, .ref te])), (nw, .inr (7, [.ref nwc])), (nwc, .inl (cI, 41, .inl fn))] H := hP
            have hD : va_D A [(h, .inr (9, [.ref x, .int q1, .int q2, .ref rd, .ref t, .ref d, .ref nw, .ref ps, .ref im, .ref is_, .int q10, .ref bk, .int q12, .ref qr, .ref pr, .ref cv, .ref ft])), (t, .inr (8, [.int t0, .int t1, .int t2, .int t3, .int t4, .ref ta, .ref tb, .ref tc, .ref td, .ref te])), (nw, .inr (7, [.ref nwc])), (nwc, .inl (cI, 41, .inl fn))] := hD
            refine lv_isub hx hb dX9_midstream_48 ?_
            refine va_mmax hx hb (by rw [hml]; exact hl.1.symm) hown (hts _ wd_411) (hts _ wd_51) (hts _ wd_52) (hts _ wd_53) (Nat.le_of_ble_eq_true rfl) (Nat.le_of_ble_eq_true rfl) (Nat.le_of_ble_eq_true rfl) (Nat.le_of_ble_eq_true rfl) dX9_midstream_49 ?_
            refine lv_istore (lv' := [(4, .int (if 0 < (q_ - (f_e_grievanceOf fn c_)) then (q_ - (f_e_grievanceOf fn c_)) else 0)), (0, .ref h), (1, .int c_), (2, .int n_), (3, .int q_)]) hx hb dX9_midstream_52 hl (Nat.le_of_ble_eq_true rfl) rfl (fun ls hl => ?_)
            refine lv_ldc2 (v := 1000000000) hx hb hown (hts _ wd_417) dX9_midstream_54 ?_
            refine lv_lstore (lv' := [(5, .long 1000000000), (4, .int (if 0 < (q_ - (f_e_grievanceOf fn c_)) then (q_ - (f_e_grievanceOf fn c_)) else 0)), (0, .ref h), (1, .int c_), (2, .int n_), (3, .int q_)]) hx hb dX9_midstream_57 hl (Nat.le_of_ble_eq_true rfl) rfl (fun ls hl => ?_)
            refine lv_iconst (v := 0) hx hb dX9_midstream_59 rfl ?_
            refine lv_istore (lv' := [(7, .int 0), (5, .long 1000000000), (4, .int (if 0 < (q_ - (f_e_grievanceOf fn c_)) then (q_ - (f_e_grievanceOf fn c_)) else 0)), (0, .ref h), (1, .int c_), (2, .int n_), (3, .int q_)]) hx hb dX9_midstream_60 hl (Nat.le_of_ble_eq_true rfl) rfl (fun ls hl => ?_)
            have ex_62_w_10 : ∀ (w_10l7 : Int32) (w_10l5 : Int64) (H : Heap) (locs : List Loc) (ls : Array Slot), va_P D classes [(h, .inr (9, [.ref x, .int q1, .int q2, .ref rd, .ref t, .ref d, .ref nw, .ref ps, .ref im, .ref is_, .int q10, .ref bk, .int q12, .ref qr, .ref pr, .ref cv, .ref ft])), (t, .inr (8, [.int t0, .int t1, .int t2, .int t3, .int t4, .ref ta, .ref tb, .ref tc, .ref td, .ref te])), (nw, .inr (7, [.ref nwc])), (nwc, .inl (cI, 41, .inl fn))] H → va_D A [(h, .inr (9, [.ref x, .int q1, .int q2, .ref rd, .ref t, .ref d, .ref nw, .ref ps, .ref im, .ref is_, .int q10, .ref bk, .int q12, .ref qr, .ref pr, .ref cv, .ref ft])), (t, .inr (8, [.int t0, .int t1, .int t2, .int t3, .int t4, .ref ta, .ref tb, .ref tc, .ref td, .ref te])), (nw, .inr (7, [.ref nwc])), (nwc, .inl (cI, 41, .inl fn))] → va_S A s.heap H locs → lv_has ls 8 [(7, .int w_10l7), (5, .long w_10l5), (4, .int (if 0 < (q_ - (f_e_grievanceOf fn c_)) then (q_ - (f_e_grievanceOf fn c_)) else 0)), (0, .ref h), (1, .int c_), (2, .int n_), (3, .int q_)] → (((w_10l5).toInt32)) = RES → W p l e rm_e_midstream_x9 s m args below meth c H locs 0 0 Q (F0 m 90 ls []) := by
              intro w_10l7 w_10l5 H locs ls hP hD hS hl hE
              refine lv_lload hx hb dX9_midstream_90 (lv_at hl 1 rfl) ?_
              refine lv_l2i (v := (w_10l5).toInt32) hx hb dX9_midstream_92 rfl ?_
              exact hret ((w_10l5).toInt32) () _ _ _ _ dX9_midstream_93 rfl hE hP hD hS
            have lp_62_w_10 : ∀ (n_w_10 : Nat) (w_10l7 : Int32) (w_10l5 : Int64) (H : Heap) (locs : List Loc) (ls : Array Slot), va_P D classes [(h, .inr (9, [.ref x, .int q1, .int q2, .ref rd, .ref t, .ref d, .ref nw, .ref ps, .ref im, .ref is_, .int q10, .ref bk, .int q12, .ref qr, .ref pr, .ref cv, .ref ft])), (t, .inr (8, [.int t0, .int t1, .int t2, .int t3, .int t4, .ref ta, .ref tb, .ref tc, .ref td, .ref te])), (nw, .inr (7, [.ref nwc])), (nwc, .inl (cI, 41, .inl fn))] H → va_D A [(h, .inr (9, [.ref x, .int q1, .int q2, .ref rd, .ref t, .ref d, .ref nw, .ref ps, .ref im, .ref is_, .int q10, .ref bk, .int q12, .ref qr, .ref pr, .ref cv, .ref ft])), (t, .inr (8, [.int t0, .int t1, .int t2, .int t3, .int t4, .ref ta, .ref tb, .ref tc, .ref td, .ref te])), (nw, .inr (7, [.ref nwc])), (nwc, .inl (cI, 41, .inl fn))] → va_S A s.heap H locs → lv_has ls 8 [(7, .int w_10l7), (5, .long w_10l5), (4, .int (if 0 < (q_ - (f_e_grievanceOf fn c_)) then (q_ - (f_e_grievanceOf fn c_)) else 0)), (0, .ref h), (1, .int c_), (2, .int n_), (3, .int q_)] → ((n_ : Int32).toInt - (w_10l7 : Int32).toInt).toNat < n_w_10 → (match (f_e_midstream_x9_62 q1 q2 q10 q12 t0 t1 t2 t3 t4 fn c_ n_ q_ n_w_10 w_10l7 w_10l5) with | (w_10l7, w_10l5) => ((w_10l5).toInt32)) = RES → W p l e rm_e_midstream_x9 s m args below meth c H locs 0 0 Q (F0 m 62 ls []) := by
              intro n_w_10
              induction n_w_10 with
              | zero => intro w_10l7 w_10l5 H locs ls hP hD hS hl hm; exact absurd hm (Nat.not_lt_zero _)
              | succ n_w_10 ih_w_10 =>
                intro w_10l7 w_10l5 H locs ls hP hD hS hl hm hE
                rw [f_e_midstream_x9_62_s] at hE
                refine lv_iload hx hb dX9_midstream_62 (lv_at hl 0 rfl) ?_
                refine lv_iload_n hx hb dX9_midstream_64 rfl (lv_at hl 5 rfl) ?_
                refine lv_icmp_ge (tgt := 90) hx hb dX9_midstream_65 rfl (fun c_11 => ?_) (fun c_11 => ?_)
                · rw [if_pos c_11] at hE
                  exact ex_62_w_10 w_10l7 w_10l5 _ _ ls hP hD hS (lv_sub hl [0, 1, 2, 3, 4, 5, 6] rfl) hE
                · rw [if_neg c_11] at hE
                  refine lv_lload hx hb dX9_midstream_68 (lv_at hl 1 rfl) ?_
                  refine lv_sipush (v := 1000) hx hb dX9_midstream_70 rfl ?_
                  refine lv_iload hx hb dX9_midstream_73 (lv_at hl 2 rfl) ?_
                  refine lv_isub hx hb dX9_midstream_75 ?_
                  refine lv_i2l (v := ((1000 - (if 0 < (q_ - (f_e_grievanceOf fn c_)) then (q_ - (f_e_grievanceOf fn c_)) else 0))).toInt64) hx hb dX9_midstream_76 rfl ?_
                  refine lv_lmul hx hb dX9_midstream_77 ?_
                  refine lv_ldc2 (v := 1000) hx hb hown (hts _ wd_418) dX9_midstream_78 ?_
                  refine lv_ldiv hx hb dX9_midstream_81 (by decide) ?_
                  refine lv_lstore (lv' := [(5, .long (((w_10l5 * ((1000 - (if 0 < (q_ - (f_e_grievanceOf fn c_)) then (q_ - (f_e_grievanceOf fn c_)) else 0))).toInt64) / 1000))), (7, .int w_10l7), (4, .int (if 0 < (q_ - (f_e_grievanceOf fn c_)) then (q_ - (f_e_grievanceOf fn c_)) else 0)), (0, .ref h), (1, .int c_), (2, .int n_), (3, .int q_)]) hx hb dX9_midstream_82 hl (Nat.le_of_ble_eq_true rfl) rfl (fun ls hl => ?_)
                  refine lv_iinc (v := (w_10l7 + 1)) (lv' := [(7, .int (w_10l7 + 1)), (5, .long (((w_10l5 * ((1000 - (if 0 < (q_ - (f_e_grievanceOf fn c_)) then (q_ - (f_e_grievanceOf fn c_)) else 0))).toInt64) / 1000))), (4, .int (if 0 < (q_ - (f_e_grievanceOf fn c_)) then (q_ - (f_e_grievanceOf fn c_)) else 0)), (0, .ref h), (1, .int c_), (2, .int n_), (3, .int q_)]) hx hb dX9_midstream_84 hl (k := 1) rfl rfl (Nat.le_of_ble_eq_true rfl) rfl (fun ls hl => ?_)
                  refine lv_goto (tgt := 62) hx hb dX9_midstream_87 rfl ?_
                  exact ih_w_10 (w_10l7 + 1) ((w_10l5 * ((1000 - (if 0 < (q_ - (f_e_grievanceOf fn c_)) then (q_ - (f_e_grievanceOf fn c_)) else 0))).toInt64) / 1000) _ _ ls hP hD hS (lv_sub hl [0, 1, 2, 3, 4, 5, 6] rfl) (up_step c_11 hm) hE
            exact lp_62_w_10 (((n_ : Int32).toInt - (0 : Int32).toInt).toNat + 1) 0 1000000000 _ _ ls hP hD hS hl (Nat.lt_succ_self _) hE
          · rw [if_neg c_7] at hE
            refine lv_ldc (v := (-1000000002)) hx hb hown (hts _ wd_339) dX9_midstream_35 ?_
            exact hret (-1000000002) () _ _ _ _ dX9_midstream_37 rfl hE (cutP (isC := [0, 3, 1, 2]) hP rfl) (cutD (isC := [0, 3, 1, 2]) hD rfl rfl) hS
  · rw [if_pos c_3] at hE
    refine lv_ldc (v := (-1000000001)) hx hb hown (hts _ wd_346) dX9_midstream_11 ?_
    exact hret (-1000000001) () _ _ _ _ dX9_midstream_13 rfl hE (cutP (isC := [0, 3, 1, 2]) hP rfl) (cutD (isC := [0, 3, 1, 2]) hD rfl rfl) hS
noncomputable def f_e_fleet_x9_29 (q1 : Int32) (q2 : Int32) (q10 : Int32) (q12 : Int32) (t0 : Int32) (t1 : Int32) (t2 : Int32) (t3 : Int32) (t4 : Int32) (fta : Nat → Int32) (fn : Nat → Int32) (n_ : Int32) (n : Nat) : Int32 → Int32 → Int32 × Int32 := Nat.rec (motive := fun _ => Int32 → Int32 → Int32 × Int32) (fun w_5l4 w_5l3 => (w_5l4, w_5l3)) (fun n ih w_5l4 w_5l3 => (if (1 <<< (t2 &&& 31)) ≤ w_5l4 then (w_5l4, w_5l3) else (if w_5l3 = (-1) then (if (w_5l4 &&& (f_e_reconciledSet fn)) = 0 then (if (f_e_grievanceOfSet fn w_5l4) < (n_ * (f_e_needOfAll_x8 t0 t1 t2 t3 t4 fta)) then (ih (w_5l4 + 1) w_5l3) else (ih (w_5l4 + 1) w_5l4)) else (ih (w_5l4 + 1) w_5l3)) else (if (f_e_bitCount_0f7a4_j6 w_5l3) ≤ (f_e_bitCount_0f7a4_j6 w_5l4) then (if (w_5l4 &&& (f_e_reconciledSet fn)) = 0 then (ih (w_5l4 + 1) w_5l3) else (ih (w_5l4 + 1) w_5l3)) else (if (w_5l4 &&& (f_e_reconciledSet fn)) = 0 then (if (f_e_grievanceOfSet fn w_5l4) < (n_ * (f_e_needOfAll_x8 t0 t1 t2 t3 t4 fta)) then (ih (w_5l4 + 1) w_5l3) else (ih (w_5l4 + 1) w_5l4)) else (ih (w_5l4 + 1) w_5l3)))))) n
theorem f_e_fleet_x9_29_s (q1 : Int32) (q2 : Int32) (q10 : Int32) (q12 : Int32) (t0 : Int32) (t1 : Int32) (t2 : Int32) (t3 : Int32) (t4 : Int32) (fta : Nat → Int32) (fn : Nat → Int32) (n_ : Int32) (n : Nat) (w_5l4 : Int32) (w_5l3 : Int32) : f_e_fleet_x9_29 q1 q2 q10 q12 t0 t1 t2 t3 t4 fta fn n_ (n + 1) w_5l4 w_5l3 = (if (1 <<< (t2 &&& 31)) ≤ w_5l4 then (w_5l4, w_5l3) else (if w_5l3 = (-1) then (if (w_5l4 &&& (f_e_reconciledSet fn)) = 0 then (if (f_e_grievanceOfSet fn w_5l4) < (n_ * (f_e_needOfAll_x8 t0 t1 t2 t3 t4 fta)) then (f_e_fleet_x9_29 q1 q2 q10 q12 t0 t1 t2 t3 t4 fta fn n_ n (w_5l4 + 1) w_5l3) else (f_e_fleet_x9_29 q1 q2 q10 q12 t0 t1 t2 t3 t4 fta fn n_ n (w_5l4 + 1) w_5l4)) else (f_e_fleet_x9_29 q1 q2 q10 q12 t0 t1 t2 t3 t4 fta fn n_ n (w_5l4 + 1) w_5l3)) else (if (f_e_bitCount_0f7a4_j6 w_5l3) ≤ (f_e_bitCount_0f7a4_j6 w_5l4) then (if (w_5l4 &&& (f_e_reconciledSet fn)) = 0 then (f_e_fleet_x9_29 q1 q2 q10 q12 t0 t1 t2 t3 t4 fta fn n_ n (w_5l4 + 1) w_5l3) else (f_e_fleet_x9_29 q1 q2 q10 q12 t0 t1 t2 t3 t4 fta fn n_ n (w_5l4 + 1) w_5l3)) else (if (w_5l4 &&& (f_e_reconciledSet fn)) = 0 then (if (f_e_grievanceOfSet fn w_5l4) < (n_ * (f_e_needOfAll_x8 t0 t1 t2 t3 t4 fta)) then (f_e_fleet_x9_29 q1 q2 q10 q12 t0 t1 t2 t3 t4 fta fn n_ n (w_5l4 + 1) w_5l3) else (f_e_fleet_x9_29 q1 q2 q10 q12 t0 t1 t2 t3 t4 fta fn n_ n (w_5l4 + 1) w_5l4)) else (f_e_fleet_x9_29 q1 q2 q10 q12 t0 t1 t2 t3 t4 fta fn n_ n (w_5l4 + 1) w_5l3))))) := rfl
noncomputable def f_e_fleet_x9 (q1 : Int32) (q2 : Int32) (q10 : Int32) (q12 : Int32) (t0 : Int32) (t1 : Int32) (t2 : Int32) (t3 : Int32) (t4 : Int32) (fta : Nat → Int32) (fn : Nat → Int32) (n_ : Int32) : Int32 := (if n_ < 1 then (-1000000002) else (if n_ ≤ 9 then (match (f_e_fleet_x9_29 q1 q2 q10 q12 t0 t1 t2 t3 t4 fta fn n_ ((((1 <<< (t2 &&& 31)) : Int32).toInt - (0 : Int32).toInt).toNat + 1) 0 (-1)) with | (w_5l4, w_5l3) => w_5l3) else (-1000000002)))
def rm_e_fleet_x9 : Room := { frames := 3, cells := 0, slots := 0, locals := 65 }
set_option maxHeartbeats 4000000 in
set_option maxRecDepth 100000 in
theorem e_fleet_x9 {l : Launch} {D : va_G} {cI cZ : ClassId} {sz : Nat} (h x rd t d nw ps im is_ bk qr pr cv ft ta tb tc td te nwc : Nat) (q1 : Int32) (q2 : Int32) (q10 : Int32) (q12 : Int32) (t0 : Int32) (t1 : Int32) (t2 : Int32) (t3 : Int32) (t4 : Int32) (fta : Nat → Int32) (fn : Nat → Int32) (n_ : Int32) : KI l yX9_fleet cX9_fleet 7 (some .int) rm_e_fleet_x9 D cI cZ [.ref h, .int n_] sz [(h, .inr (9, [.ref x, .int q1, .int q2, .ref rd, .ref t, .ref d, .ref nw, .ref ps, .ref im, .ref is_, .int q10, .ref bk, .int q12, .ref qr, .ref pr, .ref cv, .ref ft])), (t, .inr (8, [.int t0, .int t1, .int t2, .int t3, .int t4, .ref ta, .ref tb, .ref tc, .ref td, .ref te])), (ta, .inl (cI, 6, .inl fta)), (nw, .inr (7, [.ref nwc])), (nwc, .inl (cI, 41, .inl fn))] (fun (r : Int32) (_ : Unit) => r = f_e_fleet_x9 q1 q2 q10 q12 t0 t1 t2 t3 t4 fta fn n_) (fun (_ : Unit) => [(h, .inr (9, [.ref x, .int q1, .int q2, .ref rd, .ref t, .ref d, .ref nw, .ref ps, .ref im, .ref is_, .int q10, .ref bk, .int q12, .ref qr, .ref pr, .ref cv, .ref ft])), (t, .inr (8, [.int t0, .int t1, .int t2, .int t3, .int t4, .ref ta, .ref tb, .ref tc, .ref td, .ref te])), (ta, .inl (cI, 6, .inl fta)), (nw, .inr (7, [.ref nwc])), (nwc, .inl (cI, 41, .inl fn))]) := by
  refine KI.go rfl (Nat.le_of_ble_eq_true rfl) ?_
  intro p e s m args below meth c ls A Q hx hb hml hts hown hin hP hK hD hS hA hN hl hret
  have hl : lv_has ls 7 [(0, .ref h), (1, .int n_)] := hl
  obtain ⟨RES, hE⟩ : ∃ xRES, f_e_fleet_x9 q1 q2 q10 q12 t0 t1 t2 t3 t4 fta fn n_ = xRES := ⟨_, rfl⟩
  rw [hE] at hret
  rw [f_e_fleet_x9] at hE
  refine lv_iload_n hx hb dX9_fleet_0 rfl (lv_at hl 1 rfl) ?_
  refine lv_iconst (v := 1) hx hb dX9_fleet_1 rfl ?_
  refine lv_icmp_lt (tgt := 11) hx hb dX9_fleet_2 rfl (fun c_1 => ?_) (fun c_1 => ?_)
  · rw [if_pos c_1] at hE
    refine lv_ldc (v := (-1000000002)) hx hb hown (hts _ wd_339) dX9_fleet_11 ?_
    exact hret (-1000000002) () _ _ _ _ dX9_fleet_13 rfl hE hP hD hS
  · rw [if_neg c_1] at hE
    refine lv_iload_n hx hb dX9_fleet_5 rfl (lv_at hl 1 rfl) ?_
    refine lv_bipush (v := 9) hx hb dX9_fleet_6 rfl ?_
    refine lv_icmp_le (tgt := 14) hx hb dX9_fleet_8 rfl (fun c_2 => ?_) (fun c_2 => ?_)
    · rw [if_pos c_2] at hE
      refine lv_iload_n hx hb dX9_fleet_14 rfl (lv_at hl 1 rfl) ?_
      refine lv_aload_n hx hb dX9_fleet_15 rfl (lv_at hl 0 rfl) ?_
      refine va_get (D := D) (ci := 9) (v := .ref t) (C := RX9) (T := TX9) (N := 17) hx hb hts iX9 hown hK hP 0 rfl rfl 4 (Nat.le_of_ble_eq_true rfl) (hts _ wd_89) (fun _ h9 => h9) rfl dX9_fleet_16 ?_
      refine cVi (wr := [(h, .inr (9, [.ref x, .int q1, .int q2, .ref rd, .ref t, .ref d, .ref nw, .ref ps, .ref im, .ref is_, .int q10, .ref bk, .int q12, .ref qr, .ref pr, .ref cv, .ref ft])), (nw, .inr (7, [.ref nwc])), (nwc, .inl (cI, 41, .inl fn))]) (rest := [.int n_]) (e_needOfAll_x8 t ta tb tc td te t0 t1 t2 t3 t4 fta) okV_X8_needOfAll wd_419 hx hb hml hown hts hK hP hD hS hA hN hl.1 [1, 2] [0, 3, 4] rfl rfl rfl rfl (of_decide_eq_true rfl) rfl rfl rfl (Nat.le_of_ble_eq_true rfl) (Nat.le_of_ble_eq_true rfl) (Nat.le_of_ble_eq_true rfl) (Nat.le_of_ble_eq_true rfl) (Nat.le_of_ble_eq_true rfl) dX9_fleet_19 (fun r_4 u_3 H locs hw_u_3 hP hD hS => ?_)
      replace hw_u_3 : r_4 = (f_e_needOfAll_x8 t0 t1 t2 t3 t4 fta) := hw_u_3
      rw [hw_u_3]
      clear hw_u_3
      have hP : va_P D classes [(h, .inr (9, [.ref x, .int q1, .int q2, .ref rd, .ref t, .ref d, .ref nw, .ref ps, .ref im, .ref is_, .int q10, .ref bk, .int q12, .ref qr, .ref pr, .ref cv, .ref ft])), (nw, .inr (7, [.ref nwc])), (nwc, .inl (cI, 41, .inl fn)), (t, .inr (8, [.int t0, .int t1, .int t2, .int t3, .int t4, .ref ta, .ref tb, .ref tc, .ref td, .ref te])), (ta, .inl (cI, 6, .inl fta))] H := hP
      have hD : va_D A [(h, .inr (9, [.ref x, .int q1, .int q2, .ref rd, .ref t, .ref d, .ref nw, .ref ps, .ref im, .ref is_, .int q10, .ref bk, .int q12, .ref qr, .ref pr, .ref cv, .ref ft])), (nw, .inr (7, [.ref nwc])), (nwc, .inl (cI, 41, .inl fn)), (t, .inr (8, [.int t0, .int t1, .int t2, .int t3, .int t4, .ref ta, .ref tb, .ref tc, .ref td, .ref te])), (ta, .inl (cI, 6, .inl fta))] := hD
      refine lv_imul hx hb dX9_fleet_22 ?_
      refine lv_istore_n (lv' := [(2, .int (n_ * (f_e_needOfAll_x8 t0 t1 t2 t3 t4 fta))), (0, .ref h), (1, .int n_)]) hx hb dX9_fleet_23 rfl hl (Nat.le_of_ble_eq_true rfl) rfl (fun ls hl => ?_)
      refine lv_iconst (v := (-1)) hx hb dX9_fleet_24 rfl ?_
      refine lv_istore_n (lv' := [(3, .int (-1)), (2, .int (n_ * (f_e_needOfAll_x8 t0 t1 t2 t3 t4 fta))), (0, .ref h), (1, .int n_)]) hx hb dX9_fleet_25 rfl hl (Nat.le_of_ble_eq_true rfl) rfl (fun ls hl => ?_)
      refine lv_iconst (v := 0) hx hb dX9_fleet_26 rfl ?_
      refine lv_istore (lv' := [(4, .int 0), (3, .int (-1)), (2, .int (n_ * (f_e_needOfAll_x8 t0 t1 t2 t3 t4 fta))), (0, .ref h), (1, .int n_)]) hx hb dX9_fleet_27 hl (Nat.le_of_ble_eq_true rfl) rfl (fun ls hl => ?_)
      have ex_29_w_5 : ∀ (w_5l4 : Int32) (w_5l3 : Int32) (H : Heap) (locs : List Loc) (ls : Array Slot), va_P D classes [(h, .inr (9, [.ref x, .int q1, .int q2, .ref rd, .ref t, .ref d, .ref nw, .ref ps, .ref im, .ref is_, .int q10, .ref bk, .int q12, .ref qr, .ref pr, .ref cv, .ref ft])), (nw, .inr (7, [.ref nwc])), (nwc, .inl (cI, 41, .inl fn)), (t, .inr (8, [.int t0, .int t1, .int t2, .int t3, .int t4, .ref ta, .ref tb, .ref tc, .ref td, .ref te])), (ta, .inl (cI, 6, .inl fta))] H → va_D A [(h, .inr (9, [.ref x, .int q1, .int q2, .ref rd, .ref t, .ref d, .ref nw, .ref ps, .ref im, .ref is_, .int q10, .ref bk, .int q12, .ref qr, .ref pr, .ref cv, .ref ft])), (nw, .inr (7, [.ref nwc])), (nwc, .inl (cI, 41, .inl fn)), (t, .inr (8, [.int t0, .int t1, .int t2, .int t3, .int t4, .ref ta, .ref tb, .ref tc, .ref td, .ref te])), (ta, .inl (cI, 6, .inl fta))] → va_S A s.heap H locs → lv_has ls 7 [(4, .int w_5l4), (3, .int w_5l3), (2, .int (n_ * (f_e_needOfAll_x8 t0 t1 t2 t3 t4 fta))), (0, .ref h), (1, .int n_)] → (w_5l3) = RES → W p l e rm_e_fleet_x9 s m args below meth c H locs 0 0 Q (F0 m 119 ls []) := by
        intro w_5l4 w_5l3 H locs ls hP hD hS hl hE
        refine lv_iload_n hx hb dX9_fleet_119 rfl (lv_at hl 1 rfl) ?_
        exact hret w_5l3 () _ _ _ _ dX9_fleet_120 rfl hE (cutP (isC := [0, 3, 4, 1, 2]) hP rfl) (cutD (isC := [0, 3, 4, 1, 2]) hD rfl rfl) hS
      have lp_29_w_5 : ∀ (n_w_5 : Nat) (w_5l4 : Int32) (w_5l3 : Int32) (H : Heap) (locs : List Loc) (ls : Array Slot), va_P D classes [(h, .inr (9, [.ref x, .int q1, .int q2, .ref rd, .ref t, .ref d, .ref nw, .ref ps, .ref im, .ref is_, .int q10, .ref bk, .int q12, .ref qr, .ref pr, .ref cv, .ref ft])), (nw, .inr (7, [.ref nwc])), (nwc, .inl (cI, 41, .inl fn)), (t, .inr (8, [.int t0, .int t1, .int t2, .int t3, .int t4, .ref ta, .ref tb, .ref tc, .ref td, .ref te])), (ta, .inl (cI, 6, .inl fta))] H → va_D A [(h, .inr (9, [.ref x, .int q1, .int q2, .ref rd, .ref t, .ref d, .ref nw, .ref ps, .ref im, .ref is_, .int q10, .ref bk, .int q12, .ref qr, .ref pr, .ref cv, .ref ft])), (nw, .inr (7, [.ref nwc])), (nwc, .inl (cI, 41, .inl fn)), (t, .inr (8, [.int t0, .int t1, .int t2, .int t3, .int t4, .ref ta, .ref tb, .ref tc, .ref td, .ref te])), (ta, .inl (cI, 6, .inl fta))] → va_S A s.heap H locs → lv_has ls 7 [(4, .int w_5l4), (3, .int w_5l3), (2, .int (n_ * (f_e_needOfAll_x8 t0 t1 t2 t3 t4 fta))), (0, .ref h), (1, .int n_)] → (((1 <<< (t2 &&& 31)) : Int32).toInt - (w_5l4 : Int32).toInt).toNat < n_w_5 → (match (f_e_fleet_x9_29 q1 q2 q10 q12 t0 t1 t2 t3 t4 fta fn n_ n_w_5 w_5l4 w_5l3) with | (w_5l4, w_5l3) => w_5l3) = RES → W p l e rm_e_fleet_x9 s m args below meth c H locs 0 0 Q (F0 m 29 ls []) := by
        intro n_w_5
        induction n_w_5 with
        | zero => intro w_5l4 w_5l3 H locs ls hP hD hS hl hm; exact absurd hm (Nat.not_lt_zero _)
        | succ n_w_5 ih_w_5 =>
          intro w_5l4 w_5l3 H locs ls hP hD hS hl hm hE
          rw [f_e_fleet_x9_29_s] at hE
          refine lv_iload hx hb dX9_fleet_29 (lv_at hl 0 rfl) ?_
          refine lv_iconst (v := 1) hx hb dX9_fleet_31 rfl ?_
          refine lv_aload_n hx hb dX9_fleet_32 rfl (lv_at hl 3 rfl) ?_
          refine va_get (D := D) (ci := 9) (v := .ref t) (C := RX9) (T := TX9) (N := 17) hx hb hts iX9 hown hK hP 0 rfl rfl 4 (Nat.le_of_ble_eq_true rfl) (hts _ wd_89) (fun _ h9 => h9) rfl dX9_fleet_33 ?_
          refine va_get (D := D) (ci := 8) (v := .int t2) (C := RX8) (T := TX8) (N := 10) hx hb hts iX8 hown hK hP 3 rfl rfl 2 (Nat.le_of_ble_eq_true rfl) (hts _ wd_373) (fun _ h9 => h9) rfl dX9_fleet_36 ?_
          refine lv_ishl hx hb dX9_fleet_39 ?_
          refine lv_icmp_ge (tgt := 119) hx hb dX9_fleet_40 rfl (fun c_6 => ?_) (fun c_6 => ?_)
          · rw [if_pos c_6] at hE
            exact ex_29_w_5 w_5l4 w_5l3 _ _ ls hP hD hS (lv_sub hl [0, 1, 2, 3, 4] rfl) hE
          · rw [if_neg c_6] at hE
            refine lv_iload_n hx hb dX9_fleet_43 rfl (lv_at hl 1 rfl) ?_
            refine lv_iconst (v := (-1)) hx hb dX9_fleet_44 rfl ?_
            refine lv_icmp_eq (tgt := 60) hx hb dX9_fleet_45 rfl (fun c_7 => ?_) (fun c_7 => ?_)
            · rw [if_pos c_7] at hE
              refine lv_iconst (v := 1) hx hb dX9_fleet_60 rfl ?_
              refine lv_goto (tgt := 65) hx hb dX9_fleet_61 rfl ?_
              refine lv_istore (lv' := [(5, .int 1), (4, .int w_5l4), (3, .int w_5l3), (2, .int (n_ * (f_e_needOfAll_x8 t0 t1 t2 t3 t4 fta))), (0, .ref h), (1, .int n_)]) hx hb dX9_fleet_65 hl (Nat.le_of_ble_eq_true rfl) rfl (fun ls hl => ?_)
              refine lv_iload hx hb dX9_fleet_67 (lv_at hl 1 rfl) ?_
              refine lv_aload_n hx hb dX9_fleet_69 rfl (lv_at hl 4 rfl) ?_
              refine va_get (D := D) (ci := 9) (v := .ref nw) (C := RX9) (T := TX9) (N := 17) hx hb hts iX9 hown hK hP 0 rfl rfl 6 (Nat.le_of_ble_eq_true rfl) (hts _ wd_96) (fun _ h9 => h9) rfl dX9_fleet_70 ?_
              refine cVi (wr := [(h, .inr (9, [.ref x, .int q1, .int q2, .ref rd, .ref t, .ref d, .ref nw, .ref ps, .ref im, .ref is_, .int q10, .ref bk, .int q12, .ref qr, .ref pr, .ref cv, .ref ft])), (t, .inr (8, [.int t0, .int t1, .int t2, .int t3, .int t4, .ref ta, .ref tb, .ref tc, .ref td, .ref te])), (ta, .inl (cI, 6, .inl fta))]) (rest := [.int w_5l4]) (e_reconciledSet nw nwc fn) okV_X7_reconciledSet wd_376 hx hb hml hown hts hK hP hD hS hA hN hl.1 [1, 2] [0, 3, 4] rfl rfl rfl rfl (of_decide_eq_true rfl) rfl rfl rfl (Nat.le_of_ble_eq_true rfl) (Nat.le_of_ble_eq_true rfl) (Nat.le_of_ble_eq_true rfl) (Nat.le_of_ble_eq_true rfl) (Nat.le_of_ble_eq_true rfl) dX9_fleet_73 (fun r_9 u_8 H locs hw_u_8 hP hD hS => ?_)
              replace hw_u_8 : r_9 = (f_e_reconciledSet fn) := hw_u_8
              rw [hw_u_8]
              clear hw_u_8
              have hP : va_P D classes [(h, .inr (9, [.ref x, .int q1, .int q2, .ref rd, .ref t, .ref d, .ref nw, .ref ps, .ref im, .ref is_, .int q10, .ref bk, .int q12, .ref qr, .ref pr, .ref cv, .ref ft])), (t, .inr (8, [.int t0, .int t1, .int t2, .int t3, .int t4, .ref ta, .ref tb, .ref tc, .ref td, .ref te])), (ta, .inl (cI, 6, .inl fta)), (nw, .inr (7, [.ref nwc])), (nwc, .inl (cI, 41, .inl fn))] H := hP
              have hD : va_D A [(h, .inr (9, [.ref x, .int q1, .int q2, .ref rd, .ref t, .ref d, .ref nw, .ref ps, .ref im, .ref is_, .int q10, .ref bk, .int q12, .ref qr, .ref pr, .ref cv, .ref ft])), (t, .inr (8, [.int t0, .int t1, .int t2, .int t3, .int t4, .ref ta, .ref tb, .ref tc, .ref td, .ref te])), (ta, .inl (cI, 6, .inl fta)), (nw, .inr (7, [.ref nwc])), (nwc, .inl (cI, 41, .inl fn))] := hD
              refine lv_iand hx hb dX9_fleet_76 ?_
              refine lv_if_ne (tgt := 84) hx hb dX9_fleet_77 rfl (fun c_10 => ?_) (fun c_10 => ?_)
              · rw [if_neg c_10] at hE
                refine lv_iconst (v := 0) hx hb dX9_fleet_84 rfl ?_
                refine lv_istore (lv' := [(6, .int 0), (5, .int 1), (4, .int w_5l4), (3, .int w_5l3), (2, .int (n_ * (f_e_needOfAll_x8 t0 t1 t2 t3 t4 fta))), (0, .ref h), (1, .int n_)]) hx hb dX9_fleet_85 hl (Nat.le_of_ble_eq_true rfl) rfl (fun ls hl => ?_)
                refine lv_iload hx hb dX9_fleet_87 (lv_at hl 1 rfl) ?_
                refine lv_if_eq (tgt := 113) hx hb dX9_fleet_89 rfl (fun c_11 => absurd c_11 (by decide +kernel)) (fun c_11 => ?_)
                refine lv_iload hx hb dX9_fleet_92 (lv_at hl 0 rfl) ?_
                refine lv_if_eq (tgt := 113) hx hb dX9_fleet_94 rfl (fun c_12 => ?_) (fun c_12 => absurd (by decide +kernel) c_12)
                refine lv_iinc (v := (w_5l4 + 1)) (lv' := [(4, .int (w_5l4 + 1)), (6, .int 0), (5, .int 1), (3, .int w_5l3), (2, .int (n_ * (f_e_needOfAll_x8 t0 t1 t2 t3 t4 fta))), (0, .ref h), (1, .int n_)]) hx hb dX9_fleet_113 hl (k := 2) rfl rfl (Nat.le_of_ble_eq_true rfl) rfl (fun ls hl => ?_)
                refine lv_goto (tgt := 29) hx hb dX9_fleet_116 rfl ?_
                exact ih_w_5 (w_5l4 + 1) w_5l3 _ _ ls (cutP (isC := [0, 3, 4, 1, 2]) hP rfl) (cutD (isC := [0, 3, 4, 1, 2]) hD rfl rfl) hS (lv_sub hl [0, 3, 4, 5, 6] rfl) (up_step c_6 hm) hE
              · rw [if_pos c_10] at hE
                refine lv_iconst (v := 1) hx hb dX9_fleet_80 rfl ?_
                refine lv_goto (tgt := 85) hx hb dX9_fleet_81 rfl ?_
                refine lv_istore (lv' := [(6, .int 1), (5, .int 1), (4, .int w_5l4), (3, .int w_5l3), (2, .int (n_ * (f_e_needOfAll_x8 t0 t1 t2 t3 t4 fta))), (0, .ref h), (1, .int n_)]) hx hb dX9_fleet_85 hl (Nat.le_of_ble_eq_true rfl) rfl (fun ls hl => ?_)
                refine lv_iload hx hb dX9_fleet_87 (lv_at hl 1 rfl) ?_
                refine lv_if_eq (tgt := 113) hx hb dX9_fleet_89 rfl (fun c_13 => absurd c_13 (by decide +kernel)) (fun c_13 => ?_)
                refine lv_iload hx hb dX9_fleet_92 (lv_at hl 0 rfl) ?_
                refine lv_if_eq (tgt := 113) hx hb dX9_fleet_94 rfl (fun c_14 => absurd c_14 (by decide +kernel)) (fun c_14 => ?_)
                refine lv_aload_n hx hb dX9_fleet_97 rfl (lv_at hl 5 rfl) ?_
                refine va_get (D := D) (ci := 9) (v := .ref nw) (C := RX9) (T := TX9) (N := 17) hx hb hts iX9 hown hK hP 0 rfl rfl 6 (Nat.le_of_ble_eq_true rfl) (hts _ wd_96) (fun _ h9 => h9) rfl dX9_fleet_98 ?_
                refine lv_iload hx hb dX9_fleet_101 (lv_at hl 2 rfl) ?_
                refine cVi (wr := [(h, .inr (9, [.ref x, .int q1, .int q2, .ref rd, .ref t, .ref d, .ref nw, .ref ps, .ref im, .ref is_, .int q10, .ref bk, .int q12, .ref qr, .ref pr, .ref cv, .ref ft])), (t, .inr (8, [.int t0, .int t1, .int t2, .int t3, .int t4, .ref ta, .ref tb, .ref tc, .ref td, .ref te])), (ta, .inl (cI, 6, .inl fta))]) (rest := []) (e_grievanceOfSet nw nwc fn w_5l4) okV_X7_grievanceOfSet wd_423 hx hb hml hown hts hK hP hD hS hA hN hl.1 [3, 4] [0, 1, 2] rfl rfl rfl rfl (of_decide_eq_true rfl) rfl rfl rfl (Nat.le_of_ble_eq_true rfl) (Nat.le_of_ble_eq_true rfl) (Nat.le_of_ble_eq_true rfl) (Nat.le_of_ble_eq_true rfl) (Nat.le_of_ble_eq_true rfl) dX9_fleet_103 (fun r_16 u_15 H locs hw_u_15 hP hD hS => ?_)
                replace hw_u_15 : r_16 = (f_e_grievanceOfSet fn w_5l4) := hw_u_15
                rw [hw_u_15]
                clear hw_u_15
                have hP : va_P D classes [(h, .inr (9, [.ref x, .int q1, .int q2, .ref rd, .ref t, .ref d, .ref nw, .ref ps, .ref im, .ref is_, .int q10, .ref bk, .int q12, .ref qr, .ref pr, .ref cv, .ref ft])), (t, .inr (8, [.int t0, .int t1, .int t2, .int t3, .int t4, .ref ta, .ref tb, .ref tc, .ref td, .ref te])), (ta, .inl (cI, 6, .inl fta)), (nw, .inr (7, [.ref nwc])), (nwc, .inl (cI, 41, .inl fn))] H := hP
                have hD : va_D A [(h, .inr (9, [.ref x, .int q1, .int q2, .ref rd, .ref t, .ref d, .ref nw, .ref ps, .ref im, .ref is_, .int q10, .ref bk, .int q12, .ref qr, .ref pr, .ref cv, .ref ft])), (t, .inr (8, [.int t0, .int t1, .int t2, .int t3, .int t4, .ref ta, .ref tb, .ref tc, .ref td, .ref te])), (ta, .inl (cI, 6, .inl fta)), (nw, .inr (7, [.ref nwc])), (nwc, .inl (cI, 41, .inl fn))] := hD
                refine lv_iload_n hx hb dX9_fleet_106 rfl (lv_at hl 4 rfl) ?_
                refine lv_icmp_lt (tgt := 113) hx hb dX9_fleet_107 rfl (fun c_17 => ?_) (fun c_17 => ?_)
                · rw [if_pos c_17] at hE
                  refine lv_iinc (v := (w_5l4 + 1)) (lv' := [(4, .int (w_5l4 + 1)), (6, .int 1), (5, .int 1), (3, .int w_5l3), (2, .int (n_ * (f_e_needOfAll_x8 t0 t1 t2 t3 t4 fta))), (0, .ref h), (1, .int n_)]) hx hb dX9_fleet_113 hl (k := 2) rfl rfl (Nat.le_of_ble_eq_true rfl) rfl (fun ls hl => ?_)
                  refine lv_goto (tgt := 29) hx hb dX9_fleet_116 rfl ?_
                  exact ih_w_5 (w_5l4 + 1) w_5l3 _ _ ls (cutP (isC := [0, 3, 4, 1, 2]) hP rfl) (cutD (isC := [0, 3, 4, 1, 2]) hD rfl rfl) hS (lv_sub hl [0, 3, 4, 5, 6] rfl) (up_step c_6 hm) hE
                · rw [if_neg c_17] at hE
                  refine lv_iload hx hb dX9_fleet_110 (lv_at hl 2 rfl) ?_
                  refine lv_istore_n (lv' := [(3, .int w_5l4), (6, .int 1), (5, .int 1), (4, .int w_5l4), (2, .int (n_ * (f_e_needOfAll_x8 t0 t1 t2 t3 t4 fta))), (0, .ref h), (1, .int n_)]) hx hb dX9_fleet_112 rfl hl (Nat.le_of_ble_eq_true rfl) rfl (fun ls hl => ?_)
                  refine lv_iinc (v := (w_5l4 + 1)) (lv' := [(4, .int (w_5l4 + 1)), (3, .int w_5l4), (6, .int 1), (5, .int 1), (2, .int (n_ * (f_e_needOfAll_x8 t0 t1 t2 t3 t4 fta))), (0, .ref h), (1, .int n_)]) hx hb dX9_fleet_113 hl (k := 3) rfl rfl (Nat.le_of_ble_eq_true rfl) rfl (fun ls hl => ?_)
                  refine lv_goto (tgt := 29) hx hb dX9_fleet_116 rfl ?_
                  exact ih_w_5 (w_5l4 + 1) w_5l4 _ _ ls (cutP (isC := [0, 3, 4, 1, 2]) hP rfl) (cutD (isC := [0, 3, 4, 1, 2]) hD rfl rfl) hS (lv_sub hl [0, 1, 4, 5, 6] rfl) (up_step c_6 hm) hE
            · rw [if_neg c_7] at hE
              refine lv_iload hx hb dX9_fleet_48 (lv_at hl 0 rfl) ?_
              refine cSi (wr := [(h, .inr (9, [.ref x, .int q1, .int q2, .ref rd, .ref t, .ref d, .ref nw, .ref ps, .ref im, .ref is_, .int q10, .ref bk, .int q12, .ref qr, .ref pr, .ref cv, .ref ft])), (nw, .inr (7, [.ref nwc])), (nwc, .inl (cI, 41, .inl fn)), (t, .inr (8, [.int t0, .int t1, .int t2, .int t3, .int t4, .ref ta, .ref tb, .ref tc, .ref td, .ref te])), (ta, .inl (cI, 6, .inl fta))]) (rest := []) (e_bitCount_0f7a4_j6 w_5l4) okS_J6_bitCount_0f7a4 wd_424 hx hb hml hown hts hK hP hD hS hA hN hl.1 [] [0, 1, 2, 3, 4] rfl rfl rfl rfl (of_decide_eq_true rfl) rfl (Nat.le_of_ble_eq_true rfl) (Nat.le_of_ble_eq_true rfl) (Nat.le_of_ble_eq_true rfl) (Nat.le_of_ble_eq_true rfl) (Nat.le_of_ble_eq_true rfl) dX9_fleet_50 (fun r_19 u_18 H locs hw_u_18 hP hD hS => ?_)
              replace hw_u_18 : r_19 = (f_e_bitCount_0f7a4_j6 w_5l4) := hw_u_18
              rw [hw_u_18]
              clear hw_u_18
              have hP : va_P D classes [(h, .inr (9, [.ref x, .int q1, .int q2, .ref rd, .ref t, .ref d, .ref nw, .ref ps, .ref im, .ref is_, .int q10, .ref bk, .int q12, .ref qr, .ref pr, .ref cv, .ref ft])), (nw, .inr (7, [.ref nwc])), (nwc, .inl (cI, 41, .inl fn)), (t, .inr (8, [.int t0, .int t1, .int t2, .int t3, .int t4, .ref ta, .ref tb, .ref tc, .ref td, .ref te])), (ta, .inl (cI, 6, .inl fta))] H := hP
              have hD : va_D A [(h, .inr (9, [.ref x, .int q1, .int q2, .ref rd, .ref t, .ref d, .ref nw, .ref ps, .ref im, .ref is_, .int q10, .ref bk, .int q12, .ref qr, .ref pr, .ref cv, .ref ft])), (nw, .inr (7, [.ref nwc])), (nwc, .inl (cI, 41, .inl fn)), (t, .inr (8, [.int t0, .int t1, .int t2, .int t3, .int t4, .ref ta, .ref tb, .ref tc, .ref td, .ref te])), (ta, .inl (cI, 6, .inl fta))] := hD
              refine lv_iload_n hx hb dX9_fleet_53 rfl (lv_at hl 1 rfl) ?_
              refine cSi (wr := [(h, .inr (9, [.ref x, .int q1, .int q2, .ref rd, .ref t, .ref d, .ref nw, .ref ps, .ref im, .ref is_, .int q10, .ref bk, .int q12, .ref qr, .ref pr, .ref cv, .ref ft])), (nw, .inr (7, [.ref nwc])), (nwc, .inl (cI, 41, .inl fn)), (t, .inr (8, [.int t0, .int t1, .int t2, .int t3, .int t4, .ref ta, .ref tb, .ref tc, .ref td, .ref te])), (ta, .inl (cI, 6, .inl fta))]) (rest := [.int (f_e_bitCount_0f7a4_j6 w_5l4)]) (e_bitCount_0f7a4_j6 w_5l3) okS_J6_bitCount_0f7a4 wd_424 hx hb hml hown hts hK hP hD hS hA hN hl.1 [] [0, 1, 2, 3, 4] rfl rfl rfl rfl (of_decide_eq_true rfl) rfl (Nat.le_of_ble_eq_true rfl) (Nat.le_of_ble_eq_true rfl) (Nat.le_of_ble_eq_true rfl) (Nat.le_of_ble_eq_true rfl) (Nat.le_of_ble_eq_true rfl) dX9_fleet_54 (fun r_21 u_20 H locs hw_u_20 hP hD hS => ?_)
              replace hw_u_20 : r_21 = (f_e_bitCount_0f7a4_j6 w_5l3) := hw_u_20
              rw [hw_u_20]
              clear hw_u_20
              have hP : va_P D classes [(h, .inr (9, [.ref x, .int q1, .int q2, .ref rd, .ref t, .ref d, .ref nw, .ref ps, .ref im, .ref is_, .int q10, .ref bk, .int q12, .ref qr, .ref pr, .ref cv, .ref ft])), (nw, .inr (7, [.ref nwc])), (nwc, .inl (cI, 41, .inl fn)), (t, .inr (8, [.int t0, .int t1, .int t2, .int t3, .int t4, .ref ta, .ref tb, .ref tc, .ref td, .ref te])), (ta, .inl (cI, 6, .inl fta))] H := hP
              have hD : va_D A [(h, .inr (9, [.ref x, .int q1, .int q2, .ref rd, .ref t, .ref d, .ref nw, .ref ps, .ref im, .ref is_, .int q10, .ref bk, .int q12, .ref qr, .ref pr, .ref cv, .ref ft])), (nw, .inr (7, [.ref nwc])), (nwc, .inl (cI, 41, .inl fn)), (t, .inr (8, [.int t0, .int t1, .int t2, .int t3, .int t4, .ref ta, .ref tb, .ref tc, .ref td, .ref te])), (ta, .inl (cI, 6, .inl fta))] := hD
              refine lv_icmp_ge (tgt := 64) hx hb dX9_fleet_57 rfl (fun c_22 => ?_) (fun c_22 => ?_)
              · rw [if_pos c_22] at hE
                refine lv_iconst (v := 0) hx hb dX9_fleet_64 rfl ?_
                refine lv_istore (lv' := [(5, .int 0), (4, .int w_5l4), (3, .int w_5l3), (2, .int (n_ * (f_e_needOfAll_x8 t0 t1 t2 t3 t4 fta))), (0, .ref h), (1, .int n_)]) hx hb dX9_fleet_65 hl (Nat.le_of_ble_eq_true rfl) rfl (fun ls hl => ?_)
                refine lv_iload hx hb dX9_fleet_67 (lv_at hl 1 rfl) ?_
                refine lv_aload_n hx hb dX9_fleet_69 rfl (lv_at hl 4 rfl) ?_
                refine va_get (D := D) (ci := 9) (v := .ref nw) (C := RX9) (T := TX9) (N := 17) hx hb hts iX9 hown hK hP 0 rfl rfl 6 (Nat.le_of_ble_eq_true rfl) (hts _ wd_96) (fun _ h9 => h9) rfl dX9_fleet_70 ?_
                refine cVi (wr := [(h, .inr (9, [.ref x, .int q1, .int q2, .ref rd, .ref t, .ref d, .ref nw, .ref ps, .ref im, .ref is_, .int q10, .ref bk, .int q12, .ref qr, .ref pr, .ref cv, .ref ft])), (t, .inr (8, [.int t0, .int t1, .int t2, .int t3, .int t4, .ref ta, .ref tb, .ref tc, .ref td, .ref te])), (ta, .inl (cI, 6, .inl fta))]) (rest := [.int w_5l4]) (e_reconciledSet nw nwc fn) okV_X7_reconciledSet wd_376 hx hb hml hown hts hK hP hD hS hA hN hl.1 [1, 2] [0, 3, 4] rfl rfl rfl rfl (of_decide_eq_true rfl) rfl rfl rfl (Nat.le_of_ble_eq_true rfl) (Nat.le_of_ble_eq_true rfl) (Nat.le_of_ble_eq_true rfl) (Nat.le_of_ble_eq_true rfl) (Nat.le_of_ble_eq_true rfl) dX9_fleet_73 (fun r_24 u_23 H locs hw_u_23 hP hD hS => ?_)
                replace hw_u_23 : r_24 = (f_e_reconciledSet fn) := hw_u_23
                rw [hw_u_23]
                clear hw_u_23
                have hP : va_P D classes [(h, .inr (9, [.ref x, .int q1, .int q2, .ref rd, .ref t, .ref d, .ref nw, .ref ps, .ref im, .ref is_, .int q10, .ref bk, .int q12, .ref qr, .ref pr, .ref cv, .ref ft])), (t, .inr (8, [.int t0, .int t1, .int t2, .int t3, .int t4, .ref ta, .ref tb, .ref tc, .ref td, .ref te])), (ta, .inl (cI, 6, .inl fta)), (nw, .inr (7, [.ref nwc])), (nwc, .inl (cI, 41, .inl fn))] H := hP
                have hD : va_D A [(h, .inr (9, [.ref x, .int q1, .int q2, .ref rd, .ref t, .ref d, .ref nw, .ref ps, .ref im, .ref is_, .int q10, .ref bk, .int q12, .ref qr, .ref pr, .ref cv, .ref ft])), (t, .inr (8, [.int t0, .int t1, .int t2, .int t3, .int t4, .ref ta, .ref tb, .ref tc, .ref td, .ref te])), (ta, .inl (cI, 6, .inl fta)), (nw, .inr (7, [.ref nwc])), (nwc, .inl (cI, 41, .inl fn))] := hD
                refine lv_iand hx hb dX9_fleet_76 ?_
                refine lv_if_ne (tgt := 84) hx hb dX9_fleet_77 rfl (fun c_25 => ?_) (fun c_25 => ?_)
                · rw [if_neg c_25] at hE
                  refine lv_iconst (v := 0) hx hb dX9_fleet_84 rfl ?_
                  refine lv_istore (lv' := [(6, .int 0), (5, .int 0), (4, .int w_5l4), (3, .int w_5l3), (2, .int (n_ * (f_e_needOfAll_x8 t0 t1 t2 t3 t4 fta))), (0, .ref h), (1, .int n_)]) hx hb dX9_fleet_85 hl (Nat.le_of_ble_eq_true rfl) rfl (fun ls hl => ?_)
                  refine lv_iload hx hb dX9_fleet_87 (lv_at hl 1 rfl) ?_
                  refine lv_if_eq (tgt := 113) hx hb dX9_fleet_89 rfl (fun c_26 => ?_) (fun c_26 => absurd (by decide +kernel) c_26)
                  refine lv_iinc (v := (w_5l4 + 1)) (lv' := [(4, .int (w_5l4 + 1)), (6, .int 0), (5, .int 0), (3, .int w_5l3), (2, .int (n_ * (f_e_needOfAll_x8 t0 t1 t2 t3 t4 fta))), (0, .ref h), (1, .int n_)]) hx hb dX9_fleet_113 hl (k := 2) rfl rfl (Nat.le_of_ble_eq_true rfl) rfl (fun ls hl => ?_)
                  refine lv_goto (tgt := 29) hx hb dX9_fleet_116 rfl ?_
                  exact ih_w_5 (w_5l4 + 1) w_5l3 _ _ ls (cutP (isC := [0, 3, 4, 1, 2]) hP rfl) (cutD (isC := [0, 3, 4, 1, 2]) hD rfl rfl) hS (lv_sub hl [0, 3, 4, 5, 6] rfl) (up_step c_6 hm) hE
                · rw [if_pos c_25] at hE
                  refine lv_iconst (v := 1) hx hb dX9_fleet_80 rfl ?_
                  refine lv_goto (tgt := 85) hx hb dX9_fleet_81 rfl ?_
                  refine lv_istore (lv' := [(6, .int 1), (5, .int 0), (4, .int w_5l4), (3, .int w_5l3), (2, .int (n_ * (f_e_needOfAll_x8 t0 t1 t2 t3 t4 fta))), (0, .ref h), (1, .int n_)]) hx hb dX9_fleet_85 hl (Nat.le_of_ble_eq_true rfl) rfl (fun ls hl => ?_)
                  refine lv_iload hx hb dX9_fleet_87 (lv_at hl 1 rfl) ?_
                  refine lv_if_eq (tgt := 113) hx hb dX9_fleet_89 rfl (fun c_27 => ?_) (fun c_27 => absurd (by decide +kernel) c_27)
                  refine lv_iinc (v := (w_5l4 + 1)) (lv' := [(4, .int (w_5l4 + 1)), (6, .int 1), (5, .int 0), (3, .int w_5l3), (2, .int (n_ * (f_e_needOfAll_x8 t0 t1 t2 t3 t4 fta))), (0, .ref h), (1, .int n_)]) hx hb dX9_fleet_113 hl (k := 2) rfl rfl (Nat.le_of_ble_eq_true rfl) rfl (fun ls hl => ?_)
                  refine lv_goto (tgt := 29) hx hb dX9_fleet_116 rfl ?_
                  exact ih_w_5 (w_5l4 + 1) w_5l3 _ _ ls (cutP (isC := [0, 3, 4, 1, 2]) hP rfl) (cutD (isC := [0, 3, 4, 1, 2]) hD rfl rfl) hS (lv_sub hl [0, 3, 4, 5, 6] rfl) (up_step c_6 hm) hE
              · rw [if_neg c_22] at hE
                refine lv_iconst (v := 1) hx hb dX9_fleet_60 rfl ?_
                refine lv_goto (tgt := 65) hx hb dX9_fleet_61 rfl ?_
                refine lv_istore (lv' := [(5, .int 1), (4, .int w_5l4), (3, .int w_5l3), (2, .int (n_ * (f_e_needOfAll_x8 t0 t1 t2 t3 t4 fta))), (0, .ref h), (1, .int n_)]) hx hb dX9_fleet_65 hl (Nat.le_of_ble_eq_true rfl) rfl (fun ls hl => ?_)
                refine lv_iload hx hb dX9_fleet_67 (lv_at hl 1 rfl) ?_
                refine lv_aload_n hx hb dX9_fleet_69 rfl (lv_at hl 4 rfl) ?_
                refine va_get (D := D) (ci := 9) (v := .ref nw) (C := RX9) (T := TX9) (N := 17) hx hb hts iX9 hown hK hP 0 rfl rfl 6 (Nat.le_of_ble_eq_true rfl) (hts _ wd_96) (fun _ h9 => h9) rfl dX9_fleet_70 ?_
                refine cVi (wr := [(h, .inr (9, [.ref x, .int q1, .int q2, .ref rd, .ref t, .ref d, .ref nw, .ref ps, .ref im, .ref is_, .int q10, .ref bk, .int q12, .ref qr, .ref pr, .ref cv, .ref ft])), (t, .inr (8, [.int t0, .int t1, .int t2, .int t3, .int t4, .ref ta, .ref tb, .ref tc, .ref td, .ref te])), (ta, .inl (cI, 6, .inl fta))]) (rest := [.int w_5l4]) (e_reconciledSet nw nwc fn) okV_X7_reconciledSet wd_376 hx hb hml hown hts hK hP hD hS hA hN hl.1 [1, 2] [0, 3, 4] rfl rfl rfl rfl (of_decide_eq_true rfl) rfl rfl rfl (Nat.le_of_ble_eq_true rfl) (Nat.le_of_ble_eq_true rfl) (Nat.le_of_ble_eq_true rfl) (Nat.le_of_ble_eq_true rfl) (Nat.le_of_ble_eq_true rfl) dX9_fleet_73 (fun r_29 u_28 H locs hw_u_28 hP hD hS => ?_)
                replace hw_u_28 : r_29 = (f_e_reconciledSet fn) := hw_u_28
                rw [hw_u_28]
                clear hw_u_28
                have hP : va_P D classes [(h, .inr (9, [.ref x, .int q1, .int q2, .ref rd, .ref t, .ref d, .ref nw, .ref ps, .ref im, .ref is_, .int q10, .ref bk, .int q12, .ref qr, .ref pr, .ref cv, .ref ft])), (t, .inr (8, [.int t0, .int t1, .int t2, .int t3, .int t4, .ref ta, .ref tb, .ref tc, .ref td, .ref te])), (ta, .inl (cI, 6, .inl fta)), (nw, .inr (7, [.ref nwc])), (nwc, .inl (cI, 41, .inl fn))] H := hP
                have hD : va_D A [(h, .inr (9, [.ref x, .int q1, .int q2, .ref rd, .ref t, .ref d, .ref nw, .ref ps, .ref im, .ref is_, .int q10, .ref bk, .int q12, .ref qr, .ref pr, .ref cv, .ref ft])), (t, .inr (8, [.int t0, .int t1, .int t2, .int t3, .int t4, .ref ta, .ref tb, .ref tc, .ref td, .ref te])), (ta, .inl (cI, 6, .inl fta)), (nw, .inr (7, [.ref nwc])), (nwc, .inl (cI, 41, .inl fn))] := hD
                refine lv_iand hx hb dX9_fleet_76 ?_
                refine lv_if_ne (tgt := 84) hx hb dX9_fleet_77 rfl (fun c_30 => ?_) (fun c_30 => ?_)
                · rw [if_neg c_30] at hE
                  refine lv_iconst (v := 0) hx hb dX9_fleet_84 rfl ?_
                  refine lv_istore (lv' := [(6, .int 0), (5, .int 1), (4, .int w_5l4), (3, .int w_5l3), (2, .int (n_ * (f_e_needOfAll_x8 t0 t1 t2 t3 t4 fta))), (0, .ref h), (1, .int n_)]) hx hb dX9_fleet_85 hl (Nat.le_of_ble_eq_true rfl) rfl (fun ls hl => ?_)
                  refine lv_iload hx hb dX9_fleet_87 (lv_at hl 1 rfl) ?_
                  refine lv_if_eq (tgt := 113) hx hb dX9_fleet_89 rfl (fun c_31 => absurd c_31 (by decide +kernel)) (fun c_31 => ?_)
                  refine lv_iload hx hb dX9_fleet_92 (lv_at hl 0 rfl) ?_
                  refine lv_if_eq (tgt := 113) hx hb dX9_fleet_94 rfl (fun c_32 => ?_) (fun c_32 => absurd (by decide +kernel) c_32)
                  refine lv_iinc (v := (w_5l4 + 1)) (lv' := [(4, .int (w_5l4 + 1)), (6, .int 0), (5, .int 1), (3, .int w_5l3), (2, .int (n_ * (f_e_needOfAll_x8 t0 t1 t2 t3 t4 fta))), (0, .ref h), (1, .int n_)]) hx hb dX9_fleet_113 hl (k := 2) rfl rfl (Nat.le_of_ble_eq_true rfl) rfl (fun ls hl => ?_)
                  refine lv_goto (tgt := 29) hx hb dX9_fleet_116 rfl ?_
                  exact ih_w_5 (w_5l4 + 1) w_5l3 _ _ ls (cutP (isC := [0, 3, 4, 1, 2]) hP rfl) (cutD (isC := [0, 3, 4, 1, 2]) hD rfl rfl) hS (lv_sub hl [0, 3, 4, 5, 6] rfl) (up_step c_6 hm) hE
                · rw [if_pos c_30] at hE
                  refine lv_iconst (v := 1) hx hb dX9_fleet_80 rfl ?_
                  refine lv_goto (tgt := 85) hx hb dX9_fleet_81 rfl ?_
                  refine lv_istore (lv' := [(6, .int 1), (5, .int 1), (4, .int w_5l4), (3, .int w_5l3), (2, .int (n_ * (f_e_needOfAll_x8 t0 t1 t2 t3 t4 fta))), (0, .ref h), (1, .int n_)]) hx hb dX9_fleet_85 hl (Nat.le_of_ble_eq_true rfl) rfl (fun ls hl => ?_)
                  refine lv_iload hx hb dX9_fleet_87 (lv_at hl 1 rfl) ?_
                  refine lv_if_eq (tgt := 113) hx hb dX9_fleet_89 rfl (fun c_33 => absurd c_33 (by decide +kernel)) (fun c_33 => ?_)
                  refine lv_iload hx hb dX9_fleet_92 (lv_at hl 0 rfl) ?_
                  refine lv_if_eq (tgt := 113) hx hb dX9_fleet_94 rfl (fun c_34 => absurd c_34 (by decide +kernel)) (fun c_34 => ?_)
                  refine lv_aload_n hx hb dX9_fleet_97 rfl (lv_at hl 5 rfl) ?_
                  refine va_get (D := D) (ci := 9) (v := .ref nw) (C := RX9) (T := TX9) (N := 17) hx hb hts iX9 hown hK hP 0 rfl rfl 6 (Nat.le_of_ble_eq_true rfl) (hts _ wd_96) (fun _ h9 => h9) rfl dX9_fleet_98 ?_
                  refine lv_iload hx hb dX9_fleet_101 (lv_at hl 2 rfl) ?_
                  refine cVi (wr := [(h, .inr (9, [.ref x, .int q1, .int q2, .ref rd, .ref t, .ref d, .ref nw, .ref ps, .ref im, .ref is_, .int q10, .ref bk, .int q12, .ref qr, .ref pr, .ref cv, .ref ft])), (t, .inr (8, [.int t0, .int t1, .int t2, .int t3, .int t4, .ref ta, .ref tb, .ref tc, .ref td, .ref te])), (ta, .inl (cI, 6, .inl fta))]) (rest := []) (e_grievanceOfSet nw nwc fn w_5l4) okV_X7_grievanceOfSet wd_423 hx hb hml hown hts hK hP hD hS hA hN hl.1 [3, 4] [0, 1, 2] rfl rfl rfl rfl (of_decide_eq_true rfl) rfl rfl rfl (Nat.le_of_ble_eq_true rfl) (Nat.le_of_ble_eq_true rfl) (Nat.le_of_ble_eq_true rfl) (Nat.le_of_ble_eq_true rfl) (Nat.le_of_ble_eq_true rfl) dX9_fleet_103 (fun r_36 u_35 H locs hw_u_35 hP hD hS => ?_)
                  replace hw_u_35 : r_36 = (f_e_grievanceOfSet fn w_5l4) := hw_u_35
                  rw [hw_u_35]
                  clear hw_u_35
                  have hP : va_P D classes [(h, .inr (9, [.ref x, .int q1, .int q2, .ref rd, .ref t, .ref d, .ref nw, .ref ps, .ref im, .ref is_, .int q10, .ref bk, .int q12, .ref qr, .ref pr, .ref cv, .ref ft])), (t, .inr (8, [.int t0, .int t1, .int t2, .int t3, .int t4, .ref ta, .ref tb, .ref tc, .ref td, .ref te])), (ta, .inl (cI, 6, .inl fta)), (nw, .inr (7, [.ref nwc])), (nwc, .inl (cI, 41, .inl fn))] H := hP
                  have hD : va_D A [(h, .inr (9, [.ref x, .int q1, .int q2, .ref rd, .ref t, .ref d, .ref nw, .ref ps, .ref im, .ref is_, .int q10, .ref bk, .int q12, .ref qr, .ref pr, .ref cv, .ref ft])), (t, .inr (8, [.int t0, .int t1, .int t2, .int t3, .int t4, .ref ta, .ref tb, .ref tc, .ref td, .ref te])), (ta, .inl (cI, 6, .inl fta)), (nw, .inr (7, [.ref nwc])), (nwc, .inl (cI, 41, .inl fn))] := hD
                  refine lv_iload_n hx hb dX9_fleet_106 rfl (lv_at hl 4 rfl) ?_
                  refine lv_icmp_lt (tgt := 113) hx hb dX9_fleet_107 rfl (fun c_37 => ?_) (fun c_37 => ?_)
                  · rw [if_pos c_37] at hE
                    refine lv_iinc (v := (w_5l4 + 1)) (lv' := [(4, .int (w_5l4 + 1)), (6, .int 1), (5, .int 1), (3, .int w_5l3), (2, .int (n_ * (f_e_needOfAll_x8 t0 t1 t2 t3 t4 fta))), (0, .ref h), (1, .int n_)]) hx hb dX9_fleet_113 hl (k := 2) rfl rfl (Nat.le_of_ble_eq_true rfl) rfl (fun ls hl => ?_)
                    refine lv_goto (tgt := 29) hx hb dX9_fleet_116 rfl ?_
                    exact ih_w_5 (w_5l4 + 1) w_5l3 _ _ ls (cutP (isC := [0, 3, 4, 1, 2]) hP rfl) (cutD (isC := [0, 3, 4, 1, 2]) hD rfl rfl) hS (lv_sub hl [0, 3, 4, 5, 6] rfl) (up_step c_6 hm) hE
                  · rw [if_neg c_37] at hE
                    refine lv_iload hx hb dX9_fleet_110 (lv_at hl 2 rfl) ?_
                    refine lv_istore_n (lv' := [(3, .int w_5l4), (6, .int 1), (5, .int 1), (4, .int w_5l4), (2, .int (n_ * (f_e_needOfAll_x8 t0 t1 t2 t3 t4 fta))), (0, .ref h), (1, .int n_)]) hx hb dX9_fleet_112 rfl hl (Nat.le_of_ble_eq_true rfl) rfl (fun ls hl => ?_)
                    refine lv_iinc (v := (w_5l4 + 1)) (lv' := [(4, .int (w_5l4 + 1)), (3, .int w_5l4), (6, .int 1), (5, .int 1), (2, .int (n_ * (f_e_needOfAll_x8 t0 t1 t2 t3 t4 fta))), (0, .ref h), (1, .int n_)]) hx hb dX9_fleet_113 hl (k := 3) rfl rfl (Nat.le_of_ble_eq_true rfl) rfl (fun ls hl => ?_)
                    refine lv_goto (tgt := 29) hx hb dX9_fleet_116 rfl ?_
                    exact ih_w_5 (w_5l4 + 1) w_5l4 _ _ ls (cutP (isC := [0, 3, 4, 1, 2]) hP rfl) (cutD (isC := [0, 3, 4, 1, 2]) hD rfl rfl) hS (lv_sub hl [0, 1, 4, 5, 6] rfl) (up_step c_6 hm) hE
      exact lp_29_w_5 ((((1 <<< (t2 &&& 31)) : Int32).toInt - (0 : Int32).toInt).toNat + 1) 0 (-1) _ _ ls hP hD hS hl (Nat.lt_succ_self _) hE
    · rw [if_neg c_2] at hE
      refine lv_ldc (v := (-1000000002)) hx hb hown (hts _ wd_339) dX9_fleet_11 ?_
      exact hret (-1000000002) () _ _ _ _ dX9_fleet_13 rfl hE hP hD hS
noncomputable def f_e_write_x9 (q1 : Int32) (q2 : Int32) (q10 : Int32) (q12 : Int32) (t0 : Int32) (t1 : Int32) (t2 : Int32) (t3 : Int32) (t4 : Int32) (b0 : Int32) (fba : Nat → Int32) (fbb : Nat → Int32) (c_ : Int32) (g_ : Int32) : Int32 × Int32 × (Nat → Int32) × (Nat → Int32) := (if (f_e_hasCouple t0 t1 t2 t3 t4 c_) = 0 then ((-1000000001), b0, fba, fbb) else (if g_ < 0 then ((-1000000002), b0, fba, fbb) else (if g_ ≤ 99 then (if b0 < 15 then (match (f_e_enter_x0 b0 fba fbb c_ g_) with | (o_9, o_10, o_11) => (o_9, o_9, o_10, o_11)) else ((-1000000004), b0, fba, fbb)) else ((-1000000002), b0, fba, fbb))))
def rm_e_write_x9 : Room := { frames := 2, cells := 0, slots := 0, locals := 44 }
set_option maxHeartbeats 4000000 in
set_option maxRecDepth 100000 in
theorem e_write_x9 {l : Launch} {D : va_G} {cI cZ : ClassId} {sz : Nat} (h x rd t d nw ps im is_ bk qr pr cv ft ta tb tc td te bka bkb : Nat) (q1 : Int32) (q2 : Int32) (q10 : Int32) (q12 : Int32) (t0 : Int32) (t1 : Int32) (t2 : Int32) (t3 : Int32) (t4 : Int32) (b0 : Int32) (fba : Nat → Int32) (fbb : Nat → Int32) (c_ : Int32) (g_ : Int32) : KI l yX9_write cX9_write 3 (some .int) rm_e_write_x9 D cI cZ [.ref h, .int c_, .int g_] sz [(h, .inr (9, [.ref x, .int q1, .int q2, .ref rd, .ref t, .ref d, .ref nw, .ref ps, .ref im, .ref is_, .int q10, .ref bk, .int q12, .ref qr, .ref pr, .ref cv, .ref ft])), (t, .inr (8, [.int t0, .int t1, .int t2, .int t3, .int t4, .ref ta, .ref tb, .ref tc, .ref td, .ref te])), (bk, .inr (0, [.int b0, .ref bka, .ref bkb])), (bka, .inl (cI, 15, .inl fba)), (bkb, .inl (cI, 15, .inl fbb))] (fun (r : Int32) (u : Int32 × (Nat → Int32) × (Nat → Int32)) => (r, u) = f_e_write_x9 q1 q2 q10 q12 t0 t1 t2 t3 t4 b0 fba fbb c_ g_) (fun (u : Int32 × (Nat → Int32) × (Nat → Int32)) => [(h, .inr (9, [.ref x, .int q1, .int q2, .ref rd, .ref t, .ref d, .ref nw, .ref ps, .ref im, .ref is_, .int q10, .ref bk, .int q12, .ref qr, .ref pr, .ref cv, .ref ft])), (t, .inr (8, [.int t0, .int t1, .int t2, .int t3, .int t4, .ref ta, .ref tb, .ref tc, .ref td, .ref te])), (bk, .inr (0, [.int (u.1), .ref bka, .ref bkb])), (bka, .inl (cI, 15, .inl u.2.1)), (bkb, .inl (cI, 15, .inl u.2.2))]) := by
  refine KI.go rfl (Nat.le_of_ble_eq_true rfl) ?_
  intro p e s m args below meth c ls A Q hx hb hml hts hown hin hP hK hD hS hA hN hl hret
  have hl : lv_has ls 3 [(0, .ref h), (1, .int c_), (2, .int g_)] := hl
  obtain ⟨RES, hE⟩ : ∃ xRES, f_e_write_x9 q1 q2 q10 q12 t0 t1 t2 t3 t4 b0 fba fbb c_ g_ = xRES := ⟨_, rfl⟩
  rw [hE] at hret
  rw [f_e_write_x9] at hE
  refine lv_aload_n hx hb dX9_write_0 rfl (lv_at hl 0 rfl) ?_
  refine va_get (D := D) (ci := 9) (v := .ref t) (C := RX9) (T := TX9) (N := 17) hx hb hts iX9 hown hK hP 0 rfl rfl 4 (Nat.le_of_ble_eq_true rfl) (hts _ wd_89) (fun _ h9 => h9) rfl dX9_write_1 ?_
  refine lv_iload_n hx hb dX9_write_4 rfl (lv_at hl 1 rfl) ?_
  refine cVi (wr := [(h, .inr (9, [.ref x, .int q1, .int q2, .ref rd, .ref t, .ref d, .ref nw, .ref ps, .ref im, .ref is_, .int q10, .ref bk, .int q12, .ref qr, .ref pr, .ref cv, .ref ft])), (bk, .inr (0, [.int b0, .ref bka, .ref bkb])), (bka, .inl (cI, 15, .inl fba)), (bkb, .inl (cI, 15, .inl fbb))]) (rest := []) (e_hasCouple t ta tb tc td te t0 t1 t2 t3 t4 c_) okV_X8_hasCouple wd_347 hx hb hml hown hts hK hP hD hS hA hN hl.1 [1] [0, 2, 3, 4] rfl rfl rfl rfl (of_decide_eq_true rfl) rfl rfl rfl (Nat.le_of_ble_eq_true rfl) (Nat.le_of_ble_eq_true rfl) (Nat.le_of_ble_eq_true rfl) (Nat.le_of_ble_eq_true rfl) (Nat.le_of_ble_eq_true rfl) dX9_write_5 (fun r_2 u_1 H locs hw_u_1 hP hD hS => ?_)
  replace hw_u_1 : r_2 = (f_e_hasCouple t0 t1 t2 t3 t4 c_) := hw_u_1
  rw [hw_u_1]
  clear hw_u_1
  have hP : va_P D classes [(h, .inr (9, [.ref x, .int q1, .int q2, .ref rd, .ref t, .ref d, .ref nw, .ref ps, .ref im, .ref is_, .int q10, .ref bk, .int q12, .ref qr, .ref pr, .ref cv, .ref ft])), (bk, .inr (0, [.int b0, .ref bka, .ref bkb])), (bka, .inl (cI, 15, .inl fba)), (bkb, .inl (cI, 15, .inl fbb)), (t, .inr (8, [.int t0, .int t1, .int t2, .int t3, .int t4, .ref ta, .ref tb, .ref tc, .ref td, .ref te]))] H := hP
  have hD : va_D A [(h, .inr (9, [.ref x, .int q1, .int q2, .ref rd, .ref t, .ref d, .ref nw, .ref ps, .ref im, .ref is_, .int q10, .ref bk, .int q12, .ref qr, .ref pr, .ref cv, .ref ft])), (bk, .inr (0, [.int b0, .ref bka, .ref bkb])), (bka, .inl (cI, 15, .inl fba)), (bkb, .inl (cI, 15, .inl fbb)), (t, .inr (8, [.int t0, .int t1, .int t2, .int t3, .int t4, .ref ta, .ref tb, .ref tc, .ref td, .ref te]))] := hD
  refine lv_if_ne (tgt := 14) hx hb dX9_write_8 rfl (fun c_3 => ?_) (fun c_3 => ?_)
  · rw [if_neg c_3] at hE
    refine lv_iload_n hx hb dX9_write_14 rfl (lv_at hl 2 rfl) ?_
    refine lv_if_lt (tgt := 24) hx hb dX9_write_15 rfl (fun c_4 => ?_) (fun c_4 => ?_)
    · rw [if_pos c_4] at hE
      refine lv_ldc (v := (-1000000002)) hx hb hown (hts _ wd_339) dX9_write_24 ?_
      exact hret (-1000000002) (b0, fba, fbb) _ _ _ _ dX9_write_26 rfl hE (cutP (isC := [0, 4, 1, 2, 3]) hP rfl) (cutD (isC := [0, 4, 1, 2, 3]) hD rfl rfl) hS
    · rw [if_neg c_4] at hE
      refine lv_iload_n hx hb dX9_write_18 rfl (lv_at hl 2 rfl) ?_
      refine lv_bipush (v := 99) hx hb dX9_write_19 rfl ?_
      refine lv_icmp_le (tgt := 27) hx hb dX9_write_21 rfl (fun c_5 => ?_) (fun c_5 => ?_)
      · rw [if_pos c_5] at hE
        refine lv_aload_n hx hb dX9_write_27 rfl (lv_at hl 0 rfl) ?_
        refine va_get (D := D) (ci := 9) (v := .ref bk) (C := RX9) (T := TX9) (N := 17) hx hb hts iX9 hown hK hP 0 rfl rfl 11 (Nat.le_of_ble_eq_true rfl) (hts _ wd_113) (fun _ h9 => h9) rfl dX9_write_28 ?_
        refine va_get (D := D) (ci := 0) (v := .int b0) (C := RX0) (T := TX0) (N := 3) hx hb hts iX0 hown hK hP 1 rfl rfl 0 (Nat.le_of_ble_eq_true rfl) (hts _ wd_382) (fun _ h9 => h9) rfl dX9_write_31 ?_
        refine lv_bipush (v := 15) hx hb dX9_write_34 rfl ?_
        refine lv_icmp_lt (tgt := 42) hx hb dX9_write_36 rfl (fun c_6 => ?_) (fun c_6 => ?_)
        · rw [if_pos c_6] at hE
          refine lv_aload_n hx hb dX9_write_42 rfl (lv_at hl 0 rfl) ?_
          refine va_get (D := D) (ci := 9) (v := .ref bk) (C := RX9) (T := TX9) (N := 17) hx hb hts iX9 hown hK hP 0 rfl rfl 11 (Nat.le_of_ble_eq_true rfl) (hts _ wd_113) (fun _ h9 => h9) rfl dX9_write_43 ?_
          refine lv_iload_n hx hb dX9_write_46 rfl (lv_at hl 1 rfl) ?_
          refine lv_iload_n hx hb dX9_write_47 rfl (lv_at hl 2 rfl) ?_
          refine cVv (wr := [(h, .inr (9, [.ref x, .int q1, .int q2, .ref rd, .ref t, .ref d, .ref nw, .ref ps, .ref im, .ref is_, .int q10, .ref bk, .int q12, .ref qr, .ref pr, .ref cv, .ref ft])), (t, .inr (8, [.int t0, .int t1, .int t2, .int t3, .int t4, .ref ta, .ref tb, .ref tc, .ref td, .ref te]))]) (rest := []) (e_enter_x0 bk bka bkb b0 fba fbb c_ g_) okV_X0_enter wd_425 hx hb hml hown hts hK hP hD hS hA hN hl.1 [1, 2, 3] [0, 4] rfl rfl rfl rfl (of_decide_eq_true rfl) rfl rfl rfl (Nat.le_of_ble_eq_true rfl) (Nat.le_of_ble_eq_true rfl) (Nat.le_of_ble_eq_true rfl) (Nat.le_of_ble_eq_true rfl) (Nat.le_of_ble_eq_true rfl) dX9_write_48 (fun u_7 H locs hw_u_7 hP hD hS => ?_)
          obtain ⟨o_9, o_10, o_11⟩ := u_7
          replace hw_u_7 : (o_9, o_10, o_11) = (f_e_enter_x0 b0 fba fbb c_ g_) := hw_u_7
          rw [← hw_u_7] at hE
          replace hE : (o_9, o_9, o_10, o_11) = RES := hE
          have hP : va_P D classes [(h, .inr (9, [.ref x, .int q1, .int q2, .ref rd, .ref t, .ref d, .ref nw, .ref ps, .ref im, .ref is_, .int q10, .ref bk, .int q12, .ref qr, .ref pr, .ref cv, .ref ft])), (t, .inr (8, [.int t0, .int t1, .int t2, .int t3, .int t4, .ref ta, .ref tb, .ref tc, .ref td, .ref te])), (bk, .inr (0, [.int o_9, .ref bka, .ref bkb])), (bka, .inl (cI, 15, .inl o_10)), (bkb, .inl (cI, 15, .inl o_11))] H := hP
          have hD : va_D A [(h, .inr (9, [.ref x, .int q1, .int q2, .ref rd, .ref t, .ref d, .ref nw, .ref ps, .ref im, .ref is_, .int q10, .ref bk, .int q12, .ref qr, .ref pr, .ref cv, .ref ft])), (t, .inr (8, [.int t0, .int t1, .int t2, .int t3, .int t4, .ref ta, .ref tb, .ref tc, .ref td, .ref te])), (bk, .inr (0, [.int o_9, .ref bka, .ref bkb])), (bka, .inl (cI, 15, .inl o_10)), (bkb, .inl (cI, 15, .inl o_11))] := hD
          refine lv_aload_n hx hb dX9_write_51 rfl (lv_at hl 0 rfl) ?_
          refine va_get (D := D) (ci := 9) (v := .ref bk) (C := RX9) (T := TX9) (N := 17) hx hb hts iX9 hown hK hP 0 rfl rfl 11 (Nat.le_of_ble_eq_true rfl) (hts _ wd_113) (fun _ h9 => h9) rfl dX9_write_52 ?_
          refine va_get (D := D) (ci := 0) (v := .int o_9) (C := RX0) (T := TX0) (N := 3) hx hb hts iX0 hown hK hP 2 rfl rfl 0 (Nat.le_of_ble_eq_true rfl) (hts _ wd_382) (fun _ h9 => h9) rfl dX9_write_55 ?_
          exact hret o_9 (o_9, o_10, o_11) _ _ _ _ dX9_write_58 rfl hE hP hD hS
        · rw [if_neg c_6] at hE
          refine lv_ldc (v := (-1000000004)) hx hb hown (hts _ wd_341) dX9_write_39 ?_
          exact hret (-1000000004) (b0, fba, fbb) _ _ _ _ dX9_write_41 rfl hE (cutP (isC := [0, 4, 1, 2, 3]) hP rfl) (cutD (isC := [0, 4, 1, 2, 3]) hD rfl rfl) hS
      · rw [if_neg c_5] at hE
        refine lv_ldc (v := (-1000000002)) hx hb hown (hts _ wd_339) dX9_write_24 ?_
        exact hret (-1000000002) (b0, fba, fbb) _ _ _ _ dX9_write_26 rfl hE (cutP (isC := [0, 4, 1, 2, 3]) hP rfl) (cutD (isC := [0, 4, 1, 2, 3]) hD rfl rfl) hS
  · rw [if_pos c_3] at hE
    refine lv_ldc (v := (-1000000001)) hx hb hown (hts _ wd_346) dX9_write_11 ?_
    exact hret (-1000000001) (b0, fba, fbb) _ _ _ _ dX9_write_13 rfl hE (cutP (isC := [0, 4, 1, 2, 3]) hP rfl) (cutD (isC := [0, 4, 1, 2, 3]) hD rfl rfl) hS
noncomputable def f_e_tear_x9 (q1 : Int32) (q2 : Int32) (q10 : Int32) (q12 : Int32) (b0 : Int32) : Int32 × Int32 := (b0, (f_e_clear_x0 b0))
def rm_e_tear_x9 : Room := { frames := 1, cells := 0, slots := 0, locals := 20 }
set_option maxHeartbeats 4000000 in
set_option maxRecDepth 100000 in
theorem e_tear_x9 {l : Launch} {D : va_G} {cI cZ : ClassId} {sz : Nat} (h x rd t d nw ps im is_ bk qr pr cv ft bka bkb : Nat) (q1 : Int32) (q2 : Int32) (q10 : Int32) (q12 : Int32) (b0 : Int32) : KI l yX9_tear cX9_tear 2 (some .int) rm_e_tear_x9 D cI cZ [.ref h] sz [(h, .inr (9, [.ref x, .int q1, .int q2, .ref rd, .ref t, .ref d, .ref nw, .ref ps, .ref im, .ref is_, .int q10, .ref bk, .int q12, .ref qr, .ref pr, .ref cv, .ref ft])), (bk, .inr (0, [.int b0, .ref bka, .ref bkb]))] (fun (r : Int32) (u : Int32) => (r, u) = f_e_tear_x9 q1 q2 q10 q12 b0) (fun (u : Int32) => [(h, .inr (9, [.ref x, .int q1, .int q2, .ref rd, .ref t, .ref d, .ref nw, .ref ps, .ref im, .ref is_, .int q10, .ref bk, .int q12, .ref qr, .ref pr, .ref cv, .ref ft])), (bk, .inr (0, [.int u, .ref bka, .ref bkb]))]) := by
  refine KI.go rfl (Nat.le_of_ble_eq_true rfl) ?_
  intro p e s m args below meth c ls A Q hx hb hml hts hown hin hP hK hD hS hA hN hl hret
  have hl : lv_has ls 2 [(0, .ref h)] := hl
  obtain ⟨RES, hE⟩ : ∃ xRES, f_e_tear_x9 q1 q2 q10 q12 b0 = xRES := ⟨_, rfl⟩
  rw [hE] at hret
  rw [f_e_tear_x9] at hE
  refine lv_aload_n hx hb dX9_tear_0 rfl (lv_at hl 0 rfl) ?_
  refine va_get (D := D) (ci := 9) (v := .ref bk) (C := RX9) (T := TX9) (N := 17) hx hb hts iX9 hown hK hP 0 rfl rfl 11 (Nat.le_of_ble_eq_true rfl) (hts _ wd_113) (fun _ h9 => h9) rfl dX9_tear_1 ?_
  refine va_get (D := D) (ci := 0) (v := .int b0) (C := RX0) (T := TX0) (N := 3) hx hb hts iX0 hown hK hP 1 rfl rfl 0 (Nat.le_of_ble_eq_true rfl) (hts _ wd_382) (fun _ h9 => h9) rfl dX9_tear_4 ?_
  refine lv_istore_n (lv' := [(1, .int b0), (0, .ref h)]) hx hb dX9_tear_7 rfl hl (Nat.le_of_ble_eq_true rfl) rfl (fun ls hl => ?_)
  refine lv_aload_n hx hb dX9_tear_8 rfl (lv_at hl 1 rfl) ?_
  refine va_get (D := D) (ci := 9) (v := .ref bk) (C := RX9) (T := TX9) (N := 17) hx hb hts iX9 hown hK hP 0 rfl rfl 11 (Nat.le_of_ble_eq_true rfl) (hts _ wd_113) (fun _ h9 => h9) rfl dX9_tear_9 ?_
  refine cVv (wr := [(h, .inr (9, [.ref x, .int q1, .int q2, .ref rd, .ref t, .ref d, .ref nw, .ref ps, .ref im, .ref is_, .int q10, .ref bk, .int q12, .ref qr, .ref pr, .ref cv, .ref ft]))]) (rest := []) (e_clear_x0 bk bka bkb b0) okV_X0_clear wd_429 hx hb hml hown hts hK hP hD hS hA hN hl.1 [1] [0] rfl rfl rfl rfl (of_decide_eq_true rfl) rfl rfl rfl (Nat.le_of_ble_eq_true rfl) (Nat.le_of_ble_eq_true rfl) (Nat.le_of_ble_eq_true rfl) (Nat.le_of_ble_eq_true rfl) (Nat.le_of_ble_eq_true rfl) dX9_tear_12 (fun u_1 H locs hw_u_1 hP hD hS => ?_)
  replace hw_u_1 : u_1 = (f_e_clear_x0 b0) := hw_u_1
  subst hw_u_1
  have hP : va_P D classes [(h, .inr (9, [.ref x, .int q1, .int q2, .ref rd, .ref t, .ref d, .ref nw, .ref ps, .ref im, .ref is_, .int q10, .ref bk, .int q12, .ref qr, .ref pr, .ref cv, .ref ft])), (bk, .inr (0, [.int (f_e_clear_x0 b0), .ref bka, .ref bkb]))] H := hP
  have hD : va_D A [(h, .inr (9, [.ref x, .int q1, .int q2, .ref rd, .ref t, .ref d, .ref nw, .ref ps, .ref im, .ref is_, .int q10, .ref bk, .int q12, .ref qr, .ref pr, .ref cv, .ref ft])), (bk, .inr (0, [.int (f_e_clear_x0 b0), .ref bka, .ref bkb]))] := hD
  refine lv_iload_n hx hb dX9_tear_15 rfl (lv_at hl 0 rfl) ?_
  exact hret b0 (f_e_clear_x0 b0) _ _ _ _ dX9_tear_16 rfl hE hP hD hS
noncomputable def f_e_judge_x9 (q1 : Int32) (q2 : Int32) (q10 : Int32) (q12 : Int32) (b0 : Int32) (fba : Nat → Int32) (fbb : Nat → Int32) (fn : Nat → Int32) : Int32 := (f_e_firstWrong_x0 b0 fba fbb fn)
def rm_e_judge_x9 : Room := { frames := 3, cells := 0, slots := 0, locals := 64 }
set_option maxHeartbeats 4000000 in
set_option maxRecDepth 100000 in
theorem e_judge_x9 {l : Launch} {D : va_G} {cI cZ : ClassId} {sz : Nat} (h x rd t d nw ps im is_ bk qr pr cv ft bka bkb nwc : Nat) (q1 : Int32) (q2 : Int32) (q10 : Int32) (q12 : Int32) (b0 : Int32) (fba : Nat → Int32) (fbb : Nat → Int32) (fn : Nat → Int32) : KI l yX9_judge cX9_judge 1 (some .int) rm_e_judge_x9 D cI cZ [.ref h] sz [(h, .inr (9, [.ref x, .int q1, .int q2, .ref rd, .ref t, .ref d, .ref nw, .ref ps, .ref im, .ref is_, .int q10, .ref bk, .int q12, .ref qr, .ref pr, .ref cv, .ref ft])), (bk, .inr (0, [.int b0, .ref bka, .ref bkb])), (bka, .inl (cI, 15, .inl fba)), (bkb, .inl (cI, 15, .inl fbb)), (nw, .inr (7, [.ref nwc])), (nwc, .inl (cI, 41, .inl fn))] (fun (r : Int32) (_ : Unit) => r = f_e_judge_x9 q1 q2 q10 q12 b0 fba fbb fn) (fun (_ : Unit) => [(h, .inr (9, [.ref x, .int q1, .int q2, .ref rd, .ref t, .ref d, .ref nw, .ref ps, .ref im, .ref is_, .int q10, .ref bk, .int q12, .ref qr, .ref pr, .ref cv, .ref ft])), (bk, .inr (0, [.int b0, .ref bka, .ref bkb])), (bka, .inl (cI, 15, .inl fba)), (bkb, .inl (cI, 15, .inl fbb)), (nw, .inr (7, [.ref nwc])), (nwc, .inl (cI, 41, .inl fn))]) := by
  refine KI.go rfl (Nat.le_of_ble_eq_true rfl) ?_
  intro p e s m args below meth c ls A Q hx hb hml hts hown hin hP hK hD hS hA hN hl hret
  have hl : lv_has ls 1 [(0, .ref h)] := hl
  obtain ⟨RES, hE⟩ : ∃ xRES, f_e_judge_x9 q1 q2 q10 q12 b0 fba fbb fn = xRES := ⟨_, rfl⟩
  rw [hE] at hret
  rw [f_e_judge_x9] at hE
  refine lv_aload_n hx hb dX9_judge_0 rfl (lv_at hl 0 rfl) ?_
  refine va_get (D := D) (ci := 9) (v := .ref bk) (C := RX9) (T := TX9) (N := 17) hx hb hts iX9 hown hK hP 0 rfl rfl 11 (Nat.le_of_ble_eq_true rfl) (hts _ wd_113) (fun _ h9 => h9) rfl dX9_judge_1 ?_
  refine lv_aload_n hx hb dX9_judge_4 rfl (lv_at hl 0 rfl) ?_
  refine va_get (D := D) (ci := 9) (v := .ref nw) (C := RX9) (T := TX9) (N := 17) hx hb hts iX9 hown hK hP 0 rfl rfl 6 (Nat.le_of_ble_eq_true rfl) (hts _ wd_96) (fun _ h9 => h9) rfl dX9_judge_5 ?_
  refine cVi (wr := [(h, .inr (9, [.ref x, .int q1, .int q2, .ref rd, .ref t, .ref d, .ref nw, .ref ps, .ref im, .ref is_, .int q10, .ref bk, .int q12, .ref qr, .ref pr, .ref cv, .ref ft]))]) (rest := []) (e_firstWrong_x0 bk bka bkb nw nwc b0 fba fbb fn) okV_X0_firstWrong wd_433 hx hb hml hown hts hK hP hD hS hA hN hl.1 [1, 2, 3, 4, 5] [0] rfl rfl rfl rfl (of_decide_eq_true rfl) rfl rfl rfl (Nat.le_of_ble_eq_true rfl) (Nat.le_of_ble_eq_true rfl) (Nat.le_of_ble_eq_true rfl) (Nat.le_of_ble_eq_true rfl) (Nat.le_of_ble_eq_true rfl) dX9_judge_8 (fun r_2 u_1 H locs hw_u_1 hP hD hS => ?_)
  replace hw_u_1 : r_2 = (f_e_firstWrong_x0 b0 fba fbb fn) := hw_u_1
  rw [hw_u_1]
  clear hw_u_1
  have hP : va_P D classes [(h, .inr (9, [.ref x, .int q1, .int q2, .ref rd, .ref t, .ref d, .ref nw, .ref ps, .ref im, .ref is_, .int q10, .ref bk, .int q12, .ref qr, .ref pr, .ref cv, .ref ft])), (bk, .inr (0, [.int b0, .ref bka, .ref bkb])), (bka, .inl (cI, 15, .inl fba)), (bkb, .inl (cI, 15, .inl fbb)), (nw, .inr (7, [.ref nwc])), (nwc, .inl (cI, 41, .inl fn))] H := hP
  have hD : va_D A [(h, .inr (9, [.ref x, .int q1, .int q2, .ref rd, .ref t, .ref d, .ref nw, .ref ps, .ref im, .ref is_, .int q10, .ref bk, .int q12, .ref qr, .ref pr, .ref cv, .ref ft])), (bk, .inr (0, [.int b0, .ref bka, .ref bkb])), (bka, .inl (cI, 15, .inl fba)), (bkb, .inl (cI, 15, .inl fbb)), (nw, .inr (7, [.ref nwc])), (nwc, .inl (cI, 41, .inl fn))] := hD
  exact hret (f_e_firstWrong_x0 b0 fba fbb fn) () _ _ _ _ dX9_judge_11 rfl hE hP hD hS
noncomputable def f_e_seed_x9 (q1 : Int32) (q2 : Int32) (q10 : Int32) (q12 : Int32) (v_ : Int32) : Int32 × Int32 := (if 0 ≤ v_ then (q12, v_) else ((-1000000002), q12))
def rm_e_seed_x9 : Room := { frames := 0, cells := 0, slots := 0, locals := 0 }
set_option maxHeartbeats 4000000 in
set_option maxRecDepth 100000 in
theorem e_seed_x9 {l : Launch} {D : va_G} {cI cZ : ClassId} {sz : Nat} (h x rd t d nw ps im is_ bk qr pr cv ft : Nat) (q1 : Int32) (q2 : Int32) (q10 : Int32) (q12 : Int32) (v_ : Int32) : KI l yX9_seed cX9_seed 3 (some .int) rm_e_seed_x9 D cI cZ [.ref h, .int v_] sz [(h, .inr (9, [.ref x, .int q1, .int q2, .ref rd, .ref t, .ref d, .ref nw, .ref ps, .ref im, .ref is_, .int q10, .ref bk, .int q12, .ref qr, .ref pr, .ref cv, .ref ft]))] (fun (r : Int32) (u : Int32) => (r, u) = f_e_seed_x9 q1 q2 q10 q12 v_) (fun (u : Int32) => [(h, .inr (9, [.ref x, .int q1, .int q2, .ref rd, .ref t, .ref d, .ref nw, .ref ps, .ref im, .ref is_, .int q10, .ref bk, .int u, .ref qr, .ref pr, .ref cv, .ref ft]))]) := by
  refine KI.go rfl (Nat.le_of_ble_eq_true rfl) ?_
  intro p e s m args below meth c ls A Q hx hb hml hts hown hin hP hK hD hS hA hN hl hret
  have hl : lv_has ls 3 [(0, .ref h), (1, .int v_)] := hl
  obtain ⟨RES, hE⟩ : ∃ xRES, f_e_seed_x9 q1 q2 q10 q12 v_ = xRES := ⟨_, rfl⟩
  rw [hE] at hret
  rw [f_e_seed_x9] at hE
  refine lv_iload_n hx hb dX9_seed_0 rfl (lv_at hl 1 rfl) ?_
  refine lv_if_ge (tgt := 7) hx hb dX9_seed_1 rfl (fun c_1 => ?_) (fun c_1 => ?_)
  · rw [if_pos c_1] at hE
    refine lv_aload_n hx hb dX9_seed_7 rfl (lv_at hl 0 rfl) ?_
    refine va_get (D := D) (ci := 9) (v := .int q12) (C := RX9) (T := TX9) (N := 17) hx hb hts iX9 hown hK hP 0 rfl rfl 12 (Nat.le_of_ble_eq_true rfl) (hts _ wd_114) (fun _ h9 => h9) rfl dX9_seed_8 ?_
    refine lv_istore_n (lv' := [(2, .int q12), (0, .ref h), (1, .int v_)]) hx hb dX9_seed_11 rfl hl (Nat.le_of_ble_eq_true rfl) rfl (fun ls hl => ?_)
    refine lv_aload_n hx hb dX9_seed_12 rfl (lv_at hl 1 rfl) ?_
    refine lv_iload_n hx hb dX9_seed_13 rfl (lv_at hl 2 rfl) ?_
    refine va_put (D := D) (ci := 9) (v := .int v_) (ty := .int) (C := RX9) (T := TX9) (N := 17) hx hb hts iX9 tyX9 tyX9_ok nmX9 hown hK hP hD hS 0 rfl rfl 12 (Nat.le_of_ble_eq_true rfl) (hts _ wd_114) (fun _ h9 => h9) rfl (by decide +kernel) rfl rfl (Nat.le_of_ble_eq_true rfl) dX9_seed_14 (fun H locs hP hD hS => ?_)
    have hP : va_P D classes [(h, .inr (9, [.ref x, .int q1, .int q2, .ref rd, .ref t, .ref d, .ref nw, .ref ps, .ref im, .ref is_, .int q10, .ref bk, .int v_, .ref qr, .ref pr, .ref cv, .ref ft]))] H := hP
    have hD : va_D A [(h, .inr (9, [.ref x, .int q1, .int q2, .ref rd, .ref t, .ref d, .ref nw, .ref ps, .ref im, .ref is_, .int q10, .ref bk, .int v_, .ref qr, .ref pr, .ref cv, .ref ft]))] := hD
    refine lv_iload_n hx hb dX9_seed_17 rfl (lv_at hl 0 rfl) ?_
    exact hret q12 v_ _ _ _ _ dX9_seed_18 rfl hE hP hD hS
  · rw [if_neg c_1] at hE
    refine lv_ldc (v := (-1000000002)) hx hb hown (hts _ wd_339) dX9_seed_4 ?_
    exact hret (-1000000002) q12 _ _ _ _ dX9_seed_6 rfl hE hP hD hS
noncomputable def f_e_keep_x9 (q1 : Int32) (q2 : Int32) (q10 : Int32) (q12 : Int32) (fim : Nat → Int32) (fis : Nat → Int32) (fn : Nat → Int32) (p1 : Int32) (p2 : Int32) (i_ : Int32) : Int32 × Int32 × (Nat → Int32) × (Nat → Int32) × Int32 := (if i_ < 0 then ((-1000000001), q10, fim, fis, p2) else (if i_ < 2 then (1, (q10 ||| (1 <<< (i_ &&& 31))), (f_e_store2 fim fn i_), (putF 2 fis i_ q12), (f_e_forget_x2 p1 p2)) else ((-1000000001), q10, fim, fis, p2)))
def rm_e_keep_x9 : Room := { frames := 2, cells := 0, slots := 0, locals := 82 }
set_option maxHeartbeats 4000000 in
set_option maxRecDepth 100000 in
theorem e_keep_x9 {l : Launch} {D : va_G} {cI cZ : ClassId} {sz : Nat} (h x rd t d nw ps im is_ bk qr pr cv ft imc nwc sh : Nat) (q1 : Int32) (q2 : Int32) (q10 : Int32) (q12 : Int32) (fim : Nat → Int32) (fis : Nat → Int32) (fn : Nat → Int32) (p1 : Int32) (p2 : Int32) (i_ : Int32) : KI l yX9_keep cX9_keep 2 (some .int) rm_e_keep_x9 D cI cZ [.ref h, .int i_] sz [(h, .inr (9, [.ref x, .int q1, .int q2, .ref rd, .ref t, .ref d, .ref nw, .ref ps, .ref im, .ref is_, .int q10, .ref bk, .int q12, .ref qr, .ref pr, .ref cv, .ref ft])), (im, .inr (6, [.int 2, .ref imc])), (imc, .inl (cI, 82, .inl fim)), (is_, .inl (cI, 2, .inl fis)), (nw, .inr (7, [.ref nwc])), (nwc, .inl (cI, 41, .inl fn)), (ps, .inr (2, [.ref sh, .int p1, .int p2]))] (fun (r : Int32) (u : Int32 × (Nat → Int32) × (Nat → Int32) × Int32) => (r, u) = f_e_keep_x9 q1 q2 q10 q12 fim fis fn p1 p2 i_) (fun (u : Int32 × (Nat → Int32) × (Nat → Int32) × Int32) => [(h, .inr (9, [.ref x, .int q1, .int q2, .ref rd, .ref t, .ref d, .ref nw, .ref ps, .ref im, .ref is_, .int (u.1), .ref bk, .int q12, .ref qr, .ref pr, .ref cv, .ref ft])), (im, .inr (6, [.int 2, .ref imc])), (imc, .inl (cI, 82, .inl u.2.1)), (is_, .inl (cI, 2, .inl u.2.2.1)), (nw, .inr (7, [.ref nwc])), (nwc, .inl (cI, 41, .inl fn)), (ps, .inr (2, [.ref sh, .int p1, .int (u.2.2.2)]))]) := by
  refine KI.go rfl (Nat.le_of_ble_eq_true rfl) ?_
  intro p e s m args below meth c ls A Q hx hb hml hts hown hin hP hK hD hS hA hN hl hret
  have hl : lv_has ls 2 [(0, .ref h), (1, .int i_)] := hl
  obtain ⟨RES, hE⟩ : ∃ xRES, f_e_keep_x9 q1 q2 q10 q12 fim fis fn p1 p2 i_ = xRES := ⟨_, rfl⟩
  rw [hE] at hret
  rw [f_e_keep_x9] at hE
  refine lv_iload_n hx hb dX9_keep_0 rfl (lv_at hl 1 rfl) ?_
  refine lv_if_lt (tgt := 9) hx hb dX9_keep_1 rfl (fun c_1 => ?_) (fun c_1 => ?_)
  · rw [if_pos c_1] at hE
    refine lv_ldc (v := (-1000000001)) hx hb hown (hts _ wd_346) dX9_keep_9 ?_
    exact hret (-1000000001) (q10, fim, fis, p2) _ _ _ _ dX9_keep_11 rfl hE hP hD hS
  · rw [if_neg c_1] at hE
    refine lv_iload_n hx hb dX9_keep_4 rfl (lv_at hl 1 rfl) ?_
    refine lv_iconst (v := 2) hx hb dX9_keep_5 rfl ?_
    refine lv_icmp_lt (tgt := 12) hx hb dX9_keep_6 rfl (fun c_2 => ?_) (fun c_2 => ?_)
    · rw [if_pos c_2] at hE
      refine lv_aload_n hx hb dX9_keep_12 rfl (lv_at hl 0 rfl) ?_
      refine va_get (D := D) (ci := 9) (v := .ref im) (C := RX9) (T := TX9) (N := 17) hx hb hts iX9 hown hK hP 0 rfl rfl 8 (Nat.le_of_ble_eq_true rfl) (hts _ wd_105) (fun _ h9 => h9) rfl dX9_keep_13 ?_
      refine lv_iload_n hx hb dX9_keep_16 rfl (lv_at hl 1 rfl) ?_
      refine lv_aload_n hx hb dX9_keep_17 rfl (lv_at hl 0 rfl) ?_
      refine va_get (D := D) (ci := 9) (v := .ref nw) (C := RX9) (T := TX9) (N := 17) hx hb hts iX9 hown hK hP 0 rfl rfl 6 (Nat.le_of_ble_eq_true rfl) (hts _ wd_96) (fun _ h9 => h9) rfl dX9_keep_18 ?_
      refine cVv (wr := [(h, .inr (9, [.ref x, .int q1, .int q2, .ref rd, .ref t, .ref d, .ref nw, .ref ps, .ref im, .ref is_, .int q10, .ref bk, .int q12, .ref qr, .ref pr, .ref cv, .ref ft])), (is_, .inl (cI, 2, .inl fis)), (ps, .inr (2, [.ref sh, .int p1, .int p2]))]) (rest := []) (e_store2 im imc nw nwc fim fn i_) okV_X6_store wd_437 hx hb hml hown hts hK hP hD hS hA hN hl.1 [1, 2, 4, 5] [0, 3, 6] rfl rfl rfl rfl (of_decide_eq_true rfl) rfl rfl rfl (Nat.le_of_ble_eq_true rfl) (Nat.le_of_ble_eq_true rfl) (Nat.le_of_ble_eq_true rfl) (Nat.le_of_ble_eq_true rfl) (Nat.le_of_ble_eq_true rfl) dX9_keep_21 (fun u_3 H locs hw_u_3 hP hD hS => ?_)
      replace hw_u_3 : u_3 = (f_e_store2 fim fn i_) := hw_u_3
      subst hw_u_3
      have hP : va_P D classes [(h, .inr (9, [.ref x, .int q1, .int q2, .ref rd, .ref t, .ref d, .ref nw, .ref ps, .ref im, .ref is_, .int q10, .ref bk, .int q12, .ref qr, .ref pr, .ref cv, .ref ft])), (is_, .inl (cI, 2, .inl fis)), (ps, .inr (2, [.ref sh, .int p1, .int p2])), (im, .inr (6, [.int 2, .ref imc])), (imc, .inl (cI, 82, .inl (f_e_store2 fim fn i_))), (nw, .inr (7, [.ref nwc])), (nwc, .inl (cI, 41, .inl fn))] H := hP
      have hD : va_D A [(h, .inr (9, [.ref x, .int q1, .int q2, .ref rd, .ref t, .ref d, .ref nw, .ref ps, .ref im, .ref is_, .int q10, .ref bk, .int q12, .ref qr, .ref pr, .ref cv, .ref ft])), (is_, .inl (cI, 2, .inl fis)), (ps, .inr (2, [.ref sh, .int p1, .int p2])), (im, .inr (6, [.int 2, .ref imc])), (imc, .inl (cI, 82, .inl (f_e_store2 fim fn i_))), (nw, .inr (7, [.ref nwc])), (nwc, .inl (cI, 41, .inl fn))] := hD
      refine lv_aload_n hx hb dX9_keep_24 rfl (lv_at hl 0 rfl) ?_
      refine va_get (D := D) (ci := 9) (v := .ref is_) (C := RX9) (T := TX9) (N := 17) hx hb hts iX9 hown hK hP 0 rfl rfl 9 (Nat.le_of_ble_eq_true rfl) (hts _ wd_106) (fun _ h9 => h9) rfl dX9_keep_25 ?_
      refine lv_iload_n hx hb dX9_keep_28 rfl (lv_at hl 1 rfl) ?_
      refine lv_aload_n hx hb dX9_keep_29 rfl (lv_at hl 0 rfl) ?_
      refine va_get (D := D) (ci := 9) (v := .int q12) (C := RX9) (T := TX9) (N := 17) hx hb hts iX9 hown hK hP 0 rfl rfl 12 (Nat.le_of_ble_eq_true rfl) (hts _ wd_114) (fun _ h9 => h9) rfl dX9_keep_30 ?_
      refine cSv (wr := [(h, .inr (9, [.ref x, .int q1, .int q2, .ref rd, .ref t, .ref d, .ref nw, .ref ps, .ref im, .ref is_, .int q10, .ref bk, .int q12, .ref qr, .ref pr, .ref cv, .ref ft])), (ps, .inr (2, [.ref sh, .int p1, .int p2])), (im, .inr (6, [.int 2, .ref imc])), (imc, .inl (cI, 82, .inl (f_e_store2 fim fn i_))), (nw, .inr (7, [.ref nwc])), (nwc, .inl (cI, 41, .inl fn))]) (rest := []) (k_put is_ 2 fis i_ q12 (of_decide_eq_true rfl)) okS_X9_put wd_340 hx hb hml hown hts hK hP hD hS hA hN hl.1 [1] [0, 2, 3, 4, 5, 6] rfl rfl rfl rfl (by decide) rfl (Nat.le_of_ble_eq_true rfl) (Nat.le_of_ble_eq_true rfl) (Nat.le_of_ble_eq_true rfl) (Nat.le_of_ble_eq_true rfl) (Nat.le_of_ble_eq_true rfl) dX9_keep_33 (fun u_5 H locs hw_u_5 hP hD hS => ?_)
      have hP : va_P D classes [(h, .inr (9, [.ref x, .int q1, .int q2, .ref rd, .ref t, .ref d, .ref nw, .ref ps, .ref im, .ref is_, .int q10, .ref bk, .int q12, .ref qr, .ref pr, .ref cv, .ref ft])), (ps, .inr (2, [.ref sh, .int p1, .int p2])), (im, .inr (6, [.int 2, .ref imc])), (imc, .inl (cI, 82, .inl (f_e_store2 fim fn i_))), (nw, .inr (7, [.ref nwc])), (nwc, .inl (cI, 41, .inl fn)), (is_, .inl (cI, 2, .inl (putF 2 fis i_ q12)))] H := hP
      have hD : va_D A [(h, .inr (9, [.ref x, .int q1, .int q2, .ref rd, .ref t, .ref d, .ref nw, .ref ps, .ref im, .ref is_, .int q10, .ref bk, .int q12, .ref qr, .ref pr, .ref cv, .ref ft])), (ps, .inr (2, [.ref sh, .int p1, .int p2])), (im, .inr (6, [.int 2, .ref imc])), (imc, .inl (cI, 82, .inl (f_e_store2 fim fn i_))), (nw, .inr (7, [.ref nwc])), (nwc, .inl (cI, 41, .inl fn)), (is_, .inl (cI, 2, .inl (putF 2 fis i_ q12)))] := hD
      refine lv_aload_n hx hb dX9_keep_36 rfl (lv_at hl 0 rfl) ?_
      refine lv_dup hx hb dX9_keep_37 rfl ?_
      refine va_get (D := D) (ci := 9) (v := .int q10) (C := RX9) (T := TX9) (N := 17) hx hb hts iX9 hown hK hP 0 rfl rfl 10 (Nat.le_of_ble_eq_true rfl) (hts _ wd_107) (fun _ h9 => h9) rfl dX9_keep_38 ?_
      refine lv_iconst (v := 1) hx hb dX9_keep_41 rfl ?_
      refine lv_iload_n hx hb dX9_keep_42 rfl (lv_at hl 1 rfl) ?_
      refine lv_ishl hx hb dX9_keep_43 ?_
      refine lv_ior hx hb dX9_keep_44 ?_
      refine va_put (D := D) (ci := 9) (v := .int (q10 ||| (1 <<< (i_ &&& 31)))) (ty := .int) (C := RX9) (T := TX9) (N := 17) hx hb hts iX9 tyX9 tyX9_ok nmX9 hown hK hP hD hS 0 rfl rfl 10 (Nat.le_of_ble_eq_true rfl) (hts _ wd_107) (fun _ h9 => h9) rfl (by decide +kernel) rfl rfl (Nat.le_of_ble_eq_true rfl) dX9_keep_45 (fun H locs hP hD hS => ?_)
      have hP : va_P D classes [(h, .inr (9, [.ref x, .int q1, .int q2, .ref rd, .ref t, .ref d, .ref nw, .ref ps, .ref im, .ref is_, .int (q10 ||| (1 <<< (i_ &&& 31))), .ref bk, .int q12, .ref qr, .ref pr, .ref cv, .ref ft])), (ps, .inr (2, [.ref sh, .int p1, .int p2])), (im, .inr (6, [.int 2, .ref imc])), (imc, .inl (cI, 82, .inl (f_e_store2 fim fn i_))), (nw, .inr (7, [.ref nwc])), (nwc, .inl (cI, 41, .inl fn)), (is_, .inl (cI, 2, .inl (putF 2 fis i_ q12)))] H := hP
      have hD : va_D A [(h, .inr (9, [.ref x, .int q1, .int q2, .ref rd, .ref t, .ref d, .ref nw, .ref ps, .ref im, .ref is_, .int (q10 ||| (1 <<< (i_ &&& 31))), .ref bk, .int q12, .ref qr, .ref pr, .ref cv, .ref ft])), (ps, .inr (2, [.ref sh, .int p1, .int p2])), (im, .inr (6, [.int 2, .ref imc])), (imc, .inl (cI, 82, .inl (f_e_store2 fim fn i_))), (nw, .inr (7, [.ref nwc])), (nwc, .inl (cI, 41, .inl fn)), (is_, .inl (cI, 2, .inl (putF 2 fis i_ q12)))] := hD
      refine lv_aload_n hx hb dX9_keep_48 rfl (lv_at hl 0 rfl) ?_
      refine va_get (D := D) (ci := 9) (v := .ref ps) (C := RX9) (T := TX9) (N := 17) hx hb hts iX9 hown hK hP 0 rfl rfl 7 (Nat.le_of_ble_eq_true rfl) (hts _ wd_102) (fun _ h9 => h9) rfl dX9_keep_49 ?_
      refine cVv (wr := [(h, .inr (9, [.ref x, .int q1, .int q2, .ref rd, .ref t, .ref d, .ref nw, .ref ps, .ref im, .ref is_, .int (q10 ||| (1 <<< (i_ &&& 31))), .ref bk, .int q12, .ref qr, .ref pr, .ref cv, .ref ft])), (im, .inr (6, [.int 2, .ref imc])), (imc, .inl (cI, 82, .inl (f_e_store2 fim fn i_))), (nw, .inr (7, [.ref nwc])), (nwc, .inl (cI, 41, .inl fn)), (is_, .inl (cI, 2, .inl (putF 2 fis i_ q12)))]) (rest := []) (e_forget_x2 ps sh p1 p2) okV_X2_forget wd_438 hx hb hml hown hts hK hP hD hS hA hN hl.1 [1] [0, 2, 3, 4, 5, 6] rfl rfl rfl rfl (of_decide_eq_true rfl) rfl rfl rfl (Nat.le_of_ble_eq_true rfl) (Nat.le_of_ble_eq_true rfl) (Nat.le_of_ble_eq_true rfl) (Nat.le_of_ble_eq_true rfl) (Nat.le_of_ble_eq_true rfl) dX9_keep_52 (fun u_7 H locs hw_u_7 hP hD hS => ?_)
      replace hw_u_7 : u_7 = (f_e_forget_x2 p1 p2) := hw_u_7
      subst hw_u_7
      have hP : va_P D classes [(h, .inr (9, [.ref x, .int q1, .int q2, .ref rd, .ref t, .ref d, .ref nw, .ref ps, .ref im, .ref is_, .int (q10 ||| (1 <<< (i_ &&& 31))), .ref bk, .int q12, .ref qr, .ref pr, .ref cv, .ref ft])), (im, .inr (6, [.int 2, .ref imc])), (imc, .inl (cI, 82, .inl (f_e_store2 fim fn i_))), (nw, .inr (7, [.ref nwc])), (nwc, .inl (cI, 41, .inl fn)), (is_, .inl (cI, 2, .inl (putF 2 fis i_ q12))), (ps, .inr (2, [.ref sh, .int p1, .int (f_e_forget_x2 p1 p2)]))] H := hP
      have hD : va_D A [(h, .inr (9, [.ref x, .int q1, .int q2, .ref rd, .ref t, .ref d, .ref nw, .ref ps, .ref im, .ref is_, .int (q10 ||| (1 <<< (i_ &&& 31))), .ref bk, .int q12, .ref qr, .ref pr, .ref cv, .ref ft])), (im, .inr (6, [.int 2, .ref imc])), (imc, .inl (cI, 82, .inl (f_e_store2 fim fn i_))), (nw, .inr (7, [.ref nwc])), (nwc, .inl (cI, 41, .inl fn)), (is_, .inl (cI, 2, .inl (putF 2 fis i_ q12))), (ps, .inr (2, [.ref sh, .int p1, .int (f_e_forget_x2 p1 p2)]))] := hD
      refine lv_iconst (v := 1) hx hb dX9_keep_55 rfl ?_
      exact hret 1 ((q10 ||| (1 <<< (i_ &&& 31))), (f_e_store2 fim fn i_), (putF 2 fis i_ q12), (f_e_forget_x2 p1 p2)) _ _ _ _ dX9_keep_56 rfl hE (cutP (isC := [0, 1, 2, 5, 3, 4, 6]) hP rfl) (cutD (isC := [0, 1, 2, 5, 3, 4, 6]) hD rfl rfl) hS
    · rw [if_neg c_2] at hE
      refine lv_ldc (v := (-1000000001)) hx hb hown (hts _ wd_346) dX9_keep_9 ?_
      exact hret (-1000000001) (q10, fim, fis, p2) _ _ _ _ dX9_keep_11 rfl hE hP hD hS
noncomputable def f_e_goBack_x9 (q1 : Int32) (q2 : Int32) (q10 : Int32) (q12 : Int32) (fim : Nat → Int32) (fis : Nat → Int32) (fn : Nat → Int32) (p1 : Int32) (p2 : Int32) (i_ : Int32) : Int32 × Int32 × (Nat → Int32) × Int32 := (if i_ < 0 then ((-1000000001), q12, fn, p2) else (if i_ < 2 then (if ((q10 >>> (i_ &&& 31)) &&& 1) = 0 then ((-1000000003), q12, fn, p2) else (1, (atF 2 fis i_), (f_e_fetch2 fim fn i_), (f_e_forget_x2 p1 p2))) else ((-1000000001), q12, fn, p2)))
def rm_e_goBack_x9 : Room := { frames := 2, cells := 0, slots := 0, locals := 82 }
set_option maxHeartbeats 4000000 in
set_option maxRecDepth 100000 in
theorem e_goBack_x9 {l : Launch} {D : va_G} {cI cZ : ClassId} {sz : Nat} (h x rd t d nw ps im is_ bk qr pr cv ft imc nwc sh : Nat) (q1 : Int32) (q2 : Int32) (q10 : Int32) (q12 : Int32) (fim : Nat → Int32) (fis : Nat → Int32) (fn : Nat → Int32) (p1 : Int32) (p2 : Int32) (i_ : Int32) : KI l yX9_goBack cX9_goBack 2 (some .int) rm_e_goBack_x9 D cI cZ [.ref h, .int i_] sz [(h, .inr (9, [.ref x, .int q1, .int q2, .ref rd, .ref t, .ref d, .ref nw, .ref ps, .ref im, .ref is_, .int q10, .ref bk, .int q12, .ref qr, .ref pr, .ref cv, .ref ft])), (im, .inr (6, [.int 2, .ref imc])), (imc, .inl (cI, 82, .inl fim)), (is_, .inl (cI, 2, .inl fis)), (nw, .inr (7, [.ref nwc])), (nwc, .inl (cI, 41, .inl fn)), (ps, .inr (2, [.ref sh, .int p1, .int p2]))] (fun (r : Int32) (u : Int32 × (Nat → Int32) × Int32) => (r, u) = f_e_goBack_x9 q1 q2 q10 q12 fim fis fn p1 p2 i_) (fun (u : Int32 × (Nat → Int32) × Int32) => [(h, .inr (9, [.ref x, .int q1, .int q2, .ref rd, .ref t, .ref d, .ref nw, .ref ps, .ref im, .ref is_, .int q10, .ref bk, .int (u.1), .ref qr, .ref pr, .ref cv, .ref ft])), (im, .inr (6, [.int 2, .ref imc])), (imc, .inl (cI, 82, .inl fim)), (is_, .inl (cI, 2, .inl fis)), (nw, .inr (7, [.ref nwc])), (nwc, .inl (cI, 41, .inl u.2.1)), (ps, .inr (2, [.ref sh, .int p1, .int (u.2.2)]))]) := by
  refine KI.go rfl (Nat.le_of_ble_eq_true rfl) ?_
  intro p e s m args below meth c ls A Q hx hb hml hts hown hin hP hK hD hS hA hN hl hret
  have hl : lv_has ls 2 [(0, .ref h), (1, .int i_)] := hl
  obtain ⟨RES, hE⟩ : ∃ xRES, f_e_goBack_x9 q1 q2 q10 q12 fim fis fn p1 p2 i_ = xRES := ⟨_, rfl⟩
  rw [hE] at hret
  rw [f_e_goBack_x9] at hE
  refine lv_iload_n hx hb dX9_goBack_0 rfl (lv_at hl 1 rfl) ?_
  refine lv_if_lt (tgt := 9) hx hb dX9_goBack_1 rfl (fun c_1 => ?_) (fun c_1 => ?_)
  · rw [if_pos c_1] at hE
    refine lv_ldc (v := (-1000000001)) hx hb hown (hts _ wd_346) dX9_goBack_9 ?_
    exact hret (-1000000001) (q12, fn, p2) _ _ _ _ dX9_goBack_11 rfl hE hP hD hS
  · rw [if_neg c_1] at hE
    refine lv_iload_n hx hb dX9_goBack_4 rfl (lv_at hl 1 rfl) ?_
    refine lv_iconst (v := 2) hx hb dX9_goBack_5 rfl ?_
    refine lv_icmp_lt (tgt := 12) hx hb dX9_goBack_6 rfl (fun c_2 => ?_) (fun c_2 => ?_)
    · rw [if_pos c_2] at hE
      refine lv_aload_n hx hb dX9_goBack_12 rfl (lv_at hl 0 rfl) ?_
      refine va_get (D := D) (ci := 9) (v := .int q10) (C := RX9) (T := TX9) (N := 17) hx hb hts iX9 hown hK hP 0 rfl rfl 10 (Nat.le_of_ble_eq_true rfl) (hts _ wd_107) (fun _ h9 => h9) rfl dX9_goBack_13 ?_
      refine lv_iload_n hx hb dX9_goBack_16 rfl (lv_at hl 1 rfl) ?_
      refine lv_ishr hx hb dX9_goBack_17 ?_
      refine lv_iconst (v := 1) hx hb dX9_goBack_18 rfl ?_
      refine lv_iand hx hb dX9_goBack_19 ?_
      refine lv_if_ne (tgt := 26) hx hb dX9_goBack_20 rfl (fun c_3 => ?_) (fun c_3 => ?_)
      · rw [if_neg c_3] at hE
        refine lv_aload_n hx hb dX9_goBack_26 rfl (lv_at hl 0 rfl) ?_
        refine va_get (D := D) (ci := 9) (v := .ref im) (C := RX9) (T := TX9) (N := 17) hx hb hts iX9 hown hK hP 0 rfl rfl 8 (Nat.le_of_ble_eq_true rfl) (hts _ wd_105) (fun _ h9 => h9) rfl dX9_goBack_27 ?_
        refine lv_iload_n hx hb dX9_goBack_30 rfl (lv_at hl 1 rfl) ?_
        refine lv_aload_n hx hb dX9_goBack_31 rfl (lv_at hl 0 rfl) ?_
        refine va_get (D := D) (ci := 9) (v := .ref nw) (C := RX9) (T := TX9) (N := 17) hx hb hts iX9 hown hK hP 0 rfl rfl 6 (Nat.le_of_ble_eq_true rfl) (hts _ wd_96) (fun _ h9 => h9) rfl dX9_goBack_32 ?_
        refine cVv (wr := [(h, .inr (9, [.ref x, .int q1, .int q2, .ref rd, .ref t, .ref d, .ref nw, .ref ps, .ref im, .ref is_, .int q10, .ref bk, .int q12, .ref qr, .ref pr, .ref cv, .ref ft])), (is_, .inl (cI, 2, .inl fis)), (ps, .inr (2, [.ref sh, .int p1, .int p2]))]) (rest := []) (e_fetch2 im imc nw nwc fim fn i_) okV_X6_fetch wd_442 hx hb hml hown hts hK hP hD hS hA hN hl.1 [1, 2, 4, 5] [0, 3, 6] rfl rfl rfl rfl (of_decide_eq_true rfl) rfl rfl rfl (Nat.le_of_ble_eq_true rfl) (Nat.le_of_ble_eq_true rfl) (Nat.le_of_ble_eq_true rfl) (Nat.le_of_ble_eq_true rfl) (Nat.le_of_ble_eq_true rfl) dX9_goBack_35 (fun u_4 H locs hw_u_4 hP hD hS => ?_)
        replace hw_u_4 : u_4 = (f_e_fetch2 fim fn i_) := hw_u_4
        subst hw_u_4
        have hP : va_P D classes [(h, .inr (9, [.ref x, .int q1, .int q2, .ref rd, .ref t, .ref d, .ref nw, .ref ps, .ref im, .ref is_, .int q10, .ref bk, .int q12, .ref qr, .ref pr, .ref cv, .ref ft])), (is_, .inl (cI, 2, .inl fis)), (ps, .inr (2, [.ref sh, .int p1, .int p2])), (im, .inr (6, [.int 2, .ref imc])), (imc, .inl (cI, 82, .inl fim)), (nw, .inr (7, [.ref nwc])), (nwc, .inl (cI, 41, .inl (f_e_fetch2 fim fn i_)))] H := hP
        have hD : va_D A [(h, .inr (9, [.ref x, .int q1, .int q2, .ref rd, .ref t, .ref d, .ref nw, .ref ps, .ref im, .ref is_, .int q10, .ref bk, .int q12, .ref qr, .ref pr, .ref cv, .ref ft])), (is_, .inl (cI, 2, .inl fis)), (ps, .inr (2, [.ref sh, .int p1, .int p2])), (im, .inr (6, [.int 2, .ref imc])), (imc, .inl (cI, 82, .inl fim)), (nw, .inr (7, [.ref nwc])), (nwc, .inl (cI, 41, .inl (f_e_fetch2 fim fn i_)))] := hD
        refine lv_aload_n hx hb dX9_goBack_38 rfl (lv_at hl 0 rfl) ?_
        refine lv_aload_n hx hb dX9_goBack_39 rfl (lv_at hl 0 rfl) ?_
        refine va_get (D := D) (ci := 9) (v := .ref is_) (C := RX9) (T := TX9) (N := 17) hx hb hts iX9 hown hK hP 0 rfl rfl 9 (Nat.le_of_ble_eq_true rfl) (hts _ wd_106) (fun _ h9 => h9) rfl dX9_goBack_40 ?_
        refine lv_iload_n hx hb dX9_goBack_43 rfl (lv_at hl 1 rfl) ?_
        refine cSi (wr := [(h, .inr (9, [.ref x, .int q1, .int q2, .ref rd, .ref t, .ref d, .ref nw, .ref ps, .ref im, .ref is_, .int q10, .ref bk, .int q12, .ref qr, .ref pr, .ref cv, .ref ft])), (ps, .inr (2, [.ref sh, .int p1, .int p2])), (im, .inr (6, [.int 2, .ref imc])), (imc, .inl (cI, 82, .inl fim)), (nw, .inr (7, [.ref nwc])), (nwc, .inl (cI, 41, .inl (f_e_fetch2 fim fn i_)))]) (rest := [.ref h]) (k_at is_ 2 fis i_ (of_decide_eq_true rfl)) okS_X9_at wd_258 hx hb hml hown hts hK hP hD hS hA hN hl.1 [1] [0, 2, 3, 4, 5, 6] rfl rfl rfl rfl (by decide) rfl (Nat.le_of_ble_eq_true rfl) (Nat.le_of_ble_eq_true rfl) (Nat.le_of_ble_eq_true rfl) (Nat.le_of_ble_eq_true rfl) (Nat.le_of_ble_eq_true rfl) dX9_goBack_44 (fun r_7 u_6 H locs hw_u_6 hP hD hS => ?_)
        obtain rfl := hw_u_6
        have hP : va_P D classes [(h, .inr (9, [.ref x, .int q1, .int q2, .ref rd, .ref t, .ref d, .ref nw, .ref ps, .ref im, .ref is_, .int q10, .ref bk, .int q12, .ref qr, .ref pr, .ref cv, .ref ft])), (ps, .inr (2, [.ref sh, .int p1, .int p2])), (im, .inr (6, [.int 2, .ref imc])), (imc, .inl (cI, 82, .inl fim)), (nw, .inr (7, [.ref nwc])), (nwc, .inl (cI, 41, .inl (f_e_fetch2 fim fn i_))), (is_, .inl (cI, 2, .inl fis))] H := hP
        have hD : va_D A [(h, .inr (9, [.ref x, .int q1, .int q2, .ref rd, .ref t, .ref d, .ref nw, .ref ps, .ref im, .ref is_, .int q10, .ref bk, .int q12, .ref qr, .ref pr, .ref cv, .ref ft])), (ps, .inr (2, [.ref sh, .int p1, .int p2])), (im, .inr (6, [.int 2, .ref imc])), (imc, .inl (cI, 82, .inl fim)), (nw, .inr (7, [.ref nwc])), (nwc, .inl (cI, 41, .inl (f_e_fetch2 fim fn i_))), (is_, .inl (cI, 2, .inl fis))] := hD
        refine va_put (D := D) (ci := 9) (v := .int (atF 2 fis i_)) (ty := .int) (C := RX9) (T := TX9) (N := 17) hx hb hts iX9 tyX9 tyX9_ok nmX9 hown hK hP hD hS 0 rfl rfl 12 (Nat.le_of_ble_eq_true rfl) (hts _ wd_114) (fun _ h9 => h9) rfl (by decide +kernel) rfl rfl (Nat.le_of_ble_eq_true rfl) dX9_goBack_47 (fun H locs hP hD hS => ?_)
        have hP : va_P D classes [(h, .inr (9, [.ref x, .int q1, .int q2, .ref rd, .ref t, .ref d, .ref nw, .ref ps, .ref im, .ref is_, .int q10, .ref bk, .int (atF 2 fis i_), .ref qr, .ref pr, .ref cv, .ref ft])), (ps, .inr (2, [.ref sh, .int p1, .int p2])), (im, .inr (6, [.int 2, .ref imc])), (imc, .inl (cI, 82, .inl fim)), (nw, .inr (7, [.ref nwc])), (nwc, .inl (cI, 41, .inl (f_e_fetch2 fim fn i_))), (is_, .inl (cI, 2, .inl fis))] H := hP
        have hD : va_D A [(h, .inr (9, [.ref x, .int q1, .int q2, .ref rd, .ref t, .ref d, .ref nw, .ref ps, .ref im, .ref is_, .int q10, .ref bk, .int (atF 2 fis i_), .ref qr, .ref pr, .ref cv, .ref ft])), (ps, .inr (2, [.ref sh, .int p1, .int p2])), (im, .inr (6, [.int 2, .ref imc])), (imc, .inl (cI, 82, .inl fim)), (nw, .inr (7, [.ref nwc])), (nwc, .inl (cI, 41, .inl (f_e_fetch2 fim fn i_))), (is_, .inl (cI, 2, .inl fis))] := hD
        refine lv_aload_n hx hb dX9_goBack_50 rfl (lv_at hl 0 rfl) ?_
        refine va_get (D := D) (ci := 9) (v := .ref ps) (C := RX9) (T := TX9) (N := 17) hx hb hts iX9 hown hK hP 0 rfl rfl 7 (Nat.le_of_ble_eq_true rfl) (hts _ wd_102) (fun _ h9 => h9) rfl dX9_goBack_51 ?_
        refine cVv (wr := [(h, .inr (9, [.ref x, .int q1, .int q2, .ref rd, .ref t, .ref d, .ref nw, .ref ps, .ref im, .ref is_, .int q10, .ref bk, .int (atF 2 fis i_), .ref qr, .ref pr, .ref cv, .ref ft])), (im, .inr (6, [.int 2, .ref imc])), (imc, .inl (cI, 82, .inl fim)), (nw, .inr (7, [.ref nwc])), (nwc, .inl (cI, 41, .inl (f_e_fetch2 fim fn i_))), (is_, .inl (cI, 2, .inl fis))]) (rest := []) (e_forget_x2 ps sh p1 p2) okV_X2_forget wd_438 hx hb hml hown hts hK hP hD hS hA hN hl.1 [1] [0, 2, 3, 4, 5, 6] rfl rfl rfl rfl (of_decide_eq_true rfl) rfl rfl rfl (Nat.le_of_ble_eq_true rfl) (Nat.le_of_ble_eq_true rfl) (Nat.le_of_ble_eq_true rfl) (Nat.le_of_ble_eq_true rfl) (Nat.le_of_ble_eq_true rfl) dX9_goBack_54 (fun u_8 H locs hw_u_8 hP hD hS => ?_)
        replace hw_u_8 : u_8 = (f_e_forget_x2 p1 p2) := hw_u_8
        subst hw_u_8
        have hP : va_P D classes [(h, .inr (9, [.ref x, .int q1, .int q2, .ref rd, .ref t, .ref d, .ref nw, .ref ps, .ref im, .ref is_, .int q10, .ref bk, .int (atF 2 fis i_), .ref qr, .ref pr, .ref cv, .ref ft])), (im, .inr (6, [.int 2, .ref imc])), (imc, .inl (cI, 82, .inl fim)), (nw, .inr (7, [.ref nwc])), (nwc, .inl (cI, 41, .inl (f_e_fetch2 fim fn i_))), (is_, .inl (cI, 2, .inl fis)), (ps, .inr (2, [.ref sh, .int p1, .int (f_e_forget_x2 p1 p2)]))] H := hP
        have hD : va_D A [(h, .inr (9, [.ref x, .int q1, .int q2, .ref rd, .ref t, .ref d, .ref nw, .ref ps, .ref im, .ref is_, .int q10, .ref bk, .int (atF 2 fis i_), .ref qr, .ref pr, .ref cv, .ref ft])), (im, .inr (6, [.int 2, .ref imc])), (imc, .inl (cI, 82, .inl fim)), (nw, .inr (7, [.ref nwc])), (nwc, .inl (cI, 41, .inl (f_e_fetch2 fim fn i_))), (is_, .inl (cI, 2, .inl fis)), (ps, .inr (2, [.ref sh, .int p1, .int (f_e_forget_x2 p1 p2)]))] := hD
        refine lv_iconst (v := 1) hx hb dX9_goBack_57 rfl ?_
        exact hret 1 ((atF 2 fis i_), (f_e_fetch2 fim fn i_), (f_e_forget_x2 p1 p2)) _ _ _ _ dX9_goBack_58 rfl hE (cutP (isC := [0, 1, 2, 5, 3, 4, 6]) hP rfl) (cutD (isC := [0, 1, 2, 5, 3, 4, 6]) hD rfl rfl) hS
      · rw [if_pos c_3] at hE
        refine lv_ldc (v := (-1000000003)) hx hb hown (hts _ wd_384) dX9_goBack_23 ?_
        exact hret (-1000000003) (q12, fn, p2) _ _ _ _ dX9_goBack_25 rfl hE hP hD hS
    · rw [if_neg c_2] at hE
      refine lv_ldc (v := (-1000000001)) hx hb hown (hts _ wd_346) dX9_goBack_9 ?_
      exact hret (-1000000001) (q12, fn, p2) _ _ _ _ dX9_goBack_11 rfl hE hP hD hS
end
section
def fw_cX9_pass : List (List Nat) := [[42, 180, 0, 30, 27, 182, 0, 199, 154, 0, 6, 18, 163, 172, 42, 180, 0, 40], [0, 40, 27, 182, 0, 208, 153, 0, 6, 18, 217, 172, 42, 180, 0, 40, 182, 0], [182, 0, 139, 18, 229, 164, 0, 6, 18, 105, 172, 42, 180, 0, 47, 42, 180, 0], [180, 0, 40, 182, 0, 218, 42, 180, 0, 30, 180, 0, 202, 27, 184, 0, 167, 8], [167, 8, 184, 0, 230, 61, 3, 62, 29, 28, 163, 0, 34, 42, 29, 182, 0, 235], [0, 235, 154, 0, 20, 42, 180, 0, 40, 27, 29, 182, 0, 238, 42, 180, 0, 40], [0, 40, 182, 0, 139, 172, 132, 3, 1, 167, 255, 223, 42, 180, 0, 40, 27, 42], [27, 42, 180, 0, 40, 182, 0, 139, 42, 180, 0, 30, 180, 0, 205, 27, 184, 0], [184, 0, 167, 163, 0, 7, 4, 167, 0, 4, 5, 182, 0, 241, 42, 180, 0, 40], [0, 40, 182, 0, 139, 172]]
theorem fW_cX9_pass : fq_wins 10 cX9_pass.data.toList = fw_cX9_pass := by decide +kernel
theorem fk_cX9_pass_0 : fq_ck cX9_pass 0 [42, 180, 0, 30, 27, 182, 0, 199, 154, 0, 6, 18, 163, 172, 42, 180, 0, 40] := fq_of fW_cX9_pass 0 rfl rfl
theorem dX9_pass_0 : decode cX9_pass 0 = .ok (.aload_n 0, 1) := fq_42 fk_cX9_pass_0 0 rfl rfl
theorem dX9_pass_1 : decode cX9_pass 1 = .ok (.getfield 30, 3) := fq_180 fk_cX9_pass_0 1 rfl rfl rfl rfl rfl
theorem dX9_pass_4 : decode cX9_pass 4 = .ok (.iload_n 1, 1) := fq_27 fk_cX9_pass_0 4 rfl rfl
theorem dX9_pass_5 : decode cX9_pass 5 = .ok (.invokevirtual 199, 3) := fq_182 fk_cX9_pass_0 5 rfl rfl rfl rfl rfl
theorem dX9_pass_8 : decode cX9_pass 8 = .ok (.ifCond .ne 6, 3) := fq_154 fk_cX9_pass_0 8 rfl rfl rfl rfl rfl
theorem dX9_pass_14 : decode cX9_pass 14 = .ok (.aload_n 0, 1) := fq_42 fk_cX9_pass_0 14 rfl rfl
theorem dX9_pass_15 : decode cX9_pass 15 = .ok (.getfield 40, 3) := fq_180 fk_cX9_pass_0 15 rfl rfl rfl rfl rfl
theorem fk_cX9_pass_1 : fq_ck cX9_pass 16 [0, 40, 27, 182, 0, 208, 153, 0, 6, 18, 217, 172, 42, 180, 0, 40, 182, 0] := fq_of fW_cX9_pass 1 rfl rfl
theorem dX9_pass_18 : decode cX9_pass 18 = .ok (.iload_n 1, 1) := fq_27 fk_cX9_pass_1 2 rfl rfl
theorem dX9_pass_19 : decode cX9_pass 19 = .ok (.invokevirtual 208, 3) := fq_182 fk_cX9_pass_1 3 rfl rfl rfl rfl rfl
theorem dX9_pass_22 : decode cX9_pass 22 = .ok (.ifCond .eq 6, 3) := fq_153 fk_cX9_pass_1 6 rfl rfl rfl rfl rfl
theorem dX9_pass_28 : decode cX9_pass 28 = .ok (.aload_n 0, 1) := fq_42 fk_cX9_pass_1 12 rfl rfl
theorem dX9_pass_29 : decode cX9_pass 29 = .ok (.getfield 40, 3) := fq_180 fk_cX9_pass_1 13 rfl rfl rfl rfl rfl
theorem fk_cX9_pass_2 : fq_ck cX9_pass 32 [182, 0, 139, 18, 229, 164, 0, 6, 18, 105, 172, 42, 180, 0, 47, 42, 180, 0] := fq_of fW_cX9_pass 2 rfl rfl
theorem dX9_pass_32 : decode cX9_pass 32 = .ok (.invokevirtual 139, 3) := fq_182 fk_cX9_pass_2 0 rfl rfl rfl rfl rfl
theorem dX9_pass_35 : decode cX9_pass 35 = .ok (.ldc 229, 2) := fq_18 fk_cX9_pass_2 3 rfl rfl rfl
theorem dX9_pass_37 : decode cX9_pass 37 = .ok (.if_icmp .le 6, 3) := fq_164 fk_cX9_pass_2 5 rfl rfl rfl rfl rfl
theorem dX9_pass_43 : decode cX9_pass 43 = .ok (.aload_n 0, 1) := fq_42 fk_cX9_pass_2 11 rfl rfl
theorem dX9_pass_44 : decode cX9_pass 44 = .ok (.getfield 47, 3) := fq_180 fk_cX9_pass_2 12 rfl rfl rfl rfl rfl
theorem dX9_pass_47 : decode cX9_pass 47 = .ok (.aload_n 0, 1) := fq_42 fk_cX9_pass_2 15 rfl rfl
theorem fk_cX9_pass_3 : fq_ck cX9_pass 48 [180, 0, 40, 182, 0, 218, 42, 180, 0, 30, 180, 0, 202, 27, 184, 0, 167, 8] := fq_of fW_cX9_pass 3 rfl rfl
theorem dX9_pass_48 : decode cX9_pass 48 = .ok (.getfield 40, 3) := fq_180 fk_cX9_pass_3 0 rfl rfl rfl rfl rfl
theorem dX9_pass_51 : decode cX9_pass 51 = .ok (.invokevirtual 218, 3) := fq_182 fk_cX9_pass_3 3 rfl rfl rfl rfl rfl
theorem dX9_pass_54 : decode cX9_pass 54 = .ok (.aload_n 0, 1) := fq_42 fk_cX9_pass_3 6 rfl rfl
theorem dX9_pass_55 : decode cX9_pass 55 = .ok (.getfield 30, 3) := fq_180 fk_cX9_pass_3 7 rfl rfl rfl rfl rfl
theorem dX9_pass_58 : decode cX9_pass 58 = .ok (.getfield 202, 3) := fq_180 fk_cX9_pass_3 10 rfl rfl rfl rfl rfl
theorem dX9_pass_61 : decode cX9_pass 61 = .ok (.iload_n 1, 1) := fq_27 fk_cX9_pass_3 13 rfl rfl
theorem dX9_pass_62 : decode cX9_pass 62 = .ok (.invokestatic 167, 3) := fq_184 fk_cX9_pass_3 14 rfl rfl rfl rfl rfl
theorem fk_cX9_pass_4 : fq_ck cX9_pass 64 [167, 8, 184, 0, 230, 61, 3, 62, 29, 28, 163, 0, 34, 42, 29, 182, 0, 235] := fq_of fW_cX9_pass 4 rfl rfl
theorem dX9_pass_65 : decode cX9_pass 65 = .ok (.iconst 5, 1) := fq_8 fk_cX9_pass_4 1 rfl rfl
theorem dX9_pass_66 : decode cX9_pass 66 = .ok (.invokestatic 230, 3) := fq_184 fk_cX9_pass_4 2 rfl rfl rfl rfl rfl
theorem dX9_pass_69 : decode cX9_pass 69 = .ok (.istore_n 2, 1) := fq_61 fk_cX9_pass_4 5 rfl rfl
theorem dX9_pass_70 : decode cX9_pass 70 = .ok (.iconst 0, 1) := fq_3 fk_cX9_pass_4 6 rfl rfl
theorem dX9_pass_71 : decode cX9_pass 71 = .ok (.istore_n 3, 1) := fq_62 fk_cX9_pass_4 7 rfl rfl
theorem fk_cX9_pass_6 : fq_ck cX9_pass 96 [0, 40, 182, 0, 139, 172, 132, 3, 1, 167, 255, 223, 42, 180, 0, 40, 27, 42] := fq_of fW_cX9_pass 6 rfl rfl
theorem dX9_pass_108 : decode cX9_pass 108 = .ok (.aload_n 0, 1) := fq_42 fk_cX9_pass_6 12 rfl rfl
theorem dX9_pass_109 : decode cX9_pass 109 = .ok (.getfield 40, 3) := fq_180 fk_cX9_pass_6 13 rfl rfl rfl rfl rfl
theorem fk_cX9_pass_7 : fq_ck cX9_pass 112 [27, 42, 180, 0, 40, 182, 0, 139, 42, 180, 0, 30, 180, 0, 205, 27, 184, 0] := fq_of fW_cX9_pass 7 rfl rfl
theorem dX9_pass_112 : decode cX9_pass 112 = .ok (.iload_n 1, 1) := fq_27 fk_cX9_pass_7 0 rfl rfl
theorem dX9_pass_113 : decode cX9_pass 113 = .ok (.aload_n 0, 1) := fq_42 fk_cX9_pass_7 1 rfl rfl
theorem dX9_pass_114 : decode cX9_pass 114 = .ok (.getfield 40, 3) := fq_180 fk_cX9_pass_7 2 rfl rfl rfl rfl rfl
theorem dX9_pass_117 : decode cX9_pass 117 = .ok (.invokevirtual 139, 3) := fq_182 fk_cX9_pass_7 5 rfl rfl rfl rfl rfl
theorem dX9_pass_120 : decode cX9_pass 120 = .ok (.aload_n 0, 1) := fq_42 fk_cX9_pass_7 8 rfl rfl
theorem dX9_pass_121 : decode cX9_pass 121 = .ok (.getfield 30, 3) := fq_180 fk_cX9_pass_7 9 rfl rfl rfl rfl rfl
theorem dX9_pass_124 : decode cX9_pass 124 = .ok (.getfield 205, 3) := fq_180 fk_cX9_pass_7 12 rfl rfl rfl rfl rfl
theorem dX9_pass_127 : decode cX9_pass 127 = .ok (.iload_n 1, 1) := fq_27 fk_cX9_pass_7 15 rfl rfl
theorem fk_cX9_pass_8 : fq_ck cX9_pass 128 [184, 0, 167, 163, 0, 7, 4, 167, 0, 4, 5, 182, 0, 241, 42, 180, 0, 40] := fq_of fW_cX9_pass 8 rfl rfl
theorem dX9_pass_128 : decode cX9_pass 128 = .ok (.invokestatic 167, 3) := fq_184 fk_cX9_pass_8 0 rfl rfl rfl rfl rfl
theorem dX9_pass_131 : decode cX9_pass 131 = .ok (.if_icmp .gt 7, 3) := fq_163 fk_cX9_pass_8 3 rfl rfl rfl rfl rfl
theorem dX9_pass_138 : decode cX9_pass 138 = .ok (.iconst 2, 1) := fq_5 fk_cX9_pass_8 10 rfl rfl
theorem dX9_pass_139 : decode cX9_pass 139 = .ok (.invokevirtual 241, 3) := fq_182 fk_cX9_pass_8 11 rfl rfl rfl rfl rfl
theorem wd_443 : Cond.methodLink RX9 241 yX7_letThrough ∈ BG := BG_at3 91 (by decide +kernel) rfl
theorem wd_444 : Cond.code yX7_letThrough cX7_letThrough 3 none ∈ BG := BG_at3 94 rfl rfl
theorem wd_445 : Cond.instanceMethod yX7_letThrough ∈ BG := BG_at3 92 (by decide +kernel) rfl
theorem wd_446 : Cond.selects RX7 yX7_letThrough yX7_letThrough ∈ BG := BG_at3 93 (by decide +kernel) rfl
theorem okV_X7_letThrough : okV yX7_letThrough cX7_letThrough 3 none 2 := ⟨⟨wd_444, wd_93, by decide +kernel⟩, wd_445, wd_446⟩
theorem dX9_pass_142 : decode cX9_pass 142 = .ok (.aload_n 0, 1) := fq_42 fk_cX9_pass_8 14 rfl rfl
theorem dX9_pass_143 : decode cX9_pass 143 = .ok (.getfield 40, 3) := fq_180 fk_cX9_pass_8 15 rfl rfl rfl rfl rfl
theorem fk_cX9_pass_9 : fq_ck cX9_pass 144 [0, 40, 182, 0, 139, 172] := fq_of fW_cX9_pass 9 rfl rfl
theorem dX9_pass_146 : decode cX9_pass 146 = .ok (.invokevirtual 139, 3) := fq_182 fk_cX9_pass_9 2 rfl rfl rfl rfl rfl
theorem dX9_pass_149 : decode cX9_pass 149 = .ok (.ireturn, 1) := fq_172 fk_cX9_pass_9 5 rfl rfl
theorem dX9_pass_134 : decode cX9_pass 134 = .ok (.iconst 1, 1) := fq_4 fk_cX9_pass_8 6 rfl rfl
theorem dX9_pass_135 : decode cX9_pass 135 = .ok (.goto 4, 3) := fq_167 fk_cX9_pass_8 7 rfl rfl rfl rfl rfl
theorem dX9_pass_72 : decode cX9_pass 72 = .ok (.iload_n 3, 1) := fq_29 fk_cX9_pass_4 8 rfl rfl
theorem dX9_pass_73 : decode cX9_pass 73 = .ok (.iload_n 2, 1) := fq_28 fk_cX9_pass_4 9 rfl rfl
theorem dX9_pass_74 : decode cX9_pass 74 = .ok (.if_icmp .gt 34, 3) := fq_163 fk_cX9_pass_4 10 rfl rfl rfl rfl rfl
theorem dX9_pass_77 : decode cX9_pass 77 = .ok (.aload_n 0, 1) := fq_42 fk_cX9_pass_4 13 rfl rfl
theorem dX9_pass_78 : decode cX9_pass 78 = .ok (.iload_n 3, 1) := fq_29 fk_cX9_pass_4 14 rfl rfl
theorem dX9_pass_79 : decode cX9_pass 79 = .ok (.invokevirtual 235, 3) := fq_182 fk_cX9_pass_4 15 rfl rfl rfl rfl rfl
theorem wd_447 : Cond.methodLink RX9 235 yX9_swing ∈ BG := BG_at3 58 (by decide +kernel) rfl
theorem wd_448 : Cond.code yX9_swing cX9_swing 3 (some .boolean) ∈ BG := BG_at3 61 rfl rfl
theorem wd_449 : Cond.instanceMethod yX9_swing ∈ BG := BG_at3 60 (by decide +kernel) rfl
theorem wd_450 : Cond.selects RX9 yX9_swing yX9_swing ∈ BG := BG_in (by decide +kernel) rfl
theorem okV_X9_swing : okV yX9_swing cX9_swing 3 (some .boolean) 1 := ⟨⟨wd_448, wd_71, by decide +kernel⟩, wd_449, wd_450⟩
theorem fk_cX9_pass_5 : fq_ck cX9_pass 80 [0, 235, 154, 0, 20, 42, 180, 0, 40, 27, 29, 182, 0, 238, 42, 180, 0, 40] := fq_of fW_cX9_pass 5 rfl rfl
theorem dX9_pass_82 : decode cX9_pass 82 = .ok (.ifCond .ne 20, 3) := fq_154 fk_cX9_pass_5 2 rfl rfl rfl rfl rfl
theorem dX9_pass_102 : decode cX9_pass 102 = .ok (.iinc 3 1, 3) := fq_132 fk_cX9_pass_6 6 rfl rfl rfl rfl rfl
theorem dX9_pass_105 : decode cX9_pass 105 = .ok (.goto (-33), 3) := fq_167 fk_cX9_pass_6 9 rfl rfl rfl rfl rfl
theorem dX9_pass_85 : decode cX9_pass 85 = .ok (.aload_n 0, 1) := fq_42 fk_cX9_pass_5 5 rfl rfl
theorem dX9_pass_86 : decode cX9_pass 86 = .ok (.getfield 40, 3) := fq_180 fk_cX9_pass_5 6 rfl rfl rfl rfl rfl
theorem dX9_pass_89 : decode cX9_pass 89 = .ok (.iload_n 1, 1) := fq_27 fk_cX9_pass_5 9 rfl rfl
theorem dX9_pass_90 : decode cX9_pass 90 = .ok (.iload_n 3, 1) := fq_29 fk_cX9_pass_5 10 rfl rfl
theorem dX9_pass_91 : decode cX9_pass 91 = .ok (.invokevirtual 238, 3) := fq_182 fk_cX9_pass_5 11 rfl rfl rfl rfl rfl
theorem wd_451 : Cond.methodLink RX9 238 yX7_lay ∈ BG := BG_at3 87 (by decide +kernel) rfl
theorem wd_452 : Cond.code yX7_lay cX7_lay 3 none ∈ BG := BG_at3 90 rfl rfl
theorem wd_453 : Cond.instanceMethod yX7_lay ∈ BG := BG_at3 88 (by decide +kernel) rfl
theorem wd_454 : Cond.selects RX7 yX7_lay yX7_lay ∈ BG := BG_at3 89 (by decide +kernel) rfl
theorem okV_X7_lay : okV yX7_lay cX7_lay 3 none 2 := ⟨⟨wd_452, wd_93, by decide +kernel⟩, wd_453, wd_454⟩
theorem dX9_pass_94 : decode cX9_pass 94 = .ok (.aload_n 0, 1) := fq_42 fk_cX9_pass_5 14 rfl rfl
theorem dX9_pass_95 : decode cX9_pass 95 = .ok (.getfield 40, 3) := fq_180 fk_cX9_pass_5 15 rfl rfl rfl rfl rfl
theorem dX9_pass_98 : decode cX9_pass 98 = .ok (.invokevirtual 139, 3) := fq_182 fk_cX9_pass_6 2 rfl rfl rfl rfl rfl
theorem dX9_pass_101 : decode cX9_pass 101 = .ok (.ireturn, 1) := fq_172 fk_cX9_pass_6 5 rfl rfl
theorem dX9_pass_40 : decode cX9_pass 40 = .ok (.ldc 105, 2) := fq_18 fk_cX9_pass_2 8 rfl rfl rfl
theorem dX9_pass_42 : decode cX9_pass 42 = .ok (.ireturn, 1) := fq_172 fk_cX9_pass_2 10 rfl rfl
theorem dX9_pass_25 : decode cX9_pass 25 = .ok (.ldc 217, 2) := fq_18 fk_cX9_pass_1 9 rfl rfl rfl
theorem dX9_pass_27 : decode cX9_pass 27 = .ok (.ireturn, 1) := fq_172 fk_cX9_pass_1 11 rfl rfl
theorem dX9_pass_11 : decode cX9_pass 11 = .ok (.ldc 163, 2) := fq_18 fk_cX9_pass_0 11 rfl rfl rfl
theorem dX9_pass_13 : decode cX9_pass 13 = .ok (.ireturn, 1) := fq_172 fk_cX9_pass_0 13 rfl rfl
def fw_cX9_who : List (List Nat) := [[42, 180, 0, 30, 27, 182, 0, 159, 153, 0, 17, 28, 2, 159, 0, 15, 28, 155], [28, 155, 0, 8, 28, 27, 164, 0, 6, 18, 163, 172, 3, 62, 29, 27, 163, 0], [163, 0, 47, 3, 54, 4, 21, 4, 42, 180, 0, 30, 180, 0, 130, 162, 0, 26], [0, 26, 42, 180, 0, 86, 29, 21, 4, 42, 21, 4, 29, 182, 1, 16, 182, 1], [182, 1, 19, 132, 4, 1, 167, 255, 224, 132, 3, 1, 167, 255, 210, 42, 180, 0], [180, 0, 86, 27, 42, 180, 0, 30, 180, 0, 130, 182, 1, 22, 28, 2, 160, 0], [160, 0, 13, 42, 180, 0, 86, 182, 1, 25, 167, 0, 11, 42, 180, 0, 86, 28], [86, 28, 182, 1, 27, 172]]
theorem fW_cX9_who : fq_wins 8 cX9_who.data.toList = fw_cX9_who := by decide +kernel
theorem fk_cX9_who_0 : fq_ck cX9_who 0 [42, 180, 0, 30, 27, 182, 0, 159, 153, 0, 17, 28, 2, 159, 0, 15, 28, 155] := fq_of fW_cX9_who 0 rfl rfl
theorem dX9_who_0 : decode cX9_who 0 = .ok (.aload_n 0, 1) := fq_42 fk_cX9_who_0 0 rfl rfl
theorem dX9_who_1 : decode cX9_who 1 = .ok (.getfield 30, 3) := fq_180 fk_cX9_who_0 1 rfl rfl rfl rfl rfl
theorem dX9_who_4 : decode cX9_who 4 = .ok (.iload_n 1, 1) := fq_27 fk_cX9_who_0 4 rfl rfl
theorem dX9_who_5 : decode cX9_who 5 = .ok (.invokevirtual 159, 3) := fq_182 fk_cX9_who_0 5 rfl rfl rfl rfl rfl
theorem dX9_who_8 : decode cX9_who 8 = .ok (.ifCond .eq 17, 3) := fq_153 fk_cX9_who_0 8 rfl rfl rfl rfl rfl
theorem fk_cX9_who_1 : fq_ck cX9_who 16 [28, 155, 0, 8, 28, 27, 164, 0, 6, 18, 163, 172, 3, 62, 29, 27, 163, 0] := fq_of fW_cX9_who 1 rfl rfl
theorem dX9_who_25 : decode cX9_who 25 = .ok (.ldc 163, 2) := fq_18 fk_cX9_who_1 9 rfl rfl rfl
theorem dX9_who_27 : decode cX9_who 27 = .ok (.ireturn, 1) := fq_172 fk_cX9_who_1 11 rfl rfl
theorem dX9_who_11 : decode cX9_who 11 = .ok (.iload_n 2, 1) := fq_28 fk_cX9_who_0 11 rfl rfl
theorem dX9_who_12 : decode cX9_who 12 = .ok (.iconst (-1), 1) := fq_2 fk_cX9_who_0 12 rfl rfl
theorem dX9_who_13 : decode cX9_who 13 = .ok (.if_icmp .eq 15, 3) := fq_159 fk_cX9_who_0 13 rfl rfl rfl rfl rfl
theorem dX9_who_28 : decode cX9_who 28 = .ok (.iconst 0, 1) := fq_3 fk_cX9_who_1 12 rfl rfl
theorem dX9_who_29 : decode cX9_who 29 = .ok (.istore_n 3, 1) := fq_62 fk_cX9_who_1 13 rfl rfl
theorem fk_cX9_who_4 : fq_ck cX9_who 64 [182, 1, 19, 132, 4, 1, 167, 255, 224, 132, 3, 1, 167, 255, 210, 42, 180, 0] := fq_of fW_cX9_who 4 rfl rfl
theorem dX9_who_79 : decode cX9_who 79 = .ok (.aload_n 0, 1) := fq_42 fk_cX9_who_4 15 rfl rfl
theorem fk_cX9_who_5 : fq_ck cX9_who 80 [180, 0, 86, 27, 42, 180, 0, 30, 180, 0, 130, 182, 1, 22, 28, 2, 160, 0] := fq_of fW_cX9_who 5 rfl rfl
theorem dX9_who_80 : decode cX9_who 80 = .ok (.getfield 86, 3) := fq_180 fk_cX9_who_5 0 rfl rfl rfl rfl rfl
theorem dX9_who_83 : decode cX9_who 83 = .ok (.iload_n 1, 1) := fq_27 fk_cX9_who_5 3 rfl rfl
theorem dX9_who_84 : decode cX9_who 84 = .ok (.aload_n 0, 1) := fq_42 fk_cX9_who_5 4 rfl rfl
theorem dX9_who_85 : decode cX9_who 85 = .ok (.getfield 30, 3) := fq_180 fk_cX9_who_5 5 rfl rfl rfl rfl rfl
theorem dX9_who_88 : decode cX9_who 88 = .ok (.getfield 130, 3) := fq_180 fk_cX9_who_5 8 rfl rfl rfl rfl rfl
theorem dX9_who_91 : decode cX9_who 91 = .ok (.invokevirtual 278, 3) := fq_182 fk_cX9_who_5 11 rfl rfl rfl rfl rfl
theorem wd_455 : Cond.methodLink RX9 278 yX3_solve ∈ BG := BG_at3 154 (by decide +kernel) rfl
theorem wd_456 : Cond.code yX3_solve cX3_solve 6 none ∈ BG := BG_at3 157 rfl rfl
theorem wd_457 : Cond.instanceMethod yX3_solve ∈ BG := BG_at3 155 (by decide +kernel) rfl
theorem wd_458 : Cond.selects RX3 yX3_solve yX3_solve ∈ BG := BG_at3 156 (by decide +kernel) rfl
theorem okV_X3_solve : okV yX3_solve cX3_solve 6 none 2 := ⟨⟨wd_456, wd_123, by decide +kernel⟩, wd_457, wd_458⟩
theorem dX9_who_94 : decode cX9_who 94 = .ok (.iload_n 2, 1) := fq_28 fk_cX9_who_5 14 rfl rfl
theorem dX9_who_95 : decode cX9_who 95 = .ok (.iconst (-1), 1) := fq_2 fk_cX9_who_5 15 rfl rfl
theorem fk_cX9_who_6 : fq_ck cX9_who 96 [160, 0, 13, 42, 180, 0, 86, 182, 1, 25, 167, 0, 11, 42, 180, 0, 86, 28] := fq_of fW_cX9_who 6 rfl rfl
theorem dX9_who_96 : decode cX9_who 96 = .ok (.if_icmp .ne 13, 3) := fq_160 fk_cX9_who_6 0 rfl rfl rfl rfl rfl
theorem dX9_who_109 : decode cX9_who 109 = .ok (.aload_n 0, 1) := fq_42 fk_cX9_who_6 13 rfl rfl
theorem dX9_who_110 : decode cX9_who 110 = .ok (.getfield 86, 3) := fq_180 fk_cX9_who_6 14 rfl rfl rfl rfl rfl
theorem fk_cX9_who_7 : fq_ck cX9_who 112 [86, 28, 182, 1, 27, 172] := fq_of fW_cX9_who 7 rfl rfl
theorem dX9_who_113 : decode cX9_who 113 = .ok (.iload_n 2, 1) := fq_28 fk_cX9_who_7 1 rfl rfl
theorem dX9_who_114 : decode cX9_who 114 = .ok (.invokevirtual 283, 3) := fq_182 fk_cX9_who_7 2 rfl rfl rfl rfl rfl
theorem wd_459 : Cond.methodLink RX9 283 yX3_coupleOf ∈ BG := BG_at3 173 (by decide +kernel) rfl
theorem wd_460 : Cond.code yX3_coupleOf cX3_coupleOf 5 (some .int) ∈ BG := BG_at3 176 rfl rfl
theorem wd_461 : Cond.instanceMethod yX3_coupleOf ∈ BG := BG_at3 174 (by decide +kernel) rfl
theorem wd_462 : Cond.selects RX3 yX3_coupleOf yX3_coupleOf ∈ BG := BG_at3 175 (by decide +kernel) rfl
theorem okV_X3_coupleOf : okV yX3_coupleOf cX3_coupleOf 5 (some .int) 1 := ⟨⟨wd_460, wd_123, by decide +kernel⟩, wd_461, wd_462⟩
theorem dX9_who_117 : decode cX9_who 117 = .ok (.ireturn, 1) := fq_172 fk_cX9_who_7 5 rfl rfl
theorem dX9_who_99 : decode cX9_who 99 = .ok (.aload_n 0, 1) := fq_42 fk_cX9_who_6 3 rfl rfl
theorem dX9_who_100 : decode cX9_who 100 = .ok (.getfield 86, 3) := fq_180 fk_cX9_who_6 4 rfl rfl rfl rfl rfl
theorem dX9_who_103 : decode cX9_who 103 = .ok (.invokevirtual 281, 3) := fq_182 fk_cX9_who_6 7 rfl rfl rfl rfl rfl
theorem wd_463 : Cond.methodLink RX9 281 yX3_cost ∈ BG := BG_at3 169 (by decide +kernel) rfl
theorem wd_464 : Cond.code yX3_cost cX3_cost 1 (some .int) ∈ BG := BG_at3 172 rfl rfl
theorem wd_465 : Cond.instanceMethod yX3_cost ∈ BG := BG_at3 170 (by decide +kernel) rfl
theorem wd_466 : Cond.selects RX3 yX3_cost yX3_cost ∈ BG := BG_at3 171 (by decide +kernel) rfl
theorem okV_X3_cost : okV yX3_cost cX3_cost 1 (some .int) 0 := ⟨⟨wd_464, wd_123, by decide +kernel⟩, wd_465, wd_466⟩
theorem dX9_who_106 : decode cX9_who 106 = .ok (.goto 11, 3) := fq_167 fk_cX9_who_6 10 rfl rfl rfl rfl rfl
theorem dX9_who_30 : decode cX9_who 30 = .ok (.iload_n 3, 1) := fq_29 fk_cX9_who_1 14 rfl rfl
theorem dX9_who_31 : decode cX9_who 31 = .ok (.iload_n 1, 1) := fq_27 fk_cX9_who_1 15 rfl rfl
theorem fk_cX9_who_2 : fq_ck cX9_who 32 [163, 0, 47, 3, 54, 4, 21, 4, 42, 180, 0, 30, 180, 0, 130, 162, 0, 26] := fq_of fW_cX9_who 2 rfl rfl
theorem dX9_who_32 : decode cX9_who 32 = .ok (.if_icmp .gt 47, 3) := fq_163 fk_cX9_who_2 0 rfl rfl rfl rfl rfl
theorem dX9_who_35 : decode cX9_who 35 = .ok (.iconst 0, 1) := fq_3 fk_cX9_who_2 3 rfl rfl
theorem dX9_who_36 : decode cX9_who 36 = .ok (.istore 4, 2) := fq_54 fk_cX9_who_2 4 rfl rfl rfl
theorem dX9_who_73 : decode cX9_who 73 = .ok (.iinc 3 1, 3) := fq_132 fk_cX9_who_4 9 rfl rfl rfl rfl rfl
theorem dX9_who_76 : decode cX9_who 76 = .ok (.goto (-46), 3) := fq_167 fk_cX9_who_4 12 rfl rfl rfl rfl rfl
theorem dX9_who_38 : decode cX9_who 38 = .ok (.iload 4, 2) := fq_21 fk_cX9_who_2 6 rfl rfl rfl
theorem dX9_who_40 : decode cX9_who 40 = .ok (.aload_n 0, 1) := fq_42 fk_cX9_who_2 8 rfl rfl
theorem dX9_who_41 : decode cX9_who 41 = .ok (.getfield 30, 3) := fq_180 fk_cX9_who_2 9 rfl rfl rfl rfl rfl
theorem dX9_who_44 : decode cX9_who 44 = .ok (.getfield 130, 3) := fq_180 fk_cX9_who_2 12 rfl rfl rfl rfl rfl
theorem dX9_who_47 : decode cX9_who 47 = .ok (.if_icmp .ge 26, 3) := fq_162 fk_cX9_who_2 15 rfl rfl rfl rfl rfl
theorem fk_cX9_who_3 : fq_ck cX9_who 48 [0, 26, 42, 180, 0, 86, 29, 21, 4, 42, 21, 4, 29, 182, 1, 16, 182, 1] := fq_of fW_cX9_who 3 rfl rfl
theorem dX9_who_50 : decode cX9_who 50 = .ok (.aload_n 0, 1) := fq_42 fk_cX9_who_3 2 rfl rfl
theorem dX9_who_51 : decode cX9_who 51 = .ok (.getfield 86, 3) := fq_180 fk_cX9_who_3 3 rfl rfl rfl rfl rfl
theorem dX9_who_54 : decode cX9_who 54 = .ok (.iload_n 3, 1) := fq_29 fk_cX9_who_3 6 rfl rfl
theorem dX9_who_55 : decode cX9_who 55 = .ok (.iload 4, 2) := fq_21 fk_cX9_who_3 7 rfl rfl rfl
theorem dX9_who_57 : decode cX9_who 57 = .ok (.aload_n 0, 1) := fq_42 fk_cX9_who_3 9 rfl rfl
theorem dX9_who_58 : decode cX9_who 58 = .ok (.iload 4, 2) := fq_21 fk_cX9_who_3 10 rfl rfl rfl
theorem dX9_who_60 : decode cX9_who 60 = .ok (.iload_n 3, 1) := fq_29 fk_cX9_who_3 12 rfl rfl
theorem dX9_who_61 : decode cX9_who 61 = .ok (.invokevirtual 272, 3) := fq_182 fk_cX9_who_3 13 rfl rfl rfl rfl rfl
theorem dX9_who_64 : decode cX9_who 64 = .ok (.invokevirtual 275, 3) := fq_182 fk_cX9_who_4 0 rfl rfl rfl rfl rfl
theorem wd_467 : Cond.methodLink RX9 275 yX3_ask ∈ BG := BG_at3 149 (by decide +kernel) rfl
theorem wd_468 : Cond.code yX3_ask cX3_ask 4 none ∈ BG := BG_at3 152 rfl rfl
theorem wd_469 : Cond.instanceMethod yX3_ask ∈ BG := BG_at3 150 (by decide +kernel) rfl
theorem wd_470 : Cond.selects RX3 yX3_ask yX3_ask ∈ BG := BG_at3 151 (by decide +kernel) rfl
theorem okV_X3_ask : okV yX3_ask cX3_ask 4 none 3 := ⟨⟨wd_468, wd_123, by decide +kernel⟩, wd_469, wd_470⟩
theorem dX9_who_67 : decode cX9_who 67 = .ok (.iinc 4 1, 3) := fq_132 fk_cX9_who_4 3 rfl rfl rfl rfl rfl
theorem dX9_who_70 : decode cX9_who 70 = .ok (.goto (-32), 3) := fq_167 fk_cX9_who_4 6 rfl rfl rfl rfl rfl
theorem dX9_who_16 : decode cX9_who 16 = .ok (.iload_n 2, 1) := fq_28 fk_cX9_who_1 0 rfl rfl
theorem dX9_who_17 : decode cX9_who 17 = .ok (.ifCond .lt 8, 3) := fq_155 fk_cX9_who_1 1 rfl rfl rfl rfl rfl
theorem dX9_who_20 : decode cX9_who 20 = .ok (.iload_n 2, 1) := fq_28 fk_cX9_who_1 4 rfl rfl
theorem dX9_who_21 : decode cX9_who 21 = .ok (.iload_n 1, 1) := fq_27 fk_cX9_who_1 5 rfl rfl
theorem dX9_who_22 : decode cX9_who 22 = .ok (.if_icmp .le 6, 3) := fq_164 fk_cX9_who_1 6 rfl rfl rfl rfl rfl
def fw_cX9_toldHer : List (List Nat) := [[42, 180, 0, 30, 27, 182, 0, 159, 154, 0, 6, 18, 163, 172, 28, 4, 161, 0], [161, 0, 9, 28, 16, 60, 164, 0, 6, 18, 104, 172, 3, 54, 4, 3, 54, 5], [54, 5, 3, 54, 6, 21, 6, 42, 180, 0, 30, 180, 0, 130, 162, 0, 138, 3], [138, 3, 54, 7, 21, 7, 42, 180, 0, 30, 180, 0, 127, 162, 0, 117, 42, 180], [42, 180, 0, 79, 42, 180, 0, 30, 180, 0, 180, 21, 6, 184, 0, 167, 42, 180], [42, 180, 0, 30, 21, 6, 21, 7, 182, 0, 195, 42, 180, 0, 30, 180, 0, 136], [0, 136, 42, 180, 0, 30, 180, 0, 164, 27, 184, 0, 167, 182, 1, 45, 42, 180], [42, 180, 0, 79, 180, 1, 4, 154, 0, 53, 42, 180, 0, 79, 180, 1, 49, 153], [49, 153, 0, 43, 42, 180, 0, 79, 180, 1, 8, 28, 160, 0, 32, 42, 180, 0], [180, 0, 97, 21, 4, 16, 10, 21, 6, 104, 21, 7, 96, 184, 0, 106, 132, 4], [132, 4, 1, 21, 5, 4, 21, 7, 120, 128, 54, 5, 132, 7, 1, 167, 255, 133], [255, 133, 132, 6, 1, 167, 255, 112, 29, 2, 160, 0, 6, 21, 4, 172, 29, 16], [29, 16, 254, 160, 0, 6, 21, 5, 172, 29, 155, 0, 20, 29, 21, 4, 162, 0], [162, 0, 14, 42, 180, 0, 97, 29, 184, 0, 167, 167, 0, 4, 2, 172]]
theorem fW_cX9_toldHer : fq_wins 14 cX9_toldHer.data.toList = fw_cX9_toldHer := by decide +kernel
theorem fk_cX9_toldHer_0 : fq_ck cX9_toldHer 0 [42, 180, 0, 30, 27, 182, 0, 159, 154, 0, 6, 18, 163, 172, 28, 4, 161, 0] := fq_of fW_cX9_toldHer 0 rfl rfl
theorem dX9_toldHer_0 : decode cX9_toldHer 0 = .ok (.aload_n 0, 1) := fq_42 fk_cX9_toldHer_0 0 rfl rfl
theorem dX9_toldHer_1 : decode cX9_toldHer 1 = .ok (.getfield 30, 3) := fq_180 fk_cX9_toldHer_0 1 rfl rfl rfl rfl rfl
theorem dX9_toldHer_4 : decode cX9_toldHer 4 = .ok (.iload_n 1, 1) := fq_27 fk_cX9_toldHer_0 4 rfl rfl
theorem dX9_toldHer_5 : decode cX9_toldHer 5 = .ok (.invokevirtual 159, 3) := fq_182 fk_cX9_toldHer_0 5 rfl rfl rfl rfl rfl
theorem dX9_toldHer_8 : decode cX9_toldHer 8 = .ok (.ifCond .ne 6, 3) := fq_154 fk_cX9_toldHer_0 8 rfl rfl rfl rfl rfl
theorem dX9_toldHer_14 : decode cX9_toldHer 14 = .ok (.iload_n 2, 1) := fq_28 fk_cX9_toldHer_0 14 rfl rfl
theorem dX9_toldHer_15 : decode cX9_toldHer 15 = .ok (.iconst 1, 1) := fq_4 fk_cX9_toldHer_0 15 rfl rfl
theorem fk_cX9_toldHer_1 : fq_ck cX9_toldHer 16 [161, 0, 9, 28, 16, 60, 164, 0, 6, 18, 104, 172, 3, 54, 4, 3, 54, 5] := fq_of fW_cX9_toldHer 1 rfl rfl
theorem dX9_toldHer_16 : decode cX9_toldHer 16 = .ok (.if_icmp .lt 9, 3) := fq_161 fk_cX9_toldHer_1 0 rfl rfl rfl rfl rfl
theorem dX9_toldHer_25 : decode cX9_toldHer 25 = .ok (.ldc 104, 2) := fq_18 fk_cX9_toldHer_1 9 rfl rfl rfl
theorem dX9_toldHer_27 : decode cX9_toldHer 27 = .ok (.ireturn, 1) := fq_172 fk_cX9_toldHer_1 11 rfl rfl
theorem dX9_toldHer_19 : decode cX9_toldHer 19 = .ok (.iload_n 2, 1) := fq_28 fk_cX9_toldHer_1 3 rfl rfl
theorem dX9_toldHer_20 : decode cX9_toldHer 20 = .ok (.bipush 60, 2) := fq_16 fk_cX9_toldHer_1 4 rfl rfl rfl rfl
theorem dX9_toldHer_22 : decode cX9_toldHer 22 = .ok (.if_icmp .le 6, 3) := fq_164 fk_cX9_toldHer_1 6 rfl rfl rfl rfl rfl
theorem dX9_toldHer_28 : decode cX9_toldHer 28 = .ok (.iconst 0, 1) := fq_3 fk_cX9_toldHer_1 12 rfl rfl
theorem dX9_toldHer_29 : decode cX9_toldHer 29 = .ok (.istore 4, 2) := fq_54 fk_cX9_toldHer_1 13 rfl rfl rfl
theorem dX9_toldHer_31 : decode cX9_toldHer 31 = .ok (.iconst 0, 1) := fq_3 fk_cX9_toldHer_1 15 rfl rfl
theorem fk_cX9_toldHer_2 : fq_ck cX9_toldHer 32 [54, 5, 3, 54, 6, 21, 6, 42, 180, 0, 30, 180, 0, 130, 162, 0, 138, 3] := fq_of fW_cX9_toldHer 2 rfl rfl
theorem dX9_toldHer_32 : decode cX9_toldHer 32 = .ok (.istore 5, 2) := fq_54 fk_cX9_toldHer_2 0 rfl rfl rfl
theorem dX9_toldHer_34 : decode cX9_toldHer 34 = .ok (.iconst 0, 1) := fq_3 fk_cX9_toldHer_2 2 rfl rfl
theorem dX9_toldHer_35 : decode cX9_toldHer 35 = .ok (.istore 6, 2) := fq_54 fk_cX9_toldHer_2 3 rfl rfl rfl
theorem fk_cX9_toldHer_11 : fq_ck cX9_toldHer 176 [255, 133, 132, 6, 1, 167, 255, 112, 29, 2, 160, 0, 6, 21, 4, 172, 29, 16] := fq_of fW_cX9_toldHer 11 rfl rfl
theorem dX9_toldHer_184 : decode cX9_toldHer 184 = .ok (.iload_n 3, 1) := fq_29 fk_cX9_toldHer_11 8 rfl rfl
theorem dX9_toldHer_185 : decode cX9_toldHer 185 = .ok (.iconst (-1), 1) := fq_2 fk_cX9_toldHer_11 9 rfl rfl
theorem dX9_toldHer_186 : decode cX9_toldHer 186 = .ok (.if_icmp .ne 6, 3) := fq_160 fk_cX9_toldHer_11 10 rfl rfl rfl rfl rfl
theorem fk_cX9_toldHer_12 : fq_ck cX9_toldHer 192 [29, 16, 254, 160, 0, 6, 21, 5, 172, 29, 155, 0, 20, 29, 21, 4, 162, 0] := fq_of fW_cX9_toldHer 12 rfl rfl
theorem dX9_toldHer_192 : decode cX9_toldHer 192 = .ok (.iload_n 3, 1) := fq_29 fk_cX9_toldHer_12 0 rfl rfl
theorem dX9_toldHer_193 : decode cX9_toldHer 193 = .ok (.bipush (-2), 2) := fq_16 fk_cX9_toldHer_12 1 rfl rfl rfl rfl
theorem dX9_toldHer_195 : decode cX9_toldHer 195 = .ok (.if_icmp .ne 6, 3) := fq_160 fk_cX9_toldHer_12 3 rfl rfl rfl rfl rfl
theorem dX9_toldHer_201 : decode cX9_toldHer 201 = .ok (.iload_n 3, 1) := fq_29 fk_cX9_toldHer_12 9 rfl rfl
theorem dX9_toldHer_202 : decode cX9_toldHer 202 = .ok (.ifCond .lt 20, 3) := fq_155 fk_cX9_toldHer_12 10 rfl rfl rfl rfl rfl
theorem fk_cX9_toldHer_13 : fq_ck cX9_toldHer 208 [162, 0, 14, 42, 180, 0, 97, 29, 184, 0, 167, 167, 0, 4, 2, 172] := fq_of fW_cX9_toldHer 13 rfl rfl
theorem dX9_toldHer_222 : decode cX9_toldHer 222 = .ok (.iconst (-1), 1) := fq_2 fk_cX9_toldHer_13 14 rfl rfl
theorem dX9_toldHer_223 : decode cX9_toldHer 223 = .ok (.ireturn, 1) := fq_172 fk_cX9_toldHer_13 15 rfl rfl
theorem dX9_toldHer_205 : decode cX9_toldHer 205 = .ok (.iload_n 3, 1) := fq_29 fk_cX9_toldHer_12 13 rfl rfl
theorem dX9_toldHer_206 : decode cX9_toldHer 206 = .ok (.iload 4, 2) := fq_21 fk_cX9_toldHer_12 14 rfl rfl rfl
theorem dX9_toldHer_208 : decode cX9_toldHer 208 = .ok (.if_icmp .ge 14, 3) := fq_162 fk_cX9_toldHer_13 0 rfl rfl rfl rfl rfl
theorem dX9_toldHer_211 : decode cX9_toldHer 211 = .ok (.aload_n 0, 1) := fq_42 fk_cX9_toldHer_13 3 rfl rfl
theorem dX9_toldHer_212 : decode cX9_toldHer 212 = .ok (.getfield 97, 3) := fq_180 fk_cX9_toldHer_13 4 rfl rfl rfl rfl rfl
theorem dX9_toldHer_215 : decode cX9_toldHer 215 = .ok (.iload_n 3, 1) := fq_29 fk_cX9_toldHer_13 7 rfl rfl
theorem dX9_toldHer_216 : decode cX9_toldHer 216 = .ok (.invokestatic 167, 3) := fq_184 fk_cX9_toldHer_13 8 rfl rfl rfl rfl rfl
theorem dX9_toldHer_219 : decode cX9_toldHer 219 = .ok (.goto 4, 3) := fq_167 fk_cX9_toldHer_13 11 rfl rfl rfl rfl rfl
theorem dX9_toldHer_198 : decode cX9_toldHer 198 = .ok (.iload 5, 2) := fq_21 fk_cX9_toldHer_12 6 rfl rfl rfl
theorem dX9_toldHer_200 : decode cX9_toldHer 200 = .ok (.ireturn, 1) := fq_172 fk_cX9_toldHer_12 8 rfl rfl
theorem dX9_toldHer_189 : decode cX9_toldHer 189 = .ok (.iload 4, 2) := fq_21 fk_cX9_toldHer_11 13 rfl rfl rfl
theorem dX9_toldHer_191 : decode cX9_toldHer 191 = .ok (.ireturn, 1) := fq_172 fk_cX9_toldHer_11 15 rfl rfl
theorem dX9_toldHer_37 : decode cX9_toldHer 37 = .ok (.iload 6, 2) := fq_21 fk_cX9_toldHer_2 5 rfl rfl rfl
theorem dX9_toldHer_39 : decode cX9_toldHer 39 = .ok (.aload_n 0, 1) := fq_42 fk_cX9_toldHer_2 7 rfl rfl
theorem dX9_toldHer_40 : decode cX9_toldHer 40 = .ok (.getfield 30, 3) := fq_180 fk_cX9_toldHer_2 8 rfl rfl rfl rfl rfl
theorem dX9_toldHer_43 : decode cX9_toldHer 43 = .ok (.getfield 130, 3) := fq_180 fk_cX9_toldHer_2 11 rfl rfl rfl rfl rfl
theorem dX9_toldHer_46 : decode cX9_toldHer 46 = .ok (.if_icmp .ge 138, 3) := fq_162 fk_cX9_toldHer_2 14 rfl rfl rfl rfl rfl
theorem fk_cX9_toldHer_3 : fq_ck cX9_toldHer 48 [138, 3, 54, 7, 21, 7, 42, 180, 0, 30, 180, 0, 127, 162, 0, 117, 42, 180] := fq_of fW_cX9_toldHer 3 rfl rfl
theorem dX9_toldHer_49 : decode cX9_toldHer 49 = .ok (.iconst 0, 1) := fq_3 fk_cX9_toldHer_3 1 rfl rfl
theorem dX9_toldHer_50 : decode cX9_toldHer 50 = .ok (.istore 7, 2) := fq_54 fk_cX9_toldHer_3 2 rfl rfl rfl
theorem dX9_toldHer_178 : decode cX9_toldHer 178 = .ok (.iinc 6 1, 3) := fq_132 fk_cX9_toldHer_11 2 rfl rfl rfl rfl rfl
theorem dX9_toldHer_181 : decode cX9_toldHer 181 = .ok (.goto (-144), 3) := fq_167 fk_cX9_toldHer_11 5 rfl rfl rfl rfl rfl
theorem dX9_toldHer_52 : decode cX9_toldHer 52 = .ok (.iload 7, 2) := fq_21 fk_cX9_toldHer_3 4 rfl rfl rfl
theorem dX9_toldHer_54 : decode cX9_toldHer 54 = .ok (.aload_n 0, 1) := fq_42 fk_cX9_toldHer_3 6 rfl rfl
theorem dX9_toldHer_55 : decode cX9_toldHer 55 = .ok (.getfield 30, 3) := fq_180 fk_cX9_toldHer_3 7 rfl rfl rfl rfl rfl
theorem dX9_toldHer_58 : decode cX9_toldHer 58 = .ok (.getfield 127, 3) := fq_180 fk_cX9_toldHer_3 10 rfl rfl rfl rfl rfl
theorem dX9_toldHer_61 : decode cX9_toldHer 61 = .ok (.if_icmp .ge 117, 3) := fq_162 fk_cX9_toldHer_3 13 rfl rfl rfl rfl rfl
theorem fk_cX9_toldHer_4 : fq_ck cX9_toldHer 64 [42, 180, 0, 79, 42, 180, 0, 30, 180, 0, 180, 21, 6, 184, 0, 167, 42, 180] := fq_of fW_cX9_toldHer 4 rfl rfl
theorem dX9_toldHer_64 : decode cX9_toldHer 64 = .ok (.aload_n 0, 1) := fq_42 fk_cX9_toldHer_4 0 rfl rfl
theorem dX9_toldHer_65 : decode cX9_toldHer 65 = .ok (.getfield 79, 3) := fq_180 fk_cX9_toldHer_4 1 rfl rfl rfl rfl rfl
theorem dX9_toldHer_68 : decode cX9_toldHer 68 = .ok (.aload_n 0, 1) := fq_42 fk_cX9_toldHer_4 4 rfl rfl
theorem dX9_toldHer_69 : decode cX9_toldHer 69 = .ok (.getfield 30, 3) := fq_180 fk_cX9_toldHer_4 5 rfl rfl rfl rfl rfl
theorem dX9_toldHer_72 : decode cX9_toldHer 72 = .ok (.getfield 180, 3) := fq_180 fk_cX9_toldHer_4 8 rfl rfl rfl rfl rfl
theorem dX9_toldHer_75 : decode cX9_toldHer 75 = .ok (.iload 6, 2) := fq_21 fk_cX9_toldHer_4 11 rfl rfl rfl
theorem dX9_toldHer_77 : decode cX9_toldHer 77 = .ok (.invokestatic 167, 3) := fq_184 fk_cX9_toldHer_4 13 rfl rfl rfl rfl rfl
theorem fk_cX9_toldHer_5 : fq_ck cX9_toldHer 80 [42, 180, 0, 30, 21, 6, 21, 7, 182, 0, 195, 42, 180, 0, 30, 180, 0, 136] := fq_of fW_cX9_toldHer 5 rfl rfl
theorem dX9_toldHer_80 : decode cX9_toldHer 80 = .ok (.aload_n 0, 1) := fq_42 fk_cX9_toldHer_5 0 rfl rfl
theorem dX9_toldHer_81 : decode cX9_toldHer 81 = .ok (.getfield 30, 3) := fq_180 fk_cX9_toldHer_5 1 rfl rfl rfl rfl rfl
theorem dX9_toldHer_84 : decode cX9_toldHer 84 = .ok (.iload 6, 2) := fq_21 fk_cX9_toldHer_5 4 rfl rfl rfl
theorem dX9_toldHer_86 : decode cX9_toldHer 86 = .ok (.iload 7, 2) := fq_21 fk_cX9_toldHer_5 6 rfl rfl rfl
theorem dX9_toldHer_88 : decode cX9_toldHer 88 = .ok (.invokevirtual 195, 3) := fq_182 fk_cX9_toldHer_5 8 rfl rfl rfl rfl rfl
theorem dX9_toldHer_91 : decode cX9_toldHer 91 = .ok (.aload_n 0, 1) := fq_42 fk_cX9_toldHer_5 11 rfl rfl
theorem dX9_toldHer_92 : decode cX9_toldHer 92 = .ok (.getfield 30, 3) := fq_180 fk_cX9_toldHer_5 12 rfl rfl rfl rfl rfl
theorem dX9_toldHer_95 : decode cX9_toldHer 95 = .ok (.getfield 136, 3) := fq_180 fk_cX9_toldHer_5 15 rfl rfl rfl rfl rfl
theorem fk_cX9_toldHer_6 : fq_ck cX9_toldHer 96 [0, 136, 42, 180, 0, 30, 180, 0, 164, 27, 184, 0, 167, 182, 1, 45, 42, 180] := fq_of fW_cX9_toldHer 6 rfl rfl
theorem dX9_toldHer_98 : decode cX9_toldHer 98 = .ok (.aload_n 0, 1) := fq_42 fk_cX9_toldHer_6 2 rfl rfl
theorem dX9_toldHer_99 : decode cX9_toldHer 99 = .ok (.getfield 30, 3) := fq_180 fk_cX9_toldHer_6 3 rfl rfl rfl rfl rfl
theorem dX9_toldHer_102 : decode cX9_toldHer 102 = .ok (.getfield 164, 3) := fq_180 fk_cX9_toldHer_6 6 rfl rfl rfl rfl rfl
theorem dX9_toldHer_105 : decode cX9_toldHer 105 = .ok (.iload_n 1, 1) := fq_27 fk_cX9_toldHer_6 9 rfl rfl
theorem dX9_toldHer_106 : decode cX9_toldHer 106 = .ok (.invokestatic 167, 3) := fq_184 fk_cX9_toldHer_6 10 rfl rfl rfl rfl rfl
theorem dX9_toldHer_109 : decode cX9_toldHer 109 = .ok (.invokevirtual 301, 3) := fq_182 fk_cX9_toldHer_6 13 rfl rfl rfl rfl rfl
theorem fk_cX9_toldHer_7 : fq_ck cX9_toldHer 112 [42, 180, 0, 79, 180, 1, 4, 154, 0, 53, 42, 180, 0, 79, 180, 1, 49, 153] := fq_of fW_cX9_toldHer 7 rfl rfl
theorem dX9_toldHer_112 : decode cX9_toldHer 112 = .ok (.aload_n 0, 1) := fq_42 fk_cX9_toldHer_7 0 rfl rfl
theorem dX9_toldHer_113 : decode cX9_toldHer 113 = .ok (.getfield 79, 3) := fq_180 fk_cX9_toldHer_7 1 rfl rfl rfl rfl rfl
theorem dX9_toldHer_116 : decode cX9_toldHer 116 = .ok (.getfield 260, 3) := fq_180 fk_cX9_toldHer_7 4 rfl rfl rfl rfl rfl
theorem dX9_toldHer_119 : decode cX9_toldHer 119 = .ok (.ifCond .ne 53, 3) := fq_154 fk_cX9_toldHer_7 7 rfl rfl rfl rfl rfl
theorem fk_cX9_toldHer_10 : fq_ck cX9_toldHer 160 [132, 4, 1, 21, 5, 4, 21, 7, 120, 128, 54, 5, 132, 7, 1, 167, 255, 133] := fq_of fW_cX9_toldHer 10 rfl rfl
theorem dX9_toldHer_172 : decode cX9_toldHer 172 = .ok (.iinc 7 1, 3) := fq_132 fk_cX9_toldHer_10 12 rfl rfl rfl rfl rfl
theorem dX9_toldHer_175 : decode cX9_toldHer 175 = .ok (.goto (-123), 3) := fq_167 fk_cX9_toldHer_10 15 rfl rfl rfl rfl rfl
theorem dX9_toldHer_122 : decode cX9_toldHer 122 = .ok (.aload_n 0, 1) := fq_42 fk_cX9_toldHer_7 10 rfl rfl
theorem dX9_toldHer_123 : decode cX9_toldHer 123 = .ok (.getfield 79, 3) := fq_180 fk_cX9_toldHer_7 11 rfl rfl rfl rfl rfl
theorem dX9_toldHer_126 : decode cX9_toldHer 126 = .ok (.getfield 305, 3) := fq_180 fk_cX9_toldHer_7 14 rfl rfl rfl rfl rfl
theorem fk_cX9_toldHer_8 : fq_ck cX9_toldHer 128 [49, 153, 0, 43, 42, 180, 0, 79, 180, 1, 8, 28, 160, 0, 32, 42, 180, 0] := fq_of fW_cX9_toldHer 8 rfl rfl
theorem dX9_toldHer_129 : decode cX9_toldHer 129 = .ok (.ifCond .eq 43, 3) := fq_153 fk_cX9_toldHer_8 1 rfl rfl rfl rfl rfl
theorem dX9_toldHer_132 : decode cX9_toldHer 132 = .ok (.aload_n 0, 1) := fq_42 fk_cX9_toldHer_8 4 rfl rfl
theorem dX9_toldHer_133 : decode cX9_toldHer 133 = .ok (.getfield 79, 3) := fq_180 fk_cX9_toldHer_8 5 rfl rfl rfl rfl rfl
theorem dX9_toldHer_136 : decode cX9_toldHer 136 = .ok (.getfield 264, 3) := fq_180 fk_cX9_toldHer_8 8 rfl rfl rfl rfl rfl
theorem dX9_toldHer_139 : decode cX9_toldHer 139 = .ok (.iload_n 2, 1) := fq_28 fk_cX9_toldHer_8 11 rfl rfl
theorem dX9_toldHer_140 : decode cX9_toldHer 140 = .ok (.if_icmp .ne 32, 3) := fq_160 fk_cX9_toldHer_8 12 rfl rfl rfl rfl rfl
theorem dX9_toldHer_143 : decode cX9_toldHer 143 = .ok (.aload_n 0, 1) := fq_42 fk_cX9_toldHer_8 15 rfl rfl
theorem fk_cX9_toldHer_9 : fq_ck cX9_toldHer 144 [180, 0, 97, 21, 4, 16, 10, 21, 6, 104, 21, 7, 96, 184, 0, 106, 132, 4] := fq_of fW_cX9_toldHer 9 rfl rfl
theorem dX9_toldHer_144 : decode cX9_toldHer 144 = .ok (.getfield 97, 3) := fq_180 fk_cX9_toldHer_9 0 rfl rfl rfl rfl rfl
theorem dX9_toldHer_147 : decode cX9_toldHer 147 = .ok (.iload 4, 2) := fq_21 fk_cX9_toldHer_9 3 rfl rfl rfl
theorem dX9_toldHer_149 : decode cX9_toldHer 149 = .ok (.bipush 10, 2) := fq_16 fk_cX9_toldHer_9 5 rfl rfl rfl rfl
theorem dX9_toldHer_151 : decode cX9_toldHer 151 = .ok (.iload 6, 2) := fq_21 fk_cX9_toldHer_9 7 rfl rfl rfl
theorem dX9_toldHer_153 : decode cX9_toldHer 153 = .ok (.imul, 1) := fq_104 fk_cX9_toldHer_9 9 rfl rfl
theorem dX9_toldHer_154 : decode cX9_toldHer 154 = .ok (.iload 7, 2) := fq_21 fk_cX9_toldHer_9 10 rfl rfl rfl
theorem dX9_toldHer_156 : decode cX9_toldHer 156 = .ok (.iadd, 1) := fq_96 fk_cX9_toldHer_9 12 rfl rfl
theorem dX9_toldHer_157 : decode cX9_toldHer 157 = .ok (.invokestatic 106, 3) := fq_184 fk_cX9_toldHer_9 13 rfl rfl rfl rfl rfl
theorem dX9_toldHer_160 : decode cX9_toldHer 160 = .ok (.iinc 4 1, 3) := fq_132 fk_cX9_toldHer_10 0 rfl rfl rfl rfl rfl
theorem dX9_toldHer_163 : decode cX9_toldHer 163 = .ok (.iload 5, 2) := fq_21 fk_cX9_toldHer_10 3 rfl rfl rfl
theorem dX9_toldHer_165 : decode cX9_toldHer 165 = .ok (.iconst 1, 1) := fq_4 fk_cX9_toldHer_10 5 rfl rfl
theorem dX9_toldHer_166 : decode cX9_toldHer 166 = .ok (.iload 7, 2) := fq_21 fk_cX9_toldHer_10 6 rfl rfl rfl
theorem dX9_toldHer_168 : decode cX9_toldHer 168 = .ok (.ishl, 1) := fq_120 fk_cX9_toldHer_10 8 rfl rfl
theorem dX9_toldHer_169 : decode cX9_toldHer 169 = .ok (.ior, 1) := fq_128 fk_cX9_toldHer_10 9 rfl rfl
theorem dX9_toldHer_170 : decode cX9_toldHer 170 = .ok (.istore 5, 2) := fq_54 fk_cX9_toldHer_10 10 rfl rfl rfl
theorem dX9_toldHer_11 : decode cX9_toldHer 11 = .ok (.ldc 163, 2) := fq_18 fk_cX9_toldHer_0 11 rfl rfl rfl
theorem dX9_toldHer_13 : decode cX9_toldHer 13 = .ok (.ireturn, 1) := fq_172 fk_cX9_toldHer_0 13 rfl rfl
def fw_cX9_order : List (List Nat) := [[42, 180, 0, 93, 42, 180, 0, 30, 42, 180, 0, 40, 182, 1, 30, 3, 61, 28], [61, 28, 42, 180, 0, 30, 180, 0, 124, 162, 0, 14, 42, 28, 182, 1, 34, 132], [34, 132, 2, 1, 167, 255, 237, 42, 180, 0, 93, 182, 1, 37, 27, 2, 160, 0], [160, 0, 11, 42, 180, 0, 93, 180, 1, 39, 172, 27, 155, 0, 28, 27, 42, 180], [42, 180, 0, 93, 180, 1, 39, 162, 0, 17, 42, 180, 0, 93, 180, 1, 42, 27], [42, 27, 184, 0, 167, 167, 0, 4, 2, 172]]
theorem fW_cX9_order : fq_wins 6 cX9_order.data.toList = fw_cX9_order := by decide +kernel
theorem fk_cX9_order_0 : fq_ck cX9_order 0 [42, 180, 0, 93, 42, 180, 0, 30, 42, 180, 0, 40, 182, 1, 30, 3, 61, 28] := fq_of fW_cX9_order 0 rfl rfl
theorem dX9_order_0 : decode cX9_order 0 = .ok (.aload_n 0, 1) := fq_42 fk_cX9_order_0 0 rfl rfl
theorem dX9_order_1 : decode cX9_order 1 = .ok (.getfield 93, 3) := fq_180 fk_cX9_order_0 1 rfl rfl rfl rfl rfl
theorem dX9_order_4 : decode cX9_order 4 = .ok (.aload_n 0, 1) := fq_42 fk_cX9_order_0 4 rfl rfl
theorem dX9_order_5 : decode cX9_order 5 = .ok (.getfield 30, 3) := fq_180 fk_cX9_order_0 5 rfl rfl rfl rfl rfl
theorem dX9_order_8 : decode cX9_order 8 = .ok (.aload_n 0, 1) := fq_42 fk_cX9_order_0 8 rfl rfl
theorem dX9_order_9 : decode cX9_order 9 = .ok (.getfield 40, 3) := fq_180 fk_cX9_order_0 9 rfl rfl rfl rfl rfl
theorem dX9_order_12 : decode cX9_order 12 = .ok (.invokevirtual 286, 3) := fq_182 fk_cX9_order_0 12 rfl rfl rfl rfl rfl
theorem wd_471 : Cond.methodLink RX9 286 yX1_gather ∈ BG := BG_at3 181 (by decide +kernel) rfl
theorem wd_472 : Cond.code yX1_gather cX1_gather 3 none ∈ BG := BG_at3 184 rfl rfl
theorem wd_473 : Cond.instanceMethod yX1_gather ∈ BG := BG_at3 182 (by decide +kernel) rfl
theorem wd_474 : Cond.selects RX1 yX1_gather yX1_gather ∈ BG := BG_at3 183 (by decide +kernel) rfl
theorem okV_X1_gather : okV yX1_gather cX1_gather 3 none 2 := ⟨⟨wd_472, wd_129, by decide +kernel⟩, wd_473, wd_474⟩
theorem dX9_order_15 : decode cX9_order 15 = .ok (.iconst 0, 1) := fq_3 fk_cX9_order_0 15 rfl rfl
theorem fk_cX9_order_1 : fq_ck cX9_order 16 [61, 28, 42, 180, 0, 30, 180, 0, 124, 162, 0, 14, 42, 28, 182, 1, 34, 132] := fq_of fW_cX9_order 1 rfl rfl
theorem dX9_order_16 : decode cX9_order 16 = .ok (.istore_n 2, 1) := fq_61 fk_cX9_order_1 0 rfl rfl
theorem fk_cX9_order_2 : fq_ck cX9_order 32 [34, 132, 2, 1, 167, 255, 237, 42, 180, 0, 93, 182, 1, 37, 27, 2, 160, 0] := fq_of fW_cX9_order 2 rfl rfl
theorem dX9_order_39 : decode cX9_order 39 = .ok (.aload_n 0, 1) := fq_42 fk_cX9_order_2 7 rfl rfl
theorem dX9_order_40 : decode cX9_order 40 = .ok (.getfield 93, 3) := fq_180 fk_cX9_order_2 8 rfl rfl rfl rfl rfl
theorem dX9_order_43 : decode cX9_order 43 = .ok (.invokevirtual 293, 3) := fq_182 fk_cX9_order_2 11 rfl rfl rfl rfl rfl
theorem wd_475 : Cond.methodLink RX9 293 yX1_solve ∈ BG := BG_at3 198 (by decide +kernel) rfl
theorem wd_476 : Cond.code yX1_solve cX1_solve 3 none ∈ BG := BG_at3 201 rfl rfl
theorem wd_477 : Cond.instanceMethod yX1_solve ∈ BG := BG_at3 199 (by decide +kernel) rfl
theorem wd_478 : Cond.selects RX1 yX1_solve yX1_solve ∈ BG := BG_at3 200 (by decide +kernel) rfl
theorem okV_X1_solve : okV yX1_solve cX1_solve 3 none 0 := ⟨⟨wd_476, wd_129, by decide +kernel⟩, wd_477, wd_478⟩
theorem dX9_order_46 : decode cX9_order 46 = .ok (.iload_n 1, 1) := fq_27 fk_cX9_order_2 14 rfl rfl
theorem dX9_order_47 : decode cX9_order 47 = .ok (.iconst (-1), 1) := fq_2 fk_cX9_order_2 15 rfl rfl
theorem fk_cX9_order_3 : fq_ck cX9_order 48 [160, 0, 11, 42, 180, 0, 93, 180, 1, 39, 172, 27, 155, 0, 28, 27, 42, 180] := fq_of fW_cX9_order 3 rfl rfl
theorem dX9_order_48 : decode cX9_order 48 = .ok (.if_icmp .ne 11, 3) := fq_160 fk_cX9_order_3 0 rfl rfl rfl rfl rfl
theorem dX9_order_59 : decode cX9_order 59 = .ok (.iload_n 1, 1) := fq_27 fk_cX9_order_3 11 rfl rfl
theorem dX9_order_60 : decode cX9_order 60 = .ok (.ifCond .lt 28, 3) := fq_155 fk_cX9_order_3 12 rfl rfl rfl rfl rfl
theorem fk_cX9_order_5 : fq_ck cX9_order 80 [42, 27, 184, 0, 167, 167, 0, 4, 2, 172] := fq_of fW_cX9_order 5 rfl rfl
theorem dX9_order_88 : decode cX9_order 88 = .ok (.iconst (-1), 1) := fq_2 fk_cX9_order_5 8 rfl rfl
theorem dX9_order_89 : decode cX9_order 89 = .ok (.ireturn, 1) := fq_172 fk_cX9_order_5 9 rfl rfl
theorem dX9_order_63 : decode cX9_order 63 = .ok (.iload_n 1, 1) := fq_27 fk_cX9_order_3 15 rfl rfl
theorem fk_cX9_order_4 : fq_ck cX9_order 64 [42, 180, 0, 93, 180, 1, 39, 162, 0, 17, 42, 180, 0, 93, 180, 1, 42, 27] := fq_of fW_cX9_order 4 rfl rfl
theorem dX9_order_64 : decode cX9_order 64 = .ok (.aload_n 0, 1) := fq_42 fk_cX9_order_4 0 rfl rfl
theorem dX9_order_65 : decode cX9_order 65 = .ok (.getfield 93, 3) := fq_180 fk_cX9_order_4 1 rfl rfl rfl rfl rfl
theorem wd_479 : Cond.fieldLink RX9 295 "QuarrelBridges$Convoy" "length" "I" ∈ BG := BG_at1 230 (by decide +kernel) rfl
theorem dX9_order_68 : decode cX9_order 68 = .ok (.getfield 295, 3) := fq_180 fk_cX9_order_4 4 rfl rfl rfl rfl rfl
theorem dX9_order_71 : decode cX9_order 71 = .ok (.if_icmp .ge 17, 3) := fq_162 fk_cX9_order_4 7 rfl rfl rfl rfl rfl
theorem dX9_order_74 : decode cX9_order 74 = .ok (.aload_n 0, 1) := fq_42 fk_cX9_order_4 10 rfl rfl
theorem dX9_order_75 : decode cX9_order 75 = .ok (.getfield 93, 3) := fq_180 fk_cX9_order_4 11 rfl rfl rfl rfl rfl
theorem wd_480 : Cond.fieldLink RX9 298 "QuarrelBridges$Convoy" "row" "[I" ∈ BG := BG_at1 232 (by decide +kernel) rfl
theorem dX9_order_78 : decode cX9_order 78 = .ok (.getfield 298, 3) := fq_180 fk_cX9_order_4 14 rfl rfl rfl rfl rfl
theorem dX9_order_81 : decode cX9_order 81 = .ok (.iload_n 1, 1) := fq_27 fk_cX9_order_5 1 rfl rfl
theorem dX9_order_82 : decode cX9_order 82 = .ok (.invokestatic 167, 3) := fq_184 fk_cX9_order_5 2 rfl rfl rfl rfl rfl
theorem dX9_order_85 : decode cX9_order 85 = .ok (.goto 4, 3) := fq_167 fk_cX9_order_5 5 rfl rfl rfl rfl rfl
theorem dX9_order_51 : decode cX9_order 51 = .ok (.aload_n 0, 1) := fq_42 fk_cX9_order_3 3 rfl rfl
theorem dX9_order_52 : decode cX9_order 52 = .ok (.getfield 93, 3) := fq_180 fk_cX9_order_3 4 rfl rfl rfl rfl rfl
theorem dX9_order_55 : decode cX9_order 55 = .ok (.getfield 295, 3) := fq_180 fk_cX9_order_3 7 rfl rfl rfl rfl rfl
theorem dX9_order_58 : decode cX9_order 58 = .ok (.ireturn, 1) := fq_172 fk_cX9_order_3 10 rfl rfl
theorem dX9_order_17 : decode cX9_order 17 = .ok (.iload_n 2, 1) := fq_28 fk_cX9_order_1 1 rfl rfl
theorem dX9_order_18 : decode cX9_order 18 = .ok (.aload_n 0, 1) := fq_42 fk_cX9_order_1 2 rfl rfl
theorem dX9_order_19 : decode cX9_order 19 = .ok (.getfield 30, 3) := fq_180 fk_cX9_order_1 3 rfl rfl rfl rfl rfl
theorem dX9_order_22 : decode cX9_order 22 = .ok (.getfield 124, 3) := fq_180 fk_cX9_order_1 6 rfl rfl rfl rfl rfl
theorem dX9_order_25 : decode cX9_order 25 = .ok (.if_icmp .ge 14, 3) := fq_162 fk_cX9_order_1 9 rfl rfl rfl rfl rfl
theorem dX9_order_28 : decode cX9_order 28 = .ok (.aload_n 0, 1) := fq_42 fk_cX9_order_1 12 rfl rfl
theorem dX9_order_29 : decode cX9_order 29 = .ok (.iload_n 2, 1) := fq_28 fk_cX9_order_1 13 rfl rfl
theorem dX9_order_30 : decode cX9_order 30 = .ok (.invokevirtual 290, 3) := fq_182 fk_cX9_order_1 14 rfl rfl rfl rfl rfl
theorem wd_481 : Cond.methodLink RX9 290 yX9_noteOpenings ∈ BG := BG_at3 188 (by decide +kernel) rfl
theorem wd_482 : Cond.code yX9_noteOpenings cX9_noteOpenings 6 none ∈ BG := BG_at3 191 rfl rfl
theorem wd_483 : Cond.instanceMethod yX9_noteOpenings ∈ BG := BG_at3 190 (by decide +kernel) rfl
theorem wd_484 : Cond.selects RX9 yX9_noteOpenings yX9_noteOpenings ∈ BG := BG_in (by decide +kernel) rfl
theorem okV_X9_noteOpenings : okV yX9_noteOpenings cX9_noteOpenings 6 none 1 := ⟨⟨wd_482, wd_71, by decide +kernel⟩, wd_483, wd_484⟩
theorem dX9_order_33 : decode cX9_order 33 = .ok (.iinc 2 1, 3) := fq_132 fk_cX9_order_2 1 rfl rfl rfl rfl rfl
theorem dX9_order_36 : decode cX9_order 36 = .ok (.goto (-19), 3) := fq_167 fk_cX9_order_2 4 rfl rfl rfl rfl rfl
def fw_cX9_town : List (List Nat) := [[42, 180, 0, 23, 42, 180, 0, 9, 42, 180, 0, 13, 42, 180, 0, 34, 182, 0], [182, 0, 110, 42, 3, 181, 0, 13, 42, 42, 180, 0, 23, 180, 0, 114, 181, 0], [181, 0, 17, 42, 180, 0, 23, 180, 0, 115, 153, 0, 14, 16, 246, 42, 180, 0], [180, 0, 23, 180, 0, 115, 100, 172, 42, 180, 0, 30, 76, 42, 42, 180, 0, 34], [0, 34, 181, 0, 30, 42, 43, 181, 0, 34, 42, 180, 0, 40, 42, 180, 0, 30], [0, 30, 182, 0, 100, 42, 180, 0, 47, 182, 0, 118, 42, 3, 181, 0, 63, 42], [63, 42, 180, 0, 69, 182, 0, 121, 42, 180, 0, 30, 180, 0, 124, 172]]
theorem fW_cX9_town : fq_wins 7 cX9_town.data.toList = fw_cX9_town := by decide +kernel
theorem fk_cX9_town_0 : fq_ck cX9_town 0 [42, 180, 0, 23, 42, 180, 0, 9, 42, 180, 0, 13, 42, 180, 0, 34, 182, 0] := fq_of fW_cX9_town 0 rfl rfl
theorem dX9_town_0 : decode cX9_town 0 = .ok (.aload_n 0, 1) := fq_42 fk_cX9_town_0 0 rfl rfl
theorem dX9_town_1 : decode cX9_town 1 = .ok (.getfield 23, 3) := fq_180 fk_cX9_town_0 1 rfl rfl rfl rfl rfl
theorem dX9_town_4 : decode cX9_town 4 = .ok (.aload_n 0, 1) := fq_42 fk_cX9_town_0 4 rfl rfl
theorem dX9_town_5 : decode cX9_town 5 = .ok (.getfield 9, 3) := fq_180 fk_cX9_town_0 5 rfl rfl rfl rfl rfl
theorem dX9_town_8 : decode cX9_town 8 = .ok (.aload_n 0, 1) := fq_42 fk_cX9_town_0 8 rfl rfl
theorem dX9_town_9 : decode cX9_town 9 = .ok (.getfield 13, 3) := fq_180 fk_cX9_town_0 9 rfl rfl rfl rfl rfl
theorem dX9_town_12 : decode cX9_town 12 = .ok (.aload_n 0, 1) := fq_42 fk_cX9_town_0 12 rfl rfl
theorem dX9_town_13 : decode cX9_town 13 = .ok (.getfield 34, 3) := fq_180 fk_cX9_town_0 13 rfl rfl rfl rfl rfl
theorem fk_cX9_town_1 : fq_ck cX9_town 16 [182, 0, 110, 42, 3, 181, 0, 13, 42, 42, 180, 0, 23, 180, 0, 114, 181, 0] := fq_of fW_cX9_town 1 rfl rfl
theorem dX9_town_16 : decode cX9_town 16 = .ok (.invokevirtual 110, 3) := fq_182 fk_cX9_town_1 0 rfl rfl rfl rfl rfl
theorem wd_485 : Cond.methodLink RX9 110 yX5_read ∈ BG := BG_at2 98 (by decide +kernel) rfl
theorem wd_486 : Cond.code yX5_read cX5_read 5 none ∈ BG := BG_at2 101 rfl rfl
theorem wd_487 : Cond.instanceMethod yX5_read ∈ BG := BG_at2 99 (by decide +kernel) rfl
theorem wd_488 : Cond.selects RX5 yX5_read yX5_read ∈ BG := BG_at2 100 (by decide +kernel) rfl
theorem okV_X5_read : okV yX5_read cX5_read 5 none 3 := ⟨⟨wd_486, wd_80, by decide +kernel⟩, wd_487, wd_488⟩
theorem dX9_town_19 : decode cX9_town 19 = .ok (.aload_n 0, 1) := fq_42 fk_cX9_town_1 3 rfl rfl
theorem dX9_town_20 : decode cX9_town 20 = .ok (.iconst 0, 1) := fq_3 fk_cX9_town_1 4 rfl rfl
theorem dX9_town_21 : decode cX9_town 21 = .ok (.putfield 13, 3) := fq_181 fk_cX9_town_1 5 rfl rfl rfl rfl rfl
theorem dX9_town_24 : decode cX9_town 24 = .ok (.aload_n 0, 1) := fq_42 fk_cX9_town_1 8 rfl rfl
theorem dX9_town_25 : decode cX9_town 25 = .ok (.aload_n 0, 1) := fq_42 fk_cX9_town_1 9 rfl rfl
theorem dX9_town_26 : decode cX9_town 26 = .ok (.getfield 23, 3) := fq_180 fk_cX9_town_1 10 rfl rfl rfl rfl rfl
theorem wd_489 : Cond.fieldLink RX9 114 "QuarrelBridges$Reader" "faultAt" "I" ∈ BG := BG_at1 33 (by decide +kernel) rfl
theorem dX9_town_29 : decode cX9_town 29 = .ok (.getfield 114, 3) := fq_180 fk_cX9_town_1 13 rfl rfl rfl rfl rfl
theorem fk_cX9_town_2 : fq_ck cX9_town 32 [181, 0, 17, 42, 180, 0, 23, 180, 0, 115, 153, 0, 14, 16, 246, 42, 180, 0] := fq_of fW_cX9_town 2 rfl rfl
theorem dX9_town_32 : decode cX9_town 32 = .ok (.putfield 17, 3) := fq_181 fk_cX9_town_2 0 rfl rfl rfl rfl rfl
theorem dX9_town_35 : decode cX9_town 35 = .ok (.aload_n 0, 1) := fq_42 fk_cX9_town_2 3 rfl rfl
theorem dX9_town_36 : decode cX9_town 36 = .ok (.getfield 23, 3) := fq_180 fk_cX9_town_2 4 rfl rfl rfl rfl rfl
theorem wd_490 : Cond.fieldLink RX9 115 "QuarrelBridges$Reader" "fault" "I" ∈ BG := BG_at1 31 (by decide +kernel) rfl
theorem dX9_town_39 : decode cX9_town 39 = .ok (.getfield 115, 3) := fq_180 fk_cX9_town_2 7 rfl rfl rfl rfl rfl
theorem dX9_town_42 : decode cX9_town 42 = .ok (.ifCond .eq 14, 3) := fq_153 fk_cX9_town_2 10 rfl rfl rfl rfl rfl
theorem fk_cX9_town_3 : fq_ck cX9_town 48 [180, 0, 23, 180, 0, 115, 100, 172, 42, 180, 0, 30, 76, 42, 42, 180, 0, 34] := fq_of fW_cX9_town 3 rfl rfl
theorem dX9_town_56 : decode cX9_town 56 = .ok (.aload_n 0, 1) := fq_42 fk_cX9_town_3 8 rfl rfl
theorem dX9_town_57 : decode cX9_town 57 = .ok (.getfield 30, 3) := fq_180 fk_cX9_town_3 9 rfl rfl rfl rfl rfl
theorem dX9_town_60 : decode cX9_town 60 = .ok (.astore_n 1, 1) := fq_76 fk_cX9_town_3 12 rfl rfl
theorem dX9_town_61 : decode cX9_town 61 = .ok (.aload_n 0, 1) := fq_42 fk_cX9_town_3 13 rfl rfl
theorem dX9_town_62 : decode cX9_town 62 = .ok (.aload_n 0, 1) := fq_42 fk_cX9_town_3 14 rfl rfl
theorem dX9_town_63 : decode cX9_town 63 = .ok (.getfield 34, 3) := fq_180 fk_cX9_town_3 15 rfl rfl rfl rfl rfl
theorem fk_cX9_town_4 : fq_ck cX9_town 64 [0, 34, 181, 0, 30, 42, 43, 181, 0, 34, 42, 180, 0, 40, 42, 180, 0, 30] := fq_of fW_cX9_town 4 rfl rfl
theorem dX9_town_66 : decode cX9_town 66 = .ok (.putfield 30, 3) := fq_181 fk_cX9_town_4 2 rfl rfl rfl rfl rfl
theorem dX9_town_69 : decode cX9_town 69 = .ok (.aload_n 0, 1) := fq_42 fk_cX9_town_4 5 rfl rfl
theorem dX9_town_70 : decode cX9_town 70 = .ok (.aload_n 1, 1) := fq_43 fk_cX9_town_4 6 rfl rfl
theorem dX9_town_71 : decode cX9_town 71 = .ok (.putfield 34, 3) := fq_181 fk_cX9_town_4 7 rfl rfl rfl rfl rfl
theorem dX9_town_74 : decode cX9_town 74 = .ok (.aload_n 0, 1) := fq_42 fk_cX9_town_4 10 rfl rfl
theorem dX9_town_75 : decode cX9_town 75 = .ok (.getfield 40, 3) := fq_180 fk_cX9_town_4 11 rfl rfl rfl rfl rfl
theorem dX9_town_78 : decode cX9_town 78 = .ok (.aload_n 0, 1) := fq_42 fk_cX9_town_4 14 rfl rfl
theorem dX9_town_79 : decode cX9_town 79 = .ok (.getfield 30, 3) := fq_180 fk_cX9_town_4 15 rfl rfl rfl rfl rfl
theorem fk_cX9_town_5 : fq_ck cX9_town 80 [0, 30, 182, 0, 100, 42, 180, 0, 47, 182, 0, 118, 42, 3, 181, 0, 63, 42] := fq_of fW_cX9_town 5 rfl rfl
theorem dX9_town_82 : decode cX9_town 82 = .ok (.invokevirtual 100, 3) := fq_182 fk_cX9_town_5 2 rfl rfl rfl rfl rfl
theorem dX9_town_85 : decode cX9_town 85 = .ok (.aload_n 0, 1) := fq_42 fk_cX9_town_5 5 rfl rfl
theorem dX9_town_86 : decode cX9_town 86 = .ok (.getfield 47, 3) := fq_180 fk_cX9_town_5 6 rfl rfl rfl rfl rfl
theorem dX9_town_89 : decode cX9_town 89 = .ok (.invokevirtual 118, 3) := fq_182 fk_cX9_town_5 9 rfl rfl rfl rfl rfl
theorem dX9_town_92 : decode cX9_town 92 = .ok (.aload_n 0, 1) := fq_42 fk_cX9_town_5 12 rfl rfl
theorem dX9_town_93 : decode cX9_town 93 = .ok (.iconst 0, 1) := fq_3 fk_cX9_town_5 13 rfl rfl
theorem dX9_town_94 : decode cX9_town 94 = .ok (.putfield 63, 3) := fq_181 fk_cX9_town_5 14 rfl rfl rfl rfl rfl
theorem fk_cX9_town_6 : fq_ck cX9_town 96 [63, 42, 180, 0, 69, 182, 0, 121, 42, 180, 0, 30, 180, 0, 124, 172] := fq_of fW_cX9_town 6 rfl rfl
theorem dX9_town_97 : decode cX9_town 97 = .ok (.aload_n 0, 1) := fq_42 fk_cX9_town_6 1 rfl rfl
theorem dX9_town_98 : decode cX9_town 98 = .ok (.getfield 69, 3) := fq_180 fk_cX9_town_6 2 rfl rfl rfl rfl rfl
theorem dX9_town_101 : decode cX9_town 101 = .ok (.invokevirtual 121, 3) := fq_182 fk_cX9_town_6 5 rfl rfl rfl rfl rfl
theorem dX9_town_104 : decode cX9_town 104 = .ok (.aload_n 0, 1) := fq_42 fk_cX9_town_6 8 rfl rfl
theorem dX9_town_105 : decode cX9_town 105 = .ok (.getfield 30, 3) := fq_180 fk_cX9_town_6 9 rfl rfl rfl rfl rfl
theorem dX9_town_108 : decode cX9_town 108 = .ok (.getfield 124, 3) := fq_180 fk_cX9_town_6 12 rfl rfl rfl rfl rfl
theorem dX9_town_111 : decode cX9_town 111 = .ok (.ireturn, 1) := fq_172 fk_cX9_town_6 15 rfl rfl
theorem dX9_town_45 : decode cX9_town 45 = .ok (.bipush (-10), 2) := fq_16 fk_cX9_town_2 13 rfl rfl rfl rfl
theorem dX9_town_47 : decode cX9_town 47 = .ok (.aload_n 0, 1) := fq_42 fk_cX9_town_2 15 rfl rfl
theorem dX9_town_48 : decode cX9_town 48 = .ok (.getfield 23, 3) := fq_180 fk_cX9_town_3 0 rfl rfl rfl rfl rfl
theorem dX9_town_51 : decode cX9_town 51 = .ok (.getfield 115, 3) := fq_180 fk_cX9_town_3 3 rfl rfl rfl rfl rfl
theorem dX9_town_54 : decode cX9_town 54 = .ok (.isub, 1) := fq_100 fk_cX9_town_3 6 rfl rfl
theorem dX9_town_55 : decode cX9_town 55 = .ok (.ireturn, 1) := fq_172 fk_cX9_town_3 7 rfl rfl
theorem min5_lt (x : Int32) : (if (5 : Int32) < x then 5 else x).toInt < 2147483647 := by
  by_cases h : (5 : Int32) < x
  · rw [if_pos h]
    decide
  · rw [if_neg h]
    have h1 := Int32.le_iff_toInt_le.mp (Int32.not_lt.mp h)
    have e1 : (5 : Int32).toInt = 5 := rfl
    omega
theorem hb_lt {t0 t1 t2 t3 t4 b : Int32} (h : ¬ f_e_hasBridge t0 t1 t2 t3 t4 b = 0) : b.toInt < 2147483647 := by
  unfold f_e_hasBridge at h
  by_cases h1 : b < 0
  · rw [if_pos h1] at h
    exact absurd rfl h
  · rw [if_neg h1] at h
    by_cases h2 : t0 ≤ b
    · rw [if_pos h2] at h
      exact absurd rfl h
    · have h3 := Int32.lt_iff_toInt_lt.mp (Int32.not_le.mp h2)
      have h4 := t0.toInt_lt
      omega
noncomputable def f_e_pass_x9_72 (q1 : Int32) (q2 : Int32) (q10 : Int32) (q12 : Int32) (k0 : Int32) (k1 : Int32) (k2 : Int32) (k3 : Int32) (k4 : Int32) (t0 : Int32) (t1 : Int32) (t2 : Int32) (t3 : Int32) (t4 : Int32) (fta : Nat → Int32) (ftc : Nat → Int32) (ftd : Nat → Int32) (fte : Nat → Int32) (fn : Nat → Int32) (p1 : Int32) (p2 : Int32) (fsh : Nat → Int32) (v_ : Int32) (n : Nat) : Int32 → Int32 → Int32 → Int32 → Int32 → Int32 → (Nat → Int32) → Int32 → Int32 → (Nat → Int32) → (Int32 × Int32 × Int32 × Int32 × Int32 × Int32 × (Nat → Int32) × Int32 × Int32 × (Nat → Int32)) ⊕ (Int32 × Int32 × Int32 × Int32 × Int32 × Int32 × (Nat → Int32) × Int32 × Int32 × (Nat → Int32)) := Nat.rec (motive := fun _ => Int32 → Int32 → Int32 → Int32 → Int32 → Int32 → (Nat → Int32) → Int32 → Int32 → (Nat → Int32) → (Int32 × Int32 × Int32 × Int32 × Int32 × Int32 × (Nat → Int32) × Int32 × Int32 × (Nat → Int32)) ⊕ (Int32 × Int32 × Int32 × Int32 × Int32 × Int32 × (Nat → Int32) × Int32 × Int32 × (Nat → Int32))) (fun w_17l3 w_17m0 w_17m1 w_17m2 w_17m3 w_17m4 w_17m5 w_17m6 w_17m7 w_17m8 => Sum.inl (w_17l3, w_17m0, w_17m1, w_17m2, w_17m3, w_17m4, w_17m5, w_17m6, w_17m7, w_17m8)) (fun n ih w_17l3 w_17m0 w_17m1 w_17m2 w_17m3 w_17m4 w_17m5 w_17m6 w_17m7 w_17m8 => (if (if 5 < (atF 7 ftd v_) then 5 else (atF 7 ftd v_)) < w_17l3 then (Sum.inl (w_17l3, w_17m0, w_17m1, w_17m2, w_17m3, w_17m4, w_17m5, w_17m6, w_17m7, w_17m8)) else (match (f_e_swing_x9 q1 q2 q10 q12 w_17m0 w_17m1 w_17m2 w_17m3 w_17m4 t0 t1 t2 t3 t4 fta ftc w_17m5 w_17l3) with | (r_33, o_34, o_35, o_36, o_37, o_38, o_39) => (if r_33 = 0 then (Sum.inr ((f_e_minutes (f_e_lay o_39 v_ w_17l3)), o_34, o_35, o_36, o_37, o_38, (f_e_lay o_39 v_ w_17l3), w_17m6, w_17m7, w_17m8)) else (ih (w_17l3 + 1) o_34 o_35 o_36 o_37 o_38 o_39 w_17m6 w_17m7 w_17m8))))) n
theorem f_e_pass_x9_72_s (q1 : Int32) (q2 : Int32) (q10 : Int32) (q12 : Int32) (k0 : Int32) (k1 : Int32) (k2 : Int32) (k3 : Int32) (k4 : Int32) (t0 : Int32) (t1 : Int32) (t2 : Int32) (t3 : Int32) (t4 : Int32) (fta : Nat → Int32) (ftc : Nat → Int32) (ftd : Nat → Int32) (fte : Nat → Int32) (fn : Nat → Int32) (p1 : Int32) (p2 : Int32) (fsh : Nat → Int32) (v_ : Int32) (n : Nat) (w_17l3 : Int32) (w_17m0 : Int32) (w_17m1 : Int32) (w_17m2 : Int32) (w_17m3 : Int32) (w_17m4 : Int32) (w_17m5 : (Nat → Int32)) (w_17m6 : Int32) (w_17m7 : Int32) (w_17m8 : (Nat → Int32)) : f_e_pass_x9_72 q1 q2 q10 q12 k0 k1 k2 k3 k4 t0 t1 t2 t3 t4 fta ftc ftd fte fn p1 p2 fsh v_ (n + 1) w_17l3 w_17m0 w_17m1 w_17m2 w_17m3 w_17m4 w_17m5 w_17m6 w_17m7 w_17m8 = (if (if 5 < (atF 7 ftd v_) then 5 else (atF 7 ftd v_)) < w_17l3 then (Sum.inl (w_17l3, w_17m0, w_17m1, w_17m2, w_17m3, w_17m4, w_17m5, w_17m6, w_17m7, w_17m8)) else (match (f_e_swing_x9 q1 q2 q10 q12 w_17m0 w_17m1 w_17m2 w_17m3 w_17m4 t0 t1 t2 t3 t4 fta ftc w_17m5 w_17l3) with | (r_33, o_34, o_35, o_36, o_37, o_38, o_39) => (if r_33 = 0 then (Sum.inr ((f_e_minutes (f_e_lay o_39 v_ w_17l3)), o_34, o_35, o_36, o_37, o_38, (f_e_lay o_39 v_ w_17l3), w_17m6, w_17m7, w_17m8)) else (f_e_pass_x9_72 q1 q2 q10 q12 k0 k1 k2 k3 k4 t0 t1 t2 t3 t4 fta ftc ftd fte fn p1 p2 fsh v_ n (w_17l3 + 1) o_34 o_35 o_36 o_37 o_38 o_39 w_17m6 w_17m7 w_17m8)))) := rfl
noncomputable def f_e_pass_x9 (q1 : Int32) (q2 : Int32) (q10 : Int32) (q12 : Int32) (k0 : Int32) (k1 : Int32) (k2 : Int32) (k3 : Int32) (k4 : Int32) (t0 : Int32) (t1 : Int32) (t2 : Int32) (t3 : Int32) (t4 : Int32) (fta : Nat → Int32) (ftc : Nat → Int32) (ftd : Nat → Int32) (fte : Nat → Int32) (fn : Nat → Int32) (p1 : Int32) (p2 : Int32) (fsh : Nat → Int32) (v_ : Int32) : Int32 × Int32 × Int32 × Int32 × Int32 × Int32 × (Nat → Int32) × Int32 × Int32 × (Nat → Int32) := (if (f_e_hasBarge t0 t1 t2 t3 t4 v_) = 0 then ((-1000000001), k0, k1, k2, k3, k4, fn, p1, p2, fsh) else (if (f_e_fateOf fn v_) = 0 then (if (f_e_minutes fn) ≤ 90000 then (match (f_e_remember_x2 p1 p2 fsh fn) with | (o_12, o_13, o_14) => (match (f_e_pass_x9_72 q1 q2 q10 q12 k0 k1 k2 k3 k4 t0 t1 t2 t3 t4 fta ftc ftd fte fn p1 p2 fsh v_ ((((if 5 < (atF 7 ftd v_) then 5 else (atF 7 ftd v_)) : Int32).toInt + 1 - (0 : Int32).toInt).toNat + 1) 0 k0 k1 k2 k3 k4 fn o_12 o_13 o_14) with | Sum.inl (w_17l3, w_17m0, w_17m1, w_17m2, w_17m3, w_17m4, w_17m5, w_17m6, w_17m7, w_17m8) => (if (atF 7 fte v_) < (f_e_minutes w_17m5) then ((f_e_minutes (f_e_letThrough w_17m5 v_ 2)), w_17m0, w_17m1, w_17m2, w_17m3, w_17m4, (f_e_letThrough w_17m5 v_ 2), w_17m6, w_17m7, w_17m8) else ((f_e_minutes (f_e_letThrough w_17m5 v_ 1)), w_17m0, w_17m1, w_17m2, w_17m3, w_17m4, (f_e_letThrough w_17m5 v_ 1), w_17m6, w_17m7, w_17m8)) | Sum.inr o => o)) else ((-1000000004), k0, k1, k2, k3, k4, fn, p1, p2, fsh)) else ((-1000000003), k0, k1, k2, k3, k4, fn, p1, p2, fsh)))
def rm_e_pass_x9 : Room := { frames := 5, cells := 0, slots := 0, locals := 124 }
set_option maxHeartbeats 4000000 in
set_option maxRecDepth 100000 in
theorem e_pass_x9 {l : Launch} {D : va_G} {cI cZ : ClassId} {sz : Nat} (h x rd t d nw ps im is_ bk qr pr cv ft ta tb tc td te nwc sh shc : Nat) (q1 : Int32) (q2 : Int32) (q10 : Int32) (q12 : Int32) (k0 : Int32) (k1 : Int32) (k2 : Int32) (k3 : Int32) (k4 : Int32) (t0 : Int32) (t1 : Int32) (t2 : Int32) (t3 : Int32) (t4 : Int32) (fta : Nat → Int32) (ftc : Nat → Int32) (ftd : Nat → Int32) (fte : Nat → Int32) (fn : Nat → Int32) (p1 : Int32) (p2 : Int32) (fsh : Nat → Int32) (v_ : Int32) : KI l yX9_pass cX9_pass 4 (some .int) rm_e_pass_x9 D cI cZ [.ref h, .int v_] sz [(h, .inr (9, [.ref x, .int q1, .int q2, .ref rd, .ref t, .ref d, .ref nw, .ref ps, .ref im, .ref is_, .int q10, .ref bk, .int q12, .ref qr, .ref pr, .ref cv, .ref ft])), (qr, .inr (4, [.int k0, .int k1, .int k2, .int k3, .int k4])), (t, .inr (8, [.int t0, .int t1, .int t2, .int t3, .int t4, .ref ta, .ref tb, .ref tc, .ref td, .ref te])), (ta, .inl (cI, 6, .inl fta)), (tc, .inl (cI, 30, .inl ftc)), (td, .inl (cI, 7, .inl ftd)), (te, .inl (cI, 7, .inl fte)), (nw, .inr (7, [.ref nwc])), (nwc, .inl (cI, 41, .inl fn)), (ps, .inr (2, [.ref sh, .int p1, .int p2])), (sh, .inr (6, [.int 20, .ref shc])), (shc, .inl (cI, 820, .inl fsh))] (fun (r : Int32) (u : Int32 × Int32 × Int32 × Int32 × Int32 × (Nat → Int32) × Int32 × Int32 × (Nat → Int32)) => (r, u) = f_e_pass_x9 q1 q2 q10 q12 k0 k1 k2 k3 k4 t0 t1 t2 t3 t4 fta ftc ftd fte fn p1 p2 fsh v_) (fun (u : Int32 × Int32 × Int32 × Int32 × Int32 × (Nat → Int32) × Int32 × Int32 × (Nat → Int32)) => [(h, .inr (9, [.ref x, .int q1, .int q2, .ref rd, .ref t, .ref d, .ref nw, .ref ps, .ref im, .ref is_, .int q10, .ref bk, .int q12, .ref qr, .ref pr, .ref cv, .ref ft])), (qr, .inr (4, [.int (u.1), .int (u.2.1), .int (u.2.2.1), .int (u.2.2.2.1), .int (u.2.2.2.2.1)])), (t, .inr (8, [.int t0, .int t1, .int t2, .int t3, .int t4, .ref ta, .ref tb, .ref tc, .ref td, .ref te])), (ta, .inl (cI, 6, .inl fta)), (tc, .inl (cI, 30, .inl ftc)), (td, .inl (cI, 7, .inl ftd)), (te, .inl (cI, 7, .inl fte)), (nw, .inr (7, [.ref nwc])), (nwc, .inl (cI, 41, .inl u.2.2.2.2.2.1)), (ps, .inr (2, [.ref sh, .int (u.2.2.2.2.2.2.1), .int (u.2.2.2.2.2.2.2.1)])), (sh, .inr (6, [.int 20, .ref shc])), (shc, .inl (cI, 820, .inl u.2.2.2.2.2.2.2.2))]) := by
  refine KI.go rfl (Nat.le_of_ble_eq_true rfl) ?_
  intro p e s m args below meth c ls A Q hx hb hml hts hown hin hP hK hD hS hA hN hl hret
  have hl : lv_has ls 4 [(0, .ref h), (1, .int v_)] := hl
  obtain ⟨RES, hE⟩ : ∃ xRES, f_e_pass_x9 q1 q2 q10 q12 k0 k1 k2 k3 k4 t0 t1 t2 t3 t4 fta ftc ftd fte fn p1 p2 fsh v_ = xRES := ⟨_, rfl⟩
  rw [hE] at hret
  rw [f_e_pass_x9] at hE
  refine lv_aload_n hx hb dX9_pass_0 rfl (lv_at hl 0 rfl) ?_
  refine va_get (D := D) (ci := 9) (v := .ref t) (C := RX9) (T := TX9) (N := 17) hx hb hts iX9 hown hK hP 0 rfl rfl 4 (Nat.le_of_ble_eq_true rfl) (hts _ wd_89) (fun _ h9 => h9) rfl dX9_pass_1 ?_
  refine lv_iload_n hx hb dX9_pass_4 rfl (lv_at hl 1 rfl) ?_
  refine cVi (wr := [(h, .inr (9, [.ref x, .int q1, .int q2, .ref rd, .ref t, .ref d, .ref nw, .ref ps, .ref im, .ref is_, .int q10, .ref bk, .int q12, .ref qr, .ref pr, .ref cv, .ref ft])), (qr, .inr (4, [.int k0, .int k1, .int k2, .int k3, .int k4])), (ta, .inl (cI, 6, .inl fta)), (tc, .inl (cI, 30, .inl ftc)), (td, .inl (cI, 7, .inl ftd)), (te, .inl (cI, 7, .inl fte)), (nw, .inr (7, [.ref nwc])), (nwc, .inl (cI, 41, .inl fn)), (ps, .inr (2, [.ref sh, .int p1, .int p2])), (sh, .inr (6, [.int 20, .ref shc])), (shc, .inl (cI, 820, .inl fsh))]) (rest := []) (e_hasBarge t ta tb tc td te t0 t1 t2 t3 t4 v_) okV_X8_hasBarge wd_357 hx hb hml hown hts hK hP hD hS hA hN hl.1 [2] [0, 1, 3, 4, 5, 6, 7, 8, 9, 10, 11] rfl rfl rfl rfl (of_decide_eq_true rfl) rfl rfl rfl (Nat.le_of_ble_eq_true rfl) (Nat.le_of_ble_eq_true rfl) (Nat.le_of_ble_eq_true rfl) (Nat.le_of_ble_eq_true rfl) (Nat.le_of_ble_eq_true rfl) dX9_pass_5 (fun r_2 u_1 H locs hw_u_1 hP hD hS => ?_)
  replace hw_u_1 : r_2 = (f_e_hasBarge t0 t1 t2 t3 t4 v_) := hw_u_1
  rw [hw_u_1]
  clear hw_u_1
  have hP : va_P D classes [(h, .inr (9, [.ref x, .int q1, .int q2, .ref rd, .ref t, .ref d, .ref nw, .ref ps, .ref im, .ref is_, .int q10, .ref bk, .int q12, .ref qr, .ref pr, .ref cv, .ref ft])), (qr, .inr (4, [.int k0, .int k1, .int k2, .int k3, .int k4])), (ta, .inl (cI, 6, .inl fta)), (tc, .inl (cI, 30, .inl ftc)), (td, .inl (cI, 7, .inl ftd)), (te, .inl (cI, 7, .inl fte)), (nw, .inr (7, [.ref nwc])), (nwc, .inl (cI, 41, .inl fn)), (ps, .inr (2, [.ref sh, .int p1, .int p2])), (sh, .inr (6, [.int 20, .ref shc])), (shc, .inl (cI, 820, .inl fsh)), (t, .inr (8, [.int t0, .int t1, .int t2, .int t3, .int t4, .ref ta, .ref tb, .ref tc, .ref td, .ref te]))] H := hP
  have hD : va_D A [(h, .inr (9, [.ref x, .int q1, .int q2, .ref rd, .ref t, .ref d, .ref nw, .ref ps, .ref im, .ref is_, .int q10, .ref bk, .int q12, .ref qr, .ref pr, .ref cv, .ref ft])), (qr, .inr (4, [.int k0, .int k1, .int k2, .int k3, .int k4])), (ta, .inl (cI, 6, .inl fta)), (tc, .inl (cI, 30, .inl ftc)), (td, .inl (cI, 7, .inl ftd)), (te, .inl (cI, 7, .inl fte)), (nw, .inr (7, [.ref nwc])), (nwc, .inl (cI, 41, .inl fn)), (ps, .inr (2, [.ref sh, .int p1, .int p2])), (sh, .inr (6, [.int 20, .ref shc])), (shc, .inl (cI, 820, .inl fsh)), (t, .inr (8, [.int t0, .int t1, .int t2, .int t3, .int t4, .ref ta, .ref tb, .ref tc, .ref td, .ref te]))] := hD
  refine lv_if_ne (tgt := 14) hx hb dX9_pass_8 rfl (fun c_3 => ?_) (fun c_3 => ?_)
  · rw [if_neg c_3] at hE
    refine lv_aload_n hx hb dX9_pass_14 rfl (lv_at hl 0 rfl) ?_
    refine va_get (D := D) (ci := 9) (v := .ref nw) (C := RX9) (T := TX9) (N := 17) hx hb hts iX9 hown hK hP 0 rfl rfl 6 (Nat.le_of_ble_eq_true rfl) (hts _ wd_96) (fun _ h9 => h9) rfl dX9_pass_15 ?_
    refine lv_iload_n hx hb dX9_pass_18 rfl (lv_at hl 1 rfl) ?_
    refine cVi (wr := [(h, .inr (9, [.ref x, .int q1, .int q2, .ref rd, .ref t, .ref d, .ref nw, .ref ps, .ref im, .ref is_, .int q10, .ref bk, .int q12, .ref qr, .ref pr, .ref cv, .ref ft])), (qr, .inr (4, [.int k0, .int k1, .int k2, .int k3, .int k4])), (ta, .inl (cI, 6, .inl fta)), (tc, .inl (cI, 30, .inl ftc)), (td, .inl (cI, 7, .inl ftd)), (te, .inl (cI, 7, .inl fte)), (ps, .inr (2, [.ref sh, .int p1, .int p2])), (sh, .inr (6, [.int 20, .ref shc])), (shc, .inl (cI, 820, .inl fsh)), (t, .inr (8, [.int t0, .int t1, .int t2, .int t3, .int t4, .ref ta, .ref tb, .ref tc, .ref td, .ref te]))]) (rest := []) (e_fateOf nw nwc fn v_) okV_X7_fateOf wd_363 hx hb hml hown hts hK hP hD hS hA hN hl.1 [6, 7] [0, 1, 2, 3, 4, 5, 8, 9, 10, 11] rfl rfl rfl rfl (of_decide_eq_true rfl) rfl rfl rfl (Nat.le_of_ble_eq_true rfl) (Nat.le_of_ble_eq_true rfl) (Nat.le_of_ble_eq_true rfl) (Nat.le_of_ble_eq_true rfl) (Nat.le_of_ble_eq_true rfl) dX9_pass_19 (fun r_5 u_4 H locs hw_u_4 hP hD hS => ?_)
    replace hw_u_4 : r_5 = (f_e_fateOf fn v_) := hw_u_4
    rw [hw_u_4]
    clear hw_u_4
    have hP : va_P D classes [(h, .inr (9, [.ref x, .int q1, .int q2, .ref rd, .ref t, .ref d, .ref nw, .ref ps, .ref im, .ref is_, .int q10, .ref bk, .int q12, .ref qr, .ref pr, .ref cv, .ref ft])), (qr, .inr (4, [.int k0, .int k1, .int k2, .int k3, .int k4])), (ta, .inl (cI, 6, .inl fta)), (tc, .inl (cI, 30, .inl ftc)), (td, .inl (cI, 7, .inl ftd)), (te, .inl (cI, 7, .inl fte)), (ps, .inr (2, [.ref sh, .int p1, .int p2])), (sh, .inr (6, [.int 20, .ref shc])), (shc, .inl (cI, 820, .inl fsh)), (t, .inr (8, [.int t0, .int t1, .int t2, .int t3, .int t4, .ref ta, .ref tb, .ref tc, .ref td, .ref te])), (nw, .inr (7, [.ref nwc])), (nwc, .inl (cI, 41, .inl fn))] H := hP
    have hD : va_D A [(h, .inr (9, [.ref x, .int q1, .int q2, .ref rd, .ref t, .ref d, .ref nw, .ref ps, .ref im, .ref is_, .int q10, .ref bk, .int q12, .ref qr, .ref pr, .ref cv, .ref ft])), (qr, .inr (4, [.int k0, .int k1, .int k2, .int k3, .int k4])), (ta, .inl (cI, 6, .inl fta)), (tc, .inl (cI, 30, .inl ftc)), (td, .inl (cI, 7, .inl ftd)), (te, .inl (cI, 7, .inl fte)), (ps, .inr (2, [.ref sh, .int p1, .int p2])), (sh, .inr (6, [.int 20, .ref shc])), (shc, .inl (cI, 820, .inl fsh)), (t, .inr (8, [.int t0, .int t1, .int t2, .int t3, .int t4, .ref ta, .ref tb, .ref tc, .ref td, .ref te])), (nw, .inr (7, [.ref nwc])), (nwc, .inl (cI, 41, .inl fn))] := hD
    refine lv_if_eq (tgt := 28) hx hb dX9_pass_22 rfl (fun c_6 => ?_) (fun c_6 => ?_)
    · rw [if_pos c_6] at hE
      refine lv_aload_n hx hb dX9_pass_28 rfl (lv_at hl 0 rfl) ?_
      refine va_get (D := D) (ci := 9) (v := .ref nw) (C := RX9) (T := TX9) (N := 17) hx hb hts iX9 hown hK hP 0 rfl rfl 6 (Nat.le_of_ble_eq_true rfl) (hts _ wd_96) (fun _ h9 => h9) rfl dX9_pass_29 ?_
      refine cVi (wr := [(h, .inr (9, [.ref x, .int q1, .int q2, .ref rd, .ref t, .ref d, .ref nw, .ref ps, .ref im, .ref is_, .int q10, .ref bk, .int q12, .ref qr, .ref pr, .ref cv, .ref ft])), (qr, .inr (4, [.int k0, .int k1, .int k2, .int k3, .int k4])), (ta, .inl (cI, 6, .inl fta)), (tc, .inl (cI, 30, .inl ftc)), (td, .inl (cI, 7, .inl ftd)), (te, .inl (cI, 7, .inl fte)), (ps, .inr (2, [.ref sh, .int p1, .int p2])), (sh, .inr (6, [.int 20, .ref shc])), (shc, .inl (cI, 820, .inl fsh)), (t, .inr (8, [.int t0, .int t1, .int t2, .int t3, .int t4, .ref ta, .ref tb, .ref tc, .ref td, .ref te]))]) (rest := []) (e_minutes nw nwc fn) okV_X7_minutes wd_375 hx hb hml hown hts hK hP hD hS hA hN hl.1 [10, 11] [0, 1, 2, 3, 4, 5, 6, 7, 8, 9] rfl rfl rfl rfl (of_decide_eq_true rfl) rfl rfl rfl (Nat.le_of_ble_eq_true rfl) (Nat.le_of_ble_eq_true rfl) (Nat.le_of_ble_eq_true rfl) (Nat.le_of_ble_eq_true rfl) (Nat.le_of_ble_eq_true rfl) dX9_pass_32 (fun r_8 u_7 H locs hw_u_7 hP hD hS => ?_)
      replace hw_u_7 : r_8 = (f_e_minutes fn) := hw_u_7
      rw [hw_u_7]
      clear hw_u_7
      have hP : va_P D classes [(h, .inr (9, [.ref x, .int q1, .int q2, .ref rd, .ref t, .ref d, .ref nw, .ref ps, .ref im, .ref is_, .int q10, .ref bk, .int q12, .ref qr, .ref pr, .ref cv, .ref ft])), (qr, .inr (4, [.int k0, .int k1, .int k2, .int k3, .int k4])), (ta, .inl (cI, 6, .inl fta)), (tc, .inl (cI, 30, .inl ftc)), (td, .inl (cI, 7, .inl ftd)), (te, .inl (cI, 7, .inl fte)), (ps, .inr (2, [.ref sh, .int p1, .int p2])), (sh, .inr (6, [.int 20, .ref shc])), (shc, .inl (cI, 820, .inl fsh)), (t, .inr (8, [.int t0, .int t1, .int t2, .int t3, .int t4, .ref ta, .ref tb, .ref tc, .ref td, .ref te])), (nw, .inr (7, [.ref nwc])), (nwc, .inl (cI, 41, .inl fn))] H := hP
      have hD : va_D A [(h, .inr (9, [.ref x, .int q1, .int q2, .ref rd, .ref t, .ref d, .ref nw, .ref ps, .ref im, .ref is_, .int q10, .ref bk, .int q12, .ref qr, .ref pr, .ref cv, .ref ft])), (qr, .inr (4, [.int k0, .int k1, .int k2, .int k3, .int k4])), (ta, .inl (cI, 6, .inl fta)), (tc, .inl (cI, 30, .inl ftc)), (td, .inl (cI, 7, .inl ftd)), (te, .inl (cI, 7, .inl fte)), (ps, .inr (2, [.ref sh, .int p1, .int p2])), (sh, .inr (6, [.int 20, .ref shc])), (shc, .inl (cI, 820, .inl fsh)), (t, .inr (8, [.int t0, .int t1, .int t2, .int t3, .int t4, .ref ta, .ref tb, .ref tc, .ref td, .ref te])), (nw, .inr (7, [.ref nwc])), (nwc, .inl (cI, 41, .inl fn))] := hD
      refine lv_ldc (v := 90000) hx hb hown (hts _ wd_398) dX9_pass_35 ?_
      refine lv_icmp_le (tgt := 43) hx hb dX9_pass_37 rfl (fun c_9 => ?_) (fun c_9 => ?_)
      · rw [if_pos c_9] at hE
        refine lv_aload_n hx hb dX9_pass_43 rfl (lv_at hl 0 rfl) ?_
        refine va_get (D := D) (ci := 9) (v := .ref ps) (C := RX9) (T := TX9) (N := 17) hx hb hts iX9 hown hK hP 0 rfl rfl 7 (Nat.le_of_ble_eq_true rfl) (hts _ wd_102) (fun _ h9 => h9) rfl dX9_pass_44 ?_
        refine lv_aload_n hx hb dX9_pass_47 rfl (lv_at hl 0 rfl) ?_
        refine va_get (D := D) (ci := 9) (v := .ref nw) (C := RX9) (T := TX9) (N := 17) hx hb hts iX9 hown hK hP 0 rfl rfl 6 (Nat.le_of_ble_eq_true rfl) (hts _ wd_96) (fun _ h9 => h9) rfl dX9_pass_48 ?_
        refine cVv (wr := [(h, .inr (9, [.ref x, .int q1, .int q2, .ref rd, .ref t, .ref d, .ref nw, .ref ps, .ref im, .ref is_, .int q10, .ref bk, .int q12, .ref qr, .ref pr, .ref cv, .ref ft])), (qr, .inr (4, [.int k0, .int k1, .int k2, .int k3, .int k4])), (ta, .inl (cI, 6, .inl fta)), (tc, .inl (cI, 30, .inl ftc)), (td, .inl (cI, 7, .inl ftd)), (te, .inl (cI, 7, .inl fte)), (t, .inr (8, [.int t0, .int t1, .int t2, .int t3, .int t4, .ref ta, .ref tb, .ref tc, .ref td, .ref te]))]) (rest := []) (e_remember_x2 ps sh shc nw nwc p1 p2 fsh fn) okV_X2_remember wd_385 hx hb hml hown hts hK hP hD hS hA hN hl.1 [6, 7, 8, 10, 11] [0, 1, 2, 3, 4, 5, 9] rfl rfl rfl rfl (of_decide_eq_true rfl) rfl rfl rfl (Nat.le_of_ble_eq_true rfl) (Nat.le_of_ble_eq_true rfl) (Nat.le_of_ble_eq_true rfl) (Nat.le_of_ble_eq_true rfl) (Nat.le_of_ble_eq_true rfl) dX9_pass_51 (fun u_10 H locs hw_u_10 hP hD hS => ?_)
        obtain ⟨o_12, o_13, o_14⟩ := u_10
        replace hw_u_10 : (o_12, o_13, o_14) = (f_e_remember_x2 p1 p2 fsh fn) := hw_u_10
        rw [← hw_u_10] at hE
        replace hE : (match (f_e_pass_x9_72 q1 q2 q10 q12 k0 k1 k2 k3 k4 t0 t1 t2 t3 t4 fta ftc ftd fte fn p1 p2 fsh v_ ((((if 5 < (atF 7 ftd v_) then 5 else (atF 7 ftd v_)) : Int32).toInt + 1 - (0 : Int32).toInt).toNat + 1) 0 k0 k1 k2 k3 k4 fn o_12 o_13 o_14) with | Sum.inl (w_17l3, w_17m0, w_17m1, w_17m2, w_17m3, w_17m4, w_17m5, w_17m6, w_17m7, w_17m8) => (if (atF 7 fte v_) < (f_e_minutes w_17m5) then ((f_e_minutes (f_e_letThrough w_17m5 v_ 2)), w_17m0, w_17m1, w_17m2, w_17m3, w_17m4, (f_e_letThrough w_17m5 v_ 2), w_17m6, w_17m7, w_17m8) else ((f_e_minutes (f_e_letThrough w_17m5 v_ 1)), w_17m0, w_17m1, w_17m2, w_17m3, w_17m4, (f_e_letThrough w_17m5 v_ 1), w_17m6, w_17m7, w_17m8)) | Sum.inr o => o) = RES := hE
        have hP : va_P D classes [(h, .inr (9, [.ref x, .int q1, .int q2, .ref rd, .ref t, .ref d, .ref nw, .ref ps, .ref im, .ref is_, .int q10, .ref bk, .int q12, .ref qr, .ref pr, .ref cv, .ref ft])), (qr, .inr (4, [.int k0, .int k1, .int k2, .int k3, .int k4])), (ta, .inl (cI, 6, .inl fta)), (tc, .inl (cI, 30, .inl ftc)), (td, .inl (cI, 7, .inl ftd)), (te, .inl (cI, 7, .inl fte)), (t, .inr (8, [.int t0, .int t1, .int t2, .int t3, .int t4, .ref ta, .ref tb, .ref tc, .ref td, .ref te])), (ps, .inr (2, [.ref sh, .int o_12, .int o_13])), (sh, .inr (6, [.int 20, .ref shc])), (shc, .inl (cI, 820, .inl o_14)), (nw, .inr (7, [.ref nwc])), (nwc, .inl (cI, 41, .inl fn))] H := hP
        have hD : va_D A [(h, .inr (9, [.ref x, .int q1, .int q2, .ref rd, .ref t, .ref d, .ref nw, .ref ps, .ref im, .ref is_, .int q10, .ref bk, .int q12, .ref qr, .ref pr, .ref cv, .ref ft])), (qr, .inr (4, [.int k0, .int k1, .int k2, .int k3, .int k4])), (ta, .inl (cI, 6, .inl fta)), (tc, .inl (cI, 30, .inl ftc)), (td, .inl (cI, 7, .inl ftd)), (te, .inl (cI, 7, .inl fte)), (t, .inr (8, [.int t0, .int t1, .int t2, .int t3, .int t4, .ref ta, .ref tb, .ref tc, .ref td, .ref te])), (ps, .inr (2, [.ref sh, .int o_12, .int o_13])), (sh, .inr (6, [.int 20, .ref shc])), (shc, .inl (cI, 820, .inl o_14)), (nw, .inr (7, [.ref nwc])), (nwc, .inl (cI, 41, .inl fn))] := hD
        refine lv_aload_n hx hb dX9_pass_54 rfl (lv_at hl 0 rfl) ?_
        refine va_get (D := D) (ci := 9) (v := .ref t) (C := RX9) (T := TX9) (N := 17) hx hb hts iX9 hown hK hP 0 rfl rfl 4 (Nat.le_of_ble_eq_true rfl) (hts _ wd_89) (fun _ h9 => h9) rfl dX9_pass_55 ?_
        refine va_get (D := D) (ci := 8) (v := .ref td) (C := RX8) (T := TX8) (N := 10) hx hb hts iX8 hown hK hP 6 rfl rfl 8 (Nat.le_of_ble_eq_true rfl) (hts _ wd_361) (fun _ h9 => h9) rfl dX9_pass_58 ?_
        refine lv_iload_n hx hb dX9_pass_61 rfl (lv_at hl 1 rfl) ?_
        refine cSi (wr := [(h, .inr (9, [.ref x, .int q1, .int q2, .ref rd, .ref t, .ref d, .ref nw, .ref ps, .ref im, .ref is_, .int q10, .ref bk, .int q12, .ref qr, .ref pr, .ref cv, .ref ft])), (qr, .inr (4, [.int k0, .int k1, .int k2, .int k3, .int k4])), (ta, .inl (cI, 6, .inl fta)), (tc, .inl (cI, 30, .inl ftc)), (te, .inl (cI, 7, .inl fte)), (t, .inr (8, [.int t0, .int t1, .int t2, .int t3, .int t4, .ref ta, .ref tb, .ref tc, .ref td, .ref te])), (ps, .inr (2, [.ref sh, .int o_12, .int o_13])), (sh, .inr (6, [.int 20, .ref shc])), (shc, .inl (cI, 820, .inl o_14)), (nw, .inr (7, [.ref nwc])), (nwc, .inl (cI, 41, .inl fn))]) (rest := []) (k_at td 7 ftd v_ (of_decide_eq_true rfl)) okS_X9_at wd_258 hx hb hml hown hts hK hP hD hS hA hN hl.1 [4] [0, 1, 2, 3, 5, 6, 7, 8, 9, 10, 11] rfl rfl rfl rfl (by decide) rfl (Nat.le_of_ble_eq_true rfl) (Nat.le_of_ble_eq_true rfl) (Nat.le_of_ble_eq_true rfl) (Nat.le_of_ble_eq_true rfl) (Nat.le_of_ble_eq_true rfl) dX9_pass_62 (fun r_16 u_15 H locs hw_u_15 hP hD hS => ?_)
        obtain rfl := hw_u_15
        have hP : va_P D classes [(h, .inr (9, [.ref x, .int q1, .int q2, .ref rd, .ref t, .ref d, .ref nw, .ref ps, .ref im, .ref is_, .int q10, .ref bk, .int q12, .ref qr, .ref pr, .ref cv, .ref ft])), (qr, .inr (4, [.int k0, .int k1, .int k2, .int k3, .int k4])), (ta, .inl (cI, 6, .inl fta)), (tc, .inl (cI, 30, .inl ftc)), (te, .inl (cI, 7, .inl fte)), (t, .inr (8, [.int t0, .int t1, .int t2, .int t3, .int t4, .ref ta, .ref tb, .ref tc, .ref td, .ref te])), (ps, .inr (2, [.ref sh, .int o_12, .int o_13])), (sh, .inr (6, [.int 20, .ref shc])), (shc, .inl (cI, 820, .inl o_14)), (nw, .inr (7, [.ref nwc])), (nwc, .inl (cI, 41, .inl fn)), (td, .inl (cI, 7, .inl ftd))] H := hP
        have hD : va_D A [(h, .inr (9, [.ref x, .int q1, .int q2, .ref rd, .ref t, .ref d, .ref nw, .ref ps, .ref im, .ref is_, .int q10, .ref bk, .int q12, .ref qr, .ref pr, .ref cv, .ref ft])), (qr, .inr (4, [.int k0, .int k1, .int k2, .int k3, .int k4])), (ta, .inl (cI, 6, .inl fta)), (tc, .inl (cI, 30, .inl ftc)), (te, .inl (cI, 7, .inl fte)), (t, .inr (8, [.int t0, .int t1, .int t2, .int t3, .int t4, .ref ta, .ref tb, .ref tc, .ref td, .ref te])), (ps, .inr (2, [.ref sh, .int o_12, .int o_13])), (sh, .inr (6, [.int 20, .ref shc])), (shc, .inl (cI, 820, .inl o_14)), (nw, .inr (7, [.ref nwc])), (nwc, .inl (cI, 41, .inl fn)), (td, .inl (cI, 7, .inl ftd))] := hD
        refine lv_iconst (v := 5) hx hb dX9_pass_65 rfl ?_
        refine va_mmin hx hb (by rw [hml]; exact hl.1.symm) hown (hts _ wd_190) (hts _ wd_157) (hts _ wd_52) (hts _ wd_158) (Nat.le_of_ble_eq_true rfl) (Nat.le_of_ble_eq_true rfl) (Nat.le_of_ble_eq_true rfl) (Nat.le_of_ble_eq_true rfl) dX9_pass_66 ?_
        refine lv_istore_n (lv' := [(2, .int (if 5 < (atF 7 ftd v_) then 5 else (atF 7 ftd v_))), (0, .ref h), (1, .int v_)]) hx hb dX9_pass_69 rfl hl (Nat.le_of_ble_eq_true rfl) rfl (fun ls hl => ?_)
        refine lv_iconst (v := 0) hx hb dX9_pass_70 rfl ?_
        refine lv_istore_n (lv' := [(3, .int 0), (2, .int (if 5 < (atF 7 ftd v_) then 5 else (atF 7 ftd v_))), (0, .ref h), (1, .int v_)]) hx hb dX9_pass_71 rfl hl (Nat.le_of_ble_eq_true rfl) rfl (fun ls hl => ?_)
        have ex_72_w_17 : ∀ (w_17l3 : Int32) (w_17m0 : Int32) (w_17m1 : Int32) (w_17m2 : Int32) (w_17m3 : Int32) (w_17m4 : Int32) (w_17m5 : (Nat → Int32)) (w_17m6 : Int32) (w_17m7 : Int32) (w_17m8 : (Nat → Int32)) (H : Heap) (locs : List Loc) (ls : Array Slot), va_P D classes [(h, .inr (9, [.ref x, .int q1, .int q2, .ref rd, .ref t, .ref d, .ref nw, .ref ps, .ref im, .ref is_, .int q10, .ref bk, .int q12, .ref qr, .ref pr, .ref cv, .ref ft])), (qr, .inr (4, [.int w_17m0, .int w_17m1, .int w_17m2, .int w_17m3, .int w_17m4])), (ta, .inl (cI, 6, .inl fta)), (tc, .inl (cI, 30, .inl ftc)), (te, .inl (cI, 7, .inl fte)), (t, .inr (8, [.int t0, .int t1, .int t2, .int t3, .int t4, .ref ta, .ref tb, .ref tc, .ref td, .ref te])), (ps, .inr (2, [.ref sh, .int w_17m6, .int w_17m7])), (sh, .inr (6, [.int 20, .ref shc])), (shc, .inl (cI, 820, .inl w_17m8)), (nw, .inr (7, [.ref nwc])), (nwc, .inl (cI, 41, .inl w_17m5)), (td, .inl (cI, 7, .inl ftd))] H → va_D A [(h, .inr (9, [.ref x, .int q1, .int q2, .ref rd, .ref t, .ref d, .ref nw, .ref ps, .ref im, .ref is_, .int q10, .ref bk, .int q12, .ref qr, .ref pr, .ref cv, .ref ft])), (qr, .inr (4, [.int w_17m0, .int w_17m1, .int w_17m2, .int w_17m3, .int w_17m4])), (ta, .inl (cI, 6, .inl fta)), (tc, .inl (cI, 30, .inl ftc)), (te, .inl (cI, 7, .inl fte)), (t, .inr (8, [.int t0, .int t1, .int t2, .int t3, .int t4, .ref ta, .ref tb, .ref tc, .ref td, .ref te])), (ps, .inr (2, [.ref sh, .int w_17m6, .int w_17m7])), (sh, .inr (6, [.int 20, .ref shc])), (shc, .inl (cI, 820, .inl w_17m8)), (nw, .inr (7, [.ref nwc])), (nwc, .inl (cI, 41, .inl w_17m5)), (td, .inl (cI, 7, .inl ftd))] → va_S A s.heap H locs → lv_has ls 4 [(3, .int w_17l3), (2, .int (if 5 < (atF 7 ftd v_) then 5 else (atF 7 ftd v_))), (0, .ref h), (1, .int v_)] → ((if (atF 7 fte v_) < (f_e_minutes w_17m5) then ((f_e_minutes (f_e_letThrough w_17m5 v_ 2)), w_17m0, w_17m1, w_17m2, w_17m3, w_17m4, (f_e_letThrough w_17m5 v_ 2), w_17m6, w_17m7, w_17m8) else ((f_e_minutes (f_e_letThrough w_17m5 v_ 1)), w_17m0, w_17m1, w_17m2, w_17m3, w_17m4, (f_e_letThrough w_17m5 v_ 1), w_17m6, w_17m7, w_17m8))) = RES → W p l e rm_e_pass_x9 s m args below meth c H locs 0 0 Q (F0 m 108 ls []) := by
          intro w_17l3 w_17m0 w_17m1 w_17m2 w_17m3 w_17m4 w_17m5 w_17m6 w_17m7 w_17m8 H locs ls hP hD hS hl hE
          refine lv_aload_n hx hb dX9_pass_108 rfl (lv_at hl 2 rfl) ?_
          refine va_get (D := D) (ci := 9) (v := .ref nw) (C := RX9) (T := TX9) (N := 17) hx hb hts iX9 hown hK hP 0 rfl rfl 6 (Nat.le_of_ble_eq_true rfl) (hts _ wd_96) (fun _ h9 => h9) rfl dX9_pass_109 ?_
          refine lv_iload_n hx hb dX9_pass_112 rfl (lv_at hl 3 rfl) ?_
          refine lv_aload_n hx hb dX9_pass_113 rfl (lv_at hl 2 rfl) ?_
          refine va_get (D := D) (ci := 9) (v := .ref nw) (C := RX9) (T := TX9) (N := 17) hx hb hts iX9 hown hK hP 0 rfl rfl 6 (Nat.le_of_ble_eq_true rfl) (hts _ wd_96) (fun _ h9 => h9) rfl dX9_pass_114 ?_
          refine cVi (wr := [(h, .inr (9, [.ref x, .int q1, .int q2, .ref rd, .ref t, .ref d, .ref nw, .ref ps, .ref im, .ref is_, .int q10, .ref bk, .int q12, .ref qr, .ref pr, .ref cv, .ref ft])), (qr, .inr (4, [.int w_17m0, .int w_17m1, .int w_17m2, .int w_17m3, .int w_17m4])), (ta, .inl (cI, 6, .inl fta)), (tc, .inl (cI, 30, .inl ftc)), (te, .inl (cI, 7, .inl fte)), (t, .inr (8, [.int t0, .int t1, .int t2, .int t3, .int t4, .ref ta, .ref tb, .ref tc, .ref td, .ref te])), (ps, .inr (2, [.ref sh, .int w_17m6, .int w_17m7])), (sh, .inr (6, [.int 20, .ref shc])), (shc, .inl (cI, 820, .inl w_17m8)), (td, .inl (cI, 7, .inl ftd))]) (rest := [.int v_, .ref nw]) (e_minutes nw nwc w_17m5) okV_X7_minutes wd_375 hx hb hml hown hts hK hP hD hS hA hN hl.1 [9, 10] [0, 1, 2, 3, 4, 5, 6, 7, 8, 11] rfl rfl rfl rfl (of_decide_eq_true rfl) rfl rfl rfl (Nat.le_of_ble_eq_true rfl) (Nat.le_of_ble_eq_true rfl) (Nat.le_of_ble_eq_true rfl) (Nat.le_of_ble_eq_true rfl) (Nat.le_of_ble_eq_true rfl) dX9_pass_117 (fun r_19 u_18 H locs hw_u_18 hP hD hS => ?_)
          replace hw_u_18 : r_19 = (f_e_minutes w_17m5) := hw_u_18
          rw [hw_u_18]
          clear hw_u_18
          have hP : va_P D classes [(h, .inr (9, [.ref x, .int q1, .int q2, .ref rd, .ref t, .ref d, .ref nw, .ref ps, .ref im, .ref is_, .int q10, .ref bk, .int q12, .ref qr, .ref pr, .ref cv, .ref ft])), (qr, .inr (4, [.int w_17m0, .int w_17m1, .int w_17m2, .int w_17m3, .int w_17m4])), (ta, .inl (cI, 6, .inl fta)), (tc, .inl (cI, 30, .inl ftc)), (te, .inl (cI, 7, .inl fte)), (t, .inr (8, [.int t0, .int t1, .int t2, .int t3, .int t4, .ref ta, .ref tb, .ref tc, .ref td, .ref te])), (ps, .inr (2, [.ref sh, .int w_17m6, .int w_17m7])), (sh, .inr (6, [.int 20, .ref shc])), (shc, .inl (cI, 820, .inl w_17m8)), (td, .inl (cI, 7, .inl ftd)), (nw, .inr (7, [.ref nwc])), (nwc, .inl (cI, 41, .inl w_17m5))] H := hP
          have hD : va_D A [(h, .inr (9, [.ref x, .int q1, .int q2, .ref rd, .ref t, .ref d, .ref nw, .ref ps, .ref im, .ref is_, .int q10, .ref bk, .int q12, .ref qr, .ref pr, .ref cv, .ref ft])), (qr, .inr (4, [.int w_17m0, .int w_17m1, .int w_17m2, .int w_17m3, .int w_17m4])), (ta, .inl (cI, 6, .inl fta)), (tc, .inl (cI, 30, .inl ftc)), (te, .inl (cI, 7, .inl fte)), (t, .inr (8, [.int t0, .int t1, .int t2, .int t3, .int t4, .ref ta, .ref tb, .ref tc, .ref td, .ref te])), (ps, .inr (2, [.ref sh, .int w_17m6, .int w_17m7])), (sh, .inr (6, [.int 20, .ref shc])), (shc, .inl (cI, 820, .inl w_17m8)), (td, .inl (cI, 7, .inl ftd)), (nw, .inr (7, [.ref nwc])), (nwc, .inl (cI, 41, .inl w_17m5))] := hD
          refine lv_aload_n hx hb dX9_pass_120 rfl (lv_at hl 2 rfl) ?_
          refine va_get (D := D) (ci := 9) (v := .ref t) (C := RX9) (T := TX9) (N := 17) hx hb hts iX9 hown hK hP 0 rfl rfl 4 (Nat.le_of_ble_eq_true rfl) (hts _ wd_89) (fun _ h9 => h9) rfl dX9_pass_121 ?_
          refine va_get (D := D) (ci := 8) (v := .ref te) (C := RX8) (T := TX8) (N := 10) hx hb hts iX8 hown hK hP 5 rfl rfl 9 (Nat.le_of_ble_eq_true rfl) (hts _ wd_362) (fun _ h9 => h9) rfl dX9_pass_124 ?_
          refine lv_iload_n hx hb dX9_pass_127 rfl (lv_at hl 3 rfl) ?_
          refine cSi (wr := [(h, .inr (9, [.ref x, .int q1, .int q2, .ref rd, .ref t, .ref d, .ref nw, .ref ps, .ref im, .ref is_, .int q10, .ref bk, .int q12, .ref qr, .ref pr, .ref cv, .ref ft])), (qr, .inr (4, [.int w_17m0, .int w_17m1, .int w_17m2, .int w_17m3, .int w_17m4])), (ta, .inl (cI, 6, .inl fta)), (tc, .inl (cI, 30, .inl ftc)), (t, .inr (8, [.int t0, .int t1, .int t2, .int t3, .int t4, .ref ta, .ref tb, .ref tc, .ref td, .ref te])), (ps, .inr (2, [.ref sh, .int w_17m6, .int w_17m7])), (sh, .inr (6, [.int 20, .ref shc])), (shc, .inl (cI, 820, .inl w_17m8)), (td, .inl (cI, 7, .inl ftd)), (nw, .inr (7, [.ref nwc])), (nwc, .inl (cI, 41, .inl w_17m5))]) (rest := [.int (f_e_minutes w_17m5), .int v_, .ref nw]) (k_at te 7 fte v_ (of_decide_eq_true rfl)) okS_X9_at wd_258 hx hb hml hown hts hK hP hD hS hA hN hl.1 [4] [0, 1, 2, 3, 5, 6, 7, 8, 9, 10, 11] rfl rfl rfl rfl (by decide) rfl (Nat.le_of_ble_eq_true rfl) (Nat.le_of_ble_eq_true rfl) (Nat.le_of_ble_eq_true rfl) (Nat.le_of_ble_eq_true rfl) (Nat.le_of_ble_eq_true rfl) dX9_pass_128 (fun r_21 u_20 H locs hw_u_20 hP hD hS => ?_)
          obtain rfl := hw_u_20
          have hP : va_P D classes [(h, .inr (9, [.ref x, .int q1, .int q2, .ref rd, .ref t, .ref d, .ref nw, .ref ps, .ref im, .ref is_, .int q10, .ref bk, .int q12, .ref qr, .ref pr, .ref cv, .ref ft])), (qr, .inr (4, [.int w_17m0, .int w_17m1, .int w_17m2, .int w_17m3, .int w_17m4])), (ta, .inl (cI, 6, .inl fta)), (tc, .inl (cI, 30, .inl ftc)), (t, .inr (8, [.int t0, .int t1, .int t2, .int t3, .int t4, .ref ta, .ref tb, .ref tc, .ref td, .ref te])), (ps, .inr (2, [.ref sh, .int w_17m6, .int w_17m7])), (sh, .inr (6, [.int 20, .ref shc])), (shc, .inl (cI, 820, .inl w_17m8)), (td, .inl (cI, 7, .inl ftd)), (nw, .inr (7, [.ref nwc])), (nwc, .inl (cI, 41, .inl w_17m5)), (te, .inl (cI, 7, .inl fte))] H := hP
          have hD : va_D A [(h, .inr (9, [.ref x, .int q1, .int q2, .ref rd, .ref t, .ref d, .ref nw, .ref ps, .ref im, .ref is_, .int q10, .ref bk, .int q12, .ref qr, .ref pr, .ref cv, .ref ft])), (qr, .inr (4, [.int w_17m0, .int w_17m1, .int w_17m2, .int w_17m3, .int w_17m4])), (ta, .inl (cI, 6, .inl fta)), (tc, .inl (cI, 30, .inl ftc)), (t, .inr (8, [.int t0, .int t1, .int t2, .int t3, .int t4, .ref ta, .ref tb, .ref tc, .ref td, .ref te])), (ps, .inr (2, [.ref sh, .int w_17m6, .int w_17m7])), (sh, .inr (6, [.int 20, .ref shc])), (shc, .inl (cI, 820, .inl w_17m8)), (td, .inl (cI, 7, .inl ftd)), (nw, .inr (7, [.ref nwc])), (nwc, .inl (cI, 41, .inl w_17m5)), (te, .inl (cI, 7, .inl fte))] := hD
          refine lv_icmp_gt (tgt := 138) hx hb dX9_pass_131 rfl (fun c_22 => ?_) (fun c_22 => ?_)
          · rw [if_pos c_22] at hE
            refine lv_iconst (v := 2) hx hb dX9_pass_138 rfl ?_
            refine cVv (wr := [(h, .inr (9, [.ref x, .int q1, .int q2, .ref rd, .ref t, .ref d, .ref nw, .ref ps, .ref im, .ref is_, .int q10, .ref bk, .int q12, .ref qr, .ref pr, .ref cv, .ref ft])), (qr, .inr (4, [.int w_17m0, .int w_17m1, .int w_17m2, .int w_17m3, .int w_17m4])), (ta, .inl (cI, 6, .inl fta)), (tc, .inl (cI, 30, .inl ftc)), (t, .inr (8, [.int t0, .int t1, .int t2, .int t3, .int t4, .ref ta, .ref tb, .ref tc, .ref td, .ref te])), (ps, .inr (2, [.ref sh, .int w_17m6, .int w_17m7])), (sh, .inr (6, [.int 20, .ref shc])), (shc, .inl (cI, 820, .inl w_17m8)), (td, .inl (cI, 7, .inl ftd)), (te, .inl (cI, 7, .inl fte))]) (rest := []) (e_letThrough nw nwc w_17m5 v_ 2) okV_X7_letThrough wd_443 hx hb hml hown hts hK hP hD hS hA hN hl.1 [9, 10] [0, 1, 2, 3, 4, 5, 6, 7, 8, 11] rfl rfl rfl rfl (of_decide_eq_true rfl) rfl rfl rfl (Nat.le_of_ble_eq_true rfl) (Nat.le_of_ble_eq_true rfl) (Nat.le_of_ble_eq_true rfl) (Nat.le_of_ble_eq_true rfl) (Nat.le_of_ble_eq_true rfl) dX9_pass_139 (fun u_23 H locs hw_u_23 hP hD hS => ?_)
            replace hw_u_23 : u_23 = (f_e_letThrough w_17m5 v_ 2) := hw_u_23
            subst hw_u_23
            have hP : va_P D classes [(h, .inr (9, [.ref x, .int q1, .int q2, .ref rd, .ref t, .ref d, .ref nw, .ref ps, .ref im, .ref is_, .int q10, .ref bk, .int q12, .ref qr, .ref pr, .ref cv, .ref ft])), (qr, .inr (4, [.int w_17m0, .int w_17m1, .int w_17m2, .int w_17m3, .int w_17m4])), (ta, .inl (cI, 6, .inl fta)), (tc, .inl (cI, 30, .inl ftc)), (t, .inr (8, [.int t0, .int t1, .int t2, .int t3, .int t4, .ref ta, .ref tb, .ref tc, .ref td, .ref te])), (ps, .inr (2, [.ref sh, .int w_17m6, .int w_17m7])), (sh, .inr (6, [.int 20, .ref shc])), (shc, .inl (cI, 820, .inl w_17m8)), (td, .inl (cI, 7, .inl ftd)), (te, .inl (cI, 7, .inl fte)), (nw, .inr (7, [.ref nwc])), (nwc, .inl (cI, 41, .inl (f_e_letThrough w_17m5 v_ 2)))] H := hP
            have hD : va_D A [(h, .inr (9, [.ref x, .int q1, .int q2, .ref rd, .ref t, .ref d, .ref nw, .ref ps, .ref im, .ref is_, .int q10, .ref bk, .int q12, .ref qr, .ref pr, .ref cv, .ref ft])), (qr, .inr (4, [.int w_17m0, .int w_17m1, .int w_17m2, .int w_17m3, .int w_17m4])), (ta, .inl (cI, 6, .inl fta)), (tc, .inl (cI, 30, .inl ftc)), (t, .inr (8, [.int t0, .int t1, .int t2, .int t3, .int t4, .ref ta, .ref tb, .ref tc, .ref td, .ref te])), (ps, .inr (2, [.ref sh, .int w_17m6, .int w_17m7])), (sh, .inr (6, [.int 20, .ref shc])), (shc, .inl (cI, 820, .inl w_17m8)), (td, .inl (cI, 7, .inl ftd)), (te, .inl (cI, 7, .inl fte)), (nw, .inr (7, [.ref nwc])), (nwc, .inl (cI, 41, .inl (f_e_letThrough w_17m5 v_ 2)))] := hD
            refine lv_aload_n hx hb dX9_pass_142 rfl (lv_at hl 2 rfl) ?_
            refine va_get (D := D) (ci := 9) (v := .ref nw) (C := RX9) (T := TX9) (N := 17) hx hb hts iX9 hown hK hP 0 rfl rfl 6 (Nat.le_of_ble_eq_true rfl) (hts _ wd_96) (fun _ h9 => h9) rfl dX9_pass_143 ?_
            refine cVi (wr := [(h, .inr (9, [.ref x, .int q1, .int q2, .ref rd, .ref t, .ref d, .ref nw, .ref ps, .ref im, .ref is_, .int q10, .ref bk, .int q12, .ref qr, .ref pr, .ref cv, .ref ft])), (qr, .inr (4, [.int w_17m0, .int w_17m1, .int w_17m2, .int w_17m3, .int w_17m4])), (ta, .inl (cI, 6, .inl fta)), (tc, .inl (cI, 30, .inl ftc)), (t, .inr (8, [.int t0, .int t1, .int t2, .int t3, .int t4, .ref ta, .ref tb, .ref tc, .ref td, .ref te])), (ps, .inr (2, [.ref sh, .int w_17m6, .int w_17m7])), (sh, .inr (6, [.int 20, .ref shc])), (shc, .inl (cI, 820, .inl w_17m8)), (td, .inl (cI, 7, .inl ftd)), (te, .inl (cI, 7, .inl fte))]) (rest := []) (e_minutes nw nwc (f_e_letThrough w_17m5 v_ 2)) okV_X7_minutes wd_375 hx hb hml hown hts hK hP hD hS hA hN hl.1 [10, 11] [0, 1, 2, 3, 4, 5, 6, 7, 8, 9] rfl rfl rfl rfl (of_decide_eq_true rfl) rfl rfl rfl (Nat.le_of_ble_eq_true rfl) (Nat.le_of_ble_eq_true rfl) (Nat.le_of_ble_eq_true rfl) (Nat.le_of_ble_eq_true rfl) (Nat.le_of_ble_eq_true rfl) dX9_pass_146 (fun r_26 u_25 H locs hw_u_25 hP hD hS => ?_)
            replace hw_u_25 : r_26 = (f_e_minutes (f_e_letThrough w_17m5 v_ 2)) := hw_u_25
            rw [hw_u_25]
            clear hw_u_25
            have hP : va_P D classes [(h, .inr (9, [.ref x, .int q1, .int q2, .ref rd, .ref t, .ref d, .ref nw, .ref ps, .ref im, .ref is_, .int q10, .ref bk, .int q12, .ref qr, .ref pr, .ref cv, .ref ft])), (qr, .inr (4, [.int w_17m0, .int w_17m1, .int w_17m2, .int w_17m3, .int w_17m4])), (ta, .inl (cI, 6, .inl fta)), (tc, .inl (cI, 30, .inl ftc)), (t, .inr (8, [.int t0, .int t1, .int t2, .int t3, .int t4, .ref ta, .ref tb, .ref tc, .ref td, .ref te])), (ps, .inr (2, [.ref sh, .int w_17m6, .int w_17m7])), (sh, .inr (6, [.int 20, .ref shc])), (shc, .inl (cI, 820, .inl w_17m8)), (td, .inl (cI, 7, .inl ftd)), (te, .inl (cI, 7, .inl fte)), (nw, .inr (7, [.ref nwc])), (nwc, .inl (cI, 41, .inl (f_e_letThrough w_17m5 v_ 2)))] H := hP
            have hD : va_D A [(h, .inr (9, [.ref x, .int q1, .int q2, .ref rd, .ref t, .ref d, .ref nw, .ref ps, .ref im, .ref is_, .int q10, .ref bk, .int q12, .ref qr, .ref pr, .ref cv, .ref ft])), (qr, .inr (4, [.int w_17m0, .int w_17m1, .int w_17m2, .int w_17m3, .int w_17m4])), (ta, .inl (cI, 6, .inl fta)), (tc, .inl (cI, 30, .inl ftc)), (t, .inr (8, [.int t0, .int t1, .int t2, .int t3, .int t4, .ref ta, .ref tb, .ref tc, .ref td, .ref te])), (ps, .inr (2, [.ref sh, .int w_17m6, .int w_17m7])), (sh, .inr (6, [.int 20, .ref shc])), (shc, .inl (cI, 820, .inl w_17m8)), (td, .inl (cI, 7, .inl ftd)), (te, .inl (cI, 7, .inl fte)), (nw, .inr (7, [.ref nwc])), (nwc, .inl (cI, 41, .inl (f_e_letThrough w_17m5 v_ 2)))] := hD
            exact hret (f_e_minutes (f_e_letThrough w_17m5 v_ 2)) (w_17m0, w_17m1, w_17m2, w_17m3, w_17m4, (f_e_letThrough w_17m5 v_ 2), w_17m6, w_17m7, w_17m8) _ _ _ _ dX9_pass_149 rfl hE (cutP (isC := [0, 1, 4, 2, 3, 8, 9, 10, 11, 5, 6, 7]) hP rfl) (cutD (isC := [0, 1, 4, 2, 3, 8, 9, 10, 11, 5, 6, 7]) hD rfl rfl) hS
          · rw [if_neg c_22] at hE
            refine lv_iconst (v := 1) hx hb dX9_pass_134 rfl ?_
            refine lv_goto (tgt := 139) hx hb dX9_pass_135 rfl ?_
            refine cVv (wr := [(h, .inr (9, [.ref x, .int q1, .int q2, .ref rd, .ref t, .ref d, .ref nw, .ref ps, .ref im, .ref is_, .int q10, .ref bk, .int q12, .ref qr, .ref pr, .ref cv, .ref ft])), (qr, .inr (4, [.int w_17m0, .int w_17m1, .int w_17m2, .int w_17m3, .int w_17m4])), (ta, .inl (cI, 6, .inl fta)), (tc, .inl (cI, 30, .inl ftc)), (t, .inr (8, [.int t0, .int t1, .int t2, .int t3, .int t4, .ref ta, .ref tb, .ref tc, .ref td, .ref te])), (ps, .inr (2, [.ref sh, .int w_17m6, .int w_17m7])), (sh, .inr (6, [.int 20, .ref shc])), (shc, .inl (cI, 820, .inl w_17m8)), (td, .inl (cI, 7, .inl ftd)), (te, .inl (cI, 7, .inl fte))]) (rest := []) (e_letThrough nw nwc w_17m5 v_ 1) okV_X7_letThrough wd_443 hx hb hml hown hts hK hP hD hS hA hN hl.1 [9, 10] [0, 1, 2, 3, 4, 5, 6, 7, 8, 11] rfl rfl rfl rfl (of_decide_eq_true rfl) rfl rfl rfl (Nat.le_of_ble_eq_true rfl) (Nat.le_of_ble_eq_true rfl) (Nat.le_of_ble_eq_true rfl) (Nat.le_of_ble_eq_true rfl) (Nat.le_of_ble_eq_true rfl) dX9_pass_139 (fun u_27 H locs hw_u_27 hP hD hS => ?_)
            replace hw_u_27 : u_27 = (f_e_letThrough w_17m5 v_ 1) := hw_u_27
            subst hw_u_27
            have hP : va_P D classes [(h, .inr (9, [.ref x, .int q1, .int q2, .ref rd, .ref t, .ref d, .ref nw, .ref ps, .ref im, .ref is_, .int q10, .ref bk, .int q12, .ref qr, .ref pr, .ref cv, .ref ft])), (qr, .inr (4, [.int w_17m0, .int w_17m1, .int w_17m2, .int w_17m3, .int w_17m4])), (ta, .inl (cI, 6, .inl fta)), (tc, .inl (cI, 30, .inl ftc)), (t, .inr (8, [.int t0, .int t1, .int t2, .int t3, .int t4, .ref ta, .ref tb, .ref tc, .ref td, .ref te])), (ps, .inr (2, [.ref sh, .int w_17m6, .int w_17m7])), (sh, .inr (6, [.int 20, .ref shc])), (shc, .inl (cI, 820, .inl w_17m8)), (td, .inl (cI, 7, .inl ftd)), (te, .inl (cI, 7, .inl fte)), (nw, .inr (7, [.ref nwc])), (nwc, .inl (cI, 41, .inl (f_e_letThrough w_17m5 v_ 1)))] H := hP
            have hD : va_D A [(h, .inr (9, [.ref x, .int q1, .int q2, .ref rd, .ref t, .ref d, .ref nw, .ref ps, .ref im, .ref is_, .int q10, .ref bk, .int q12, .ref qr, .ref pr, .ref cv, .ref ft])), (qr, .inr (4, [.int w_17m0, .int w_17m1, .int w_17m2, .int w_17m3, .int w_17m4])), (ta, .inl (cI, 6, .inl fta)), (tc, .inl (cI, 30, .inl ftc)), (t, .inr (8, [.int t0, .int t1, .int t2, .int t3, .int t4, .ref ta, .ref tb, .ref tc, .ref td, .ref te])), (ps, .inr (2, [.ref sh, .int w_17m6, .int w_17m7])), (sh, .inr (6, [.int 20, .ref shc])), (shc, .inl (cI, 820, .inl w_17m8)), (td, .inl (cI, 7, .inl ftd)), (te, .inl (cI, 7, .inl fte)), (nw, .inr (7, [.ref nwc])), (nwc, .inl (cI, 41, .inl (f_e_letThrough w_17m5 v_ 1)))] := hD
            refine lv_aload_n hx hb dX9_pass_142 rfl (lv_at hl 2 rfl) ?_
            refine va_get (D := D) (ci := 9) (v := .ref nw) (C := RX9) (T := TX9) (N := 17) hx hb hts iX9 hown hK hP 0 rfl rfl 6 (Nat.le_of_ble_eq_true rfl) (hts _ wd_96) (fun _ h9 => h9) rfl dX9_pass_143 ?_
            refine cVi (wr := [(h, .inr (9, [.ref x, .int q1, .int q2, .ref rd, .ref t, .ref d, .ref nw, .ref ps, .ref im, .ref is_, .int q10, .ref bk, .int q12, .ref qr, .ref pr, .ref cv, .ref ft])), (qr, .inr (4, [.int w_17m0, .int w_17m1, .int w_17m2, .int w_17m3, .int w_17m4])), (ta, .inl (cI, 6, .inl fta)), (tc, .inl (cI, 30, .inl ftc)), (t, .inr (8, [.int t0, .int t1, .int t2, .int t3, .int t4, .ref ta, .ref tb, .ref tc, .ref td, .ref te])), (ps, .inr (2, [.ref sh, .int w_17m6, .int w_17m7])), (sh, .inr (6, [.int 20, .ref shc])), (shc, .inl (cI, 820, .inl w_17m8)), (td, .inl (cI, 7, .inl ftd)), (te, .inl (cI, 7, .inl fte))]) (rest := []) (e_minutes nw nwc (f_e_letThrough w_17m5 v_ 1)) okV_X7_minutes wd_375 hx hb hml hown hts hK hP hD hS hA hN hl.1 [10, 11] [0, 1, 2, 3, 4, 5, 6, 7, 8, 9] rfl rfl rfl rfl (of_decide_eq_true rfl) rfl rfl rfl (Nat.le_of_ble_eq_true rfl) (Nat.le_of_ble_eq_true rfl) (Nat.le_of_ble_eq_true rfl) (Nat.le_of_ble_eq_true rfl) (Nat.le_of_ble_eq_true rfl) dX9_pass_146 (fun r_30 u_29 H locs hw_u_29 hP hD hS => ?_)
            replace hw_u_29 : r_30 = (f_e_minutes (f_e_letThrough w_17m5 v_ 1)) := hw_u_29
            rw [hw_u_29]
            clear hw_u_29
            have hP : va_P D classes [(h, .inr (9, [.ref x, .int q1, .int q2, .ref rd, .ref t, .ref d, .ref nw, .ref ps, .ref im, .ref is_, .int q10, .ref bk, .int q12, .ref qr, .ref pr, .ref cv, .ref ft])), (qr, .inr (4, [.int w_17m0, .int w_17m1, .int w_17m2, .int w_17m3, .int w_17m4])), (ta, .inl (cI, 6, .inl fta)), (tc, .inl (cI, 30, .inl ftc)), (t, .inr (8, [.int t0, .int t1, .int t2, .int t3, .int t4, .ref ta, .ref tb, .ref tc, .ref td, .ref te])), (ps, .inr (2, [.ref sh, .int w_17m6, .int w_17m7])), (sh, .inr (6, [.int 20, .ref shc])), (shc, .inl (cI, 820, .inl w_17m8)), (td, .inl (cI, 7, .inl ftd)), (te, .inl (cI, 7, .inl fte)), (nw, .inr (7, [.ref nwc])), (nwc, .inl (cI, 41, .inl (f_e_letThrough w_17m5 v_ 1)))] H := hP
            have hD : va_D A [(h, .inr (9, [.ref x, .int q1, .int q2, .ref rd, .ref t, .ref d, .ref nw, .ref ps, .ref im, .ref is_, .int q10, .ref bk, .int q12, .ref qr, .ref pr, .ref cv, .ref ft])), (qr, .inr (4, [.int w_17m0, .int w_17m1, .int w_17m2, .int w_17m3, .int w_17m4])), (ta, .inl (cI, 6, .inl fta)), (tc, .inl (cI, 30, .inl ftc)), (t, .inr (8, [.int t0, .int t1, .int t2, .int t3, .int t4, .ref ta, .ref tb, .ref tc, .ref td, .ref te])), (ps, .inr (2, [.ref sh, .int w_17m6, .int w_17m7])), (sh, .inr (6, [.int 20, .ref shc])), (shc, .inl (cI, 820, .inl w_17m8)), (td, .inl (cI, 7, .inl ftd)), (te, .inl (cI, 7, .inl fte)), (nw, .inr (7, [.ref nwc])), (nwc, .inl (cI, 41, .inl (f_e_letThrough w_17m5 v_ 1)))] := hD
            exact hret (f_e_minutes (f_e_letThrough w_17m5 v_ 1)) (w_17m0, w_17m1, w_17m2, w_17m3, w_17m4, (f_e_letThrough w_17m5 v_ 1), w_17m6, w_17m7, w_17m8) _ _ _ _ dX9_pass_149 rfl hE (cutP (isC := [0, 1, 4, 2, 3, 8, 9, 10, 11, 5, 6, 7]) hP rfl) (cutD (isC := [0, 1, 4, 2, 3, 8, 9, 10, 11, 5, 6, 7]) hD rfl rfl) hS
        have lp_72_w_17 : ∀ (n_w_17 : Nat) (w_17l3 : Int32) (w_17m0 : Int32) (w_17m1 : Int32) (w_17m2 : Int32) (w_17m3 : Int32) (w_17m4 : Int32) (w_17m5 : (Nat → Int32)) (w_17m6 : Int32) (w_17m7 : Int32) (w_17m8 : (Nat → Int32)) (H : Heap) (locs : List Loc) (ls : Array Slot), va_P D classes [(h, .inr (9, [.ref x, .int q1, .int q2, .ref rd, .ref t, .ref d, .ref nw, .ref ps, .ref im, .ref is_, .int q10, .ref bk, .int q12, .ref qr, .ref pr, .ref cv, .ref ft])), (qr, .inr (4, [.int w_17m0, .int w_17m1, .int w_17m2, .int w_17m3, .int w_17m4])), (ta, .inl (cI, 6, .inl fta)), (tc, .inl (cI, 30, .inl ftc)), (te, .inl (cI, 7, .inl fte)), (t, .inr (8, [.int t0, .int t1, .int t2, .int t3, .int t4, .ref ta, .ref tb, .ref tc, .ref td, .ref te])), (ps, .inr (2, [.ref sh, .int w_17m6, .int w_17m7])), (sh, .inr (6, [.int 20, .ref shc])), (shc, .inl (cI, 820, .inl w_17m8)), (nw, .inr (7, [.ref nwc])), (nwc, .inl (cI, 41, .inl w_17m5)), (td, .inl (cI, 7, .inl ftd))] H → va_D A [(h, .inr (9, [.ref x, .int q1, .int q2, .ref rd, .ref t, .ref d, .ref nw, .ref ps, .ref im, .ref is_, .int q10, .ref bk, .int q12, .ref qr, .ref pr, .ref cv, .ref ft])), (qr, .inr (4, [.int w_17m0, .int w_17m1, .int w_17m2, .int w_17m3, .int w_17m4])), (ta, .inl (cI, 6, .inl fta)), (tc, .inl (cI, 30, .inl ftc)), (te, .inl (cI, 7, .inl fte)), (t, .inr (8, [.int t0, .int t1, .int t2, .int t3, .int t4, .ref ta, .ref tb, .ref tc, .ref td, .ref te])), (ps, .inr (2, [.ref sh, .int w_17m6, .int w_17m7])), (sh, .inr (6, [.int 20, .ref shc])), (shc, .inl (cI, 820, .inl w_17m8)), (nw, .inr (7, [.ref nwc])), (nwc, .inl (cI, 41, .inl w_17m5)), (td, .inl (cI, 7, .inl ftd))] → va_S A s.heap H locs → lv_has ls 4 [(3, .int w_17l3), (2, .int (if 5 < (atF 7 ftd v_) then 5 else (atF 7 ftd v_))), (0, .ref h), (1, .int v_)] → (((if 5 < (atF 7 ftd v_) then 5 else (atF 7 ftd v_)) : Int32).toInt + 1 - (w_17l3 : Int32).toInt).toNat < n_w_17 → (match (f_e_pass_x9_72 q1 q2 q10 q12 k0 k1 k2 k3 k4 t0 t1 t2 t3 t4 fta ftc ftd fte fn p1 p2 fsh v_ n_w_17 w_17l3 w_17m0 w_17m1 w_17m2 w_17m3 w_17m4 w_17m5 w_17m6 w_17m7 w_17m8) with | Sum.inl (w_17l3, w_17m0, w_17m1, w_17m2, w_17m3, w_17m4, w_17m5, w_17m6, w_17m7, w_17m8) => (if (atF 7 fte v_) < (f_e_minutes w_17m5) then ((f_e_minutes (f_e_letThrough w_17m5 v_ 2)), w_17m0, w_17m1, w_17m2, w_17m3, w_17m4, (f_e_letThrough w_17m5 v_ 2), w_17m6, w_17m7, w_17m8) else ((f_e_minutes (f_e_letThrough w_17m5 v_ 1)), w_17m0, w_17m1, w_17m2, w_17m3, w_17m4, (f_e_letThrough w_17m5 v_ 1), w_17m6, w_17m7, w_17m8)) | Sum.inr o => o) = RES → W p l e rm_e_pass_x9 s m args below meth c H locs 0 0 Q (F0 m 72 ls []) := by
          intro n_w_17
          induction n_w_17 with
          | zero => intro w_17l3 w_17m0 w_17m1 w_17m2 w_17m3 w_17m4 w_17m5 w_17m6 w_17m7 w_17m8 H locs ls hP hD hS hl hm; exact absurd hm (Nat.not_lt_zero _)
          | succ n_w_17 ih_w_17 =>
            intro w_17l3 w_17m0 w_17m1 w_17m2 w_17m3 w_17m4 w_17m5 w_17m6 w_17m7 w_17m8 H locs ls hP hD hS hl hm hE
            rw [f_e_pass_x9_72_s] at hE
            refine lv_iload_n hx hb dX9_pass_72 rfl (lv_at hl 0 rfl) ?_
            refine lv_iload_n hx hb dX9_pass_73 rfl (lv_at hl 1 rfl) ?_
            refine lv_icmp_gt (tgt := 108) hx hb dX9_pass_74 rfl (fun c_31 => ?_) (fun c_31 => ?_)
            · rw [if_pos c_31] at hE
              exact ex_72_w_17 w_17l3 w_17m0 w_17m1 w_17m2 w_17m3 w_17m4 w_17m5 w_17m6 w_17m7 w_17m8 _ _ ls hP hD hS (lv_sub hl [0, 1, 2, 3] rfl) hE
            · rw [if_neg c_31] at hE
              refine lv_aload_n hx hb dX9_pass_77 rfl (lv_at hl 2 rfl) ?_
              refine lv_iload_n hx hb dX9_pass_78 rfl (lv_at hl 0 rfl) ?_
              refine cVi (wr := [(te, .inl (cI, 7, .inl fte)), (ps, .inr (2, [.ref sh, .int w_17m6, .int w_17m7])), (sh, .inr (6, [.int 20, .ref shc])), (shc, .inl (cI, 820, .inl w_17m8)), (td, .inl (cI, 7, .inl ftd))]) (rest := []) (e_swing_x9 h x rd t d nw ps im is_ bk qr pr cv ft ta tb tc td te nwc q1 q2 q10 q12 w_17m0 w_17m1 w_17m2 w_17m3 w_17m4 t0 t1 t2 t3 t4 fta ftc w_17m5 w_17l3) okV_X9_swing wd_447 hx hb hml hown hts hK hP hD hS hA hN hl.1 [0, 1, 5, 2, 3, 9, 10] [4, 6, 7, 8, 11] rfl rfl rfl rfl (of_decide_eq_true rfl) rfl rfl rfl (Nat.le_of_ble_eq_true rfl) (Nat.le_of_ble_eq_true rfl) (Nat.le_of_ble_eq_true rfl) (Nat.le_of_ble_eq_true rfl) (Nat.le_of_ble_eq_true rfl) dX9_pass_79 (fun r_33 u_32 H locs hw_u_32 hP hD hS => ?_)
              obtain ⟨o_34, o_35, o_36, o_37, o_38, o_39⟩ := u_32
              replace hw_u_32 : (r_33, o_34, o_35, o_36, o_37, o_38, o_39) = (f_e_swing_x9 q1 q2 q10 q12 w_17m0 w_17m1 w_17m2 w_17m3 w_17m4 t0 t1 t2 t3 t4 fta ftc w_17m5 w_17l3) := hw_u_32
              rw [← hw_u_32] at hE
              replace hE : (match (if r_33 = 0 then (Sum.inr ((f_e_minutes (f_e_lay o_39 v_ w_17l3)), o_34, o_35, o_36, o_37, o_38, (f_e_lay o_39 v_ w_17l3), w_17m6, w_17m7, w_17m8)) else (f_e_pass_x9_72 q1 q2 q10 q12 k0 k1 k2 k3 k4 t0 t1 t2 t3 t4 fta ftc ftd fte fn p1 p2 fsh v_ n_w_17 (w_17l3 + 1) o_34 o_35 o_36 o_37 o_38 o_39 w_17m6 w_17m7 w_17m8)) with | Sum.inl (w_17l3, w_17m0, w_17m1, w_17m2, w_17m3, w_17m4, w_17m5, w_17m6, w_17m7, w_17m8) => (if (atF 7 fte v_) < (f_e_minutes w_17m5) then ((f_e_minutes (f_e_letThrough w_17m5 v_ 2)), w_17m0, w_17m1, w_17m2, w_17m3, w_17m4, (f_e_letThrough w_17m5 v_ 2), w_17m6, w_17m7, w_17m8) else ((f_e_minutes (f_e_letThrough w_17m5 v_ 1)), w_17m0, w_17m1, w_17m2, w_17m3, w_17m4, (f_e_letThrough w_17m5 v_ 1), w_17m6, w_17m7, w_17m8)) | Sum.inr o => o) = RES := hE
              have hP : va_P D classes [(te, .inl (cI, 7, .inl fte)), (ps, .inr (2, [.ref sh, .int w_17m6, .int w_17m7])), (sh, .inr (6, [.int 20, .ref shc])), (shc, .inl (cI, 820, .inl w_17m8)), (td, .inl (cI, 7, .inl ftd)), (h, .inr (9, [.ref x, .int q1, .int q2, .ref rd, .ref t, .ref d, .ref nw, .ref ps, .ref im, .ref is_, .int q10, .ref bk, .int q12, .ref qr, .ref pr, .ref cv, .ref ft])), (qr, .inr (4, [.int o_34, .int o_35, .int o_36, .int o_37, .int o_38])), (t, .inr (8, [.int t0, .int t1, .int t2, .int t3, .int t4, .ref ta, .ref tb, .ref tc, .ref td, .ref te])), (ta, .inl (cI, 6, .inl fta)), (tc, .inl (cI, 30, .inl ftc)), (nw, .inr (7, [.ref nwc])), (nwc, .inl (cI, 41, .inl o_39))] H := hP
              have hD : va_D A [(te, .inl (cI, 7, .inl fte)), (ps, .inr (2, [.ref sh, .int w_17m6, .int w_17m7])), (sh, .inr (6, [.int 20, .ref shc])), (shc, .inl (cI, 820, .inl w_17m8)), (td, .inl (cI, 7, .inl ftd)), (h, .inr (9, [.ref x, .int q1, .int q2, .ref rd, .ref t, .ref d, .ref nw, .ref ps, .ref im, .ref is_, .int q10, .ref bk, .int q12, .ref qr, .ref pr, .ref cv, .ref ft])), (qr, .inr (4, [.int o_34, .int o_35, .int o_36, .int o_37, .int o_38])), (t, .inr (8, [.int t0, .int t1, .int t2, .int t3, .int t4, .ref ta, .ref tb, .ref tc, .ref td, .ref te])), (ta, .inl (cI, 6, .inl fta)), (tc, .inl (cI, 30, .inl ftc)), (nw, .inr (7, [.ref nwc])), (nwc, .inl (cI, 41, .inl o_39))] := hD
              refine lv_if_ne (tgt := 102) hx hb dX9_pass_82 rfl (fun c_40 => ?_) (fun c_40 => ?_)
              · rw [if_neg c_40] at hE
                refine lv_iinc (v := (w_17l3 + 1)) (lv' := [(3, .int (w_17l3 + 1)), (2, .int (if 5 < (atF 7 ftd v_) then 5 else (atF 7 ftd v_))), (0, .ref h), (1, .int v_)]) hx hb dX9_pass_102 hl (k := 0) rfl rfl (Nat.le_of_ble_eq_true rfl) rfl (fun ls hl => ?_)
                refine lv_goto (tgt := 72) hx hb dX9_pass_105 rfl ?_
                exact ih_w_17 (w_17l3 + 1) o_34 o_35 o_36 o_37 o_38 o_39 w_17m6 w_17m7 w_17m8 _ _ ls (cutP (isC := [5, 6, 8, 9, 0, 7, 1, 2, 3, 10, 11, 4]) hP rfl) (cutD (isC := [5, 6, 8, 9, 0, 7, 1, 2, 3, 10, 11, 4]) hD rfl rfl) hS (lv_sub hl [0, 1, 2, 3] rfl) (le_step (min5_lt _) c_31 hm) hE
              · rw [if_pos c_40] at hE
                subst c_40
                refine lv_aload_n hx hb dX9_pass_85 rfl (lv_at hl 2 rfl) ?_
                refine va_get (D := D) (ci := 9) (v := .ref nw) (C := RX9) (T := TX9) (N := 17) hx hb hts iX9 hown hK hP 5 rfl rfl 6 (Nat.le_of_ble_eq_true rfl) (hts _ wd_96) (fun _ h9 => h9) rfl dX9_pass_86 ?_
                refine lv_iload_n hx hb dX9_pass_89 rfl (lv_at hl 3 rfl) ?_
                refine lv_iload_n hx hb dX9_pass_90 rfl (lv_at hl 0 rfl) ?_
                refine cVv (wr := [(te, .inl (cI, 7, .inl fte)), (ps, .inr (2, [.ref sh, .int w_17m6, .int w_17m7])), (sh, .inr (6, [.int 20, .ref shc])), (shc, .inl (cI, 820, .inl w_17m8)), (td, .inl (cI, 7, .inl ftd)), (h, .inr (9, [.ref x, .int q1, .int q2, .ref rd, .ref t, .ref d, .ref nw, .ref ps, .ref im, .ref is_, .int q10, .ref bk, .int q12, .ref qr, .ref pr, .ref cv, .ref ft])), (qr, .inr (4, [.int o_34, .int o_35, .int o_36, .int o_37, .int o_38])), (t, .inr (8, [.int t0, .int t1, .int t2, .int t3, .int t4, .ref ta, .ref tb, .ref tc, .ref td, .ref te])), (ta, .inl (cI, 6, .inl fta)), (tc, .inl (cI, 30, .inl ftc))]) (rest := []) (e_lay nw nwc o_39 v_ w_17l3) okV_X7_lay wd_451 hx hb hml hown hts hK hP hD hS hA hN hl.1 [10, 11] [0, 1, 2, 3, 4, 5, 6, 7, 8, 9] rfl rfl rfl rfl (of_decide_eq_true rfl) rfl rfl rfl (Nat.le_of_ble_eq_true rfl) (Nat.le_of_ble_eq_true rfl) (Nat.le_of_ble_eq_true rfl) (Nat.le_of_ble_eq_true rfl) (Nat.le_of_ble_eq_true rfl) dX9_pass_91 (fun u_41 H locs hw_u_41 hP hD hS => ?_)
                replace hw_u_41 : u_41 = (f_e_lay o_39 v_ w_17l3) := hw_u_41
                subst hw_u_41
                have hP : va_P D classes [(te, .inl (cI, 7, .inl fte)), (ps, .inr (2, [.ref sh, .int w_17m6, .int w_17m7])), (sh, .inr (6, [.int 20, .ref shc])), (shc, .inl (cI, 820, .inl w_17m8)), (td, .inl (cI, 7, .inl ftd)), (h, .inr (9, [.ref x, .int q1, .int q2, .ref rd, .ref t, .ref d, .ref nw, .ref ps, .ref im, .ref is_, .int q10, .ref bk, .int q12, .ref qr, .ref pr, .ref cv, .ref ft])), (qr, .inr (4, [.int o_34, .int o_35, .int o_36, .int o_37, .int o_38])), (t, .inr (8, [.int t0, .int t1, .int t2, .int t3, .int t4, .ref ta, .ref tb, .ref tc, .ref td, .ref te])), (ta, .inl (cI, 6, .inl fta)), (tc, .inl (cI, 30, .inl ftc)), (nw, .inr (7, [.ref nwc])), (nwc, .inl (cI, 41, .inl (f_e_lay o_39 v_ w_17l3)))] H := hP
                have hD : va_D A [(te, .inl (cI, 7, .inl fte)), (ps, .inr (2, [.ref sh, .int w_17m6, .int w_17m7])), (sh, .inr (6, [.int 20, .ref shc])), (shc, .inl (cI, 820, .inl w_17m8)), (td, .inl (cI, 7, .inl ftd)), (h, .inr (9, [.ref x, .int q1, .int q2, .ref rd, .ref t, .ref d, .ref nw, .ref ps, .ref im, .ref is_, .int q10, .ref bk, .int q12, .ref qr, .ref pr, .ref cv, .ref ft])), (qr, .inr (4, [.int o_34, .int o_35, .int o_36, .int o_37, .int o_38])), (t, .inr (8, [.int t0, .int t1, .int t2, .int t3, .int t4, .ref ta, .ref tb, .ref tc, .ref td, .ref te])), (ta, .inl (cI, 6, .inl fta)), (tc, .inl (cI, 30, .inl ftc)), (nw, .inr (7, [.ref nwc])), (nwc, .inl (cI, 41, .inl (f_e_lay o_39 v_ w_17l3)))] := hD
                refine lv_aload_n hx hb dX9_pass_94 rfl (lv_at hl 2 rfl) ?_
                refine va_get (D := D) (ci := 9) (v := .ref nw) (C := RX9) (T := TX9) (N := 17) hx hb hts iX9 hown hK hP 5 rfl rfl 6 (Nat.le_of_ble_eq_true rfl) (hts _ wd_96) (fun _ h9 => h9) rfl dX9_pass_95 ?_
                refine cVi (wr := [(te, .inl (cI, 7, .inl fte)), (ps, .inr (2, [.ref sh, .int w_17m6, .int w_17m7])), (sh, .inr (6, [.int 20, .ref shc])), (shc, .inl (cI, 820, .inl w_17m8)), (td, .inl (cI, 7, .inl ftd)), (h, .inr (9, [.ref x, .int q1, .int q2, .ref rd, .ref t, .ref d, .ref nw, .ref ps, .ref im, .ref is_, .int q10, .ref bk, .int q12, .ref qr, .ref pr, .ref cv, .ref ft])), (qr, .inr (4, [.int o_34, .int o_35, .int o_36, .int o_37, .int o_38])), (t, .inr (8, [.int t0, .int t1, .int t2, .int t3, .int t4, .ref ta, .ref tb, .ref tc, .ref td, .ref te])), (ta, .inl (cI, 6, .inl fta)), (tc, .inl (cI, 30, .inl ftc))]) (rest := []) (e_minutes nw nwc (f_e_lay o_39 v_ w_17l3)) okV_X7_minutes wd_375 hx hb hml hown hts hK hP hD hS hA hN hl.1 [10, 11] [0, 1, 2, 3, 4, 5, 6, 7, 8, 9] rfl rfl rfl rfl (of_decide_eq_true rfl) rfl rfl rfl (Nat.le_of_ble_eq_true rfl) (Nat.le_of_ble_eq_true rfl) (Nat.le_of_ble_eq_true rfl) (Nat.le_of_ble_eq_true rfl) (Nat.le_of_ble_eq_true rfl) dX9_pass_98 (fun r_44 u_43 H locs hw_u_43 hP hD hS => ?_)
                replace hw_u_43 : r_44 = (f_e_minutes (f_e_lay o_39 v_ w_17l3)) := hw_u_43
                rw [hw_u_43]
                clear hw_u_43
                have hP : va_P D classes [(te, .inl (cI, 7, .inl fte)), (ps, .inr (2, [.ref sh, .int w_17m6, .int w_17m7])), (sh, .inr (6, [.int 20, .ref shc])), (shc, .inl (cI, 820, .inl w_17m8)), (td, .inl (cI, 7, .inl ftd)), (h, .inr (9, [.ref x, .int q1, .int q2, .ref rd, .ref t, .ref d, .ref nw, .ref ps, .ref im, .ref is_, .int q10, .ref bk, .int q12, .ref qr, .ref pr, .ref cv, .ref ft])), (qr, .inr (4, [.int o_34, .int o_35, .int o_36, .int o_37, .int o_38])), (t, .inr (8, [.int t0, .int t1, .int t2, .int t3, .int t4, .ref ta, .ref tb, .ref tc, .ref td, .ref te])), (ta, .inl (cI, 6, .inl fta)), (tc, .inl (cI, 30, .inl ftc)), (nw, .inr (7, [.ref nwc])), (nwc, .inl (cI, 41, .inl (f_e_lay o_39 v_ w_17l3)))] H := hP
                have hD : va_D A [(te, .inl (cI, 7, .inl fte)), (ps, .inr (2, [.ref sh, .int w_17m6, .int w_17m7])), (sh, .inr (6, [.int 20, .ref shc])), (shc, .inl (cI, 820, .inl w_17m8)), (td, .inl (cI, 7, .inl ftd)), (h, .inr (9, [.ref x, .int q1, .int q2, .ref rd, .ref t, .ref d, .ref nw, .ref ps, .ref im, .ref is_, .int q10, .ref bk, .int q12, .ref qr, .ref pr, .ref cv, .ref ft])), (qr, .inr (4, [.int o_34, .int o_35, .int o_36, .int o_37, .int o_38])), (t, .inr (8, [.int t0, .int t1, .int t2, .int t3, .int t4, .ref ta, .ref tb, .ref tc, .ref td, .ref te])), (ta, .inl (cI, 6, .inl fta)), (tc, .inl (cI, 30, .inl ftc)), (nw, .inr (7, [.ref nwc])), (nwc, .inl (cI, 41, .inl (f_e_lay o_39 v_ w_17l3)))] := hD
                exact hret (f_e_minutes (f_e_lay o_39 v_ w_17l3)) (o_34, o_35, o_36, o_37, o_38, (f_e_lay o_39 v_ w_17l3), w_17m6, w_17m7, w_17m8) _ _ _ _ dX9_pass_101 rfl hE (cutP (isC := [5, 6, 7, 8, 9, 4, 0, 10, 11, 1, 2, 3]) hP rfl) (cutD (isC := [5, 6, 7, 8, 9, 4, 0, 10, 11, 1, 2, 3]) hD rfl rfl) hS
        exact lp_72_w_17 ((((if 5 < (atF 7 ftd v_) then 5 else (atF 7 ftd v_)) : Int32).toInt + 1 - (0 : Int32).toInt).toNat + 1) 0 k0 k1 k2 k3 k4 fn o_12 o_13 o_14 _ _ ls hP hD hS hl (Nat.lt_succ_self _) hE
      · rw [if_neg c_9] at hE
        refine lv_ldc (v := (-1000000004)) hx hb hown (hts _ wd_341) dX9_pass_40 ?_
        exact hret (-1000000004) (k0, k1, k2, k3, k4, fn, p1, p2, fsh) _ _ _ _ dX9_pass_42 rfl hE (cutP (isC := [0, 1, 9, 2, 3, 4, 5, 10, 11, 6, 7, 8]) hP rfl) (cutD (isC := [0, 1, 9, 2, 3, 4, 5, 10, 11, 6, 7, 8]) hD rfl rfl) hS
    · rw [if_neg c_6] at hE
      refine lv_ldc (v := (-1000000003)) hx hb hown (hts _ wd_384) dX9_pass_25 ?_
      exact hret (-1000000003) (k0, k1, k2, k3, k4, fn, p1, p2, fsh) _ _ _ _ dX9_pass_27 rfl hE (cutP (isC := [0, 1, 9, 2, 3, 4, 5, 10, 11, 6, 7, 8]) hP rfl) (cutD (isC := [0, 1, 9, 2, 3, 4, 5, 10, 11, 6, 7, 8]) hD rfl rfl) hS
  · rw [if_pos c_3] at hE
    refine lv_ldc (v := (-1000000001)) hx hb hown (hts _ wd_346) dX9_pass_11 ?_
    exact hret (-1000000001) (k0, k1, k2, k3, k4, fn, p1, p2, fsh) _ _ _ _ dX9_pass_13 rfl hE (cutP (isC := [0, 1, 11, 2, 3, 4, 5, 6, 7, 8, 9, 10]) hP rfl) (cutD (isC := [0, 1, 11, 2, 3, 4, 5, 6, 7, 8, 9, 10]) hD rfl rfl) hS
noncomputable def f_e_who_x9_38 (q1 : Int32) (q2 : Int32) (q10 : Int32) (q12 : Int32) (k0 : Int32) (k1 : Int32) (k2 : Int32) (k3 : Int32) (k4 : Int32) (t0 : Int32) (t1 : Int32) (t2 : Int32) (t3 : Int32) (t4 : Int32) (fta : Nat → Int32) (ftc : Nat → Int32) (fn : Nat → Int32) (fpa : Nat → Int32) (fpb : Nat → Int32) (fpc : Nat → Int32) (m_ : Int32) (b_ : Int32) (w30xl3 : Int32) (n : Nat) : Int32 → Int32 → Int32 → Int32 → Int32 → Int32 → (Nat → Int32) → (Nat → Int32) → (Nat → Int32) → Int32 × Int32 × Int32 × Int32 × Int32 × Int32 × (Nat → Int32) × (Nat → Int32) × (Nat → Int32) := Nat.rec (motive := fun _ => Int32 → Int32 → Int32 → Int32 → Int32 → Int32 → (Nat → Int32) → (Nat → Int32) → (Nat → Int32) → Int32 × Int32 × Int32 × Int32 × Int32 × Int32 × (Nat → Int32) × (Nat → Int32) × (Nat → Int32)) (fun w38xl4 w38xm0 w38xm1 w38xm2 w38xm3 w38xm4 w38xm5 w38xm6 w38xm7 => (w38xl4, w38xm0, w38xm1, w38xm2, w38xm3, w38xm4, w38xm5, w38xm6, w38xm7)) (fun n ih w38xl4 w38xm0 w38xm1 w38xm2 w38xm3 w38xm4 w38xm5 w38xm6 w38xm7 => (if t2 ≤ w38xl4 then (w38xl4, w38xm0, w38xm1, w38xm2, w38xm3, w38xm4, w38xm5, w38xm6, w38xm7) else (match (f_e_costFor_x9 q1 q2 q10 q12 w38xm0 w38xm1 w38xm2 w38xm3 w38xm4 t0 t1 t2 t3 t4 fta ftc fn w38xl4 w30xl3) with | (r_17, o_18, o_19, o_20, o_21, o_22) => (ih (w38xl4 + 1) o_18 o_19 o_20 o_21 o_22 (f_e_ask_x3 w38xm5 w30xl3 w38xl4 r_17) w38xm6 w38xm7)))) n
theorem f_e_who_x9_38_s (q1 : Int32) (q2 : Int32) (q10 : Int32) (q12 : Int32) (k0 : Int32) (k1 : Int32) (k2 : Int32) (k3 : Int32) (k4 : Int32) (t0 : Int32) (t1 : Int32) (t2 : Int32) (t3 : Int32) (t4 : Int32) (fta : Nat → Int32) (ftc : Nat → Int32) (fn : Nat → Int32) (fpa : Nat → Int32) (fpb : Nat → Int32) (fpc : Nat → Int32) (m_ : Int32) (b_ : Int32) (w30xl3 : Int32) (n : Nat) (w38xl4 : Int32) (w38xm0 : Int32) (w38xm1 : Int32) (w38xm2 : Int32) (w38xm3 : Int32) (w38xm4 : Int32) (w38xm5 : (Nat → Int32)) (w38xm6 : (Nat → Int32)) (w38xm7 : (Nat → Int32)) : f_e_who_x9_38 q1 q2 q10 q12 k0 k1 k2 k3 k4 t0 t1 t2 t3 t4 fta ftc fn fpa fpb fpc m_ b_ w30xl3 (n + 1) w38xl4 w38xm0 w38xm1 w38xm2 w38xm3 w38xm4 w38xm5 w38xm6 w38xm7 = (if t2 ≤ w38xl4 then (w38xl4, w38xm0, w38xm1, w38xm2, w38xm3, w38xm4, w38xm5, w38xm6, w38xm7) else (match (f_e_costFor_x9 q1 q2 q10 q12 w38xm0 w38xm1 w38xm2 w38xm3 w38xm4 t0 t1 t2 t3 t4 fta ftc fn w38xl4 w30xl3) with | (r_17, o_18, o_19, o_20, o_21, o_22) => (f_e_who_x9_38 q1 q2 q10 q12 k0 k1 k2 k3 k4 t0 t1 t2 t3 t4 fta ftc fn fpa fpb fpc m_ b_ w30xl3 n (w38xl4 + 1) o_18 o_19 o_20 o_21 o_22 (f_e_ask_x3 w38xm5 w30xl3 w38xl4 r_17) w38xm6 w38xm7))) := rfl
noncomputable def f_e_who_x9_30 (q1 : Int32) (q2 : Int32) (q10 : Int32) (q12 : Int32) (k0 : Int32) (k1 : Int32) (k2 : Int32) (k3 : Int32) (k4 : Int32) (t0 : Int32) (t1 : Int32) (t2 : Int32) (t3 : Int32) (t4 : Int32) (fta : Nat → Int32) (ftc : Nat → Int32) (fn : Nat → Int32) (fpa : Nat → Int32) (fpb : Nat → Int32) (fpc : Nat → Int32) (m_ : Int32) (b_ : Int32) (n : Nat) : Int32 → Int32 → Int32 → Int32 → Int32 → Int32 → (Nat → Int32) → (Nat → Int32) → (Nat → Int32) → Int32 × Int32 × Int32 × Int32 × Int32 × Int32 × (Nat → Int32) × (Nat → Int32) × (Nat → Int32) := Nat.rec (motive := fun _ => Int32 → Int32 → Int32 → Int32 → Int32 → Int32 → (Nat → Int32) → (Nat → Int32) → (Nat → Int32) → Int32 × Int32 × Int32 × Int32 × Int32 × Int32 × (Nat → Int32) × (Nat → Int32) × (Nat → Int32)) (fun w30xl3 w30xm0 w30xm1 w30xm2 w30xm3 w30xm4 w30xm5 w30xm6 w30xm7 => (w30xl3, w30xm0, w30xm1, w30xm2, w30xm3, w30xm4, w30xm5, w30xm6, w30xm7)) (fun n ih w30xl3 w30xm0 w30xm1 w30xm2 w30xm3 w30xm4 w30xm5 w30xm6 w30xm7 => (if m_ < w30xl3 then (w30xl3, w30xm0, w30xm1, w30xm2, w30xm3, w30xm4, w30xm5, w30xm6, w30xm7) else (match (f_e_who_x9_38 q1 q2 q10 q12 k0 k1 k2 k3 k4 t0 t1 t2 t3 t4 fta ftc fn fpa fpb fpc m_ b_ w30xl3 (((t2 : Int32).toInt - (0 : Int32).toInt).toNat + 1) 0 w30xm0 w30xm1 w30xm2 w30xm3 w30xm4 w30xm5 w30xm6 w30xm7) with | (w38xl4, w38xm0, w38xm1, w38xm2, w38xm3, w38xm4, w38xm5, w38xm6, w38xm7) => (ih (w30xl3 + 1) w38xm0 w38xm1 w38xm2 w38xm3 w38xm4 w38xm5 w38xm6 w38xm7)))) n
theorem f_e_who_x9_30_s (q1 : Int32) (q2 : Int32) (q10 : Int32) (q12 : Int32) (k0 : Int32) (k1 : Int32) (k2 : Int32) (k3 : Int32) (k4 : Int32) (t0 : Int32) (t1 : Int32) (t2 : Int32) (t3 : Int32) (t4 : Int32) (fta : Nat → Int32) (ftc : Nat → Int32) (fn : Nat → Int32) (fpa : Nat → Int32) (fpb : Nat → Int32) (fpc : Nat → Int32) (m_ : Int32) (b_ : Int32) (n : Nat) (w30xl3 : Int32) (w30xm0 : Int32) (w30xm1 : Int32) (w30xm2 : Int32) (w30xm3 : Int32) (w30xm4 : Int32) (w30xm5 : (Nat → Int32)) (w30xm6 : (Nat → Int32)) (w30xm7 : (Nat → Int32)) : f_e_who_x9_30 q1 q2 q10 q12 k0 k1 k2 k3 k4 t0 t1 t2 t3 t4 fta ftc fn fpa fpb fpc m_ b_ (n + 1) w30xl3 w30xm0 w30xm1 w30xm2 w30xm3 w30xm4 w30xm5 w30xm6 w30xm7 = (if m_ < w30xl3 then (w30xl3, w30xm0, w30xm1, w30xm2, w30xm3, w30xm4, w30xm5, w30xm6, w30xm7) else (match (f_e_who_x9_38 q1 q2 q10 q12 k0 k1 k2 k3 k4 t0 t1 t2 t3 t4 fta ftc fn fpa fpb fpc m_ b_ w30xl3 (((t2 : Int32).toInt - (0 : Int32).toInt).toNat + 1) 0 w30xm0 w30xm1 w30xm2 w30xm3 w30xm4 w30xm5 w30xm6 w30xm7) with | (w38xl4, w38xm0, w38xm1, w38xm2, w38xm3, w38xm4, w38xm5, w38xm6, w38xm7) => (f_e_who_x9_30 q1 q2 q10 q12 k0 k1 k2 k3 k4 t0 t1 t2 t3 t4 fta ftc fn fpa fpb fpc m_ b_ n (w30xl3 + 1) w38xm0 w38xm1 w38xm2 w38xm3 w38xm4 w38xm5 w38xm6 w38xm7))) := rfl
noncomputable def f_e_who_x9 (q1 : Int32) (q2 : Int32) (q10 : Int32) (q12 : Int32) (k0 : Int32) (k1 : Int32) (k2 : Int32) (k3 : Int32) (k4 : Int32) (t0 : Int32) (t1 : Int32) (t2 : Int32) (t3 : Int32) (t4 : Int32) (fta : Nat → Int32) (ftc : Nat → Int32) (fn : Nat → Int32) (fpa : Nat → Int32) (fpb : Nat → Int32) (fpc : Nat → Int32) (m_ : Int32) (b_ : Int32) : Int32 × Int32 × Int32 × Int32 × Int32 × Int32 × (Nat → Int32) × (Nat → Int32) × (Nat → Int32) := (if (f_e_hasBridge t0 t1 t2 t3 t4 m_) = 0 then ((-1000000001), k0, k1, k2, k3, k4, fpa, fpb, fpc) else (if b_ = (-1) then (match (f_e_who_x9_30 q1 q2 q10 q12 k0 k1 k2 k3 k4 t0 t1 t2 t3 t4 fta ftc fn fpa fpb fpc m_ b_ (((m_ : Int32).toInt + 1 - (0 : Int32).toInt).toNat + 1) 0 k0 k1 k2 k3 k4 fpa fpb fpc) with | (w30xl3, w30xm0, w30xm1, w30xm2, w30xm3, w30xm4, w30xm5, w30xm6, w30xm7) => (match (f_e_solve_x3 w30xm5 w30xm6 w30xm7 m_ t2) with | (o_7, o_8) => (if b_ = (-1) then ((f_e_cost_x3 o_7), w30xm0, w30xm1, w30xm2, w30xm3, w30xm4, w30xm5, o_7, o_8) else ((f_e_coupleOf_x3 o_8 b_), w30xm0, w30xm1, w30xm2, w30xm3, w30xm4, w30xm5, o_7, o_8)))) else (if b_ < 0 then ((-1000000001), k0, k1, k2, k3, k4, fpa, fpb, fpc) else (if b_ ≤ m_ then (match (f_e_who_x9_30 q1 q2 q10 q12 k0 k1 k2 k3 k4 t0 t1 t2 t3 t4 fta ftc fn fpa fpb fpc m_ b_ (((m_ : Int32).toInt + 1 - (0 : Int32).toInt).toNat + 1) 0 k0 k1 k2 k3 k4 fpa fpb fpc) with | (w30xl3, w30xm0, w30xm1, w30xm2, w30xm3, w30xm4, w30xm5, w30xm6, w30xm7) => (match (f_e_solve_x3 w30xm5 w30xm6 w30xm7 m_ t2) with | (o_29, o_30) => (if b_ = (-1) then ((f_e_cost_x3 o_29), w30xm0, w30xm1, w30xm2, w30xm3, w30xm4, w30xm5, o_29, o_30) else ((f_e_coupleOf_x3 o_30 b_), w30xm0, w30xm1, w30xm2, w30xm3, w30xm4, w30xm5, o_29, o_30)))) else ((-1000000001), k0, k1, k2, k3, k4, fpa, fpb, fpc)))))
def rm_e_who_x9 : Room := { frames := 6, cells := 0, slots := 0, locals := 152 }
set_option maxHeartbeats 4000000 in
set_option maxRecDepth 100000 in
theorem e_who_x9 {l : Launch} {D : va_G} {cI cZ : ClassId} {sz : Nat} (h x rd t d nw ps im is_ bk qr pr cv ft ta tb tc td te nwc pra prb prc : Nat) (q1 : Int32) (q2 : Int32) (q10 : Int32) (q12 : Int32) (k0 : Int32) (k1 : Int32) (k2 : Int32) (k3 : Int32) (k4 : Int32) (t0 : Int32) (t1 : Int32) (t2 : Int32) (t3 : Int32) (t4 : Int32) (fta : Nat → Int32) (ftc : Nat → Int32) (fn : Nat → Int32) (fpa : Nat → Int32) (fpb : Nat → Int32) (fpc : Nat → Int32) (m_ : Int32) (b_ : Int32) : KI l yX9_who cX9_who 5 (some .int) rm_e_who_x9 D cI cZ [.ref h, .int m_, .int b_] sz [(h, .inr (9, [.ref x, .int q1, .int q2, .ref rd, .ref t, .ref d, .ref nw, .ref ps, .ref im, .ref is_, .int q10, .ref bk, .int q12, .ref qr, .ref pr, .ref cv, .ref ft])), (qr, .inr (4, [.int k0, .int k1, .int k2, .int k3, .int k4])), (t, .inr (8, [.int t0, .int t1, .int t2, .int t3, .int t4, .ref ta, .ref tb, .ref tc, .ref td, .ref te])), (ta, .inl (cI, 6, .inl fta)), (tc, .inl (cI, 30, .inl ftc)), (nw, .inr (7, [.ref nwc])), (nwc, .inl (cI, 41, .inl fn)), (pr, .inr (3, [.ref pra, .ref prb, .ref prc])), (pra, .inl (cI, 36, .inl fpa)), (prb, .inl (cI, 64, .inl fpb)), (prc, .inl (cI, 64, .inl fpc))] (fun (r : Int32) (u : Int32 × Int32 × Int32 × Int32 × Int32 × (Nat → Int32) × (Nat → Int32) × (Nat → Int32)) => (r, u) = f_e_who_x9 q1 q2 q10 q12 k0 k1 k2 k3 k4 t0 t1 t2 t3 t4 fta ftc fn fpa fpb fpc m_ b_) (fun (u : Int32 × Int32 × Int32 × Int32 × Int32 × (Nat → Int32) × (Nat → Int32) × (Nat → Int32)) => [(h, .inr (9, [.ref x, .int q1, .int q2, .ref rd, .ref t, .ref d, .ref nw, .ref ps, .ref im, .ref is_, .int q10, .ref bk, .int q12, .ref qr, .ref pr, .ref cv, .ref ft])), (qr, .inr (4, [.int (u.1), .int (u.2.1), .int (u.2.2.1), .int (u.2.2.2.1), .int (u.2.2.2.2.1)])), (t, .inr (8, [.int t0, .int t1, .int t2, .int t3, .int t4, .ref ta, .ref tb, .ref tc, .ref td, .ref te])), (ta, .inl (cI, 6, .inl fta)), (tc, .inl (cI, 30, .inl ftc)), (nw, .inr (7, [.ref nwc])), (nwc, .inl (cI, 41, .inl fn)), (pr, .inr (3, [.ref pra, .ref prb, .ref prc])), (pra, .inl (cI, 36, .inl u.2.2.2.2.2.1)), (prb, .inl (cI, 64, .inl u.2.2.2.2.2.2.1)), (prc, .inl (cI, 64, .inl u.2.2.2.2.2.2.2))]) := by
  refine KI.go rfl (Nat.le_of_ble_eq_true rfl) ?_
  intro p e s m args below meth c ls A Q hx hb hml hts hown hin hP hK hD hS hA hN hl hret
  have hl : lv_has ls 5 [(0, .ref h), (1, .int m_), (2, .int b_)] := hl
  obtain ⟨RES, hE⟩ : ∃ xRES, f_e_who_x9 q1 q2 q10 q12 k0 k1 k2 k3 k4 t0 t1 t2 t3 t4 fta ftc fn fpa fpb fpc m_ b_ = xRES := ⟨_, rfl⟩
  rw [hE] at hret
  rw [f_e_who_x9] at hE
  refine lv_aload_n hx hb dX9_who_0 rfl (lv_at hl 0 rfl) ?_
  refine va_get (D := D) (ci := 9) (v := .ref t) (C := RX9) (T := TX9) (N := 17) hx hb hts iX9 hown hK hP 0 rfl rfl 4 (Nat.le_of_ble_eq_true rfl) (hts _ wd_89) (fun _ h9 => h9) rfl dX9_who_1 ?_
  refine lv_iload_n hx hb dX9_who_4 rfl (lv_at hl 1 rfl) ?_
  refine cVi (wr := [(h, .inr (9, [.ref x, .int q1, .int q2, .ref rd, .ref t, .ref d, .ref nw, .ref ps, .ref im, .ref is_, .int q10, .ref bk, .int q12, .ref qr, .ref pr, .ref cv, .ref ft])), (qr, .inr (4, [.int k0, .int k1, .int k2, .int k3, .int k4])), (ta, .inl (cI, 6, .inl fta)), (tc, .inl (cI, 30, .inl ftc)), (nw, .inr (7, [.ref nwc])), (nwc, .inl (cI, 41, .inl fn)), (pr, .inr (3, [.ref pra, .ref prb, .ref prc])), (pra, .inl (cI, 36, .inl fpa)), (prb, .inl (cI, 64, .inl fpb)), (prc, .inl (cI, 64, .inl fpc))]) (rest := []) (e_hasBridge t ta tb tc td te t0 t1 t2 t3 t4 m_) okV_X8_hasBridge wd_342 hx hb hml hown hts hK hP hD hS hA hN hl.1 [2] [0, 1, 3, 4, 5, 6, 7, 8, 9, 10] rfl rfl rfl rfl (of_decide_eq_true rfl) rfl rfl rfl (Nat.le_of_ble_eq_true rfl) (Nat.le_of_ble_eq_true rfl) (Nat.le_of_ble_eq_true rfl) (Nat.le_of_ble_eq_true rfl) (Nat.le_of_ble_eq_true rfl) dX9_who_5 (fun r_2 u_1 H locs hw_u_1 hP hD hS => ?_)
  replace hw_u_1 : r_2 = (f_e_hasBridge t0 t1 t2 t3 t4 m_) := hw_u_1
  rw [hw_u_1]
  clear hw_u_1
  have hP : va_P D classes [(h, .inr (9, [.ref x, .int q1, .int q2, .ref rd, .ref t, .ref d, .ref nw, .ref ps, .ref im, .ref is_, .int q10, .ref bk, .int q12, .ref qr, .ref pr, .ref cv, .ref ft])), (qr, .inr (4, [.int k0, .int k1, .int k2, .int k3, .int k4])), (ta, .inl (cI, 6, .inl fta)), (tc, .inl (cI, 30, .inl ftc)), (nw, .inr (7, [.ref nwc])), (nwc, .inl (cI, 41, .inl fn)), (pr, .inr (3, [.ref pra, .ref prb, .ref prc])), (pra, .inl (cI, 36, .inl fpa)), (prb, .inl (cI, 64, .inl fpb)), (prc, .inl (cI, 64, .inl fpc)), (t, .inr (8, [.int t0, .int t1, .int t2, .int t3, .int t4, .ref ta, .ref tb, .ref tc, .ref td, .ref te]))] H := hP
  have hD : va_D A [(h, .inr (9, [.ref x, .int q1, .int q2, .ref rd, .ref t, .ref d, .ref nw, .ref ps, .ref im, .ref is_, .int q10, .ref bk, .int q12, .ref qr, .ref pr, .ref cv, .ref ft])), (qr, .inr (4, [.int k0, .int k1, .int k2, .int k3, .int k4])), (ta, .inl (cI, 6, .inl fta)), (tc, .inl (cI, 30, .inl ftc)), (nw, .inr (7, [.ref nwc])), (nwc, .inl (cI, 41, .inl fn)), (pr, .inr (3, [.ref pra, .ref prb, .ref prc])), (pra, .inl (cI, 36, .inl fpa)), (prb, .inl (cI, 64, .inl fpb)), (prc, .inl (cI, 64, .inl fpc)), (t, .inr (8, [.int t0, .int t1, .int t2, .int t3, .int t4, .ref ta, .ref tb, .ref tc, .ref td, .ref te]))] := hD
  refine lv_if_eq (tgt := 25) hx hb dX9_who_8 rfl (fun c_3 => ?_) (fun c_3 => ?_)
  · rw [if_pos c_3] at hE
    refine lv_ldc (v := (-1000000001)) hx hb hown (hts _ wd_346) dX9_who_25 ?_
    exact hret (-1000000001) (k0, k1, k2, k3, k4, fpa, fpb, fpc) _ _ _ _ dX9_who_27 rfl hE (cutP (isC := [0, 1, 10, 2, 3, 4, 5, 6, 7, 8, 9]) hP rfl) (cutD (isC := [0, 1, 10, 2, 3, 4, 5, 6, 7, 8, 9]) hD rfl rfl) hS
  · rw [if_neg c_3] at hE
    refine lv_iload_n hx hb dX9_who_11 rfl (lv_at hl 2 rfl) ?_
    refine lv_iconst (v := (-1)) hx hb dX9_who_12 rfl ?_
    refine lv_icmp_eq (tgt := 28) hx hb dX9_who_13 rfl (fun c_4 => ?_) (fun c_4 => ?_)
    · rw [if_pos c_4] at hE
      refine lv_iconst (v := 0) hx hb dX9_who_28 rfl ?_
      refine lv_istore_n (lv' := [(3, .int 0), (0, .ref h), (1, .int m_), (2, .int b_)]) hx hb dX9_who_29 rfl hl (Nat.le_of_ble_eq_true rfl) rfl (fun ls hl => ?_)
      have ex_30_w30x : ∀ (w30xl3 : Int32) (w30xm0 : Int32) (w30xm1 : Int32) (w30xm2 : Int32) (w30xm3 : Int32) (w30xm4 : Int32) (w30xm5 : (Nat → Int32)) (w30xm6 : (Nat → Int32)) (w30xm7 : (Nat → Int32)) (H : Heap) (locs : List Loc) (ls : Array Slot), va_P D classes [(h, .inr (9, [.ref x, .int q1, .int q2, .ref rd, .ref t, .ref d, .ref nw, .ref ps, .ref im, .ref is_, .int q10, .ref bk, .int q12, .ref qr, .ref pr, .ref cv, .ref ft])), (qr, .inr (4, [.int w30xm0, .int w30xm1, .int w30xm2, .int w30xm3, .int w30xm4])), (ta, .inl (cI, 6, .inl fta)), (tc, .inl (cI, 30, .inl ftc)), (nw, .inr (7, [.ref nwc])), (nwc, .inl (cI, 41, .inl fn)), (pr, .inr (3, [.ref pra, .ref prb, .ref prc])), (pra, .inl (cI, 36, .inl w30xm5)), (prb, .inl (cI, 64, .inl w30xm6)), (prc, .inl (cI, 64, .inl w30xm7)), (t, .inr (8, [.int t0, .int t1, .int t2, .int t3, .int t4, .ref ta, .ref tb, .ref tc, .ref td, .ref te]))] H → va_D A [(h, .inr (9, [.ref x, .int q1, .int q2, .ref rd, .ref t, .ref d, .ref nw, .ref ps, .ref im, .ref is_, .int q10, .ref bk, .int q12, .ref qr, .ref pr, .ref cv, .ref ft])), (qr, .inr (4, [.int w30xm0, .int w30xm1, .int w30xm2, .int w30xm3, .int w30xm4])), (ta, .inl (cI, 6, .inl fta)), (tc, .inl (cI, 30, .inl ftc)), (nw, .inr (7, [.ref nwc])), (nwc, .inl (cI, 41, .inl fn)), (pr, .inr (3, [.ref pra, .ref prb, .ref prc])), (pra, .inl (cI, 36, .inl w30xm5)), (prb, .inl (cI, 64, .inl w30xm6)), (prc, .inl (cI, 64, .inl w30xm7)), (t, .inr (8, [.int t0, .int t1, .int t2, .int t3, .int t4, .ref ta, .ref tb, .ref tc, .ref td, .ref te]))] → va_S A s.heap H locs → lv_has ls 5 [(3, .int w30xl3), (0, .ref h), (1, .int m_), (2, .int b_)] → ((match (f_e_solve_x3 w30xm5 w30xm6 w30xm7 m_ t2) with | (o_7, o_8) => (if b_ = (-1) then ((f_e_cost_x3 o_7), w30xm0, w30xm1, w30xm2, w30xm3, w30xm4, w30xm5, o_7, o_8) else ((f_e_coupleOf_x3 o_8 b_), w30xm0, w30xm1, w30xm2, w30xm3, w30xm4, w30xm5, o_7, o_8)))) = RES → W p l e rm_e_who_x9 s m args below meth c H locs 0 0 Q (F0 m 79 ls []) := by
        intro w30xl3 w30xm0 w30xm1 w30xm2 w30xm3 w30xm4 w30xm5 w30xm6 w30xm7 H locs ls hP hD hS hl hE
        refine lv_aload_n hx hb dX9_who_79 rfl (lv_at hl 1 rfl) ?_
        refine va_get (D := D) (ci := 9) (v := .ref pr) (C := RX9) (T := TX9) (N := 17) hx hb hts iX9 hown hK hP 0 rfl rfl 14 (Nat.le_of_ble_eq_true rfl) (hts _ wd_126) (fun _ h9 => h9) rfl dX9_who_80 ?_
        refine lv_iload_n hx hb dX9_who_83 rfl (lv_at hl 2 rfl) ?_
        refine lv_aload_n hx hb dX9_who_84 rfl (lv_at hl 1 rfl) ?_
        refine va_get (D := D) (ci := 9) (v := .ref t) (C := RX9) (T := TX9) (N := 17) hx hb hts iX9 hown hK hP 0 rfl rfl 4 (Nat.le_of_ble_eq_true rfl) (hts _ wd_89) (fun _ h9 => h9) rfl dX9_who_85 ?_
        refine va_get (D := D) (ci := 8) (v := .int t2) (C := RX8) (T := TX8) (N := 10) hx hb hts iX8 hown hK hP 10 rfl rfl 2 (Nat.le_of_ble_eq_true rfl) (hts _ wd_373) (fun _ h9 => h9) rfl dX9_who_88 ?_
        refine cVv (wr := [(h, .inr (9, [.ref x, .int q1, .int q2, .ref rd, .ref t, .ref d, .ref nw, .ref ps, .ref im, .ref is_, .int q10, .ref bk, .int q12, .ref qr, .ref pr, .ref cv, .ref ft])), (qr, .inr (4, [.int w30xm0, .int w30xm1, .int w30xm2, .int w30xm3, .int w30xm4])), (ta, .inl (cI, 6, .inl fta)), (tc, .inl (cI, 30, .inl ftc)), (nw, .inr (7, [.ref nwc])), (nwc, .inl (cI, 41, .inl fn)), (t, .inr (8, [.int t0, .int t1, .int t2, .int t3, .int t4, .ref ta, .ref tb, .ref tc, .ref td, .ref te]))]) (rest := []) (e_solve_x3 pr pra prb prc w30xm5 w30xm6 w30xm7 m_ t2) okV_X3_solve wd_455 hx hb hml hown hts hK hP hD hS hA hN hl.1 [6, 7, 8, 9] [0, 1, 2, 3, 4, 5, 10] rfl rfl rfl rfl (of_decide_eq_true rfl) rfl rfl rfl (Nat.le_of_ble_eq_true rfl) (Nat.le_of_ble_eq_true rfl) (Nat.le_of_ble_eq_true rfl) (Nat.le_of_ble_eq_true rfl) (Nat.le_of_ble_eq_true rfl) dX9_who_91 (fun u_5 H locs hw_u_5 hP hD hS => ?_)
        obtain ⟨o_7, o_8⟩ := u_5
        replace hw_u_5 : (o_7, o_8) = (f_e_solve_x3 w30xm5 w30xm6 w30xm7 m_ t2) := hw_u_5
        rw [← hw_u_5] at hE
        replace hE : (if b_ = (-1) then ((f_e_cost_x3 o_7), w30xm0, w30xm1, w30xm2, w30xm3, w30xm4, w30xm5, o_7, o_8) else ((f_e_coupleOf_x3 o_8 b_), w30xm0, w30xm1, w30xm2, w30xm3, w30xm4, w30xm5, o_7, o_8)) = RES := hE
        have hP : va_P D classes [(h, .inr (9, [.ref x, .int q1, .int q2, .ref rd, .ref t, .ref d, .ref nw, .ref ps, .ref im, .ref is_, .int q10, .ref bk, .int q12, .ref qr, .ref pr, .ref cv, .ref ft])), (qr, .inr (4, [.int w30xm0, .int w30xm1, .int w30xm2, .int w30xm3, .int w30xm4])), (ta, .inl (cI, 6, .inl fta)), (tc, .inl (cI, 30, .inl ftc)), (nw, .inr (7, [.ref nwc])), (nwc, .inl (cI, 41, .inl fn)), (t, .inr (8, [.int t0, .int t1, .int t2, .int t3, .int t4, .ref ta, .ref tb, .ref tc, .ref td, .ref te])), (pr, .inr (3, [.ref pra, .ref prb, .ref prc])), (pra, .inl (cI, 36, .inl w30xm5)), (prb, .inl (cI, 64, .inl o_7)), (prc, .inl (cI, 64, .inl o_8))] H := hP
        have hD : va_D A [(h, .inr (9, [.ref x, .int q1, .int q2, .ref rd, .ref t, .ref d, .ref nw, .ref ps, .ref im, .ref is_, .int q10, .ref bk, .int q12, .ref qr, .ref pr, .ref cv, .ref ft])), (qr, .inr (4, [.int w30xm0, .int w30xm1, .int w30xm2, .int w30xm3, .int w30xm4])), (ta, .inl (cI, 6, .inl fta)), (tc, .inl (cI, 30, .inl ftc)), (nw, .inr (7, [.ref nwc])), (nwc, .inl (cI, 41, .inl fn)), (t, .inr (8, [.int t0, .int t1, .int t2, .int t3, .int t4, .ref ta, .ref tb, .ref tc, .ref td, .ref te])), (pr, .inr (3, [.ref pra, .ref prb, .ref prc])), (pra, .inl (cI, 36, .inl w30xm5)), (prb, .inl (cI, 64, .inl o_7)), (prc, .inl (cI, 64, .inl o_8))] := hD
        refine lv_iload_n hx hb dX9_who_94 rfl (lv_at hl 3 rfl) ?_
        refine lv_iconst (v := (-1)) hx hb dX9_who_95 rfl ?_
        refine lv_icmp_ne (tgt := 109) hx hb dX9_who_96 rfl (fun c_9 => ?_) (fun c_9 => ?_)
        · rw [if_neg c_9] at hE
          refine lv_aload_n hx hb dX9_who_109 rfl (lv_at hl 1 rfl) ?_
          refine va_get (D := D) (ci := 9) (v := .ref pr) (C := RX9) (T := TX9) (N := 17) hx hb hts iX9 hown hK hP 0 rfl rfl 14 (Nat.le_of_ble_eq_true rfl) (hts _ wd_126) (fun _ h9 => h9) rfl dX9_who_110 ?_
          refine lv_iload_n hx hb dX9_who_113 rfl (lv_at hl 3 rfl) ?_
          refine cVi (wr := [(h, .inr (9, [.ref x, .int q1, .int q2, .ref rd, .ref t, .ref d, .ref nw, .ref ps, .ref im, .ref is_, .int q10, .ref bk, .int q12, .ref qr, .ref pr, .ref cv, .ref ft])), (qr, .inr (4, [.int w30xm0, .int w30xm1, .int w30xm2, .int w30xm3, .int w30xm4])), (ta, .inl (cI, 6, .inl fta)), (tc, .inl (cI, 30, .inl ftc)), (nw, .inr (7, [.ref nwc])), (nwc, .inl (cI, 41, .inl fn)), (t, .inr (8, [.int t0, .int t1, .int t2, .int t3, .int t4, .ref ta, .ref tb, .ref tc, .ref td, .ref te])), (pra, .inl (cI, 36, .inl w30xm5)), (prb, .inl (cI, 64, .inl o_7))]) (rest := []) (e_coupleOf_x3 pr pra prb prc o_8 b_) okV_X3_coupleOf wd_459 hx hb hml hown hts hK hP hD hS hA hN hl.1 [7, 10] [0, 1, 2, 3, 4, 5, 6, 8, 9] rfl rfl rfl rfl (of_decide_eq_true rfl) rfl rfl rfl (Nat.le_of_ble_eq_true rfl) (Nat.le_of_ble_eq_true rfl) (Nat.le_of_ble_eq_true rfl) (Nat.le_of_ble_eq_true rfl) (Nat.le_of_ble_eq_true rfl) dX9_who_114 (fun r_11 u_10 H locs hw_u_10 hP hD hS => ?_)
          replace hw_u_10 : r_11 = (f_e_coupleOf_x3 o_8 b_) := hw_u_10
          rw [hw_u_10]
          clear hw_u_10
          have hP : va_P D classes [(h, .inr (9, [.ref x, .int q1, .int q2, .ref rd, .ref t, .ref d, .ref nw, .ref ps, .ref im, .ref is_, .int q10, .ref bk, .int q12, .ref qr, .ref pr, .ref cv, .ref ft])), (qr, .inr (4, [.int w30xm0, .int w30xm1, .int w30xm2, .int w30xm3, .int w30xm4])), (ta, .inl (cI, 6, .inl fta)), (tc, .inl (cI, 30, .inl ftc)), (nw, .inr (7, [.ref nwc])), (nwc, .inl (cI, 41, .inl fn)), (t, .inr (8, [.int t0, .int t1, .int t2, .int t3, .int t4, .ref ta, .ref tb, .ref tc, .ref td, .ref te])), (pra, .inl (cI, 36, .inl w30xm5)), (prb, .inl (cI, 64, .inl o_7)), (pr, .inr (3, [.ref pra, .ref prb, .ref prc])), (prc, .inl (cI, 64, .inl o_8))] H := hP
          have hD : va_D A [(h, .inr (9, [.ref x, .int q1, .int q2, .ref rd, .ref t, .ref d, .ref nw, .ref ps, .ref im, .ref is_, .int q10, .ref bk, .int q12, .ref qr, .ref pr, .ref cv, .ref ft])), (qr, .inr (4, [.int w30xm0, .int w30xm1, .int w30xm2, .int w30xm3, .int w30xm4])), (ta, .inl (cI, 6, .inl fta)), (tc, .inl (cI, 30, .inl ftc)), (nw, .inr (7, [.ref nwc])), (nwc, .inl (cI, 41, .inl fn)), (t, .inr (8, [.int t0, .int t1, .int t2, .int t3, .int t4, .ref ta, .ref tb, .ref tc, .ref td, .ref te])), (pra, .inl (cI, 36, .inl w30xm5)), (prb, .inl (cI, 64, .inl o_7)), (pr, .inr (3, [.ref pra, .ref prb, .ref prc])), (prc, .inl (cI, 64, .inl o_8))] := hD
          exact hret (f_e_coupleOf_x3 o_8 b_) (w30xm0, w30xm1, w30xm2, w30xm3, w30xm4, w30xm5, o_7, o_8) _ _ _ _ dX9_who_117 rfl hE (cutP (isC := [0, 1, 6, 2, 3, 4, 5, 9, 7, 8, 10]) hP rfl) (cutD (isC := [0, 1, 6, 2, 3, 4, 5, 9, 7, 8, 10]) hD rfl rfl) hS
        · rw [if_pos c_9] at hE
          refine lv_aload_n hx hb dX9_who_99 rfl (lv_at hl 1 rfl) ?_
          refine va_get (D := D) (ci := 9) (v := .ref pr) (C := RX9) (T := TX9) (N := 17) hx hb hts iX9 hown hK hP 0 rfl rfl 14 (Nat.le_of_ble_eq_true rfl) (hts _ wd_126) (fun _ h9 => h9) rfl dX9_who_100 ?_
          refine cVi (wr := [(h, .inr (9, [.ref x, .int q1, .int q2, .ref rd, .ref t, .ref d, .ref nw, .ref ps, .ref im, .ref is_, .int q10, .ref bk, .int q12, .ref qr, .ref pr, .ref cv, .ref ft])), (qr, .inr (4, [.int w30xm0, .int w30xm1, .int w30xm2, .int w30xm3, .int w30xm4])), (ta, .inl (cI, 6, .inl fta)), (tc, .inl (cI, 30, .inl ftc)), (nw, .inr (7, [.ref nwc])), (nwc, .inl (cI, 41, .inl fn)), (t, .inr (8, [.int t0, .int t1, .int t2, .int t3, .int t4, .ref ta, .ref tb, .ref tc, .ref td, .ref te])), (pra, .inl (cI, 36, .inl w30xm5)), (prc, .inl (cI, 64, .inl o_8))]) (rest := []) (e_cost_x3 pr pra prb prc o_7) okV_X3_cost wd_463 hx hb hml hown hts hK hP hD hS hA hN hl.1 [7, 9] [0, 1, 2, 3, 4, 5, 6, 8, 10] rfl rfl rfl rfl (of_decide_eq_true rfl) rfl rfl rfl (Nat.le_of_ble_eq_true rfl) (Nat.le_of_ble_eq_true rfl) (Nat.le_of_ble_eq_true rfl) (Nat.le_of_ble_eq_true rfl) (Nat.le_of_ble_eq_true rfl) dX9_who_103 (fun r_13 u_12 H locs hw_u_12 hP hD hS => ?_)
          replace hw_u_12 : r_13 = (f_e_cost_x3 o_7) := hw_u_12
          rw [hw_u_12]
          clear hw_u_12
          have hP : va_P D classes [(h, .inr (9, [.ref x, .int q1, .int q2, .ref rd, .ref t, .ref d, .ref nw, .ref ps, .ref im, .ref is_, .int q10, .ref bk, .int q12, .ref qr, .ref pr, .ref cv, .ref ft])), (qr, .inr (4, [.int w30xm0, .int w30xm1, .int w30xm2, .int w30xm3, .int w30xm4])), (ta, .inl (cI, 6, .inl fta)), (tc, .inl (cI, 30, .inl ftc)), (nw, .inr (7, [.ref nwc])), (nwc, .inl (cI, 41, .inl fn)), (t, .inr (8, [.int t0, .int t1, .int t2, .int t3, .int t4, .ref ta, .ref tb, .ref tc, .ref td, .ref te])), (pra, .inl (cI, 36, .inl w30xm5)), (prc, .inl (cI, 64, .inl o_8)), (pr, .inr (3, [.ref pra, .ref prb, .ref prc])), (prb, .inl (cI, 64, .inl o_7))] H := hP
          have hD : va_D A [(h, .inr (9, [.ref x, .int q1, .int q2, .ref rd, .ref t, .ref d, .ref nw, .ref ps, .ref im, .ref is_, .int q10, .ref bk, .int q12, .ref qr, .ref pr, .ref cv, .ref ft])), (qr, .inr (4, [.int w30xm0, .int w30xm1, .int w30xm2, .int w30xm3, .int w30xm4])), (ta, .inl (cI, 6, .inl fta)), (tc, .inl (cI, 30, .inl ftc)), (nw, .inr (7, [.ref nwc])), (nwc, .inl (cI, 41, .inl fn)), (t, .inr (8, [.int t0, .int t1, .int t2, .int t3, .int t4, .ref ta, .ref tb, .ref tc, .ref td, .ref te])), (pra, .inl (cI, 36, .inl w30xm5)), (prc, .inl (cI, 64, .inl o_8)), (pr, .inr (3, [.ref pra, .ref prb, .ref prc])), (prb, .inl (cI, 64, .inl o_7))] := hD
          refine lv_goto (tgt := 117) hx hb dX9_who_106 rfl ?_
          exact hret (f_e_cost_x3 o_7) (w30xm0, w30xm1, w30xm2, w30xm3, w30xm4, w30xm5, o_7, o_8) _ _ _ _ dX9_who_117 rfl hE (cutP (isC := [0, 1, 6, 2, 3, 4, 5, 9, 7, 10, 8]) hP rfl) (cutD (isC := [0, 1, 6, 2, 3, 4, 5, 9, 7, 10, 8]) hD rfl rfl) hS
      have lp_30_w30x : ∀ (n_w30x : Nat) (w30xl3 : Int32) (w30xm0 : Int32) (w30xm1 : Int32) (w30xm2 : Int32) (w30xm3 : Int32) (w30xm4 : Int32) (w30xm5 : (Nat → Int32)) (w30xm6 : (Nat → Int32)) (w30xm7 : (Nat → Int32)) (H : Heap) (locs : List Loc) (ls : Array Slot), va_P D classes [(h, .inr (9, [.ref x, .int q1, .int q2, .ref rd, .ref t, .ref d, .ref nw, .ref ps, .ref im, .ref is_, .int q10, .ref bk, .int q12, .ref qr, .ref pr, .ref cv, .ref ft])), (qr, .inr (4, [.int w30xm0, .int w30xm1, .int w30xm2, .int w30xm3, .int w30xm4])), (ta, .inl (cI, 6, .inl fta)), (tc, .inl (cI, 30, .inl ftc)), (nw, .inr (7, [.ref nwc])), (nwc, .inl (cI, 41, .inl fn)), (pr, .inr (3, [.ref pra, .ref prb, .ref prc])), (pra, .inl (cI, 36, .inl w30xm5)), (prb, .inl (cI, 64, .inl w30xm6)), (prc, .inl (cI, 64, .inl w30xm7)), (t, .inr (8, [.int t0, .int t1, .int t2, .int t3, .int t4, .ref ta, .ref tb, .ref tc, .ref td, .ref te]))] H → va_D A [(h, .inr (9, [.ref x, .int q1, .int q2, .ref rd, .ref t, .ref d, .ref nw, .ref ps, .ref im, .ref is_, .int q10, .ref bk, .int q12, .ref qr, .ref pr, .ref cv, .ref ft])), (qr, .inr (4, [.int w30xm0, .int w30xm1, .int w30xm2, .int w30xm3, .int w30xm4])), (ta, .inl (cI, 6, .inl fta)), (tc, .inl (cI, 30, .inl ftc)), (nw, .inr (7, [.ref nwc])), (nwc, .inl (cI, 41, .inl fn)), (pr, .inr (3, [.ref pra, .ref prb, .ref prc])), (pra, .inl (cI, 36, .inl w30xm5)), (prb, .inl (cI, 64, .inl w30xm6)), (prc, .inl (cI, 64, .inl w30xm7)), (t, .inr (8, [.int t0, .int t1, .int t2, .int t3, .int t4, .ref ta, .ref tb, .ref tc, .ref td, .ref te]))] → va_S A s.heap H locs → lv_has ls 5 [(3, .int w30xl3), (0, .ref h), (1, .int m_), (2, .int b_)] → ((m_ : Int32).toInt + 1 - (w30xl3 : Int32).toInt).toNat < n_w30x → (match (f_e_who_x9_30 q1 q2 q10 q12 k0 k1 k2 k3 k4 t0 t1 t2 t3 t4 fta ftc fn fpa fpb fpc m_ b_ n_w30x w30xl3 w30xm0 w30xm1 w30xm2 w30xm3 w30xm4 w30xm5 w30xm6 w30xm7) with | (w30xl3, w30xm0, w30xm1, w30xm2, w30xm3, w30xm4, w30xm5, w30xm6, w30xm7) => (match (f_e_solve_x3 w30xm5 w30xm6 w30xm7 m_ t2) with | (o_7, o_8) => (if b_ = (-1) then ((f_e_cost_x3 o_7), w30xm0, w30xm1, w30xm2, w30xm3, w30xm4, w30xm5, o_7, o_8) else ((f_e_coupleOf_x3 o_8 b_), w30xm0, w30xm1, w30xm2, w30xm3, w30xm4, w30xm5, o_7, o_8)))) = RES → W p l e rm_e_who_x9 s m args below meth c H locs 0 0 Q (F0 m 30 ls []) := by
        intro n_w30x
        induction n_w30x with
        | zero => intro w30xl3 w30xm0 w30xm1 w30xm2 w30xm3 w30xm4 w30xm5 w30xm6 w30xm7 H locs ls hP hD hS hl hm; exact absurd hm (Nat.not_lt_zero _)
        | succ n_w30x ih_w30x =>
          intro w30xl3 w30xm0 w30xm1 w30xm2 w30xm3 w30xm4 w30xm5 w30xm6 w30xm7 H locs ls hP hD hS hl hm hE
          rw [f_e_who_x9_30_s] at hE
          refine lv_iload_n hx hb dX9_who_30 rfl (lv_at hl 0 rfl) ?_
          refine lv_iload_n hx hb dX9_who_31 rfl (lv_at hl 2 rfl) ?_
          refine lv_icmp_gt (tgt := 79) hx hb dX9_who_32 rfl (fun c_14 => ?_) (fun c_14 => ?_)
          · rw [if_pos c_14] at hE
            exact ex_30_w30x w30xl3 w30xm0 w30xm1 w30xm2 w30xm3 w30xm4 w30xm5 w30xm6 w30xm7 _ _ ls hP hD hS (lv_sub hl [0, 1, 2, 3] rfl) hE
          · rw [if_neg c_14] at hE
            refine lv_iconst (v := 0) hx hb dX9_who_35 rfl ?_
            refine lv_istore (lv' := [(4, .int 0), (3, .int w30xl3), (0, .ref h), (1, .int m_), (2, .int b_)]) hx hb dX9_who_36 hl (Nat.le_of_ble_eq_true rfl) rfl (fun ls hl => ?_)
            have ex_38_w38x : ∀ (w38xl4 : Int32) (w38xm0 : Int32) (w38xm1 : Int32) (w38xm2 : Int32) (w38xm3 : Int32) (w38xm4 : Int32) (w38xm5 : (Nat → Int32)) (w38xm6 : (Nat → Int32)) (w38xm7 : (Nat → Int32)) (H : Heap) (locs : List Loc) (ls : Array Slot), va_P D classes [(h, .inr (9, [.ref x, .int q1, .int q2, .ref rd, .ref t, .ref d, .ref nw, .ref ps, .ref im, .ref is_, .int q10, .ref bk, .int q12, .ref qr, .ref pr, .ref cv, .ref ft])), (qr, .inr (4, [.int w38xm0, .int w38xm1, .int w38xm2, .int w38xm3, .int w38xm4])), (ta, .inl (cI, 6, .inl fta)), (tc, .inl (cI, 30, .inl ftc)), (nw, .inr (7, [.ref nwc])), (nwc, .inl (cI, 41, .inl fn)), (pr, .inr (3, [.ref pra, .ref prb, .ref prc])), (pra, .inl (cI, 36, .inl w38xm5)), (prb, .inl (cI, 64, .inl w38xm6)), (prc, .inl (cI, 64, .inl w38xm7)), (t, .inr (8, [.int t0, .int t1, .int t2, .int t3, .int t4, .ref ta, .ref tb, .ref tc, .ref td, .ref te]))] H → va_D A [(h, .inr (9, [.ref x, .int q1, .int q2, .ref rd, .ref t, .ref d, .ref nw, .ref ps, .ref im, .ref is_, .int q10, .ref bk, .int q12, .ref qr, .ref pr, .ref cv, .ref ft])), (qr, .inr (4, [.int w38xm0, .int w38xm1, .int w38xm2, .int w38xm3, .int w38xm4])), (ta, .inl (cI, 6, .inl fta)), (tc, .inl (cI, 30, .inl ftc)), (nw, .inr (7, [.ref nwc])), (nwc, .inl (cI, 41, .inl fn)), (pr, .inr (3, [.ref pra, .ref prb, .ref prc])), (pra, .inl (cI, 36, .inl w38xm5)), (prb, .inl (cI, 64, .inl w38xm6)), (prc, .inl (cI, 64, .inl w38xm7)), (t, .inr (8, [.int t0, .int t1, .int t2, .int t3, .int t4, .ref ta, .ref tb, .ref tc, .ref td, .ref te]))] → va_S A s.heap H locs → lv_has ls 5 [(4, .int w38xl4), (3, .int w30xl3), (0, .ref h), (1, .int m_), (2, .int b_)] → ((match (f_e_who_x9_30 q1 q2 q10 q12 k0 k1 k2 k3 k4 t0 t1 t2 t3 t4 fta ftc fn fpa fpb fpc m_ b_ n_w30x (w30xl3 + 1) w38xm0 w38xm1 w38xm2 w38xm3 w38xm4 w38xm5 w38xm6 w38xm7) with | (w30xl3, w30xm0, w30xm1, w30xm2, w30xm3, w30xm4, w30xm5, w30xm6, w30xm7) => (match (f_e_solve_x3 w30xm5 w30xm6 w30xm7 m_ t2) with | (o_7, o_8) => (if b_ = (-1) then ((f_e_cost_x3 o_7), w30xm0, w30xm1, w30xm2, w30xm3, w30xm4, w30xm5, o_7, o_8) else ((f_e_coupleOf_x3 o_8 b_), w30xm0, w30xm1, w30xm2, w30xm3, w30xm4, w30xm5, o_7, o_8))))) = RES → W p l e rm_e_who_x9 s m args below meth c H locs 0 0 Q (F0 m 73 ls []) := by
              intro w38xl4 w38xm0 w38xm1 w38xm2 w38xm3 w38xm4 w38xm5 w38xm6 w38xm7 H locs ls hP hD hS hl hE
              refine lv_iinc (v := (w30xl3 + 1)) (lv' := [(3, .int (w30xl3 + 1)), (4, .int w38xl4), (0, .ref h), (1, .int m_), (2, .int b_)]) hx hb dX9_who_73 hl (k := 1) rfl rfl (Nat.le_of_ble_eq_true rfl) rfl (fun ls hl => ?_)
              refine lv_goto (tgt := 30) hx hb dX9_who_76 rfl ?_
              exact ih_w30x (w30xl3 + 1) w38xm0 w38xm1 w38xm2 w38xm3 w38xm4 w38xm5 w38xm6 w38xm7 _ _ ls hP hD hS (lv_sub hl [0, 2, 3, 4] rfl) (le_step (hb_lt c_3) c_14 hm) hE
            have lp_38_w38x : ∀ (n_w38x : Nat) (w38xl4 : Int32) (w38xm0 : Int32) (w38xm1 : Int32) (w38xm2 : Int32) (w38xm3 : Int32) (w38xm4 : Int32) (w38xm5 : (Nat → Int32)) (w38xm6 : (Nat → Int32)) (w38xm7 : (Nat → Int32)) (H : Heap) (locs : List Loc) (ls : Array Slot), va_P D classes [(h, .inr (9, [.ref x, .int q1, .int q2, .ref rd, .ref t, .ref d, .ref nw, .ref ps, .ref im, .ref is_, .int q10, .ref bk, .int q12, .ref qr, .ref pr, .ref cv, .ref ft])), (qr, .inr (4, [.int w38xm0, .int w38xm1, .int w38xm2, .int w38xm3, .int w38xm4])), (ta, .inl (cI, 6, .inl fta)), (tc, .inl (cI, 30, .inl ftc)), (nw, .inr (7, [.ref nwc])), (nwc, .inl (cI, 41, .inl fn)), (pr, .inr (3, [.ref pra, .ref prb, .ref prc])), (pra, .inl (cI, 36, .inl w38xm5)), (prb, .inl (cI, 64, .inl w38xm6)), (prc, .inl (cI, 64, .inl w38xm7)), (t, .inr (8, [.int t0, .int t1, .int t2, .int t3, .int t4, .ref ta, .ref tb, .ref tc, .ref td, .ref te]))] H → va_D A [(h, .inr (9, [.ref x, .int q1, .int q2, .ref rd, .ref t, .ref d, .ref nw, .ref ps, .ref im, .ref is_, .int q10, .ref bk, .int q12, .ref qr, .ref pr, .ref cv, .ref ft])), (qr, .inr (4, [.int w38xm0, .int w38xm1, .int w38xm2, .int w38xm3, .int w38xm4])), (ta, .inl (cI, 6, .inl fta)), (tc, .inl (cI, 30, .inl ftc)), (nw, .inr (7, [.ref nwc])), (nwc, .inl (cI, 41, .inl fn)), (pr, .inr (3, [.ref pra, .ref prb, .ref prc])), (pra, .inl (cI, 36, .inl w38xm5)), (prb, .inl (cI, 64, .inl w38xm6)), (prc, .inl (cI, 64, .inl w38xm7)), (t, .inr (8, [.int t0, .int t1, .int t2, .int t3, .int t4, .ref ta, .ref tb, .ref tc, .ref td, .ref te]))] → va_S A s.heap H locs → lv_has ls 5 [(4, .int w38xl4), (3, .int w30xl3), (0, .ref h), (1, .int m_), (2, .int b_)] → ((t2 : Int32).toInt - (w38xl4 : Int32).toInt).toNat < n_w38x → (match (match (f_e_who_x9_38 q1 q2 q10 q12 k0 k1 k2 k3 k4 t0 t1 t2 t3 t4 fta ftc fn fpa fpb fpc m_ b_ w30xl3 n_w38x w38xl4 w38xm0 w38xm1 w38xm2 w38xm3 w38xm4 w38xm5 w38xm6 w38xm7) with | (w38xl4, w38xm0, w38xm1, w38xm2, w38xm3, w38xm4, w38xm5, w38xm6, w38xm7) => (f_e_who_x9_30 q1 q2 q10 q12 k0 k1 k2 k3 k4 t0 t1 t2 t3 t4 fta ftc fn fpa fpb fpc m_ b_ n_w30x (w30xl3 + 1) w38xm0 w38xm1 w38xm2 w38xm3 w38xm4 w38xm5 w38xm6 w38xm7)) with | (w30xl3, w30xm0, w30xm1, w30xm2, w30xm3, w30xm4, w30xm5, w30xm6, w30xm7) => (match (f_e_solve_x3 w30xm5 w30xm6 w30xm7 m_ t2) with | (o_7, o_8) => (if b_ = (-1) then ((f_e_cost_x3 o_7), w30xm0, w30xm1, w30xm2, w30xm3, w30xm4, w30xm5, o_7, o_8) else ((f_e_coupleOf_x3 o_8 b_), w30xm0, w30xm1, w30xm2, w30xm3, w30xm4, w30xm5, o_7, o_8)))) = RES → W p l e rm_e_who_x9 s m args below meth c H locs 0 0 Q (F0 m 38 ls []) := by
              intro n_w38x
              induction n_w38x with
              | zero => intro w38xl4 w38xm0 w38xm1 w38xm2 w38xm3 w38xm4 w38xm5 w38xm6 w38xm7 H locs ls hP hD hS hl hm; exact absurd hm (Nat.not_lt_zero _)
              | succ n_w38x ih_w38x =>
                intro w38xl4 w38xm0 w38xm1 w38xm2 w38xm3 w38xm4 w38xm5 w38xm6 w38xm7 H locs ls hP hD hS hl hm hE
                rw [f_e_who_x9_38_s] at hE
                refine lv_iload hx hb dX9_who_38 (lv_at hl 0 rfl) ?_
                refine lv_aload_n hx hb dX9_who_40 rfl (lv_at hl 2 rfl) ?_
                refine va_get (D := D) (ci := 9) (v := .ref t) (C := RX9) (T := TX9) (N := 17) hx hb hts iX9 hown hK hP 0 rfl rfl 4 (Nat.le_of_ble_eq_true rfl) (hts _ wd_89) (fun _ h9 => h9) rfl dX9_who_41 ?_
                refine va_get (D := D) (ci := 8) (v := .int t2) (C := RX8) (T := TX8) (N := 10) hx hb hts iX8 hown hK hP 10 rfl rfl 2 (Nat.le_of_ble_eq_true rfl) (hts _ wd_373) (fun _ h9 => h9) rfl dX9_who_44 ?_
                refine lv_icmp_ge (tgt := 73) hx hb dX9_who_47 rfl (fun c_15 => ?_) (fun c_15 => ?_)
                · rw [if_pos c_15] at hE
                  exact ex_38_w38x w38xl4 w38xm0 w38xm1 w38xm2 w38xm3 w38xm4 w38xm5 w38xm6 w38xm7 _ _ ls hP hD hS (lv_sub hl [0, 1, 2, 3, 4] rfl) hE
                · rw [if_neg c_15] at hE
                  refine lv_aload_n hx hb dX9_who_50 rfl (lv_at hl 2 rfl) ?_
                  refine va_get (D := D) (ci := 9) (v := .ref pr) (C := RX9) (T := TX9) (N := 17) hx hb hts iX9 hown hK hP 0 rfl rfl 14 (Nat.le_of_ble_eq_true rfl) (hts _ wd_126) (fun _ h9 => h9) rfl dX9_who_51 ?_
                  refine lv_iload_n hx hb dX9_who_54 rfl (lv_at hl 1 rfl) ?_
                  refine lv_iload hx hb dX9_who_55 (lv_at hl 0 rfl) ?_
                  refine lv_aload_n hx hb dX9_who_57 rfl (lv_at hl 2 rfl) ?_
                  refine lv_iload hx hb dX9_who_58 (lv_at hl 0 rfl) ?_
                  refine lv_iload_n hx hb dX9_who_60 rfl (lv_at hl 1 rfl) ?_
                  refine cVi (wr := [(pr, .inr (3, [.ref pra, .ref prb, .ref prc])), (pra, .inl (cI, 36, .inl w38xm5)), (prb, .inl (cI, 64, .inl w38xm6)), (prc, .inl (cI, 64, .inl w38xm7))]) (rest := [.int w38xl4, .int w30xl3, .ref pr]) (e_costFor_x9 h x rd t d nw ps im is_ bk qr pr cv ft ta tb tc td te nwc q1 q2 q10 q12 w38xm0 w38xm1 w38xm2 w38xm3 w38xm4 t0 t1 t2 t3 t4 fta ftc fn w38xl4 w30xl3) okV_X9_costFor wd_413 hx hb hml hown hts hK hP hD hS hA hN hl.1 [0, 1, 10, 2, 3, 4, 5] [6, 7, 8, 9] rfl rfl rfl rfl (of_decide_eq_true rfl) rfl rfl rfl (Nat.le_of_ble_eq_true rfl) (Nat.le_of_ble_eq_true rfl) (Nat.le_of_ble_eq_true rfl) (Nat.le_of_ble_eq_true rfl) (Nat.le_of_ble_eq_true rfl) dX9_who_61 (fun r_17 u_16 H locs hw_u_16 hP hD hS => ?_)
                  obtain ⟨o_18, o_19, o_20, o_21, o_22⟩ := u_16
                  replace hw_u_16 : (r_17, o_18, o_19, o_20, o_21, o_22) = (f_e_costFor_x9 q1 q2 q10 q12 w38xm0 w38xm1 w38xm2 w38xm3 w38xm4 t0 t1 t2 t3 t4 fta ftc fn w38xl4 w30xl3) := hw_u_16
                  rw [← hw_u_16] at hE
                  replace hE : (match (match (f_e_who_x9_38 q1 q2 q10 q12 k0 k1 k2 k3 k4 t0 t1 t2 t3 t4 fta ftc fn fpa fpb fpc m_ b_ w30xl3 n_w38x (w38xl4 + 1) o_18 o_19 o_20 o_21 o_22 (f_e_ask_x3 w38xm5 w30xl3 w38xl4 r_17) w38xm6 w38xm7) with | (w38xl4, w38xm0, w38xm1, w38xm2, w38xm3, w38xm4, w38xm5, w38xm6, w38xm7) => (f_e_who_x9_30 q1 q2 q10 q12 k0 k1 k2 k3 k4 t0 t1 t2 t3 t4 fta ftc fn fpa fpb fpc m_ b_ n_w30x (w30xl3 + 1) w38xm0 w38xm1 w38xm2 w38xm3 w38xm4 w38xm5 w38xm6 w38xm7)) with | (w30xl3, w30xm0, w30xm1, w30xm2, w30xm3, w30xm4, w30xm5, w30xm6, w30xm7) => (match (f_e_solve_x3 w30xm5 w30xm6 w30xm7 m_ t2) with | (o_7, o_8) => (if b_ = (-1) then ((f_e_cost_x3 o_7), w30xm0, w30xm1, w30xm2, w30xm3, w30xm4, w30xm5, o_7, o_8) else ((f_e_coupleOf_x3 o_8 b_), w30xm0, w30xm1, w30xm2, w30xm3, w30xm4, w30xm5, o_7, o_8)))) = RES := hE
                  have hP : va_P D classes [(pr, .inr (3, [.ref pra, .ref prb, .ref prc])), (pra, .inl (cI, 36, .inl w38xm5)), (prb, .inl (cI, 64, .inl w38xm6)), (prc, .inl (cI, 64, .inl w38xm7)), (h, .inr (9, [.ref x, .int q1, .int q2, .ref rd, .ref t, .ref d, .ref nw, .ref ps, .ref im, .ref is_, .int q10, .ref bk, .int q12, .ref qr, .ref pr, .ref cv, .ref ft])), (qr, .inr (4, [.int o_18, .int o_19, .int o_20, .int o_21, .int o_22])), (t, .inr (8, [.int t0, .int t1, .int t2, .int t3, .int t4, .ref ta, .ref tb, .ref tc, .ref td, .ref te])), (ta, .inl (cI, 6, .inl fta)), (tc, .inl (cI, 30, .inl ftc)), (nw, .inr (7, [.ref nwc])), (nwc, .inl (cI, 41, .inl fn))] H := hP
                  have hD : va_D A [(pr, .inr (3, [.ref pra, .ref prb, .ref prc])), (pra, .inl (cI, 36, .inl w38xm5)), (prb, .inl (cI, 64, .inl w38xm6)), (prc, .inl (cI, 64, .inl w38xm7)), (h, .inr (9, [.ref x, .int q1, .int q2, .ref rd, .ref t, .ref d, .ref nw, .ref ps, .ref im, .ref is_, .int q10, .ref bk, .int q12, .ref qr, .ref pr, .ref cv, .ref ft])), (qr, .inr (4, [.int o_18, .int o_19, .int o_20, .int o_21, .int o_22])), (t, .inr (8, [.int t0, .int t1, .int t2, .int t3, .int t4, .ref ta, .ref tb, .ref tc, .ref td, .ref te])), (ta, .inl (cI, 6, .inl fta)), (tc, .inl (cI, 30, .inl ftc)), (nw, .inr (7, [.ref nwc])), (nwc, .inl (cI, 41, .inl fn))] := hD
                  refine cVv (wr := [(prb, .inl (cI, 64, .inl w38xm6)), (prc, .inl (cI, 64, .inl w38xm7)), (h, .inr (9, [.ref x, .int q1, .int q2, .ref rd, .ref t, .ref d, .ref nw, .ref ps, .ref im, .ref is_, .int q10, .ref bk, .int q12, .ref qr, .ref pr, .ref cv, .ref ft])), (qr, .inr (4, [.int o_18, .int o_19, .int o_20, .int o_21, .int o_22])), (t, .inr (8, [.int t0, .int t1, .int t2, .int t3, .int t4, .ref ta, .ref tb, .ref tc, .ref td, .ref te])), (ta, .inl (cI, 6, .inl fta)), (tc, .inl (cI, 30, .inl ftc)), (nw, .inr (7, [.ref nwc])), (nwc, .inl (cI, 41, .inl fn))]) (rest := []) (e_ask_x3 pr pra prb prc w38xm5 w30xl3 w38xl4 r_17) okV_X3_ask wd_467 hx hb hml hown hts hK hP hD hS hA hN hl.1 [0, 1] [2, 3, 4, 5, 6, 7, 8, 9, 10] rfl rfl rfl rfl (of_decide_eq_true rfl) rfl rfl rfl (Nat.le_of_ble_eq_true rfl) (Nat.le_of_ble_eq_true rfl) (Nat.le_of_ble_eq_true rfl) (Nat.le_of_ble_eq_true rfl) (Nat.le_of_ble_eq_true rfl) dX9_who_64 (fun u_23 H locs hw_u_23 hP hD hS => ?_)
                  replace hw_u_23 : u_23 = (f_e_ask_x3 w38xm5 w30xl3 w38xl4 r_17) := hw_u_23
                  subst hw_u_23
                  have hP : va_P D classes [(prb, .inl (cI, 64, .inl w38xm6)), (prc, .inl (cI, 64, .inl w38xm7)), (h, .inr (9, [.ref x, .int q1, .int q2, .ref rd, .ref t, .ref d, .ref nw, .ref ps, .ref im, .ref is_, .int q10, .ref bk, .int q12, .ref qr, .ref pr, .ref cv, .ref ft])), (qr, .inr (4, [.int o_18, .int o_19, .int o_20, .int o_21, .int o_22])), (t, .inr (8, [.int t0, .int t1, .int t2, .int t3, .int t4, .ref ta, .ref tb, .ref tc, .ref td, .ref te])), (ta, .inl (cI, 6, .inl fta)), (tc, .inl (cI, 30, .inl ftc)), (nw, .inr (7, [.ref nwc])), (nwc, .inl (cI, 41, .inl fn)), (pr, .inr (3, [.ref pra, .ref prb, .ref prc])), (pra, .inl (cI, 36, .inl (f_e_ask_x3 w38xm5 w30xl3 w38xl4 r_17)))] H := hP
                  have hD : va_D A [(prb, .inl (cI, 64, .inl w38xm6)), (prc, .inl (cI, 64, .inl w38xm7)), (h, .inr (9, [.ref x, .int q1, .int q2, .ref rd, .ref t, .ref d, .ref nw, .ref ps, .ref im, .ref is_, .int q10, .ref bk, .int q12, .ref qr, .ref pr, .ref cv, .ref ft])), (qr, .inr (4, [.int o_18, .int o_19, .int o_20, .int o_21, .int o_22])), (t, .inr (8, [.int t0, .int t1, .int t2, .int t3, .int t4, .ref ta, .ref tb, .ref tc, .ref td, .ref te])), (ta, .inl (cI, 6, .inl fta)), (tc, .inl (cI, 30, .inl ftc)), (nw, .inr (7, [.ref nwc])), (nwc, .inl (cI, 41, .inl fn)), (pr, .inr (3, [.ref pra, .ref prb, .ref prc])), (pra, .inl (cI, 36, .inl (f_e_ask_x3 w38xm5 w30xl3 w38xl4 r_17)))] := hD
                  refine lv_iinc (v := (w38xl4 + 1)) (lv' := [(4, .int (w38xl4 + 1)), (3, .int w30xl3), (0, .ref h), (1, .int m_), (2, .int b_)]) hx hb dX9_who_67 hl (k := 0) rfl rfl (Nat.le_of_ble_eq_true rfl) rfl (fun ls hl => ?_)
                  refine lv_goto (tgt := 38) hx hb dX9_who_70 rfl ?_
                  exact ih_w38x (w38xl4 + 1) o_18 o_19 o_20 o_21 o_22 (f_e_ask_x3 w38xm5 w30xl3 w38xl4 r_17) w38xm6 w38xm7 _ _ ls (cutP (isC := [2, 3, 5, 6, 7, 8, 9, 10, 0, 1, 4]) hP rfl) (cutD (isC := [2, 3, 5, 6, 7, 8, 9, 10, 0, 1, 4]) hD rfl rfl) hS (lv_sub hl [0, 1, 2, 3, 4] rfl) (up_step c_15 hm) hE
            exact lp_38_w38x (((t2 : Int32).toInt - (0 : Int32).toInt).toNat + 1) 0 w30xm0 w30xm1 w30xm2 w30xm3 w30xm4 w30xm5 w30xm6 w30xm7 _ _ ls hP hD hS hl (Nat.lt_succ_self _) hE
      exact lp_30_w30x (((m_ : Int32).toInt + 1 - (0 : Int32).toInt).toNat + 1) 0 k0 k1 k2 k3 k4 fpa fpb fpc _ _ ls hP hD hS hl (Nat.lt_succ_self _) hE
    · rw [if_neg c_4] at hE
      refine lv_iload_n hx hb dX9_who_16 rfl (lv_at hl 2 rfl) ?_
      refine lv_if_lt (tgt := 25) hx hb dX9_who_17 rfl (fun c_25 => ?_) (fun c_25 => ?_)
      · rw [if_pos c_25] at hE
        refine lv_ldc (v := (-1000000001)) hx hb hown (hts _ wd_346) dX9_who_25 ?_
        exact hret (-1000000001) (k0, k1, k2, k3, k4, fpa, fpb, fpc) _ _ _ _ dX9_who_27 rfl hE (cutP (isC := [0, 1, 10, 2, 3, 4, 5, 6, 7, 8, 9]) hP rfl) (cutD (isC := [0, 1, 10, 2, 3, 4, 5, 6, 7, 8, 9]) hD rfl rfl) hS
      · rw [if_neg c_25] at hE
        refine lv_iload_n hx hb dX9_who_20 rfl (lv_at hl 2 rfl) ?_
        refine lv_iload_n hx hb dX9_who_21 rfl (lv_at hl 1 rfl) ?_
        refine lv_icmp_le (tgt := 28) hx hb dX9_who_22 rfl (fun c_26 => ?_) (fun c_26 => ?_)
        · rw [if_pos c_26] at hE
          refine lv_iconst (v := 0) hx hb dX9_who_28 rfl ?_
          refine lv_istore_n (lv' := [(3, .int 0), (0, .ref h), (1, .int m_), (2, .int b_)]) hx hb dX9_who_29 rfl hl (Nat.le_of_ble_eq_true rfl) rfl (fun ls hl => ?_)
          have ex_30_w30x : ∀ (w30xl3 : Int32) (w30xm0 : Int32) (w30xm1 : Int32) (w30xm2 : Int32) (w30xm3 : Int32) (w30xm4 : Int32) (w30xm5 : (Nat → Int32)) (w30xm6 : (Nat → Int32)) (w30xm7 : (Nat → Int32)) (H : Heap) (locs : List Loc) (ls : Array Slot), va_P D classes [(h, .inr (9, [.ref x, .int q1, .int q2, .ref rd, .ref t, .ref d, .ref nw, .ref ps, .ref im, .ref is_, .int q10, .ref bk, .int q12, .ref qr, .ref pr, .ref cv, .ref ft])), (qr, .inr (4, [.int w30xm0, .int w30xm1, .int w30xm2, .int w30xm3, .int w30xm4])), (ta, .inl (cI, 6, .inl fta)), (tc, .inl (cI, 30, .inl ftc)), (nw, .inr (7, [.ref nwc])), (nwc, .inl (cI, 41, .inl fn)), (pr, .inr (3, [.ref pra, .ref prb, .ref prc])), (pra, .inl (cI, 36, .inl w30xm5)), (prb, .inl (cI, 64, .inl w30xm6)), (prc, .inl (cI, 64, .inl w30xm7)), (t, .inr (8, [.int t0, .int t1, .int t2, .int t3, .int t4, .ref ta, .ref tb, .ref tc, .ref td, .ref te]))] H → va_D A [(h, .inr (9, [.ref x, .int q1, .int q2, .ref rd, .ref t, .ref d, .ref nw, .ref ps, .ref im, .ref is_, .int q10, .ref bk, .int q12, .ref qr, .ref pr, .ref cv, .ref ft])), (qr, .inr (4, [.int w30xm0, .int w30xm1, .int w30xm2, .int w30xm3, .int w30xm4])), (ta, .inl (cI, 6, .inl fta)), (tc, .inl (cI, 30, .inl ftc)), (nw, .inr (7, [.ref nwc])), (nwc, .inl (cI, 41, .inl fn)), (pr, .inr (3, [.ref pra, .ref prb, .ref prc])), (pra, .inl (cI, 36, .inl w30xm5)), (prb, .inl (cI, 64, .inl w30xm6)), (prc, .inl (cI, 64, .inl w30xm7)), (t, .inr (8, [.int t0, .int t1, .int t2, .int t3, .int t4, .ref ta, .ref tb, .ref tc, .ref td, .ref te]))] → va_S A s.heap H locs → lv_has ls 5 [(3, .int w30xl3), (0, .ref h), (1, .int m_), (2, .int b_)] → ((match (f_e_solve_x3 w30xm5 w30xm6 w30xm7 m_ t2) with | (o_29, o_30) => (if b_ = (-1) then ((f_e_cost_x3 o_29), w30xm0, w30xm1, w30xm2, w30xm3, w30xm4, w30xm5, o_29, o_30) else ((f_e_coupleOf_x3 o_30 b_), w30xm0, w30xm1, w30xm2, w30xm3, w30xm4, w30xm5, o_29, o_30)))) = RES → W p l e rm_e_who_x9 s m args below meth c H locs 0 0 Q (F0 m 79 ls []) := by
            intro w30xl3 w30xm0 w30xm1 w30xm2 w30xm3 w30xm4 w30xm5 w30xm6 w30xm7 H locs ls hP hD hS hl hE
            refine lv_aload_n hx hb dX9_who_79 rfl (lv_at hl 1 rfl) ?_
            refine va_get (D := D) (ci := 9) (v := .ref pr) (C := RX9) (T := TX9) (N := 17) hx hb hts iX9 hown hK hP 0 rfl rfl 14 (Nat.le_of_ble_eq_true rfl) (hts _ wd_126) (fun _ h9 => h9) rfl dX9_who_80 ?_
            refine lv_iload_n hx hb dX9_who_83 rfl (lv_at hl 2 rfl) ?_
            refine lv_aload_n hx hb dX9_who_84 rfl (lv_at hl 1 rfl) ?_
            refine va_get (D := D) (ci := 9) (v := .ref t) (C := RX9) (T := TX9) (N := 17) hx hb hts iX9 hown hK hP 0 rfl rfl 4 (Nat.le_of_ble_eq_true rfl) (hts _ wd_89) (fun _ h9 => h9) rfl dX9_who_85 ?_
            refine va_get (D := D) (ci := 8) (v := .int t2) (C := RX8) (T := TX8) (N := 10) hx hb hts iX8 hown hK hP 10 rfl rfl 2 (Nat.le_of_ble_eq_true rfl) (hts _ wd_373) (fun _ h9 => h9) rfl dX9_who_88 ?_
            refine cVv (wr := [(h, .inr (9, [.ref x, .int q1, .int q2, .ref rd, .ref t, .ref d, .ref nw, .ref ps, .ref im, .ref is_, .int q10, .ref bk, .int q12, .ref qr, .ref pr, .ref cv, .ref ft])), (qr, .inr (4, [.int w30xm0, .int w30xm1, .int w30xm2, .int w30xm3, .int w30xm4])), (ta, .inl (cI, 6, .inl fta)), (tc, .inl (cI, 30, .inl ftc)), (nw, .inr (7, [.ref nwc])), (nwc, .inl (cI, 41, .inl fn)), (t, .inr (8, [.int t0, .int t1, .int t2, .int t3, .int t4, .ref ta, .ref tb, .ref tc, .ref td, .ref te]))]) (rest := []) (e_solve_x3 pr pra prb prc w30xm5 w30xm6 w30xm7 m_ t2) okV_X3_solve wd_455 hx hb hml hown hts hK hP hD hS hA hN hl.1 [6, 7, 8, 9] [0, 1, 2, 3, 4, 5, 10] rfl rfl rfl rfl (of_decide_eq_true rfl) rfl rfl rfl (Nat.le_of_ble_eq_true rfl) (Nat.le_of_ble_eq_true rfl) (Nat.le_of_ble_eq_true rfl) (Nat.le_of_ble_eq_true rfl) (Nat.le_of_ble_eq_true rfl) dX9_who_91 (fun u_27 H locs hw_u_27 hP hD hS => ?_)
            obtain ⟨o_29, o_30⟩ := u_27
            replace hw_u_27 : (o_29, o_30) = (f_e_solve_x3 w30xm5 w30xm6 w30xm7 m_ t2) := hw_u_27
            rw [← hw_u_27] at hE
            replace hE : (if b_ = (-1) then ((f_e_cost_x3 o_29), w30xm0, w30xm1, w30xm2, w30xm3, w30xm4, w30xm5, o_29, o_30) else ((f_e_coupleOf_x3 o_30 b_), w30xm0, w30xm1, w30xm2, w30xm3, w30xm4, w30xm5, o_29, o_30)) = RES := hE
            have hP : va_P D classes [(h, .inr (9, [.ref x, .int q1, .int q2, .ref rd, .ref t, .ref d, .ref nw, .ref ps, .ref im, .ref is_, .int q10, .ref bk, .int q12, .ref qr, .ref pr, .ref cv, .ref ft])), (qr, .inr (4, [.int w30xm0, .int w30xm1, .int w30xm2, .int w30xm3, .int w30xm4])), (ta, .inl (cI, 6, .inl fta)), (tc, .inl (cI, 30, .inl ftc)), (nw, .inr (7, [.ref nwc])), (nwc, .inl (cI, 41, .inl fn)), (t, .inr (8, [.int t0, .int t1, .int t2, .int t3, .int t4, .ref ta, .ref tb, .ref tc, .ref td, .ref te])), (pr, .inr (3, [.ref pra, .ref prb, .ref prc])), (pra, .inl (cI, 36, .inl w30xm5)), (prb, .inl (cI, 64, .inl o_29)), (prc, .inl (cI, 64, .inl o_30))] H := hP
            have hD : va_D A [(h, .inr (9, [.ref x, .int q1, .int q2, .ref rd, .ref t, .ref d, .ref nw, .ref ps, .ref im, .ref is_, .int q10, .ref bk, .int q12, .ref qr, .ref pr, .ref cv, .ref ft])), (qr, .inr (4, [.int w30xm0, .int w30xm1, .int w30xm2, .int w30xm3, .int w30xm4])), (ta, .inl (cI, 6, .inl fta)), (tc, .inl (cI, 30, .inl ftc)), (nw, .inr (7, [.ref nwc])), (nwc, .inl (cI, 41, .inl fn)), (t, .inr (8, [.int t0, .int t1, .int t2, .int t3, .int t4, .ref ta, .ref tb, .ref tc, .ref td, .ref te])), (pr, .inr (3, [.ref pra, .ref prb, .ref prc])), (pra, .inl (cI, 36, .inl w30xm5)), (prb, .inl (cI, 64, .inl o_29)), (prc, .inl (cI, 64, .inl o_30))] := hD
            refine lv_iload_n hx hb dX9_who_94 rfl (lv_at hl 3 rfl) ?_
            refine lv_iconst (v := (-1)) hx hb dX9_who_95 rfl ?_
            refine lv_icmp_ne (tgt := 109) hx hb dX9_who_96 rfl (fun c_31 => ?_) (fun c_31 => ?_)
            · rw [if_neg c_31] at hE
              refine lv_aload_n hx hb dX9_who_109 rfl (lv_at hl 1 rfl) ?_
              refine va_get (D := D) (ci := 9) (v := .ref pr) (C := RX9) (T := TX9) (N := 17) hx hb hts iX9 hown hK hP 0 rfl rfl 14 (Nat.le_of_ble_eq_true rfl) (hts _ wd_126) (fun _ h9 => h9) rfl dX9_who_110 ?_
              refine lv_iload_n hx hb dX9_who_113 rfl (lv_at hl 3 rfl) ?_
              refine cVi (wr := [(h, .inr (9, [.ref x, .int q1, .int q2, .ref rd, .ref t, .ref d, .ref nw, .ref ps, .ref im, .ref is_, .int q10, .ref bk, .int q12, .ref qr, .ref pr, .ref cv, .ref ft])), (qr, .inr (4, [.int w30xm0, .int w30xm1, .int w30xm2, .int w30xm3, .int w30xm4])), (ta, .inl (cI, 6, .inl fta)), (tc, .inl (cI, 30, .inl ftc)), (nw, .inr (7, [.ref nwc])), (nwc, .inl (cI, 41, .inl fn)), (t, .inr (8, [.int t0, .int t1, .int t2, .int t3, .int t4, .ref ta, .ref tb, .ref tc, .ref td, .ref te])), (pra, .inl (cI, 36, .inl w30xm5)), (prb, .inl (cI, 64, .inl o_29))]) (rest := []) (e_coupleOf_x3 pr pra prb prc o_30 b_) okV_X3_coupleOf wd_459 hx hb hml hown hts hK hP hD hS hA hN hl.1 [7, 10] [0, 1, 2, 3, 4, 5, 6, 8, 9] rfl rfl rfl rfl (of_decide_eq_true rfl) rfl rfl rfl (Nat.le_of_ble_eq_true rfl) (Nat.le_of_ble_eq_true rfl) (Nat.le_of_ble_eq_true rfl) (Nat.le_of_ble_eq_true rfl) (Nat.le_of_ble_eq_true rfl) dX9_who_114 (fun r_33 u_32 H locs hw_u_32 hP hD hS => ?_)
              replace hw_u_32 : r_33 = (f_e_coupleOf_x3 o_30 b_) := hw_u_32
              rw [hw_u_32]
              clear hw_u_32
              have hP : va_P D classes [(h, .inr (9, [.ref x, .int q1, .int q2, .ref rd, .ref t, .ref d, .ref nw, .ref ps, .ref im, .ref is_, .int q10, .ref bk, .int q12, .ref qr, .ref pr, .ref cv, .ref ft])), (qr, .inr (4, [.int w30xm0, .int w30xm1, .int w30xm2, .int w30xm3, .int w30xm4])), (ta, .inl (cI, 6, .inl fta)), (tc, .inl (cI, 30, .inl ftc)), (nw, .inr (7, [.ref nwc])), (nwc, .inl (cI, 41, .inl fn)), (t, .inr (8, [.int t0, .int t1, .int t2, .int t3, .int t4, .ref ta, .ref tb, .ref tc, .ref td, .ref te])), (pra, .inl (cI, 36, .inl w30xm5)), (prb, .inl (cI, 64, .inl o_29)), (pr, .inr (3, [.ref pra, .ref prb, .ref prc])), (prc, .inl (cI, 64, .inl o_30))] H := hP
              have hD : va_D A [(h, .inr (9, [.ref x, .int q1, .int q2, .ref rd, .ref t, .ref d, .ref nw, .ref ps, .ref im, .ref is_, .int q10, .ref bk, .int q12, .ref qr, .ref pr, .ref cv, .ref ft])), (qr, .inr (4, [.int w30xm0, .int w30xm1, .int w30xm2, .int w30xm3, .int w30xm4])), (ta, .inl (cI, 6, .inl fta)), (tc, .inl (cI, 30, .inl ftc)), (nw, .inr (7, [.ref nwc])), (nwc, .inl (cI, 41, .inl fn)), (t, .inr (8, [.int t0, .int t1, .int t2, .int t3, .int t4, .ref ta, .ref tb, .ref tc, .ref td, .ref te])), (pra, .inl (cI, 36, .inl w30xm5)), (prb, .inl (cI, 64, .inl o_29)), (pr, .inr (3, [.ref pra, .ref prb, .ref prc])), (prc, .inl (cI, 64, .inl o_30))] := hD
              exact hret (f_e_coupleOf_x3 o_30 b_) (w30xm0, w30xm1, w30xm2, w30xm3, w30xm4, w30xm5, o_29, o_30) _ _ _ _ dX9_who_117 rfl hE (cutP (isC := [0, 1, 6, 2, 3, 4, 5, 9, 7, 8, 10]) hP rfl) (cutD (isC := [0, 1, 6, 2, 3, 4, 5, 9, 7, 8, 10]) hD rfl rfl) hS
            · rw [if_pos c_31] at hE
              refine lv_aload_n hx hb dX9_who_99 rfl (lv_at hl 1 rfl) ?_
              refine va_get (D := D) (ci := 9) (v := .ref pr) (C := RX9) (T := TX9) (N := 17) hx hb hts iX9 hown hK hP 0 rfl rfl 14 (Nat.le_of_ble_eq_true rfl) (hts _ wd_126) (fun _ h9 => h9) rfl dX9_who_100 ?_
              refine cVi (wr := [(h, .inr (9, [.ref x, .int q1, .int q2, .ref rd, .ref t, .ref d, .ref nw, .ref ps, .ref im, .ref is_, .int q10, .ref bk, .int q12, .ref qr, .ref pr, .ref cv, .ref ft])), (qr, .inr (4, [.int w30xm0, .int w30xm1, .int w30xm2, .int w30xm3, .int w30xm4])), (ta, .inl (cI, 6, .inl fta)), (tc, .inl (cI, 30, .inl ftc)), (nw, .inr (7, [.ref nwc])), (nwc, .inl (cI, 41, .inl fn)), (t, .inr (8, [.int t0, .int t1, .int t2, .int t3, .int t4, .ref ta, .ref tb, .ref tc, .ref td, .ref te])), (pra, .inl (cI, 36, .inl w30xm5)), (prc, .inl (cI, 64, .inl o_30))]) (rest := []) (e_cost_x3 pr pra prb prc o_29) okV_X3_cost wd_463 hx hb hml hown hts hK hP hD hS hA hN hl.1 [7, 9] [0, 1, 2, 3, 4, 5, 6, 8, 10] rfl rfl rfl rfl (of_decide_eq_true rfl) rfl rfl rfl (Nat.le_of_ble_eq_true rfl) (Nat.le_of_ble_eq_true rfl) (Nat.le_of_ble_eq_true rfl) (Nat.le_of_ble_eq_true rfl) (Nat.le_of_ble_eq_true rfl) dX9_who_103 (fun r_35 u_34 H locs hw_u_34 hP hD hS => ?_)
              replace hw_u_34 : r_35 = (f_e_cost_x3 o_29) := hw_u_34
              rw [hw_u_34]
              clear hw_u_34
              have hP : va_P D classes [(h, .inr (9, [.ref x, .int q1, .int q2, .ref rd, .ref t, .ref d, .ref nw, .ref ps, .ref im, .ref is_, .int q10, .ref bk, .int q12, .ref qr, .ref pr, .ref cv, .ref ft])), (qr, .inr (4, [.int w30xm0, .int w30xm1, .int w30xm2, .int w30xm3, .int w30xm4])), (ta, .inl (cI, 6, .inl fta)), (tc, .inl (cI, 30, .inl ftc)), (nw, .inr (7, [.ref nwc])), (nwc, .inl (cI, 41, .inl fn)), (t, .inr (8, [.int t0, .int t1, .int t2, .int t3, .int t4, .ref ta, .ref tb, .ref tc, .ref td, .ref te])), (pra, .inl (cI, 36, .inl w30xm5)), (prc, .inl (cI, 64, .inl o_30)), (pr, .inr (3, [.ref pra, .ref prb, .ref prc])), (prb, .inl (cI, 64, .inl o_29))] H := hP
              have hD : va_D A [(h, .inr (9, [.ref x, .int q1, .int q2, .ref rd, .ref t, .ref d, .ref nw, .ref ps, .ref im, .ref is_, .int q10, .ref bk, .int q12, .ref qr, .ref pr, .ref cv, .ref ft])), (qr, .inr (4, [.int w30xm0, .int w30xm1, .int w30xm2, .int w30xm3, .int w30xm4])), (ta, .inl (cI, 6, .inl fta)), (tc, .inl (cI, 30, .inl ftc)), (nw, .inr (7, [.ref nwc])), (nwc, .inl (cI, 41, .inl fn)), (t, .inr (8, [.int t0, .int t1, .int t2, .int t3, .int t4, .ref ta, .ref tb, .ref tc, .ref td, .ref te])), (pra, .inl (cI, 36, .inl w30xm5)), (prc, .inl (cI, 64, .inl o_30)), (pr, .inr (3, [.ref pra, .ref prb, .ref prc])), (prb, .inl (cI, 64, .inl o_29))] := hD
              refine lv_goto (tgt := 117) hx hb dX9_who_106 rfl ?_
              exact hret (f_e_cost_x3 o_29) (w30xm0, w30xm1, w30xm2, w30xm3, w30xm4, w30xm5, o_29, o_30) _ _ _ _ dX9_who_117 rfl hE (cutP (isC := [0, 1, 6, 2, 3, 4, 5, 9, 7, 10, 8]) hP rfl) (cutD (isC := [0, 1, 6, 2, 3, 4, 5, 9, 7, 10, 8]) hD rfl rfl) hS
          have lp_30_w30x : ∀ (n_w30x : Nat) (w30xl3 : Int32) (w30xm0 : Int32) (w30xm1 : Int32) (w30xm2 : Int32) (w30xm3 : Int32) (w30xm4 : Int32) (w30xm5 : (Nat → Int32)) (w30xm6 : (Nat → Int32)) (w30xm7 : (Nat → Int32)) (H : Heap) (locs : List Loc) (ls : Array Slot), va_P D classes [(h, .inr (9, [.ref x, .int q1, .int q2, .ref rd, .ref t, .ref d, .ref nw, .ref ps, .ref im, .ref is_, .int q10, .ref bk, .int q12, .ref qr, .ref pr, .ref cv, .ref ft])), (qr, .inr (4, [.int w30xm0, .int w30xm1, .int w30xm2, .int w30xm3, .int w30xm4])), (ta, .inl (cI, 6, .inl fta)), (tc, .inl (cI, 30, .inl ftc)), (nw, .inr (7, [.ref nwc])), (nwc, .inl (cI, 41, .inl fn)), (pr, .inr (3, [.ref pra, .ref prb, .ref prc])), (pra, .inl (cI, 36, .inl w30xm5)), (prb, .inl (cI, 64, .inl w30xm6)), (prc, .inl (cI, 64, .inl w30xm7)), (t, .inr (8, [.int t0, .int t1, .int t2, .int t3, .int t4, .ref ta, .ref tb, .ref tc, .ref td, .ref te]))] H → va_D A [(h, .inr (9, [.ref x, .int q1, .int q2, .ref rd, .ref t, .ref d, .ref nw, .ref ps, .ref im, .ref is_, .int q10, .ref bk, .int q12, .ref qr, .ref pr, .ref cv, .ref ft])), (qr, .inr (4, [.int w30xm0, .int w30xm1, .int w30xm2, .int w30xm3, .int w30xm4])), (ta, .inl (cI, 6, .inl fta)), (tc, .inl (cI, 30, .inl ftc)), (nw, .inr (7, [.ref nwc])), (nwc, .inl (cI, 41, .inl fn)), (pr, .inr (3, [.ref pra, .ref prb, .ref prc])), (pra, .inl (cI, 36, .inl w30xm5)), (prb, .inl (cI, 64, .inl w30xm6)), (prc, .inl (cI, 64, .inl w30xm7)), (t, .inr (8, [.int t0, .int t1, .int t2, .int t3, .int t4, .ref ta, .ref tb, .ref tc, .ref td, .ref te]))] → va_S A s.heap H locs → lv_has ls 5 [(3, .int w30xl3), (0, .ref h), (1, .int m_), (2, .int b_)] → ((m_ : Int32).toInt + 1 - (w30xl3 : Int32).toInt).toNat < n_w30x → (match (f_e_who_x9_30 q1 q2 q10 q12 k0 k1 k2 k3 k4 t0 t1 t2 t3 t4 fta ftc fn fpa fpb fpc m_ b_ n_w30x w30xl3 w30xm0 w30xm1 w30xm2 w30xm3 w30xm4 w30xm5 w30xm6 w30xm7) with | (w30xl3, w30xm0, w30xm1, w30xm2, w30xm3, w30xm4, w30xm5, w30xm6, w30xm7) => (match (f_e_solve_x3 w30xm5 w30xm6 w30xm7 m_ t2) with | (o_29, o_30) => (if b_ = (-1) then ((f_e_cost_x3 o_29), w30xm0, w30xm1, w30xm2, w30xm3, w30xm4, w30xm5, o_29, o_30) else ((f_e_coupleOf_x3 o_30 b_), w30xm0, w30xm1, w30xm2, w30xm3, w30xm4, w30xm5, o_29, o_30)))) = RES → W p l e rm_e_who_x9 s m args below meth c H locs 0 0 Q (F0 m 30 ls []) := by
            intro n_w30x
            induction n_w30x with
            | zero => intro w30xl3 w30xm0 w30xm1 w30xm2 w30xm3 w30xm4 w30xm5 w30xm6 w30xm7 H locs ls hP hD hS hl hm; exact absurd hm (Nat.not_lt_zero _)
            | succ n_w30x ih_w30x =>
              intro w30xl3 w30xm0 w30xm1 w30xm2 w30xm3 w30xm4 w30xm5 w30xm6 w30xm7 H locs ls hP hD hS hl hm hE
              rw [f_e_who_x9_30_s] at hE
              refine lv_iload_n hx hb dX9_who_30 rfl (lv_at hl 0 rfl) ?_
              refine lv_iload_n hx hb dX9_who_31 rfl (lv_at hl 2 rfl) ?_
              refine lv_icmp_gt (tgt := 79) hx hb dX9_who_32 rfl (fun c_36 => ?_) (fun c_36 => ?_)
              · rw [if_pos c_36] at hE
                exact ex_30_w30x w30xl3 w30xm0 w30xm1 w30xm2 w30xm3 w30xm4 w30xm5 w30xm6 w30xm7 _ _ ls hP hD hS (lv_sub hl [0, 1, 2, 3] rfl) hE
              · rw [if_neg c_36] at hE
                refine lv_iconst (v := 0) hx hb dX9_who_35 rfl ?_
                refine lv_istore (lv' := [(4, .int 0), (3, .int w30xl3), (0, .ref h), (1, .int m_), (2, .int b_)]) hx hb dX9_who_36 hl (Nat.le_of_ble_eq_true rfl) rfl (fun ls hl => ?_)
                have ex_38_w38x : ∀ (w38xl4 : Int32) (w38xm0 : Int32) (w38xm1 : Int32) (w38xm2 : Int32) (w38xm3 : Int32) (w38xm4 : Int32) (w38xm5 : (Nat → Int32)) (w38xm6 : (Nat → Int32)) (w38xm7 : (Nat → Int32)) (H : Heap) (locs : List Loc) (ls : Array Slot), va_P D classes [(h, .inr (9, [.ref x, .int q1, .int q2, .ref rd, .ref t, .ref d, .ref nw, .ref ps, .ref im, .ref is_, .int q10, .ref bk, .int q12, .ref qr, .ref pr, .ref cv, .ref ft])), (qr, .inr (4, [.int w38xm0, .int w38xm1, .int w38xm2, .int w38xm3, .int w38xm4])), (ta, .inl (cI, 6, .inl fta)), (tc, .inl (cI, 30, .inl ftc)), (nw, .inr (7, [.ref nwc])), (nwc, .inl (cI, 41, .inl fn)), (pr, .inr (3, [.ref pra, .ref prb, .ref prc])), (pra, .inl (cI, 36, .inl w38xm5)), (prb, .inl (cI, 64, .inl w38xm6)), (prc, .inl (cI, 64, .inl w38xm7)), (t, .inr (8, [.int t0, .int t1, .int t2, .int t3, .int t4, .ref ta, .ref tb, .ref tc, .ref td, .ref te]))] H → va_D A [(h, .inr (9, [.ref x, .int q1, .int q2, .ref rd, .ref t, .ref d, .ref nw, .ref ps, .ref im, .ref is_, .int q10, .ref bk, .int q12, .ref qr, .ref pr, .ref cv, .ref ft])), (qr, .inr (4, [.int w38xm0, .int w38xm1, .int w38xm2, .int w38xm3, .int w38xm4])), (ta, .inl (cI, 6, .inl fta)), (tc, .inl (cI, 30, .inl ftc)), (nw, .inr (7, [.ref nwc])), (nwc, .inl (cI, 41, .inl fn)), (pr, .inr (3, [.ref pra, .ref prb, .ref prc])), (pra, .inl (cI, 36, .inl w38xm5)), (prb, .inl (cI, 64, .inl w38xm6)), (prc, .inl (cI, 64, .inl w38xm7)), (t, .inr (8, [.int t0, .int t1, .int t2, .int t3, .int t4, .ref ta, .ref tb, .ref tc, .ref td, .ref te]))] → va_S A s.heap H locs → lv_has ls 5 [(4, .int w38xl4), (3, .int w30xl3), (0, .ref h), (1, .int m_), (2, .int b_)] → ((match (f_e_who_x9_30 q1 q2 q10 q12 k0 k1 k2 k3 k4 t0 t1 t2 t3 t4 fta ftc fn fpa fpb fpc m_ b_ n_w30x (w30xl3 + 1) w38xm0 w38xm1 w38xm2 w38xm3 w38xm4 w38xm5 w38xm6 w38xm7) with | (w30xl3, w30xm0, w30xm1, w30xm2, w30xm3, w30xm4, w30xm5, w30xm6, w30xm7) => (match (f_e_solve_x3 w30xm5 w30xm6 w30xm7 m_ t2) with | (o_29, o_30) => (if b_ = (-1) then ((f_e_cost_x3 o_29), w30xm0, w30xm1, w30xm2, w30xm3, w30xm4, w30xm5, o_29, o_30) else ((f_e_coupleOf_x3 o_30 b_), w30xm0, w30xm1, w30xm2, w30xm3, w30xm4, w30xm5, o_29, o_30))))) = RES → W p l e rm_e_who_x9 s m args below meth c H locs 0 0 Q (F0 m 73 ls []) := by
                  intro w38xl4 w38xm0 w38xm1 w38xm2 w38xm3 w38xm4 w38xm5 w38xm6 w38xm7 H locs ls hP hD hS hl hE
                  refine lv_iinc (v := (w30xl3 + 1)) (lv' := [(3, .int (w30xl3 + 1)), (4, .int w38xl4), (0, .ref h), (1, .int m_), (2, .int b_)]) hx hb dX9_who_73 hl (k := 1) rfl rfl (Nat.le_of_ble_eq_true rfl) rfl (fun ls hl => ?_)
                  refine lv_goto (tgt := 30) hx hb dX9_who_76 rfl ?_
                  exact ih_w30x (w30xl3 + 1) w38xm0 w38xm1 w38xm2 w38xm3 w38xm4 w38xm5 w38xm6 w38xm7 _ _ ls hP hD hS (lv_sub hl [0, 2, 3, 4] rfl) (le_step (hb_lt c_3) c_36 hm) hE
                have lp_38_w38x : ∀ (n_w38x : Nat) (w38xl4 : Int32) (w38xm0 : Int32) (w38xm1 : Int32) (w38xm2 : Int32) (w38xm3 : Int32) (w38xm4 : Int32) (w38xm5 : (Nat → Int32)) (w38xm6 : (Nat → Int32)) (w38xm7 : (Nat → Int32)) (H : Heap) (locs : List Loc) (ls : Array Slot), va_P D classes [(h, .inr (9, [.ref x, .int q1, .int q2, .ref rd, .ref t, .ref d, .ref nw, .ref ps, .ref im, .ref is_, .int q10, .ref bk, .int q12, .ref qr, .ref pr, .ref cv, .ref ft])), (qr, .inr (4, [.int w38xm0, .int w38xm1, .int w38xm2, .int w38xm3, .int w38xm4])), (ta, .inl (cI, 6, .inl fta)), (tc, .inl (cI, 30, .inl ftc)), (nw, .inr (7, [.ref nwc])), (nwc, .inl (cI, 41, .inl fn)), (pr, .inr (3, [.ref pra, .ref prb, .ref prc])), (pra, .inl (cI, 36, .inl w38xm5)), (prb, .inl (cI, 64, .inl w38xm6)), (prc, .inl (cI, 64, .inl w38xm7)), (t, .inr (8, [.int t0, .int t1, .int t2, .int t3, .int t4, .ref ta, .ref tb, .ref tc, .ref td, .ref te]))] H → va_D A [(h, .inr (9, [.ref x, .int q1, .int q2, .ref rd, .ref t, .ref d, .ref nw, .ref ps, .ref im, .ref is_, .int q10, .ref bk, .int q12, .ref qr, .ref pr, .ref cv, .ref ft])), (qr, .inr (4, [.int w38xm0, .int w38xm1, .int w38xm2, .int w38xm3, .int w38xm4])), (ta, .inl (cI, 6, .inl fta)), (tc, .inl (cI, 30, .inl ftc)), (nw, .inr (7, [.ref nwc])), (nwc, .inl (cI, 41, .inl fn)), (pr, .inr (3, [.ref pra, .ref prb, .ref prc])), (pra, .inl (cI, 36, .inl w38xm5)), (prb, .inl (cI, 64, .inl w38xm6)), (prc, .inl (cI, 64, .inl w38xm7)), (t, .inr (8, [.int t0, .int t1, .int t2, .int t3, .int t4, .ref ta, .ref tb, .ref tc, .ref td, .ref te]))] → va_S A s.heap H locs → lv_has ls 5 [(4, .int w38xl4), (3, .int w30xl3), (0, .ref h), (1, .int m_), (2, .int b_)] → ((t2 : Int32).toInt - (w38xl4 : Int32).toInt).toNat < n_w38x → (match (match (f_e_who_x9_38 q1 q2 q10 q12 k0 k1 k2 k3 k4 t0 t1 t2 t3 t4 fta ftc fn fpa fpb fpc m_ b_ w30xl3 n_w38x w38xl4 w38xm0 w38xm1 w38xm2 w38xm3 w38xm4 w38xm5 w38xm6 w38xm7) with | (w38xl4, w38xm0, w38xm1, w38xm2, w38xm3, w38xm4, w38xm5, w38xm6, w38xm7) => (f_e_who_x9_30 q1 q2 q10 q12 k0 k1 k2 k3 k4 t0 t1 t2 t3 t4 fta ftc fn fpa fpb fpc m_ b_ n_w30x (w30xl3 + 1) w38xm0 w38xm1 w38xm2 w38xm3 w38xm4 w38xm5 w38xm6 w38xm7)) with | (w30xl3, w30xm0, w30xm1, w30xm2, w30xm3, w30xm4, w30xm5, w30xm6, w30xm7) => (match (f_e_solve_x3 w30xm5 w30xm6 w30xm7 m_ t2) with | (o_29, o_30) => (if b_ = (-1) then ((f_e_cost_x3 o_29), w30xm0, w30xm1, w30xm2, w30xm3, w30xm4, w30xm5, o_29, o_30) else ((f_e_coupleOf_x3 o_30 b_), w30xm0, w30xm1, w30xm2, w30xm3, w30xm4, w30xm5, o_29, o_30)))) = RES → W p l e rm_e_who_x9 s m args below meth c H locs 0 0 Q (F0 m 38 ls []) := by
                  intro n_w38x
                  induction n_w38x with
                  | zero => intro w38xl4 w38xm0 w38xm1 w38xm2 w38xm3 w38xm4 w38xm5 w38xm6 w38xm7 H locs ls hP hD hS hl hm; exact absurd hm (Nat.not_lt_zero _)
                  | succ n_w38x ih_w38x =>
                    intro w38xl4 w38xm0 w38xm1 w38xm2 w38xm3 w38xm4 w38xm5 w38xm6 w38xm7 H locs ls hP hD hS hl hm hE
                    rw [f_e_who_x9_38_s] at hE
                    refine lv_iload hx hb dX9_who_38 (lv_at hl 0 rfl) ?_
                    refine lv_aload_n hx hb dX9_who_40 rfl (lv_at hl 2 rfl) ?_
                    refine va_get (D := D) (ci := 9) (v := .ref t) (C := RX9) (T := TX9) (N := 17) hx hb hts iX9 hown hK hP 0 rfl rfl 4 (Nat.le_of_ble_eq_true rfl) (hts _ wd_89) (fun _ h9 => h9) rfl dX9_who_41 ?_
                    refine va_get (D := D) (ci := 8) (v := .int t2) (C := RX8) (T := TX8) (N := 10) hx hb hts iX8 hown hK hP 10 rfl rfl 2 (Nat.le_of_ble_eq_true rfl) (hts _ wd_373) (fun _ h9 => h9) rfl dX9_who_44 ?_
                    refine lv_icmp_ge (tgt := 73) hx hb dX9_who_47 rfl (fun c_37 => ?_) (fun c_37 => ?_)
                    · rw [if_pos c_37] at hE
                      exact ex_38_w38x w38xl4 w38xm0 w38xm1 w38xm2 w38xm3 w38xm4 w38xm5 w38xm6 w38xm7 _ _ ls hP hD hS (lv_sub hl [0, 1, 2, 3, 4] rfl) hE
                    · rw [if_neg c_37] at hE
                      refine lv_aload_n hx hb dX9_who_50 rfl (lv_at hl 2 rfl) ?_
                      refine va_get (D := D) (ci := 9) (v := .ref pr) (C := RX9) (T := TX9) (N := 17) hx hb hts iX9 hown hK hP 0 rfl rfl 14 (Nat.le_of_ble_eq_true rfl) (hts _ wd_126) (fun _ h9 => h9) rfl dX9_who_51 ?_
                      refine lv_iload_n hx hb dX9_who_54 rfl (lv_at hl 1 rfl) ?_
                      refine lv_iload hx hb dX9_who_55 (lv_at hl 0 rfl) ?_
                      refine lv_aload_n hx hb dX9_who_57 rfl (lv_at hl 2 rfl) ?_
                      refine lv_iload hx hb dX9_who_58 (lv_at hl 0 rfl) ?_
                      refine lv_iload_n hx hb dX9_who_60 rfl (lv_at hl 1 rfl) ?_
                      refine cVi (wr := [(pr, .inr (3, [.ref pra, .ref prb, .ref prc])), (pra, .inl (cI, 36, .inl w38xm5)), (prb, .inl (cI, 64, .inl w38xm6)), (prc, .inl (cI, 64, .inl w38xm7))]) (rest := [.int w38xl4, .int w30xl3, .ref pr]) (e_costFor_x9 h x rd t d nw ps im is_ bk qr pr cv ft ta tb tc td te nwc q1 q2 q10 q12 w38xm0 w38xm1 w38xm2 w38xm3 w38xm4 t0 t1 t2 t3 t4 fta ftc fn w38xl4 w30xl3) okV_X9_costFor wd_413 hx hb hml hown hts hK hP hD hS hA hN hl.1 [0, 1, 10, 2, 3, 4, 5] [6, 7, 8, 9] rfl rfl rfl rfl (of_decide_eq_true rfl) rfl rfl rfl (Nat.le_of_ble_eq_true rfl) (Nat.le_of_ble_eq_true rfl) (Nat.le_of_ble_eq_true rfl) (Nat.le_of_ble_eq_true rfl) (Nat.le_of_ble_eq_true rfl) dX9_who_61 (fun r_39 u_38 H locs hw_u_38 hP hD hS => ?_)
                      obtain ⟨o_40, o_41, o_42, o_43, o_44⟩ := u_38
                      replace hw_u_38 : (r_39, o_40, o_41, o_42, o_43, o_44) = (f_e_costFor_x9 q1 q2 q10 q12 w38xm0 w38xm1 w38xm2 w38xm3 w38xm4 t0 t1 t2 t3 t4 fta ftc fn w38xl4 w30xl3) := hw_u_38
                      rw [← hw_u_38] at hE
                      replace hE : (match (match (f_e_who_x9_38 q1 q2 q10 q12 k0 k1 k2 k3 k4 t0 t1 t2 t3 t4 fta ftc fn fpa fpb fpc m_ b_ w30xl3 n_w38x (w38xl4 + 1) o_40 o_41 o_42 o_43 o_44 (f_e_ask_x3 w38xm5 w30xl3 w38xl4 r_39) w38xm6 w38xm7) with | (w38xl4, w38xm0, w38xm1, w38xm2, w38xm3, w38xm4, w38xm5, w38xm6, w38xm7) => (f_e_who_x9_30 q1 q2 q10 q12 k0 k1 k2 k3 k4 t0 t1 t2 t3 t4 fta ftc fn fpa fpb fpc m_ b_ n_w30x (w30xl3 + 1) w38xm0 w38xm1 w38xm2 w38xm3 w38xm4 w38xm5 w38xm6 w38xm7)) with | (w30xl3, w30xm0, w30xm1, w30xm2, w30xm3, w30xm4, w30xm5, w30xm6, w30xm7) => (match (f_e_solve_x3 w30xm5 w30xm6 w30xm7 m_ t2) with | (o_29, o_30) => (if b_ = (-1) then ((f_e_cost_x3 o_29), w30xm0, w30xm1, w30xm2, w30xm3, w30xm4, w30xm5, o_29, o_30) else ((f_e_coupleOf_x3 o_30 b_), w30xm0, w30xm1, w30xm2, w30xm3, w30xm4, w30xm5, o_29, o_30)))) = RES := hE
                      have hP : va_P D classes [(pr, .inr (3, [.ref pra, .ref prb, .ref prc])), (pra, .inl (cI, 36, .inl w38xm5)), (prb, .inl (cI, 64, .inl w38xm6)), (prc, .inl (cI, 64, .inl w38xm7)), (h, .inr (9, [.ref x, .int q1, .int q2, .ref rd, .ref t, .ref d, .ref nw, .ref ps, .ref im, .ref is_, .int q10, .ref bk, .int q12, .ref qr, .ref pr, .ref cv, .ref ft])), (qr, .inr (4, [.int o_40, .int o_41, .int o_42, .int o_43, .int o_44])), (t, .inr (8, [.int t0, .int t1, .int t2, .int t3, .int t4, .ref ta, .ref tb, .ref tc, .ref td, .ref te])), (ta, .inl (cI, 6, .inl fta)), (tc, .inl (cI, 30, .inl ftc)), (nw, .inr (7, [.ref nwc])), (nwc, .inl (cI, 41, .inl fn))] H := hP
                      have hD : va_D A [(pr, .inr (3, [.ref pra, .ref prb, .ref prc])), (pra, .inl (cI, 36, .inl w38xm5)), (prb, .inl (cI, 64, .inl w38xm6)), (prc, .inl (cI, 64, .inl w38xm7)), (h, .inr (9, [.ref x, .int q1, .int q2, .ref rd, .ref t, .ref d, .ref nw, .ref ps, .ref im, .ref is_, .int q10, .ref bk, .int q12, .ref qr, .ref pr, .ref cv, .ref ft])), (qr, .inr (4, [.int o_40, .int o_41, .int o_42, .int o_43, .int o_44])), (t, .inr (8, [.int t0, .int t1, .int t2, .int t3, .int t4, .ref ta, .ref tb, .ref tc, .ref td, .ref te])), (ta, .inl (cI, 6, .inl fta)), (tc, .inl (cI, 30, .inl ftc)), (nw, .inr (7, [.ref nwc])), (nwc, .inl (cI, 41, .inl fn))] := hD
                      refine cVv (wr := [(prb, .inl (cI, 64, .inl w38xm6)), (prc, .inl (cI, 64, .inl w38xm7)), (h, .inr (9, [.ref x, .int q1, .int q2, .ref rd, .ref t, .ref d, .ref nw, .ref ps, .ref im, .ref is_, .int q10, .ref bk, .int q12, .ref qr, .ref pr, .ref cv, .ref ft])), (qr, .inr (4, [.int o_40, .int o_41, .int o_42, .int o_43, .int o_44])), (t, .inr (8, [.int t0, .int t1, .int t2, .int t3, .int t4, .ref ta, .ref tb, .ref tc, .ref td, .ref te])), (ta, .inl (cI, 6, .inl fta)), (tc, .inl (cI, 30, .inl ftc)), (nw, .inr (7, [.ref nwc])), (nwc, .inl (cI, 41, .inl fn))]) (rest := []) (e_ask_x3 pr pra prb prc w38xm5 w30xl3 w38xl4 r_39) okV_X3_ask wd_467 hx hb hml hown hts hK hP hD hS hA hN hl.1 [0, 1] [2, 3, 4, 5, 6, 7, 8, 9, 10] rfl rfl rfl rfl (of_decide_eq_true rfl) rfl rfl rfl (Nat.le_of_ble_eq_true rfl) (Nat.le_of_ble_eq_true rfl) (Nat.le_of_ble_eq_true rfl) (Nat.le_of_ble_eq_true rfl) (Nat.le_of_ble_eq_true rfl) dX9_who_64 (fun u_45 H locs hw_u_45 hP hD hS => ?_)
                      replace hw_u_45 : u_45 = (f_e_ask_x3 w38xm5 w30xl3 w38xl4 r_39) := hw_u_45
                      subst hw_u_45
                      have hP : va_P D classes [(prb, .inl (cI, 64, .inl w38xm6)), (prc, .inl (cI, 64, .inl w38xm7)), (h, .inr (9, [.ref x, .int q1, .int q2, .ref rd, .ref t, .ref d, .ref nw, .ref ps, .ref im, .ref is_, .int q10, .ref bk, .int q12, .ref qr, .ref pr, .ref cv, .ref ft])), (qr, .inr (4, [.int o_40, .int o_41, .int o_42, .int o_43, .int o_44])), (t, .inr (8, [.int t0, .int t1, .int t2, .int t3, .int t4, .ref ta, .ref tb, .ref tc, .ref td, .ref te])), (ta, .inl (cI, 6, .inl fta)), (tc, .inl (cI, 30, .inl ftc)), (nw, .inr (7, [.ref nwc])), (nwc, .inl (cI, 41, .inl fn)), (pr, .inr (3, [.ref pra, .ref prb, .ref prc])), (pra, .inl (cI, 36, .inl (f_e_ask_x3 w38xm5 w30xl3 w38xl4 r_39)))] H := hP
                      have hD : va_D A [(prb, .inl (cI, 64, .inl w38xm6)), (prc, .inl (cI, 64, .inl w38xm7)), (h, .inr (9, [.ref x, .int q1, .int q2, .ref rd, .ref t, .ref d, .ref nw, .ref ps, .ref im, .ref is_, .int q10, .ref bk, .int q12, .ref qr, .ref pr, .ref cv, .ref ft])), (qr, .inr (4, [.int o_40, .int o_41, .int o_42, .int o_43, .int o_44])), (t, .inr (8, [.int t0, .int t1, .int t2, .int t3, .int t4, .ref ta, .ref tb, .ref tc, .ref td, .ref te])), (ta, .inl (cI, 6, .inl fta)), (tc, .inl (cI, 30, .inl ftc)), (nw, .inr (7, [.ref nwc])), (nwc, .inl (cI, 41, .inl fn)), (pr, .inr (3, [.ref pra, .ref prb, .ref prc])), (pra, .inl (cI, 36, .inl (f_e_ask_x3 w38xm5 w30xl3 w38xl4 r_39)))] := hD
                      refine lv_iinc (v := (w38xl4 + 1)) (lv' := [(4, .int (w38xl4 + 1)), (3, .int w30xl3), (0, .ref h), (1, .int m_), (2, .int b_)]) hx hb dX9_who_67 hl (k := 0) rfl rfl (Nat.le_of_ble_eq_true rfl) rfl (fun ls hl => ?_)
                      refine lv_goto (tgt := 38) hx hb dX9_who_70 rfl ?_
                      exact ih_w38x (w38xl4 + 1) o_40 o_41 o_42 o_43 o_44 (f_e_ask_x3 w38xm5 w30xl3 w38xl4 r_39) w38xm6 w38xm7 _ _ ls (cutP (isC := [2, 3, 5, 6, 7, 8, 9, 10, 0, 1, 4]) hP rfl) (cutD (isC := [2, 3, 5, 6, 7, 8, 9, 10, 0, 1, 4]) hD rfl rfl) hS (lv_sub hl [0, 1, 2, 3, 4] rfl) (up_step c_37 hm) hE
                exact lp_38_w38x (((t2 : Int32).toInt - (0 : Int32).toInt).toNat + 1) 0 w30xm0 w30xm1 w30xm2 w30xm3 w30xm4 w30xm5 w30xm6 w30xm7 _ _ ls hP hD hS hl (Nat.lt_succ_self _) hE
          exact lp_30_w30x (((m_ : Int32).toInt + 1 - (0 : Int32).toInt).toNat + 1) 0 k0 k1 k2 k3 k4 fpa fpb fpc _ _ ls hP hD hS hl (Nat.lt_succ_self _) hE
        · rw [if_neg c_26] at hE
          refine lv_ldc (v := (-1000000001)) hx hb hown (hts _ wd_346) dX9_who_25 ?_
          exact hret (-1000000001) (k0, k1, k2, k3, k4, fpa, fpb, fpc) _ _ _ _ dX9_who_27 rfl hE (cutP (isC := [0, 1, 10, 2, 3, 4, 5, 6, 7, 8, 9]) hP rfl) (cutD (isC := [0, 1, 10, 2, 3, 4, 5, 6, 7, 8, 9]) hD rfl rfl) hS
noncomputable def f_e_toldHer_x9_52 (q1 : Int32) (q2 : Int32) (q10 : Int32) (q12 : Int32) (k0 : Int32) (k1 : Int32) (k2 : Int32) (k3 : Int32) (k4 : Int32) (t0 : Int32) (t1 : Int32) (t2 : Int32) (t3 : Int32) (t4 : Int32) (fta : Nat → Int32) (ftb : Nat → Int32) (ftc : Nat → Int32) (fft : Nat → Int32) (b_ : Int32) (k_ : Int32) (i_ : Int32) (w_6l6 : Int32) (n : Nat) : Int32 → Int32 → Int32 → Int32 → Int32 → Int32 → Int32 → Int32 → (Nat → Int32) → Int32 × Int32 × Int32 × Int32 × Int32 × Int32 × Int32 × Int32 × (Nat → Int32) := Nat.rec (motive := fun _ => Int32 → Int32 → Int32 → Int32 → Int32 → Int32 → Int32 → Int32 → (Nat → Int32) → Int32 × Int32 × Int32 × Int32 × Int32 × Int32 × Int32 × Int32 × (Nat → Int32)) (fun w_14l7 w_14l5 w_14l4 w_14m0 w_14m1 w_14m2 w_14m3 w_14m4 w_14m5 => (w_14l7, w_14l5, w_14l4, w_14m0, w_14m1, w_14m2, w_14m3, w_14m4, w_14m5)) (fun n ih w_14l7 w_14l5 w_14l4 w_14m0 w_14m1 w_14m2 w_14m3 w_14m4 w_14m5 => (if t1 ≤ w_14l7 then (w_14l7, w_14l5, w_14l4, w_14m0, w_14m1, w_14m2, w_14m3, w_14m4, w_14m5) else (match (f_e_run_x4 w_14m0 w_14m1 w_14m2 w_14m3 w_14m4 (atF 6 ftb w_6l6) (f_e_forceOf_x8 t0 t1 t2 t3 t4 ftc w_6l6 w_14l7) t4 (atF 6 fta b_)) with | (o_24, o_25, o_26, o_27, o_28) => (if o_27 = 0 then (if o_28 = 0 then (ih (w_14l7 + 1) w_14l5 w_14l4 o_24 o_25 o_26 o_27 o_28 w_14m5) else (if o_24 = k_ then (ih (w_14l7 + 1) (w_14l5 ||| (1 <<< (w_14l7 &&& 31))) (w_14l4 + 1) o_24 o_25 o_26 o_27 o_28 (putF 30 w_14m5 w_14l4 ((10 * w_6l6) + w_14l7))) else (ih (w_14l7 + 1) w_14l5 w_14l4 o_24 o_25 o_26 o_27 o_28 w_14m5))) else (ih (w_14l7 + 1) w_14l5 w_14l4 o_24 o_25 o_26 o_27 o_28 w_14m5))))) n
theorem f_e_toldHer_x9_52_s (q1 : Int32) (q2 : Int32) (q10 : Int32) (q12 : Int32) (k0 : Int32) (k1 : Int32) (k2 : Int32) (k3 : Int32) (k4 : Int32) (t0 : Int32) (t1 : Int32) (t2 : Int32) (t3 : Int32) (t4 : Int32) (fta : Nat → Int32) (ftb : Nat → Int32) (ftc : Nat → Int32) (fft : Nat → Int32) (b_ : Int32) (k_ : Int32) (i_ : Int32) (w_6l6 : Int32) (n : Nat) (w_14l7 : Int32) (w_14l5 : Int32) (w_14l4 : Int32) (w_14m0 : Int32) (w_14m1 : Int32) (w_14m2 : Int32) (w_14m3 : Int32) (w_14m4 : Int32) (w_14m5 : (Nat → Int32)) : f_e_toldHer_x9_52 q1 q2 q10 q12 k0 k1 k2 k3 k4 t0 t1 t2 t3 t4 fta ftb ftc fft b_ k_ i_ w_6l6 (n + 1) w_14l7 w_14l5 w_14l4 w_14m0 w_14m1 w_14m2 w_14m3 w_14m4 w_14m5 = (if t1 ≤ w_14l7 then (w_14l7, w_14l5, w_14l4, w_14m0, w_14m1, w_14m2, w_14m3, w_14m4, w_14m5) else (match (f_e_run_x4 w_14m0 w_14m1 w_14m2 w_14m3 w_14m4 (atF 6 ftb w_6l6) (f_e_forceOf_x8 t0 t1 t2 t3 t4 ftc w_6l6 w_14l7) t4 (atF 6 fta b_)) with | (o_24, o_25, o_26, o_27, o_28) => (if o_27 = 0 then (if o_28 = 0 then (f_e_toldHer_x9_52 q1 q2 q10 q12 k0 k1 k2 k3 k4 t0 t1 t2 t3 t4 fta ftb ftc fft b_ k_ i_ w_6l6 n (w_14l7 + 1) w_14l5 w_14l4 o_24 o_25 o_26 o_27 o_28 w_14m5) else (if o_24 = k_ then (f_e_toldHer_x9_52 q1 q2 q10 q12 k0 k1 k2 k3 k4 t0 t1 t2 t3 t4 fta ftb ftc fft b_ k_ i_ w_6l6 n (w_14l7 + 1) (w_14l5 ||| (1 <<< (w_14l7 &&& 31))) (w_14l4 + 1) o_24 o_25 o_26 o_27 o_28 (putF 30 w_14m5 w_14l4 ((10 * w_6l6) + w_14l7))) else (f_e_toldHer_x9_52 q1 q2 q10 q12 k0 k1 k2 k3 k4 t0 t1 t2 t3 t4 fta ftb ftc fft b_ k_ i_ w_6l6 n (w_14l7 + 1) w_14l5 w_14l4 o_24 o_25 o_26 o_27 o_28 w_14m5))) else (f_e_toldHer_x9_52 q1 q2 q10 q12 k0 k1 k2 k3 k4 t0 t1 t2 t3 t4 fta ftb ftc fft b_ k_ i_ w_6l6 n (w_14l7 + 1) w_14l5 w_14l4 o_24 o_25 o_26 o_27 o_28 w_14m5)))) := rfl
noncomputable def f_e_toldHer_x9_37 (q1 : Int32) (q2 : Int32) (q10 : Int32) (q12 : Int32) (k0 : Int32) (k1 : Int32) (k2 : Int32) (k3 : Int32) (k4 : Int32) (t0 : Int32) (t1 : Int32) (t2 : Int32) (t3 : Int32) (t4 : Int32) (fta : Nat → Int32) (ftb : Nat → Int32) (ftc : Nat → Int32) (fft : Nat → Int32) (b_ : Int32) (k_ : Int32) (i_ : Int32) (n : Nat) : Int32 → Int32 → Int32 → Int32 → Int32 → Int32 → Int32 → Int32 → (Nat → Int32) → Int32 × Int32 × Int32 × Int32 × Int32 × Int32 × Int32 × Int32 × (Nat → Int32) := Nat.rec (motive := fun _ => Int32 → Int32 → Int32 → Int32 → Int32 → Int32 → Int32 → Int32 → (Nat → Int32) → Int32 × Int32 × Int32 × Int32 × Int32 × Int32 × Int32 × Int32 × (Nat → Int32)) (fun w_6l6 w_6l5 w_6l4 w_6m0 w_6m1 w_6m2 w_6m3 w_6m4 w_6m5 => (w_6l6, w_6l5, w_6l4, w_6m0, w_6m1, w_6m2, w_6m3, w_6m4, w_6m5)) (fun n ih w_6l6 w_6l5 w_6l4 w_6m0 w_6m1 w_6m2 w_6m3 w_6m4 w_6m5 => (if t2 ≤ w_6l6 then (w_6l6, w_6l5, w_6l4, w_6m0, w_6m1, w_6m2, w_6m3, w_6m4, w_6m5) else (match (f_e_toldHer_x9_52 q1 q2 q10 q12 k0 k1 k2 k3 k4 t0 t1 t2 t3 t4 fta ftb ftc fft b_ k_ i_ w_6l6 (((t1 : Int32).toInt - (0 : Int32).toInt).toNat + 1) 0 w_6l5 w_6l4 w_6m0 w_6m1 w_6m2 w_6m3 w_6m4 w_6m5) with | (w_14l7, w_14l5, w_14l4, w_14m0, w_14m1, w_14m2, w_14m3, w_14m4, w_14m5) => (ih (w_6l6 + 1) w_14l5 w_14l4 w_14m0 w_14m1 w_14m2 w_14m3 w_14m4 w_14m5)))) n
theorem f_e_toldHer_x9_37_s (q1 : Int32) (q2 : Int32) (q10 : Int32) (q12 : Int32) (k0 : Int32) (k1 : Int32) (k2 : Int32) (k3 : Int32) (k4 : Int32) (t0 : Int32) (t1 : Int32) (t2 : Int32) (t3 : Int32) (t4 : Int32) (fta : Nat → Int32) (ftb : Nat → Int32) (ftc : Nat → Int32) (fft : Nat → Int32) (b_ : Int32) (k_ : Int32) (i_ : Int32) (n : Nat) (w_6l6 : Int32) (w_6l5 : Int32) (w_6l4 : Int32) (w_6m0 : Int32) (w_6m1 : Int32) (w_6m2 : Int32) (w_6m3 : Int32) (w_6m4 : Int32) (w_6m5 : (Nat → Int32)) : f_e_toldHer_x9_37 q1 q2 q10 q12 k0 k1 k2 k3 k4 t0 t1 t2 t3 t4 fta ftb ftc fft b_ k_ i_ (n + 1) w_6l6 w_6l5 w_6l4 w_6m0 w_6m1 w_6m2 w_6m3 w_6m4 w_6m5 = (if t2 ≤ w_6l6 then (w_6l6, w_6l5, w_6l4, w_6m0, w_6m1, w_6m2, w_6m3, w_6m4, w_6m5) else (match (f_e_toldHer_x9_52 q1 q2 q10 q12 k0 k1 k2 k3 k4 t0 t1 t2 t3 t4 fta ftb ftc fft b_ k_ i_ w_6l6 (((t1 : Int32).toInt - (0 : Int32).toInt).toNat + 1) 0 w_6l5 w_6l4 w_6m0 w_6m1 w_6m2 w_6m3 w_6m4 w_6m5) with | (w_14l7, w_14l5, w_14l4, w_14m0, w_14m1, w_14m2, w_14m3, w_14m4, w_14m5) => (f_e_toldHer_x9_37 q1 q2 q10 q12 k0 k1 k2 k3 k4 t0 t1 t2 t3 t4 fta ftb ftc fft b_ k_ i_ n (w_6l6 + 1) w_14l5 w_14l4 w_14m0 w_14m1 w_14m2 w_14m3 w_14m4 w_14m5))) := rfl
noncomputable def f_e_toldHer_x9 (q1 : Int32) (q2 : Int32) (q10 : Int32) (q12 : Int32) (k0 : Int32) (k1 : Int32) (k2 : Int32) (k3 : Int32) (k4 : Int32) (t0 : Int32) (t1 : Int32) (t2 : Int32) (t3 : Int32) (t4 : Int32) (fta : Nat → Int32) (ftb : Nat → Int32) (ftc : Nat → Int32) (fft : Nat → Int32) (b_ : Int32) (k_ : Int32) (i_ : Int32) : Int32 × Int32 × Int32 × Int32 × Int32 × Int32 × (Nat → Int32) := (if (f_e_hasBridge t0 t1 t2 t3 t4 b_) = 0 then ((-1000000001), k0, k1, k2, k3, k4, fft) else (if k_ < 1 then ((-1000000002), k0, k1, k2, k3, k4, fft) else (if k_ ≤ 60 then (match (f_e_toldHer_x9_37 q1 q2 q10 q12 k0 k1 k2 k3 k4 t0 t1 t2 t3 t4 fta ftb ftc fft b_ k_ i_ (((t2 : Int32).toInt - (0 : Int32).toInt).toNat + 1) 0 0 0 k0 k1 k2 k3 k4 fft) with | (w_6l6, w_6l5, w_6l4, w_6m0, w_6m1, w_6m2, w_6m3, w_6m4, w_6m5) => (if i_ = (-1) then (w_6l4, w_6m0, w_6m1, w_6m2, w_6m3, w_6m4, w_6m5) else (if i_ = (-2) then (w_6l5, w_6m0, w_6m1, w_6m2, w_6m3, w_6m4, w_6m5) else (if i_ < 0 then ((-1), w_6m0, w_6m1, w_6m2, w_6m3, w_6m4, w_6m5) else (if w_6l4 ≤ i_ then ((-1), w_6m0, w_6m1, w_6m2, w_6m3, w_6m4, w_6m5) else ((atF 30 w_6m5 i_), w_6m0, w_6m1, w_6m2, w_6m3, w_6m4, w_6m5)))))) else ((-1000000002), k0, k1, k2, k3, k4, fft))))
def rm_e_toldHer_x9 : Room := { frames := 3, cells := 0, slots := 0, locals := 79 }
set_option maxHeartbeats 4000000 in
set_option maxRecDepth 100000 in
theorem e_toldHer_x9 {l : Launch} {D : va_G} {cI cZ : ClassId} {sz : Nat} (h x rd t d nw ps im is_ bk qr pr cv ft ta tb tc td te : Nat) (q1 : Int32) (q2 : Int32) (q10 : Int32) (q12 : Int32) (k0 : Int32) (k1 : Int32) (k2 : Int32) (k3 : Int32) (k4 : Int32) (t0 : Int32) (t1 : Int32) (t2 : Int32) (t3 : Int32) (t4 : Int32) (fta : Nat → Int32) (ftb : Nat → Int32) (ftc : Nat → Int32) (fft : Nat → Int32) (b_ : Int32) (k_ : Int32) (i_ : Int32) : KI l yX9_toldHer cX9_toldHer 8 (some .int) rm_e_toldHer_x9 D cI cZ [.ref h, .int b_, .int k_, .int i_] sz [(h, .inr (9, [.ref x, .int q1, .int q2, .ref rd, .ref t, .ref d, .ref nw, .ref ps, .ref im, .ref is_, .int q10, .ref bk, .int q12, .ref qr, .ref pr, .ref cv, .ref ft])), (qr, .inr (4, [.int k0, .int k1, .int k2, .int k3, .int k4])), (t, .inr (8, [.int t0, .int t1, .int t2, .int t3, .int t4, .ref ta, .ref tb, .ref tc, .ref td, .ref te])), (ta, .inl (cI, 6, .inl fta)), (tb, .inl (cI, 6, .inl ftb)), (tc, .inl (cI, 30, .inl ftc)), (ft, .inl (cI, 30, .inl fft))] (fun (r : Int32) (u : Int32 × Int32 × Int32 × Int32 × Int32 × (Nat → Int32)) => (r, u) = f_e_toldHer_x9 q1 q2 q10 q12 k0 k1 k2 k3 k4 t0 t1 t2 t3 t4 fta ftb ftc fft b_ k_ i_) (fun (u : Int32 × Int32 × Int32 × Int32 × Int32 × (Nat → Int32)) => [(h, .inr (9, [.ref x, .int q1, .int q2, .ref rd, .ref t, .ref d, .ref nw, .ref ps, .ref im, .ref is_, .int q10, .ref bk, .int q12, .ref qr, .ref pr, .ref cv, .ref ft])), (qr, .inr (4, [.int (u.1), .int (u.2.1), .int (u.2.2.1), .int (u.2.2.2.1), .int (u.2.2.2.2.1)])), (t, .inr (8, [.int t0, .int t1, .int t2, .int t3, .int t4, .ref ta, .ref tb, .ref tc, .ref td, .ref te])), (ta, .inl (cI, 6, .inl fta)), (tb, .inl (cI, 6, .inl ftb)), (tc, .inl (cI, 30, .inl ftc)), (ft, .inl (cI, 30, .inl u.2.2.2.2.2))]) := by
  refine KI.go rfl (Nat.le_of_ble_eq_true rfl) ?_
  intro p e s m args below meth c ls A Q hx hb hml hts hown hin hP hK hD hS hA hN hl hret
  have hl : lv_has ls 8 [(0, .ref h), (1, .int b_), (2, .int k_), (3, .int i_)] := hl
  obtain ⟨RES, hE⟩ : ∃ xRES, f_e_toldHer_x9 q1 q2 q10 q12 k0 k1 k2 k3 k4 t0 t1 t2 t3 t4 fta ftb ftc fft b_ k_ i_ = xRES := ⟨_, rfl⟩
  rw [hE] at hret
  rw [f_e_toldHer_x9] at hE
  refine lv_aload_n hx hb dX9_toldHer_0 rfl (lv_at hl 0 rfl) ?_
  refine va_get (D := D) (ci := 9) (v := .ref t) (C := RX9) (T := TX9) (N := 17) hx hb hts iX9 hown hK hP 0 rfl rfl 4 (Nat.le_of_ble_eq_true rfl) (hts _ wd_89) (fun _ h9 => h9) rfl dX9_toldHer_1 ?_
  refine lv_iload_n hx hb dX9_toldHer_4 rfl (lv_at hl 1 rfl) ?_
  refine cVi (wr := [(h, .inr (9, [.ref x, .int q1, .int q2, .ref rd, .ref t, .ref d, .ref nw, .ref ps, .ref im, .ref is_, .int q10, .ref bk, .int q12, .ref qr, .ref pr, .ref cv, .ref ft])), (qr, .inr (4, [.int k0, .int k1, .int k2, .int k3, .int k4])), (ta, .inl (cI, 6, .inl fta)), (tb, .inl (cI, 6, .inl ftb)), (tc, .inl (cI, 30, .inl ftc)), (ft, .inl (cI, 30, .inl fft))]) (rest := []) (e_hasBridge t ta tb tc td te t0 t1 t2 t3 t4 b_) okV_X8_hasBridge wd_342 hx hb hml hown hts hK hP hD hS hA hN hl.1 [2] [0, 1, 3, 4, 5, 6] rfl rfl rfl rfl (of_decide_eq_true rfl) rfl rfl rfl (Nat.le_of_ble_eq_true rfl) (Nat.le_of_ble_eq_true rfl) (Nat.le_of_ble_eq_true rfl) (Nat.le_of_ble_eq_true rfl) (Nat.le_of_ble_eq_true rfl) dX9_toldHer_5 (fun r_2 u_1 H locs hw_u_1 hP hD hS => ?_)
  replace hw_u_1 : r_2 = (f_e_hasBridge t0 t1 t2 t3 t4 b_) := hw_u_1
  rw [hw_u_1]
  clear hw_u_1
  have hP : va_P D classes [(h, .inr (9, [.ref x, .int q1, .int q2, .ref rd, .ref t, .ref d, .ref nw, .ref ps, .ref im, .ref is_, .int q10, .ref bk, .int q12, .ref qr, .ref pr, .ref cv, .ref ft])), (qr, .inr (4, [.int k0, .int k1, .int k2, .int k3, .int k4])), (ta, .inl (cI, 6, .inl fta)), (tb, .inl (cI, 6, .inl ftb)), (tc, .inl (cI, 30, .inl ftc)), (ft, .inl (cI, 30, .inl fft)), (t, .inr (8, [.int t0, .int t1, .int t2, .int t3, .int t4, .ref ta, .ref tb, .ref tc, .ref td, .ref te]))] H := hP
  have hD : va_D A [(h, .inr (9, [.ref x, .int q1, .int q2, .ref rd, .ref t, .ref d, .ref nw, .ref ps, .ref im, .ref is_, .int q10, .ref bk, .int q12, .ref qr, .ref pr, .ref cv, .ref ft])), (qr, .inr (4, [.int k0, .int k1, .int k2, .int k3, .int k4])), (ta, .inl (cI, 6, .inl fta)), (tb, .inl (cI, 6, .inl ftb)), (tc, .inl (cI, 30, .inl ftc)), (ft, .inl (cI, 30, .inl fft)), (t, .inr (8, [.int t0, .int t1, .int t2, .int t3, .int t4, .ref ta, .ref tb, .ref tc, .ref td, .ref te]))] := hD
  refine lv_if_ne (tgt := 14) hx hb dX9_toldHer_8 rfl (fun c_3 => ?_) (fun c_3 => ?_)
  · rw [if_neg c_3] at hE
    refine lv_iload_n hx hb dX9_toldHer_14 rfl (lv_at hl 2 rfl) ?_
    refine lv_iconst (v := 1) hx hb dX9_toldHer_15 rfl ?_
    refine lv_icmp_lt (tgt := 25) hx hb dX9_toldHer_16 rfl (fun c_4 => ?_) (fun c_4 => ?_)
    · rw [if_pos c_4] at hE
      refine lv_ldc (v := (-1000000002)) hx hb hown (hts _ wd_339) dX9_toldHer_25 ?_
      exact hret (-1000000002) (k0, k1, k2, k3, k4, fft) _ _ _ _ dX9_toldHer_27 rfl hE (cutP (isC := [0, 1, 6, 2, 3, 4, 5]) hP rfl) (cutD (isC := [0, 1, 6, 2, 3, 4, 5]) hD rfl rfl) hS
    · rw [if_neg c_4] at hE
      refine lv_iload_n hx hb dX9_toldHer_19 rfl (lv_at hl 2 rfl) ?_
      refine lv_bipush (v := 60) hx hb dX9_toldHer_20 rfl ?_
      refine lv_icmp_le (tgt := 28) hx hb dX9_toldHer_22 rfl (fun c_5 => ?_) (fun c_5 => ?_)
      · rw [if_pos c_5] at hE
        refine lv_iconst (v := 0) hx hb dX9_toldHer_28 rfl ?_
        refine lv_istore (lv' := [(4, .int 0), (0, .ref h), (1, .int b_), (2, .int k_), (3, .int i_)]) hx hb dX9_toldHer_29 hl (Nat.le_of_ble_eq_true rfl) rfl (fun ls hl => ?_)
        refine lv_iconst (v := 0) hx hb dX9_toldHer_31 rfl ?_
        refine lv_istore (lv' := [(5, .int 0), (4, .int 0), (0, .ref h), (1, .int b_), (2, .int k_), (3, .int i_)]) hx hb dX9_toldHer_32 hl (Nat.le_of_ble_eq_true rfl) rfl (fun ls hl => ?_)
        refine lv_iconst (v := 0) hx hb dX9_toldHer_34 rfl ?_
        refine lv_istore (lv' := [(6, .int 0), (5, .int 0), (4, .int 0), (0, .ref h), (1, .int b_), (2, .int k_), (3, .int i_)]) hx hb dX9_toldHer_35 hl (Nat.le_of_ble_eq_true rfl) rfl (fun ls hl => ?_)
        have ex_37_w_6 : ∀ (w_6l6 : Int32) (w_6l5 : Int32) (w_6l4 : Int32) (w_6m0 : Int32) (w_6m1 : Int32) (w_6m2 : Int32) (w_6m3 : Int32) (w_6m4 : Int32) (w_6m5 : (Nat → Int32)) (H : Heap) (locs : List Loc) (ls : Array Slot), va_P D classes [(h, .inr (9, [.ref x, .int q1, .int q2, .ref rd, .ref t, .ref d, .ref nw, .ref ps, .ref im, .ref is_, .int q10, .ref bk, .int q12, .ref qr, .ref pr, .ref cv, .ref ft])), (qr, .inr (4, [.int w_6m0, .int w_6m1, .int w_6m2, .int w_6m3, .int w_6m4])), (ta, .inl (cI, 6, .inl fta)), (tb, .inl (cI, 6, .inl ftb)), (tc, .inl (cI, 30, .inl ftc)), (ft, .inl (cI, 30, .inl w_6m5)), (t, .inr (8, [.int t0, .int t1, .int t2, .int t3, .int t4, .ref ta, .ref tb, .ref tc, .ref td, .ref te]))] H → va_D A [(h, .inr (9, [.ref x, .int q1, .int q2, .ref rd, .ref t, .ref d, .ref nw, .ref ps, .ref im, .ref is_, .int q10, .ref bk, .int q12, .ref qr, .ref pr, .ref cv, .ref ft])), (qr, .inr (4, [.int w_6m0, .int w_6m1, .int w_6m2, .int w_6m3, .int w_6m4])), (ta, .inl (cI, 6, .inl fta)), (tb, .inl (cI, 6, .inl ftb)), (tc, .inl (cI, 30, .inl ftc)), (ft, .inl (cI, 30, .inl w_6m5)), (t, .inr (8, [.int t0, .int t1, .int t2, .int t3, .int t4, .ref ta, .ref tb, .ref tc, .ref td, .ref te]))] → va_S A s.heap H locs → lv_has ls 8 [(6, .int w_6l6), (5, .int w_6l5), (4, .int w_6l4), (0, .ref h), (1, .int b_), (2, .int k_), (3, .int i_)] → ((if i_ = (-1) then (w_6l4, w_6m0, w_6m1, w_6m2, w_6m3, w_6m4, w_6m5) else (if i_ = (-2) then (w_6l5, w_6m0, w_6m1, w_6m2, w_6m3, w_6m4, w_6m5) else (if i_ < 0 then ((-1), w_6m0, w_6m1, w_6m2, w_6m3, w_6m4, w_6m5) else (if w_6l4 ≤ i_ then ((-1), w_6m0, w_6m1, w_6m2, w_6m3, w_6m4, w_6m5) else ((atF 30 w_6m5 i_), w_6m0, w_6m1, w_6m2, w_6m3, w_6m4, w_6m5)))))) = RES → W p l e rm_e_toldHer_x9 s m args below meth c H locs 0 0 Q (F0 m 184 ls []) := by
          intro w_6l6 w_6l5 w_6l4 w_6m0 w_6m1 w_6m2 w_6m3 w_6m4 w_6m5 H locs ls hP hD hS hl hE
          refine lv_iload_n hx hb dX9_toldHer_184 rfl (lv_at hl 6 rfl) ?_
          refine lv_iconst (v := (-1)) hx hb dX9_toldHer_185 rfl ?_
          refine lv_icmp_ne (tgt := 192) hx hb dX9_toldHer_186 rfl (fun c_7 => ?_) (fun c_7 => ?_)
          · rw [if_neg c_7] at hE
            refine lv_iload_n hx hb dX9_toldHer_192 rfl (lv_at hl 6 rfl) ?_
            refine lv_bipush (v := (-2)) hx hb dX9_toldHer_193 rfl ?_
            refine lv_icmp_ne (tgt := 201) hx hb dX9_toldHer_195 rfl (fun c_8 => ?_) (fun c_8 => ?_)
            · rw [if_neg c_8] at hE
              refine lv_iload_n hx hb dX9_toldHer_201 rfl (lv_at hl 6 rfl) ?_
              refine lv_if_lt (tgt := 222) hx hb dX9_toldHer_202 rfl (fun c_9 => ?_) (fun c_9 => ?_)
              · rw [if_pos c_9] at hE
                refine lv_iconst (v := (-1)) hx hb dX9_toldHer_222 rfl ?_
                exact hret (-1) (w_6m0, w_6m1, w_6m2, w_6m3, w_6m4, w_6m5) _ _ _ _ dX9_toldHer_223 rfl hE (cutP (isC := [0, 1, 6, 2, 3, 4, 5]) hP rfl) (cutD (isC := [0, 1, 6, 2, 3, 4, 5]) hD rfl rfl) hS
              · rw [if_neg c_9] at hE
                refine lv_iload_n hx hb dX9_toldHer_205 rfl (lv_at hl 6 rfl) ?_
                refine lv_iload hx hb dX9_toldHer_206 (lv_at hl 2 rfl) ?_
                refine lv_icmp_ge (tgt := 222) hx hb dX9_toldHer_208 rfl (fun c_10 => ?_) (fun c_10 => ?_)
                · rw [if_pos c_10] at hE
                  refine lv_iconst (v := (-1)) hx hb dX9_toldHer_222 rfl ?_
                  exact hret (-1) (w_6m0, w_6m1, w_6m2, w_6m3, w_6m4, w_6m5) _ _ _ _ dX9_toldHer_223 rfl hE (cutP (isC := [0, 1, 6, 2, 3, 4, 5]) hP rfl) (cutD (isC := [0, 1, 6, 2, 3, 4, 5]) hD rfl rfl) hS
                · rw [if_neg c_10] at hE
                  refine lv_aload_n hx hb dX9_toldHer_211 rfl (lv_at hl 3 rfl) ?_
                  refine va_get (D := D) (ci := 9) (v := .ref ft) (C := RX9) (T := TX9) (N := 17) hx hb hts iX9 hown hK hP 0 rfl rfl 16 (Nat.le_of_ble_eq_true rfl) (hts _ wd_133) (fun _ h9 => h9) rfl dX9_toldHer_212 ?_
                  refine lv_iload_n hx hb dX9_toldHer_215 rfl (lv_at hl 6 rfl) ?_
                  refine cSi (wr := [(h, .inr (9, [.ref x, .int q1, .int q2, .ref rd, .ref t, .ref d, .ref nw, .ref ps, .ref im, .ref is_, .int q10, .ref bk, .int q12, .ref qr, .ref pr, .ref cv, .ref ft])), (qr, .inr (4, [.int w_6m0, .int w_6m1, .int w_6m2, .int w_6m3, .int w_6m4])), (ta, .inl (cI, 6, .inl fta)), (tb, .inl (cI, 6, .inl ftb)), (tc, .inl (cI, 30, .inl ftc)), (t, .inr (8, [.int t0, .int t1, .int t2, .int t3, .int t4, .ref ta, .ref tb, .ref tc, .ref td, .ref te]))]) (rest := []) (k_at ft 30 w_6m5 i_ (of_decide_eq_true rfl)) okS_X9_at wd_258 hx hb hml hown hts hK hP hD hS hA hN hl.1 [5] [0, 1, 2, 3, 4, 6] rfl rfl rfl rfl (by decide) rfl (Nat.le_of_ble_eq_true rfl) (Nat.le_of_ble_eq_true rfl) (Nat.le_of_ble_eq_true rfl) (Nat.le_of_ble_eq_true rfl) (Nat.le_of_ble_eq_true rfl) dX9_toldHer_216 (fun r_12 u_11 H locs hw_u_11 hP hD hS => ?_)
                  obtain rfl := hw_u_11
                  have hP : va_P D classes [(h, .inr (9, [.ref x, .int q1, .int q2, .ref rd, .ref t, .ref d, .ref nw, .ref ps, .ref im, .ref is_, .int q10, .ref bk, .int q12, .ref qr, .ref pr, .ref cv, .ref ft])), (qr, .inr (4, [.int w_6m0, .int w_6m1, .int w_6m2, .int w_6m3, .int w_6m4])), (ta, .inl (cI, 6, .inl fta)), (tb, .inl (cI, 6, .inl ftb)), (tc, .inl (cI, 30, .inl ftc)), (t, .inr (8, [.int t0, .int t1, .int t2, .int t3, .int t4, .ref ta, .ref tb, .ref tc, .ref td, .ref te])), (ft, .inl (cI, 30, .inl w_6m5))] H := hP
                  have hD : va_D A [(h, .inr (9, [.ref x, .int q1, .int q2, .ref rd, .ref t, .ref d, .ref nw, .ref ps, .ref im, .ref is_, .int q10, .ref bk, .int q12, .ref qr, .ref pr, .ref cv, .ref ft])), (qr, .inr (4, [.int w_6m0, .int w_6m1, .int w_6m2, .int w_6m3, .int w_6m4])), (ta, .inl (cI, 6, .inl fta)), (tb, .inl (cI, 6, .inl ftb)), (tc, .inl (cI, 30, .inl ftc)), (t, .inr (8, [.int t0, .int t1, .int t2, .int t3, .int t4, .ref ta, .ref tb, .ref tc, .ref td, .ref te])), (ft, .inl (cI, 30, .inl w_6m5))] := hD
                  refine lv_goto (tgt := 223) hx hb dX9_toldHer_219 rfl ?_
                  exact hret (atF 30 w_6m5 i_) (w_6m0, w_6m1, w_6m2, w_6m3, w_6m4, w_6m5) _ _ _ _ dX9_toldHer_223 rfl hE (cutP (isC := [0, 1, 5, 2, 3, 4, 6]) hP rfl) (cutD (isC := [0, 1, 5, 2, 3, 4, 6]) hD rfl rfl) hS
            · rw [if_pos c_8] at hE
              refine lv_iload hx hb dX9_toldHer_198 (lv_at hl 1 rfl) ?_
              exact hret w_6l5 (w_6m0, w_6m1, w_6m2, w_6m3, w_6m4, w_6m5) _ _ _ _ dX9_toldHer_200 rfl hE (cutP (isC := [0, 1, 6, 2, 3, 4, 5]) hP rfl) (cutD (isC := [0, 1, 6, 2, 3, 4, 5]) hD rfl rfl) hS
          · rw [if_pos c_7] at hE
            refine lv_iload hx hb dX9_toldHer_189 (lv_at hl 2 rfl) ?_
            exact hret w_6l4 (w_6m0, w_6m1, w_6m2, w_6m3, w_6m4, w_6m5) _ _ _ _ dX9_toldHer_191 rfl hE (cutP (isC := [0, 1, 6, 2, 3, 4, 5]) hP rfl) (cutD (isC := [0, 1, 6, 2, 3, 4, 5]) hD rfl rfl) hS
        have lp_37_w_6 : ∀ (n_w_6 : Nat) (w_6l6 : Int32) (w_6l5 : Int32) (w_6l4 : Int32) (w_6m0 : Int32) (w_6m1 : Int32) (w_6m2 : Int32) (w_6m3 : Int32) (w_6m4 : Int32) (w_6m5 : (Nat → Int32)) (H : Heap) (locs : List Loc) (ls : Array Slot), va_P D classes [(h, .inr (9, [.ref x, .int q1, .int q2, .ref rd, .ref t, .ref d, .ref nw, .ref ps, .ref im, .ref is_, .int q10, .ref bk, .int q12, .ref qr, .ref pr, .ref cv, .ref ft])), (qr, .inr (4, [.int w_6m0, .int w_6m1, .int w_6m2, .int w_6m3, .int w_6m4])), (ta, .inl (cI, 6, .inl fta)), (tb, .inl (cI, 6, .inl ftb)), (tc, .inl (cI, 30, .inl ftc)), (ft, .inl (cI, 30, .inl w_6m5)), (t, .inr (8, [.int t0, .int t1, .int t2, .int t3, .int t4, .ref ta, .ref tb, .ref tc, .ref td, .ref te]))] H → va_D A [(h, .inr (9, [.ref x, .int q1, .int q2, .ref rd, .ref t, .ref d, .ref nw, .ref ps, .ref im, .ref is_, .int q10, .ref bk, .int q12, .ref qr, .ref pr, .ref cv, .ref ft])), (qr, .inr (4, [.int w_6m0, .int w_6m1, .int w_6m2, .int w_6m3, .int w_6m4])), (ta, .inl (cI, 6, .inl fta)), (tb, .inl (cI, 6, .inl ftb)), (tc, .inl (cI, 30, .inl ftc)), (ft, .inl (cI, 30, .inl w_6m5)), (t, .inr (8, [.int t0, .int t1, .int t2, .int t3, .int t4, .ref ta, .ref tb, .ref tc, .ref td, .ref te]))] → va_S A s.heap H locs → lv_has ls 8 [(6, .int w_6l6), (5, .int w_6l5), (4, .int w_6l4), (0, .ref h), (1, .int b_), (2, .int k_), (3, .int i_)] → ((t2 : Int32).toInt - (w_6l6 : Int32).toInt).toNat < n_w_6 → (match (f_e_toldHer_x9_37 q1 q2 q10 q12 k0 k1 k2 k3 k4 t0 t1 t2 t3 t4 fta ftb ftc fft b_ k_ i_ n_w_6 w_6l6 w_6l5 w_6l4 w_6m0 w_6m1 w_6m2 w_6m3 w_6m4 w_6m5) with | (w_6l6, w_6l5, w_6l4, w_6m0, w_6m1, w_6m2, w_6m3, w_6m4, w_6m5) => (if i_ = (-1) then (w_6l4, w_6m0, w_6m1, w_6m2, w_6m3, w_6m4, w_6m5) else (if i_ = (-2) then (w_6l5, w_6m0, w_6m1, w_6m2, w_6m3, w_6m4, w_6m5) else (if i_ < 0 then ((-1), w_6m0, w_6m1, w_6m2, w_6m3, w_6m4, w_6m5) else (if w_6l4 ≤ i_ then ((-1), w_6m0, w_6m1, w_6m2, w_6m3, w_6m4, w_6m5) else ((atF 30 w_6m5 i_), w_6m0, w_6m1, w_6m2, w_6m3, w_6m4, w_6m5)))))) = RES → W p l e rm_e_toldHer_x9 s m args below meth c H locs 0 0 Q (F0 m 37 ls []) := by
          intro n_w_6
          induction n_w_6 with
          | zero => intro w_6l6 w_6l5 w_6l4 w_6m0 w_6m1 w_6m2 w_6m3 w_6m4 w_6m5 H locs ls hP hD hS hl hm; exact absurd hm (Nat.not_lt_zero _)
          | succ n_w_6 ih_w_6 =>
            intro w_6l6 w_6l5 w_6l4 w_6m0 w_6m1 w_6m2 w_6m3 w_6m4 w_6m5 H locs ls hP hD hS hl hm hE
            rw [f_e_toldHer_x9_37_s] at hE
            refine lv_iload hx hb dX9_toldHer_37 (lv_at hl 0 rfl) ?_
            refine lv_aload_n hx hb dX9_toldHer_39 rfl (lv_at hl 3 rfl) ?_
            refine va_get (D := D) (ci := 9) (v := .ref t) (C := RX9) (T := TX9) (N := 17) hx hb hts iX9 hown hK hP 0 rfl rfl 4 (Nat.le_of_ble_eq_true rfl) (hts _ wd_89) (fun _ h9 => h9) rfl dX9_toldHer_40 ?_
            refine va_get (D := D) (ci := 8) (v := .int t2) (C := RX8) (T := TX8) (N := 10) hx hb hts iX8 hown hK hP 6 rfl rfl 2 (Nat.le_of_ble_eq_true rfl) (hts _ wd_373) (fun _ h9 => h9) rfl dX9_toldHer_43 ?_
            refine lv_icmp_ge (tgt := 184) hx hb dX9_toldHer_46 rfl (fun c_13 => ?_) (fun c_13 => ?_)
            · rw [if_pos c_13] at hE
              exact ex_37_w_6 w_6l6 w_6l5 w_6l4 w_6m0 w_6m1 w_6m2 w_6m3 w_6m4 w_6m5 _ _ ls hP hD hS (lv_sub hl [0, 1, 2, 3, 4, 5, 6] rfl) hE
            · rw [if_neg c_13] at hE
              refine lv_iconst (v := 0) hx hb dX9_toldHer_49 rfl ?_
              refine lv_istore (lv' := [(7, .int 0), (6, .int w_6l6), (5, .int w_6l5), (4, .int w_6l4), (0, .ref h), (1, .int b_), (2, .int k_), (3, .int i_)]) hx hb dX9_toldHer_50 hl (Nat.le_of_ble_eq_true rfl) rfl (fun ls hl => ?_)
              have ex_52_w_14 : ∀ (w_14l7 : Int32) (w_14l5 : Int32) (w_14l4 : Int32) (w_14m0 : Int32) (w_14m1 : Int32) (w_14m2 : Int32) (w_14m3 : Int32) (w_14m4 : Int32) (w_14m5 : (Nat → Int32)) (H : Heap) (locs : List Loc) (ls : Array Slot), va_P D classes [(h, .inr (9, [.ref x, .int q1, .int q2, .ref rd, .ref t, .ref d, .ref nw, .ref ps, .ref im, .ref is_, .int q10, .ref bk, .int q12, .ref qr, .ref pr, .ref cv, .ref ft])), (qr, .inr (4, [.int w_14m0, .int w_14m1, .int w_14m2, .int w_14m3, .int w_14m4])), (ta, .inl (cI, 6, .inl fta)), (tb, .inl (cI, 6, .inl ftb)), (tc, .inl (cI, 30, .inl ftc)), (ft, .inl (cI, 30, .inl w_14m5)), (t, .inr (8, [.int t0, .int t1, .int t2, .int t3, .int t4, .ref ta, .ref tb, .ref tc, .ref td, .ref te]))] H → va_D A [(h, .inr (9, [.ref x, .int q1, .int q2, .ref rd, .ref t, .ref d, .ref nw, .ref ps, .ref im, .ref is_, .int q10, .ref bk, .int q12, .ref qr, .ref pr, .ref cv, .ref ft])), (qr, .inr (4, [.int w_14m0, .int w_14m1, .int w_14m2, .int w_14m3, .int w_14m4])), (ta, .inl (cI, 6, .inl fta)), (tb, .inl (cI, 6, .inl ftb)), (tc, .inl (cI, 30, .inl ftc)), (ft, .inl (cI, 30, .inl w_14m5)), (t, .inr (8, [.int t0, .int t1, .int t2, .int t3, .int t4, .ref ta, .ref tb, .ref tc, .ref td, .ref te]))] → va_S A s.heap H locs → lv_has ls 8 [(7, .int w_14l7), (6, .int w_6l6), (5, .int w_14l5), (4, .int w_14l4), (0, .ref h), (1, .int b_), (2, .int k_), (3, .int i_)] → ((match (f_e_toldHer_x9_37 q1 q2 q10 q12 k0 k1 k2 k3 k4 t0 t1 t2 t3 t4 fta ftb ftc fft b_ k_ i_ n_w_6 (w_6l6 + 1) w_14l5 w_14l4 w_14m0 w_14m1 w_14m2 w_14m3 w_14m4 w_14m5) with | (w_6l6, w_6l5, w_6l4, w_6m0, w_6m1, w_6m2, w_6m3, w_6m4, w_6m5) => (if i_ = (-1) then (w_6l4, w_6m0, w_6m1, w_6m2, w_6m3, w_6m4, w_6m5) else (if i_ = (-2) then (w_6l5, w_6m0, w_6m1, w_6m2, w_6m3, w_6m4, w_6m5) else (if i_ < 0 then ((-1), w_6m0, w_6m1, w_6m2, w_6m3, w_6m4, w_6m5) else (if w_6l4 ≤ i_ then ((-1), w_6m0, w_6m1, w_6m2, w_6m3, w_6m4, w_6m5) else ((atF 30 w_6m5 i_), w_6m0, w_6m1, w_6m2, w_6m3, w_6m4, w_6m5))))))) = RES → W p l e rm_e_toldHer_x9 s m args below meth c H locs 0 0 Q (F0 m 178 ls []) := by
                intro w_14l7 w_14l5 w_14l4 w_14m0 w_14m1 w_14m2 w_14m3 w_14m4 w_14m5 H locs ls hP hD hS hl hE
                refine lv_iinc (v := (w_6l6 + 1)) (lv' := [(6, .int (w_6l6 + 1)), (7, .int w_14l7), (5, .int w_14l5), (4, .int w_14l4), (0, .ref h), (1, .int b_), (2, .int k_), (3, .int i_)]) hx hb dX9_toldHer_178 hl (k := 1) rfl rfl (Nat.le_of_ble_eq_true rfl) rfl (fun ls hl => ?_)
                refine lv_goto (tgt := 37) hx hb dX9_toldHer_181 rfl ?_
                exact ih_w_6 (w_6l6 + 1) w_14l5 w_14l4 w_14m0 w_14m1 w_14m2 w_14m3 w_14m4 w_14m5 _ _ ls hP hD hS (lv_sub hl [0, 2, 3, 4, 5, 6, 7] rfl) (up_step c_13 hm) hE
              have lp_52_w_14 : ∀ (n_w_14 : Nat) (w_14l7 : Int32) (w_14l5 : Int32) (w_14l4 : Int32) (w_14m0 : Int32) (w_14m1 : Int32) (w_14m2 : Int32) (w_14m3 : Int32) (w_14m4 : Int32) (w_14m5 : (Nat → Int32)) (H : Heap) (locs : List Loc) (ls : Array Slot), va_P D classes [(h, .inr (9, [.ref x, .int q1, .int q2, .ref rd, .ref t, .ref d, .ref nw, .ref ps, .ref im, .ref is_, .int q10, .ref bk, .int q12, .ref qr, .ref pr, .ref cv, .ref ft])), (qr, .inr (4, [.int w_14m0, .int w_14m1, .int w_14m2, .int w_14m3, .int w_14m4])), (ta, .inl (cI, 6, .inl fta)), (tb, .inl (cI, 6, .inl ftb)), (tc, .inl (cI, 30, .inl ftc)), (ft, .inl (cI, 30, .inl w_14m5)), (t, .inr (8, [.int t0, .int t1, .int t2, .int t3, .int t4, .ref ta, .ref tb, .ref tc, .ref td, .ref te]))] H → va_D A [(h, .inr (9, [.ref x, .int q1, .int q2, .ref rd, .ref t, .ref d, .ref nw, .ref ps, .ref im, .ref is_, .int q10, .ref bk, .int q12, .ref qr, .ref pr, .ref cv, .ref ft])), (qr, .inr (4, [.int w_14m0, .int w_14m1, .int w_14m2, .int w_14m3, .int w_14m4])), (ta, .inl (cI, 6, .inl fta)), (tb, .inl (cI, 6, .inl ftb)), (tc, .inl (cI, 30, .inl ftc)), (ft, .inl (cI, 30, .inl w_14m5)), (t, .inr (8, [.int t0, .int t1, .int t2, .int t3, .int t4, .ref ta, .ref tb, .ref tc, .ref td, .ref te]))] → va_S A s.heap H locs → lv_has ls 8 [(7, .int w_14l7), (6, .int w_6l6), (5, .int w_14l5), (4, .int w_14l4), (0, .ref h), (1, .int b_), (2, .int k_), (3, .int i_)] → ((t1 : Int32).toInt - (w_14l7 : Int32).toInt).toNat < n_w_14 → (match (match (f_e_toldHer_x9_52 q1 q2 q10 q12 k0 k1 k2 k3 k4 t0 t1 t2 t3 t4 fta ftb ftc fft b_ k_ i_ w_6l6 n_w_14 w_14l7 w_14l5 w_14l4 w_14m0 w_14m1 w_14m2 w_14m3 w_14m4 w_14m5) with | (w_14l7, w_14l5, w_14l4, w_14m0, w_14m1, w_14m2, w_14m3, w_14m4, w_14m5) => (f_e_toldHer_x9_37 q1 q2 q10 q12 k0 k1 k2 k3 k4 t0 t1 t2 t3 t4 fta ftb ftc fft b_ k_ i_ n_w_6 (w_6l6 + 1) w_14l5 w_14l4 w_14m0 w_14m1 w_14m2 w_14m3 w_14m4 w_14m5)) with | (w_6l6, w_6l5, w_6l4, w_6m0, w_6m1, w_6m2, w_6m3, w_6m4, w_6m5) => (if i_ = (-1) then (w_6l4, w_6m0, w_6m1, w_6m2, w_6m3, w_6m4, w_6m5) else (if i_ = (-2) then (w_6l5, w_6m0, w_6m1, w_6m2, w_6m3, w_6m4, w_6m5) else (if i_ < 0 then ((-1), w_6m0, w_6m1, w_6m2, w_6m3, w_6m4, w_6m5) else (if w_6l4 ≤ i_ then ((-1), w_6m0, w_6m1, w_6m2, w_6m3, w_6m4, w_6m5) else ((atF 30 w_6m5 i_), w_6m0, w_6m1, w_6m2, w_6m3, w_6m4, w_6m5)))))) = RES → W p l e rm_e_toldHer_x9 s m args below meth c H locs 0 0 Q (F0 m 52 ls []) := by
                intro n_w_14
                induction n_w_14 with
                | zero => intro w_14l7 w_14l5 w_14l4 w_14m0 w_14m1 w_14m2 w_14m3 w_14m4 w_14m5 H locs ls hP hD hS hl hm; exact absurd hm (Nat.not_lt_zero _)
                | succ n_w_14 ih_w_14 =>
                  intro w_14l7 w_14l5 w_14l4 w_14m0 w_14m1 w_14m2 w_14m3 w_14m4 w_14m5 H locs ls hP hD hS hl hm hE
                  rw [f_e_toldHer_x9_52_s] at hE
                  refine lv_iload hx hb dX9_toldHer_52 (lv_at hl 0 rfl) ?_
                  refine lv_aload_n hx hb dX9_toldHer_54 rfl (lv_at hl 4 rfl) ?_
                  refine va_get (D := D) (ci := 9) (v := .ref t) (C := RX9) (T := TX9) (N := 17) hx hb hts iX9 hown hK hP 0 rfl rfl 4 (Nat.le_of_ble_eq_true rfl) (hts _ wd_89) (fun _ h9 => h9) rfl dX9_toldHer_55 ?_
                  refine va_get (D := D) (ci := 8) (v := .int t1) (C := RX8) (T := TX8) (N := 10) hx hb hts iX8 hown hK hP 6 rfl rfl 1 (Nat.le_of_ble_eq_true rfl) (hts _ wd_269) (fun _ h9 => h9) rfl dX9_toldHer_58 ?_
                  refine lv_icmp_ge (tgt := 178) hx hb dX9_toldHer_61 rfl (fun c_15 => ?_) (fun c_15 => ?_)
                  · rw [if_pos c_15] at hE
                    exact ex_52_w_14 w_14l7 w_14l5 w_14l4 w_14m0 w_14m1 w_14m2 w_14m3 w_14m4 w_14m5 _ _ ls hP hD hS (lv_sub hl [0, 1, 2, 3, 4, 5, 6, 7] rfl) hE
                  · rw [if_neg c_15] at hE
                    refine lv_aload_n hx hb dX9_toldHer_64 rfl (lv_at hl 4 rfl) ?_
                    refine va_get (D := D) (ci := 9) (v := .ref qr) (C := RX9) (T := TX9) (N := 17) hx hb hts iX9 hown hK hP 0 rfl rfl 13 (Nat.le_of_ble_eq_true rfl) (hts _ wd_120) (fun _ h9 => h9) rfl dX9_toldHer_65 ?_
                    refine lv_aload_n hx hb dX9_toldHer_68 rfl (lv_at hl 4 rfl) ?_
                    refine va_get (D := D) (ci := 9) (v := .ref t) (C := RX9) (T := TX9) (N := 17) hx hb hts iX9 hown hK hP 0 rfl rfl 4 (Nat.le_of_ble_eq_true rfl) (hts _ wd_89) (fun _ h9 => h9) rfl dX9_toldHer_69 ?_
                    refine va_get (D := D) (ci := 8) (v := .ref tb) (C := RX8) (T := TX8) (N := 10) hx hb hts iX8 hown hK hP 6 rfl rfl 6 (Nat.le_of_ble_eq_true rfl) (hts _ wd_351) (fun _ h9 => h9) rfl dX9_toldHer_72 ?_
                    refine lv_iload hx hb dX9_toldHer_75 (lv_at hl 1 rfl) ?_
                    refine cSi (wr := [(h, .inr (9, [.ref x, .int q1, .int q2, .ref rd, .ref t, .ref d, .ref nw, .ref ps, .ref im, .ref is_, .int q10, .ref bk, .int q12, .ref qr, .ref pr, .ref cv, .ref ft])), (qr, .inr (4, [.int w_14m0, .int w_14m1, .int w_14m2, .int w_14m3, .int w_14m4])), (ta, .inl (cI, 6, .inl fta)), (tc, .inl (cI, 30, .inl ftc)), (ft, .inl (cI, 30, .inl w_14m5)), (t, .inr (8, [.int t0, .int t1, .int t2, .int t3, .int t4, .ref ta, .ref tb, .ref tc, .ref td, .ref te]))]) (rest := [.ref qr]) (k_at tb 6 ftb w_6l6 (of_decide_eq_true rfl)) okS_X9_at wd_258 hx hb hml hown hts hK hP hD hS hA hN hl.1 [3] [0, 1, 2, 4, 5, 6] rfl rfl rfl rfl (by decide) rfl (Nat.le_of_ble_eq_true rfl) (Nat.le_of_ble_eq_true rfl) (Nat.le_of_ble_eq_true rfl) (Nat.le_of_ble_eq_true rfl) (Nat.le_of_ble_eq_true rfl) dX9_toldHer_77 (fun r_17 u_16 H locs hw_u_16 hP hD hS => ?_)
                    obtain rfl := hw_u_16
                    have hP : va_P D classes [(h, .inr (9, [.ref x, .int q1, .int q2, .ref rd, .ref t, .ref d, .ref nw, .ref ps, .ref im, .ref is_, .int q10, .ref bk, .int q12, .ref qr, .ref pr, .ref cv, .ref ft])), (qr, .inr (4, [.int w_14m0, .int w_14m1, .int w_14m2, .int w_14m3, .int w_14m4])), (ta, .inl (cI, 6, .inl fta)), (tc, .inl (cI, 30, .inl ftc)), (ft, .inl (cI, 30, .inl w_14m5)), (t, .inr (8, [.int t0, .int t1, .int t2, .int t3, .int t4, .ref ta, .ref tb, .ref tc, .ref td, .ref te])), (tb, .inl (cI, 6, .inl ftb))] H := hP
                    have hD : va_D A [(h, .inr (9, [.ref x, .int q1, .int q2, .ref rd, .ref t, .ref d, .ref nw, .ref ps, .ref im, .ref is_, .int q10, .ref bk, .int q12, .ref qr, .ref pr, .ref cv, .ref ft])), (qr, .inr (4, [.int w_14m0, .int w_14m1, .int w_14m2, .int w_14m3, .int w_14m4])), (ta, .inl (cI, 6, .inl fta)), (tc, .inl (cI, 30, .inl ftc)), (ft, .inl (cI, 30, .inl w_14m5)), (t, .inr (8, [.int t0, .int t1, .int t2, .int t3, .int t4, .ref ta, .ref tb, .ref tc, .ref td, .ref te])), (tb, .inl (cI, 6, .inl ftb))] := hD
                    refine lv_aload_n hx hb dX9_toldHer_80 rfl (lv_at hl 4 rfl) ?_
                    refine va_get (D := D) (ci := 9) (v := .ref t) (C := RX9) (T := TX9) (N := 17) hx hb hts iX9 hown hK hP 0 rfl rfl 4 (Nat.le_of_ble_eq_true rfl) (hts _ wd_89) (fun _ h9 => h9) rfl dX9_toldHer_81 ?_
                    refine lv_iload hx hb dX9_toldHer_84 (lv_at hl 1 rfl) ?_
                    refine lv_iload hx hb dX9_toldHer_86 (lv_at hl 0 rfl) ?_
                    refine cVi (wr := [(h, .inr (9, [.ref x, .int q1, .int q2, .ref rd, .ref t, .ref d, .ref nw, .ref ps, .ref im, .ref is_, .int q10, .ref bk, .int q12, .ref qr, .ref pr, .ref cv, .ref ft])), (qr, .inr (4, [.int w_14m0, .int w_14m1, .int w_14m2, .int w_14m3, .int w_14m4])), (ta, .inl (cI, 6, .inl fta)), (ft, .inl (cI, 30, .inl w_14m5)), (tb, .inl (cI, 6, .inl ftb))]) (rest := [.int (atF 6 ftb w_6l6), .ref qr]) (e_forceOf_x8 t ta tb tc td te t0 t1 t2 t3 t4 ftc w_6l6 w_14l7) okV_X8_forceOf wd_252 hx hb hml hown hts hK hP hD hS hA hN hl.1 [5, 3] [0, 1, 2, 4, 6] rfl rfl rfl rfl (of_decide_eq_true rfl) rfl rfl rfl (Nat.le_of_ble_eq_true rfl) (Nat.le_of_ble_eq_true rfl) (Nat.le_of_ble_eq_true rfl) (Nat.le_of_ble_eq_true rfl) (Nat.le_of_ble_eq_true rfl) dX9_toldHer_88 (fun r_19 u_18 H locs hw_u_18 hP hD hS => ?_)
                    replace hw_u_18 : r_19 = (f_e_forceOf_x8 t0 t1 t2 t3 t4 ftc w_6l6 w_14l7) := hw_u_18
                    rw [hw_u_18]
                    clear hw_u_18
                    have hP : va_P D classes [(h, .inr (9, [.ref x, .int q1, .int q2, .ref rd, .ref t, .ref d, .ref nw, .ref ps, .ref im, .ref is_, .int q10, .ref bk, .int q12, .ref qr, .ref pr, .ref cv, .ref ft])), (qr, .inr (4, [.int w_14m0, .int w_14m1, .int w_14m2, .int w_14m3, .int w_14m4])), (ta, .inl (cI, 6, .inl fta)), (ft, .inl (cI, 30, .inl w_14m5)), (tb, .inl (cI, 6, .inl ftb)), (t, .inr (8, [.int t0, .int t1, .int t2, .int t3, .int t4, .ref ta, .ref tb, .ref tc, .ref td, .ref te])), (tc, .inl (cI, 30, .inl ftc))] H := hP
                    have hD : va_D A [(h, .inr (9, [.ref x, .int q1, .int q2, .ref rd, .ref t, .ref d, .ref nw, .ref ps, .ref im, .ref is_, .int q10, .ref bk, .int q12, .ref qr, .ref pr, .ref cv, .ref ft])), (qr, .inr (4, [.int w_14m0, .int w_14m1, .int w_14m2, .int w_14m3, .int w_14m4])), (ta, .inl (cI, 6, .inl fta)), (ft, .inl (cI, 30, .inl w_14m5)), (tb, .inl (cI, 6, .inl ftb)), (t, .inr (8, [.int t0, .int t1, .int t2, .int t3, .int t4, .ref ta, .ref tb, .ref tc, .ref td, .ref te])), (tc, .inl (cI, 30, .inl ftc))] := hD
                    refine lv_aload_n hx hb dX9_toldHer_91 rfl (lv_at hl 4 rfl) ?_
                    refine va_get (D := D) (ci := 9) (v := .ref t) (C := RX9) (T := TX9) (N := 17) hx hb hts iX9 hown hK hP 0 rfl rfl 4 (Nat.le_of_ble_eq_true rfl) (hts _ wd_89) (fun _ h9 => h9) rfl dX9_toldHer_92 ?_
                    refine va_get (D := D) (ci := 8) (v := .int t4) (C := RX8) (T := TX8) (N := 10) hx hb hts iX8 hown hK hP 5 rfl rfl 4 (Nat.le_of_ble_eq_true rfl) (hts _ wd_256) (fun _ h9 => h9) rfl dX9_toldHer_95 ?_
                    refine lv_aload_n hx hb dX9_toldHer_98 rfl (lv_at hl 4 rfl) ?_
                    refine va_get (D := D) (ci := 9) (v := .ref t) (C := RX9) (T := TX9) (N := 17) hx hb hts iX9 hown hK hP 0 rfl rfl 4 (Nat.le_of_ble_eq_true rfl) (hts _ wd_89) (fun _ h9 => h9) rfl dX9_toldHer_99 ?_
                    refine va_get (D := D) (ci := 8) (v := .ref ta) (C := RX8) (T := TX8) (N := 10) hx hb hts iX8 hown hK hP 5 rfl rfl 5 (Nat.le_of_ble_eq_true rfl) (hts _ wd_257) (fun _ h9 => h9) rfl dX9_toldHer_102 ?_
                    refine lv_iload_n hx hb dX9_toldHer_105 rfl (lv_at hl 5 rfl) ?_
                    refine cSi (wr := [(h, .inr (9, [.ref x, .int q1, .int q2, .ref rd, .ref t, .ref d, .ref nw, .ref ps, .ref im, .ref is_, .int q10, .ref bk, .int q12, .ref qr, .ref pr, .ref cv, .ref ft])), (qr, .inr (4, [.int w_14m0, .int w_14m1, .int w_14m2, .int w_14m3, .int w_14m4])), (ft, .inl (cI, 30, .inl w_14m5)), (tb, .inl (cI, 6, .inl ftb)), (t, .inr (8, [.int t0, .int t1, .int t2, .int t3, .int t4, .ref ta, .ref tb, .ref tc, .ref td, .ref te])), (tc, .inl (cI, 30, .inl ftc))]) (rest := [.int t4, .int (f_e_forceOf_x8 t0 t1 t2 t3 t4 ftc w_6l6 w_14l7), .int (atF 6 ftb w_6l6), .ref qr]) (k_at ta 6 fta b_ (of_decide_eq_true rfl)) okS_X9_at wd_258 hx hb hml hown hts hK hP hD hS hA hN hl.1 [2] [0, 1, 3, 4, 5, 6] rfl rfl rfl rfl (by decide) rfl (Nat.le_of_ble_eq_true rfl) (Nat.le_of_ble_eq_true rfl) (Nat.le_of_ble_eq_true rfl) (Nat.le_of_ble_eq_true rfl) (Nat.le_of_ble_eq_true rfl) dX9_toldHer_106 (fun r_21 u_20 H locs hw_u_20 hP hD hS => ?_)
                    obtain rfl := hw_u_20
                    have hP : va_P D classes [(h, .inr (9, [.ref x, .int q1, .int q2, .ref rd, .ref t, .ref d, .ref nw, .ref ps, .ref im, .ref is_, .int q10, .ref bk, .int q12, .ref qr, .ref pr, .ref cv, .ref ft])), (qr, .inr (4, [.int w_14m0, .int w_14m1, .int w_14m2, .int w_14m3, .int w_14m4])), (ft, .inl (cI, 30, .inl w_14m5)), (tb, .inl (cI, 6, .inl ftb)), (t, .inr (8, [.int t0, .int t1, .int t2, .int t3, .int t4, .ref ta, .ref tb, .ref tc, .ref td, .ref te])), (tc, .inl (cI, 30, .inl ftc)), (ta, .inl (cI, 6, .inl fta))] H := hP
                    have hD : va_D A [(h, .inr (9, [.ref x, .int q1, .int q2, .ref rd, .ref t, .ref d, .ref nw, .ref ps, .ref im, .ref is_, .int q10, .ref bk, .int q12, .ref qr, .ref pr, .ref cv, .ref ft])), (qr, .inr (4, [.int w_14m0, .int w_14m1, .int w_14m2, .int w_14m3, .int w_14m4])), (ft, .inl (cI, 30, .inl w_14m5)), (tb, .inl (cI, 6, .inl ftb)), (t, .inr (8, [.int t0, .int t1, .int t2, .int t3, .int t4, .ref ta, .ref tb, .ref tc, .ref td, .ref te])), (tc, .inl (cI, 30, .inl ftc)), (ta, .inl (cI, 6, .inl fta))] := hD
                    refine cVv (wr := [(h, .inr (9, [.ref x, .int q1, .int q2, .ref rd, .ref t, .ref d, .ref nw, .ref ps, .ref im, .ref is_, .int q10, .ref bk, .int q12, .ref qr, .ref pr, .ref cv, .ref ft])), (ft, .inl (cI, 30, .inl w_14m5)), (tb, .inl (cI, 6, .inl ftb)), (t, .inr (8, [.int t0, .int t1, .int t2, .int t3, .int t4, .ref ta, .ref tb, .ref tc, .ref td, .ref te])), (tc, .inl (cI, 30, .inl ftc)), (ta, .inl (cI, 6, .inl fta))]) (rest := []) (e_run_x4 qr w_14m0 w_14m1 w_14m2 w_14m3 w_14m4 (atF 6 ftb w_6l6) (f_e_forceOf_x8 t0 t1 t2 t3 t4 ftc w_6l6 w_14l7) t4 (atF 6 fta b_)) okV_X4_run wd_259 hx hb hml hown hts hK hP hD hS hA hN hl.1 [1] [0, 2, 3, 4, 5, 6] rfl rfl rfl rfl (of_decide_eq_true rfl) rfl rfl rfl (Nat.le_of_ble_eq_true rfl) (Nat.le_of_ble_eq_true rfl) (Nat.le_of_ble_eq_true rfl) (Nat.le_of_ble_eq_true rfl) (Nat.le_of_ble_eq_true rfl) dX9_toldHer_109 (fun u_22 H locs hw_u_22 hP hD hS => ?_)
                    obtain ⟨o_24, o_25, o_26, o_27, o_28⟩ := u_22
                    replace hw_u_22 : (o_24, o_25, o_26, o_27, o_28) = (f_e_run_x4 w_14m0 w_14m1 w_14m2 w_14m3 w_14m4 (atF 6 ftb w_6l6) (f_e_forceOf_x8 t0 t1 t2 t3 t4 ftc w_6l6 w_14l7) t4 (atF 6 fta b_)) := hw_u_22
                    rw [← hw_u_22] at hE
                    replace hE : (match (match (if o_27 = 0 then (if o_28 = 0 then (f_e_toldHer_x9_52 q1 q2 q10 q12 k0 k1 k2 k3 k4 t0 t1 t2 t3 t4 fta ftb ftc fft b_ k_ i_ w_6l6 n_w_14 (w_14l7 + 1) w_14l5 w_14l4 o_24 o_25 o_26 o_27 o_28 w_14m5) else (if o_24 = k_ then (f_e_toldHer_x9_52 q1 q2 q10 q12 k0 k1 k2 k3 k4 t0 t1 t2 t3 t4 fta ftb ftc fft b_ k_ i_ w_6l6 n_w_14 (w_14l7 + 1) (w_14l5 ||| (1 <<< (w_14l7 &&& 31))) (w_14l4 + 1) o_24 o_25 o_26 o_27 o_28 (putF 30 w_14m5 w_14l4 ((10 * w_6l6) + w_14l7))) else (f_e_toldHer_x9_52 q1 q2 q10 q12 k0 k1 k2 k3 k4 t0 t1 t2 t3 t4 fta ftb ftc fft b_ k_ i_ w_6l6 n_w_14 (w_14l7 + 1) w_14l5 w_14l4 o_24 o_25 o_26 o_27 o_28 w_14m5))) else (f_e_toldHer_x9_52 q1 q2 q10 q12 k0 k1 k2 k3 k4 t0 t1 t2 t3 t4 fta ftb ftc fft b_ k_ i_ w_6l6 n_w_14 (w_14l7 + 1) w_14l5 w_14l4 o_24 o_25 o_26 o_27 o_28 w_14m5)) with | (w_14l7, w_14l5, w_14l4, w_14m0, w_14m1, w_14m2, w_14m3, w_14m4, w_14m5) => (f_e_toldHer_x9_37 q1 q2 q10 q12 k0 k1 k2 k3 k4 t0 t1 t2 t3 t4 fta ftb ftc fft b_ k_ i_ n_w_6 (w_6l6 + 1) w_14l5 w_14l4 w_14m0 w_14m1 w_14m2 w_14m3 w_14m4 w_14m5)) with | (w_6l6, w_6l5, w_6l4, w_6m0, w_6m1, w_6m2, w_6m3, w_6m4, w_6m5) => (if i_ = (-1) then (w_6l4, w_6m0, w_6m1, w_6m2, w_6m3, w_6m4, w_6m5) else (if i_ = (-2) then (w_6l5, w_6m0, w_6m1, w_6m2, w_6m3, w_6m4, w_6m5) else (if i_ < 0 then ((-1), w_6m0, w_6m1, w_6m2, w_6m3, w_6m4, w_6m5) else (if w_6l4 ≤ i_ then ((-1), w_6m0, w_6m1, w_6m2, w_6m3, w_6m4, w_6m5) else ((atF 30 w_6m5 i_), w_6m0, w_6m1, w_6m2, w_6m3, w_6m4, w_6m5)))))) = RES := hE
                    have hP : va_P D classes [(h, .inr (9, [.ref x, .int q1, .int q2, .ref rd, .ref t, .ref d, .ref nw, .ref ps, .ref im, .ref is_, .int q10, .ref bk, .int q12, .ref qr, .ref pr, .ref cv, .ref ft])), (ft, .inl (cI, 30, .inl w_14m5)), (tb, .inl (cI, 6, .inl ftb)), (t, .inr (8, [.int t0, .int t1, .int t2, .int t3, .int t4, .ref ta, .ref tb, .ref tc, .ref td, .ref te])), (tc, .inl (cI, 30, .inl ftc)), (ta, .inl (cI, 6, .inl fta)), (qr, .inr (4, [.int o_24, .int o_25, .int o_26, .int o_27, .int o_28]))] H := hP
                    have hD : va_D A [(h, .inr (9, [.ref x, .int q1, .int q2, .ref rd, .ref t, .ref d, .ref nw, .ref ps, .ref im, .ref is_, .int q10, .ref bk, .int q12, .ref qr, .ref pr, .ref cv, .ref ft])), (ft, .inl (cI, 30, .inl w_14m5)), (tb, .inl (cI, 6, .inl ftb)), (t, .inr (8, [.int t0, .int t1, .int t2, .int t3, .int t4, .ref ta, .ref tb, .ref tc, .ref td, .ref te])), (tc, .inl (cI, 30, .inl ftc)), (ta, .inl (cI, 6, .inl fta)), (qr, .inr (4, [.int o_24, .int o_25, .int o_26, .int o_27, .int o_28]))] := hD
                    refine lv_aload_n hx hb dX9_toldHer_112 rfl (lv_at hl 4 rfl) ?_
                    refine va_get (D := D) (ci := 9) (v := .ref qr) (C := RX9) (T := TX9) (N := 17) hx hb hts iX9 hown hK hP 0 rfl rfl 13 (Nat.le_of_ble_eq_true rfl) (hts _ wd_120) (fun _ h9 => h9) rfl dX9_toldHer_113 ?_
                    refine va_get (D := D) (ci := 4) (v := .int o_27) (C := RX4) (T := TX4) (N := 5) hx hb hts iX4 hown hK hP 6 rfl rfl 3 (Nat.le_of_ble_eq_true rfl) (hts _ wd_274) (fun _ h9 => h9) rfl dX9_toldHer_116 ?_
                    refine lv_if_ne (tgt := 172) hx hb dX9_toldHer_119 rfl (fun c_29 => ?_) (fun c_29 => ?_)
                    · rw [if_neg c_29] at hE
                      refine lv_iinc (v := (w_14l7 + 1)) (lv' := [(7, .int (w_14l7 + 1)), (6, .int w_6l6), (5, .int w_14l5), (4, .int w_14l4), (0, .ref h), (1, .int b_), (2, .int k_), (3, .int i_)]) hx hb dX9_toldHer_172 hl (k := 0) rfl rfl (Nat.le_of_ble_eq_true rfl) rfl (fun ls hl => ?_)
                      refine lv_goto (tgt := 52) hx hb dX9_toldHer_175 rfl ?_
                      exact ih_w_14 (w_14l7 + 1) w_14l5 w_14l4 o_24 o_25 o_26 o_27 o_28 w_14m5 _ _ ls (cutP (isC := [0, 6, 5, 2, 4, 1, 3]) hP rfl) (cutD (isC := [0, 6, 5, 2, 4, 1, 3]) hD rfl rfl) hS (lv_sub hl [0, 1, 2, 3, 4, 5, 6, 7] rfl) (up_step c_15 hm) hE
                    · rw [if_pos c_29] at hE
                      refine lv_aload_n hx hb dX9_toldHer_122 rfl (lv_at hl 4 rfl) ?_
                      refine va_get (D := D) (ci := 9) (v := .ref qr) (C := RX9) (T := TX9) (N := 17) hx hb hts iX9 hown hK hP 0 rfl rfl 13 (Nat.le_of_ble_eq_true rfl) (hts _ wd_120) (fun _ h9 => h9) rfl dX9_toldHer_123 ?_
                      refine va_get (D := D) (ci := 4) (v := .int o_28) (C := RX4) (T := TX4) (N := 5) hx hb hts iX4 hown hK hP 6 rfl rfl 4 (Nat.le_of_ble_eq_true rfl) (hts _ wd_263) (fun _ h9 => h9) rfl dX9_toldHer_126 ?_
                      refine lv_if_eq (tgt := 172) hx hb dX9_toldHer_129 rfl (fun c_30 => ?_) (fun c_30 => ?_)
                      · rw [if_pos c_30] at hE
                        refine lv_iinc (v := (w_14l7 + 1)) (lv' := [(7, .int (w_14l7 + 1)), (6, .int w_6l6), (5, .int w_14l5), (4, .int w_14l4), (0, .ref h), (1, .int b_), (2, .int k_), (3, .int i_)]) hx hb dX9_toldHer_172 hl (k := 0) rfl rfl (Nat.le_of_ble_eq_true rfl) rfl (fun ls hl => ?_)
                        refine lv_goto (tgt := 52) hx hb dX9_toldHer_175 rfl ?_
                        exact ih_w_14 (w_14l7 + 1) w_14l5 w_14l4 o_24 o_25 o_26 o_27 o_28 w_14m5 _ _ ls (cutP (isC := [0, 6, 5, 2, 4, 1, 3]) hP rfl) (cutD (isC := [0, 6, 5, 2, 4, 1, 3]) hD rfl rfl) hS (lv_sub hl [0, 1, 2, 3, 4, 5, 6, 7] rfl) (up_step c_15 hm) hE
                      · rw [if_neg c_30] at hE
                        refine lv_aload_n hx hb dX9_toldHer_132 rfl (lv_at hl 4 rfl) ?_
                        refine va_get (D := D) (ci := 9) (v := .ref qr) (C := RX9) (T := TX9) (N := 17) hx hb hts iX9 hown hK hP 0 rfl rfl 13 (Nat.le_of_ble_eq_true rfl) (hts _ wd_120) (fun _ h9 => h9) rfl dX9_toldHer_133 ?_
                        refine va_get (D := D) (ci := 4) (v := .int o_24) (C := RX4) (T := TX4) (N := 5) hx hb hts iX4 hown hK hP 6 rfl rfl 0 (Nat.le_of_ble_eq_true rfl) (hts _ wd_264) (fun _ h9 => h9) rfl dX9_toldHer_136 ?_
                        refine lv_iload_n hx hb dX9_toldHer_139 rfl (lv_at hl 6 rfl) ?_
                        refine lv_icmp_ne (tgt := 172) hx hb dX9_toldHer_140 rfl (fun c_31 => ?_) (fun c_31 => ?_)
                        · rw [if_neg c_31] at hE
                          refine lv_iinc (v := (w_14l7 + 1)) (lv' := [(7, .int (w_14l7 + 1)), (6, .int w_6l6), (5, .int w_14l5), (4, .int w_14l4), (0, .ref h), (1, .int b_), (2, .int k_), (3, .int i_)]) hx hb dX9_toldHer_172 hl (k := 0) rfl rfl (Nat.le_of_ble_eq_true rfl) rfl (fun ls hl => ?_)
                          refine lv_goto (tgt := 52) hx hb dX9_toldHer_175 rfl ?_
                          exact ih_w_14 (w_14l7 + 1) w_14l5 w_14l4 o_24 o_25 o_26 o_27 o_28 w_14m5 _ _ ls (cutP (isC := [0, 6, 5, 2, 4, 1, 3]) hP rfl) (cutD (isC := [0, 6, 5, 2, 4, 1, 3]) hD rfl rfl) hS (lv_sub hl [0, 1, 2, 3, 4, 5, 6, 7] rfl) (up_step c_15 hm) hE
                        · rw [if_pos c_31] at hE
                          refine lv_aload_n hx hb dX9_toldHer_143 rfl (lv_at hl 4 rfl) ?_
                          refine va_get (D := D) (ci := 9) (v := .ref ft) (C := RX9) (T := TX9) (N := 17) hx hb hts iX9 hown hK hP 0 rfl rfl 16 (Nat.le_of_ble_eq_true rfl) (hts _ wd_133) (fun _ h9 => h9) rfl dX9_toldHer_144 ?_
                          refine lv_iload hx hb dX9_toldHer_147 (lv_at hl 3 rfl) ?_
                          refine lv_bipush (v := 10) hx hb dX9_toldHer_149 rfl ?_
                          refine lv_iload hx hb dX9_toldHer_151 (lv_at hl 1 rfl) ?_
                          refine lv_imul hx hb dX9_toldHer_153 ?_
                          refine lv_iload hx hb dX9_toldHer_154 (lv_at hl 0 rfl) ?_
                          refine lv_iadd hx hb dX9_toldHer_156 ?_
                          refine cSv (wr := [(h, .inr (9, [.ref x, .int q1, .int q2, .ref rd, .ref t, .ref d, .ref nw, .ref ps, .ref im, .ref is_, .int q10, .ref bk, .int q12, .ref qr, .ref pr, .ref cv, .ref ft])), (tb, .inl (cI, 6, .inl ftb)), (t, .inr (8, [.int t0, .int t1, .int t2, .int t3, .int t4, .ref ta, .ref tb, .ref tc, .ref td, .ref te])), (tc, .inl (cI, 30, .inl ftc)), (ta, .inl (cI, 6, .inl fta)), (qr, .inr (4, [.int o_24, .int o_25, .int o_26, .int o_27, .int o_28]))]) (rest := []) (k_put ft 30 w_14m5 w_14l4 ((10 * w_6l6) + w_14l7) (of_decide_eq_true rfl)) okS_X9_put wd_340 hx hb hml hown hts hK hP hD hS hA hN hl.1 [1] [0, 2, 3, 4, 5, 6] rfl rfl rfl rfl (by decide) rfl (Nat.le_of_ble_eq_true rfl) (Nat.le_of_ble_eq_true rfl) (Nat.le_of_ble_eq_true rfl) (Nat.le_of_ble_eq_true rfl) (Nat.le_of_ble_eq_true rfl) dX9_toldHer_157 (fun u_32 H locs hw_u_32 hP hD hS => ?_)
                          have hP : va_P D classes [(h, .inr (9, [.ref x, .int q1, .int q2, .ref rd, .ref t, .ref d, .ref nw, .ref ps, .ref im, .ref is_, .int q10, .ref bk, .int q12, .ref qr, .ref pr, .ref cv, .ref ft])), (tb, .inl (cI, 6, .inl ftb)), (t, .inr (8, [.int t0, .int t1, .int t2, .int t3, .int t4, .ref ta, .ref tb, .ref tc, .ref td, .ref te])), (tc, .inl (cI, 30, .inl ftc)), (ta, .inl (cI, 6, .inl fta)), (qr, .inr (4, [.int o_24, .int o_25, .int o_26, .int o_27, .int o_28])), (ft, .inl (cI, 30, .inl (putF 30 w_14m5 w_14l4 ((10 * w_6l6) + w_14l7))))] H := hP
                          have hD : va_D A [(h, .inr (9, [.ref x, .int q1, .int q2, .ref rd, .ref t, .ref d, .ref nw, .ref ps, .ref im, .ref is_, .int q10, .ref bk, .int q12, .ref qr, .ref pr, .ref cv, .ref ft])), (tb, .inl (cI, 6, .inl ftb)), (t, .inr (8, [.int t0, .int t1, .int t2, .int t3, .int t4, .ref ta, .ref tb, .ref tc, .ref td, .ref te])), (tc, .inl (cI, 30, .inl ftc)), (ta, .inl (cI, 6, .inl fta)), (qr, .inr (4, [.int o_24, .int o_25, .int o_26, .int o_27, .int o_28])), (ft, .inl (cI, 30, .inl (putF 30 w_14m5 w_14l4 ((10 * w_6l6) + w_14l7))))] := hD
                          refine lv_iinc (v := (w_14l4 + 1)) (lv' := [(4, .int (w_14l4 + 1)), (7, .int w_14l7), (6, .int w_6l6), (5, .int w_14l5), (0, .ref h), (1, .int b_), (2, .int k_), (3, .int i_)]) hx hb dX9_toldHer_160 hl (k := 3) rfl rfl (Nat.le_of_ble_eq_true rfl) rfl (fun ls hl => ?_)
                          refine lv_iload hx hb dX9_toldHer_163 (lv_at hl 3 rfl) ?_
                          refine lv_iconst (v := 1) hx hb dX9_toldHer_165 rfl ?_
                          refine lv_iload hx hb dX9_toldHer_166 (lv_at hl 1 rfl) ?_
                          refine lv_ishl hx hb dX9_toldHer_168 ?_
                          refine lv_ior hx hb dX9_toldHer_169 ?_
                          refine lv_istore (lv' := [(5, .int (w_14l5 ||| (1 <<< (w_14l7 &&& 31)))), (4, .int (w_14l4 + 1)), (7, .int w_14l7), (6, .int w_6l6), (0, .ref h), (1, .int b_), (2, .int k_), (3, .int i_)]) hx hb dX9_toldHer_170 hl (Nat.le_of_ble_eq_true rfl) rfl (fun ls hl => ?_)
                          refine lv_iinc (v := (w_14l7 + 1)) (lv' := [(7, .int (w_14l7 + 1)), (5, .int (w_14l5 ||| (1 <<< (w_14l7 &&& 31)))), (4, .int (w_14l4 + 1)), (6, .int w_6l6), (0, .ref h), (1, .int b_), (2, .int k_), (3, .int i_)]) hx hb dX9_toldHer_172 hl (k := 2) rfl rfl (Nat.le_of_ble_eq_true rfl) rfl (fun ls hl => ?_)
                          refine lv_goto (tgt := 52) hx hb dX9_toldHer_175 rfl ?_
                          exact ih_w_14 (w_14l7 + 1) (w_14l5 ||| (1 <<< (w_14l7 &&& 31))) (w_14l4 + 1) o_24 o_25 o_26 o_27 o_28 (putF 30 w_14m5 w_14l4 ((10 * w_6l6) + w_14l7)) _ _ ls (cutP (isC := [0, 5, 4, 1, 3, 6, 2]) hP rfl) (cutD (isC := [0, 5, 4, 1, 3, 6, 2]) hD rfl rfl) hS (lv_sub hl [0, 3, 1, 2, 4, 5, 6, 7] rfl) (up_step c_15 hm) hE
              exact lp_52_w_14 (((t1 : Int32).toInt - (0 : Int32).toInt).toNat + 1) 0 w_6l5 w_6l4 w_6m0 w_6m1 w_6m2 w_6m3 w_6m4 w_6m5 _ _ ls hP hD hS hl (Nat.lt_succ_self _) hE
        exact lp_37_w_6 (((t2 : Int32).toInt - (0 : Int32).toInt).toNat + 1) 0 0 0 k0 k1 k2 k3 k4 fft _ _ ls hP hD hS hl (Nat.lt_succ_self _) hE
      · rw [if_neg c_5] at hE
        refine lv_ldc (v := (-1000000002)) hx hb hown (hts _ wd_339) dX9_toldHer_25 ?_
        exact hret (-1000000002) (k0, k1, k2, k3, k4, fft) _ _ _ _ dX9_toldHer_27 rfl hE (cutP (isC := [0, 1, 6, 2, 3, 4, 5]) hP rfl) (cutD (isC := [0, 1, 6, 2, 3, 4, 5]) hD rfl rfl) hS
  · rw [if_pos c_3] at hE
    refine lv_ldc (v := (-1000000001)) hx hb hown (hts _ wd_346) dX9_toldHer_11 ?_
    exact hret (-1000000001) (k0, k1, k2, k3, k4, fft) _ _ _ _ dX9_toldHer_13 rfl hE (cutP (isC := [0, 1, 6, 2, 3, 4, 5]) hP rfl) (cutD (isC := [0, 1, 6, 2, 3, 4, 5]) hD rfl rfl) hS
noncomputable def f_e_order_x9_17 (q1 : Int32) (q2 : Int32) (q10 : Int32) (q12 : Int32) (v0 : Int32) (v7 : Int32) (v8 : Int32) (fc1 : Nat → Int32) (fc2 : Nat → Int32) (fc3 : Nat → Int32) (fc4 : Nat → Int32) (fc5 : Nat → Int32) (fc6 : Nat → Int32) (k0 : Int32) (k1 : Int32) (k2 : Int32) (k3 : Int32) (k4 : Int32) (t0 : Int32) (t1 : Int32) (t2 : Int32) (t3 : Int32) (t4 : Int32) (fta : Nat → Int32) (ftc : Nat → Int32) (ftd : Nat → Int32) (fte : Nat → Int32) (fn : Nat → Int32) (i_ : Int32) (n : Nat) : Int32 → Int32 → Int32 → Int32 → Int32 → Int32 → Int32 → Int32 → Int32 → (Nat → Int32) → (Nat → Int32) → (Nat → Int32) → (Nat → Int32) → (Nat → Int32) → (Nat → Int32) → Int32 × Int32 × Int32 × Int32 × Int32 × Int32 × Int32 × Int32 × Int32 × (Nat → Int32) × (Nat → Int32) × (Nat → Int32) × (Nat → Int32) × (Nat → Int32) × (Nat → Int32) := Nat.rec (motive := fun _ => Int32 → Int32 → Int32 → Int32 → Int32 → Int32 → Int32 → Int32 → Int32 → (Nat → Int32) → (Nat → Int32) → (Nat → Int32) → (Nat → Int32) → (Nat → Int32) → (Nat → Int32) → Int32 × Int32 × Int32 × Int32 × Int32 × Int32 × Int32 × Int32 × Int32 × (Nat → Int32) × (Nat → Int32) × (Nat → Int32) × (Nat → Int32) × (Nat → Int32) × (Nat → Int32)) (fun w_7l2 w_7m0 w_7m1 w_7m2 w_7m3 w_7m4 w_7m5 w_7m6 w_7m7 w_7m8 w_7m9 w_7m10 w_7m11 w_7m12 w_7m13 => (w_7l2, w_7m0, w_7m1, w_7m2, w_7m3, w_7m4, w_7m5, w_7m6, w_7m7, w_7m8, w_7m9, w_7m10, w_7m11, w_7m12, w_7m13)) (fun n ih w_7l2 w_7m0 w_7m1 w_7m2 w_7m3 w_7m4 w_7m5 w_7m6 w_7m7 w_7m8 w_7m9 w_7m10 w_7m11 w_7m12 w_7m13 => (if t0 ≤ w_7l2 then (w_7l2, w_7m0, w_7m1, w_7m2, w_7m3, w_7m4, w_7m5, w_7m6, w_7m7, w_7m8, w_7m9, w_7m10, w_7m11, w_7m12, w_7m13) else (match (f_e_noteOpenings_x9 q1 q2 q10 q12 w_7m0 w_7m1 w_7m2 w_7m3 w_7m4 t0 t1 t2 t3 t4 fta ftc fn w_7m5 w_7m6 w_7m7 w_7m9 w_7m10 w_7l2) with | (o_23, o_24, o_25, o_26, o_27, o_28, o_29) => (ih (w_7l2 + 1) o_23 o_24 o_25 o_26 o_27 w_7m5 w_7m6 w_7m7 w_7m8 o_28 o_29 w_7m11 w_7m12 w_7m13)))) n
theorem f_e_order_x9_17_s (q1 : Int32) (q2 : Int32) (q10 : Int32) (q12 : Int32) (v0 : Int32) (v7 : Int32) (v8 : Int32) (fc1 : Nat → Int32) (fc2 : Nat → Int32) (fc3 : Nat → Int32) (fc4 : Nat → Int32) (fc5 : Nat → Int32) (fc6 : Nat → Int32) (k0 : Int32) (k1 : Int32) (k2 : Int32) (k3 : Int32) (k4 : Int32) (t0 : Int32) (t1 : Int32) (t2 : Int32) (t3 : Int32) (t4 : Int32) (fta : Nat → Int32) (ftc : Nat → Int32) (ftd : Nat → Int32) (fte : Nat → Int32) (fn : Nat → Int32) (i_ : Int32) (n : Nat) (w_7l2 : Int32) (w_7m0 : Int32) (w_7m1 : Int32) (w_7m2 : Int32) (w_7m3 : Int32) (w_7m4 : Int32) (w_7m5 : Int32) (w_7m6 : Int32) (w_7m7 : Int32) (w_7m8 : (Nat → Int32)) (w_7m9 : (Nat → Int32)) (w_7m10 : (Nat → Int32)) (w_7m11 : (Nat → Int32)) (w_7m12 : (Nat → Int32)) (w_7m13 : (Nat → Int32)) : f_e_order_x9_17 q1 q2 q10 q12 v0 v7 v8 fc1 fc2 fc3 fc4 fc5 fc6 k0 k1 k2 k3 k4 t0 t1 t2 t3 t4 fta ftc ftd fte fn i_ (n + 1) w_7l2 w_7m0 w_7m1 w_7m2 w_7m3 w_7m4 w_7m5 w_7m6 w_7m7 w_7m8 w_7m9 w_7m10 w_7m11 w_7m12 w_7m13 = (if t0 ≤ w_7l2 then (w_7l2, w_7m0, w_7m1, w_7m2, w_7m3, w_7m4, w_7m5, w_7m6, w_7m7, w_7m8, w_7m9, w_7m10, w_7m11, w_7m12, w_7m13) else (match (f_e_noteOpenings_x9 q1 q2 q10 q12 w_7m0 w_7m1 w_7m2 w_7m3 w_7m4 t0 t1 t2 t3 t4 fta ftc fn w_7m5 w_7m6 w_7m7 w_7m9 w_7m10 w_7l2) with | (o_23, o_24, o_25, o_26, o_27, o_28, o_29) => (f_e_order_x9_17 q1 q2 q10 q12 v0 v7 v8 fc1 fc2 fc3 fc4 fc5 fc6 k0 k1 k2 k3 k4 t0 t1 t2 t3 t4 fta ftc ftd fte fn i_ n (w_7l2 + 1) o_23 o_24 o_25 o_26 o_27 w_7m5 w_7m6 w_7m7 w_7m8 o_28 o_29 w_7m11 w_7m12 w_7m13))) := rfl
noncomputable def f_e_order_x9 (q1 : Int32) (q2 : Int32) (q10 : Int32) (q12 : Int32) (v0 : Int32) (v7 : Int32) (v8 : Int32) (fc1 : Nat → Int32) (fc2 : Nat → Int32) (fc3 : Nat → Int32) (fc4 : Nat → Int32) (fc5 : Nat → Int32) (fc6 : Nat → Int32) (k0 : Int32) (k1 : Int32) (k2 : Int32) (k3 : Int32) (k4 : Int32) (t0 : Int32) (t1 : Int32) (t2 : Int32) (t3 : Int32) (t4 : Int32) (fta : Nat → Int32) (ftc : Nat → Int32) (ftd : Nat → Int32) (fte : Nat → Int32) (fn : Nat → Int32) (i_ : Int32) : Int32 × Int32 × Int32 × Int32 × Int32 × Int32 × Int32 × Int32 × Int32 × (Nat → Int32) × (Nat → Int32) × (Nat → Int32) × (Nat → Int32) × (Nat → Int32) × (Nat → Int32) := (match (f_e_gather_x1 v0 v7 v8 fc2 fc3 t0 t1 t2 t3 t4 fn) with | (o_3, o_4, o_5, o_6) => (match (f_e_order_x9_17 q1 q2 q10 q12 v0 v7 v8 fc1 fc2 fc3 fc4 fc5 fc6 k0 k1 k2 k3 k4 t0 t1 t2 t3 t4 fta ftc ftd fte fn i_ (((t0 : Int32).toInt - (0 : Int32).toInt).toNat + 1) 0 k0 k1 k2 k3 k4 v0 o_3 o_4 fc1 o_5 o_6 fc4 fc5 fc6) with | (w_7l2, w_7m0, w_7m1, w_7m2, w_7m3, w_7m4, w_7m5, w_7m6, w_7m7, w_7m8, w_7m9, w_7m10, w_7m11, w_7m12, w_7m13) => (match (f_e_solve_x1 w_7m5 w_7m6 w_7m7 t0 t1 t2 t3 t4 ftd fte w_7m8 w_7m9 w_7m10 w_7m11 w_7m12 w_7m13) with | (o_10, o_11, o_12, o_13, o_14) => (if i_ = (-1) then (o_10, w_7m0, w_7m1, w_7m2, w_7m3, w_7m4, o_10, w_7m6, w_7m7, o_11, w_7m9, w_7m10, o_12, o_13, o_14) else (if i_ < 0 then ((-1), w_7m0, w_7m1, w_7m2, w_7m3, w_7m4, o_10, w_7m6, w_7m7, o_11, w_7m9, w_7m10, o_12, o_13, o_14) else (if o_10 ≤ i_ then ((-1), w_7m0, w_7m1, w_7m2, w_7m3, w_7m4, o_10, w_7m6, w_7m7, o_11, w_7m9, w_7m10, o_12, o_13, o_14) else ((atF 7 o_11 i_), w_7m0, w_7m1, w_7m2, w_7m3, w_7m4, o_10, w_7m6, w_7m7, o_11, w_7m9, w_7m10, o_12, o_13, o_14)))))))
def rm_e_order_x9 : Room := { frames := 4, cells := 0, slots := 0, locals := 104 }
set_option maxHeartbeats 4000000 in
set_option maxRecDepth 100000 in
theorem e_order_x9 {l : Launch} {D : va_G} {cI cZ : ClassId} {sz : Nat} (cvt : Value) (h x rd t d nw ps im is_ bk qr pr cv ft c1 c2 c3 c4 c5 c6 ta tb tc td te nwc : Nat) (q1 : Int32) (q2 : Int32) (q10 : Int32) (q12 : Int32) (v0 : Int32) (v7 : Int32) (v8 : Int32) (fc1 : Nat → Int32) (fc2 : Nat → Int32) (fc3 : Nat → Int32) (fc4 : Nat → Int32) (fc5 : Nat → Int32) (fc6 : Nat → Int32) (k0 : Int32) (k1 : Int32) (k2 : Int32) (k3 : Int32) (k4 : Int32) (t0 : Int32) (t1 : Int32) (t2 : Int32) (t3 : Int32) (t4 : Int32) (fta : Nat → Int32) (ftc : Nat → Int32) (ftd : Nat → Int32) (fte : Nat → Int32) (fn : Nat → Int32) (i_ : Int32) : KI l yX9_order cX9_order 3 (some .int) rm_e_order_x9 D cI cZ [.ref h, .int i_] sz [(h, .inr (9, [.ref x, .int q1, .int q2, .ref rd, .ref t, .ref d, .ref nw, .ref ps, .ref im, .ref is_, .int q10, .ref bk, .int q12, .ref qr, .ref pr, .ref cv, .ref ft])), (cv, .inr (1, [.int v0, .ref c1, .ref c2, .ref c3, .ref c4, .ref c5, .ref c6, .int v7, .int v8, cvt])), (c1, .inl (cI, 7, .inl fc1)), (c2, .inl (cI, 6, .inl fc2)), (c3, .inl (cI, 48, .inl fc3)), (c4, .inl (cI, 128, .inl fc4)), (c5, .inl (cI, 128, .inl fc5)), (c6, .inl (cI, 128, .inl fc6)), (qr, .inr (4, [.int k0, .int k1, .int k2, .int k3, .int k4])), (t, .inr (8, [.int t0, .int t1, .int t2, .int t3, .int t4, .ref ta, .ref tb, .ref tc, .ref td, .ref te])), (ta, .inl (cI, 6, .inl fta)), (tc, .inl (cI, 30, .inl ftc)), (td, .inl (cI, 7, .inl ftd)), (te, .inl (cI, 7, .inl fte)), (nw, .inr (7, [.ref nwc])), (nwc, .inl (cI, 41, .inl fn))] (fun (r : Int32) (u : Int32 × Int32 × Int32 × Int32 × Int32 × Int32 × Int32 × Int32 × (Nat → Int32) × (Nat → Int32) × (Nat → Int32) × (Nat → Int32) × (Nat → Int32) × (Nat → Int32)) => (r, u) = f_e_order_x9 q1 q2 q10 q12 v0 v7 v8 fc1 fc2 fc3 fc4 fc5 fc6 k0 k1 k2 k3 k4 t0 t1 t2 t3 t4 fta ftc ftd fte fn i_) (fun (u : Int32 × Int32 × Int32 × Int32 × Int32 × Int32 × Int32 × Int32 × (Nat → Int32) × (Nat → Int32) × (Nat → Int32) × (Nat → Int32) × (Nat → Int32) × (Nat → Int32)) => [(h, .inr (9, [.ref x, .int q1, .int q2, .ref rd, .ref t, .ref d, .ref nw, .ref ps, .ref im, .ref is_, .int q10, .ref bk, .int q12, .ref qr, .ref pr, .ref cv, .ref ft])), (cv, .inr (1, [.int (u.2.2.2.2.2.1), .ref c1, .ref c2, .ref c3, .ref c4, .ref c5, .ref c6, .int (u.2.2.2.2.2.2.1), .int (u.2.2.2.2.2.2.2.1), .ref t])), (c1, .inl (cI, 7, .inl u.2.2.2.2.2.2.2.2.1)), (c2, .inl (cI, 6, .inl u.2.2.2.2.2.2.2.2.2.1)), (c3, .inl (cI, 48, .inl u.2.2.2.2.2.2.2.2.2.2.1)), (c4, .inl (cI, 128, .inl u.2.2.2.2.2.2.2.2.2.2.2.1)), (c5, .inl (cI, 128, .inl u.2.2.2.2.2.2.2.2.2.2.2.2.1)), (c6, .inl (cI, 128, .inl u.2.2.2.2.2.2.2.2.2.2.2.2.2)), (qr, .inr (4, [.int (u.1), .int (u.2.1), .int (u.2.2.1), .int (u.2.2.2.1), .int (u.2.2.2.2.1)])), (t, .inr (8, [.int t0, .int t1, .int t2, .int t3, .int t4, .ref ta, .ref tb, .ref tc, .ref td, .ref te])), (ta, .inl (cI, 6, .inl fta)), (tc, .inl (cI, 30, .inl ftc)), (td, .inl (cI, 7, .inl ftd)), (te, .inl (cI, 7, .inl fte)), (nw, .inr (7, [.ref nwc])), (nwc, .inl (cI, 41, .inl fn))]) := by
  refine KI.go rfl (Nat.le_of_ble_eq_true rfl) ?_
  intro p e s m args below meth c ls A Q hx hb hml hts hown hin hP hK hD hS hA hN hl hret
  have hl : lv_has ls 3 [(0, .ref h), (1, .int i_)] := hl
  obtain ⟨RES, hE⟩ : ∃ xRES, f_e_order_x9 q1 q2 q10 q12 v0 v7 v8 fc1 fc2 fc3 fc4 fc5 fc6 k0 k1 k2 k3 k4 t0 t1 t2 t3 t4 fta ftc ftd fte fn i_ = xRES := ⟨_, rfl⟩
  rw [hE] at hret
  rw [f_e_order_x9] at hE
  refine lv_aload_n hx hb dX9_order_0 rfl (lv_at hl 0 rfl) ?_
  refine va_get (D := D) (ci := 9) (v := .ref cv) (C := RX9) (T := TX9) (N := 17) hx hb hts iX9 hown hK hP 0 rfl rfl 15 (Nat.le_of_ble_eq_true rfl) (hts _ wd_132) (fun _ h9 => h9) rfl dX9_order_1 ?_
  refine lv_aload_n hx hb dX9_order_4 rfl (lv_at hl 0 rfl) ?_
  refine va_get (D := D) (ci := 9) (v := .ref t) (C := RX9) (T := TX9) (N := 17) hx hb hts iX9 hown hK hP 0 rfl rfl 4 (Nat.le_of_ble_eq_true rfl) (hts _ wd_89) (fun _ h9 => h9) rfl dX9_order_5 ?_
  refine lv_aload_n hx hb dX9_order_8 rfl (lv_at hl 0 rfl) ?_
  refine va_get (D := D) (ci := 9) (v := .ref nw) (C := RX9) (T := TX9) (N := 17) hx hb hts iX9 hown hK hP 0 rfl rfl 6 (Nat.le_of_ble_eq_true rfl) (hts _ wd_96) (fun _ h9 => h9) rfl dX9_order_9 ?_
  refine cVv (wr := [(h, .inr (9, [.ref x, .int q1, .int q2, .ref rd, .ref t, .ref d, .ref nw, .ref ps, .ref im, .ref is_, .int q10, .ref bk, .int q12, .ref qr, .ref pr, .ref cv, .ref ft])), (c1, .inl (cI, 7, .inl fc1)), (c4, .inl (cI, 128, .inl fc4)), (c5, .inl (cI, 128, .inl fc5)), (c6, .inl (cI, 128, .inl fc6)), (qr, .inr (4, [.int k0, .int k1, .int k2, .int k3, .int k4])), (ta, .inl (cI, 6, .inl fta)), (tc, .inl (cI, 30, .inl ftc)), (td, .inl (cI, 7, .inl ftd)), (te, .inl (cI, 7, .inl fte))]) (rest := []) (e_gather_x1 cvt cv c1 c2 c3 c4 c5 c6 t ta tb tc td te nw nwc v0 v7 v8 fc2 fc3 t0 t1 t2 t3 t4 fn) okV_X1_gather wd_471 hx hb hml hown hts hK hP hD hS hA hN hl.1 [1, 3, 4, 9, 14, 15] [0, 2, 5, 6, 7, 8, 10, 11, 12, 13] rfl rfl rfl rfl (of_decide_eq_true rfl) rfl rfl rfl (Nat.le_of_ble_eq_true rfl) (Nat.le_of_ble_eq_true rfl) (Nat.le_of_ble_eq_true rfl) (Nat.le_of_ble_eq_true rfl) (Nat.le_of_ble_eq_true rfl) dX9_order_12 (fun u_1 H locs hw_u_1 hP hD hS => ?_)
  obtain ⟨o_3, o_4, o_5, o_6⟩ := u_1
  replace hw_u_1 : (o_3, o_4, o_5, o_6) = (f_e_gather_x1 v0 v7 v8 fc2 fc3 t0 t1 t2 t3 t4 fn) := hw_u_1
  rw [← hw_u_1] at hE
  replace hE : (match (f_e_order_x9_17 q1 q2 q10 q12 v0 v7 v8 fc1 fc2 fc3 fc4 fc5 fc6 k0 k1 k2 k3 k4 t0 t1 t2 t3 t4 fta ftc ftd fte fn i_ (((t0 : Int32).toInt - (0 : Int32).toInt).toNat + 1) 0 k0 k1 k2 k3 k4 v0 o_3 o_4 fc1 o_5 o_6 fc4 fc5 fc6) with | (w_7l2, w_7m0, w_7m1, w_7m2, w_7m3, w_7m4, w_7m5, w_7m6, w_7m7, w_7m8, w_7m9, w_7m10, w_7m11, w_7m12, w_7m13) => (match (f_e_solve_x1 w_7m5 w_7m6 w_7m7 t0 t1 t2 t3 t4 ftd fte w_7m8 w_7m9 w_7m10 w_7m11 w_7m12 w_7m13) with | (o_10, o_11, o_12, o_13, o_14) => (if i_ = (-1) then (o_10, w_7m0, w_7m1, w_7m2, w_7m3, w_7m4, o_10, w_7m6, w_7m7, o_11, w_7m9, w_7m10, o_12, o_13, o_14) else (if i_ < 0 then ((-1), w_7m0, w_7m1, w_7m2, w_7m3, w_7m4, o_10, w_7m6, w_7m7, o_11, w_7m9, w_7m10, o_12, o_13, o_14) else (if o_10 ≤ i_ then ((-1), w_7m0, w_7m1, w_7m2, w_7m3, w_7m4, o_10, w_7m6, w_7m7, o_11, w_7m9, w_7m10, o_12, o_13, o_14) else ((atF 7 o_11 i_), w_7m0, w_7m1, w_7m2, w_7m3, w_7m4, o_10, w_7m6, w_7m7, o_11, w_7m9, w_7m10, o_12, o_13, o_14)))))) = RES := hE
  have hP : va_P D classes [(h, .inr (9, [.ref x, .int q1, .int q2, .ref rd, .ref t, .ref d, .ref nw, .ref ps, .ref im, .ref is_, .int q10, .ref bk, .int q12, .ref qr, .ref pr, .ref cv, .ref ft])), (c1, .inl (cI, 7, .inl fc1)), (c4, .inl (cI, 128, .inl fc4)), (c5, .inl (cI, 128, .inl fc5)), (c6, .inl (cI, 128, .inl fc6)), (qr, .inr (4, [.int k0, .int k1, .int k2, .int k3, .int k4])), (ta, .inl (cI, 6, .inl fta)), (tc, .inl (cI, 30, .inl ftc)), (td, .inl (cI, 7, .inl ftd)), (te, .inl (cI, 7, .inl fte)), (cv, .inr (1, [.int v0, .ref c1, .ref c2, .ref c3, .ref c4, .ref c5, .ref c6, .int o_3, .int o_4, .ref t])), (c2, .inl (cI, 6, .inl o_5)), (c3, .inl (cI, 48, .inl o_6)), (t, .inr (8, [.int t0, .int t1, .int t2, .int t3, .int t4, .ref ta, .ref tb, .ref tc, .ref td, .ref te])), (nw, .inr (7, [.ref nwc])), (nwc, .inl (cI, 41, .inl fn))] H := hP
  have hD : va_D A [(h, .inr (9, [.ref x, .int q1, .int q2, .ref rd, .ref t, .ref d, .ref nw, .ref ps, .ref im, .ref is_, .int q10, .ref bk, .int q12, .ref qr, .ref pr, .ref cv, .ref ft])), (c1, .inl (cI, 7, .inl fc1)), (c4, .inl (cI, 128, .inl fc4)), (c5, .inl (cI, 128, .inl fc5)), (c6, .inl (cI, 128, .inl fc6)), (qr, .inr (4, [.int k0, .int k1, .int k2, .int k3, .int k4])), (ta, .inl (cI, 6, .inl fta)), (tc, .inl (cI, 30, .inl ftc)), (td, .inl (cI, 7, .inl ftd)), (te, .inl (cI, 7, .inl fte)), (cv, .inr (1, [.int v0, .ref c1, .ref c2, .ref c3, .ref c4, .ref c5, .ref c6, .int o_3, .int o_4, .ref t])), (c2, .inl (cI, 6, .inl o_5)), (c3, .inl (cI, 48, .inl o_6)), (t, .inr (8, [.int t0, .int t1, .int t2, .int t3, .int t4, .ref ta, .ref tb, .ref tc, .ref td, .ref te])), (nw, .inr (7, [.ref nwc])), (nwc, .inl (cI, 41, .inl fn))] := hD
  refine lv_iconst (v := 0) hx hb dX9_order_15 rfl ?_
  refine lv_istore_n (lv' := [(2, .int 0), (0, .ref h), (1, .int i_)]) hx hb dX9_order_16 rfl hl (Nat.le_of_ble_eq_true rfl) rfl (fun ls hl => ?_)
  have ex_17_w_7 : ∀ (w_7l2 : Int32) (w_7m0 : Int32) (w_7m1 : Int32) (w_7m2 : Int32) (w_7m3 : Int32) (w_7m4 : Int32) (w_7m5 : Int32) (w_7m6 : Int32) (w_7m7 : Int32) (w_7m8 : (Nat → Int32)) (w_7m9 : (Nat → Int32)) (w_7m10 : (Nat → Int32)) (w_7m11 : (Nat → Int32)) (w_7m12 : (Nat → Int32)) (w_7m13 : (Nat → Int32)) (H : Heap) (locs : List Loc) (ls : Array Slot), va_P D classes [(h, .inr (9, [.ref x, .int q1, .int q2, .ref rd, .ref t, .ref d, .ref nw, .ref ps, .ref im, .ref is_, .int q10, .ref bk, .int q12, .ref qr, .ref pr, .ref cv, .ref ft])), (c1, .inl (cI, 7, .inl w_7m8)), (c4, .inl (cI, 128, .inl w_7m11)), (c5, .inl (cI, 128, .inl w_7m12)), (c6, .inl (cI, 128, .inl w_7m13)), (qr, .inr (4, [.int w_7m0, .int w_7m1, .int w_7m2, .int w_7m3, .int w_7m4])), (ta, .inl (cI, 6, .inl fta)), (tc, .inl (cI, 30, .inl ftc)), (td, .inl (cI, 7, .inl ftd)), (te, .inl (cI, 7, .inl fte)), (cv, .inr (1, [.int w_7m5, .ref c1, .ref c2, .ref c3, .ref c4, .ref c5, .ref c6, .int w_7m6, .int w_7m7, .ref t])), (c2, .inl (cI, 6, .inl w_7m9)), (c3, .inl (cI, 48, .inl w_7m10)), (t, .inr (8, [.int t0, .int t1, .int t2, .int t3, .int t4, .ref ta, .ref tb, .ref tc, .ref td, .ref te])), (nw, .inr (7, [.ref nwc])), (nwc, .inl (cI, 41, .inl fn))] H → va_D A [(h, .inr (9, [.ref x, .int q1, .int q2, .ref rd, .ref t, .ref d, .ref nw, .ref ps, .ref im, .ref is_, .int q10, .ref bk, .int q12, .ref qr, .ref pr, .ref cv, .ref ft])), (c1, .inl (cI, 7, .inl w_7m8)), (c4, .inl (cI, 128, .inl w_7m11)), (c5, .inl (cI, 128, .inl w_7m12)), (c6, .inl (cI, 128, .inl w_7m13)), (qr, .inr (4, [.int w_7m0, .int w_7m1, .int w_7m2, .int w_7m3, .int w_7m4])), (ta, .inl (cI, 6, .inl fta)), (tc, .inl (cI, 30, .inl ftc)), (td, .inl (cI, 7, .inl ftd)), (te, .inl (cI, 7, .inl fte)), (cv, .inr (1, [.int w_7m5, .ref c1, .ref c2, .ref c3, .ref c4, .ref c5, .ref c6, .int w_7m6, .int w_7m7, .ref t])), (c2, .inl (cI, 6, .inl w_7m9)), (c3, .inl (cI, 48, .inl w_7m10)), (t, .inr (8, [.int t0, .int t1, .int t2, .int t3, .int t4, .ref ta, .ref tb, .ref tc, .ref td, .ref te])), (nw, .inr (7, [.ref nwc])), (nwc, .inl (cI, 41, .inl fn))] → va_S A s.heap H locs → lv_has ls 3 [(2, .int w_7l2), (0, .ref h), (1, .int i_)] → ((match (f_e_solve_x1 w_7m5 w_7m6 w_7m7 t0 t1 t2 t3 t4 ftd fte w_7m8 w_7m9 w_7m10 w_7m11 w_7m12 w_7m13) with | (o_10, o_11, o_12, o_13, o_14) => (if i_ = (-1) then (o_10, w_7m0, w_7m1, w_7m2, w_7m3, w_7m4, o_10, w_7m6, w_7m7, o_11, w_7m9, w_7m10, o_12, o_13, o_14) else (if i_ < 0 then ((-1), w_7m0, w_7m1, w_7m2, w_7m3, w_7m4, o_10, w_7m6, w_7m7, o_11, w_7m9, w_7m10, o_12, o_13, o_14) else (if o_10 ≤ i_ then ((-1), w_7m0, w_7m1, w_7m2, w_7m3, w_7m4, o_10, w_7m6, w_7m7, o_11, w_7m9, w_7m10, o_12, o_13, o_14) else ((atF 7 o_11 i_), w_7m0, w_7m1, w_7m2, w_7m3, w_7m4, o_10, w_7m6, w_7m7, o_11, w_7m9, w_7m10, o_12, o_13, o_14)))))) = RES → W p l e rm_e_order_x9 s m args below meth c H locs 0 0 Q (F0 m 39 ls []) := by
    intro w_7l2 w_7m0 w_7m1 w_7m2 w_7m3 w_7m4 w_7m5 w_7m6 w_7m7 w_7m8 w_7m9 w_7m10 w_7m11 w_7m12 w_7m13 H locs ls hP hD hS hl hE
    refine lv_aload_n hx hb dX9_order_39 rfl (lv_at hl 1 rfl) ?_
    refine va_get (D := D) (ci := 9) (v := .ref cv) (C := RX9) (T := TX9) (N := 17) hx hb hts iX9 hown hK hP 0 rfl rfl 15 (Nat.le_of_ble_eq_true rfl) (hts _ wd_132) (fun _ h9 => h9) rfl dX9_order_40 ?_
    refine cVv (wr := [(h, .inr (9, [.ref x, .int q1, .int q2, .ref rd, .ref t, .ref d, .ref nw, .ref ps, .ref im, .ref is_, .int q10, .ref bk, .int q12, .ref qr, .ref pr, .ref cv, .ref ft])), (qr, .inr (4, [.int w_7m0, .int w_7m1, .int w_7m2, .int w_7m3, .int w_7m4])), (ta, .inl (cI, 6, .inl fta)), (tc, .inl (cI, 30, .inl ftc)), (nw, .inr (7, [.ref nwc])), (nwc, .inl (cI, 41, .inl fn))]) (rest := []) (e_solve_x1 cv c1 c2 c3 c4 c5 c6 t ta tb tc td te w_7m5 w_7m6 w_7m7 t0 t1 t2 t3 t4 ftd fte w_7m8 w_7m9 w_7m10 w_7m11 w_7m12 w_7m13) okV_X1_solve wd_475 hx hb hml hown hts hK hP hD hS hA hN hl.1 [10, 13, 8, 9, 1, 11, 12, 2, 3, 4] [0, 5, 6, 7, 14, 15] rfl rfl rfl rfl (of_decide_eq_true rfl) rfl rfl rfl (Nat.le_of_ble_eq_true rfl) (Nat.le_of_ble_eq_true rfl) (Nat.le_of_ble_eq_true rfl) (Nat.le_of_ble_eq_true rfl) (Nat.le_of_ble_eq_true rfl) dX9_order_43 (fun u_8 H locs hw_u_8 hP hD hS => ?_)
    obtain ⟨o_10, o_11, o_12, o_13, o_14⟩ := u_8
    replace hw_u_8 : (o_10, o_11, o_12, o_13, o_14) = (f_e_solve_x1 w_7m5 w_7m6 w_7m7 t0 t1 t2 t3 t4 ftd fte w_7m8 w_7m9 w_7m10 w_7m11 w_7m12 w_7m13) := hw_u_8
    rw [← hw_u_8] at hE
    replace hE : (if i_ = (-1) then (o_10, w_7m0, w_7m1, w_7m2, w_7m3, w_7m4, o_10, w_7m6, w_7m7, o_11, w_7m9, w_7m10, o_12, o_13, o_14) else (if i_ < 0 then ((-1), w_7m0, w_7m1, w_7m2, w_7m3, w_7m4, o_10, w_7m6, w_7m7, o_11, w_7m9, w_7m10, o_12, o_13, o_14) else (if o_10 ≤ i_ then ((-1), w_7m0, w_7m1, w_7m2, w_7m3, w_7m4, o_10, w_7m6, w_7m7, o_11, w_7m9, w_7m10, o_12, o_13, o_14) else ((atF 7 o_11 i_), w_7m0, w_7m1, w_7m2, w_7m3, w_7m4, o_10, w_7m6, w_7m7, o_11, w_7m9, w_7m10, o_12, o_13, o_14)))) = RES := hE
    have hP : va_P D classes [(h, .inr (9, [.ref x, .int q1, .int q2, .ref rd, .ref t, .ref d, .ref nw, .ref ps, .ref im, .ref is_, .int q10, .ref bk, .int q12, .ref qr, .ref pr, .ref cv, .ref ft])), (qr, .inr (4, [.int w_7m0, .int w_7m1, .int w_7m2, .int w_7m3, .int w_7m4])), (ta, .inl (cI, 6, .inl fta)), (tc, .inl (cI, 30, .inl ftc)), (nw, .inr (7, [.ref nwc])), (nwc, .inl (cI, 41, .inl fn)), (cv, .inr (1, [.int o_10, .ref c1, .ref c2, .ref c3, .ref c4, .ref c5, .ref c6, .int w_7m6, .int w_7m7, .ref t])), (t, .inr (8, [.int t0, .int t1, .int t2, .int t3, .int t4, .ref ta, .ref tb, .ref tc, .ref td, .ref te])), (td, .inl (cI, 7, .inl ftd)), (te, .inl (cI, 7, .inl fte)), (c1, .inl (cI, 7, .inl o_11)), (c2, .inl (cI, 6, .inl w_7m9)), (c3, .inl (cI, 48, .inl w_7m10)), (c4, .inl (cI, 128, .inl o_12)), (c5, .inl (cI, 128, .inl o_13)), (c6, .inl (cI, 128, .inl o_14))] H := hP
    have hD : va_D A [(h, .inr (9, [.ref x, .int q1, .int q2, .ref rd, .ref t, .ref d, .ref nw, .ref ps, .ref im, .ref is_, .int q10, .ref bk, .int q12, .ref qr, .ref pr, .ref cv, .ref ft])), (qr, .inr (4, [.int w_7m0, .int w_7m1, .int w_7m2, .int w_7m3, .int w_7m4])), (ta, .inl (cI, 6, .inl fta)), (tc, .inl (cI, 30, .inl ftc)), (nw, .inr (7, [.ref nwc])), (nwc, .inl (cI, 41, .inl fn)), (cv, .inr (1, [.int o_10, .ref c1, .ref c2, .ref c3, .ref c4, .ref c5, .ref c6, .int w_7m6, .int w_7m7, .ref t])), (t, .inr (8, [.int t0, .int t1, .int t2, .int t3, .int t4, .ref ta, .ref tb, .ref tc, .ref td, .ref te])), (td, .inl (cI, 7, .inl ftd)), (te, .inl (cI, 7, .inl fte)), (c1, .inl (cI, 7, .inl o_11)), (c2, .inl (cI, 6, .inl w_7m9)), (c3, .inl (cI, 48, .inl w_7m10)), (c4, .inl (cI, 128, .inl o_12)), (c5, .inl (cI, 128, .inl o_13)), (c6, .inl (cI, 128, .inl o_14))] := hD
    refine lv_iload_n hx hb dX9_order_46 rfl (lv_at hl 2 rfl) ?_
    refine lv_iconst (v := (-1)) hx hb dX9_order_47 rfl ?_
    refine lv_icmp_ne (tgt := 59) hx hb dX9_order_48 rfl (fun c_15 => ?_) (fun c_15 => ?_)
    · rw [if_neg c_15] at hE
      refine lv_iload_n hx hb dX9_order_59 rfl (lv_at hl 2 rfl) ?_
      refine lv_if_lt (tgt := 88) hx hb dX9_order_60 rfl (fun c_16 => ?_) (fun c_16 => ?_)
      · rw [if_pos c_16] at hE
        refine lv_iconst (v := (-1)) hx hb dX9_order_88 rfl ?_
        exact hret (-1) (w_7m0, w_7m1, w_7m2, w_7m3, w_7m4, o_10, w_7m6, w_7m7, o_11, w_7m9, w_7m10, o_12, o_13, o_14) _ _ _ _ dX9_order_89 rfl hE (cutP (isC := [0, 6, 10, 11, 12, 13, 14, 15, 1, 7, 2, 3, 8, 9, 4, 5]) hP rfl) (cutD (isC := [0, 6, 10, 11, 12, 13, 14, 15, 1, 7, 2, 3, 8, 9, 4, 5]) hD rfl rfl) hS
      · rw [if_neg c_16] at hE
        refine lv_iload_n hx hb dX9_order_63 rfl (lv_at hl 2 rfl) ?_
        refine lv_aload_n hx hb dX9_order_64 rfl (lv_at hl 1 rfl) ?_
        refine va_get (D := D) (ci := 9) (v := .ref cv) (C := RX9) (T := TX9) (N := 17) hx hb hts iX9 hown hK hP 0 rfl rfl 15 (Nat.le_of_ble_eq_true rfl) (hts _ wd_132) (fun _ h9 => h9) rfl dX9_order_65 ?_
        refine va_get (D := D) (ci := 1) (v := .int o_10) (C := RX1) (T := TX1) (N := 10) hx hb hts iX1 hown hK hP 6 rfl rfl 0 (Nat.le_of_ble_eq_true rfl) (hts _ wd_479) (fun _ h9 => h9) rfl dX9_order_68 ?_
        refine lv_icmp_ge (tgt := 88) hx hb dX9_order_71 rfl (fun c_17 => ?_) (fun c_17 => ?_)
        · rw [if_pos c_17] at hE
          refine lv_iconst (v := (-1)) hx hb dX9_order_88 rfl ?_
          exact hret (-1) (w_7m0, w_7m1, w_7m2, w_7m3, w_7m4, o_10, w_7m6, w_7m7, o_11, w_7m9, w_7m10, o_12, o_13, o_14) _ _ _ _ dX9_order_89 rfl hE (cutP (isC := [0, 6, 10, 11, 12, 13, 14, 15, 1, 7, 2, 3, 8, 9, 4, 5]) hP rfl) (cutD (isC := [0, 6, 10, 11, 12, 13, 14, 15, 1, 7, 2, 3, 8, 9, 4, 5]) hD rfl rfl) hS
        · rw [if_neg c_17] at hE
          refine lv_aload_n hx hb dX9_order_74 rfl (lv_at hl 1 rfl) ?_
          refine va_get (D := D) (ci := 9) (v := .ref cv) (C := RX9) (T := TX9) (N := 17) hx hb hts iX9 hown hK hP 0 rfl rfl 15 (Nat.le_of_ble_eq_true rfl) (hts _ wd_132) (fun _ h9 => h9) rfl dX9_order_75 ?_
          refine va_get (D := D) (ci := 1) (v := .ref c1) (C := RX1) (T := TX1) (N := 10) hx hb hts iX1 hown hK hP 6 rfl rfl 1 (Nat.le_of_ble_eq_true rfl) (hts _ wd_480) (fun _ h9 => h9) rfl dX9_order_78 ?_
          refine lv_iload_n hx hb dX9_order_81 rfl (lv_at hl 2 rfl) ?_
          refine cSi (wr := [(h, .inr (9, [.ref x, .int q1, .int q2, .ref rd, .ref t, .ref d, .ref nw, .ref ps, .ref im, .ref is_, .int q10, .ref bk, .int q12, .ref qr, .ref pr, .ref cv, .ref ft])), (qr, .inr (4, [.int w_7m0, .int w_7m1, .int w_7m2, .int w_7m3, .int w_7m4])), (ta, .inl (cI, 6, .inl fta)), (tc, .inl (cI, 30, .inl ftc)), (nw, .inr (7, [.ref nwc])), (nwc, .inl (cI, 41, .inl fn)), (cv, .inr (1, [.int o_10, .ref c1, .ref c2, .ref c3, .ref c4, .ref c5, .ref c6, .int w_7m6, .int w_7m7, .ref t])), (t, .inr (8, [.int t0, .int t1, .int t2, .int t3, .int t4, .ref ta, .ref tb, .ref tc, .ref td, .ref te])), (td, .inl (cI, 7, .inl ftd)), (te, .inl (cI, 7, .inl fte)), (c2, .inl (cI, 6, .inl w_7m9)), (c3, .inl (cI, 48, .inl w_7m10)), (c4, .inl (cI, 128, .inl o_12)), (c5, .inl (cI, 128, .inl o_13)), (c6, .inl (cI, 128, .inl o_14))]) (rest := []) (k_at c1 7 o_11 i_ (of_decide_eq_true rfl)) okS_X9_at wd_258 hx hb hml hown hts hK hP hD hS hA hN hl.1 [10] [0, 1, 2, 3, 4, 5, 6, 7, 8, 9, 11, 12, 13, 14, 15] rfl rfl rfl rfl (by decide) rfl (Nat.le_of_ble_eq_true rfl) (Nat.le_of_ble_eq_true rfl) (Nat.le_of_ble_eq_true rfl) (Nat.le_of_ble_eq_true rfl) (Nat.le_of_ble_eq_true rfl) dX9_order_82 (fun r_19 u_18 H locs hw_u_18 hP hD hS => ?_)
          obtain rfl := hw_u_18
          have hP : va_P D classes [(h, .inr (9, [.ref x, .int q1, .int q2, .ref rd, .ref t, .ref d, .ref nw, .ref ps, .ref im, .ref is_, .int q10, .ref bk, .int q12, .ref qr, .ref pr, .ref cv, .ref ft])), (qr, .inr (4, [.int w_7m0, .int w_7m1, .int w_7m2, .int w_7m3, .int w_7m4])), (ta, .inl (cI, 6, .inl fta)), (tc, .inl (cI, 30, .inl ftc)), (nw, .inr (7, [.ref nwc])), (nwc, .inl (cI, 41, .inl fn)), (cv, .inr (1, [.int o_10, .ref c1, .ref c2, .ref c3, .ref c4, .ref c5, .ref c6, .int w_7m6, .int w_7m7, .ref t])), (t, .inr (8, [.int t0, .int t1, .int t2, .int t3, .int t4, .ref ta, .ref tb, .ref tc, .ref td, .ref te])), (td, .inl (cI, 7, .inl ftd)), (te, .inl (cI, 7, .inl fte)), (c2, .inl (cI, 6, .inl w_7m9)), (c3, .inl (cI, 48, .inl w_7m10)), (c4, .inl (cI, 128, .inl o_12)), (c5, .inl (cI, 128, .inl o_13)), (c6, .inl (cI, 128, .inl o_14)), (c1, .inl (cI, 7, .inl o_11))] H := hP
          have hD : va_D A [(h, .inr (9, [.ref x, .int q1, .int q2, .ref rd, .ref t, .ref d, .ref nw, .ref ps, .ref im, .ref is_, .int q10, .ref bk, .int q12, .ref qr, .ref pr, .ref cv, .ref ft])), (qr, .inr (4, [.int w_7m0, .int w_7m1, .int w_7m2, .int w_7m3, .int w_7m4])), (ta, .inl (cI, 6, .inl fta)), (tc, .inl (cI, 30, .inl ftc)), (nw, .inr (7, [.ref nwc])), (nwc, .inl (cI, 41, .inl fn)), (cv, .inr (1, [.int o_10, .ref c1, .ref c2, .ref c3, .ref c4, .ref c5, .ref c6, .int w_7m6, .int w_7m7, .ref t])), (t, .inr (8, [.int t0, .int t1, .int t2, .int t3, .int t4, .ref ta, .ref tb, .ref tc, .ref td, .ref te])), (td, .inl (cI, 7, .inl ftd)), (te, .inl (cI, 7, .inl fte)), (c2, .inl (cI, 6, .inl w_7m9)), (c3, .inl (cI, 48, .inl w_7m10)), (c4, .inl (cI, 128, .inl o_12)), (c5, .inl (cI, 128, .inl o_13)), (c6, .inl (cI, 128, .inl o_14)), (c1, .inl (cI, 7, .inl o_11))] := hD
          refine lv_goto (tgt := 89) hx hb dX9_order_85 rfl ?_
          exact hret (atF 7 o_11 i_) (w_7m0, w_7m1, w_7m2, w_7m3, w_7m4, o_10, w_7m6, w_7m7, o_11, w_7m9, w_7m10, o_12, o_13, o_14) _ _ _ _ dX9_order_89 rfl hE (cutP (isC := [0, 6, 15, 10, 11, 12, 13, 14, 1, 7, 2, 3, 8, 9, 4, 5]) hP rfl) (cutD (isC := [0, 6, 15, 10, 11, 12, 13, 14, 1, 7, 2, 3, 8, 9, 4, 5]) hD rfl rfl) hS
    · rw [if_pos c_15] at hE
      refine lv_aload_n hx hb dX9_order_51 rfl (lv_at hl 1 rfl) ?_
      refine va_get (D := D) (ci := 9) (v := .ref cv) (C := RX9) (T := TX9) (N := 17) hx hb hts iX9 hown hK hP 0 rfl rfl 15 (Nat.le_of_ble_eq_true rfl) (hts _ wd_132) (fun _ h9 => h9) rfl dX9_order_52 ?_
      refine va_get (D := D) (ci := 1) (v := .int o_10) (C := RX1) (T := TX1) (N := 10) hx hb hts iX1 hown hK hP 6 rfl rfl 0 (Nat.le_of_ble_eq_true rfl) (hts _ wd_479) (fun _ h9 => h9) rfl dX9_order_55 ?_
      exact hret o_10 (w_7m0, w_7m1, w_7m2, w_7m3, w_7m4, o_10, w_7m6, w_7m7, o_11, w_7m9, w_7m10, o_12, o_13, o_14) _ _ _ _ dX9_order_58 rfl hE (cutP (isC := [0, 6, 10, 11, 12, 13, 14, 15, 1, 7, 2, 3, 8, 9, 4, 5]) hP rfl) (cutD (isC := [0, 6, 10, 11, 12, 13, 14, 15, 1, 7, 2, 3, 8, 9, 4, 5]) hD rfl rfl) hS
  have lp_17_w_7 : ∀ (n_w_7 : Nat) (w_7l2 : Int32) (w_7m0 : Int32) (w_7m1 : Int32) (w_7m2 : Int32) (w_7m3 : Int32) (w_7m4 : Int32) (w_7m5 : Int32) (w_7m6 : Int32) (w_7m7 : Int32) (w_7m8 : (Nat → Int32)) (w_7m9 : (Nat → Int32)) (w_7m10 : (Nat → Int32)) (w_7m11 : (Nat → Int32)) (w_7m12 : (Nat → Int32)) (w_7m13 : (Nat → Int32)) (H : Heap) (locs : List Loc) (ls : Array Slot), va_P D classes [(h, .inr (9, [.ref x, .int q1, .int q2, .ref rd, .ref t, .ref d, .ref nw, .ref ps, .ref im, .ref is_, .int q10, .ref bk, .int q12, .ref qr, .ref pr, .ref cv, .ref ft])), (c1, .inl (cI, 7, .inl w_7m8)), (c4, .inl (cI, 128, .inl w_7m11)), (c5, .inl (cI, 128, .inl w_7m12)), (c6, .inl (cI, 128, .inl w_7m13)), (qr, .inr (4, [.int w_7m0, .int w_7m1, .int w_7m2, .int w_7m3, .int w_7m4])), (ta, .inl (cI, 6, .inl fta)), (tc, .inl (cI, 30, .inl ftc)), (td, .inl (cI, 7, .inl ftd)), (te, .inl (cI, 7, .inl fte)), (cv, .inr (1, [.int w_7m5, .ref c1, .ref c2, .ref c3, .ref c4, .ref c5, .ref c6, .int w_7m6, .int w_7m7, .ref t])), (c2, .inl (cI, 6, .inl w_7m9)), (c3, .inl (cI, 48, .inl w_7m10)), (t, .inr (8, [.int t0, .int t1, .int t2, .int t3, .int t4, .ref ta, .ref tb, .ref tc, .ref td, .ref te])), (nw, .inr (7, [.ref nwc])), (nwc, .inl (cI, 41, .inl fn))] H → va_D A [(h, .inr (9, [.ref x, .int q1, .int q2, .ref rd, .ref t, .ref d, .ref nw, .ref ps, .ref im, .ref is_, .int q10, .ref bk, .int q12, .ref qr, .ref pr, .ref cv, .ref ft])), (c1, .inl (cI, 7, .inl w_7m8)), (c4, .inl (cI, 128, .inl w_7m11)), (c5, .inl (cI, 128, .inl w_7m12)), (c6, .inl (cI, 128, .inl w_7m13)), (qr, .inr (4, [.int w_7m0, .int w_7m1, .int w_7m2, .int w_7m3, .int w_7m4])), (ta, .inl (cI, 6, .inl fta)), (tc, .inl (cI, 30, .inl ftc)), (td, .inl (cI, 7, .inl ftd)), (te, .inl (cI, 7, .inl fte)), (cv, .inr (1, [.int w_7m5, .ref c1, .ref c2, .ref c3, .ref c4, .ref c5, .ref c6, .int w_7m6, .int w_7m7, .ref t])), (c2, .inl (cI, 6, .inl w_7m9)), (c3, .inl (cI, 48, .inl w_7m10)), (t, .inr (8, [.int t0, .int t1, .int t2, .int t3, .int t4, .ref ta, .ref tb, .ref tc, .ref td, .ref te])), (nw, .inr (7, [.ref nwc])), (nwc, .inl (cI, 41, .inl fn))] → va_S A s.heap H locs → lv_has ls 3 [(2, .int w_7l2), (0, .ref h), (1, .int i_)] → ((t0 : Int32).toInt - (w_7l2 : Int32).toInt).toNat < n_w_7 → (match (f_e_order_x9_17 q1 q2 q10 q12 v0 v7 v8 fc1 fc2 fc3 fc4 fc5 fc6 k0 k1 k2 k3 k4 t0 t1 t2 t3 t4 fta ftc ftd fte fn i_ n_w_7 w_7l2 w_7m0 w_7m1 w_7m2 w_7m3 w_7m4 w_7m5 w_7m6 w_7m7 w_7m8 w_7m9 w_7m10 w_7m11 w_7m12 w_7m13) with | (w_7l2, w_7m0, w_7m1, w_7m2, w_7m3, w_7m4, w_7m5, w_7m6, w_7m7, w_7m8, w_7m9, w_7m10, w_7m11, w_7m12, w_7m13) => (match (f_e_solve_x1 w_7m5 w_7m6 w_7m7 t0 t1 t2 t3 t4 ftd fte w_7m8 w_7m9 w_7m10 w_7m11 w_7m12 w_7m13) with | (o_10, o_11, o_12, o_13, o_14) => (if i_ = (-1) then (o_10, w_7m0, w_7m1, w_7m2, w_7m3, w_7m4, o_10, w_7m6, w_7m7, o_11, w_7m9, w_7m10, o_12, o_13, o_14) else (if i_ < 0 then ((-1), w_7m0, w_7m1, w_7m2, w_7m3, w_7m4, o_10, w_7m6, w_7m7, o_11, w_7m9, w_7m10, o_12, o_13, o_14) else (if o_10 ≤ i_ then ((-1), w_7m0, w_7m1, w_7m2, w_7m3, w_7m4, o_10, w_7m6, w_7m7, o_11, w_7m9, w_7m10, o_12, o_13, o_14) else ((atF 7 o_11 i_), w_7m0, w_7m1, w_7m2, w_7m3, w_7m4, o_10, w_7m6, w_7m7, o_11, w_7m9, w_7m10, o_12, o_13, o_14)))))) = RES → W p l e rm_e_order_x9 s m args below meth c H locs 0 0 Q (F0 m 17 ls []) := by
    intro n_w_7
    induction n_w_7 with
    | zero => intro w_7l2 w_7m0 w_7m1 w_7m2 w_7m3 w_7m4 w_7m5 w_7m6 w_7m7 w_7m8 w_7m9 w_7m10 w_7m11 w_7m12 w_7m13 H locs ls hP hD hS hl hm; exact absurd hm (Nat.not_lt_zero _)
    | succ n_w_7 ih_w_7 =>
      intro w_7l2 w_7m0 w_7m1 w_7m2 w_7m3 w_7m4 w_7m5 w_7m6 w_7m7 w_7m8 w_7m9 w_7m10 w_7m11 w_7m12 w_7m13 H locs ls hP hD hS hl hm hE
      rw [f_e_order_x9_17_s] at hE
      refine lv_iload_n hx hb dX9_order_17 rfl (lv_at hl 0 rfl) ?_
      refine lv_aload_n hx hb dX9_order_18 rfl (lv_at hl 1 rfl) ?_
      refine va_get (D := D) (ci := 9) (v := .ref t) (C := RX9) (T := TX9) (N := 17) hx hb hts iX9 hown hK hP 0 rfl rfl 4 (Nat.le_of_ble_eq_true rfl) (hts _ wd_89) (fun _ h9 => h9) rfl dX9_order_19 ?_
      refine va_get (D := D) (ci := 8) (v := .int t0) (C := RX8) (T := TX8) (N := 10) hx hb hts iX8 hown hK hP 13 rfl rfl 0 (Nat.le_of_ble_eq_true rfl) (hts _ wd_372) (fun _ h9 => h9) rfl dX9_order_22 ?_
      refine lv_icmp_ge (tgt := 39) hx hb dX9_order_25 rfl (fun c_20 => ?_) (fun c_20 => ?_)
      · rw [if_pos c_20] at hE
        exact ex_17_w_7 w_7l2 w_7m0 w_7m1 w_7m2 w_7m3 w_7m4 w_7m5 w_7m6 w_7m7 w_7m8 w_7m9 w_7m10 w_7m11 w_7m12 w_7m13 _ _ ls hP hD hS (lv_sub hl [0, 1, 2] rfl) hE
      · rw [if_neg c_20] at hE
        refine lv_aload_n hx hb dX9_order_28 rfl (lv_at hl 1 rfl) ?_
        refine lv_iload_n hx hb dX9_order_29 rfl (lv_at hl 0 rfl) ?_
        refine cVv (wr := [(c1, .inl (cI, 7, .inl w_7m8)), (c4, .inl (cI, 128, .inl w_7m11)), (c5, .inl (cI, 128, .inl w_7m12)), (c6, .inl (cI, 128, .inl w_7m13)), (td, .inl (cI, 7, .inl ftd)), (te, .inl (cI, 7, .inl fte))]) (rest := []) (e_noteOpenings_x9 h x rd t d nw ps im is_ bk qr pr cv ft ta tb tc td te nwc c1 c2 c3 c4 c5 c6 q1 q2 q10 q12 w_7m0 w_7m1 w_7m2 w_7m3 w_7m4 t0 t1 t2 t3 t4 fta ftc fn w_7m5 w_7m6 w_7m7 w_7m9 w_7m10 w_7l2) okV_X9_noteOpenings wd_481 hx hb hml hown hts hK hP hD hS hA hN hl.1 [0, 5, 13, 6, 7, 14, 15, 10, 11, 12] [1, 2, 3, 4, 8, 9] rfl rfl rfl rfl (of_decide_eq_true rfl) rfl rfl rfl (Nat.le_of_ble_eq_true rfl) (Nat.le_of_ble_eq_true rfl) (Nat.le_of_ble_eq_true rfl) (Nat.le_of_ble_eq_true rfl) (Nat.le_of_ble_eq_true rfl) dX9_order_30 (fun u_21 H locs hw_u_21 hP hD hS => ?_)
        obtain ⟨o_23, o_24, o_25, o_26, o_27, o_28, o_29⟩ := u_21
        replace hw_u_21 : (o_23, o_24, o_25, o_26, o_27, o_28, o_29) = (f_e_noteOpenings_x9 q1 q2 q10 q12 w_7m0 w_7m1 w_7m2 w_7m3 w_7m4 t0 t1 t2 t3 t4 fta ftc fn w_7m5 w_7m6 w_7m7 w_7m9 w_7m10 w_7l2) := hw_u_21
        rw [← hw_u_21] at hE
        replace hE : (match (f_e_order_x9_17 q1 q2 q10 q12 v0 v7 v8 fc1 fc2 fc3 fc4 fc5 fc6 k0 k1 k2 k3 k4 t0 t1 t2 t3 t4 fta ftc ftd fte fn i_ n_w_7 (w_7l2 + 1) o_23 o_24 o_25 o_26 o_27 w_7m5 w_7m6 w_7m7 w_7m8 o_28 o_29 w_7m11 w_7m12 w_7m13) with | (w_7l2, w_7m0, w_7m1, w_7m2, w_7m3, w_7m4, w_7m5, w_7m6, w_7m7, w_7m8, w_7m9, w_7m10, w_7m11, w_7m12, w_7m13) => (match (f_e_solve_x1 w_7m5 w_7m6 w_7m7 t0 t1 t2 t3 t4 ftd fte w_7m8 w_7m9 w_7m10 w_7m11 w_7m12 w_7m13) with | (o_10, o_11, o_12, o_13, o_14) => (if i_ = (-1) then (o_10, w_7m0, w_7m1, w_7m2, w_7m3, w_7m4, o_10, w_7m6, w_7m7, o_11, w_7m9, w_7m10, o_12, o_13, o_14) else (if i_ < 0 then ((-1), w_7m0, w_7m1, w_7m2, w_7m3, w_7m4, o_10, w_7m6, w_7m7, o_11, w_7m9, w_7m10, o_12, o_13, o_14) else (if o_10 ≤ i_ then ((-1), w_7m0, w_7m1, w_7m2, w_7m3, w_7m4, o_10, w_7m6, w_7m7, o_11, w_7m9, w_7m10, o_12, o_13, o_14) else ((atF 7 o_11 i_), w_7m0, w_7m1, w_7m2, w_7m3, w_7m4, o_10, w_7m6, w_7m7, o_11, w_7m9, w_7m10, o_12, o_13, o_14)))))) = RES := hE
        have hP : va_P D classes [(c1, .inl (cI, 7, .inl w_7m8)), (c4, .inl (cI, 128, .inl w_7m11)), (c5, .inl (cI, 128, .inl w_7m12)), (c6, .inl (cI, 128, .inl w_7m13)), (td, .inl (cI, 7, .inl ftd)), (te, .inl (cI, 7, .inl fte)), (h, .inr (9, [.ref x, .int q1, .int q2, .ref rd, .ref t, .ref d, .ref nw, .ref ps, .ref im, .ref is_, .int q10, .ref bk, .int q12, .ref qr, .ref pr, .ref cv, .ref ft])), (qr, .inr (4, [.int o_23, .int o_24, .int o_25, .int o_26, .int o_27])), (t, .inr (8, [.int t0, .int t1, .int t2, .int t3, .int t4, .ref ta, .ref tb, .ref tc, .ref td, .ref te])), (ta, .inl (cI, 6, .inl fta)), (tc, .inl (cI, 30, .inl ftc)), (nw, .inr (7, [.ref nwc])), (nwc, .inl (cI, 41, .inl fn)), (cv, .inr (1, [.int w_7m5, .ref c1, .ref c2, .ref c3, .ref c4, .ref c5, .ref c6, .int w_7m6, .int w_7m7, .ref t])), (c2, .inl (cI, 6, .inl o_28)), (c3, .inl (cI, 48, .inl o_29))] H := hP
        have hD : va_D A [(c1, .inl (cI, 7, .inl w_7m8)), (c4, .inl (cI, 128, .inl w_7m11)), (c5, .inl (cI, 128, .inl w_7m12)), (c6, .inl (cI, 128, .inl w_7m13)), (td, .inl (cI, 7, .inl ftd)), (te, .inl (cI, 7, .inl fte)), (h, .inr (9, [.ref x, .int q1, .int q2, .ref rd, .ref t, .ref d, .ref nw, .ref ps, .ref im, .ref is_, .int q10, .ref bk, .int q12, .ref qr, .ref pr, .ref cv, .ref ft])), (qr, .inr (4, [.int o_23, .int o_24, .int o_25, .int o_26, .int o_27])), (t, .inr (8, [.int t0, .int t1, .int t2, .int t3, .int t4, .ref ta, .ref tb, .ref tc, .ref td, .ref te])), (ta, .inl (cI, 6, .inl fta)), (tc, .inl (cI, 30, .inl ftc)), (nw, .inr (7, [.ref nwc])), (nwc, .inl (cI, 41, .inl fn)), (cv, .inr (1, [.int w_7m5, .ref c1, .ref c2, .ref c3, .ref c4, .ref c5, .ref c6, .int w_7m6, .int w_7m7, .ref t])), (c2, .inl (cI, 6, .inl o_28)), (c3, .inl (cI, 48, .inl o_29))] := hD
        refine lv_iinc (v := (w_7l2 + 1)) (lv' := [(2, .int (w_7l2 + 1)), (0, .ref h), (1, .int i_)]) hx hb dX9_order_33 hl (k := 0) rfl rfl (Nat.le_of_ble_eq_true rfl) rfl (fun ls hl => ?_)
        refine lv_goto (tgt := 17) hx hb dX9_order_36 rfl ?_
        exact ih_w_7 (w_7l2 + 1) o_23 o_24 o_25 o_26 o_27 w_7m5 w_7m6 w_7m7 w_7m8 o_28 o_29 w_7m11 w_7m12 w_7m13 _ _ ls (cutP (isC := [6, 0, 1, 2, 3, 7, 9, 10, 4, 5, 13, 14, 15, 8, 11, 12]) hP rfl) (cutD (isC := [6, 0, 1, 2, 3, 7, 9, 10, 4, 5, 13, 14, 15, 8, 11, 12]) hD rfl rfl) hS (lv_sub hl [0, 1, 2] rfl) (up_step c_20 hm) hE
  exact lp_17_w_7 (((t0 : Int32).toInt - (0 : Int32).toInt).toNat + 1) 0 k0 k1 k2 k3 k4 v0 o_3 o_4 fc1 o_5 o_6 fc4 fc5 fc6 _ _ ls hP hD hS hl (Nat.lt_succ_self _) hE
noncomputable def f_e_town_x9 (t : Nat) (d : Nat) (q1 : Int32) (q2 : Int32) (q10 : Int32) (q12 : Int32) (r0 : Int32) (r1 : Int32) (r3 : Int32) (r4 : Int32) (r5 : Int32) (r6 : Int32) (ftx : Nat → Int32) (d0 : Int32) (d1 : Int32) (d2 : Int32) (d3 : Int32) (d4 : Int32) (fda : Nat → Int32) (fdb : Nat → Int32) (fdc : Nat → Int32) (fdd : Nat → Int32) (fde : Nat → Int32) (fn : Nat → Int32) (p1 : Int32) (p2 : Int32) (b0 : Int32) : Int32 × Int32 × Int32 × Nat × Nat × Int32 × Int32 × Int32 × Int32 × Int32 × Int32 × Int32 × Int32 × Int32 × Int32 × Int32 × Int32 × (Nat → Int32) × (Nat → Int32) × (Nat → Int32) × (Nat → Int32) × (Nat → Int32) × (Nat → Int32) × Int32 × Int32 := (match (f_e_read_x5 r0 r1 r3 r4 r5 r6 ftx d0 d1 d2 d3 d4 fda fdb fdc fdd fde q1) with | (o_3, o_4, o_5, o_6, o_7, o_8, o_9, o_10, o_11, o_12, o_13, o_14, o_15, o_16, o_17, o_18) => (if o_3 = 0 then (o_9, 0, o_4, d, t, 0, o_3, o_4, o_5, o_6, o_7, o_8, o_9, o_10, o_11, o_12, o_13, o_14, o_15, o_16, o_17, o_18, (f_e_begin_x7 fn o_9 o_10 o_11 o_12 o_13 o_15), (f_e_forget_x2 p1 p2), (f_e_clear_x0 b0)) else (((-10) - o_3), 0, o_4, t, d, q10, o_3, o_4, o_5, o_6, o_7, o_8, o_9, o_10, o_11, o_12, o_13, o_14, o_15, o_16, o_17, o_18, fn, p2, b0)))
def rm_e_town_x9 : Room := { frames := 6, cells := 0, slots := 0, locals := 136 }
set_option maxHeartbeats 4000000 in
set_option maxRecDepth 100000 in
theorem e_town_x9 {l : Launch} {D : va_G} {cI cZ : ClassId} {sz : Nat} (h x rd nw ps im is_ bk qr pr cv ft u0 da db dc dd de nwc sh bka bkb : Nat) (t : Nat) (d : Nat) (q1 : Int32) (q2 : Int32) (q10 : Int32) (q12 : Int32) (r0 : Int32) (r1 : Int32) (r3 : Int32) (r4 : Int32) (r5 : Int32) (r6 : Int32) (ftx : Nat → Int32) (d0 : Int32) (d1 : Int32) (d2 : Int32) (d3 : Int32) (d4 : Int32) (fda : Nat → Int32) (fdb : Nat → Int32) (fdc : Nat → Int32) (fdd : Nat → Int32) (fde : Nat → Int32) (fn : Nat → Int32) (p1 : Int32) (p2 : Int32) (b0 : Int32) : KI l yX9_town cX9_town 2 (some .int) rm_e_town_x9 D cI cZ [.ref h] sz [(h, .inr (9, [.ref x, .int q1, .int q2, .ref rd, .ref t, .ref d, .ref nw, .ref ps, .ref im, .ref is_, .int q10, .ref bk, .int q12, .ref qr, .ref pr, .ref cv, .ref ft])), (rd, .inr (5, [.int r0, .int r1, .ref u0, .int r3, .int r4, .int r5, .int r6])), (x, .inl (cI, 240, .inl ftx)), (d, .inr (8, [.int d0, .int d1, .int d2, .int d3, .int d4, .ref da, .ref db, .ref dc, .ref dd, .ref de])), (da, .inl (cI, 6, .inl fda)), (db, .inl (cI, 6, .inl fdb)), (dc, .inl (cI, 30, .inl fdc)), (dd, .inl (cI, 7, .inl fdd)), (de, .inl (cI, 7, .inl fde)), (nw, .inr (7, [.ref nwc])), (nwc, .inl (cI, 41, .inl fn)), (ps, .inr (2, [.ref sh, .int p1, .int p2])), (bk, .inr (0, [.int b0, .ref bka, .ref bkb]))] (fun (r : Int32) (u : Int32 × Int32 × Nat × Nat × Int32 × Int32 × Int32 × Int32 × Int32 × Int32 × Int32 × Int32 × Int32 × Int32 × Int32 × Int32 × (Nat → Int32) × (Nat → Int32) × (Nat → Int32) × (Nat → Int32) × (Nat → Int32) × (Nat → Int32) × Int32 × Int32) => (r, u) = f_e_town_x9 t d q1 q2 q10 q12 r0 r1 r3 r4 r5 r6 ftx d0 d1 d2 d3 d4 fda fdb fdc fdd fde fn p1 p2 b0) (fun (u : Int32 × Int32 × Nat × Nat × Int32 × Int32 × Int32 × Int32 × Int32 × Int32 × Int32 × Int32 × Int32 × Int32 × Int32 × Int32 × (Nat → Int32) × (Nat → Int32) × (Nat → Int32) × (Nat → Int32) × (Nat → Int32) × (Nat → Int32) × Int32 × Int32) => [(h, .inr (9, [.ref x, .int (u.1), .int (u.2.1), .ref rd, .ref u.2.2.1, .ref u.2.2.2.1, .ref nw, .ref ps, .ref im, .ref is_, .int (u.2.2.2.2.1), .ref bk, .int q12, .ref qr, .ref pr, .ref cv, .ref ft])), (rd, .inr (5, [.int (u.2.2.2.2.2.1), .int (u.2.2.2.2.2.2.1), .ref x, .int (u.2.2.2.2.2.2.2.1), .int (u.2.2.2.2.2.2.2.2.1), .int (u.2.2.2.2.2.2.2.2.2.1), .int (u.2.2.2.2.2.2.2.2.2.2.1)])), (x, .inl (cI, 240, .inl ftx)), (d, .inr (8, [.int (u.2.2.2.2.2.2.2.2.2.2.2.1), .int (u.2.2.2.2.2.2.2.2.2.2.2.2.1), .int (u.2.2.2.2.2.2.2.2.2.2.2.2.2.1), .int (u.2.2.2.2.2.2.2.2.2.2.2.2.2.2.1), .int (u.2.2.2.2.2.2.2.2.2.2.2.2.2.2.2.1), .ref da, .ref db, .ref dc, .ref dd, .ref de])), (da, .inl (cI, 6, .inl u.2.2.2.2.2.2.2.2.2.2.2.2.2.2.2.2.1)), (db, .inl (cI, 6, .inl u.2.2.2.2.2.2.2.2.2.2.2.2.2.2.2.2.2.1)), (dc, .inl (cI, 30, .inl u.2.2.2.2.2.2.2.2.2.2.2.2.2.2.2.2.2.2.1)), (dd, .inl (cI, 7, .inl u.2.2.2.2.2.2.2.2.2.2.2.2.2.2.2.2.2.2.2.1)), (de, .inl (cI, 7, .inl u.2.2.2.2.2.2.2.2.2.2.2.2.2.2.2.2.2.2.2.2.1)), (nw, .inr (7, [.ref nwc])), (nwc, .inl (cI, 41, .inl u.2.2.2.2.2.2.2.2.2.2.2.2.2.2.2.2.2.2.2.2.2.1)), (ps, .inr (2, [.ref sh, .int p1, .int (u.2.2.2.2.2.2.2.2.2.2.2.2.2.2.2.2.2.2.2.2.2.2.1)])), (bk, .inr (0, [.int (u.2.2.2.2.2.2.2.2.2.2.2.2.2.2.2.2.2.2.2.2.2.2.2), .ref bka, .ref bkb]))]) := by
  refine KI.go rfl (Nat.le_of_ble_eq_true rfl) ?_
  intro p e s m args below meth c ls A Q hx hb hml hts hown hin hP hK hD hS hA hN hl hret
  have hl : lv_has ls 2 [(0, .ref h)] := hl
  obtain ⟨RES, hE⟩ : ∃ xRES, f_e_town_x9 t d q1 q2 q10 q12 r0 r1 r3 r4 r5 r6 ftx d0 d1 d2 d3 d4 fda fdb fdc fdd fde fn p1 p2 b0 = xRES := ⟨_, rfl⟩
  rw [hE] at hret
  rw [f_e_town_x9] at hE
  refine lv_aload_n hx hb dX9_town_0 rfl (lv_at hl 0 rfl) ?_
  refine va_get (D := D) (ci := 9) (v := .ref rd) (C := RX9) (T := TX9) (N := 17) hx hb hts iX9 hown hK hP 0 rfl rfl 3 (Nat.le_of_ble_eq_true rfl) (hts _ wd_83) (fun _ h9 => h9) rfl dX9_town_1 ?_
  refine lv_aload_n hx hb dX9_town_4 rfl (lv_at hl 0 rfl) ?_
  refine va_get (D := D) (ci := 9) (v := .ref x) (C := RX9) (T := TX9) (N := 17) hx hb hts iX9 hown hK hP 0 rfl rfl 0 (Nat.le_of_ble_eq_true rfl) (hts _ wd_75) (fun _ h9 => h9) rfl dX9_town_5 ?_
  refine lv_aload_n hx hb dX9_town_8 rfl (lv_at hl 0 rfl) ?_
  refine va_get (D := D) (ci := 9) (v := .int q1) (C := RX9) (T := TX9) (N := 17) hx hb hts iX9 hown hK hP 0 rfl rfl 1 (Nat.le_of_ble_eq_true rfl) (hts _ wd_76) (fun _ h9 => h9) rfl dX9_town_9 ?_
  refine lv_aload_n hx hb dX9_town_12 rfl (lv_at hl 0 rfl) ?_
  refine va_get (D := D) (ci := 9) (v := .ref d) (C := RX9) (T := TX9) (N := 17) hx hb hts iX9 hown hK hP 0 rfl rfl 5 (Nat.le_of_ble_eq_true rfl) (hts _ wd_90) (fun _ h9 => h9) rfl dX9_town_13 ?_
  refine cVv (wr := [(h, .inr (9, [.ref x, .int q1, .int q2, .ref rd, .ref t, .ref d, .ref nw, .ref ps, .ref im, .ref is_, .int q10, .ref bk, .int q12, .ref qr, .ref pr, .ref cv, .ref ft])), (nw, .inr (7, [.ref nwc])), (nwc, .inl (cI, 41, .inl fn)), (ps, .inr (2, [.ref sh, .int p1, .int p2])), (bk, .inr (0, [.int b0, .ref bka, .ref bkb]))]) (rest := []) (e_read_x5 rd u0 x d da db dc dd de r0 r1 r3 r4 r5 r6 ftx d0 d1 d2 d3 d4 fda fdb fdc fdd fde q1) okV_X5_read wd_485 hx hb hml hown hts hK hP hD hS hA hN hl.1 [1, 2, 3, 4, 5, 6, 7, 8] [0, 9, 10, 11, 12] rfl rfl rfl rfl (of_decide_eq_true rfl) rfl rfl rfl (Nat.le_of_ble_eq_true rfl) (Nat.le_of_ble_eq_true rfl) (Nat.le_of_ble_eq_true rfl) (Nat.le_of_ble_eq_true rfl) (Nat.le_of_ble_eq_true rfl) dX9_town_16 (fun u_1 H locs hw_u_1 hP hD hS => ?_)
  obtain ⟨o_3, o_4, o_5, o_6, o_7, o_8, o_9, o_10, o_11, o_12, o_13, o_14, o_15, o_16, o_17, o_18⟩ := u_1
  replace hw_u_1 : (o_3, o_4, o_5, o_6, o_7, o_8, o_9, o_10, o_11, o_12, o_13, o_14, o_15, o_16, o_17, o_18) = (f_e_read_x5 r0 r1 r3 r4 r5 r6 ftx d0 d1 d2 d3 d4 fda fdb fdc fdd fde q1) := hw_u_1
  rw [← hw_u_1] at hE
  replace hE : (if o_3 = 0 then (o_9, 0, o_4, d, t, 0, o_3, o_4, o_5, o_6, o_7, o_8, o_9, o_10, o_11, o_12, o_13, o_14, o_15, o_16, o_17, o_18, (f_e_begin_x7 fn o_9 o_10 o_11 o_12 o_13 o_15), (f_e_forget_x2 p1 p2), (f_e_clear_x0 b0)) else (((-10) - o_3), 0, o_4, t, d, q10, o_3, o_4, o_5, o_6, o_7, o_8, o_9, o_10, o_11, o_12, o_13, o_14, o_15, o_16, o_17, o_18, fn, p2, b0)) = RES := hE
  have hP : va_P D classes [(h, .inr (9, [.ref x, .int q1, .int q2, .ref rd, .ref t, .ref d, .ref nw, .ref ps, .ref im, .ref is_, .int q10, .ref bk, .int q12, .ref qr, .ref pr, .ref cv, .ref ft])), (nw, .inr (7, [.ref nwc])), (nwc, .inl (cI, 41, .inl fn)), (ps, .inr (2, [.ref sh, .int p1, .int p2])), (bk, .inr (0, [.int b0, .ref bka, .ref bkb])), (rd, .inr (5, [.int o_3, .int o_4, .ref x, .int o_5, .int o_6, .int o_7, .int o_8])), (x, .inl (cI, 240, .inl ftx)), (d, .inr (8, [.int o_9, .int o_10, .int o_11, .int o_12, .int o_13, .ref da, .ref db, .ref dc, .ref dd, .ref de])), (da, .inl (cI, 6, .inl o_14)), (db, .inl (cI, 6, .inl o_15)), (dc, .inl (cI, 30, .inl o_16)), (dd, .inl (cI, 7, .inl o_17)), (de, .inl (cI, 7, .inl o_18))] H := hP
  have hD : va_D A [(h, .inr (9, [.ref x, .int q1, .int q2, .ref rd, .ref t, .ref d, .ref nw, .ref ps, .ref im, .ref is_, .int q10, .ref bk, .int q12, .ref qr, .ref pr, .ref cv, .ref ft])), (nw, .inr (7, [.ref nwc])), (nwc, .inl (cI, 41, .inl fn)), (ps, .inr (2, [.ref sh, .int p1, .int p2])), (bk, .inr (0, [.int b0, .ref bka, .ref bkb])), (rd, .inr (5, [.int o_3, .int o_4, .ref x, .int o_5, .int o_6, .int o_7, .int o_8])), (x, .inl (cI, 240, .inl ftx)), (d, .inr (8, [.int o_9, .int o_10, .int o_11, .int o_12, .int o_13, .ref da, .ref db, .ref dc, .ref dd, .ref de])), (da, .inl (cI, 6, .inl o_14)), (db, .inl (cI, 6, .inl o_15)), (dc, .inl (cI, 30, .inl o_16)), (dd, .inl (cI, 7, .inl o_17)), (de, .inl (cI, 7, .inl o_18))] := hD
  refine lv_aload_n hx hb dX9_town_19 rfl (lv_at hl 0 rfl) ?_
  refine lv_iconst (v := 0) hx hb dX9_town_20 rfl ?_
  refine va_put (D := D) (ci := 9) (v := .int 0) (ty := .int) (C := RX9) (T := TX9) (N := 17) hx hb hts iX9 tyX9 tyX9_ok nmX9 hown hK hP hD hS 0 rfl rfl 1 (Nat.le_of_ble_eq_true rfl) (hts _ wd_76) (fun _ h9 => h9) rfl (by decide +kernel) rfl rfl (Nat.le_of_ble_eq_true rfl) dX9_town_21 (fun H locs hP hD hS => ?_)
  have hP : va_P D classes [(h, .inr (9, [.ref x, .int 0, .int q2, .ref rd, .ref t, .ref d, .ref nw, .ref ps, .ref im, .ref is_, .int q10, .ref bk, .int q12, .ref qr, .ref pr, .ref cv, .ref ft])), (nw, .inr (7, [.ref nwc])), (nwc, .inl (cI, 41, .inl fn)), (ps, .inr (2, [.ref sh, .int p1, .int p2])), (bk, .inr (0, [.int b0, .ref bka, .ref bkb])), (rd, .inr (5, [.int o_3, .int o_4, .ref x, .int o_5, .int o_6, .int o_7, .int o_8])), (x, .inl (cI, 240, .inl ftx)), (d, .inr (8, [.int o_9, .int o_10, .int o_11, .int o_12, .int o_13, .ref da, .ref db, .ref dc, .ref dd, .ref de])), (da, .inl (cI, 6, .inl o_14)), (db, .inl (cI, 6, .inl o_15)), (dc, .inl (cI, 30, .inl o_16)), (dd, .inl (cI, 7, .inl o_17)), (de, .inl (cI, 7, .inl o_18))] H := hP
  have hD : va_D A [(h, .inr (9, [.ref x, .int 0, .int q2, .ref rd, .ref t, .ref d, .ref nw, .ref ps, .ref im, .ref is_, .int q10, .ref bk, .int q12, .ref qr, .ref pr, .ref cv, .ref ft])), (nw, .inr (7, [.ref nwc])), (nwc, .inl (cI, 41, .inl fn)), (ps, .inr (2, [.ref sh, .int p1, .int p2])), (bk, .inr (0, [.int b0, .ref bka, .ref bkb])), (rd, .inr (5, [.int o_3, .int o_4, .ref x, .int o_5, .int o_6, .int o_7, .int o_8])), (x, .inl (cI, 240, .inl ftx)), (d, .inr (8, [.int o_9, .int o_10, .int o_11, .int o_12, .int o_13, .ref da, .ref db, .ref dc, .ref dd, .ref de])), (da, .inl (cI, 6, .inl o_14)), (db, .inl (cI, 6, .inl o_15)), (dc, .inl (cI, 30, .inl o_16)), (dd, .inl (cI, 7, .inl o_17)), (de, .inl (cI, 7, .inl o_18))] := hD
  refine lv_aload_n hx hb dX9_town_24 rfl (lv_at hl 0 rfl) ?_
  refine lv_aload_n hx hb dX9_town_25 rfl (lv_at hl 0 rfl) ?_
  refine va_get (D := D) (ci := 9) (v := .ref rd) (C := RX9) (T := TX9) (N := 17) hx hb hts iX9 hown hK hP 0 rfl rfl 3 (Nat.le_of_ble_eq_true rfl) (hts _ wd_83) (fun _ h9 => h9) rfl dX9_town_26 ?_
  refine va_get (D := D) (ci := 5) (v := .int o_4) (C := RX5) (T := TX5) (N := 7) hx hb hts iX5 hown hK hP 5 rfl rfl 1 (Nat.le_of_ble_eq_true rfl) (hts _ wd_489) (fun _ h9 => h9) rfl dX9_town_29 ?_
  refine va_put (D := D) (ci := 9) (v := .int o_4) (ty := .int) (C := RX9) (T := TX9) (N := 17) hx hb hts iX9 tyX9 tyX9_ok nmX9 hown hK hP hD hS 0 rfl rfl 2 (Nat.le_of_ble_eq_true rfl) (hts _ wd_77) (fun _ h9 => h9) rfl (by decide +kernel) rfl rfl (Nat.le_of_ble_eq_true rfl) dX9_town_32 (fun H locs hP hD hS => ?_)
  have hP : va_P D classes [(h, .inr (9, [.ref x, .int 0, .int o_4, .ref rd, .ref t, .ref d, .ref nw, .ref ps, .ref im, .ref is_, .int q10, .ref bk, .int q12, .ref qr, .ref pr, .ref cv, .ref ft])), (nw, .inr (7, [.ref nwc])), (nwc, .inl (cI, 41, .inl fn)), (ps, .inr (2, [.ref sh, .int p1, .int p2])), (bk, .inr (0, [.int b0, .ref bka, .ref bkb])), (rd, .inr (5, [.int o_3, .int o_4, .ref x, .int o_5, .int o_6, .int o_7, .int o_8])), (x, .inl (cI, 240, .inl ftx)), (d, .inr (8, [.int o_9, .int o_10, .int o_11, .int o_12, .int o_13, .ref da, .ref db, .ref dc, .ref dd, .ref de])), (da, .inl (cI, 6, .inl o_14)), (db, .inl (cI, 6, .inl o_15)), (dc, .inl (cI, 30, .inl o_16)), (dd, .inl (cI, 7, .inl o_17)), (de, .inl (cI, 7, .inl o_18))] H := hP
  have hD : va_D A [(h, .inr (9, [.ref x, .int 0, .int o_4, .ref rd, .ref t, .ref d, .ref nw, .ref ps, .ref im, .ref is_, .int q10, .ref bk, .int q12, .ref qr, .ref pr, .ref cv, .ref ft])), (nw, .inr (7, [.ref nwc])), (nwc, .inl (cI, 41, .inl fn)), (ps, .inr (2, [.ref sh, .int p1, .int p2])), (bk, .inr (0, [.int b0, .ref bka, .ref bkb])), (rd, .inr (5, [.int o_3, .int o_4, .ref x, .int o_5, .int o_6, .int o_7, .int o_8])), (x, .inl (cI, 240, .inl ftx)), (d, .inr (8, [.int o_9, .int o_10, .int o_11, .int o_12, .int o_13, .ref da, .ref db, .ref dc, .ref dd, .ref de])), (da, .inl (cI, 6, .inl o_14)), (db, .inl (cI, 6, .inl o_15)), (dc, .inl (cI, 30, .inl o_16)), (dd, .inl (cI, 7, .inl o_17)), (de, .inl (cI, 7, .inl o_18))] := hD
  refine lv_aload_n hx hb dX9_town_35 rfl (lv_at hl 0 rfl) ?_
  refine va_get (D := D) (ci := 9) (v := .ref rd) (C := RX9) (T := TX9) (N := 17) hx hb hts iX9 hown hK hP 0 rfl rfl 3 (Nat.le_of_ble_eq_true rfl) (hts _ wd_83) (fun _ h9 => h9) rfl dX9_town_36 ?_
  refine va_get (D := D) (ci := 5) (v := .int o_3) (C := RX5) (T := TX5) (N := 7) hx hb hts iX5 hown hK hP 5 rfl rfl 0 (Nat.le_of_ble_eq_true rfl) (hts _ wd_490) (fun _ h9 => h9) rfl dX9_town_39 ?_
  refine lv_if_eq (tgt := 56) hx hb dX9_town_42 rfl (fun c_19 => ?_) (fun c_19 => ?_)
  · rw [if_pos c_19] at hE
    refine lv_aload_n hx hb dX9_town_56 rfl (lv_at hl 0 rfl) ?_
    refine va_get (D := D) (ci := 9) (v := .ref t) (C := RX9) (T := TX9) (N := 17) hx hb hts iX9 hown hK hP 0 rfl rfl 4 (Nat.le_of_ble_eq_true rfl) (hts _ wd_89) (fun _ h9 => h9) rfl dX9_town_57 ?_
    refine lv_astore_n (lv' := [(1, .ref t), (0, .ref h)]) hx hb dX9_town_60 rfl hl (Nat.le_of_ble_eq_true rfl) rfl (fun ls hl => ?_)
    refine lv_aload_n hx hb dX9_town_61 rfl (lv_at hl 1 rfl) ?_
    refine lv_aload_n hx hb dX9_town_62 rfl (lv_at hl 1 rfl) ?_
    refine va_get (D := D) (ci := 9) (v := .ref d) (C := RX9) (T := TX9) (N := 17) hx hb hts iX9 hown hK hP 0 rfl rfl 5 (Nat.le_of_ble_eq_true rfl) (hts _ wd_90) (fun _ h9 => h9) rfl dX9_town_63 ?_
    refine va_put (D := D) (ci := 9) (v := .ref d) (ty := (.object "QuarrelBridges$Town")) (C := RX9) (T := TX9) (N := 17) hx hb hts iX9 tyX9 tyX9_ok nmX9 hown hK hP hD hS 0 rfl rfl 4 (Nat.le_of_ble_eq_true rfl) (hts _ wd_89) (fun _ h9 => h9) rfl (by decide +kernel) rfl rfl (Nat.le_of_ble_eq_true rfl) dX9_town_66 (fun H locs hP hD hS => ?_)
    have hP : va_P D classes [(h, .inr (9, [.ref x, .int 0, .int o_4, .ref rd, .ref d, .ref d, .ref nw, .ref ps, .ref im, .ref is_, .int q10, .ref bk, .int q12, .ref qr, .ref pr, .ref cv, .ref ft])), (nw, .inr (7, [.ref nwc])), (nwc, .inl (cI, 41, .inl fn)), (ps, .inr (2, [.ref sh, .int p1, .int p2])), (bk, .inr (0, [.int b0, .ref bka, .ref bkb])), (rd, .inr (5, [.int o_3, .int o_4, .ref x, .int o_5, .int o_6, .int o_7, .int o_8])), (x, .inl (cI, 240, .inl ftx)), (d, .inr (8, [.int o_9, .int o_10, .int o_11, .int o_12, .int o_13, .ref da, .ref db, .ref dc, .ref dd, .ref de])), (da, .inl (cI, 6, .inl o_14)), (db, .inl (cI, 6, .inl o_15)), (dc, .inl (cI, 30, .inl o_16)), (dd, .inl (cI, 7, .inl o_17)), (de, .inl (cI, 7, .inl o_18))] H := hP
    have hD : va_D A [(h, .inr (9, [.ref x, .int 0, .int o_4, .ref rd, .ref d, .ref d, .ref nw, .ref ps, .ref im, .ref is_, .int q10, .ref bk, .int q12, .ref qr, .ref pr, .ref cv, .ref ft])), (nw, .inr (7, [.ref nwc])), (nwc, .inl (cI, 41, .inl fn)), (ps, .inr (2, [.ref sh, .int p1, .int p2])), (bk, .inr (0, [.int b0, .ref bka, .ref bkb])), (rd, .inr (5, [.int o_3, .int o_4, .ref x, .int o_5, .int o_6, .int o_7, .int o_8])), (x, .inl (cI, 240, .inl ftx)), (d, .inr (8, [.int o_9, .int o_10, .int o_11, .int o_12, .int o_13, .ref da, .ref db, .ref dc, .ref dd, .ref de])), (da, .inl (cI, 6, .inl o_14)), (db, .inl (cI, 6, .inl o_15)), (dc, .inl (cI, 30, .inl o_16)), (dd, .inl (cI, 7, .inl o_17)), (de, .inl (cI, 7, .inl o_18))] := hD
    refine lv_aload_n hx hb dX9_town_69 rfl (lv_at hl 1 rfl) ?_
    refine lv_aload_n hx hb dX9_town_70 rfl (lv_at hl 0 rfl) ?_
    refine va_put (D := D) (ci := 9) (v := .ref t) (ty := (.object "QuarrelBridges$Town")) (C := RX9) (T := TX9) (N := 17) hx hb hts iX9 tyX9 tyX9_ok nmX9 hown hK hP hD hS 0 rfl rfl 5 (Nat.le_of_ble_eq_true rfl) (hts _ wd_90) (fun _ h9 => h9) rfl (by decide +kernel) rfl rfl (Nat.le_of_ble_eq_true rfl) dX9_town_71 (fun H locs hP hD hS => ?_)
    have hP : va_P D classes [(h, .inr (9, [.ref x, .int 0, .int o_4, .ref rd, .ref d, .ref t, .ref nw, .ref ps, .ref im, .ref is_, .int q10, .ref bk, .int q12, .ref qr, .ref pr, .ref cv, .ref ft])), (nw, .inr (7, [.ref nwc])), (nwc, .inl (cI, 41, .inl fn)), (ps, .inr (2, [.ref sh, .int p1, .int p2])), (bk, .inr (0, [.int b0, .ref bka, .ref bkb])), (rd, .inr (5, [.int o_3, .int o_4, .ref x, .int o_5, .int o_6, .int o_7, .int o_8])), (x, .inl (cI, 240, .inl ftx)), (d, .inr (8, [.int o_9, .int o_10, .int o_11, .int o_12, .int o_13, .ref da, .ref db, .ref dc, .ref dd, .ref de])), (da, .inl (cI, 6, .inl o_14)), (db, .inl (cI, 6, .inl o_15)), (dc, .inl (cI, 30, .inl o_16)), (dd, .inl (cI, 7, .inl o_17)), (de, .inl (cI, 7, .inl o_18))] H := hP
    have hD : va_D A [(h, .inr (9, [.ref x, .int 0, .int o_4, .ref rd, .ref d, .ref t, .ref nw, .ref ps, .ref im, .ref is_, .int q10, .ref bk, .int q12, .ref qr, .ref pr, .ref cv, .ref ft])), (nw, .inr (7, [.ref nwc])), (nwc, .inl (cI, 41, .inl fn)), (ps, .inr (2, [.ref sh, .int p1, .int p2])), (bk, .inr (0, [.int b0, .ref bka, .ref bkb])), (rd, .inr (5, [.int o_3, .int o_4, .ref x, .int o_5, .int o_6, .int o_7, .int o_8])), (x, .inl (cI, 240, .inl ftx)), (d, .inr (8, [.int o_9, .int o_10, .int o_11, .int o_12, .int o_13, .ref da, .ref db, .ref dc, .ref dd, .ref de])), (da, .inl (cI, 6, .inl o_14)), (db, .inl (cI, 6, .inl o_15)), (dc, .inl (cI, 30, .inl o_16)), (dd, .inl (cI, 7, .inl o_17)), (de, .inl (cI, 7, .inl o_18))] := hD
    refine lv_aload_n hx hb dX9_town_74 rfl (lv_at hl 1 rfl) ?_
    refine va_get (D := D) (ci := 9) (v := .ref nw) (C := RX9) (T := TX9) (N := 17) hx hb hts iX9 hown hK hP 0 rfl rfl 6 (Nat.le_of_ble_eq_true rfl) (hts _ wd_96) (fun _ h9 => h9) rfl dX9_town_75 ?_
    refine lv_aload_n hx hb dX9_town_78 rfl (lv_at hl 1 rfl) ?_
    refine va_get (D := D) (ci := 9) (v := .ref d) (C := RX9) (T := TX9) (N := 17) hx hb hts iX9 hown hK hP 0 rfl rfl 4 (Nat.le_of_ble_eq_true rfl) (hts _ wd_89) (fun _ h9 => h9) rfl dX9_town_79 ?_
    refine cVv (wr := [(h, .inr (9, [.ref x, .int 0, .int o_4, .ref rd, .ref d, .ref t, .ref nw, .ref ps, .ref im, .ref is_, .int q10, .ref bk, .int q12, .ref qr, .ref pr, .ref cv, .ref ft])), (ps, .inr (2, [.ref sh, .int p1, .int p2])), (bk, .inr (0, [.int b0, .ref bka, .ref bkb])), (rd, .inr (5, [.int o_3, .int o_4, .ref x, .int o_5, .int o_6, .int o_7, .int o_8])), (x, .inl (cI, 240, .inl ftx)), (da, .inl (cI, 6, .inl o_14)), (dc, .inl (cI, 30, .inl o_16)), (dd, .inl (cI, 7, .inl o_17)), (de, .inl (cI, 7, .inl o_18))]) (rest := []) (e_begin_x7 nw nwc d da db dc dd de fn o_9 o_10 o_11 o_12 o_13 o_15) okV_X7_begin wd_134 hx hb hml hown hts hK hP hD hS hA hN hl.1 [1, 2, 7, 9] [0, 3, 4, 5, 6, 8, 10, 11, 12] rfl rfl rfl rfl (of_decide_eq_true rfl) rfl rfl rfl (Nat.le_of_ble_eq_true rfl) (Nat.le_of_ble_eq_true rfl) (Nat.le_of_ble_eq_true rfl) (Nat.le_of_ble_eq_true rfl) (Nat.le_of_ble_eq_true rfl) dX9_town_82 (fun u_20 H locs hw_u_20 hP hD hS => ?_)
    replace hw_u_20 : u_20 = (f_e_begin_x7 fn o_9 o_10 o_11 o_12 o_13 o_15) := hw_u_20
    subst hw_u_20
    have hP : va_P D classes [(h, .inr (9, [.ref x, .int 0, .int o_4, .ref rd, .ref d, .ref t, .ref nw, .ref ps, .ref im, .ref is_, .int q10, .ref bk, .int q12, .ref qr, .ref pr, .ref cv, .ref ft])), (ps, .inr (2, [.ref sh, .int p1, .int p2])), (bk, .inr (0, [.int b0, .ref bka, .ref bkb])), (rd, .inr (5, [.int o_3, .int o_4, .ref x, .int o_5, .int o_6, .int o_7, .int o_8])), (x, .inl (cI, 240, .inl ftx)), (da, .inl (cI, 6, .inl o_14)), (dc, .inl (cI, 30, .inl o_16)), (dd, .inl (cI, 7, .inl o_17)), (de, .inl (cI, 7, .inl o_18)), (nw, .inr (7, [.ref nwc])), (nwc, .inl (cI, 41, .inl (f_e_begin_x7 fn o_9 o_10 o_11 o_12 o_13 o_15))), (d, .inr (8, [.int o_9, .int o_10, .int o_11, .int o_12, .int o_13, .ref da, .ref db, .ref dc, .ref dd, .ref de])), (db, .inl (cI, 6, .inl o_15))] H := hP
    have hD : va_D A [(h, .inr (9, [.ref x, .int 0, .int o_4, .ref rd, .ref d, .ref t, .ref nw, .ref ps, .ref im, .ref is_, .int q10, .ref bk, .int q12, .ref qr, .ref pr, .ref cv, .ref ft])), (ps, .inr (2, [.ref sh, .int p1, .int p2])), (bk, .inr (0, [.int b0, .ref bka, .ref bkb])), (rd, .inr (5, [.int o_3, .int o_4, .ref x, .int o_5, .int o_6, .int o_7, .int o_8])), (x, .inl (cI, 240, .inl ftx)), (da, .inl (cI, 6, .inl o_14)), (dc, .inl (cI, 30, .inl o_16)), (dd, .inl (cI, 7, .inl o_17)), (de, .inl (cI, 7, .inl o_18)), (nw, .inr (7, [.ref nwc])), (nwc, .inl (cI, 41, .inl (f_e_begin_x7 fn o_9 o_10 o_11 o_12 o_13 o_15))), (d, .inr (8, [.int o_9, .int o_10, .int o_11, .int o_12, .int o_13, .ref da, .ref db, .ref dc, .ref dd, .ref de])), (db, .inl (cI, 6, .inl o_15))] := hD
    refine lv_aload_n hx hb dX9_town_85 rfl (lv_at hl 1 rfl) ?_
    refine va_get (D := D) (ci := 9) (v := .ref ps) (C := RX9) (T := TX9) (N := 17) hx hb hts iX9 hown hK hP 0 rfl rfl 7 (Nat.le_of_ble_eq_true rfl) (hts _ wd_102) (fun _ h9 => h9) rfl dX9_town_86 ?_
    refine cVv (wr := [(h, .inr (9, [.ref x, .int 0, .int o_4, .ref rd, .ref d, .ref t, .ref nw, .ref ps, .ref im, .ref is_, .int q10, .ref bk, .int q12, .ref qr, .ref pr, .ref cv, .ref ft])), (bk, .inr (0, [.int b0, .ref bka, .ref bkb])), (rd, .inr (5, [.int o_3, .int o_4, .ref x, .int o_5, .int o_6, .int o_7, .int o_8])), (x, .inl (cI, 240, .inl ftx)), (da, .inl (cI, 6, .inl o_14)), (dc, .inl (cI, 30, .inl o_16)), (dd, .inl (cI, 7, .inl o_17)), (de, .inl (cI, 7, .inl o_18)), (nw, .inr (7, [.ref nwc])), (nwc, .inl (cI, 41, .inl (f_e_begin_x7 fn o_9 o_10 o_11 o_12 o_13 o_15))), (d, .inr (8, [.int o_9, .int o_10, .int o_11, .int o_12, .int o_13, .ref da, .ref db, .ref dc, .ref dd, .ref de])), (db, .inl (cI, 6, .inl o_15))]) (rest := []) (e_forget_x2 ps sh p1 p2) okV_X2_forget wd_438 hx hb hml hown hts hK hP hD hS hA hN hl.1 [1] [0, 2, 3, 4, 5, 6, 7, 8, 9, 10, 11, 12] rfl rfl rfl rfl (of_decide_eq_true rfl) rfl rfl rfl (Nat.le_of_ble_eq_true rfl) (Nat.le_of_ble_eq_true rfl) (Nat.le_of_ble_eq_true rfl) (Nat.le_of_ble_eq_true rfl) (Nat.le_of_ble_eq_true rfl) dX9_town_89 (fun u_22 H locs hw_u_22 hP hD hS => ?_)
    replace hw_u_22 : u_22 = (f_e_forget_x2 p1 p2) := hw_u_22
    subst hw_u_22
    have hP : va_P D classes [(h, .inr (9, [.ref x, .int 0, .int o_4, .ref rd, .ref d, .ref t, .ref nw, .ref ps, .ref im, .ref is_, .int q10, .ref bk, .int q12, .ref qr, .ref pr, .ref cv, .ref ft])), (bk, .inr (0, [.int b0, .ref bka, .ref bkb])), (rd, .inr (5, [.int o_3, .int o_4, .ref x, .int o_5, .int o_6, .int o_7, .int o_8])), (x, .inl (cI, 240, .inl ftx)), (da, .inl (cI, 6, .inl o_14)), (dc, .inl (cI, 30, .inl o_16)), (dd, .inl (cI, 7, .inl o_17)), (de, .inl (cI, 7, .inl o_18)), (nw, .inr (7, [.ref nwc])), (nwc, .inl (cI, 41, .inl (f_e_begin_x7 fn o_9 o_10 o_11 o_12 o_13 o_15))), (d, .inr (8, [.int o_9, .int o_10, .int o_11, .int o_12, .int o_13, .ref da, .ref db, .ref dc, .ref dd, .ref de])), (db, .inl (cI, 6, .inl o_15)), (ps, .inr (2, [.ref sh, .int p1, .int (f_e_forget_x2 p1 p2)]))] H := hP
    have hD : va_D A [(h, .inr (9, [.ref x, .int 0, .int o_4, .ref rd, .ref d, .ref t, .ref nw, .ref ps, .ref im, .ref is_, .int q10, .ref bk, .int q12, .ref qr, .ref pr, .ref cv, .ref ft])), (bk, .inr (0, [.int b0, .ref bka, .ref bkb])), (rd, .inr (5, [.int o_3, .int o_4, .ref x, .int o_5, .int o_6, .int o_7, .int o_8])), (x, .inl (cI, 240, .inl ftx)), (da, .inl (cI, 6, .inl o_14)), (dc, .inl (cI, 30, .inl o_16)), (dd, .inl (cI, 7, .inl o_17)), (de, .inl (cI, 7, .inl o_18)), (nw, .inr (7, [.ref nwc])), (nwc, .inl (cI, 41, .inl (f_e_begin_x7 fn o_9 o_10 o_11 o_12 o_13 o_15))), (d, .inr (8, [.int o_9, .int o_10, .int o_11, .int o_12, .int o_13, .ref da, .ref db, .ref dc, .ref dd, .ref de])), (db, .inl (cI, 6, .inl o_15)), (ps, .inr (2, [.ref sh, .int p1, .int (f_e_forget_x2 p1 p2)]))] := hD
    refine lv_aload_n hx hb dX9_town_92 rfl (lv_at hl 1 rfl) ?_
    refine lv_iconst (v := 0) hx hb dX9_town_93 rfl ?_
    refine va_put (D := D) (ci := 9) (v := .int 0) (ty := .int) (C := RX9) (T := TX9) (N := 17) hx hb hts iX9 tyX9 tyX9_ok nmX9 hown hK hP hD hS 0 rfl rfl 10 (Nat.le_of_ble_eq_true rfl) (hts _ wd_107) (fun _ h9 => h9) rfl (by decide +kernel) rfl rfl (Nat.le_of_ble_eq_true rfl) dX9_town_94 (fun H locs hP hD hS => ?_)
    have hP : va_P D classes [(h, .inr (9, [.ref x, .int 0, .int o_4, .ref rd, .ref d, .ref t, .ref nw, .ref ps, .ref im, .ref is_, .int 0, .ref bk, .int q12, .ref qr, .ref pr, .ref cv, .ref ft])), (bk, .inr (0, [.int b0, .ref bka, .ref bkb])), (rd, .inr (5, [.int o_3, .int o_4, .ref x, .int o_5, .int o_6, .int o_7, .int o_8])), (x, .inl (cI, 240, .inl ftx)), (da, .inl (cI, 6, .inl o_14)), (dc, .inl (cI, 30, .inl o_16)), (dd, .inl (cI, 7, .inl o_17)), (de, .inl (cI, 7, .inl o_18)), (nw, .inr (7, [.ref nwc])), (nwc, .inl (cI, 41, .inl (f_e_begin_x7 fn o_9 o_10 o_11 o_12 o_13 o_15))), (d, .inr (8, [.int o_9, .int o_10, .int o_11, .int o_12, .int o_13, .ref da, .ref db, .ref dc, .ref dd, .ref de])), (db, .inl (cI, 6, .inl o_15)), (ps, .inr (2, [.ref sh, .int p1, .int (f_e_forget_x2 p1 p2)]))] H := hP
    have hD : va_D A [(h, .inr (9, [.ref x, .int 0, .int o_4, .ref rd, .ref d, .ref t, .ref nw, .ref ps, .ref im, .ref is_, .int 0, .ref bk, .int q12, .ref qr, .ref pr, .ref cv, .ref ft])), (bk, .inr (0, [.int b0, .ref bka, .ref bkb])), (rd, .inr (5, [.int o_3, .int o_4, .ref x, .int o_5, .int o_6, .int o_7, .int o_8])), (x, .inl (cI, 240, .inl ftx)), (da, .inl (cI, 6, .inl o_14)), (dc, .inl (cI, 30, .inl o_16)), (dd, .inl (cI, 7, .inl o_17)), (de, .inl (cI, 7, .inl o_18)), (nw, .inr (7, [.ref nwc])), (nwc, .inl (cI, 41, .inl (f_e_begin_x7 fn o_9 o_10 o_11 o_12 o_13 o_15))), (d, .inr (8, [.int o_9, .int o_10, .int o_11, .int o_12, .int o_13, .ref da, .ref db, .ref dc, .ref dd, .ref de])), (db, .inl (cI, 6, .inl o_15)), (ps, .inr (2, [.ref sh, .int p1, .int (f_e_forget_x2 p1 p2)]))] := hD
    refine lv_aload_n hx hb dX9_town_97 rfl (lv_at hl 1 rfl) ?_
    refine va_get (D := D) (ci := 9) (v := .ref bk) (C := RX9) (T := TX9) (N := 17) hx hb hts iX9 hown hK hP 0 rfl rfl 11 (Nat.le_of_ble_eq_true rfl) (hts _ wd_113) (fun _ h9 => h9) rfl dX9_town_98 ?_
    refine cVv (wr := [(h, .inr (9, [.ref x, .int 0, .int o_4, .ref rd, .ref d, .ref t, .ref nw, .ref ps, .ref im, .ref is_, .int 0, .ref bk, .int q12, .ref qr, .ref pr, .ref cv, .ref ft])), (rd, .inr (5, [.int o_3, .int o_4, .ref x, .int o_5, .int o_6, .int o_7, .int o_8])), (x, .inl (cI, 240, .inl ftx)), (da, .inl (cI, 6, .inl o_14)), (dc, .inl (cI, 30, .inl o_16)), (dd, .inl (cI, 7, .inl o_17)), (de, .inl (cI, 7, .inl o_18)), (nw, .inr (7, [.ref nwc])), (nwc, .inl (cI, 41, .inl (f_e_begin_x7 fn o_9 o_10 o_11 o_12 o_13 o_15))), (d, .inr (8, [.int o_9, .int o_10, .int o_11, .int o_12, .int o_13, .ref da, .ref db, .ref dc, .ref dd, .ref de])), (db, .inl (cI, 6, .inl o_15)), (ps, .inr (2, [.ref sh, .int p1, .int (f_e_forget_x2 p1 p2)]))]) (rest := []) (e_clear_x0 bk bka bkb b0) okV_X0_clear wd_429 hx hb hml hown hts hK hP hD hS hA hN hl.1 [1] [0, 2, 3, 4, 5, 6, 7, 8, 9, 10, 11, 12] rfl rfl rfl rfl (of_decide_eq_true rfl) rfl rfl rfl (Nat.le_of_ble_eq_true rfl) (Nat.le_of_ble_eq_true rfl) (Nat.le_of_ble_eq_true rfl) (Nat.le_of_ble_eq_true rfl) (Nat.le_of_ble_eq_true rfl) dX9_town_101 (fun u_24 H locs hw_u_24 hP hD hS => ?_)
    replace hw_u_24 : u_24 = (f_e_clear_x0 b0) := hw_u_24
    subst hw_u_24
    have hP : va_P D classes [(h, .inr (9, [.ref x, .int 0, .int o_4, .ref rd, .ref d, .ref t, .ref nw, .ref ps, .ref im, .ref is_, .int 0, .ref bk, .int q12, .ref qr, .ref pr, .ref cv, .ref ft])), (rd, .inr (5, [.int o_3, .int o_4, .ref x, .int o_5, .int o_6, .int o_7, .int o_8])), (x, .inl (cI, 240, .inl ftx)), (da, .inl (cI, 6, .inl o_14)), (dc, .inl (cI, 30, .inl o_16)), (dd, .inl (cI, 7, .inl o_17)), (de, .inl (cI, 7, .inl o_18)), (nw, .inr (7, [.ref nwc])), (nwc, .inl (cI, 41, .inl (f_e_begin_x7 fn o_9 o_10 o_11 o_12 o_13 o_15))), (d, .inr (8, [.int o_9, .int o_10, .int o_11, .int o_12, .int o_13, .ref da, .ref db, .ref dc, .ref dd, .ref de])), (db, .inl (cI, 6, .inl o_15)), (ps, .inr (2, [.ref sh, .int p1, .int (f_e_forget_x2 p1 p2)])), (bk, .inr (0, [.int (f_e_clear_x0 b0), .ref bka, .ref bkb]))] H := hP
    have hD : va_D A [(h, .inr (9, [.ref x, .int 0, .int o_4, .ref rd, .ref d, .ref t, .ref nw, .ref ps, .ref im, .ref is_, .int 0, .ref bk, .int q12, .ref qr, .ref pr, .ref cv, .ref ft])), (rd, .inr (5, [.int o_3, .int o_4, .ref x, .int o_5, .int o_6, .int o_7, .int o_8])), (x, .inl (cI, 240, .inl ftx)), (da, .inl (cI, 6, .inl o_14)), (dc, .inl (cI, 30, .inl o_16)), (dd, .inl (cI, 7, .inl o_17)), (de, .inl (cI, 7, .inl o_18)), (nw, .inr (7, [.ref nwc])), (nwc, .inl (cI, 41, .inl (f_e_begin_x7 fn o_9 o_10 o_11 o_12 o_13 o_15))), (d, .inr (8, [.int o_9, .int o_10, .int o_11, .int o_12, .int o_13, .ref da, .ref db, .ref dc, .ref dd, .ref de])), (db, .inl (cI, 6, .inl o_15)), (ps, .inr (2, [.ref sh, .int p1, .int (f_e_forget_x2 p1 p2)])), (bk, .inr (0, [.int (f_e_clear_x0 b0), .ref bka, .ref bkb]))] := hD
    refine lv_aload_n hx hb dX9_town_104 rfl (lv_at hl 1 rfl) ?_
    refine va_get (D := D) (ci := 9) (v := .ref d) (C := RX9) (T := TX9) (N := 17) hx hb hts iX9 hown hK hP 0 rfl rfl 4 (Nat.le_of_ble_eq_true rfl) (hts _ wd_89) (fun _ h9 => h9) rfl dX9_town_105 ?_
    refine va_get (D := D) (ci := 8) (v := .int o_9) (C := RX8) (T := TX8) (N := 10) hx hb hts iX8 hown hK hP 9 rfl rfl 0 (Nat.le_of_ble_eq_true rfl) (hts _ wd_372) (fun _ h9 => h9) rfl dX9_town_108 ?_
    exact hret o_9 (0, o_4, d, t, 0, o_3, o_4, o_5, o_6, o_7, o_8, o_9, o_10, o_11, o_12, o_13, o_14, o_15, o_16, o_17, o_18, (f_e_begin_x7 fn o_9 o_10 o_11 o_12 o_13 o_15), (f_e_forget_x2 p1 p2), (f_e_clear_x0 b0)) _ _ _ _ dX9_town_111 rfl hE (cutP (isC := [0, 1, 2, 9, 3, 10, 4, 5, 6, 7, 8, 11, 12]) hP rfl) (cutD (isC := [0, 1, 2, 9, 3, 10, 4, 5, 6, 7, 8, 11, 12]) hD rfl rfl) hS
  · rw [if_neg c_19] at hE
    refine lv_bipush (v := (-10)) hx hb dX9_town_45 rfl ?_
    refine lv_aload_n hx hb dX9_town_47 rfl (lv_at hl 0 rfl) ?_
    refine va_get (D := D) (ci := 9) (v := .ref rd) (C := RX9) (T := TX9) (N := 17) hx hb hts iX9 hown hK hP 0 rfl rfl 3 (Nat.le_of_ble_eq_true rfl) (hts _ wd_83) (fun _ h9 => h9) rfl dX9_town_48 ?_
    refine va_get (D := D) (ci := 5) (v := .int o_3) (C := RX5) (T := TX5) (N := 7) hx hb hts iX5 hown hK hP 5 rfl rfl 0 (Nat.le_of_ble_eq_true rfl) (hts _ wd_490) (fun _ h9 => h9) rfl dX9_town_51 ?_
    refine lv_isub hx hb dX9_town_54 ?_
    exact hret ((-10) - o_3) (0, o_4, t, d, q10, o_3, o_4, o_5, o_6, o_7, o_8, o_9, o_10, o_11, o_12, o_13, o_14, o_15, o_16, o_17, o_18, fn, p2, b0) _ _ _ _ dX9_town_55 rfl hE (cutP (isC := [0, 5, 6, 7, 8, 9, 10, 11, 12, 1, 2, 3, 4]) hP rfl) (cutD (isC := [0, 5, 6, 7, 8, 9, 10, 11, 12, 1, 2, 3, 4]) hD rfl rfl) hS
end
