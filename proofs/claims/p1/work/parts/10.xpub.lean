theorem dX9_feed_0 : decode cX9_feed 0 = .ok (.iload_n 1, 1) := by decide +kernel
theorem dX9_feed_1 : decode cX9_feed 1 = .ok (.ifCond .lt 10, 3) := by decide +kernel
theorem wd_191 : Cond.constant RX9 104 (-1000000002) ∈ BG := BG_in (by decide +kernel) rfl
theorem dX9_feed_11 : decode cX9_feed 11 = .ok (.ldc 104, 2) := by decide +kernel
theorem dX9_feed_13 : decode cX9_feed 13 = .ok (.ireturn, 1) := by decide +kernel
theorem dX9_feed_4 : decode cX9_feed 4 = .ok (.iload_n 1, 1) := by decide +kernel
theorem dX9_feed_5 : decode cX9_feed 5 = .ok (.sipush 255, 3) := by decide +kernel
theorem dX9_feed_8 : decode cX9_feed 8 = .ok (.if_icmp .le 6, 3) := by decide +kernel
theorem dX9_feed_14 : decode cX9_feed 14 = .ok (.aload_n 0, 1) := by decide +kernel
theorem dX9_feed_15 : decode cX9_feed 15 = .ok (.getfield 13, 3) := by decide +kernel
theorem dX9_feed_18 : decode cX9_feed 18 = .ok (.sipush 240, 3) := by decide +kernel
theorem dX9_feed_21 : decode cX9_feed 21 = .ok (.if_icmp .lt 6, 3) := by decide +kernel
theorem dX9_feed_27 : decode cX9_feed 27 = .ok (.aload_n 0, 1) := by decide +kernel
theorem dX9_feed_28 : decode cX9_feed 28 = .ok (.getfield 9, 3) := by decide +kernel
theorem dX9_feed_31 : decode cX9_feed 31 = .ok (.aload_n 0, 1) := by decide +kernel
theorem dX9_feed_32 : decode cX9_feed 32 = .ok (.getfield 13, 3) := by decide +kernel
theorem dX9_feed_35 : decode cX9_feed 35 = .ok (.iload_n 1, 1) := by decide +kernel
theorem dX9_feed_36 : decode cX9_feed 36 = .ok (.invokestatic 106, 3) := by decide +kernel
theorem wd_192 : Cond.methodLink RX9 106 yX9_put ∈ BG := BG_in (by decide +kernel) rfl
theorem dX9_feed_39 : decode cX9_feed 39 = .ok (.aload_n 0, 1) := by decide +kernel
theorem dX9_feed_40 : decode cX9_feed 40 = .ok (.dup, 1) := by decide +kernel
theorem dX9_feed_41 : decode cX9_feed 41 = .ok (.getfield 13, 3) := by decide +kernel
theorem dX9_feed_44 : decode cX9_feed 44 = .ok (.iconst 1, 1) := by decide +kernel
theorem dX9_feed_45 : decode cX9_feed 45 = .ok (.iadd, 1) := by decide +kernel
theorem dX9_feed_46 : decode cX9_feed 46 = .ok (.putfield 13, 3) := by decide +kernel
theorem dX9_feed_49 : decode cX9_feed 49 = .ok (.aload_n 0, 1) := by decide +kernel
theorem dX9_feed_50 : decode cX9_feed 50 = .ok (.getfield 13, 3) := by decide +kernel
theorem dX9_feed_53 : decode cX9_feed 53 = .ok (.ireturn, 1) := by decide +kernel
theorem dX0_firstWrong_0 : decode cX0_firstWrong 0 = .ok (.iconst 0, 1) := by decide +kernel
theorem dX0_firstWrong_1 : decode cX0_firstWrong 1 = .ok (.istore_n 2, 1) := by decide +kernel
theorem dX0_firstWrong_2 : decode cX0_firstWrong 2 = .ok (.iload_n 2, 1) := by decide +kernel
theorem dX0_firstWrong_3 : decode cX0_firstWrong 3 = .ok (.aload_n 0, 1) := by decide +kernel
theorem dX0_firstWrong_4 : decode cX0_firstWrong 4 = .ok (.getfield 9, 3) := by decide +kernel
theorem dX0_firstWrong_7 : decode cX0_firstWrong 7 = .ok (.if_icmp .ge 34, 3) := by decide +kernel
theorem dX0_firstWrong_41 : decode cX0_firstWrong 41 = .ok (.iconst (-1), 1) := by decide +kernel
theorem dX0_firstWrong_42 : decode cX0_firstWrong 42 = .ok (.ireturn, 1) := by decide +kernel
theorem dX6_store_0 : decode cX6_store 0 = .ok (.iload_n 1, 1) := by decide +kernel
theorem dX6_store_1 : decode cX6_store 1 = .ok (.ifCond .lt 29, 3) := by decide +kernel
theorem dX6_store_4 : decode cX6_store 4 = .ok (.iload_n 1, 1) := by decide +kernel
theorem dX6_store_5 : decode cX6_store 5 = .ok (.aload_n 0, 1) := by decide +kernel
theorem dX6_store_6 : decode cX6_store 6 = .ok (.getfield 13, 3) := by decide +kernel
theorem dX6_store_9 : decode cX6_store 9 = .ok (.if_icmp .ge 21, 3) := by decide +kernel
theorem dX6_store_12 : decode cX6_store 12 = .ok (.aload_n 2, 1) := by decide +kernel
theorem wd_193 : Cond.fieldLink RX6 25 "QuarrelBridges$State" "cells" "[I" ∈ BG := BG_in (by decide +kernel) rfl
theorem dX6_store_13 : decode cX6_store 13 = .ok (.getfield 25, 3) := by decide +kernel
theorem dX6_store_16 : decode cX6_store 16 = .ok (.iconst 0, 1) := by decide +kernel
theorem dX6_store_17 : decode cX6_store 17 = .ok (.aload_n 0, 1) := by decide +kernel
theorem dX6_store_18 : decode cX6_store 18 = .ok (.getfield 21, 3) := by decide +kernel
theorem dX6_store_21 : decode cX6_store 21 = .ok (.iload_n 1, 1) := by decide +kernel
theorem dX6_store_22 : decode cX6_store 22 = .ok (.bipush 41, 2) := by decide +kernel
theorem dX6_store_24 : decode cX6_store 24 = .ok (.imul, 1) := by decide +kernel
theorem dX6_store_25 : decode cX6_store 25 = .ok (.bipush 41, 2) := by decide +kernel
theorem dX6_store_27 : decode cX6_store 27 = .ok (.invokestatic 26, 3) := by decide +kernel
theorem wd_194 : Cond.methodLink RX6 26 arraycopyName ∈ BG := BG_in (by decide +kernel) rfl
theorem wd_195 : Cond.native arraycopyName ∈ BG := BG_in (by decide +kernel) rfl
theorem wd_196 : Cond.static arraycopyName ∈ BG := BG_in (by decide +kernel) rfl
theorem wd_197 : Cond.initialized "java/lang/System" ∈ BG := BG_in (by decide +kernel) rfl
theorem dX6_store_30 : decode cX6_store 30 = .ok (.return_, 1) := by decide +kernel
theorem dX9_town_0 : decode cX9_town 0 = .ok (.aload_n 0, 1) := by decide +kernel
theorem dX9_town_1 : decode cX9_town 1 = .ok (.getfield 23, 3) := by decide +kernel
theorem dX9_town_4 : decode cX9_town 4 = .ok (.aload_n 0, 1) := by decide +kernel
theorem dX9_town_5 : decode cX9_town 5 = .ok (.getfield 9, 3) := by decide +kernel
theorem dX9_town_8 : decode cX9_town 8 = .ok (.aload_n 0, 1) := by decide +kernel
theorem dX9_town_9 : decode cX9_town 9 = .ok (.getfield 13, 3) := by decide +kernel
theorem dX9_town_12 : decode cX9_town 12 = .ok (.aload_n 0, 1) := by decide +kernel
theorem dX9_town_13 : decode cX9_town 13 = .ok (.getfield 34, 3) := by decide +kernel
theorem dX9_town_16 : decode cX9_town 16 = .ok (.invokevirtual 110, 3) := by decide +kernel
theorem wd_198 : Cond.methodLink RX9 110 yX5_read ∈ BG := BG_in (by decide +kernel) rfl
theorem wd_199 : Cond.code yX5_read cX5_read 5 none ∈ BG := BG_in (by decide +kernel) rfl
theorem wd_200 : Cond.instanceMethod yX5_read ∈ BG := BG_in (by decide +kernel) rfl
theorem wd_201 : Cond.selects RX5 yX5_read yX5_read ∈ BG := BG_in (by decide +kernel) rfl
theorem okV_X5_read : okV yX5_read cX5_read 5 none 3 := ⟨⟨wd_199, wd_80, by decide +kernel⟩, wd_200, wd_201⟩
theorem dX9_town_19 : decode cX9_town 19 = .ok (.aload_n 0, 1) := by decide +kernel
theorem dX9_town_20 : decode cX9_town 20 = .ok (.iconst 0, 1) := by decide +kernel
theorem dX9_town_21 : decode cX9_town 21 = .ok (.putfield 13, 3) := by decide +kernel
theorem dX9_town_24 : decode cX9_town 24 = .ok (.aload_n 0, 1) := by decide +kernel
theorem dX9_town_25 : decode cX9_town 25 = .ok (.aload_n 0, 1) := by decide +kernel
theorem dX9_town_26 : decode cX9_town 26 = .ok (.getfield 23, 3) := by decide +kernel
theorem wd_202 : Cond.fieldLink RX9 114 "QuarrelBridges$Reader" "faultAt" "I" ∈ BG := BG_in (by decide +kernel) rfl
theorem dX9_town_29 : decode cX9_town 29 = .ok (.getfield 114, 3) := by decide +kernel
theorem dX9_town_32 : decode cX9_town 32 = .ok (.putfield 17, 3) := by decide +kernel
theorem dX9_town_35 : decode cX9_town 35 = .ok (.aload_n 0, 1) := by decide +kernel
theorem dX9_town_36 : decode cX9_town 36 = .ok (.getfield 23, 3) := by decide +kernel
theorem wd_203 : Cond.fieldLink RX9 115 "QuarrelBridges$Reader" "fault" "I" ∈ BG := BG_in (by decide +kernel) rfl
theorem dX9_town_39 : decode cX9_town 39 = .ok (.getfield 115, 3) := by decide +kernel
theorem dX9_town_42 : decode cX9_town 42 = .ok (.ifCond .eq 14, 3) := by decide +kernel
theorem dX9_town_56 : decode cX9_town 56 = .ok (.aload_n 0, 1) := by decide +kernel
theorem dX9_town_57 : decode cX9_town 57 = .ok (.getfield 30, 3) := by decide +kernel
theorem dX9_town_60 : decode cX9_town 60 = .ok (.astore_n 1, 1) := by decide +kernel
theorem dX9_town_61 : decode cX9_town 61 = .ok (.aload_n 0, 1) := by decide +kernel
theorem dX9_town_62 : decode cX9_town 62 = .ok (.aload_n 0, 1) := by decide +kernel
theorem dX9_town_63 : decode cX9_town 63 = .ok (.getfield 34, 3) := by decide +kernel
theorem dX9_town_66 : decode cX9_town 66 = .ok (.putfield 30, 3) := by decide +kernel
theorem dX9_town_69 : decode cX9_town 69 = .ok (.aload_n 0, 1) := by decide +kernel
theorem dX9_town_70 : decode cX9_town 70 = .ok (.aload_n 1, 1) := by decide +kernel
theorem dX9_town_71 : decode cX9_town 71 = .ok (.putfield 34, 3) := by decide +kernel
theorem dX9_town_74 : decode cX9_town 74 = .ok (.aload_n 0, 1) := by decide +kernel
theorem dX9_town_75 : decode cX9_town 75 = .ok (.getfield 40, 3) := by decide +kernel
theorem dX9_town_78 : decode cX9_town 78 = .ok (.aload_n 0, 1) := by decide +kernel
theorem dX9_town_79 : decode cX9_town 79 = .ok (.getfield 30, 3) := by decide +kernel
theorem dX9_town_82 : decode cX9_town 82 = .ok (.invokevirtual 100, 3) := by decide +kernel
theorem dX9_town_85 : decode cX9_town 85 = .ok (.aload_n 0, 1) := by decide +kernel
theorem dX9_town_86 : decode cX9_town 86 = .ok (.getfield 47, 3) := by decide +kernel
theorem dX9_town_89 : decode cX9_town 89 = .ok (.invokevirtual 118, 3) := by decide +kernel
theorem wd_204 : Cond.methodLink RX9 118 yX2_forget ∈ BG := BG_in (by decide +kernel) rfl
theorem wd_205 : Cond.code yX2_forget cX2_forget 1 none ∈ BG := BG_in (by decide +kernel) rfl
theorem wd_206 : Cond.instanceMethod yX2_forget ∈ BG := BG_in (by decide +kernel) rfl
theorem wd_207 : Cond.selects RX2 yX2_forget yX2_forget ∈ BG := BG_in (by decide +kernel) rfl
theorem okV_X2_forget : okV yX2_forget cX2_forget 1 none 0 := ⟨⟨wd_205, wd_99, by decide +kernel⟩, wd_206, wd_207⟩
theorem dX9_town_92 : decode cX9_town 92 = .ok (.aload_n 0, 1) := by decide +kernel
theorem dX9_town_93 : decode cX9_town 93 = .ok (.iconst 0, 1) := by decide +kernel
theorem dX9_town_94 : decode cX9_town 94 = .ok (.putfield 63, 3) := by decide +kernel
theorem dX9_town_97 : decode cX9_town 97 = .ok (.aload_n 0, 1) := by decide +kernel
theorem dX9_town_98 : decode cX9_town 98 = .ok (.getfield 69, 3) := by decide +kernel
theorem dX9_town_101 : decode cX9_town 101 = .ok (.invokevirtual 121, 3) := by decide +kernel
theorem wd_208 : Cond.methodLink RX9 121 yX0_clear ∈ BG := BG_in (by decide +kernel) rfl
theorem wd_209 : Cond.code yX0_clear cX0_clear 1 none ∈ BG := BG_in (by decide +kernel) rfl
theorem wd_210 : Cond.instanceMethod yX0_clear ∈ BG := BG_in (by decide +kernel) rfl
theorem wd_211 : Cond.selects RX0 yX0_clear yX0_clear ∈ BG := BG_in (by decide +kernel) rfl
theorem okV_X0_clear : okV yX0_clear cX0_clear 1 none 0 := ⟨⟨wd_209, wd_110, by decide +kernel⟩, wd_210, wd_211⟩
theorem dX9_town_104 : decode cX9_town 104 = .ok (.aload_n 0, 1) := by decide +kernel
theorem dX9_town_105 : decode cX9_town 105 = .ok (.getfield 30, 3) := by decide +kernel
theorem wd_212 : Cond.fieldLink RX9 124 "QuarrelBridges$Town" "bridges" "I" ∈ BG := BG_in (by decide +kernel) rfl
theorem dX9_town_108 : decode cX9_town 108 = .ok (.getfield 124, 3) := by decide +kernel
theorem dX9_town_111 : decode cX9_town 111 = .ok (.ireturn, 1) := by decide +kernel
theorem dX9_fault_0 : decode cX9_fault 0 = .ok (.aload_n 0, 1) := by decide +kernel
theorem dX9_fault_1 : decode cX9_fault 1 = .ok (.getfield 17, 3) := by decide +kernel
theorem dX9_fault_4 : decode cX9_fault 4 = .ok (.ireturn, 1) := by decide +kernel
theorem dX9_told_0 : decode cX9_told 0 = .ok (.iload_n 1, 1) := by decide +kernel
theorem dX9_told_1 : decode cX9_told 1 = .ok (.tableswitch 183 0 13 #[71, 79, 87, 95, 103, 111, 116, 124, 132, 141, 150, 159, 167, 175], 71) := by decide +kernel
theorem dX9_told_184 : decode cX9_told 184 = .ok (.ldc 104, 2) := by decide +kernel
theorem dX9_told_186 : decode cX9_told 186 = .ok (.ireturn, 1) := by decide +kernel
theorem dX9_told_72 : decode cX9_told 72 = .ok (.aload_n 0, 1) := by decide +kernel
theorem dX9_told_73 : decode cX9_told 73 = .ok (.getfield 30, 3) := by decide +kernel
theorem dX9_told_76 : decode cX9_told 76 = .ok (.getfield 124, 3) := by decide +kernel
theorem dX9_told_79 : decode cX9_told 79 = .ok (.ireturn, 1) := by decide +kernel
theorem dX9_told_80 : decode cX9_told 80 = .ok (.aload_n 0, 1) := by decide +kernel
theorem dX9_told_81 : decode cX9_told 81 = .ok (.getfield 30, 3) := by decide +kernel
theorem wd_213 : Cond.fieldLink RX9 127 "QuarrelBridges$Town" "themes" "I" ∈ BG := BG_in (by decide +kernel) rfl
theorem dX9_told_84 : decode cX9_told 84 = .ok (.getfield 127, 3) := by decide +kernel
theorem dX9_told_87 : decode cX9_told 87 = .ok (.ireturn, 1) := by decide +kernel
theorem dX9_told_88 : decode cX9_told 88 = .ok (.aload_n 0, 1) := by decide +kernel
theorem dX9_told_89 : decode cX9_told 89 = .ok (.getfield 30, 3) := by decide +kernel
theorem wd_214 : Cond.fieldLink RX9 130 "QuarrelBridges$Town" "couples" "I" ∈ BG := BG_in (by decide +kernel) rfl
theorem dX9_told_92 : decode cX9_told 92 = .ok (.getfield 130, 3) := by decide +kernel
theorem dX9_told_95 : decode cX9_told 95 = .ok (.ireturn, 1) := by decide +kernel
theorem dX9_told_96 : decode cX9_told 96 = .ok (.aload_n 0, 1) := by decide +kernel
theorem dX9_told_97 : decode cX9_told 97 = .ok (.getfield 30, 3) := by decide +kernel
theorem wd_215 : Cond.fieldLink RX9 133 "QuarrelBridges$Town" "barges" "I" ∈ BG := BG_in (by decide +kernel) rfl
theorem dX9_told_100 : decode cX9_told 100 = .ok (.getfield 133, 3) := by decide +kernel
theorem dX9_told_103 : decode cX9_told 103 = .ok (.ireturn, 1) := by decide +kernel
theorem dX9_told_104 : decode cX9_told 104 = .ok (.aload_n 0, 1) := by decide +kernel
theorem dX9_told_105 : decode cX9_told 105 = .ok (.getfield 30, 3) := by decide +kernel
theorem wd_216 : Cond.fieldLink RX9 136 "QuarrelBridges$Town" "snow" "I" ∈ BG := BG_in (by decide +kernel) rfl
theorem dX9_told_108 : decode cX9_told 108 = .ok (.getfield 136, 3) := by decide +kernel
theorem dX9_told_111 : decode cX9_told 111 = .ok (.ireturn, 1) := by decide +kernel
theorem dX9_told_112 : decode cX9_told 112 = .ok (.aload_n 0, 1) := by decide +kernel
theorem dX9_told_113 : decode cX9_told 113 = .ok (.getfield 13, 3) := by decide +kernel
theorem dX9_told_116 : decode cX9_told 116 = .ok (.ireturn, 1) := by decide +kernel
theorem dX9_told_117 : decode cX9_told 117 = .ok (.aload_n 0, 1) := by decide +kernel
theorem dX9_told_118 : decode cX9_told 118 = .ok (.getfield 40, 3) := by decide +kernel
theorem dX9_told_121 : decode cX9_told 121 = .ok (.invokevirtual 139, 3) := by decide +kernel
theorem wd_217 : Cond.methodLink RX9 139 yX7_minutes ∈ BG := BG_in (by decide +kernel) rfl
theorem dX9_told_124 : decode cX9_told 124 = .ok (.ireturn, 1) := by decide +kernel
theorem dX9_told_125 : decode cX9_told 125 = .ok (.aload_n 0, 1) := by decide +kernel
theorem dX9_told_126 : decode cX9_told 126 = .ok (.getfield 40, 3) := by decide +kernel
theorem dX9_told_129 : decode cX9_told 129 = .ok (.invokevirtual 143, 3) := by decide +kernel
theorem wd_218 : Cond.methodLink RX9 143 yX7_reconciledSet ∈ BG := BG_in (by decide +kernel) rfl
theorem wd_219 : Cond.code yX7_reconciledSet cX7_reconciledSet 1 (some .int) ∈ BG := BG_in (by decide +kernel) rfl
theorem wd_220 : Cond.instanceMethod yX7_reconciledSet ∈ BG := BG_in (by decide +kernel) rfl
theorem wd_221 : Cond.selects RX7 yX7_reconciledSet yX7_reconciledSet ∈ BG := BG_in (by decide +kernel) rfl
theorem okV_X7_reconciledSet : okV yX7_reconciledSet cX7_reconciledSet 1 (some .int) 0 := ⟨⟨wd_219, wd_93, by decide +kernel⟩, wd_220, wd_221⟩
theorem dX9_told_132 : decode cX9_told 132 = .ok (.ireturn, 1) := by decide +kernel
theorem dX9_told_133 : decode cX9_told 133 = .ok (.aload_n 0, 1) := by decide +kernel
theorem dX9_told_134 : decode cX9_told 134 = .ok (.getfield 40, 3) := by decide +kernel
theorem dX9_told_137 : decode cX9_told 137 = .ok (.iconst 1, 1) := by decide +kernel
theorem dX9_told_138 : decode cX9_told 138 = .ok (.invokevirtual 146, 3) := by decide +kernel
theorem wd_222 : Cond.methodLink RX9 146 yX7_bargesOfFate ∈ BG := BG_in (by decide +kernel) rfl
theorem dX9_told_141 : decode cX9_told 141 = .ok (.ireturn, 1) := by decide +kernel
theorem dX9_told_142 : decode cX9_told 142 = .ok (.aload_n 0, 1) := by decide +kernel
theorem dX9_told_143 : decode cX9_told 143 = .ok (.getfield 40, 3) := by decide +kernel
theorem dX9_told_146 : decode cX9_told 146 = .ok (.iconst 2, 1) := by decide +kernel
theorem dX9_told_147 : decode cX9_told 147 = .ok (.invokevirtual 146, 3) := by decide +kernel
theorem dX9_told_150 : decode cX9_told 150 = .ok (.ireturn, 1) := by decide +kernel
theorem dX9_told_151 : decode cX9_told 151 = .ok (.aload_n 0, 1) := by decide +kernel
theorem dX9_told_152 : decode cX9_told 152 = .ok (.getfield 40, 3) := by decide +kernel
theorem dX9_told_155 : decode cX9_told 155 = .ok (.iconst 3, 1) := by decide +kernel
theorem dX9_told_156 : decode cX9_told 156 = .ok (.invokevirtual 146, 3) := by decide +kernel
theorem dX9_told_159 : decode cX9_told 159 = .ok (.ireturn, 1) := by decide +kernel
theorem dX9_told_160 : decode cX9_told 160 = .ok (.aload_n 0, 1) := by decide +kernel
theorem dX9_told_161 : decode cX9_told 161 = .ok (.getfield 40, 3) := by decide +kernel
theorem dX9_told_164 : decode cX9_told 164 = .ok (.invokevirtual 150, 3) := by decide +kernel
theorem wd_223 : Cond.methodLink RX9 150 yX7_grievanceOfAll ∈ BG := BG_in (by decide +kernel) rfl
theorem wd_224 : Cond.code yX7_grievanceOfAll cX7_grievanceOfAll 1 (some .int) ∈ BG := BG_in (by decide +kernel) rfl
theorem wd_225 : Cond.instanceMethod yX7_grievanceOfAll ∈ BG := BG_in (by decide +kernel) rfl
theorem wd_226 : Cond.selects RX7 yX7_grievanceOfAll yX7_grievanceOfAll ∈ BG := BG_in (by decide +kernel) rfl
theorem okV_X7_grievanceOfAll : okV yX7_grievanceOfAll cX7_grievanceOfAll 1 (some .int) 0 := ⟨⟨wd_224, wd_93, by decide +kernel⟩, wd_225, wd_226⟩
theorem dX9_told_167 : decode cX9_told 167 = .ok (.ireturn, 1) := by decide +kernel
theorem dX9_told_168 : decode cX9_told 168 = .ok (.aload_n 0, 1) := by decide +kernel
theorem dX9_told_169 : decode cX9_told 169 = .ok (.getfield 69, 3) := by decide +kernel
theorem wd_227 : Cond.fieldLink RX9 153 "QuarrelBridges$Book" "entries" "I" ∈ BG := BG_in (by decide +kernel) rfl
theorem dX9_told_172 : decode cX9_told 172 = .ok (.getfield 153, 3) := by decide +kernel
theorem dX9_told_175 : decode cX9_told 175 = .ok (.ireturn, 1) := by decide +kernel
theorem dX9_told_176 : decode cX9_told 176 = .ok (.aload_n 0, 1) := by decide +kernel
theorem dX9_told_177 : decode cX9_told 177 = .ok (.getfield 47, 3) := by decide +kernel
theorem wd_228 : Cond.fieldLink RX9 156 "QuarrelBridges$History" "count" "I" ∈ BG := BG_in (by decide +kernel) rfl
theorem dX9_told_180 : decode cX9_told 180 = .ok (.getfield 156, 3) := by decide +kernel
theorem dX9_told_183 : decode cX9_told 183 = .ok (.ireturn, 1) := by decide +kernel
theorem dX9_bridge_0 : decode cX9_bridge 0 = .ok (.aload_n 0, 1) := by decide +kernel
theorem dX9_bridge_1 : decode cX9_bridge 1 = .ok (.getfield 30, 3) := by decide +kernel
theorem dX9_bridge_4 : decode cX9_bridge 4 = .ok (.iload_n 1, 1) := by decide +kernel
theorem dX9_bridge_5 : decode cX9_bridge 5 = .ok (.invokevirtual 159, 3) := by decide +kernel
theorem wd_229 : Cond.methodLink RX9 159 yX8_hasBridge ∈ BG := BG_in (by decide +kernel) rfl
theorem wd_230 : Cond.code yX8_hasBridge cX8_hasBridge 2 (some .boolean) ∈ BG := BG_in (by decide +kernel) rfl
theorem wd_231 : Cond.instanceMethod yX8_hasBridge ∈ BG := BG_in (by decide +kernel) rfl
theorem wd_232 : Cond.selects RX8 yX8_hasBridge yX8_hasBridge ∈ BG := BG_in (by decide +kernel) rfl
theorem okV_X8_hasBridge : okV yX8_hasBridge cX8_hasBridge 2 (some .boolean) 1 := ⟨⟨wd_230, wd_86, by decide +kernel⟩, wd_231, wd_232⟩
theorem dX9_bridge_8 : decode cX9_bridge 8 = .ok (.ifCond .ne 6, 3) := by decide +kernel
theorem wd_233 : Cond.constant RX9 163 (-1000000001) ∈ BG := BG_in (by decide +kernel) rfl
theorem dX9_bridge_11 : decode cX9_bridge 11 = .ok (.ldc 163, 2) := by decide +kernel
theorem dX9_bridge_13 : decode cX9_bridge 13 = .ok (.ireturn, 1) := by decide +kernel
theorem dX9_couple_0 : decode cX9_couple 0 = .ok (.aload_n 0, 1) := by decide +kernel
theorem dX9_couple_1 : decode cX9_couple 1 = .ok (.getfield 30, 3) := by decide +kernel
theorem dX9_couple_4 : decode cX9_couple 4 = .ok (.iload_n 1, 1) := by decide +kernel
theorem dX9_couple_5 : decode cX9_couple 5 = .ok (.invokevirtual 174, 3) := by decide +kernel
theorem wd_234 : Cond.methodLink RX9 174 yX8_hasCouple ∈ BG := BG_in (by decide +kernel) rfl
theorem wd_235 : Cond.code yX8_hasCouple cX8_hasCouple 2 (some .boolean) ∈ BG := BG_in (by decide +kernel) rfl
theorem wd_236 : Cond.instanceMethod yX8_hasCouple ∈ BG := BG_in (by decide +kernel) rfl
theorem wd_237 : Cond.selects RX8 yX8_hasCouple yX8_hasCouple ∈ BG := BG_in (by decide +kernel) rfl
theorem okV_X8_hasCouple : okV yX8_hasCouple cX8_hasCouple 2 (some .boolean) 1 := ⟨⟨wd_235, wd_86, by decide +kernel⟩, wd_236, wd_237⟩
theorem dX9_couple_8 : decode cX9_couple 8 = .ok (.ifCond .ne 6, 3) := by decide +kernel
theorem dX9_couple_11 : decode cX9_couple 11 = .ok (.ldc 163, 2) := by decide +kernel
theorem dX9_couple_13 : decode cX9_couple 13 = .ok (.ireturn, 1) := by decide +kernel
theorem dX9_force_0 : decode cX9_force 0 = .ok (.aload_n 0, 1) := by decide +kernel
theorem dX9_force_1 : decode cX9_force 1 = .ok (.getfield 30, 3) := by decide +kernel
theorem dX9_force_4 : decode cX9_force 4 = .ok (.iload_n 1, 1) := by decide +kernel
theorem dX9_force_5 : decode cX9_force 5 = .ok (.invokevirtual 174, 3) := by decide +kernel
theorem dX9_force_8 : decode cX9_force 8 = .ok (.ifCond .eq 14, 3) := by decide +kernel
theorem dX9_force_22 : decode cX9_force 22 = .ok (.ldc 163, 2) := by decide +kernel
theorem dX9_force_24 : decode cX9_force 24 = .ok (.ireturn, 1) := by decide +kernel
theorem dX9_barge_0 : decode cX9_barge 0 = .ok (.aload_n 0, 1) := by decide +kernel
theorem dX9_barge_1 : decode cX9_barge 1 = .ok (.getfield 30, 3) := by decide +kernel
theorem dX9_barge_4 : decode cX9_barge 4 = .ok (.iload_n 1, 1) := by decide +kernel
theorem dX9_barge_5 : decode cX9_barge 5 = .ok (.invokevirtual 199, 3) := by decide +kernel
theorem wd_238 : Cond.methodLink RX9 199 yX8_hasBarge ∈ BG := BG_in (by decide +kernel) rfl
theorem wd_239 : Cond.code yX8_hasBarge cX8_hasBarge 2 (some .boolean) ∈ BG := BG_in (by decide +kernel) rfl
theorem wd_240 : Cond.instanceMethod yX8_hasBarge ∈ BG := BG_in (by decide +kernel) rfl
theorem wd_241 : Cond.selects RX8 yX8_hasBarge yX8_hasBarge ∈ BG := BG_in (by decide +kernel) rfl
theorem okV_X8_hasBarge : okV yX8_hasBarge cX8_hasBarge 2 (some .boolean) 1 := ⟨⟨wd_239, wd_86, by decide +kernel⟩, wd_240, wd_241⟩
theorem dX9_barge_8 : decode cX9_barge 8 = .ok (.ifCond .ne 6, 3) := by decide +kernel
theorem dX9_barge_11 : decode cX9_barge 11 = .ok (.ldc 163, 2) := by decide +kernel
theorem dX9_barge_13 : decode cX9_barge 13 = .ok (.ireturn, 1) := by decide +kernel
theorem dX9_send_0 : decode cX9_send 0 = .ok (.aload_n 0, 1) := by decide +kernel
theorem dX9_send_1 : decode cX9_send 1 = .ok (.getfield 30, 3) := by decide +kernel
theorem dX9_send_4 : decode cX9_send 4 = .ok (.iload_n 1, 1) := by decide +kernel
theorem dX9_send_5 : decode cX9_send 5 = .ok (.invokevirtual 174, 3) := by decide +kernel
theorem dX9_send_8 : decode cX9_send 8 = .ok (.ifCond .eq 25, 3) := by decide +kernel
theorem dX9_send_33 : decode cX9_send 33 = .ok (.ldc 163, 2) := by decide +kernel
theorem dX9_send_35 : decode cX9_send 35 = .ok (.ireturn, 1) := by decide +kernel
theorem dX9_home_0 : decode cX9_home 0 = .ok (.aload_n 0, 1) := by decide +kernel
theorem dX9_home_1 : decode cX9_home 1 = .ok (.getfield 30, 3) := by decide +kernel
theorem dX9_home_4 : decode cX9_home 4 = .ok (.iload_n 1, 1) := by decide +kernel
theorem dX9_home_5 : decode cX9_home 5 = .ok (.invokevirtual 174, 3) := by decide +kernel
theorem dX9_home_8 : decode cX9_home 8 = .ok (.ifCond .ne 6, 3) := by decide +kernel
theorem dX9_home_11 : decode cX9_home 11 = .ok (.ldc 163, 2) := by decide +kernel
theorem dX9_home_13 : decode cX9_home 13 = .ok (.ireturn, 1) := by decide +kernel
theorem dX9_pass_0 : decode cX9_pass 0 = .ok (.aload_n 0, 1) := by decide +kernel
theorem dX9_pass_1 : decode cX9_pass 1 = .ok (.getfield 30, 3) := by decide +kernel
theorem dX9_pass_4 : decode cX9_pass 4 = .ok (.iload_n 1, 1) := by decide +kernel
theorem dX9_pass_5 : decode cX9_pass 5 = .ok (.invokevirtual 199, 3) := by decide +kernel
theorem dX9_pass_8 : decode cX9_pass 8 = .ok (.ifCond .ne 6, 3) := by decide +kernel
theorem dX9_pass_11 : decode cX9_pass 11 = .ok (.ldc 163, 2) := by decide +kernel
theorem dX9_pass_13 : decode cX9_pass 13 = .ok (.ireturn, 1) := by decide +kernel
theorem dX9_grieve_0 : decode cX9_grieve 0 = .ok (.aload_n 0, 1) := by decide +kernel
theorem dX9_grieve_1 : decode cX9_grieve 1 = .ok (.getfield 30, 3) := by decide +kernel
theorem dX9_grieve_4 : decode cX9_grieve 4 = .ok (.iload_n 1, 1) := by decide +kernel
theorem dX9_grieve_5 : decode cX9_grieve 5 = .ok (.invokevirtual 174, 3) := by decide +kernel
theorem dX9_grieve_8 : decode cX9_grieve 8 = .ok (.ifCond .ne 6, 3) := by decide +kernel
theorem dX9_grieve_11 : decode cX9_grieve 11 = .ok (.ldc 163, 2) := by decide +kernel
theorem dX9_grieve_13 : decode cX9_grieve 13 = .ok (.ireturn, 1) := by decide +kernel
theorem dX9_could_0 : decode cX9_could 0 = .ok (.aload_n 0, 1) := by decide +kernel
theorem dX9_could_1 : decode cX9_could 1 = .ok (.getfield 30, 3) := by decide +kernel
theorem dX9_could_4 : decode cX9_could 4 = .ok (.iload_n 1, 1) := by decide +kernel
theorem dX9_could_5 : decode cX9_could 5 = .ok (.invokevirtual 174, 3) := by decide +kernel
theorem dX9_could_8 : decode cX9_could 8 = .ok (.ifCond .eq 25, 3) := by decide +kernel
theorem dX9_could_33 : decode cX9_could 33 = .ok (.ldc 163, 2) := by decide +kernel
theorem dX9_could_35 : decode cX9_could 35 = .ok (.ireturn, 1) := by decide +kernel
theorem dX9_bestTheme_0 : decode cX9_bestTheme 0 = .ok (.aload_n 0, 1) := by decide +kernel
theorem dX9_bestTheme_1 : decode cX9_bestTheme 1 = .ok (.getfield 30, 3) := by decide +kernel
theorem dX9_bestTheme_4 : decode cX9_bestTheme 4 = .ok (.iload_n 1, 1) := by decide +kernel
theorem dX9_bestTheme_5 : decode cX9_bestTheme 5 = .ok (.invokevirtual 174, 3) := by decide +kernel
theorem dX9_bestTheme_8 : decode cX9_bestTheme 8 = .ok (.ifCond .eq 14, 3) := by decide +kernel
theorem dX9_bestTheme_22 : decode cX9_bestTheme 22 = .ok (.ldc 163, 2) := by decide +kernel
theorem dX9_bestTheme_24 : decode cX9_bestTheme 24 = .ok (.ireturn, 1) := by decide +kernel
theorem dX9_who_0 : decode cX9_who 0 = .ok (.aload_n 0, 1) := by decide +kernel
theorem dX9_who_1 : decode cX9_who 1 = .ok (.getfield 30, 3) := by decide +kernel
theorem dX9_who_4 : decode cX9_who 4 = .ok (.iload_n 1, 1) := by decide +kernel
theorem dX9_who_5 : decode cX9_who 5 = .ok (.invokevirtual 159, 3) := by decide +kernel
theorem dX9_who_8 : decode cX9_who 8 = .ok (.ifCond .eq 17, 3) := by decide +kernel
theorem dX9_who_25 : decode cX9_who 25 = .ok (.ldc 163, 2) := by decide +kernel
theorem dX9_who_27 : decode cX9_who 27 = .ok (.ireturn, 1) := by decide +kernel
theorem dX9_toldHer_0 : decode cX9_toldHer 0 = .ok (.aload_n 0, 1) := by decide +kernel
theorem dX9_toldHer_1 : decode cX9_toldHer 1 = .ok (.getfield 30, 3) := by decide +kernel
theorem dX9_toldHer_4 : decode cX9_toldHer 4 = .ok (.iload_n 1, 1) := by decide +kernel
theorem dX9_toldHer_5 : decode cX9_toldHer 5 = .ok (.invokevirtual 159, 3) := by decide +kernel
theorem dX9_toldHer_8 : decode cX9_toldHer 8 = .ok (.ifCond .ne 6, 3) := by decide +kernel
theorem dX9_toldHer_11 : decode cX9_toldHer 11 = .ok (.ldc 163, 2) := by decide +kernel
theorem dX9_toldHer_13 : decode cX9_toldHer 13 = .ok (.ireturn, 1) := by decide +kernel
theorem dX9_lasts_0 : decode cX9_lasts 0 = .ok (.aload_n 0, 1) := by decide +kernel
theorem dX9_lasts_1 : decode cX9_lasts 1 = .ok (.getfield 30, 3) := by decide +kernel
theorem dX9_lasts_4 : decode cX9_lasts 4 = .ok (.iload_n 1, 1) := by decide +kernel
theorem dX9_lasts_5 : decode cX9_lasts 5 = .ok (.invokevirtual 174, 3) := by decide +kernel
theorem dX9_lasts_8 : decode cX9_lasts 8 = .ok (.ifCond .eq 14, 3) := by decide +kernel
theorem dX9_lasts_22 : decode cX9_lasts 22 = .ok (.ldc 163, 2) := by decide +kernel
theorem dX9_lasts_24 : decode cX9_lasts 24 = .ok (.ireturn, 1) := by decide +kernel
theorem dX9_hire_0 : decode cX9_hire 0 = .ok (.aload_n 0, 1) := by decide +kernel
theorem dX9_hire_1 : decode cX9_hire 1 = .ok (.getfield 30, 3) := by decide +kernel
theorem dX9_hire_4 : decode cX9_hire 4 = .ok (.iload_n 1, 1) := by decide +kernel
theorem dX9_hire_5 : decode cX9_hire 5 = .ok (.invokevirtual 159, 3) := by decide +kernel
theorem dX9_hire_8 : decode cX9_hire 8 = .ok (.ifCond .ne 6, 3) := by decide +kernel
theorem dX9_hire_11 : decode cX9_hire 11 = .ok (.ldc 163, 2) := by decide +kernel
theorem dX9_hire_13 : decode cX9_hire 13 = .ok (.ireturn, 1) := by decide +kernel
theorem dX9_midstream_0 : decode cX9_midstream 0 = .ok (.aload_n 0, 1) := by decide +kernel
theorem dX9_midstream_1 : decode cX9_midstream 1 = .ok (.getfield 30, 3) := by decide +kernel
theorem dX9_midstream_4 : decode cX9_midstream 4 = .ok (.iload_n 1, 1) := by decide +kernel
theorem dX9_midstream_5 : decode cX9_midstream 5 = .ok (.invokevirtual 174, 3) := by decide +kernel
theorem dX9_midstream_8 : decode cX9_midstream 8 = .ok (.ifCond .ne 6, 3) := by decide +kernel
theorem dX9_midstream_11 : decode cX9_midstream 11 = .ok (.ldc 163, 2) := by decide +kernel
theorem dX9_midstream_13 : decode cX9_midstream 13 = .ok (.ireturn, 1) := by decide +kernel
theorem dX9_write_0 : decode cX9_write 0 = .ok (.aload_n 0, 1) := by decide +kernel
theorem dX9_write_1 : decode cX9_write 1 = .ok (.getfield 30, 3) := by decide +kernel
theorem dX9_write_4 : decode cX9_write 4 = .ok (.iload_n 1, 1) := by decide +kernel
theorem dX9_write_5 : decode cX9_write 5 = .ok (.invokevirtual 174, 3) := by decide +kernel
theorem dX9_write_8 : decode cX9_write 8 = .ok (.ifCond .ne 6, 3) := by decide +kernel
theorem dX9_write_11 : decode cX9_write 11 = .ok (.ldc 163, 2) := by decide +kernel
theorem dX9_write_13 : decode cX9_write 13 = .ok (.ireturn, 1) := by decide +kernel
theorem dX9_drift_0 : decode cX9_drift 0 = .ok (.iload_n 1, 1) := by decide +kernel
theorem dX9_drift_1 : decode cX9_drift 1 = .ok (.iconst 1, 1) := by decide +kernel
theorem dX9_drift_2 : decode cX9_drift 2 = .ok (.if_icmp .lt 9, 3) := by decide +kernel
theorem dX9_drift_11 : decode cX9_drift 11 = .ok (.ldc 104, 2) := by decide +kernel
theorem dX9_drift_13 : decode cX9_drift 13 = .ok (.ireturn, 1) := by decide +kernel
theorem dX9_drift_5 : decode cX9_drift 5 = .ok (.iload_n 1, 1) := by decide +kernel
theorem dX9_drift_6 : decode cX9_drift 6 = .ok (.bipush 99, 2) := by decide +kernel
theorem dX9_drift_8 : decode cX9_drift 8 = .ok (.if_icmp .le 6, 3) := by decide +kernel
theorem dX9_drift_14 : decode cX9_drift 14 = .ok (.aload_n 0, 1) := by decide +kernel
theorem dX9_drift_15 : decode cX9_drift 15 = .ok (.getfield 30, 3) := by decide +kernel
theorem dX9_drift_18 : decode cX9_drift 18 = .ok (.getfield 130, 3) := by decide +kernel
theorem dX9_drift_21 : decode cX9_drift 21 = .ok (.ifCond .ne 6, 3) := by decide +kernel
theorem wd_242 : Cond.constant RX9 217 (-1000000003) ∈ BG := BG_in (by decide +kernel) rfl
theorem dX9_drift_24 : decode cX9_drift 24 = .ok (.ldc 217, 2) := by decide +kernel
theorem dX9_drift_26 : decode cX9_drift 26 = .ok (.ireturn, 1) := by decide +kernel
theorem dX9_undo_0 : decode cX9_undo 0 = .ok (.aload_n 0, 1) := by decide +kernel
theorem dX9_undo_1 : decode cX9_undo 1 = .ok (.getfield 47, 3) := by decide +kernel
theorem dX9_undo_4 : decode cX9_undo 4 = .ok (.getfield 156, 3) := by decide +kernel
theorem dX9_undo_7 : decode cX9_undo 7 = .ok (.ifCond .ne 6, 3) := by decide +kernel
theorem dX9_undo_10 : decode cX9_undo 10 = .ok (.ldc 217, 2) := by decide +kernel
theorem dX9_undo_12 : decode cX9_undo 12 = .ok (.ireturn, 1) := by decide +kernel
theorem dX9_order_0 : decode cX9_order 0 = .ok (.aload_n 0, 1) := by decide +kernel
theorem dX9_order_1 : decode cX9_order 1 = .ok (.getfield 93, 3) := by decide +kernel
theorem dX9_order_4 : decode cX9_order 4 = .ok (.aload_n 0, 1) := by decide +kernel
theorem dX9_order_5 : decode cX9_order 5 = .ok (.getfield 30, 3) := by decide +kernel
theorem dX9_order_8 : decode cX9_order 8 = .ok (.aload_n 0, 1) := by decide +kernel
theorem dX9_order_9 : decode cX9_order 9 = .ok (.getfield 40, 3) := by decide +kernel
theorem dX9_order_12 : decode cX9_order 12 = .ok (.invokevirtual 286, 3) := by decide +kernel
theorem wd_243 : Cond.methodLink RX9 286 yX1_gather ∈ BG := BG_in (by decide +kernel) rfl
theorem wd_244 : Cond.code yX1_gather cX1_gather 3 none ∈ BG := BG_in (by decide +kernel) rfl
theorem wd_245 : Cond.instanceMethod yX1_gather ∈ BG := BG_in (by decide +kernel) rfl
theorem wd_246 : Cond.selects RX1 yX1_gather yX1_gather ∈ BG := BG_in (by decide +kernel) rfl
theorem okV_X1_gather : okV yX1_gather cX1_gather 3 none 2 := ⟨⟨wd_244, wd_129, by decide +kernel⟩, wd_245, wd_246⟩
theorem dX9_order_15 : decode cX9_order 15 = .ok (.iconst 0, 1) := by decide +kernel
theorem dX9_order_16 : decode cX9_order 16 = .ok (.istore_n 2, 1) := by decide +kernel
theorem dX9_order_17 : decode cX9_order 17 = .ok (.iload_n 2, 1) := by decide +kernel
theorem dX9_order_18 : decode cX9_order 18 = .ok (.aload_n 0, 1) := by decide +kernel
theorem dX9_order_19 : decode cX9_order 19 = .ok (.getfield 30, 3) := by decide +kernel
theorem dX9_order_22 : decode cX9_order 22 = .ok (.getfield 124, 3) := by decide +kernel
theorem dX9_order_25 : decode cX9_order 25 = .ok (.if_icmp .ge 14, 3) := by decide +kernel
theorem dX9_order_39 : decode cX9_order 39 = .ok (.aload_n 0, 1) := by decide +kernel
theorem dX9_order_40 : decode cX9_order 40 = .ok (.getfield 93, 3) := by decide +kernel
theorem dX9_order_43 : decode cX9_order 43 = .ok (.invokevirtual 293, 3) := by decide +kernel
theorem wd_247 : Cond.methodLink RX9 293 yX1_solve ∈ BG := BG_in (by decide +kernel) rfl
theorem wd_248 : Cond.code yX1_solve cX1_solve 3 none ∈ BG := BG_in (by decide +kernel) rfl
theorem wd_249 : Cond.instanceMethod yX1_solve ∈ BG := BG_in (by decide +kernel) rfl
theorem wd_250 : Cond.selects RX1 yX1_solve yX1_solve ∈ BG := BG_in (by decide +kernel) rfl
theorem okV_X1_solve : okV yX1_solve cX1_solve 3 none 0 := ⟨⟨wd_248, wd_129, by decide +kernel⟩, wd_249, wd_250⟩
theorem dX9_order_46 : decode cX9_order 46 = .ok (.iload_n 1, 1) := by decide +kernel
theorem dX9_order_47 : decode cX9_order 47 = .ok (.iconst (-1), 1) := by decide +kernel
theorem dX9_order_48 : decode cX9_order 48 = .ok (.if_icmp .ne 11, 3) := by decide +kernel
theorem dX9_order_59 : decode cX9_order 59 = .ok (.iload_n 1, 1) := by decide +kernel
theorem dX9_order_60 : decode cX9_order 60 = .ok (.ifCond .lt 28, 3) := by decide +kernel
theorem dX9_order_88 : decode cX9_order 88 = .ok (.iconst (-1), 1) := by decide +kernel
theorem dX9_order_89 : decode cX9_order 89 = .ok (.ireturn, 1) := by decide +kernel
theorem dX9_order_63 : decode cX9_order 63 = .ok (.iload_n 1, 1) := by decide +kernel
theorem dX9_order_64 : decode cX9_order 64 = .ok (.aload_n 0, 1) := by decide +kernel
theorem dX9_order_65 : decode cX9_order 65 = .ok (.getfield 93, 3) := by decide +kernel
theorem wd_251 : Cond.fieldLink RX9 295 "QuarrelBridges$Convoy" "length" "I" ∈ BG := BG_in (by decide +kernel) rfl
theorem dX9_order_68 : decode cX9_order 68 = .ok (.getfield 295, 3) := by decide +kernel
theorem dX9_order_71 : decode cX9_order 71 = .ok (.if_icmp .ge 17, 3) := by decide +kernel
theorem dX9_order_51 : decode cX9_order 51 = .ok (.aload_n 0, 1) := by decide +kernel
theorem dX9_order_52 : decode cX9_order 52 = .ok (.getfield 93, 3) := by decide +kernel
theorem dX9_order_55 : decode cX9_order 55 = .ok (.getfield 295, 3) := by decide +kernel
theorem dX9_order_58 : decode cX9_order 58 = .ok (.ireturn, 1) := by decide +kernel
theorem dX9_wornOut_0 : decode cX9_wornOut 0 = .ok (.iconst (-1), 1) := by decide +kernel
theorem dX9_wornOut_1 : decode cX9_wornOut 1 = .ok (.istore_n 1, 1) := by decide +kernel
theorem dX9_wornOut_2 : decode cX9_wornOut 2 = .ok (.iconst 0, 1) := by decide +kernel
theorem dX9_wornOut_3 : decode cX9_wornOut 3 = .ok (.istore_n 2, 1) := by decide +kernel
theorem dX9_wornOut_4 : decode cX9_wornOut 4 = .ok (.iconst 0, 1) := by decide +kernel
theorem dX9_wornOut_5 : decode cX9_wornOut 5 = .ok (.istore_n 3, 1) := by decide +kernel
theorem dX9_wornOut_6 : decode cX9_wornOut 6 = .ok (.iload_n 3, 1) := by decide +kernel
theorem dX9_wornOut_7 : decode cX9_wornOut 7 = .ok (.aload_n 0, 1) := by decide +kernel
theorem dX9_wornOut_8 : decode cX9_wornOut 8 = .ok (.getfield 30, 3) := by decide +kernel
theorem dX9_wornOut_11 : decode cX9_wornOut 11 = .ok (.getfield 130, 3) := by decide +kernel
theorem dX9_wornOut_14 : decode cX9_wornOut 14 = .ok (.if_icmp .ge 77, 3) := by decide +kernel
theorem dX9_wornOut_91 : decode cX9_wornOut 91 = .ok (.iload_n 1, 1) := by decide +kernel
theorem dX9_wornOut_92 : decode cX9_wornOut 92 = .ok (.ireturn, 1) := by decide +kernel
theorem dX9_carried_0 : decode cX9_carried 0 = .ok (.iload_n 1, 1) := by decide +kernel
theorem dX9_carried_1 : decode cX9_carried 1 = .ok (.iconst (-1), 1) := by decide +kernel
theorem dX9_carried_2 : decode cX9_carried 2 = .ok (.if_icmp .eq 17, 3) := by decide +kernel
theorem dX9_carried_19 : decode cX9_carried 19 = .ok (.aload_n 0, 1) := by decide +kernel
theorem dX9_carried_20 : decode cX9_carried 20 = .ok (.getfield 40, 3) := by decide +kernel
theorem dX9_carried_23 : decode cX9_carried 23 = .ok (.iconst 0, 1) := by decide +kernel
theorem dX9_carried_24 : decode cX9_carried 24 = .ok (.invokevirtual 171, 3) := by decide +kernel
theorem wd_252 : Cond.methodLink RX9 171 yX7_coupleAt ∈ BG := BG_in (by decide +kernel) rfl
theorem wd_253 : Cond.code yX7_coupleAt cX7_coupleAt 3 (some .int) ∈ BG := BG_in (by decide +kernel) rfl
theorem wd_254 : Cond.instanceMethod yX7_coupleAt ∈ BG := BG_in (by decide +kernel) rfl
theorem wd_255 : Cond.selects RX7 yX7_coupleAt yX7_coupleAt ∈ BG := BG_in (by decide +kernel) rfl
theorem okV_X7_coupleAt : okV yX7_coupleAt cX7_coupleAt 3 (some .int) 1 := ⟨⟨wd_253, wd_93, by decide +kernel⟩, wd_254, wd_255⟩
theorem dX9_carried_27 : decode cX9_carried 27 = .ok (.istore_n 2, 1) := by decide +kernel
theorem dX9_carried_28 : decode cX9_carried 28 = .ok (.iload_n 2, 1) := by decide +kernel
theorem dX9_carried_29 : decode cX9_carried 29 = .ok (.iconst (-1), 1) := by decide +kernel
theorem dX9_carried_30 : decode cX9_carried 30 = .ok (.if_icmp .ne 6, 3) := by decide +kernel
theorem dX9_carried_33 : decode cX9_carried 33 = .ok (.ldc 217, 2) := by decide +kernel
theorem dX9_carried_35 : decode cX9_carried 35 = .ok (.ireturn, 1) := by decide +kernel
theorem dX9_carried_5 : decode cX9_carried 5 = .ok (.aload_n 0, 1) := by decide +kernel
theorem dX9_carried_6 : decode cX9_carried 6 = .ok (.getfield 30, 3) := by decide +kernel
theorem dX9_carried_9 : decode cX9_carried 9 = .ok (.iload_n 1, 1) := by decide +kernel
theorem dX9_carried_10 : decode cX9_carried 10 = .ok (.invokevirtual 159, 3) := by decide +kernel
theorem dX9_carried_13 : decode cX9_carried 13 = .ok (.ifCond .ne 6, 3) := by decide +kernel
theorem dX9_carried_16 : decode cX9_carried 16 = .ok (.ldc 163, 2) := by decide +kernel
theorem dX9_carried_18 : decode cX9_carried 18 = .ok (.ireturn, 1) := by decide +kernel
theorem dX9_fleet_0 : decode cX9_fleet 0 = .ok (.iload_n 1, 1) := by decide +kernel
theorem dX9_fleet_1 : decode cX9_fleet 1 = .ok (.iconst 1, 1) := by decide +kernel
theorem dX9_fleet_2 : decode cX9_fleet 2 = .ok (.if_icmp .lt 9, 3) := by decide +kernel
theorem dX9_fleet_11 : decode cX9_fleet 11 = .ok (.ldc 104, 2) := by decide +kernel
theorem dX9_fleet_13 : decode cX9_fleet 13 = .ok (.ireturn, 1) := by decide +kernel
theorem dX9_fleet_5 : decode cX9_fleet 5 = .ok (.iload_n 1, 1) := by decide +kernel
theorem dX9_fleet_6 : decode cX9_fleet 6 = .ok (.bipush 9, 2) := by decide +kernel
theorem dX9_fleet_8 : decode cX9_fleet 8 = .ok (.if_icmp .le 6, 3) := by decide +kernel
theorem dX9_fleet_14 : decode cX9_fleet 14 = .ok (.iload_n 1, 1) := by decide +kernel
theorem dX9_fleet_15 : decode cX9_fleet 15 = .ok (.aload_n 0, 1) := by decide +kernel
theorem dX9_fleet_16 : decode cX9_fleet 16 = .ok (.getfield 30, 3) := by decide +kernel
theorem dX9_fleet_19 : decode cX9_fleet 19 = .ok (.invokevirtual 322, 3) := by decide +kernel
theorem wd_256 : Cond.methodLink RX9 322 yX8_needOfAll ∈ BG := BG_in (by decide +kernel) rfl
theorem wd_257 : Cond.code yX8_needOfAll cX8_needOfAll 3 (some .int) ∈ BG := BG_in (by decide +kernel) rfl
theorem wd_258 : Cond.instanceMethod yX8_needOfAll ∈ BG := BG_in (by decide +kernel) rfl
theorem wd_259 : Cond.selects RX8 yX8_needOfAll yX8_needOfAll ∈ BG := BG_in (by decide +kernel) rfl
theorem okV_X8_needOfAll : okV yX8_needOfAll cX8_needOfAll 3 (some .int) 0 := ⟨⟨wd_257, wd_86, by decide +kernel⟩, wd_258, wd_259⟩
theorem dX9_fleet_22 : decode cX9_fleet 22 = .ok (.imul, 1) := by decide +kernel
theorem dX9_fleet_23 : decode cX9_fleet 23 = .ok (.istore_n 2, 1) := by decide +kernel
theorem dX9_fleet_24 : decode cX9_fleet 24 = .ok (.iconst (-1), 1) := by decide +kernel
theorem dX9_fleet_25 : decode cX9_fleet 25 = .ok (.istore_n 3, 1) := by decide +kernel
theorem dX9_fleet_26 : decode cX9_fleet 26 = .ok (.iconst 0, 1) := by decide +kernel
theorem dX9_fleet_27 : decode cX9_fleet 27 = .ok (.istore 4, 2) := by decide +kernel
theorem dX9_fleet_29 : decode cX9_fleet 29 = .ok (.iload 4, 2) := by decide +kernel
theorem dX9_fleet_31 : decode cX9_fleet 31 = .ok (.iconst 1, 1) := by decide +kernel
theorem dX9_fleet_32 : decode cX9_fleet 32 = .ok (.aload_n 0, 1) := by decide +kernel
theorem dX9_fleet_33 : decode cX9_fleet 33 = .ok (.getfield 30, 3) := by decide +kernel
theorem dX9_fleet_36 : decode cX9_fleet 36 = .ok (.getfield 130, 3) := by decide +kernel
theorem dX9_fleet_39 : decode cX9_fleet 39 = .ok (.ishl, 1) := by decide +kernel
theorem dX9_fleet_40 : decode cX9_fleet 40 = .ok (.if_icmp .ge 79, 3) := by decide +kernel
theorem dX9_fleet_43 : decode cX9_fleet 43 = .ok (.iload_n 3, 1) := by decide +kernel
theorem dX9_fleet_44 : decode cX9_fleet 44 = .ok (.iconst (-1), 1) := by decide +kernel
theorem dX9_fleet_45 : decode cX9_fleet 45 = .ok (.if_icmp .eq 15, 3) := by decide +kernel
theorem dX9_fleet_60 : decode cX9_fleet 60 = .ok (.iconst 1, 1) := by decide +kernel
theorem dX9_fleet_61 : decode cX9_fleet 61 = .ok (.goto 4, 3) := by decide +kernel
theorem dX9_fleet_65 : decode cX9_fleet 65 = .ok (.istore 5, 2) := by decide +kernel
theorem dX9_fleet_67 : decode cX9_fleet 67 = .ok (.iload 4, 2) := by decide +kernel
theorem dX9_fleet_69 : decode cX9_fleet 69 = .ok (.aload_n 0, 1) := by decide +kernel
theorem dX9_fleet_70 : decode cX9_fleet 70 = .ok (.getfield 40, 3) := by decide +kernel
theorem dX9_fleet_73 : decode cX9_fleet 73 = .ok (.invokevirtual 143, 3) := by decide +kernel
theorem dX9_fleet_76 : decode cX9_fleet 76 = .ok (.iand, 1) := by decide +kernel
theorem dX9_fleet_77 : decode cX9_fleet 77 = .ok (.ifCond .ne 7, 3) := by decide +kernel
theorem dX9_fleet_80 : decode cX9_fleet 80 = .ok (.iconst 1, 1) := by decide +kernel
theorem dX9_fleet_81 : decode cX9_fleet 81 = .ok (.goto 4, 3) := by decide +kernel
theorem dX9_fleet_85 : decode cX9_fleet 85 = .ok (.istore 6, 2) := by decide +kernel
theorem dX9_fleet_87 : decode cX9_fleet 87 = .ok (.iload 5, 2) := by decide +kernel
theorem dX9_fleet_89 : decode cX9_fleet 89 = .ok (.ifCond .eq 24, 3) := by decide +kernel
theorem dX9_fleet_92 : decode cX9_fleet 92 = .ok (.iload 6, 2) := by decide +kernel
theorem dX9_fleet_94 : decode cX9_fleet 94 = .ok (.ifCond .eq 19, 3) := by decide +kernel
theorem dX9_fleet_97 : decode cX9_fleet 97 = .ok (.aload_n 0, 1) := by decide +kernel
theorem dX9_fleet_98 : decode cX9_fleet 98 = .ok (.getfield 40, 3) := by decide +kernel
theorem dX9_fleet_101 : decode cX9_fleet 101 = .ok (.iload 4, 2) := by decide +kernel
theorem dX9_fleet_103 : decode cX9_fleet 103 = .ok (.invokevirtual 330, 3) := by decide +kernel
theorem wd_260 : Cond.methodLink RX9 330 yX7_grievanceOfSet ∈ BG := BG_in (by decide +kernel) rfl
theorem dX9_fleet_106 : decode cX9_fleet 106 = .ok (.iload_n 2, 1) := by decide +kernel
theorem dX9_fleet_107 : decode cX9_fleet 107 = .ok (.if_icmp .lt 6, 3) := by decide +kernel
theorem dX9_fleet_110 : decode cX9_fleet 110 = .ok (.iload 4, 2) := by decide +kernel
theorem dX9_fleet_112 : decode cX9_fleet 112 = .ok (.istore_n 3, 1) := by decide +kernel
theorem dX9_fleet_113 : decode cX9_fleet 113 = .ok (.iinc 4 1, 3) := by decide +kernel
theorem dX9_fleet_116 : decode cX9_fleet 116 = .ok (.goto (-87), 3) := by decide +kernel
theorem dX9_fleet_119 : decode cX9_fleet 119 = .ok (.iload_n 3, 1) := by decide +kernel
theorem dX9_fleet_120 : decode cX9_fleet 120 = .ok (.ireturn, 1) := by decide +kernel
theorem dX9_tear_0 : decode cX9_tear 0 = .ok (.aload_n 0, 1) := by decide +kernel
theorem dX9_tear_1 : decode cX9_tear 1 = .ok (.getfield 69, 3) := by decide +kernel
theorem dX9_tear_4 : decode cX9_tear 4 = .ok (.getfield 153, 3) := by decide +kernel
theorem dX9_tear_7 : decode cX9_tear 7 = .ok (.istore_n 1, 1) := by decide +kernel
theorem dX9_tear_8 : decode cX9_tear 8 = .ok (.aload_n 0, 1) := by decide +kernel
theorem dX9_tear_9 : decode cX9_tear 9 = .ok (.getfield 69, 3) := by decide +kernel
theorem dX9_tear_12 : decode cX9_tear 12 = .ok (.invokevirtual 121, 3) := by decide +kernel
theorem dX9_tear_15 : decode cX9_tear 15 = .ok (.iload_n 1, 1) := by decide +kernel
theorem dX9_tear_16 : decode cX9_tear 16 = .ok (.ireturn, 1) := by decide +kernel
theorem dX9_judge_0 : decode cX9_judge 0 = .ok (.aload_n 0, 1) := by decide +kernel
theorem dX9_judge_1 : decode cX9_judge 1 = .ok (.getfield 69, 3) := by decide +kernel
theorem dX9_judge_4 : decode cX9_judge 4 = .ok (.aload_n 0, 1) := by decide +kernel
theorem dX9_judge_5 : decode cX9_judge 5 = .ok (.getfield 40, 3) := by decide +kernel
theorem dX9_judge_8 : decode cX9_judge 8 = .ok (.invokevirtual 336, 3) := by decide +kernel
theorem wd_261 : Cond.methodLink RX9 336 yX0_firstWrong ∈ BG := BG_in (by decide +kernel) rfl
theorem wd_262 : Cond.code yX0_firstWrong cX0_firstWrong 3 (some .int) ∈ BG := BG_in (by decide +kernel) rfl
theorem wd_263 : Cond.instanceMethod yX0_firstWrong ∈ BG := BG_in (by decide +kernel) rfl
theorem wd_264 : Cond.selects RX0 yX0_firstWrong yX0_firstWrong ∈ BG := BG_in (by decide +kernel) rfl
theorem okV_X0_firstWrong : okV yX0_firstWrong cX0_firstWrong 3 (some .int) 1 := ⟨⟨wd_262, wd_110, by decide +kernel⟩, wd_263, wd_264⟩
theorem dX9_judge_11 : decode cX9_judge 11 = .ok (.ireturn, 1) := by decide +kernel
theorem dX9_seed_0 : decode cX9_seed 0 = .ok (.iload_n 1, 1) := by decide +kernel
theorem dX9_seed_1 : decode cX9_seed 1 = .ok (.ifCond .ge 6, 3) := by decide +kernel
theorem dX9_seed_7 : decode cX9_seed 7 = .ok (.aload_n 0, 1) := by decide +kernel
theorem dX9_seed_8 : decode cX9_seed 8 = .ok (.getfield 73, 3) := by decide +kernel
theorem dX9_seed_11 : decode cX9_seed 11 = .ok (.istore_n 2, 1) := by decide +kernel
theorem dX9_seed_12 : decode cX9_seed 12 = .ok (.aload_n 0, 1) := by decide +kernel
theorem dX9_seed_13 : decode cX9_seed 13 = .ok (.iload_n 1, 1) := by decide +kernel
theorem dX9_seed_14 : decode cX9_seed 14 = .ok (.putfield 73, 3) := by decide +kernel
theorem dX9_seed_17 : decode cX9_seed 17 = .ok (.iload_n 2, 1) := by decide +kernel
theorem dX9_seed_18 : decode cX9_seed 18 = .ok (.ireturn, 1) := by decide +kernel
theorem dX9_seed_4 : decode cX9_seed 4 = .ok (.ldc 104, 2) := by decide +kernel
theorem dX9_seed_6 : decode cX9_seed 6 = .ok (.ireturn, 1) := by decide +kernel
theorem dX9_keep_0 : decode cX9_keep 0 = .ok (.iload_n 1, 1) := by decide +kernel
theorem dX9_keep_1 : decode cX9_keep 1 = .ok (.ifCond .lt 8, 3) := by decide +kernel
theorem dX9_keep_9 : decode cX9_keep 9 = .ok (.ldc 163, 2) := by decide +kernel
theorem dX9_keep_11 : decode cX9_keep 11 = .ok (.ireturn, 1) := by decide +kernel
theorem dX9_keep_4 : decode cX9_keep 4 = .ok (.iload_n 1, 1) := by decide +kernel
theorem dX9_keep_5 : decode cX9_keep 5 = .ok (.iconst 2, 1) := by decide +kernel
theorem dX9_keep_6 : decode cX9_keep 6 = .ok (.if_icmp .lt 6, 3) := by decide +kernel
theorem dX9_keep_12 : decode cX9_keep 12 = .ok (.aload_n 0, 1) := by decide +kernel
theorem dX9_keep_13 : decode cX9_keep 13 = .ok (.getfield 56, 3) := by decide +kernel
theorem dX9_keep_16 : decode cX9_keep 16 = .ok (.iload_n 1, 1) := by decide +kernel
theorem dX9_keep_17 : decode cX9_keep 17 = .ok (.aload_n 0, 1) := by decide +kernel
theorem dX9_keep_18 : decode cX9_keep 18 = .ok (.getfield 40, 3) := by decide +kernel
theorem dX9_keep_21 : decode cX9_keep 21 = .ok (.invokevirtual 340, 3) := by decide +kernel
theorem wd_265 : Cond.methodLink RX9 340 yX6_store ∈ BG := BG_in (by decide +kernel) rfl
theorem wd_266 : Cond.code yX6_store cX6_store 3 none ∈ BG := BG_in (by decide +kernel) rfl
theorem wd_267 : Cond.instanceMethod yX6_store ∈ BG := BG_in (by decide +kernel) rfl
theorem wd_268 : Cond.selects RX6 yX6_store yX6_store ∈ BG := BG_in (by decide +kernel) rfl
theorem okV_X6_store : okV yX6_store cX6_store 3 none 2 := ⟨⟨wd_266, wd_59, by decide +kernel⟩, wd_267, wd_268⟩
theorem dX9_keep_24 : decode cX9_keep 24 = .ok (.aload_n 0, 1) := by decide +kernel
theorem dX9_keep_25 : decode cX9_keep 25 = .ok (.getfield 60, 3) := by decide +kernel
theorem dX9_keep_28 : decode cX9_keep 28 = .ok (.iload_n 1, 1) := by decide +kernel
theorem dX9_keep_29 : decode cX9_keep 29 = .ok (.aload_n 0, 1) := by decide +kernel
theorem dX9_keep_30 : decode cX9_keep 30 = .ok (.getfield 73, 3) := by decide +kernel
theorem dX9_keep_33 : decode cX9_keep 33 = .ok (.invokestatic 106, 3) := by decide +kernel
theorem dX9_keep_36 : decode cX9_keep 36 = .ok (.aload_n 0, 1) := by decide +kernel
theorem dX9_keep_37 : decode cX9_keep 37 = .ok (.dup, 1) := by decide +kernel
theorem dX9_keep_38 : decode cX9_keep 38 = .ok (.getfield 63, 3) := by decide +kernel
theorem dX9_keep_41 : decode cX9_keep 41 = .ok (.iconst 1, 1) := by decide +kernel
theorem dX9_keep_42 : decode cX9_keep 42 = .ok (.iload_n 1, 1) := by decide +kernel
theorem dX9_keep_43 : decode cX9_keep 43 = .ok (.ishl, 1) := by decide +kernel
theorem dX9_keep_44 : decode cX9_keep 44 = .ok (.ior, 1) := by decide +kernel
theorem dX9_keep_45 : decode cX9_keep 45 = .ok (.putfield 63, 3) := by decide +kernel
theorem dX9_keep_48 : decode cX9_keep 48 = .ok (.aload_n 0, 1) := by decide +kernel
theorem dX9_keep_49 : decode cX9_keep 49 = .ok (.getfield 47, 3) := by decide +kernel
theorem dX9_keep_52 : decode cX9_keep 52 = .ok (.invokevirtual 118, 3) := by decide +kernel
theorem dX9_keep_55 : decode cX9_keep 55 = .ok (.iconst 1, 1) := by decide +kernel
theorem dX9_keep_56 : decode cX9_keep 56 = .ok (.ireturn, 1) := by decide +kernel
theorem dX9_goBack_0 : decode cX9_goBack 0 = .ok (.iload_n 1, 1) := by decide +kernel
theorem dX9_goBack_1 : decode cX9_goBack 1 = .ok (.ifCond .lt 8, 3) := by decide +kernel
theorem dX9_goBack_9 : decode cX9_goBack 9 = .ok (.ldc 163, 2) := by decide +kernel
theorem dX9_goBack_11 : decode cX9_goBack 11 = .ok (.ireturn, 1) := by decide +kernel
theorem dX9_goBack_4 : decode cX9_goBack 4 = .ok (.iload_n 1, 1) := by decide +kernel
theorem dX9_goBack_5 : decode cX9_goBack 5 = .ok (.iconst 2, 1) := by decide +kernel
theorem dX9_goBack_6 : decode cX9_goBack 6 = .ok (.if_icmp .lt 6, 3) := by decide +kernel
theorem dX9_goBack_12 : decode cX9_goBack 12 = .ok (.aload_n 0, 1) := by decide +kernel
theorem dX9_goBack_13 : decode cX9_goBack 13 = .ok (.getfield 63, 3) := by decide +kernel
theorem dX9_goBack_16 : decode cX9_goBack 16 = .ok (.iload_n 1, 1) := by decide +kernel
theorem dX9_goBack_17 : decode cX9_goBack 17 = .ok (.ishr, 1) := by decide +kernel
theorem dX9_goBack_18 : decode cX9_goBack 18 = .ok (.iconst 1, 1) := by decide +kernel
theorem dX9_goBack_19 : decode cX9_goBack 19 = .ok (.iand, 1) := by decide +kernel
theorem dX9_goBack_20 : decode cX9_goBack 20 = .ok (.ifCond .ne 6, 3) := by decide +kernel
theorem dX9_goBack_23 : decode cX9_goBack 23 = .ok (.ldc 217, 2) := by decide +kernel
theorem dX9_goBack_25 : decode cX9_goBack 25 = .ok (.ireturn, 1) := by decide +kernel
/-- a below lo or above hi, b between -/
def rg (lo hi v a b : Int32) : Int32 := if v < lo ∨ hi < v then a else b
theorem rg_lo {lo hi v a b : Int32} (c : v < lo) : a = rg lo hi v a b := (if_pos (Or.inl c)).symm
theorem rg_hi {lo hi v a b : Int32} (c : ¬ v ≤ hi) : a = rg lo hi v a b := (if_pos (Or.inr (Int32.not_le.mp c))).symm
theorem rg_in {lo hi v a b : Int32} (c1 : ¬ v < lo) (c2 : v ≤ hi) : b = rg lo hi v a b := (if_neg (fun h => h.elim c1 (Int32.not_lt.mpr c2))).symm
theorem le1_of {i : Int32} (h : i < 2) : i ≤ 1 := by
  have := Int32.lt_iff_toInt_lt.mp h
  refine Int32.le_iff_toInt_le.mpr ?_
  have e1 : (2 : Int32).toInt = 2 := rfl
  have e2 : (1 : Int32).toInt = 1 := rfl
  omega
theorem two_of {i : Int32} (h1 : ¬ i < 0) (h2 : i ≤ 1) : i = 0 ∨ i = 1 := by
  have h1 := Int32.le_iff_toInt_le.mp (Int32.not_lt.mp h1)
  have h2 := Int32.le_iff_toInt_le.mp h2
  have e1 : (0 : Int32).toInt = 0 := rfl
  have e2 : (1 : Int32).toInt = 1 := rfl
  rcases (show i.toInt = 0 ∨ i.toInt = 1 by omega) with h | h
  · exact Or.inl (Int32.toInt_inj.mp (h.trans e1.symm))
  · exact Or.inr (Int32.toInt_inj.mp (h.trans e2.symm))
theorem i_mul0 (x : Int32) : x * 0 = 0 := Int32.mul_zero
def toldS (w : Int32) : Int32 := if w.toInt < 0 ∨ 13 < w.toInt then -1000000002 else if w = 1 then 1 else 0
def carriedS (b : Int32) : Int32 := if b = -1 then -1000000003 else -1000000001
def orderS (i : Int32) : Int32 := if i = -1 then 0 else -1
def seedS (v : Int32) : Int32 := if v < 0 then -1000000002 else 0
def rm_k_x_feed : Room := { frames := 1, cells := 0, slots := 0, locals := 22 }
set_option maxHeartbeats 4000000 in
set_option maxRecDepth 100000 in
theorem k_x_feed {l : Launch} {D : va_G} {cI cZ : ClassId} {sz : Nat} (xh xq1 xq2 xq6 xq14 xq22 xq26 xq31 xq35 xq36 xq41 xq44 xq50 xq59 : Nat) (v : Int32) : KI l yX9_feed cX9_feed 2 (some .int) rm_k_x_feed D cI cZ [.ref xh, .int v] sz [(xh, .inr (9, [.ref xq1, .int 0, .int (-1), .ref xq2, .ref xq6, .ref xq14, .ref xq22, .ref xq26, .ref xq31, .ref xq35, .int 0, .ref xq36, .int 0, .ref xq41, .ref xq44, .ref xq50, .ref xq59])), (xq1, .inl (cI, 240, .inl z0))] (fun (r : Int32) (_ : Unit) => r = rg 0 255 v (-1000000002) 1) (fun (_ : Unit) => []) := by
  refine KI.go rfl (Nat.le_of_ble_eq_true rfl) ?_
  intro p e s m args below meth c ls A Q hx hb hml hts hown hin hP hK hD hS hA hN hl hret
  have hl : lv_has ls 2 [(0, .ref xh), (1, .int v)] := hl
  refine lv_iload_n hx hb dX9_feed_0 rfl (lv_at hl 1 rfl) ?_
  refine lv_if_lt (tgt := 11) hx hb dX9_feed_1 (by decide) (fun c_1 => ?_) (fun c_1 => ?_)
  · refine lv_ldc (v := (-1000000002)) hx hb hown (hts _ wd_191) dX9_feed_11 ?_
    exact hret (-1000000002) () _ _ _ _ dX9_feed_13 rfl (rg_lo c_1) (cutP (isC := []) hP rfl) (cutD (isC := []) hD rfl rfl) hS
  · refine lv_iload_n hx hb dX9_feed_4 rfl (lv_at hl 1 rfl) ?_
    refine lv_sipush (v := 255) hx hb dX9_feed_5 (by decide) ?_
    refine lv_icmp_le (tgt := 14) hx hb dX9_feed_8 (by decide) (fun c_2 => ?_) (fun c_2 => ?_)
    · refine lv_aload_n hx hb dX9_feed_14 rfl (lv_at hl 0 rfl) ?_
      refine va_get (D := D) (ci := 9) (v := .int 0) (C := RX9) (T := TX9) (N := 17) hx hb hts iX9 hown hK hP 0 rfl rfl 1 (by decide) (hts _ wd_76) (fun _ h9 => h9) rfl dX9_feed_15 ?_
      refine lv_sipush (v := 240) hx hb dX9_feed_18 (by decide) ?_
      refine lv_icmp_lt (tgt := 27) hx hb dX9_feed_21 (by decide) (fun c_3 => ?_) (fun c_3 => absurd (by decide +kernel) c_3)
      refine lv_aload_n hx hb dX9_feed_27 rfl (lv_at hl 0 rfl) ?_
      refine va_get (D := D) (ci := 9) (v := .ref xq1) (C := RX9) (T := TX9) (N := 17) hx hb hts iX9 hown hK hP 0 rfl rfl 0 (by decide) (hts _ wd_75) (fun _ h9 => h9) rfl dX9_feed_28 ?_
      refine lv_aload_n hx hb dX9_feed_31 rfl (lv_at hl 0 rfl) ?_
      refine va_get (D := D) (ci := 9) (v := .int 0) (C := RX9) (T := TX9) (N := 17) hx hb hts iX9 hown hK hP 0 rfl rfl 1 (by decide) (hts _ wd_76) (fun _ h9 => h9) rfl dX9_feed_32 ?_
      refine lv_iload_n hx hb dX9_feed_35 rfl (lv_at hl 1 rfl) ?_
      refine cSv (wr := [(xh, .inr (9, [.ref xq1, .int 0, .int (-1), .ref xq2, .ref xq6, .ref xq14, .ref xq22, .ref xq26, .ref xq31, .ref xq35, .int 0, .ref xq36, .int 0, .ref xq41, .ref xq44, .ref xq50, .ref xq59]))]) (rest := []) (k_put xq1 240 z0 0 v (by decide)) okS_X9_put wd_192 hx hb hml hown hts hK hP hD hS hA hN hl.1 [1] [0] rfl rfl rfl rfl (by decide) rfl (Nat.le_of_ble_eq_true rfl) (Nat.le_of_ble_eq_true rfl) (Nat.le_of_ble_eq_true rfl) (Nat.le_of_ble_eq_true rfl) (Nat.le_of_ble_eq_true rfl) dX9_feed_36 (fun u_4 H locs hw_u_4 hP hD hS => ?_)
      have hP : va_P D classes [(xh, .inr (9, [.ref xq1, .int 0, .int (-1), .ref xq2, .ref xq6, .ref xq14, .ref xq22, .ref xq26, .ref xq31, .ref xq35, .int 0, .ref xq36, .int 0, .ref xq41, .ref xq44, .ref xq50, .ref xq59])), (xq1, .inl (cI, 240, .inl (putF 240 z0 0 v)))] H := hP
      have hD : va_D A [(xh, .inr (9, [.ref xq1, .int 0, .int (-1), .ref xq2, .ref xq6, .ref xq14, .ref xq22, .ref xq26, .ref xq31, .ref xq35, .int 0, .ref xq36, .int 0, .ref xq41, .ref xq44, .ref xq50, .ref xq59])), (xq1, .inl (cI, 240, .inl (putF 240 z0 0 v)))] := hD
      refine lv_aload_n hx hb dX9_feed_39 rfl (lv_at hl 0 rfl) ?_
      refine lv_dup hx hb dX9_feed_40 rfl ?_
      refine va_get (D := D) (ci := 9) (v := .int 0) (C := RX9) (T := TX9) (N := 17) hx hb hts iX9 hown hK hP 0 rfl rfl 1 (by decide) (hts _ wd_76) (fun _ h9 => h9) rfl dX9_feed_41 ?_
      refine lv_iconst (v := 1) hx hb dX9_feed_44 (by decide) ?_
      refine lv_iadd hx hb dX9_feed_45 ?_
      refine lv_topi (fun z_6 ez_6 => ?_)
      obtain rfl : z_6 = 1 := ez_6.trans (by decide +kernel)
      refine va_put (D := D) (ci := 9) (v := .int 1) (ty := .int) (C := RX9) (T := TX9) (N := 17) hx hb hts iX9 tyX9 tyX9_ok nmX9 hown hK hP hD hS 0 rfl rfl 1 (by decide) (hts _ wd_76) (fun _ h9 => h9) rfl (by decide +kernel) rfl rfl (Nat.le_of_ble_eq_true rfl) dX9_feed_46 (fun H locs hP hD hS => ?_)
      have hP : va_P D classes [(xh, .inr (9, [.ref xq1, .int 1, .int (-1), .ref xq2, .ref xq6, .ref xq14, .ref xq22, .ref xq26, .ref xq31, .ref xq35, .int 0, .ref xq36, .int 0, .ref xq41, .ref xq44, .ref xq50, .ref xq59])), (xq1, .inl (cI, 240, .inl (putF 240 z0 0 v)))] H := hP
      have hD : va_D A [(xh, .inr (9, [.ref xq1, .int 1, .int (-1), .ref xq2, .ref xq6, .ref xq14, .ref xq22, .ref xq26, .ref xq31, .ref xq35, .int 0, .ref xq36, .int 0, .ref xq41, .ref xq44, .ref xq50, .ref xq59])), (xq1, .inl (cI, 240, .inl (putF 240 z0 0 v)))] := hD
      refine lv_aload_n hx hb dX9_feed_49 rfl (lv_at hl 0 rfl) ?_
      refine va_get (D := D) (ci := 9) (v := .int 1) (C := RX9) (T := TX9) (N := 17) hx hb hts iX9 hown hK hP 0 rfl rfl 1 (by decide) (hts _ wd_76) (fun _ h9 => h9) rfl dX9_feed_50 ?_
      exact hret 1 () _ _ _ _ dX9_feed_53 rfl (rg_in c_1 c_2) (cutP (isC := []) hP rfl) (cutD (isC := []) hD rfl rfl) hS
    · refine lv_ldc (v := (-1000000002)) hx hb hown (hts _ wd_191) dX9_feed_11 ?_
      exact hret (-1000000002) () _ _ _ _ dX9_feed_13 rfl (rg_hi c_2) (cutP (isC := []) hP rfl) (cutD (isC := []) hD rfl rfl) hS
def rm_k_firstWrong : Room := { frames := 0, cells := 0, slots := 0, locals := 0 }
set_option maxHeartbeats 4000000 in
set_option maxRecDepth 100000 in
theorem k_firstWrong {l : Launch} {D : va_G} {cI cZ : ClassId} {sz : Nat} (t ta tb n : Nat) : KI l yX0_firstWrong cX0_firstWrong 3 (some .int) rm_k_firstWrong D cI cZ [.ref t, .ref n] sz [(t, .inr (0, [.int 0, .ref ta, .ref tb]))] (fun (r : Int32) (_ : Unit) => r = (-1)) (fun (_ : Unit) => [(t, .inr (0, [.int 0, .ref ta, .ref tb]))]) := by
  refine KI.go rfl (Nat.le_of_ble_eq_true rfl) ?_
  intro p e s m args below meth c ls A Q hx hb hml hts hown hin hP hK hD hS hA hN hl hret
  have hl : lv_has ls 3 [(0, .ref t), (1, .ref n)] := hl
  refine lv_iconst (v := 0) hx hb dX0_firstWrong_0 (by decide) ?_
  refine lv_istore_n (lv' := [(2, .int 0), (0, .ref t), (1, .ref n)]) hx hb dX0_firstWrong_1 rfl hl (by decide) rfl (fun ls hl => ?_)
  refine lv_iload_n hx hb dX0_firstWrong_2 rfl (lv_at hl 0 rfl) ?_
  refine lv_aload_n hx hb dX0_firstWrong_3 rfl (lv_at hl 1 rfl) ?_
  refine va_get (D := D) (ci := 0) (v := .int 0) (C := RX0) (T := TX0) (N := 3) hx hb hts iX0 hown hK hP 0 rfl rfl 0 (by decide) (hts _ wd_17) (fun _ h9 => h9) rfl dX0_firstWrong_4 ?_
  refine lv_icmp_ge (tgt := 41) hx hb dX0_firstWrong_7 (by decide) (fun c_1 => ?_) (fun c_1 => absurd (by decide +kernel) c_1)
  refine lv_iconst (v := (-1)) hx hb dX0_firstWrong_41 (by decide) ?_
  exact hret (-1) () _ _ _ _ dX0_firstWrong_42 rfl rfl hP hD hS
def rm_k_store0 : Room := { frames := 1, cells := 0, slots := 0, locals := 60 }
set_option maxHeartbeats 4000000 in
set_option maxRecDepth 100000 in
theorem k_store0 {l : Launch} {D : va_G} {cI cZ : ClassId} {sz : Nat} (h a n b : Nat) (f : Nat → Int32) : KV l yX6_store cX6_store 3 rm_k_store0 D cI cZ [.ref h, .int 0, .ref n] sz [(h, .inr (6, [.int 2, .ref a])), (a, .inl (cI, 82, .inl z0)), (n, .inr (7, [.ref b])), (b, .inl (cI, 41, .inl f))] (fun (_ : Unit) => True) (fun (_ : Unit) => [(h, .inr (6, [.int 2, .ref a])), (a, .inl (cI, 82, .inl (va_cpy f z0 (0 : Int32).toNatClampNeg (0 : Int32).toNatClampNeg (41 : Int32).toNatClampNeg))), (n, .inr (7, [.ref b])), (b, .inl (cI, 41, .inl f))]) := by
  refine KV.go rfl (Nat.le_of_ble_eq_true rfl) ?_
  intro p e s m args below meth c ls A Q hx hb hml hts hown hin hP hK hD hS hA hN hl hret
  have hl : lv_has ls 3 [(0, .ref h), (1, .int 0), (2, .ref n)] := hl
  refine lv_iload_n hx hb dX6_store_0 rfl (lv_at hl 1 rfl) ?_
  refine lv_if_lt (tgt := 30) hx hb dX6_store_1 (by decide) (fun c_1 => absurd c_1 (by decide +kernel)) (fun c_1 => ?_)
  refine lv_iload_n hx hb dX6_store_4 rfl (lv_at hl 1 rfl) ?_
  refine lv_aload_n hx hb dX6_store_5 rfl (lv_at hl 0 rfl) ?_
  refine va_get (D := D) (ci := 6) (v := .int 2) (C := RX6) (T := TX6) (N := 2) hx hb hts iX6 hown hK hP 0 rfl rfl 0 (by decide) (hts _ wd_54) (fun _ h9 => h9) rfl dX6_store_6 ?_
  refine lv_icmp_ge (tgt := 30) hx hb dX6_store_9 (by decide) (fun c_2 => absurd c_2 (by decide +kernel)) (fun c_2 => ?_)
  refine lv_aload_n hx hb dX6_store_12 rfl (lv_at hl 2 rfl) ?_
  refine va_get (D := D) (ci := 7) (v := .ref b) (C := RX7) (T := TX7) (N := 1) hx hb hts iX7 hown hK hP 2 rfl rfl 0 (by decide) (hts _ wd_193) (fun _ h9 => h9) rfl dX6_store_13 ?_
  refine lv_iconst (v := 0) hx hb dX6_store_16 (by decide) ?_
  refine lv_aload_n hx hb dX6_store_17 rfl (lv_at hl 0 rfl) ?_
  refine va_get (D := D) (ci := 6) (v := .ref a) (C := RX6) (T := TX6) (N := 2) hx hb hts iX6 hown hK hP 0 rfl rfl 1 (by decide) (hts _ wd_55) (fun _ h9 => h9) rfl dX6_store_18 ?_
  refine lv_iload_n hx hb dX6_store_21 rfl (lv_at hl 1 rfl) ?_
  refine lv_bipush (v := 41) hx hb dX6_store_22 (by decide) ?_
  refine lv_imul hx hb dX6_store_24 ?_
  refine lv_topi (fun z_3 ez_3 => ?_)
  obtain rfl : z_3 = 0 := ez_3.trans (by decide +kernel)
  refine lv_bipush (v := 41) hx hb dX6_store_25 (by decide) ?_
  refine va_copyi hx hb (by rw [hml]; exact hl.1.symm) hown (hts _ wd_194) (hts _ wd_195) (hts _ wd_196) (hts _ wd_197) hK hP hD hS 3 1 0 0 rfl rfl rfl rfl rfl (by decide +kernel) (by decide +kernel) (by decide +kernel) (by decide +kernel) (by decide +kernel) (fun _ _ => rfl) (Nat.le_of_ble_eq_true rfl) (Nat.le_of_ble_eq_true rfl) dX6_store_27 (fun H locs hP hD hS => ?_)
  have hP : va_P D classes [(h, .inr (6, [.int 2, .ref a])), (a, .inl (cI, 82, .inl (va_cpy f z0 (0 : Int32).toNatClampNeg (0 : Int32).toNatClampNeg (41 : Int32).toNatClampNeg))), (n, .inr (7, [.ref b])), (b, .inl (cI, 41, .inl f))] H := hP
  have hD : va_D A [(h, .inr (6, [.int 2, .ref a])), (a, .inl (cI, 82, .inl (va_cpy f z0 (0 : Int32).toNatClampNeg (0 : Int32).toNatClampNeg (41 : Int32).toNatClampNeg))), (n, .inr (7, [.ref b])), (b, .inl (cI, 41, .inl f))] := hD
  exact hret () _ _ _ _ dX6_store_30 trivial hP hD hS
def rm_k_store1 : Room := { frames := 1, cells := 0, slots := 0, locals := 60 }
set_option maxHeartbeats 4000000 in
set_option maxRecDepth 100000 in
theorem k_store1 {l : Launch} {D : va_G} {cI cZ : ClassId} {sz : Nat} (h a n b : Nat) (f : Nat → Int32) : KV l yX6_store cX6_store 3 rm_k_store1 D cI cZ [.ref h, .int 1, .ref n] sz [(h, .inr (6, [.int 2, .ref a])), (a, .inl (cI, 82, .inl z0)), (n, .inr (7, [.ref b])), (b, .inl (cI, 41, .inl f))] (fun (_ : Unit) => True) (fun (_ : Unit) => [(h, .inr (6, [.int 2, .ref a])), (a, .inl (cI, 82, .inl (va_cpy f z0 (0 : Int32).toNatClampNeg (41 : Int32).toNatClampNeg (41 : Int32).toNatClampNeg))), (n, .inr (7, [.ref b])), (b, .inl (cI, 41, .inl f))]) := by
  refine KV.go rfl (Nat.le_of_ble_eq_true rfl) ?_
  intro p e s m args below meth c ls A Q hx hb hml hts hown hin hP hK hD hS hA hN hl hret
  have hl : lv_has ls 3 [(0, .ref h), (1, .int 1), (2, .ref n)] := hl
  refine lv_iload_n hx hb dX6_store_0 rfl (lv_at hl 1 rfl) ?_
  refine lv_if_lt (tgt := 30) hx hb dX6_store_1 (by decide) (fun c_1 => absurd c_1 (by decide +kernel)) (fun c_1 => ?_)
  refine lv_iload_n hx hb dX6_store_4 rfl (lv_at hl 1 rfl) ?_
  refine lv_aload_n hx hb dX6_store_5 rfl (lv_at hl 0 rfl) ?_
  refine va_get (D := D) (ci := 6) (v := .int 2) (C := RX6) (T := TX6) (N := 2) hx hb hts iX6 hown hK hP 0 rfl rfl 0 (by decide) (hts _ wd_54) (fun _ h9 => h9) rfl dX6_store_6 ?_
  refine lv_icmp_ge (tgt := 30) hx hb dX6_store_9 (by decide) (fun c_2 => absurd c_2 (by decide +kernel)) (fun c_2 => ?_)
  refine lv_aload_n hx hb dX6_store_12 rfl (lv_at hl 2 rfl) ?_
  refine va_get (D := D) (ci := 7) (v := .ref b) (C := RX7) (T := TX7) (N := 1) hx hb hts iX7 hown hK hP 2 rfl rfl 0 (by decide) (hts _ wd_193) (fun _ h9 => h9) rfl dX6_store_13 ?_
  refine lv_iconst (v := 0) hx hb dX6_store_16 (by decide) ?_
  refine lv_aload_n hx hb dX6_store_17 rfl (lv_at hl 0 rfl) ?_
  refine va_get (D := D) (ci := 6) (v := .ref a) (C := RX6) (T := TX6) (N := 2) hx hb hts iX6 hown hK hP 0 rfl rfl 1 (by decide) (hts _ wd_55) (fun _ h9 => h9) rfl dX6_store_18 ?_
  refine lv_iload_n hx hb dX6_store_21 rfl (lv_at hl 1 rfl) ?_
  refine lv_bipush (v := 41) hx hb dX6_store_22 (by decide) ?_
  refine lv_imul hx hb dX6_store_24 ?_
  refine lv_topi (fun z_3 ez_3 => ?_)
  obtain rfl : z_3 = 41 := ez_3.trans (by decide +kernel)
  refine lv_bipush (v := 41) hx hb dX6_store_25 (by decide) ?_
  refine va_copyi hx hb (by rw [hml]; exact hl.1.symm) hown (hts _ wd_194) (hts _ wd_195) (hts _ wd_196) (hts _ wd_197) hK hP hD hS 3 1 0 0 rfl rfl rfl rfl rfl (by decide +kernel) (by decide +kernel) (by decide +kernel) (by decide +kernel) (by decide +kernel) (fun _ _ => rfl) (Nat.le_of_ble_eq_true rfl) (Nat.le_of_ble_eq_true rfl) dX6_store_27 (fun H locs hP hD hS => ?_)
  have hP : va_P D classes [(h, .inr (6, [.int 2, .ref a])), (a, .inl (cI, 82, .inl (va_cpy f z0 (0 : Int32).toNatClampNeg (41 : Int32).toNatClampNeg (41 : Int32).toNatClampNeg))), (n, .inr (7, [.ref b])), (b, .inl (cI, 41, .inl f))] H := hP
  have hD : va_D A [(h, .inr (6, [.int 2, .ref a])), (a, .inl (cI, 82, .inl (va_cpy f z0 (0 : Int32).toNatClampNeg (41 : Int32).toNatClampNeg (41 : Int32).toNatClampNeg))), (n, .inr (7, [.ref b])), (b, .inl (cI, 41, .inl f))] := hD
  exact hret () _ _ _ _ dX6_store_30 trivial hP hD hS
def rm_k_x_town : Room := { frames := 3, cells := 0, slots := 0, locals := 65 }
set_option maxHeartbeats 4000000 in
set_option maxRecDepth 100000 in
theorem k_x_town {l : Launch} {D : va_G} {cI cZ : ClassId} {sz : Nat} (xh xq1 xq2 xq6 xq14 xq22 xq26 xq31 xq35 xq36 xq41 xq44 xq50 xq59 xu3 xq17 xq18 xq19 xq20 xq21 xu23 xq29 xq39 xq40 : Nat) : KI l yX9_town cX9_town 2 (some .int) rm_k_x_town D cI cZ [.ref xh] sz [(xh, .inr (9, [.ref xq1, .int 0, .int (-1), .ref xq2, .ref xq6, .ref xq14, .ref xq22, .ref xq26, .ref xq31, .ref xq35, .int 0, .ref xq36, .int 0, .ref xq41, .ref xq44, .ref xq50, .ref xq59])), (xq2, .inr (5, [.int 0, .int (-1), .ref xu3, .int 0, .int 0, .int 0, .int 0])), (xq1, .inl (cI, 240, .inl z0)), (xq14, .inr (8, [.int 0, .int 1, .int 0, .int 0, .int 0, .ref xq17, .ref xq18, .ref xq19, .ref xq20, .ref xq21])), (xq22, .inr (7, [.ref xu23])), (xu23, .inl (cI, 41, .inl (cB2 z0 7))), (xq26, .inr (2, [.ref xq29, .int 0, .int 0])), (xq36, .inr (0, [.int 0, .ref xq39, .ref xq40]))] (fun (r : Int32) (_ : Unit) => r = 0) (fun (_ : Unit) => []) := by
  refine KI.go rfl (Nat.le_of_ble_eq_true rfl) ?_
  intro p e s m args below meth c ls A Q hx hb hml hts hown hin hP hK hD hS hA hN hl hret
  have hl : lv_has ls 2 [(0, .ref xh)] := hl
  refine lv_aload_n hx hb dX9_town_0 rfl (lv_at hl 0 rfl) ?_
  refine va_get (D := D) (ci := 9) (v := .ref xq2) (C := RX9) (T := TX9) (N := 17) hx hb hts iX9 hown hK hP 0 rfl rfl 3 (by decide) (hts _ wd_83) (fun _ h9 => h9) rfl dX9_town_1 ?_
  refine lv_aload_n hx hb dX9_town_4 rfl (lv_at hl 0 rfl) ?_
  refine va_get (D := D) (ci := 9) (v := .ref xq1) (C := RX9) (T := TX9) (N := 17) hx hb hts iX9 hown hK hP 0 rfl rfl 0 (by decide) (hts _ wd_75) (fun _ h9 => h9) rfl dX9_town_5 ?_
  refine lv_aload_n hx hb dX9_town_8 rfl (lv_at hl 0 rfl) ?_
  refine va_get (D := D) (ci := 9) (v := .int 0) (C := RX9) (T := TX9) (N := 17) hx hb hts iX9 hown hK hP 0 rfl rfl 1 (by decide) (hts _ wd_76) (fun _ h9 => h9) rfl dX9_town_9 ?_
  refine lv_aload_n hx hb dX9_town_12 rfl (lv_at hl 0 rfl) ?_
  refine va_get (D := D) (ci := 9) (v := .ref xq14) (C := RX9) (T := TX9) (N := 17) hx hb hts iX9 hown hK hP 0 rfl rfl 5 (by decide) (hts _ wd_90) (fun _ h9 => h9) rfl dX9_town_13 ?_
  refine cVv (wr := [(xh, .inr (9, [.ref xq1, .int 0, .int (-1), .ref xq2, .ref xq6, .ref xq14, .ref xq22, .ref xq26, .ref xq31, .ref xq35, .int 0, .ref xq36, .int 0, .ref xq41, .ref xq44, .ref xq50, .ref xq59])), (xq22, .inr (7, [.ref xu23])), (xu23, .inl (cI, 41, .inl (cB2 z0 7))), (xq26, .inr (2, [.ref xq29, .int 0, .int 0])), (xq36, .inr (0, [.int 0, .ref xq39, .ref xq40]))]) (rest := []) (k_read xq2 xq1 xu3 z0 xq14 0 1 0 0 0 xq17 xq18 xq19 xq20 xq21) okV_X5_read wd_198 hx hb hml hown hts hK hP hD hS hA hN hl.1 [1, 2, 3] [0, 4, 5, 6, 7] rfl rfl rfl rfl (by decide) rfl rfl rfl (Nat.le_of_ble_eq_true rfl) (Nat.le_of_ble_eq_true rfl) (Nat.le_of_ble_eq_true rfl) (Nat.le_of_ble_eq_true rfl) (Nat.le_of_ble_eq_true rfl) dX9_town_16 (fun u_1 H locs hw_u_1 hP hD hS => ?_)
  have hP : va_P D classes [(xh, .inr (9, [.ref xq1, .int 0, .int (-1), .ref xq2, .ref xq6, .ref xq14, .ref xq22, .ref xq26, .ref xq31, .ref xq35, .int 0, .ref xq36, .int 0, .ref xq41, .ref xq44, .ref xq50, .ref xq59])), (xq22, .inr (7, [.ref xu23])), (xu23, .inl (cI, 41, .inl (cB2 z0 7))), (xq26, .inr (2, [.ref xq29, .int 0, .int 0])), (xq36, .inr (0, [.int 0, .ref xq39, .ref xq40])), (xq14, .inr (8, [.int 0, .int 1, .int 0, .int 0, .int 0, .ref xq17, .ref xq18, .ref xq19, .ref xq20, .ref xq21])), (xq2, .inr (5, [.int 0, .int (-1), .ref xq1, .int 0, .int 0, .int 0, .int 0])), (xq1, .inl (cI, 240, .inl z0))] H := hP
  have hD : va_D A [(xh, .inr (9, [.ref xq1, .int 0, .int (-1), .ref xq2, .ref xq6, .ref xq14, .ref xq22, .ref xq26, .ref xq31, .ref xq35, .int 0, .ref xq36, .int 0, .ref xq41, .ref xq44, .ref xq50, .ref xq59])), (xq22, .inr (7, [.ref xu23])), (xu23, .inl (cI, 41, .inl (cB2 z0 7))), (xq26, .inr (2, [.ref xq29, .int 0, .int 0])), (xq36, .inr (0, [.int 0, .ref xq39, .ref xq40])), (xq14, .inr (8, [.int 0, .int 1, .int 0, .int 0, .int 0, .ref xq17, .ref xq18, .ref xq19, .ref xq20, .ref xq21])), (xq2, .inr (5, [.int 0, .int (-1), .ref xq1, .int 0, .int 0, .int 0, .int 0])), (xq1, .inl (cI, 240, .inl z0))] := hD
  refine lv_aload_n hx hb dX9_town_19 rfl (lv_at hl 0 rfl) ?_
  refine lv_iconst (v := 0) hx hb dX9_town_20 (by decide) ?_
  refine va_put (D := D) (ci := 9) (v := .int 0) (ty := .int) (C := RX9) (T := TX9) (N := 17) hx hb hts iX9 tyX9 tyX9_ok nmX9 hown hK hP hD hS 0 rfl rfl 1 (by decide) (hts _ wd_76) (fun _ h9 => h9) rfl (by decide +kernel) rfl rfl (Nat.le_of_ble_eq_true rfl) dX9_town_21 (fun H locs hP hD hS => ?_)
  have hP : va_P D classes [(xh, .inr (9, [.ref xq1, .int 0, .int (-1), .ref xq2, .ref xq6, .ref xq14, .ref xq22, .ref xq26, .ref xq31, .ref xq35, .int 0, .ref xq36, .int 0, .ref xq41, .ref xq44, .ref xq50, .ref xq59])), (xq22, .inr (7, [.ref xu23])), (xu23, .inl (cI, 41, .inl (cB2 z0 7))), (xq26, .inr (2, [.ref xq29, .int 0, .int 0])), (xq36, .inr (0, [.int 0, .ref xq39, .ref xq40])), (xq14, .inr (8, [.int 0, .int 1, .int 0, .int 0, .int 0, .ref xq17, .ref xq18, .ref xq19, .ref xq20, .ref xq21])), (xq2, .inr (5, [.int 0, .int (-1), .ref xq1, .int 0, .int 0, .int 0, .int 0])), (xq1, .inl (cI, 240, .inl z0))] H := hP
  have hD : va_D A [(xh, .inr (9, [.ref xq1, .int 0, .int (-1), .ref xq2, .ref xq6, .ref xq14, .ref xq22, .ref xq26, .ref xq31, .ref xq35, .int 0, .ref xq36, .int 0, .ref xq41, .ref xq44, .ref xq50, .ref xq59])), (xq22, .inr (7, [.ref xu23])), (xu23, .inl (cI, 41, .inl (cB2 z0 7))), (xq26, .inr (2, [.ref xq29, .int 0, .int 0])), (xq36, .inr (0, [.int 0, .ref xq39, .ref xq40])), (xq14, .inr (8, [.int 0, .int 1, .int 0, .int 0, .int 0, .ref xq17, .ref xq18, .ref xq19, .ref xq20, .ref xq21])), (xq2, .inr (5, [.int 0, .int (-1), .ref xq1, .int 0, .int 0, .int 0, .int 0])), (xq1, .inl (cI, 240, .inl z0))] := hD
  refine lv_aload_n hx hb dX9_town_24 rfl (lv_at hl 0 rfl) ?_
  refine lv_aload_n hx hb dX9_town_25 rfl (lv_at hl 0 rfl) ?_
  refine va_get (D := D) (ci := 9) (v := .ref xq2) (C := RX9) (T := TX9) (N := 17) hx hb hts iX9 hown hK hP 0 rfl rfl 3 (by decide) (hts _ wd_83) (fun _ h9 => h9) rfl dX9_town_26 ?_
  refine va_get (D := D) (ci := 5) (v := .int (-1)) (C := RX5) (T := TX5) (N := 7) hx hb hts iX5 hown hK hP 6 rfl rfl 1 (by decide) (hts _ wd_202) (fun _ h9 => h9) rfl dX9_town_29 ?_
  refine va_put (D := D) (ci := 9) (v := .int (-1)) (ty := .int) (C := RX9) (T := TX9) (N := 17) hx hb hts iX9 tyX9 tyX9_ok nmX9 hown hK hP hD hS 0 rfl rfl 2 (by decide) (hts _ wd_77) (fun _ h9 => h9) rfl (by decide +kernel) rfl rfl (Nat.le_of_ble_eq_true rfl) dX9_town_32 (fun H locs hP hD hS => ?_)
  have hP : va_P D classes [(xh, .inr (9, [.ref xq1, .int 0, .int (-1), .ref xq2, .ref xq6, .ref xq14, .ref xq22, .ref xq26, .ref xq31, .ref xq35, .int 0, .ref xq36, .int 0, .ref xq41, .ref xq44, .ref xq50, .ref xq59])), (xq22, .inr (7, [.ref xu23])), (xu23, .inl (cI, 41, .inl (cB2 z0 7))), (xq26, .inr (2, [.ref xq29, .int 0, .int 0])), (xq36, .inr (0, [.int 0, .ref xq39, .ref xq40])), (xq14, .inr (8, [.int 0, .int 1, .int 0, .int 0, .int 0, .ref xq17, .ref xq18, .ref xq19, .ref xq20, .ref xq21])), (xq2, .inr (5, [.int 0, .int (-1), .ref xq1, .int 0, .int 0, .int 0, .int 0])), (xq1, .inl (cI, 240, .inl z0))] H := hP
  have hD : va_D A [(xh, .inr (9, [.ref xq1, .int 0, .int (-1), .ref xq2, .ref xq6, .ref xq14, .ref xq22, .ref xq26, .ref xq31, .ref xq35, .int 0, .ref xq36, .int 0, .ref xq41, .ref xq44, .ref xq50, .ref xq59])), (xq22, .inr (7, [.ref xu23])), (xu23, .inl (cI, 41, .inl (cB2 z0 7))), (xq26, .inr (2, [.ref xq29, .int 0, .int 0])), (xq36, .inr (0, [.int 0, .ref xq39, .ref xq40])), (xq14, .inr (8, [.int 0, .int 1, .int 0, .int 0, .int 0, .ref xq17, .ref xq18, .ref xq19, .ref xq20, .ref xq21])), (xq2, .inr (5, [.int 0, .int (-1), .ref xq1, .int 0, .int 0, .int 0, .int 0])), (xq1, .inl (cI, 240, .inl z0))] := hD
  refine lv_aload_n hx hb dX9_town_35 rfl (lv_at hl 0 rfl) ?_
  refine va_get (D := D) (ci := 9) (v := .ref xq2) (C := RX9) (T := TX9) (N := 17) hx hb hts iX9 hown hK hP 0 rfl rfl 3 (by decide) (hts _ wd_83) (fun _ h9 => h9) rfl dX9_town_36 ?_
  refine va_get (D := D) (ci := 5) (v := .int 0) (C := RX5) (T := TX5) (N := 7) hx hb hts iX5 hown hK hP 6 rfl rfl 0 (by decide) (hts _ wd_203) (fun _ h9 => h9) rfl dX9_town_39 ?_
  refine lv_if_eq (tgt := 56) hx hb dX9_town_42 (by decide) (fun c_3 => ?_) (fun c_3 => absurd (by decide +kernel) c_3)
  refine lv_aload_n hx hb dX9_town_56 rfl (lv_at hl 0 rfl) ?_
  refine va_get (D := D) (ci := 9) (v := .ref xq6) (C := RX9) (T := TX9) (N := 17) hx hb hts iX9 hown hK hP 0 rfl rfl 4 (by decide) (hts _ wd_89) (fun _ h9 => h9) rfl dX9_town_57 ?_
  refine lv_astore_n (lv' := [(1, .ref xq6), (0, .ref xh)]) hx hb dX9_town_60 rfl hl (by decide) rfl (fun ls hl => ?_)
  refine lv_aload_n hx hb dX9_town_61 rfl (lv_at hl 1 rfl) ?_
  refine lv_aload_n hx hb dX9_town_62 rfl (lv_at hl 1 rfl) ?_
  refine va_get (D := D) (ci := 9) (v := .ref xq14) (C := RX9) (T := TX9) (N := 17) hx hb hts iX9 hown hK hP 0 rfl rfl 5 (by decide) (hts _ wd_90) (fun _ h9 => h9) rfl dX9_town_63 ?_
  refine va_put (D := D) (ci := 9) (v := .ref xq14) (ty := (.object "QuarrelBridges$Town")) (C := RX9) (T := TX9) (N := 17) hx hb hts iX9 tyX9 tyX9_ok nmX9 hown hK hP hD hS 0 rfl rfl 4 (by decide) (hts _ wd_89) (fun _ h9 => h9) rfl (by decide +kernel) rfl rfl (Nat.le_of_ble_eq_true rfl) dX9_town_66 (fun H locs hP hD hS => ?_)
  have hP : va_P D classes [(xh, .inr (9, [.ref xq1, .int 0, .int (-1), .ref xq2, .ref xq14, .ref xq14, .ref xq22, .ref xq26, .ref xq31, .ref xq35, .int 0, .ref xq36, .int 0, .ref xq41, .ref xq44, .ref xq50, .ref xq59])), (xq22, .inr (7, [.ref xu23])), (xu23, .inl (cI, 41, .inl (cB2 z0 7))), (xq26, .inr (2, [.ref xq29, .int 0, .int 0])), (xq36, .inr (0, [.int 0, .ref xq39, .ref xq40])), (xq14, .inr (8, [.int 0, .int 1, .int 0, .int 0, .int 0, .ref xq17, .ref xq18, .ref xq19, .ref xq20, .ref xq21])), (xq2, .inr (5, [.int 0, .int (-1), .ref xq1, .int 0, .int 0, .int 0, .int 0])), (xq1, .inl (cI, 240, .inl z0))] H := hP
  have hD : va_D A [(xh, .inr (9, [.ref xq1, .int 0, .int (-1), .ref xq2, .ref xq14, .ref xq14, .ref xq22, .ref xq26, .ref xq31, .ref xq35, .int 0, .ref xq36, .int 0, .ref xq41, .ref xq44, .ref xq50, .ref xq59])), (xq22, .inr (7, [.ref xu23])), (xu23, .inl (cI, 41, .inl (cB2 z0 7))), (xq26, .inr (2, [.ref xq29, .int 0, .int 0])), (xq36, .inr (0, [.int 0, .ref xq39, .ref xq40])), (xq14, .inr (8, [.int 0, .int 1, .int 0, .int 0, .int 0, .ref xq17, .ref xq18, .ref xq19, .ref xq20, .ref xq21])), (xq2, .inr (5, [.int 0, .int (-1), .ref xq1, .int 0, .int 0, .int 0, .int 0])), (xq1, .inl (cI, 240, .inl z0))] := hD
  refine lv_aload_n hx hb dX9_town_69 rfl (lv_at hl 1 rfl) ?_
  refine lv_aload_n hx hb dX9_town_70 rfl (lv_at hl 0 rfl) ?_
  refine va_put (D := D) (ci := 9) (v := .ref xq6) (ty := (.object "QuarrelBridges$Town")) (C := RX9) (T := TX9) (N := 17) hx hb hts iX9 tyX9 tyX9_ok nmX9 hown hK hP hD hS 0 rfl rfl 5 (by decide) (hts _ wd_90) (fun _ h9 => h9) rfl (by decide +kernel) rfl rfl (Nat.le_of_ble_eq_true rfl) dX9_town_71 (fun H locs hP hD hS => ?_)
  have hP : va_P D classes [(xh, .inr (9, [.ref xq1, .int 0, .int (-1), .ref xq2, .ref xq14, .ref xq6, .ref xq22, .ref xq26, .ref xq31, .ref xq35, .int 0, .ref xq36, .int 0, .ref xq41, .ref xq44, .ref xq50, .ref xq59])), (xq22, .inr (7, [.ref xu23])), (xu23, .inl (cI, 41, .inl (cB2 z0 7))), (xq26, .inr (2, [.ref xq29, .int 0, .int 0])), (xq36, .inr (0, [.int 0, .ref xq39, .ref xq40])), (xq14, .inr (8, [.int 0, .int 1, .int 0, .int 0, .int 0, .ref xq17, .ref xq18, .ref xq19, .ref xq20, .ref xq21])), (xq2, .inr (5, [.int 0, .int (-1), .ref xq1, .int 0, .int 0, .int 0, .int 0])), (xq1, .inl (cI, 240, .inl z0))] H := hP
  have hD : va_D A [(xh, .inr (9, [.ref xq1, .int 0, .int (-1), .ref xq2, .ref xq14, .ref xq6, .ref xq22, .ref xq26, .ref xq31, .ref xq35, .int 0, .ref xq36, .int 0, .ref xq41, .ref xq44, .ref xq50, .ref xq59])), (xq22, .inr (7, [.ref xu23])), (xu23, .inl (cI, 41, .inl (cB2 z0 7))), (xq26, .inr (2, [.ref xq29, .int 0, .int 0])), (xq36, .inr (0, [.int 0, .ref xq39, .ref xq40])), (xq14, .inr (8, [.int 0, .int 1, .int 0, .int 0, .int 0, .ref xq17, .ref xq18, .ref xq19, .ref xq20, .ref xq21])), (xq2, .inr (5, [.int 0, .int (-1), .ref xq1, .int 0, .int 0, .int 0, .int 0])), (xq1, .inl (cI, 240, .inl z0))] := hD
  refine lv_aload_n hx hb dX9_town_74 rfl (lv_at hl 1 rfl) ?_
  refine va_get (D := D) (ci := 9) (v := .ref xq22) (C := RX9) (T := TX9) (N := 17) hx hb hts iX9 hown hK hP 0 rfl rfl 6 (by decide) (hts _ wd_96) (fun _ h9 => h9) rfl dX9_town_75 ?_
  refine lv_aload_n hx hb dX9_town_78 rfl (lv_at hl 1 rfl) ?_
  refine va_get (D := D) (ci := 9) (v := .ref xq14) (C := RX9) (T := TX9) (N := 17) hx hb hts iX9 hown hK hP 0 rfl rfl 4 (by decide) (hts _ wd_89) (fun _ h9 => h9) rfl dX9_town_79 ?_
  refine cVv (wr := [(xh, .inr (9, [.ref xq1, .int 0, .int (-1), .ref xq2, .ref xq14, .ref xq6, .ref xq22, .ref xq26, .ref xq31, .ref xq35, .int 0, .ref xq36, .int 0, .ref xq41, .ref xq44, .ref xq50, .ref xq59])), (xq26, .inr (2, [.ref xq29, .int 0, .int 0])), (xq36, .inr (0, [.int 0, .ref xq39, .ref xq40])), (xq2, .inr (5, [.int 0, .int (-1), .ref xq1, .int 0, .int 0, .int 0, .int 0])), (xq1, .inl (cI, 240, .inl z0))]) (rest := []) (k_begin xq22 xu23 (cB2 z0 7) xq14 0 1 0 0 xq17 xq18 xq19 xq20 xq21) okV_X7_begin wd_134 hx hb hml hown hts hK hP hD hS hA hN hl.1 [1, 2, 5] [0, 3, 4, 6, 7] rfl rfl rfl rfl (by decide) rfl rfl rfl (Nat.le_of_ble_eq_true rfl) (Nat.le_of_ble_eq_true rfl) (Nat.le_of_ble_eq_true rfl) (Nat.le_of_ble_eq_true rfl) (Nat.le_of_ble_eq_true rfl) dX9_town_82 (fun u_4 H locs hw_u_4 hP hD hS => ?_)
  have hP : va_P D classes [(xh, .inr (9, [.ref xq1, .int 0, .int (-1), .ref xq2, .ref xq14, .ref xq6, .ref xq22, .ref xq26, .ref xq31, .ref xq35, .int 0, .ref xq36, .int 0, .ref xq41, .ref xq44, .ref xq50, .ref xq59])), (xq26, .inr (2, [.ref xq29, .int 0, .int 0])), (xq36, .inr (0, [.int 0, .ref xq39, .ref xq40])), (xq2, .inr (5, [.int 0, .int (-1), .ref xq1, .int 0, .int 0, .int 0, .int 0])), (xq1, .inl (cI, 240, .inl z0)), (xq22, .inr (7, [.ref xu23])), (xu23, .inl (cI, 41, .inl (cB2 (cB2 z0 7) 7))), (xq14, .inr (8, [.int 0, .int 1, .int 0, .int 0, .int 0, .ref xq17, .ref xq18, .ref xq19, .ref xq20, .ref xq21]))] H := hP
  have hD : va_D A [(xh, .inr (9, [.ref xq1, .int 0, .int (-1), .ref xq2, .ref xq14, .ref xq6, .ref xq22, .ref xq26, .ref xq31, .ref xq35, .int 0, .ref xq36, .int 0, .ref xq41, .ref xq44, .ref xq50, .ref xq59])), (xq26, .inr (2, [.ref xq29, .int 0, .int 0])), (xq36, .inr (0, [.int 0, .ref xq39, .ref xq40])), (xq2, .inr (5, [.int 0, .int (-1), .ref xq1, .int 0, .int 0, .int 0, .int 0])), (xq1, .inl (cI, 240, .inl z0)), (xq22, .inr (7, [.ref xu23])), (xu23, .inl (cI, 41, .inl (cB2 (cB2 z0 7) 7))), (xq14, .inr (8, [.int 0, .int 1, .int 0, .int 0, .int 0, .ref xq17, .ref xq18, .ref xq19, .ref xq20, .ref xq21]))] := hD
  refine lv_aload_n hx hb dX9_town_85 rfl (lv_at hl 1 rfl) ?_
  refine va_get (D := D) (ci := 9) (v := .ref xq26) (C := RX9) (T := TX9) (N := 17) hx hb hts iX9 hown hK hP 0 rfl rfl 7 (by decide) (hts _ wd_102) (fun _ h9 => h9) rfl dX9_town_86 ?_
  refine cVv (wr := [(xh, .inr (9, [.ref xq1, .int 0, .int (-1), .ref xq2, .ref xq14, .ref xq6, .ref xq22, .ref xq26, .ref xq31, .ref xq35, .int 0, .ref xq36, .int 0, .ref xq41, .ref xq44, .ref xq50, .ref xq59])), (xq36, .inr (0, [.int 0, .ref xq39, .ref xq40])), (xq2, .inr (5, [.int 0, .int (-1), .ref xq1, .int 0, .int 0, .int 0, .int 0])), (xq1, .inl (cI, 240, .inl z0)), (xq22, .inr (7, [.ref xu23])), (xu23, .inl (cI, 41, .inl (cB2 (cB2 z0 7) 7))), (xq14, .inr (8, [.int 0, .int 1, .int 0, .int 0, .int 0, .ref xq17, .ref xq18, .ref xq19, .ref xq20, .ref xq21]))]) (rest := []) (k_forget xq26 0 0 xq29) okV_X2_forget wd_204 hx hb hml hown hts hK hP hD hS hA hN hl.1 [1] [0, 2, 3, 4, 5, 6, 7] rfl rfl rfl rfl (by decide) rfl rfl rfl (Nat.le_of_ble_eq_true rfl) (Nat.le_of_ble_eq_true rfl) (Nat.le_of_ble_eq_true rfl) (Nat.le_of_ble_eq_true rfl) (Nat.le_of_ble_eq_true rfl) dX9_town_89 (fun u_6 H locs hw_u_6 hP hD hS => ?_)
  have hP : va_P D classes [(xh, .inr (9, [.ref xq1, .int 0, .int (-1), .ref xq2, .ref xq14, .ref xq6, .ref xq22, .ref xq26, .ref xq31, .ref xq35, .int 0, .ref xq36, .int 0, .ref xq41, .ref xq44, .ref xq50, .ref xq59])), (xq36, .inr (0, [.int 0, .ref xq39, .ref xq40])), (xq2, .inr (5, [.int 0, .int (-1), .ref xq1, .int 0, .int 0, .int 0, .int 0])), (xq1, .inl (cI, 240, .inl z0)), (xq22, .inr (7, [.ref xu23])), (xu23, .inl (cI, 41, .inl (cB2 (cB2 z0 7) 7))), (xq14, .inr (8, [.int 0, .int 1, .int 0, .int 0, .int 0, .ref xq17, .ref xq18, .ref xq19, .ref xq20, .ref xq21])), (xq26, .inr (2, [.ref xq29, .int 0, .int 0]))] H := hP
  have hD : va_D A [(xh, .inr (9, [.ref xq1, .int 0, .int (-1), .ref xq2, .ref xq14, .ref xq6, .ref xq22, .ref xq26, .ref xq31, .ref xq35, .int 0, .ref xq36, .int 0, .ref xq41, .ref xq44, .ref xq50, .ref xq59])), (xq36, .inr (0, [.int 0, .ref xq39, .ref xq40])), (xq2, .inr (5, [.int 0, .int (-1), .ref xq1, .int 0, .int 0, .int 0, .int 0])), (xq1, .inl (cI, 240, .inl z0)), (xq22, .inr (7, [.ref xu23])), (xu23, .inl (cI, 41, .inl (cB2 (cB2 z0 7) 7))), (xq14, .inr (8, [.int 0, .int 1, .int 0, .int 0, .int 0, .ref xq17, .ref xq18, .ref xq19, .ref xq20, .ref xq21])), (xq26, .inr (2, [.ref xq29, .int 0, .int 0]))] := hD
  refine lv_aload_n hx hb dX9_town_92 rfl (lv_at hl 1 rfl) ?_
  refine lv_iconst (v := 0) hx hb dX9_town_93 (by decide) ?_
  refine va_put (D := D) (ci := 9) (v := .int 0) (ty := .int) (C := RX9) (T := TX9) (N := 17) hx hb hts iX9 tyX9 tyX9_ok nmX9 hown hK hP hD hS 0 rfl rfl 10 (by decide) (hts _ wd_107) (fun _ h9 => h9) rfl (by decide +kernel) rfl rfl (Nat.le_of_ble_eq_true rfl) dX9_town_94 (fun H locs hP hD hS => ?_)
  have hP : va_P D classes [(xh, .inr (9, [.ref xq1, .int 0, .int (-1), .ref xq2, .ref xq14, .ref xq6, .ref xq22, .ref xq26, .ref xq31, .ref xq35, .int 0, .ref xq36, .int 0, .ref xq41, .ref xq44, .ref xq50, .ref xq59])), (xq36, .inr (0, [.int 0, .ref xq39, .ref xq40])), (xq2, .inr (5, [.int 0, .int (-1), .ref xq1, .int 0, .int 0, .int 0, .int 0])), (xq1, .inl (cI, 240, .inl z0)), (xq22, .inr (7, [.ref xu23])), (xu23, .inl (cI, 41, .inl (cB2 (cB2 z0 7) 7))), (xq14, .inr (8, [.int 0, .int 1, .int 0, .int 0, .int 0, .ref xq17, .ref xq18, .ref xq19, .ref xq20, .ref xq21])), (xq26, .inr (2, [.ref xq29, .int 0, .int 0]))] H := hP
  have hD : va_D A [(xh, .inr (9, [.ref xq1, .int 0, .int (-1), .ref xq2, .ref xq14, .ref xq6, .ref xq22, .ref xq26, .ref xq31, .ref xq35, .int 0, .ref xq36, .int 0, .ref xq41, .ref xq44, .ref xq50, .ref xq59])), (xq36, .inr (0, [.int 0, .ref xq39, .ref xq40])), (xq2, .inr (5, [.int 0, .int (-1), .ref xq1, .int 0, .int 0, .int 0, .int 0])), (xq1, .inl (cI, 240, .inl z0)), (xq22, .inr (7, [.ref xu23])), (xu23, .inl (cI, 41, .inl (cB2 (cB2 z0 7) 7))), (xq14, .inr (8, [.int 0, .int 1, .int 0, .int 0, .int 0, .ref xq17, .ref xq18, .ref xq19, .ref xq20, .ref xq21])), (xq26, .inr (2, [.ref xq29, .int 0, .int 0]))] := hD
  refine lv_aload_n hx hb dX9_town_97 rfl (lv_at hl 1 rfl) ?_
  refine va_get (D := D) (ci := 9) (v := .ref xq36) (C := RX9) (T := TX9) (N := 17) hx hb hts iX9 hown hK hP 0 rfl rfl 11 (by decide) (hts _ wd_113) (fun _ h9 => h9) rfl dX9_town_98 ?_
  refine cVv (wr := [(xh, .inr (9, [.ref xq1, .int 0, .int (-1), .ref xq2, .ref xq14, .ref xq6, .ref xq22, .ref xq26, .ref xq31, .ref xq35, .int 0, .ref xq36, .int 0, .ref xq41, .ref xq44, .ref xq50, .ref xq59])), (xq2, .inr (5, [.int 0, .int (-1), .ref xq1, .int 0, .int 0, .int 0, .int 0])), (xq1, .inl (cI, 240, .inl z0)), (xq22, .inr (7, [.ref xu23])), (xu23, .inl (cI, 41, .inl (cB2 (cB2 z0 7) 7))), (xq14, .inr (8, [.int 0, .int 1, .int 0, .int 0, .int 0, .ref xq17, .ref xq18, .ref xq19, .ref xq20, .ref xq21])), (xq26, .inr (2, [.ref xq29, .int 0, .int 0]))]) (rest := []) (k_bookclear xq36 0 xq39 xq40) okV_X0_clear wd_208 hx hb hml hown hts hK hP hD hS hA hN hl.1 [1] [0, 2, 3, 4, 5, 6, 7] rfl rfl rfl rfl (by decide) rfl rfl rfl (Nat.le_of_ble_eq_true rfl) (Nat.le_of_ble_eq_true rfl) (Nat.le_of_ble_eq_true rfl) (Nat.le_of_ble_eq_true rfl) (Nat.le_of_ble_eq_true rfl) dX9_town_101 (fun u_8 H locs hw_u_8 hP hD hS => ?_)
  have hP : va_P D classes [(xh, .inr (9, [.ref xq1, .int 0, .int (-1), .ref xq2, .ref xq14, .ref xq6, .ref xq22, .ref xq26, .ref xq31, .ref xq35, .int 0, .ref xq36, .int 0, .ref xq41, .ref xq44, .ref xq50, .ref xq59])), (xq2, .inr (5, [.int 0, .int (-1), .ref xq1, .int 0, .int 0, .int 0, .int 0])), (xq1, .inl (cI, 240, .inl z0)), (xq22, .inr (7, [.ref xu23])), (xu23, .inl (cI, 41, .inl (cB2 (cB2 z0 7) 7))), (xq14, .inr (8, [.int 0, .int 1, .int 0, .int 0, .int 0, .ref xq17, .ref xq18, .ref xq19, .ref xq20, .ref xq21])), (xq26, .inr (2, [.ref xq29, .int 0, .int 0])), (xq36, .inr (0, [.int 0, .ref xq39, .ref xq40]))] H := hP
  have hD : va_D A [(xh, .inr (9, [.ref xq1, .int 0, .int (-1), .ref xq2, .ref xq14, .ref xq6, .ref xq22, .ref xq26, .ref xq31, .ref xq35, .int 0, .ref xq36, .int 0, .ref xq41, .ref xq44, .ref xq50, .ref xq59])), (xq2, .inr (5, [.int 0, .int (-1), .ref xq1, .int 0, .int 0, .int 0, .int 0])), (xq1, .inl (cI, 240, .inl z0)), (xq22, .inr (7, [.ref xu23])), (xu23, .inl (cI, 41, .inl (cB2 (cB2 z0 7) 7))), (xq14, .inr (8, [.int 0, .int 1, .int 0, .int 0, .int 0, .ref xq17, .ref xq18, .ref xq19, .ref xq20, .ref xq21])), (xq26, .inr (2, [.ref xq29, .int 0, .int 0])), (xq36, .inr (0, [.int 0, .ref xq39, .ref xq40]))] := hD
  refine lv_aload_n hx hb dX9_town_104 rfl (lv_at hl 1 rfl) ?_
  refine va_get (D := D) (ci := 9) (v := .ref xq14) (C := RX9) (T := TX9) (N := 17) hx hb hts iX9 hown hK hP 0 rfl rfl 4 (by decide) (hts _ wd_89) (fun _ h9 => h9) rfl dX9_town_105 ?_
  refine va_get (D := D) (ci := 8) (v := .int 0) (C := RX8) (T := TX8) (N := 10) hx hb hts iX8 hown hK hP 5 rfl rfl 0 (by decide) (hts _ wd_212) (fun _ h9 => h9) rfl dX9_town_108 ?_
  exact hret 0 () _ _ _ _ dX9_town_111 rfl rfl (cutP (isC := []) hP rfl) (cutD (isC := []) hD rfl rfl) hS
def rm_k_x_fault : Room := { frames := 0, cells := 0, slots := 0, locals := 0 }
set_option maxHeartbeats 4000000 in
set_option maxRecDepth 100000 in
theorem k_x_fault {l : Launch} {D : va_G} {cI cZ : ClassId} {sz : Nat} (xh xq1 xq2 xq6 xq14 xq22 xq26 xq31 xq35 xq36 xq41 xq44 xq50 xq59 : Nat) : KI l yX9_fault cX9_fault 1 (some .int) rm_k_x_fault D cI cZ [.ref xh] sz [(xh, .inr (9, [.ref xq1, .int 0, .int (-1), .ref xq2, .ref xq6, .ref xq14, .ref xq22, .ref xq26, .ref xq31, .ref xq35, .int 0, .ref xq36, .int 0, .ref xq41, .ref xq44, .ref xq50, .ref xq59]))] (fun (r : Int32) (_ : Unit) => r = (-1)) (fun (_ : Unit) => []) := by
  refine KI.go rfl (Nat.le_of_ble_eq_true rfl) ?_
  intro p e s m args below meth c ls A Q hx hb hml hts hown hin hP hK hD hS hA hN hl hret
  have hl : lv_has ls 1 [(0, .ref xh)] := hl
  refine lv_aload_n hx hb dX9_fault_0 rfl (lv_at hl 0 rfl) ?_
  refine va_get (D := D) (ci := 9) (v := .int (-1)) (C := RX9) (T := TX9) (N := 17) hx hb hts iX9 hown hK hP 0 rfl rfl 2 (by decide) (hts _ wd_77) (fun _ h9 => h9) rfl dX9_fault_1 ?_
  exact hret (-1) () _ _ _ _ dX9_fault_4 rfl rfl (cutP (isC := []) hP rfl) (cutD (isC := []) hD rfl rfl) hS
def rm_k_x_told : Room := { frames := 4, cells := 0, slots := 0, locals := 85 }
set_option maxHeartbeats 4000000 in
set_option maxRecDepth 100000 in
theorem k_x_told {l : Launch} {D : va_G} {cI cZ : ClassId} {sz : Nat} (xh xq1 xq2 xq6 xq14 xq22 xq26 xq31 xq35 xq36 xq41 xq44 xq50 xq59 xq9 xq10 xq11 xq12 xq13 xu23 xq39 xq40 xq29 : Nat) (v : Int32) : KI l yX9_told cX9_told 2 (some .int) rm_k_x_told D cI cZ [.ref xh, .int v] sz [(xh, .inr (9, [.ref xq1, .int 0, .int (-1), .ref xq2, .ref xq6, .ref xq14, .ref xq22, .ref xq26, .ref xq31, .ref xq35, .int 0, .ref xq36, .int 0, .ref xq41, .ref xq44, .ref xq50, .ref xq59])), (xq6, .inr (8, [.int 0, .int 1, .int 0, .int 0, .int 0, .ref xq9, .ref xq10, .ref xq11, .ref xq12, .ref xq13])), (xq22, .inr (7, [.ref xu23])), (xu23, .inl (cI, 41, .inl (cB2 z0 7))), (xq36, .inr (0, [.int 0, .ref xq39, .ref xq40])), (xq26, .inr (2, [.ref xq29, .int 0, .int 0]))] (fun (r : Int32) (_ : Unit) => r = toldS v) (fun (_ : Unit) => []) := by
  refine KI.go rfl (Nat.le_of_ble_eq_true rfl) ?_
  intro p e s m args below meth c ls A Q hx hb hml hts hown hin hP hK hD hS hA hN hl hret
  have hl : lv_has ls 2 [(0, .ref xh), (1, .int v)] := hl
  refine lv_iload_n hx hb dX9_told_0 rfl (lv_at hl 1 rfl) ?_
  by_cases c_1 : v.toInt < 0 ∨ 13 < v.toInt
  · refine lv_tableOut (tgt := 184) hx hb dX9_told_1 c_1 (by decide) ?_
    refine lv_ldc (v := (-1000000002)) hx hb hown (hts _ wd_191) dX9_told_184 ?_
    exact hret (-1000000002) () _ _ _ _ dX9_told_186 rfl (if_pos c_1).symm (cutP (isC := []) hP rfl) (cutD (isC := []) hD rfl rfl) hS
  · rcases swc_0_13 c_1 with rfl | rfl | rfl | rfl | rfl | rfl | rfl | rfl | rfl | rfl | rfl | rfl | rfl | rfl
    · have hl : lv_has ls 2 [(0, .ref xh), (1, .int 0)] := hl
      refine lv_tableIn (off := 71) (tgt := 72) hx hb dX9_told_1 (by decide +kernel) (by decide +kernel) (by decide +kernel) (by decide) ?_
      refine lv_aload_n hx hb dX9_told_72 rfl (lv_at hl 0 rfl) ?_
      refine va_get (D := D) (ci := 9) (v := .ref xq6) (C := RX9) (T := TX9) (N := 17) hx hb hts iX9 hown hK hP 0 rfl rfl 4 (by decide) (hts _ wd_89) (fun _ h9 => h9) rfl dX9_told_73 ?_
      refine va_get (D := D) (ci := 8) (v := .int 0) (C := RX8) (T := TX8) (N := 10) hx hb hts iX8 hown hK hP 1 rfl rfl 0 (by decide) (hts _ wd_212) (fun _ h9 => h9) rfl dX9_told_76 ?_
      exact hret 0 () _ _ _ _ dX9_told_79 rfl (by decide +kernel) (cutP (isC := []) hP rfl) (cutD (isC := []) hD rfl rfl) hS
    · have hl : lv_has ls 2 [(0, .ref xh), (1, .int 1)] := hl
      refine lv_tableIn (off := 79) (tgt := 80) hx hb dX9_told_1 (by decide +kernel) (by decide +kernel) (by decide +kernel) (by decide) ?_
      refine lv_aload_n hx hb dX9_told_80 rfl (lv_at hl 0 rfl) ?_
      refine va_get (D := D) (ci := 9) (v := .ref xq6) (C := RX9) (T := TX9) (N := 17) hx hb hts iX9 hown hK hP 0 rfl rfl 4 (by decide) (hts _ wd_89) (fun _ h9 => h9) rfl dX9_told_81 ?_
      refine va_get (D := D) (ci := 8) (v := .int 1) (C := RX8) (T := TX8) (N := 10) hx hb hts iX8 hown hK hP 1 rfl rfl 1 (by decide) (hts _ wd_213) (fun _ h9 => h9) rfl dX9_told_84 ?_
      exact hret 1 () _ _ _ _ dX9_told_87 rfl (by decide +kernel) (cutP (isC := []) hP rfl) (cutD (isC := []) hD rfl rfl) hS
    · have hl : lv_has ls 2 [(0, .ref xh), (1, .int 2)] := hl
      refine lv_tableIn (off := 87) (tgt := 88) hx hb dX9_told_1 (by decide +kernel) (by decide +kernel) (by decide +kernel) (by decide) ?_
      refine lv_aload_n hx hb dX9_told_88 rfl (lv_at hl 0 rfl) ?_
      refine va_get (D := D) (ci := 9) (v := .ref xq6) (C := RX9) (T := TX9) (N := 17) hx hb hts iX9 hown hK hP 0 rfl rfl 4 (by decide) (hts _ wd_89) (fun _ h9 => h9) rfl dX9_told_89 ?_
      refine va_get (D := D) (ci := 8) (v := .int 0) (C := RX8) (T := TX8) (N := 10) hx hb hts iX8 hown hK hP 1 rfl rfl 2 (by decide) (hts _ wd_214) (fun _ h9 => h9) rfl dX9_told_92 ?_
      exact hret 0 () _ _ _ _ dX9_told_95 rfl (by decide +kernel) (cutP (isC := []) hP rfl) (cutD (isC := []) hD rfl rfl) hS
    · have hl : lv_has ls 2 [(0, .ref xh), (1, .int 3)] := hl
      refine lv_tableIn (off := 95) (tgt := 96) hx hb dX9_told_1 (by decide +kernel) (by decide +kernel) (by decide +kernel) (by decide) ?_
      refine lv_aload_n hx hb dX9_told_96 rfl (lv_at hl 0 rfl) ?_
      refine va_get (D := D) (ci := 9) (v := .ref xq6) (C := RX9) (T := TX9) (N := 17) hx hb hts iX9 hown hK hP 0 rfl rfl 4 (by decide) (hts _ wd_89) (fun _ h9 => h9) rfl dX9_told_97 ?_
      refine va_get (D := D) (ci := 8) (v := .int 0) (C := RX8) (T := TX8) (N := 10) hx hb hts iX8 hown hK hP 1 rfl rfl 3 (by decide) (hts _ wd_215) (fun _ h9 => h9) rfl dX9_told_100 ?_
      exact hret 0 () _ _ _ _ dX9_told_103 rfl (by decide +kernel) (cutP (isC := []) hP rfl) (cutD (isC := []) hD rfl rfl) hS
    · have hl : lv_has ls 2 [(0, .ref xh), (1, .int 4)] := hl
      refine lv_tableIn (off := 103) (tgt := 104) hx hb dX9_told_1 (by decide +kernel) (by decide +kernel) (by decide +kernel) (by decide) ?_
      refine lv_aload_n hx hb dX9_told_104 rfl (lv_at hl 0 rfl) ?_
      refine va_get (D := D) (ci := 9) (v := .ref xq6) (C := RX9) (T := TX9) (N := 17) hx hb hts iX9 hown hK hP 0 rfl rfl 4 (by decide) (hts _ wd_89) (fun _ h9 => h9) rfl dX9_told_105 ?_
      refine va_get (D := D) (ci := 8) (v := .int 0) (C := RX8) (T := TX8) (N := 10) hx hb hts iX8 hown hK hP 1 rfl rfl 4 (by decide) (hts _ wd_216) (fun _ h9 => h9) rfl dX9_told_108 ?_
      exact hret 0 () _ _ _ _ dX9_told_111 rfl (by decide +kernel) (cutP (isC := []) hP rfl) (cutD (isC := []) hD rfl rfl) hS
    · have hl : lv_has ls 2 [(0, .ref xh), (1, .int 5)] := hl
      refine lv_tableIn (off := 111) (tgt := 112) hx hb dX9_told_1 (by decide +kernel) (by decide +kernel) (by decide +kernel) (by decide) ?_
      refine lv_aload_n hx hb dX9_told_112 rfl (lv_at hl 0 rfl) ?_
      refine va_get (D := D) (ci := 9) (v := .int 0) (C := RX9) (T := TX9) (N := 17) hx hb hts iX9 hown hK hP 0 rfl rfl 1 (by decide) (hts _ wd_76) (fun _ h9 => h9) rfl dX9_told_113 ?_
      exact hret 0 () _ _ _ _ dX9_told_116 rfl (by decide +kernel) (cutP (isC := []) hP rfl) (cutD (isC := []) hD rfl rfl) hS
    · have hl : lv_has ls 2 [(0, .ref xh), (1, .int 6)] := hl
      refine lv_tableIn (off := 116) (tgt := 117) hx hb dX9_told_1 (by decide +kernel) (by decide +kernel) (by decide +kernel) (by decide) ?_
      refine lv_aload_n hx hb dX9_told_117 rfl (lv_at hl 0 rfl) ?_
      refine va_get (D := D) (ci := 9) (v := .ref xq22) (C := RX9) (T := TX9) (N := 17) hx hb hts iX9 hown hK hP 0 rfl rfl 6 (by decide) (hts _ wd_96) (fun _ h9 => h9) rfl dX9_told_118 ?_
      refine cVi (wr := [(xh, .inr (9, [.ref xq1, .int 0, .int (-1), .ref xq2, .ref xq6, .ref xq14, .ref xq22, .ref xq26, .ref xq31, .ref xq35, .int 0, .ref xq36, .int 0, .ref xq41, .ref xq44, .ref xq50, .ref xq59])), (xq6, .inr (8, [.int 0, .int 1, .int 0, .int 0, .int 0, .ref xq9, .ref xq10, .ref xq11, .ref xq12, .ref xq13])), (xq36, .inr (0, [.int 0, .ref xq39, .ref xq40])), (xq26, .inr (2, [.ref xq29, .int 0, .int 0]))]) (rest := []) (k_minutes xq22 xu23 (cB2 z0 7)) okV_X7_minutes wd_217 hx hb hml hown hts hK hP hD hS hA hN hl.1 [2, 3] [0, 1, 4, 5] rfl rfl rfl rfl (by decide) rfl rfl rfl (Nat.le_of_ble_eq_true rfl) (Nat.le_of_ble_eq_true rfl) (Nat.le_of_ble_eq_true rfl) (Nat.le_of_ble_eq_true rfl) (Nat.le_of_ble_eq_true rfl) dX9_told_121 (fun r_3 u_2 H locs hw_u_2 hP hD hS => ?_)
      obtain rfl := hw_u_2
      have hP : va_P D classes [(xh, .inr (9, [.ref xq1, .int 0, .int (-1), .ref xq2, .ref xq6, .ref xq14, .ref xq22, .ref xq26, .ref xq31, .ref xq35, .int 0, .ref xq36, .int 0, .ref xq41, .ref xq44, .ref xq50, .ref xq59])), (xq6, .inr (8, [.int 0, .int 1, .int 0, .int 0, .int 0, .ref xq9, .ref xq10, .ref xq11, .ref xq12, .ref xq13])), (xq36, .inr (0, [.int 0, .ref xq39, .ref xq40])), (xq26, .inr (2, [.ref xq29, .int 0, .int 0])), (xq22, .inr (7, [.ref xu23])), (xu23, .inl (cI, 41, .inl (cB2 z0 7)))] H := hP
      have hD : va_D A [(xh, .inr (9, [.ref xq1, .int 0, .int (-1), .ref xq2, .ref xq6, .ref xq14, .ref xq22, .ref xq26, .ref xq31, .ref xq35, .int 0, .ref xq36, .int 0, .ref xq41, .ref xq44, .ref xq50, .ref xq59])), (xq6, .inr (8, [.int 0, .int 1, .int 0, .int 0, .int 0, .ref xq9, .ref xq10, .ref xq11, .ref xq12, .ref xq13])), (xq36, .inr (0, [.int 0, .ref xq39, .ref xq40])), (xq26, .inr (2, [.ref xq29, .int 0, .int 0])), (xq22, .inr (7, [.ref xu23])), (xu23, .inl (cI, 41, .inl (cB2 z0 7)))] := hD
      refine lv_topi (fun z_4 ez_4 => ?_)
      obtain rfl : z_4 = 0 := ez_4.trans (by decide +kernel)
      exact hret 0 () _ _ _ _ dX9_told_124 rfl (by decide +kernel) (cutP (isC := []) hP rfl) (cutD (isC := []) hD rfl rfl) hS
    · have hl : lv_has ls 2 [(0, .ref xh), (1, .int 7)] := hl
      refine lv_tableIn (off := 124) (tgt := 125) hx hb dX9_told_1 (by decide +kernel) (by decide +kernel) (by decide +kernel) (by decide) ?_
      refine lv_aload_n hx hb dX9_told_125 rfl (lv_at hl 0 rfl) ?_
      refine va_get (D := D) (ci := 9) (v := .ref xq22) (C := RX9) (T := TX9) (N := 17) hx hb hts iX9 hown hK hP 0 rfl rfl 6 (by decide) (hts _ wd_96) (fun _ h9 => h9) rfl dX9_told_126 ?_
      refine cVi (wr := [(xh, .inr (9, [.ref xq1, .int 0, .int (-1), .ref xq2, .ref xq6, .ref xq14, .ref xq22, .ref xq26, .ref xq31, .ref xq35, .int 0, .ref xq36, .int 0, .ref xq41, .ref xq44, .ref xq50, .ref xq59])), (xq6, .inr (8, [.int 0, .int 1, .int 0, .int 0, .int 0, .ref xq9, .ref xq10, .ref xq11, .ref xq12, .ref xq13])), (xq36, .inr (0, [.int 0, .ref xq39, .ref xq40])), (xq26, .inr (2, [.ref xq29, .int 0, .int 0]))]) (rest := []) (k_reconciledSet xq22 xu23 (cB2 z0 7)) okV_X7_reconciledSet wd_218 hx hb hml hown hts hK hP hD hS hA hN hl.1 [2, 3] [0, 1, 4, 5] rfl rfl rfl rfl (by decide) rfl rfl rfl (Nat.le_of_ble_eq_true rfl) (Nat.le_of_ble_eq_true rfl) (Nat.le_of_ble_eq_true rfl) (Nat.le_of_ble_eq_true rfl) (Nat.le_of_ble_eq_true rfl) dX9_told_129 (fun r_6 u_5 H locs hw_u_5 hP hD hS => ?_)
      obtain rfl := hw_u_5
      have hP : va_P D classes [(xh, .inr (9, [.ref xq1, .int 0, .int (-1), .ref xq2, .ref xq6, .ref xq14, .ref xq22, .ref xq26, .ref xq31, .ref xq35, .int 0, .ref xq36, .int 0, .ref xq41, .ref xq44, .ref xq50, .ref xq59])), (xq6, .inr (8, [.int 0, .int 1, .int 0, .int 0, .int 0, .ref xq9, .ref xq10, .ref xq11, .ref xq12, .ref xq13])), (xq36, .inr (0, [.int 0, .ref xq39, .ref xq40])), (xq26, .inr (2, [.ref xq29, .int 0, .int 0])), (xq22, .inr (7, [.ref xu23])), (xu23, .inl (cI, 41, .inl (cB2 z0 7)))] H := hP
      have hD : va_D A [(xh, .inr (9, [.ref xq1, .int 0, .int (-1), .ref xq2, .ref xq6, .ref xq14, .ref xq22, .ref xq26, .ref xq31, .ref xq35, .int 0, .ref xq36, .int 0, .ref xq41, .ref xq44, .ref xq50, .ref xq59])), (xq6, .inr (8, [.int 0, .int 1, .int 0, .int 0, .int 0, .ref xq9, .ref xq10, .ref xq11, .ref xq12, .ref xq13])), (xq36, .inr (0, [.int 0, .ref xq39, .ref xq40])), (xq26, .inr (2, [.ref xq29, .int 0, .int 0])), (xq22, .inr (7, [.ref xu23])), (xu23, .inl (cI, 41, .inl (cB2 z0 7)))] := hD
      refine lv_topi (fun z_7 ez_7 => ?_)
      obtain rfl : z_7 = 0 := ez_7.trans (by decide +kernel)
      exact hret 0 () _ _ _ _ dX9_told_132 rfl (by decide +kernel) (cutP (isC := []) hP rfl) (cutD (isC := []) hD rfl rfl) hS
    · have hl : lv_has ls 2 [(0, .ref xh), (1, .int 8)] := hl
      refine lv_tableIn (off := 132) (tgt := 133) hx hb dX9_told_1 (by decide +kernel) (by decide +kernel) (by decide +kernel) (by decide) ?_
      refine lv_aload_n hx hb dX9_told_133 rfl (lv_at hl 0 rfl) ?_
      refine va_get (D := D) (ci := 9) (v := .ref xq22) (C := RX9) (T := TX9) (N := 17) hx hb hts iX9 hown hK hP 0 rfl rfl 6 (by decide) (hts _ wd_96) (fun _ h9 => h9) rfl dX9_told_134 ?_
      refine lv_iconst (v := 1) hx hb dX9_told_137 (by decide) ?_
      refine cVi (wr := [(xh, .inr (9, [.ref xq1, .int 0, .int (-1), .ref xq2, .ref xq6, .ref xq14, .ref xq22, .ref xq26, .ref xq31, .ref xq35, .int 0, .ref xq36, .int 0, .ref xq41, .ref xq44, .ref xq50, .ref xq59])), (xq6, .inr (8, [.int 0, .int 1, .int 0, .int 0, .int 0, .ref xq9, .ref xq10, .ref xq11, .ref xq12, .ref xq13])), (xq36, .inr (0, [.int 0, .ref xq39, .ref xq40])), (xq26, .inr (2, [.ref xq29, .int 0, .int 0]))]) (rest := []) (k_bargesOfFate1 xq22 xu23) okV_X7_bargesOfFate wd_222 hx hb hml hown hts hK hP hD hS hA hN hl.1 [2, 3] [0, 1, 4, 5] rfl rfl rfl rfl (by decide) rfl rfl rfl (Nat.le_of_ble_eq_true rfl) (Nat.le_of_ble_eq_true rfl) (Nat.le_of_ble_eq_true rfl) (Nat.le_of_ble_eq_true rfl) (Nat.le_of_ble_eq_true rfl) dX9_told_138 (fun r_9 u_8 H locs hw_u_8 hP hD hS => ?_)
      obtain rfl := hw_u_8
      have hP : va_P D classes [(xh, .inr (9, [.ref xq1, .int 0, .int (-1), .ref xq2, .ref xq6, .ref xq14, .ref xq22, .ref xq26, .ref xq31, .ref xq35, .int 0, .ref xq36, .int 0, .ref xq41, .ref xq44, .ref xq50, .ref xq59])), (xq6, .inr (8, [.int 0, .int 1, .int 0, .int 0, .int 0, .ref xq9, .ref xq10, .ref xq11, .ref xq12, .ref xq13])), (xq36, .inr (0, [.int 0, .ref xq39, .ref xq40])), (xq26, .inr (2, [.ref xq29, .int 0, .int 0])), (xq22, .inr (7, [.ref xu23])), (xu23, .inl (cI, 41, .inl (cB2 z0 7)))] H := hP
      have hD : va_D A [(xh, .inr (9, [.ref xq1, .int 0, .int (-1), .ref xq2, .ref xq6, .ref xq14, .ref xq22, .ref xq26, .ref xq31, .ref xq35, .int 0, .ref xq36, .int 0, .ref xq41, .ref xq44, .ref xq50, .ref xq59])), (xq6, .inr (8, [.int 0, .int 1, .int 0, .int 0, .int 0, .ref xq9, .ref xq10, .ref xq11, .ref xq12, .ref xq13])), (xq36, .inr (0, [.int 0, .ref xq39, .ref xq40])), (xq26, .inr (2, [.ref xq29, .int 0, .int 0])), (xq22, .inr (7, [.ref xu23])), (xu23, .inl (cI, 41, .inl (cB2 z0 7)))] := hD
      exact hret 0 () _ _ _ _ dX9_told_141 rfl (by decide +kernel) (cutP (isC := []) hP rfl) (cutD (isC := []) hD rfl rfl) hS
    · have hl : lv_has ls 2 [(0, .ref xh), (1, .int 9)] := hl
      refine lv_tableIn (off := 141) (tgt := 142) hx hb dX9_told_1 (by decide +kernel) (by decide +kernel) (by decide +kernel) (by decide) ?_
      refine lv_aload_n hx hb dX9_told_142 rfl (lv_at hl 0 rfl) ?_
      refine va_get (D := D) (ci := 9) (v := .ref xq22) (C := RX9) (T := TX9) (N := 17) hx hb hts iX9 hown hK hP 0 rfl rfl 6 (by decide) (hts _ wd_96) (fun _ h9 => h9) rfl dX9_told_143 ?_
      refine lv_iconst (v := 2) hx hb dX9_told_146 (by decide) ?_
      refine cVi (wr := [(xh, .inr (9, [.ref xq1, .int 0, .int (-1), .ref xq2, .ref xq6, .ref xq14, .ref xq22, .ref xq26, .ref xq31, .ref xq35, .int 0, .ref xq36, .int 0, .ref xq41, .ref xq44, .ref xq50, .ref xq59])), (xq6, .inr (8, [.int 0, .int 1, .int 0, .int 0, .int 0, .ref xq9, .ref xq10, .ref xq11, .ref xq12, .ref xq13])), (xq36, .inr (0, [.int 0, .ref xq39, .ref xq40])), (xq26, .inr (2, [.ref xq29, .int 0, .int 0]))]) (rest := []) (k_bargesOfFate2 xq22 xu23) okV_X7_bargesOfFate wd_222 hx hb hml hown hts hK hP hD hS hA hN hl.1 [2, 3] [0, 1, 4, 5] rfl rfl rfl rfl (by decide) rfl rfl rfl (Nat.le_of_ble_eq_true rfl) (Nat.le_of_ble_eq_true rfl) (Nat.le_of_ble_eq_true rfl) (Nat.le_of_ble_eq_true rfl) (Nat.le_of_ble_eq_true rfl) dX9_told_147 (fun r_11 u_10 H locs hw_u_10 hP hD hS => ?_)
      obtain rfl := hw_u_10
      have hP : va_P D classes [(xh, .inr (9, [.ref xq1, .int 0, .int (-1), .ref xq2, .ref xq6, .ref xq14, .ref xq22, .ref xq26, .ref xq31, .ref xq35, .int 0, .ref xq36, .int 0, .ref xq41, .ref xq44, .ref xq50, .ref xq59])), (xq6, .inr (8, [.int 0, .int 1, .int 0, .int 0, .int 0, .ref xq9, .ref xq10, .ref xq11, .ref xq12, .ref xq13])), (xq36, .inr (0, [.int 0, .ref xq39, .ref xq40])), (xq26, .inr (2, [.ref xq29, .int 0, .int 0])), (xq22, .inr (7, [.ref xu23])), (xu23, .inl (cI, 41, .inl (cB2 z0 7)))] H := hP
      have hD : va_D A [(xh, .inr (9, [.ref xq1, .int 0, .int (-1), .ref xq2, .ref xq6, .ref xq14, .ref xq22, .ref xq26, .ref xq31, .ref xq35, .int 0, .ref xq36, .int 0, .ref xq41, .ref xq44, .ref xq50, .ref xq59])), (xq6, .inr (8, [.int 0, .int 1, .int 0, .int 0, .int 0, .ref xq9, .ref xq10, .ref xq11, .ref xq12, .ref xq13])), (xq36, .inr (0, [.int 0, .ref xq39, .ref xq40])), (xq26, .inr (2, [.ref xq29, .int 0, .int 0])), (xq22, .inr (7, [.ref xu23])), (xu23, .inl (cI, 41, .inl (cB2 z0 7)))] := hD
      exact hret 0 () _ _ _ _ dX9_told_150 rfl (by decide +kernel) (cutP (isC := []) hP rfl) (cutD (isC := []) hD rfl rfl) hS
    · have hl : lv_has ls 2 [(0, .ref xh), (1, .int 10)] := hl
      refine lv_tableIn (off := 150) (tgt := 151) hx hb dX9_told_1 (by decide +kernel) (by decide +kernel) (by decide +kernel) (by decide) ?_
      refine lv_aload_n hx hb dX9_told_151 rfl (lv_at hl 0 rfl) ?_
      refine va_get (D := D) (ci := 9) (v := .ref xq22) (C := RX9) (T := TX9) (N := 17) hx hb hts iX9 hown hK hP 0 rfl rfl 6 (by decide) (hts _ wd_96) (fun _ h9 => h9) rfl dX9_told_152 ?_
      refine lv_iconst (v := 3) hx hb dX9_told_155 (by decide) ?_
      refine cVi (wr := [(xh, .inr (9, [.ref xq1, .int 0, .int (-1), .ref xq2, .ref xq6, .ref xq14, .ref xq22, .ref xq26, .ref xq31, .ref xq35, .int 0, .ref xq36, .int 0, .ref xq41, .ref xq44, .ref xq50, .ref xq59])), (xq6, .inr (8, [.int 0, .int 1, .int 0, .int 0, .int 0, .ref xq9, .ref xq10, .ref xq11, .ref xq12, .ref xq13])), (xq36, .inr (0, [.int 0, .ref xq39, .ref xq40])), (xq26, .inr (2, [.ref xq29, .int 0, .int 0]))]) (rest := []) (k_bargesOfFate3 xq22 xu23) okV_X7_bargesOfFate wd_222 hx hb hml hown hts hK hP hD hS hA hN hl.1 [2, 3] [0, 1, 4, 5] rfl rfl rfl rfl (by decide) rfl rfl rfl (Nat.le_of_ble_eq_true rfl) (Nat.le_of_ble_eq_true rfl) (Nat.le_of_ble_eq_true rfl) (Nat.le_of_ble_eq_true rfl) (Nat.le_of_ble_eq_true rfl) dX9_told_156 (fun r_13 u_12 H locs hw_u_12 hP hD hS => ?_)
      obtain rfl := hw_u_12
      have hP : va_P D classes [(xh, .inr (9, [.ref xq1, .int 0, .int (-1), .ref xq2, .ref xq6, .ref xq14, .ref xq22, .ref xq26, .ref xq31, .ref xq35, .int 0, .ref xq36, .int 0, .ref xq41, .ref xq44, .ref xq50, .ref xq59])), (xq6, .inr (8, [.int 0, .int 1, .int 0, .int 0, .int 0, .ref xq9, .ref xq10, .ref xq11, .ref xq12, .ref xq13])), (xq36, .inr (0, [.int 0, .ref xq39, .ref xq40])), (xq26, .inr (2, [.ref xq29, .int 0, .int 0])), (xq22, .inr (7, [.ref xu23])), (xu23, .inl (cI, 41, .inl (cB2 z0 7)))] H := hP
      have hD : va_D A [(xh, .inr (9, [.ref xq1, .int 0, .int (-1), .ref xq2, .ref xq6, .ref xq14, .ref xq22, .ref xq26, .ref xq31, .ref xq35, .int 0, .ref xq36, .int 0, .ref xq41, .ref xq44, .ref xq50, .ref xq59])), (xq6, .inr (8, [.int 0, .int 1, .int 0, .int 0, .int 0, .ref xq9, .ref xq10, .ref xq11, .ref xq12, .ref xq13])), (xq36, .inr (0, [.int 0, .ref xq39, .ref xq40])), (xq26, .inr (2, [.ref xq29, .int 0, .int 0])), (xq22, .inr (7, [.ref xu23])), (xu23, .inl (cI, 41, .inl (cB2 z0 7)))] := hD
      exact hret 0 () _ _ _ _ dX9_told_159 rfl (by decide +kernel) (cutP (isC := []) hP rfl) (cutD (isC := []) hD rfl rfl) hS
    · have hl : lv_has ls 2 [(0, .ref xh), (1, .int 11)] := hl
      refine lv_tableIn (off := 159) (tgt := 160) hx hb dX9_told_1 (by decide +kernel) (by decide +kernel) (by decide +kernel) (by decide) ?_
      refine lv_aload_n hx hb dX9_told_160 rfl (lv_at hl 0 rfl) ?_
      refine va_get (D := D) (ci := 9) (v := .ref xq22) (C := RX9) (T := TX9) (N := 17) hx hb hts iX9 hown hK hP 0 rfl rfl 6 (by decide) (hts _ wd_96) (fun _ h9 => h9) rfl dX9_told_161 ?_
      refine cVi (wr := [(xh, .inr (9, [.ref xq1, .int 0, .int (-1), .ref xq2, .ref xq6, .ref xq14, .ref xq22, .ref xq26, .ref xq31, .ref xq35, .int 0, .ref xq36, .int 0, .ref xq41, .ref xq44, .ref xq50, .ref xq59])), (xq6, .inr (8, [.int 0, .int 1, .int 0, .int 0, .int 0, .ref xq9, .ref xq10, .ref xq11, .ref xq12, .ref xq13])), (xq36, .inr (0, [.int 0, .ref xq39, .ref xq40])), (xq26, .inr (2, [.ref xq29, .int 0, .int 0]))]) (rest := []) (k_grievanceOfAll xq22 xu23) okV_X7_grievanceOfAll wd_223 hx hb hml hown hts hK hP hD hS hA hN hl.1 [2, 3] [0, 1, 4, 5] rfl rfl rfl rfl (by decide) rfl rfl rfl (Nat.le_of_ble_eq_true rfl) (Nat.le_of_ble_eq_true rfl) (Nat.le_of_ble_eq_true rfl) (Nat.le_of_ble_eq_true rfl) (Nat.le_of_ble_eq_true rfl) dX9_told_164 (fun r_15 u_14 H locs hw_u_14 hP hD hS => ?_)
      obtain rfl := hw_u_14
      have hP : va_P D classes [(xh, .inr (9, [.ref xq1, .int 0, .int (-1), .ref xq2, .ref xq6, .ref xq14, .ref xq22, .ref xq26, .ref xq31, .ref xq35, .int 0, .ref xq36, .int 0, .ref xq41, .ref xq44, .ref xq50, .ref xq59])), (xq6, .inr (8, [.int 0, .int 1, .int 0, .int 0, .int 0, .ref xq9, .ref xq10, .ref xq11, .ref xq12, .ref xq13])), (xq36, .inr (0, [.int 0, .ref xq39, .ref xq40])), (xq26, .inr (2, [.ref xq29, .int 0, .int 0])), (xq22, .inr (7, [.ref xu23])), (xu23, .inl (cI, 41, .inl (cB2 z0 7)))] H := hP
      have hD : va_D A [(xh, .inr (9, [.ref xq1, .int 0, .int (-1), .ref xq2, .ref xq6, .ref xq14, .ref xq22, .ref xq26, .ref xq31, .ref xq35, .int 0, .ref xq36, .int 0, .ref xq41, .ref xq44, .ref xq50, .ref xq59])), (xq6, .inr (8, [.int 0, .int 1, .int 0, .int 0, .int 0, .ref xq9, .ref xq10, .ref xq11, .ref xq12, .ref xq13])), (xq36, .inr (0, [.int 0, .ref xq39, .ref xq40])), (xq26, .inr (2, [.ref xq29, .int 0, .int 0])), (xq22, .inr (7, [.ref xu23])), (xu23, .inl (cI, 41, .inl (cB2 z0 7)))] := hD
      exact hret 0 () _ _ _ _ dX9_told_167 rfl (by decide +kernel) (cutP (isC := []) hP rfl) (cutD (isC := []) hD rfl rfl) hS
    · have hl : lv_has ls 2 [(0, .ref xh), (1, .int 12)] := hl
      refine lv_tableIn (off := 167) (tgt := 168) hx hb dX9_told_1 (by decide +kernel) (by decide +kernel) (by decide +kernel) (by decide) ?_
      refine lv_aload_n hx hb dX9_told_168 rfl (lv_at hl 0 rfl) ?_
      refine va_get (D := D) (ci := 9) (v := .ref xq36) (C := RX9) (T := TX9) (N := 17) hx hb hts iX9 hown hK hP 0 rfl rfl 11 (by decide) (hts _ wd_113) (fun _ h9 => h9) rfl dX9_told_169 ?_
      refine va_get (D := D) (ci := 0) (v := .int 0) (C := RX0) (T := TX0) (N := 3) hx hb hts iX0 hown hK hP 4 rfl rfl 0 (by decide) (hts _ wd_227) (fun _ h9 => h9) rfl dX9_told_172 ?_
      exact hret 0 () _ _ _ _ dX9_told_175 rfl (by decide +kernel) (cutP (isC := []) hP rfl) (cutD (isC := []) hD rfl rfl) hS
    · have hl : lv_has ls 2 [(0, .ref xh), (1, .int 13)] := hl
      refine lv_tableIn (off := 175) (tgt := 176) hx hb dX9_told_1 (by decide +kernel) (by decide +kernel) (by decide +kernel) (by decide) ?_
      refine lv_aload_n hx hb dX9_told_176 rfl (lv_at hl 0 rfl) ?_
      refine va_get (D := D) (ci := 9) (v := .ref xq26) (C := RX9) (T := TX9) (N := 17) hx hb hts iX9 hown hK hP 0 rfl rfl 7 (by decide) (hts _ wd_102) (fun _ h9 => h9) rfl dX9_told_177 ?_
      refine va_get (D := D) (ci := 2) (v := .int 0) (C := RX2) (T := TX2) (N := 3) hx hb hts iX2 hown hK hP 5 rfl rfl 2 (by decide) (hts _ wd_228) (fun _ h9 => h9) rfl dX9_told_180 ?_
      exact hret 0 () _ _ _ _ dX9_told_183 rfl (by decide +kernel) (cutP (isC := []) hP rfl) (cutD (isC := []) hD rfl rfl) hS
def rm_k_x_bridge : Room := { frames := 1, cells := 0, slots := 0, locals := 21 }
set_option maxHeartbeats 4000000 in
set_option maxRecDepth 100000 in
theorem k_x_bridge {l : Launch} {D : va_G} {cI cZ : ClassId} {sz : Nat} (xh xq1 xq2 xq6 xq14 xq22 xq26 xq31 xq35 xq36 xq41 xq44 xq50 xq59 xq9 xq10 xq11 xq12 xq13 : Nat) (v1 v2 : Int32) : KI l yX9_bridge cX9_bridge 3 (some .int) rm_k_x_bridge D cI cZ [.ref xh, .int v1, .int v2] sz [(xh, .inr (9, [.ref xq1, .int 0, .int (-1), .ref xq2, .ref xq6, .ref xq14, .ref xq22, .ref xq26, .ref xq31, .ref xq35, .int 0, .ref xq36, .int 0, .ref xq41, .ref xq44, .ref xq50, .ref xq59])), (xq6, .inr (8, [.int 0, .int 1, .int 0, .int 0, .int 0, .ref xq9, .ref xq10, .ref xq11, .ref xq12, .ref xq13]))] (fun (r : Int32) (_ : Unit) => r = (-1000000001)) (fun (_ : Unit) => []) := by
  refine KI.go rfl (Nat.le_of_ble_eq_true rfl) ?_
  intro p e s m args below meth c ls A Q hx hb hml hts hown hin hP hK hD hS hA hN hl hret
  have hl : lv_has ls 3 [(0, .ref xh), (1, .int v1), (2, .int v2)] := hl
  refine lv_aload_n hx hb dX9_bridge_0 rfl (lv_at hl 0 rfl) ?_
  refine va_get (D := D) (ci := 9) (v := .ref xq6) (C := RX9) (T := TX9) (N := 17) hx hb hts iX9 hown hK hP 0 rfl rfl 4 (by decide) (hts _ wd_89) (fun _ h9 => h9) rfl dX9_bridge_1 ?_
  refine lv_iload_n hx hb dX9_bridge_4 rfl (lv_at hl 1 rfl) ?_
  refine cVi (wr := [(xh, .inr (9, [.ref xq1, .int 0, .int (-1), .ref xq2, .ref xq6, .ref xq14, .ref xq22, .ref xq26, .ref xq31, .ref xq35, .int 0, .ref xq36, .int 0, .ref xq41, .ref xq44, .ref xq50, .ref xq59]))]) (rest := []) (k_hasBridge xq6 0 1 0 0 0 xq9 xq10 xq11 xq12 xq13 v1) okV_X8_hasBridge wd_229 hx hb hml hown hts hK hP hD hS hA hN hl.1 [1] [0] rfl rfl rfl rfl (by decide) rfl rfl rfl (Nat.le_of_ble_eq_true rfl) (Nat.le_of_ble_eq_true rfl) (Nat.le_of_ble_eq_true rfl) (Nat.le_of_ble_eq_true rfl) (Nat.le_of_ble_eq_true rfl) dX9_bridge_5 (fun r_2 u_1 H locs hw_u_1 hP hD hS => ?_)
  obtain rfl := hw_u_1
  have hP : va_P D classes [(xh, .inr (9, [.ref xq1, .int 0, .int (-1), .ref xq2, .ref xq6, .ref xq14, .ref xq22, .ref xq26, .ref xq31, .ref xq35, .int 0, .ref xq36, .int 0, .ref xq41, .ref xq44, .ref xq50, .ref xq59])), (xq6, .inr (8, [.int 0, .int 1, .int 0, .int 0, .int 0, .ref xq9, .ref xq10, .ref xq11, .ref xq12, .ref xq13]))] H := hP
  have hD : va_D A [(xh, .inr (9, [.ref xq1, .int 0, .int (-1), .ref xq2, .ref xq6, .ref xq14, .ref xq22, .ref xq26, .ref xq31, .ref xq35, .int 0, .ref xq36, .int 0, .ref xq41, .ref xq44, .ref xq50, .ref xq59])), (xq6, .inr (8, [.int 0, .int 1, .int 0, .int 0, .int 0, .ref xq9, .ref xq10, .ref xq11, .ref xq12, .ref xq13]))] := hD
  refine lv_topi (fun z_3 ez_3 => ?_)
  obtain rfl : z_3 = 0 := ez_3.trans (hasF0 _)
  refine lv_if_ne (tgt := 14) hx hb dX9_bridge_8 (by decide) (fun c_4 => absurd (by decide +kernel) c_4) (fun c_4 => ?_)
  refine lv_ldc (v := (-1000000001)) hx hb hown (hts _ wd_233) dX9_bridge_11 ?_
  exact hret (-1000000001) () _ _ _ _ dX9_bridge_13 rfl rfl (cutP (isC := []) hP rfl) (cutD (isC := []) hD rfl rfl) hS
def rm_k_x_couple : Room := { frames := 1, cells := 0, slots := 0, locals := 21 }
set_option maxHeartbeats 4000000 in
set_option maxRecDepth 100000 in
theorem k_x_couple {l : Launch} {D : va_G} {cI cZ : ClassId} {sz : Nat} (xh xq1 xq2 xq6 xq14 xq22 xq26 xq31 xq35 xq36 xq41 xq44 xq50 xq59 xq9 xq10 xq11 xq12 xq13 : Nat) (v1 v2 : Int32) : KI l yX9_couple cX9_couple 3 (some .int) rm_k_x_couple D cI cZ [.ref xh, .int v1, .int v2] sz [(xh, .inr (9, [.ref xq1, .int 0, .int (-1), .ref xq2, .ref xq6, .ref xq14, .ref xq22, .ref xq26, .ref xq31, .ref xq35, .int 0, .ref xq36, .int 0, .ref xq41, .ref xq44, .ref xq50, .ref xq59])), (xq6, .inr (8, [.int 0, .int 1, .int 0, .int 0, .int 0, .ref xq9, .ref xq10, .ref xq11, .ref xq12, .ref xq13]))] (fun (r : Int32) (_ : Unit) => r = (-1000000001)) (fun (_ : Unit) => []) := by
  refine KI.go rfl (Nat.le_of_ble_eq_true rfl) ?_
  intro p e s m args below meth c ls A Q hx hb hml hts hown hin hP hK hD hS hA hN hl hret
  have hl : lv_has ls 3 [(0, .ref xh), (1, .int v1), (2, .int v2)] := hl
  refine lv_aload_n hx hb dX9_couple_0 rfl (lv_at hl 0 rfl) ?_
  refine va_get (D := D) (ci := 9) (v := .ref xq6) (C := RX9) (T := TX9) (N := 17) hx hb hts iX9 hown hK hP 0 rfl rfl 4 (by decide) (hts _ wd_89) (fun _ h9 => h9) rfl dX9_couple_1 ?_
  refine lv_iload_n hx hb dX9_couple_4 rfl (lv_at hl 1 rfl) ?_
  refine cVi (wr := [(xh, .inr (9, [.ref xq1, .int 0, .int (-1), .ref xq2, .ref xq6, .ref xq14, .ref xq22, .ref xq26, .ref xq31, .ref xq35, .int 0, .ref xq36, .int 0, .ref xq41, .ref xq44, .ref xq50, .ref xq59]))]) (rest := []) (k_hasCouple xq6 0 1 0 0 0 xq9 xq10 xq11 xq12 xq13 v1) okV_X8_hasCouple wd_234 hx hb hml hown hts hK hP hD hS hA hN hl.1 [1] [0] rfl rfl rfl rfl (by decide) rfl rfl rfl (Nat.le_of_ble_eq_true rfl) (Nat.le_of_ble_eq_true rfl) (Nat.le_of_ble_eq_true rfl) (Nat.le_of_ble_eq_true rfl) (Nat.le_of_ble_eq_true rfl) dX9_couple_5 (fun r_2 u_1 H locs hw_u_1 hP hD hS => ?_)
  obtain rfl := hw_u_1
  have hP : va_P D classes [(xh, .inr (9, [.ref xq1, .int 0, .int (-1), .ref xq2, .ref xq6, .ref xq14, .ref xq22, .ref xq26, .ref xq31, .ref xq35, .int 0, .ref xq36, .int 0, .ref xq41, .ref xq44, .ref xq50, .ref xq59])), (xq6, .inr (8, [.int 0, .int 1, .int 0, .int 0, .int 0, .ref xq9, .ref xq10, .ref xq11, .ref xq12, .ref xq13]))] H := hP
  have hD : va_D A [(xh, .inr (9, [.ref xq1, .int 0, .int (-1), .ref xq2, .ref xq6, .ref xq14, .ref xq22, .ref xq26, .ref xq31, .ref xq35, .int 0, .ref xq36, .int 0, .ref xq41, .ref xq44, .ref xq50, .ref xq59])), (xq6, .inr (8, [.int 0, .int 1, .int 0, .int 0, .int 0, .ref xq9, .ref xq10, .ref xq11, .ref xq12, .ref xq13]))] := hD
  refine lv_topi (fun z_3 ez_3 => ?_)
  obtain rfl : z_3 = 0 := ez_3.trans (hasF0 _)
  refine lv_if_ne (tgt := 14) hx hb dX9_couple_8 (by decide) (fun c_4 => absurd (by decide +kernel) c_4) (fun c_4 => ?_)
  refine lv_ldc (v := (-1000000001)) hx hb hown (hts _ wd_233) dX9_couple_11 ?_
  exact hret (-1000000001) () _ _ _ _ dX9_couple_13 rfl rfl (cutP (isC := []) hP rfl) (cutD (isC := []) hD rfl rfl) hS
def rm_k_x_force : Room := { frames := 1, cells := 0, slots := 0, locals := 21 }
set_option maxHeartbeats 4000000 in
set_option maxRecDepth 100000 in
theorem k_x_force {l : Launch} {D : va_G} {cI cZ : ClassId} {sz : Nat} (xh xq1 xq2 xq6 xq14 xq22 xq26 xq31 xq35 xq36 xq41 xq44 xq50 xq59 xq9 xq10 xq11 xq12 xq13 : Nat) (v1 v2 : Int32) : KI l yX9_force cX9_force 3 (some .int) rm_k_x_force D cI cZ [.ref xh, .int v1, .int v2] sz [(xh, .inr (9, [.ref xq1, .int 0, .int (-1), .ref xq2, .ref xq6, .ref xq14, .ref xq22, .ref xq26, .ref xq31, .ref xq35, .int 0, .ref xq36, .int 0, .ref xq41, .ref xq44, .ref xq50, .ref xq59])), (xq6, .inr (8, [.int 0, .int 1, .int 0, .int 0, .int 0, .ref xq9, .ref xq10, .ref xq11, .ref xq12, .ref xq13]))] (fun (r : Int32) (_ : Unit) => r = (-1000000001)) (fun (_ : Unit) => []) := by
  refine KI.go rfl (Nat.le_of_ble_eq_true rfl) ?_
  intro p e s m args below meth c ls A Q hx hb hml hts hown hin hP hK hD hS hA hN hl hret
  have hl : lv_has ls 3 [(0, .ref xh), (1, .int v1), (2, .int v2)] := hl
  refine lv_aload_n hx hb dX9_force_0 rfl (lv_at hl 0 rfl) ?_
  refine va_get (D := D) (ci := 9) (v := .ref xq6) (C := RX9) (T := TX9) (N := 17) hx hb hts iX9 hown hK hP 0 rfl rfl 4 (by decide) (hts _ wd_89) (fun _ h9 => h9) rfl dX9_force_1 ?_
  refine lv_iload_n hx hb dX9_force_4 rfl (lv_at hl 1 rfl) ?_
  refine cVi (wr := [(xh, .inr (9, [.ref xq1, .int 0, .int (-1), .ref xq2, .ref xq6, .ref xq14, .ref xq22, .ref xq26, .ref xq31, .ref xq35, .int 0, .ref xq36, .int 0, .ref xq41, .ref xq44, .ref xq50, .ref xq59]))]) (rest := []) (k_hasCouple xq6 0 1 0 0 0 xq9 xq10 xq11 xq12 xq13 v1) okV_X8_hasCouple wd_234 hx hb hml hown hts hK hP hD hS hA hN hl.1 [1] [0] rfl rfl rfl rfl (by decide) rfl rfl rfl (Nat.le_of_ble_eq_true rfl) (Nat.le_of_ble_eq_true rfl) (Nat.le_of_ble_eq_true rfl) (Nat.le_of_ble_eq_true rfl) (Nat.le_of_ble_eq_true rfl) dX9_force_5 (fun r_2 u_1 H locs hw_u_1 hP hD hS => ?_)
  obtain rfl := hw_u_1
  have hP : va_P D classes [(xh, .inr (9, [.ref xq1, .int 0, .int (-1), .ref xq2, .ref xq6, .ref xq14, .ref xq22, .ref xq26, .ref xq31, .ref xq35, .int 0, .ref xq36, .int 0, .ref xq41, .ref xq44, .ref xq50, .ref xq59])), (xq6, .inr (8, [.int 0, .int 1, .int 0, .int 0, .int 0, .ref xq9, .ref xq10, .ref xq11, .ref xq12, .ref xq13]))] H := hP
  have hD : va_D A [(xh, .inr (9, [.ref xq1, .int 0, .int (-1), .ref xq2, .ref xq6, .ref xq14, .ref xq22, .ref xq26, .ref xq31, .ref xq35, .int 0, .ref xq36, .int 0, .ref xq41, .ref xq44, .ref xq50, .ref xq59])), (xq6, .inr (8, [.int 0, .int 1, .int 0, .int 0, .int 0, .ref xq9, .ref xq10, .ref xq11, .ref xq12, .ref xq13]))] := hD
  refine lv_topi (fun z_3 ez_3 => ?_)
  obtain rfl : z_3 = 0 := ez_3.trans (hasF0 _)
  refine lv_if_eq (tgt := 22) hx hb dX9_force_8 (by decide) (fun c_4 => ?_) (fun c_4 => absurd (by decide +kernel) c_4)
  refine lv_ldc (v := (-1000000001)) hx hb hown (hts _ wd_233) dX9_force_22 ?_
  exact hret (-1000000001) () _ _ _ _ dX9_force_24 rfl rfl (cutP (isC := []) hP rfl) (cutD (isC := []) hD rfl rfl) hS
def rm_k_x_barge : Room := { frames := 1, cells := 0, slots := 0, locals := 21 }
set_option maxHeartbeats 4000000 in
set_option maxRecDepth 100000 in
theorem k_x_barge {l : Launch} {D : va_G} {cI cZ : ClassId} {sz : Nat} (xh xq1 xq2 xq6 xq14 xq22 xq26 xq31 xq35 xq36 xq41 xq44 xq50 xq59 xq9 xq10 xq11 xq12 xq13 : Nat) (v1 v2 : Int32) : KI l yX9_barge cX9_barge 3 (some .int) rm_k_x_barge D cI cZ [.ref xh, .int v1, .int v2] sz [(xh, .inr (9, [.ref xq1, .int 0, .int (-1), .ref xq2, .ref xq6, .ref xq14, .ref xq22, .ref xq26, .ref xq31, .ref xq35, .int 0, .ref xq36, .int 0, .ref xq41, .ref xq44, .ref xq50, .ref xq59])), (xq6, .inr (8, [.int 0, .int 1, .int 0, .int 0, .int 0, .ref xq9, .ref xq10, .ref xq11, .ref xq12, .ref xq13]))] (fun (r : Int32) (_ : Unit) => r = (-1000000001)) (fun (_ : Unit) => []) := by
  refine KI.go rfl (Nat.le_of_ble_eq_true rfl) ?_
  intro p e s m args below meth c ls A Q hx hb hml hts hown hin hP hK hD hS hA hN hl hret
  have hl : lv_has ls 3 [(0, .ref xh), (1, .int v1), (2, .int v2)] := hl
  refine lv_aload_n hx hb dX9_barge_0 rfl (lv_at hl 0 rfl) ?_
  refine va_get (D := D) (ci := 9) (v := .ref xq6) (C := RX9) (T := TX9) (N := 17) hx hb hts iX9 hown hK hP 0 rfl rfl 4 (by decide) (hts _ wd_89) (fun _ h9 => h9) rfl dX9_barge_1 ?_
  refine lv_iload_n hx hb dX9_barge_4 rfl (lv_at hl 1 rfl) ?_
  refine cVi (wr := [(xh, .inr (9, [.ref xq1, .int 0, .int (-1), .ref xq2, .ref xq6, .ref xq14, .ref xq22, .ref xq26, .ref xq31, .ref xq35, .int 0, .ref xq36, .int 0, .ref xq41, .ref xq44, .ref xq50, .ref xq59]))]) (rest := []) (k_hasBarge xq6 0 1 0 0 0 xq9 xq10 xq11 xq12 xq13 v1) okV_X8_hasBarge wd_238 hx hb hml hown hts hK hP hD hS hA hN hl.1 [1] [0] rfl rfl rfl rfl (by decide) rfl rfl rfl (Nat.le_of_ble_eq_true rfl) (Nat.le_of_ble_eq_true rfl) (Nat.le_of_ble_eq_true rfl) (Nat.le_of_ble_eq_true rfl) (Nat.le_of_ble_eq_true rfl) dX9_barge_5 (fun r_2 u_1 H locs hw_u_1 hP hD hS => ?_)
  obtain rfl := hw_u_1
  have hP : va_P D classes [(xh, .inr (9, [.ref xq1, .int 0, .int (-1), .ref xq2, .ref xq6, .ref xq14, .ref xq22, .ref xq26, .ref xq31, .ref xq35, .int 0, .ref xq36, .int 0, .ref xq41, .ref xq44, .ref xq50, .ref xq59])), (xq6, .inr (8, [.int 0, .int 1, .int 0, .int 0, .int 0, .ref xq9, .ref xq10, .ref xq11, .ref xq12, .ref xq13]))] H := hP
  have hD : va_D A [(xh, .inr (9, [.ref xq1, .int 0, .int (-1), .ref xq2, .ref xq6, .ref xq14, .ref xq22, .ref xq26, .ref xq31, .ref xq35, .int 0, .ref xq36, .int 0, .ref xq41, .ref xq44, .ref xq50, .ref xq59])), (xq6, .inr (8, [.int 0, .int 1, .int 0, .int 0, .int 0, .ref xq9, .ref xq10, .ref xq11, .ref xq12, .ref xq13]))] := hD
  refine lv_topi (fun z_3 ez_3 => ?_)
  obtain rfl : z_3 = 0 := ez_3.trans (hasF0 _)
  refine lv_if_ne (tgt := 14) hx hb dX9_barge_8 (by decide) (fun c_4 => absurd (by decide +kernel) c_4) (fun c_4 => ?_)
  refine lv_ldc (v := (-1000000001)) hx hb hown (hts _ wd_233) dX9_barge_11 ?_
  exact hret (-1000000001) () _ _ _ _ dX9_barge_13 rfl rfl (cutP (isC := []) hP rfl) (cutD (isC := []) hD rfl rfl) hS
def rm_k_x_send : Room := { frames := 1, cells := 0, slots := 0, locals := 21 }
set_option maxHeartbeats 4000000 in
set_option maxRecDepth 100000 in
theorem k_x_send {l : Launch} {D : va_G} {cI cZ : ClassId} {sz : Nat} (xh xq1 xq2 xq6 xq14 xq22 xq26 xq31 xq35 xq36 xq41 xq44 xq50 xq59 xq9 xq10 xq11 xq12 xq13 : Nat) (v1 v2 v3 : Int32) : KI l yX9_send cX9_send 6 (some .int) rm_k_x_send D cI cZ [.ref xh, .int v1, .int v2, .int v3] sz [(xh, .inr (9, [.ref xq1, .int 0, .int (-1), .ref xq2, .ref xq6, .ref xq14, .ref xq22, .ref xq26, .ref xq31, .ref xq35, .int 0, .ref xq36, .int 0, .ref xq41, .ref xq44, .ref xq50, .ref xq59])), (xq6, .inr (8, [.int 0, .int 1, .int 0, .int 0, .int 0, .ref xq9, .ref xq10, .ref xq11, .ref xq12, .ref xq13]))] (fun (r : Int32) (_ : Unit) => r = (-1000000001)) (fun (_ : Unit) => []) := by
  refine KI.go rfl (Nat.le_of_ble_eq_true rfl) ?_
  intro p e s m args below meth c ls A Q hx hb hml hts hown hin hP hK hD hS hA hN hl hret
  have hl : lv_has ls 6 [(0, .ref xh), (1, .int v1), (2, .int v2), (3, .int v3)] := hl
  refine lv_aload_n hx hb dX9_send_0 rfl (lv_at hl 0 rfl) ?_
  refine va_get (D := D) (ci := 9) (v := .ref xq6) (C := RX9) (T := TX9) (N := 17) hx hb hts iX9 hown hK hP 0 rfl rfl 4 (by decide) (hts _ wd_89) (fun _ h9 => h9) rfl dX9_send_1 ?_
  refine lv_iload_n hx hb dX9_send_4 rfl (lv_at hl 1 rfl) ?_
  refine cVi (wr := [(xh, .inr (9, [.ref xq1, .int 0, .int (-1), .ref xq2, .ref xq6, .ref xq14, .ref xq22, .ref xq26, .ref xq31, .ref xq35, .int 0, .ref xq36, .int 0, .ref xq41, .ref xq44, .ref xq50, .ref xq59]))]) (rest := []) (k_hasCouple xq6 0 1 0 0 0 xq9 xq10 xq11 xq12 xq13 v1) okV_X8_hasCouple wd_234 hx hb hml hown hts hK hP hD hS hA hN hl.1 [1] [0] rfl rfl rfl rfl (by decide) rfl rfl rfl (Nat.le_of_ble_eq_true rfl) (Nat.le_of_ble_eq_true rfl) (Nat.le_of_ble_eq_true rfl) (Nat.le_of_ble_eq_true rfl) (Nat.le_of_ble_eq_true rfl) dX9_send_5 (fun r_2 u_1 H locs hw_u_1 hP hD hS => ?_)
  obtain rfl := hw_u_1
  have hP : va_P D classes [(xh, .inr (9, [.ref xq1, .int 0, .int (-1), .ref xq2, .ref xq6, .ref xq14, .ref xq22, .ref xq26, .ref xq31, .ref xq35, .int 0, .ref xq36, .int 0, .ref xq41, .ref xq44, .ref xq50, .ref xq59])), (xq6, .inr (8, [.int 0, .int 1, .int 0, .int 0, .int 0, .ref xq9, .ref xq10, .ref xq11, .ref xq12, .ref xq13]))] H := hP
  have hD : va_D A [(xh, .inr (9, [.ref xq1, .int 0, .int (-1), .ref xq2, .ref xq6, .ref xq14, .ref xq22, .ref xq26, .ref xq31, .ref xq35, .int 0, .ref xq36, .int 0, .ref xq41, .ref xq44, .ref xq50, .ref xq59])), (xq6, .inr (8, [.int 0, .int 1, .int 0, .int 0, .int 0, .ref xq9, .ref xq10, .ref xq11, .ref xq12, .ref xq13]))] := hD
  refine lv_topi (fun z_3 ez_3 => ?_)
  obtain rfl : z_3 = 0 := ez_3.trans (hasF0 _)
  refine lv_if_eq (tgt := 33) hx hb dX9_send_8 (by decide) (fun c_4 => ?_) (fun c_4 => absurd (by decide +kernel) c_4)
  refine lv_ldc (v := (-1000000001)) hx hb hown (hts _ wd_233) dX9_send_33 ?_
  exact hret (-1000000001) () _ _ _ _ dX9_send_35 rfl rfl (cutP (isC := []) hP rfl) (cutD (isC := []) hD rfl rfl) hS
def rm_k_x_home : Room := { frames := 1, cells := 0, slots := 0, locals := 21 }
set_option maxHeartbeats 4000000 in
set_option maxRecDepth 100000 in
theorem k_x_home {l : Launch} {D : va_G} {cI cZ : ClassId} {sz : Nat} (xh xq1 xq2 xq6 xq14 xq22 xq26 xq31 xq35 xq36 xq41 xq44 xq50 xq59 xq9 xq10 xq11 xq12 xq13 : Nat) (v1 : Int32) : KI l yX9_home cX9_home 3 (some .int) rm_k_x_home D cI cZ [.ref xh, .int v1] sz [(xh, .inr (9, [.ref xq1, .int 0, .int (-1), .ref xq2, .ref xq6, .ref xq14, .ref xq22, .ref xq26, .ref xq31, .ref xq35, .int 0, .ref xq36, .int 0, .ref xq41, .ref xq44, .ref xq50, .ref xq59])), (xq6, .inr (8, [.int 0, .int 1, .int 0, .int 0, .int 0, .ref xq9, .ref xq10, .ref xq11, .ref xq12, .ref xq13]))] (fun (r : Int32) (_ : Unit) => r = (-1000000001)) (fun (_ : Unit) => []) := by
  refine KI.go rfl (Nat.le_of_ble_eq_true rfl) ?_
  intro p e s m args below meth c ls A Q hx hb hml hts hown hin hP hK hD hS hA hN hl hret
  have hl : lv_has ls 3 [(0, .ref xh), (1, .int v1)] := hl
  refine lv_aload_n hx hb dX9_home_0 rfl (lv_at hl 0 rfl) ?_
  refine va_get (D := D) (ci := 9) (v := .ref xq6) (C := RX9) (T := TX9) (N := 17) hx hb hts iX9 hown hK hP 0 rfl rfl 4 (by decide) (hts _ wd_89) (fun _ h9 => h9) rfl dX9_home_1 ?_
  refine lv_iload_n hx hb dX9_home_4 rfl (lv_at hl 1 rfl) ?_
  refine cVi (wr := [(xh, .inr (9, [.ref xq1, .int 0, .int (-1), .ref xq2, .ref xq6, .ref xq14, .ref xq22, .ref xq26, .ref xq31, .ref xq35, .int 0, .ref xq36, .int 0, .ref xq41, .ref xq44, .ref xq50, .ref xq59]))]) (rest := []) (k_hasCouple xq6 0 1 0 0 0 xq9 xq10 xq11 xq12 xq13 v1) okV_X8_hasCouple wd_234 hx hb hml hown hts hK hP hD hS hA hN hl.1 [1] [0] rfl rfl rfl rfl (by decide) rfl rfl rfl (Nat.le_of_ble_eq_true rfl) (Nat.le_of_ble_eq_true rfl) (Nat.le_of_ble_eq_true rfl) (Nat.le_of_ble_eq_true rfl) (Nat.le_of_ble_eq_true rfl) dX9_home_5 (fun r_2 u_1 H locs hw_u_1 hP hD hS => ?_)
  obtain rfl := hw_u_1
  have hP : va_P D classes [(xh, .inr (9, [.ref xq1, .int 0, .int (-1), .ref xq2, .ref xq6, .ref xq14, .ref xq22, .ref xq26, .ref xq31, .ref xq35, .int 0, .ref xq36, .int 0, .ref xq41, .ref xq44, .ref xq50, .ref xq59])), (xq6, .inr (8, [.int 0, .int 1, .int 0, .int 0, .int 0, .ref xq9, .ref xq10, .ref xq11, .ref xq12, .ref xq13]))] H := hP
  have hD : va_D A [(xh, .inr (9, [.ref xq1, .int 0, .int (-1), .ref xq2, .ref xq6, .ref xq14, .ref xq22, .ref xq26, .ref xq31, .ref xq35, .int 0, .ref xq36, .int 0, .ref xq41, .ref xq44, .ref xq50, .ref xq59])), (xq6, .inr (8, [.int 0, .int 1, .int 0, .int 0, .int 0, .ref xq9, .ref xq10, .ref xq11, .ref xq12, .ref xq13]))] := hD
  refine lv_topi (fun z_3 ez_3 => ?_)
  obtain rfl : z_3 = 0 := ez_3.trans (hasF0 _)
  refine lv_if_ne (tgt := 14) hx hb dX9_home_8 (by decide) (fun c_4 => absurd (by decide +kernel) c_4) (fun c_4 => ?_)
  refine lv_ldc (v := (-1000000001)) hx hb hown (hts _ wd_233) dX9_home_11 ?_
  exact hret (-1000000001) () _ _ _ _ dX9_home_13 rfl rfl (cutP (isC := []) hP rfl) (cutD (isC := []) hD rfl rfl) hS
def rm_k_x_pass : Room := { frames := 1, cells := 0, slots := 0, locals := 21 }
set_option maxHeartbeats 4000000 in
set_option maxRecDepth 100000 in
theorem k_x_pass {l : Launch} {D : va_G} {cI cZ : ClassId} {sz : Nat} (xh xq1 xq2 xq6 xq14 xq22 xq26 xq31 xq35 xq36 xq41 xq44 xq50 xq59 xq9 xq10 xq11 xq12 xq13 : Nat) (v1 : Int32) : KI l yX9_pass cX9_pass 4 (some .int) rm_k_x_pass D cI cZ [.ref xh, .int v1] sz [(xh, .inr (9, [.ref xq1, .int 0, .int (-1), .ref xq2, .ref xq6, .ref xq14, .ref xq22, .ref xq26, .ref xq31, .ref xq35, .int 0, .ref xq36, .int 0, .ref xq41, .ref xq44, .ref xq50, .ref xq59])), (xq6, .inr (8, [.int 0, .int 1, .int 0, .int 0, .int 0, .ref xq9, .ref xq10, .ref xq11, .ref xq12, .ref xq13]))] (fun (r : Int32) (_ : Unit) => r = (-1000000001)) (fun (_ : Unit) => []) := by
  refine KI.go rfl (Nat.le_of_ble_eq_true rfl) ?_
  intro p e s m args below meth c ls A Q hx hb hml hts hown hin hP hK hD hS hA hN hl hret
  have hl : lv_has ls 4 [(0, .ref xh), (1, .int v1)] := hl
  refine lv_aload_n hx hb dX9_pass_0 rfl (lv_at hl 0 rfl) ?_
  refine va_get (D := D) (ci := 9) (v := .ref xq6) (C := RX9) (T := TX9) (N := 17) hx hb hts iX9 hown hK hP 0 rfl rfl 4 (by decide) (hts _ wd_89) (fun _ h9 => h9) rfl dX9_pass_1 ?_
  refine lv_iload_n hx hb dX9_pass_4 rfl (lv_at hl 1 rfl) ?_
  refine cVi (wr := [(xh, .inr (9, [.ref xq1, .int 0, .int (-1), .ref xq2, .ref xq6, .ref xq14, .ref xq22, .ref xq26, .ref xq31, .ref xq35, .int 0, .ref xq36, .int 0, .ref xq41, .ref xq44, .ref xq50, .ref xq59]))]) (rest := []) (k_hasBarge xq6 0 1 0 0 0 xq9 xq10 xq11 xq12 xq13 v1) okV_X8_hasBarge wd_238 hx hb hml hown hts hK hP hD hS hA hN hl.1 [1] [0] rfl rfl rfl rfl (by decide) rfl rfl rfl (Nat.le_of_ble_eq_true rfl) (Nat.le_of_ble_eq_true rfl) (Nat.le_of_ble_eq_true rfl) (Nat.le_of_ble_eq_true rfl) (Nat.le_of_ble_eq_true rfl) dX9_pass_5 (fun r_2 u_1 H locs hw_u_1 hP hD hS => ?_)
  obtain rfl := hw_u_1
  have hP : va_P D classes [(xh, .inr (9, [.ref xq1, .int 0, .int (-1), .ref xq2, .ref xq6, .ref xq14, .ref xq22, .ref xq26, .ref xq31, .ref xq35, .int 0, .ref xq36, .int 0, .ref xq41, .ref xq44, .ref xq50, .ref xq59])), (xq6, .inr (8, [.int 0, .int 1, .int 0, .int 0, .int 0, .ref xq9, .ref xq10, .ref xq11, .ref xq12, .ref xq13]))] H := hP
  have hD : va_D A [(xh, .inr (9, [.ref xq1, .int 0, .int (-1), .ref xq2, .ref xq6, .ref xq14, .ref xq22, .ref xq26, .ref xq31, .ref xq35, .int 0, .ref xq36, .int 0, .ref xq41, .ref xq44, .ref xq50, .ref xq59])), (xq6, .inr (8, [.int 0, .int 1, .int 0, .int 0, .int 0, .ref xq9, .ref xq10, .ref xq11, .ref xq12, .ref xq13]))] := hD
  refine lv_topi (fun z_3 ez_3 => ?_)
  obtain rfl : z_3 = 0 := ez_3.trans (hasF0 _)
  refine lv_if_ne (tgt := 14) hx hb dX9_pass_8 (by decide) (fun c_4 => absurd (by decide +kernel) c_4) (fun c_4 => ?_)
  refine lv_ldc (v := (-1000000001)) hx hb hown (hts _ wd_233) dX9_pass_11 ?_
  exact hret (-1000000001) () _ _ _ _ dX9_pass_13 rfl rfl (cutP (isC := []) hP rfl) (cutD (isC := []) hD rfl rfl) hS
def rm_k_x_grieve : Room := { frames := 1, cells := 0, slots := 0, locals := 21 }
set_option maxHeartbeats 4000000 in
set_option maxRecDepth 100000 in
theorem k_x_grieve {l : Launch} {D : va_G} {cI cZ : ClassId} {sz : Nat} (xh xq1 xq2 xq6 xq14 xq22 xq26 xq31 xq35 xq36 xq41 xq44 xq50 xq59 xq9 xq10 xq11 xq12 xq13 : Nat) (v1 v2 : Int32) : KI l yX9_grieve cX9_grieve 3 (some .int) rm_k_x_grieve D cI cZ [.ref xh, .int v1, .int v2] sz [(xh, .inr (9, [.ref xq1, .int 0, .int (-1), .ref xq2, .ref xq6, .ref xq14, .ref xq22, .ref xq26, .ref xq31, .ref xq35, .int 0, .ref xq36, .int 0, .ref xq41, .ref xq44, .ref xq50, .ref xq59])), (xq6, .inr (8, [.int 0, .int 1, .int 0, .int 0, .int 0, .ref xq9, .ref xq10, .ref xq11, .ref xq12, .ref xq13]))] (fun (r : Int32) (_ : Unit) => r = (-1000000001)) (fun (_ : Unit) => []) := by
  refine KI.go rfl (Nat.le_of_ble_eq_true rfl) ?_
  intro p e s m args below meth c ls A Q hx hb hml hts hown hin hP hK hD hS hA hN hl hret
  have hl : lv_has ls 3 [(0, .ref xh), (1, .int v1), (2, .int v2)] := hl
  refine lv_aload_n hx hb dX9_grieve_0 rfl (lv_at hl 0 rfl) ?_
  refine va_get (D := D) (ci := 9) (v := .ref xq6) (C := RX9) (T := TX9) (N := 17) hx hb hts iX9 hown hK hP 0 rfl rfl 4 (by decide) (hts _ wd_89) (fun _ h9 => h9) rfl dX9_grieve_1 ?_
  refine lv_iload_n hx hb dX9_grieve_4 rfl (lv_at hl 1 rfl) ?_
  refine cVi (wr := [(xh, .inr (9, [.ref xq1, .int 0, .int (-1), .ref xq2, .ref xq6, .ref xq14, .ref xq22, .ref xq26, .ref xq31, .ref xq35, .int 0, .ref xq36, .int 0, .ref xq41, .ref xq44, .ref xq50, .ref xq59]))]) (rest := []) (k_hasCouple xq6 0 1 0 0 0 xq9 xq10 xq11 xq12 xq13 v1) okV_X8_hasCouple wd_234 hx hb hml hown hts hK hP hD hS hA hN hl.1 [1] [0] rfl rfl rfl rfl (by decide) rfl rfl rfl (Nat.le_of_ble_eq_true rfl) (Nat.le_of_ble_eq_true rfl) (Nat.le_of_ble_eq_true rfl) (Nat.le_of_ble_eq_true rfl) (Nat.le_of_ble_eq_true rfl) dX9_grieve_5 (fun r_2 u_1 H locs hw_u_1 hP hD hS => ?_)
  obtain rfl := hw_u_1
  have hP : va_P D classes [(xh, .inr (9, [.ref xq1, .int 0, .int (-1), .ref xq2, .ref xq6, .ref xq14, .ref xq22, .ref xq26, .ref xq31, .ref xq35, .int 0, .ref xq36, .int 0, .ref xq41, .ref xq44, .ref xq50, .ref xq59])), (xq6, .inr (8, [.int 0, .int 1, .int 0, .int 0, .int 0, .ref xq9, .ref xq10, .ref xq11, .ref xq12, .ref xq13]))] H := hP
  have hD : va_D A [(xh, .inr (9, [.ref xq1, .int 0, .int (-1), .ref xq2, .ref xq6, .ref xq14, .ref xq22, .ref xq26, .ref xq31, .ref xq35, .int 0, .ref xq36, .int 0, .ref xq41, .ref xq44, .ref xq50, .ref xq59])), (xq6, .inr (8, [.int 0, .int 1, .int 0, .int 0, .int 0, .ref xq9, .ref xq10, .ref xq11, .ref xq12, .ref xq13]))] := hD
  refine lv_topi (fun z_3 ez_3 => ?_)
  obtain rfl : z_3 = 0 := ez_3.trans (hasF0 _)
  refine lv_if_ne (tgt := 14) hx hb dX9_grieve_8 (by decide) (fun c_4 => absurd (by decide +kernel) c_4) (fun c_4 => ?_)
  refine lv_ldc (v := (-1000000001)) hx hb hown (hts _ wd_233) dX9_grieve_11 ?_
  exact hret (-1000000001) () _ _ _ _ dX9_grieve_13 rfl rfl (cutP (isC := []) hP rfl) (cutD (isC := []) hD rfl rfl) hS
def rm_k_x_could : Room := { frames := 1, cells := 0, slots := 0, locals := 21 }
set_option maxHeartbeats 4000000 in
set_option maxRecDepth 100000 in
theorem k_x_could {l : Launch} {D : va_G} {cI cZ : ClassId} {sz : Nat} (xh xq1 xq2 xq6 xq14 xq22 xq26 xq31 xq35 xq36 xq41 xq44 xq50 xq59 xq9 xq10 xq11 xq12 xq13 : Nat) (v1 v2 v3 v4 : Int32) : KI l yX9_could cX9_could 5 (some .int) rm_k_x_could D cI cZ [.ref xh, .int v1, .int v2, .int v3, .int v4] sz [(xh, .inr (9, [.ref xq1, .int 0, .int (-1), .ref xq2, .ref xq6, .ref xq14, .ref xq22, .ref xq26, .ref xq31, .ref xq35, .int 0, .ref xq36, .int 0, .ref xq41, .ref xq44, .ref xq50, .ref xq59])), (xq6, .inr (8, [.int 0, .int 1, .int 0, .int 0, .int 0, .ref xq9, .ref xq10, .ref xq11, .ref xq12, .ref xq13]))] (fun (r : Int32) (_ : Unit) => r = (-1000000001)) (fun (_ : Unit) => []) := by
  refine KI.go rfl (Nat.le_of_ble_eq_true rfl) ?_
  intro p e s m args below meth c ls A Q hx hb hml hts hown hin hP hK hD hS hA hN hl hret
  have hl : lv_has ls 5 [(0, .ref xh), (1, .int v1), (2, .int v2), (3, .int v3), (4, .int v4)] := hl
  refine lv_aload_n hx hb dX9_could_0 rfl (lv_at hl 0 rfl) ?_
  refine va_get (D := D) (ci := 9) (v := .ref xq6) (C := RX9) (T := TX9) (N := 17) hx hb hts iX9 hown hK hP 0 rfl rfl 4 (by decide) (hts _ wd_89) (fun _ h9 => h9) rfl dX9_could_1 ?_
  refine lv_iload_n hx hb dX9_could_4 rfl (lv_at hl 1 rfl) ?_
  refine cVi (wr := [(xh, .inr (9, [.ref xq1, .int 0, .int (-1), .ref xq2, .ref xq6, .ref xq14, .ref xq22, .ref xq26, .ref xq31, .ref xq35, .int 0, .ref xq36, .int 0, .ref xq41, .ref xq44, .ref xq50, .ref xq59]))]) (rest := []) (k_hasCouple xq6 0 1 0 0 0 xq9 xq10 xq11 xq12 xq13 v1) okV_X8_hasCouple wd_234 hx hb hml hown hts hK hP hD hS hA hN hl.1 [1] [0] rfl rfl rfl rfl (by decide) rfl rfl rfl (Nat.le_of_ble_eq_true rfl) (Nat.le_of_ble_eq_true rfl) (Nat.le_of_ble_eq_true rfl) (Nat.le_of_ble_eq_true rfl) (Nat.le_of_ble_eq_true rfl) dX9_could_5 (fun r_2 u_1 H locs hw_u_1 hP hD hS => ?_)
  obtain rfl := hw_u_1
  have hP : va_P D classes [(xh, .inr (9, [.ref xq1, .int 0, .int (-1), .ref xq2, .ref xq6, .ref xq14, .ref xq22, .ref xq26, .ref xq31, .ref xq35, .int 0, .ref xq36, .int 0, .ref xq41, .ref xq44, .ref xq50, .ref xq59])), (xq6, .inr (8, [.int 0, .int 1, .int 0, .int 0, .int 0, .ref xq9, .ref xq10, .ref xq11, .ref xq12, .ref xq13]))] H := hP
  have hD : va_D A [(xh, .inr (9, [.ref xq1, .int 0, .int (-1), .ref xq2, .ref xq6, .ref xq14, .ref xq22, .ref xq26, .ref xq31, .ref xq35, .int 0, .ref xq36, .int 0, .ref xq41, .ref xq44, .ref xq50, .ref xq59])), (xq6, .inr (8, [.int 0, .int 1, .int 0, .int 0, .int 0, .ref xq9, .ref xq10, .ref xq11, .ref xq12, .ref xq13]))] := hD
  refine lv_topi (fun z_3 ez_3 => ?_)
  obtain rfl : z_3 = 0 := ez_3.trans (hasF0 _)
  refine lv_if_eq (tgt := 33) hx hb dX9_could_8 (by decide) (fun c_4 => ?_) (fun c_4 => absurd (by decide +kernel) c_4)
  refine lv_ldc (v := (-1000000001)) hx hb hown (hts _ wd_233) dX9_could_33 ?_
  exact hret (-1000000001) () _ _ _ _ dX9_could_35 rfl rfl (cutP (isC := []) hP rfl) (cutD (isC := []) hD rfl rfl) hS
def rm_k_x_bestTheme : Room := { frames := 1, cells := 0, slots := 0, locals := 21 }
set_option maxHeartbeats 4000000 in
set_option maxRecDepth 100000 in
theorem k_x_bestTheme {l : Launch} {D : va_G} {cI cZ : ClassId} {sz : Nat} (xh xq1 xq2 xq6 xq14 xq22 xq26 xq31 xq35 xq36 xq41 xq44 xq50 xq59 xq9 xq10 xq11 xq12 xq13 : Nat) (v1 v2 : Int32) : KI l yX9_bestTheme cX9_bestTheme 3 (some .int) rm_k_x_bestTheme D cI cZ [.ref xh, .int v1, .int v2] sz [(xh, .inr (9, [.ref xq1, .int 0, .int (-1), .ref xq2, .ref xq6, .ref xq14, .ref xq22, .ref xq26, .ref xq31, .ref xq35, .int 0, .ref xq36, .int 0, .ref xq41, .ref xq44, .ref xq50, .ref xq59])), (xq6, .inr (8, [.int 0, .int 1, .int 0, .int 0, .int 0, .ref xq9, .ref xq10, .ref xq11, .ref xq12, .ref xq13]))] (fun (r : Int32) (_ : Unit) => r = (-1000000001)) (fun (_ : Unit) => []) := by
  refine KI.go rfl (Nat.le_of_ble_eq_true rfl) ?_
  intro p e s m args below meth c ls A Q hx hb hml hts hown hin hP hK hD hS hA hN hl hret
  have hl : lv_has ls 3 [(0, .ref xh), (1, .int v1), (2, .int v2)] := hl
  refine lv_aload_n hx hb dX9_bestTheme_0 rfl (lv_at hl 0 rfl) ?_
  refine va_get (D := D) (ci := 9) (v := .ref xq6) (C := RX9) (T := TX9) (N := 17) hx hb hts iX9 hown hK hP 0 rfl rfl 4 (by decide) (hts _ wd_89) (fun _ h9 => h9) rfl dX9_bestTheme_1 ?_
  refine lv_iload_n hx hb dX9_bestTheme_4 rfl (lv_at hl 1 rfl) ?_
  refine cVi (wr := [(xh, .inr (9, [.ref xq1, .int 0, .int (-1), .ref xq2, .ref xq6, .ref xq14, .ref xq22, .ref xq26, .ref xq31, .ref xq35, .int 0, .ref xq36, .int 0, .ref xq41, .ref xq44, .ref xq50, .ref xq59]))]) (rest := []) (k_hasCouple xq6 0 1 0 0 0 xq9 xq10 xq11 xq12 xq13 v1) okV_X8_hasCouple wd_234 hx hb hml hown hts hK hP hD hS hA hN hl.1 [1] [0] rfl rfl rfl rfl (by decide) rfl rfl rfl (Nat.le_of_ble_eq_true rfl) (Nat.le_of_ble_eq_true rfl) (Nat.le_of_ble_eq_true rfl) (Nat.le_of_ble_eq_true rfl) (Nat.le_of_ble_eq_true rfl) dX9_bestTheme_5 (fun r_2 u_1 H locs hw_u_1 hP hD hS => ?_)
  obtain rfl := hw_u_1
  have hP : va_P D classes [(xh, .inr (9, [.ref xq1, .int 0, .int (-1), .ref xq2, .ref xq6, .ref xq14, .ref xq22, .ref xq26, .ref xq31, .ref xq35, .int 0, .ref xq36, .int 0, .ref xq41, .ref xq44, .ref xq50, .ref xq59])), (xq6, .inr (8, [.int 0, .int 1, .int 0, .int 0, .int 0, .ref xq9, .ref xq10, .ref xq11, .ref xq12, .ref xq13]))] H := hP
  have hD : va_D A [(xh, .inr (9, [.ref xq1, .int 0, .int (-1), .ref xq2, .ref xq6, .ref xq14, .ref xq22, .ref xq26, .ref xq31, .ref xq35, .int 0, .ref xq36, .int 0, .ref xq41, .ref xq44, .ref xq50, .ref xq59])), (xq6, .inr (8, [.int 0, .int 1, .int 0, .int 0, .int 0, .ref xq9, .ref xq10, .ref xq11, .ref xq12, .ref xq13]))] := hD
  refine lv_topi (fun z_3 ez_3 => ?_)
  obtain rfl : z_3 = 0 := ez_3.trans (hasF0 _)
  refine lv_if_eq (tgt := 22) hx hb dX9_bestTheme_8 (by decide) (fun c_4 => ?_) (fun c_4 => absurd (by decide +kernel) c_4)
  refine lv_ldc (v := (-1000000001)) hx hb hown (hts _ wd_233) dX9_bestTheme_22 ?_
  exact hret (-1000000001) () _ _ _ _ dX9_bestTheme_24 rfl rfl (cutP (isC := []) hP rfl) (cutD (isC := []) hD rfl rfl) hS
def rm_k_x_who : Room := { frames := 1, cells := 0, slots := 0, locals := 21 }
set_option maxHeartbeats 4000000 in
set_option maxRecDepth 100000 in
theorem k_x_who {l : Launch} {D : va_G} {cI cZ : ClassId} {sz : Nat} (xh xq1 xq2 xq6 xq14 xq22 xq26 xq31 xq35 xq36 xq41 xq44 xq50 xq59 xq9 xq10 xq11 xq12 xq13 : Nat) (v1 v2 : Int32) : KI l yX9_who cX9_who 5 (some .int) rm_k_x_who D cI cZ [.ref xh, .int v1, .int v2] sz [(xh, .inr (9, [.ref xq1, .int 0, .int (-1), .ref xq2, .ref xq6, .ref xq14, .ref xq22, .ref xq26, .ref xq31, .ref xq35, .int 0, .ref xq36, .int 0, .ref xq41, .ref xq44, .ref xq50, .ref xq59])), (xq6, .inr (8, [.int 0, .int 1, .int 0, .int 0, .int 0, .ref xq9, .ref xq10, .ref xq11, .ref xq12, .ref xq13]))] (fun (r : Int32) (_ : Unit) => r = (-1000000001)) (fun (_ : Unit) => []) := by
  refine KI.go rfl (Nat.le_of_ble_eq_true rfl) ?_
  intro p e s m args below meth c ls A Q hx hb hml hts hown hin hP hK hD hS hA hN hl hret
  have hl : lv_has ls 5 [(0, .ref xh), (1, .int v1), (2, .int v2)] := hl
  refine lv_aload_n hx hb dX9_who_0 rfl (lv_at hl 0 rfl) ?_
  refine va_get (D := D) (ci := 9) (v := .ref xq6) (C := RX9) (T := TX9) (N := 17) hx hb hts iX9 hown hK hP 0 rfl rfl 4 (by decide) (hts _ wd_89) (fun _ h9 => h9) rfl dX9_who_1 ?_
  refine lv_iload_n hx hb dX9_who_4 rfl (lv_at hl 1 rfl) ?_
  refine cVi (wr := [(xh, .inr (9, [.ref xq1, .int 0, .int (-1), .ref xq2, .ref xq6, .ref xq14, .ref xq22, .ref xq26, .ref xq31, .ref xq35, .int 0, .ref xq36, .int 0, .ref xq41, .ref xq44, .ref xq50, .ref xq59]))]) (rest := []) (k_hasBridge xq6 0 1 0 0 0 xq9 xq10 xq11 xq12 xq13 v1) okV_X8_hasBridge wd_229 hx hb hml hown hts hK hP hD hS hA hN hl.1 [1] [0] rfl rfl rfl rfl (by decide) rfl rfl rfl (Nat.le_of_ble_eq_true rfl) (Nat.le_of_ble_eq_true rfl) (Nat.le_of_ble_eq_true rfl) (Nat.le_of_ble_eq_true rfl) (Nat.le_of_ble_eq_true rfl) dX9_who_5 (fun r_2 u_1 H locs hw_u_1 hP hD hS => ?_)
  obtain rfl := hw_u_1
  have hP : va_P D classes [(xh, .inr (9, [.ref xq1, .int 0, .int (-1), .ref xq2, .ref xq6, .ref xq14, .ref xq22, .ref xq26, .ref xq31, .ref xq35, .int 0, .ref xq36, .int 0, .ref xq41, .ref xq44, .ref xq50, .ref xq59])), (xq6, .inr (8, [.int 0, .int 1, .int 0, .int 0, .int 0, .ref xq9, .ref xq10, .ref xq11, .ref xq12, .ref xq13]))] H := hP
  have hD : va_D A [(xh, .inr (9, [.ref xq1, .int 0, .int (-1), .ref xq2, .ref xq6, .ref xq14, .ref xq22, .ref xq26, .ref xq31, .ref xq35, .int 0, .ref xq36, .int 0, .ref xq41, .ref xq44, .ref xq50, .ref xq59])), (xq6, .inr (8, [.int 0, .int 1, .int 0, .int 0, .int 0, .ref xq9, .ref xq10, .ref xq11, .ref xq12, .ref xq13]))] := hD
  refine lv_topi (fun z_3 ez_3 => ?_)
  obtain rfl : z_3 = 0 := ez_3.trans (hasF0 _)
  refine lv_if_eq (tgt := 25) hx hb dX9_who_8 (by decide) (fun c_4 => ?_) (fun c_4 => absurd (by decide +kernel) c_4)
  refine lv_ldc (v := (-1000000001)) hx hb hown (hts _ wd_233) dX9_who_25 ?_
  exact hret (-1000000001) () _ _ _ _ dX9_who_27 rfl rfl (cutP (isC := []) hP rfl) (cutD (isC := []) hD rfl rfl) hS
def rm_k_x_toldHer : Room := { frames := 1, cells := 0, slots := 0, locals := 21 }
set_option maxHeartbeats 4000000 in
set_option maxRecDepth 100000 in
theorem k_x_toldHer {l : Launch} {D : va_G} {cI cZ : ClassId} {sz : Nat} (xh xq1 xq2 xq6 xq14 xq22 xq26 xq31 xq35 xq36 xq41 xq44 xq50 xq59 xq9 xq10 xq11 xq12 xq13 : Nat) (v1 v2 v3 : Int32) : KI l yX9_toldHer cX9_toldHer 8 (some .int) rm_k_x_toldHer D cI cZ [.ref xh, .int v1, .int v2, .int v3] sz [(xh, .inr (9, [.ref xq1, .int 0, .int (-1), .ref xq2, .ref xq6, .ref xq14, .ref xq22, .ref xq26, .ref xq31, .ref xq35, .int 0, .ref xq36, .int 0, .ref xq41, .ref xq44, .ref xq50, .ref xq59])), (xq6, .inr (8, [.int 0, .int 1, .int 0, .int 0, .int 0, .ref xq9, .ref xq10, .ref xq11, .ref xq12, .ref xq13]))] (fun (r : Int32) (_ : Unit) => r = (-1000000001)) (fun (_ : Unit) => []) := by
  refine KI.go rfl (Nat.le_of_ble_eq_true rfl) ?_
  intro p e s m args below meth c ls A Q hx hb hml hts hown hin hP hK hD hS hA hN hl hret
  have hl : lv_has ls 8 [(0, .ref xh), (1, .int v1), (2, .int v2), (3, .int v3)] := hl
  refine lv_aload_n hx hb dX9_toldHer_0 rfl (lv_at hl 0 rfl) ?_
  refine va_get (D := D) (ci := 9) (v := .ref xq6) (C := RX9) (T := TX9) (N := 17) hx hb hts iX9 hown hK hP 0 rfl rfl 4 (by decide) (hts _ wd_89) (fun _ h9 => h9) rfl dX9_toldHer_1 ?_
  refine lv_iload_n hx hb dX9_toldHer_4 rfl (lv_at hl 1 rfl) ?_
  refine cVi (wr := [(xh, .inr (9, [.ref xq1, .int 0, .int (-1), .ref xq2, .ref xq6, .ref xq14, .ref xq22, .ref xq26, .ref xq31, .ref xq35, .int 0, .ref xq36, .int 0, .ref xq41, .ref xq44, .ref xq50, .ref xq59]))]) (rest := []) (k_hasBridge xq6 0 1 0 0 0 xq9 xq10 xq11 xq12 xq13 v1) okV_X8_hasBridge wd_229 hx hb hml hown hts hK hP hD hS hA hN hl.1 [1] [0] rfl rfl rfl rfl (by decide) rfl rfl rfl (Nat.le_of_ble_eq_true rfl) (Nat.le_of_ble_eq_true rfl) (Nat.le_of_ble_eq_true rfl) (Nat.le_of_ble_eq_true rfl) (Nat.le_of_ble_eq_true rfl) dX9_toldHer_5 (fun r_2 u_1 H locs hw_u_1 hP hD hS => ?_)
  obtain rfl := hw_u_1
  have hP : va_P D classes [(xh, .inr (9, [.ref xq1, .int 0, .int (-1), .ref xq2, .ref xq6, .ref xq14, .ref xq22, .ref xq26, .ref xq31, .ref xq35, .int 0, .ref xq36, .int 0, .ref xq41, .ref xq44, .ref xq50, .ref xq59])), (xq6, .inr (8, [.int 0, .int 1, .int 0, .int 0, .int 0, .ref xq9, .ref xq10, .ref xq11, .ref xq12, .ref xq13]))] H := hP
  have hD : va_D A [(xh, .inr (9, [.ref xq1, .int 0, .int (-1), .ref xq2, .ref xq6, .ref xq14, .ref xq22, .ref xq26, .ref xq31, .ref xq35, .int 0, .ref xq36, .int 0, .ref xq41, .ref xq44, .ref xq50, .ref xq59])), (xq6, .inr (8, [.int 0, .int 1, .int 0, .int 0, .int 0, .ref xq9, .ref xq10, .ref xq11, .ref xq12, .ref xq13]))] := hD
  refine lv_topi (fun z_3 ez_3 => ?_)
  obtain rfl : z_3 = 0 := ez_3.trans (hasF0 _)
  refine lv_if_ne (tgt := 14) hx hb dX9_toldHer_8 (by decide) (fun c_4 => absurd (by decide +kernel) c_4) (fun c_4 => ?_)
  refine lv_ldc (v := (-1000000001)) hx hb hown (hts _ wd_233) dX9_toldHer_11 ?_
  exact hret (-1000000001) () _ _ _ _ dX9_toldHer_13 rfl rfl (cutP (isC := []) hP rfl) (cutD (isC := []) hD rfl rfl) hS
def rm_k_x_lasts : Room := { frames := 1, cells := 0, slots := 0, locals := 21 }
set_option maxHeartbeats 4000000 in
set_option maxRecDepth 100000 in
theorem k_x_lasts {l : Launch} {D : va_G} {cI cZ : ClassId} {sz : Nat} (xh xq1 xq2 xq6 xq14 xq22 xq26 xq31 xq35 xq36 xq41 xq44 xq50 xq59 xq9 xq10 xq11 xq12 xq13 : Nat) (v1 v2 : Int32) : KI l yX9_lasts cX9_lasts 3 (some .int) rm_k_x_lasts D cI cZ [.ref xh, .int v1, .int v2] sz [(xh, .inr (9, [.ref xq1, .int 0, .int (-1), .ref xq2, .ref xq6, .ref xq14, .ref xq22, .ref xq26, .ref xq31, .ref xq35, .int 0, .ref xq36, .int 0, .ref xq41, .ref xq44, .ref xq50, .ref xq59])), (xq6, .inr (8, [.int 0, .int 1, .int 0, .int 0, .int 0, .ref xq9, .ref xq10, .ref xq11, .ref xq12, .ref xq13]))] (fun (r : Int32) (_ : Unit) => r = (-1000000001)) (fun (_ : Unit) => []) := by
  refine KI.go rfl (Nat.le_of_ble_eq_true rfl) ?_
  intro p e s m args below meth c ls A Q hx hb hml hts hown hin hP hK hD hS hA hN hl hret
  have hl : lv_has ls 3 [(0, .ref xh), (1, .int v1), (2, .int v2)] := hl
  refine lv_aload_n hx hb dX9_lasts_0 rfl (lv_at hl 0 rfl) ?_
  refine va_get (D := D) (ci := 9) (v := .ref xq6) (C := RX9) (T := TX9) (N := 17) hx hb hts iX9 hown hK hP 0 rfl rfl 4 (by decide) (hts _ wd_89) (fun _ h9 => h9) rfl dX9_lasts_1 ?_
  refine lv_iload_n hx hb dX9_lasts_4 rfl (lv_at hl 1 rfl) ?_
  refine cVi (wr := [(xh, .inr (9, [.ref xq1, .int 0, .int (-1), .ref xq2, .ref xq6, .ref xq14, .ref xq22, .ref xq26, .ref xq31, .ref xq35, .int 0, .ref xq36, .int 0, .ref xq41, .ref xq44, .ref xq50, .ref xq59]))]) (rest := []) (k_hasCouple xq6 0 1 0 0 0 xq9 xq10 xq11 xq12 xq13 v1) okV_X8_hasCouple wd_234 hx hb hml hown hts hK hP hD hS hA hN hl.1 [1] [0] rfl rfl rfl rfl (by decide) rfl rfl rfl (Nat.le_of_ble_eq_true rfl) (Nat.le_of_ble_eq_true rfl) (Nat.le_of_ble_eq_true rfl) (Nat.le_of_ble_eq_true rfl) (Nat.le_of_ble_eq_true rfl) dX9_lasts_5 (fun r_2 u_1 H locs hw_u_1 hP hD hS => ?_)
  obtain rfl := hw_u_1
  have hP : va_P D classes [(xh, .inr (9, [.ref xq1, .int 0, .int (-1), .ref xq2, .ref xq6, .ref xq14, .ref xq22, .ref xq26, .ref xq31, .ref xq35, .int 0, .ref xq36, .int 0, .ref xq41, .ref xq44, .ref xq50, .ref xq59])), (xq6, .inr (8, [.int 0, .int 1, .int 0, .int 0, .int 0, .ref xq9, .ref xq10, .ref xq11, .ref xq12, .ref xq13]))] H := hP
  have hD : va_D A [(xh, .inr (9, [.ref xq1, .int 0, .int (-1), .ref xq2, .ref xq6, .ref xq14, .ref xq22, .ref xq26, .ref xq31, .ref xq35, .int 0, .ref xq36, .int 0, .ref xq41, .ref xq44, .ref xq50, .ref xq59])), (xq6, .inr (8, [.int 0, .int 1, .int 0, .int 0, .int 0, .ref xq9, .ref xq10, .ref xq11, .ref xq12, .ref xq13]))] := hD
  refine lv_topi (fun z_3 ez_3 => ?_)
  obtain rfl : z_3 = 0 := ez_3.trans (hasF0 _)
  refine lv_if_eq (tgt := 22) hx hb dX9_lasts_8 (by decide) (fun c_4 => ?_) (fun c_4 => absurd (by decide +kernel) c_4)
  refine lv_ldc (v := (-1000000001)) hx hb hown (hts _ wd_233) dX9_lasts_22 ?_
  exact hret (-1000000001) () _ _ _ _ dX9_lasts_24 rfl rfl (cutP (isC := []) hP rfl) (cutD (isC := []) hD rfl rfl) hS
def rm_k_x_hire : Room := { frames := 1, cells := 0, slots := 0, locals := 21 }
set_option maxHeartbeats 4000000 in
set_option maxRecDepth 100000 in
theorem k_x_hire {l : Launch} {D : va_G} {cI cZ : ClassId} {sz : Nat} (xh xq1 xq2 xq6 xq14 xq22 xq26 xq31 xq35 xq36 xq41 xq44 xq50 xq59 xq9 xq10 xq11 xq12 xq13 : Nat) (v1 v2 : Int32) : KI l yX9_hire cX9_hire 8 (some .int) rm_k_x_hire D cI cZ [.ref xh, .int v1, .int v2] sz [(xh, .inr (9, [.ref xq1, .int 0, .int (-1), .ref xq2, .ref xq6, .ref xq14, .ref xq22, .ref xq26, .ref xq31, .ref xq35, .int 0, .ref xq36, .int 0, .ref xq41, .ref xq44, .ref xq50, .ref xq59])), (xq6, .inr (8, [.int 0, .int 1, .int 0, .int 0, .int 0, .ref xq9, .ref xq10, .ref xq11, .ref xq12, .ref xq13]))] (fun (r : Int32) (_ : Unit) => r = (-1000000001)) (fun (_ : Unit) => []) := by
  refine KI.go rfl (Nat.le_of_ble_eq_true rfl) ?_
  intro p e s m args below meth c ls A Q hx hb hml hts hown hin hP hK hD hS hA hN hl hret
  have hl : lv_has ls 8 [(0, .ref xh), (1, .int v1), (2, .int v2)] := hl
  refine lv_aload_n hx hb dX9_hire_0 rfl (lv_at hl 0 rfl) ?_
  refine va_get (D := D) (ci := 9) (v := .ref xq6) (C := RX9) (T := TX9) (N := 17) hx hb hts iX9 hown hK hP 0 rfl rfl 4 (by decide) (hts _ wd_89) (fun _ h9 => h9) rfl dX9_hire_1 ?_
  refine lv_iload_n hx hb dX9_hire_4 rfl (lv_at hl 1 rfl) ?_
  refine cVi (wr := [(xh, .inr (9, [.ref xq1, .int 0, .int (-1), .ref xq2, .ref xq6, .ref xq14, .ref xq22, .ref xq26, .ref xq31, .ref xq35, .int 0, .ref xq36, .int 0, .ref xq41, .ref xq44, .ref xq50, .ref xq59]))]) (rest := []) (k_hasBridge xq6 0 1 0 0 0 xq9 xq10 xq11 xq12 xq13 v1) okV_X8_hasBridge wd_229 hx hb hml hown hts hK hP hD hS hA hN hl.1 [1] [0] rfl rfl rfl rfl (by decide) rfl rfl rfl (Nat.le_of_ble_eq_true rfl) (Nat.le_of_ble_eq_true rfl) (Nat.le_of_ble_eq_true rfl) (Nat.le_of_ble_eq_true rfl) (Nat.le_of_ble_eq_true rfl) dX9_hire_5 (fun r_2 u_1 H locs hw_u_1 hP hD hS => ?_)
  obtain rfl := hw_u_1
  have hP : va_P D classes [(xh, .inr (9, [.ref xq1, .int 0, .int (-1), .ref xq2, .ref xq6, .ref xq14, .ref xq22, .ref xq26, .ref xq31, .ref xq35, .int 0, .ref xq36, .int 0, .ref xq41, .ref xq44, .ref xq50, .ref xq59])), (xq6, .inr (8, [.int 0, .int 1, .int 0, .int 0, .int 0, .ref xq9, .ref xq10, .ref xq11, .ref xq12, .ref xq13]))] H := hP
  have hD : va_D A [(xh, .inr (9, [.ref xq1, .int 0, .int (-1), .ref xq2, .ref xq6, .ref xq14, .ref xq22, .ref xq26, .ref xq31, .ref xq35, .int 0, .ref xq36, .int 0, .ref xq41, .ref xq44, .ref xq50, .ref xq59])), (xq6, .inr (8, [.int 0, .int 1, .int 0, .int 0, .int 0, .ref xq9, .ref xq10, .ref xq11, .ref xq12, .ref xq13]))] := hD
  refine lv_topi (fun z_3 ez_3 => ?_)
  obtain rfl : z_3 = 0 := ez_3.trans (hasF0 _)
  refine lv_if_ne (tgt := 14) hx hb dX9_hire_8 (by decide) (fun c_4 => absurd (by decide +kernel) c_4) (fun c_4 => ?_)
  refine lv_ldc (v := (-1000000001)) hx hb hown (hts _ wd_233) dX9_hire_11 ?_
  exact hret (-1000000001) () _ _ _ _ dX9_hire_13 rfl rfl (cutP (isC := []) hP rfl) (cutD (isC := []) hD rfl rfl) hS
def rm_k_x_midstream : Room := { frames := 1, cells := 0, slots := 0, locals := 21 }
set_option maxHeartbeats 4000000 in
set_option maxRecDepth 100000 in
theorem k_x_midstream {l : Launch} {D : va_G} {cI cZ : ClassId} {sz : Nat} (xh xq1 xq2 xq6 xq14 xq22 xq26 xq31 xq35 xq36 xq41 xq44 xq50 xq59 xq9 xq10 xq11 xq12 xq13 : Nat) (v1 v2 v3 : Int32) : KI l yX9_midstream cX9_midstream 8 (some .int) rm_k_x_midstream D cI cZ [.ref xh, .int v1, .int v2, .int v3] sz [(xh, .inr (9, [.ref xq1, .int 0, .int (-1), .ref xq2, .ref xq6, .ref xq14, .ref xq22, .ref xq26, .ref xq31, .ref xq35, .int 0, .ref xq36, .int 0, .ref xq41, .ref xq44, .ref xq50, .ref xq59])), (xq6, .inr (8, [.int 0, .int 1, .int 0, .int 0, .int 0, .ref xq9, .ref xq10, .ref xq11, .ref xq12, .ref xq13]))] (fun (r : Int32) (_ : Unit) => r = (-1000000001)) (fun (_ : Unit) => []) := by
  refine KI.go rfl (Nat.le_of_ble_eq_true rfl) ?_
  intro p e s m args below meth c ls A Q hx hb hml hts hown hin hP hK hD hS hA hN hl hret
  have hl : lv_has ls 8 [(0, .ref xh), (1, .int v1), (2, .int v2), (3, .int v3)] := hl
  refine lv_aload_n hx hb dX9_midstream_0 rfl (lv_at hl 0 rfl) ?_
  refine va_get (D := D) (ci := 9) (v := .ref xq6) (C := RX9) (T := TX9) (N := 17) hx hb hts iX9 hown hK hP 0 rfl rfl 4 (by decide) (hts _ wd_89) (fun _ h9 => h9) rfl dX9_midstream_1 ?_
  refine lv_iload_n hx hb dX9_midstream_4 rfl (lv_at hl 1 rfl) ?_
  refine cVi (wr := [(xh, .inr (9, [.ref xq1, .int 0, .int (-1), .ref xq2, .ref xq6, .ref xq14, .ref xq22, .ref xq26, .ref xq31, .ref xq35, .int 0, .ref xq36, .int 0, .ref xq41, .ref xq44, .ref xq50, .ref xq59]))]) (rest := []) (k_hasCouple xq6 0 1 0 0 0 xq9 xq10 xq11 xq12 xq13 v1) okV_X8_hasCouple wd_234 hx hb hml hown hts hK hP hD hS hA hN hl.1 [1] [0] rfl rfl rfl rfl (by decide) rfl rfl rfl (Nat.le_of_ble_eq_true rfl) (Nat.le_of_ble_eq_true rfl) (Nat.le_of_ble_eq_true rfl) (Nat.le_of_ble_eq_true rfl) (Nat.le_of_ble_eq_true rfl) dX9_midstream_5 (fun r_2 u_1 H locs hw_u_1 hP hD hS => ?_)
  obtain rfl := hw_u_1
  have hP : va_P D classes [(xh, .inr (9, [.ref xq1, .int 0, .int (-1), .ref xq2, .ref xq6, .ref xq14, .ref xq22, .ref xq26, .ref xq31, .ref xq35, .int 0, .ref xq36, .int 0, .ref xq41, .ref xq44, .ref xq50, .ref xq59])), (xq6, .inr (8, [.int 0, .int 1, .int 0, .int 0, .int 0, .ref xq9, .ref xq10, .ref xq11, .ref xq12, .ref xq13]))] H := hP
  have hD : va_D A [(xh, .inr (9, [.ref xq1, .int 0, .int (-1), .ref xq2, .ref xq6, .ref xq14, .ref xq22, .ref xq26, .ref xq31, .ref xq35, .int 0, .ref xq36, .int 0, .ref xq41, .ref xq44, .ref xq50, .ref xq59])), (xq6, .inr (8, [.int 0, .int 1, .int 0, .int 0, .int 0, .ref xq9, .ref xq10, .ref xq11, .ref xq12, .ref xq13]))] := hD
  refine lv_topi (fun z_3 ez_3 => ?_)
  obtain rfl : z_3 = 0 := ez_3.trans (hasF0 _)
  refine lv_if_ne (tgt := 14) hx hb dX9_midstream_8 (by decide) (fun c_4 => absurd (by decide +kernel) c_4) (fun c_4 => ?_)
  refine lv_ldc (v := (-1000000001)) hx hb hown (hts _ wd_233) dX9_midstream_11 ?_
  exact hret (-1000000001) () _ _ _ _ dX9_midstream_13 rfl rfl (cutP (isC := []) hP rfl) (cutD (isC := []) hD rfl rfl) hS
def rm_k_x_write : Room := { frames := 1, cells := 0, slots := 0, locals := 21 }
set_option maxHeartbeats 4000000 in
set_option maxRecDepth 100000 in
theorem k_x_write {l : Launch} {D : va_G} {cI cZ : ClassId} {sz : Nat} (xh xq1 xq2 xq6 xq14 xq22 xq26 xq31 xq35 xq36 xq41 xq44 xq50 xq59 xq9 xq10 xq11 xq12 xq13 : Nat) (v1 v2 : Int32) : KI l yX9_write cX9_write 3 (some .int) rm_k_x_write D cI cZ [.ref xh, .int v1, .int v2] sz [(xh, .inr (9, [.ref xq1, .int 0, .int (-1), .ref xq2, .ref xq6, .ref xq14, .ref xq22, .ref xq26, .ref xq31, .ref xq35, .int 0, .ref xq36, .int 0, .ref xq41, .ref xq44, .ref xq50, .ref xq59])), (xq6, .inr (8, [.int 0, .int 1, .int 0, .int 0, .int 0, .ref xq9, .ref xq10, .ref xq11, .ref xq12, .ref xq13]))] (fun (r : Int32) (_ : Unit) => r = (-1000000001)) (fun (_ : Unit) => []) := by
  refine KI.go rfl (Nat.le_of_ble_eq_true rfl) ?_
  intro p e s m args below meth c ls A Q hx hb hml hts hown hin hP hK hD hS hA hN hl hret
  have hl : lv_has ls 3 [(0, .ref xh), (1, .int v1), (2, .int v2)] := hl
  refine lv_aload_n hx hb dX9_write_0 rfl (lv_at hl 0 rfl) ?_
  refine va_get (D := D) (ci := 9) (v := .ref xq6) (C := RX9) (T := TX9) (N := 17) hx hb hts iX9 hown hK hP 0 rfl rfl 4 (by decide) (hts _ wd_89) (fun _ h9 => h9) rfl dX9_write_1 ?_
  refine lv_iload_n hx hb dX9_write_4 rfl (lv_at hl 1 rfl) ?_
  refine cVi (wr := [(xh, .inr (9, [.ref xq1, .int 0, .int (-1), .ref xq2, .ref xq6, .ref xq14, .ref xq22, .ref xq26, .ref xq31, .ref xq35, .int 0, .ref xq36, .int 0, .ref xq41, .ref xq44, .ref xq50, .ref xq59]))]) (rest := []) (k_hasCouple xq6 0 1 0 0 0 xq9 xq10 xq11 xq12 xq13 v1) okV_X8_hasCouple wd_234 hx hb hml hown hts hK hP hD hS hA hN hl.1 [1] [0] rfl rfl rfl rfl (by decide) rfl rfl rfl (Nat.le_of_ble_eq_true rfl) (Nat.le_of_ble_eq_true rfl) (Nat.le_of_ble_eq_true rfl) (Nat.le_of_ble_eq_true rfl) (Nat.le_of_ble_eq_true rfl) dX9_write_5 (fun r_2 u_1 H locs hw_u_1 hP hD hS => ?_)
  obtain rfl := hw_u_1
  have hP : va_P D classes [(xh, .inr (9, [.ref xq1, .int 0, .int (-1), .ref xq2, .ref xq6, .ref xq14, .ref xq22, .ref xq26, .ref xq31, .ref xq35, .int 0, .ref xq36, .int 0, .ref xq41, .ref xq44, .ref xq50, .ref xq59])), (xq6, .inr (8, [.int 0, .int 1, .int 0, .int 0, .int 0, .ref xq9, .ref xq10, .ref xq11, .ref xq12, .ref xq13]))] H := hP
  have hD : va_D A [(xh, .inr (9, [.ref xq1, .int 0, .int (-1), .ref xq2, .ref xq6, .ref xq14, .ref xq22, .ref xq26, .ref xq31, .ref xq35, .int 0, .ref xq36, .int 0, .ref xq41, .ref xq44, .ref xq50, .ref xq59])), (xq6, .inr (8, [.int 0, .int 1, .int 0, .int 0, .int 0, .ref xq9, .ref xq10, .ref xq11, .ref xq12, .ref xq13]))] := hD
  refine lv_topi (fun z_3 ez_3 => ?_)
  obtain rfl : z_3 = 0 := ez_3.trans (hasF0 _)
  refine lv_if_ne (tgt := 14) hx hb dX9_write_8 (by decide) (fun c_4 => absurd (by decide +kernel) c_4) (fun c_4 => ?_)
  refine lv_ldc (v := (-1000000001)) hx hb hown (hts _ wd_233) dX9_write_11 ?_
  exact hret (-1000000001) () _ _ _ _ dX9_write_13 rfl rfl (cutP (isC := []) hP rfl) (cutD (isC := []) hD rfl rfl) hS
def rm_k_x_drift : Room := { frames := 0, cells := 0, slots := 0, locals := 0 }
set_option maxHeartbeats 4000000 in
set_option maxRecDepth 100000 in
theorem k_x_drift {l : Launch} {D : va_G} {cI cZ : ClassId} {sz : Nat} (xh xq1 xq2 xq6 xq14 xq22 xq26 xq31 xq35 xq36 xq41 xq44 xq50 xq59 xq9 xq10 xq11 xq12 xq13 : Nat) (v : Int32) : KI l yX9_drift cX9_drift 5 (some .int) rm_k_x_drift D cI cZ [.ref xh, .int v] sz [(xh, .inr (9, [.ref xq1, .int 0, .int (-1), .ref xq2, .ref xq6, .ref xq14, .ref xq22, .ref xq26, .ref xq31, .ref xq35, .int 0, .ref xq36, .int 0, .ref xq41, .ref xq44, .ref xq50, .ref xq59])), (xq6, .inr (8, [.int 0, .int 1, .int 0, .int 0, .int 0, .ref xq9, .ref xq10, .ref xq11, .ref xq12, .ref xq13]))] (fun (r : Int32) (_ : Unit) => r = rg 1 99 v (-1000000002) (-1000000003)) (fun (_ : Unit) => []) := by
  refine KI.go rfl (Nat.le_of_ble_eq_true rfl) ?_
  intro p e s m args below meth c ls A Q hx hb hml hts hown hin hP hK hD hS hA hN hl hret
  have hl : lv_has ls 5 [(0, .ref xh), (1, .int v)] := hl
  refine lv_iload_n hx hb dX9_drift_0 rfl (lv_at hl 1 rfl) ?_
  refine lv_iconst (v := 1) hx hb dX9_drift_1 (by decide) ?_
  refine lv_icmp_lt (tgt := 11) hx hb dX9_drift_2 (by decide) (fun c_1 => ?_) (fun c_1 => ?_)
  · refine lv_ldc (v := (-1000000002)) hx hb hown (hts _ wd_191) dX9_drift_11 ?_
    exact hret (-1000000002) () _ _ _ _ dX9_drift_13 rfl (rg_lo c_1) (cutP (isC := []) hP rfl) (cutD (isC := []) hD rfl rfl) hS
  · refine lv_iload_n hx hb dX9_drift_5 rfl (lv_at hl 1 rfl) ?_
    refine lv_bipush (v := 99) hx hb dX9_drift_6 (by decide) ?_
    refine lv_icmp_le (tgt := 14) hx hb dX9_drift_8 (by decide) (fun c_2 => ?_) (fun c_2 => ?_)
    · refine lv_aload_n hx hb dX9_drift_14 rfl (lv_at hl 0 rfl) ?_
      refine va_get (D := D) (ci := 9) (v := .ref xq6) (C := RX9) (T := TX9) (N := 17) hx hb hts iX9 hown hK hP 0 rfl rfl 4 (by decide) (hts _ wd_89) (fun _ h9 => h9) rfl dX9_drift_15 ?_
      refine va_get (D := D) (ci := 8) (v := .int 0) (C := RX8) (T := TX8) (N := 10) hx hb hts iX8 hown hK hP 1 rfl rfl 2 (by decide) (hts _ wd_214) (fun _ h9 => h9) rfl dX9_drift_18 ?_
      refine lv_if_ne (tgt := 27) hx hb dX9_drift_21 (by decide) (fun c_3 => absurd (by decide +kernel) c_3) (fun c_3 => ?_)
      refine lv_ldc (v := (-1000000003)) hx hb hown (hts _ wd_242) dX9_drift_24 ?_
      exact hret (-1000000003) () _ _ _ _ dX9_drift_26 rfl (rg_in c_1 c_2) (cutP (isC := []) hP rfl) (cutD (isC := []) hD rfl rfl) hS
    · refine lv_ldc (v := (-1000000002)) hx hb hown (hts _ wd_191) dX9_drift_11 ?_
      exact hret (-1000000002) () _ _ _ _ dX9_drift_13 rfl (rg_hi c_2) (cutP (isC := []) hP rfl) (cutD (isC := []) hD rfl rfl) hS
def rm_k_x_undo : Room := { frames := 0, cells := 0, slots := 0, locals := 0 }
set_option maxHeartbeats 4000000 in
set_option maxRecDepth 100000 in
theorem k_x_undo {l : Launch} {D : va_G} {cI cZ : ClassId} {sz : Nat} (xh xq1 xq2 xq6 xq14 xq22 xq26 xq31 xq35 xq36 xq41 xq44 xq50 xq59 xq29 : Nat) : KI l yX9_undo cX9_undo 1 (some .int) rm_k_x_undo D cI cZ [.ref xh] sz [(xh, .inr (9, [.ref xq1, .int 0, .int (-1), .ref xq2, .ref xq6, .ref xq14, .ref xq22, .ref xq26, .ref xq31, .ref xq35, .int 0, .ref xq36, .int 0, .ref xq41, .ref xq44, .ref xq50, .ref xq59])), (xq26, .inr (2, [.ref xq29, .int 0, .int 0]))] (fun (r : Int32) (_ : Unit) => r = (-1000000003)) (fun (_ : Unit) => []) := by
  refine KI.go rfl (Nat.le_of_ble_eq_true rfl) ?_
  intro p e s m args below meth c ls A Q hx hb hml hts hown hin hP hK hD hS hA hN hl hret
  have hl : lv_has ls 1 [(0, .ref xh)] := hl
  refine lv_aload_n hx hb dX9_undo_0 rfl (lv_at hl 0 rfl) ?_
  refine va_get (D := D) (ci := 9) (v := .ref xq26) (C := RX9) (T := TX9) (N := 17) hx hb hts iX9 hown hK hP 0 rfl rfl 7 (by decide) (hts _ wd_102) (fun _ h9 => h9) rfl dX9_undo_1 ?_
  refine va_get (D := D) (ci := 2) (v := .int 0) (C := RX2) (T := TX2) (N := 3) hx hb hts iX2 hown hK hP 1 rfl rfl 2 (by decide) (hts _ wd_228) (fun _ h9 => h9) rfl dX9_undo_4 ?_
  refine lv_if_ne (tgt := 13) hx hb dX9_undo_7 (by decide) (fun c_1 => absurd (by decide +kernel) c_1) (fun c_1 => ?_)
  refine lv_ldc (v := (-1000000003)) hx hb hown (hts _ wd_242) dX9_undo_10 ?_
  exact hret (-1000000003) () _ _ _ _ dX9_undo_12 rfl rfl (cutP (isC := []) hP rfl) (cutD (isC := []) hD rfl rfl) hS
def rm_k_x_order : Room := { frames := 4, cells := 0, slots := 0, locals := 87 }
set_option maxHeartbeats 4000000 in
set_option maxRecDepth 100000 in
theorem k_x_order {l : Launch} {D : va_G} {cI cZ : ClassId} {sz : Nat} (xh xq1 xq2 xq6 xq14 xq22 xq26 xq31 xq35 xq36 xq41 xq44 xq50 xq59 xq53 xq54 xq55 xq56 xq57 xq58 xq9 xq10 xq11 xq12 xq13 xu23 : Nat) (v : Int32) : KI l yX9_order cX9_order 3 (some .int) rm_k_x_order D cI cZ [.ref xh, .int v] sz [(xh, .inr (9, [.ref xq1, .int 0, .int (-1), .ref xq2, .ref xq6, .ref xq14, .ref xq22, .ref xq26, .ref xq31, .ref xq35, .int 0, .ref xq36, .int 0, .ref xq41, .ref xq44, .ref xq50, .ref xq59])), (xq50, .inr (1, [.int 0, .ref xq53, .ref xq54, .ref xq55, .ref xq56, .ref xq57, .ref xq58, .int 0, .int 0, .null])), (xq54, .inl (cI, 6, .inl z0)), (xq55, .inl (cI, 48, .inl z0)), (xq56, .inl (cI, 128, .inl z0)), (xq57, .inl (cI, 128, .inl z0)), (xq58, .inl (cI, 128, .inl z0)), (xq6, .inr (8, [.int 0, .int 1, .int 0, .int 0, .int 0, .ref xq9, .ref xq10, .ref xq11, .ref xq12, .ref xq13])), (xq22, .inr (7, [.ref xu23])), (xu23, .inl (cI, 41, .inl (cB2 z0 7)))] (fun (r : Int32) (_ : Unit) => r = orderS v) (fun (_ : Unit) => []) := by
  refine KI.go rfl (Nat.le_of_ble_eq_true rfl) ?_
  intro p e s m args below meth c ls A Q hx hb hml hts hown hin hP hK hD hS hA hN hl hret
  have hl : lv_has ls 3 [(0, .ref xh), (1, .int v)] := hl
  refine lv_aload_n hx hb dX9_order_0 rfl (lv_at hl 0 rfl) ?_
  refine va_get (D := D) (ci := 9) (v := .ref xq50) (C := RX9) (T := TX9) (N := 17) hx hb hts iX9 hown hK hP 0 rfl rfl 15 (by decide) (hts _ wd_132) (fun _ h9 => h9) rfl dX9_order_1 ?_
  refine lv_aload_n hx hb dX9_order_4 rfl (lv_at hl 0 rfl) ?_
  refine va_get (D := D) (ci := 9) (v := .ref xq6) (C := RX9) (T := TX9) (N := 17) hx hb hts iX9 hown hK hP 0 rfl rfl 4 (by decide) (hts _ wd_89) (fun _ h9 => h9) rfl dX9_order_5 ?_
  refine lv_aload_n hx hb dX9_order_8 rfl (lv_at hl 0 rfl) ?_
  refine va_get (D := D) (ci := 9) (v := .ref xq22) (C := RX9) (T := TX9) (N := 17) hx hb hts iX9 hown hK hP 0 rfl rfl 6 (by decide) (hts _ wd_96) (fun _ h9 => h9) rfl dX9_order_9 ?_
  refine cVv (wr := [(xh, .inr (9, [.ref xq1, .int 0, .int (-1), .ref xq2, .ref xq6, .ref xq14, .ref xq22, .ref xq26, .ref xq31, .ref xq35, .int 0, .ref xq36, .int 0, .ref xq41, .ref xq44, .ref xq50, .ref xq59])), (xq56, .inl (cI, 128, .inl z0)), (xq57, .inl (cI, 128, .inl z0)), (xq58, .inl (cI, 128, .inl z0))]) (rest := []) (k_gather xq50 xq53 xq54 xq55 xq56 xq57 xq58 xq6 xq9 xq10 xq11 xq12 xq13 xq22 xu23) okV_X1_gather wd_243 hx hb hml hown hts hK hP hD hS hA hN hl.1 [1, 2, 3, 7, 8, 9] [0, 4, 5, 6] rfl rfl rfl rfl (by decide) rfl rfl rfl (Nat.le_of_ble_eq_true rfl) (Nat.le_of_ble_eq_true rfl) (Nat.le_of_ble_eq_true rfl) (Nat.le_of_ble_eq_true rfl) (Nat.le_of_ble_eq_true rfl) dX9_order_12 (fun u_1 H locs hw_u_1 hP hD hS => ?_)
  have hP : va_P D classes [(xh, .inr (9, [.ref xq1, .int 0, .int (-1), .ref xq2, .ref xq6, .ref xq14, .ref xq22, .ref xq26, .ref xq31, .ref xq35, .int 0, .ref xq36, .int 0, .ref xq41, .ref xq44, .ref xq50, .ref xq59])), (xq56, .inl (cI, 128, .inl z0)), (xq57, .inl (cI, 128, .inl z0)), (xq58, .inl (cI, 128, .inl z0)), (xq50, .inr (1, [.int 0, .ref xq53, .ref xq54, .ref xq55, .ref xq56, .ref xq57, .ref xq58, .int 0, .int 0, .ref xq6])), (xq6, .inr (8, [.int 0, .int 1, .int 0, .int 0, .int 0, .ref xq9, .ref xq10, .ref xq11, .ref xq12, .ref xq13]))] H := hP
  have hD : va_D A [(xh, .inr (9, [.ref xq1, .int 0, .int (-1), .ref xq2, .ref xq6, .ref xq14, .ref xq22, .ref xq26, .ref xq31, .ref xq35, .int 0, .ref xq36, .int 0, .ref xq41, .ref xq44, .ref xq50, .ref xq59])), (xq56, .inl (cI, 128, .inl z0)), (xq57, .inl (cI, 128, .inl z0)), (xq58, .inl (cI, 128, .inl z0)), (xq50, .inr (1, [.int 0, .ref xq53, .ref xq54, .ref xq55, .ref xq56, .ref xq57, .ref xq58, .int 0, .int 0, .ref xq6])), (xq6, .inr (8, [.int 0, .int 1, .int 0, .int 0, .int 0, .ref xq9, .ref xq10, .ref xq11, .ref xq12, .ref xq13]))] := hD
  refine lv_iconst (v := 0) hx hb dX9_order_15 (by decide) ?_
  refine lv_istore_n (lv' := [(2, .int 0), (0, .ref xh), (1, .int v)]) hx hb dX9_order_16 rfl hl (by decide) rfl (fun ls hl => ?_)
  refine lv_iload_n hx hb dX9_order_17 rfl (lv_at hl 0 rfl) ?_
  refine lv_aload_n hx hb dX9_order_18 rfl (lv_at hl 1 rfl) ?_
  refine va_get (D := D) (ci := 9) (v := .ref xq6) (C := RX9) (T := TX9) (N := 17) hx hb hts iX9 hown hK hP 0 rfl rfl 4 (by decide) (hts _ wd_89) (fun _ h9 => h9) rfl dX9_order_19 ?_
  refine va_get (D := D) (ci := 8) (v := .int 0) (C := RX8) (T := TX8) (N := 10) hx hb hts iX8 hown hK hP 5 rfl rfl 0 (by decide) (hts _ wd_212) (fun _ h9 => h9) rfl dX9_order_22 ?_
  refine lv_icmp_ge (tgt := 39) hx hb dX9_order_25 (by decide) (fun c_3 => ?_) (fun c_3 => absurd (by decide +kernel) c_3)
  refine lv_aload_n hx hb dX9_order_39 rfl (lv_at hl 1 rfl) ?_
  refine va_get (D := D) (ci := 9) (v := .ref xq50) (C := RX9) (T := TX9) (N := 17) hx hb hts iX9 hown hK hP 0 rfl rfl 15 (by decide) (hts _ wd_132) (fun _ h9 => h9) rfl dX9_order_40 ?_
  refine cVv (wr := [(xh, .inr (9, [.ref xq1, .int 0, .int (-1), .ref xq2, .ref xq6, .ref xq14, .ref xq22, .ref xq26, .ref xq31, .ref xq35, .int 0, .ref xq36, .int 0, .ref xq41, .ref xq44, .ref xq50, .ref xq59]))]) (rest := []) (k_solve xq50 0 xq53 xq54 xq55 xq56 xq57 xq58 xq6 xq9 xq10 xq11 xq12 xq13) okV_X1_solve wd_247 hx hb hml hown hts hK hP hD hS hA hN hl.1 [4, 1, 2, 3, 5] [0] rfl rfl rfl rfl (by decide) rfl rfl rfl (Nat.le_of_ble_eq_true rfl) (Nat.le_of_ble_eq_true rfl) (Nat.le_of_ble_eq_true rfl) (Nat.le_of_ble_eq_true rfl) (Nat.le_of_ble_eq_true rfl) dX9_order_43 (fun u_4 H locs hw_u_4 hP hD hS => ?_)
  have hP : va_P D classes [(xh, .inr (9, [.ref xq1, .int 0, .int (-1), .ref xq2, .ref xq6, .ref xq14, .ref xq22, .ref xq26, .ref xq31, .ref xq35, .int 0, .ref xq36, .int 0, .ref xq41, .ref xq44, .ref xq50, .ref xq59])), (xq50, .inr (1, [.int 0, .ref xq53, .ref xq54, .ref xq55, .ref xq56, .ref xq57, .ref xq58, .int 0, .int 0, .ref xq6])), (xq6, .inr (8, [.int 0, .int 1, .int 0, .int 0, .int 0, .ref xq9, .ref xq10, .ref xq11, .ref xq12, .ref xq13]))] H := hP
  have hD : va_D A [(xh, .inr (9, [.ref xq1, .int 0, .int (-1), .ref xq2, .ref xq6, .ref xq14, .ref xq22, .ref xq26, .ref xq31, .ref xq35, .int 0, .ref xq36, .int 0, .ref xq41, .ref xq44, .ref xq50, .ref xq59])), (xq50, .inr (1, [.int 0, .ref xq53, .ref xq54, .ref xq55, .ref xq56, .ref xq57, .ref xq58, .int 0, .int 0, .ref xq6])), (xq6, .inr (8, [.int 0, .int 1, .int 0, .int 0, .int 0, .ref xq9, .ref xq10, .ref xq11, .ref xq12, .ref xq13]))] := hD
  refine lv_iload_n hx hb dX9_order_46 rfl (lv_at hl 2 rfl) ?_
  refine lv_iconst (v := (-1)) hx hb dX9_order_47 (by decide) ?_
  refine lv_icmp_ne (tgt := 59) hx hb dX9_order_48 (by decide) (fun c_6 => ?_) (fun c_6 => ?_)
  · refine lv_iload_n hx hb dX9_order_59 rfl (lv_at hl 2 rfl) ?_
    refine lv_if_lt (tgt := 88) hx hb dX9_order_60 (by decide) (fun c_7 => ?_) (fun c_7 => ?_)
    · refine lv_iconst (v := (-1)) hx hb dX9_order_88 (by decide) ?_
      exact hret (-1) () _ _ _ _ dX9_order_89 rfl (if_neg c_6).symm (cutP (isC := []) hP rfl) (cutD (isC := []) hD rfl rfl) hS
    · refine lv_iload_n hx hb dX9_order_63 rfl (lv_at hl 2 rfl) ?_
      refine lv_aload_n hx hb dX9_order_64 rfl (lv_at hl 1 rfl) ?_
      refine va_get (D := D) (ci := 9) (v := .ref xq50) (C := RX9) (T := TX9) (N := 17) hx hb hts iX9 hown hK hP 0 rfl rfl 15 (by decide) (hts _ wd_132) (fun _ h9 => h9) rfl dX9_order_65 ?_
      refine va_get (D := D) (ci := 1) (v := .int 0) (C := RX1) (T := TX1) (N := 10) hx hb hts iX1 hown hK hP 1 rfl rfl 0 (by decide) (hts _ wd_251) (fun _ h9 => h9) rfl dX9_order_68 ?_
      refine lv_icmp_ge (tgt := 88) hx hb dX9_order_71 (by decide) (fun c_8 => ?_) (fun c_8 => absurd (Int32.not_lt.mp c_7) c_8)
      refine lv_iconst (v := (-1)) hx hb dX9_order_88 (by decide) ?_
      exact hret (-1) () _ _ _ _ dX9_order_89 rfl (if_neg c_6).symm (cutP (isC := []) hP rfl) (cutD (isC := []) hD rfl rfl) hS
  · refine lv_aload_n hx hb dX9_order_51 rfl (lv_at hl 1 rfl) ?_
    refine va_get (D := D) (ci := 9) (v := .ref xq50) (C := RX9) (T := TX9) (N := 17) hx hb hts iX9 hown hK hP 0 rfl rfl 15 (by decide) (hts _ wd_132) (fun _ h9 => h9) rfl dX9_order_52 ?_
    refine va_get (D := D) (ci := 1) (v := .int 0) (C := RX1) (T := TX1) (N := 10) hx hb hts iX1 hown hK hP 1 rfl rfl 0 (by decide) (hts _ wd_251) (fun _ h9 => h9) rfl dX9_order_55 ?_
    exact hret 0 () _ _ _ _ dX9_order_58 rfl (if_pos c_6).symm (cutP (isC := []) hP rfl) (cutD (isC := []) hD rfl rfl) hS
def rm_k_x_wornOut : Room := { frames := 0, cells := 0, slots := 0, locals := 0 }
set_option maxHeartbeats 4000000 in
set_option maxRecDepth 100000 in
theorem k_x_wornOut {l : Launch} {D : va_G} {cI cZ : ClassId} {sz : Nat} (xh xq1 xq2 xq6 xq14 xq22 xq26 xq31 xq35 xq36 xq41 xq44 xq50 xq59 xq9 xq10 xq11 xq12 xq13 : Nat) : KI l yX9_wornOut cX9_wornOut 6 (some .int) rm_k_x_wornOut D cI cZ [.ref xh] sz [(xh, .inr (9, [.ref xq1, .int 0, .int (-1), .ref xq2, .ref xq6, .ref xq14, .ref xq22, .ref xq26, .ref xq31, .ref xq35, .int 0, .ref xq36, .int 0, .ref xq41, .ref xq44, .ref xq50, .ref xq59])), (xq6, .inr (8, [.int 0, .int 1, .int 0, .int 0, .int 0, .ref xq9, .ref xq10, .ref xq11, .ref xq12, .ref xq13]))] (fun (r : Int32) (_ : Unit) => r = (-1)) (fun (_ : Unit) => []) := by
  refine KI.go rfl (Nat.le_of_ble_eq_true rfl) ?_
  intro p e s m args below meth c ls A Q hx hb hml hts hown hin hP hK hD hS hA hN hl hret
  have hl : lv_has ls 6 [(0, .ref xh)] := hl
  refine lv_iconst (v := (-1)) hx hb dX9_wornOut_0 (by decide) ?_
  refine lv_istore_n (lv' := [(1, .int (-1)), (0, .ref xh)]) hx hb dX9_wornOut_1 rfl hl (by decide) rfl (fun ls hl => ?_)
  refine lv_iconst (v := 0) hx hb dX9_wornOut_2 (by decide) ?_
  refine lv_istore_n (lv' := [(2, .int 0), (1, .int (-1)), (0, .ref xh)]) hx hb dX9_wornOut_3 rfl hl (by decide) rfl (fun ls hl => ?_)
  refine lv_iconst (v := 0) hx hb dX9_wornOut_4 (by decide) ?_
  refine lv_istore_n (lv' := [(3, .int 0), (2, .int 0), (1, .int (-1)), (0, .ref xh)]) hx hb dX9_wornOut_5 rfl hl (by decide) rfl (fun ls hl => ?_)
  refine lv_iload_n hx hb dX9_wornOut_6 rfl (lv_at hl 0 rfl) ?_
  refine lv_aload_n hx hb dX9_wornOut_7 rfl (lv_at hl 3 rfl) ?_
  refine va_get (D := D) (ci := 9) (v := .ref xq6) (C := RX9) (T := TX9) (N := 17) hx hb hts iX9 hown hK hP 0 rfl rfl 4 (by decide) (hts _ wd_89) (fun _ h9 => h9) rfl dX9_wornOut_8 ?_
  refine va_get (D := D) (ci := 8) (v := .int 0) (C := RX8) (T := TX8) (N := 10) hx hb hts iX8 hown hK hP 1 rfl rfl 2 (by decide) (hts _ wd_214) (fun _ h9 => h9) rfl dX9_wornOut_11 ?_
  refine lv_icmp_ge (tgt := 91) hx hb dX9_wornOut_14 (by decide) (fun c_1 => ?_) (fun c_1 => absurd (by decide +kernel) c_1)
  refine lv_iload_n hx hb dX9_wornOut_91 rfl (lv_at hl 2 rfl) ?_
  exact hret (-1) () _ _ _ _ dX9_wornOut_92 rfl rfl (cutP (isC := []) hP rfl) (cutD (isC := []) hD rfl rfl) hS
def rm_k_x_carried : Room := { frames := 3, cells := 0, slots := 0, locals := 64 }
set_option maxHeartbeats 4000000 in
set_option maxRecDepth 100000 in
theorem k_x_carried {l : Launch} {D : va_G} {cI cZ : ClassId} {sz : Nat} (xh xq1 xq2 xq6 xq14 xq22 xq26 xq31 xq35 xq36 xq41 xq44 xq50 xq59 xq9 xq10 xq11 xq12 xq13 xu23 : Nat) (v : Int32) : KI l yX9_carried cX9_carried 5 (some .int) rm_k_x_carried D cI cZ [.ref xh, .int v] sz [(xh, .inr (9, [.ref xq1, .int 0, .int (-1), .ref xq2, .ref xq6, .ref xq14, .ref xq22, .ref xq26, .ref xq31, .ref xq35, .int 0, .ref xq36, .int 0, .ref xq41, .ref xq44, .ref xq50, .ref xq59])), (xq6, .inr (8, [.int 0, .int 1, .int 0, .int 0, .int 0, .ref xq9, .ref xq10, .ref xq11, .ref xq12, .ref xq13])), (xq22, .inr (7, [.ref xu23])), (xu23, .inl (cI, 41, .inl (cB2 z0 7)))] (fun (r : Int32) (_ : Unit) => r = carriedS v) (fun (_ : Unit) => []) := by
  refine KI.go rfl (Nat.le_of_ble_eq_true rfl) ?_
  intro p e s m args below meth c ls A Q hx hb hml hts hown hin hP hK hD hS hA hN hl hret
  have hl : lv_has ls 5 [(0, .ref xh), (1, .int v)] := hl
  refine lv_iload_n hx hb dX9_carried_0 rfl (lv_at hl 1 rfl) ?_
  refine lv_iconst (v := (-1)) hx hb dX9_carried_1 (by decide) ?_
  refine lv_icmp_eq (tgt := 19) hx hb dX9_carried_2 (by decide) (fun c_1 => ?_) (fun c_1 => ?_)
  · refine lv_aload_n hx hb dX9_carried_19 rfl (lv_at hl 0 rfl) ?_
    refine va_get (D := D) (ci := 9) (v := .ref xq22) (C := RX9) (T := TX9) (N := 17) hx hb hts iX9 hown hK hP 0 rfl rfl 6 (by decide) (hts _ wd_96) (fun _ h9 => h9) rfl dX9_carried_20 ?_
    refine lv_iconst (v := 0) hx hb dX9_carried_23 (by decide) ?_
    refine cVi (wr := [(xh, .inr (9, [.ref xq1, .int 0, .int (-1), .ref xq2, .ref xq6, .ref xq14, .ref xq22, .ref xq26, .ref xq31, .ref xq35, .int 0, .ref xq36, .int 0, .ref xq41, .ref xq44, .ref xq50, .ref xq59])), (xq6, .inr (8, [.int 0, .int 1, .int 0, .int 0, .int 0, .ref xq9, .ref xq10, .ref xq11, .ref xq12, .ref xq13]))]) (rest := []) (k_coupleAt0 xq22 xu23) okV_X7_coupleAt wd_252 hx hb hml hown hts hK hP hD hS hA hN hl.1 [2, 3] [0, 1] rfl rfl rfl rfl (by decide) rfl rfl rfl (Nat.le_of_ble_eq_true rfl) (Nat.le_of_ble_eq_true rfl) (Nat.le_of_ble_eq_true rfl) (Nat.le_of_ble_eq_true rfl) (Nat.le_of_ble_eq_true rfl) dX9_carried_24 (fun r_3 u_2 H locs hw_u_2 hP hD hS => ?_)
    obtain rfl := hw_u_2
    have hP : va_P D classes [(xh, .inr (9, [.ref xq1, .int 0, .int (-1), .ref xq2, .ref xq6, .ref xq14, .ref xq22, .ref xq26, .ref xq31, .ref xq35, .int 0, .ref xq36, .int 0, .ref xq41, .ref xq44, .ref xq50, .ref xq59])), (xq6, .inr (8, [.int 0, .int 1, .int 0, .int 0, .int 0, .ref xq9, .ref xq10, .ref xq11, .ref xq12, .ref xq13])), (xq22, .inr (7, [.ref xu23])), (xu23, .inl (cI, 41, .inl (cB2 z0 7)))] H := hP
    have hD : va_D A [(xh, .inr (9, [.ref xq1, .int 0, .int (-1), .ref xq2, .ref xq6, .ref xq14, .ref xq22, .ref xq26, .ref xq31, .ref xq35, .int 0, .ref xq36, .int 0, .ref xq41, .ref xq44, .ref xq50, .ref xq59])), (xq6, .inr (8, [.int 0, .int 1, .int 0, .int 0, .int 0, .ref xq9, .ref xq10, .ref xq11, .ref xq12, .ref xq13])), (xq22, .inr (7, [.ref xu23])), (xu23, .inl (cI, 41, .inl (cB2 z0 7)))] := hD
    refine lv_istore_n (lv' := [(2, .int (-1)), (0, .ref xh), (1, .int v)]) hx hb dX9_carried_27 rfl hl (by decide) rfl (fun ls hl => ?_)
    refine lv_iload_n hx hb dX9_carried_28 rfl (lv_at hl 0 rfl) ?_
    refine lv_iconst (v := (-1)) hx hb dX9_carried_29 (by decide) ?_
    refine lv_icmp_ne (tgt := 36) hx hb dX9_carried_30 (by decide) (fun c_4 => absurd (by decide +kernel) c_4) (fun c_4 => ?_)
    refine lv_ldc (v := (-1000000003)) hx hb hown (hts _ wd_242) dX9_carried_33 ?_
    exact hret (-1000000003) () _ _ _ _ dX9_carried_35 rfl (if_pos c_1).symm (cutP (isC := []) hP rfl) (cutD (isC := []) hD rfl rfl) hS
  · refine lv_aload_n hx hb dX9_carried_5 rfl (lv_at hl 0 rfl) ?_
    refine va_get (D := D) (ci := 9) (v := .ref xq6) (C := RX9) (T := TX9) (N := 17) hx hb hts iX9 hown hK hP 0 rfl rfl 4 (by decide) (hts _ wd_89) (fun _ h9 => h9) rfl dX9_carried_6 ?_
    refine lv_iload_n hx hb dX9_carried_9 rfl (lv_at hl 1 rfl) ?_
    refine cVi (wr := [(xh, .inr (9, [.ref xq1, .int 0, .int (-1), .ref xq2, .ref xq6, .ref xq14, .ref xq22, .ref xq26, .ref xq31, .ref xq35, .int 0, .ref xq36, .int 0, .ref xq41, .ref xq44, .ref xq50, .ref xq59])), (xq22, .inr (7, [.ref xu23])), (xu23, .inl (cI, 41, .inl (cB2 z0 7)))]) (rest := []) (k_hasBridge xq6 0 1 0 0 0 xq9 xq10 xq11 xq12 xq13 v) okV_X8_hasBridge wd_229 hx hb hml hown hts hK hP hD hS hA hN hl.1 [1] [0, 2, 3] rfl rfl rfl rfl (by decide) rfl rfl rfl (Nat.le_of_ble_eq_true rfl) (Nat.le_of_ble_eq_true rfl) (Nat.le_of_ble_eq_true rfl) (Nat.le_of_ble_eq_true rfl) (Nat.le_of_ble_eq_true rfl) dX9_carried_10 (fun r_6 u_5 H locs hw_u_5 hP hD hS => ?_)
    obtain rfl := hw_u_5
    have hP : va_P D classes [(xh, .inr (9, [.ref xq1, .int 0, .int (-1), .ref xq2, .ref xq6, .ref xq14, .ref xq22, .ref xq26, .ref xq31, .ref xq35, .int 0, .ref xq36, .int 0, .ref xq41, .ref xq44, .ref xq50, .ref xq59])), (xq22, .inr (7, [.ref xu23])), (xu23, .inl (cI, 41, .inl (cB2 z0 7))), (xq6, .inr (8, [.int 0, .int 1, .int 0, .int 0, .int 0, .ref xq9, .ref xq10, .ref xq11, .ref xq12, .ref xq13]))] H := hP
    have hD : va_D A [(xh, .inr (9, [.ref xq1, .int 0, .int (-1), .ref xq2, .ref xq6, .ref xq14, .ref xq22, .ref xq26, .ref xq31, .ref xq35, .int 0, .ref xq36, .int 0, .ref xq41, .ref xq44, .ref xq50, .ref xq59])), (xq22, .inr (7, [.ref xu23])), (xu23, .inl (cI, 41, .inl (cB2 z0 7))), (xq6, .inr (8, [.int 0, .int 1, .int 0, .int 0, .int 0, .ref xq9, .ref xq10, .ref xq11, .ref xq12, .ref xq13]))] := hD
    refine lv_topi (fun z_7 ez_7 => ?_)
    obtain rfl : z_7 = 0 := ez_7.trans (hasF0 _)
    refine lv_if_ne (tgt := 19) hx hb dX9_carried_13 (by decide) (fun c_8 => absurd (by decide +kernel) c_8) (fun c_8 => ?_)
    refine lv_ldc (v := (-1000000001)) hx hb hown (hts _ wd_233) dX9_carried_16 ?_
    exact hret (-1000000001) () _ _ _ _ dX9_carried_18 rfl (if_neg c_1).symm (cutP (isC := []) hP rfl) (cutD (isC := []) hD rfl rfl) hS
def rm_k_x_fleet : Room := { frames := 3, cells := 0, slots := 0, locals := 65 }
set_option maxHeartbeats 4000000 in
set_option maxRecDepth 100000 in
theorem k_x_fleet {l : Launch} {D : va_G} {cI cZ : ClassId} {sz : Nat} (xh xq1 xq2 xq6 xq14 xq22 xq26 xq31 xq35 xq36 xq41 xq44 xq50 xq59 xq9 xq10 xq11 xq12 xq13 xu23 : Nat) (v : Int32) : KI l yX9_fleet cX9_fleet 7 (some .int) rm_k_x_fleet D cI cZ [.ref xh, .int v] sz [(xh, .inr (9, [.ref xq1, .int 0, .int (-1), .ref xq2, .ref xq6, .ref xq14, .ref xq22, .ref xq26, .ref xq31, .ref xq35, .int 0, .ref xq36, .int 0, .ref xq41, .ref xq44, .ref xq50, .ref xq59])), (xq6, .inr (8, [.int 0, .int 1, .int 0, .int 0, .int 0, .ref xq9, .ref xq10, .ref xq11, .ref xq12, .ref xq13])), (xq22, .inr (7, [.ref xu23])), (xu23, .inl (cI, 41, .inl (cB2 z0 7)))] (fun (r : Int32) (_ : Unit) => r = rg 1 9 v (-1000000002) 0) (fun (_ : Unit) => []) := by
  refine KI.go rfl (Nat.le_of_ble_eq_true rfl) ?_
  intro p e s m args below meth c ls A Q hx hb hml hts hown hin hP hK hD hS hA hN hl hret
  have hl : lv_has ls 7 [(0, .ref xh), (1, .int v)] := hl
  refine lv_iload_n hx hb dX9_fleet_0 rfl (lv_at hl 1 rfl) ?_
  refine lv_iconst (v := 1) hx hb dX9_fleet_1 (by decide) ?_
  refine lv_icmp_lt (tgt := 11) hx hb dX9_fleet_2 (by decide) (fun c_1 => ?_) (fun c_1 => ?_)
  · refine lv_ldc (v := (-1000000002)) hx hb hown (hts _ wd_191) dX9_fleet_11 ?_
    exact hret (-1000000002) () _ _ _ _ dX9_fleet_13 rfl (rg_lo c_1) (cutP (isC := []) hP rfl) (cutD (isC := []) hD rfl rfl) hS
  · refine lv_iload_n hx hb dX9_fleet_5 rfl (lv_at hl 1 rfl) ?_
    refine lv_bipush (v := 9) hx hb dX9_fleet_6 (by decide) ?_
    refine lv_icmp_le (tgt := 14) hx hb dX9_fleet_8 (by decide) (fun c_2 => ?_) (fun c_2 => ?_)
    · refine lv_iload_n hx hb dX9_fleet_14 rfl (lv_at hl 1 rfl) ?_
      refine lv_aload_n hx hb dX9_fleet_15 rfl (lv_at hl 0 rfl) ?_
      refine va_get (D := D) (ci := 9) (v := .ref xq6) (C := RX9) (T := TX9) (N := 17) hx hb hts iX9 hown hK hP 0 rfl rfl 4 (by decide) (hts _ wd_89) (fun _ h9 => h9) rfl dX9_fleet_16 ?_
      refine cVi (wr := [(xh, .inr (9, [.ref xq1, .int 0, .int (-1), .ref xq2, .ref xq6, .ref xq14, .ref xq22, .ref xq26, .ref xq31, .ref xq35, .int 0, .ref xq36, .int 0, .ref xq41, .ref xq44, .ref xq50, .ref xq59])), (xq22, .inr (7, [.ref xu23])), (xu23, .inl (cI, 41, .inl (cB2 z0 7)))]) (rest := [.int v]) (k_needOfAll xq6 xq9 xq10 xq11 xq12 xq13) okV_X8_needOfAll wd_256 hx hb hml hown hts hK hP hD hS hA hN hl.1 [1] [0, 2, 3] rfl rfl rfl rfl (by decide) rfl rfl rfl (Nat.le_of_ble_eq_true rfl) (Nat.le_of_ble_eq_true rfl) (Nat.le_of_ble_eq_true rfl) (Nat.le_of_ble_eq_true rfl) (Nat.le_of_ble_eq_true rfl) dX9_fleet_19 (fun r_4 u_3 H locs hw_u_3 hP hD hS => ?_)
      obtain rfl := hw_u_3
      have hP : va_P D classes [(xh, .inr (9, [.ref xq1, .int 0, .int (-1), .ref xq2, .ref xq6, .ref xq14, .ref xq22, .ref xq26, .ref xq31, .ref xq35, .int 0, .ref xq36, .int 0, .ref xq41, .ref xq44, .ref xq50, .ref xq59])), (xq22, .inr (7, [.ref xu23])), (xu23, .inl (cI, 41, .inl (cB2 z0 7))), (xq6, .inr (8, [.int 0, .int 1, .int 0, .int 0, .int 0, .ref xq9, .ref xq10, .ref xq11, .ref xq12, .ref xq13]))] H := hP
      have hD : va_D A [(xh, .inr (9, [.ref xq1, .int 0, .int (-1), .ref xq2, .ref xq6, .ref xq14, .ref xq22, .ref xq26, .ref xq31, .ref xq35, .int 0, .ref xq36, .int 0, .ref xq41, .ref xq44, .ref xq50, .ref xq59])), (xq22, .inr (7, [.ref xu23])), (xu23, .inl (cI, 41, .inl (cB2 z0 7))), (xq6, .inr (8, [.int 0, .int 1, .int 0, .int 0, .int 0, .ref xq9, .ref xq10, .ref xq11, .ref xq12, .ref xq13]))] := hD
      refine lv_imul hx hb dX9_fleet_22 ?_
      refine lv_topi (fun z_5 ez_5 => ?_)
      obtain rfl : z_5 = 0 := ez_5.trans (i_mul0 _)
      refine lv_istore_n (lv' := [(2, .int 0), (0, .ref xh), (1, .int v)]) hx hb dX9_fleet_23 rfl hl (by decide) rfl (fun ls hl => ?_)
      refine lv_iconst (v := (-1)) hx hb dX9_fleet_24 (by decide) ?_
      refine lv_istore_n (lv' := [(3, .int (-1)), (2, .int 0), (0, .ref xh), (1, .int v)]) hx hb dX9_fleet_25 rfl hl (by decide) rfl (fun ls hl => ?_)
      refine lv_iconst (v := 0) hx hb dX9_fleet_26 (by decide) ?_
      refine lv_istore (lv' := [(4, .int 0), (3, .int (-1)), (2, .int 0), (0, .ref xh), (1, .int v)]) hx hb dX9_fleet_27 hl (by decide) rfl (fun ls hl => ?_)
      refine lv_iload hx hb dX9_fleet_29 (lv_at hl 0 rfl) ?_
      refine lv_iconst (v := 1) hx hb dX9_fleet_31 (by decide) ?_
      refine lv_aload_n hx hb dX9_fleet_32 rfl (lv_at hl 3 rfl) ?_
      refine va_get (D := D) (ci := 9) (v := .ref xq6) (C := RX9) (T := TX9) (N := 17) hx hb hts iX9 hown hK hP 0 rfl rfl 4 (by decide) (hts _ wd_89) (fun _ h9 => h9) rfl dX9_fleet_33 ?_
      refine va_get (D := D) (ci := 8) (v := .int 0) (C := RX8) (T := TX8) (N := 10) hx hb hts iX8 hown hK hP 3 rfl rfl 2 (by decide) (hts _ wd_214) (fun _ h9 => h9) rfl dX9_fleet_36 ?_
      refine lv_ishl hx hb dX9_fleet_39 ?_
      refine lv_topi (fun z_6 ez_6 => ?_)
      obtain rfl : z_6 = 1 := ez_6.trans (by decide +kernel)
      refine lv_icmp_ge (tgt := 119) hx hb dX9_fleet_40 (by decide) (fun c_7 => absurd c_7 (by decide +kernel)) (fun c_7 => ?_)
      refine lv_iload_n hx hb dX9_fleet_43 rfl (lv_at hl 1 rfl) ?_
      refine lv_iconst (v := (-1)) hx hb dX9_fleet_44 (by decide) ?_
      refine lv_icmp_eq (tgt := 60) hx hb dX9_fleet_45 (by decide) (fun c_8 => ?_) (fun c_8 => absurd (by decide +kernel) c_8)
      refine lv_iconst (v := 1) hx hb dX9_fleet_60 (by decide) ?_
      refine lv_goto (tgt := 65) hx hb dX9_fleet_61 (by decide) ?_
      refine lv_istore (lv' := [(5, .int 1), (4, .int 0), (3, .int (-1)), (2, .int 0), (0, .ref xh), (1, .int v)]) hx hb dX9_fleet_65 hl (by decide) rfl (fun ls hl => ?_)
      refine lv_iload hx hb dX9_fleet_67 (lv_at hl 1 rfl) ?_
      refine lv_aload_n hx hb dX9_fleet_69 rfl (lv_at hl 4 rfl) ?_
      refine va_get (D := D) (ci := 9) (v := .ref xq22) (C := RX9) (T := TX9) (N := 17) hx hb hts iX9 hown hK hP 0 rfl rfl 6 (by decide) (hts _ wd_96) (fun _ h9 => h9) rfl dX9_fleet_70 ?_
      refine cVi (wr := [(xh, .inr (9, [.ref xq1, .int 0, .int (-1), .ref xq2, .ref xq6, .ref xq14, .ref xq22, .ref xq26, .ref xq31, .ref xq35, .int 0, .ref xq36, .int 0, .ref xq41, .ref xq44, .ref xq50, .ref xq59])), (xq6, .inr (8, [.int 0, .int 1, .int 0, .int 0, .int 0, .ref xq9, .ref xq10, .ref xq11, .ref xq12, .ref xq13]))]) (rest := [.int 0]) (k_reconciledSet xq22 xu23 (cB2 z0 7)) okV_X7_reconciledSet wd_218 hx hb hml hown hts hK hP hD hS hA hN hl.1 [1, 2] [0, 3] rfl rfl rfl rfl (by decide) rfl rfl rfl (Nat.le_of_ble_eq_true rfl) (Nat.le_of_ble_eq_true rfl) (Nat.le_of_ble_eq_true rfl) (Nat.le_of_ble_eq_true rfl) (Nat.le_of_ble_eq_true rfl) dX9_fleet_73 (fun r_10 u_9 H locs hw_u_9 hP hD hS => ?_)
      obtain rfl := hw_u_9
      have hP : va_P D classes [(xh, .inr (9, [.ref xq1, .int 0, .int (-1), .ref xq2, .ref xq6, .ref xq14, .ref xq22, .ref xq26, .ref xq31, .ref xq35, .int 0, .ref xq36, .int 0, .ref xq41, .ref xq44, .ref xq50, .ref xq59])), (xq6, .inr (8, [.int 0, .int 1, .int 0, .int 0, .int 0, .ref xq9, .ref xq10, .ref xq11, .ref xq12, .ref xq13])), (xq22, .inr (7, [.ref xu23])), (xu23, .inl (cI, 41, .inl (cB2 z0 7)))] H := hP
      have hD : va_D A [(xh, .inr (9, [.ref xq1, .int 0, .int (-1), .ref xq2, .ref xq6, .ref xq14, .ref xq22, .ref xq26, .ref xq31, .ref xq35, .int 0, .ref xq36, .int 0, .ref xq41, .ref xq44, .ref xq50, .ref xq59])), (xq6, .inr (8, [.int 0, .int 1, .int 0, .int 0, .int 0, .ref xq9, .ref xq10, .ref xq11, .ref xq12, .ref xq13])), (xq22, .inr (7, [.ref xu23])), (xu23, .inl (cI, 41, .inl (cB2 z0 7)))] := hD
      refine lv_topi (fun z_11 ez_11 => ?_)
      obtain rfl : z_11 = 0 := ez_11.trans (by decide +kernel)
      refine lv_iand hx hb dX9_fleet_76 ?_
      refine lv_topi (fun z_12 ez_12 => ?_)
      obtain rfl : z_12 = 0 := ez_12.trans (by decide +kernel)
      refine lv_if_ne (tgt := 84) hx hb dX9_fleet_77 (by decide) (fun c_13 => absurd (by decide +kernel) c_13) (fun c_13 => ?_)
      refine lv_iconst (v := 1) hx hb dX9_fleet_80 (by decide) ?_
      refine lv_goto (tgt := 85) hx hb dX9_fleet_81 (by decide) ?_
      refine lv_istore (lv' := [(6, .int 1), (5, .int 1), (4, .int 0), (3, .int (-1)), (2, .int 0), (0, .ref xh), (1, .int v)]) hx hb dX9_fleet_85 hl (by decide) rfl (fun ls hl => ?_)
      refine lv_iload hx hb dX9_fleet_87 (lv_at hl 1 rfl) ?_
      refine lv_if_eq (tgt := 113) hx hb dX9_fleet_89 (by decide) (fun c_14 => absurd c_14 (by decide +kernel)) (fun c_14 => ?_)
      refine lv_iload hx hb dX9_fleet_92 (lv_at hl 0 rfl) ?_
      refine lv_if_eq (tgt := 113) hx hb dX9_fleet_94 (by decide) (fun c_15 => absurd c_15 (by decide +kernel)) (fun c_15 => ?_)
      refine lv_aload_n hx hb dX9_fleet_97 rfl (lv_at hl 5 rfl) ?_
      refine va_get (D := D) (ci := 9) (v := .ref xq22) (C := RX9) (T := TX9) (N := 17) hx hb hts iX9 hown hK hP 0 rfl rfl 6 (by decide) (hts _ wd_96) (fun _ h9 => h9) rfl dX9_fleet_98 ?_
      refine lv_iload hx hb dX9_fleet_101 (lv_at hl 2 rfl) ?_
      refine cVi (wr := [(xh, .inr (9, [.ref xq1, .int 0, .int (-1), .ref xq2, .ref xq6, .ref xq14, .ref xq22, .ref xq26, .ref xq31, .ref xq35, .int 0, .ref xq36, .int 0, .ref xq41, .ref xq44, .ref xq50, .ref xq59])), (xq6, .inr (8, [.int 0, .int 1, .int 0, .int 0, .int 0, .ref xq9, .ref xq10, .ref xq11, .ref xq12, .ref xq13]))]) (rest := []) (k_grievanceOfSet0 xq22 xu23) okV_X7_grievanceOfSet wd_260 hx hb hml hown hts hK hP hD hS hA hN hl.1 [2, 3] [0, 1] rfl rfl rfl rfl (by decide) rfl rfl rfl (Nat.le_of_ble_eq_true rfl) (Nat.le_of_ble_eq_true rfl) (Nat.le_of_ble_eq_true rfl) (Nat.le_of_ble_eq_true rfl) (Nat.le_of_ble_eq_true rfl) dX9_fleet_103 (fun r_17 u_16 H locs hw_u_16 hP hD hS => ?_)
      obtain rfl := hw_u_16
      have hP : va_P D classes [(xh, .inr (9, [.ref xq1, .int 0, .int (-1), .ref xq2, .ref xq6, .ref xq14, .ref xq22, .ref xq26, .ref xq31, .ref xq35, .int 0, .ref xq36, .int 0, .ref xq41, .ref xq44, .ref xq50, .ref xq59])), (xq6, .inr (8, [.int 0, .int 1, .int 0, .int 0, .int 0, .ref xq9, .ref xq10, .ref xq11, .ref xq12, .ref xq13])), (xq22, .inr (7, [.ref xu23])), (xu23, .inl (cI, 41, .inl (cB2 z0 7)))] H := hP
      have hD : va_D A [(xh, .inr (9, [.ref xq1, .int 0, .int (-1), .ref xq2, .ref xq6, .ref xq14, .ref xq22, .ref xq26, .ref xq31, .ref xq35, .int 0, .ref xq36, .int 0, .ref xq41, .ref xq44, .ref xq50, .ref xq59])), (xq6, .inr (8, [.int 0, .int 1, .int 0, .int 0, .int 0, .ref xq9, .ref xq10, .ref xq11, .ref xq12, .ref xq13])), (xq22, .inr (7, [.ref xu23])), (xu23, .inl (cI, 41, .inl (cB2 z0 7)))] := hD
      refine lv_iload_n hx hb dX9_fleet_106 rfl (lv_at hl 4 rfl) ?_
      refine lv_icmp_lt (tgt := 113) hx hb dX9_fleet_107 (by decide) (fun c_18 => absurd c_18 (by decide +kernel)) (fun c_18 => ?_)
      refine lv_iload hx hb dX9_fleet_110 (lv_at hl 2 rfl) ?_
      refine lv_istore_n (lv' := [(3, .int 0), (6, .int 1), (5, .int 1), (4, .int 0), (2, .int 0), (0, .ref xh), (1, .int v)]) hx hb dX9_fleet_112 rfl hl (by decide) rfl (fun ls hl => ?_)
      refine lv_iinc (v := 1) (lv' := [(4, .int 1), (3, .int 0), (6, .int 1), (5, .int 1), (2, .int 0), (0, .ref xh), (1, .int v)]) hx hb dX9_fleet_113 hl (k := 3) rfl (by decide +kernel) (by decide) rfl (fun ls hl => ?_)
      refine lv_goto (tgt := 29) hx hb dX9_fleet_116 (by decide) ?_
      refine lv_iload hx hb dX9_fleet_29 (lv_at hl 0 rfl) ?_
      refine lv_iconst (v := 1) hx hb dX9_fleet_31 (by decide) ?_
      refine lv_aload_n hx hb dX9_fleet_32 rfl (lv_at hl 5 rfl) ?_
      refine va_get (D := D) (ci := 9) (v := .ref xq6) (C := RX9) (T := TX9) (N := 17) hx hb hts iX9 hown hK hP 0 rfl rfl 4 (by decide) (hts _ wd_89) (fun _ h9 => h9) rfl dX9_fleet_33 ?_
      refine va_get (D := D) (ci := 8) (v := .int 0) (C := RX8) (T := TX8) (N := 10) hx hb hts iX8 hown hK hP 1 rfl rfl 2 (by decide) (hts _ wd_214) (fun _ h9 => h9) rfl dX9_fleet_36 ?_
      refine lv_ishl hx hb dX9_fleet_39 ?_
      refine lv_topi (fun z_19 ez_19 => ?_)
      obtain rfl : z_19 = 1 := ez_19.trans (by decide +kernel)
      refine lv_icmp_ge (tgt := 119) hx hb dX9_fleet_40 (by decide) (fun c_20 => ?_) (fun c_20 => absurd (by decide +kernel) c_20)
      refine lv_iload_n hx hb dX9_fleet_119 rfl (lv_at hl 1 rfl) ?_
      exact hret 0 () _ _ _ _ dX9_fleet_120 rfl (rg_in c_1 c_2) (cutP (isC := []) hP rfl) (cutD (isC := []) hD rfl rfl) hS
    · refine lv_ldc (v := (-1000000002)) hx hb hown (hts _ wd_191) dX9_fleet_11 ?_
      exact hret (-1000000002) () _ _ _ _ dX9_fleet_13 rfl (rg_hi c_2) (cutP (isC := []) hP rfl) (cutD (isC := []) hD rfl rfl) hS
def rm_k_x_tear : Room := { frames := 1, cells := 0, slots := 0, locals := 20 }
set_option maxHeartbeats 4000000 in
set_option maxRecDepth 100000 in
theorem k_x_tear {l : Launch} {D : va_G} {cI cZ : ClassId} {sz : Nat} (xh xq1 xq2 xq6 xq14 xq22 xq26 xq31 xq35 xq36 xq41 xq44 xq50 xq59 xq39 xq40 : Nat) : KI l yX9_tear cX9_tear 2 (some .int) rm_k_x_tear D cI cZ [.ref xh] sz [(xh, .inr (9, [.ref xq1, .int 0, .int (-1), .ref xq2, .ref xq6, .ref xq14, .ref xq22, .ref xq26, .ref xq31, .ref xq35, .int 0, .ref xq36, .int 0, .ref xq41, .ref xq44, .ref xq50, .ref xq59])), (xq36, .inr (0, [.int 0, .ref xq39, .ref xq40]))] (fun (r : Int32) (_ : Unit) => r = 0) (fun (_ : Unit) => []) := by
  refine KI.go rfl (Nat.le_of_ble_eq_true rfl) ?_
  intro p e s m args below meth c ls A Q hx hb hml hts hown hin hP hK hD hS hA hN hl hret
  have hl : lv_has ls 2 [(0, .ref xh)] := hl
  refine lv_aload_n hx hb dX9_tear_0 rfl (lv_at hl 0 rfl) ?_
  refine va_get (D := D) (ci := 9) (v := .ref xq36) (C := RX9) (T := TX9) (N := 17) hx hb hts iX9 hown hK hP 0 rfl rfl 11 (by decide) (hts _ wd_113) (fun _ h9 => h9) rfl dX9_tear_1 ?_
  refine va_get (D := D) (ci := 0) (v := .int 0) (C := RX0) (T := TX0) (N := 3) hx hb hts iX0 hown hK hP 1 rfl rfl 0 (by decide) (hts _ wd_227) (fun _ h9 => h9) rfl dX9_tear_4 ?_
  refine lv_istore_n (lv' := [(1, .int 0), (0, .ref xh)]) hx hb dX9_tear_7 rfl hl (by decide) rfl (fun ls hl => ?_)
  refine lv_aload_n hx hb dX9_tear_8 rfl (lv_at hl 1 rfl) ?_
  refine va_get (D := D) (ci := 9) (v := .ref xq36) (C := RX9) (T := TX9) (N := 17) hx hb hts iX9 hown hK hP 0 rfl rfl 11 (by decide) (hts _ wd_113) (fun _ h9 => h9) rfl dX9_tear_9 ?_
  refine cVv (wr := [(xh, .inr (9, [.ref xq1, .int 0, .int (-1), .ref xq2, .ref xq6, .ref xq14, .ref xq22, .ref xq26, .ref xq31, .ref xq35, .int 0, .ref xq36, .int 0, .ref xq41, .ref xq44, .ref xq50, .ref xq59]))]) (rest := []) (k_bookclear xq36 0 xq39 xq40) okV_X0_clear wd_208 hx hb hml hown hts hK hP hD hS hA hN hl.1 [1] [0] rfl rfl rfl rfl (by decide) rfl rfl rfl (Nat.le_of_ble_eq_true rfl) (Nat.le_of_ble_eq_true rfl) (Nat.le_of_ble_eq_true rfl) (Nat.le_of_ble_eq_true rfl) (Nat.le_of_ble_eq_true rfl) dX9_tear_12 (fun u_1 H locs hw_u_1 hP hD hS => ?_)
  have hP : va_P D classes [(xh, .inr (9, [.ref xq1, .int 0, .int (-1), .ref xq2, .ref xq6, .ref xq14, .ref xq22, .ref xq26, .ref xq31, .ref xq35, .int 0, .ref xq36, .int 0, .ref xq41, .ref xq44, .ref xq50, .ref xq59])), (xq36, .inr (0, [.int 0, .ref xq39, .ref xq40]))] H := hP
  have hD : va_D A [(xh, .inr (9, [.ref xq1, .int 0, .int (-1), .ref xq2, .ref xq6, .ref xq14, .ref xq22, .ref xq26, .ref xq31, .ref xq35, .int 0, .ref xq36, .int 0, .ref xq41, .ref xq44, .ref xq50, .ref xq59])), (xq36, .inr (0, [.int 0, .ref xq39, .ref xq40]))] := hD
  refine lv_iload_n hx hb dX9_tear_15 rfl (lv_at hl 0 rfl) ?_
  exact hret 0 () _ _ _ _ dX9_tear_16 rfl rfl (cutP (isC := []) hP rfl) (cutD (isC := []) hD rfl rfl) hS
def rm_k_x_judge : Room := { frames := 1, cells := 0, slots := 0, locals := 22 }
set_option maxHeartbeats 4000000 in
set_option maxRecDepth 100000 in
theorem k_x_judge {l : Launch} {D : va_G} {cI cZ : ClassId} {sz : Nat} (xh xq1 xq2 xq6 xq14 xq22 xq26 xq31 xq35 xq36 xq41 xq44 xq50 xq59 xq39 xq40 : Nat) : KI l yX9_judge cX9_judge 1 (some .int) rm_k_x_judge D cI cZ [.ref xh] sz [(xh, .inr (9, [.ref xq1, .int 0, .int (-1), .ref xq2, .ref xq6, .ref xq14, .ref xq22, .ref xq26, .ref xq31, .ref xq35, .int 0, .ref xq36, .int 0, .ref xq41, .ref xq44, .ref xq50, .ref xq59])), (xq36, .inr (0, [.int 0, .ref xq39, .ref xq40]))] (fun (r : Int32) (_ : Unit) => r = (-1)) (fun (_ : Unit) => []) := by
  refine KI.go rfl (Nat.le_of_ble_eq_true rfl) ?_
  intro p e s m args below meth c ls A Q hx hb hml hts hown hin hP hK hD hS hA hN hl hret
  have hl : lv_has ls 1 [(0, .ref xh)] := hl
  refine lv_aload_n hx hb dX9_judge_0 rfl (lv_at hl 0 rfl) ?_
  refine va_get (D := D) (ci := 9) (v := .ref xq36) (C := RX9) (T := TX9) (N := 17) hx hb hts iX9 hown hK hP 0 rfl rfl 11 (by decide) (hts _ wd_113) (fun _ h9 => h9) rfl dX9_judge_1 ?_
  refine lv_aload_n hx hb dX9_judge_4 rfl (lv_at hl 0 rfl) ?_
  refine va_get (D := D) (ci := 9) (v := .ref xq22) (C := RX9) (T := TX9) (N := 17) hx hb hts iX9 hown hK hP 0 rfl rfl 6 (by decide) (hts _ wd_96) (fun _ h9 => h9) rfl dX9_judge_5 ?_
  refine cVi (wr := [(xh, .inr (9, [.ref xq1, .int 0, .int (-1), .ref xq2, .ref xq6, .ref xq14, .ref xq22, .ref xq26, .ref xq31, .ref xq35, .int 0, .ref xq36, .int 0, .ref xq41, .ref xq44, .ref xq50, .ref xq59]))]) (rest := []) (k_firstWrong xq36 xq39 xq40 xq22) okV_X0_firstWrong wd_261 hx hb hml hown hts hK hP hD hS hA hN hl.1 [1] [0] rfl rfl rfl rfl (by decide) rfl rfl rfl (Nat.le_of_ble_eq_true rfl) (Nat.le_of_ble_eq_true rfl) (Nat.le_of_ble_eq_true rfl) (Nat.le_of_ble_eq_true rfl) (Nat.le_of_ble_eq_true rfl) dX9_judge_8 (fun r_2 u_1 H locs hw_u_1 hP hD hS => ?_)
  obtain rfl := hw_u_1
  have hP : va_P D classes [(xh, .inr (9, [.ref xq1, .int 0, .int (-1), .ref xq2, .ref xq6, .ref xq14, .ref xq22, .ref xq26, .ref xq31, .ref xq35, .int 0, .ref xq36, .int 0, .ref xq41, .ref xq44, .ref xq50, .ref xq59])), (xq36, .inr (0, [.int 0, .ref xq39, .ref xq40]))] H := hP
  have hD : va_D A [(xh, .inr (9, [.ref xq1, .int 0, .int (-1), .ref xq2, .ref xq6, .ref xq14, .ref xq22, .ref xq26, .ref xq31, .ref xq35, .int 0, .ref xq36, .int 0, .ref xq41, .ref xq44, .ref xq50, .ref xq59])), (xq36, .inr (0, [.int 0, .ref xq39, .ref xq40]))] := hD
  exact hret (-1) () _ _ _ _ dX9_judge_11 rfl rfl (cutP (isC := []) hP rfl) (cutD (isC := []) hD rfl rfl) hS
def rm_k_x_seed : Room := { frames := 0, cells := 0, slots := 0, locals := 0 }
set_option maxHeartbeats 4000000 in
set_option maxRecDepth 100000 in
theorem k_x_seed {l : Launch} {D : va_G} {cI cZ : ClassId} {sz : Nat} (xh xq1 xq2 xq6 xq14 xq22 xq26 xq31 xq35 xq36 xq41 xq44 xq50 xq59 : Nat) (v : Int32) : KI l yX9_seed cX9_seed 3 (some .int) rm_k_x_seed D cI cZ [.ref xh, .int v] sz [(xh, .inr (9, [.ref xq1, .int 0, .int (-1), .ref xq2, .ref xq6, .ref xq14, .ref xq22, .ref xq26, .ref xq31, .ref xq35, .int 0, .ref xq36, .int 0, .ref xq41, .ref xq44, .ref xq50, .ref xq59]))] (fun (r : Int32) (_ : Unit) => r = seedS v) (fun (_ : Unit) => []) := by
  refine KI.go rfl (Nat.le_of_ble_eq_true rfl) ?_
  intro p e s m args below meth c ls A Q hx hb hml hts hown hin hP hK hD hS hA hN hl hret
  have hl : lv_has ls 3 [(0, .ref xh), (1, .int v)] := hl
  refine lv_iload_n hx hb dX9_seed_0 rfl (lv_at hl 1 rfl) ?_
  refine lv_if_ge (tgt := 7) hx hb dX9_seed_1 (by decide) (fun c_1 => ?_) (fun c_1 => ?_)
  · refine lv_aload_n hx hb dX9_seed_7 rfl (lv_at hl 0 rfl) ?_
    refine va_get (D := D) (ci := 9) (v := .int 0) (C := RX9) (T := TX9) (N := 17) hx hb hts iX9 hown hK hP 0 rfl rfl 12 (by decide) (hts _ wd_114) (fun _ h9 => h9) rfl dX9_seed_8 ?_
    refine lv_istore_n (lv' := [(2, .int 0), (0, .ref xh), (1, .int v)]) hx hb dX9_seed_11 rfl hl (by decide) rfl (fun ls hl => ?_)
    refine lv_aload_n hx hb dX9_seed_12 rfl (lv_at hl 1 rfl) ?_
    refine lv_iload_n hx hb dX9_seed_13 rfl (lv_at hl 2 rfl) ?_
    refine va_put (D := D) (ci := 9) (v := .int v) (ty := .int) (C := RX9) (T := TX9) (N := 17) hx hb hts iX9 tyX9 tyX9_ok nmX9 hown hK hP hD hS 0 rfl rfl 12 (by decide) (hts _ wd_114) (fun _ h9 => h9) rfl (by decide +kernel) rfl rfl (Nat.le_of_ble_eq_true rfl) dX9_seed_14 (fun H locs hP hD hS => ?_)
    have hP : va_P D classes [(xh, .inr (9, [.ref xq1, .int 0, .int (-1), .ref xq2, .ref xq6, .ref xq14, .ref xq22, .ref xq26, .ref xq31, .ref xq35, .int 0, .ref xq36, .int v, .ref xq41, .ref xq44, .ref xq50, .ref xq59]))] H := hP
    have hD : va_D A [(xh, .inr (9, [.ref xq1, .int 0, .int (-1), .ref xq2, .ref xq6, .ref xq14, .ref xq22, .ref xq26, .ref xq31, .ref xq35, .int 0, .ref xq36, .int v, .ref xq41, .ref xq44, .ref xq50, .ref xq59]))] := hD
    refine lv_iload_n hx hb dX9_seed_17 rfl (lv_at hl 0 rfl) ?_
    exact hret 0 () _ _ _ _ dX9_seed_18 rfl (if_neg (Int32.not_lt.mpr c_1)).symm (cutP (isC := []) hP rfl) (cutD (isC := []) hD rfl rfl) hS
  · refine lv_ldc (v := (-1000000002)) hx hb hown (hts _ wd_191) dX9_seed_4 ?_
    exact hret (-1000000002) () _ _ _ _ dX9_seed_6 rfl (if_pos (Int32.not_le.mp c_1)).symm (cutP (isC := []) hP rfl) (cutD (isC := []) hD rfl rfl) hS
def rm_k_x_keep : Room := { frames := 2, cells := 0, slots := 0, locals := 82 }
set_option maxHeartbeats 4000000 in
set_option maxRecDepth 100000 in
theorem k_x_keep {l : Launch} {D : va_G} {cI cZ : ClassId} {sz : Nat} (xh xq1 xq2 xq6 xq14 xq22 xq26 xq31 xq35 xq36 xq41 xq44 xq50 xq59 xu32 xu23 xq29 : Nat) (v : Int32) : KI l yX9_keep cX9_keep 2 (some .int) rm_k_x_keep D cI cZ [.ref xh, .int v] sz [(xh, .inr (9, [.ref xq1, .int 0, .int (-1), .ref xq2, .ref xq6, .ref xq14, .ref xq22, .ref xq26, .ref xq31, .ref xq35, .int 0, .ref xq36, .int 0, .ref xq41, .ref xq44, .ref xq50, .ref xq59])), (xq31, .inr (6, [.int 2, .ref xu32])), (xu32, .inl (cI, 82, .inl z0)), (xq22, .inr (7, [.ref xu23])), (xu23, .inl (cI, 41, .inl (cB2 z0 7))), (xq35, .inl (cI, 2, .inl z0)), (xq26, .inr (2, [.ref xq29, .int 0, .int 0]))] (fun (r : Int32) (_ : Unit) => r = rg 0 1 v (-1000000001) 1) (fun (_ : Unit) => []) := by
  refine KI.go rfl (Nat.le_of_ble_eq_true rfl) ?_
  intro p e s m args below meth c ls A Q hx hb hml hts hown hin hP hK hD hS hA hN hl hret
  have hl : lv_has ls 2 [(0, .ref xh), (1, .int v)] := hl
  refine lv_iload_n hx hb dX9_keep_0 rfl (lv_at hl 1 rfl) ?_
  refine lv_if_lt (tgt := 9) hx hb dX9_keep_1 (by decide) (fun c_1 => ?_) (fun c_1 => ?_)
  · refine lv_ldc (v := (-1000000001)) hx hb hown (hts _ wd_233) dX9_keep_9 ?_
    exact hret (-1000000001) () _ _ _ _ dX9_keep_11 rfl (rg_lo c_1) (cutP (isC := []) hP rfl) (cutD (isC := []) hD rfl rfl) hS
  · refine lv_iload_n hx hb dX9_keep_4 rfl (lv_at hl 1 rfl) ?_
    refine lv_iconst (v := 2) hx hb dX9_keep_5 (by decide) ?_
    refine lv_icmp_lt (tgt := 12) hx hb dX9_keep_6 (by decide) (fun c_2 => ?_) (fun c_2 => ?_)
    · rcases two_of c_1 (le1_of c_2) with rfl | rfl
      · have hl : lv_has ls 2 [(0, .ref xh), (1, .int 0)] := hl
        refine lv_aload_n hx hb dX9_keep_12 rfl (lv_at hl 0 rfl) ?_
        refine va_get (D := D) (ci := 9) (v := .ref xq31) (C := RX9) (T := TX9) (N := 17) hx hb hts iX9 hown hK hP 0 rfl rfl 8 (by decide) (hts _ wd_105) (fun _ h9 => h9) rfl dX9_keep_13 ?_
        refine lv_iload_n hx hb dX9_keep_16 rfl (lv_at hl 1 rfl) ?_
        refine lv_aload_n hx hb dX9_keep_17 rfl (lv_at hl 0 rfl) ?_
        refine va_get (D := D) (ci := 9) (v := .ref xq22) (C := RX9) (T := TX9) (N := 17) hx hb hts iX9 hown hK hP 0 rfl rfl 6 (by decide) (hts _ wd_96) (fun _ h9 => h9) rfl dX9_keep_18 ?_
        refine cVv (wr := [(xh, .inr (9, [.ref xq1, .int 0, .int (-1), .ref xq2, .ref xq6, .ref xq14, .ref xq22, .ref xq26, .ref xq31, .ref xq35, .int 0, .ref xq36, .int 0, .ref xq41, .ref xq44, .ref xq50, .ref xq59])), (xq35, .inl (cI, 2, .inl z0)), (xq26, .inr (2, [.ref xq29, .int 0, .int 0]))]) (rest := []) (k_store0 xq31 xu32 xq22 xu23 (cB2 z0 7)) okV_X6_store wd_265 hx hb hml hown hts hK hP hD hS hA hN hl.1 [1, 2, 3, 4] [0, 5, 6] rfl rfl rfl rfl (by decide) rfl rfl rfl (Nat.le_of_ble_eq_true rfl) (Nat.le_of_ble_eq_true rfl) (Nat.le_of_ble_eq_true rfl) (Nat.le_of_ble_eq_true rfl) (Nat.le_of_ble_eq_true rfl) dX9_keep_21 (fun u_3 H locs hw_u_3 hP hD hS => ?_)
        have hP : va_P D classes [(xh, .inr (9, [.ref xq1, .int 0, .int (-1), .ref xq2, .ref xq6, .ref xq14, .ref xq22, .ref xq26, .ref xq31, .ref xq35, .int 0, .ref xq36, .int 0, .ref xq41, .ref xq44, .ref xq50, .ref xq59])), (xq35, .inl (cI, 2, .inl z0)), (xq26, .inr (2, [.ref xq29, .int 0, .int 0])), (xq31, .inr (6, [.int 2, .ref xu32])), (xu32, .inl (cI, 82, .inl (va_cpy (cB2 z0 7) z0 (0 : Int32).toNatClampNeg (0 : Int32).toNatClampNeg (41 : Int32).toNatClampNeg))), (xq22, .inr (7, [.ref xu23])), (xu23, .inl (cI, 41, .inl (cB2 z0 7)))] H := hP
        have hD : va_D A [(xh, .inr (9, [.ref xq1, .int 0, .int (-1), .ref xq2, .ref xq6, .ref xq14, .ref xq22, .ref xq26, .ref xq31, .ref xq35, .int 0, .ref xq36, .int 0, .ref xq41, .ref xq44, .ref xq50, .ref xq59])), (xq35, .inl (cI, 2, .inl z0)), (xq26, .inr (2, [.ref xq29, .int 0, .int 0])), (xq31, .inr (6, [.int 2, .ref xu32])), (xu32, .inl (cI, 82, .inl (va_cpy (cB2 z0 7) z0 (0 : Int32).toNatClampNeg (0 : Int32).toNatClampNeg (41 : Int32).toNatClampNeg))), (xq22, .inr (7, [.ref xu23])), (xu23, .inl (cI, 41, .inl (cB2 z0 7)))] := hD
        refine lv_aload_n hx hb dX9_keep_24 rfl (lv_at hl 0 rfl) ?_
        refine va_get (D := D) (ci := 9) (v := .ref xq35) (C := RX9) (T := TX9) (N := 17) hx hb hts iX9 hown hK hP 0 rfl rfl 9 (by decide) (hts _ wd_106) (fun _ h9 => h9) rfl dX9_keep_25 ?_
        refine lv_iload_n hx hb dX9_keep_28 rfl (lv_at hl 1 rfl) ?_
        refine lv_aload_n hx hb dX9_keep_29 rfl (lv_at hl 0 rfl) ?_
        refine va_get (D := D) (ci := 9) (v := .int 0) (C := RX9) (T := TX9) (N := 17) hx hb hts iX9 hown hK hP 0 rfl rfl 12 (by decide) (hts _ wd_114) (fun _ h9 => h9) rfl dX9_keep_30 ?_
        refine cSv (wr := [(xh, .inr (9, [.ref xq1, .int 0, .int (-1), .ref xq2, .ref xq6, .ref xq14, .ref xq22, .ref xq26, .ref xq31, .ref xq35, .int 0, .ref xq36, .int 0, .ref xq41, .ref xq44, .ref xq50, .ref xq59])), (xq26, .inr (2, [.ref xq29, .int 0, .int 0])), (xq31, .inr (6, [.int 2, .ref xu32])), (xu32, .inl (cI, 82, .inl (va_cpy (cB2 z0 7) z0 (0 : Int32).toNatClampNeg (0 : Int32).toNatClampNeg (41 : Int32).toNatClampNeg))), (xq22, .inr (7, [.ref xu23])), (xu23, .inl (cI, 41, .inl (cB2 z0 7)))]) (rest := []) (k_put xq35 2 z0 0 0 (by decide)) okS_X9_put wd_192 hx hb hml hown hts hK hP hD hS hA hN hl.1 [1] [0, 2, 3, 4, 5, 6] rfl rfl rfl rfl (by decide) rfl (Nat.le_of_ble_eq_true rfl) (Nat.le_of_ble_eq_true rfl) (Nat.le_of_ble_eq_true rfl) (Nat.le_of_ble_eq_true rfl) (Nat.le_of_ble_eq_true rfl) dX9_keep_33 (fun u_5 H locs hw_u_5 hP hD hS => ?_)
        have hP : va_P D classes [(xh, .inr (9, [.ref xq1, .int 0, .int (-1), .ref xq2, .ref xq6, .ref xq14, .ref xq22, .ref xq26, .ref xq31, .ref xq35, .int 0, .ref xq36, .int 0, .ref xq41, .ref xq44, .ref xq50, .ref xq59])), (xq26, .inr (2, [.ref xq29, .int 0, .int 0])), (xq31, .inr (6, [.int 2, .ref xu32])), (xu32, .inl (cI, 82, .inl (va_cpy (cB2 z0 7) z0 (0 : Int32).toNatClampNeg (0 : Int32).toNatClampNeg (41 : Int32).toNatClampNeg))), (xq22, .inr (7, [.ref xu23])), (xu23, .inl (cI, 41, .inl (cB2 z0 7))), (xq35, .inl (cI, 2, .inl (putF 2 z0 0 0)))] H := hP
        have hD : va_D A [(xh, .inr (9, [.ref xq1, .int 0, .int (-1), .ref xq2, .ref xq6, .ref xq14, .ref xq22, .ref xq26, .ref xq31, .ref xq35, .int 0, .ref xq36, .int 0, .ref xq41, .ref xq44, .ref xq50, .ref xq59])), (xq26, .inr (2, [.ref xq29, .int 0, .int 0])), (xq31, .inr (6, [.int 2, .ref xu32])), (xu32, .inl (cI, 82, .inl (va_cpy (cB2 z0 7) z0 (0 : Int32).toNatClampNeg (0 : Int32).toNatClampNeg (41 : Int32).toNatClampNeg))), (xq22, .inr (7, [.ref xu23])), (xu23, .inl (cI, 41, .inl (cB2 z0 7))), (xq35, .inl (cI, 2, .inl (putF 2 z0 0 0)))] := hD
        refine lv_aload_n hx hb dX9_keep_36 rfl (lv_at hl 0 rfl) ?_
        refine lv_dup hx hb dX9_keep_37 rfl ?_
        refine va_get (D := D) (ci := 9) (v := .int 0) (C := RX9) (T := TX9) (N := 17) hx hb hts iX9 hown hK hP 0 rfl rfl 10 (by decide) (hts _ wd_107) (fun _ h9 => h9) rfl dX9_keep_38 ?_
        refine lv_iconst (v := 1) hx hb dX9_keep_41 (by decide) ?_
        refine lv_iload_n hx hb dX9_keep_42 rfl (lv_at hl 1 rfl) ?_
        refine lv_ishl hx hb dX9_keep_43 ?_
        refine lv_topi (fun z_7 ez_7 => ?_)
        obtain rfl : z_7 = 1 := ez_7.trans (by decide +kernel)
        refine lv_ior hx hb dX9_keep_44 ?_
        refine lv_topi (fun z_8 ez_8 => ?_)
        obtain rfl : z_8 = 1 := ez_8.trans (by decide +kernel)
        refine va_put (D := D) (ci := 9) (v := .int 1) (ty := .int) (C := RX9) (T := TX9) (N := 17) hx hb hts iX9 tyX9 tyX9_ok nmX9 hown hK hP hD hS 0 rfl rfl 10 (by decide) (hts _ wd_107) (fun _ h9 => h9) rfl (by decide +kernel) rfl rfl (Nat.le_of_ble_eq_true rfl) dX9_keep_45 (fun H locs hP hD hS => ?_)
        have hP : va_P D classes [(xh, .inr (9, [.ref xq1, .int 0, .int (-1), .ref xq2, .ref xq6, .ref xq14, .ref xq22, .ref xq26, .ref xq31, .ref xq35, .int 1, .ref xq36, .int 0, .ref xq41, .ref xq44, .ref xq50, .ref xq59])), (xq26, .inr (2, [.ref xq29, .int 0, .int 0])), (xq31, .inr (6, [.int 2, .ref xu32])), (xu32, .inl (cI, 82, .inl (va_cpy (cB2 z0 7) z0 (0 : Int32).toNatClampNeg (0 : Int32).toNatClampNeg (41 : Int32).toNatClampNeg))), (xq22, .inr (7, [.ref xu23])), (xu23, .inl (cI, 41, .inl (cB2 z0 7))), (xq35, .inl (cI, 2, .inl (putF 2 z0 0 0)))] H := hP
        have hD : va_D A [(xh, .inr (9, [.ref xq1, .int 0, .int (-1), .ref xq2, .ref xq6, .ref xq14, .ref xq22, .ref xq26, .ref xq31, .ref xq35, .int 1, .ref xq36, .int 0, .ref xq41, .ref xq44, .ref xq50, .ref xq59])), (xq26, .inr (2, [.ref xq29, .int 0, .int 0])), (xq31, .inr (6, [.int 2, .ref xu32])), (xu32, .inl (cI, 82, .inl (va_cpy (cB2 z0 7) z0 (0 : Int32).toNatClampNeg (0 : Int32).toNatClampNeg (41 : Int32).toNatClampNeg))), (xq22, .inr (7, [.ref xu23])), (xu23, .inl (cI, 41, .inl (cB2 z0 7))), (xq35, .inl (cI, 2, .inl (putF 2 z0 0 0)))] := hD
        refine lv_aload_n hx hb dX9_keep_48 rfl (lv_at hl 0 rfl) ?_
        refine va_get (D := D) (ci := 9) (v := .ref xq26) (C := RX9) (T := TX9) (N := 17) hx hb hts iX9 hown hK hP 0 rfl rfl 7 (by decide) (hts _ wd_102) (fun _ h9 => h9) rfl dX9_keep_49 ?_
        refine cVv (wr := [(xh, .inr (9, [.ref xq1, .int 0, .int (-1), .ref xq2, .ref xq6, .ref xq14, .ref xq22, .ref xq26, .ref xq31, .ref xq35, .int 1, .ref xq36, .int 0, .ref xq41, .ref xq44, .ref xq50, .ref xq59])), (xq31, .inr (6, [.int 2, .ref xu32])), (xu32, .inl (cI, 82, .inl (va_cpy (cB2 z0 7) z0 (0 : Int32).toNatClampNeg (0 : Int32).toNatClampNeg (41 : Int32).toNatClampNeg))), (xq22, .inr (7, [.ref xu23])), (xu23, .inl (cI, 41, .inl (cB2 z0 7))), (xq35, .inl (cI, 2, .inl (putF 2 z0 0 0)))]) (rest := []) (k_forget xq26 0 0 xq29) okV_X2_forget wd_204 hx hb hml hown hts hK hP hD hS hA hN hl.1 [1] [0, 2, 3, 4, 5, 6] rfl rfl rfl rfl (by decide) rfl rfl rfl (Nat.le_of_ble_eq_true rfl) (Nat.le_of_ble_eq_true rfl) (Nat.le_of_ble_eq_true rfl) (Nat.le_of_ble_eq_true rfl) (Nat.le_of_ble_eq_true rfl) dX9_keep_52 (fun u_9 H locs hw_u_9 hP hD hS => ?_)
        have hP : va_P D classes [(xh, .inr (9, [.ref xq1, .int 0, .int (-1), .ref xq2, .ref xq6, .ref xq14, .ref xq22, .ref xq26, .ref xq31, .ref xq35, .int 1, .ref xq36, .int 0, .ref xq41, .ref xq44, .ref xq50, .ref xq59])), (xq31, .inr (6, [.int 2, .ref xu32])), (xu32, .inl (cI, 82, .inl (va_cpy (cB2 z0 7) z0 (0 : Int32).toNatClampNeg (0 : Int32).toNatClampNeg (41 : Int32).toNatClampNeg))), (xq22, .inr (7, [.ref xu23])), (xu23, .inl (cI, 41, .inl (cB2 z0 7))), (xq35, .inl (cI, 2, .inl (putF 2 z0 0 0))), (xq26, .inr (2, [.ref xq29, .int 0, .int 0]))] H := hP
        have hD : va_D A [(xh, .inr (9, [.ref xq1, .int 0, .int (-1), .ref xq2, .ref xq6, .ref xq14, .ref xq22, .ref xq26, .ref xq31, .ref xq35, .int 1, .ref xq36, .int 0, .ref xq41, .ref xq44, .ref xq50, .ref xq59])), (xq31, .inr (6, [.int 2, .ref xu32])), (xu32, .inl (cI, 82, .inl (va_cpy (cB2 z0 7) z0 (0 : Int32).toNatClampNeg (0 : Int32).toNatClampNeg (41 : Int32).toNatClampNeg))), (xq22, .inr (7, [.ref xu23])), (xu23, .inl (cI, 41, .inl (cB2 z0 7))), (xq35, .inl (cI, 2, .inl (putF 2 z0 0 0))), (xq26, .inr (2, [.ref xq29, .int 0, .int 0]))] := hD
        refine lv_iconst (v := 1) hx hb dX9_keep_55 (by decide) ?_
        exact hret 1 () _ _ _ _ dX9_keep_56 rfl (by decide +kernel) (cutP (isC := []) hP rfl) (cutD (isC := []) hD rfl rfl) hS
      · have hl : lv_has ls 2 [(0, .ref xh), (1, .int 1)] := hl
        refine lv_aload_n hx hb dX9_keep_12 rfl (lv_at hl 0 rfl) ?_
        refine va_get (D := D) (ci := 9) (v := .ref xq31) (C := RX9) (T := TX9) (N := 17) hx hb hts iX9 hown hK hP 0 rfl rfl 8 (by decide) (hts _ wd_105) (fun _ h9 => h9) rfl dX9_keep_13 ?_
        refine lv_iload_n hx hb dX9_keep_16 rfl (lv_at hl 1 rfl) ?_
        refine lv_aload_n hx hb dX9_keep_17 rfl (lv_at hl 0 rfl) ?_
        refine va_get (D := D) (ci := 9) (v := .ref xq22) (C := RX9) (T := TX9) (N := 17) hx hb hts iX9 hown hK hP 0 rfl rfl 6 (by decide) (hts _ wd_96) (fun _ h9 => h9) rfl dX9_keep_18 ?_
        refine cVv (wr := [(xh, .inr (9, [.ref xq1, .int 0, .int (-1), .ref xq2, .ref xq6, .ref xq14, .ref xq22, .ref xq26, .ref xq31, .ref xq35, .int 0, .ref xq36, .int 0, .ref xq41, .ref xq44, .ref xq50, .ref xq59])), (xq35, .inl (cI, 2, .inl z0)), (xq26, .inr (2, [.ref xq29, .int 0, .int 0]))]) (rest := []) (k_store1 xq31 xu32 xq22 xu23 (cB2 z0 7)) okV_X6_store wd_265 hx hb hml hown hts hK hP hD hS hA hN hl.1 [1, 2, 3, 4] [0, 5, 6] rfl rfl rfl rfl (by decide) rfl rfl rfl (Nat.le_of_ble_eq_true rfl) (Nat.le_of_ble_eq_true rfl) (Nat.le_of_ble_eq_true rfl) (Nat.le_of_ble_eq_true rfl) (Nat.le_of_ble_eq_true rfl) dX9_keep_21 (fun u_11 H locs hw_u_11 hP hD hS => ?_)
        have hP : va_P D classes [(xh, .inr (9, [.ref xq1, .int 0, .int (-1), .ref xq2, .ref xq6, .ref xq14, .ref xq22, .ref xq26, .ref xq31, .ref xq35, .int 0, .ref xq36, .int 0, .ref xq41, .ref xq44, .ref xq50, .ref xq59])), (xq35, .inl (cI, 2, .inl z0)), (xq26, .inr (2, [.ref xq29, .int 0, .int 0])), (xq31, .inr (6, [.int 2, .ref xu32])), (xu32, .inl (cI, 82, .inl (va_cpy (cB2 z0 7) z0 (0 : Int32).toNatClampNeg (41 : Int32).toNatClampNeg (41 : Int32).toNatClampNeg))), (xq22, .inr (7, [.ref xu23])), (xu23, .inl (cI, 41, .inl (cB2 z0 7)))] H := hP
        have hD : va_D A [(xh, .inr (9, [.ref xq1, .int 0, .int (-1), .ref xq2, .ref xq6, .ref xq14, .ref xq22, .ref xq26, .ref xq31, .ref xq35, .int 0, .ref xq36, .int 0, .ref xq41, .ref xq44, .ref xq50, .ref xq59])), (xq35, .inl (cI, 2, .inl z0)), (xq26, .inr (2, [.ref xq29, .int 0, .int 0])), (xq31, .inr (6, [.int 2, .ref xu32])), (xu32, .inl (cI, 82, .inl (va_cpy (cB2 z0 7) z0 (0 : Int32).toNatClampNeg (41 : Int32).toNatClampNeg (41 : Int32).toNatClampNeg))), (xq22, .inr (7, [.ref xu23])), (xu23, .inl (cI, 41, .inl (cB2 z0 7)))] := hD
        refine lv_aload_n hx hb dX9_keep_24 rfl (lv_at hl 0 rfl) ?_
        refine va_get (D := D) (ci := 9) (v := .ref xq35) (C := RX9) (T := TX9) (N := 17) hx hb hts iX9 hown hK hP 0 rfl rfl 9 (by decide) (hts _ wd_106) (fun _ h9 => h9) rfl dX9_keep_25 ?_
        refine lv_iload_n hx hb dX9_keep_28 rfl (lv_at hl 1 rfl) ?_
        refine lv_aload_n hx hb dX9_keep_29 rfl (lv_at hl 0 rfl) ?_
        refine va_get (D := D) (ci := 9) (v := .int 0) (C := RX9) (T := TX9) (N := 17) hx hb hts iX9 hown hK hP 0 rfl rfl 12 (by decide) (hts _ wd_114) (fun _ h9 => h9) rfl dX9_keep_30 ?_
        refine cSv (wr := [(xh, .inr (9, [.ref xq1, .int 0, .int (-1), .ref xq2, .ref xq6, .ref xq14, .ref xq22, .ref xq26, .ref xq31, .ref xq35, .int 0, .ref xq36, .int 0, .ref xq41, .ref xq44, .ref xq50, .ref xq59])), (xq26, .inr (2, [.ref xq29, .int 0, .int 0])), (xq31, .inr (6, [.int 2, .ref xu32])), (xu32, .inl (cI, 82, .inl (va_cpy (cB2 z0 7) z0 (0 : Int32).toNatClampNeg (41 : Int32).toNatClampNeg (41 : Int32).toNatClampNeg))), (xq22, .inr (7, [.ref xu23])), (xu23, .inl (cI, 41, .inl (cB2 z0 7)))]) (rest := []) (k_put xq35 2 z0 1 0 (by decide)) okS_X9_put wd_192 hx hb hml hown hts hK hP hD hS hA hN hl.1 [1] [0, 2, 3, 4, 5, 6] rfl rfl rfl rfl (by decide) rfl (Nat.le_of_ble_eq_true rfl) (Nat.le_of_ble_eq_true rfl) (Nat.le_of_ble_eq_true rfl) (Nat.le_of_ble_eq_true rfl) (Nat.le_of_ble_eq_true rfl) dX9_keep_33 (fun u_13 H locs hw_u_13 hP hD hS => ?_)
        have hP : va_P D classes [(xh, .inr (9, [.ref xq1, .int 0, .int (-1), .ref xq2, .ref xq6, .ref xq14, .ref xq22, .ref xq26, .ref xq31, .ref xq35, .int 0, .ref xq36, .int 0, .ref xq41, .ref xq44, .ref xq50, .ref xq59])), (xq26, .inr (2, [.ref xq29, .int 0, .int 0])), (xq31, .inr (6, [.int 2, .ref xu32])), (xu32, .inl (cI, 82, .inl (va_cpy (cB2 z0 7) z0 (0 : Int32).toNatClampNeg (41 : Int32).toNatClampNeg (41 : Int32).toNatClampNeg))), (xq22, .inr (7, [.ref xu23])), (xu23, .inl (cI, 41, .inl (cB2 z0 7))), (xq35, .inl (cI, 2, .inl (putF 2 z0 1 0)))] H := hP
        have hD : va_D A [(xh, .inr (9, [.ref xq1, .int 0, .int (-1), .ref xq2, .ref xq6, .ref xq14, .ref xq22, .ref xq26, .ref xq31, .ref xq35, .int 0, .ref xq36, .int 0, .ref xq41, .ref xq44, .ref xq50, .ref xq59])), (xq26, .inr (2, [.ref xq29, .int 0, .int 0])), (xq31, .inr (6, [.int 2, .ref xu32])), (xu32, .inl (cI, 82, .inl (va_cpy (cB2 z0 7) z0 (0 : Int32).toNatClampNeg (41 : Int32).toNatClampNeg (41 : Int32).toNatClampNeg))), (xq22, .inr (7, [.ref xu23])), (xu23, .inl (cI, 41, .inl (cB2 z0 7))), (xq35, .inl (cI, 2, .inl (putF 2 z0 1 0)))] := hD
        refine lv_aload_n hx hb dX9_keep_36 rfl (lv_at hl 0 rfl) ?_
        refine lv_dup hx hb dX9_keep_37 rfl ?_
        refine va_get (D := D) (ci := 9) (v := .int 0) (C := RX9) (T := TX9) (N := 17) hx hb hts iX9 hown hK hP 0 rfl rfl 10 (by decide) (hts _ wd_107) (fun _ h9 => h9) rfl dX9_keep_38 ?_
        refine lv_iconst (v := 1) hx hb dX9_keep_41 (by decide) ?_
        refine lv_iload_n hx hb dX9_keep_42 rfl (lv_at hl 1 rfl) ?_
        refine lv_ishl hx hb dX9_keep_43 ?_
        refine lv_topi (fun z_15 ez_15 => ?_)
        obtain rfl : z_15 = 2 := ez_15.trans (by decide +kernel)
        refine lv_ior hx hb dX9_keep_44 ?_
        refine lv_topi (fun z_16 ez_16 => ?_)
        obtain rfl : z_16 = 2 := ez_16.trans (by decide +kernel)
        refine va_put (D := D) (ci := 9) (v := .int 2) (ty := .int) (C := RX9) (T := TX9) (N := 17) hx hb hts iX9 tyX9 tyX9_ok nmX9 hown hK hP hD hS 0 rfl rfl 10 (by decide) (hts _ wd_107) (fun _ h9 => h9) rfl (by decide +kernel) rfl rfl (Nat.le_of_ble_eq_true rfl) dX9_keep_45 (fun H locs hP hD hS => ?_)
        have hP : va_P D classes [(xh, .inr (9, [.ref xq1, .int 0, .int (-1), .ref xq2, .ref xq6, .ref xq14, .ref xq22, .ref xq26, .ref xq31, .ref xq35, .int 2, .ref xq36, .int 0, .ref xq41, .ref xq44, .ref xq50, .ref xq59])), (xq26, .inr (2, [.ref xq29, .int 0, .int 0])), (xq31, .inr (6, [.int 2, .ref xu32])), (xu32, .inl (cI, 82, .inl (va_cpy (cB2 z0 7) z0 (0 : Int32).toNatClampNeg (41 : Int32).toNatClampNeg (41 : Int32).toNatClampNeg))), (xq22, .inr (7, [.ref xu23])), (xu23, .inl (cI, 41, .inl (cB2 z0 7))), (xq35, .inl (cI, 2, .inl (putF 2 z0 1 0)))] H := hP
        have hD : va_D A [(xh, .inr (9, [.ref xq1, .int 0, .int (-1), .ref xq2, .ref xq6, .ref xq14, .ref xq22, .ref xq26, .ref xq31, .ref xq35, .int 2, .ref xq36, .int 0, .ref xq41, .ref xq44, .ref xq50, .ref xq59])), (xq26, .inr (2, [.ref xq29, .int 0, .int 0])), (xq31, .inr (6, [.int 2, .ref xu32])), (xu32, .inl (cI, 82, .inl (va_cpy (cB2 z0 7) z0 (0 : Int32).toNatClampNeg (41 : Int32).toNatClampNeg (41 : Int32).toNatClampNeg))), (xq22, .inr (7, [.ref xu23])), (xu23, .inl (cI, 41, .inl (cB2 z0 7))), (xq35, .inl (cI, 2, .inl (putF 2 z0 1 0)))] := hD
        refine lv_aload_n hx hb dX9_keep_48 rfl (lv_at hl 0 rfl) ?_
        refine va_get (D := D) (ci := 9) (v := .ref xq26) (C := RX9) (T := TX9) (N := 17) hx hb hts iX9 hown hK hP 0 rfl rfl 7 (by decide) (hts _ wd_102) (fun _ h9 => h9) rfl dX9_keep_49 ?_
        refine cVv (wr := [(xh, .inr (9, [.ref xq1, .int 0, .int (-1), .ref xq2, .ref xq6, .ref xq14, .ref xq22, .ref xq26, .ref xq31, .ref xq35, .int 2, .ref xq36, .int 0, .ref xq41, .ref xq44, .ref xq50, .ref xq59])), (xq31, .inr (6, [.int 2, .ref xu32])), (xu32, .inl (cI, 82, .inl (va_cpy (cB2 z0 7) z0 (0 : Int32).toNatClampNeg (41 : Int32).toNatClampNeg (41 : Int32).toNatClampNeg))), (xq22, .inr (7, [.ref xu23])), (xu23, .inl (cI, 41, .inl (cB2 z0 7))), (xq35, .inl (cI, 2, .inl (putF 2 z0 1 0)))]) (rest := []) (k_forget xq26 0 0 xq29) okV_X2_forget wd_204 hx hb hml hown hts hK hP hD hS hA hN hl.1 [1] [0, 2, 3, 4, 5, 6] rfl rfl rfl rfl (by decide) rfl rfl rfl (Nat.le_of_ble_eq_true rfl) (Nat.le_of_ble_eq_true rfl) (Nat.le_of_ble_eq_true rfl) (Nat.le_of_ble_eq_true rfl) (Nat.le_of_ble_eq_true rfl) dX9_keep_52 (fun u_17 H locs hw_u_17 hP hD hS => ?_)
        have hP : va_P D classes [(xh, .inr (9, [.ref xq1, .int 0, .int (-1), .ref xq2, .ref xq6, .ref xq14, .ref xq22, .ref xq26, .ref xq31, .ref xq35, .int 2, .ref xq36, .int 0, .ref xq41, .ref xq44, .ref xq50, .ref xq59])), (xq31, .inr (6, [.int 2, .ref xu32])), (xu32, .inl (cI, 82, .inl (va_cpy (cB2 z0 7) z0 (0 : Int32).toNatClampNeg (41 : Int32).toNatClampNeg (41 : Int32).toNatClampNeg))), (xq22, .inr (7, [.ref xu23])), (xu23, .inl (cI, 41, .inl (cB2 z0 7))), (xq35, .inl (cI, 2, .inl (putF 2 z0 1 0))), (xq26, .inr (2, [.ref xq29, .int 0, .int 0]))] H := hP
        have hD : va_D A [(xh, .inr (9, [.ref xq1, .int 0, .int (-1), .ref xq2, .ref xq6, .ref xq14, .ref xq22, .ref xq26, .ref xq31, .ref xq35, .int 2, .ref xq36, .int 0, .ref xq41, .ref xq44, .ref xq50, .ref xq59])), (xq31, .inr (6, [.int 2, .ref xu32])), (xu32, .inl (cI, 82, .inl (va_cpy (cB2 z0 7) z0 (0 : Int32).toNatClampNeg (41 : Int32).toNatClampNeg (41 : Int32).toNatClampNeg))), (xq22, .inr (7, [.ref xu23])), (xu23, .inl (cI, 41, .inl (cB2 z0 7))), (xq35, .inl (cI, 2, .inl (putF 2 z0 1 0))), (xq26, .inr (2, [.ref xq29, .int 0, .int 0]))] := hD
        refine lv_iconst (v := 1) hx hb dX9_keep_55 (by decide) ?_
        exact hret 1 () _ _ _ _ dX9_keep_56 rfl (by decide +kernel) (cutP (isC := []) hP rfl) (cutD (isC := []) hD rfl rfl) hS
    · refine lv_ldc (v := (-1000000001)) hx hb hown (hts _ wd_233) dX9_keep_9 ?_
      exact hret (-1000000001) () _ _ _ _ dX9_keep_11 rfl (rg_hi (fun h => c_2 (Int32.lt_of_le_of_lt h (by decide)))) (cutP (isC := []) hP rfl) (cutD (isC := []) hD rfl rfl) hS
def rm_k_x_goBack : Room := { frames := 0, cells := 0, slots := 0, locals := 0 }
set_option maxHeartbeats 4000000 in
set_option maxRecDepth 100000 in
theorem k_x_goBack {l : Launch} {D : va_G} {cI cZ : ClassId} {sz : Nat} (xh xq1 xq2 xq6 xq14 xq22 xq26 xq31 xq35 xq36 xq41 xq44 xq50 xq59 : Nat) (v : Int32) : KI l yX9_goBack cX9_goBack 2 (some .int) rm_k_x_goBack D cI cZ [.ref xh, .int v] sz [(xh, .inr (9, [.ref xq1, .int 0, .int (-1), .ref xq2, .ref xq6, .ref xq14, .ref xq22, .ref xq26, .ref xq31, .ref xq35, .int 0, .ref xq36, .int 0, .ref xq41, .ref xq44, .ref xq50, .ref xq59]))] (fun (r : Int32) (_ : Unit) => r = rg 0 1 v (-1000000001) (-1000000003)) (fun (_ : Unit) => []) := by
  refine KI.go rfl (Nat.le_of_ble_eq_true rfl) ?_
  intro p e s m args below meth c ls A Q hx hb hml hts hown hin hP hK hD hS hA hN hl hret
  have hl : lv_has ls 2 [(0, .ref xh), (1, .int v)] := hl
  refine lv_iload_n hx hb dX9_goBack_0 rfl (lv_at hl 1 rfl) ?_
  refine lv_if_lt (tgt := 9) hx hb dX9_goBack_1 (by decide) (fun c_1 => ?_) (fun c_1 => ?_)
  · refine lv_ldc (v := (-1000000001)) hx hb hown (hts _ wd_233) dX9_goBack_9 ?_
    exact hret (-1000000001) () _ _ _ _ dX9_goBack_11 rfl (rg_lo c_1) (cutP (isC := []) hP rfl) (cutD (isC := []) hD rfl rfl) hS
  · refine lv_iload_n hx hb dX9_goBack_4 rfl (lv_at hl 1 rfl) ?_
    refine lv_iconst (v := 2) hx hb dX9_goBack_5 (by decide) ?_
    refine lv_icmp_lt (tgt := 12) hx hb dX9_goBack_6 (by decide) (fun c_2 => ?_) (fun c_2 => ?_)
    · rcases two_of c_1 (le1_of c_2) with rfl | rfl
      · have hl : lv_has ls 2 [(0, .ref xh), (1, .int 0)] := hl
        refine lv_aload_n hx hb dX9_goBack_12 rfl (lv_at hl 0 rfl) ?_
        refine va_get (D := D) (ci := 9) (v := .int 0) (C := RX9) (T := TX9) (N := 17) hx hb hts iX9 hown hK hP 0 rfl rfl 10 (by decide) (hts _ wd_107) (fun _ h9 => h9) rfl dX9_goBack_13 ?_
        refine lv_iload_n hx hb dX9_goBack_16 rfl (lv_at hl 1 rfl) ?_
        refine lv_ishr hx hb dX9_goBack_17 ?_
        refine lv_topi (fun z_3 ez_3 => ?_)
        obtain rfl : z_3 = 0 := ez_3.trans (by decide +kernel)
        refine lv_iconst (v := 1) hx hb dX9_goBack_18 (by decide) ?_
        refine lv_iand hx hb dX9_goBack_19 ?_
        refine lv_topi (fun z_4 ez_4 => ?_)
        obtain rfl : z_4 = 0 := ez_4.trans (by decide +kernel)
        refine lv_if_ne (tgt := 26) hx hb dX9_goBack_20 (by decide) (fun c_5 => absurd (by decide +kernel) c_5) (fun c_5 => ?_)
        refine lv_ldc (v := (-1000000003)) hx hb hown (hts _ wd_242) dX9_goBack_23 ?_
        exact hret (-1000000003) () _ _ _ _ dX9_goBack_25 rfl (by decide +kernel) (cutP (isC := []) hP rfl) (cutD (isC := []) hD rfl rfl) hS
      · have hl : lv_has ls 2 [(0, .ref xh), (1, .int 1)] := hl
        refine lv_aload_n hx hb dX9_goBack_12 rfl (lv_at hl 0 rfl) ?_
        refine va_get (D := D) (ci := 9) (v := .int 0) (C := RX9) (T := TX9) (N := 17) hx hb hts iX9 hown hK hP 0 rfl rfl 10 (by decide) (hts _ wd_107) (fun _ h9 => h9) rfl dX9_goBack_13 ?_
        refine lv_iload_n hx hb dX9_goBack_16 rfl (lv_at hl 1 rfl) ?_
        refine lv_ishr hx hb dX9_goBack_17 ?_
        refine lv_topi (fun z_6 ez_6 => ?_)
        obtain rfl : z_6 = 0 := ez_6.trans (by decide +kernel)
        refine lv_iconst (v := 1) hx hb dX9_goBack_18 (by decide) ?_
        refine lv_iand hx hb dX9_goBack_19 ?_
        refine lv_topi (fun z_7 ez_7 => ?_)
        obtain rfl : z_7 = 0 := ez_7.trans (by decide +kernel)
        refine lv_if_ne (tgt := 26) hx hb dX9_goBack_20 (by decide) (fun c_8 => absurd (by decide +kernel) c_8) (fun c_8 => ?_)
        refine lv_ldc (v := (-1000000003)) hx hb hown (hts _ wd_242) dX9_goBack_23 ?_
        exact hret (-1000000003) () _ _ _ _ dX9_goBack_25 rfl (by decide +kernel) (cutP (isC := []) hP rfl) (cutD (isC := []) hD rfl rfl) hS
    · refine lv_ldc (v := (-1000000001)) hx hb hown (hts _ wd_233) dX9_goBack_9 ?_
      exact hret (-1000000001) () _ _ _ _ dX9_goBack_11 rfl (rg_hi (fun h => c_2 (Int32.lt_of_le_of_lt h (by decide)))) (cutP (isC := []) hP rfl) (cutD (isC := []) hD rfl rfl) hS
