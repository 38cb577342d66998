section
def dLt_86 : List (Nat × Instr × Nat) := [(172, .aload_n 1, 1), (173, .aload_n 0, 1), (174, .iload_n 3, 1), (175, .iconst 1, 1), (176, .iadd, 1), (177, .iaload, 1), (178, .invokevirtual 13, 3), (181, .pop, 1), (182, .aload_n 2, 1), (183, .aload_n 0, 1), (184, .iload_n 3, 1), (185, .iconst 1, 1), (186, .iadd, 1), (187, .iaload, 1), (188, .invokevirtual 17, 3), (191, .pop, 1), (192, .goto 823, 3), (195, .aload_n 1, 1), (196, .invokevirtual 18, 3), (199, .pop, 1), (200, .aload_n 2, 1), (201, .invokevirtual 22, 3), (204, .pop, 1), (205, .goto 810, 3), (208, .aload_n 1, 1), (209, .invokevirtual 23, 3), (212, .pop, 1), (213, .aload_n 2, 1), (214, .invokevirtual 26, 3), (217, .pop, 1), (218, .goto 797, 3), (221, .aload_n 1, 1), (222, .aload_n 0, 1), (223, .iload_n 3, 1), (224, .iconst 1, 1), (225, .iadd, 1), (226, .iaload, 1), (227, .invokevirtual 27, 3), (230, .pop, 1), (231, .aload_n 2, 1), (232, .aload_n 0, 1), (233, .iload_n 3, 1), (234, .iconst 1, 1), (235, .iadd, 1), (236, .iaload, 1), (237, .invokevirtual 30, 3), (240, .pop, 1), (241, .goto 774, 3), (244, .aload_n 1, 1), (245, .aload_n 0, 1), (246, .iload_n 3, 1), (247, .iconst 1, 1), (248, .iadd, 1), (249, .iaload, 1), (250, .aload_n 0, 1), (251, .iload_n 3, 1), (252, .iconst 2, 1), (253, .iadd, 1), (254, .iaload, 1), (255, .invokevirtual 31, 3), (258, .pop, 1), (259, .aload_n 2, 1), (260, .aload_n 0, 1), (261, .iload_n 3, 1), (262, .iconst 1, 1), (263, .iadd, 1), (264, .iaload, 1), (265, .aload_n 0, 1), (266, .iload_n 3, 1), (267, .iconst 2, 1), (268, .iadd, 1), (269, .iaload, 1), (270, .invokevirtual 35, 3), (273, .pop, 1), (274, .goto 741, 3), (277, .aload_n 1, 1), (278, .aload_n 0, 1), (279, .iload_n 3, 1), (280, .iconst 1, 1), (281, .iadd, 1), (282, .iaload, 1), (283, .aload_n 0, 1), (284, .iload_n 3, 1), (285, .iconst 2, 1), (286, .iadd, 1), (287, .iaload, 1), (288, .invokevirtual 36, 3), (291, .pop, 1), (292, .aload_n 2, 1), (293, .aload_n 0, 1), (294, .iload_n 3, 1), (295, .iconst 1, 1), (296, .iadd, 1), (297, .iaload, 1), (298, .aload_n 0, 1), (299, .iload_n 3, 1), (300, .iconst 2, 1), (301, .iadd, 1), (302, .iaload, 1), (303, .invokevirtual 39, 3), (306, .pop, 1), (307, .goto 708, 3), (310, .aload_n 1, 1), (311, .aload_n 0, 1), (312, .iload_n 3, 1), (313, .iconst 1, 1), (314, .iadd, 1), (315, .iaload, 1), (316, .aload_n 0, 1), (317, .iload_n 3, 1), (318, .iconst 2, 1), (319, .iadd, 1), (320, .iaload, 1), (321, .invokevirtual 40, 3), (324, .aload_n 2, 1), (325, .aload_n 0, 1), (326, .iload_n 3, 1), (327, .iconst 1, 1), (328, .iadd, 1), (329, .iaload, 1), (330, .aload_n 0, 1), (331, .iload_n 3, 1), (332, .iconst 2, 1), (333, .iadd, 1), (334, .iaload, 1), (335, .invokevirtual 43, 3), (338, .if_icmp .eq 677, 3), (343, .aload_n 1, 1), (344, .aload_n 0, 1), (345, .iload_n 3, 1), (346, .iconst 1, 1), (347, .iadd, 1), (348, .iaload, 1), (349, .aload_n 0, 1), (350, .iload_n 3, 1), (351, .iconst 2, 1), (352, .iadd, 1), (353, .iaload, 1), (354, .invokevirtual 44, 3), (357, .pop, 1), (358, .aload_n 2, 1), (359, .aload_n 0, 1), (360, .iload_n 3, 1), (361, .iconst 1, 1), (362, .iadd, 1), (363, .iaload, 1), (364, .aload_n 0, 1), (365, .iload_n 3, 1), (366, .iconst 2, 1), (367, .iadd, 1), (368, .iaload, 1), (369, .invokevirtual 47, 3), (372, .pop, 1), (373, .goto 642, 3)]
theorem dLa_86 : dLt_86.all (fun q => decide (decode cL_law q.1 = .ok (q.2.1, q.2.2))) = true := by decide +kernel
theorem dLg_86 (c : ByteArray) (L : List (Nat × Instr × Nat)) (hA : L.all (fun q => decide (decode c q.1 = .ok (q.2.1, q.2.2))) = true) {k a n : Nat} {i : Instr} (h : L[k]? = some (a, i, n)) : decode c a = .ok (i, n) := by
  have hm := List.mem_of_getElem? h
  have h2 := List.all_eq_true.mp hA _ hm
  exact of_decide_eq_true h2
theorem dL_law_172 : decode cL_law 172 = .ok (.aload_n 1, 1) := dLg_86 cL_law dLt_86 dLa_86 (k := 0) rfl
theorem dL_law_173 : decode cL_law 173 = .ok (.aload_n 0, 1) := dLg_86 cL_law dLt_86 dLa_86 (k := 1) rfl
theorem dL_law_174 : decode cL_law 174 = .ok (.iload_n 3, 1) := dLg_86 cL_law dLt_86 dLa_86 (k := 2) rfl
theorem dL_law_175 : decode cL_law 175 = .ok (.iconst 1, 1) := dLg_86 cL_law dLt_86 dLa_86 (k := 3) rfl
theorem dL_law_176 : decode cL_law 176 = .ok (.iadd, 1) := dLg_86 cL_law dLt_86 dLa_86 (k := 4) rfl
theorem dL_law_177 : decode cL_law 177 = .ok (.iaload, 1) := dLg_86 cL_law dLt_86 dLa_86 (k := 5) rfl
theorem dL_law_178 : decode cL_law 178 = .ok (.invokevirtual 13, 3) := dLg_86 cL_law dLt_86 dLa_86 (k := 6) rfl
theorem wd_696 : Cond.methodLink RL 13 yX9_feed ∈ BG := BG_at 327 (by decide +kernel) rfl
theorem wd_697 : Cond.code yX9_feed cX9_feed 2 (some .int) ∈ BG := BG_at 330 (by decide +kernel) rfl
theorem wd_698 : Cond.instanceMethod yX9_feed ∈ BG := BG_at 328 (by decide +kernel) rfl
theorem wd_699 : Cond.selects RX9 yX9_feed yX9_feed ∈ BG := BG_at 329 (by decide +kernel) rfl
theorem okV_X9_feed : okV yX9_feed cX9_feed 2 (some .int) 1 := ⟨⟨wd_697, wd_71, by decide +kernel⟩, wd_698, wd_699⟩
theorem dL_law_181 : decode cL_law 181 = .ok (.pop, 1) := dLg_86 cL_law dLt_86 dLa_86 (k := 7) rfl
theorem dL_law_182 : decode cL_law 182 = .ok (.aload_n 2, 1) := dLg_86 cL_law dLt_86 dLa_86 (k := 8) rfl
theorem dL_law_183 : decode cL_law 183 = .ok (.aload_n 0, 1) := dLg_86 cL_law dLt_86 dLa_86 (k := 9) rfl
theorem dL_law_184 : decode cL_law 184 = .ok (.iload_n 3, 1) := dLg_86 cL_law dLt_86 dLa_86 (k := 10) rfl
theorem dL_law_185 : decode cL_law 185 = .ok (.iconst 1, 1) := dLg_86 cL_law dLt_86 dLa_86 (k := 11) rfl
theorem dL_law_186 : decode cL_law 186 = .ok (.iadd, 1) := dLg_86 cL_law dLt_86 dLa_86 (k := 12) rfl
theorem dL_law_187 : decode cL_law 187 = .ok (.iaload, 1) := dLg_86 cL_law dLt_86 dLa_86 (k := 13) rfl
theorem dL_law_188 : decode cL_law 188 = .ok (.invokevirtual 17, 3) := dLg_86 cL_law dLt_86 dLa_86 (k := 14) rfl
theorem wd_700 : Cond.methodLink RL 17 yX10_feed ∈ BG := BG_at 920 (by decide +kernel) rfl
theorem wd_701 : Cond.code yX10_feed cX10_feed 2 (some .int) ∈ BG := BG_at 923 (by decide +kernel) rfl
theorem wd_702 : Cond.instanceMethod yX10_feed ∈ BG := BG_at 921 (by decide +kernel) rfl
theorem wd_703 : Cond.selects RX10 yX10_feed yX10_feed ∈ BG := BG_at 922 (by decide +kernel) rfl
theorem okV_X10_feed : okV yX10_feed cX10_feed 2 (some .int) 1 := ⟨⟨wd_701, wd_497, by decide +kernel⟩, wd_702, wd_703⟩
theorem dL_law_191 : decode cL_law 191 = .ok (.pop, 1) := dLg_86 cL_law dLt_86 dLa_86 (k := 15) rfl
theorem dL_law_192 : decode cL_law 192 = .ok (.goto 823, 3) := dLg_86 cL_law dLt_86 dLa_86 (k := 16) rfl
theorem dL_law_195 : decode cL_law 195 = .ok (.aload_n 1, 1) := dLg_86 cL_law dLt_86 dLa_86 (k := 17) rfl
theorem dL_law_196 : decode cL_law 196 = .ok (.invokevirtual 18, 3) := dLg_86 cL_law dLt_86 dLa_86 (k := 18) rfl
theorem wd_704 : Cond.methodLink RL 18 yX9_town ∈ BG := BG_at 334 (by decide +kernel) rfl
theorem wd_705 : Cond.code yX9_town cX9_town 2 (some .int) ∈ BG := BG_at 337 (by decide +kernel) rfl
theorem wd_706 : Cond.instanceMethod yX9_town ∈ BG := BG_at 335 (by decide +kernel) rfl
theorem wd_707 : Cond.selects RX9 yX9_town yX9_town ∈ BG := BG_at 336 (by decide +kernel) rfl
theorem okV_X9_town : okV yX9_town cX9_town 2 (some .int) 0 := ⟨⟨wd_705, wd_71, by decide +kernel⟩, wd_706, wd_707⟩
theorem dL_law_199 : decode cL_law 199 = .ok (.pop, 1) := dLg_86 cL_law dLt_86 dLa_86 (k := 19) rfl
theorem dL_law_200 : decode cL_law 200 = .ok (.aload_n 2, 1) := dLg_86 cL_law dLt_86 dLa_86 (k := 20) rfl
theorem dL_law_201 : decode cL_law 201 = .ok (.invokevirtual 22, 3) := dLg_86 cL_law dLt_86 dLa_86 (k := 21) rfl
theorem wd_708 : Cond.methodLink RL 22 yX10_town ∈ BG := BG_at 930 (by decide +kernel) rfl
theorem wd_709 : Cond.code yX10_town cX10_town 3 (some .int) ∈ BG := BG_at 933 (by decide +kernel) rfl
theorem wd_710 : Cond.instanceMethod yX10_town ∈ BG := BG_at 931 (by decide +kernel) rfl
theorem wd_711 : Cond.selects RX10 yX10_town yX10_town ∈ BG := BG_at 932 (by decide +kernel) rfl
theorem okV_X10_town : okV yX10_town cX10_town 3 (some .int) 0 := ⟨⟨wd_709, wd_497, by decide +kernel⟩, wd_710, wd_711⟩
theorem dL_law_204 : decode cL_law 204 = .ok (.pop, 1) := dLg_86 cL_law dLt_86 dLa_86 (k := 22) rfl
theorem dL_law_205 : decode cL_law 205 = .ok (.goto 810, 3) := dLg_86 cL_law dLt_86 dLa_86 (k := 23) rfl
theorem dL_law_208 : decode cL_law 208 = .ok (.aload_n 1, 1) := dLg_86 cL_law dLt_86 dLa_86 (k := 24) rfl
theorem dL_law_209 : decode cL_law 209 = .ok (.invokevirtual 23, 3) := dLg_86 cL_law dLt_86 dLa_86 (k := 25) rfl
theorem wd_712 : Cond.methodLink RL 23 yX9_fault ∈ BG := BG_at 399 (by decide +kernel) rfl
theorem wd_713 : Cond.code yX9_fault cX9_fault 1 (some .int) ∈ BG := BG_at 402 (by decide +kernel) rfl
theorem wd_714 : Cond.instanceMethod yX9_fault ∈ BG := BG_at 400 (by decide +kernel) rfl
theorem wd_715 : Cond.selects RX9 yX9_fault yX9_fault ∈ BG := BG_at 401 (by decide +kernel) rfl
theorem okV_X9_fault : okV yX9_fault cX9_fault 1 (some .int) 0 := ⟨⟨wd_713, wd_71, by decide +kernel⟩, wd_714, wd_715⟩
theorem dL_law_212 : decode cL_law 212 = .ok (.pop, 1) := dLg_86 cL_law dLt_86 dLa_86 (k := 26) rfl
theorem dL_law_213 : decode cL_law 213 = .ok (.aload_n 2, 1) := dLg_86 cL_law dLt_86 dLa_86 (k := 27) rfl
theorem dL_law_214 : decode cL_law 214 = .ok (.invokevirtual 26, 3) := dLg_86 cL_law dLt_86 dLa_86 (k := 28) rfl
theorem wd_716 : Cond.methodLink RL 26 yX10_fault ∈ BG := BG_at 980 (by decide +kernel) rfl
theorem wd_717 : Cond.code yX10_fault cX10_fault 1 (some .int) ∈ BG := BG_at 983 (by decide +kernel) rfl
theorem wd_718 : Cond.instanceMethod yX10_fault ∈ BG := BG_at 981 (by decide +kernel) rfl
theorem wd_719 : Cond.selects RX10 yX10_fault yX10_fault ∈ BG := BG_at 982 (by decide +kernel) rfl
theorem okV_X10_fault : okV yX10_fault cX10_fault 1 (some .int) 0 := ⟨⟨wd_717, wd_497, by decide +kernel⟩, wd_718, wd_719⟩
theorem dL_law_217 : decode cL_law 217 = .ok (.pop, 1) := dLg_86 cL_law dLt_86 dLa_86 (k := 29) rfl
theorem dL_law_218 : decode cL_law 218 = .ok (.goto 797, 3) := dLg_86 cL_law dLt_86 dLa_86 (k := 30) rfl
theorem dL_law_221 : decode cL_law 221 = .ok (.aload_n 1, 1) := dLg_86 cL_law dLt_86 dLa_86 (k := 31) rfl
theorem dL_law_222 : decode cL_law 222 = .ok (.aload_n 0, 1) := dLg_86 cL_law dLt_86 dLa_86 (k := 32) rfl
theorem dL_law_223 : decode cL_law 223 = .ok (.iload_n 3, 1) := dLg_86 cL_law dLt_86 dLa_86 (k := 33) rfl
theorem dL_law_224 : decode cL_law 224 = .ok (.iconst 1, 1) := dLg_86 cL_law dLt_86 dLa_86 (k := 34) rfl
theorem dL_law_225 : decode cL_law 225 = .ok (.iadd, 1) := dLg_86 cL_law dLt_86 dLa_86 (k := 35) rfl
theorem dL_law_226 : decode cL_law 226 = .ok (.iaload, 1) := dLg_86 cL_law dLt_86 dLa_86 (k := 36) rfl
theorem dL_law_227 : decode cL_law 227 = .ok (.invokevirtual 27, 3) := dLg_86 cL_law dLt_86 dLa_86 (k := 37) rfl
theorem wd_720 : Cond.methodLink RL 27 yX9_told ∈ BG := BG_at 403 (by decide +kernel) rfl
theorem wd_721 : Cond.code yX9_told cX9_told 2 (some .int) ∈ BG := BG_at 406 (by decide +kernel) rfl
theorem wd_722 : Cond.instanceMethod yX9_told ∈ BG := BG_at 404 (by decide +kernel) rfl
theorem wd_723 : Cond.selects RX9 yX9_told yX9_told ∈ BG := BG_at 405 (by decide +kernel) rfl
theorem okV_X9_told : okV yX9_told cX9_told 2 (some .int) 1 := ⟨⟨wd_721, wd_71, by decide +kernel⟩, wd_722, wd_723⟩
theorem dL_law_230 : decode cL_law 230 = .ok (.pop, 1) := dLg_86 cL_law dLt_86 dLa_86 (k := 38) rfl
theorem dL_law_231 : decode cL_law 231 = .ok (.aload_n 2, 1) := dLg_86 cL_law dLt_86 dLa_86 (k := 39) rfl
theorem dL_law_232 : decode cL_law 232 = .ok (.aload_n 0, 1) := dLg_86 cL_law dLt_86 dLa_86 (k := 40) rfl
theorem dL_law_233 : decode cL_law 233 = .ok (.iload_n 3, 1) := dLg_86 cL_law dLt_86 dLa_86 (k := 41) rfl
theorem dL_law_234 : decode cL_law 234 = .ok (.iconst 1, 1) := dLg_86 cL_law dLt_86 dLa_86 (k := 42) rfl
theorem dL_law_235 : decode cL_law 235 = .ok (.iadd, 1) := dLg_86 cL_law dLt_86 dLa_86 (k := 43) rfl
theorem dL_law_236 : decode cL_law 236 = .ok (.iaload, 1) := dLg_86 cL_law dLt_86 dLa_86 (k := 44) rfl
theorem dL_law_237 : decode cL_law 237 = .ok (.invokevirtual 30, 3) := dLg_86 cL_law dLt_86 dLa_86 (k := 45) rfl
theorem wd_724 : Cond.methodLink RL 30 yX10_told ∈ BG := BG_at 984 (by decide +kernel) rfl
theorem wd_725 : Cond.code yX10_told cX10_told 2 (some .int) ∈ BG := BG_at 987 (by decide +kernel) rfl
theorem wd_726 : Cond.instanceMethod yX10_told ∈ BG := BG_at 985 (by decide +kernel) rfl
theorem wd_727 : Cond.selects RX10 yX10_told yX10_told ∈ BG := BG_at 986 (by decide +kernel) rfl
theorem okV_X10_told : okV yX10_told cX10_told 2 (some .int) 1 := ⟨⟨wd_725, wd_497, by decide +kernel⟩, wd_726, wd_727⟩
theorem dL_law_240 : decode cL_law 240 = .ok (.pop, 1) := dLg_86 cL_law dLt_86 dLa_86 (k := 46) rfl
theorem dL_law_241 : decode cL_law 241 = .ok (.goto 774, 3) := dLg_86 cL_law dLt_86 dLa_86 (k := 47) rfl
theorem dL_law_244 : decode cL_law 244 = .ok (.aload_n 1, 1) := dLg_86 cL_law dLt_86 dLa_86 (k := 48) rfl
theorem dL_law_245 : decode cL_law 245 = .ok (.aload_n 0, 1) := dLg_86 cL_law dLt_86 dLa_86 (k := 49) rfl
theorem dL_law_246 : decode cL_law 246 = .ok (.iload_n 3, 1) := dLg_86 cL_law dLt_86 dLa_86 (k := 50) rfl
theorem dL_law_247 : decode cL_law 247 = .ok (.iconst 1, 1) := dLg_86 cL_law dLt_86 dLa_86 (k := 51) rfl
theorem dL_law_248 : decode cL_law 248 = .ok (.iadd, 1) := dLg_86 cL_law dLt_86 dLa_86 (k := 52) rfl
theorem dL_law_249 : decode cL_law 249 = .ok (.iaload, 1) := dLg_86 cL_law dLt_86 dLa_86 (k := 53) rfl
theorem dL_law_250 : decode cL_law 250 = .ok (.aload_n 0, 1) := dLg_86 cL_law dLt_86 dLa_86 (k := 54) rfl
theorem dL_law_251 : decode cL_law 251 = .ok (.iload_n 3, 1) := dLg_86 cL_law dLt_86 dLa_86 (k := 55) rfl
theorem dL_law_252 : decode cL_law 252 = .ok (.iconst 2, 1) := dLg_86 cL_law dLt_86 dLa_86 (k := 56) rfl
theorem dL_law_253 : decode cL_law 253 = .ok (.iadd, 1) := dLg_86 cL_law dLt_86 dLa_86 (k := 57) rfl
theorem dL_law_254 : decode cL_law 254 = .ok (.iaload, 1) := dLg_86 cL_law dLt_86 dLa_86 (k := 58) rfl
theorem dL_law_255 : decode cL_law 255 = .ok (.invokevirtual 31, 3) := dLg_86 cL_law dLt_86 dLa_86 (k := 59) rfl
theorem wd_728 : Cond.methodLink RL 31 yX9_bridge ∈ BG := BG_at 435 (by decide +kernel) rfl
theorem wd_729 : Cond.code yX9_bridge cX9_bridge 3 (some .int) ∈ BG := BG_at 438 (by decide +kernel) rfl
theorem wd_730 : Cond.instanceMethod yX9_bridge ∈ BG := BG_at 436 (by decide +kernel) rfl
theorem wd_731 : Cond.selects RX9 yX9_bridge yX9_bridge ∈ BG := BG_at 437 (by decide +kernel) rfl
theorem okV_X9_bridge : okV yX9_bridge cX9_bridge 3 (some .int) 2 := ⟨⟨wd_729, wd_71, by decide +kernel⟩, wd_730, wd_731⟩
theorem dL_law_258 : decode cL_law 258 = .ok (.pop, 1) := dLg_86 cL_law dLt_86 dLa_86 (k := 60) rfl
theorem dL_law_259 : decode cL_law 259 = .ok (.aload_n 2, 1) := dLg_86 cL_law dLt_86 dLa_86 (k := 61) rfl
theorem dL_law_260 : decode cL_law 260 = .ok (.aload_n 0, 1) := dLg_86 cL_law dLt_86 dLa_86 (k := 62) rfl
theorem dL_law_261 : decode cL_law 261 = .ok (.iload_n 3, 1) := dLg_86 cL_law dLt_86 dLa_86 (k := 63) rfl
theorem dL_law_262 : decode cL_law 262 = .ok (.iconst 1, 1) := dLg_86 cL_law dLt_86 dLa_86 (k := 64) rfl
theorem dL_law_263 : decode cL_law 263 = .ok (.iadd, 1) := dLg_86 cL_law dLt_86 dLa_86 (k := 65) rfl
theorem dL_law_264 : decode cL_law 264 = .ok (.iaload, 1) := dLg_86 cL_law dLt_86 dLa_86 (k := 66) rfl
theorem dL_law_265 : decode cL_law 265 = .ok (.aload_n 0, 1) := dLg_86 cL_law dLt_86 dLa_86 (k := 67) rfl
theorem dL_law_266 : decode cL_law 266 = .ok (.iload_n 3, 1) := dLg_86 cL_law dLt_86 dLa_86 (k := 68) rfl
theorem dL_law_267 : decode cL_law 267 = .ok (.iconst 2, 1) := dLg_86 cL_law dLt_86 dLa_86 (k := 69) rfl
theorem dL_law_268 : decode cL_law 268 = .ok (.iadd, 1) := dLg_86 cL_law dLt_86 dLa_86 (k := 70) rfl
theorem dL_law_269 : decode cL_law 269 = .ok (.iaload, 1) := dLg_86 cL_law dLt_86 dLa_86 (k := 71) rfl
theorem dL_law_270 : decode cL_law 270 = .ok (.invokevirtual 35, 3) := dLg_86 cL_law dLt_86 dLa_86 (k := 72) rfl
theorem wd_732 : Cond.methodLink RL 35 yX10_bridge ∈ BG := BG_at 1001 (by decide +kernel) rfl
theorem wd_733 : Cond.code yX10_bridge cX10_bridge 3 (some .int) ∈ BG := BG_at 1004 (by decide +kernel) rfl
theorem wd_734 : Cond.instanceMethod yX10_bridge ∈ BG := BG_at 1002 (by decide +kernel) rfl
theorem wd_735 : Cond.selects RX10 yX10_bridge yX10_bridge ∈ BG := BG_at 1003 (by decide +kernel) rfl
theorem okV_X10_bridge : okV yX10_bridge cX10_bridge 3 (some .int) 2 := ⟨⟨wd_733, wd_497, by decide +kernel⟩, wd_734, wd_735⟩
theorem dL_law_273 : decode cL_law 273 = .ok (.pop, 1) := dLg_86 cL_law dLt_86 dLa_86 (k := 73) rfl
theorem dL_law_274 : decode cL_law 274 = .ok (.goto 741, 3) := dLg_86 cL_law dLt_86 dLa_86 (k := 74) rfl
theorem dL_law_277 : decode cL_law 277 = .ok (.aload_n 1, 1) := dLg_86 cL_law dLt_86 dLa_86 (k := 75) rfl
theorem dL_law_278 : decode cL_law 278 = .ok (.aload_n 0, 1) := dLg_86 cL_law dLt_86 dLa_86 (k := 76) rfl
theorem dL_law_279 : decode cL_law 279 = .ok (.iload_n 3, 1) := dLg_86 cL_law dLt_86 dLa_86 (k := 77) rfl
theorem dL_law_280 : decode cL_law 280 = .ok (.iconst 1, 1) := dLg_86 cL_law dLt_86 dLa_86 (k := 78) rfl
theorem dL_law_281 : decode cL_law 281 = .ok (.iadd, 1) := dLg_86 cL_law dLt_86 dLa_86 (k := 79) rfl
theorem dL_law_282 : decode cL_law 282 = .ok (.iaload, 1) := dLg_86 cL_law dLt_86 dLa_86 (k := 80) rfl
theorem dL_law_283 : decode cL_law 283 = .ok (.aload_n 0, 1) := dLg_86 cL_law dLt_86 dLa_86 (k := 81) rfl
theorem dL_law_284 : decode cL_law 284 = .ok (.iload_n 3, 1) := dLg_86 cL_law dLt_86 dLa_86 (k := 82) rfl
theorem dL_law_285 : decode cL_law 285 = .ok (.iconst 2, 1) := dLg_86 cL_law dLt_86 dLa_86 (k := 83) rfl
theorem dL_law_286 : decode cL_law 286 = .ok (.iadd, 1) := dLg_86 cL_law dLt_86 dLa_86 (k := 84) rfl
theorem dL_law_287 : decode cL_law 287 = .ok (.iaload, 1) := dLg_86 cL_law dLt_86 dLa_86 (k := 85) rfl
theorem dL_law_288 : decode cL_law 288 = .ok (.invokevirtual 36, 3) := dLg_86 cL_law dLt_86 dLa_86 (k := 86) rfl
theorem wd_736 : Cond.methodLink RL 36 yX9_couple ∈ BG := BG_at 453 (by decide +kernel) rfl
theorem wd_737 : Cond.code yX9_couple cX9_couple 3 (some .int) ∈ BG := BG_at 456 (by decide +kernel) rfl
theorem wd_738 : Cond.instanceMethod yX9_couple ∈ BG := BG_at 454 (by decide +kernel) rfl
theorem wd_739 : Cond.selects RX9 yX9_couple yX9_couple ∈ BG := BG_at 455 (by decide +kernel) rfl
theorem okV_X9_couple : okV yX9_couple cX9_couple 3 (some .int) 2 := ⟨⟨wd_737, wd_71, by decide +kernel⟩, wd_738, wd_739⟩
theorem dL_law_291 : decode cL_law 291 = .ok (.pop, 1) := dLg_86 cL_law dLt_86 dLa_86 (k := 87) rfl
theorem dL_law_292 : decode cL_law 292 = .ok (.aload_n 2, 1) := dLg_86 cL_law dLt_86 dLa_86 (k := 88) rfl
theorem dL_law_293 : decode cL_law 293 = .ok (.aload_n 0, 1) := dLg_86 cL_law dLt_86 dLa_86 (k := 89) rfl
theorem dL_law_294 : decode cL_law 294 = .ok (.iload_n 3, 1) := dLg_86 cL_law dLt_86 dLa_86 (k := 90) rfl
theorem dL_law_295 : decode cL_law 295 = .ok (.iconst 1, 1) := dLg_86 cL_law dLt_86 dLa_86 (k := 91) rfl
theorem dL_law_296 : decode cL_law 296 = .ok (.iadd, 1) := dLg_86 cL_law dLt_86 dLa_86 (k := 92) rfl
theorem dL_law_297 : decode cL_law 297 = .ok (.iaload, 1) := dLg_86 cL_law dLt_86 dLa_86 (k := 93) rfl
theorem dL_law_298 : decode cL_law 298 = .ok (.aload_n 0, 1) := dLg_86 cL_law dLt_86 dLa_86 (k := 94) rfl
theorem dL_law_299 : decode cL_law 299 = .ok (.iload_n 3, 1) := dLg_86 cL_law dLt_86 dLa_86 (k := 95) rfl
theorem dL_law_300 : decode cL_law 300 = .ok (.iconst 2, 1) := dLg_86 cL_law dLt_86 dLa_86 (k := 96) rfl
theorem dL_law_301 : decode cL_law 301 = .ok (.iadd, 1) := dLg_86 cL_law dLt_86 dLa_86 (k := 97) rfl
theorem dL_law_302 : decode cL_law 302 = .ok (.iaload, 1) := dLg_86 cL_law dLt_86 dLa_86 (k := 98) rfl
theorem dL_law_303 : decode cL_law 303 = .ok (.invokevirtual 39, 3) := dLg_86 cL_law dLt_86 dLa_86 (k := 99) rfl
theorem wd_740 : Cond.methodLink RL 39 yX10_couple ∈ BG := BG_at 1014 (by decide +kernel) rfl
theorem wd_741 : Cond.code yX10_couple cX10_couple 3 (some .int) ∈ BG := BG_at 1017 (by decide +kernel) rfl
theorem wd_742 : Cond.instanceMethod yX10_couple ∈ BG := BG_at 1015 (by decide +kernel) rfl
theorem wd_743 : Cond.selects RX10 yX10_couple yX10_couple ∈ BG := BG_at 1016 (by decide +kernel) rfl
theorem okV_X10_couple : okV yX10_couple cX10_couple 3 (some .int) 2 := ⟨⟨wd_741, wd_497, by decide +kernel⟩, wd_742, wd_743⟩
theorem dL_law_306 : decode cL_law 306 = .ok (.pop, 1) := dLg_86 cL_law dLt_86 dLa_86 (k := 100) rfl
theorem dL_law_307 : decode cL_law 307 = .ok (.goto 708, 3) := dLg_86 cL_law dLt_86 dLa_86 (k := 101) rfl
theorem dL_law_310 : decode cL_law 310 = .ok (.aload_n 1, 1) := dLg_86 cL_law dLt_86 dLa_86 (k := 102) rfl
theorem dL_law_311 : decode cL_law 311 = .ok (.aload_n 0, 1) := dLg_86 cL_law dLt_86 dLa_86 (k := 103) rfl
theorem dL_law_312 : decode cL_law 312 = .ok (.iload_n 3, 1) := dLg_86 cL_law dLt_86 dLa_86 (k := 104) rfl
theorem dL_law_313 : decode cL_law 313 = .ok (.iconst 1, 1) := dLg_86 cL_law dLt_86 dLa_86 (k := 105) rfl
theorem dL_law_314 : decode cL_law 314 = .ok (.iadd, 1) := dLg_86 cL_law dLt_86 dLa_86 (k := 106) rfl
theorem dL_law_315 : decode cL_law 315 = .ok (.iaload, 1) := dLg_86 cL_law dLt_86 dLa_86 (k := 107) rfl
theorem dL_law_316 : decode cL_law 316 = .ok (.aload_n 0, 1) := dLg_86 cL_law dLt_86 dLa_86 (k := 108) rfl
theorem dL_law_317 : decode cL_law 317 = .ok (.iload_n 3, 1) := dLg_86 cL_law dLt_86 dLa_86 (k := 109) rfl
theorem dL_law_318 : decode cL_law 318 = .ok (.iconst 2, 1) := dLg_86 cL_law dLt_86 dLa_86 (k := 110) rfl
theorem dL_law_319 : decode cL_law 319 = .ok (.iadd, 1) := dLg_86 cL_law dLt_86 dLa_86 (k := 111) rfl
theorem dL_law_320 : decode cL_law 320 = .ok (.iaload, 1) := dLg_86 cL_law dLt_86 dLa_86 (k := 112) rfl
theorem dL_law_321 : decode cL_law 321 = .ok (.invokevirtual 40, 3) := dLg_86 cL_law dLt_86 dLa_86 (k := 113) rfl
theorem wd_744 : Cond.methodLink RL 40 yX9_force ∈ BG := BG_at 472 (by decide +kernel) rfl
theorem wd_745 : Cond.code yX9_force cX9_force 3 (some .int) ∈ BG := BG_at 475 (by decide +kernel) rfl
theorem wd_746 : Cond.instanceMethod yX9_force ∈ BG := BG_at 473 (by decide +kernel) rfl
theorem wd_747 : Cond.selects RX9 yX9_force yX9_force ∈ BG := BG_at 474 (by decide +kernel) rfl
theorem okV_X9_force : okV yX9_force cX9_force 3 (some .int) 2 := ⟨⟨wd_745, wd_71, by decide +kernel⟩, wd_746, wd_747⟩
theorem dL_law_324 : decode cL_law 324 = .ok (.aload_n 2, 1) := dLg_86 cL_law dLt_86 dLa_86 (k := 114) rfl
theorem dL_law_325 : decode cL_law 325 = .ok (.aload_n 0, 1) := dLg_86 cL_law dLt_86 dLa_86 (k := 115) rfl
theorem dL_law_326 : decode cL_law 326 = .ok (.iload_n 3, 1) := dLg_86 cL_law dLt_86 dLa_86 (k := 116) rfl
theorem dL_law_327 : decode cL_law 327 = .ok (.iconst 1, 1) := dLg_86 cL_law dLt_86 dLa_86 (k := 117) rfl
theorem dL_law_328 : decode cL_law 328 = .ok (.iadd, 1) := dLg_86 cL_law dLt_86 dLa_86 (k := 118) rfl
theorem dL_law_329 : decode cL_law 329 = .ok (.iaload, 1) := dLg_86 cL_law dLt_86 dLa_86 (k := 119) rfl
theorem dL_law_330 : decode cL_law 330 = .ok (.aload_n 0, 1) := dLg_86 cL_law dLt_86 dLa_86 (k := 120) rfl
theorem dL_law_331 : decode cL_law 331 = .ok (.iload_n 3, 1) := dLg_86 cL_law dLt_86 dLa_86 (k := 121) rfl
theorem dL_law_332 : decode cL_law 332 = .ok (.iconst 2, 1) := dLg_86 cL_law dLt_86 dLa_86 (k := 122) rfl
theorem dL_law_333 : decode cL_law 333 = .ok (.iadd, 1) := dLg_86 cL_law dLt_86 dLa_86 (k := 123) rfl
theorem dL_law_334 : decode cL_law 334 = .ok (.iaload, 1) := dLg_86 cL_law dLt_86 dLa_86 (k := 124) rfl
theorem dL_law_335 : decode cL_law 335 = .ok (.invokevirtual 43, 3) := dLg_86 cL_law dLt_86 dLa_86 (k := 125) rfl
theorem wd_748 : Cond.methodLink RL 43 yX10_force ∈ BG := BG_at 1026 (by decide +kernel) rfl
theorem wd_749 : Cond.code yX10_force cX10_force 3 (some .int) ∈ BG := BG_at 1029 (by decide +kernel) rfl
theorem wd_750 : Cond.instanceMethod yX10_force ∈ BG := BG_at 1027 (by decide +kernel) rfl
theorem wd_751 : Cond.selects RX10 yX10_force yX10_force ∈ BG := BG_at 1028 (by decide +kernel) rfl
theorem okV_X10_force : okV yX10_force cX10_force 3 (some .int) 2 := ⟨⟨wd_749, wd_497, by decide +kernel⟩, wd_750, wd_751⟩
theorem dL_law_338 : decode cL_law 338 = .ok (.if_icmp .eq 677, 3) := dLg_86 cL_law dLt_86 dLa_86 (k := 126) rfl
theorem dL_law_343 : decode cL_law 343 = .ok (.aload_n 1, 1) := dLg_86 cL_law dLt_86 dLa_86 (k := 127) rfl
theorem dL_law_344 : decode cL_law 344 = .ok (.aload_n 0, 1) := dLg_86 cL_law dLt_86 dLa_86 (k := 128) rfl
theorem dL_law_345 : decode cL_law 345 = .ok (.iload_n 3, 1) := dLg_86 cL_law dLt_86 dLa_86 (k := 129) rfl
theorem dL_law_346 : decode cL_law 346 = .ok (.iconst 1, 1) := dLg_86 cL_law dLt_86 dLa_86 (k := 130) rfl
theorem dL_law_347 : decode cL_law 347 = .ok (.iadd, 1) := dLg_86 cL_law dLt_86 dLa_86 (k := 131) rfl
theorem dL_law_348 : decode cL_law 348 = .ok (.iaload, 1) := dLg_86 cL_law dLt_86 dLa_86 (k := 132) rfl
theorem dL_law_349 : decode cL_law 349 = .ok (.aload_n 0, 1) := dLg_86 cL_law dLt_86 dLa_86 (k := 133) rfl
theorem dL_law_350 : decode cL_law 350 = .ok (.iload_n 3, 1) := dLg_86 cL_law dLt_86 dLa_86 (k := 134) rfl
theorem dL_law_351 : decode cL_law 351 = .ok (.iconst 2, 1) := dLg_86 cL_law dLt_86 dLa_86 (k := 135) rfl
theorem dL_law_352 : decode cL_law 352 = .ok (.iadd, 1) := dLg_86 cL_law dLt_86 dLa_86 (k := 136) rfl
theorem dL_law_353 : decode cL_law 353 = .ok (.iaload, 1) := dLg_86 cL_law dLt_86 dLa_86 (k := 137) rfl
theorem dL_law_354 : decode cL_law 354 = .ok (.invokevirtual 44, 3) := dLg_86 cL_law dLt_86 dLa_86 (k := 138) rfl
theorem wd_752 : Cond.methodLink RL 44 yX9_barge ∈ BG := BG_at 485 (by decide +kernel) rfl
theorem wd_753 : Cond.code yX9_barge cX9_barge 3 (some .int) ∈ BG := BG_at 488 (by decide +kernel) rfl
theorem wd_754 : Cond.instanceMethod yX9_barge ∈ BG := BG_at 486 (by decide +kernel) rfl
theorem wd_755 : Cond.selects RX9 yX9_barge yX9_barge ∈ BG := BG_at 487 (by decide +kernel) rfl
theorem okV_X9_barge : okV yX9_barge cX9_barge 3 (some .int) 2 := ⟨⟨wd_753, wd_71, by decide +kernel⟩, wd_754, wd_755⟩
theorem dL_law_357 : decode cL_law 357 = .ok (.pop, 1) := dLg_86 cL_law dLt_86 dLa_86 (k := 139) rfl
theorem dL_law_358 : decode cL_law 358 = .ok (.aload_n 2, 1) := dLg_86 cL_law dLt_86 dLa_86 (k := 140) rfl
theorem dL_law_359 : decode cL_law 359 = .ok (.aload_n 0, 1) := dLg_86 cL_law dLt_86 dLa_86 (k := 141) rfl
theorem dL_law_360 : decode cL_law 360 = .ok (.iload_n 3, 1) := dLg_86 cL_law dLt_86 dLa_86 (k := 142) rfl
theorem dL_law_361 : decode cL_law 361 = .ok (.iconst 1, 1) := dLg_86 cL_law dLt_86 dLa_86 (k := 143) rfl
theorem dL_law_362 : decode cL_law 362 = .ok (.iadd, 1) := dLg_86 cL_law dLt_86 dLa_86 (k := 144) rfl
theorem dL_law_363 : decode cL_law 363 = .ok (.iaload, 1) := dLg_86 cL_law dLt_86 dLa_86 (k := 145) rfl
theorem dL_law_364 : decode cL_law 364 = .ok (.aload_n 0, 1) := dLg_86 cL_law dLt_86 dLa_86 (k := 146) rfl
theorem dL_law_365 : decode cL_law 365 = .ok (.iload_n 3, 1) := dLg_86 cL_law dLt_86 dLa_86 (k := 147) rfl
theorem dL_law_366 : decode cL_law 366 = .ok (.iconst 2, 1) := dLg_86 cL_law dLt_86 dLa_86 (k := 148) rfl
theorem dL_law_367 : decode cL_law 367 = .ok (.iadd, 1) := dLg_86 cL_law dLt_86 dLa_86 (k := 149) rfl
theorem dL_law_368 : decode cL_law 368 = .ok (.iaload, 1) := dLg_86 cL_law dLt_86 dLa_86 (k := 150) rfl
theorem dL_law_369 : decode cL_law 369 = .ok (.invokevirtual 47, 3) := dLg_86 cL_law dLt_86 dLa_86 (k := 151) rfl
theorem wd_756 : Cond.methodLink RL 47 yX10_barge ∈ BG := BG_at 1034 (by decide +kernel) rfl
theorem wd_757 : Cond.code yX10_barge cX10_barge 3 (some .int) ∈ BG := BG_at 1037 (by decide +kernel) rfl
theorem wd_758 : Cond.instanceMethod yX10_barge ∈ BG := BG_at 1035 (by decide +kernel) rfl
theorem wd_759 : Cond.selects RX10 yX10_barge yX10_barge ∈ BG := BG_at 1036 (by decide +kernel) rfl
theorem okV_X10_barge : okV yX10_barge cX10_barge 3 (some .int) 2 := ⟨⟨wd_757, wd_497, by decide +kernel⟩, wd_758, wd_759⟩
theorem dL_law_372 : decode cL_law 372 = .ok (.pop, 1) := dLg_86 cL_law dLt_86 dLa_86 (k := 152) rfl
theorem dL_law_373 : decode cL_law 373 = .ok (.goto 642, 3) := dLg_86 cL_law dLt_86 dLa_86 (k := 153) rfl
end
section
def Wx_feed (cI cZ : ClassId) (xh : Nat) (v_x : Nat) (v_q1 : Int32) (v_q2 : Int32) (v_rd : Nat) (v_t : Nat) (v_d : Nat) (v_nw : Nat) (v_ps : Nat) (v_im : Nat) (v_is_ : Nat) (v_q10 : Int32) (v_bk : Nat) (v_q12 : Int32) (v_qr : Nat) (v_pr : Nat) (v_cv : Nat) (v_ft : Nat) (v_ftx : Nat → Int32) : va_W := [(xh, .inr (9, [.ref v_x, .int v_q1, .int v_q2, .ref v_rd, .ref v_t, .ref v_d, .ref v_nw, .ref v_ps, .ref v_im, .ref v_is_, .int v_q10, .ref v_bk, .int v_q12, .ref v_qr, .ref v_pr, .ref v_cv, .ref v_ft])), (v_x, .inl (cI, 240, .inl v_ftx))]
def Wm_feed (cI cZ : ClassId) (yh : Nat) (Rf : Nat → Nat) (G : Nat → Int32) (f13 : Nat → Int32) : va_W := [(yh, .inr (10, ML G Rf)), ((Rf 13), .inl (cI, 240, .inl f13))]
set_option maxHeartbeats 4000000 in
set_option maxRecDepth 100000 in
theorem law_feed {p : Program} {l : Launch} {e : Env} {s : State} {m : MethodId} {below : List Frame} {meth : Method} {c : Code} {D : va_G} {cI cZ : ClassId} {b : Nat} {xs : Nat → Int32} {L : Nat} (wr : va_W) (v_x : Nat) (v_q1 : Int32) (v_q2 : Int32) (v_rd : Nat) (v_t : Nat) (v_d : Nat) (v_nw : Nat) (v_ps : Nat) (v_im : Nat) (v_is_ : Nat) (v_q10 : Int32) (v_bk : Nat) (v_q12 : Int32) (v_qr : Nat) (v_pr : Nat) (v_cv : Nat) (v_ft : Nat) (v_ftx : Nat → Int32) (Rf : Nat → Nat) (G : Nat → Int32) (f13 : Nat → Int32) {xh yh : Nat} {iv : Int32} (C0 : lw_C p s m meth c b L xs) {H : Heap} {locs : List Loc} {ls : Array Slot} (hi1 : ¬ ((iv + 1) < 0 ∨ L ≤ (iv + 1 : Int32).toNatClampNeg)) (hi2 : ¬ ((iv + 2) < 0 ∨ L ≤ (iv + 2 : Int32).toNatClampNeg)) (hi3 : ¬ ((iv + 3) < 0 ∨ L ≤ (iv + 3 : Int32).toNatClampNeg)) (hi4 : ¬ ((iv + 4) < 0 ∨ L ≤ (iv + 4 : Int32).toNatClampNeg)) (hK : va_K D classes (TYS cI cZ) s) (hs : S_m_feed G f13 (xs ((iv + 1) : Int32).toNatClampNeg)) (hP : va_P D classes ((Wx_feed cI cZ xh v_x v_q1 v_q2 v_rd v_t v_d v_nw v_ps v_im v_is_ v_q10 v_bk v_q12 v_qr v_pr v_cv v_ft v_ftx) ++ ((Wm_feed cI cZ yh Rf G f13) ++ wr)) H) (hD : va_D (lw_A s) ((Wx_feed cI cZ xh v_x v_q1 v_q2 v_rd v_t v_d v_nw v_ps v_im v_is_ v_q10 v_bk v_q12 v_qr v_pr v_cv v_ft v_ftx) ++ ((Wm_feed cI cZ yh Rf G f13) ++ wr))) (hS : va_S (lw_A s) s.heap H locs) (hl : lv_has ls 4 [(0, .ref b), (1, .ref xh), (2, .ref yh), (3, .int iv)]) (hnext : ∀ (rx : Int32) (x0 : Int32) (x1 : (Nat → Int32)) (ry : Int32) (y0 : (Nat → Int32)) (y1 : (Nat → Int32)) (H : Heap) (locs : List Loc) (ls : Array Slot), (rx, x0, x1) = (f_e_feed_x9 v_q1 v_q2 v_q10 v_q12 v_ftx (xs ((iv + 1) : Int32).toNatClampNeg)) → (ry, y0, y1) = (f_m_feed G f13 (xs ((iv + 1) : Int32).toNatClampNeg)) → va_P D classes ((Wx_feed cI cZ xh v_x x0 v_q2 v_rd v_t v_d v_nw v_ps v_im v_is_ v_q10 v_bk v_q12 v_qr v_pr v_cv v_ft x1) ++ ((Wm_feed cI cZ yh Rf y0 y1) ++ wr)) H → va_D (lw_A s) ((Wx_feed cI cZ xh v_x x0 v_q2 v_rd v_t v_d v_nw v_ps v_im v_is_ v_q10 v_bk v_q12 v_qr v_pr v_cv v_ft x1) ++ ((Wm_feed cI cZ yh Rf y0 y1) ++ wr)) → va_S (lw_A s) s.heap H locs → lv_has ls 4 [(0, .ref b), (1, .ref xh), (2, .ref yh), (3, .int iv)] → W p l e room_1 s m #[Value.ref b] below meth c H locs 60 4269 (lw_Z below #[Value.ref b] s) (F0 m 1015 ls [])) : W p l e room_1 s m #[Value.ref b] below meth c H locs 60 4269 (lw_Z below #[Value.ref b] s) (F0 m 172 ls []) := by
  obtain ⟨hx, hb, hr, hml, hown, hts, hX, hbl, hlocks, hN⟩ := C0
  have hA : ∀ q, s.heap.size ≤ q → lw_A s q := fun _ h => h
  have hbA : ¬ lw_A s b := Nat.not_le.mpr hbl
  refine lv_aload_n hx hb dL_law_172 rfl (lv_at hl 1 rfl) ?_
  refine lv_aload_n hx hb dL_law_173 rfl (lv_at hl 0 rfl) ?_
  refine lv_iload_n hx hb dL_law_174 rfl (lv_at hl 3 rfl) ?_
  refine lv_iconst (v := 1) hx hb dL_law_175 (by decide) ?_
  refine lv_iadd hx hb dL_law_176 ?_
  refine va_sld hx hb hX hbl hbA hS hi1 dL_law_177 ?_
  refine cVa (wc := (Wx_feed cI cZ xh v_x v_q1 v_q2 v_rd v_t v_d v_nw v_ps v_im v_is_ v_q10 v_bk v_q12 v_qr v_pr v_cv v_ft v_ftx)) (wr := ((Wm_feed cI cZ yh Rf G f13) ++ wr)) (rest := []) (e_feed_x9 xh v_x v_rd v_t v_d v_nw v_ps v_im v_is_ v_bk v_qr v_pr v_cv v_ft v_q1 v_q2 v_q10 v_q12 v_ftx (xs ((iv + 1) : Int32).toNatClampNeg)) okV_X9_feed wd_696 hx hb hml hown hts hK hP hD hS hA hN hl.1 rfl rfl rfl (Nat.le_of_ble_eq_true rfl) (Nat.le_of_ble_eq_true rfl) (Nat.le_of_ble_eq_true rfl) (Nat.le_of_ble_eq_true rfl) (Nat.le_of_ble_eq_true rfl) dL_law_178 (fun rx u1 H locs ex hP hD hS => ?_)
  obtain ⟨x0, x1⟩ := u1
  replace ex : (rx, x0, x1) = (f_e_feed_x9 v_q1 v_q2 v_q10 v_q12 v_ftx (xs ((iv + 1) : Int32).toNatClampNeg)) := ex
  have hP : va_P D classes (((Wm_feed cI cZ yh Rf G f13) ++ wr) ++ (Wx_feed cI cZ xh v_x x0 v_q2 v_rd v_t v_d v_nw v_ps v_im v_is_ v_q10 v_bk v_q12 v_qr v_pr v_cv v_ft x1)) H := hP
  have hD : va_D (lw_A s) (((Wm_feed cI cZ yh Rf G f13) ++ wr) ++ (Wx_feed cI cZ xh v_x x0 v_q2 v_rd v_t v_d v_nw v_ps v_im v_is_ v_q10 v_bk v_q12 v_qr v_pr v_cv v_ft x1)) := hD
  rw [List.append_assoc] at hP hD
  refine lv_pop hx hb dL_law_181 rfl ?_
  refine lv_aload_n hx hb dL_law_182 rfl (lv_at hl 2 rfl) ?_
  refine lv_aload_n hx hb dL_law_183 rfl (lv_at hl 0 rfl) ?_
  refine lv_iload_n hx hb dL_law_184 rfl (lv_at hl 3 rfl) ?_
  refine lv_iconst (v := 1) hx hb dL_law_185 (by decide) ?_
  refine lv_iadd hx hb dL_law_186 ?_
  refine va_sld hx hb hX hbl hbA hS hi1 dL_law_187 ?_
  refine cVa (wc := (Wm_feed cI cZ yh Rf G f13)) (wr := (wr ++ (Wx_feed cI cZ xh v_x x0 v_q2 v_rd v_t v_d v_nw v_ps v_im v_is_ v_q10 v_bk v_q12 v_qr v_pr v_cv v_ft x1))) (rest := []) (m_feed Rf yh G f13 (xs ((iv + 1) : Int32).toNatClampNeg) hs) okV_X10_feed wd_700 hx hb hml hown hts hK hP hD hS hA hN hl.1 rfl rfl rfl (Nat.le_of_ble_eq_true rfl) (Nat.le_of_ble_eq_true rfl) (Nat.le_of_ble_eq_true rfl) (Nat.le_of_ble_eq_true rfl) (Nat.le_of_ble_eq_true rfl) dL_law_188 (fun ry u2 H locs em hP hD hS => ?_)
  obtain ⟨y0, y1⟩ := u2
  replace em : (ry, y0, y1) = (f_m_feed G f13 (xs ((iv + 1) : Int32).toNatClampNeg)) := em
  have hP : va_P D classes ((wr ++ (Wx_feed cI cZ xh v_x x0 v_q2 v_rd v_t v_d v_nw v_ps v_im v_is_ v_q10 v_bk v_q12 v_qr v_pr v_cv v_ft x1)) ++ (Wm_feed cI cZ yh Rf y0 y1)) H := hP
  have hD : va_D (lw_A s) ((wr ++ (Wx_feed cI cZ xh v_x x0 v_q2 v_rd v_t v_d v_nw v_ps v_im v_is_ v_q10 v_bk v_q12 v_qr v_pr v_cv v_ft x1)) ++ (Wm_feed cI cZ yh Rf y0 y1)) := hD
  refine lv_pop hx hb dL_law_191 rfl ?_
  refine lv_goto (tgt := 1015) hx hb dL_law_192 (by decide) ?_
  exact hnext rx x0 x1 ry y0 y1 _ _ _ ex em (permP rot hP) (permD rot hD) hS hl
def Wx_town (cI cZ : ClassId) (xh : Nat) (v_x : Nat) (v_q1 : Int32) (v_q2 : Int32) (v_rd : Nat) (v_d : Nat) (v_nw : Nat) (v_ps : Nat) (v_im : Nat) (v_is_ : Nat) (v_q10 : Int32) (v_bk : Nat) (v_q12 : Int32) (v_qr : Nat) (v_pr : Nat) (v_cv : Nat) (v_ft : Nat) (v_ftx : Nat → Int32) (v_r0 : Int32) (v_r1 : Int32) (v_u0 : Nat) (v_r3 : Int32) (v_r4 : Int32) (v_r5 : Int32) (v_r6 : Int32) (v_d0 : Int32) (v_d1 : Int32) (v_d2 : Int32) (v_d3 : Int32) (v_d4 : Int32) (v_da : Nat) (v_db : Nat) (v_dc : Nat) (v_dd : Nat) (v_de : Nat) (v_fda : Nat → Int32) (v_fdb : Nat → Int32) (v_fdc : Nat → Int32) (v_fdd : Nat → Int32) (v_fde : Nat → Int32) (v_nwc : Nat) (v_fn : Nat → Int32) (v_sh : Nat) (v_p1 : Int32) (v_p2 : Int32) (v_b0 : Int32) (v_bka : Nat) (v_bkb : Nat) (w_t : Nat) (w_d : Nat) : va_W := [(xh, .inr (9, [.ref v_x, .int v_q1, .int v_q2, .ref v_rd, .ref w_t, .ref w_d, .ref v_nw, .ref v_ps, .ref v_im, .ref v_is_, .int v_q10, .ref v_bk, .int v_q12, .ref v_qr, .ref v_pr, .ref v_cv, .ref v_ft])), (v_rd, .inr (5, [.int v_r0, .int v_r1, .ref v_u0, .int v_r3, .int v_r4, .int v_r5, .int v_r6])), (v_x, .inl (cI, 240, .inl v_ftx)), (v_d, .inr (8, [.int v_d0, .int v_d1, .int v_d2, .int v_d3, .int v_d4, .ref v_da, .ref v_db, .ref v_dc, .ref v_dd, .ref v_de])), (v_da, .inl (cI, 6, .inl v_fda)), (v_db, .inl (cI, 6, .inl v_fdb)), (v_dc, .inl (cI, 30, .inl v_fdc)), (v_dd, .inl (cI, 7, .inl v_fdd)), (v_de, .inl (cI, 7, .inl v_fde)), (v_nw, .inr (7, [.ref v_nwc])), (v_nwc, .inl (cI, 41, .inl v_fn)), (v_ps, .inr (2, [.ref v_sh, .int v_p1, .int v_p2])), (v_bk, .inr (0, [.int v_b0, .ref v_bka, .ref v_bkb]))]
def Wm_town (cI cZ : ClassId) (yh : Nat) (Rf : Nat → Nat) (G : Nat → Int32) (f0 : Nat → Int32) (f1 : Nat → Int32) (f8 : Nat → Int32) (f9 : Nat → Int32) (f10 : Nat → Int32) (f11 : Nat → Int32) (f12 : Nat → Int32) (f13 : Nat → Int32) (f27 : Nat → Int32) (f28 : Nat → Int32) (f29 : Nat → Int32) (f30 : Nat → Int32) (f31 : Nat → Int32) : va_W := [(yh, .inr (10, ML G Rf)), ((Rf 0), .inl (cI, 1302, .inl f0)), ((Rf 1), .inl (cZ, 2, .inl f1)), ((Rf 8), .inl (cI, 6, .inl f8)), ((Rf 9), .inl (cI, 6, .inl f9)), ((Rf 10), .inl (cI, 30, .inl f10)), ((Rf 11), .inl (cI, 7, .inl f11)), ((Rf 12), .inl (cI, 7, .inl f12)), ((Rf 13), .inl (cI, 240, .inl f13)), ((Rf 27), .inl (cI, 6, .inl f27)), ((Rf 28), .inl (cI, 6, .inl f28)), ((Rf 29), .inl (cI, 30, .inl f29)), ((Rf 30), .inl (cI, 7, .inl f30)), ((Rf 31), .inl (cI, 7, .inl f31))]
set_option maxHeartbeats 4000000 in
set_option maxRecDepth 100000 in
theorem law_town {p : Program} {l : Launch} {e : Env} {s : State} {m : MethodId} {below : List Frame} {meth : Method} {c : Code} {D : va_G} {cI cZ : ClassId} {b : Nat} {xs : Nat → Int32} {L : Nat} (wr : va_W) (v_x : Nat) (v_q1 : Int32) (v_q2 : Int32) (v_rd : Nat) (v_t : Nat) (v_d : Nat) (v_nw : Nat) (v_ps : Nat) (v_im : Nat) (v_is_ : Nat) (v_q10 : Int32) (v_bk : Nat) (v_q12 : Int32) (v_qr : Nat) (v_pr : Nat) (v_cv : Nat) (v_ft : Nat) (v_ftx : Nat → Int32) (v_r0 : Int32) (v_r1 : Int32) (v_u0 : Nat) (v_r3 : Int32) (v_r4 : Int32) (v_r5 : Int32) (v_r6 : Int32) (v_d0 : Int32) (v_d1 : Int32) (v_d2 : Int32) (v_d3 : Int32) (v_d4 : Int32) (v_da : Nat) (v_db : Nat) (v_dc : Nat) (v_dd : Nat) (v_de : Nat) (v_fda : Nat → Int32) (v_fdb : Nat → Int32) (v_fdc : Nat → Int32) (v_fdd : Nat → Int32) (v_fde : Nat → Int32) (v_nwc : Nat) (v_fn : Nat → Int32) (v_sh : Nat) (v_p1 : Int32) (v_p2 : Int32) (v_b0 : Int32) (v_bka : Nat) (v_bkb : Nat) (Rf : Nat → Nat) (G : Nat → Int32) (f0 : Nat → Int32) (f1 : Nat → Int32) (f8 : Nat → Int32) (f9 : Nat → Int32) (f10 : Nat → Int32) (f11 : Nat → Int32) (f12 : Nat → Int32) (f13 : Nat → Int32) (f27 : Nat → Int32) (f28 : Nat → Int32) (f29 : Nat → Int32) (f30 : Nat → Int32) (f31 : Nat → Int32) {xh yh : Nat} {iv : Int32} (C0 : lw_C p s m meth c b L xs) {H : Heap} {locs : List Loc} {ls : Array Slot} (hi1 : ¬ ((iv + 1) < 0 ∨ L ≤ (iv + 1 : Int32).toNatClampNeg)) (hi2 : ¬ ((iv + 2) < 0 ∨ L ≤ (iv + 2 : Int32).toNatClampNeg)) (hi3 : ¬ ((iv + 3) < 0 ∨ L ≤ (iv + 3 : Int32).toNatClampNeg)) (hi4 : ¬ ((iv + 4) < 0 ∨ L ≤ (iv + 4 : Int32).toNatClampNeg)) (hK : va_K D classes (TYS cI cZ) s) (hs : S_m_town G f0 f1 f8 f9 f10 f11 f12 f13 f27 f28 f29 f30 f31) (hP : va_P D classes ((Wx_town cI cZ xh v_x v_q1 v_q2 v_rd v_d v_nw v_ps v_im v_is_ v_q10 v_bk v_q12 v_qr v_pr v_cv v_ft v_ftx v_r0 v_r1 v_u0 v_r3 v_r4 v_r5 v_r6 v_d0 v_d1 v_d2 v_d3 v_d4 v_da v_db v_dc v_dd v_de v_fda v_fdb v_fdc v_fdd v_fde v_nwc v_fn v_sh v_p1 v_p2 v_b0 v_bka v_bkb v_t v_d) ++ ((Wm_town cI cZ yh Rf G f0 f1 f8 f9 f10 f11 f12 f13 f27 f28 f29 f30 f31) ++ wr)) H) (hD : va_D (lw_A s) ((Wx_town cI cZ xh v_x v_q1 v_q2 v_rd v_d v_nw v_ps v_im v_is_ v_q10 v_bk v_q12 v_qr v_pr v_cv v_ft v_ftx v_r0 v_r1 v_u0 v_r3 v_r4 v_r5 v_r6 v_d0 v_d1 v_d2 v_d3 v_d4 v_da v_db v_dc v_dd v_de v_fda v_fdb v_fdc v_fdd v_fde v_nwc v_fn v_sh v_p1 v_p2 v_b0 v_bka v_bkb v_t v_d) ++ ((Wm_town cI cZ yh Rf G f0 f1 f8 f9 f10 f11 f12 f13 f27 f28 f29 f30 f31) ++ wr))) (hS : va_S (lw_A s) s.heap H locs) (hl : lv_has ls 4 [(0, .ref b), (1, .ref xh), (2, .ref yh), (3, .int iv)]) (hnext : ∀ (rx : Int32) (x0 : Int32) (x1 : Int32) (x2 : Nat) (x3 : Nat) (x4 : Int32) (x5 : Int32) (x6 : Int32) (x7 : Int32) (x8 : Int32) (x9 : Int32) (x10 : Int32) (x11 : Int32) (x12 : Int32) (x13 : Int32) (x14 : Int32) (x15 : Int32) (x16 : (Nat → Int32)) (x17 : (Nat → Int32)) (x18 : (Nat → Int32)) (x19 : (Nat → Int32)) (x20 : (Nat → Int32)) (x21 : (Nat → Int32)) (x22 : Int32) (x23 : Int32) (ry : Int32) (y0 : (Nat → Int32)) (y1 : (Nat → Int32)) (y2 : (Nat → Int32)) (y3 : (Nat → Int32)) (y4 : (Nat → Int32)) (y5 : (Nat → Int32)) (y6 : (Nat → Int32)) (y7 : (Nat → Int32)) (y8 : (Nat → Int32)) (y9 : (Nat → Int32)) (y10 : (Nat → Int32)) (y11 : (Nat → Int32)) (y12 : (Nat → Int32)) (H : Heap) (locs : List Loc) (ls : Array Slot), (rx, x0, x1, x2, x3, x4, x5, x6, x7, x8, x9, x10, x11, x12, x13, x14, x15, x16, x17, x18, x19, x20, x21, x22, x23) = (f_e_town_x9 v_t v_d v_q1 v_q2 v_q10 v_q12 v_r0 v_r1 v_r3 v_r4 v_r5 v_r6 v_ftx v_d0 v_d1 v_d2 v_d3 v_d4 v_fda v_fdb v_fdc v_fdd v_fde v_fn v_p1 v_p2 v_b0) → (ry, y0, y1, y2, y3, y4, y5, y6, y7, y8, y9, y10, y11, y12) = (f_m_town G f0 f1 f8 f9 f10 f11 f12 f13 f27 f28 f29 f30 f31) → va_P D classes ((Wx_town cI cZ xh v_x x0 x1 v_rd v_d v_nw v_ps v_im v_is_ x4 v_bk v_q12 v_qr v_pr v_cv v_ft v_ftx x5 x6 v_x x7 x8 x9 x10 x11 x12 x13 x14 x15 v_da v_db v_dc v_dd v_de x16 x17 x18 x19 x20 v_nwc x21 v_sh v_p1 x22 x23 v_bka v_bkb x2 x3) ++ ((Wm_town cI cZ yh Rf y0 y1 y2 y3 y4 y5 y6 y7 f13 y8 y9 y10 y11 y12) ++ wr)) H → va_D (lw_A s) ((Wx_town cI cZ xh v_x x0 x1 v_rd v_d v_nw v_ps v_im v_is_ x4 v_bk v_q12 v_qr v_pr v_cv v_ft v_ftx x5 x6 v_x x7 x8 x9 x10 x11 x12 x13 x14 x15 v_da v_db v_dc v_dd v_de x16 x17 x18 x19 x20 v_nwc x21 v_sh v_p1 x22 x23 v_bka v_bkb x2 x3) ++ ((Wm_town cI cZ yh Rf y0 y1 y2 y3 y4 y5 y6 y7 f13 y8 y9 y10 y11 y12) ++ wr)) → va_S (lw_A s) s.heap H locs → lv_has ls 4 [(0, .ref b), (1, .ref xh), (2, .ref yh), (3, .int iv)] → W p l e room_1 s m #[Value.ref b] below meth c H locs 60 4269 (lw_Z below #[Value.ref b] s) (F0 m 1015 ls [])) : W p l e room_1 s m #[Value.ref b] below meth c H locs 60 4269 (lw_Z below #[Value.ref b] s) (F0 m 195 ls []) := by
  obtain ⟨hx, hb, hr, hml, hown, hts, hX, hbl, hlocks, hN⟩ := C0
  have hA : ∀ q, s.heap.size ≤ q → lw_A s q := fun _ h => h
  have hbA : ¬ lw_A s b := Nat.not_le.mpr hbl
  refine lv_aload_n hx hb dL_law_195 rfl (lv_at hl 1 rfl) ?_
  refine cVa (wc := (Wx_town cI cZ xh v_x v_q1 v_q2 v_rd v_d v_nw v_ps v_im v_is_ v_q10 v_bk v_q12 v_qr v_pr v_cv v_ft v_ftx v_r0 v_r1 v_u0 v_r3 v_r4 v_r5 v_r6 v_d0 v_d1 v_d2 v_d3 v_d4 v_da v_db v_dc v_dd v_de v_fda v_fdb v_fdc v_fdd v_fde v_nwc v_fn v_sh v_p1 v_p2 v_b0 v_bka v_bkb v_t v_d)) (wr := ((Wm_town cI cZ yh Rf G f0 f1 f8 f9 f10 f11 f12 f13 f27 f28 f29 f30 f31) ++ wr)) (rest := []) (e_town_x9 xh v_x v_rd v_nw v_ps v_im v_is_ v_bk v_qr v_pr v_cv v_ft v_u0 v_da v_db v_dc v_dd v_de v_nwc v_sh v_bka v_bkb v_t v_d v_q1 v_q2 v_q10 v_q12 v_r0 v_r1 v_r3 v_r4 v_r5 v_r6 v_ftx v_d0 v_d1 v_d2 v_d3 v_d4 v_fda v_fdb v_fdc v_fdd v_fde v_fn v_p1 v_p2 v_b0) okV_X9_town wd_704 hx hb hml hown hts hK hP hD hS hA hN hl.1 rfl rfl rfl (Nat.le_of_ble_eq_true rfl) (Nat.le_of_ble_eq_true rfl) (Nat.le_of_ble_eq_true rfl) (Nat.le_of_ble_eq_true rfl) (Nat.le_of_ble_eq_true rfl) dL_law_196 (fun rx u1 H locs ex hP hD hS => ?_)
  obtain ⟨x0, x1, x2, x3, x4, x5, x6, x7, x8, x9, x10, x11, x12, x13, x14, x15, x16, x17, x18, x19, x20, x21, x22, x23⟩ := u1
  replace ex : (rx, x0, x1, x2, x3, x4, x5, x6, x7, x8, x9, x10, x11, x12, x13, x14, x15, x16, x17, x18, x19, x20, x21, x22, x23) = (f_e_town_x9 v_t v_d v_q1 v_q2 v_q10 v_q12 v_r0 v_r1 v_r3 v_r4 v_r5 v_r6 v_ftx v_d0 v_d1 v_d2 v_d3 v_d4 v_fda v_fdb v_fdc v_fdd v_fde v_fn v_p1 v_p2 v_b0) := ex
  have hP : va_P D classes (((Wm_town cI cZ yh Rf G f0 f1 f8 f9 f10 f11 f12 f13 f27 f28 f29 f30 f31) ++ wr) ++ (Wx_town cI cZ xh v_x x0 x1 v_rd v_d v_nw v_ps v_im v_is_ x4 v_bk v_q12 v_qr v_pr v_cv v_ft v_ftx x5 x6 v_x x7 x8 x9 x10 x11 x12 x13 x14 x15 v_da v_db v_dc v_dd v_de x16 x17 x18 x19 x20 v_nwc x21 v_sh v_p1 x22 x23 v_bka v_bkb x2 x3)) H := hP
  have hD : va_D (lw_A s) (((Wm_town cI cZ yh Rf G f0 f1 f8 f9 f10 f11 f12 f13 f27 f28 f29 f30 f31) ++ wr) ++ (Wx_town cI cZ xh v_x x0 x1 v_rd v_d v_nw v_ps v_im v_is_ x4 v_bk v_q12 v_qr v_pr v_cv v_ft v_ftx x5 x6 v_x x7 x8 x9 x10 x11 x12 x13 x14 x15 v_da v_db v_dc v_dd v_de x16 x17 x18 x19 x20 v_nwc x21 v_sh v_p1 x22 x23 v_bka v_bkb x2 x3)) := hD
  rw [List.append_assoc] at hP hD
  refine lv_pop hx hb dL_law_199 rfl ?_
  refine lv_aload_n hx hb dL_law_200 rfl (lv_at hl 2 rfl) ?_
  refine cVa (wc := (Wm_town cI cZ yh Rf G f0 f1 f8 f9 f10 f11 f12 f13 f27 f28 f29 f30 f31)) (wr := (wr ++ (Wx_town cI cZ xh v_x x0 x1 v_rd v_d v_nw v_ps v_im v_is_ x4 v_bk v_q12 v_qr v_pr v_cv v_ft v_ftx x5 x6 v_x x7 x8 x9 x10 x11 x12 x13 x14 x15 v_da v_db v_dc v_dd v_de x16 x17 x18 x19 x20 v_nwc x21 v_sh v_p1 x22 x23 v_bka v_bkb x2 x3))) (rest := []) (m_town Rf yh G f0 f1 f8 f9 f10 f11 f12 f13 f27 f28 f29 f30 f31 hs) okV_X10_town wd_708 hx hb hml hown hts hK hP hD hS hA hN hl.1 rfl rfl rfl (Nat.le_of_ble_eq_true rfl) (Nat.le_of_ble_eq_true rfl) (Nat.le_of_ble_eq_true rfl) (Nat.le_of_ble_eq_true rfl) (Nat.le_of_ble_eq_true rfl) dL_law_201 (fun ry u2 H locs em hP hD hS => ?_)
  obtain ⟨y0, y1, y2, y3, y4, y5, y6, y7, y8, y9, y10, y11, y12⟩ := u2
  replace em : (ry, y0, y1, y2, y3, y4, y5, y6, y7, y8, y9, y10, y11, y12) = (f_m_town G f0 f1 f8 f9 f10 f11 f12 f13 f27 f28 f29 f30 f31) := em
  have hP : va_P D classes ((wr ++ (Wx_town cI cZ xh v_x x0 x1 v_rd v_d v_nw v_ps v_im v_is_ x4 v_bk v_q12 v_qr v_pr v_cv v_ft v_ftx x5 x6 v_x x7 x8 x9 x10 x11 x12 x13 x14 x15 v_da v_db v_dc v_dd v_de x16 x17 x18 x19 x20 v_nwc x21 v_sh v_p1 x22 x23 v_bka v_bkb x2 x3)) ++ (Wm_town cI cZ yh Rf y0 y1 y2 y3 y4 y5 y6 y7 f13 y8 y9 y10 y11 y12)) H := hP
  have hD : va_D (lw_A s) ((wr ++ (Wx_town cI cZ xh v_x x0 x1 v_rd v_d v_nw v_ps v_im v_is_ x4 v_bk v_q12 v_qr v_pr v_cv v_ft v_ftx x5 x6 v_x x7 x8 x9 x10 x11 x12 x13 x14 x15 v_da v_db v_dc v_dd v_de x16 x17 x18 x19 x20 v_nwc x21 v_sh v_p1 x22 x23 v_bka v_bkb x2 x3)) ++ (Wm_town cI cZ yh Rf y0 y1 y2 y3 y4 y5 y6 y7 f13 y8 y9 y10 y11 y12)) := hD
  refine lv_pop hx hb dL_law_204 rfl ?_
  refine lv_goto (tgt := 1015) hx hb dL_law_205 (by decide) ?_
  exact hnext rx x0 x1 x2 x3 x4 x5 x6 x7 x8 x9 x10 x11 x12 x13 x14 x15 x16 x17 x18 x19 x20 x21 x22 x23 ry y0 y1 y2 y3 y4 y5 y6 y7 y8 y9 y10 y11 y12 _ _ _ ex em (permP rot hP) (permD rot hD) hS hl
def Wx_fault (cI cZ : ClassId) (xh : Nat) (v_x : Nat) (v_q1 : Int32) (v_q2 : Int32) (v_rd : Nat) (v_t : Nat) (v_d : Nat) (v_nw : Nat) (v_ps : Nat) (v_im : Nat) (v_is_ : Nat) (v_q10 : Int32) (v_bk : Nat) (v_q12 : Int32) (v_qr : Nat) (v_pr : Nat) (v_cv : Nat) (v_ft : Nat) : va_W := [(xh, .inr (9, [.ref v_x, .int v_q1, .int v_q2, .ref v_rd, .ref v_t, .ref v_d, .ref v_nw, .ref v_ps, .ref v_im, .ref v_is_, .int v_q10, .ref v_bk, .int v_q12, .ref v_qr, .ref v_pr, .ref v_cv, .ref v_ft]))]
def Wm_fault (cI cZ : ClassId) (yh : Nat) (Rf : Nat → Nat) (G : Nat → Int32) : va_W := [(yh, .inr (10, ML G Rf))]
set_option maxHeartbeats 4000000 in
set_option maxRecDepth 100000 in
theorem law_fault {p : Program} {l : Launch} {e : Env} {s : State} {m : MethodId} {below : List Frame} {meth : Method} {c : Code} {D : va_G} {cI cZ : ClassId} {b : Nat} {xs : Nat → Int32} {L : Nat} (wr : va_W) (v_x : Nat) (v_q1 : Int32) (v_q2 : Int32) (v_rd : Nat) (v_t : Nat) (v_d : Nat) (v_nw : Nat) (v_ps : Nat) (v_im : Nat) (v_is_ : Nat) (v_q10 : Int32) (v_bk : Nat) (v_q12 : Int32) (v_qr : Nat) (v_pr : Nat) (v_cv : Nat) (v_ft : Nat) (Rf : Nat → Nat) (G : Nat → Int32) {xh yh : Nat} {iv : Int32} (C0 : lw_C p s m meth c b L xs) {H : Heap} {locs : List Loc} {ls : Array Slot} (hi1 : ¬ ((iv + 1) < 0 ∨ L ≤ (iv + 1 : Int32).toNatClampNeg)) (hi2 : ¬ ((iv + 2) < 0 ∨ L ≤ (iv + 2 : Int32).toNatClampNeg)) (hi3 : ¬ ((iv + 3) < 0 ∨ L ≤ (iv + 3 : Int32).toNatClampNeg)) (hi4 : ¬ ((iv + 4) < 0 ∨ L ≤ (iv + 4 : Int32).toNatClampNeg)) (hK : va_K D classes (TYS cI cZ) s) (hs : S_m_fault G) (hP : va_P D classes ((Wx_fault cI cZ xh v_x v_q1 v_q2 v_rd v_t v_d v_nw v_ps v_im v_is_ v_q10 v_bk v_q12 v_qr v_pr v_cv v_ft) ++ ((Wm_fault cI cZ yh Rf G) ++ wr)) H) (hD : va_D (lw_A s) ((Wx_fault cI cZ xh v_x v_q1 v_q2 v_rd v_t v_d v_nw v_ps v_im v_is_ v_q10 v_bk v_q12 v_qr v_pr v_cv v_ft) ++ ((Wm_fault cI cZ yh Rf G) ++ wr))) (hS : va_S (lw_A s) s.heap H locs) (hl : lv_has ls 4 [(0, .ref b), (1, .ref xh), (2, .ref yh), (3, .int iv)]) (hnext : ∀ (rx : Int32) (ry : Int32) (H : Heap) (locs : List Loc) (ls : Array Slot), rx = (f_e_fault_x9 v_q1 v_q2 v_q10 v_q12) → ry = (f_m_fault G) → va_P D classes ((Wx_fault cI cZ xh v_x v_q1 v_q2 v_rd v_t v_d v_nw v_ps v_im v_is_ v_q10 v_bk v_q12 v_qr v_pr v_cv v_ft) ++ ((Wm_fault cI cZ yh Rf G) ++ wr)) H → va_D (lw_A s) ((Wx_fault cI cZ xh v_x v_q1 v_q2 v_rd v_t v_d v_nw v_ps v_im v_is_ v_q10 v_bk v_q12 v_qr v_pr v_cv v_ft) ++ ((Wm_fault cI cZ yh Rf G) ++ wr)) → va_S (lw_A s) s.heap H locs → lv_has ls 4 [(0, .ref b), (1, .ref xh), (2, .ref yh), (3, .int iv)] → W p l e room_1 s m #[Value.ref b] below meth c H locs 60 4269 (lw_Z below #[Value.ref b] s) (F0 m 1015 ls [])) : W p l e room_1 s m #[Value.ref b] below meth c H locs 60 4269 (lw_Z below #[Value.ref b] s) (F0 m 208 ls []) := by
  obtain ⟨hx, hb, hr, hml, hown, hts, hX, hbl, hlocks, hN⟩ := C0
  have hA : ∀ q, s.heap.size ≤ q → lw_A s q := fun _ h => h
  have hbA : ¬ lw_A s b := Nat.not_le.mpr hbl
  refine lv_aload_n hx hb dL_law_208 rfl (lv_at hl 1 rfl) ?_
  refine cVa (wc := (Wx_fault cI cZ xh v_x v_q1 v_q2 v_rd v_t v_d v_nw v_ps v_im v_is_ v_q10 v_bk v_q12 v_qr v_pr v_cv v_ft)) (wr := ((Wm_fault cI cZ yh Rf G) ++ wr)) (rest := []) (e_fault_x9 xh v_x v_rd v_t v_d v_nw v_ps v_im v_is_ v_bk v_qr v_pr v_cv v_ft v_q1 v_q2 v_q10 v_q12) okV_X9_fault wd_712 hx hb hml hown hts hK hP hD hS hA hN hl.1 rfl rfl rfl (Nat.le_of_ble_eq_true rfl) (Nat.le_of_ble_eq_true rfl) (Nat.le_of_ble_eq_true rfl) (Nat.le_of_ble_eq_true rfl) (Nat.le_of_ble_eq_true rfl) dL_law_209 (fun rx u1 H locs ex hP hD hS => ?_)
  replace ex : rx = (f_e_fault_x9 v_q1 v_q2 v_q10 v_q12) := ex
  have hP : va_P D classes (((Wm_fault cI cZ yh Rf G) ++ wr) ++ (Wx_fault cI cZ xh v_x v_q1 v_q2 v_rd v_t v_d v_nw v_ps v_im v_is_ v_q10 v_bk v_q12 v_qr v_pr v_cv v_ft)) H := hP
  have hD : va_D (lw_A s) (((Wm_fault cI cZ yh Rf G) ++ wr) ++ (Wx_fault cI cZ xh v_x v_q1 v_q2 v_rd v_t v_d v_nw v_ps v_im v_is_ v_q10 v_bk v_q12 v_qr v_pr v_cv v_ft)) := hD
  rw [List.append_assoc] at hP hD
  refine lv_pop hx hb dL_law_212 rfl ?_
  refine lv_aload_n hx hb dL_law_213 rfl (lv_at hl 2 rfl) ?_
  refine cVa (wc := (Wm_fault cI cZ yh Rf G)) (wr := (wr ++ (Wx_fault cI cZ xh v_x v_q1 v_q2 v_rd v_t v_d v_nw v_ps v_im v_is_ v_q10 v_bk v_q12 v_qr v_pr v_cv v_ft))) (rest := []) (m_fault Rf yh G hs) okV_X10_fault wd_716 hx hb hml hown hts hK hP hD hS hA hN hl.1 rfl rfl rfl (Nat.le_of_ble_eq_true rfl) (Nat.le_of_ble_eq_true rfl) (Nat.le_of_ble_eq_true rfl) (Nat.le_of_ble_eq_true rfl) (Nat.le_of_ble_eq_true rfl) dL_law_214 (fun ry u2 H locs em hP hD hS => ?_)
  replace em : ry = (f_m_fault G) := em
  have hP : va_P D classes ((wr ++ (Wx_fault cI cZ xh v_x v_q1 v_q2 v_rd v_t v_d v_nw v_ps v_im v_is_ v_q10 v_bk v_q12 v_qr v_pr v_cv v_ft)) ++ (Wm_fault cI cZ yh Rf G)) H := hP
  have hD : va_D (lw_A s) ((wr ++ (Wx_fault cI cZ xh v_x v_q1 v_q2 v_rd v_t v_d v_nw v_ps v_im v_is_ v_q10 v_bk v_q12 v_qr v_pr v_cv v_ft)) ++ (Wm_fault cI cZ yh Rf G)) := hD
  refine lv_pop hx hb dL_law_217 rfl ?_
  refine lv_goto (tgt := 1015) hx hb dL_law_218 (by decide) ?_
  exact hnext rx ry _ _ _ ex em (permP rot hP) (permD rot hD) hS hl
def Wx_told (cI cZ : ClassId) (xh : Nat) (v_x : Nat) (v_q1 : Int32) (v_q2 : Int32) (v_rd : Nat) (v_t : Nat) (v_d : Nat) (v_nw : Nat) (v_ps : Nat) (v_im : Nat) (v_is_ : Nat) (v_q10 : Int32) (v_bk : Nat) (v_q12 : Int32) (v_qr : Nat) (v_pr : Nat) (v_cv : Nat) (v_ft : Nat) (v_t0 : Int32) (v_t1 : Int32) (v_t2 : Int32) (v_t3 : Int32) (v_t4 : Int32) (v_ta : Nat) (v_tb : Nat) (v_tc : Nat) (v_td : Nat) (v_te : Nat) (v_nwc : Nat) (v_fn : Nat → Int32) (v_sh : Nat) (v_p1 : Int32) (v_p2 : Int32) (v_b0 : Int32) (v_bka : Nat) (v_bkb : Nat) : va_W := [(xh, .inr (9, [.ref v_x, .int v_q1, .int v_q2, .ref v_rd, .ref v_t, .ref v_d, .ref v_nw, .ref v_ps, .ref v_im, .ref v_is_, .int v_q10, .ref v_bk, .int v_q12, .ref v_qr, .ref v_pr, .ref v_cv, .ref v_ft])), (v_t, .inr (8, [.int v_t0, .int v_t1, .int v_t2, .int v_t3, .int v_t4, .ref v_ta, .ref v_tb, .ref v_tc, .ref v_td, .ref v_te])), (v_nw, .inr (7, [.ref v_nwc])), (v_nwc, .inl (cI, 41, .inl v_fn)), (v_bk, .inr (0, [.int v_b0, .ref v_bka, .ref v_bkb])), (v_ps, .inr (2, [.ref v_sh, .int v_p1, .int v_p2]))]
def Wm_told (cI cZ : ClassId) (yh : Nat) (Rf : Nat → Nat) (G : Nat → Int32) (f0 : Nat → Int32) : va_W := [(yh, .inr (10, ML G Rf)), ((Rf 0), .inl (cI, 1302, .inl f0))]
set_option maxHeartbeats 4000000 in
set_option maxRecDepth 100000 in
theorem law_told {p : Program} {l : Launch} {e : Env} {s : State} {m : MethodId} {below : List Frame} {meth : Method} {c : Code} {D : va_G} {cI cZ : ClassId} {b : Nat} {xs : Nat → Int32} {L : Nat} (wr : va_W) (v_x : Nat) (v_q1 : Int32) (v_q2 : Int32) (v_rd : Nat) (v_t : Nat) (v_d : Nat) (v_nw : Nat) (v_ps : Nat) (v_im : Nat) (v_is_ : Nat) (v_q10 : Int32) (v_bk : Nat) (v_q12 : Int32) (v_qr : Nat) (v_pr : Nat) (v_cv : Nat) (v_ft : Nat) (v_t0 : Int32) (v_t1 : Int32) (v_t2 : Int32) (v_t3 : Int32) (v_t4 : Int32) (v_ta : Nat) (v_tb : Nat) (v_tc : Nat) (v_td : Nat) (v_te : Nat) (v_nwc : Nat) (v_fn : Nat → Int32) (v_sh : Nat) (v_p1 : Int32) (v_p2 : Int32) (v_b0 : Int32) (v_bka : Nat) (v_bkb : Nat) (Rf : Nat → Nat) (G : Nat → Int32) (f0 : Nat → Int32) {xh yh : Nat} {iv : Int32} (C0 : lw_C p s m meth c b L xs) {H : Heap} {locs : List Loc} {ls : Array Slot} (hi1 : ¬ ((iv + 1) < 0 ∨ L ≤ (iv + 1 : Int32).toNatClampNeg)) (hi2 : ¬ ((iv + 2) < 0 ∨ L ≤ (iv + 2 : Int32).toNatClampNeg)) (hi3 : ¬ ((iv + 3) < 0 ∨ L ≤ (iv + 3 : Int32).toNatClampNeg)) (hi4 : ¬ ((iv + 4) < 0 ∨ L ≤ (iv + 4 : Int32).toNatClampNeg)) (hK : va_K D classes (TYS cI cZ) s) (hs : S_m_told G f0 (xs ((iv + 1) : Int32).toNatClampNeg)) (hP : va_P D classes ((Wx_told cI cZ xh v_x v_q1 v_q2 v_rd v_t v_d v_nw v_ps v_im v_is_ v_q10 v_bk v_q12 v_qr v_pr v_cv v_ft v_t0 v_t1 v_t2 v_t3 v_t4 v_ta v_tb v_tc v_td v_te v_nwc v_fn v_sh v_p1 v_p2 v_b0 v_bka v_bkb) ++ ((Wm_told cI cZ yh Rf G f0) ++ wr)) H) (hD : va_D (lw_A s) ((Wx_told cI cZ xh v_x v_q1 v_q2 v_rd v_t v_d v_nw v_ps v_im v_is_ v_q10 v_bk v_q12 v_qr v_pr v_cv v_ft v_t0 v_t1 v_t2 v_t3 v_t4 v_ta v_tb v_tc v_td v_te v_nwc v_fn v_sh v_p1 v_p2 v_b0 v_bka v_bkb) ++ ((Wm_told cI cZ yh Rf G f0) ++ wr))) (hS : va_S (lw_A s) s.heap H locs) (hl : lv_has ls 4 [(0, .ref b), (1, .ref xh), (2, .ref yh), (3, .int iv)]) (hnext : ∀ (rx : Int32) (ry : Int32) (H : Heap) (locs : List Loc) (ls : Array Slot), rx = (f_e_told_x9 v_q1 v_q2 v_q10 v_q12 v_t0 v_t1 v_t2 v_t3 v_t4 v_fn v_b0 v_p1 v_p2 (xs ((iv + 1) : Int32).toNatClampNeg)) → ry = (f_m_told G f0 (xs ((iv + 1) : Int32).toNatClampNeg)) → va_P D classes ((Wx_told cI cZ xh v_x v_q1 v_q2 v_rd v_t v_d v_nw v_ps v_im v_is_ v_q10 v_bk v_q12 v_qr v_pr v_cv v_ft v_t0 v_t1 v_t2 v_t3 v_t4 v_ta v_tb v_tc v_td v_te v_nwc v_fn v_sh v_p1 v_p2 v_b0 v_bka v_bkb) ++ ((Wm_told cI cZ yh Rf G f0) ++ wr)) H → va_D (lw_A s) ((Wx_told cI cZ xh v_x v_q1 v_q2 v_rd v_t v_d v_nw v_ps v_im v_is_ v_q10 v_bk v_q12 v_qr v_pr v_cv v_ft v_t0 v_t1 v_t2 v_t3 v_t4 v_ta v_tb v_tc v_td v_te v_nwc v_fn v_sh v_p1 v_p2 v_b0 v_bka v_bkb) ++ ((Wm_told cI cZ yh Rf G f0) ++ wr)) → va_S (lw_A s) s.heap H locs → lv_has ls 4 [(0, .ref b), (1, .ref xh), (2, .ref yh), (3, .int iv)] → W p l e room_1 s m #[Value.ref b] below meth c H locs 60 4269 (lw_Z below #[Value.ref b] s) (F0 m 1015 ls [])) : W p l e room_1 s m #[Value.ref b] below meth c H locs 60 4269 (lw_Z below #[Value.ref b] s) (F0 m 221 ls []) := by
  obtain ⟨hx, hb, hr, hml, hown, hts, hX, hbl, hlocks, hN⟩ := C0
  have hA : ∀ q, s.heap.size ≤ q → lw_A s q := fun _ h => h
  have hbA : ¬ lw_A s b := Nat.not_le.mpr hbl
  refine lv_aload_n hx hb dL_law_221 rfl (lv_at hl 1 rfl) ?_
  refine lv_aload_n hx hb dL_law_222 rfl (lv_at hl 0 rfl) ?_
  refine lv_iload_n hx hb dL_law_223 rfl (lv_at hl 3 rfl) ?_
  refine lv_iconst (v := 1) hx hb dL_law_224 (by decide) ?_
  refine lv_iadd hx hb dL_law_225 ?_
  refine va_sld hx hb hX hbl hbA hS hi1 dL_law_226 ?_
  refine cVa (wc := (Wx_told cI cZ xh v_x v_q1 v_q2 v_rd v_t v_d v_nw v_ps v_im v_is_ v_q10 v_bk v_q12 v_qr v_pr v_cv v_ft v_t0 v_t1 v_t2 v_t3 v_t4 v_ta v_tb v_tc v_td v_te v_nwc v_fn v_sh v_p1 v_p2 v_b0 v_bka v_bkb)) (wr := ((Wm_told cI cZ yh Rf G f0) ++ wr)) (rest := []) (e_told_x9 xh v_x v_rd v_t v_d v_nw v_ps v_im v_is_ v_bk v_qr v_pr v_cv v_ft v_ta v_tb v_tc v_td v_te v_nwc v_bka v_bkb v_sh v_q1 v_q2 v_q10 v_q12 v_t0 v_t1 v_t2 v_t3 v_t4 v_fn v_b0 v_p1 v_p2 (xs ((iv + 1) : Int32).toNatClampNeg)) okV_X9_told wd_720 hx hb hml hown hts hK hP hD hS hA hN hl.1 rfl rfl rfl (Nat.le_of_ble_eq_true rfl) (Nat.le_of_ble_eq_true rfl) (Nat.le_of_ble_eq_true rfl) (Nat.le_of_ble_eq_true rfl) (Nat.le_of_ble_eq_true rfl) dL_law_227 (fun rx u1 H locs ex hP hD hS => ?_)
  replace ex : rx = (f_e_told_x9 v_q1 v_q2 v_q10 v_q12 v_t0 v_t1 v_t2 v_t3 v_t4 v_fn v_b0 v_p1 v_p2 (xs ((iv + 1) : Int32).toNatClampNeg)) := ex
  have hP : va_P D classes (((Wm_told cI cZ yh Rf G f0) ++ wr) ++ (Wx_told cI cZ xh v_x v_q1 v_q2 v_rd v_t v_d v_nw v_ps v_im v_is_ v_q10 v_bk v_q12 v_qr v_pr v_cv v_ft v_t0 v_t1 v_t2 v_t3 v_t4 v_ta v_tb v_tc v_td v_te v_nwc v_fn v_sh v_p1 v_p2 v_b0 v_bka v_bkb)) H := hP
  have hD : va_D (lw_A s) (((Wm_told cI cZ yh Rf G f0) ++ wr) ++ (Wx_told cI cZ xh v_x v_q1 v_q2 v_rd v_t v_d v_nw v_ps v_im v_is_ v_q10 v_bk v_q12 v_qr v_pr v_cv v_ft v_t0 v_t1 v_t2 v_t3 v_t4 v_ta v_tb v_tc v_td v_te v_nwc v_fn v_sh v_p1 v_p2 v_b0 v_bka v_bkb)) := hD
  rw [List.append_assoc] at hP hD
  refine lv_pop hx hb dL_law_230 rfl ?_
  refine lv_aload_n hx hb dL_law_231 rfl (lv_at hl 2 rfl) ?_
  refine lv_aload_n hx hb dL_law_232 rfl (lv_at hl 0 rfl) ?_
  refine lv_iload_n hx hb dL_law_233 rfl (lv_at hl 3 rfl) ?_
  refine lv_iconst (v := 1) hx hb dL_law_234 (by decide) ?_
  refine lv_iadd hx hb dL_law_235 ?_
  refine va_sld hx hb hX hbl hbA hS hi1 dL_law_236 ?_
  refine cVa (wc := (Wm_told cI cZ yh Rf G f0)) (wr := (wr ++ (Wx_told cI cZ xh v_x v_q1 v_q2 v_rd v_t v_d v_nw v_ps v_im v_is_ v_q10 v_bk v_q12 v_qr v_pr v_cv v_ft v_t0 v_t1 v_t2 v_t3 v_t4 v_ta v_tb v_tc v_td v_te v_nwc v_fn v_sh v_p1 v_p2 v_b0 v_bka v_bkb))) (rest := []) (m_told Rf yh G f0 (xs ((iv + 1) : Int32).toNatClampNeg) hs) okV_X10_told wd_724 hx hb hml hown hts hK hP hD hS hA hN hl.1 rfl rfl rfl (Nat.le_of_ble_eq_true rfl) (Nat.le_of_ble_eq_true rfl) (Nat.le_of_ble_eq_true rfl) (Nat.le_of_ble_eq_true rfl) (Nat.le_of_ble_eq_true rfl) dL_law_237 (fun ry u2 H locs em hP hD hS => ?_)
  replace em : ry = (f_m_told G f0 (xs ((iv + 1) : Int32).toNatClampNeg)) := em
  have hP : va_P D classes ((wr ++ (Wx_told cI cZ xh v_x v_q1 v_q2 v_rd v_t v_d v_nw v_ps v_im v_is_ v_q10 v_bk v_q12 v_qr v_pr v_cv v_ft v_t0 v_t1 v_t2 v_t3 v_t4 v_ta v_tb v_tc v_td v_te v_nwc v_fn v_sh v_p1 v_p2 v_b0 v_bka v_bkb)) ++ (Wm_told cI cZ yh Rf G f0)) H := hP
  have hD : va_D (lw_A s) ((wr ++ (Wx_told cI cZ xh v_x v_q1 v_q2 v_rd v_t v_d v_nw v_ps v_im v_is_ v_q10 v_bk v_q12 v_qr v_pr v_cv v_ft v_t0 v_t1 v_t2 v_t3 v_t4 v_ta v_tb v_tc v_td v_te v_nwc v_fn v_sh v_p1 v_p2 v_b0 v_bka v_bkb)) ++ (Wm_told cI cZ yh Rf G f0)) := hD
  refine lv_pop hx hb dL_law_240 rfl ?_
  refine lv_goto (tgt := 1015) hx hb dL_law_241 (by decide) ?_
  exact hnext rx ry _ _ _ ex em (permP rot hP) (permD rot hD) hS hl
def Wx_bridge (cI cZ : ClassId) (xh : Nat) (v_x : Nat) (v_q1 : Int32) (v_q2 : Int32) (v_rd : Nat) (v_t : Nat) (v_d : Nat) (v_nw : Nat) (v_ps : Nat) (v_im : Nat) (v_is_ : Nat) (v_q10 : Int32) (v_bk : Nat) (v_q12 : Int32) (v_qr : Nat) (v_pr : Nat) (v_cv : Nat) (v_ft : Nat) (v_t0 : Int32) (v_t1 : Int32) (v_t2 : Int32) (v_t3 : Int32) (v_t4 : Int32) (v_ta : Nat) (v_tb : Nat) (v_tc : Nat) (v_td : Nat) (v_te : Nat) (v_fta : Nat → Int32) (v_nwc : Nat) (v_fn : Nat → Int32) : va_W := [(xh, .inr (9, [.ref v_x, .int v_q1, .int v_q2, .ref v_rd, .ref v_t, .ref v_d, .ref v_nw, .ref v_ps, .ref v_im, .ref v_is_, .int v_q10, .ref v_bk, .int v_q12, .ref v_qr, .ref v_pr, .ref v_cv, .ref v_ft])), (v_t, .inr (8, [.int v_t0, .int v_t1, .int v_t2, .int v_t3, .int v_t4, .ref v_ta, .ref v_tb, .ref v_tc, .ref v_td, .ref v_te])), (v_ta, .inl (cI, 6, .inl v_fta)), (v_nw, .inr (7, [.ref v_nwc])), (v_nwc, .inl (cI, 41, .inl v_fn))]
def Wm_bridge (cI cZ : ClassId) (yh : Nat) (Rf : Nat → Nat) (G : Nat → Int32) (f0 : Nat → Int32) (f8 : Nat → Int32) : va_W := [(yh, .inr (10, ML G Rf)), ((Rf 0), .inl (cI, 1302, .inl f0)), ((Rf 8), .inl (cI, 6, .inl f8))]
set_option maxHeartbeats 4000000 in
set_option maxRecDepth 100000 in
theorem law_bridge {p : Program} {l : Launch} {e : Env} {s : State} {m : MethodId} {below : List Frame} {meth : Method} {c : Code} {D : va_G} {cI cZ : ClassId} {b : Nat} {xs : Nat → Int32} {L : Nat} (wr : va_W) (v_x : Nat) (v_q1 : Int32) (v_q2 : Int32) (v_rd : Nat) (v_t : Nat) (v_d : Nat) (v_nw : Nat) (v_ps : Nat) (v_im : Nat) (v_is_ : Nat) (v_q10 : Int32) (v_bk : Nat) (v_q12 : Int32) (v_qr : Nat) (v_pr : Nat) (v_cv : Nat) (v_ft : Nat) (v_t0 : Int32) (v_t1 : Int32) (v_t2 : Int32) (v_t3 : Int32) (v_t4 : Int32) (v_ta : Nat) (v_tb : Nat) (v_tc : Nat) (v_td : Nat) (v_te : Nat) (v_fta : Nat → Int32) (v_nwc : Nat) (v_fn : Nat → Int32) (Rf : Nat → Nat) (G : Nat → Int32) (f0 : Nat → Int32) (f8 : Nat → Int32) {xh yh : Nat} {iv : Int32} (C0 : lw_C p s m meth c b L xs) {H : Heap} {locs : List Loc} {ls : Array Slot} (hi1 : ¬ ((iv + 1) < 0 ∨ L ≤ (iv + 1 : Int32).toNatClampNeg)) (hi2 : ¬ ((iv + 2) < 0 ∨ L ≤ (iv + 2 : Int32).toNatClampNeg)) (hi3 : ¬ ((iv + 3) < 0 ∨ L ≤ (iv + 3 : Int32).toNatClampNeg)) (hi4 : ¬ ((iv + 4) < 0 ∨ L ≤ (iv + 4 : Int32).toNatClampNeg)) (hK : va_K D classes (TYS cI cZ) s) (hs : S_m_bridge G f0 f8 (xs ((iv + 1) : Int32).toNatClampNeg) (xs ((iv + 2) : Int32).toNatClampNeg)) (hP : va_P D classes ((Wx_bridge cI cZ xh v_x v_q1 v_q2 v_rd v_t v_d v_nw v_ps v_im v_is_ v_q10 v_bk v_q12 v_qr v_pr v_cv v_ft v_t0 v_t1 v_t2 v_t3 v_t4 v_ta v_tb v_tc v_td v_te v_fta v_nwc v_fn) ++ ((Wm_bridge cI cZ yh Rf G f0 f8) ++ wr)) H) (hD : va_D (lw_A s) ((Wx_bridge cI cZ xh v_x v_q1 v_q2 v_rd v_t v_d v_nw v_ps v_im v_is_ v_q10 v_bk v_q12 v_qr v_pr v_cv v_ft v_t0 v_t1 v_t2 v_t3 v_t4 v_ta v_tb v_tc v_td v_te v_fta v_nwc v_fn) ++ ((Wm_bridge cI cZ yh Rf G f0 f8) ++ wr))) (hS : va_S (lw_A s) s.heap H locs) (hl : lv_has ls 4 [(0, .ref b), (1, .ref xh), (2, .ref yh), (3, .int iv)]) (hnext : ∀ (rx : Int32) (ry : Int32) (H : Heap) (locs : List Loc) (ls : Array Slot), rx = (f_e_bridge_x9 v_q1 v_q2 v_q10 v_q12 v_t0 v_t1 v_t2 v_t3 v_t4 v_fta v_fn (xs ((iv + 1) : Int32).toNatClampNeg) (xs ((iv + 2) : Int32).toNatClampNeg)) → ry = (f_m_bridge G f0 f8 (xs ((iv + 1) : Int32).toNatClampNeg) (xs ((iv + 2) : Int32).toNatClampNeg)) → va_P D classes ((Wx_bridge cI cZ xh v_x v_q1 v_q2 v_rd v_t v_d v_nw v_ps v_im v_is_ v_q10 v_bk v_q12 v_qr v_pr v_cv v_ft v_t0 v_t1 v_t2 v_t3 v_t4 v_ta v_tb v_tc v_td v_te v_fta v_nwc v_fn) ++ ((Wm_bridge cI cZ yh Rf G f0 f8) ++ wr)) H → va_D (lw_A s) ((Wx_bridge cI cZ xh v_x v_q1 v_q2 v_rd v_t v_d v_nw v_ps v_im v_is_ v_q10 v_bk v_q12 v_qr v_pr v_cv v_ft v_t0 v_t1 v_t2 v_t3 v_t4 v_ta v_tb v_tc v_td v_te v_fta v_nwc v_fn) ++ ((Wm_bridge cI cZ yh Rf G f0 f8) ++ wr)) → va_S (lw_A s) s.heap H locs → lv_has ls 4 [(0, .ref b), (1, .ref xh), (2, .ref yh), (3, .int iv)] → W p l e room_1 s m #[Value.ref b] below meth c H locs 60 4269 (lw_Z below #[Value.ref b] s) (F0 m 1015 ls [])) : W p l e room_1 s m #[Value.ref b] below meth c H locs 60 4269 (lw_Z below #[Value.ref b] s) (F0 m 244 ls []) := by
  obtain ⟨hx, hb, hr, hml, hown, hts, hX, hbl, hlocks, hN⟩ := C0
  have hA : ∀ q, s.heap.size ≤ q → lw_A s q := fun _ h => h
  have hbA : ¬ lw_A s b := Nat.not_le.mpr hbl
  refine lv_aload_n hx hb dL_law_244 rfl (lv_at hl 1 rfl) ?_
  refine lv_aload_n hx hb dL_law_245 rfl (lv_at hl 0 rfl) ?_
  refine lv_iload_n hx hb dL_law_246 rfl (lv_at hl 3 rfl) ?_
  refine lv_iconst (v := 1) hx hb dL_law_247 (by decide) ?_
  refine lv_iadd hx hb dL_law_248 ?_
  refine va_sld hx hb hX hbl hbA hS hi1 dL_law_249 ?_
  refine lv_aload_n hx hb dL_law_250 rfl (lv_at hl 0 rfl) ?_
  refine lv_iload_n hx hb dL_law_251 rfl (lv_at hl 3 rfl) ?_
  refine lv_iconst (v := 2) hx hb dL_law_252 (by decide) ?_
  refine lv_iadd hx hb dL_law_253 ?_
  refine va_sld hx hb hX hbl hbA hS hi2 dL_law_254 ?_
  refine cVa (wc := (Wx_bridge cI cZ xh v_x v_q1 v_q2 v_rd v_t v_d v_nw v_ps v_im v_is_ v_q10 v_bk v_q12 v_qr v_pr v_cv v_ft v_t0 v_t1 v_t2 v_t3 v_t4 v_ta v_tb v_tc v_td v_te v_fta v_nwc v_fn)) (wr := ((Wm_bridge cI cZ yh Rf G f0 f8) ++ wr)) (rest := []) (e_bridge_x9 xh v_x v_rd v_t v_d v_nw v_ps v_im v_is_ v_bk v_qr v_pr v_cv v_ft v_ta v_tb v_tc v_td v_te v_nwc v_q1 v_q2 v_q10 v_q12 v_t0 v_t1 v_t2 v_t3 v_t4 v_fta v_fn (xs ((iv + 1) : Int32).toNatClampNeg) (xs ((iv + 2) : Int32).toNatClampNeg)) okV_X9_bridge wd_728 hx hb hml hown hts hK hP hD hS hA hN hl.1 rfl rfl rfl (Nat.le_of_ble_eq_true rfl) (Nat.le_of_ble_eq_true rfl) (Nat.le_of_ble_eq_true rfl) (Nat.le_of_ble_eq_true rfl) (Nat.le_of_ble_eq_true rfl) dL_law_255 (fun rx u1 H locs ex hP hD hS => ?_)
  replace ex : rx = (f_e_bridge_x9 v_q1 v_q2 v_q10 v_q12 v_t0 v_t1 v_t2 v_t3 v_t4 v_fta v_fn (xs ((iv + 1) : Int32).toNatClampNeg) (xs ((iv + 2) : Int32).toNatClampNeg)) := ex
  have hP : va_P D classes (((Wm_bridge cI cZ yh Rf G f0 f8) ++ wr) ++ (Wx_bridge cI cZ xh v_x v_q1 v_q2 v_rd v_t v_d v_nw v_ps v_im v_is_ v_q10 v_bk v_q12 v_qr v_pr v_cv v_ft v_t0 v_t1 v_t2 v_t3 v_t4 v_ta v_tb v_tc v_td v_te v_fta v_nwc v_fn)) H := hP
  have hD : va_D (lw_A s) (((Wm_bridge cI cZ yh Rf G f0 f8) ++ wr) ++ (Wx_bridge cI cZ xh v_x v_q1 v_q2 v_rd v_t v_d v_nw v_ps v_im v_is_ v_q10 v_bk v_q12 v_qr v_pr v_cv v_ft v_t0 v_t1 v_t2 v_t3 v_t4 v_ta v_tb v_tc v_td v_te v_fta v_nwc v_fn)) := hD
  rw [List.append_assoc] at hP hD
  refine lv_pop hx hb dL_law_258 rfl ?_
  refine lv_aload_n hx hb dL_law_259 rfl (lv_at hl 2 rfl) ?_
  refine lv_aload_n hx hb dL_law_260 rfl (lv_at hl 0 rfl) ?_
  refine lv_iload_n hx hb dL_law_261 rfl (lv_at hl 3 rfl) ?_
  refine lv_iconst (v := 1) hx hb dL_law_262 (by decide) ?_
  refine lv_iadd hx hb dL_law_263 ?_
  refine va_sld hx hb hX hbl hbA hS hi1 dL_law_264 ?_
  refine lv_aload_n hx hb dL_law_265 rfl (lv_at hl 0 rfl) ?_
  refine lv_iload_n hx hb dL_law_266 rfl (lv_at hl 3 rfl) ?_
  refine lv_iconst (v := 2) hx hb dL_law_267 (by decide) ?_
  refine lv_iadd hx hb dL_law_268 ?_
  refine va_sld hx hb hX hbl hbA hS hi2 dL_law_269 ?_
  refine cVa (wc := (Wm_bridge cI cZ yh Rf G f0 f8)) (wr := (wr ++ (Wx_bridge cI cZ xh v_x v_q1 v_q2 v_rd v_t v_d v_nw v_ps v_im v_is_ v_q10 v_bk v_q12 v_qr v_pr v_cv v_ft v_t0 v_t1 v_t2 v_t3 v_t4 v_ta v_tb v_tc v_td v_te v_fta v_nwc v_fn))) (rest := []) (m_bridge Rf yh G f0 f8 (xs ((iv + 1) : Int32).toNatClampNeg) (xs ((iv + 2) : Int32).toNatClampNeg) hs) okV_X10_bridge wd_732 hx hb hml hown hts hK hP hD hS hA hN hl.1 rfl rfl rfl (Nat.le_of_ble_eq_true rfl) (Nat.le_of_ble_eq_true rfl) (Nat.le_of_ble_eq_true rfl) (Nat.le_of_ble_eq_true rfl) (Nat.le_of_ble_eq_true rfl) dL_law_270 (fun ry u2 H locs em hP hD hS => ?_)
  replace em : ry = (f_m_bridge G f0 f8 (xs ((iv + 1) : Int32).toNatClampNeg) (xs ((iv + 2) : Int32).toNatClampNeg)) := em
  have hP : va_P D classes ((wr ++ (Wx_bridge cI cZ xh v_x v_q1 v_q2 v_rd v_t v_d v_nw v_ps v_im v_is_ v_q10 v_bk v_q12 v_qr v_pr v_cv v_ft v_t0 v_t1 v_t2 v_t3 v_t4 v_ta v_tb v_tc v_td v_te v_fta v_nwc v_fn)) ++ (Wm_bridge cI cZ yh Rf G f0 f8)) H := hP
  have hD : va_D (lw_A s) ((wr ++ (Wx_bridge cI cZ xh v_x v_q1 v_q2 v_rd v_t v_d v_nw v_ps v_im v_is_ v_q10 v_bk v_q12 v_qr v_pr v_cv v_ft v_t0 v_t1 v_t2 v_t3 v_t4 v_ta v_tb v_tc v_td v_te v_fta v_nwc v_fn)) ++ (Wm_bridge cI cZ yh Rf G f0 f8)) := hD
  refine lv_pop hx hb dL_law_273 rfl ?_
  refine lv_goto (tgt := 1015) hx hb dL_law_274 (by decide) ?_
  exact hnext rx ry _ _ _ ex em (permP rot hP) (permD rot hD) hS hl
def Wx_couple (cI cZ : ClassId) (xh : Nat) (v_x : Nat) (v_q1 : Int32) (v_q2 : Int32) (v_rd : Nat) (v_t : Nat) (v_d : Nat) (v_nw : Nat) (v_ps : Nat) (v_im : Nat) (v_is_ : Nat) (v_q10 : Int32) (v_bk : Nat) (v_q12 : Int32) (v_qr : Nat) (v_pr : Nat) (v_cv : Nat) (v_ft : Nat) (v_t0 : Int32) (v_t1 : Int32) (v_t2 : Int32) (v_t3 : Int32) (v_t4 : Int32) (v_ta : Nat) (v_tb : Nat) (v_tc : Nat) (v_td : Nat) (v_te : Nat) (v_ftb : Nat → Int32) (v_nwc : Nat) (v_fn : Nat → Int32) : va_W := [(xh, .inr (9, [.ref v_x, .int v_q1, .int v_q2, .ref v_rd, .ref v_t, .ref v_d, .ref v_nw, .ref v_ps, .ref v_im, .ref v_is_, .int v_q10, .ref v_bk, .int v_q12, .ref v_qr, .ref v_pr, .ref v_cv, .ref v_ft])), (v_t, .inr (8, [.int v_t0, .int v_t1, .int v_t2, .int v_t3, .int v_t4, .ref v_ta, .ref v_tb, .ref v_tc, .ref v_td, .ref v_te])), (v_tb, .inl (cI, 6, .inl v_ftb)), (v_nw, .inr (7, [.ref v_nwc])), (v_nwc, .inl (cI, 41, .inl v_fn))]
def Wm_couple (cI cZ : ClassId) (yh : Nat) (Rf : Nat → Nat) (G : Nat → Int32) (f0 : Nat → Int32) (f9 : Nat → Int32) : va_W := [(yh, .inr (10, ML G Rf)), ((Rf 0), .inl (cI, 1302, .inl f0)), ((Rf 9), .inl (cI, 6, .inl f9))]
set_option maxHeartbeats 4000000 in
set_option maxRecDepth 100000 in
theorem law_couple {p : Program} {l : Launch} {e : Env} {s : State} {m : MethodId} {below : List Frame} {meth : Method} {c : Code} {D : va_G} {cI cZ : ClassId} {b : Nat} {xs : Nat → Int32} {L : Nat} (wr : va_W) (v_x : Nat) (v_q1 : Int32) (v_q2 : Int32) (v_rd : Nat) (v_t : Nat) (v_d : Nat) (v_nw : Nat) (v_ps : Nat) (v_im : Nat) (v_is_ : Nat) (v_q10 : Int32) (v_bk : Nat) (v_q12 : Int32) (v_qr : Nat) (v_pr : Nat) (v_cv : Nat) (v_ft : Nat) (v_t0 : Int32) (v_t1 : Int32) (v_t2 : Int32) (v_t3 : Int32) (v_t4 : Int32) (v_ta : Nat) (v_tb : Nat) (v_tc : Nat) (v_td : Nat) (v_te : Nat) (v_ftb : Nat → Int32) (v_nwc : Nat) (v_fn : Nat → Int32) (Rf : Nat → Nat) (G : Nat → Int32) (f0 : Nat → Int32) (f9 : Nat → Int32) {xh yh : Nat} {iv : Int32} (C0 : lw_C p s m meth c b L xs) {H : Heap} {locs : List Loc} {ls : Array Slot} (hi1 : ¬ ((iv + 1) < 0 ∨ L ≤ (iv + 1 : Int32).toNatClampNeg)) (hi2 : ¬ ((iv + 2) < 0 ∨ L ≤ (iv + 2 : Int32).toNatClampNeg)) (hi3 : ¬ ((iv + 3) < 0 ∨ L ≤ (iv + 3 : Int32).toNatClampNeg)) (hi4 : ¬ ((iv + 4) < 0 ∨ L ≤ (iv + 4 : Int32).toNatClampNeg)) (hK : va_K D classes (TYS cI cZ) s) (hs : S_m_couple G f0 f9 (xs ((iv + 1) : Int32).toNatClampNeg) (xs ((iv + 2) : Int32).toNatClampNeg)) (hP : va_P D classes ((Wx_couple cI cZ xh v_x v_q1 v_q2 v_rd v_t v_d v_nw v_ps v_im v_is_ v_q10 v_bk v_q12 v_qr v_pr v_cv v_ft v_t0 v_t1 v_t2 v_t3 v_t4 v_ta v_tb v_tc v_td v_te v_ftb v_nwc v_fn) ++ ((Wm_couple cI cZ yh Rf G f0 f9) ++ wr)) H) (hD : va_D (lw_A s) ((Wx_couple cI cZ xh v_x v_q1 v_q2 v_rd v_t v_d v_nw v_ps v_im v_is_ v_q10 v_bk v_q12 v_qr v_pr v_cv v_ft v_t0 v_t1 v_t2 v_t3 v_t4 v_ta v_tb v_tc v_td v_te v_ftb v_nwc v_fn) ++ ((Wm_couple cI cZ yh Rf G f0 f9) ++ wr))) (hS : va_S (lw_A s) s.heap H locs) (hl : lv_has ls 4 [(0, .ref b), (1, .ref xh), (2, .ref yh), (3, .int iv)]) (hnext : ∀ (rx : Int32) (ry : Int32) (H : Heap) (locs : List Loc) (ls : Array Slot), rx = (f_e_couple_x9 v_q1 v_q2 v_q10 v_q12 v_t0 v_t1 v_t2 v_t3 v_t4 v_ftb v_fn (xs ((iv + 1) : Int32).toNatClampNeg) (xs ((iv + 2) : Int32).toNatClampNeg)) → ry = (f_m_couple G f0 f9 (xs ((iv + 1) : Int32).toNatClampNeg) (xs ((iv + 2) : Int32).toNatClampNeg)) → va_P D classes ((Wx_couple cI cZ xh v_x v_q1 v_q2 v_rd v_t v_d v_nw v_ps v_im v_is_ v_q10 v_bk v_q12 v_qr v_pr v_cv v_ft v_t0 v_t1 v_t2 v_t3 v_t4 v_ta v_tb v_tc v_td v_te v_ftb v_nwc v_fn) ++ ((Wm_couple cI cZ yh Rf G f0 f9) ++ wr)) H → va_D (lw_A s) ((Wx_couple cI cZ xh v_x v_q1 v_q2 v_rd v_t v_d v_nw v_ps v_im v_is_ v_q10 v_bk v_q12 v_qr v_pr v_cv v_ft v_t0 v_t1 v_t2 v_t3 v_t4 v_ta v_tb v_tc v_td v_te v_ftb v_nwc v_fn) ++ ((Wm_couple cI cZ yh Rf G f0 f9) ++ wr)) → va_S (lw_A s) s.heap H locs → lv_has ls 4 [(0, .ref b), (1, .ref xh), (2, .ref yh), (3, .int iv)] → W p l e room_1 s m #[Value.ref b] below meth c H locs 60 4269 (lw_Z below #[Value.ref b] s) (F0 m 1015 ls [])) : W p l e room_1 s m #[Value.ref b] below meth c H locs 60 4269 (lw_Z below #[Value.ref b] s) (F0 m 277 ls []) := by
  obtain ⟨hx, hb, hr, hml, hown, hts, hX, hbl, hlocks, hN⟩ := C0
  have hA : ∀ q, s.heap.size ≤ q → lw_A s q := fun _ h => h
  have hbA : ¬ lw_A s b := Nat.not_le.mpr hbl
  refine lv_aload_n hx hb dL_law_277 rfl (lv_at hl 1 rfl) ?_
  refine lv_aload_n hx hb dL_law_278 rfl (lv_at hl 0 rfl) ?_
  refine lv_iload_n hx hb dL_law_279 rfl (lv_at hl 3 rfl) ?_
  refine lv_iconst (v := 1) hx hb dL_law_280 (by decide) ?_
  refine lv_iadd hx hb dL_law_281 ?_
  refine va_sld hx hb hX hbl hbA hS hi1 dL_law_282 ?_
  refine lv_aload_n hx hb dL_law_283 rfl (lv_at hl 0 rfl) ?_
  refine lv_iload_n hx hb dL_law_284 rfl (lv_at hl 3 rfl) ?_
  refine lv_iconst (v := 2) hx hb dL_law_285 (by decide) ?_
  refine lv_iadd hx hb dL_law_286 ?_
  refine va_sld hx hb hX hbl hbA hS hi2 dL_law_287 ?_
  refine cVa (wc := (Wx_couple cI cZ xh v_x v_q1 v_q2 v_rd v_t v_d v_nw v_ps v_im v_is_ v_q10 v_bk v_q12 v_qr v_pr v_cv v_ft v_t0 v_t1 v_t2 v_t3 v_t4 v_ta v_tb v_tc v_td v_te v_ftb v_nwc v_fn)) (wr := ((Wm_couple cI cZ yh Rf G f0 f9) ++ wr)) (rest := []) (e_couple_x9 xh v_x v_rd v_t v_d v_nw v_ps v_im v_is_ v_bk v_qr v_pr v_cv v_ft v_ta v_tb v_tc v_td v_te v_nwc v_q1 v_q2 v_q10 v_q12 v_t0 v_t1 v_t2 v_t3 v_t4 v_ftb v_fn (xs ((iv + 1) : Int32).toNatClampNeg) (xs ((iv + 2) : Int32).toNatClampNeg)) okV_X9_couple wd_736 hx hb hml hown hts hK hP hD hS hA hN hl.1 rfl rfl rfl (Nat.le_of_ble_eq_true rfl) (Nat.le_of_ble_eq_true rfl) (Nat.le_of_ble_eq_true rfl) (Nat.le_of_ble_eq_true rfl) (Nat.le_of_ble_eq_true rfl) dL_law_288 (fun rx u1 H locs ex hP hD hS => ?_)
  replace ex : rx = (f_e_couple_x9 v_q1 v_q2 v_q10 v_q12 v_t0 v_t1 v_t2 v_t3 v_t4 v_ftb v_fn (xs ((iv + 1) : Int32).toNatClampNeg) (xs ((iv + 2) : Int32).toNatClampNeg)) := ex
  have hP : va_P D classes (((Wm_couple cI cZ yh Rf G f0 f9) ++ wr) ++ (Wx_couple cI cZ xh v_x v_q1 v_q2 v_rd v_t v_d v_nw v_ps v_im v_is_ v_q10 v_bk v_q12 v_qr v_pr v_cv v_ft v_t0 v_t1 v_t2 v_t3 v_t4 v_ta v_tb v_tc v_td v_te v_ftb v_nwc v_fn)) H := hP
  have hD : va_D (lw_A s) (((Wm_couple cI cZ yh Rf G f0 f9) ++ wr) ++ (Wx_couple cI cZ xh v_x v_q1 v_q2 v_rd v_t v_d v_nw v_ps v_im v_is_ v_q10 v_bk v_q12 v_qr v_pr v_cv v_ft v_t0 v_t1 v_t2 v_t3 v_t4 v_ta v_tb v_tc v_td v_te v_ftb v_nwc v_fn)) := hD
  rw [List.append_assoc] at hP hD
  refine lv_pop hx hb dL_law_291 rfl ?_
  refine lv_aload_n hx hb dL_law_292 rfl (lv_at hl 2 rfl) ?_
  refine lv_aload_n hx hb dL_law_293 rfl (lv_at hl 0 rfl) ?_
  refine lv_iload_n hx hb dL_law_294 rfl (lv_at hl 3 rfl) ?_
  refine lv_iconst (v := 1) hx hb dL_law_295 (by decide) ?_
  refine lv_iadd hx hb dL_law_296 ?_
  refine va_sld hx hb hX hbl hbA hS hi1 dL_law_297 ?_
  refine lv_aload_n hx hb dL_law_298 rfl (lv_at hl 0 rfl) ?_
  refine lv_iload_n hx hb dL_law_299 rfl (lv_at hl 3 rfl) ?_
  refine lv_iconst (v := 2) hx hb dL_law_300 (by decide) ?_
  refine lv_iadd hx hb dL_law_301 ?_
  refine va_sld hx hb hX hbl hbA hS hi2 dL_law_302 ?_
  refine cVa (wc := (Wm_couple cI cZ yh Rf G f0 f9)) (wr := (wr ++ (Wx_couple cI cZ xh v_x v_q1 v_q2 v_rd v_t v_d v_nw v_ps v_im v_is_ v_q10 v_bk v_q12 v_qr v_pr v_cv v_ft v_t0 v_t1 v_t2 v_t3 v_t4 v_ta v_tb v_tc v_td v_te v_ftb v_nwc v_fn))) (rest := []) (m_couple Rf yh G f0 f9 (xs ((iv + 1) : Int32).toNatClampNeg) (xs ((iv + 2) : Int32).toNatClampNeg) hs) okV_X10_couple wd_740 hx hb hml hown hts hK hP hD hS hA hN hl.1 rfl rfl rfl (Nat.le_of_ble_eq_true rfl) (Nat.le_of_ble_eq_true rfl) (Nat.le_of_ble_eq_true rfl) (Nat.le_of_ble_eq_true rfl) (Nat.le_of_ble_eq_true rfl) dL_law_303 (fun ry u2 H locs em hP hD hS => ?_)
  replace em : ry = (f_m_couple G f0 f9 (xs ((iv + 1) : Int32).toNatClampNeg) (xs ((iv + 2) : Int32).toNatClampNeg)) := em
  have hP : va_P D classes ((wr ++ (Wx_couple cI cZ xh v_x v_q1 v_q2 v_rd v_t v_d v_nw v_ps v_im v_is_ v_q10 v_bk v_q12 v_qr v_pr v_cv v_ft v_t0 v_t1 v_t2 v_t3 v_t4 v_ta v_tb v_tc v_td v_te v_ftb v_nwc v_fn)) ++ (Wm_couple cI cZ yh Rf G f0 f9)) H := hP
  have hD : va_D (lw_A s) ((wr ++ (Wx_couple cI cZ xh v_x v_q1 v_q2 v_rd v_t v_d v_nw v_ps v_im v_is_ v_q10 v_bk v_q12 v_qr v_pr v_cv v_ft v_t0 v_t1 v_t2 v_t3 v_t4 v_ta v_tb v_tc v_td v_te v_ftb v_nwc v_fn)) ++ (Wm_couple cI cZ yh Rf G f0 f9)) := hD
  refine lv_pop hx hb dL_law_306 rfl ?_
  refine lv_goto (tgt := 1015) hx hb dL_law_307 (by decide) ?_
  exact hnext rx ry _ _ _ ex em (permP rot hP) (permD rot hD) hS hl
def Wx_force (cI cZ : ClassId) (xh : Nat) (v_x : Nat) (v_q1 : Int32) (v_q2 : Int32) (v_rd : Nat) (v_t : Nat) (v_d : Nat) (v_nw : Nat) (v_ps : Nat) (v_im : Nat) (v_is_ : Nat) (v_q10 : Int32) (v_bk : Nat) (v_q12 : Int32) (v_qr : Nat) (v_pr : Nat) (v_cv : Nat) (v_ft : Nat) (v_t0 : Int32) (v_t1 : Int32) (v_t2 : Int32) (v_t3 : Int32) (v_t4 : Int32) (v_ta : Nat) (v_tb : Nat) (v_tc : Nat) (v_td : Nat) (v_te : Nat) (v_ftc : Nat → Int32) : va_W := [(xh, .inr (9, [.ref v_x, .int v_q1, .int v_q2, .ref v_rd, .ref v_t, .ref v_d, .ref v_nw, .ref v_ps, .ref v_im, .ref v_is_, .int v_q10, .ref v_bk, .int v_q12, .ref v_qr, .ref v_pr, .ref v_cv, .ref v_ft])), (v_t, .inr (8, [.int v_t0, .int v_t1, .int v_t2, .int v_t3, .int v_t4, .ref v_ta, .ref v_tb, .ref v_tc, .ref v_td, .ref v_te])), (v_tc, .inl (cI, 30, .inl v_ftc))]
def Wm_force (cI cZ : ClassId) (yh : Nat) (Rf : Nat → Nat) (G : Nat → Int32) (f10 : Nat → Int32) : va_W := [(yh, .inr (10, ML G Rf)), ((Rf 10), .inl (cI, 30, .inl f10))]
set_option maxHeartbeats 4000000 in
set_option maxRecDepth 100000 in
theorem law_force {p : Program} {l : Launch} {e : Env} {s : State} {m : MethodId} {below : List Frame} {meth : Method} {c : Code} {D : va_G} {cI cZ : ClassId} {b : Nat} {xs : Nat → Int32} {L : Nat} (wr : va_W) (v_x : Nat) (v_q1 : Int32) (v_q2 : Int32) (v_rd : Nat) (v_t : Nat) (v_d : Nat) (v_nw : Nat) (v_ps : Nat) (v_im : Nat) (v_is_ : Nat) (v_q10 : Int32) (v_bk : Nat) (v_q12 : Int32) (v_qr : Nat) (v_pr : Nat) (v_cv : Nat) (v_ft : Nat) (v_t0 : Int32) (v_t1 : Int32) (v_t2 : Int32) (v_t3 : Int32) (v_t4 : Int32) (v_ta : Nat) (v_tb : Nat) (v_tc : Nat) (v_td : Nat) (v_te : Nat) (v_ftc : Nat → Int32) (Rf : Nat → Nat) (G : Nat → Int32) (f10 : Nat → Int32) {xh yh : Nat} {iv : Int32} (C0 : lw_C p s m meth c b L xs) {H : Heap} {locs : List Loc} {ls : Array Slot} (hi1 : ¬ ((iv + 1) < 0 ∨ L ≤ (iv + 1 : Int32).toNatClampNeg)) (hi2 : ¬ ((iv + 2) < 0 ∨ L ≤ (iv + 2 : Int32).toNatClampNeg)) (hi3 : ¬ ((iv + 3) < 0 ∨ L ≤ (iv + 3 : Int32).toNatClampNeg)) (hi4 : ¬ ((iv + 4) < 0 ∨ L ≤ (iv + 4 : Int32).toNatClampNeg)) (hK : va_K D classes (TYS cI cZ) s) (hs : S_m_force G f10 (xs ((iv + 1) : Int32).toNatClampNeg) (xs ((iv + 2) : Int32).toNatClampNeg)) (hP : va_P D classes ((Wx_force cI cZ xh v_x v_q1 v_q2 v_rd v_t v_d v_nw v_ps v_im v_is_ v_q10 v_bk v_q12 v_qr v_pr v_cv v_ft v_t0 v_t1 v_t2 v_t3 v_t4 v_ta v_tb v_tc v_td v_te v_ftc) ++ ((Wm_force cI cZ yh Rf G f10) ++ wr)) H) (hD : va_D (lw_A s) ((Wx_force cI cZ xh v_x v_q1 v_q2 v_rd v_t v_d v_nw v_ps v_im v_is_ v_q10 v_bk v_q12 v_qr v_pr v_cv v_ft v_t0 v_t1 v_t2 v_t3 v_t4 v_ta v_tb v_tc v_td v_te v_ftc) ++ ((Wm_force cI cZ yh Rf G f10) ++ wr))) (hS : va_S (lw_A s) s.heap H locs) (hl : lv_has ls 4 [(0, .ref b), (1, .ref xh), (2, .ref yh), (3, .int iv)]) (hcmp : ∀ (rx ry : Int32), rx = (f_e_force_x9 v_q1 v_q2 v_q10 v_q12 v_t0 v_t1 v_t2 v_t3 v_t4 v_ftc (xs ((iv + 1) : Int32).toNatClampNeg) (xs ((iv + 2) : Int32).toNatClampNeg)) → ry = (f_m_force G f10 (xs ((iv + 1) : Int32).toNatClampNeg) (xs ((iv + 2) : Int32).toNatClampNeg)) → rx = ry) (hnext : ∀ (rx : Int32) (ry : Int32) (H : Heap) (locs : List Loc) (ls : Array Slot), rx = (f_e_force_x9 v_q1 v_q2 v_q10 v_q12 v_t0 v_t1 v_t2 v_t3 v_t4 v_ftc (xs ((iv + 1) : Int32).toNatClampNeg) (xs ((iv + 2) : Int32).toNatClampNeg)) → ry = (f_m_force G f10 (xs ((iv + 1) : Int32).toNatClampNeg) (xs ((iv + 2) : Int32).toNatClampNeg)) → va_P D classes ((Wx_force cI cZ xh v_x v_q1 v_q2 v_rd v_t v_d v_nw v_ps v_im v_is_ v_q10 v_bk v_q12 v_qr v_pr v_cv v_ft v_t0 v_t1 v_t2 v_t3 v_t4 v_ta v_tb v_tc v_td v_te v_ftc) ++ ((Wm_force cI cZ yh Rf G f10) ++ wr)) H → va_D (lw_A s) ((Wx_force cI cZ xh v_x v_q1 v_q2 v_rd v_t v_d v_nw v_ps v_im v_is_ v_q10 v_bk v_q12 v_qr v_pr v_cv v_ft v_t0 v_t1 v_t2 v_t3 v_t4 v_ta v_tb v_tc v_td v_te v_ftc) ++ ((Wm_force cI cZ yh Rf G f10) ++ wr)) → va_S (lw_A s) s.heap H locs → lv_has ls 4 [(0, .ref b), (1, .ref xh), (2, .ref yh), (3, .int iv)] → W p l e room_1 s m #[Value.ref b] below meth c H locs 60 4269 (lw_Z below #[Value.ref b] s) (F0 m 1015 ls [])) : W p l e room_1 s m #[Value.ref b] below meth c H locs 60 4269 (lw_Z below #[Value.ref b] s) (F0 m 310 ls []) := by
  obtain ⟨hx, hb, hr, hml, hown, hts, hX, hbl, hlocks, hN⟩ := C0
  have hA : ∀ q, s.heap.size ≤ q → lw_A s q := fun _ h => h
  have hbA : ¬ lw_A s b := Nat.not_le.mpr hbl
  refine lv_aload_n hx hb dL_law_310 rfl (lv_at hl 1 rfl) ?_
  refine lv_aload_n hx hb dL_law_311 rfl (lv_at hl 0 rfl) ?_
  refine lv_iload_n hx hb dL_law_312 rfl (lv_at hl 3 rfl) ?_
  refine lv_iconst (v := 1) hx hb dL_law_313 (by decide) ?_
  refine lv_iadd hx hb dL_law_314 ?_
  refine va_sld hx hb hX hbl hbA hS hi1 dL_law_315 ?_
  refine lv_aload_n hx hb dL_law_316 rfl (lv_at hl 0 rfl) ?_
  refine lv_iload_n hx hb dL_law_317 rfl (lv_at hl 3 rfl) ?_
  refine lv_iconst (v := 2) hx hb dL_law_318 (by decide) ?_
  refine lv_iadd hx hb dL_law_319 ?_
  refine va_sld hx hb hX hbl hbA hS hi2 dL_law_320 ?_
  refine cVa (wc := (Wx_force cI cZ xh v_x v_q1 v_q2 v_rd v_t v_d v_nw v_ps v_im v_is_ v_q10 v_bk v_q12 v_qr v_pr v_cv v_ft v_t0 v_t1 v_t2 v_t3 v_t4 v_ta v_tb v_tc v_td v_te v_ftc)) (wr := ((Wm_force cI cZ yh Rf G f10) ++ wr)) (rest := []) (e_force_x9 xh v_x v_rd v_t v_d v_nw v_ps v_im v_is_ v_bk v_qr v_pr v_cv v_ft v_ta v_tb v_tc v_td v_te v_q1 v_q2 v_q10 v_q12 v_t0 v_t1 v_t2 v_t3 v_t4 v_ftc (xs ((iv + 1) : Int32).toNatClampNeg) (xs ((iv + 2) : Int32).toNatClampNeg)) okV_X9_force wd_744 hx hb hml hown hts hK hP hD hS hA hN hl.1 rfl rfl rfl (Nat.le_of_ble_eq_true rfl) (Nat.le_of_ble_eq_true rfl) (Nat.le_of_ble_eq_true rfl) (Nat.le_of_ble_eq_true rfl) (Nat.le_of_ble_eq_true rfl) dL_law_321 (fun rx u1 H locs ex hP hD hS => ?_)
  replace ex : rx = (f_e_force_x9 v_q1 v_q2 v_q10 v_q12 v_t0 v_t1 v_t2 v_t3 v_t4 v_ftc (xs ((iv + 1) : Int32).toNatClampNeg) (xs ((iv + 2) : Int32).toNatClampNeg)) := ex
  have hP : va_P D classes (((Wm_force cI cZ yh Rf G f10) ++ wr) ++ (Wx_force cI cZ xh v_x v_q1 v_q2 v_rd v_t v_d v_nw v_ps v_im v_is_ v_q10 v_bk v_q12 v_qr v_pr v_cv v_ft v_t0 v_t1 v_t2 v_t3 v_t4 v_ta v_tb v_tc v_td v_te v_ftc)) H := hP
  have hD : va_D (lw_A s) (((Wm_force cI cZ yh Rf G f10) ++ wr) ++ (Wx_force cI cZ xh v_x v_q1 v_q2 v_rd v_t v_d v_nw v_ps v_im v_is_ v_q10 v_bk v_q12 v_qr v_pr v_cv v_ft v_t0 v_t1 v_t2 v_t3 v_t4 v_ta v_tb v_tc v_td v_te v_ftc)) := hD
  rw [List.append_assoc] at hP hD
  refine lv_aload_n hx hb dL_law_324 rfl (lv_at hl 2 rfl) ?_
  refine lv_aload_n hx hb dL_law_325 rfl (lv_at hl 0 rfl) ?_
  refine lv_iload_n hx hb dL_law_326 rfl (lv_at hl 3 rfl) ?_
  refine lv_iconst (v := 1) hx hb dL_law_327 (by decide) ?_
  refine lv_iadd hx hb dL_law_328 ?_
  refine va_sld hx hb hX hbl hbA hS hi1 dL_law_329 ?_
  refine lv_aload_n hx hb dL_law_330 rfl (lv_at hl 0 rfl) ?_
  refine lv_iload_n hx hb dL_law_331 rfl (lv_at hl 3 rfl) ?_
  refine lv_iconst (v := 2) hx hb dL_law_332 (by decide) ?_
  refine lv_iadd hx hb dL_law_333 ?_
  refine va_sld hx hb hX hbl hbA hS hi2 dL_law_334 ?_
  refine cVa (wc := (Wm_force cI cZ yh Rf G f10)) (wr := (wr ++ (Wx_force cI cZ xh v_x v_q1 v_q2 v_rd v_t v_d v_nw v_ps v_im v_is_ v_q10 v_bk v_q12 v_qr v_pr v_cv v_ft v_t0 v_t1 v_t2 v_t3 v_t4 v_ta v_tb v_tc v_td v_te v_ftc))) (rest := [.int rx]) (m_force Rf yh G f10 (xs ((iv + 1) : Int32).toNatClampNeg) (xs ((iv + 2) : Int32).toNatClampNeg) hs) okV_X10_force wd_748 hx hb hml hown hts hK hP hD hS hA hN hl.1 rfl rfl rfl (Nat.le_of_ble_eq_true rfl) (Nat.le_of_ble_eq_true rfl) (Nat.le_of_ble_eq_true rfl) (Nat.le_of_ble_eq_true rfl) (Nat.le_of_ble_eq_true rfl) dL_law_335 (fun ry u2 H locs em hP hD hS => ?_)
  replace em : ry = (f_m_force G f10 (xs ((iv + 1) : Int32).toNatClampNeg) (xs ((iv + 2) : Int32).toNatClampNeg)) := em
  have hP : va_P D classes ((wr ++ (Wx_force cI cZ xh v_x v_q1 v_q2 v_rd v_t v_d v_nw v_ps v_im v_is_ v_q10 v_bk v_q12 v_qr v_pr v_cv v_ft v_t0 v_t1 v_t2 v_t3 v_t4 v_ta v_tb v_tc v_td v_te v_ftc)) ++ (Wm_force cI cZ yh Rf G f10)) H := hP
  have hD : va_D (lw_A s) ((wr ++ (Wx_force cI cZ xh v_x v_q1 v_q2 v_rd v_t v_d v_nw v_ps v_im v_is_ v_q10 v_bk v_q12 v_qr v_pr v_cv v_ft v_t0 v_t1 v_t2 v_t3 v_t4 v_ta v_tb v_tc v_td v_te v_ftc)) ++ (Wm_force cI cZ yh Rf G f10)) := hD
  refine lv_icmp_eq (tgt := 1015) hx hb dL_law_338 (by decide) (fun c_1 => ?_) (fun c_1 => absurd (hcmp _ _  ex em) c_1)
  exact hnext rx ry _ _ _ ex em (permP rot hP) (permD rot hD) hS hl
def Wx_barge (cI cZ : ClassId) (xh : Nat) (v_x : Nat) (v_q1 : Int32) (v_q2 : Int32) (v_rd : Nat) (v_t : Nat) (v_d : Nat) (v_nw : Nat) (v_ps : Nat) (v_im : Nat) (v_is_ : Nat) (v_q10 : Int32) (v_bk : Nat) (v_q12 : Int32) (v_qr : Nat) (v_pr : Nat) (v_cv : Nat) (v_ft : Nat) (v_t0 : Int32) (v_t1 : Int32) (v_t2 : Int32) (v_t3 : Int32) (v_t4 : Int32) (v_ta : Nat) (v_tb : Nat) (v_tc : Nat) (v_td : Nat) (v_te : Nat) (v_ftd : Nat → Int32) (v_fte : Nat → Int32) (v_nwc : Nat) (v_fn : Nat → Int32) : va_W := [(xh, .inr (9, [.ref v_x, .int v_q1, .int v_q2, .ref v_rd, .ref v_t, .ref v_d, .ref v_nw, .ref v_ps, .ref v_im, .ref v_is_, .int v_q10, .ref v_bk, .int v_q12, .ref v_qr, .ref v_pr, .ref v_cv, .ref v_ft])), (v_t, .inr (8, [.int v_t0, .int v_t1, .int v_t2, .int v_t3, .int v_t4, .ref v_ta, .ref v_tb, .ref v_tc, .ref v_td, .ref v_te])), (v_td, .inl (cI, 7, .inl v_ftd)), (v_te, .inl (cI, 7, .inl v_fte)), (v_nw, .inr (7, [.ref v_nwc])), (v_nwc, .inl (cI, 41, .inl v_fn))]
def Wm_barge (cI cZ : ClassId) (yh : Nat) (Rf : Nat → Nat) (G : Nat → Int32) (f0 : Nat → Int32) (f11 : Nat → Int32) (f12 : Nat → Int32) : va_W := [(yh, .inr (10, ML G Rf)), ((Rf 0), .inl (cI, 1302, .inl f0)), ((Rf 11), .inl (cI, 7, .inl f11)), ((Rf 12), .inl (cI, 7, .inl f12))]
set_option maxHeartbeats 4000000 in
set_option maxRecDepth 100000 in
theorem law_barge {p : Program} {l : Launch} {e : Env} {s : State} {m : MethodId} {below : List Frame} {meth : Method} {c : Code} {D : va_G} {cI cZ : ClassId} {b : Nat} {xs : Nat → Int32} {L : Nat} (wr : va_W) (v_x : Nat) (v_q1 : Int32) (v_q2 : Int32) (v_rd : Nat) (v_t : Nat) (v_d : Nat) (v_nw : Nat) (v_ps : Nat) (v_im : Nat) (v_is_ : Nat) (v_q10 : Int32) (v_bk : Nat) (v_q12 : Int32) (v_qr : Nat) (v_pr : Nat) (v_cv : Nat) (v_ft : Nat) (v_t0 : Int32) (v_t1 : Int32) (v_t2 : Int32) (v_t3 : Int32) (v_t4 : Int32) (v_ta : Nat) (v_tb : Nat) (v_tc : Nat) (v_td : Nat) (v_te : Nat) (v_ftd : Nat → Int32) (v_fte : Nat → Int32) (v_nwc : Nat) (v_fn : Nat → Int32) (Rf : Nat → Nat) (G : Nat → Int32) (f0 : Nat → Int32) (f11 : Nat → Int32) (f12 : Nat → Int32) {xh yh : Nat} {iv : Int32} (C0 : lw_C p s m meth c b L xs) {H : Heap} {locs : List Loc} {ls : Array Slot} (hi1 : ¬ ((iv + 1) < 0 ∨ L ≤ (iv + 1 : Int32).toNatClampNeg)) (hi2 : ¬ ((iv + 2) < 0 ∨ L ≤ (iv + 2 : Int32).toNatClampNeg)) (hi3 : ¬ ((iv + 3) < 0 ∨ L ≤ (iv + 3 : Int32).toNatClampNeg)) (hi4 : ¬ ((iv + 4) < 0 ∨ L ≤ (iv + 4 : Int32).toNatClampNeg)) (hK : va_K D classes (TYS cI cZ) s) (hs : S_m_barge G f0 f11 f12 (xs ((iv + 1) : Int32).toNatClampNeg) (xs ((iv + 2) : Int32).toNatClampNeg)) (hP : va_P D classes ((Wx_barge cI cZ xh v_x v_q1 v_q2 v_rd v_t v_d v_nw v_ps v_im v_is_ v_q10 v_bk v_q12 v_qr v_pr v_cv v_ft v_t0 v_t1 v_t2 v_t3 v_t4 v_ta v_tb v_tc v_td v_te v_ftd v_fte v_nwc v_fn) ++ ((Wm_barge cI cZ yh Rf G f0 f11 f12) ++ wr)) H) (hD : va_D (lw_A s) ((Wx_barge cI cZ xh v_x v_q1 v_q2 v_rd v_t v_d v_nw v_ps v_im v_is_ v_q10 v_bk v_q12 v_qr v_pr v_cv v_ft v_t0 v_t1 v_t2 v_t3 v_t4 v_ta v_tb v_tc v_td v_te v_ftd v_fte v_nwc v_fn) ++ ((Wm_barge cI cZ yh Rf G f0 f11 f12) ++ wr))) (hS : va_S (lw_A s) s.heap H locs) (hl : lv_has ls 4 [(0, .ref b), (1, .ref xh), (2, .ref yh), (3, .int iv)]) (hnext : ∀ (rx : Int32) (ry : Int32) (H : Heap) (locs : List Loc) (ls : Array Slot), rx = (f_e_barge_x9 v_q1 v_q2 v_q10 v_q12 v_t0 v_t1 v_t2 v_t3 v_t4 v_ftd v_fte v_fn (xs ((iv + 1) : Int32).toNatClampNeg) (xs ((iv + 2) : Int32).toNatClampNeg)) → ry = (f_m_barge G f0 f11 f12 (xs ((iv + 1) : Int32).toNatClampNeg) (xs ((iv + 2) : Int32).toNatClampNeg)) → va_P D classes ((Wx_barge cI cZ xh v_x v_q1 v_q2 v_rd v_t v_d v_nw v_ps v_im v_is_ v_q10 v_bk v_q12 v_qr v_pr v_cv v_ft v_t0 v_t1 v_t2 v_t3 v_t4 v_ta v_tb v_tc v_td v_te v_ftd v_fte v_nwc v_fn) ++ ((Wm_barge cI cZ yh Rf G f0 f11 f12) ++ wr)) H → va_D (lw_A s) ((Wx_barge cI cZ xh v_x v_q1 v_q2 v_rd v_t v_d v_nw v_ps v_im v_is_ v_q10 v_bk v_q12 v_qr v_pr v_cv v_ft v_t0 v_t1 v_t2 v_t3 v_t4 v_ta v_tb v_tc v_td v_te v_ftd v_fte v_nwc v_fn) ++ ((Wm_barge cI cZ yh Rf G f0 f11 f12) ++ wr)) → va_S (lw_A s) s.heap H locs → lv_has ls 4 [(0, .ref b), (1, .ref xh), (2, .ref yh), (3, .int iv)] → W p l e room_1 s m #[Value.ref b] below meth c H locs 60 4269 (lw_Z below #[Value.ref b] s) (F0 m 1015 ls [])) : W p l e room_1 s m #[Value.ref b] below meth c H locs 60 4269 (lw_Z below #[Value.ref b] s) (F0 m 343 ls []) := by
  obtain ⟨hx, hb, hr, hml, hown, hts, hX, hbl, hlocks, hN⟩ := C0
  have hA : ∀ q, s.heap.size ≤ q → lw_A s q := fun _ h => h
  have hbA : ¬ lw_A s b := Nat.not_le.mpr hbl
  refine lv_aload_n hx hb dL_law_343 rfl (lv_at hl 1 rfl) ?_
  refine lv_aload_n hx hb dL_law_344 rfl (lv_at hl 0 rfl) ?_
  refine lv_iload_n hx hb dL_law_345 rfl (lv_at hl 3 rfl) ?_
  refine lv_iconst (v := 1) hx hb dL_law_346 (by decide) ?_
  refine lv_iadd hx hb dL_law_347 ?_
  refine va_sld hx hb hX hbl hbA hS hi1 dL_law_348 ?_
  refine lv_aload_n hx hb dL_law_349 rfl (lv_at hl 0 rfl) ?_
  refine lv_iload_n hx hb dL_law_350 rfl (lv_at hl 3 rfl) ?_
  refine lv_iconst (v := 2) hx hb dL_law_351 (by decide) ?_
  refine lv_iadd hx hb dL_law_352 ?_
  refine va_sld hx hb hX hbl hbA hS hi2 dL_law_353 ?_
  refine cVa (wc := (Wx_barge cI cZ xh v_x v_q1 v_q2 v_rd v_t v_d v_nw v_ps v_im v_is_ v_q10 v_bk v_q12 v_qr v_pr v_cv v_ft v_t0 v_t1 v_t2 v_t3 v_t4 v_ta v_tb v_tc v_td v_te v_ftd v_fte v_nwc v_fn)) (wr := ((Wm_barge cI cZ yh Rf G f0 f11 f12) ++ wr)) (rest := []) (e_barge_x9 xh v_x v_rd v_t v_d v_nw v_ps v_im v_is_ v_bk v_qr v_pr v_cv v_ft v_ta v_tb v_tc v_td v_te v_nwc v_q1 v_q2 v_q10 v_q12 v_t0 v_t1 v_t2 v_t3 v_t4 v_ftd v_fte v_fn (xs ((iv + 1) : Int32).toNatClampNeg) (xs ((iv + 2) : Int32).toNatClampNeg)) okV_X9_barge wd_752 hx hb hml hown hts hK hP hD hS hA hN hl.1 rfl rfl rfl (Nat.le_of_ble_eq_true rfl) (Nat.le_of_ble_eq_true rfl) (Nat.le_of_ble_eq_true rfl) (Nat.le_of_ble_eq_true rfl) (Nat.le_of_ble_eq_true rfl) dL_law_354 (fun rx u1 H locs ex hP hD hS => ?_)
  replace ex : rx = (f_e_barge_x9 v_q1 v_q2 v_q10 v_q12 v_t0 v_t1 v_t2 v_t3 v_t4 v_ftd v_fte v_fn (xs ((iv + 1) : Int32).toNatClampNeg) (xs ((iv + 2) : Int32).toNatClampNeg)) := ex
  have hP : va_P D classes (((Wm_barge cI cZ yh Rf G f0 f11 f12) ++ wr) ++ (Wx_barge cI cZ xh v_x v_q1 v_q2 v_rd v_t v_d v_nw v_ps v_im v_is_ v_q10 v_bk v_q12 v_qr v_pr v_cv v_ft v_t0 v_t1 v_t2 v_t3 v_t4 v_ta v_tb v_tc v_td v_te v_ftd v_fte v_nwc v_fn)) H := hP
  have hD : va_D (lw_A s) (((Wm_barge cI cZ yh Rf G f0 f11 f12) ++ wr) ++ (Wx_barge cI cZ xh v_x v_q1 v_q2 v_rd v_t v_d v_nw v_ps v_im v_is_ v_q10 v_bk v_q12 v_qr v_pr v_cv v_ft v_t0 v_t1 v_t2 v_t3 v_t4 v_ta v_tb v_tc v_td v_te v_ftd v_fte v_nwc v_fn)) := hD
  rw [List.append_assoc] at hP hD
  refine lv_pop hx hb dL_law_357 rfl ?_
  refine lv_aload_n hx hb dL_law_358 rfl (lv_at hl 2 rfl) ?_
  refine lv_aload_n hx hb dL_law_359 rfl (lv_at hl 0 rfl) ?_
  refine lv_iload_n hx hb dL_law_360 rfl (lv_at hl 3 rfl) ?_
  refine lv_iconst (v := 1) hx hb dL_law_361 (by decide) ?_
  refine lv_iadd hx hb dL_law_362 ?_
  refine va_sld hx hb hX hbl hbA hS hi1 dL_law_363 ?_
  refine lv_aload_n hx hb dL_law_364 rfl (lv_at hl 0 rfl) ?_
  refine lv_iload_n hx hb dL_law_365 rfl (lv_at hl 3 rfl) ?_
  refine lv_iconst (v := 2) hx hb dL_law_366 (by decide) ?_
  refine lv_iadd hx hb dL_law_367 ?_
  refine va_sld hx hb hX hbl hbA hS hi2 dL_law_368 ?_
  refine cVa (wc := (Wm_barge cI cZ yh Rf G f0 f11 f12)) (wr := (wr ++ (Wx_barge cI cZ xh v_x v_q1 v_q2 v_rd v_t v_d v_nw v_ps v_im v_is_ v_q10 v_bk v_q12 v_qr v_pr v_cv v_ft v_t0 v_t1 v_t2 v_t3 v_t4 v_ta v_tb v_tc v_td v_te v_ftd v_fte v_nwc v_fn))) (rest := []) (m_barge Rf yh G f0 f11 f12 (xs ((iv + 1) : Int32).toNatClampNeg) (xs ((iv + 2) : Int32).toNatClampNeg) hs) okV_X10_barge wd_756 hx hb hml hown hts hK hP hD hS hA hN hl.1 rfl rfl rfl (Nat.le_of_ble_eq_true rfl) (Nat.le_of_ble_eq_true rfl) (Nat.le_of_ble_eq_true rfl) (Nat.le_of_ble_eq_true rfl) (Nat.le_of_ble_eq_true rfl) dL_law_369 (fun ry u2 H locs em hP hD hS => ?_)
  replace em : ry = (f_m_barge G f0 f11 f12 (xs ((iv + 1) : Int32).toNatClampNeg) (xs ((iv + 2) : Int32).toNatClampNeg)) := em
  have hP : va_P D classes ((wr ++ (Wx_barge cI cZ xh v_x v_q1 v_q2 v_rd v_t v_d v_nw v_ps v_im v_is_ v_q10 v_bk v_q12 v_qr v_pr v_cv v_ft v_t0 v_t1 v_t2 v_t3 v_t4 v_ta v_tb v_tc v_td v_te v_ftd v_fte v_nwc v_fn)) ++ (Wm_barge cI cZ yh Rf G f0 f11 f12)) H := hP
  have hD : va_D (lw_A s) ((wr ++ (Wx_barge cI cZ xh v_x v_q1 v_q2 v_rd v_t v_d v_nw v_ps v_im v_is_ v_q10 v_bk v_q12 v_qr v_pr v_cv v_ft v_t0 v_t1 v_t2 v_t3 v_t4 v_ta v_tb v_tc v_td v_te v_ftd v_fte v_nwc v_fn)) ++ (Wm_barge cI cZ yh Rf G f0 f11 f12)) := hD
  refine lv_pop hx hb dL_law_372 rfl ?_
  refine lv_goto (tgt := 1015) hx hb dL_law_373 (by decide) ?_
  exact hnext rx ry _ _ _ ex em (permP rot hP) (permD rot hD) hS hl
end
