theorem dX10_takesClause_0 : decode cX10_takesClause 0 = .ok (.aload_n 0, 1) := by decide +kernel
theorem dX10_takesClause_1 : decode cX10_takesClause 1 = .ok (.invokevirtual 111, 3) := by decide +kernel
theorem dX10_takesClause_4 : decode cX10_takesClause 4 = .ok (.istore_n 1, 1) := by decide +kernel
theorem dX10_takesClause_5 : decode cX10_takesClause 5 = .ok (.iload_n 1, 1) := by decide +kernel
theorem dX10_takesClause_6 : decode cX10_takesClause 6 = .ok (.bipush 98, 2) := by decide +kernel
theorem dX10_takesClause_8 : decode cX10_takesClause 8 = .ok (.if_icmp .eq 34, 3) := by decide +kernel
theorem dX10_takesClause_42 : decode cX10_takesClause 42 = .ok (.iconst 1, 1) := by decide +kernel
theorem dX10_takesClause_43 : decode cX10_takesClause 43 = .ok (.goto 4, 3) := by decide +kernel
theorem dX10_takesClause_47 : decode cX10_takesClause 47 = .ok (.istore_n 2, 1) := by decide +kernel
theorem dX10_takesClause_48 : decode cX10_takesClause 48 = .ok (.iload_n 2, 1) := by decide +kernel
theorem dX10_takesClause_49 : decode cX10_takesClause 49 = .ok (.ifCond .ne 13, 3) := by decide +kernel
theorem dX10_takesClause_62 : decode cX10_takesClause 62 = .ok (.iload_n 1, 1) := by decide +kernel
theorem dX10_takesClause_63 : decode cX10_takesClause 63 = .ok (.bipush 98, 2) := by decide +kernel
theorem dX10_takesClause_65 : decode cX10_takesClause 65 = .ok (.if_icmp .ne 18, 3) := by decide +kernel
theorem dX10_takesClause_68 : decode cX10_takesClause 68 = .ok (.aload_n 0, 1) := by decide +kernel
theorem dX10_takesClause_69 : decode cX10_takesClause 69 = .ok (.getfield 126, 3) := by decide +kernel
theorem dX10_takesClause_72 : decode cX10_takesClause 72 = .ok (.ifCond .le 7, 3) := by decide +kernel
theorem dX10_takesClause_79 : decode cX10_takesClause 79 = .ok (.iconst 0, 1) := by decide +kernel
theorem dX10_takesClause_80 : decode cX10_takesClause 80 = .ok (.goto 81, 3) := by decide +kernel
theorem dX10_takesClause_161 : decode cX10_takesClause 161 = .ok (.istore_n 3, 1) := by decide +kernel
theorem dX10_takesClause_162 : decode cX10_takesClause 162 = .ok (.iload_n 3, 1) := by decide +kernel
theorem dX10_takesClause_163 : decode cX10_takesClause 163 = .ok (.ifCond .eq 13, 3) := by decide +kernel
theorem dX10_takesClause_176 : decode cX10_takesClause 176 = .ok (.aload_n 0, 1) := by decide +kernel
theorem dX10_takesClause_177 : decode cX10_takesClause 177 = .ok (.dup, 1) := by decide +kernel
theorem dX10_takesClause_178 : decode cX10_takesClause 178 = .ok (.getfield 98, 3) := by decide +kernel
theorem dX10_takesClause_181 : decode cX10_takesClause 181 = .ok (.iconst 1, 1) := by decide +kernel
theorem dX10_takesClause_182 : decode cX10_takesClause 182 = .ok (.iadd, 1) := by decide +kernel
theorem dX10_takesClause_183 : decode cX10_takesClause 183 = .ok (.putfield 98, 3) := by decide +kernel
theorem dX10_takesClause_186 : decode cX10_takesClause 186 = .ok (.iload_n 1, 1) := by decide +kernel
theorem dX10_takesClause_187 : decode cX10_takesClause 187 = .ok (.lookupswitch 77 #[(98, 41), (99, 59), (116, 50), (118, 68)], 41) := by decide +kernel
theorem dX10_takesClause_228 : decode cX10_takesClause 228 = .ok (.aload_n 0, 1) := by decide +kernel
theorem dX10_takesClause_229 : decode cX10_takesClause 229 = .ok (.invokevirtual 155, 3) := by decide +kernel
theorem wd_623 : Cond.methodLink RX10 155 yX10_takesBridges ∈ BG := BG_at 950 (by decide +kernel) rfl
theorem wd_624 : Cond.code yX10_takesBridges cX10_takesBridges 2 (some .boolean) ∈ BG := BG_at 953 (by decide +kernel) rfl
theorem wd_625 : Cond.instanceMethod yX10_takesBridges ∈ BG := BG_at 952 (by decide +kernel) rfl
theorem wd_626 : Cond.selects RX10 yX10_takesBridges yX10_takesBridges ∈ BG := BG_in (by decide +kernel) rfl
theorem okV_X10_takesBridges : okV yX10_takesBridges cX10_takesBridges 2 (some .boolean) 0 := ⟨⟨wd_624, wd_497, by decide +kernel⟩, wd_625, wd_626⟩
theorem dX10_takesClause_232 : decode cX10_takesClause 232 = .ok (.istore 4, 2) := by decide +kernel
theorem dX10_takesClause_234 : decode cX10_takesClause 234 = .ok (.goto 36, 3) := by decide +kernel
theorem dX10_takesClause_270 : decode cX10_takesClause 270 = .ok (.iload 4, 2) := by decide +kernel
theorem dX10_takesClause_272 : decode cX10_takesClause 272 = .ok (.ifCond .eq 16, 3) := by decide +kernel
theorem dX10_takesClause_288 : decode cX10_takesClause 288 = .ok (.iconst 0, 1) := by decide +kernel
theorem dX10_takesClause_289 : decode cX10_takesClause 289 = .ok (.ireturn, 1) := by decide +kernel
theorem dX10_takesClause_275 : decode cX10_takesClause 275 = .ok (.aload_n 0, 1) := by decide +kernel
theorem dX10_takesClause_276 : decode cX10_takesClause 276 = .ok (.bipush 59, 2) := by decide +kernel
theorem dX10_takesClause_278 : decode cX10_takesClause 278 = .ok (.invokevirtual 142, 3) := by decide +kernel
theorem dX10_takesClause_281 : decode cX10_takesClause 281 = .ok (.ifCond .eq 7, 3) := by decide +kernel
theorem dX10_takesClause_284 : decode cX10_takesClause 284 = .ok (.iconst 1, 1) := by decide +kernel
theorem dX10_takesClause_285 : decode cX10_takesClause 285 = .ok (.goto 4, 3) := by decide +kernel
theorem dX10_takesClause_75 : decode cX10_takesClause 75 = .ok (.iconst 1, 1) := by decide +kernel
theorem dX10_takesClause_76 : decode cX10_takesClause 76 = .ok (.goto 85, 3) := by decide +kernel
theorem dX10_takesClause_166 : decode cX10_takesClause 166 = .ok (.aload_n 0, 1) := by decide +kernel
theorem dX10_takesClause_167 : decode cX10_takesClause 167 = .ok (.iconst 3, 1) := by decide +kernel
theorem dX10_takesClause_168 : decode cX10_takesClause 168 = .ok (.aload_n 0, 1) := by decide +kernel
theorem dX10_takesClause_169 : decode cX10_takesClause 169 = .ok (.getfield 105, 3) := by decide +kernel
theorem dX10_takesClause_172 : decode cX10_takesClause 172 = .ok (.invokevirtual 115, 3) := by decide +kernel
theorem dX10_takesClause_175 : decode cX10_takesClause 175 = .ok (.ireturn, 1) := by decide +kernel
theorem dX10_takesClause_11 : decode cX10_takesClause 11 = .ok (.aload_n 0, 1) := by decide +kernel
theorem dX10_takesClause_12 : decode cX10_takesClause 12 = .ok (.getfield 126, 3) := by decide +kernel
theorem dX10_takesClause_15 : decode cX10_takesClause 15 = .ok (.ifCond .le 31, 3) := by decide +kernel
theorem dX10_takesClause_46 : decode cX10_takesClause 46 = .ok (.iconst 0, 1) := by decide +kernel
theorem dX10_takesClause_52 : decode cX10_takesClause 52 = .ok (.aload_n 0, 1) := by decide +kernel
theorem dX10_takesClause_53 : decode cX10_takesClause 53 = .ok (.iconst 1, 1) := by decide +kernel
theorem dX10_takesClause_54 : decode cX10_takesClause 54 = .ok (.aload_n 0, 1) := by decide +kernel
theorem dX10_takesClause_55 : decode cX10_takesClause 55 = .ok (.getfield 105, 3) := by decide +kernel
theorem dX10_takesClause_58 : decode cX10_takesClause 58 = .ok (.invokevirtual 115, 3) := by decide +kernel
theorem dX10_takesClause_61 : decode cX10_takesClause 61 = .ok (.ireturn, 1) := by decide +kernel
theorem dX10_takesClause_18 : decode cX10_takesClause 18 = .ok (.iload_n 1, 1) := by decide +kernel
theorem dX10_takesClause_19 : decode cX10_takesClause 19 = .ok (.bipush 116, 2) := by decide +kernel
theorem dX10_takesClause_21 : decode cX10_takesClause 21 = .ok (.if_icmp .eq 21, 3) := by decide +kernel
theorem dX10_takesClause_83 : decode cX10_takesClause 83 = .ok (.iload_n 1, 1) := by decide +kernel
theorem dX10_takesClause_84 : decode cX10_takesClause 84 = .ok (.bipush 116, 2) := by decide +kernel
theorem dX10_takesClause_86 : decode cX10_takesClause 86 = .ok (.if_icmp .ne 25, 3) := by decide +kernel
theorem dX10_takesClause_89 : decode cX10_takesClause 89 = .ok (.aload_n 0, 1) := by decide +kernel
theorem dX10_takesClause_90 : decode cX10_takesClause 90 = .ok (.getfield 132, 3) := by decide +kernel
theorem dX10_takesClause_93 : decode cX10_takesClause 93 = .ok (.ifCond .ne 10, 3) := by decide +kernel
theorem dX10_takesClause_103 : decode cX10_takesClause 103 = .ok (.iconst 1, 1) := by decide +kernel
theorem dX10_takesClause_104 : decode cX10_takesClause 104 = .ok (.goto 57, 3) := by decide +kernel
theorem dX10_takesClause_96 : decode cX10_takesClause 96 = .ok (.aload_n 0, 1) := by decide +kernel
theorem dX10_takesClause_97 : decode cX10_takesClause 97 = .ok (.getfield 139, 3) := by decide +kernel
theorem dX10_takesClause_100 : decode cX10_takesClause 100 = .ok (.ifCond .le 7, 3) := by decide +kernel
theorem dX10_takesClause_107 : decode cX10_takesClause 107 = .ok (.iconst 0, 1) := by decide +kernel
theorem dX10_takesClause_108 : decode cX10_takesClause 108 = .ok (.goto 53, 3) := by decide +kernel
theorem dX10_takesClause_237 : decode cX10_takesClause 237 = .ok (.aload_n 0, 1) := by decide +kernel
theorem dX10_takesClause_238 : decode cX10_takesClause 238 = .ok (.invokevirtual 159, 3) := by decide +kernel
theorem wd_627 : Cond.methodLink RX10 159 yX10_takesThemes ∈ BG := BG_at 960 (by decide +kernel) rfl
theorem wd_628 : Cond.code yX10_takesThemes cX10_takesThemes 1 (some .boolean) ∈ BG := BG_at 963 (by decide +kernel) rfl
theorem wd_629 : Cond.instanceMethod yX10_takesThemes ∈ BG := BG_at 962 (by decide +kernel) rfl
theorem wd_630 : Cond.selects RX10 yX10_takesThemes yX10_takesThemes ∈ BG := BG_in (by decide +kernel) rfl
theorem okV_X10_takesThemes : okV yX10_takesThemes cX10_takesThemes 1 (some .boolean) 0 := ⟨⟨wd_628, wd_497, by decide +kernel⟩, wd_629, wd_630⟩
theorem dX10_takesClause_241 : decode cX10_takesClause 241 = .ok (.istore 4, 2) := by decide +kernel
theorem dX10_takesClause_243 : decode cX10_takesClause 243 = .ok (.goto 27, 3) := by decide +kernel
theorem dX10_takesClause_24 : decode cX10_takesClause 24 = .ok (.iload_n 1, 1) := by decide +kernel
theorem dX10_takesClause_25 : decode cX10_takesClause 25 = .ok (.bipush 99, 2) := by decide +kernel
theorem dX10_takesClause_27 : decode cX10_takesClause 27 = .ok (.if_icmp .eq 15, 3) := by decide +kernel
theorem dX10_takesClause_111 : decode cX10_takesClause 111 = .ok (.iload_n 1, 1) := by decide +kernel
theorem dX10_takesClause_112 : decode cX10_takesClause 112 = .ok (.bipush 99, 2) := by decide +kernel
theorem dX10_takesClause_114 : decode cX10_takesClause 114 = .ok (.if_icmp .ne 20, 3) := by decide +kernel
theorem dX10_takesClause_117 : decode cX10_takesClause 117 = .ok (.aload_n 0, 1) := by decide +kernel
theorem dX10_takesClause_118 : decode cX10_takesClause 118 = .ok (.getfield 139, 3) := by decide +kernel
theorem dX10_takesClause_121 : decode cX10_takesClause 121 = .ok (.bipush 6, 2) := by decide +kernel
theorem dX10_takesClause_123 : decode cX10_takesClause 123 = .ok (.if_icmp .ne 7, 3) := by decide +kernel
theorem dX10_takesClause_130 : decode cX10_takesClause 130 = .ok (.iconst 0, 1) := by decide +kernel
theorem dX10_takesClause_131 : decode cX10_takesClause 131 = .ok (.goto 30, 3) := by decide +kernel
theorem dX10_takesClause_246 : decode cX10_takesClause 246 = .ok (.aload_n 0, 1) := by decide +kernel
theorem dX10_takesClause_247 : decode cX10_takesClause 247 = .ok (.invokevirtual 162, 3) := by decide +kernel
theorem wd_631 : Cond.methodLink RX10 162 yX10_takesCouple ∈ BG := BG_at 964 (by decide +kernel) rfl
theorem wd_632 : Cond.code yX10_takesCouple cX10_takesCouple 2 (some .boolean) ∈ BG := BG_at 967 (by decide +kernel) rfl
theorem wd_633 : Cond.instanceMethod yX10_takesCouple ∈ BG := BG_at 966 (by decide +kernel) rfl
theorem wd_634 : Cond.selects RX10 yX10_takesCouple yX10_takesCouple ∈ BG := BG_in (by decide +kernel) rfl
theorem okV_X10_takesCouple : okV yX10_takesCouple cX10_takesCouple 2 (some .boolean) 0 := ⟨⟨wd_632, wd_497, by decide +kernel⟩, wd_633, wd_634⟩
theorem dX10_takesClause_250 : decode cX10_takesClause 250 = .ok (.istore 4, 2) := by decide +kernel
theorem dX10_takesClause_252 : decode cX10_takesClause 252 = .ok (.goto 18, 3) := by decide +kernel
theorem dX10_takesClause_126 : decode cX10_takesClause 126 = .ok (.iconst 1, 1) := by decide +kernel
theorem dX10_takesClause_127 : decode cX10_takesClause 127 = .ok (.goto 34, 3) := by decide +kernel
theorem dX10_takesClause_30 : decode cX10_takesClause 30 = .ok (.iload_n 1, 1) := by decide +kernel
theorem dX10_takesClause_31 : decode cX10_takesClause 31 = .ok (.bipush 118, 2) := by decide +kernel
theorem dX10_takesClause_33 : decode cX10_takesClause 33 = .ok (.if_icmp .eq 9, 3) := by decide +kernel
theorem dX10_takesClause_134 : decode cX10_takesClause 134 = .ok (.iload_n 1, 1) := by decide +kernel
theorem dX10_takesClause_135 : decode cX10_takesClause 135 = .ok (.bipush 118, 2) := by decide +kernel
theorem dX10_takesClause_137 : decode cX10_takesClause 137 = .ok (.if_icmp .ne 20, 3) := by decide +kernel
theorem dX10_takesClause_140 : decode cX10_takesClause 140 = .ok (.aload_n 0, 1) := by decide +kernel
theorem dX10_takesClause_141 : decode cX10_takesClause 141 = .ok (.getfield 146, 3) := by decide +kernel
theorem dX10_takesClause_144 : decode cX10_takesClause 144 = .ok (.bipush 7, 2) := by decide +kernel
theorem dX10_takesClause_146 : decode cX10_takesClause 146 = .ok (.if_icmp .ne 7, 3) := by decide +kernel
theorem dX10_takesClause_153 : decode cX10_takesClause 153 = .ok (.iconst 0, 1) := by decide +kernel
theorem dX10_takesClause_154 : decode cX10_takesClause 154 = .ok (.goto 7, 3) := by decide +kernel
theorem dX10_takesClause_255 : decode cX10_takesClause 255 = .ok (.aload_n 0, 1) := by decide +kernel
theorem dX10_takesClause_256 : decode cX10_takesClause 256 = .ok (.invokevirtual 165, 3) := by decide +kernel
theorem wd_635 : Cond.methodLink RX10 165 yX10_takesBarge ∈ BG := BG_at 972 (by decide +kernel) rfl
theorem wd_636 : Cond.code yX10_takesBarge cX10_takesBarge 1 (some .boolean) ∈ BG := BG_at 975 (by decide +kernel) rfl
theorem wd_637 : Cond.instanceMethod yX10_takesBarge ∈ BG := BG_at 974 (by decide +kernel) rfl
theorem wd_638 : Cond.selects RX10 yX10_takesBarge yX10_takesBarge ∈ BG := BG_in (by decide +kernel) rfl
theorem okV_X10_takesBarge : okV yX10_takesBarge cX10_takesBarge 1 (some .boolean) 0 := ⟨⟨wd_636, wd_497, by decide +kernel⟩, wd_637, wd_638⟩
theorem dX10_takesClause_259 : decode cX10_takesClause 259 = .ok (.istore 4, 2) := by decide +kernel
theorem dX10_takesClause_261 : decode cX10_takesClause 261 = .ok (.goto 9, 3) := by decide +kernel
theorem dX10_takesClause_149 : decode cX10_takesClause 149 = .ok (.iconst 1, 1) := by decide +kernel
theorem dX10_takesClause_150 : decode cX10_takesClause 150 = .ok (.goto 11, 3) := by decide +kernel
theorem dX10_takesClause_36 : decode cX10_takesClause 36 = .ok (.iload_n 1, 1) := by decide +kernel
theorem dX10_takesClause_37 : decode cX10_takesClause 37 = .ok (.bipush 115, 2) := by decide +kernel
theorem dX10_takesClause_39 : decode cX10_takesClause 39 = .ok (.if_icmp .ne 7, 3) := by decide +kernel
theorem dX10_takesClause_157 : decode cX10_takesClause 157 = .ok (.aload_n 0, 1) := by decide +kernel
theorem dX10_takesClause_158 : decode cX10_takesClause 158 = .ok (.getfield 149, 3) := by decide +kernel
theorem dX10_takesClause_264 : decode cX10_takesClause 264 = .ok (.aload_n 0, 1) := by decide +kernel
theorem dX10_takesClause_265 : decode cX10_takesClause 265 = .ok (.invokevirtual 168, 3) := by decide +kernel
theorem wd_639 : Cond.methodLink RX10 168 yX10_takesSnow ∈ BG := BG_at 976 (by decide +kernel) rfl
theorem wd_640 : Cond.code yX10_takesSnow cX10_takesSnow 1 (some .boolean) ∈ BG := BG_at 979 (by decide +kernel) rfl
theorem wd_641 : Cond.instanceMethod yX10_takesSnow ∈ BG := BG_at 978 (by decide +kernel) rfl
theorem wd_642 : Cond.selects RX10 yX10_takesSnow yX10_takesSnow ∈ BG := BG_in (by decide +kernel) rfl
theorem okV_X10_takesSnow : okV yX10_takesSnow cX10_takesSnow 1 (some .boolean) 0 := ⟨⟨wd_640, wd_497, by decide +kernel⟩, wd_641, wd_642⟩
theorem dX10_takesClause_268 : decode cX10_takesClause 268 = .ok (.istore 4, 2) := by decide +kernel
noncomputable def f_m_takesClause (G : Nat → Int32) (f13 : Nat → Int32) (f27 : Nat → Int32) (f28 : Nat → Int32) (f29 : Nat → Int32) (f30 : Nat → Int32) (f31 : Nat → Int32) : Int32 × (Nat → Int32) × (Nat → Int32) × (Nat → Int32) × (Nat → Int32) × (Nat → Int32) × (Nat → Int32) := (match (f_m_here G f13) with | (r_3, u_2) => (if r_3 = 98 then (if (u_2 20) ≤ 0 then (match (f_m_takesBridges (upd u_2 15 ((u_2 15) + 1)) f13 f27) with | (r_11, o_12, o_13) => (if r_11 = 0 then (0, o_12, o_13, f28, f29, f30, f31) else (match (f_m_takes o_12 f13 59) with | (r_17, u_16) => (if r_17 = 0 then (0, u_16, o_13, f28, f29, f30, f31) else (1, u_16, o_13, f28, f29, f30, f31))))) else (match (f_m_fails u_2 3 (u_2 16)) with | (r_22, u_21) => (r_22, u_21, f27, f28, f29, f30, f31))) else (if (u_2 20) ≤ 0 then (match (f_m_fails u_2 1 (u_2 16)) with | (r_27, u_26) => (r_27, u_26, f27, f28, f29, f30, f31)) else (if r_3 = 116 then (if (u_2 22) = 0 then (if (u_2 23) ≤ 0 then (match (f_m_takesThemes (upd u_2 15 ((u_2 15) + 1)) f13) with | (r_41, u_40) => (if r_41 = 0 then (0, u_40, f27, f28, f29, f30, f31) else (match (f_m_takes u_40 f13 59) with | (r_45, u_44) => (if r_45 = 0 then (0, u_44, f27, f28, f29, f30, f31) else (1, u_44, f27, f28, f29, f30, f31))))) else (match (f_m_fails u_2 3 (u_2 16)) with | (r_50, u_49) => (r_50, u_49, f27, f28, f29, f30, f31))) else (match (f_m_fails u_2 3 (u_2 16)) with | (r_36, u_35) => (r_36, u_35, f27, f28, f29, f30, f31))) else (if r_3 = 99 then (if (u_2 23) = 6 then (match (f_m_fails u_2 3 (u_2 16)) with | (r_72, u_71) => (r_72, u_71, f27, f28, f29, f30, f31)) else (match (f_m_takesCouple (upd u_2 15 ((u_2 15) + 1)) f13 f28 f29) with | (r_60, o_61, o_62, o_63) => (if r_60 = 0 then (0, o_61, f27, o_62, o_63, f30, f31) else (match (f_m_takes o_61 f13 59) with | (r_67, u_66) => (if r_67 = 0 then (0, u_66, f27, o_62, o_63, f30, f31) else (1, u_66, f27, o_62, o_63, f30, f31)))))) else (if r_3 = 118 then (if (u_2 24) = 7 then (match (f_m_fails u_2 3 (u_2 16)) with | (r_95, u_94) => (r_95, u_94, f27, f28, f29, f30, f31)) else (match (f_m_takesBarge (upd u_2 15 ((u_2 15) + 1)) f13 f30 f31) with | (r_83, o_84, o_85, o_86) => (if r_83 = 0 then (0, o_84, f27, f28, f29, o_85, o_86) else (match (f_m_takes o_84 f13 59) with | (r_90, u_89) => (if r_90 = 0 then (0, u_89, f27, f28, f29, o_85, o_86) else (1, u_89, f27, f28, f29, o_85, o_86)))))) else (if r_3 = 115 then (if (u_2 26) = 0 then (match (f_m_takesSnow (upd u_2 15 ((u_2 15) + 1)) f13) with | (r_109, u_108) => (if r_109 = 0 then (0, u_108, f27, f28, f29, f30, f31) else (match (f_m_takes u_108 f13 59) with | (r_113, u_112) => (if r_113 = 0 then (0, u_112, f27, f28, f29, f30, f31) else (1, u_112, f27, f28, f29, f30, f31))))) else (match (f_m_fails u_2 3 (u_2 16)) with | (r_117, u_116) => (r_117, u_116, f27, f28, f29, f30, f31))) else (match (f_m_fails u_2 1 (u_2 16)) with | (r_100, u_99) => (r_100, u_99, f27, f28, f29, f30, f31)))))))))
def S_m_takesClause (G : Nat → Int32) (f13 : Nat → Int32) (f27 : Nat → Int32) (f28 : Nat → Int32) (f29 : Nat → Int32) (f30 : Nat → Int32) (f31 : Nat → Int32) : Prop := ((S_m_here G f13) ∧ (∀ (r_3 : Int32) (u_2 : (Nat → Int32)), (r_3, u_2) = (f_m_here G f13) → ((r_3 = 98 → (((u_2 20) ≤ 0 → ((S_m_takesBridges (upd u_2 15 ((u_2 15) + 1)) f13 f27) ∧ (∀ (r_11 : Int32) (o_12 : (Nat → Int32)) (o_13 : (Nat → Int32)), (r_11, o_12, o_13) = (f_m_takesBridges (upd u_2 15 ((u_2 15) + 1)) f13 f27) → ((r_11 = 0 → True) ∧ (¬ r_11 = 0 → ((S_m_takes o_12 f13 59) ∧ (∀ (r_17 : Int32) (u_16 : (Nat → Int32)), (r_17, u_16) = (f_m_takes o_12 f13 59) → ((r_17 = 0 → True) ∧ (¬ r_17 = 0 → True))))))))) ∧ (¬ (u_2 20) ≤ 0 → ((S_m_fails u_2 3 (u_2 16)) ∧ (∀ (r_22 : Int32) (u_21 : (Nat → Int32)), (r_22, u_21) = (f_m_fails u_2 3 (u_2 16)) → True))))) ∧ (¬ r_3 = 98 → (((u_2 20) ≤ 0 → ((S_m_fails u_2 1 (u_2 16)) ∧ (∀ (r_27 : Int32) (u_26 : (Nat → Int32)), (r_27, u_26) = (f_m_fails u_2 1 (u_2 16)) → True))) ∧ (¬ (u_2 20) ≤ 0 → ((r_3 = 116 → (((u_2 22) = 0 → (((u_2 23) ≤ 0 → ((S_m_takesThemes (upd u_2 15 ((u_2 15) + 1)) f13) ∧ (∀ (r_41 : Int32) (u_40 : (Nat → Int32)), (r_41, u_40) = (f_m_takesThemes (upd u_2 15 ((u_2 15) + 1)) f13) → ((r_41 = 0 → True) ∧ (¬ r_41 = 0 → ((S_m_takes u_40 f13 59) ∧ (∀ (r_45 : Int32) (u_44 : (Nat → Int32)), (r_45, u_44) = (f_m_takes u_40 f13 59) → ((r_45 = 0 → True) ∧ (¬ r_45 = 0 → True))))))))) ∧ (¬ (u_2 23) ≤ 0 → ((S_m_fails u_2 3 (u_2 16)) ∧ (∀ (r_50 : Int32) (u_49 : (Nat → Int32)), (r_50, u_49) = (f_m_fails u_2 3 (u_2 16)) → True))))) ∧ (¬ (u_2 22) = 0 → ((S_m_fails u_2 3 (u_2 16)) ∧ (∀ (r_36 : Int32) (u_35 : (Nat → Int32)), (r_36, u_35) = (f_m_fails u_2 3 (u_2 16)) → True))))) ∧ (¬ r_3 = 116 → ((r_3 = 99 → (((u_2 23) = 6 → ((S_m_fails u_2 3 (u_2 16)) ∧ (∀ (r_72 : Int32) (u_71 : (Nat → Int32)), (r_72, u_71) = (f_m_fails u_2 3 (u_2 16)) → True))) ∧ (¬ (u_2 23) = 6 → ((S_m_takesCouple (upd u_2 15 ((u_2 15) + 1)) f13 f28 f29) ∧ (∀ (r_60 : Int32) (o_61 : (Nat → Int32)) (o_62 : (Nat → Int32)) (o_63 : (Nat → Int32)), (r_60, o_61, o_62, o_63) = (f_m_takesCouple (upd u_2 15 ((u_2 15) + 1)) f13 f28 f29) → ((r_60 = 0 → True) ∧ (¬ r_60 = 0 → ((S_m_takes o_61 f13 59) ∧ (∀ (r_67 : Int32) (u_66 : (Nat → Int32)), (r_67, u_66) = (f_m_takes o_61 f13 59) → ((r_67 = 0 → True) ∧ (¬ r_67 = 0 → True))))))))))) ∧ (¬ r_3 = 99 → ((r_3 = 118 → (((u_2 24) = 7 → ((S_m_fails u_2 3 (u_2 16)) ∧ (∀ (r_95 : Int32) (u_94 : (Nat → Int32)), (r_95, u_94) = (f_m_fails u_2 3 (u_2 16)) → True))) ∧ (¬ (u_2 24) = 7 → ((S_m_takesBarge (upd u_2 15 ((u_2 15) + 1)) f13 f30 f31) ∧ (∀ (r_83 : Int32) (o_84 : (Nat → Int32)) (o_85 : (Nat → Int32)) (o_86 : (Nat → Int32)), (r_83, o_84, o_85, o_86) = (f_m_takesBarge (upd u_2 15 ((u_2 15) + 1)) f13 f30 f31) → ((r_83 = 0 → True) ∧ (¬ r_83 = 0 → ((S_m_takes o_84 f13 59) ∧ (∀ (r_90 : Int32) (u_89 : (Nat → Int32)), (r_90, u_89) = (f_m_takes o_84 f13 59) → ((r_90 = 0 → True) ∧ (¬ r_90 = 0 → True))))))))))) ∧ (¬ r_3 = 118 → ((r_3 = 115 → (((u_2 26) = 0 → ((S_m_takesSnow (upd u_2 15 ((u_2 15) + 1)) f13) ∧ (∀ (r_109 : Int32) (u_108 : (Nat → Int32)), (r_109, u_108) = (f_m_takesSnow (upd u_2 15 ((u_2 15) + 1)) f13) → ((r_109 = 0 → True) ∧ (¬ r_109 = 0 → ((S_m_takes u_108 f13 59) ∧ (∀ (r_113 : Int32) (u_112 : (Nat → Int32)), (r_113, u_112) = (f_m_takes u_108 f13 59) → ((r_113 = 0 → True) ∧ (¬ r_113 = 0 → True))))))))) ∧ (¬ (u_2 26) = 0 → ((S_m_fails u_2 3 (u_2 16)) ∧ (∀ (r_117 : Int32) (u_116 : (Nat → Int32)), (r_117, u_116) = (f_m_fails u_2 3 (u_2 16)) → True))))) ∧ (¬ r_3 = 115 → ((S_m_fails u_2 1 (u_2 16)) ∧ (∀ (r_100 : Int32) (u_99 : (Nat → Int32)), (r_100, u_99) = (f_m_fails u_2 1 (u_2 16)) → True))))))))))))))))
def rm_m_takesClause : Room := { frames := 4, cells := 0, slots := 0, locals := 84 }
set_option maxHeartbeats 4000000 in
set_option maxRecDepth 100000 in
theorem m_takesClause {l : Launch} {D : va_G} {cI cZ : ClassId} {sz : Nat} (Rf : Nat → Nat) (h : Nat) (G : Nat → Int32) (f13 : Nat → Int32) (f27 : Nat → Int32) (f28 : Nat → Int32) (f29 : Nat → Int32) (f30 : Nat → Int32) (f31 : Nat → Int32) (hF : S_m_takesClause G f13 f27 f28 f29 f30 f31) : KI l yX10_takesClause cX10_takesClause 5 (some .boolean) rm_m_takesClause D cI cZ [.ref h] sz [(h, .inr (10, ML G Rf)), ((Rf 13), .inl (cI, 240, .inl f13)), ((Rf 27), .inl (cI, 6, .inl f27)), ((Rf 28), .inl (cI, 6, .inl f28)), ((Rf 29), .inl (cI, 30, .inl f29)), ((Rf 30), .inl (cI, 7, .inl f30)), ((Rf 31), .inl (cI, 7, .inl f31))] (fun (r : Int32) (u : (Nat → Int32) × (Nat → Int32) × (Nat → Int32) × (Nat → Int32) × (Nat → Int32) × (Nat → Int32)) => (r, u) = f_m_takesClause G f13 f27 f28 f29 f30 f31) (fun (u : (Nat → Int32) × (Nat → Int32) × (Nat → Int32) × (Nat → Int32) × (Nat → Int32) × (Nat → Int32)) => [(h, .inr (10, ML u.1 Rf)), ((Rf 13), .inl (cI, 240, .inl f13)), ((Rf 27), .inl (cI, 6, .inl u.2.1)), ((Rf 28), .inl (cI, 6, .inl u.2.2.1)), ((Rf 29), .inl (cI, 30, .inl u.2.2.2.1)), ((Rf 30), .inl (cI, 7, .inl u.2.2.2.2.1)), ((Rf 31), .inl (cI, 7, .inl u.2.2.2.2.2))]) := by
  refine KI.go rfl (Nat.le_of_ble_eq_true rfl) ?_
  intro p e s m args below meth c ls A Q hx hb hml hts hown hin hP hK hD hS hA hN hl hret
  have hl : lv_has ls 5 [(0, .ref h)] := hl
  rw [S_m_takesClause] at hF
  obtain ⟨RES, hE⟩ : ∃ xRES, f_m_takesClause G f13 f27 f28 f29 f30 f31 = xRES := ⟨_, rfl⟩
  rw [hE] at hret
  rw [f_m_takesClause] at hE
  refine lv_aload_n hx hb dX10_takesClause_0 rfl (lv_at hl 0 rfl) ?_
  obtain ⟨hs_1, hF⟩ := hF
  refine cVi (wr := [((Rf 27), .inl (cI, 6, .inl f27)), ((Rf 28), .inl (cI, 6, .inl f28)), ((Rf 29), .inl (cI, 30, .inl f29)), ((Rf 30), .inl (cI, 7, .inl f30)), ((Rf 31), .inl (cI, 7, .inl f31))]) (rest := []) (m_here Rf h G f13 hs_1) okV_X10_here wd_516 hx hb hml hown hts hK hP hD hS hA hN hl.1 [0, 1] [2, 3, 4, 5, 6] rfl rfl rfl rfl (by decide) rfl rfl rfl (Nat.le_of_ble_eq_true rfl) (Nat.le_of_ble_eq_true rfl) (Nat.le_of_ble_eq_true rfl) (Nat.le_of_ble_eq_true rfl) (Nat.le_of_ble_eq_true rfl) dX10_takesClause_1 (fun r_3 u_2 H locs hw_u_2 hP hD hS => ?_)
  replace hw_u_2 : (r_3, u_2) = (f_m_here G f13) := hw_u_2
  replace hF := hF r_3 u_2 hw_u_2
  rw [← hw_u_2] at hE
  replace hE : ((if r_3 = 98 then (if (u_2 20) ≤ 0 then (match (f_m_takesBridges (upd u_2 15 ((u_2 15) + 1)) f13 f27) with | (r_11, o_12, o_13) => (if r_11 = 0 then (0, o_12, o_13, f28, f29, f30, f31) else (match (f_m_takes o_12 f13 59) with | (r_17, u_16) => (if r_17 = 0 then (0, u_16, o_13, f28, f29, f30, f31) else (1, u_16, o_13, f28, f29, f30, f31))))) else (match (f_m_fails u_2 3 (u_2 16)) with | (r_22, u_21) => (r_22, u_21, f27, f28, f29, f30, f31))) else (if (u_2 20) ≤ 0 then (match (f_m_fails u_2 1 (u_2 16)) with | (r_27, u_26) => (r_27, u_26, f27, f28, f29, f30, f31)) else (if r_3 = 116 then (if (u_2 22) = 0 then (if (u_2 23) ≤ 0 then (match (f_m_takesThemes (upd u_2 15 ((u_2 15) + 1)) f13) with | (r_41, u_40) => (if r_41 = 0 then (0, u_40, f27, f28, f29, f30, f31) else (match (f_m_takes u_40 f13 59) with | (r_45, u_44) => (if r_45 = 0 then (0, u_44, f27, f28, f29, f30, f31) else (1, u_44, f27, f28, f29, f30, f31))))) else (match (f_m_fails u_2 3 (u_2 16)) with | (r_50, u_49) => (r_50, u_49, f27, f28, f29, f30, f31))) else (match (f_m_fails u_2 3 (u_2 16)) with | (r_36, u_35) => (r_36, u_35, f27, f28, f29, f30, f31))) else (if r_3 = 99 then (if (u_2 23) = 6 then (match (f_m_fails u_2 3 (u_2 16)) with | (r_72, u_71) => (r_72, u_71, f27, f28, f29, f30, f31)) else (match (f_m_takesCouple (upd u_2 15 ((u_2 15) + 1)) f13 f28 f29) with | (r_60, o_61, o_62, o_63) => (if r_60 = 0 then (0, o_61, f27, o_62, o_63, f30, f31) else (match (f_m_takes o_61 f13 59) with | (r_67, u_66) => (if r_67 = 0 then (0, u_66, f27, o_62, o_63, f30, f31) else (1, u_66, f27, o_62, o_63, f30, f31)))))) else (if r_3 = 118 then (if (u_2 24) = 7 then (match (f_m_fails u_2 3 (u_2 16)) with | (r_95, u_94) => (r_95, u_94, f27, f28, f29, f30, f31)) else (match (f_m_takesBarge (upd u_2 15 ((u_2 15) + 1)) f13 f30 f31) with | (r_83, o_84, o_85, o_86) => (if r_83 = 0 then (0, o_84, f27, f28, f29, o_85, o_86) else (match (f_m_takes o_84 f13 59) with | (r_90, u_89) => (if r_90 = 0 then (0, u_89, f27, f28, f29, o_85, o_86) else (1, u_89, f27, f28, f29, o_85, o_86)))))) else (if r_3 = 115 then (if (u_2 26) = 0 then (match (f_m_takesSnow (upd u_2 15 ((u_2 15) + 1)) f13) with | (r_109, u_108) => (if r_109 = 0 then (0, u_108, f27, f28, f29, f30, f31) else (match (f_m_takes u_108 f13 59) with | (r_113, u_112) => (if r_113 = 0 then (0, u_112, f27, f28, f29, f30, f31) else (1, u_112, f27, f28, f29, f30, f31))))) else (match (f_m_fails u_2 3 (u_2 16)) with | (r_117, u_116) => (r_117, u_116, f27, f28, f29, f30, f31))) else (match (f_m_fails u_2 1 (u_2 16)) with | (r_100, u_99) => (r_100, u_99, f27, f28, f29, f30, f31)))))))) : Int32 × (Nat → Int32) × (Nat → Int32) × (Nat → Int32) × (Nat → Int32) × (Nat → Int32) × (Nat → Int32)) = RES := hE
  have hP : va_P D classes [((Rf 27), .inl (cI, 6, .inl f27)), ((Rf 28), .inl (cI, 6, .inl f28)), ((Rf 29), .inl (cI, 30, .inl f29)), ((Rf 30), .inl (cI, 7, .inl f30)), ((Rf 31), .inl (cI, 7, .inl f31)), (h, .inr (10, ML u_2 Rf)), ((Rf 13), .inl (cI, 240, .inl f13))] H := hP
  have hD : va_D A [((Rf 27), .inl (cI, 6, .inl f27)), ((Rf 28), .inl (cI, 6, .inl f28)), ((Rf 29), .inl (cI, 30, .inl f29)), ((Rf 30), .inl (cI, 7, .inl f30)), ((Rf 31), .inl (cI, 7, .inl f31)), (h, .inr (10, ML u_2 Rf)), ((Rf 13), .inl (cI, 240, .inl f13))] := hD
  refine lv_istore_n (lv' := [(1, .int r_3), (0, .ref h)]) hx hb dX10_takesClause_4 rfl hl (by decide) rfl (fun ls hl => ?_)
  refine lv_iload_n hx hb dX10_takesClause_5 rfl (lv_at hl 0 rfl) ?_
  refine lv_bipush (v := 98) hx hb dX10_takesClause_6 (by decide) ?_
  refine lv_icmp_eq (tgt := 42) hx hb dX10_takesClause_8 (by decide) (fun c_4 => ?_) (fun c_4 => ?_)
  · replace hF := hF.1 c_4
    rw [if_pos c_4] at hE
    subst c_4
    refine lv_iconst (v := 1) hx hb dX10_takesClause_42 (by decide) ?_
    refine lv_goto (tgt := 47) hx hb dX10_takesClause_43 (by decide) ?_
    refine lv_istore_n (lv' := [(2, .int 1), (1, .int 98), (0, .ref h)]) hx hb dX10_takesClause_47 rfl hl (by decide) rfl (fun ls hl => ?_)
    refine lv_iload_n hx hb dX10_takesClause_48 rfl (lv_at hl 0 rfl) ?_
    refine lv_if_ne (tgt := 62) hx hb dX10_takesClause_49 (by decide) (fun c_5 => ?_) (fun c_5 => absurd c_5 (by decide +kernel))
    refine lv_iload_n hx hb dX10_takesClause_62 rfl (lv_at hl 1 rfl) ?_
    refine lv_bipush (v := 98) hx hb dX10_takesClause_63 (by decide) ?_
    refine lv_icmp_ne (tgt := 83) hx hb dX10_takesClause_65 (by decide) (fun c_6 => absurd (by decide +kernel) c_6) (fun c_6 => ?_)
    refine lv_aload_n hx hb dX10_takesClause_68 rfl (lv_at hl 2 rfl) ?_
    refine va_get (D := D) (ci := 10) (v := .int (u_2 20)) (C := RX10) (T := TX10) (N := 45) hx hb hts iX10 hown hK hP 5 rfl rfl 20 (by decide) (hts _ wd_527) (fun _ h9 => h9) rfl dX10_takesClause_69 ?_
    refine lv_if_le (tgt := 79) hx hb dX10_takesClause_72 (by decide) (fun c_7 => ?_) (fun c_7 => ?_)
    · replace hF := hF.1 c_7
      rw [if_pos c_7] at hE
      refine lv_iconst (v := 0) hx hb dX10_takesClause_79 (by decide) ?_
      refine lv_goto (tgt := 161) hx hb dX10_takesClause_80 (by decide) ?_
      refine lv_istore_n (lv' := [(3, .int 0), (2, .int 1), (1, .int 98), (0, .ref h)]) hx hb dX10_takesClause_161 rfl hl (by decide) rfl (fun ls hl => ?_)
      refine lv_iload_n hx hb dX10_takesClause_162 rfl (lv_at hl 0 rfl) ?_
      refine lv_if_eq (tgt := 176) hx hb dX10_takesClause_163 (by decide) (fun c_8 => ?_) (fun c_8 => absurd (by decide +kernel) c_8)
      refine lv_aload_n hx hb dX10_takesClause_176 rfl (lv_at hl 3 rfl) ?_
      refine lv_dup hx hb dX10_takesClause_177 rfl ?_
      refine va_get (D := D) (ci := 10) (v := .int (u_2 15)) (C := RX10) (T := TX10) (N := 45) hx hb hts iX10 hown hK hP 5 rfl rfl 15 (by decide) (hts _ wd_508) (fun _ h9 => h9) rfl dX10_takesClause_178 ?_
      refine lv_iconst (v := 1) hx hb dX10_takesClause_181 (by decide) ?_
      refine lv_iadd hx hb dX10_takesClause_182 ?_
      refine va_put (D := D) (ci := 10) (v := .int ((u_2 15) + 1)) (ty := .int) (C := RX10) (T := TX10) (N := 45) hx hb hts iX10 tyX10 tyX10_ok nmX10 hown hK hP hD hS 5 rfl rfl 15 (by decide) (hts _ wd_508) (fun _ h9 => h9) rfl (by decide +kernel) rfl rfl (Nat.le_of_ble_eq_true rfl) dX10_takesClause_183 (fun H locs hP hD hS => ?_)
      have hP : va_P D classes [((Rf 27), .inl (cI, 6, .inl f27)), ((Rf 28), .inl (cI, 6, .inl f28)), ((Rf 29), .inl (cI, 30, .inl f29)), ((Rf 30), .inl (cI, 7, .inl f30)), ((Rf 31), .inl (cI, 7, .inl f31)), (h, .inr (10, ML (upd u_2 15 ((u_2 15) + 1)) Rf)), ((Rf 13), .inl (cI, 240, .inl f13))] H := hP
      have hD : va_D A [((Rf 27), .inl (cI, 6, .inl f27)), ((Rf 28), .inl (cI, 6, .inl f28)), ((Rf 29), .inl (cI, 30, .inl f29)), ((Rf 30), .inl (cI, 7, .inl f30)), ((Rf 31), .inl (cI, 7, .inl f31)), (h, .inr (10, ML (upd u_2 15 ((u_2 15) + 1)) Rf)), ((Rf 13), .inl (cI, 240, .inl f13))] := hD
      refine lv_iload_n hx hb dX10_takesClause_186 rfl (lv_at hl 2 rfl) ?_
      refine lv_lookup (off := 41) (tgt := 228) hx hb dX10_takesClause_187 (by decide +kernel) (by decide +kernel) (by decide) ?_
      refine lv_aload_n hx hb dX10_takesClause_228 rfl (lv_at hl 3 rfl) ?_
      obtain ⟨hs_9, hF⟩ := hF
      refine cVi (wr := [((Rf 28), .inl (cI, 6, .inl f28)), ((Rf 29), .inl (cI, 30, .inl f29)), ((Rf 30), .inl (cI, 7, .inl f30)), ((Rf 31), .inl (cI, 7, .inl f31))]) (rest := []) (m_takesBridges Rf h (upd u_2 15 ((u_2 15) + 1)) f13 f27 hs_9) okV_X10_takesBridges wd_623 hx hb hml hown hts hK hP hD hS hA hN hl.1 [5, 6, 0] [1, 2, 3, 4] rfl rfl rfl rfl (by decide) rfl rfl rfl (Nat.le_of_ble_eq_true rfl) (Nat.le_of_ble_eq_true rfl) (Nat.le_of_ble_eq_true rfl) (Nat.le_of_ble_eq_true rfl) (Nat.le_of_ble_eq_true rfl) dX10_takesClause_229 (fun r_11 u_10 H locs hw_u_10 hP hD hS => ?_)
      obtain ⟨o_12, o_13⟩ := u_10
      replace hw_u_10 : (r_11, o_12, o_13) = (f_m_takesBridges (upd u_2 15 ((u_2 15) + 1)) f13 f27) := hw_u_10
      replace hF := hF r_11 o_12 o_13 hw_u_10
      rw [← hw_u_10] at hE
      replace hE : ((if r_11 = 0 then (0, o_12, o_13, f28, f29, f30, f31) else (match (f_m_takes o_12 f13 59) with | (r_17, u_16) => (if r_17 = 0 then (0, u_16, o_13, f28, f29, f30, f31) else (1, u_16, o_13, f28, f29, f30, f31)))) : Int32 × (Nat → Int32) × (Nat → Int32) × (Nat → Int32) × (Nat → Int32) × (Nat → Int32) × (Nat → Int32)) = RES := hE
      have hP : va_P D classes [((Rf 28), .inl (cI, 6, .inl f28)), ((Rf 29), .inl (cI, 30, .inl f29)), ((Rf 30), .inl (cI, 7, .inl f30)), ((Rf 31), .inl (cI, 7, .inl f31)), (h, .inr (10, ML o_12 Rf)), ((Rf 13), .inl (cI, 240, .inl f13)), ((Rf 27), .inl (cI, 6, .inl o_13))] H := hP
      have hD : va_D A [((Rf 28), .inl (cI, 6, .inl f28)), ((Rf 29), .inl (cI, 30, .inl f29)), ((Rf 30), .inl (cI, 7, .inl f30)), ((Rf 31), .inl (cI, 7, .inl f31)), (h, .inr (10, ML o_12 Rf)), ((Rf 13), .inl (cI, 240, .inl f13)), ((Rf 27), .inl (cI, 6, .inl o_13))] := hD
      refine lv_istore (lv' := [(4, .int r_11), (3, .int 0), (2, .int 1), (1, .int 98), (0, .ref h)]) hx hb dX10_takesClause_232 hl (by decide) rfl (fun ls hl => ?_)
      refine lv_goto (tgt := 270) hx hb dX10_takesClause_234 (by decide) ?_
      refine lv_iload hx hb dX10_takesClause_270 (lv_at hl 0 rfl) ?_
      refine lv_if_eq (tgt := 288) hx hb dX10_takesClause_272 (by decide) (fun c_14 => ?_) (fun c_14 => ?_)
      · replace hF := hF.1 c_14
        rw [if_pos c_14] at hE
        subst c_14
        refine lv_iconst (v := 0) hx hb dX10_takesClause_288 (by decide) ?_
        exact hret 0 (o_12, o_13, f28, f29, f30, f31) _ _ _ _ dX10_takesClause_289 rfl hE (cutP (isC := [4, 5, 6, 0, 1, 2, 3]) hP rfl) (cutD (isC := [4, 5, 6, 0, 1, 2, 3]) hD rfl rfl) hS
      · replace hF := hF.2 c_14
        rw [if_neg c_14] at hE
        refine lv_aload_n hx hb dX10_takesClause_275 rfl (lv_at hl 4 rfl) ?_
        refine lv_bipush (v := 59) hx hb dX10_takesClause_276 (by decide) ?_
        obtain ⟨hs_15, hF⟩ := hF
        refine cVi (wr := [((Rf 28), .inl (cI, 6, .inl f28)), ((Rf 29), .inl (cI, 30, .inl f29)), ((Rf 30), .inl (cI, 7, .inl f30)), ((Rf 31), .inl (cI, 7, .inl f31)), ((Rf 27), .inl (cI, 6, .inl o_13))]) (rest := []) (m_takes Rf h o_12 f13 59 hs_15) okV_X10_takes wd_538 hx hb hml hown hts hK hP hD hS hA hN hl.1 [4, 5] [0, 1, 2, 3, 6] rfl rfl rfl rfl (by decide) rfl rfl rfl (Nat.le_of_ble_eq_true rfl) (Nat.le_of_ble_eq_true rfl) (Nat.le_of_ble_eq_true rfl) (Nat.le_of_ble_eq_true rfl) (Nat.le_of_ble_eq_true rfl) dX10_takesClause_278 (fun r_17 u_16 H locs hw_u_16 hP hD hS => ?_)
        replace hw_u_16 : (r_17, u_16) = (f_m_takes o_12 f13 59) := hw_u_16
        replace hF := hF r_17 u_16 hw_u_16
        rw [← hw_u_16] at hE
        replace hE : ((if r_17 = 0 then (0, u_16, o_13, f28, f29, f30, f31) else (1, u_16, o_13, f28, f29, f30, f31)) : Int32 × (Nat → Int32) × (Nat → Int32) × (Nat → Int32) × (Nat → Int32) × (Nat → Int32) × (Nat → Int32)) = RES := hE
        have hP : va_P D classes [((Rf 28), .inl (cI, 6, .inl f28)), ((Rf 29), .inl (cI, 30, .inl f29)), ((Rf 30), .inl (cI, 7, .inl f30)), ((Rf 31), .inl (cI, 7, .inl f31)), ((Rf 27), .inl (cI, 6, .inl o_13)), (h, .inr (10, ML u_16 Rf)), ((Rf 13), .inl (cI, 240, .inl f13))] H := hP
        have hD : va_D A [((Rf 28), .inl (cI, 6, .inl f28)), ((Rf 29), .inl (cI, 30, .inl f29)), ((Rf 30), .inl (cI, 7, .inl f30)), ((Rf 31), .inl (cI, 7, .inl f31)), ((Rf 27), .inl (cI, 6, .inl o_13)), (h, .inr (10, ML u_16 Rf)), ((Rf 13), .inl (cI, 240, .inl f13))] := hD
        refine lv_if_eq (tgt := 288) hx hb dX10_takesClause_281 (by decide) (fun c_18 => ?_) (fun c_18 => ?_)
        · replace hF := hF.1 c_18
          rw [if_pos c_18] at hE
          subst c_18
          refine lv_iconst (v := 0) hx hb dX10_takesClause_288 (by decide) ?_
          exact hret 0 (u_16, o_13, f28, f29, f30, f31) _ _ _ _ dX10_takesClause_289 rfl hE (cutP (isC := [5, 6, 4, 0, 1, 2, 3]) hP rfl) (cutD (isC := [5, 6, 4, 0, 1, 2, 3]) hD rfl rfl) hS
        · replace hF := hF.2 c_18
          rw [if_neg c_18] at hE
          refine lv_iconst (v := 1) hx hb dX10_takesClause_284 (by decide) ?_
          refine lv_goto (tgt := 289) hx hb dX10_takesClause_285 (by decide) ?_
          exact hret 1 (u_16, o_13, f28, f29, f30, f31) _ _ _ _ dX10_takesClause_289 rfl hE (cutP (isC := [5, 6, 4, 0, 1, 2, 3]) hP rfl) (cutD (isC := [5, 6, 4, 0, 1, 2, 3]) hD rfl rfl) hS
    · replace hF := hF.2 c_7
      rw [if_neg c_7] at hE
      refine lv_iconst (v := 1) hx hb dX10_takesClause_75 (by decide) ?_
      refine lv_goto (tgt := 161) hx hb dX10_takesClause_76 (by decide) ?_
      refine lv_istore_n (lv' := [(3, .int 1), (2, .int 1), (1, .int 98), (0, .ref h)]) hx hb dX10_takesClause_161 rfl hl (by decide) rfl (fun ls hl => ?_)
      refine lv_iload_n hx hb dX10_takesClause_162 rfl (lv_at hl 0 rfl) ?_
      refine lv_if_eq (tgt := 176) hx hb dX10_takesClause_163 (by decide) (fun c_19 => absurd c_19 (by decide +kernel)) (fun c_19 => ?_)
      refine lv_aload_n hx hb dX10_takesClause_166 rfl (lv_at hl 3 rfl) ?_
      refine lv_iconst (v := 3) hx hb dX10_takesClause_167 (by decide) ?_
      refine lv_aload_n hx hb dX10_takesClause_168 rfl (lv_at hl 3 rfl) ?_
      refine va_get (D := D) (ci := 10) (v := .int (u_2 16)) (C := RX10) (T := TX10) (N := 45) hx hb hts iX10 hown hK hP 5 rfl rfl 16 (by decide) (hts _ wd_509) (fun _ h9 => h9) rfl dX10_takesClause_169 ?_
      obtain ⟨hs_20, hF⟩ := hF
      refine cVi (wr := [((Rf 27), .inl (cI, 6, .inl f27)), ((Rf 28), .inl (cI, 6, .inl f28)), ((Rf 29), .inl (cI, 30, .inl f29)), ((Rf 30), .inl (cI, 7, .inl f30)), ((Rf 31), .inl (cI, 7, .inl f31)), ((Rf 13), .inl (cI, 240, .inl f13))]) (rest := []) (m_fails Rf h u_2 3 (u_2 16) hs_20) okV_X10_fails wd_520 hx hb hml hown hts hK hP hD hS hA hN hl.1 [5] [0, 1, 2, 3, 4, 6] rfl rfl rfl rfl (by decide) rfl rfl rfl (Nat.le_of_ble_eq_true rfl) (Nat.le_of_ble_eq_true rfl) (Nat.le_of_ble_eq_true rfl) (Nat.le_of_ble_eq_true rfl) (Nat.le_of_ble_eq_true rfl) dX10_takesClause_172 (fun r_22 u_21 H locs hw_u_21 hP hD hS => ?_)
      replace hw_u_21 : (r_22, u_21) = (f_m_fails u_2 3 (u_2 16)) := hw_u_21
      replace hF := hF r_22 u_21 hw_u_21
      rw [← hw_u_21] at hE
      replace hE : ((r_22, u_21, f27, f28, f29, f30, f31) : Int32 × (Nat → Int32) × (Nat → Int32) × (Nat → Int32) × (Nat → Int32) × (Nat → Int32) × (Nat → Int32)) = RES := hE
      have hP : va_P D classes [((Rf 27), .inl (cI, 6, .inl f27)), ((Rf 28), .inl (cI, 6, .inl f28)), ((Rf 29), .inl (cI, 30, .inl f29)), ((Rf 30), .inl (cI, 7, .inl f30)), ((Rf 31), .inl (cI, 7, .inl f31)), ((Rf 13), .inl (cI, 240, .inl f13)), (h, .inr (10, ML u_21 Rf))] H := hP
      have hD : va_D A [((Rf 27), .inl (cI, 6, .inl f27)), ((Rf 28), .inl (cI, 6, .inl f28)), ((Rf 29), .inl (cI, 30, .inl f29)), ((Rf 30), .inl (cI, 7, .inl f30)), ((Rf 31), .inl (cI, 7, .inl f31)), ((Rf 13), .inl (cI, 240, .inl f13)), (h, .inr (10, ML u_21 Rf))] := hD
      exact hret r_22 (u_21, f27, f28, f29, f30, f31) _ _ _ _ dX10_takesClause_175 (narrow_b01 (Or.inl (congrArg Prod.fst hw_u_21))) hE (cutP (isC := [6, 5, 0, 1, 2, 3, 4]) hP rfl) (cutD (isC := [6, 5, 0, 1, 2, 3, 4]) hD rfl rfl) hS
  · replace hF := hF.2 c_4
    rw [if_neg c_4] at hE
    refine lv_aload_n hx hb dX10_takesClause_11 rfl (lv_at hl 1 rfl) ?_
    refine va_get (D := D) (ci := 10) (v := .int (u_2 20)) (C := RX10) (T := TX10) (N := 45) hx hb hts iX10 hown hK hP 5 rfl rfl 20 (by decide) (hts _ wd_527) (fun _ h9 => h9) rfl dX10_takesClause_12 ?_
    refine lv_if_le (tgt := 46) hx hb dX10_takesClause_15 (by decide) (fun c_23 => ?_) (fun c_23 => ?_)
    · replace hF := hF.1 c_23
      rw [if_pos c_23] at hE
      refine lv_iconst (v := 0) hx hb dX10_takesClause_46 (by decide) ?_
      refine lv_istore_n (lv' := [(2, .int 0), (1, .int r_3), (0, .ref h)]) hx hb dX10_takesClause_47 rfl hl (by decide) rfl (fun ls hl => ?_)
      refine lv_iload_n hx hb dX10_takesClause_48 rfl (lv_at hl 0 rfl) ?_
      refine lv_if_ne (tgt := 62) hx hb dX10_takesClause_49 (by decide) (fun c_24 => absurd (by decide +kernel) c_24) (fun c_24 => ?_)
      refine lv_aload_n hx hb dX10_takesClause_52 rfl (lv_at hl 2 rfl) ?_
      refine lv_iconst (v := 1) hx hb dX10_takesClause_53 (by decide) ?_
      refine lv_aload_n hx hb dX10_takesClause_54 rfl (lv_at hl 2 rfl) ?_
      refine va_get (D := D) (ci := 10) (v := .int (u_2 16)) (C := RX10) (T := TX10) (N := 45) hx hb hts iX10 hown hK hP 5 rfl rfl 16 (by decide) (hts _ wd_509) (fun _ h9 => h9) rfl dX10_takesClause_55 ?_
      obtain ⟨hs_25, hF⟩ := hF
      refine cVi (wr := [((Rf 27), .inl (cI, 6, .inl f27)), ((Rf 28), .inl (cI, 6, .inl f28)), ((Rf 29), .inl (cI, 30, .inl f29)), ((Rf 30), .inl (cI, 7, .inl f30)), ((Rf 31), .inl (cI, 7, .inl f31)), ((Rf 13), .inl (cI, 240, .inl f13))]) (rest := []) (m_fails Rf h u_2 1 (u_2 16) hs_25) okV_X10_fails wd_520 hx hb hml hown hts hK hP hD hS hA hN hl.1 [5] [0, 1, 2, 3, 4, 6] rfl rfl rfl rfl (by decide) rfl rfl rfl (Nat.le_of_ble_eq_true rfl) (Nat.le_of_ble_eq_true rfl) (Nat.le_of_ble_eq_true rfl) (Nat.le_of_ble_eq_true rfl) (Nat.le_of_ble_eq_true rfl) dX10_takesClause_58 (fun r_27 u_26 H locs hw_u_26 hP hD hS => ?_)
      replace hw_u_26 : (r_27, u_26) = (f_m_fails u_2 1 (u_2 16)) := hw_u_26
      replace hF := hF r_27 u_26 hw_u_26
      rw [← hw_u_26] at hE
      replace hE : ((r_27, u_26, f27, f28, f29, f30, f31) : Int32 × (Nat → Int32) × (Nat → Int32) × (Nat → Int32) × (Nat → Int32) × (Nat → Int32) × (Nat → Int32)) = RES := hE
      have hP : va_P D classes [((Rf 27), .inl (cI, 6, .inl f27)), ((Rf 28), .inl (cI, 6, .inl f28)), ((Rf 29), .inl (cI, 30, .inl f29)), ((Rf 30), .inl (cI, 7, .inl f30)), ((Rf 31), .inl (cI, 7, .inl f31)), ((Rf 13), .inl (cI, 240, .inl f13)), (h, .inr (10, ML u_26 Rf))] H := hP
      have hD : va_D A [((Rf 27), .inl (cI, 6, .inl f27)), ((Rf 28), .inl (cI, 6, .inl f28)), ((Rf 29), .inl (cI, 30, .inl f29)), ((Rf 30), .inl (cI, 7, .inl f30)), ((Rf 31), .inl (cI, 7, .inl f31)), ((Rf 13), .inl (cI, 240, .inl f13)), (h, .inr (10, ML u_26 Rf))] := hD
      exact hret r_27 (u_26, f27, f28, f29, f30, f31) _ _ _ _ dX10_takesClause_61 (narrow_b01 (Or.inl (congrArg Prod.fst hw_u_26))) hE (cutP (isC := [6, 5, 0, 1, 2, 3, 4]) hP rfl) (cutD (isC := [6, 5, 0, 1, 2, 3, 4]) hD rfl rfl) hS
    · replace hF := hF.2 c_23
      rw [if_neg c_23] at hE
      refine lv_iload_n hx hb dX10_takesClause_18 rfl (lv_at hl 0 rfl) ?_
      refine lv_bipush (v := 116) hx hb dX10_takesClause_19 (by decide) ?_
      refine lv_icmp_eq (tgt := 42) hx hb dX10_takesClause_21 (by decide) (fun c_28 => ?_) (fun c_28 => ?_)
      · replace hF := hF.1 c_28
        rw [if_pos c_28] at hE
        subst c_28
        refine lv_iconst (v := 1) hx hb dX10_takesClause_42 (by decide) ?_
        refine lv_goto (tgt := 47) hx hb dX10_takesClause_43 (by decide) ?_
        refine lv_istore_n (lv' := [(2, .int 1), (1, .int 116), (0, .ref h)]) hx hb dX10_takesClause_47 rfl hl (by decide) rfl (fun ls hl => ?_)
        refine lv_iload_n hx hb dX10_takesClause_48 rfl (lv_at hl 0 rfl) ?_
        refine lv_if_ne (tgt := 62) hx hb dX10_takesClause_49 (by decide) (fun c_29 => ?_) (fun c_29 => absurd c_29 (by decide +kernel))
        refine lv_iload_n hx hb dX10_takesClause_62 rfl (lv_at hl 1 rfl) ?_
        refine lv_bipush (v := 98) hx hb dX10_takesClause_63 (by decide) ?_
        refine lv_icmp_ne (tgt := 83) hx hb dX10_takesClause_65 (by decide) (fun c_30 => ?_) (fun c_30 => absurd c_30 (by decide +kernel))
        refine lv_iload_n hx hb dX10_takesClause_83 rfl (lv_at hl 1 rfl) ?_
        refine lv_bipush (v := 116) hx hb dX10_takesClause_84 (by decide) ?_
        refine lv_icmp_ne (tgt := 111) hx hb dX10_takesClause_86 (by decide) (fun c_31 => absurd (by decide +kernel) c_31) (fun c_31 => ?_)
        refine lv_aload_n hx hb dX10_takesClause_89 rfl (lv_at hl 2 rfl) ?_
        refine va_get (D := D) (ci := 10) (v := .int (u_2 22)) (C := RX10) (T := TX10) (N := 45) hx hb hts iX10 hown hK hP 5 rfl rfl 22 (by decide) (hts _ wd_533) (fun _ h9 => h9) rfl dX10_takesClause_90 ?_
        refine lv_if_ne (tgt := 103) hx hb dX10_takesClause_93 (by decide) (fun c_32 => ?_) (fun c_32 => ?_)
        · replace hF := hF.2 c_32
          rw [if_neg c_32] at hE
          refine lv_iconst (v := 1) hx hb dX10_takesClause_103 (by decide) ?_
          refine lv_goto (tgt := 161) hx hb dX10_takesClause_104 (by decide) ?_
          refine lv_istore_n (lv' := [(3, .int 1), (2, .int 1), (1, .int 116), (0, .ref h)]) hx hb dX10_takesClause_161 rfl hl (by decide) rfl (fun ls hl => ?_)
          refine lv_iload_n hx hb dX10_takesClause_162 rfl (lv_at hl 0 rfl) ?_
          refine lv_if_eq (tgt := 176) hx hb dX10_takesClause_163 (by decide) (fun c_33 => absurd c_33 (by decide +kernel)) (fun c_33 => ?_)
          refine lv_aload_n hx hb dX10_takesClause_166 rfl (lv_at hl 3 rfl) ?_
          refine lv_iconst (v := 3) hx hb dX10_takesClause_167 (by decide) ?_
          refine lv_aload_n hx hb dX10_takesClause_168 rfl (lv_at hl 3 rfl) ?_
          refine va_get (D := D) (ci := 10) (v := .int (u_2 16)) (C := RX10) (T := TX10) (N := 45) hx hb hts iX10 hown hK hP 5 rfl rfl 16 (by decide) (hts _ wd_509) (fun _ h9 => h9) rfl dX10_takesClause_169 ?_
          obtain ⟨hs_34, hF⟩ := hF
          refine cVi (wr := [((Rf 27), .inl (cI, 6, .inl f27)), ((Rf 28), .inl (cI, 6, .inl f28)), ((Rf 29), .inl (cI, 30, .inl f29)), ((Rf 30), .inl (cI, 7, .inl f30)), ((Rf 31), .inl (cI, 7, .inl f31)), ((Rf 13), .inl (cI, 240, .inl f13))]) (rest := []) (m_fails Rf h u_2 3 (u_2 16) hs_34) okV_X10_fails wd_520 hx hb hml hown hts hK hP hD hS hA hN hl.1 [5] [0, 1, 2, 3, 4, 6] rfl rfl rfl rfl (by decide) rfl rfl rfl (Nat.le_of_ble_eq_true rfl) (Nat.le_of_ble_eq_true rfl) (Nat.le_of_ble_eq_true rfl) (Nat.le_of_ble_eq_true rfl) (Nat.le_of_ble_eq_true rfl) dX10_takesClause_172 (fun r_36 u_35 H locs hw_u_35 hP hD hS => ?_)
          replace hw_u_35 : (r_36, u_35) = (f_m_fails u_2 3 (u_2 16)) := hw_u_35
          replace hF := hF r_36 u_35 hw_u_35
          rw [← hw_u_35] at hE
          replace hE : ((r_36, u_35, f27, f28, f29, f30, f31) : Int32 × (Nat → Int32) × (Nat → Int32) × (Nat → Int32) × (Nat → Int32) × (Nat → Int32) × (Nat → Int32)) = RES := hE
          have hP : va_P D classes [((Rf 27), .inl (cI, 6, .inl f27)), ((Rf 28), .inl (cI, 6, .inl f28)), ((Rf 29), .inl (cI, 30, .inl f29)), ((Rf 30), .inl (cI, 7, .inl f30)), ((Rf 31), .inl (cI, 7, .inl f31)), ((Rf 13), .inl (cI, 240, .inl f13)), (h, .inr (10, ML u_35 Rf))] H := hP
          have hD : va_D A [((Rf 27), .inl (cI, 6, .inl f27)), ((Rf 28), .inl (cI, 6, .inl f28)), ((Rf 29), .inl (cI, 30, .inl f29)), ((Rf 30), .inl (cI, 7, .inl f30)), ((Rf 31), .inl (cI, 7, .inl f31)), ((Rf 13), .inl (cI, 240, .inl f13)), (h, .inr (10, ML u_35 Rf))] := hD
          exact hret r_36 (u_35, f27, f28, f29, f30, f31) _ _ _ _ dX10_takesClause_175 (narrow_b01 (Or.inl (congrArg Prod.fst hw_u_35))) hE (cutP (isC := [6, 5, 0, 1, 2, 3, 4]) hP rfl) (cutD (isC := [6, 5, 0, 1, 2, 3, 4]) hD rfl rfl) hS
        · replace hF := hF.1 c_32
          rw [if_pos c_32] at hE
          refine lv_aload_n hx hb dX10_takesClause_96 rfl (lv_at hl 2 rfl) ?_
          refine va_get (D := D) (ci := 10) (v := .int (u_2 23)) (C := RX10) (T := TX10) (N := 45) hx hb hts iX10 hown hK hP 5 rfl rfl 23 (by decide) (hts _ wd_536) (fun _ h9 => h9) rfl dX10_takesClause_97 ?_
          refine lv_if_le (tgt := 107) hx hb dX10_takesClause_100 (by decide) (fun c_37 => ?_) (fun c_37 => ?_)
          · replace hF := hF.1 c_37
            rw [if_pos c_37] at hE
            refine lv_iconst (v := 0) hx hb dX10_takesClause_107 (by decide) ?_
            refine lv_goto (tgt := 161) hx hb dX10_takesClause_108 (by decide) ?_
            refine lv_istore_n (lv' := [(3, .int 0), (2, .int 1), (1, .int 116), (0, .ref h)]) hx hb dX10_takesClause_161 rfl hl (by decide) rfl (fun ls hl => ?_)
            refine lv_iload_n hx hb dX10_takesClause_162 rfl (lv_at hl 0 rfl) ?_
            refine lv_if_eq (tgt := 176) hx hb dX10_takesClause_163 (by decide) (fun c_38 => ?_) (fun c_38 => absurd (by decide +kernel) c_38)
            refine lv_aload_n hx hb dX10_takesClause_176 rfl (lv_at hl 3 rfl) ?_
            refine lv_dup hx hb dX10_takesClause_177 rfl ?_
            refine va_get (D := D) (ci := 10) (v := .int (u_2 15)) (C := RX10) (T := TX10) (N := 45) hx hb hts iX10 hown hK hP 5 rfl rfl 15 (by decide) (hts _ wd_508) (fun _ h9 => h9) rfl dX10_takesClause_178 ?_
            refine lv_iconst (v := 1) hx hb dX10_takesClause_181 (by decide) ?_
            refine lv_iadd hx hb dX10_takesClause_182 ?_
            refine va_put (D := D) (ci := 10) (v := .int ((u_2 15) + 1)) (ty := .int) (C := RX10) (T := TX10) (N := 45) hx hb hts iX10 tyX10 tyX10_ok nmX10 hown hK hP hD hS 5 rfl rfl 15 (by decide) (hts _ wd_508) (fun _ h9 => h9) rfl (by decide +kernel) rfl rfl (Nat.le_of_ble_eq_true rfl) dX10_takesClause_183 (fun H locs hP hD hS => ?_)
            have hP : va_P D classes [((Rf 27), .inl (cI, 6, .inl f27)), ((Rf 28), .inl (cI, 6, .inl f28)), ((Rf 29), .inl (cI, 30, .inl f29)), ((Rf 30), .inl (cI, 7, .inl f30)), ((Rf 31), .inl (cI, 7, .inl f31)), (h, .inr (10, ML (upd u_2 15 ((u_2 15) + 1)) Rf)), ((Rf 13), .inl (cI, 240, .inl f13))] H := hP
            have hD : va_D A [((Rf 27), .inl (cI, 6, .inl f27)), ((Rf 28), .inl (cI, 6, .inl f28)), ((Rf 29), .inl (cI, 30, .inl f29)), ((Rf 30), .inl (cI, 7, .inl f30)), ((Rf 31), .inl (cI, 7, .inl f31)), (h, .inr (10, ML (upd u_2 15 ((u_2 15) + 1)) Rf)), ((Rf 13), .inl (cI, 240, .inl f13))] := hD
            refine lv_iload_n hx hb dX10_takesClause_186 rfl (lv_at hl 2 rfl) ?_
            refine lv_lookup (off := 50) (tgt := 237) hx hb dX10_takesClause_187 (by decide +kernel) (by decide +kernel) (by decide) ?_
            refine lv_aload_n hx hb dX10_takesClause_237 rfl (lv_at hl 3 rfl) ?_
            obtain ⟨hs_39, hF⟩ := hF
            refine cVi (wr := [((Rf 27), .inl (cI, 6, .inl f27)), ((Rf 28), .inl (cI, 6, .inl f28)), ((Rf 29), .inl (cI, 30, .inl f29)), ((Rf 30), .inl (cI, 7, .inl f30)), ((Rf 31), .inl (cI, 7, .inl f31))]) (rest := []) (m_takesThemes Rf h (upd u_2 15 ((u_2 15) + 1)) f13 hs_39) okV_X10_takesThemes wd_627 hx hb hml hown hts hK hP hD hS hA hN hl.1 [5, 6] [0, 1, 2, 3, 4] rfl rfl rfl rfl (by decide) rfl rfl rfl (Nat.le_of_ble_eq_true rfl) (Nat.le_of_ble_eq_true rfl) (Nat.le_of_ble_eq_true rfl) (Nat.le_of_ble_eq_true rfl) (Nat.le_of_ble_eq_true rfl) dX10_takesClause_238 (fun r_41 u_40 H locs hw_u_40 hP hD hS => ?_)
            replace hw_u_40 : (r_41, u_40) = (f_m_takesThemes (upd u_2 15 ((u_2 15) + 1)) f13) := hw_u_40
            replace hF := hF r_41 u_40 hw_u_40
            rw [← hw_u_40] at hE
            replace hE : ((if r_41 = 0 then (0, u_40, f27, f28, f29, f30, f31) else (match (f_m_takes u_40 f13 59) with | (r_45, u_44) => (if r_45 = 0 then (0, u_44, f27, f28, f29, f30, f31) else (1, u_44, f27, f28, f29, f30, f31)))) : Int32 × (Nat → Int32) × (Nat → Int32) × (Nat → Int32) × (Nat → Int32) × (Nat → Int32) × (Nat → Int32)) = RES := hE
            have hP : va_P D classes [((Rf 27), .inl (cI, 6, .inl f27)), ((Rf 28), .inl (cI, 6, .inl f28)), ((Rf 29), .inl (cI, 30, .inl f29)), ((Rf 30), .inl (cI, 7, .inl f30)), ((Rf 31), .inl (cI, 7, .inl f31)), (h, .inr (10, ML u_40 Rf)), ((Rf 13), .inl (cI, 240, .inl f13))] H := hP
            have hD : va_D A [((Rf 27), .inl (cI, 6, .inl f27)), ((Rf 28), .inl (cI, 6, .inl f28)), ((Rf 29), .inl (cI, 30, .inl f29)), ((Rf 30), .inl (cI, 7, .inl f30)), ((Rf 31), .inl (cI, 7, .inl f31)), (h, .inr (10, ML u_40 Rf)), ((Rf 13), .inl (cI, 240, .inl f13))] := hD
            refine lv_istore (lv' := [(4, .int r_41), (3, .int 0), (2, .int 1), (1, .int 116), (0, .ref h)]) hx hb dX10_takesClause_241 hl (by decide) rfl (fun ls hl => ?_)
            refine lv_goto (tgt := 270) hx hb dX10_takesClause_243 (by decide) ?_
            refine lv_iload hx hb dX10_takesClause_270 (lv_at hl 0 rfl) ?_
            refine lv_if_eq (tgt := 288) hx hb dX10_takesClause_272 (by decide) (fun c_42 => ?_) (fun c_42 => ?_)
            · replace hF := hF.1 c_42
              rw [if_pos c_42] at hE
              subst c_42
              refine lv_iconst (v := 0) hx hb dX10_takesClause_288 (by decide) ?_
              exact hret 0 (u_40, f27, f28, f29, f30, f31) _ _ _ _ dX10_takesClause_289 rfl hE (cutP (isC := [5, 6, 0, 1, 2, 3, 4]) hP rfl) (cutD (isC := [5, 6, 0, 1, 2, 3, 4]) hD rfl rfl) hS
            · replace hF := hF.2 c_42
              rw [if_neg c_42] at hE
              refine lv_aload_n hx hb dX10_takesClause_275 rfl (lv_at hl 4 rfl) ?_
              refine lv_bipush (v := 59) hx hb dX10_takesClause_276 (by decide) ?_
              obtain ⟨hs_43, hF⟩ := hF
              refine cVi (wr := [((Rf 27), .inl (cI, 6, .inl f27)), ((Rf 28), .inl (cI, 6, .inl f28)), ((Rf 29), .inl (cI, 30, .inl f29)), ((Rf 30), .inl (cI, 7, .inl f30)), ((Rf 31), .inl (cI, 7, .inl f31))]) (rest := []) (m_takes Rf h u_40 f13 59 hs_43) okV_X10_takes wd_538 hx hb hml hown hts hK hP hD hS hA hN hl.1 [5, 6] [0, 1, 2, 3, 4] rfl rfl rfl rfl (by decide) rfl rfl rfl (Nat.le_of_ble_eq_true rfl) (Nat.le_of_ble_eq_true rfl) (Nat.le_of_ble_eq_true rfl) (Nat.le_of_ble_eq_true rfl) (Nat.le_of_ble_eq_true rfl) dX10_takesClause_278 (fun r_45 u_44 H locs hw_u_44 hP hD hS => ?_)
              replace hw_u_44 : (r_45, u_44) = (f_m_takes u_40 f13 59) := hw_u_44
              replace hF := hF r_45 u_44 hw_u_44
              rw [← hw_u_44] at hE
              replace hE : ((if r_45 = 0 then (0, u_44, f27, f28, f29, f30, f31) else (1, u_44, f27, f28, f29, f30, f31)) : Int32 × (Nat → Int32) × (Nat → Int32) × (Nat → Int32) × (Nat → Int32) × (Nat → Int32) × (Nat → Int32)) = RES := hE
              have hP : va_P D classes [((Rf 27), .inl (cI, 6, .inl f27)), ((Rf 28), .inl (cI, 6, .inl f28)), ((Rf 29), .inl (cI, 30, .inl f29)), ((Rf 30), .inl (cI, 7, .inl f30)), ((Rf 31), .inl (cI, 7, .inl f31)), (h, .inr (10, ML u_44 Rf)), ((Rf 13), .inl (cI, 240, .inl f13))] H := hP
              have hD : va_D A [((Rf 27), .inl (cI, 6, .inl f27)), ((Rf 28), .inl (cI, 6, .inl f28)), ((Rf 29), .inl (cI, 30, .inl f29)), ((Rf 30), .inl (cI, 7, .inl f30)), ((Rf 31), .inl (cI, 7, .inl f31)), (h, .inr (10, ML u_44 Rf)), ((Rf 13), .inl (cI, 240, .inl f13))] := hD
              refine lv_if_eq (tgt := 288) hx hb dX10_takesClause_281 (by decide) (fun c_46 => ?_) (fun c_46 => ?_)
              · replace hF := hF.1 c_46
                rw [if_pos c_46] at hE
                subst c_46
                refine lv_iconst (v := 0) hx hb dX10_takesClause_288 (by decide) ?_
                exact hret 0 (u_44, f27, f28, f29, f30, f31) _ _ _ _ dX10_takesClause_289 rfl hE (cutP (isC := [5, 6, 0, 1, 2, 3, 4]) hP rfl) (cutD (isC := [5, 6, 0, 1, 2, 3, 4]) hD rfl rfl) hS
              · replace hF := hF.2 c_46
                rw [if_neg c_46] at hE
                refine lv_iconst (v := 1) hx hb dX10_takesClause_284 (by decide) ?_
                refine lv_goto (tgt := 289) hx hb dX10_takesClause_285 (by decide) ?_
                exact hret 1 (u_44, f27, f28, f29, f30, f31) _ _ _ _ dX10_takesClause_289 rfl hE (cutP (isC := [5, 6, 0, 1, 2, 3, 4]) hP rfl) (cutD (isC := [5, 6, 0, 1, 2, 3, 4]) hD rfl rfl) hS
          · replace hF := hF.2 c_37
            rw [if_neg c_37] at hE
            refine lv_iconst (v := 1) hx hb dX10_takesClause_103 (by decide) ?_
            refine lv_goto (tgt := 161) hx hb dX10_takesClause_104 (by decide) ?_
            refine lv_istore_n (lv' := [(3, .int 1), (2, .int 1), (1, .int 116), (0, .ref h)]) hx hb dX10_takesClause_161 rfl hl (by decide) rfl (fun ls hl => ?_)
            refine lv_iload_n hx hb dX10_takesClause_162 rfl (lv_at hl 0 rfl) ?_
            refine lv_if_eq (tgt := 176) hx hb dX10_takesClause_163 (by decide) (fun c_47 => absurd c_47 (by decide +kernel)) (fun c_47 => ?_)
            refine lv_aload_n hx hb dX10_takesClause_166 rfl (lv_at hl 3 rfl) ?_
            refine lv_iconst (v := 3) hx hb dX10_takesClause_167 (by decide) ?_
            refine lv_aload_n hx hb dX10_takesClause_168 rfl (lv_at hl 3 rfl) ?_
            refine va_get (D := D) (ci := 10) (v := .int (u_2 16)) (C := RX10) (T := TX10) (N := 45) hx hb hts iX10 hown hK hP 5 rfl rfl 16 (by decide) (hts _ wd_509) (fun _ h9 => h9) rfl dX10_takesClause_169 ?_
            obtain ⟨hs_48, hF⟩ := hF
            refine cVi (wr := [((Rf 27), .inl (cI, 6, .inl f27)), ((Rf 28), .inl (cI, 6, .inl f28)), ((Rf 29), .inl (cI, 30, .inl f29)), ((Rf 30), .inl (cI, 7, .inl f30)), ((Rf 31), .inl (cI, 7, .inl f31)), ((Rf 13), .inl (cI, 240, .inl f13))]) (rest := []) (m_fails Rf h u_2 3 (u_2 16) hs_48) okV_X10_fails wd_520 hx hb hml hown hts hK hP hD hS hA hN hl.1 [5] [0, 1, 2, 3, 4, 6] rfl rfl rfl rfl (by decide) rfl rfl rfl (Nat.le_of_ble_eq_true rfl) (Nat.le_of_ble_eq_true rfl) (Nat.le_of_ble_eq_true rfl) (Nat.le_of_ble_eq_true rfl) (Nat.le_of_ble_eq_true rfl) dX10_takesClause_172 (fun r_50 u_49 H locs hw_u_49 hP hD hS => ?_)
            replace hw_u_49 : (r_50, u_49) = (f_m_fails u_2 3 (u_2 16)) := hw_u_49
            replace hF := hF r_50 u_49 hw_u_49
            rw [← hw_u_49] at hE
            replace hE : ((r_50, u_49, f27, f28, f29, f30, f31) : Int32 × (Nat → Int32) × (Nat → Int32) × (Nat → Int32) × (Nat → Int32) × (Nat → Int32) × (Nat → Int32)) = RES := hE
            have hP : va_P D classes [((Rf 27), .inl (cI, 6, .inl f27)), ((Rf 28), .inl (cI, 6, .inl f28)), ((Rf 29), .inl (cI, 30, .inl f29)), ((Rf 30), .inl (cI, 7, .inl f30)), ((Rf 31), .inl (cI, 7, .inl f31)), ((Rf 13), .inl (cI, 240, .inl f13)), (h, .inr (10, ML u_49 Rf))] H := hP
            have hD : va_D A [((Rf 27), .inl (cI, 6, .inl f27)), ((Rf 28), .inl (cI, 6, .inl f28)), ((Rf 29), .inl (cI, 30, .inl f29)), ((Rf 30), .inl (cI, 7, .inl f30)), ((Rf 31), .inl (cI, 7, .inl f31)), ((Rf 13), .inl (cI, 240, .inl f13)), (h, .inr (10, ML u_49 Rf))] := hD
            exact hret r_50 (u_49, f27, f28, f29, f30, f31) _ _ _ _ dX10_takesClause_175 (narrow_b01 (Or.inl (congrArg Prod.fst hw_u_49))) hE (cutP (isC := [6, 5, 0, 1, 2, 3, 4]) hP rfl) (cutD (isC := [6, 5, 0, 1, 2, 3, 4]) hD rfl rfl) hS
      · replace hF := hF.2 c_28
        rw [if_neg c_28] at hE
        refine lv_iload_n hx hb dX10_takesClause_24 rfl (lv_at hl 0 rfl) ?_
        refine lv_bipush (v := 99) hx hb dX10_takesClause_25 (by decide) ?_
        refine lv_icmp_eq (tgt := 42) hx hb dX10_takesClause_27 (by decide) (fun c_51 => ?_) (fun c_51 => ?_)
        · replace hF := hF.1 c_51
          rw [if_pos c_51] at hE
          subst c_51
          refine lv_iconst (v := 1) hx hb dX10_takesClause_42 (by decide) ?_
          refine lv_goto (tgt := 47) hx hb dX10_takesClause_43 (by decide) ?_
          refine lv_istore_n (lv' := [(2, .int 1), (1, .int 99), (0, .ref h)]) hx hb dX10_takesClause_47 rfl hl (by decide) rfl (fun ls hl => ?_)
          refine lv_iload_n hx hb dX10_takesClause_48 rfl (lv_at hl 0 rfl) ?_
          refine lv_if_ne (tgt := 62) hx hb dX10_takesClause_49 (by decide) (fun c_52 => ?_) (fun c_52 => absurd c_52 (by decide +kernel))
          refine lv_iload_n hx hb dX10_takesClause_62 rfl (lv_at hl 1 rfl) ?_
          refine lv_bipush (v := 98) hx hb dX10_takesClause_63 (by decide) ?_
          refine lv_icmp_ne (tgt := 83) hx hb dX10_takesClause_65 (by decide) (fun c_53 => ?_) (fun c_53 => absurd c_53 (by decide +kernel))
          refine lv_iload_n hx hb dX10_takesClause_83 rfl (lv_at hl 1 rfl) ?_
          refine lv_bipush (v := 116) hx hb dX10_takesClause_84 (by decide) ?_
          refine lv_icmp_ne (tgt := 111) hx hb dX10_takesClause_86 (by decide) (fun c_54 => ?_) (fun c_54 => absurd c_54 (by decide +kernel))
          refine lv_iload_n hx hb dX10_takesClause_111 rfl (lv_at hl 1 rfl) ?_
          refine lv_bipush (v := 99) hx hb dX10_takesClause_112 (by decide) ?_
          refine lv_icmp_ne (tgt := 134) hx hb dX10_takesClause_114 (by decide) (fun c_55 => absurd (by decide +kernel) c_55) (fun c_55 => ?_)
          refine lv_aload_n hx hb dX10_takesClause_117 rfl (lv_at hl 2 rfl) ?_
          refine va_get (D := D) (ci := 10) (v := .int (u_2 23)) (C := RX10) (T := TX10) (N := 45) hx hb hts iX10 hown hK hP 5 rfl rfl 23 (by decide) (hts _ wd_536) (fun _ h9 => h9) rfl dX10_takesClause_118 ?_
          refine lv_bipush (v := 6) hx hb dX10_takesClause_121 (by decide) ?_
          refine lv_icmp_ne (tgt := 130) hx hb dX10_takesClause_123 (by decide) (fun c_56 => ?_) (fun c_56 => ?_)
          · replace hF := hF.2 c_56
            rw [if_neg c_56] at hE
            refine lv_iconst (v := 0) hx hb dX10_takesClause_130 (by decide) ?_
            refine lv_goto (tgt := 161) hx hb dX10_takesClause_131 (by decide) ?_
            refine lv_istore_n (lv' := [(3, .int 0), (2, .int 1), (1, .int 99), (0, .ref h)]) hx hb dX10_takesClause_161 rfl hl (by decide) rfl (fun ls hl => ?_)
            refine lv_iload_n hx hb dX10_takesClause_162 rfl (lv_at hl 0 rfl) ?_
            refine lv_if_eq (tgt := 176) hx hb dX10_takesClause_163 (by decide) (fun c_57 => ?_) (fun c_57 => absurd (by decide +kernel) c_57)
            refine lv_aload_n hx hb dX10_takesClause_176 rfl (lv_at hl 3 rfl) ?_
            refine lv_dup hx hb dX10_takesClause_177 rfl ?_
            refine va_get (D := D) (ci := 10) (v := .int (u_2 15)) (C := RX10) (T := TX10) (N := 45) hx hb hts iX10 hown hK hP 5 rfl rfl 15 (by decide) (hts _ wd_508) (fun _ h9 => h9) rfl dX10_takesClause_178 ?_
            refine lv_iconst (v := 1) hx hb dX10_takesClause_181 (by decide) ?_
            refine lv_iadd hx hb dX10_takesClause_182 ?_
            refine va_put (D := D) (ci := 10) (v := .int ((u_2 15) + 1)) (ty := .int) (C := RX10) (T := TX10) (N := 45) hx hb hts iX10 tyX10 tyX10_ok nmX10 hown hK hP hD hS 5 rfl rfl 15 (by decide) (hts _ wd_508) (fun _ h9 => h9) rfl (by decide +kernel) rfl rfl (Nat.le_of_ble_eq_true rfl) dX10_takesClause_183 (fun H locs hP hD hS => ?_)
            have hP : va_P D classes [((Rf 27), .inl (cI, 6, .inl f27)), ((Rf 28), .inl (cI, 6, .inl f28)), ((Rf 29), .inl (cI, 30, .inl f29)), ((Rf 30), .inl (cI, 7, .inl f30)), ((Rf 31), .inl (cI, 7, .inl f31)), (h, .inr (10, ML (upd u_2 15 ((u_2 15) + 1)) Rf)), ((Rf 13), .inl (cI, 240, .inl f13))] H := hP
            have hD : va_D A [((Rf 27), .inl (cI, 6, .inl f27)), ((Rf 28), .inl (cI, 6, .inl f28)), ((Rf 29), .inl (cI, 30, .inl f29)), ((Rf 30), .inl (cI, 7, .inl f30)), ((Rf 31), .inl (cI, 7, .inl f31)), (h, .inr (10, ML (upd u_2 15 ((u_2 15) + 1)) Rf)), ((Rf 13), .inl (cI, 240, .inl f13))] := hD
            refine lv_iload_n hx hb dX10_takesClause_186 rfl (lv_at hl 2 rfl) ?_
            refine lv_lookup (off := 59) (tgt := 246) hx hb dX10_takesClause_187 (by decide +kernel) (by decide +kernel) (by decide) ?_
            refine lv_aload_n hx hb dX10_takesClause_246 rfl (lv_at hl 3 rfl) ?_
            obtain ⟨hs_58, hF⟩ := hF
            refine cVi (wr := [((Rf 27), .inl (cI, 6, .inl f27)), ((Rf 30), .inl (cI, 7, .inl f30)), ((Rf 31), .inl (cI, 7, .inl f31))]) (rest := []) (m_takesCouple Rf h (upd u_2 15 ((u_2 15) + 1)) f13 f28 f29 hs_58) okV_X10_takesCouple wd_631 hx hb hml hown hts hK hP hD hS hA hN hl.1 [5, 6, 1, 2] [0, 3, 4] rfl rfl rfl rfl (by decide) rfl rfl rfl (Nat.le_of_ble_eq_true rfl) (Nat.le_of_ble_eq_true rfl) (Nat.le_of_ble_eq_true rfl) (Nat.le_of_ble_eq_true rfl) (Nat.le_of_ble_eq_true rfl) dX10_takesClause_247 (fun r_60 u_59 H locs hw_u_59 hP hD hS => ?_)
            obtain ⟨o_61, o_62, o_63⟩ := u_59
            replace hw_u_59 : (r_60, o_61, o_62, o_63) = (f_m_takesCouple (upd u_2 15 ((u_2 15) + 1)) f13 f28 f29) := hw_u_59
            replace hF := hF r_60 o_61 o_62 o_63 hw_u_59
            rw [← hw_u_59] at hE
            replace hE : ((if r_60 = 0 then (0, o_61, f27, o_62, o_63, f30, f31) else (match (f_m_takes o_61 f13 59) with | (r_67, u_66) => (if r_67 = 0 then (0, u_66, f27, o_62, o_63, f30, f31) else (1, u_66, f27, o_62, o_63, f30, f31)))) : Int32 × (Nat → Int32) × (Nat → Int32) × (Nat → Int32) × (Nat → Int32) × (Nat → Int32) × (Nat → Int32)) = RES := hE
            have hP : va_P D classes [((Rf 27), .inl (cI, 6, .inl f27)), ((Rf 30), .inl (cI, 7, .inl f30)), ((Rf 31), .inl (cI, 7, .inl f31)), (h, .inr (10, ML o_61 Rf)), ((Rf 13), .inl (cI, 240, .inl f13)), ((Rf 28), .inl (cI, 6, .inl o_62)), ((Rf 29), .inl (cI, 30, .inl o_63))] H := hP
            have hD : va_D A [((Rf 27), .inl (cI, 6, .inl f27)), ((Rf 30), .inl (cI, 7, .inl f30)), ((Rf 31), .inl (cI, 7, .inl f31)), (h, .inr (10, ML o_61 Rf)), ((Rf 13), .inl (cI, 240, .inl f13)), ((Rf 28), .inl (cI, 6, .inl o_62)), ((Rf 29), .inl (cI, 30, .inl o_63))] := hD
            refine lv_istore (lv' := [(4, .int r_60), (3, .int 0), (2, .int 1), (1, .int 99), (0, .ref h)]) hx hb dX10_takesClause_250 hl (by decide) rfl (fun ls hl => ?_)
            refine lv_goto (tgt := 270) hx hb dX10_takesClause_252 (by decide) ?_
            refine lv_iload hx hb dX10_takesClause_270 (lv_at hl 0 rfl) ?_
            refine lv_if_eq (tgt := 288) hx hb dX10_takesClause_272 (by decide) (fun c_64 => ?_) (fun c_64 => ?_)
            · replace hF := hF.1 c_64
              rw [if_pos c_64] at hE
              subst c_64
              refine lv_iconst (v := 0) hx hb dX10_takesClause_288 (by decide) ?_
              exact hret 0 (o_61, f27, o_62, o_63, f30, f31) _ _ _ _ dX10_takesClause_289 rfl hE (cutP (isC := [3, 4, 0, 5, 6, 1, 2]) hP rfl) (cutD (isC := [3, 4, 0, 5, 6, 1, 2]) hD rfl rfl) hS
            · replace hF := hF.2 c_64
              rw [if_neg c_64] at hE
              refine lv_aload_n hx hb dX10_takesClause_275 rfl (lv_at hl 4 rfl) ?_
              refine lv_bipush (v := 59) hx hb dX10_takesClause_276 (by decide) ?_
              obtain ⟨hs_65, hF⟩ := hF
              refine cVi (wr := [((Rf 27), .inl (cI, 6, .inl f27)), ((Rf 30), .inl (cI, 7, .inl f30)), ((Rf 31), .inl (cI, 7, .inl f31)), ((Rf 28), .inl (cI, 6, .inl o_62)), ((Rf 29), .inl (cI, 30, .inl o_63))]) (rest := []) (m_takes Rf h o_61 f13 59 hs_65) okV_X10_takes wd_538 hx hb hml hown hts hK hP hD hS hA hN hl.1 [3, 4] [0, 1, 2, 5, 6] rfl rfl rfl rfl (by decide) rfl rfl rfl (Nat.le_of_ble_eq_true rfl) (Nat.le_of_ble_eq_true rfl) (Nat.le_of_ble_eq_true rfl) (Nat.le_of_ble_eq_true rfl) (Nat.le_of_ble_eq_true rfl) dX10_takesClause_278 (fun r_67 u_66 H locs hw_u_66 hP hD hS => ?_)
              replace hw_u_66 : (r_67, u_66) = (f_m_takes o_61 f13 59) := hw_u_66
              replace hF := hF r_67 u_66 hw_u_66
              rw [← hw_u_66] at hE
              replace hE : ((if r_67 = 0 then (0, u_66, f27, o_62, o_63, f30, f31) else (1, u_66, f27, o_62, o_63, f30, f31)) : Int32 × (Nat → Int32) × (Nat → Int32) × (Nat → Int32) × (Nat → Int32) × (Nat → Int32) × (Nat → Int32)) = RES := hE
              have hP : va_P D classes [((Rf 27), .inl (cI, 6, .inl f27)), ((Rf 30), .inl (cI, 7, .inl f30)), ((Rf 31), .inl (cI, 7, .inl f31)), ((Rf 28), .inl (cI, 6, .inl o_62)), ((Rf 29), .inl (cI, 30, .inl o_63)), (h, .inr (10, ML u_66 Rf)), ((Rf 13), .inl (cI, 240, .inl f13))] H := hP
              have hD : va_D A [((Rf 27), .inl (cI, 6, .inl f27)), ((Rf 30), .inl (cI, 7, .inl f30)), ((Rf 31), .inl (cI, 7, .inl f31)), ((Rf 28), .inl (cI, 6, .inl o_62)), ((Rf 29), .inl (cI, 30, .inl o_63)), (h, .inr (10, ML u_66 Rf)), ((Rf 13), .inl (cI, 240, .inl f13))] := hD
              refine lv_if_eq (tgt := 288) hx hb dX10_takesClause_281 (by decide) (fun c_68 => ?_) (fun c_68 => ?_)
              · replace hF := hF.1 c_68
                rw [if_pos c_68] at hE
                subst c_68
                refine lv_iconst (v := 0) hx hb dX10_takesClause_288 (by decide) ?_
                exact hret 0 (u_66, f27, o_62, o_63, f30, f31) _ _ _ _ dX10_takesClause_289 rfl hE (cutP (isC := [5, 6, 0, 3, 4, 1, 2]) hP rfl) (cutD (isC := [5, 6, 0, 3, 4, 1, 2]) hD rfl rfl) hS
              · replace hF := hF.2 c_68
                rw [if_neg c_68] at hE
                refine lv_iconst (v := 1) hx hb dX10_takesClause_284 (by decide) ?_
                refine lv_goto (tgt := 289) hx hb dX10_takesClause_285 (by decide) ?_
                exact hret 1 (u_66, f27, o_62, o_63, f30, f31) _ _ _ _ dX10_takesClause_289 rfl hE (cutP (isC := [5, 6, 0, 3, 4, 1, 2]) hP rfl) (cutD (isC := [5, 6, 0, 3, 4, 1, 2]) hD rfl rfl) hS
          · replace hF := hF.1 c_56
            rw [if_pos c_56] at hE
            refine lv_iconst (v := 1) hx hb dX10_takesClause_126 (by decide) ?_
            refine lv_goto (tgt := 161) hx hb dX10_takesClause_127 (by decide) ?_
            refine lv_istore_n (lv' := [(3, .int 1), (2, .int 1), (1, .int 99), (0, .ref h)]) hx hb dX10_takesClause_161 rfl hl (by decide) rfl (fun ls hl => ?_)
            refine lv_iload_n hx hb dX10_takesClause_162 rfl (lv_at hl 0 rfl) ?_
            refine lv_if_eq (tgt := 176) hx hb dX10_takesClause_163 (by decide) (fun c_69 => absurd c_69 (by decide +kernel)) (fun c_69 => ?_)
            refine lv_aload_n hx hb dX10_takesClause_166 rfl (lv_at hl 3 rfl) ?_
            refine lv_iconst (v := 3) hx hb dX10_takesClause_167 (by decide) ?_
            refine lv_aload_n hx hb dX10_takesClause_168 rfl (lv_at hl 3 rfl) ?_
            refine va_get (D := D) (ci := 10) (v := .int (u_2 16)) (C := RX10) (T := TX10) (N := 45) hx hb hts iX10 hown hK hP 5 rfl rfl 16 (by decide) (hts _ wd_509) (fun _ h9 => h9) rfl dX10_takesClause_169 ?_
            obtain ⟨hs_70, hF⟩ := hF
            refine cVi (wr := [((Rf 27), .inl (cI, 6, .inl f27)), ((Rf 28), .inl (cI, 6, .inl f28)), ((Rf 29), .inl (cI, 30, .inl f29)), ((Rf 30), .inl (cI, 7, .inl f30)), ((Rf 31), .inl (cI, 7, .inl f31)), ((Rf 13), .inl (cI, 240, .inl f13))]) (rest := []) (m_fails Rf h u_2 3 (u_2 16) hs_70) okV_X10_fails wd_520 hx hb hml hown hts hK hP hD hS hA hN hl.1 [5] [0, 1, 2, 3, 4, 6] rfl rfl rfl rfl (by decide) rfl rfl rfl (Nat.le_of_ble_eq_true rfl) (Nat.le_of_ble_eq_true rfl) (Nat.le_of_ble_eq_true rfl) (Nat.le_of_ble_eq_true rfl) (Nat.le_of_ble_eq_true rfl) dX10_takesClause_172 (fun r_72 u_71 H locs hw_u_71 hP hD hS => ?_)
            replace hw_u_71 : (r_72, u_71) = (f_m_fails u_2 3 (u_2 16)) := hw_u_71
            replace hF := hF r_72 u_71 hw_u_71
            rw [← hw_u_71] at hE
            replace hE : ((r_72, u_71, f27, f28, f29, f30, f31) : Int32 × (Nat → Int32) × (Nat → Int32) × (Nat → Int32) × (Nat → Int32) × (Nat → Int32) × (Nat → Int32)) = RES := hE
            have hP : va_P D classes [((Rf 27), .inl (cI, 6, .inl f27)), ((Rf 28), .inl (cI, 6, .inl f28)), ((Rf 29), .inl (cI, 30, .inl f29)), ((Rf 30), .inl (cI, 7, .inl f30)), ((Rf 31), .inl (cI, 7, .inl f31)), ((Rf 13), .inl (cI, 240, .inl f13)), (h, .inr (10, ML u_71 Rf))] H := hP
            have hD : va_D A [((Rf 27), .inl (cI, 6, .inl f27)), ((Rf 28), .inl (cI, 6, .inl f28)), ((Rf 29), .inl (cI, 30, .inl f29)), ((Rf 30), .inl (cI, 7, .inl f30)), ((Rf 31), .inl (cI, 7, .inl f31)), ((Rf 13), .inl (cI, 240, .inl f13)), (h, .inr (10, ML u_71 Rf))] := hD
            exact hret r_72 (u_71, f27, f28, f29, f30, f31) _ _ _ _ dX10_takesClause_175 (narrow_b01 (Or.inl (congrArg Prod.fst hw_u_71))) hE (cutP (isC := [6, 5, 0, 1, 2, 3, 4]) hP rfl) (cutD (isC := [6, 5, 0, 1, 2, 3, 4]) hD rfl rfl) hS
        · replace hF := hF.2 c_51
          rw [if_neg c_51] at hE
          refine lv_iload_n hx hb dX10_takesClause_30 rfl (lv_at hl 0 rfl) ?_
          refine lv_bipush (v := 118) hx hb dX10_takesClause_31 (by decide) ?_
          refine lv_icmp_eq (tgt := 42) hx hb dX10_takesClause_33 (by decide) (fun c_73 => ?_) (fun c_73 => ?_)
          · replace hF := hF.1 c_73
            rw [if_pos c_73] at hE
            subst c_73
            refine lv_iconst (v := 1) hx hb dX10_takesClause_42 (by decide) ?_
            refine lv_goto (tgt := 47) hx hb dX10_takesClause_43 (by decide) ?_
            refine lv_istore_n (lv' := [(2, .int 1), (1, .int 118), (0, .ref h)]) hx hb dX10_takesClause_47 rfl hl (by decide) rfl (fun ls hl => ?_)
            refine lv_iload_n hx hb dX10_takesClause_48 rfl (lv_at hl 0 rfl) ?_
            refine lv_if_ne (tgt := 62) hx hb dX10_takesClause_49 (by decide) (fun c_74 => ?_) (fun c_74 => absurd c_74 (by decide +kernel))
            refine lv_iload_n hx hb dX10_takesClause_62 rfl (lv_at hl 1 rfl) ?_
            refine lv_bipush (v := 98) hx hb dX10_takesClause_63 (by decide) ?_
            refine lv_icmp_ne (tgt := 83) hx hb dX10_takesClause_65 (by decide) (fun c_75 => ?_) (fun c_75 => absurd c_75 (by decide +kernel))
            refine lv_iload_n hx hb dX10_takesClause_83 rfl (lv_at hl 1 rfl) ?_
            refine lv_bipush (v := 116) hx hb dX10_takesClause_84 (by decide) ?_
            refine lv_icmp_ne (tgt := 111) hx hb dX10_takesClause_86 (by decide) (fun c_76 => ?_) (fun c_76 => absurd c_76 (by decide +kernel))
            refine lv_iload_n hx hb dX10_takesClause_111 rfl (lv_at hl 1 rfl) ?_
            refine lv_bipush (v := 99) hx hb dX10_takesClause_112 (by decide) ?_
            refine lv_icmp_ne (tgt := 134) hx hb dX10_takesClause_114 (by decide) (fun c_77 => ?_) (fun c_77 => absurd c_77 (by decide +kernel))
            refine lv_iload_n hx hb dX10_takesClause_134 rfl (lv_at hl 1 rfl) ?_
            refine lv_bipush (v := 118) hx hb dX10_takesClause_135 (by decide) ?_
            refine lv_icmp_ne (tgt := 157) hx hb dX10_takesClause_137 (by decide) (fun c_78 => absurd (by decide +kernel) c_78) (fun c_78 => ?_)
            refine lv_aload_n hx hb dX10_takesClause_140 rfl (lv_at hl 2 rfl) ?_
            refine va_get (D := D) (ci := 10) (v := .int (u_2 24)) (C := RX10) (T := TX10) (N := 45) hx hb hts iX10 hown hK hP 5 rfl rfl 24 (by decide) (hts _ wd_543) (fun _ h9 => h9) rfl dX10_takesClause_141 ?_
            refine lv_bipush (v := 7) hx hb dX10_takesClause_144 (by decide) ?_
            refine lv_icmp_ne (tgt := 153) hx hb dX10_takesClause_146 (by decide) (fun c_79 => ?_) (fun c_79 => ?_)
            · replace hF := hF.2 c_79
              rw [if_neg c_79] at hE
              refine lv_iconst (v := 0) hx hb dX10_takesClause_153 (by decide) ?_
              refine lv_goto (tgt := 161) hx hb dX10_takesClause_154 (by decide) ?_
              refine lv_istore_n (lv' := [(3, .int 0), (2, .int 1), (1, .int 118), (0, .ref h)]) hx hb dX10_takesClause_161 rfl hl (by decide) rfl (fun ls hl => ?_)
              refine lv_iload_n hx hb dX10_takesClause_162 rfl (lv_at hl 0 rfl) ?_
              refine lv_if_eq (tgt := 176) hx hb dX10_takesClause_163 (by decide) (fun c_80 => ?_) (fun c_80 => absurd (by decide +kernel) c_80)
              refine lv_aload_n hx hb dX10_takesClause_176 rfl (lv_at hl 3 rfl) ?_
              refine lv_dup hx hb dX10_takesClause_177 rfl ?_
              refine va_get (D := D) (ci := 10) (v := .int (u_2 15)) (C := RX10) (T := TX10) (N := 45) hx hb hts iX10 hown hK hP 5 rfl rfl 15 (by decide) (hts _ wd_508) (fun _ h9 => h9) rfl dX10_takesClause_178 ?_
              refine lv_iconst (v := 1) hx hb dX10_takesClause_181 (by decide) ?_
              refine lv_iadd hx hb dX10_takesClause_182 ?_
              refine va_put (D := D) (ci := 10) (v := .int ((u_2 15) + 1)) (ty := .int) (C := RX10) (T := TX10) (N := 45) hx hb hts iX10 tyX10 tyX10_ok nmX10 hown hK hP hD hS 5 rfl rfl 15 (by decide) (hts _ wd_508) (fun _ h9 => h9) rfl (by decide +kernel) rfl rfl (Nat.le_of_ble_eq_true rfl) dX10_takesClause_183 (fun H locs hP hD hS => ?_)
              have hP : va_P D classes [((Rf 27), .inl (cI, 6, .inl f27)), ((Rf 28), .inl (cI, 6, .inl f28)), ((Rf 29), .inl (cI, 30, .inl f29)), ((Rf 30), .inl (cI, 7, .inl f30)), ((Rf 31), .inl (cI, 7, .inl f31)), (h, .inr (10, ML (upd u_2 15 ((u_2 15) + 1)) Rf)), ((Rf 13), .inl (cI, 240, .inl f13))] H := hP
              have hD : va_D A [((Rf 27), .inl (cI, 6, .inl f27)), ((Rf 28), .inl (cI, 6, .inl f28)), ((Rf 29), .inl (cI, 30, .inl f29)), ((Rf 30), .inl (cI, 7, .inl f30)), ((Rf 31), .inl (cI, 7, .inl f31)), (h, .inr (10, ML (upd u_2 15 ((u_2 15) + 1)) Rf)), ((Rf 13), .inl (cI, 240, .inl f13))] := hD
              refine lv_iload_n hx hb dX10_takesClause_186 rfl (lv_at hl 2 rfl) ?_
              refine lv_lookup (off := 68) (tgt := 255) hx hb dX10_takesClause_187 (by decide +kernel) (by decide +kernel) (by decide) ?_
              refine lv_aload_n hx hb dX10_takesClause_255 rfl (lv_at hl 3 rfl) ?_
              obtain ⟨hs_81, hF⟩ := hF
              refine cVi (wr := [((Rf 27), .inl (cI, 6, .inl f27)), ((Rf 28), .inl (cI, 6, .inl f28)), ((Rf 29), .inl (cI, 30, .inl f29))]) (rest := []) (m_takesBarge Rf h (upd u_2 15 ((u_2 15) + 1)) f13 f30 f31 hs_81) okV_X10_takesBarge wd_635 hx hb hml hown hts hK hP hD hS hA hN hl.1 [5, 6, 3, 4] [0, 1, 2] rfl rfl rfl rfl (by decide) rfl rfl rfl (Nat.le_of_ble_eq_true rfl) (Nat.le_of_ble_eq_true rfl) (Nat.le_of_ble_eq_true rfl) (Nat.le_of_ble_eq_true rfl) (Nat.le_of_ble_eq_true rfl) dX10_takesClause_256 (fun r_83 u_82 H locs hw_u_82 hP hD hS => ?_)
              obtain ⟨o_84, o_85, o_86⟩ := u_82
              replace hw_u_82 : (r_83, o_84, o_85, o_86) = (f_m_takesBarge (upd u_2 15 ((u_2 15) + 1)) f13 f30 f31) := hw_u_82
              replace hF := hF r_83 o_84 o_85 o_86 hw_u_82
              rw [← hw_u_82] at hE
              replace hE : ((if r_83 = 0 then (0, o_84, f27, f28, f29, o_85, o_86) else (match (f_m_takes o_84 f13 59) with | (r_90, u_89) => (if r_90 = 0 then (0, u_89, f27, f28, f29, o_85, o_86) else (1, u_89, f27, f28, f29, o_85, o_86)))) : Int32 × (Nat → Int32) × (Nat → Int32) × (Nat → Int32) × (Nat → Int32) × (Nat → Int32) × (Nat → Int32)) = RES := hE
              have hP : va_P D classes [((Rf 27), .inl (cI, 6, .inl f27)), ((Rf 28), .inl (cI, 6, .inl f28)), ((Rf 29), .inl (cI, 30, .inl f29)), (h, .inr (10, ML o_84 Rf)), ((Rf 13), .inl (cI, 240, .inl f13)), ((Rf 30), .inl (cI, 7, .inl o_85)), ((Rf 31), .inl (cI, 7, .inl o_86))] H := hP
              have hD : va_D A [((Rf 27), .inl (cI, 6, .inl f27)), ((Rf 28), .inl (cI, 6, .inl f28)), ((Rf 29), .inl (cI, 30, .inl f29)), (h, .inr (10, ML o_84 Rf)), ((Rf 13), .inl (cI, 240, .inl f13)), ((Rf 30), .inl (cI, 7, .inl o_85)), ((Rf 31), .inl (cI, 7, .inl o_86))] := hD
              refine lv_istore (lv' := [(4, .int r_83), (3, .int 0), (2, .int 1), (1, .int 118), (0, .ref h)]) hx hb dX10_takesClause_259 hl (by decide) rfl (fun ls hl => ?_)
              refine lv_goto (tgt := 270) hx hb dX10_takesClause_261 (by decide) ?_
              refine lv_iload hx hb dX10_takesClause_270 (lv_at hl 0 rfl) ?_
              refine lv_if_eq (tgt := 288) hx hb dX10_takesClause_272 (by decide) (fun c_87 => ?_) (fun c_87 => ?_)
              · replace hF := hF.1 c_87
                rw [if_pos c_87] at hE
                subst c_87
                refine lv_iconst (v := 0) hx hb dX10_takesClause_288 (by decide) ?_
                exact hret 0 (o_84, f27, f28, f29, o_85, o_86) _ _ _ _ dX10_takesClause_289 rfl hE (cutP (isC := [3, 4, 0, 1, 2, 5, 6]) hP rfl) (cutD (isC := [3, 4, 0, 1, 2, 5, 6]) hD rfl rfl) hS
              · replace hF := hF.2 c_87
                rw [if_neg c_87] at hE
                refine lv_aload_n hx hb dX10_takesClause_275 rfl (lv_at hl 4 rfl) ?_
                refine lv_bipush (v := 59) hx hb dX10_takesClause_276 (by decide) ?_
                obtain ⟨hs_88, hF⟩ := hF
                refine cVi (wr := [((Rf 27), .inl (cI, 6, .inl f27)), ((Rf 28), .inl (cI, 6, .inl f28)), ((Rf 29), .inl (cI, 30, .inl f29)), ((Rf 30), .inl (cI, 7, .inl o_85)), ((Rf 31), .inl (cI, 7, .inl o_86))]) (rest := []) (m_takes Rf h o_84 f13 59 hs_88) okV_X10_takes wd_538 hx hb hml hown hts hK hP hD hS hA hN hl.1 [3, 4] [0, 1, 2, 5, 6] rfl rfl rfl rfl (by decide) rfl rfl rfl (Nat.le_of_ble_eq_true rfl) (Nat.le_of_ble_eq_true rfl) (Nat.le_of_ble_eq_true rfl) (Nat.le_of_ble_eq_true rfl) (Nat.le_of_ble_eq_true rfl) dX10_takesClause_278 (fun r_90 u_89 H locs hw_u_89 hP hD hS => ?_)
                replace hw_u_89 : (r_90, u_89) = (f_m_takes o_84 f13 59) := hw_u_89
                replace hF := hF r_90 u_89 hw_u_89
                rw [← hw_u_89] at hE
                replace hE : ((if r_90 = 0 then (0, u_89, f27, f28, f29, o_85, o_86) else (1, u_89, f27, f28, f29, o_85, o_86)) : Int32 × (Nat → Int32) × (Nat → Int32) × (Nat → Int32) × (Nat → Int32) × (Nat → Int32) × (Nat → Int32)) = RES := hE
                have hP : va_P D classes [((Rf 27), .inl (cI, 6, .inl f27)), ((Rf 28), .inl (cI, 6, .inl f28)), ((Rf 29), .inl (cI, 30, .inl f29)), ((Rf 30), .inl (cI, 7, .inl o_85)), ((Rf 31), .inl (cI, 7, .inl o_86)), (h, .inr (10, ML u_89 Rf)), ((Rf 13), .inl (cI, 240, .inl f13))] H := hP
                have hD : va_D A [((Rf 27), .inl (cI, 6, .inl f27)), ((Rf 28), .inl (cI, 6, .inl f28)), ((Rf 29), .inl (cI, 30, .inl f29)), ((Rf 30), .inl (cI, 7, .inl o_85)), ((Rf 31), .inl (cI, 7, .inl o_86)), (h, .inr (10, ML u_89 Rf)), ((Rf 13), .inl (cI, 240, .inl f13))] := hD
                refine lv_if_eq (tgt := 288) hx hb dX10_takesClause_281 (by decide) (fun c_91 => ?_) (fun c_91 => ?_)
                · replace hF := hF.1 c_91
                  rw [if_pos c_91] at hE
                  subst c_91
                  refine lv_iconst (v := 0) hx hb dX10_takesClause_288 (by decide) ?_
                  exact hret 0 (u_89, f27, f28, f29, o_85, o_86) _ _ _ _ dX10_takesClause_289 rfl hE (cutP (isC := [5, 6, 0, 1, 2, 3, 4]) hP rfl) (cutD (isC := [5, 6, 0, 1, 2, 3, 4]) hD rfl rfl) hS
                · replace hF := hF.2 c_91
                  rw [if_neg c_91] at hE
                  refine lv_iconst (v := 1) hx hb dX10_takesClause_284 (by decide) ?_
                  refine lv_goto (tgt := 289) hx hb dX10_takesClause_285 (by decide) ?_
                  exact hret 1 (u_89, f27, f28, f29, o_85, o_86) _ _ _ _ dX10_takesClause_289 rfl hE (cutP (isC := [5, 6, 0, 1, 2, 3, 4]) hP rfl) (cutD (isC := [5, 6, 0, 1, 2, 3, 4]) hD rfl rfl) hS
            · replace hF := hF.1 c_79
              rw [if_pos c_79] at hE
              refine lv_iconst (v := 1) hx hb dX10_takesClause_149 (by decide) ?_
              refine lv_goto (tgt := 161) hx hb dX10_takesClause_150 (by decide) ?_
              refine lv_istore_n (lv' := [(3, .int 1), (2, .int 1), (1, .int 118), (0, .ref h)]) hx hb dX10_takesClause_161 rfl hl (by decide) rfl (fun ls hl => ?_)
              refine lv_iload_n hx hb dX10_takesClause_162 rfl (lv_at hl 0 rfl) ?_
              refine lv_if_eq (tgt := 176) hx hb dX10_takesClause_163 (by decide) (fun c_92 => absurd c_92 (by decide +kernel)) (fun c_92 => ?_)
              refine lv_aload_n hx hb dX10_takesClause_166 rfl (lv_at hl 3 rfl) ?_
              refine lv_iconst (v := 3) hx hb dX10_takesClause_167 (by decide) ?_
              refine lv_aload_n hx hb dX10_takesClause_168 rfl (lv_at hl 3 rfl) ?_
              refine va_get (D := D) (ci := 10) (v := .int (u_2 16)) (C := RX10) (T := TX10) (N := 45) hx hb hts iX10 hown hK hP 5 rfl rfl 16 (by decide) (hts _ wd_509) (fun _ h9 => h9) rfl dX10_takesClause_169 ?_
              obtain ⟨hs_93, hF⟩ := hF
              refine cVi (wr := [((Rf 27), .inl (cI, 6, .inl f27)), ((Rf 28), .inl (cI, 6, .inl f28)), ((Rf 29), .inl (cI, 30, .inl f29)), ((Rf 30), .inl (cI, 7, .inl f30)), ((Rf 31), .inl (cI, 7, .inl f31)), ((Rf 13), .inl (cI, 240, .inl f13))]) (rest := []) (m_fails Rf h u_2 3 (u_2 16) hs_93) okV_X10_fails wd_520 hx hb hml hown hts hK hP hD hS hA hN hl.1 [5] [0, 1, 2, 3, 4, 6] rfl rfl rfl rfl (by decide) rfl rfl rfl (Nat.le_of_ble_eq_true rfl) (Nat.le_of_ble_eq_true rfl) (Nat.le_of_ble_eq_true rfl) (Nat.le_of_ble_eq_true rfl) (Nat.le_of_ble_eq_true rfl) dX10_takesClause_172 (fun r_95 u_94 H locs hw_u_94 hP hD hS => ?_)
              replace hw_u_94 : (r_95, u_94) = (f_m_fails u_2 3 (u_2 16)) := hw_u_94
              replace hF := hF r_95 u_94 hw_u_94
              rw [← hw_u_94] at hE
              replace hE : ((r_95, u_94, f27, f28, f29, f30, f31) : Int32 × (Nat → Int32) × (Nat → Int32) × (Nat → Int32) × (Nat → Int32) × (Nat → Int32) × (Nat → Int32)) = RES := hE
              have hP : va_P D classes [((Rf 27), .inl (cI, 6, .inl f27)), ((Rf 28), .inl (cI, 6, .inl f28)), ((Rf 29), .inl (cI, 30, .inl f29)), ((Rf 30), .inl (cI, 7, .inl f30)), ((Rf 31), .inl (cI, 7, .inl f31)), ((Rf 13), .inl (cI, 240, .inl f13)), (h, .inr (10, ML u_94 Rf))] H := hP
              have hD : va_D A [((Rf 27), .inl (cI, 6, .inl f27)), ((Rf 28), .inl (cI, 6, .inl f28)), ((Rf 29), .inl (cI, 30, .inl f29)), ((Rf 30), .inl (cI, 7, .inl f30)), ((Rf 31), .inl (cI, 7, .inl f31)), ((Rf 13), .inl (cI, 240, .inl f13)), (h, .inr (10, ML u_94 Rf))] := hD
              exact hret r_95 (u_94, f27, f28, f29, f30, f31) _ _ _ _ dX10_takesClause_175 (narrow_b01 (Or.inl (congrArg Prod.fst hw_u_94))) hE (cutP (isC := [6, 5, 0, 1, 2, 3, 4]) hP rfl) (cutD (isC := [6, 5, 0, 1, 2, 3, 4]) hD rfl rfl) hS
          · replace hF := hF.2 c_73
            rw [if_neg c_73] at hE
            refine lv_iload_n hx hb dX10_takesClause_36 rfl (lv_at hl 0 rfl) ?_
            refine lv_bipush (v := 115) hx hb dX10_takesClause_37 (by decide) ?_
            refine lv_icmp_ne (tgt := 46) hx hb dX10_takesClause_39 (by decide) (fun c_96 => ?_) (fun c_96 => ?_)
            · replace hF := hF.2 c_96
              rw [if_neg c_96] at hE
              refine lv_iconst (v := 0) hx hb dX10_takesClause_46 (by decide) ?_
              refine lv_istore_n (lv' := [(2, .int 0), (1, .int r_3), (0, .ref h)]) hx hb dX10_takesClause_47 rfl hl (by decide) rfl (fun ls hl => ?_)
              refine lv_iload_n hx hb dX10_takesClause_48 rfl (lv_at hl 0 rfl) ?_
              refine lv_if_ne (tgt := 62) hx hb dX10_takesClause_49 (by decide) (fun c_97 => absurd (by decide +kernel) c_97) (fun c_97 => ?_)
              refine lv_aload_n hx hb dX10_takesClause_52 rfl (lv_at hl 2 rfl) ?_
              refine lv_iconst (v := 1) hx hb dX10_takesClause_53 (by decide) ?_
              refine lv_aload_n hx hb dX10_takesClause_54 rfl (lv_at hl 2 rfl) ?_
              refine va_get (D := D) (ci := 10) (v := .int (u_2 16)) (C := RX10) (T := TX10) (N := 45) hx hb hts iX10 hown hK hP 5 rfl rfl 16 (by decide) (hts _ wd_509) (fun _ h9 => h9) rfl dX10_takesClause_55 ?_
              obtain ⟨hs_98, hF⟩ := hF
              refine cVi (wr := [((Rf 27), .inl (cI, 6, .inl f27)), ((Rf 28), .inl (cI, 6, .inl f28)), ((Rf 29), .inl (cI, 30, .inl f29)), ((Rf 30), .inl (cI, 7, .inl f30)), ((Rf 31), .inl (cI, 7, .inl f31)), ((Rf 13), .inl (cI, 240, .inl f13))]) (rest := []) (m_fails Rf h u_2 1 (u_2 16) hs_98) okV_X10_fails wd_520 hx hb hml hown hts hK hP hD hS hA hN hl.1 [5] [0, 1, 2, 3, 4, 6] rfl rfl rfl rfl (by decide) rfl rfl rfl (Nat.le_of_ble_eq_true rfl) (Nat.le_of_ble_eq_true rfl) (Nat.le_of_ble_eq_true rfl) (Nat.le_of_ble_eq_true rfl) (Nat.le_of_ble_eq_true rfl) dX10_takesClause_58 (fun r_100 u_99 H locs hw_u_99 hP hD hS => ?_)
              replace hw_u_99 : (r_100, u_99) = (f_m_fails u_2 1 (u_2 16)) := hw_u_99
              replace hF := hF r_100 u_99 hw_u_99
              rw [← hw_u_99] at hE
              replace hE : ((r_100, u_99, f27, f28, f29, f30, f31) : Int32 × (Nat → Int32) × (Nat → Int32) × (Nat → Int32) × (Nat → Int32) × (Nat → Int32) × (Nat → Int32)) = RES := hE
              have hP : va_P D classes [((Rf 27), .inl (cI, 6, .inl f27)), ((Rf 28), .inl (cI, 6, .inl f28)), ((Rf 29), .inl (cI, 30, .inl f29)), ((Rf 30), .inl (cI, 7, .inl f30)), ((Rf 31), .inl (cI, 7, .inl f31)), ((Rf 13), .inl (cI, 240, .inl f13)), (h, .inr (10, ML u_99 Rf))] H := hP
              have hD : va_D A [((Rf 27), .inl (cI, 6, .inl f27)), ((Rf 28), .inl (cI, 6, .inl f28)), ((Rf 29), .inl (cI, 30, .inl f29)), ((Rf 30), .inl (cI, 7, .inl f30)), ((Rf 31), .inl (cI, 7, .inl f31)), ((Rf 13), .inl (cI, 240, .inl f13)), (h, .inr (10, ML u_99 Rf))] := hD
              exact hret r_100 (u_99, f27, f28, f29, f30, f31) _ _ _ _ dX10_takesClause_61 (narrow_b01 (Or.inl (congrArg Prod.fst hw_u_99))) hE (cutP (isC := [6, 5, 0, 1, 2, 3, 4]) hP rfl) (cutD (isC := [6, 5, 0, 1, 2, 3, 4]) hD rfl rfl) hS
            · replace hF := hF.1 c_96
              rw [if_pos c_96] at hE
              subst c_96
              refine lv_iconst (v := 1) hx hb dX10_takesClause_42 (by decide) ?_
              refine lv_goto (tgt := 47) hx hb dX10_takesClause_43 (by decide) ?_
              refine lv_istore_n (lv' := [(2, .int 1), (1, .int 115), (0, .ref h)]) hx hb dX10_takesClause_47 rfl hl (by decide) rfl (fun ls hl => ?_)
              refine lv_iload_n hx hb dX10_takesClause_48 rfl (lv_at hl 0 rfl) ?_
              refine lv_if_ne (tgt := 62) hx hb dX10_takesClause_49 (by decide) (fun c_101 => ?_) (fun c_101 => absurd c_101 (by decide +kernel))
              refine lv_iload_n hx hb dX10_takesClause_62 rfl (lv_at hl 1 rfl) ?_
              refine lv_bipush (v := 98) hx hb dX10_takesClause_63 (by decide) ?_
              refine lv_icmp_ne (tgt := 83) hx hb dX10_takesClause_65 (by decide) (fun c_102 => ?_) (fun c_102 => absurd c_102 (by decide +kernel))
              refine lv_iload_n hx hb dX10_takesClause_83 rfl (lv_at hl 1 rfl) ?_
              refine lv_bipush (v := 116) hx hb dX10_takesClause_84 (by decide) ?_
              refine lv_icmp_ne (tgt := 111) hx hb dX10_takesClause_86 (by decide) (fun c_103 => ?_) (fun c_103 => absurd c_103 (by decide +kernel))
              refine lv_iload_n hx hb dX10_takesClause_111 rfl (lv_at hl 1 rfl) ?_
              refine lv_bipush (v := 99) hx hb dX10_takesClause_112 (by decide) ?_
              refine lv_icmp_ne (tgt := 134) hx hb dX10_takesClause_114 (by decide) (fun c_104 => ?_) (fun c_104 => absurd c_104 (by decide +kernel))
              refine lv_iload_n hx hb dX10_takesClause_134 rfl (lv_at hl 1 rfl) ?_
              refine lv_bipush (v := 118) hx hb dX10_takesClause_135 (by decide) ?_
              refine lv_icmp_ne (tgt := 157) hx hb dX10_takesClause_137 (by decide) (fun c_105 => ?_) (fun c_105 => absurd c_105 (by decide +kernel))
              refine lv_aload_n hx hb dX10_takesClause_157 rfl (lv_at hl 2 rfl) ?_
              refine va_get (D := D) (ci := 10) (v := .int (u_2 26)) (C := RX10) (T := TX10) (N := 45) hx hb hts iX10 hown hK hP 5 rfl rfl 26 (by decide) (hts _ wd_545) (fun _ h9 => h9) rfl dX10_takesClause_158 ?_
              refine lv_istore_n (lv' := [(3, .int (u_2 26)), (2, .int 1), (1, .int 115), (0, .ref h)]) hx hb dX10_takesClause_161 rfl hl (by decide) rfl (fun ls hl => ?_)
              refine lv_iload_n hx hb dX10_takesClause_162 rfl (lv_at hl 0 rfl) ?_
              refine lv_if_eq (tgt := 176) hx hb dX10_takesClause_163 (by decide) (fun c_106 => ?_) (fun c_106 => ?_)
              · replace hF := hF.1 c_106
                rw [if_pos c_106] at hE
                refine lv_aload_n hx hb dX10_takesClause_176 rfl (lv_at hl 3 rfl) ?_
                refine lv_dup hx hb dX10_takesClause_177 rfl ?_
                refine va_get (D := D) (ci := 10) (v := .int (u_2 15)) (C := RX10) (T := TX10) (N := 45) hx hb hts iX10 hown hK hP 5 rfl rfl 15 (by decide) (hts _ wd_508) (fun _ h9 => h9) rfl dX10_takesClause_178 ?_
                refine lv_iconst (v := 1) hx hb dX10_takesClause_181 (by decide) ?_
                refine lv_iadd hx hb dX10_takesClause_182 ?_
                refine va_put (D := D) (ci := 10) (v := .int ((u_2 15) + 1)) (ty := .int) (C := RX10) (T := TX10) (N := 45) hx hb hts iX10 tyX10 tyX10_ok nmX10 hown hK hP hD hS 5 rfl rfl 15 (by decide) (hts _ wd_508) (fun _ h9 => h9) rfl (by decide +kernel) rfl rfl (Nat.le_of_ble_eq_true rfl) dX10_takesClause_183 (fun H locs hP hD hS => ?_)
                have hP : va_P D classes [((Rf 27), .inl (cI, 6, .inl f27)), ((Rf 28), .inl (cI, 6, .inl f28)), ((Rf 29), .inl (cI, 30, .inl f29)), ((Rf 30), .inl (cI, 7, .inl f30)), ((Rf 31), .inl (cI, 7, .inl f31)), (h, .inr (10, ML (upd u_2 15 ((u_2 15) + 1)) Rf)), ((Rf 13), .inl (cI, 240, .inl f13))] H := hP
                have hD : va_D A [((Rf 27), .inl (cI, 6, .inl f27)), ((Rf 28), .inl (cI, 6, .inl f28)), ((Rf 29), .inl (cI, 30, .inl f29)), ((Rf 30), .inl (cI, 7, .inl f30)), ((Rf 31), .inl (cI, 7, .inl f31)), (h, .inr (10, ML (upd u_2 15 ((u_2 15) + 1)) Rf)), ((Rf 13), .inl (cI, 240, .inl f13))] := hD
                refine lv_iload_n hx hb dX10_takesClause_186 rfl (lv_at hl 2 rfl) ?_
                refine lv_lookup (off := 77) (tgt := 264) hx hb dX10_takesClause_187 (by decide +kernel) (by decide +kernel) (by decide) ?_
                refine lv_aload_n hx hb dX10_takesClause_264 rfl (lv_at hl 3 rfl) ?_
                obtain ⟨hs_107, hF⟩ := hF
                refine cVi (wr := [((Rf 27), .inl (cI, 6, .inl f27)), ((Rf 28), .inl (cI, 6, .inl f28)), ((Rf 29), .inl (cI, 30, .inl f29)), ((Rf 30), .inl (cI, 7, .inl f30)), ((Rf 31), .inl (cI, 7, .inl f31))]) (rest := []) (m_takesSnow Rf h (upd u_2 15 ((u_2 15) + 1)) f13 hs_107) okV_X10_takesSnow wd_639 hx hb hml hown hts hK hP hD hS hA hN hl.1 [5, 6] [0, 1, 2, 3, 4] rfl rfl rfl rfl (by decide) rfl rfl rfl (Nat.le_of_ble_eq_true rfl) (Nat.le_of_ble_eq_true rfl) (Nat.le_of_ble_eq_true rfl) (Nat.le_of_ble_eq_true rfl) (Nat.le_of_ble_eq_true rfl) dX10_takesClause_265 (fun r_109 u_108 H locs hw_u_108 hP hD hS => ?_)
                replace hw_u_108 : (r_109, u_108) = (f_m_takesSnow (upd u_2 15 ((u_2 15) + 1)) f13) := hw_u_108
                replace hF := hF r_109 u_108 hw_u_108
                rw [← hw_u_108] at hE
                replace hE : ((if r_109 = 0 then (0, u_108, f27, f28, f29, f30, f31) else (match (f_m_takes u_108 f13 59) with | (r_113, u_112) => (if r_113 = 0 then (0, u_112, f27, f28, f29, f30, f31) else (1, u_112, f27, f28, f29, f30, f31)))) : Int32 × (Nat → Int32) × (Nat → Int32) × (Nat → Int32) × (Nat → Int32) × (Nat → Int32) × (Nat → Int32)) = RES := hE
                have hP : va_P D classes [((Rf 27), .inl (cI, 6, .inl f27)), ((Rf 28), .inl (cI, 6, .inl f28)), ((Rf 29), .inl (cI, 30, .inl f29)), ((Rf 30), .inl (cI, 7, .inl f30)), ((Rf 31), .inl (cI, 7, .inl f31)), (h, .inr (10, ML u_108 Rf)), ((Rf 13), .inl (cI, 240, .inl f13))] H := hP
                have hD : va_D A [((Rf 27), .inl (cI, 6, .inl f27)), ((Rf 28), .inl (cI, 6, .inl f28)), ((Rf 29), .inl (cI, 30, .inl f29)), ((Rf 30), .inl (cI, 7, .inl f30)), ((Rf 31), .inl (cI, 7, .inl f31)), (h, .inr (10, ML u_108 Rf)), ((Rf 13), .inl (cI, 240, .inl f13))] := hD
                refine lv_istore (lv' := [(4, .int r_109), (3, .int (u_2 26)), (2, .int 1), (1, .int 115), (0, .ref h)]) hx hb dX10_takesClause_268 hl (by decide) rfl (fun ls hl => ?_)
                refine lv_iload hx hb dX10_takesClause_270 (lv_at hl 0 rfl) ?_
                refine lv_if_eq (tgt := 288) hx hb dX10_takesClause_272 (by decide) (fun c_110 => ?_) (fun c_110 => ?_)
                · replace hF := hF.1 c_110
                  rw [if_pos c_110] at hE
                  subst c_110
                  refine lv_iconst (v := 0) hx hb dX10_takesClause_288 (by decide) ?_
                  exact hret 0 (u_108, f27, f28, f29, f30, f31) _ _ _ _ dX10_takesClause_289 rfl hE (cutP (isC := [5, 6, 0, 1, 2, 3, 4]) hP rfl) (cutD (isC := [5, 6, 0, 1, 2, 3, 4]) hD rfl rfl) hS
                · replace hF := hF.2 c_110
                  rw [if_neg c_110] at hE
                  refine lv_aload_n hx hb dX10_takesClause_275 rfl (lv_at hl 4 rfl) ?_
                  refine lv_bipush (v := 59) hx hb dX10_takesClause_276 (by decide) ?_
                  obtain ⟨hs_111, hF⟩ := hF
                  refine cVi (wr := [((Rf 27), .inl (cI, 6, .inl f27)), ((Rf 28), .inl (cI, 6, .inl f28)), ((Rf 29), .inl (cI, 30, .inl f29)), ((Rf 30), .inl (cI, 7, .inl f30)), ((Rf 31), .inl (cI, 7, .inl f31))]) (rest := []) (m_takes Rf h u_108 f13 59 hs_111) okV_X10_takes wd_538 hx hb hml hown hts hK hP hD hS hA hN hl.1 [5, 6] [0, 1, 2, 3, 4] rfl rfl rfl rfl (by decide) rfl rfl rfl (Nat.le_of_ble_eq_true rfl) (Nat.le_of_ble_eq_true rfl) (Nat.le_of_ble_eq_true rfl) (Nat.le_of_ble_eq_true rfl) (Nat.le_of_ble_eq_true rfl) dX10_takesClause_278 (fun r_113 u_112 H locs hw_u_112 hP hD hS => ?_)
                  replace hw_u_112 : (r_113, u_112) = (f_m_takes u_108 f13 59) := hw_u_112
                  replace hF := hF r_113 u_112 hw_u_112
                  rw [← hw_u_112] at hE
                  replace hE : ((if r_113 = 0 then (0, u_112, f27, f28, f29, f30, f31) else (1, u_112, f27, f28, f29, f30, f31)) : Int32 × (Nat → Int32) × (Nat → Int32) × (Nat → Int32) × (Nat → Int32) × (Nat → Int32) × (Nat → Int32)) = RES := hE
                  have hP : va_P D classes [((Rf 27), .inl (cI, 6, .inl f27)), ((Rf 28), .inl (cI, 6, .inl f28)), ((Rf 29), .inl (cI, 30, .inl f29)), ((Rf 30), .inl (cI, 7, .inl f30)), ((Rf 31), .inl (cI, 7, .inl f31)), (h, .inr (10, ML u_112 Rf)), ((Rf 13), .inl (cI, 240, .inl f13))] H := hP
                  have hD : va_D A [((Rf 27), .inl (cI, 6, .inl f27)), ((Rf 28), .inl (cI, 6, .inl f28)), ((Rf 29), .inl (cI, 30, .inl f29)), ((Rf 30), .inl (cI, 7, .inl f30)), ((Rf 31), .inl (cI, 7, .inl f31)), (h, .inr (10, ML u_112 Rf)), ((Rf 13), .inl (cI, 240, .inl f13))] := hD
                  refine lv_if_eq (tgt := 288) hx hb dX10_takesClause_281 (by decide) (fun c_114 => ?_) (fun c_114 => ?_)
                  · replace hF := hF.1 c_114
                    rw [if_pos c_114] at hE
                    subst c_114
                    refine lv_iconst (v := 0) hx hb dX10_takesClause_288 (by decide) ?_
                    exact hret 0 (u_112, f27, f28, f29, f30, f31) _ _ _ _ dX10_takesClause_289 rfl hE (cutP (isC := [5, 6, 0, 1, 2, 3, 4]) hP rfl) (cutD (isC := [5, 6, 0, 1, 2, 3, 4]) hD rfl rfl) hS
                  · replace hF := hF.2 c_114
                    rw [if_neg c_114] at hE
                    refine lv_iconst (v := 1) hx hb dX10_takesClause_284 (by decide) ?_
                    refine lv_goto (tgt := 289) hx hb dX10_takesClause_285 (by decide) ?_
                    exact hret 1 (u_112, f27, f28, f29, f30, f31) _ _ _ _ dX10_takesClause_289 rfl hE (cutP (isC := [5, 6, 0, 1, 2, 3, 4]) hP rfl) (cutD (isC := [5, 6, 0, 1, 2, 3, 4]) hD rfl rfl) hS
              · replace hF := hF.2 c_106
                rw [if_neg c_106] at hE
                refine lv_aload_n hx hb dX10_takesClause_166 rfl (lv_at hl 3 rfl) ?_
                refine lv_iconst (v := 3) hx hb dX10_takesClause_167 (by decide) ?_
                refine lv_aload_n hx hb dX10_takesClause_168 rfl (lv_at hl 3 rfl) ?_
                refine va_get (D := D) (ci := 10) (v := .int (u_2 16)) (C := RX10) (T := TX10) (N := 45) hx hb hts iX10 hown hK hP 5 rfl rfl 16 (by decide) (hts _ wd_509) (fun _ h9 => h9) rfl dX10_takesClause_169 ?_
                obtain ⟨hs_115, hF⟩ := hF
                refine cVi (wr := [((Rf 27), .inl (cI, 6, .inl f27)), ((Rf 28), .inl (cI, 6, .inl f28)), ((Rf 29), .inl (cI, 30, .inl f29)), ((Rf 30), .inl (cI, 7, .inl f30)), ((Rf 31), .inl (cI, 7, .inl f31)), ((Rf 13), .inl (cI, 240, .inl f13))]) (rest := []) (m_fails Rf h u_2 3 (u_2 16) hs_115) okV_X10_fails wd_520 hx hb hml hown hts hK hP hD hS hA hN hl.1 [5] [0, 1, 2, 3, 4, 6] rfl rfl rfl rfl (by decide) rfl rfl rfl (Nat.le_of_ble_eq_true rfl) (Nat.le_of_ble_eq_true rfl) (Nat.le_of_ble_eq_true rfl) (Nat.le_of_ble_eq_true rfl) (Nat.le_of_ble_eq_true rfl) dX10_takesClause_172 (fun r_117 u_116 H locs hw_u_116 hP hD hS => ?_)
                replace hw_u_116 : (r_117, u_116) = (f_m_fails u_2 3 (u_2 16)) := hw_u_116
                replace hF := hF r_117 u_116 hw_u_116
                rw [← hw_u_116] at hE
                replace hE : ((r_117, u_116, f27, f28, f29, f30, f31) : Int32 × (Nat → Int32) × (Nat → Int32) × (Nat → Int32) × (Nat → Int32) × (Nat → Int32) × (Nat → Int32)) = RES := hE
                have hP : va_P D classes [((Rf 27), .inl (cI, 6, .inl f27)), ((Rf 28), .inl (cI, 6, .inl f28)), ((Rf 29), .inl (cI, 30, .inl f29)), ((Rf 30), .inl (cI, 7, .inl f30)), ((Rf 31), .inl (cI, 7, .inl f31)), ((Rf 13), .inl (cI, 240, .inl f13)), (h, .inr (10, ML u_116 Rf))] H := hP
                have hD : va_D A [((Rf 27), .inl (cI, 6, .inl f27)), ((Rf 28), .inl (cI, 6, .inl f28)), ((Rf 29), .inl (cI, 30, .inl f29)), ((Rf 30), .inl (cI, 7, .inl f30)), ((Rf 31), .inl (cI, 7, .inl f31)), ((Rf 13), .inl (cI, 240, .inl f13)), (h, .inr (10, ML u_116 Rf))] := hD
                exact hret r_117 (u_116, f27, f28, f29, f30, f31) _ _ _ _ dX10_takesClause_175 (narrow_b01 (Or.inl (congrArg Prod.fst hw_u_116))) hE (cutP (isC := [6, 5, 0, 1, 2, 3, 4]) hP rfl) (cutD (isC := [6, 5, 0, 1, 2, 3, 4]) hD rfl rfl) hS
