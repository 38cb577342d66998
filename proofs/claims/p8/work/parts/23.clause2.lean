theorem dX5_readClause_0 : decode cX5_readClause 0 = .ok (.aload_n 0, 1) := by decide +kernel
theorem dX5_readClause_1 : decode cX5_readClause 1 = .ok (.invokevirtual 40, 3) := by decide +kernel
theorem dX5_readClause_4 : decode cX5_readClause 4 = .ok (.istore_n 2, 1) := by decide +kernel
theorem dX5_readClause_5 : decode cX5_readClause 5 = .ok (.iload_n 2, 1) := by decide +kernel
theorem dX5_readClause_6 : decode cX5_readClause 6 = .ok (.bipush 98, 2) := by decide +kernel
theorem dX5_readClause_8 : decode cX5_readClause 8 = .ok (.if_icmp .eq 27, 3) := by decide +kernel
theorem dX5_readClause_35 : decode cX5_readClause 35 = .ok (.iconst 1, 1) := by decide +kernel
theorem dX5_readClause_36 : decode cX5_readClause 36 = .ok (.goto 4, 3) := by decide +kernel
theorem dX5_readClause_40 : decode cX5_readClause 40 = .ok (.istore_n 3, 1) := by decide +kernel
theorem dX5_readClause_41 : decode cX5_readClause 41 = .ok (.iload_n 3, 1) := by decide +kernel
theorem dX5_readClause_42 : decode cX5_readClause 42 = .ok (.ifCond .eq 16, 3) := by decide +kernel
theorem dX5_readClause_45 : decode cX5_readClause 45 = .ok (.aload_n 1, 1) := by decide +kernel
theorem dX5_readClause_46 : decode cX5_readClause 46 = .ok (.getfield 48, 3) := by decide +kernel
theorem dX5_readClause_49 : decode cX5_readClause 49 = .ok (.ifCond .ne 19, 3) := by decide +kernel
theorem dX5_readClause_68 : decode cX5_readClause 68 = .ok (.aload_n 0, 1) := by decide +kernel
theorem dX5_readClause_69 : decode cX5_readClause 69 = .ok (.iload_n 2, 1) := by decide +kernel
theorem dX5_readClause_70 : decode cX5_readClause 70 = .ok (.aload_n 1, 1) := by decide +kernel
theorem dX5_readClause_71 : decode cX5_readClause 71 = .ok (.invokevirtual 55, 3) := by decide +kernel
theorem wd_226 : Cond.methodLink RX5 55 yX5_isTooOften ∈ BG := BG_at 362 (by decide +kernel) rfl
theorem wd_227 : Cond.code yX5_isTooOften cX5_isTooOften 3 (some .boolean) ∈ BG := BG_at 365 (by decide +kernel) rfl
theorem wd_228 : Cond.instanceMethod yX5_isTooOften ∈ BG := BG_at 364 (by decide +kernel) rfl
theorem wd_229 : Cond.selects RX5 yX5_isTooOften yX5_isTooOften ∈ BG := BG_in (by decide +kernel) rfl
theorem okV_X5_isTooOften : okV yX5_isTooOften cX5_isTooOften 3 (some .boolean) 2 := ⟨⟨wd_227, wd_80, by decide +kernel⟩, wd_228, wd_229⟩
theorem dX5_readClause_74 : decode cX5_readClause 74 = .ok (.ifCond .eq 13, 3) := by decide +kernel
theorem dX5_readClause_87 : decode cX5_readClause 87 = .ok (.aload_n 0, 1) := by decide +kernel
theorem dX5_readClause_88 : decode cX5_readClause 88 = .ok (.dup, 1) := by decide +kernel
theorem dX5_readClause_89 : decode cX5_readClause 89 = .ok (.getfield 25, 3) := by decide +kernel
theorem dX5_readClause_92 : decode cX5_readClause 92 = .ok (.iconst 1, 1) := by decide +kernel
theorem dX5_readClause_93 : decode cX5_readClause 93 = .ok (.iadd, 1) := by decide +kernel
theorem dX5_readClause_94 : decode cX5_readClause 94 = .ok (.putfield 25, 3) := by decide +kernel
theorem dX5_readClause_97 : decode cX5_readClause 97 = .ok (.iload_n 2, 1) := by decide +kernel
theorem dX5_readClause_98 : decode cX5_readClause 98 = .ok (.lookupswitch 84 #[(98, 42), (99, 68), (116, 50), (118, 76)], 42) := by decide +kernel
theorem dX5_readClause_140 : decode cX5_readClause 140 = .ok (.aload_n 0, 1) := by decide +kernel
theorem dX5_readClause_141 : decode cX5_readClause 141 = .ok (.aload_n 1, 1) := by decide +kernel
theorem dX5_readClause_142 : decode cX5_readClause 142 = .ok (.invokevirtual 59, 3) := by decide +kernel
theorem wd_230 : Cond.methodLink RX5 59 yX5_readBridges ∈ BG := BG_at 366 (by decide +kernel) rfl
theorem wd_231 : Cond.code yX5_readBridges cX5_readBridges 3 none ∈ BG := BG_at 369 (by decide +kernel) rfl
theorem wd_232 : Cond.instanceMethod yX5_readBridges ∈ BG := BG_at 368 (by decide +kernel) rfl
theorem wd_233 : Cond.selects RX5 yX5_readBridges yX5_readBridges ∈ BG := BG_in (by decide +kernel) rfl
theorem okV_X5_readBridges : okV yX5_readBridges cX5_readBridges 3 none 1 := ⟨⟨wd_231, wd_80, by decide +kernel⟩, wd_232, wd_233⟩
theorem dX5_readClause_145 : decode cX5_readClause 145 = .ok (.goto 52, 3) := by decide +kernel
theorem dX5_readClause_197 : decode cX5_readClause 197 = .ok (.aload_n 0, 1) := by decide +kernel
theorem dX5_readClause_198 : decode cX5_readClause 198 = .ok (.bipush 59, 2) := by decide +kernel
theorem dX5_readClause_200 : decode cX5_readClause 200 = .ok (.invokevirtual 78, 3) := by decide +kernel
theorem dX5_readClause_203 : decode cX5_readClause 203 = .ok (.return_, 1) := by decide +kernel
theorem dX5_readClause_77 : decode cX5_readClause 77 = .ok (.aload_n 0, 1) := by decide +kernel
theorem dX5_readClause_78 : decode cX5_readClause 78 = .ok (.iconst 3, 1) := by decide +kernel
theorem dX5_readClause_79 : decode cX5_readClause 79 = .ok (.aload_n 0, 1) := by decide +kernel
theorem dX5_readClause_80 : decode cX5_readClause 80 = .ok (.getfield 25, 3) := by decide +kernel
theorem dX5_readClause_83 : decode cX5_readClause 83 = .ok (.invokevirtual 51, 3) := by decide +kernel
theorem dX5_readClause_86 : decode cX5_readClause 86 = .ok (.return_, 1) := by decide +kernel
theorem dX5_readClause_52 : decode cX5_readClause 52 = .ok (.iload_n 2, 1) := by decide +kernel
theorem dX5_readClause_53 : decode cX5_readClause 53 = .ok (.bipush 98, 2) := by decide +kernel
theorem dX5_readClause_55 : decode cX5_readClause 55 = .ok (.if_icmp .eq 13, 3) := by decide +kernel
theorem dX5_readClause_11 : decode cX5_readClause 11 = .ok (.iload_n 2, 1) := by decide +kernel
theorem dX5_readClause_12 : decode cX5_readClause 12 = .ok (.bipush 116, 2) := by decide +kernel
theorem dX5_readClause_14 : decode cX5_readClause 14 = .ok (.if_icmp .eq 21, 3) := by decide +kernel
theorem dX5_readClause_148 : decode cX5_readClause 148 = .ok (.aload_n 1, 1) := by decide +kernel
theorem dX5_readClause_149 : decode cX5_readClause 149 = .ok (.aload_n 0, 1) := by decide +kernel
theorem dX5_readClause_150 : decode cX5_readClause 150 = .ok (.iconst 1, 1) := by decide +kernel
theorem dX5_readClause_151 : decode cX5_readClause 151 = .ok (.iconst 5, 1) := by decide +kernel
theorem dX5_readClause_152 : decode cX5_readClause 152 = .ok (.invokevirtual 62, 3) := by decide +kernel
theorem dX5_readClause_155 : decode cX5_readClause 155 = .ok (.putfield 66, 3) := by decide +kernel
theorem dX5_readClause_158 : decode cX5_readClause 158 = .ok (.aload_n 0, 1) := by decide +kernel
theorem dX5_readClause_159 : decode cX5_readClause 159 = .ok (.iconst 1, 1) := by decide +kernel
theorem dX5_readClause_160 : decode cX5_readClause 160 = .ok (.putfield 28, 3) := by decide +kernel
theorem dX5_readClause_163 : decode cX5_readClause 163 = .ok (.goto 34, 3) := by decide +kernel
theorem dX5_readClause_58 : decode cX5_readClause 58 = .ok (.aload_n 0, 1) := by decide +kernel
theorem dX5_readClause_59 : decode cX5_readClause 59 = .ok (.iconst 1, 1) := by decide +kernel
theorem dX5_readClause_60 : decode cX5_readClause 60 = .ok (.aload_n 0, 1) := by decide +kernel
theorem dX5_readClause_61 : decode cX5_readClause 61 = .ok (.getfield 25, 3) := by decide +kernel
theorem dX5_readClause_64 : decode cX5_readClause 64 = .ok (.invokevirtual 51, 3) := by decide +kernel
theorem dX5_readClause_67 : decode cX5_readClause 67 = .ok (.return_, 1) := by decide +kernel
theorem dX5_readClause_17 : decode cX5_readClause 17 = .ok (.iload_n 2, 1) := by decide +kernel
theorem dX5_readClause_18 : decode cX5_readClause 18 = .ok (.bipush 99, 2) := by decide +kernel
theorem dX5_readClause_20 : decode cX5_readClause 20 = .ok (.if_icmp .eq 15, 3) := by decide +kernel
theorem dX5_readClause_166 : decode cX5_readClause 166 = .ok (.aload_n 0, 1) := by decide +kernel
theorem dX5_readClause_167 : decode cX5_readClause 167 = .ok (.aload_n 1, 1) := by decide +kernel
theorem dX5_readClause_168 : decode cX5_readClause 168 = .ok (.invokevirtual 69, 3) := by decide +kernel
theorem wd_234 : Cond.methodLink RX5 69 yX5_readCouple ∈ BG := BG_at 379 (by decide +kernel) rfl
theorem wd_235 : Cond.code yX5_readCouple cX5_readCouple 4 none ∈ BG := BG_at 382 (by decide +kernel) rfl
theorem wd_236 : Cond.instanceMethod yX5_readCouple ∈ BG := BG_at 381 (by decide +kernel) rfl
theorem wd_237 : Cond.selects RX5 yX5_readCouple yX5_readCouple ∈ BG := BG_in (by decide +kernel) rfl
theorem okV_X5_readCouple : okV yX5_readCouple cX5_readCouple 4 none 1 := ⟨⟨wd_235, wd_80, by decide +kernel⟩, wd_236, wd_237⟩
theorem dX5_readClause_171 : decode cX5_readClause 171 = .ok (.goto 26, 3) := by decide +kernel
theorem dX5_readClause_23 : decode cX5_readClause 23 = .ok (.iload_n 2, 1) := by decide +kernel
theorem dX5_readClause_24 : decode cX5_readClause 24 = .ok (.bipush 118, 2) := by decide +kernel
theorem dX5_readClause_26 : decode cX5_readClause 26 = .ok (.if_icmp .eq 9, 3) := by decide +kernel
theorem dX5_readClause_174 : decode cX5_readClause 174 = .ok (.aload_n 0, 1) := by decide +kernel
theorem dX5_readClause_175 : decode cX5_readClause 175 = .ok (.aload_n 1, 1) := by decide +kernel
theorem dX5_readClause_176 : decode cX5_readClause 176 = .ok (.invokevirtual 72, 3) := by decide +kernel
theorem wd_238 : Cond.methodLink RX5 72 yX5_readBarge ∈ BG := BG_at 387 (by decide +kernel) rfl
theorem wd_239 : Cond.code yX5_readBarge cX5_readBarge 3 none ∈ BG := BG_at 390 (by decide +kernel) rfl
theorem wd_240 : Cond.instanceMethod yX5_readBarge ∈ BG := BG_at 389 (by decide +kernel) rfl
theorem wd_241 : Cond.selects RX5 yX5_readBarge yX5_readBarge ∈ BG := BG_in (by decide +kernel) rfl
theorem okV_X5_readBarge : okV yX5_readBarge cX5_readBarge 3 none 1 := ⟨⟨wd_239, wd_80, by decide +kernel⟩, wd_240, wd_241⟩
theorem dX5_readClause_179 : decode cX5_readClause 179 = .ok (.goto 18, 3) := by decide +kernel
theorem dX5_readClause_29 : decode cX5_readClause 29 = .ok (.iload_n 2, 1) := by decide +kernel
theorem dX5_readClause_30 : decode cX5_readClause 30 = .ok (.bipush 115, 2) := by decide +kernel
theorem dX5_readClause_32 : decode cX5_readClause 32 = .ok (.if_icmp .ne 7, 3) := by decide +kernel
theorem dX5_readClause_39 : decode cX5_readClause 39 = .ok (.iconst 0, 1) := by decide +kernel
theorem dX5_readClause_182 : decode cX5_readClause 182 = .ok (.aload_n 1, 1) := by decide +kernel
theorem dX5_readClause_183 : decode cX5_readClause 183 = .ok (.aload_n 0, 1) := by decide +kernel
theorem dX5_readClause_184 : decode cX5_readClause 184 = .ok (.iconst 0, 1) := by decide +kernel
theorem dX5_readClause_185 : decode cX5_readClause 185 = .ok (.iconst 1, 1) := by decide +kernel
theorem dX5_readClause_186 : decode cX5_readClause 186 = .ok (.invokevirtual 62, 3) := by decide +kernel
theorem wd_242 : Cond.fieldLink RX5 75 "QuarrelBridges$Town" "snow" "I" ∈ BG := BG_at 77 (by decide +kernel) rfl
theorem dX5_readClause_189 : decode cX5_readClause 189 = .ok (.putfield 75, 3) := by decide +kernel
theorem dX5_readClause_192 : decode cX5_readClause 192 = .ok (.aload_n 0, 1) := by decide +kernel
theorem dX5_readClause_193 : decode cX5_readClause 193 = .ok (.iconst 1, 1) := by decide +kernel
theorem dX5_readClause_194 : decode cX5_readClause 194 = .ok (.putfield 32, 3) := by decide +kernel
noncomputable def f_e_readClause_x5 (r0 : Int32) (r1 : Int32) (r3 : Int32) (r4 : Int32) (r5 : Int32) (r6 : Int32) (ftx : Nat → Int32) (t0 : Int32) (t1 : Int32) (t2 : Int32) (t3 : Int32) (t4 : Int32) (fta : Nat → Int32) (ftb : Nat → Int32) (ftc : Nat → Int32) (ftd : Nat → Int32) (fte : Nat → Int32) : Int32 × Int32 × Int32 × Int32 × Int32 × Int32 × Int32 × Int32 × Int32 × Int32 × (Nat → Int32) × (Nat → Int32) × (Nat → Int32) × (Nat → Int32) × (Nat → Int32) := (match (f_e_next_x5 r0 r1 r3 r4 r5 r6 ftx) with | (r_2, u_1) => (if r_2 = 98 then (if t0 = 0 then (if (f_e_isTooOften_x5 r0 r1 r3 u_1 r5 r6 t0 t1 t2 t3 t4 98) = 0 then (match (f_e_readBridges_x5 r0 r1 r3 (u_1 + 1) r5 r6 ftx t0 t1 t2 t3 t4 fta) with | (o_31, o_32, o_33, o_34, o_35) => (match (f_e_expect_x5 o_31 o_32 r3 o_33 r5 r6 ftx 59) with | (o_38, o_39, o_40) => (o_38, o_39, o_40, r5, r6, o_34, t1, t2, t3, t4, o_35, ftb, ftc, ftd, fte))) else (match (f_e_blame_x5 r0 r1 r3 u_1 r5 r6 3 u_1) with | (o_43, o_44) => (o_43, o_44, u_1, r5, r6, t0, t1, t2, t3, t4, fta, ftb, ftc, ftd, fte))) else (if (f_e_isTooOften_x5 r0 r1 r3 u_1 r5 r6 t0 t1 t2 t3 t4 98) = 0 then (match (f_e_readBridges_x5 r0 r1 r3 (u_1 + 1) r5 r6 ftx t0 t1 t2 t3 t4 fta) with | (o_11, o_12, o_13, o_14, o_15) => (match (f_e_expect_x5 o_11 o_12 r3 o_13 r5 r6 ftx 59) with | (o_18, o_19, o_20) => (o_18, o_19, o_20, r5, r6, o_14, t1, t2, t3, t4, o_15, ftb, ftc, ftd, fte))) else (match (f_e_blame_x5 r0 r1 r3 u_1 r5 r6 3 u_1) with | (o_23, o_24) => (o_23, o_24, u_1, r5, r6, t0, t1, t2, t3, t4, fta, ftb, ftc, ftd, fte)))) else (if r_2 = 116 then (if t0 = 0 then (match (f_e_blame_x5 r0 r1 r3 u_1 r5 r6 1 u_1) with | (o_68, o_69) => (o_68, o_69, u_1, r5, r6, t0, t1, t2, t3, t4, fta, ftb, ftc, ftd, fte)) else (if (f_e_isTooOften_x5 r0 r1 r3 u_1 r5 r6 t0 t1 t2 t3 t4 116) = 0 then (match (f_e_number_x5 r0 r1 r3 (u_1 + 1) r5 r6 ftx 1 5) with | (r_52, o_53, o_54, o_55) => (match (f_e_expect_x5 o_53 o_54 r3 o_55 1 r6 ftx 59) with | (o_58, o_59, o_60) => (o_58, o_59, o_60, 1, r6, t0, r_52, t2, t3, t4, fta, ftb, ftc, ftd, fte))) else (match (f_e_blame_x5 r0 r1 r3 u_1 r5 r6 3 u_1) with | (o_63, o_64) => (o_63, o_64, u_1, r5, r6, t0, t1, t2, t3, t4, fta, ftb, ftc, ftd, fte)))) else (if r_2 = 99 then (if t0 = 0 then (match (f_e_blame_x5 r0 r1 r3 u_1 r5 r6 1 u_1) with | (o_96, o_97) => (o_96, o_97, u_1, r5, r6, t0, t1, t2, t3, t4, fta, ftb, ftc, ftd, fte)) else (if (f_e_isTooOften_x5 r0 r1 r3 u_1 r5 r6 t0 t1 t2 t3 t4 99) = 0 then (match (f_e_readCouple_x5 r0 r1 r3 (u_1 + 1) r5 r6 ftx t0 t1 t2 t3 t4 ftb ftc) with | (o_78, o_79, o_80, o_81, o_82, o_83) => (match (f_e_expect_x5 o_78 o_79 r3 o_80 r5 r6 ftx 59) with | (o_86, o_87, o_88) => (o_86, o_87, o_88, r5, r6, t0, t1, o_81, t3, t4, fta, o_82, o_83, ftd, fte))) else (match (f_e_blame_x5 r0 r1 r3 u_1 r5 r6 3 u_1) with | (o_91, o_92) => (o_91, o_92, u_1, r5, r6, t0, t1, t2, t3, t4, fta, ftb, ftc, ftd, fte)))) else (if r_2 = 118 then (if t0 = 0 then (match (f_e_blame_x5 r0 r1 r3 u_1 r5 r6 1 u_1) with | (o_124, o_125) => (o_124, o_125, u_1, r5, r6, t0, t1, t2, t3, t4, fta, ftb, ftc, ftd, fte)) else (if (f_e_isTooOften_x5 r0 r1 r3 u_1 r5 r6 t0 t1 t2 t3 t4 118) = 0 then (match (f_e_readBarge_x5 r0 r1 r3 (u_1 + 1) r5 r6 ftx t0 t1 t2 t3 t4 ftd fte) with | (o_106, o_107, o_108, o_109, o_110, o_111) => (match (f_e_expect_x5 o_106 o_107 r3 o_108 r5 r6 ftx 59) with | (o_114, o_115, o_116) => (o_114, o_115, o_116, r5, r6, t0, t1, t2, o_109, t4, fta, ftb, ftc, o_110, o_111))) else (match (f_e_blame_x5 r0 r1 r3 u_1 r5 r6 3 u_1) with | (o_119, o_120) => (o_119, o_120, u_1, r5, r6, t0, t1, t2, t3, t4, fta, ftb, ftc, ftd, fte)))) else (if r_2 = 115 then (if t0 = 0 then (match (f_e_blame_x5 r0 r1 r3 u_1 r5 r6 1 u_1) with | (o_154, o_155) => (o_154, o_155, u_1, r5, r6, t0, t1, t2, t3, t4, fta, ftb, ftc, ftd, fte)) else (if (f_e_isTooOften_x5 r0 r1 r3 u_1 r5 r6 t0 t1 t2 t3 t4 115) = 0 then (match (f_e_number_x5 r0 r1 r3 (u_1 + 1) r5 r6 ftx 0 1) with | (r_138, o_139, o_140, o_141) => (match (f_e_expect_x5 o_139 o_140 r3 o_141 r5 1 ftx 59) with | (o_144, o_145, o_146) => (o_144, o_145, o_146, r5, 1, t0, t1, t2, t3, r_138, fta, ftb, ftc, ftd, fte))) else (match (f_e_blame_x5 r0 r1 r3 u_1 r5 r6 3 u_1) with | (o_149, o_150) => (o_149, o_150, u_1, r5, r6, t0, t1, t2, t3, t4, fta, ftb, ftc, ftd, fte)))) else (match (f_e_blame_x5 r0 r1 r3 u_1 r5 r6 1 u_1) with | (o_130, o_131) => (o_130, o_131, u_1, r5, r6, t0, t1, t2, t3, t4, fta, ftb, ftc, ftd, fte))))))))
def rm_e_readClause_x5 : Room := { frames := 4, cells := 0, slots := 0, locals := 89 }
set_option maxHeartbeats 4000000 in
set_option maxRecDepth 100000 in
theorem e_readClause_x5 {l : Launch} {D : va_G} {cI cZ : ClassId} {sz : Nat} (rd x t ta tb tc td te : Nat) (r0 : Int32) (r1 : Int32) (r3 : Int32) (r4 : Int32) (r5 : Int32) (r6 : Int32) (ftx : Nat → Int32) (t0 : Int32) (t1 : Int32) (t2 : Int32) (t3 : Int32) (t4 : Int32) (fta : Nat → Int32) (ftb : Nat → Int32) (ftc : Nat → Int32) (ftd : Nat → Int32) (fte : Nat → Int32) (h01 : r6 = 0 ∨ r6 = 1) : KV l yX5_readClause cX5_readClause 4 rm_e_readClause_x5 D cI cZ [.ref rd, .ref t] sz [(rd, .inr (5, [.int r0, .int r1, .ref x, .int r3, .int r4, .int r5, .int r6])), (x, .inl (cI, 240, .inl ftx)), (t, .inr (8, [.int t0, .int t1, .int t2, .int t3, .int t4, .ref ta, .ref tb, .ref tc, .ref td, .ref te])), (ta, .inl (cI, 6, .inl fta)), (tb, .inl (cI, 6, .inl ftb)), (tc, .inl (cI, 30, .inl ftc)), (td, .inl (cI, 7, .inl ftd)), (te, .inl (cI, 7, .inl fte))] (fun (u : Int32 × Int32 × Int32 × Int32 × Int32 × Int32 × Int32 × Int32 × Int32 × Int32 × (Nat → Int32) × (Nat → Int32) × (Nat → Int32) × (Nat → Int32) × (Nat → Int32)) => u = f_e_readClause_x5 r0 r1 r3 r4 r5 r6 ftx t0 t1 t2 t3 t4 fta ftb ftc ftd fte) (fun (u : Int32 × Int32 × Int32 × Int32 × Int32 × Int32 × Int32 × Int32 × Int32 × Int32 × (Nat → Int32) × (Nat → Int32) × (Nat → Int32) × (Nat → Int32) × (Nat → Int32)) => [(rd, .inr (5, [.int (u.1), .int (u.2.1), .ref x, .int r3, .int (u.2.2.1), .int (u.2.2.2.1), .int (u.2.2.2.2.1)])), (x, .inl (cI, 240, .inl ftx)), (t, .inr (8, [.int (u.2.2.2.2.2.1), .int (u.2.2.2.2.2.2.1), .int (u.2.2.2.2.2.2.2.1), .int (u.2.2.2.2.2.2.2.2.1), .int (u.2.2.2.2.2.2.2.2.2.1), .ref ta, .ref tb, .ref tc, .ref td, .ref te])), (ta, .inl (cI, 6, .inl u.2.2.2.2.2.2.2.2.2.2.1)), (tb, .inl (cI, 6, .inl u.2.2.2.2.2.2.2.2.2.2.2.1)), (tc, .inl (cI, 30, .inl u.2.2.2.2.2.2.2.2.2.2.2.2.1)), (td, .inl (cI, 7, .inl u.2.2.2.2.2.2.2.2.2.2.2.2.2.1)), (te, .inl (cI, 7, .inl u.2.2.2.2.2.2.2.2.2.2.2.2.2.2))]) := by
  refine KV.go rfl (Nat.le_of_ble_eq_true rfl) ?_
  intro p e s m args below meth c ls A Q hx hb hml hts hown hin hP hK hD hS hA hN hl hret
  have hl : lv_has ls 4 [(0, .ref rd), (1, .ref t)] := hl
  obtain ⟨RES, hE⟩ : ∃ xRES, f_e_readClause_x5 r0 r1 r3 r4 r5 r6 ftx t0 t1 t2 t3 t4 fta ftb ftc ftd fte = xRES := ⟨_, rfl⟩
  rw [hE] at hret
  rw [f_e_readClause_x5] at hE
  refine lv_aload_n hx hb dX5_readClause_0 rfl (lv_at hl 0 rfl) ?_
  refine cVi (wr := [(t, .inr (8, [.int t0, .int t1, .int t2, .int t3, .int t4, .ref ta, .ref tb, .ref tc, .ref td, .ref te])), (ta, .inl (cI, 6, .inl fta)), (tb, .inl (cI, 6, .inl ftb)), (tc, .inl (cI, 30, .inl ftc)), (td, .inl (cI, 7, .inl ftd)), (te, .inl (cI, 7, .inl fte))]) (rest := []) (e_next_x5 rd x r0 r1 r3 r4 r5 r6 ftx) okV_X5_next wd_197 hx hb hml hown hts hK hP hD hS hA hN hl.1 [0, 1] [2, 3, 4, 5, 6, 7] rfl rfl rfl rfl (by decide) rfl rfl rfl (Nat.le_of_ble_eq_true rfl) (Nat.le_of_ble_eq_true rfl) (Nat.le_of_ble_eq_true rfl) (Nat.le_of_ble_eq_true rfl) (Nat.le_of_ble_eq_true rfl) dX5_readClause_1 (fun r_2 u_1 H locs hw_u_1 hP hD hS => ?_)
  replace hw_u_1 : (r_2, u_1) = (f_e_next_x5 r0 r1 r3 r4 r5 r6 ftx) := hw_u_1
  rw [← hw_u_1] at hE
  replace hE : (if r_2 = 98 then (if t0 = 0 then (if (f_e_isTooOften_x5 r0 r1 r3 u_1 r5 r6 t0 t1 t2 t3 t4 98) = 0 then (match (f_e_readBridges_x5 r0 r1 r3 (u_1 + 1) r5 r6 ftx t0 t1 t2 t3 t4 fta) with | (o_31, o_32, o_33, o_34, o_35) => (match (f_e_expect_x5 o_31 o_32 r3 o_33 r5 r6 ftx 59) with | (o_38, o_39, o_40) => (o_38, o_39, o_40, r5, r6, o_34, t1, t2, t3, t4, o_35, ftb, ftc, ftd, fte))) else (match (f_e_blame_x5 r0 r1 r3 u_1 r5 r6 3 u_1) with | (o_43, o_44) => (o_43, o_44, u_1, r5, r6, t0, t1, t2, t3, t4, fta, ftb, ftc, ftd, fte))) else (if (f_e_isTooOften_x5 r0 r1 r3 u_1 r5 r6 t0 t1 t2 t3 t4 98) = 0 then (match (f_e_readBridges_x5 r0 r1 r3 (u_1 + 1) r5 r6 ftx t0 t1 t2 t3 t4 fta) with | (o_11, o_12, o_13, o_14, o_15) => (match (f_e_expect_x5 o_11 o_12 r3 o_13 r5 r6 ftx 59) with | (o_18, o_19, o_20) => (o_18, o_19, o_20, r5, r6, o_14, t1, t2, t3, t4, o_15, ftb, ftc, ftd, fte))) else (match (f_e_blame_x5 r0 r1 r3 u_1 r5 r6 3 u_1) with | (o_23, o_24) => (o_23, o_24, u_1, r5, r6, t0, t1, t2, t3, t4, fta, ftb, ftc, ftd, fte)))) else (if r_2 = 116 then (if t0 = 0 then (match (f_e_blame_x5 r0 r1 r3 u_1 r5 r6 1 u_1) with | (o_68, o_69) => (o_68, o_69, u_1, r5, r6, t0, t1, t2, t3, t4, fta, ftb, ftc, ftd, fte)) else (if (f_e_isTooOften_x5 r0 r1 r3 u_1 r5 r6 t0 t1 t2 t3 t4 116) = 0 then (match (f_e_number_x5 r0 r1 r3 (u_1 + 1) r5 r6 ftx 1 5) with | (r_52, o_53, o_54, o_55) => (match (f_e_expect_x5 o_53 o_54 r3 o_55 1 r6 ftx 59) with | (o_58, o_59, o_60) => (o_58, o_59, o_60, 1, r6, t0, r_52, t2, t3, t4, fta, ftb, ftc, ftd, fte))) else (match (f_e_blame_x5 r0 r1 r3 u_1 r5 r6 3 u_1) with | (o_63, o_64) => (o_63, o_64, u_1, r5, r6, t0, t1, t2, t3, t4, fta, ftb, ftc, ftd, fte)))) else (if r_2 = 99 then (if t0 = 0 then (match (f_e_blame_x5 r0 r1 r3 u_1 r5 r6 1 u_1) with | (o_96, o_97) => (o_96, o_97, u_1, r5, r6, t0, t1, t2, t3, t4, fta, ftb, ftc, ftd, fte)) else (if (f_e_isTooOften_x5 r0 r1 r3 u_1 r5 r6 t0 t1 t2 t3 t4 99) = 0 then (match (f_e_readCouple_x5 r0 r1 r3 (u_1 + 1) r5 r6 ftx t0 t1 t2 t3 t4 ftb ftc) with | (o_78, o_79, o_80, o_81, o_82, o_83) => (match (f_e_expect_x5 o_78 o_79 r3 o_80 r5 r6 ftx 59) with | (o_86, o_87, o_88) => (o_86, o_87, o_88, r5, r6, t0, t1, o_81, t3, t4, fta, o_82, o_83, ftd, fte))) else (match (f_e_blame_x5 r0 r1 r3 u_1 r5 r6 3 u_1) with | (o_91, o_92) => (o_91, o_92, u_1, r5, r6, t0, t1, t2, t3, t4, fta, ftb, ftc, ftd, fte)))) else (if r_2 = 118 then (if t0 = 0 then (match (f_e_blame_x5 r0 r1 r3 u_1 r5 r6 1 u_1) with | (o_124, o_125) => (o_124, o_125, u_1, r5, r6, t0, t1, t2, t3, t4, fta, ftb, ftc, ftd, fte)) else (if (f_e_isTooOften_x5 r0 r1 r3 u_1 r5 r6 t0 t1 t2 t3 t4 118) = 0 then (match (f_e_readBarge_x5 r0 r1 r3 (u_1 + 1) r5 r6 ftx t0 t1 t2 t3 t4 ftd fte) with | (o_106, o_107, o_108, o_109, o_110, o_111) => (match (f_e_expect_x5 o_106 o_107 r3 o_108 r5 r6 ftx 59) with | (o_114, o_115, o_116) => (o_114, o_115, o_116, r5, r6, t0, t1, t2, o_109, t4, fta, ftb, ftc, o_110, o_111))) else (match (f_e_blame_x5 r0 r1 r3 u_1 r5 r6 3 u_1) with | (o_119, o_120) => (o_119, o_120, u_1, r5, r6, t0, t1, t2, t3, t4, fta, ftb, ftc, ftd, fte)))) else (if r_2 = 115 then (if t0 = 0 then (match (f_e_blame_x5 r0 r1 r3 u_1 r5 r6 1 u_1) with | (o_154, o_155) => (o_154, o_155, u_1, r5, r6, t0, t1, t2, t3, t4, fta, ftb, ftc, ftd, fte)) else (if (f_e_isTooOften_x5 r0 r1 r3 u_1 r5 r6 t0 t1 t2 t3 t4 115) = 0 then (match (f_e_number_x5 r0 r1 r3 (u_1 + 1) r5 r6 ftx 0 1) with | (r_138, o_139, o_140, o_141) => (match (f_e_expect_x5 o_139 o_140 r3 o_141 r5 1 ftx 59) with | (o_144, o_145, o_146) => (o_144, o_145, o_146, r5, 1, t0, t1, t2, t3, r_138, fta, ftb, ftc, ftd, fte))) else (match (f_e_blame_x5 r0 r1 r3 u_1 r5 r6 3 u_1) with | (o_149, o_150) => (o_149, o_150, u_1, r5, r6, t0, t1, t2, t3, t4, fta, ftb, ftc, ftd, fte)))) else (match (f_e_blame_x5 r0 r1 r3 u_1 r5 r6 1 u_1) with | (o_130, o_131) => (o_130, o_131, u_1, r5, r6, t0, t1, t2, t3, t4, fta, ftb, ftc, ftd, fte))))))) = RES := hE
  have hP : va_P D classes [(t, .inr (8, [.int t0, .int t1, .int t2, .int t3, .int t4, .ref ta, .ref tb, .ref tc, .ref td, .ref te])), (ta, .inl (cI, 6, .inl fta)), (tb, .inl (cI, 6, .inl ftb)), (tc, .inl (cI, 30, .inl ftc)), (td, .inl (cI, 7, .inl ftd)), (te, .inl (cI, 7, .inl fte)), (rd, .inr (5, [.int r0, .int r1, .ref x, .int r3, .int u_1, .int r5, .int r6])), (x, .inl (cI, 240, .inl ftx))] H := hP
  have hD : va_D A [(t, .inr (8, [.int t0, .int t1, .int t2, .int t3, .int t4, .ref ta, .ref tb, .ref tc, .ref td, .ref te])), (ta, .inl (cI, 6, .inl fta)), (tb, .inl (cI, 6, .inl ftb)), (tc, .inl (cI, 30, .inl ftc)), (td, .inl (cI, 7, .inl ftd)), (te, .inl (cI, 7, .inl fte)), (rd, .inr (5, [.int r0, .int r1, .ref x, .int r3, .int u_1, .int r5, .int r6])), (x, .inl (cI, 240, .inl ftx))] := hD
  refine lv_istore_n (lv' := [(2, .int r_2), (0, .ref rd), (1, .ref t)]) hx hb dX5_readClause_4 rfl hl (by decide) rfl (fun ls hl => ?_)
  refine lv_iload_n hx hb dX5_readClause_5 rfl (lv_at hl 0 rfl) ?_
  refine lv_bipush (v := 98) hx hb dX5_readClause_6 (by decide) ?_
  refine lv_icmp_eq (tgt := 35) hx hb dX5_readClause_8 (by decide) (fun c_3 => ?_) (fun c_3 => ?_)
  · rw [if_pos c_3] at hE
    subst c_3
    refine lv_iconst (v := 1) hx hb dX5_readClause_35 (by decide) ?_
    refine lv_goto (tgt := 40) hx hb dX5_readClause_36 (by decide) ?_
    refine lv_istore_n (lv' := [(3, .int 1), (2, .int 98), (0, .ref rd), (1, .ref t)]) hx hb dX5_readClause_40 rfl hl (by decide) rfl (fun ls hl => ?_)
    refine lv_iload_n hx hb dX5_readClause_41 rfl (lv_at hl 0 rfl) ?_
    refine lv_if_eq (tgt := 58) hx hb dX5_readClause_42 (by decide) (fun c_4 => absurd c_4 (by decide +kernel)) (fun c_4 => ?_)
    refine lv_aload_n hx hb dX5_readClause_45 rfl (lv_at hl 3 rfl) ?_
    refine va_get (D := D) (ci := 8) (v := .int t0) (C := RX8) (T := TX8) (N := 10) hx hb hts iX8 hown hK hP 0 rfl rfl 0 (by decide) (hts _ wd_209) (fun _ h9 => h9) rfl dX5_readClause_46 ?_
    refine lv_if_ne (tgt := 68) hx hb dX5_readClause_49 (by decide) (fun c_5 => ?_) (fun c_5 => ?_)
    · rw [if_neg c_5] at hE
      refine lv_aload_n hx hb dX5_readClause_68 rfl (lv_at hl 2 rfl) ?_
      refine lv_iload_n hx hb dX5_readClause_69 rfl (lv_at hl 1 rfl) ?_
      refine lv_aload_n hx hb dX5_readClause_70 rfl (lv_at hl 3 rfl) ?_
      refine cVi (wr := [(ta, .inl (cI, 6, .inl fta)), (tb, .inl (cI, 6, .inl ftb)), (tc, .inl (cI, 30, .inl ftc)), (td, .inl (cI, 7, .inl ftd)), (te, .inl (cI, 7, .inl fte)), (x, .inl (cI, 240, .inl ftx))]) (rest := []) (e_isTooOften_x5 rd x t ta tb tc td te r0 r1 r3 u_1 r5 r6 t0 t1 t2 t3 t4 98 h01) okV_X5_isTooOften wd_226 hx hb hml hown hts hK hP hD hS hA hN hl.1 [6, 0] [1, 2, 3, 4, 5, 7] rfl rfl rfl rfl (by decide) rfl rfl rfl (Nat.le_of_ble_eq_true rfl) (Nat.le_of_ble_eq_true rfl) (Nat.le_of_ble_eq_true rfl) (Nat.le_of_ble_eq_true rfl) (Nat.le_of_ble_eq_true rfl) dX5_readClause_71 (fun r_7 u_6 H locs hw_u_6 hP hD hS => ?_)
      replace hw_u_6 : r_7 = (f_e_isTooOften_x5 r0 r1 r3 u_1 r5 r6 t0 t1 t2 t3 t4 98) := hw_u_6
      rw [hw_u_6]
      clear hw_u_6
      have hP : va_P D classes [(ta, .inl (cI, 6, .inl fta)), (tb, .inl (cI, 6, .inl ftb)), (tc, .inl (cI, 30, .inl ftc)), (td, .inl (cI, 7, .inl ftd)), (te, .inl (cI, 7, .inl fte)), (x, .inl (cI, 240, .inl ftx)), (rd, .inr (5, [.int r0, .int r1, .ref x, .int r3, .int u_1, .int r5, .int r6])), (t, .inr (8, [.int t0, .int t1, .int t2, .int t3, .int t4, .ref ta, .ref tb, .ref tc, .ref td, .ref te]))] H := hP
      have hD : va_D A [(ta, .inl (cI, 6, .inl fta)), (tb, .inl (cI, 6, .inl ftb)), (tc, .inl (cI, 30, .inl ftc)), (td, .inl (cI, 7, .inl ftd)), (te, .inl (cI, 7, .inl fte)), (x, .inl (cI, 240, .inl ftx)), (rd, .inr (5, [.int r0, .int r1, .ref x, .int r3, .int u_1, .int r5, .int r6])), (t, .inr (8, [.int t0, .int t1, .int t2, .int t3, .int t4, .ref ta, .ref tb, .ref tc, .ref td, .ref te]))] := hD
      refine lv_if_eq (tgt := 87) hx hb dX5_readClause_74 (by decide) (fun c_8 => ?_) (fun c_8 => ?_)
      · rw [if_pos c_8] at hE
        refine lv_aload_n hx hb dX5_readClause_87 rfl (lv_at hl 2 rfl) ?_
        refine lv_dup hx hb dX5_readClause_88 rfl ?_
        refine va_get (D := D) (ci := 5) (v := .int u_1) (C := RX5) (T := TX5) (N := 7) hx hb hts iX5 hown hK hP 6 rfl rfl 4 (by decide) (hts _ wd_46) (fun _ h9 => h9) rfl dX5_readClause_89 ?_
        refine lv_iconst (v := 1) hx hb dX5_readClause_92 (by decide) ?_
        refine lv_iadd hx hb dX5_readClause_93 ?_
        refine va_put (D := D) (ci := 5) (v := .int (u_1 + 1)) (ty := .int) (C := RX5) (T := TX5) (N := 7) hx hb hts iX5 tyX5 tyX5_ok nmX5 hown hK hP hD hS 6 rfl rfl 4 (by decide) (hts _ wd_46) (fun _ h9 => h9) rfl (by decide +kernel) rfl rfl (Nat.le_of_ble_eq_true rfl) dX5_readClause_94 (fun H locs hP hD hS => ?_)
        have hP : va_P D classes [(ta, .inl (cI, 6, .inl fta)), (tb, .inl (cI, 6, .inl ftb)), (tc, .inl (cI, 30, .inl ftc)), (td, .inl (cI, 7, .inl ftd)), (te, .inl (cI, 7, .inl fte)), (x, .inl (cI, 240, .inl ftx)), (rd, .inr (5, [.int r0, .int r1, .ref x, .int r3, .int (u_1 + 1), .int r5, .int r6])), (t, .inr (8, [.int t0, .int t1, .int t2, .int t3, .int t4, .ref ta, .ref tb, .ref tc, .ref td, .ref te]))] H := hP
        have hD : va_D A [(ta, .inl (cI, 6, .inl fta)), (tb, .inl (cI, 6, .inl ftb)), (tc, .inl (cI, 30, .inl ftc)), (td, .inl (cI, 7, .inl ftd)), (te, .inl (cI, 7, .inl fte)), (x, .inl (cI, 240, .inl ftx)), (rd, .inr (5, [.int r0, .int r1, .ref x, .int r3, .int (u_1 + 1), .int r5, .int r6])), (t, .inr (8, [.int t0, .int t1, .int t2, .int t3, .int t4, .ref ta, .ref tb, .ref tc, .ref td, .ref te]))] := hD
        refine lv_iload_n hx hb dX5_readClause_97 rfl (lv_at hl 1 rfl) ?_
        refine lv_lookup (off := 42) (tgt := 140) hx hb dX5_readClause_98 (by decide +kernel) (by decide +kernel) (by decide) ?_
        refine lv_aload_n hx hb dX5_readClause_140 rfl (lv_at hl 2 rfl) ?_
        refine lv_aload_n hx hb dX5_readClause_141 rfl (lv_at hl 3 rfl) ?_
        refine cVv (wr := [(tb, .inl (cI, 6, .inl ftb)), (tc, .inl (cI, 30, .inl ftc)), (td, .inl (cI, 7, .inl ftd)), (te, .inl (cI, 7, .inl fte))]) (rest := []) (e_readBridges_x5 rd x t ta tb tc td te r0 r1 r3 (u_1 + 1) r5 r6 ftx t0 t1 t2 t3 t4 fta) okV_X5_readBridges wd_230 hx hb hml hown hts hK hP hD hS hA hN hl.1 [6, 5, 7, 0] [1, 2, 3, 4] rfl rfl rfl rfl (by decide) rfl rfl rfl (Nat.le_of_ble_eq_true rfl) (Nat.le_of_ble_eq_true rfl) (Nat.le_of_ble_eq_true rfl) (Nat.le_of_ble_eq_true rfl) (Nat.le_of_ble_eq_true rfl) dX5_readClause_142 (fun u_9 H locs hw_u_9 hP hD hS => ?_)
        obtain ⟨o_11, o_12, o_13, o_14, o_15⟩ := u_9
        replace hw_u_9 : (o_11, o_12, o_13, o_14, o_15) = (f_e_readBridges_x5 r0 r1 r3 (u_1 + 1) r5 r6 ftx t0 t1 t2 t3 t4 fta) := hw_u_9
        rw [← hw_u_9] at hE
        replace hE : (match (f_e_expect_x5 o_11 o_12 r3 o_13 r5 r6 ftx 59) with | (o_18, o_19, o_20) => (o_18, o_19, o_20, r5, r6, o_14, t1, t2, t3, t4, o_15, ftb, ftc, ftd, fte)) = RES := hE
        have hP : va_P D classes [(tb, .inl (cI, 6, .inl ftb)), (tc, .inl (cI, 30, .inl ftc)), (td, .inl (cI, 7, .inl ftd)), (te, .inl (cI, 7, .inl fte)), (rd, .inr (5, [.int o_11, .int o_12, .ref x, .int r3, .int o_13, .int r5, .int r6])), (x, .inl (cI, 240, .inl ftx)), (t, .inr (8, [.int o_14, .int t1, .int t2, .int t3, .int t4, .ref ta, .ref tb, .ref tc, .ref td, .ref te])), (ta, .inl (cI, 6, .inl o_15))] H := hP
        have hD : va_D A [(tb, .inl (cI, 6, .inl ftb)), (tc, .inl (cI, 30, .inl ftc)), (td, .inl (cI, 7, .inl ftd)), (te, .inl (cI, 7, .inl fte)), (rd, .inr (5, [.int o_11, .int o_12, .ref x, .int r3, .int o_13, .int r5, .int r6])), (x, .inl (cI, 240, .inl ftx)), (t, .inr (8, [.int o_14, .int t1, .int t2, .int t3, .int t4, .ref ta, .ref tb, .ref tc, .ref td, .ref te])), (ta, .inl (cI, 6, .inl o_15))] := hD
        refine lv_goto (tgt := 197) hx hb dX5_readClause_145 (by decide) ?_
        refine lv_aload_n hx hb dX5_readClause_197 rfl (lv_at hl 2 rfl) ?_
        refine lv_bipush (v := 59) hx hb dX5_readClause_198 (by decide) ?_
        refine cVv (wr := [(tb, .inl (cI, 6, .inl ftb)), (tc, .inl (cI, 30, .inl ftc)), (td, .inl (cI, 7, .inl ftd)), (te, .inl (cI, 7, .inl fte)), (t, .inr (8, [.int o_14, .int t1, .int t2, .int t3, .int t4, .ref ta, .ref tb, .ref tc, .ref td, .ref te])), (ta, .inl (cI, 6, .inl o_15))]) (rest := []) (e_expect_x5 rd x o_11 o_12 r3 o_13 r5 r6 ftx 59) okV_X5_expect wd_220 hx hb hml hown hts hK hP hD hS hA hN hl.1 [4, 5] [0, 1, 2, 3, 6, 7] rfl rfl rfl rfl (by decide) rfl rfl rfl (Nat.le_of_ble_eq_true rfl) (Nat.le_of_ble_eq_true rfl) (Nat.le_of_ble_eq_true rfl) (Nat.le_of_ble_eq_true rfl) (Nat.le_of_ble_eq_true rfl) dX5_readClause_200 (fun u_16 H locs hw_u_16 hP hD hS => ?_)
        obtain ⟨o_18, o_19, o_20⟩ := u_16
        replace hw_u_16 : (o_18, o_19, o_20) = (f_e_expect_x5 o_11 o_12 r3 o_13 r5 r6 ftx 59) := hw_u_16
        rw [← hw_u_16] at hE
        replace hE : (o_18, o_19, o_20, r5, r6, o_14, t1, t2, t3, t4, o_15, ftb, ftc, ftd, fte) = RES := hE
        have hP : va_P D classes [(tb, .inl (cI, 6, .inl ftb)), (tc, .inl (cI, 30, .inl ftc)), (td, .inl (cI, 7, .inl ftd)), (te, .inl (cI, 7, .inl fte)), (t, .inr (8, [.int o_14, .int t1, .int t2, .int t3, .int t4, .ref ta, .ref tb, .ref tc, .ref td, .ref te])), (ta, .inl (cI, 6, .inl o_15)), (rd, .inr (5, [.int o_18, .int o_19, .ref x, .int r3, .int o_20, .int r5, .int r6])), (x, .inl (cI, 240, .inl ftx))] H := hP
        have hD : va_D A [(tb, .inl (cI, 6, .inl ftb)), (tc, .inl (cI, 30, .inl ftc)), (td, .inl (cI, 7, .inl ftd)), (te, .inl (cI, 7, .inl fte)), (t, .inr (8, [.int o_14, .int t1, .int t2, .int t3, .int t4, .ref ta, .ref tb, .ref tc, .ref td, .ref te])), (ta, .inl (cI, 6, .inl o_15)), (rd, .inr (5, [.int o_18, .int o_19, .ref x, .int r3, .int o_20, .int r5, .int r6])), (x, .inl (cI, 240, .inl ftx))] := hD
        exact hret (o_18, o_19, o_20, r5, r6, o_14, t1, t2, t3, t4, o_15, ftb, ftc, ftd, fte) _ _ _ _ dX5_readClause_203 hE (cutP (isC := [6, 7, 4, 5, 0, 1, 2, 3]) hP rfl) (cutD (isC := [6, 7, 4, 5, 0, 1, 2, 3]) hD rfl rfl) hS
      · rw [if_neg c_8] at hE
        refine lv_aload_n hx hb dX5_readClause_77 rfl (lv_at hl 2 rfl) ?_
        refine lv_iconst (v := 3) hx hb dX5_readClause_78 (by decide) ?_
        refine lv_aload_n hx hb dX5_readClause_79 rfl (lv_at hl 2 rfl) ?_
        refine va_get (D := D) (ci := 5) (v := .int u_1) (C := RX5) (T := TX5) (N := 7) hx hb hts iX5 hown hK hP 6 rfl rfl 4 (by decide) (hts _ wd_46) (fun _ h9 => h9) rfl dX5_readClause_80 ?_
        refine cVv (wr := [(ta, .inl (cI, 6, .inl fta)), (tb, .inl (cI, 6, .inl ftb)), (tc, .inl (cI, 30, .inl ftc)), (td, .inl (cI, 7, .inl ftd)), (te, .inl (cI, 7, .inl fte)), (x, .inl (cI, 240, .inl ftx)), (t, .inr (8, [.int t0, .int t1, .int t2, .int t3, .int t4, .ref ta, .ref tb, .ref tc, .ref td, .ref te]))]) (rest := []) (e_blame_x5 rd x r0 r1 r3 u_1 r5 r6 3 u_1) okV_X5_blame wd_201 hx hb hml hown hts hK hP hD hS hA hN hl.1 [6] [0, 1, 2, 3, 4, 5, 7] rfl rfl rfl rfl (by decide) rfl rfl rfl (Nat.le_of_ble_eq_true rfl) (Nat.le_of_ble_eq_true rfl) (Nat.le_of_ble_eq_true rfl) (Nat.le_of_ble_eq_true rfl) (Nat.le_of_ble_eq_true rfl) dX5_readClause_83 (fun u_21 H locs hw_u_21 hP hD hS => ?_)
        obtain ⟨o_23, o_24⟩ := u_21
        replace hw_u_21 : (o_23, o_24) = (f_e_blame_x5 r0 r1 r3 u_1 r5 r6 3 u_1) := hw_u_21
        rw [← hw_u_21] at hE
        replace hE : (o_23, o_24, u_1, r5, r6, t0, t1, t2, t3, t4, fta, ftb, ftc, ftd, fte) = RES := hE
        have hP : va_P D classes [(ta, .inl (cI, 6, .inl fta)), (tb, .inl (cI, 6, .inl ftb)), (tc, .inl (cI, 30, .inl ftc)), (td, .inl (cI, 7, .inl ftd)), (te, .inl (cI, 7, .inl fte)), (x, .inl (cI, 240, .inl ftx)), (t, .inr (8, [.int t0, .int t1, .int t2, .int t3, .int t4, .ref ta, .ref tb, .ref tc, .ref td, .ref te])), (rd, .inr (5, [.int o_23, .int o_24, .ref x, .int r3, .int u_1, .int r5, .int r6]))] H := hP
        have hD : va_D A [(ta, .inl (cI, 6, .inl fta)), (tb, .inl (cI, 6, .inl ftb)), (tc, .inl (cI, 30, .inl ftc)), (td, .inl (cI, 7, .inl ftd)), (te, .inl (cI, 7, .inl fte)), (x, .inl (cI, 240, .inl ftx)), (t, .inr (8, [.int t0, .int t1, .int t2, .int t3, .int t4, .ref ta, .ref tb, .ref tc, .ref td, .ref te])), (rd, .inr (5, [.int o_23, .int o_24, .ref x, .int r3, .int u_1, .int r5, .int r6]))] := hD
        exact hret (o_23, o_24, u_1, r5, r6, t0, t1, t2, t3, t4, fta, ftb, ftc, ftd, fte) _ _ _ _ dX5_readClause_86 hE (cutP (isC := [7, 5, 6, 0, 1, 2, 3, 4]) hP rfl) (cutD (isC := [7, 5, 6, 0, 1, 2, 3, 4]) hD rfl rfl) hS
    · rw [if_pos c_5] at hE
      refine lv_iload_n hx hb dX5_readClause_52 rfl (lv_at hl 1 rfl) ?_
      refine lv_bipush (v := 98) hx hb dX5_readClause_53 (by decide) ?_
      refine lv_icmp_eq (tgt := 68) hx hb dX5_readClause_55 (by decide) (fun c_25 => ?_) (fun c_25 => absurd (by decide +kernel) c_25)
      refine lv_aload_n hx hb dX5_readClause_68 rfl (lv_at hl 2 rfl) ?_
      refine lv_iload_n hx hb dX5_readClause_69 rfl (lv_at hl 1 rfl) ?_
      refine lv_aload_n hx hb dX5_readClause_70 rfl (lv_at hl 3 rfl) ?_
      refine cVi (wr := [(ta, .inl (cI, 6, .inl fta)), (tb, .inl (cI, 6, .inl ftb)), (tc, .inl (cI, 30, .inl ftc)), (td, .inl (cI, 7, .inl ftd)), (te, .inl (cI, 7, .inl fte)), (x, .inl (cI, 240, .inl ftx))]) (rest := []) (e_isTooOften_x5 rd x t ta tb tc td te r0 r1 r3 u_1 r5 r6 t0 t1 t2 t3 t4 98 h01) okV_X5_isTooOften wd_226 hx hb hml hown hts hK hP hD hS hA hN hl.1 [6, 0] [1, 2, 3, 4, 5, 7] rfl rfl rfl rfl (by decide) rfl rfl rfl (Nat.le_of_ble_eq_true rfl) (Nat.le_of_ble_eq_true rfl) (Nat.le_of_ble_eq_true rfl) (Nat.le_of_ble_eq_true rfl) (Nat.le_of_ble_eq_true rfl) dX5_readClause_71 (fun r_27 u_26 H locs hw_u_26 hP hD hS => ?_)
      replace hw_u_26 : r_27 = (f_e_isTooOften_x5 r0 r1 r3 u_1 r5 r6 t0 t1 t2 t3 t4 98) := hw_u_26
      rw [hw_u_26]
      clear hw_u_26
      have hP : va_P D classes [(ta, .inl (cI, 6, .inl fta)), (tb, .inl (cI, 6, .inl ftb)), (tc, .inl (cI, 30, .inl ftc)), (td, .inl (cI, 7, .inl ftd)), (te, .inl (cI, 7, .inl fte)), (x, .inl (cI, 240, .inl ftx)), (rd, .inr (5, [.int r0, .int r1, .ref x, .int r3, .int u_1, .int r5, .int r6])), (t, .inr (8, [.int t0, .int t1, .int t2, .int t3, .int t4, .ref ta, .ref tb, .ref tc, .ref td, .ref te]))] H := hP
      have hD : va_D A [(ta, .inl (cI, 6, .inl fta)), (tb, .inl (cI, 6, .inl ftb)), (tc, .inl (cI, 30, .inl ftc)), (td, .inl (cI, 7, .inl ftd)), (te, .inl (cI, 7, .inl fte)), (x, .inl (cI, 240, .inl ftx)), (rd, .inr (5, [.int r0, .int r1, .ref x, .int r3, .int u_1, .int r5, .int r6])), (t, .inr (8, [.int t0, .int t1, .int t2, .int t3, .int t4, .ref ta, .ref tb, .ref tc, .ref td, .ref te]))] := hD
      refine lv_if_eq (tgt := 87) hx hb dX5_readClause_74 (by decide) (fun c_28 => ?_) (fun c_28 => ?_)
      · rw [if_pos c_28] at hE
        refine lv_aload_n hx hb dX5_readClause_87 rfl (lv_at hl 2 rfl) ?_
        refine lv_dup hx hb dX5_readClause_88 rfl ?_
        refine va_get (D := D) (ci := 5) (v := .int u_1) (C := RX5) (T := TX5) (N := 7) hx hb hts iX5 hown hK hP 6 rfl rfl 4 (by decide) (hts _ wd_46) (fun _ h9 => h9) rfl dX5_readClause_89 ?_
        refine lv_iconst (v := 1) hx hb dX5_readClause_92 (by decide) ?_
        refine lv_iadd hx hb dX5_readClause_93 ?_
        refine va_put (D := D) (ci := 5) (v := .int (u_1 + 1)) (ty := .int) (C := RX5) (T := TX5) (N := 7) hx hb hts iX5 tyX5 tyX5_ok nmX5 hown hK hP hD hS 6 rfl rfl 4 (by decide) (hts _ wd_46) (fun _ h9 => h9) rfl (by decide +kernel) rfl rfl (Nat.le_of_ble_eq_true rfl) dX5_readClause_94 (fun H locs hP hD hS => ?_)
        have hP : va_P D classes [(ta, .inl (cI, 6, .inl fta)), (tb, .inl (cI, 6, .inl ftb)), (tc, .inl (cI, 30, .inl ftc)), (td, .inl (cI, 7, .inl ftd)), (te, .inl (cI, 7, .inl fte)), (x, .inl (cI, 240, .inl ftx)), (rd, .inr (5, [.int r0, .int r1, .ref x, .int r3, .int (u_1 + 1), .int r5, .int r6])), (t, .inr (8, [.int t0, .int t1, .int t2, .int t3, .int t4, .ref ta, .ref tb, .ref tc, .ref td, .ref te]))] H := hP
        have hD : va_D A [(ta, .inl (cI, 6, .inl fta)), (tb, .inl (cI, 6, .inl ftb)), (tc, .inl (cI, 30, .inl ftc)), (td, .inl (cI, 7, .inl ftd)), (te, .inl (cI, 7, .inl fte)), (x, .inl (cI, 240, .inl ftx)), (rd, .inr (5, [.int r0, .int r1, .ref x, .int r3, .int (u_1 + 1), .int r5, .int r6])), (t, .inr (8, [.int t0, .int t1, .int t2, .int t3, .int t4, .ref ta, .ref tb, .ref tc, .ref td, .ref te]))] := hD
        refine lv_iload_n hx hb dX5_readClause_97 rfl (lv_at hl 1 rfl) ?_
        refine lv_lookup (off := 42) (tgt := 140) hx hb dX5_readClause_98 (by decide +kernel) (by decide +kernel) (by decide) ?_
        refine lv_aload_n hx hb dX5_readClause_140 rfl (lv_at hl 2 rfl) ?_
        refine lv_aload_n hx hb dX5_readClause_141 rfl (lv_at hl 3 rfl) ?_
        refine cVv (wr := [(tb, .inl (cI, 6, .inl ftb)), (tc, .inl (cI, 30, .inl ftc)), (td, .inl (cI, 7, .inl ftd)), (te, .inl (cI, 7, .inl fte))]) (rest := []) (e_readBridges_x5 rd x t ta tb tc td te r0 r1 r3 (u_1 + 1) r5 r6 ftx t0 t1 t2 t3 t4 fta) okV_X5_readBridges wd_230 hx hb hml hown hts hK hP hD hS hA hN hl.1 [6, 5, 7, 0] [1, 2, 3, 4] rfl rfl rfl rfl (by decide) rfl rfl rfl (Nat.le_of_ble_eq_true rfl) (Nat.le_of_ble_eq_true rfl) (Nat.le_of_ble_eq_true rfl) (Nat.le_of_ble_eq_true rfl) (Nat.le_of_ble_eq_true rfl) dX5_readClause_142 (fun u_29 H locs hw_u_29 hP hD hS => ?_)
        obtain ⟨o_31, o_32, o_33, o_34, o_35⟩ := u_29
        replace hw_u_29 : (o_31, o_32, o_33, o_34, o_35) = (f_e_readBridges_x5 r0 r1 r3 (u_1 + 1) r5 r6 ftx t0 t1 t2 t3 t4 fta) := hw_u_29
        rw [← hw_u_29] at hE
        replace hE : (match (f_e_expect_x5 o_31 o_32 r3 o_33 r5 r6 ftx 59) with | (o_38, o_39, o_40) => (o_38, o_39, o_40, r5, r6, o_34, t1, t2, t3, t4, o_35, ftb, ftc, ftd, fte)) = RES := hE
        have hP : va_P D classes [(tb, .inl (cI, 6, .inl ftb)), (tc, .inl (cI, 30, .inl ftc)), (td, .inl (cI, 7, .inl ftd)), (te, .inl (cI, 7, .inl fte)), (rd, .inr (5, [.int o_31, .int o_32, .ref x, .int r3, .int o_33, .int r5, .int r6])), (x, .inl (cI, 240, .inl ftx)), (t, .inr (8, [.int o_34, .int t1, .int t2, .int t3, .int t4, .ref ta, .ref tb, .ref tc, .ref td, .ref te])), (ta, .inl (cI, 6, .inl o_35))] H := hP
        have hD : va_D A [(tb, .inl (cI, 6, .inl ftb)), (tc, .inl (cI, 30, .inl ftc)), (td, .inl (cI, 7, .inl ftd)), (te, .inl (cI, 7, .inl fte)), (rd, .inr (5, [.int o_31, .int o_32, .ref x, .int r3, .int o_33, .int r5, .int r6])), (x, .inl (cI, 240, .inl ftx)), (t, .inr (8, [.int o_34, .int t1, .int t2, .int t3, .int t4, .ref ta, .ref tb, .ref tc, .ref td, .ref te])), (ta, .inl (cI, 6, .inl o_35))] := hD
        refine lv_goto (tgt := 197) hx hb dX5_readClause_145 (by decide) ?_
        refine lv_aload_n hx hb dX5_readClause_197 rfl (lv_at hl 2 rfl) ?_
        refine lv_bipush (v := 59) hx hb dX5_readClause_198 (by decide) ?_
        refine cVv (wr := [(tb, .inl (cI, 6, .inl ftb)), (tc, .inl (cI, 30, .inl ftc)), (td, .inl (cI, 7, .inl ftd)), (te, .inl (cI, 7, .inl fte)), (t, .inr (8, [.int o_34, .int t1, .int t2, .int t3, .int t4, .ref ta, .ref tb, .ref tc, .ref td, .ref te])), (ta, .inl (cI, 6, .inl o_35))]) (rest := []) (e_expect_x5 rd x o_31 o_32 r3 o_33 r5 r6 ftx 59) okV_X5_expect wd_220 hx hb hml hown hts hK hP hD hS hA hN hl.1 [4, 5] [0, 1, 2, 3, 6, 7] rfl rfl rfl rfl (by decide) rfl rfl rfl (Nat.le_of_ble_eq_true rfl) (Nat.le_of_ble_eq_true rfl) (Nat.le_of_ble_eq_true rfl) (Nat.le_of_ble_eq_true rfl) (Nat.le_of_ble_eq_true rfl) dX5_readClause_200 (fun u_36 H locs hw_u_36 hP hD hS => ?_)
        obtain ⟨o_38, o_39, o_40⟩ := u_36
        replace hw_u_36 : (o_38, o_39, o_40) = (f_e_expect_x5 o_31 o_32 r3 o_33 r5 r6 ftx 59) := hw_u_36
        rw [← hw_u_36] at hE
        replace hE : (o_38, o_39, o_40, r5, r6, o_34, t1, t2, t3, t4, o_35, ftb, ftc, ftd, fte) = RES := hE
        have hP : va_P D classes [(tb, .inl (cI, 6, .inl ftb)), (tc, .inl (cI, 30, .inl ftc)), (td, .inl (cI, 7, .inl ftd)), (te, .inl (cI, 7, .inl fte)), (t, .inr (8, [.int o_34, .int t1, .int t2, .int t3, .int t4, .ref ta, .ref tb, .ref tc, .ref td, .ref te])), (ta, .inl (cI, 6, .inl o_35)), (rd, .inr (5, [.int o_38, .int o_39, .ref x, .int r3, .int o_40, .int r5, .int r6])), (x, .inl (cI, 240, .inl ftx))] H := hP
        have hD : va_D A [(tb, .inl (cI, 6, .inl ftb)), (tc, .inl (cI, 30, .inl ftc)), (td, .inl (cI, 7, .inl ftd)), (te, .inl (cI, 7, .inl fte)), (t, .inr (8, [.int o_34, .int t1, .int t2, .int t3, .int t4, .ref ta, .ref tb, .ref tc, .ref td, .ref te])), (ta, .inl (cI, 6, .inl o_35)), (rd, .inr (5, [.int o_38, .int o_39, .ref x, .int r3, .int o_40, .int r5, .int r6])), (x, .inl (cI, 240, .inl ftx))] := hD
        exact hret (o_38, o_39, o_40, r5, r6, o_34, t1, t2, t3, t4, o_35, ftb, ftc, ftd, fte) _ _ _ _ dX5_readClause_203 hE (cutP (isC := [6, 7, 4, 5, 0, 1, 2, 3]) hP rfl) (cutD (isC := [6, 7, 4, 5, 0, 1, 2, 3]) hD rfl rfl) hS
      · rw [if_neg c_28] at hE
        refine lv_aload_n hx hb dX5_readClause_77 rfl (lv_at hl 2 rfl) ?_
        refine lv_iconst (v := 3) hx hb dX5_readClause_78 (by decide) ?_
        refine lv_aload_n hx hb dX5_readClause_79 rfl (lv_at hl 2 rfl) ?_
        refine va_get (D := D) (ci := 5) (v := .int u_1) (C := RX5) (T := TX5) (N := 7) hx hb hts iX5 hown hK hP 6 rfl rfl 4 (by decide) (hts _ wd_46) (fun _ h9 => h9) rfl dX5_readClause_80 ?_
        refine cVv (wr := [(ta, .inl (cI, 6, .inl fta)), (tb, .inl (cI, 6, .inl ftb)), (tc, .inl (cI, 30, .inl ftc)), (td, .inl (cI, 7, .inl ftd)), (te, .inl (cI, 7, .inl fte)), (x, .inl (cI, 240, .inl ftx)), (t, .inr (8, [.int t0, .int t1, .int t2, .int t3, .int t4, .ref ta, .ref tb, .ref tc, .ref td, .ref te]))]) (rest := []) (e_blame_x5 rd x r0 r1 r3 u_1 r5 r6 3 u_1) okV_X5_blame wd_201 hx hb hml hown hts hK hP hD hS hA hN hl.1 [6] [0, 1, 2, 3, 4, 5, 7] rfl rfl rfl rfl (by decide) rfl rfl rfl (Nat.le_of_ble_eq_true rfl) (Nat.le_of_ble_eq_true rfl) (Nat.le_of_ble_eq_true rfl) (Nat.le_of_ble_eq_true rfl) (Nat.le_of_ble_eq_true rfl) dX5_readClause_83 (fun u_41 H locs hw_u_41 hP hD hS => ?_)
        obtain ⟨o_43, o_44⟩ := u_41
        replace hw_u_41 : (o_43, o_44) = (f_e_blame_x5 r0 r1 r3 u_1 r5 r6 3 u_1) := hw_u_41
        rw [← hw_u_41] at hE
        replace hE : (o_43, o_44, u_1, r5, r6, t0, t1, t2, t3, t4, fta, ftb, ftc, ftd, fte) = RES := hE
        have hP : va_P D classes [(ta, .inl (cI, 6, .inl fta)), (tb, .inl (cI, 6, .inl ftb)), (tc, .inl (cI, 30, .inl ftc)), (td, .inl (cI, 7, .inl ftd)), (te, .inl (cI, 7, .inl fte)), (x, .inl (cI, 240, .inl ftx)), (t, .inr (8, [.int t0, .int t1, .int t2, .int t3, .int t4, .ref ta, .ref tb, .ref tc, .ref td, .ref te])), (rd, .inr (5, [.int o_43, .int o_44, .ref x, .int r3, .int u_1, .int r5, .int r6]))] H := hP
        have hD : va_D A [(ta, .inl (cI, 6, .inl fta)), (tb, .inl (cI, 6, .inl ftb)), (tc, .inl (cI, 30, .inl ftc)), (td, .inl (cI, 7, .inl ftd)), (te, .inl (cI, 7, .inl fte)), (x, .inl (cI, 240, .inl ftx)), (t, .inr (8, [.int t0, .int t1, .int t2, .int t3, .int t4, .ref ta, .ref tb, .ref tc, .ref td, .ref te])), (rd, .inr (5, [.int o_43, .int o_44, .ref x, .int r3, .int u_1, .int r5, .int r6]))] := hD
        exact hret (o_43, o_44, u_1, r5, r6, t0, t1, t2, t3, t4, fta, ftb, ftc, ftd, fte) _ _ _ _ dX5_readClause_86 hE (cutP (isC := [7, 5, 6, 0, 1, 2, 3, 4]) hP rfl) (cutD (isC := [7, 5, 6, 0, 1, 2, 3, 4]) hD rfl rfl) hS
  · rw [if_neg c_3] at hE
    refine lv_iload_n hx hb dX5_readClause_11 rfl (lv_at hl 0 rfl) ?_
    refine lv_bipush (v := 116) hx hb dX5_readClause_12 (by decide) ?_
    refine lv_icmp_eq (tgt := 35) hx hb dX5_readClause_14 (by decide) (fun c_45 => ?_) (fun c_45 => ?_)
    · rw [if_pos c_45] at hE
      subst c_45
      refine lv_iconst (v := 1) hx hb dX5_readClause_35 (by decide) ?_
      refine lv_goto (tgt := 40) hx hb dX5_readClause_36 (by decide) ?_
      refine lv_istore_n (lv' := [(3, .int 1), (2, .int 116), (0, .ref rd), (1, .ref t)]) hx hb dX5_readClause_40 rfl hl (by decide) rfl (fun ls hl => ?_)
      refine lv_iload_n hx hb dX5_readClause_41 rfl (lv_at hl 0 rfl) ?_
      refine lv_if_eq (tgt := 58) hx hb dX5_readClause_42 (by decide) (fun c_46 => absurd c_46 (by decide +kernel)) (fun c_46 => ?_)
      refine lv_aload_n hx hb dX5_readClause_45 rfl (lv_at hl 3 rfl) ?_
      refine va_get (D := D) (ci := 8) (v := .int t0) (C := RX8) (T := TX8) (N := 10) hx hb hts iX8 hown hK hP 0 rfl rfl 0 (by decide) (hts _ wd_209) (fun _ h9 => h9) rfl dX5_readClause_46 ?_
      refine lv_if_ne (tgt := 68) hx hb dX5_readClause_49 (by decide) (fun c_47 => ?_) (fun c_47 => ?_)
      · rw [if_neg c_47] at hE
        refine lv_aload_n hx hb dX5_readClause_68 rfl (lv_at hl 2 rfl) ?_
        refine lv_iload_n hx hb dX5_readClause_69 rfl (lv_at hl 1 rfl) ?_
        refine lv_aload_n hx hb dX5_readClause_70 rfl (lv_at hl 3 rfl) ?_
        refine cVi (wr := [(ta, .inl (cI, 6, .inl fta)), (tb, .inl (cI, 6, .inl ftb)), (tc, .inl (cI, 30, .inl ftc)), (td, .inl (cI, 7, .inl ftd)), (te, .inl (cI, 7, .inl fte)), (x, .inl (cI, 240, .inl ftx))]) (rest := []) (e_isTooOften_x5 rd x t ta tb tc td te r0 r1 r3 u_1 r5 r6 t0 t1 t2 t3 t4 116 h01) okV_X5_isTooOften wd_226 hx hb hml hown hts hK hP hD hS hA hN hl.1 [6, 0] [1, 2, 3, 4, 5, 7] rfl rfl rfl rfl (by decide) rfl rfl rfl (Nat.le_of_ble_eq_true rfl) (Nat.le_of_ble_eq_true rfl) (Nat.le_of_ble_eq_true rfl) (Nat.le_of_ble_eq_true rfl) (Nat.le_of_ble_eq_true rfl) dX5_readClause_71 (fun r_49 u_48 H locs hw_u_48 hP hD hS => ?_)
        replace hw_u_48 : r_49 = (f_e_isTooOften_x5 r0 r1 r3 u_1 r5 r6 t0 t1 t2 t3 t4 116) := hw_u_48
        rw [hw_u_48]
        clear hw_u_48
        have hP : va_P D classes [(ta, .inl (cI, 6, .inl fta)), (tb, .inl (cI, 6, .inl ftb)), (tc, .inl (cI, 30, .inl ftc)), (td, .inl (cI, 7, .inl ftd)), (te, .inl (cI, 7, .inl fte)), (x, .inl (cI, 240, .inl ftx)), (rd, .inr (5, [.int r0, .int r1, .ref x, .int r3, .int u_1, .int r5, .int r6])), (t, .inr (8, [.int t0, .int t1, .int t2, .int t3, .int t4, .ref ta, .ref tb, .ref tc, .ref td, .ref te]))] H := hP
        have hD : va_D A [(ta, .inl (cI, 6, .inl fta)), (tb, .inl (cI, 6, .inl ftb)), (tc, .inl (cI, 30, .inl ftc)), (td, .inl (cI, 7, .inl ftd)), (te, .inl (cI, 7, .inl fte)), (x, .inl (cI, 240, .inl ftx)), (rd, .inr (5, [.int r0, .int r1, .ref x, .int r3, .int u_1, .int r5, .int r6])), (t, .inr (8, [.int t0, .int t1, .int t2, .int t3, .int t4, .ref ta, .ref tb, .ref tc, .ref td, .ref te]))] := hD
        refine lv_if_eq (tgt := 87) hx hb dX5_readClause_74 (by decide) (fun c_50 => ?_) (fun c_50 => ?_)
        · rw [if_pos c_50] at hE
          refine lv_aload_n hx hb dX5_readClause_87 rfl (lv_at hl 2 rfl) ?_
          refine lv_dup hx hb dX5_readClause_88 rfl ?_
          refine va_get (D := D) (ci := 5) (v := .int u_1) (C := RX5) (T := TX5) (N := 7) hx hb hts iX5 hown hK hP 6 rfl rfl 4 (by decide) (hts _ wd_46) (fun _ h9 => h9) rfl dX5_readClause_89 ?_
          refine lv_iconst (v := 1) hx hb dX5_readClause_92 (by decide) ?_
          refine lv_iadd hx hb dX5_readClause_93 ?_
          refine va_put (D := D) (ci := 5) (v := .int (u_1 + 1)) (ty := .int) (C := RX5) (T := TX5) (N := 7) hx hb hts iX5 tyX5 tyX5_ok nmX5 hown hK hP hD hS 6 rfl rfl 4 (by decide) (hts _ wd_46) (fun _ h9 => h9) rfl (by decide +kernel) rfl rfl (Nat.le_of_ble_eq_true rfl) dX5_readClause_94 (fun H locs hP hD hS => ?_)
          have hP : va_P D classes [(ta, .inl (cI, 6, .inl fta)), (tb, .inl (cI, 6, .inl ftb)), (tc, .inl (cI, 30, .inl ftc)), (td, .inl (cI, 7, .inl ftd)), (te, .inl (cI, 7, .inl fte)), (x, .inl (cI, 240, .inl ftx)), (rd, .inr (5, [.int r0, .int r1, .ref x, .int r3, .int (u_1 + 1), .int r5, .int r6])), (t, .inr (8, [.int t0, .int t1, .int t2, .int t3, .int t4, .ref ta, .ref tb, .ref tc, .ref td, .ref te]))] H := hP
          have hD : va_D A [(ta, .inl (cI, 6, .inl fta)), (tb, .inl (cI, 6, .inl ftb)), (tc, .inl (cI, 30, .inl ftc)), (td, .inl (cI, 7, .inl ftd)), (te, .inl (cI, 7, .inl fte)), (x, .inl (cI, 240, .inl ftx)), (rd, .inr (5, [.int r0, .int r1, .ref x, .int r3, .int (u_1 + 1), .int r5, .int r6])), (t, .inr (8, [.int t0, .int t1, .int t2, .int t3, .int t4, .ref ta, .ref tb, .ref tc, .ref td, .ref te]))] := hD
          refine lv_iload_n hx hb dX5_readClause_97 rfl (lv_at hl 1 rfl) ?_
          refine lv_lookup (off := 50) (tgt := 148) hx hb dX5_readClause_98 (by decide +kernel) (by decide +kernel) (by decide) ?_
          refine lv_aload_n hx hb dX5_readClause_148 rfl (lv_at hl 3 rfl) ?_
          refine lv_aload_n hx hb dX5_readClause_149 rfl (lv_at hl 2 rfl) ?_
          refine lv_iconst (v := 1) hx hb dX5_readClause_150 (by decide) ?_
          refine lv_iconst (v := 5) hx hb dX5_readClause_151 (by decide) ?_
          refine cVi (wr := [(ta, .inl (cI, 6, .inl fta)), (tb, .inl (cI, 6, .inl ftb)), (tc, .inl (cI, 30, .inl ftc)), (td, .inl (cI, 7, .inl ftd)), (te, .inl (cI, 7, .inl fte)), (t, .inr (8, [.int t0, .int t1, .int t2, .int t3, .int t4, .ref ta, .ref tb, .ref tc, .ref td, .ref te]))]) (rest := [.ref t]) (e_number_x5 rd x r0 r1 r3 (u_1 + 1) r5 r6 ftx 1 5) okV_X5_number wd_213 hx hb hml hown hts hK hP hD hS hA hN hl.1 [6, 5] [0, 1, 2, 3, 4, 7] rfl rfl rfl rfl (by decide) rfl rfl rfl (Nat.le_of_ble_eq_true rfl) (Nat.le_of_ble_eq_true rfl) (Nat.le_of_ble_eq_true rfl) (Nat.le_of_ble_eq_true rfl) (Nat.le_of_ble_eq_true rfl) dX5_readClause_152 (fun r_52 u_51 H locs hw_u_51 hP hD hS => ?_)
          obtain ⟨o_53, o_54, o_55⟩ := u_51
          replace hw_u_51 : (r_52, o_53, o_54, o_55) = (f_e_number_x5 r0 r1 r3 (u_1 + 1) r5 r6 ftx 1 5) := hw_u_51
          rw [← hw_u_51] at hE
          replace hE : (match (f_e_expect_x5 o_53 o_54 r3 o_55 1 r6 ftx 59) with | (o_58, o_59, o_60) => (o_58, o_59, o_60, 1, r6, t0, r_52, t2, t3, t4, fta, ftb, ftc, ftd, fte)) = RES := hE
          have hP : va_P D classes [(ta, .inl (cI, 6, .inl fta)), (tb, .inl (cI, 6, .inl ftb)), (tc, .inl (cI, 30, .inl ftc)), (td, .inl (cI, 7, .inl ftd)), (te, .inl (cI, 7, .inl fte)), (t, .inr (8, [.int t0, .int t1, .int t2, .int t3, .int t4, .ref ta, .ref tb, .ref tc, .ref td, .ref te])), (rd, .inr (5, [.int o_53, .int o_54, .ref x, .int r3, .int o_55, .int r5, .int r6])), (x, .inl (cI, 240, .inl ftx))] H := hP
          have hD : va_D A [(ta, .inl (cI, 6, .inl fta)), (tb, .inl (cI, 6, .inl ftb)), (tc, .inl (cI, 30, .inl ftc)), (td, .inl (cI, 7, .inl ftd)), (te, .inl (cI, 7, .inl fte)), (t, .inr (8, [.int t0, .int t1, .int t2, .int t3, .int t4, .ref ta, .ref tb, .ref tc, .ref td, .ref te])), (rd, .inr (5, [.int o_53, .int o_54, .ref x, .int r3, .int o_55, .int r5, .int r6])), (x, .inl (cI, 240, .inl ftx))] := hD
          refine va_put (D := D) (ci := 8) (v := .int r_52) (ty := .int) (C := RX8) (T := TX8) (N := 10) hx hb hts iX8 tyX8 tyX8_ok nmX8 hown hK hP hD hS 5 rfl rfl 1 (by decide) (hts _ wd_218) (fun _ h9 => h9) rfl (by decide +kernel) rfl rfl (Nat.le_of_ble_eq_true rfl) dX5_readClause_155 (fun H locs hP hD hS => ?_)
          have hP : va_P D classes [(ta, .inl (cI, 6, .inl fta)), (tb, .inl (cI, 6, .inl ftb)), (tc, .inl (cI, 30, .inl ftc)), (td, .inl (cI, 7, .inl ftd)), (te, .inl (cI, 7, .inl fte)), (t, .inr (8, [.int t0, .int r_52, .int t2, .int t3, .int t4, .ref ta, .ref tb, .ref tc, .ref td, .ref te])), (rd, .inr (5, [.int o_53, .int o_54, .ref x, .int r3, .int o_55, .int r5, .int r6])), (x, .inl (cI, 240, .inl ftx))] H := hP
          have hD : va_D A [(ta, .inl (cI, 6, .inl fta)), (tb, .inl (cI, 6, .inl ftb)), (tc, .inl (cI, 30, .inl ftc)), (td, .inl (cI, 7, .inl ftd)), (te, .inl (cI, 7, .inl fte)), (t, .inr (8, [.int t0, .int r_52, .int t2, .int t3, .int t4, .ref ta, .ref tb, .ref tc, .ref td, .ref te])), (rd, .inr (5, [.int o_53, .int o_54, .ref x, .int r3, .int o_55, .int r5, .int r6])), (x, .inl (cI, 240, .inl ftx))] := hD
          refine lv_aload_n hx hb dX5_readClause_158 rfl (lv_at hl 2 rfl) ?_
          refine lv_iconst (v := 1) hx hb dX5_readClause_159 (by decide) ?_
          refine va_put (D := D) (ci := 5) (v := .int 1) (ty := .boolean) (C := RX5) (T := TX5) (N := 7) hx hb hts iX5 tyX5 tyX5_ok nmX5 hown hK hP hD hS 6 rfl rfl 5 (by decide) (hts _ wd_47) (fun _ h9 => h9) rfl (by decide +kernel) rfl rfl (Nat.le_of_ble_eq_true rfl) dX5_readClause_160 (fun H locs hP hD hS => ?_)
          have hP : va_P D classes [(ta, .inl (cI, 6, .inl fta)), (tb, .inl (cI, 6, .inl ftb)), (tc, .inl (cI, 30, .inl ftc)), (td, .inl (cI, 7, .inl ftd)), (te, .inl (cI, 7, .inl fte)), (t, .inr (8, [.int t0, .int r_52, .int t2, .int t3, .int t4, .ref ta, .ref tb, .ref tc, .ref td, .ref te])), (rd, .inr (5, [.int o_53, .int o_54, .ref x, .int r3, .int o_55, .int 1, .int r6])), (x, .inl (cI, 240, .inl ftx))] H := hP
          have hD : va_D A [(ta, .inl (cI, 6, .inl fta)), (tb, .inl (cI, 6, .inl ftb)), (tc, .inl (cI, 30, .inl ftc)), (td, .inl (cI, 7, .inl ftd)), (te, .inl (cI, 7, .inl fte)), (t, .inr (8, [.int t0, .int r_52, .int t2, .int t3, .int t4, .ref ta, .ref tb, .ref tc, .ref td, .ref te])), (rd, .inr (5, [.int o_53, .int o_54, .ref x, .int r3, .int o_55, .int 1, .int r6])), (x, .inl (cI, 240, .inl ftx))] := hD
          refine lv_goto (tgt := 197) hx hb dX5_readClause_163 (by decide) ?_
          refine lv_aload_n hx hb dX5_readClause_197 rfl (lv_at hl 2 rfl) ?_
          refine lv_bipush (v := 59) hx hb dX5_readClause_198 (by decide) ?_
          refine cVv (wr := [(ta, .inl (cI, 6, .inl fta)), (tb, .inl (cI, 6, .inl ftb)), (tc, .inl (cI, 30, .inl ftc)), (td, .inl (cI, 7, .inl ftd)), (te, .inl (cI, 7, .inl fte)), (t, .inr (8, [.int t0, .int r_52, .int t2, .int t3, .int t4, .ref ta, .ref tb, .ref tc, .ref td, .ref te]))]) (rest := []) (e_expect_x5 rd x o_53 o_54 r3 o_55 1 r6 ftx 59) okV_X5_expect wd_220 hx hb hml hown hts hK hP hD hS hA hN hl.1 [6, 7] [0, 1, 2, 3, 4, 5] rfl rfl rfl rfl (by decide) rfl rfl rfl (Nat.le_of_ble_eq_true rfl) (Nat.le_of_ble_eq_true rfl) (Nat.le_of_ble_eq_true rfl) (Nat.le_of_ble_eq_true rfl) (Nat.le_of_ble_eq_true rfl) dX5_readClause_200 (fun u_56 H locs hw_u_56 hP hD hS => ?_)
          obtain ⟨o_58, o_59, o_60⟩ := u_56
          replace hw_u_56 : (o_58, o_59, o_60) = (f_e_expect_x5 o_53 o_54 r3 o_55 1 r6 ftx 59) := hw_u_56
          rw [← hw_u_56] at hE
          replace hE : (o_58, o_59, o_60, 1, r6, t0, r_52, t2, t3, t4, fta, ftb, ftc, ftd, fte) = RES := hE
          have hP : va_P D classes [(ta, .inl (cI, 6, .inl fta)), (tb, .inl (cI, 6, .inl ftb)), (tc, .inl (cI, 30, .inl ftc)), (td, .inl (cI, 7, .inl ftd)), (te, .inl (cI, 7, .inl fte)), (t, .inr (8, [.int t0, .int r_52, .int t2, .int t3, .int t4, .ref ta, .ref tb, .ref tc, .ref td, .ref te])), (rd, .inr (5, [.int o_58, .int o_59, .ref x, .int r3, .int o_60, .int 1, .int r6])), (x, .inl (cI, 240, .inl ftx))] H := hP
          have hD : va_D A [(ta, .inl (cI, 6, .inl fta)), (tb, .inl (cI, 6, .inl ftb)), (tc, .inl (cI, 30, .inl ftc)), (td, .inl (cI, 7, .inl ftd)), (te, .inl (cI, 7, .inl fte)), (t, .inr (8, [.int t0, .int r_52, .int t2, .int t3, .int t4, .ref ta, .ref tb, .ref tc, .ref td, .ref te])), (rd, .inr (5, [.int o_58, .int o_59, .ref x, .int r3, .int o_60, .int 1, .int r6])), (x, .inl (cI, 240, .inl ftx))] := hD
          exact hret (o_58, o_59, o_60, 1, r6, t0, r_52, t2, t3, t4, fta, ftb, ftc, ftd, fte) _ _ _ _ dX5_readClause_203 hE (cutP (isC := [6, 7, 5, 0, 1, 2, 3, 4]) hP rfl) (cutD (isC := [6, 7, 5, 0, 1, 2, 3, 4]) hD rfl rfl) hS
        · rw [if_neg c_50] at hE
          refine lv_aload_n hx hb dX5_readClause_77 rfl (lv_at hl 2 rfl) ?_
          refine lv_iconst (v := 3) hx hb dX5_readClause_78 (by decide) ?_
          refine lv_aload_n hx hb dX5_readClause_79 rfl (lv_at hl 2 rfl) ?_
          refine va_get (D := D) (ci := 5) (v := .int u_1) (C := RX5) (T := TX5) (N := 7) hx hb hts iX5 hown hK hP 6 rfl rfl 4 (by decide) (hts _ wd_46) (fun _ h9 => h9) rfl dX5_readClause_80 ?_
          refine cVv (wr := [(ta, .inl (cI, 6, .inl fta)), (tb, .inl (cI, 6, .inl ftb)), (tc, .inl (cI, 30, .inl ftc)), (td, .inl (cI, 7, .inl ftd)), (te, .inl (cI, 7, .inl fte)), (x, .inl (cI, 240, .inl ftx)), (t, .inr (8, [.int t0, .int t1, .int t2, .int t3, .int t4, .ref ta, .ref tb, .ref tc, .ref td, .ref te]))]) (rest := []) (e_blame_x5 rd x r0 r1 r3 u_1 r5 r6 3 u_1) okV_X5_blame wd_201 hx hb hml hown hts hK hP hD hS hA hN hl.1 [6] [0, 1, 2, 3, 4, 5, 7] rfl rfl rfl rfl (by decide) rfl rfl rfl (Nat.le_of_ble_eq_true rfl) (Nat.le_of_ble_eq_true rfl) (Nat.le_of_ble_eq_true rfl) (Nat.le_of_ble_eq_true rfl) (Nat.le_of_ble_eq_true rfl) dX5_readClause_83 (fun u_61 H locs hw_u_61 hP hD hS => ?_)
          obtain ⟨o_63, o_64⟩ := u_61
          replace hw_u_61 : (o_63, o_64) = (f_e_blame_x5 r0 r1 r3 u_1 r5 r6 3 u_1) := hw_u_61
          rw [← hw_u_61] at hE
          replace hE : (o_63, o_64, u_1, r5, r6, t0, t1, t2, t3, t4, fta, ftb, ftc, ftd, fte) = RES := hE
          have hP : va_P D classes [(ta, .inl (cI, 6, .inl fta)), (tb, .inl (cI, 6, .inl ftb)), (tc, .inl (cI, 30, .inl ftc)), (td, .inl (cI, 7, .inl ftd)), (te, .inl (cI, 7, .inl fte)), (x, .inl (cI, 240, .inl ftx)), (t, .inr (8, [.int t0, .int t1, .int t2, .int t3, .int t4, .ref ta, .ref tb, .ref tc, .ref td, .ref te])), (rd, .inr (5, [.int o_63, .int o_64, .ref x, .int r3, .int u_1, .int r5, .int r6]))] H := hP
          have hD : va_D A [(ta, .inl (cI, 6, .inl fta)), (tb, .inl (cI, 6, .inl ftb)), (tc, .inl (cI, 30, .inl ftc)), (td, .inl (cI, 7, .inl ftd)), (te, .inl (cI, 7, .inl fte)), (x, .inl (cI, 240, .inl ftx)), (t, .inr (8, [.int t0, .int t1, .int t2, .int t3, .int t4, .ref ta, .ref tb, .ref tc, .ref td, .ref te])), (rd, .inr (5, [.int o_63, .int o_64, .ref x, .int r3, .int u_1, .int r5, .int r6]))] := hD
          exact hret (o_63, o_64, u_1, r5, r6, t0, t1, t2, t3, t4, fta, ftb, ftc, ftd, fte) _ _ _ _ dX5_readClause_86 hE (cutP (isC := [7, 5, 6, 0, 1, 2, 3, 4]) hP rfl) (cutD (isC := [7, 5, 6, 0, 1, 2, 3, 4]) hD rfl rfl) hS
      · rw [if_pos c_47] at hE
        refine lv_iload_n hx hb dX5_readClause_52 rfl (lv_at hl 1 rfl) ?_
        refine lv_bipush (v := 98) hx hb dX5_readClause_53 (by decide) ?_
        refine lv_icmp_eq (tgt := 68) hx hb dX5_readClause_55 (by decide) (fun c_65 => absurd c_65 (by decide +kernel)) (fun c_65 => ?_)
        refine lv_aload_n hx hb dX5_readClause_58 rfl (lv_at hl 2 rfl) ?_
        refine lv_iconst (v := 1) hx hb dX5_readClause_59 (by decide) ?_
        refine lv_aload_n hx hb dX5_readClause_60 rfl (lv_at hl 2 rfl) ?_
        refine va_get (D := D) (ci := 5) (v := .int u_1) (C := RX5) (T := TX5) (N := 7) hx hb hts iX5 hown hK hP 6 rfl rfl 4 (by decide) (hts _ wd_46) (fun _ h9 => h9) rfl dX5_readClause_61 ?_
        refine cVv (wr := [(t, .inr (8, [.int t0, .int t1, .int t2, .int t3, .int t4, .ref ta, .ref tb, .ref tc, .ref td, .ref te])), (ta, .inl (cI, 6, .inl fta)), (tb, .inl (cI, 6, .inl ftb)), (tc, .inl (cI, 30, .inl ftc)), (td, .inl (cI, 7, .inl ftd)), (te, .inl (cI, 7, .inl fte)), (x, .inl (cI, 240, .inl ftx))]) (rest := []) (e_blame_x5 rd x r0 r1 r3 u_1 r5 r6 1 u_1) okV_X5_blame wd_201 hx hb hml hown hts hK hP hD hS hA hN hl.1 [6] [0, 1, 2, 3, 4, 5, 7] rfl rfl rfl rfl (by decide) rfl rfl rfl (Nat.le_of_ble_eq_true rfl) (Nat.le_of_ble_eq_true rfl) (Nat.le_of_ble_eq_true rfl) (Nat.le_of_ble_eq_true rfl) (Nat.le_of_ble_eq_true rfl) dX5_readClause_64 (fun u_66 H locs hw_u_66 hP hD hS => ?_)
        obtain ⟨o_68, o_69⟩ := u_66
        replace hw_u_66 : (o_68, o_69) = (f_e_blame_x5 r0 r1 r3 u_1 r5 r6 1 u_1) := hw_u_66
        rw [← hw_u_66] at hE
        replace hE : (o_68, o_69, u_1, r5, r6, t0, t1, t2, t3, t4, fta, ftb, ftc, ftd, fte) = RES := hE
        have hP : va_P D classes [(t, .inr (8, [.int t0, .int t1, .int t2, .int t3, .int t4, .ref ta, .ref tb, .ref tc, .ref td, .ref te])), (ta, .inl (cI, 6, .inl fta)), (tb, .inl (cI, 6, .inl ftb)), (tc, .inl (cI, 30, .inl ftc)), (td, .inl (cI, 7, .inl ftd)), (te, .inl (cI, 7, .inl fte)), (x, .inl (cI, 240, .inl ftx)), (rd, .inr (5, [.int o_68, .int o_69, .ref x, .int r3, .int u_1, .int r5, .int r6]))] H := hP
        have hD : va_D A [(t, .inr (8, [.int t0, .int t1, .int t2, .int t3, .int t4, .ref ta, .ref tb, .ref tc, .ref td, .ref te])), (ta, .inl (cI, 6, .inl fta)), (tb, .inl (cI, 6, .inl ftb)), (tc, .inl (cI, 30, .inl ftc)), (td, .inl (cI, 7, .inl ftd)), (te, .inl (cI, 7, .inl fte)), (x, .inl (cI, 240, .inl ftx)), (rd, .inr (5, [.int o_68, .int o_69, .ref x, .int r3, .int u_1, .int r5, .int r6]))] := hD
        exact hret (o_68, o_69, u_1, r5, r6, t0, t1, t2, t3, t4, fta, ftb, ftc, ftd, fte) _ _ _ _ dX5_readClause_67 hE (cutP (isC := [7, 6, 0, 1, 2, 3, 4, 5]) hP rfl) (cutD (isC := [7, 6, 0, 1, 2, 3, 4, 5]) hD rfl rfl) hS
    · rw [if_neg c_45] at hE
      refine lv_iload_n hx hb dX5_readClause_17 rfl (lv_at hl 0 rfl) ?_
      refine lv_bipush (v := 99) hx hb dX5_readClause_18 (by decide) ?_
      refine lv_icmp_eq (tgt := 35) hx hb dX5_readClause_20 (by decide) (fun c_70 => ?_) (fun c_70 => ?_)
      · rw [if_pos c_70] at hE
        subst c_70
        refine lv_iconst (v := 1) hx hb dX5_readClause_35 (by decide) ?_
        refine lv_goto (tgt := 40) hx hb dX5_readClause_36 (by decide) ?_
        refine lv_istore_n (lv' := [(3, .int 1), (2, .int 99), (0, .ref rd), (1, .ref t)]) hx hb dX5_readClause_40 rfl hl (by decide) rfl (fun ls hl => ?_)
        refine lv_iload_n hx hb dX5_readClause_41 rfl (lv_at hl 0 rfl) ?_
        refine lv_if_eq (tgt := 58) hx hb dX5_readClause_42 (by decide) (fun c_71 => absurd c_71 (by decide +kernel)) (fun c_71 => ?_)
        refine lv_aload_n hx hb dX5_readClause_45 rfl (lv_at hl 3 rfl) ?_
        refine va_get (D := D) (ci := 8) (v := .int t0) (C := RX8) (T := TX8) (N := 10) hx hb hts iX8 hown hK hP 0 rfl rfl 0 (by decide) (hts _ wd_209) (fun _ h9 => h9) rfl dX5_readClause_46 ?_
        refine lv_if_ne (tgt := 68) hx hb dX5_readClause_49 (by decide) (fun c_72 => ?_) (fun c_72 => ?_)
        · rw [if_neg c_72] at hE
          refine lv_aload_n hx hb dX5_readClause_68 rfl (lv_at hl 2 rfl) ?_
          refine lv_iload_n hx hb dX5_readClause_69 rfl (lv_at hl 1 rfl) ?_
          refine lv_aload_n hx hb dX5_readClause_70 rfl (lv_at hl 3 rfl) ?_
          refine cVi (wr := [(ta, .inl (cI, 6, .inl fta)), (tb, .inl (cI, 6, .inl ftb)), (tc, .inl (cI, 30, .inl ftc)), (td, .inl (cI, 7, .inl ftd)), (te, .inl (cI, 7, .inl fte)), (x, .inl (cI, 240, .inl ftx))]) (rest := []) (e_isTooOften_x5 rd x t ta tb tc td te r0 r1 r3 u_1 r5 r6 t0 t1 t2 t3 t4 99 h01) okV_X5_isTooOften wd_226 hx hb hml hown hts hK hP hD hS hA hN hl.1 [6, 0] [1, 2, 3, 4, 5, 7] rfl rfl rfl rfl (by decide) rfl rfl rfl (Nat.le_of_ble_eq_true rfl) (Nat.le_of_ble_eq_true rfl) (Nat.le_of_ble_eq_true rfl) (Nat.le_of_ble_eq_true rfl) (Nat.le_of_ble_eq_true rfl) dX5_readClause_71 (fun r_74 u_73 H locs hw_u_73 hP hD hS => ?_)
          replace hw_u_73 : r_74 = (f_e_isTooOften_x5 r0 r1 r3 u_1 r5 r6 t0 t1 t2 t3 t4 99) := hw_u_73
          rw [hw_u_73]
          clear hw_u_73
          have hP : va_P D classes [(ta, .inl (cI, 6, .inl fta)), (tb, .inl (cI, 6, .inl ftb)), (tc, .inl (cI, 30, .inl ftc)), (td, .inl (cI, 7, .inl ftd)), (te, .inl (cI, 7, .inl fte)), (x, .inl (cI, 240, .inl ftx)), (rd, .inr (5, [.int r0, .int r1, .ref x, .int r3, .int u_1, .int r5, .int r6])), (t, .inr (8, [.int t0, .int t1, .int t2, .int t3, .int t4, .ref ta, .ref tb, .ref tc, .ref td, .ref te]))] H := hP
          have hD : va_D A [(ta, .inl (cI, 6, .inl fta)), (tb, .inl (cI, 6, .inl ftb)), (tc, .inl (cI, 30, .inl ftc)), (td, .inl (cI, 7, .inl ftd)), (te, .inl (cI, 7, .inl fte)), (x, .inl (cI, 240, .inl ftx)), (rd, .inr (5, [.int r0, .int r1, .ref x, .int r3, .int u_1, .int r5, .int r6])), (t, .inr (8, [.int t0, .int t1, .int t2, .int t3, .int t4, .ref ta, .ref tb, .ref tc, .ref td, .ref te]))] := hD
          refine lv_if_eq (tgt := 87) hx hb dX5_readClause_74 (by decide) (fun c_75 => ?_) (fun c_75 => ?_)
          · rw [if_pos c_75] at hE
            refine lv_aload_n hx hb dX5_readClause_87 rfl (lv_at hl 2 rfl) ?_
            refine lv_dup hx hb dX5_readClause_88 rfl ?_
            refine va_get (D := D) (ci := 5) (v := .int u_1) (C := RX5) (T := TX5) (N := 7) hx hb hts iX5 hown hK hP 6 rfl rfl 4 (by decide) (hts _ wd_46) (fun _ h9 => h9) rfl dX5_readClause_89 ?_
            refine lv_iconst (v := 1) hx hb dX5_readClause_92 (by decide) ?_
            refine lv_iadd hx hb dX5_readClause_93 ?_
            refine va_put (D := D) (ci := 5) (v := .int (u_1 + 1)) (ty := .int) (C := RX5) (T := TX5) (N := 7) hx hb hts iX5 tyX5 tyX5_ok nmX5 hown hK hP hD hS 6 rfl rfl 4 (by decide) (hts _ wd_46) (fun _ h9 => h9) rfl (by decide +kernel) rfl rfl (Nat.le_of_ble_eq_true rfl) dX5_readClause_94 (fun H locs hP hD hS => ?_)
            have hP : va_P D classes [(ta, .inl (cI, 6, .inl fta)), (tb, .inl (cI, 6, .inl ftb)), (tc, .inl (cI, 30, .inl ftc)), (td, .inl (cI, 7, .inl ftd)), (te, .inl (cI, 7, .inl fte)), (x, .inl (cI, 240, .inl ftx)), (rd, .inr (5, [.int r0, .int r1, .ref x, .int r3, .int (u_1 + 1), .int r5, .int r6])), (t, .inr (8, [.int t0, .int t1, .int t2, .int t3, .int t4, .ref ta, .ref tb, .ref tc, .ref td, .ref te]))] H := hP
            have hD : va_D A [(ta, .inl (cI, 6, .inl fta)), (tb, .inl (cI, 6, .inl ftb)), (tc, .inl (cI, 30, .inl ftc)), (td, .inl (cI, 7, .inl ftd)), (te, .inl (cI, 7, .inl fte)), (x, .inl (cI, 240, .inl ftx)), (rd, .inr (5, [.int r0, .int r1, .ref x, .int r3, .int (u_1 + 1), .int r5, .int r6])), (t, .inr (8, [.int t0, .int t1, .int t2, .int t3, .int t4, .ref ta, .ref tb, .ref tc, .ref td, .ref te]))] := hD
            refine lv_iload_n hx hb dX5_readClause_97 rfl (lv_at hl 1 rfl) ?_
            refine lv_lookup (off := 68) (tgt := 166) hx hb dX5_readClause_98 (by decide +kernel) (by decide +kernel) (by decide) ?_
            refine lv_aload_n hx hb dX5_readClause_166 rfl (lv_at hl 2 rfl) ?_
            refine lv_aload_n hx hb dX5_readClause_167 rfl (lv_at hl 3 rfl) ?_
            refine cVv (wr := [(ta, .inl (cI, 6, .inl fta)), (td, .inl (cI, 7, .inl ftd)), (te, .inl (cI, 7, .inl fte))]) (rest := []) (e_readCouple_x5 rd x t ta tb tc td te r0 r1 r3 (u_1 + 1) r5 r6 ftx t0 t1 t2 t3 t4 ftb ftc) okV_X5_readCouple wd_234 hx hb hml hown hts hK hP hD hS hA hN hl.1 [6, 5, 7, 1, 2] [0, 3, 4] rfl rfl rfl rfl (by decide) rfl rfl rfl (Nat.le_of_ble_eq_true rfl) (Nat.le_of_ble_eq_true rfl) (Nat.le_of_ble_eq_true rfl) (Nat.le_of_ble_eq_true rfl) (Nat.le_of_ble_eq_true rfl) dX5_readClause_168 (fun u_76 H locs hw_u_76 hP hD hS => ?_)
            obtain ⟨o_78, o_79, o_80, o_81, o_82, o_83⟩ := u_76
            replace hw_u_76 : (o_78, o_79, o_80, o_81, o_82, o_83) = (f_e_readCouple_x5 r0 r1 r3 (u_1 + 1) r5 r6 ftx t0 t1 t2 t3 t4 ftb ftc) := hw_u_76
            rw [← hw_u_76] at hE
            replace hE : (match (f_e_expect_x5 o_78 o_79 r3 o_80 r5 r6 ftx 59) with | (o_86, o_87, o_88) => (o_86, o_87, o_88, r5, r6, t0, t1, o_81, t3, t4, fta, o_82, o_83, ftd, fte)) = RES := hE
            have hP : va_P D classes [(ta, .inl (cI, 6, .inl fta)), (td, .inl (cI, 7, .inl ftd)), (te, .inl (cI, 7, .inl fte)), (rd, .inr (5, [.int o_78, .int o_79, .ref x, .int r3, .int o_80, .int r5, .int r6])), (x, .inl (cI, 240, .inl ftx)), (t, .inr (8, [.int t0, .int t1, .int o_81, .int t3, .int t4, .ref ta, .ref tb, .ref tc, .ref td, .ref te])), (tb, .inl (cI, 6, .inl o_82)), (tc, .inl (cI, 30, .inl o_83))] H := hP
            have hD : va_D A [(ta, .inl (cI, 6, .inl fta)), (td, .inl (cI, 7, .inl ftd)), (te, .inl (cI, 7, .inl fte)), (rd, .inr (5, [.int o_78, .int o_79, .ref x, .int r3, .int o_80, .int r5, .int r6])), (x, .inl (cI, 240, .inl ftx)), (t, .inr (8, [.int t0, .int t1, .int o_81, .int t3, .int t4, .ref ta, .ref tb, .ref tc, .ref td, .ref te])), (tb, .inl (cI, 6, .inl o_82)), (tc, .inl (cI, 30, .inl o_83))] := hD
            refine lv_goto (tgt := 197) hx hb dX5_readClause_171 (by decide) ?_
            refine lv_aload_n hx hb dX5_readClause_197 rfl (lv_at hl 2 rfl) ?_
            refine lv_bipush (v := 59) hx hb dX5_readClause_198 (by decide) ?_
            refine cVv (wr := [(ta, .inl (cI, 6, .inl fta)), (td, .inl (cI, 7, .inl ftd)), (te, .inl (cI, 7, .inl fte)), (t, .inr (8, [.int t0, .int t1, .int o_81, .int t3, .int t4, .ref ta, .ref tb, .ref tc, .ref td, .ref te])), (tb, .inl (cI, 6, .inl o_82)), (tc, .inl (cI, 30, .inl o_83))]) (rest := []) (e_expect_x5 rd x o_78 o_79 r3 o_80 r5 r6 ftx 59) okV_X5_expect wd_220 hx hb hml hown hts hK hP hD hS hA hN hl.1 [3, 4] [0, 1, 2, 5, 6, 7] rfl rfl rfl rfl (by decide) rfl rfl rfl (Nat.le_of_ble_eq_true rfl) (Nat.le_of_ble_eq_true rfl) (Nat.le_of_ble_eq_true rfl) (Nat.le_of_ble_eq_true rfl) (Nat.le_of_ble_eq_true rfl) dX5_readClause_200 (fun u_84 H locs hw_u_84 hP hD hS => ?_)
            obtain ⟨o_86, o_87, o_88⟩ := u_84
            replace hw_u_84 : (o_86, o_87, o_88) = (f_e_expect_x5 o_78 o_79 r3 o_80 r5 r6 ftx 59) := hw_u_84
            rw [← hw_u_84] at hE
            replace hE : (o_86, o_87, o_88, r5, r6, t0, t1, o_81, t3, t4, fta, o_82, o_83, ftd, fte) = RES := hE
            have hP : va_P D classes [(ta, .inl (cI, 6, .inl fta)), (td, .inl (cI, 7, .inl ftd)), (te, .inl (cI, 7, .inl fte)), (t, .inr (8, [.int t0, .int t1, .int o_81, .int t3, .int t4, .ref ta, .ref tb, .ref tc, .ref td, .ref te])), (tb, .inl (cI, 6, .inl o_82)), (tc, .inl (cI, 30, .inl o_83)), (rd, .inr (5, [.int o_86, .int o_87, .ref x, .int r3, .int o_88, .int r5, .int r6])), (x, .inl (cI, 240, .inl ftx))] H := hP
            have hD : va_D A [(ta, .inl (cI, 6, .inl fta)), (td, .inl (cI, 7, .inl ftd)), (te, .inl (cI, 7, .inl fte)), (t, .inr (8, [.int t0, .int t1, .int o_81, .int t3, .int t4, .ref ta, .ref tb, .ref tc, .ref td, .ref te])), (tb, .inl (cI, 6, .inl o_82)), (tc, .inl (cI, 30, .inl o_83)), (rd, .inr (5, [.int o_86, .int o_87, .ref x, .int r3, .int o_88, .int r5, .int r6])), (x, .inl (cI, 240, .inl ftx))] := hD
            exact hret (o_86, o_87, o_88, r5, r6, t0, t1, o_81, t3, t4, fta, o_82, o_83, ftd, fte) _ _ _ _ dX5_readClause_203 hE (cutP (isC := [6, 7, 3, 0, 4, 5, 1, 2]) hP rfl) (cutD (isC := [6, 7, 3, 0, 4, 5, 1, 2]) hD rfl rfl) hS
          · rw [if_neg c_75] at hE
            refine lv_aload_n hx hb dX5_readClause_77 rfl (lv_at hl 2 rfl) ?_
            refine lv_iconst (v := 3) hx hb dX5_readClause_78 (by decide) ?_
            refine lv_aload_n hx hb dX5_readClause_79 rfl (lv_at hl 2 rfl) ?_
            refine va_get (D := D) (ci := 5) (v := .int u_1) (C := RX5) (T := TX5) (N := 7) hx hb hts iX5 hown hK hP 6 rfl rfl 4 (by decide) (hts _ wd_46) (fun _ h9 => h9) rfl dX5_readClause_80 ?_
            refine cVv (wr := [(ta, .inl (cI, 6, .inl fta)), (tb, .inl (cI, 6, .inl ftb)), (tc, .inl (cI, 30, .inl ftc)), (td, .inl (cI, 7, .inl ftd)), (te, .inl (cI, 7, .inl fte)), (x, .inl (cI, 240, .inl ftx)), (t, .inr (8, [.int t0, .int t1, .int t2, .int t3, .int t4, .ref ta, .ref tb, .ref tc, .ref td, .ref te]))]) (rest := []) (e_blame_x5 rd x r0 r1 r3 u_1 r5 r6 3 u_1) okV_X5_blame wd_201 hx hb hml hown hts hK hP hD hS hA hN hl.1 [6] [0, 1, 2, 3, 4, 5, 7] rfl rfl rfl rfl (by decide) rfl rfl rfl (Nat.le_of_ble_eq_true rfl) (Nat.le_of_ble_eq_true rfl) (Nat.le_of_ble_eq_true rfl) (Nat.le_of_ble_eq_true rfl) (Nat.le_of_ble_eq_true rfl) dX5_readClause_83 (fun u_89 H locs hw_u_89 hP hD hS => ?_)
            obtain ⟨o_91, o_92⟩ := u_89
            replace hw_u_89 : (o_91, o_92) = (f_e_blame_x5 r0 r1 r3 u_1 r5 r6 3 u_1) := hw_u_89
            rw [← hw_u_89] at hE
            replace hE : (o_91, o_92, u_1, r5, r6, t0, t1, t2, t3, t4, fta, ftb, ftc, ftd, fte) = RES := hE
            have hP : va_P D classes [(ta, .inl (cI, 6, .inl fta)), (tb, .inl (cI, 6, .inl ftb)), (tc, .inl (cI, 30, .inl ftc)), (td, .inl (cI, 7, .inl ftd)), (te, .inl (cI, 7, .inl fte)), (x, .inl (cI, 240, .inl ftx)), (t, .inr (8, [.int t0, .int t1, .int t2, .int t3, .int t4, .ref ta, .ref tb, .ref tc, .ref td, .ref te])), (rd, .inr (5, [.int o_91, .int o_92, .ref x, .int r3, .int u_1, .int r5, .int r6]))] H := hP
            have hD : va_D A [(ta, .inl (cI, 6, .inl fta)), (tb, .inl (cI, 6, .inl ftb)), (tc, .inl (cI, 30, .inl ftc)), (td, .inl (cI, 7, .inl ftd)), (te, .inl (cI, 7, .inl fte)), (x, .inl (cI, 240, .inl ftx)), (t, .inr (8, [.int t0, .int t1, .int t2, .int t3, .int t4, .ref ta, .ref tb, .ref tc, .ref td, .ref te])), (rd, .inr (5, [.int o_91, .int o_92, .ref x, .int r3, .int u_1, .int r5, .int r6]))] := hD
            exact hret (o_91, o_92, u_1, r5, r6, t0, t1, t2, t3, t4, fta, ftb, ftc, ftd, fte) _ _ _ _ dX5_readClause_86 hE (cutP (isC := [7, 5, 6, 0, 1, 2, 3, 4]) hP rfl) (cutD (isC := [7, 5, 6, 0, 1, 2, 3, 4]) hD rfl rfl) hS
        · rw [if_pos c_72] at hE
          refine lv_iload_n hx hb dX5_readClause_52 rfl (lv_at hl 1 rfl) ?_
          refine lv_bipush (v := 98) hx hb dX5_readClause_53 (by decide) ?_
          refine lv_icmp_eq (tgt := 68) hx hb dX5_readClause_55 (by decide) (fun c_93 => absurd c_93 (by decide +kernel)) (fun c_93 => ?_)
          refine lv_aload_n hx hb dX5_readClause_58 rfl (lv_at hl 2 rfl) ?_
          refine lv_iconst (v := 1) hx hb dX5_readClause_59 (by decide) ?_
          refine lv_aload_n hx hb dX5_readClause_60 rfl (lv_at hl 2 rfl) ?_
          refine va_get (D := D) (ci := 5) (v := .int u_1) (C := RX5) (T := TX5) (N := 7) hx hb hts iX5 hown hK hP 6 rfl rfl 4 (by decide) (hts _ wd_46) (fun _ h9 => h9) rfl dX5_readClause_61 ?_
          refine cVv (wr := [(t, .inr (8, [.int t0, .int t1, .int t2, .int t3, .int t4, .ref ta, .ref tb, .ref tc, .ref td, .ref te])), (ta, .inl (cI, 6, .inl fta)), (tb, .inl (cI, 6, .inl ftb)), (tc, .inl (cI, 30, .inl ftc)), (td, .inl (cI, 7, .inl ftd)), (te, .inl (cI, 7, .inl fte)), (x, .inl (cI, 240, .inl ftx))]) (rest := []) (e_blame_x5 rd x r0 r1 r3 u_1 r5 r6 1 u_1) okV_X5_blame wd_201 hx hb hml hown hts hK hP hD hS hA hN hl.1 [6] [0, 1, 2, 3, 4, 5, 7] rfl rfl rfl rfl (by decide) rfl rfl rfl (Nat.le_of_ble_eq_true rfl) (Nat.le_of_ble_eq_true rfl) (Nat.le_of_ble_eq_true rfl) (Nat.le_of_ble_eq_true rfl) (Nat.le_of_ble_eq_true rfl) dX5_readClause_64 (fun u_94 H locs hw_u_94 hP hD hS => ?_)
          obtain ⟨o_96, o_97⟩ := u_94
          replace hw_u_94 : (o_96, o_97) = (f_e_blame_x5 r0 r1 r3 u_1 r5 r6 1 u_1) := hw_u_94
          rw [← hw_u_94] at hE
          replace hE : (o_96, o_97, u_1, r5, r6, t0, t1, t2, t3, t4, fta, ftb, ftc, ftd, fte) = RES := hE
          have hP : va_P D classes [(t, .inr (8, [.int t0, .int t1, .int t2, .int t3, .int t4, .ref ta, .ref tb, .ref tc, .ref td, .ref te])), (ta, .inl (cI, 6, .inl fta)), (tb, .inl (cI, 6, .inl ftb)), (tc, .inl (cI, 30, .inl ftc)), (td, .inl (cI, 7, .inl ftd)), (te, .inl (cI, 7, .inl fte)), (x, .inl (cI, 240, .inl ftx)), (rd, .inr (5, [.int o_96, .int o_97, .ref x, .int r3, .int u_1, .int r5, .int r6]))] H := hP
          have hD : va_D A [(t, .inr (8, [.int t0, .int t1, .int t2, .int t3, .int t4, .ref ta, .ref tb, .ref tc, .ref td, .ref te])), (ta, .inl (cI, 6, .inl fta)), (tb, .inl (cI, 6, .inl ftb)), (tc, .inl (cI, 30, .inl ftc)), (td, .inl (cI, 7, .inl ftd)), (te, .inl (cI, 7, .inl fte)), (x, .inl (cI, 240, .inl ftx)), (rd, .inr (5, [.int o_96, .int o_97, .ref x, .int r3, .int u_1, .int r5, .int r6]))] := hD
          exact hret (o_96, o_97, u_1, r5, r6, t0, t1, t2, t3, t4, fta, ftb, ftc, ftd, fte) _ _ _ _ dX5_readClause_67 hE (cutP (isC := [7, 6, 0, 1, 2, 3, 4, 5]) hP rfl) (cutD (isC := [7, 6, 0, 1, 2, 3, 4, 5]) hD rfl rfl) hS
      · rw [if_neg c_70] at hE
        refine lv_iload_n hx hb dX5_readClause_23 rfl (lv_at hl 0 rfl) ?_
        refine lv_bipush (v := 118) hx hb dX5_readClause_24 (by decide) ?_
        refine lv_icmp_eq (tgt := 35) hx hb dX5_readClause_26 (by decide) (fun c_98 => ?_) (fun c_98 => ?_)
        · rw [if_pos c_98] at hE
          subst c_98
          refine lv_iconst (v := 1) hx hb dX5_readClause_35 (by decide) ?_
          refine lv_goto (tgt := 40) hx hb dX5_readClause_36 (by decide) ?_
          refine lv_istore_n (lv' := [(3, .int 1), (2, .int 118), (0, .ref rd), (1, .ref t)]) hx hb dX5_readClause_40 rfl hl (by decide) rfl (fun ls hl => ?_)
          refine lv_iload_n hx hb dX5_readClause_41 rfl (lv_at hl 0 rfl) ?_
          refine lv_if_eq (tgt := 58) hx hb dX5_readClause_42 (by decide) (fun c_99 => absurd c_99 (by decide +kernel)) (fun c_99 => ?_)
          refine lv_aload_n hx hb dX5_readClause_45 rfl (lv_at hl 3 rfl) ?_
          refine va_get (D := D) (ci := 8) (v := .int t0) (C := RX8) (T := TX8) (N := 10) hx hb hts iX8 hown hK hP 0 rfl rfl 0 (by decide) (hts _ wd_209) (fun _ h9 => h9) rfl dX5_readClause_46 ?_
          refine lv_if_ne (tgt := 68) hx hb dX5_readClause_49 (by decide) (fun c_100 => ?_) (fun c_100 => ?_)
          · rw [if_neg c_100] at hE
            refine lv_aload_n hx hb dX5_readClause_68 rfl (lv_at hl 2 rfl) ?_
            refine lv_iload_n hx hb dX5_readClause_69 rfl (lv_at hl 1 rfl) ?_
            refine lv_aload_n hx hb dX5_readClause_70 rfl (lv_at hl 3 rfl) ?_
            refine cVi (wr := [(ta, .inl (cI, 6, .inl fta)), (tb, .inl (cI, 6, .inl ftb)), (tc, .inl (cI, 30, .inl ftc)), (td, .inl (cI, 7, .inl ftd)), (te, .inl (cI, 7, .inl fte)), (x, .inl (cI, 240, .inl ftx))]) (rest := []) (e_isTooOften_x5 rd x t ta tb tc td te r0 r1 r3 u_1 r5 r6 t0 t1 t2 t3 t4 118 h01) okV_X5_isTooOften wd_226 hx hb hml hown hts hK hP hD hS hA hN hl.1 [6, 0] [1, 2, 3, 4, 5, 7] rfl rfl rfl rfl (by decide) rfl rfl rfl (Nat.le_of_ble_eq_true rfl) (Nat.le_of_ble_eq_true rfl) (Nat.le_of_ble_eq_true rfl) (Nat.le_of_ble_eq_true rfl) (Nat.le_of_ble_eq_true rfl) dX5_readClause_71 (fun r_102 u_101 H locs hw_u_101 hP hD hS => ?_)
            replace hw_u_101 : r_102 = (f_e_isTooOften_x5 r0 r1 r3 u_1 r5 r6 t0 t1 t2 t3 t4 118) := hw_u_101
            rw [hw_u_101]
            clear hw_u_101
            have hP : va_P D classes [(ta, .inl (cI, 6, .inl fta)), (tb, .inl (cI, 6, .inl ftb)), (tc, .inl (cI, 30, .inl ftc)), (td, .inl (cI, 7, .inl ftd)), (te, .inl (cI, 7, .inl fte)), (x, .inl (cI, 240, .inl ftx)), (rd, .inr (5, [.int r0, .int r1, .ref x, .int r3, .int u_1, .int r5, .int r6])), (t, .inr (8, [.int t0, .int t1, .int t2, .int t3, .int t4, .ref ta, .ref tb, .ref tc, .ref td, .ref te]))] H := hP
            have hD : va_D A [(ta, .inl (cI, 6, .inl fta)), (tb, .inl (cI, 6, .inl ftb)), (tc, .inl (cI, 30, .inl ftc)), (td, .inl (cI, 7, .inl ftd)), (te, .inl (cI, 7, .inl fte)), (x, .inl (cI, 240, .inl ftx)), (rd, .inr (5, [.int r0, .int r1, .ref x, .int r3, .int u_1, .int r5, .int r6])), (t, .inr (8, [.int t0, .int t1, .int t2, .int t3, .int t4, .ref ta, .ref tb, .ref tc, .ref td, .ref te]))] := hD
            refine lv_if_eq (tgt := 87) hx hb dX5_readClause_74 (by decide) (fun c_103 => ?_) (fun c_103 => ?_)
            · rw [if_pos c_103] at hE
              refine lv_aload_n hx hb dX5_readClause_87 rfl (lv_at hl 2 rfl) ?_
              refine lv_dup hx hb dX5_readClause_88 rfl ?_
              refine va_get (D := D) (ci := 5) (v := .int u_1) (C := RX5) (T := TX5) (N := 7) hx hb hts iX5 hown hK hP 6 rfl rfl 4 (by decide) (hts _ wd_46) (fun _ h9 => h9) rfl dX5_readClause_89 ?_
              refine lv_iconst (v := 1) hx hb dX5_readClause_92 (by decide) ?_
              refine lv_iadd hx hb dX5_readClause_93 ?_
              refine va_put (D := D) (ci := 5) (v := .int (u_1 + 1)) (ty := .int) (C := RX5) (T := TX5) (N := 7) hx hb hts iX5 tyX5 tyX5_ok nmX5 hown hK hP hD hS 6 rfl rfl 4 (by decide) (hts _ wd_46) (fun _ h9 => h9) rfl (by decide +kernel) rfl rfl (Nat.le_of_ble_eq_true rfl) dX5_readClause_94 (fun H locs hP hD hS => ?_)
              have hP : va_P D classes [(ta, .inl (cI, 6, .inl fta)), (tb, .inl (cI, 6, .inl ftb)), (tc, .inl (cI, 30, .inl ftc)), (td, .inl (cI, 7, .inl ftd)), (te, .inl (cI, 7, .inl fte)), (x, .inl (cI, 240, .inl ftx)), (rd, .inr (5, [.int r0, .int r1, .ref x, .int r3, .int (u_1 + 1), .int r5, .int r6])), (t, .inr (8, [.int t0, .int t1, .int t2, .int t3, .int t4, .ref ta, .ref tb, .ref tc, .ref td, .ref te]))] H := hP
              have hD : va_D A [(ta, .inl (cI, 6, .inl fta)), (tb, .inl (cI, 6, .inl ftb)), (tc, .inl (cI, 30, .inl ftc)), (td, .inl (cI, 7, .inl ftd)), (te, .inl (cI, 7, .inl fte)), (x, .inl (cI, 240, .inl ftx)), (rd, .inr (5, [.int r0, .int r1, .ref x, .int r3, .int (u_1 + 1), .int r5, .int r6])), (t, .inr (8, [.int t0, .int t1, .int t2, .int t3, .int t4, .ref ta, .ref tb, .ref tc, .ref td, .ref te]))] := hD
              refine lv_iload_n hx hb dX5_readClause_97 rfl (lv_at hl 1 rfl) ?_
              refine lv_lookup (off := 76) (tgt := 174) hx hb dX5_readClause_98 (by decide +kernel) (by decide +kernel) (by decide) ?_
              refine lv_aload_n hx hb dX5_readClause_174 rfl (lv_at hl 2 rfl) ?_
              refine lv_aload_n hx hb dX5_readClause_175 rfl (lv_at hl 3 rfl) ?_
              refine cVv (wr := [(ta, .inl (cI, 6, .inl fta)), (tb, .inl (cI, 6, .inl ftb)), (tc, .inl (cI, 30, .inl ftc))]) (rest := []) (e_readBarge_x5 rd x t ta tb tc td te r0 r1 r3 (u_1 + 1) r5 r6 ftx t0 t1 t2 t3 t4 ftd fte) okV_X5_readBarge wd_238 hx hb hml hown hts hK hP hD hS hA hN hl.1 [6, 5, 7, 3, 4] [0, 1, 2] rfl rfl rfl rfl (by decide) rfl rfl rfl (Nat.le_of_ble_eq_true rfl) (Nat.le_of_ble_eq_true rfl) (Nat.le_of_ble_eq_true rfl) (Nat.le_of_ble_eq_true rfl) (Nat.le_of_ble_eq_true rfl) dX5_readClause_176 (fun u_104 H locs hw_u_104 hP hD hS => ?_)
              obtain ⟨o_106, o_107, o_108, o_109, o_110, o_111⟩ := u_104
              replace hw_u_104 : (o_106, o_107, o_108, o_109, o_110, o_111) = (f_e_readBarge_x5 r0 r1 r3 (u_1 + 1) r5 r6 ftx t0 t1 t2 t3 t4 ftd fte) := hw_u_104
              rw [← hw_u_104] at hE
              replace hE : (match (f_e_expect_x5 o_106 o_107 r3 o_108 r5 r6 ftx 59) with | (o_114, o_115, o_116) => (o_114, o_115, o_116, r5, r6, t0, t1, t2, o_109, t4, fta, ftb, ftc, o_110, o_111)) = RES := hE
              have hP : va_P D classes [(ta, .inl (cI, 6, .inl fta)), (tb, .inl (cI, 6, .inl ftb)), (tc, .inl (cI, 30, .inl ftc)), (rd, .inr (5, [.int o_106, .int o_107, .ref x, .int r3, .int o_108, .int r5, .int r6])), (x, .inl (cI, 240, .inl ftx)), (t, .inr (8, [.int t0, .int t1, .int t2, .int o_109, .int t4, .ref ta, .ref tb, .ref tc, .ref td, .ref te])), (td, .inl (cI, 7, .inl o_110)), (te, .inl (cI, 7, .inl o_111))] H := hP
              have hD : va_D A [(ta, .inl (cI, 6, .inl fta)), (tb, .inl (cI, 6, .inl ftb)), (tc, .inl (cI, 30, .inl ftc)), (rd, .inr (5, [.int o_106, .int o_107, .ref x, .int r3, .int o_108, .int r5, .int r6])), (x, .inl (cI, 240, .inl ftx)), (t, .inr (8, [.int t0, .int t1, .int t2, .int o_109, .int t4, .ref ta, .ref tb, .ref tc, .ref td, .ref te])), (td, .inl (cI, 7, .inl o_110)), (te, .inl (cI, 7, .inl o_111))] := hD
              refine lv_goto (tgt := 197) hx hb dX5_readClause_179 (by decide) ?_
              refine lv_aload_n hx hb dX5_readClause_197 rfl (lv_at hl 2 rfl) ?_
              refine lv_bipush (v := 59) hx hb dX5_readClause_198 (by decide) ?_
              refine cVv (wr := [(ta, .inl (cI, 6, .inl fta)), (tb, .inl (cI, 6, .inl ftb)), (tc, .inl (cI, 30, .inl ftc)), (t, .inr (8, [.int t0, .int t1, .int t2, .int o_109, .int t4, .ref ta, .ref tb, .ref tc, .ref td, .ref te])), (td, .inl (cI, 7, .inl o_110)), (te, .inl (cI, 7, .inl o_111))]) (rest := []) (e_expect_x5 rd x o_106 o_107 r3 o_108 r5 r6 ftx 59) okV_X5_expect wd_220 hx hb hml hown hts hK hP hD hS hA hN hl.1 [3, 4] [0, 1, 2, 5, 6, 7] rfl rfl rfl rfl (by decide) rfl rfl rfl (Nat.le_of_ble_eq_true rfl) (Nat.le_of_ble_eq_true rfl) (Nat.le_of_ble_eq_true rfl) (Nat.le_of_ble_eq_true rfl) (Nat.le_of_ble_eq_true rfl) dX5_readClause_200 (fun u_112 H locs hw_u_112 hP hD hS => ?_)
              obtain ⟨o_114, o_115, o_116⟩ := u_112
              replace hw_u_112 : (o_114, o_115, o_116) = (f_e_expect_x5 o_106 o_107 r3 o_108 r5 r6 ftx 59) := hw_u_112
              rw [← hw_u_112] at hE
              replace hE : (o_114, o_115, o_116, r5, r6, t0, t1, t2, o_109, t4, fta, ftb, ftc, o_110, o_111) = RES := hE
              have hP : va_P D classes [(ta, .inl (cI, 6, .inl fta)), (tb, .inl (cI, 6, .inl ftb)), (tc, .inl (cI, 30, .inl ftc)), (t, .inr (8, [.int t0, .int t1, .int t2, .int o_109, .int t4, .ref ta, .ref tb, .ref tc, .ref td, .ref te])), (td, .inl (cI, 7, .inl o_110)), (te, .inl (cI, 7, .inl o_111)), (rd, .inr (5, [.int o_114, .int o_115, .ref x, .int r3, .int o_116, .int r5, .int r6])), (x, .inl (cI, 240, .inl ftx))] H := hP
              have hD : va_D A [(ta, .inl (cI, 6, .inl fta)), (tb, .inl (cI, 6, .inl ftb)), (tc, .inl (cI, 30, .inl ftc)), (t, .inr (8, [.int t0, .int t1, .int t2, .int o_109, .int t4, .ref ta, .ref tb, .ref tc, .ref td, .ref te])), (td, .inl (cI, 7, .inl o_110)), (te, .inl (cI, 7, .inl o_111)), (rd, .inr (5, [.int o_114, .int o_115, .ref x, .int r3, .int o_116, .int r5, .int r6])), (x, .inl (cI, 240, .inl ftx))] := hD
              exact hret (o_114, o_115, o_116, r5, r6, t0, t1, t2, o_109, t4, fta, ftb, ftc, o_110, o_111) _ _ _ _ dX5_readClause_203 hE (cutP (isC := [6, 7, 3, 0, 1, 2, 4, 5]) hP rfl) (cutD (isC := [6, 7, 3, 0, 1, 2, 4, 5]) hD rfl rfl) hS
            · rw [if_neg c_103] at hE
              refine lv_aload_n hx hb dX5_readClause_77 rfl (lv_at hl 2 rfl) ?_
              refine lv_iconst (v := 3) hx hb dX5_readClause_78 (by decide) ?_
              refine lv_aload_n hx hb dX5_readClause_79 rfl (lv_at hl 2 rfl) ?_
              refine va_get (D := D) (ci := 5) (v := .int u_1) (C := RX5) (T := TX5) (N := 7) hx hb hts iX5 hown hK hP 6 rfl rfl 4 (by decide) (hts _ wd_46) (fun _ h9 => h9) rfl dX5_readClause_80 ?_
              refine cVv (wr := [(ta, .inl (cI, 6, .inl fta)), (tb, .inl (cI, 6, .inl ftb)), (tc, .inl (cI, 30, .inl ftc)), (td, .inl (cI, 7, .inl ftd)), (te, .inl (cI, 7, .inl fte)), (x, .inl (cI, 240, .inl ftx)), (t, .inr (8, [.int t0, .int t1, .int t2, .int t3, .int t4, .ref ta, .ref tb, .ref tc, .ref td, .ref te]))]) (rest := []) (e_blame_x5 rd x r0 r1 r3 u_1 r5 r6 3 u_1) okV_X5_blame wd_201 hx hb hml hown hts hK hP hD hS hA hN hl.1 [6] [0, 1, 2, 3, 4, 5, 7] rfl rfl rfl rfl (by decide) rfl rfl rfl (Nat.le_of_ble_eq_true rfl) (Nat.le_of_ble_eq_true rfl) (Nat.le_of_ble_eq_true rfl) (Nat.le_of_ble_eq_true rfl) (Nat.le_of_ble_eq_true rfl) dX5_readClause_83 (fun u_117 H locs hw_u_117 hP hD hS => ?_)
              obtain ⟨o_119, o_120⟩ := u_117
              replace hw_u_117 : (o_119, o_120) = (f_e_blame_x5 r0 r1 r3 u_1 r5 r6 3 u_1) := hw_u_117
              rw [← hw_u_117] at hE
              replace hE : (o_119, o_120, u_1, r5, r6, t0, t1, t2, t3, t4, fta, ftb, ftc, ftd, fte) = RES := hE
              have hP : va_P D classes [(ta, .inl (cI, 6, .inl fta)), (tb, .inl (cI, 6, .inl ftb)), (tc, .inl (cI, 30, .inl ftc)), (td, .inl (cI, 7, .inl ftd)), (te, .inl (cI, 7, .inl fte)), (x, .inl (cI, 240, .inl ftx)), (t, .inr (8, [.int t0, .int t1, .int t2, .int t3, .int t4, .ref ta, .ref tb, .ref tc, .ref td, .ref te])), (rd, .inr (5, [.int o_119, .int o_120, .ref x, .int r3, .int u_1, .int r5, .int r6]))] H := hP
              have hD : va_D A [(ta, .inl (cI, 6, .inl fta)), (tb, .inl (cI, 6, .inl ftb)), (tc, .inl (cI, 30, .inl ftc)), (td, .inl (cI, 7, .inl ftd)), (te, .inl (cI, 7, .inl fte)), (x, .inl (cI, 240, .inl ftx)), (t, .inr (8, [.int t0, .int t1, .int t2, .int t3, .int t4, .ref ta, .ref tb, .ref tc, .ref td, .ref te])), (rd, .inr (5, [.int o_119, .int o_120, .ref x, .int r3, .int u_1, .int r5, .int r6]))] := hD
              exact hret (o_119, o_120, u_1, r5, r6, t0, t1, t2, t3, t4, fta, ftb, ftc, ftd, fte) _ _ _ _ dX5_readClause_86 hE (cutP (isC := [7, 5, 6, 0, 1, 2, 3, 4]) hP rfl) (cutD (isC := [7, 5, 6, 0, 1, 2, 3, 4]) hD rfl rfl) hS
          · rw [if_pos c_100] at hE
            refine lv_iload_n hx hb dX5_readClause_52 rfl (lv_at hl 1 rfl) ?_
            refine lv_bipush (v := 98) hx hb dX5_readClause_53 (by decide) ?_
            refine lv_icmp_eq (tgt := 68) hx hb dX5_readClause_55 (by decide) (fun c_121 => absurd c_121 (by decide +kernel)) (fun c_121 => ?_)
            refine lv_aload_n hx hb dX5_readClause_58 rfl (lv_at hl 2 rfl) ?_
            refine lv_iconst (v := 1) hx hb dX5_readClause_59 (by decide) ?_
            refine lv_aload_n hx hb dX5_readClause_60 rfl (lv_at hl 2 rfl) ?_
            refine va_get (D := D) (ci := 5) (v := .int u_1) (C := RX5) (T := TX5) (N := 7) hx hb hts iX5 hown hK hP 6 rfl rfl 4 (by decide) (hts _ wd_46) (fun _ h9 => h9) rfl dX5_readClause_61 ?_
            refine cVv (wr := [(t, .inr (8, [.int t0, .int t1, .int t2, .int t3, .int t4, .ref ta, .ref tb, .ref tc, .ref td, .ref te])), (ta, .inl (cI, 6, .inl fta)), (tb, .inl (cI, 6, .inl ftb)), (tc, .inl (cI, 30, .inl ftc)), (td, .inl (cI, 7, .inl ftd)), (te, .inl (cI, 7, .inl fte)), (x, .inl (cI, 240, .inl ftx))]) (rest := []) (e_blame_x5 rd x r0 r1 r3 u_1 r5 r6 1 u_1) okV_X5_blame wd_201 hx hb hml hown hts hK hP hD hS hA hN hl.1 [6] [0, 1, 2, 3, 4, 5, 7] rfl rfl rfl rfl (by decide) rfl rfl rfl (Nat.le_of_ble_eq_true rfl) (Nat.le_of_ble_eq_true rfl) (Nat.le_of_ble_eq_true rfl) (Nat.le_of_ble_eq_true rfl) (Nat.le_of_ble_eq_true rfl) dX5_readClause_64 (fun u_122 H locs hw_u_122 hP hD hS => ?_)
            obtain ⟨o_124, o_125⟩ := u_122
            replace hw_u_122 : (o_124, o_125) = (f_e_blame_x5 r0 r1 r3 u_1 r5 r6 1 u_1) := hw_u_122
            rw [← hw_u_122] at hE
            replace hE : (o_124, o_125, u_1, r5, r6, t0, t1, t2, t3, t4, fta, ftb, ftc, ftd, fte) = RES := hE
            have hP : va_P D classes [(t, .inr (8, [.int t0, .int t1, .int t2, .int t3, .int t4, .ref ta, .ref tb, .ref tc, .ref td, .ref te])), (ta, .inl (cI, 6, .inl fta)), (tb, .inl (cI, 6, .inl ftb)), (tc, .inl (cI, 30, .inl ftc)), (td, .inl (cI, 7, .inl ftd)), (te, .inl (cI, 7, .inl fte)), (x, .inl (cI, 240, .inl ftx)), (rd, .inr (5, [.int o_124, .int o_125, .ref x, .int r3, .int u_1, .int r5, .int r6]))] H := hP
            have hD : va_D A [(t, .inr (8, [.int t0, .int t1, .int t2, .int t3, .int t4, .ref ta, .ref tb, .ref tc, .ref td, .ref te])), (ta, .inl (cI, 6, .inl fta)), (tb, .inl (cI, 6, .inl ftb)), (tc, .inl (cI, 30, .inl ftc)), (td, .inl (cI, 7, .inl ftd)), (te, .inl (cI, 7, .inl fte)), (x, .inl (cI, 240, .inl ftx)), (rd, .inr (5, [.int o_124, .int o_125, .ref x, .int r3, .int u_1, .int r5, .int r6]))] := hD
            exact hret (o_124, o_125, u_1, r5, r6, t0, t1, t2, t3, t4, fta, ftb, ftc, ftd, fte) _ _ _ _ dX5_readClause_67 hE (cutP (isC := [7, 6, 0, 1, 2, 3, 4, 5]) hP rfl) (cutD (isC := [7, 6, 0, 1, 2, 3, 4, 5]) hD rfl rfl) hS
        · rw [if_neg c_98] at hE
          refine lv_iload_n hx hb dX5_readClause_29 rfl (lv_at hl 0 rfl) ?_
          refine lv_bipush (v := 115) hx hb dX5_readClause_30 (by decide) ?_
          refine lv_icmp_ne (tgt := 39) hx hb dX5_readClause_32 (by decide) (fun c_126 => ?_) (fun c_126 => ?_)
          · rw [if_neg c_126] at hE
            refine lv_iconst (v := 0) hx hb dX5_readClause_39 (by decide) ?_
            refine lv_istore_n (lv' := [(3, .int 0), (2, .int r_2), (0, .ref rd), (1, .ref t)]) hx hb dX5_readClause_40 rfl hl (by decide) rfl (fun ls hl => ?_)
            refine lv_iload_n hx hb dX5_readClause_41 rfl (lv_at hl 0 rfl) ?_
            refine lv_if_eq (tgt := 58) hx hb dX5_readClause_42 (by decide) (fun c_127 => ?_) (fun c_127 => absurd (by decide +kernel) c_127)
            refine lv_aload_n hx hb dX5_readClause_58 rfl (lv_at hl 2 rfl) ?_
            refine lv_iconst (v := 1) hx hb dX5_readClause_59 (by decide) ?_
            refine lv_aload_n hx hb dX5_readClause_60 rfl (lv_at hl 2 rfl) ?_
            refine va_get (D := D) (ci := 5) (v := .int u_1) (C := RX5) (T := TX5) (N := 7) hx hb hts iX5 hown hK hP 6 rfl rfl 4 (by decide) (hts _ wd_46) (fun _ h9 => h9) rfl dX5_readClause_61 ?_
            refine cVv (wr := [(t, .inr (8, [.int t0, .int t1, .int t2, .int t3, .int t4, .ref ta, .ref tb, .ref tc, .ref td, .ref te])), (ta, .inl (cI, 6, .inl fta)), (tb, .inl (cI, 6, .inl ftb)), (tc, .inl (cI, 30, .inl ftc)), (td, .inl (cI, 7, .inl ftd)), (te, .inl (cI, 7, .inl fte)), (x, .inl (cI, 240, .inl ftx))]) (rest := []) (e_blame_x5 rd x r0 r1 r3 u_1 r5 r6 1 u_1) okV_X5_blame wd_201 hx hb hml hown hts hK hP hD hS hA hN hl.1 [6] [0, 1, 2, 3, 4, 5, 7] rfl rfl rfl rfl (by decide) rfl rfl rfl (Nat.le_of_ble_eq_true rfl) (Nat.le_of_ble_eq_true rfl) (Nat.le_of_ble_eq_true rfl) (Nat.le_of_ble_eq_true rfl) (Nat.le_of_ble_eq_true rfl) dX5_readClause_64 (fun u_128 H locs hw_u_128 hP hD hS => ?_)
            obtain ⟨o_130, o_131⟩ := u_128
            replace hw_u_128 : (o_130, o_131) = (f_e_blame_x5 r0 r1 r3 u_1 r5 r6 1 u_1) := hw_u_128
            rw [← hw_u_128] at hE
            replace hE : (o_130, o_131, u_1, r5, r6, t0, t1, t2, t3, t4, fta, ftb, ftc, ftd, fte) = RES := hE
            have hP : va_P D classes [(t, .inr (8, [.int t0, .int t1, .int t2, .int t3, .int t4, .ref ta, .ref tb, .ref tc, .ref td, .ref te])), (ta, .inl (cI, 6, .inl fta)), (tb, .inl (cI, 6, .inl ftb)), (tc, .inl (cI, 30, .inl ftc)), (td, .inl (cI, 7, .inl ftd)), (te, .inl (cI, 7, .inl fte)), (x, .inl (cI, 240, .inl ftx)), (rd, .inr (5, [.int o_130, .int o_131, .ref x, .int r3, .int u_1, .int r5, .int r6]))] H := hP
            have hD : va_D A [(t, .inr (8, [.int t0, .int t1, .int t2, .int t3, .int t4, .ref ta, .ref tb, .ref tc, .ref td, .ref te])), (ta, .inl (cI, 6, .inl fta)), (tb, .inl (cI, 6, .inl ftb)), (tc, .inl (cI, 30, .inl ftc)), (td, .inl (cI, 7, .inl ftd)), (te, .inl (cI, 7, .inl fte)), (x, .inl (cI, 240, .inl ftx)), (rd, .inr (5, [.int o_130, .int o_131, .ref x, .int r3, .int u_1, .int r5, .int r6]))] := hD
            exact hret (o_130, o_131, u_1, r5, r6, t0, t1, t2, t3, t4, fta, ftb, ftc, ftd, fte) _ _ _ _ dX5_readClause_67 hE (cutP (isC := [7, 6, 0, 1, 2, 3, 4, 5]) hP rfl) (cutD (isC := [7, 6, 0, 1, 2, 3, 4, 5]) hD rfl rfl) hS
          · rw [if_pos c_126] at hE
            subst c_126
            refine lv_iconst (v := 1) hx hb dX5_readClause_35 (by decide) ?_
            refine lv_goto (tgt := 40) hx hb dX5_readClause_36 (by decide) ?_
            refine lv_istore_n (lv' := [(3, .int 1), (2, .int 115), (0, .ref rd), (1, .ref t)]) hx hb dX5_readClause_40 rfl hl (by decide) rfl (fun ls hl => ?_)
            refine lv_iload_n hx hb dX5_readClause_41 rfl (lv_at hl 0 rfl) ?_
            refine lv_if_eq (tgt := 58) hx hb dX5_readClause_42 (by decide) (fun c_132 => absurd c_132 (by decide +kernel)) (fun c_132 => ?_)
            refine lv_aload_n hx hb dX5_readClause_45 rfl (lv_at hl 3 rfl) ?_
            refine va_get (D := D) (ci := 8) (v := .int t0) (C := RX8) (T := TX8) (N := 10) hx hb hts iX8 hown hK hP 0 rfl rfl 0 (by decide) (hts _ wd_209) (fun _ h9 => h9) rfl dX5_readClause_46 ?_
            refine lv_if_ne (tgt := 68) hx hb dX5_readClause_49 (by decide) (fun c_133 => ?_) (fun c_133 => ?_)
            · rw [if_neg c_133] at hE
              refine lv_aload_n hx hb dX5_readClause_68 rfl (lv_at hl 2 rfl) ?_
              refine lv_iload_n hx hb dX5_readClause_69 rfl (lv_at hl 1 rfl) ?_
              refine lv_aload_n hx hb dX5_readClause_70 rfl (lv_at hl 3 rfl) ?_
              refine cVi (wr := [(ta, .inl (cI, 6, .inl fta)), (tb, .inl (cI, 6, .inl ftb)), (tc, .inl (cI, 30, .inl ftc)), (td, .inl (cI, 7, .inl ftd)), (te, .inl (cI, 7, .inl fte)), (x, .inl (cI, 240, .inl ftx))]) (rest := []) (e_isTooOften_x5 rd x t ta tb tc td te r0 r1 r3 u_1 r5 r6 t0 t1 t2 t3 t4 115 h01) okV_X5_isTooOften wd_226 hx hb hml hown hts hK hP hD hS hA hN hl.1 [6, 0] [1, 2, 3, 4, 5, 7] rfl rfl rfl rfl (by decide) rfl rfl rfl (Nat.le_of_ble_eq_true rfl) (Nat.le_of_ble_eq_true rfl) (Nat.le_of_ble_eq_true rfl) (Nat.le_of_ble_eq_true rfl) (Nat.le_of_ble_eq_true rfl) dX5_readClause_71 (fun r_135 u_134 H locs hw_u_134 hP hD hS => ?_)
              replace hw_u_134 : r_135 = (f_e_isTooOften_x5 r0 r1 r3 u_1 r5 r6 t0 t1 t2 t3 t4 115) := hw_u_134
              rw [hw_u_134]
              clear hw_u_134
              have hP : va_P D classes [(ta, .inl (cI, 6, .inl fta)), (tb, .inl (cI, 6, .inl ftb)), (tc, .inl (cI, 30, .inl ftc)), (td, .inl (cI, 7, .inl ftd)), (te, .inl (cI, 7, .inl fte)), (x, .inl (cI, 240, .inl ftx)), (rd, .inr (5, [.int r0, .int r1, .ref x, .int r3, .int u_1, .int r5, .int r6])), (t, .inr (8, [.int t0, .int t1, .int t2, .int t3, .int t4, .ref ta, .ref tb, .ref tc, .ref td, .ref te]))] H := hP
              have hD : va_D A [(ta, .inl (cI, 6, .inl fta)), (tb, .inl (cI, 6, .inl ftb)), (tc, .inl (cI, 30, .inl ftc)), (td, .inl (cI, 7, .inl ftd)), (te, .inl (cI, 7, .inl fte)), (x, .inl (cI, 240, .inl ftx)), (rd, .inr (5, [.int r0, .int r1, .ref x, .int r3, .int u_1, .int r5, .int r6])), (t, .inr (8, [.int t0, .int t1, .int t2, .int t3, .int t4, .ref ta, .ref tb, .ref tc, .ref td, .ref te]))] := hD
              refine lv_if_eq (tgt := 87) hx hb dX5_readClause_74 (by decide) (fun c_136 => ?_) (fun c_136 => ?_)
              · rw [if_pos c_136] at hE
                refine lv_aload_n hx hb dX5_readClause_87 rfl (lv_at hl 2 rfl) ?_
                refine lv_dup hx hb dX5_readClause_88 rfl ?_
                refine va_get (D := D) (ci := 5) (v := .int u_1) (C := RX5) (T := TX5) (N := 7) hx hb hts iX5 hown hK hP 6 rfl rfl 4 (by decide) (hts _ wd_46) (fun _ h9 => h9) rfl dX5_readClause_89 ?_
                refine lv_iconst (v := 1) hx hb dX5_readClause_92 (by decide) ?_
                refine lv_iadd hx hb dX5_readClause_93 ?_
                refine va_put (D := D) (ci := 5) (v := .int (u_1 + 1)) (ty := .int) (C := RX5) (T := TX5) (N := 7) hx hb hts iX5 tyX5 tyX5_ok nmX5 hown hK hP hD hS 6 rfl rfl 4 (by decide) (hts _ wd_46) (fun _ h9 => h9) rfl (by decide +kernel) rfl rfl (Nat.le_of_ble_eq_true rfl) dX5_readClause_94 (fun H locs hP hD hS => ?_)
                have hP : va_P D classes [(ta, .inl (cI, 6, .inl fta)), (tb, .inl (cI, 6, .inl ftb)), (tc, .inl (cI, 30, .inl ftc)), (td, .inl (cI, 7, .inl ftd)), (te, .inl (cI, 7, .inl fte)), (x, .inl (cI, 240, .inl ftx)), (rd, .inr (5, [.int r0, .int r1, .ref x, .int r3, .int (u_1 + 1), .int r5, .int r6])), (t, .inr (8, [.int t0, .int t1, .int t2, .int t3, .int t4, .ref ta, .ref tb, .ref tc, .ref td, .ref te]))] H := hP
                have hD : va_D A [(ta, .inl (cI, 6, .inl fta)), (tb, .inl (cI, 6, .inl ftb)), (tc, .inl (cI, 30, .inl ftc)), (td, .inl (cI, 7, .inl ftd)), (te, .inl (cI, 7, .inl fte)), (x, .inl (cI, 240, .inl ftx)), (rd, .inr (5, [.int r0, .int r1, .ref x, .int r3, .int (u_1 + 1), .int r5, .int r6])), (t, .inr (8, [.int t0, .int t1, .int t2, .int t3, .int t4, .ref ta, .ref tb, .ref tc, .ref td, .ref te]))] := hD
                refine lv_iload_n hx hb dX5_readClause_97 rfl (lv_at hl 1 rfl) ?_
                refine lv_lookup (off := 84) (tgt := 182) hx hb dX5_readClause_98 (by decide +kernel) (by decide +kernel) (by decide) ?_
                refine lv_aload_n hx hb dX5_readClause_182 rfl (lv_at hl 3 rfl) ?_
                refine lv_aload_n hx hb dX5_readClause_183 rfl (lv_at hl 2 rfl) ?_
                refine lv_iconst (v := 0) hx hb dX5_readClause_184 (by decide) ?_
                refine lv_iconst (v := 1) hx hb dX5_readClause_185 (by decide) ?_
                refine cVi (wr := [(ta, .inl (cI, 6, .inl fta)), (tb, .inl (cI, 6, .inl ftb)), (tc, .inl (cI, 30, .inl ftc)), (td, .inl (cI, 7, .inl ftd)), (te, .inl (cI, 7, .inl fte)), (t, .inr (8, [.int t0, .int t1, .int t2, .int t3, .int t4, .ref ta, .ref tb, .ref tc, .ref td, .ref te]))]) (rest := [.ref t]) (e_number_x5 rd x r0 r1 r3 (u_1 + 1) r5 r6 ftx 0 1) okV_X5_number wd_213 hx hb hml hown hts hK hP hD hS hA hN hl.1 [6, 5] [0, 1, 2, 3, 4, 7] rfl rfl rfl rfl (by decide) rfl rfl rfl (Nat.le_of_ble_eq_true rfl) (Nat.le_of_ble_eq_true rfl) (Nat.le_of_ble_eq_true rfl) (Nat.le_of_ble_eq_true rfl) (Nat.le_of_ble_eq_true rfl) dX5_readClause_186 (fun r_138 u_137 H locs hw_u_137 hP hD hS => ?_)
                obtain ⟨o_139, o_140, o_141⟩ := u_137
                replace hw_u_137 : (r_138, o_139, o_140, o_141) = (f_e_number_x5 r0 r1 r3 (u_1 + 1) r5 r6 ftx 0 1) := hw_u_137
                rw [← hw_u_137] at hE
                replace hE : (match (f_e_expect_x5 o_139 o_140 r3 o_141 r5 1 ftx 59) with | (o_144, o_145, o_146) => (o_144, o_145, o_146, r5, 1, t0, t1, t2, t3, r_138, fta, ftb, ftc, ftd, fte)) = RES := hE
                have hP : va_P D classes [(ta, .inl (cI, 6, .inl fta)), (tb, .inl (cI, 6, .inl ftb)), (tc, .inl (cI, 30, .inl ftc)), (td, .inl (cI, 7, .inl ftd)), (te, .inl (cI, 7, .inl fte)), (t, .inr (8, [.int t0, .int t1, .int t2, .int t3, .int t4, .ref ta, .ref tb, .ref tc, .ref td, .ref te])), (rd, .inr (5, [.int o_139, .int o_140, .ref x, .int r3, .int o_141, .int r5, .int r6])), (x, .inl (cI, 240, .inl ftx))] H := hP
                have hD : va_D A [(ta, .inl (cI, 6, .inl fta)), (tb, .inl (cI, 6, .inl ftb)), (tc, .inl (cI, 30, .inl ftc)), (td, .inl (cI, 7, .inl ftd)), (te, .inl (cI, 7, .inl fte)), (t, .inr (8, [.int t0, .int t1, .int t2, .int t3, .int t4, .ref ta, .ref tb, .ref tc, .ref td, .ref te])), (rd, .inr (5, [.int o_139, .int o_140, .ref x, .int r3, .int o_141, .int r5, .int r6])), (x, .inl (cI, 240, .inl ftx))] := hD
                refine va_put (D := D) (ci := 8) (v := .int r_138) (ty := .int) (C := RX8) (T := TX8) (N := 10) hx hb hts iX8 tyX8 tyX8_ok nmX8 hown hK hP hD hS 5 rfl rfl 4 (by decide) (hts _ wd_242) (fun _ h9 => h9) rfl (by decide +kernel) rfl rfl (Nat.le_of_ble_eq_true rfl) dX5_readClause_189 (fun H locs hP hD hS => ?_)
                have hP : va_P D classes [(ta, .inl (cI, 6, .inl fta)), (tb, .inl (cI, 6, .inl ftb)), (tc, .inl (cI, 30, .inl ftc)), (td, .inl (cI, 7, .inl ftd)), (te, .inl (cI, 7, .inl fte)), (t, .inr (8, [.int t0, .int t1, .int t2, .int t3, .int r_138, .ref ta, .ref tb, .ref tc, .ref td, .ref te])), (rd, .inr (5, [.int o_139, .int o_140, .ref x, .int r3, .int o_141, .int r5, .int r6])), (x, .inl (cI, 240, .inl ftx))] H := hP
                have hD : va_D A [(ta, .inl (cI, 6, .inl fta)), (tb, .inl (cI, 6, .inl ftb)), (tc, .inl (cI, 30, .inl ftc)), (td, .inl (cI, 7, .inl ftd)), (te, .inl (cI, 7, .inl fte)), (t, .inr (8, [.int t0, .int t1, .int t2, .int t3, .int r_138, .ref ta, .ref tb, .ref tc, .ref td, .ref te])), (rd, .inr (5, [.int o_139, .int o_140, .ref x, .int r3, .int o_141, .int r5, .int r6])), (x, .inl (cI, 240, .inl ftx))] := hD
                refine lv_aload_n hx hb dX5_readClause_192 rfl (lv_at hl 2 rfl) ?_
                refine lv_iconst (v := 1) hx hb dX5_readClause_193 (by decide) ?_
                refine va_put (D := D) (ci := 5) (v := .int 1) (ty := .boolean) (C := RX5) (T := TX5) (N := 7) hx hb hts iX5 tyX5 tyX5_ok nmX5 hown hK hP hD hS 6 rfl rfl 6 (by decide) (hts _ wd_48) (fun _ h9 => h9) rfl (by decide +kernel) rfl rfl (Nat.le_of_ble_eq_true rfl) dX5_readClause_194 (fun H locs hP hD hS => ?_)
                have hP : va_P D classes [(ta, .inl (cI, 6, .inl fta)), (tb, .inl (cI, 6, .inl ftb)), (tc, .inl (cI, 30, .inl ftc)), (td, .inl (cI, 7, .inl ftd)), (te, .inl (cI, 7, .inl fte)), (t, .inr (8, [.int t0, .int t1, .int t2, .int t3, .int r_138, .ref ta, .ref tb, .ref tc, .ref td, .ref te])), (rd, .inr (5, [.int o_139, .int o_140, .ref x, .int r3, .int o_141, .int r5, .int 1])), (x, .inl (cI, 240, .inl ftx))] H := hP
                have hD : va_D A [(ta, .inl (cI, 6, .inl fta)), (tb, .inl (cI, 6, .inl ftb)), (tc, .inl (cI, 30, .inl ftc)), (td, .inl (cI, 7, .inl ftd)), (te, .inl (cI, 7, .inl fte)), (t, .inr (8, [.int t0, .int t1, .int t2, .int t3, .int r_138, .ref ta, .ref tb, .ref tc, .ref td, .ref te])), (rd, .inr (5, [.int o_139, .int o_140, .ref x, .int r3, .int o_141, .int r5, .int 1])), (x, .inl (cI, 240, .inl ftx))] := hD
                refine lv_aload_n hx hb dX5_readClause_197 rfl (lv_at hl 2 rfl) ?_
                refine lv_bipush (v := 59) hx hb dX5_readClause_198 (by decide) ?_
                refine cVv (wr := [(ta, .inl (cI, 6, .inl fta)), (tb, .inl (cI, 6, .inl ftb)), (tc, .inl (cI, 30, .inl ftc)), (td, .inl (cI, 7, .inl ftd)), (te, .inl (cI, 7, .inl fte)), (t, .inr (8, [.int t0, .int t1, .int t2, .int t3, .int r_138, .ref ta, .ref tb, .ref tc, .ref td, .ref te]))]) (rest := []) (e_expect_x5 rd x o_139 o_140 r3 o_141 r5 1 ftx 59) okV_X5_expect wd_220 hx hb hml hown hts hK hP hD hS hA hN hl.1 [6, 7] [0, 1, 2, 3, 4, 5] rfl rfl rfl rfl (by decide) rfl rfl rfl (Nat.le_of_ble_eq_true rfl) (Nat.le_of_ble_eq_true rfl) (Nat.le_of_ble_eq_true rfl) (Nat.le_of_ble_eq_true rfl) (Nat.le_of_ble_eq_true rfl) dX5_readClause_200 (fun u_142 H locs hw_u_142 hP hD hS => ?_)
                obtain ⟨o_144, o_145, o_146⟩ := u_142
                replace hw_u_142 : (o_144, o_145, o_146) = (f_e_expect_x5 o_139 o_140 r3 o_141 r5 1 ftx 59) := hw_u_142
                rw [← hw_u_142] at hE
                replace hE : (o_144, o_145, o_146, r5, 1, t0, t1, t2, t3, r_138, fta, ftb, ftc, ftd, fte) = RES := hE
                have hP : va_P D classes [(ta, .inl (cI, 6, .inl fta)), (tb, .inl (cI, 6, .inl ftb)), (tc, .inl (cI, 30, .inl ftc)), (td, .inl (cI, 7, .inl ftd)), (te, .inl (cI, 7, .inl fte)), (t, .inr (8, [.int t0, .int t1, .int t2, .int t3, .int r_138, .ref ta, .ref tb, .ref tc, .ref td, .ref te])), (rd, .inr (5, [.int o_144, .int o_145, .ref x, .int r3, .int o_146, .int r5, .int 1])), (x, .inl (cI, 240, .inl ftx))] H := hP
                have hD : va_D A [(ta, .inl (cI, 6, .inl fta)), (tb, .inl (cI, 6, .inl ftb)), (tc, .inl (cI, 30, .inl ftc)), (td, .inl (cI, 7, .inl ftd)), (te, .inl (cI, 7, .inl fte)), (t, .inr (8, [.int t0, .int t1, .int t2, .int t3, .int r_138, .ref ta, .ref tb, .ref tc, .ref td, .ref te])), (rd, .inr (5, [.int o_144, .int o_145, .ref x, .int r3, .int o_146, .int r5, .int 1])), (x, .inl (cI, 240, .inl ftx))] := hD
                exact hret (o_144, o_145, o_146, r5, 1, t0, t1, t2, t3, r_138, fta, ftb, ftc, ftd, fte) _ _ _ _ dX5_readClause_203 hE (cutP (isC := [6, 7, 5, 0, 1, 2, 3, 4]) hP rfl) (cutD (isC := [6, 7, 5, 0, 1, 2, 3, 4]) hD rfl rfl) hS
              · rw [if_neg c_136] at hE
                refine lv_aload_n hx hb dX5_readClause_77 rfl (lv_at hl 2 rfl) ?_
                refine lv_iconst (v := 3) hx hb dX5_readClause_78 (by decide) ?_
                refine lv_aload_n hx hb dX5_readClause_79 rfl (lv_at hl 2 rfl) ?_
                refine va_get (D := D) (ci := 5) (v := .int u_1) (C := RX5) (T := TX5) (N := 7) hx hb hts iX5 hown hK hP 6 rfl rfl 4 (by decide) (hts _ wd_46) (fun _ h9 => h9) rfl dX5_readClause_80 ?_
                refine cVv (wr := [(ta, .inl (cI, 6, .inl fta)), (tb, .inl (cI, 6, .inl ftb)), (tc, .inl (cI, 30, .inl ftc)), (td, .inl (cI, 7, .inl ftd)), (te, .inl (cI, 7, .inl fte)), (x, .inl (cI, 240, .inl ftx)), (t, .inr (8, [.int t0, .int t1, .int t2, .int t3, .int t4, .ref ta, .ref tb, .ref tc, .ref td, .ref te]))]) (rest := []) (e_blame_x5 rd x r0 r1 r3 u_1 r5 r6 3 u_1) okV_X5_blame wd_201 hx hb hml hown hts hK hP hD hS hA hN hl.1 [6] [0, 1, 2, 3, 4, 5, 7] rfl rfl rfl rfl (by decide) rfl rfl rfl (Nat.le_of_ble_eq_true rfl) (Nat.le_of_ble_eq_true rfl) (Nat.le_of_ble_eq_true rfl) (Nat.le_of_ble_eq_true rfl) (Nat.le_of_ble_eq_true rfl) dX5_readClause_83 (fun u_147 H locs hw_u_147 hP hD hS => ?_)
                obtain ⟨o_149, o_150⟩ := u_147
                replace hw_u_147 : (o_149, o_150) = (f_e_blame_x5 r0 r1 r3 u_1 r5 r6 3 u_1) := hw_u_147
                rw [← hw_u_147] at hE
                replace hE : (o_149, o_150, u_1, r5, r6, t0, t1, t2, t3, t4, fta, ftb, ftc, ftd, fte) = RES := hE
                have hP : va_P D classes [(ta, .inl (cI, 6, .inl fta)), (tb, .inl (cI, 6, .inl ftb)), (tc, .inl (cI, 30, .inl ftc)), (td, .inl (cI, 7, .inl ftd)), (te, .inl (cI, 7, .inl fte)), (x, .inl (cI, 240, .inl ftx)), (t, .inr (8, [.int t0, .int t1, .int t2, .int t3, .int t4, .ref ta, .ref tb, .ref tc, .ref td, .ref te])), (rd, .inr (5, [.int o_149, .int o_150, .ref x, .int r3, .int u_1, .int r5, .int r6]))] H := hP
                have hD : va_D A [(ta, .inl (cI, 6, .inl fta)), (tb, .inl (cI, 6, .inl ftb)), (tc, .inl (cI, 30, .inl ftc)), (td, .inl (cI, 7, .inl ftd)), (te, .inl (cI, 7, .inl fte)), (x, .inl (cI, 240, .inl ftx)), (t, .inr (8, [.int t0, .int t1, .int t2, .int t3, .int t4, .ref ta, .ref tb, .ref tc, .ref td, .ref te])), (rd, .inr (5, [.int o_149, .int o_150, .ref x, .int r3, .int u_1, .int r5, .int r6]))] := hD
                exact hret (o_149, o_150, u_1, r5, r6, t0, t1, t2, t3, t4, fta, ftb, ftc, ftd, fte) _ _ _ _ dX5_readClause_86 hE (cutP (isC := [7, 5, 6, 0, 1, 2, 3, 4]) hP rfl) (cutD (isC := [7, 5, 6, 0, 1, 2, 3, 4]) hD rfl rfl) hS
            · rw [if_pos c_133] at hE
              refine lv_iload_n hx hb dX5_readClause_52 rfl (lv_at hl 1 rfl) ?_
              refine lv_bipush (v := 98) hx hb dX5_readClause_53 (by decide) ?_
              refine lv_icmp_eq (tgt := 68) hx hb dX5_readClause_55 (by decide) (fun c_151 => absurd c_151 (by decide +kernel)) (fun c_151 => ?_)
              refine lv_aload_n hx hb dX5_readClause_58 rfl (lv_at hl 2 rfl) ?_
              refine lv_iconst (v := 1) hx hb dX5_readClause_59 (by decide) ?_
              refine lv_aload_n hx hb dX5_readClause_60 rfl (lv_at hl 2 rfl) ?_
              refine va_get (D := D) (ci := 5) (v := .int u_1) (C := RX5) (T := TX5) (N := 7) hx hb hts iX5 hown hK hP 6 rfl rfl 4 (by decide) (hts _ wd_46) (fun _ h9 => h9) rfl dX5_readClause_61 ?_
              refine cVv (wr := [(t, .inr (8, [.int t0, .int t1, .int t2, .int t3, .int t4, .ref ta, .ref tb, .ref tc, .ref td, .ref te])), (ta, .inl (cI, 6, .inl fta)), (tb, .inl (cI, 6, .inl ftb)), (tc, .inl (cI, 30, .inl ftc)), (td, .inl (cI, 7, .inl ftd)), (te, .inl (cI, 7, .inl fte)), (x, .inl (cI, 240, .inl ftx))]) (rest := []) (e_blame_x5 rd x r0 r1 r3 u_1 r5 r6 1 u_1) okV_X5_blame wd_201 hx hb hml hown hts hK hP hD hS hA hN hl.1 [6] [0, 1, 2, 3, 4, 5, 7] rfl rfl rfl rfl (by decide) rfl rfl rfl (Nat.le_of_ble_eq_true rfl) (Nat.le_of_ble_eq_true rfl) (Nat.le_of_ble_eq_true rfl) (Nat.le_of_ble_eq_true rfl) (Nat.le_of_ble_eq_true rfl) dX5_readClause_64 (fun u_152 H locs hw_u_152 hP hD hS => ?_)
              obtain ⟨o_154, o_155⟩ := u_152
              replace hw_u_152 : (o_154, o_155) = (f_e_blame_x5 r0 r1 r3 u_1 r5 r6 1 u_1) := hw_u_152
              rw [← hw_u_152] at hE
              replace hE : (o_154, o_155, u_1, r5, r6, t0, t1, t2, t3, t4, fta, ftb, ftc, ftd, fte) = RES := hE
              have hP : va_P D classes [(t, .inr (8, [.int t0, .int t1, .int t2, .int t3, .int t4, .ref ta, .ref tb, .ref tc, .ref td, .ref te])), (ta, .inl (cI, 6, .inl fta)), (tb, .inl (cI, 6, .inl ftb)), (tc, .inl (cI, 30, .inl ftc)), (td, .inl (cI, 7, .inl ftd)), (te, .inl (cI, 7, .inl fte)), (x, .inl (cI, 240, .inl ftx)), (rd, .inr (5, [.int o_154, .int o_155, .ref x, .int r3, .int u_1, .int r5, .int r6]))] H := hP
              have hD : va_D A [(t, .inr (8, [.int t0, .int t1, .int t2, .int t3, .int t4, .ref ta, .ref tb, .ref tc, .ref td, .ref te])), (ta, .inl (cI, 6, .inl fta)), (tb, .inl (cI, 6, .inl ftb)), (tc, .inl (cI, 30, .inl ftc)), (td, .inl (cI, 7, .inl ftd)), (te, .inl (cI, 7, .inl fte)), (x, .inl (cI, 240, .inl ftx)), (rd, .inr (5, [.int o_154, .int o_155, .ref x, .int r3, .int u_1, .int r5, .int r6]))] := hD
              exact hret (o_154, o_155, u_1, r5, r6, t0, t1, t2, t3, t4, fta, ftb, ftc, ftd, fte) _ _ _ _ dX5_readClause_67 hE (cutP (isC := [7, 6, 0, 1, 2, 3, 4, 5]) hP rfl) (cutD (isC := [7, 6, 0, 1, 2, 3, 4, 5]) hD rfl rfl) hS
