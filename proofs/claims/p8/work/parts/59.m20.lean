theorem dX10_findOrder_0 : decode cX10_findOrder 0 = .ok (.aload_n 0, 1) := by decide +kernel
theorem dX10_findOrder_1 : decode cX10_findOrder 1 = .ok (.iconst 0, 1) := by decide +kernel
theorem dX10_findOrder_2 : decode cX10_findOrder 2 = .ok (.bipush 42, 2) := by decide +kernel
theorem dX10_findOrder_4 : decode cX10_findOrder 4 = .ok (.invokevirtual 229, 3) := by decide +kernel
theorem dX10_findOrder_7 : decode cX10_findOrder 7 = .ok (.aload_n 0, 1) := by decide +kernel
theorem dX10_findOrder_8 : decode cX10_findOrder 8 = .ok (.iconst 0, 1) := by decide +kernel
theorem wd_673 : Cond.fieldLink RX10 274 "QuarrelBridgesModel" "bestLong" "I" ∈ BG := BG_at 823 (by decide +kernel) rfl
theorem dX10_findOrder_9 : decode cX10_findOrder 9 = .ok (.putfield 274, 3) := by decide +kernel
theorem dX10_findOrder_12 : decode cX10_findOrder 12 = .ok (.aload_n 0, 1) := by decide +kernel
theorem dX10_findOrder_13 : decode cX10_findOrder 13 = .ok (.iconst 0, 1) := by decide +kernel
theorem wd_674 : Cond.fieldLink RX10 277 "QuarrelBridgesModel" "bestTimely" "I" ∈ BG := BG_at 824 (by decide +kernel) rfl
theorem dX10_findOrder_14 : decode cX10_findOrder 14 = .ok (.putfield 277, 3) := by decide +kernel
theorem dX10_findOrder_17 : decode cX10_findOrder 17 = .ok (.iconst 0, 1) := by decide +kernel
theorem dX10_findOrder_18 : decode cX10_findOrder 18 = .ok (.istore_n 1, 1) := by decide +kernel
theorem dX10_findOrder_19 : decode cX10_findOrder 19 = .ok (.iconst 0, 1) := by decide +kernel
theorem dX10_findOrder_20 : decode cX10_findOrder 20 = .ok (.istore_n 2, 1) := by decide +kernel
theorem dX10_findOrder_21 : decode cX10_findOrder 21 = .ok (.aload_n 0, 1) := by decide +kernel
theorem wd_675 : Cond.fieldLink RX10 63 "QuarrelBridgesModel" "row" "[I" ∈ BG := BG_at 821 (by decide +kernel) rfl
theorem dX10_findOrder_22 : decode cX10_findOrder 22 = .ok (.getfield 63, 3) := by decide +kernel
theorem dX10_findOrder_25 : decode cX10_findOrder 25 = .ok (.iconst 0, 1) := by decide +kernel
theorem dX10_findOrder_26 : decode cX10_findOrder 26 = .ok (.iconst (-1), 1) := by decide +kernel
theorem dX10_findOrder_27 : decode cX10_findOrder 27 = .ok (.iastore, 1) := by decide +kernel
theorem dX10_findOrder_289 : decode cX10_findOrder 289 = .ok (.return_, 1) := by decide +kernel
theorem dX10_findOrder_28 : decode cX10_findOrder 28 = .ok (.iload_n 1, 1) := by decide +kernel
theorem dX10_findOrder_29 : decode cX10_findOrder 29 = .ok (.ifCond .lt 260, 3) := by decide +kernel
theorem dX10_findOrder_32 : decode cX10_findOrder 32 = .ok (.bipush 42, 2) := by decide +kernel
theorem dX10_findOrder_34 : decode cX10_findOrder 34 = .ok (.bipush 42, 2) := by decide +kernel
theorem dX10_findOrder_36 : decode cX10_findOrder 36 = .ok (.iload_n 1, 1) := by decide +kernel
theorem dX10_findOrder_37 : decode cX10_findOrder 37 = .ok (.imul, 1) := by decide +kernel
theorem dX10_findOrder_38 : decode cX10_findOrder 38 = .ok (.iadd, 1) := by decide +kernel
theorem dX10_findOrder_39 : decode cX10_findOrder 39 = .ok (.istore_n 3, 1) := by decide +kernel
theorem dX10_findOrder_40 : decode cX10_findOrder 40 = .ok (.aload_n 0, 1) := by decide +kernel
theorem dX10_findOrder_41 : decode cX10_findOrder 41 = .ok (.getfield 63, 3) := by decide +kernel
theorem dX10_findOrder_44 : decode cX10_findOrder 44 = .ok (.iload_n 1, 1) := by decide +kernel
theorem dX10_findOrder_45 : decode cX10_findOrder 45 = .ok (.dup2, 1) := by decide +kernel
theorem dX10_findOrder_46 : decode cX10_findOrder 46 = .ok (.iaload, 1) := by decide +kernel
theorem dX10_findOrder_47 : decode cX10_findOrder 47 = .ok (.iconst 1, 1) := by decide +kernel
theorem dX10_findOrder_48 : decode cX10_findOrder 48 = .ok (.iadd, 1) := by decide +kernel
theorem dX10_findOrder_49 : decode cX10_findOrder 49 = .ok (.iastore, 1) := by decide +kernel
theorem dX10_findOrder_50 : decode cX10_findOrder 50 = .ok (.aload_n 0, 1) := by decide +kernel
theorem dX10_findOrder_51 : decode cX10_findOrder 51 = .ok (.getfield 63, 3) := by decide +kernel
theorem dX10_findOrder_54 : decode cX10_findOrder 54 = .ok (.iload_n 1, 1) := by decide +kernel
theorem dX10_findOrder_55 : decode cX10_findOrder 55 = .ok (.iaload, 1) := by decide +kernel
theorem dX10_findOrder_56 : decode cX10_findOrder 56 = .ok (.aload_n 0, 1) := by decide +kernel
theorem dX10_findOrder_57 : decode cX10_findOrder 57 = .ok (.getfield 88, 3) := by decide +kernel
theorem dX10_findOrder_60 : decode cX10_findOrder 60 = .ok (.if_icmp .eq 9, 3) := by decide +kernel
theorem dX10_findOrder_69 : decode cX10_findOrder 69 = .ok (.iinc 1 (-1), 3) := by decide +kernel
theorem dX10_findOrder_72 : decode cX10_findOrder 72 = .ok (.iload_n 2, 1) := by decide +kernel
theorem dX10_findOrder_73 : decode cX10_findOrder 73 = .ok (.iload_n 1, 1) := by decide +kernel
theorem dX10_findOrder_74 : decode cX10_findOrder 74 = .ok (.ifCond .lt 35, 3) := by decide +kernel
theorem dX10_findOrder_109 : decode cX10_findOrder 109 = .ok (.iconst 0, 1) := by decide +kernel
theorem dX10_findOrder_110 : decode cX10_findOrder 110 = .ok (.isub, 1) := by decide +kernel
theorem dX10_findOrder_111 : decode cX10_findOrder 111 = .ok (.istore_n 2, 1) := by decide +kernel
theorem dX10_findOrder_112 : decode cX10_findOrder 112 = .ok (.goto 174, 3) := by decide +kernel
theorem dX10_findOrder_286 : decode cX10_findOrder 286 = .ok (.goto (-258), 3) := by decide +kernel
theorem dX10_findOrder_77 : decode cX10_findOrder 77 = .ok (.aload_n 0, 1) := by decide +kernel
theorem dX10_findOrder_78 : decode cX10_findOrder 78 = .ok (.getfield 7, 3) := by decide +kernel
theorem dX10_findOrder_81 : decode cX10_findOrder 81 = .ok (.bipush 42, 2) := by decide +kernel
theorem dX10_findOrder_83 : decode cX10_findOrder 83 = .ok (.bipush 42, 2) := by decide +kernel
theorem dX10_findOrder_85 : decode cX10_findOrder 85 = .ok (.iload_n 1, 1) := by decide +kernel
theorem dX10_findOrder_86 : decode cX10_findOrder 86 = .ok (.iconst 1, 1) := by decide +kernel
theorem dX10_findOrder_87 : decode cX10_findOrder 87 = .ok (.iadd, 1) := by decide +kernel
theorem dX10_findOrder_88 : decode cX10_findOrder 88 = .ok (.imul, 1) := by decide +kernel
theorem dX10_findOrder_89 : decode cX10_findOrder 89 = .ok (.iadd, 1) := by decide +kernel
theorem dX10_findOrder_90 : decode cX10_findOrder 90 = .ok (.bipush 20, 2) := by decide +kernel
theorem dX10_findOrder_92 : decode cX10_findOrder 92 = .ok (.iadd, 1) := by decide +kernel
theorem dX10_findOrder_93 : decode cX10_findOrder 93 = .ok (.aload_n 0, 1) := by decide +kernel
theorem dX10_findOrder_94 : decode cX10_findOrder 94 = .ok (.getfield 63, 3) := by decide +kernel
theorem dX10_findOrder_97 : decode cX10_findOrder 97 = .ok (.iload_n 1, 1) := by decide +kernel
theorem dX10_findOrder_98 : decode cX10_findOrder 98 = .ok (.iaload, 1) := by decide +kernel
theorem dX10_findOrder_99 : decode cX10_findOrder 99 = .ok (.iadd, 1) := by decide +kernel
theorem dX10_findOrder_100 : decode cX10_findOrder 100 = .ok (.iaload, 1) := by decide +kernel
theorem dX10_findOrder_101 : decode cX10_findOrder 101 = .ok (.iconst 1, 1) := by decide +kernel
theorem dX10_findOrder_102 : decode cX10_findOrder 102 = .ok (.if_icmp .ne 7, 3) := by decide +kernel
theorem dX10_findOrder_105 : decode cX10_findOrder 105 = .ok (.iconst 1, 1) := by decide +kernel
theorem dX10_findOrder_106 : decode cX10_findOrder 106 = .ok (.goto 4, 3) := by decide +kernel
theorem dX10_findOrder_63 : decode cX10_findOrder 63 = .ok (.iload_n 1, 1) := by decide +kernel
theorem dX10_findOrder_64 : decode cX10_findOrder 64 = .ok (.bipush 7, 2) := by decide +kernel
theorem dX10_findOrder_66 : decode cX10_findOrder 66 = .ok (.if_icmp .ne 49, 3) := by decide +kernel
theorem dX10_findOrder_115 : decode cX10_findOrder 115 = .ok (.aload_n 0, 1) := by decide +kernel
theorem dX10_findOrder_116 : decode cX10_findOrder 116 = .ok (.getfield 7, 3) := by decide +kernel
theorem dX10_findOrder_119 : decode cX10_findOrder 119 = .ok (.iload_n 3, 1) := by decide +kernel
theorem dX10_findOrder_120 : decode cX10_findOrder 120 = .ok (.bipush 20, 2) := by decide +kernel
theorem dX10_findOrder_122 : decode cX10_findOrder 122 = .ok (.iadd, 1) := by decide +kernel
theorem dX10_findOrder_123 : decode cX10_findOrder 123 = .ok (.aload_n 0, 1) := by decide +kernel
theorem dX10_findOrder_124 : decode cX10_findOrder 124 = .ok (.getfield 63, 3) := by decide +kernel
theorem dX10_findOrder_127 : decode cX10_findOrder 127 = .ok (.iload_n 1, 1) := by decide +kernel
theorem dX10_findOrder_128 : decode cX10_findOrder 128 = .ok (.iaload, 1) := by decide +kernel
theorem dX10_findOrder_129 : decode cX10_findOrder 129 = .ok (.iadd, 1) := by decide +kernel
theorem dX10_findOrder_130 : decode cX10_findOrder 130 = .ok (.iaload, 1) := by decide +kernel
theorem dX10_findOrder_131 : decode cX10_findOrder 131 = .ok (.ifCond .ne 155, 3) := by decide +kernel
theorem dX10_findOrder_134 : decode cX10_findOrder 134 = .ok (.iload_n 3, 1) := by decide +kernel
theorem dX10_findOrder_135 : decode cX10_findOrder 135 = .ok (.bipush 42, 2) := by decide +kernel
theorem dX10_findOrder_137 : decode cX10_findOrder 137 = .ok (.iadd, 1) := by decide +kernel
theorem dX10_findOrder_138 : decode cX10_findOrder 138 = .ok (.istore 4, 2) := by decide +kernel
theorem dX10_findOrder_140 : decode cX10_findOrder 140 = .ok (.aload_n 0, 1) := by decide +kernel
theorem dX10_findOrder_141 : decode cX10_findOrder 141 = .ok (.iload_n 3, 1) := by decide +kernel
theorem dX10_findOrder_142 : decode cX10_findOrder 142 = .ok (.iload 4, 2) := by decide +kernel
theorem dX10_findOrder_144 : decode cX10_findOrder 144 = .ok (.invokevirtual 229, 3) := by decide +kernel
theorem dX10_findOrder_147 : decode cX10_findOrder 147 = .ok (.aload_n 0, 1) := by decide +kernel
theorem dX10_findOrder_148 : decode cX10_findOrder 148 = .ok (.iload 4, 2) := by decide +kernel
theorem dX10_findOrder_150 : decode cX10_findOrder 150 = .ok (.aload_n 0, 1) := by decide +kernel
theorem dX10_findOrder_151 : decode cX10_findOrder 151 = .ok (.getfield 63, 3) := by decide +kernel
theorem dX10_findOrder_154 : decode cX10_findOrder 154 = .ok (.iload_n 1, 1) := by decide +kernel
theorem dX10_findOrder_155 : decode cX10_findOrder 155 = .ok (.iaload, 1) := by decide +kernel
theorem dX10_findOrder_156 : decode cX10_findOrder 156 = .ok (.invokevirtual 242, 3) := by decide +kernel
theorem dX10_findOrder_159 : decode cX10_findOrder 159 = .ok (.aload_n 0, 1) := by decide +kernel
theorem dX10_findOrder_160 : decode cX10_findOrder 160 = .ok (.getfield 7, 3) := by decide +kernel
theorem dX10_findOrder_163 : decode cX10_findOrder 163 = .ok (.iload 4, 2) := by decide +kernel
theorem dX10_findOrder_165 : decode cX10_findOrder 165 = .ok (.bipush 20, 2) := by decide +kernel
theorem dX10_findOrder_167 : decode cX10_findOrder 167 = .ok (.iadd, 1) := by decide +kernel
theorem dX10_findOrder_168 : decode cX10_findOrder 168 = .ok (.aload_n 0, 1) := by decide +kernel
theorem dX10_findOrder_169 : decode cX10_findOrder 169 = .ok (.getfield 63, 3) := by decide +kernel
theorem dX10_findOrder_172 : decode cX10_findOrder 172 = .ok (.iload_n 1, 1) := by decide +kernel
theorem dX10_findOrder_173 : decode cX10_findOrder 173 = .ok (.iaload, 1) := by decide +kernel
theorem dX10_findOrder_174 : decode cX10_findOrder 174 = .ok (.iadd, 1) := by decide +kernel
theorem dX10_findOrder_175 : decode cX10_findOrder 175 = .ok (.iaload, 1) := by decide +kernel
theorem dX10_findOrder_176 : decode cX10_findOrder 176 = .ok (.iconst 3, 1) := by decide +kernel
theorem dX10_findOrder_177 : decode cX10_findOrder 177 = .ok (.if_icmp .eq 109, 3) := by decide +kernel
theorem dX10_findOrder_180 : decode cX10_findOrder 180 = .ok (.aload_n 0, 1) := by decide +kernel
theorem dX10_findOrder_181 : decode cX10_findOrder 181 = .ok (.getfield 7, 3) := by decide +kernel
theorem dX10_findOrder_184 : decode cX10_findOrder 184 = .ok (.iload 4, 2) := by decide +kernel
theorem dX10_findOrder_186 : decode cX10_findOrder 186 = .ok (.bipush 18, 2) := by decide +kernel
theorem dX10_findOrder_188 : decode cX10_findOrder 188 = .ok (.iadd, 1) := by decide +kernel
theorem dX10_findOrder_189 : decode cX10_findOrder 189 = .ok (.iaload, 1) := by decide +kernel
theorem dX10_findOrder_190 : decode cX10_findOrder 190 = .ok (.aload_n 0, 1) := by decide +kernel
theorem dX10_findOrder_191 : decode cX10_findOrder 191 = .ok (.getfield 7, 3) := by decide +kernel
theorem dX10_findOrder_194 : decode cX10_findOrder 194 = .ok (.bipush 18, 2) := by decide +kernel
theorem dX10_findOrder_196 : decode cX10_findOrder 196 = .ok (.iaload, 1) := by decide +kernel
theorem dX10_findOrder_197 : decode cX10_findOrder 197 = .ok (.if_icmp .ne 89, 3) := by decide +kernel
theorem dX10_findOrder_200 : decode cX10_findOrder 200 = .ok (.iload_n 2, 1) := by decide +kernel
theorem dX10_findOrder_201 : decode cX10_findOrder 201 = .ok (.aload_n 0, 1) := by decide +kernel
theorem dX10_findOrder_202 : decode cX10_findOrder 202 = .ok (.getfield 7, 3) := by decide +kernel
theorem dX10_findOrder_205 : decode cX10_findOrder 205 = .ok (.iload 4, 2) := by decide +kernel
theorem dX10_findOrder_207 : decode cX10_findOrder 207 = .ok (.bipush 20, 2) := by decide +kernel
theorem dX10_findOrder_209 : decode cX10_findOrder 209 = .ok (.iadd, 1) := by decide +kernel
theorem dX10_findOrder_210 : decode cX10_findOrder 210 = .ok (.aload_n 0, 1) := by decide +kernel
theorem dX10_findOrder_211 : decode cX10_findOrder 211 = .ok (.getfield 63, 3) := by decide +kernel
theorem dX10_findOrder_214 : decode cX10_findOrder 214 = .ok (.iload_n 1, 1) := by decide +kernel
theorem dX10_findOrder_215 : decode cX10_findOrder 215 = .ok (.iaload, 1) := by decide +kernel
theorem dX10_findOrder_216 : decode cX10_findOrder 216 = .ok (.iadd, 1) := by decide +kernel
theorem dX10_findOrder_217 : decode cX10_findOrder 217 = .ok (.iaload, 1) := by decide +kernel
theorem dX10_findOrder_218 : decode cX10_findOrder 218 = .ok (.iconst 1, 1) := by decide +kernel
theorem dX10_findOrder_219 : decode cX10_findOrder 219 = .ok (.if_icmp .ne 7, 3) := by decide +kernel
theorem dX10_findOrder_226 : decode cX10_findOrder 226 = .ok (.iconst 0, 1) := by decide +kernel
theorem dX10_findOrder_227 : decode cX10_findOrder 227 = .ok (.iadd, 1) := by decide +kernel
theorem dX10_findOrder_228 : decode cX10_findOrder 228 = .ok (.istore_n 2, 1) := by decide +kernel
theorem dX10_findOrder_229 : decode cX10_findOrder 229 = .ok (.iinc 1 1, 3) := by decide +kernel
theorem dX10_findOrder_232 : decode cX10_findOrder 232 = .ok (.iload_n 2, 1) := by decide +kernel
theorem dX10_findOrder_233 : decode cX10_findOrder 233 = .ok (.aload_n 0, 1) := by decide +kernel
theorem dX10_findOrder_234 : decode cX10_findOrder 234 = .ok (.getfield 277, 3) := by decide +kernel
theorem dX10_findOrder_237 : decode cX10_findOrder 237 = .ok (.if_icmp .le 42, 3) := by decide +kernel
theorem dX10_findOrder_279 : decode cX10_findOrder 279 = .ok (.aload_n 0, 1) := by decide +kernel
theorem dX10_findOrder_280 : decode cX10_findOrder 280 = .ok (.getfield 63, 3) := by decide +kernel
theorem dX10_findOrder_283 : decode cX10_findOrder 283 = .ok (.iload_n 1, 1) := by decide +kernel
theorem dX10_findOrder_284 : decode cX10_findOrder 284 = .ok (.iconst (-1), 1) := by decide +kernel
theorem dX10_findOrder_285 : decode cX10_findOrder 285 = .ok (.iastore, 1) := by decide +kernel
theorem dX10_findOrder_240 : decode cX10_findOrder 240 = .ok (.aload_n 0, 1) := by decide +kernel
theorem dX10_findOrder_241 : decode cX10_findOrder 241 = .ok (.iload_n 2, 1) := by decide +kernel
theorem dX10_findOrder_242 : decode cX10_findOrder 242 = .ok (.putfield 277, 3) := by decide +kernel
theorem dX10_findOrder_245 : decode cX10_findOrder 245 = .ok (.aload_n 0, 1) := by decide +kernel
theorem dX10_findOrder_246 : decode cX10_findOrder 246 = .ok (.iload_n 1, 1) := by decide +kernel
theorem dX10_findOrder_247 : decode cX10_findOrder 247 = .ok (.putfield 274, 3) := by decide +kernel
theorem dX10_findOrder_250 : decode cX10_findOrder 250 = .ok (.iconst 0, 1) := by decide +kernel
theorem dX10_findOrder_251 : decode cX10_findOrder 251 = .ok (.istore 5, 2) := by decide +kernel
theorem dX10_findOrder_253 : decode cX10_findOrder 253 = .ok (.iload 5, 2) := by decide +kernel
theorem dX10_findOrder_255 : decode cX10_findOrder 255 = .ok (.iload_n 1, 1) := by decide +kernel
theorem dX10_findOrder_256 : decode cX10_findOrder 256 = .ok (.if_icmp .ge 23, 3) := by decide +kernel
theorem dX10_findOrder_259 : decode cX10_findOrder 259 = .ok (.aload_n 0, 1) := by decide +kernel
theorem wd_676 : Cond.fieldLink RX10 66 "QuarrelBridgesModel" "bestRow" "[I" ∈ BG := BG_at 822 (by decide +kernel) rfl
theorem dX10_findOrder_260 : decode cX10_findOrder 260 = .ok (.getfield 66, 3) := by decide +kernel
theorem dX10_findOrder_263 : decode cX10_findOrder 263 = .ok (.iload 5, 2) := by decide +kernel
theorem dX10_findOrder_265 : decode cX10_findOrder 265 = .ok (.aload_n 0, 1) := by decide +kernel
theorem dX10_findOrder_266 : decode cX10_findOrder 266 = .ok (.getfield 63, 3) := by decide +kernel
theorem dX10_findOrder_269 : decode cX10_findOrder 269 = .ok (.iload 5, 2) := by decide +kernel
theorem dX10_findOrder_271 : decode cX10_findOrder 271 = .ok (.iaload, 1) := by decide +kernel
theorem dX10_findOrder_272 : decode cX10_findOrder 272 = .ok (.iastore, 1) := by decide +kernel
theorem dX10_findOrder_273 : decode cX10_findOrder 273 = .ok (.iinc 5 1, 3) := by decide +kernel
theorem dX10_findOrder_276 : decode cX10_findOrder 276 = .ok (.goto (-23), 3) := by decide +kernel
theorem dX10_findOrder_222 : decode cX10_findOrder 222 = .ok (.iconst 1, 1) := by decide +kernel
theorem dX10_findOrder_223 : decode cX10_findOrder 223 = .ok (.goto 4, 3) := by decide +kernel
theorem dX10_order_0 : decode cX10_order 0 = .ok (.aload_n 0, 1) := by decide +kernel
theorem dX10_order_1 : decode cX10_order 1 = .ok (.invokevirtual 280, 3) := by decide +kernel
theorem wd_677 : Cond.methodLink RX10 280 yX10_findOrder ∈ BG := BG_at 1130 (by decide +kernel) rfl
theorem wd_678 : Cond.code yX10_findOrder cX10_findOrder 6 none ∈ BG := BG_at 1133 (by decide +kernel) rfl
theorem wd_679 : Cond.instanceMethod yX10_findOrder ∈ BG := BG_at 1132 (by decide +kernel) rfl
theorem wd_680 : Cond.selects RX10 yX10_findOrder yX10_findOrder ∈ BG := BG_in (by decide +kernel) rfl
theorem okV_X10_findOrder : okV yX10_findOrder cX10_findOrder 6 none 0 := ⟨⟨wd_678, wd_497, by decide +kernel⟩, wd_679, wd_680⟩
theorem dX10_order_4 : decode cX10_order 4 = .ok (.iload_n 1, 1) := by decide +kernel
theorem dX10_order_5 : decode cX10_order 5 = .ok (.iconst (-1), 1) := by decide +kernel
theorem dX10_order_6 : decode cX10_order 6 = .ok (.if_icmp .ne 10, 3) := by decide +kernel
theorem dX10_order_16 : decode cX10_order 16 = .ok (.iload_n 1, 1) := by decide +kernel
theorem dX10_order_17 : decode cX10_order 17 = .ok (.i2l, 1) := by decide +kernel
theorem dX10_order_18 : decode cX10_order 18 = .ok (.lconst 0, 1) := by decide +kernel
theorem dX10_order_19 : decode cX10_order 19 = .ok (.aload_n 0, 1) := by decide +kernel
theorem dX10_order_20 : decode cX10_order 20 = .ok (.getfield 274, 3) := by decide +kernel
theorem dX10_order_23 : decode cX10_order 23 = .ok (.iconst 1, 1) := by decide +kernel
theorem dX10_order_24 : decode cX10_order 24 = .ok (.isub, 1) := by decide +kernel
theorem dX10_order_25 : decode cX10_order 25 = .ok (.i2l, 1) := by decide +kernel
theorem dX10_order_26 : decode cX10_order 26 = .ok (.invokestatic 84, 3) := by decide +kernel
theorem dX10_order_29 : decode cX10_order 29 = .ok (.ifCond .eq 12, 3) := by decide +kernel
theorem dX10_order_41 : decode cX10_order 41 = .ok (.iconst (-1), 1) := by decide +kernel
theorem dX10_order_42 : decode cX10_order 42 = .ok (.ireturn, 1) := by decide +kernel
theorem dX10_order_32 : decode cX10_order 32 = .ok (.aload_n 0, 1) := by decide +kernel
theorem dX10_order_33 : decode cX10_order 33 = .ok (.getfield 66, 3) := by decide +kernel
theorem dX10_order_36 : decode cX10_order 36 = .ok (.iload_n 1, 1) := by decide +kernel
theorem dX10_order_37 : decode cX10_order 37 = .ok (.iaload, 1) := by decide +kernel
theorem dX10_order_38 : decode cX10_order 38 = .ok (.goto 4, 3) := by decide +kernel
theorem dX10_order_9 : decode cX10_order 9 = .ok (.aload_n 0, 1) := by decide +kernel
theorem dX10_order_10 : decode cX10_order 10 = .ok (.getfield 277, 3) := by decide +kernel
theorem dX10_order_13 : decode cX10_order 13 = .ok (.goto 29, 3) := by decide +kernel
noncomputable def f_m_findOrder_253 (w_4l1 : Int32) (n : Nat) : Int32 → (Nat → Int32) → (Nat → Int32) → (Nat → Int32) → (Nat → Int32) → Int32 × (Nat → Int32) × (Nat → Int32) × (Nat → Int32) × (Nat → Int32) := Nat.rec (motive := fun _ => Int32 → (Nat → Int32) → (Nat → Int32) → (Nat → Int32) → (Nat → Int32) → Int32 × (Nat → Int32) × (Nat → Int32) × (Nat → Int32) × (Nat → Int32)) (fun w_37l5 w_37m0 w_37m1 w_37m2 w_37m3 => (w_37l5, w_37m0, w_37m1, w_37m2, w_37m3)) (fun n ih w_37l5 w_37m0 w_37m1 w_37m2 w_37m3 => (if (w_4l1 + 1) ≤ w_37l5 then (w_37l5, w_37m0, w_37m1, w_37m2, w_37m3) else (ih (w_37l5 + 1) w_37m0 w_37m1 w_37m2 (upd w_37m3 (w_37l5 : Int32).toNatClampNeg (w_37m2 (w_37l5 : Int32).toNatClampNeg))))) n
theorem f_m_findOrder_253_s (w_4l1 : Int32) (n : Nat) (w_37l5 : Int32) (w_37m0 : (Nat → Int32)) (w_37m1 : (Nat → Int32)) (w_37m2 : (Nat → Int32)) (w_37m3 : (Nat → Int32)) : f_m_findOrder_253 w_4l1 (n + 1) w_37l5 w_37m0 w_37m1 w_37m2 w_37m3 = (if (w_4l1 + 1) ≤ w_37l5 then (w_37l5, w_37m0, w_37m1, w_37m2, w_37m3) else (f_m_findOrder_253 w_4l1 n (w_37l5 + 1) w_37m0 w_37m1 w_37m2 (upd w_37m3 (w_37l5 : Int32).toNatClampNeg (w_37m2 (w_37l5 : Int32).toNatClampNeg)))) := rfl
def S_m_findOrder_253 (w_4l1 : Int32) (K : Int32 → (Nat → Int32) → (Nat → Int32) → (Nat → Int32) → (Nat → Int32) → Prop) (n : Nat) : Int32 → (Nat → Int32) → (Nat → Int32) → (Nat → Int32) → (Nat → Int32) → Prop := Nat.rec (motive := fun _ => Int32 → (Nat → Int32) → (Nat → Int32) → (Nat → Int32) → (Nat → Int32) → Prop) (fun _ _ _ _ _ => False) (fun n ih w_37l5 w_37m0 w_37m1 w_37m2 w_37m3 => (((w_4l1 + 1) ≤ w_37l5 → (K w_37l5 w_37m0 w_37m1 w_37m2 w_37m3)) ∧ (¬ (w_4l1 + 1) ≤ w_37l5 → (vp_in w_37l5 8 ∧ (vp_in w_37l5 7 ∧ (ih (w_37l5 + 1) w_37m0 w_37m1 w_37m2 (upd w_37m3 (w_37l5 : Int32).toNatClampNeg (w_37m2 (w_37l5 : Int32).toNatClampNeg)))))))) n
theorem S_m_findOrder_253_s (w_4l1 : Int32) (K : Int32 → (Nat → Int32) → (Nat → Int32) → (Nat → Int32) → (Nat → Int32) → Prop) (n : Nat) (w_37l5 : Int32) (w_37m0 : (Nat → Int32)) (w_37m1 : (Nat → Int32)) (w_37m2 : (Nat → Int32)) (w_37m3 : (Nat → Int32)) : S_m_findOrder_253 w_4l1 K (n + 1) w_37l5 w_37m0 w_37m1 w_37m2 w_37m3 = ((((w_4l1 + 1) ≤ w_37l5 → (K w_37l5 w_37m0 w_37m1 w_37m2 w_37m3)) ∧ (¬ (w_4l1 + 1) ≤ w_37l5 → (vp_in w_37l5 8 ∧ (vp_in w_37l5 7 ∧ (S_m_findOrder_253 w_4l1 K n (w_37l5 + 1) w_37m0 w_37m1 w_37m2 (upd w_37m3 (w_37l5 : Int32).toNatClampNeg (w_37m2 (w_37l5 : Int32).toNatClampNeg)))))))) := rfl
noncomputable def f_m_findOrder_28 (f10 : Nat → Int32) (f8 : Nat → Int32) (f11 : Nat → Int32) (f12 : Nat → Int32) (n : Nat) : Int32 → Int32 → (Nat → Int32) → (Nat → Int32) → (Nat → Int32) → (Nat → Int32) → Int32 × Int32 × (Nat → Int32) × (Nat → Int32) × (Nat → Int32) × (Nat → Int32) := Nat.rec (motive := fun _ => Int32 → Int32 → (Nat → Int32) → (Nat → Int32) → (Nat → Int32) → (Nat → Int32) → Int32 × Int32 × (Nat → Int32) × (Nat → Int32) × (Nat → Int32) × (Nat → Int32)) (fun w_4l2 w_4l1 w_4m0 w_4m1 w_4m2 w_4m3 => (w_4l2, w_4l1, w_4m0, w_4m1, w_4m2, w_4m3)) (fun n ih w_4l2 w_4l1 w_4m0 w_4m1 w_4m2 w_4m3 => (if w_4l1 < 0 then (w_4l2, w_4l1, w_4m0, w_4m1, w_4m2, w_4m3) else (if ((upd w_4m2 (w_4l1 : Int32).toNatClampNeg ((w_4m2 (w_4l1 : Int32).toNatClampNeg) + 1)) (w_4l1 : Int32).toNatClampNeg) = (w_4m0 6) then (if (w_4l1 + (-1)) < 0 then (ih (w_4l2 - 0) (w_4l1 + (-1)) w_4m0 w_4m1 (upd w_4m2 (w_4l1 : Int32).toNatClampNeg ((w_4m2 (w_4l1 : Int32).toNatClampNeg) + 1)) w_4m3) else (if (w_4m1 ((((42 + (42 * ((w_4l1 + (-1)) + 1))) + 20) + ((upd w_4m2 (w_4l1 : Int32).toNatClampNeg ((w_4m2 (w_4l1 : Int32).toNatClampNeg) + 1)) ((w_4l1 + (-1)) : Int32).toNatClampNeg)) : Int32).toNatClampNeg) = 1 then (ih (w_4l2 - 1) (w_4l1 + (-1)) w_4m0 w_4m1 (upd w_4m2 (w_4l1 : Int32).toNatClampNeg ((w_4m2 (w_4l1 : Int32).toNatClampNeg) + 1)) w_4m3) else (ih (w_4l2 - 0) (w_4l1 + (-1)) w_4m0 w_4m1 (upd w_4m2 (w_4l1 : Int32).toNatClampNeg ((w_4m2 (w_4l1 : Int32).toNatClampNeg) + 1)) w_4m3))) else (if w_4l1 = 7 then (if (w_4l1 + (-1)) < 0 then (ih (w_4l2 - 0) (w_4l1 + (-1)) w_4m0 w_4m1 (upd w_4m2 (w_4l1 : Int32).toNatClampNeg ((w_4m2 (w_4l1 : Int32).toNatClampNeg) + 1)) w_4m3) else (if (w_4m1 ((((42 + (42 * ((w_4l1 + (-1)) + 1))) + 20) + ((upd w_4m2 (w_4l1 : Int32).toNatClampNeg ((w_4m2 (w_4l1 : Int32).toNatClampNeg) + 1)) ((w_4l1 + (-1)) : Int32).toNatClampNeg)) : Int32).toNatClampNeg) = 1 then (ih (w_4l2 - 1) (w_4l1 + (-1)) w_4m0 w_4m1 (upd w_4m2 (w_4l1 : Int32).toNatClampNeg ((w_4m2 (w_4l1 : Int32).toNatClampNeg) + 1)) w_4m3) else (ih (w_4l2 - 0) (w_4l1 + (-1)) w_4m0 w_4m1 (upd w_4m2 (w_4l1 : Int32).toNatClampNeg ((w_4m2 (w_4l1 : Int32).toNatClampNeg) + 1)) w_4m3))) else (if (w_4m1 ((((42 + (42 * w_4l1)) + 20) + ((upd w_4m2 (w_4l1 : Int32).toNatClampNeg ((w_4m2 (w_4l1 : Int32).toNatClampNeg) + 1)) (w_4l1 : Int32).toNatClampNeg)) : Int32).toNatClampNeg) = 0 then (match (f_m_passes w_4m0 (f_m_copy w_4m1 (42 + (42 * w_4l1)) ((42 + (42 * w_4l1)) + 42)) f10 f8 f11 f12 ((42 + (42 * w_4l1)) + 42) ((upd w_4m2 (w_4l1 : Int32).toNatClampNeg ((w_4m2 (w_4l1 : Int32).toNatClampNeg) + 1)) (w_4l1 : Int32).toNatClampNeg)) with | (o_25, o_26) => (if (o_26 (((((42 + (42 * w_4l1)) + 42) + 20) + ((upd w_4m2 (w_4l1 : Int32).toNatClampNeg ((w_4m2 (w_4l1 : Int32).toNatClampNeg) + 1)) (w_4l1 : Int32).toNatClampNeg)) : Int32).toNatClampNeg) = 3 then (ih w_4l2 w_4l1 o_25 o_26 (upd w_4m2 (w_4l1 : Int32).toNatClampNeg ((w_4m2 (w_4l1 : Int32).toNatClampNeg) + 1)) w_4m3) else (if (o_26 ((((42 + (42 * w_4l1)) + 42) + 18) : Int32).toNatClampNeg) = (o_26 (18 : Int32).toNatClampNeg) then (if (o_26 (((((42 + (42 * w_4l1)) + 42) + 20) + ((upd w_4m2 (w_4l1 : Int32).toNatClampNeg ((w_4m2 (w_4l1 : Int32).toNatClampNeg) + 1)) (w_4l1 : Int32).toNatClampNeg)) : Int32).toNatClampNeg) = 1 then (if (w_4l2 + 1) ≤ (o_25 41) then (ih (w_4l2 + 1) (w_4l1 + 1) o_25 o_26 (upd (upd w_4m2 (w_4l1 : Int32).toNatClampNeg ((w_4m2 (w_4l1 : Int32).toNatClampNeg) + 1)) ((w_4l1 + 1) : Int32).toNatClampNeg (-1)) w_4m3) else (match ((f_m_findOrder_253 w_4l1 10 0 (upd (upd o_25 41 (w_4l2 + 1)) 40 (w_4l1 + 1)) o_26 (upd w_4m2 (w_4l1 : Int32).toNatClampNeg ((w_4m2 (w_4l1 : Int32).toNatClampNeg) + 1)) w_4m3) : Int32 × (Nat → Int32) × (Nat → Int32) × (Nat → Int32) × (Nat → Int32)) with | (w_44l5, w_44m0, w_44m1, w_44m2, w_44m3) => (ih (w_4l2 + 1) (w_4l1 + 1) w_44m0 w_44m1 (upd w_44m2 ((w_4l1 + 1) : Int32).toNatClampNeg (-1)) w_44m3))) else (if (w_4l2 + 0) ≤ (o_25 41) then (ih (w_4l2 + 0) (w_4l1 + 1) o_25 o_26 (upd (upd w_4m2 (w_4l1 : Int32).toNatClampNeg ((w_4m2 (w_4l1 : Int32).toNatClampNeg) + 1)) ((w_4l1 + 1) : Int32).toNatClampNeg (-1)) w_4m3) else (match ((f_m_findOrder_253 w_4l1 10 0 (upd (upd o_25 41 (w_4l2 + 0)) 40 (w_4l1 + 1)) o_26 (upd w_4m2 (w_4l1 : Int32).toNatClampNeg ((w_4m2 (w_4l1 : Int32).toNatClampNeg) + 1)) w_4m3) : Int32 × (Nat → Int32) × (Nat → Int32) × (Nat → Int32) × (Nat → Int32)) with | (w_37l5, w_37m0, w_37m1, w_37m2, w_37m3) => (ih (w_4l2 + 0) (w_4l1 + 1) w_37m0 w_37m1 (upd w_37m2 ((w_4l1 + 1) : Int32).toNatClampNeg (-1)) w_37m3)))) else (ih w_4l2 w_4l1 o_25 o_26 (upd w_4m2 (w_4l1 : Int32).toNatClampNeg ((w_4m2 (w_4l1 : Int32).toNatClampNeg) + 1)) w_4m3)))) else (ih w_4l2 w_4l1 w_4m0 w_4m1 (upd w_4m2 (w_4l1 : Int32).toNatClampNeg ((w_4m2 (w_4l1 : Int32).toNatClampNeg) + 1)) w_4m3)))))) n
theorem f_m_findOrder_28_s (f10 : Nat → Int32) (f8 : Nat → Int32) (f11 : Nat → Int32) (f12 : Nat → Int32) (n : Nat) (w_4l2 : Int32) (w_4l1 : Int32) (w_4m0 : (Nat → Int32)) (w_4m1 : (Nat → Int32)) (w_4m2 : (Nat → Int32)) (w_4m3 : (Nat → Int32)) : f_m_findOrder_28 f10 f8 f11 f12 (n + 1) w_4l2 w_4l1 w_4m0 w_4m1 w_4m2 w_4m3 = (if w_4l1 < 0 then (w_4l2, w_4l1, w_4m0, w_4m1, w_4m2, w_4m3) else (if ((upd w_4m2 (w_4l1 : Int32).toNatClampNeg ((w_4m2 (w_4l1 : Int32).toNatClampNeg) + 1)) (w_4l1 : Int32).toNatClampNeg) = (w_4m0 6) then (if (w_4l1 + (-1)) < 0 then (f_m_findOrder_28 f10 f8 f11 f12 n (w_4l2 - 0) (w_4l1 + (-1)) w_4m0 w_4m1 (upd w_4m2 (w_4l1 : Int32).toNatClampNeg ((w_4m2 (w_4l1 : Int32).toNatClampNeg) + 1)) w_4m3) else (if (w_4m1 ((((42 + (42 * ((w_4l1 + (-1)) + 1))) + 20) + ((upd w_4m2 (w_4l1 : Int32).toNatClampNeg ((w_4m2 (w_4l1 : Int32).toNatClampNeg) + 1)) ((w_4l1 + (-1)) : Int32).toNatClampNeg)) : Int32).toNatClampNeg) = 1 then (f_m_findOrder_28 f10 f8 f11 f12 n (w_4l2 - 1) (w_4l1 + (-1)) w_4m0 w_4m1 (upd w_4m2 (w_4l1 : Int32).toNatClampNeg ((w_4m2 (w_4l1 : Int32).toNatClampNeg) + 1)) w_4m3) else (f_m_findOrder_28 f10 f8 f11 f12 n (w_4l2 - 0) (w_4l1 + (-1)) w_4m0 w_4m1 (upd w_4m2 (w_4l1 : Int32).toNatClampNeg ((w_4m2 (w_4l1 : Int32).toNatClampNeg) + 1)) w_4m3))) else (if w_4l1 = 7 then (if (w_4l1 + (-1)) < 0 then (f_m_findOrder_28 f10 f8 f11 f12 n (w_4l2 - 0) (w_4l1 + (-1)) w_4m0 w_4m1 (upd w_4m2 (w_4l1 : Int32).toNatClampNeg ((w_4m2 (w_4l1 : Int32).toNatClampNeg) + 1)) w_4m3) else (if (w_4m1 ((((42 + (42 * ((w_4l1 + (-1)) + 1))) + 20) + ((upd w_4m2 (w_4l1 : Int32).toNatClampNeg ((w_4m2 (w_4l1 : Int32).toNatClampNeg) + 1)) ((w_4l1 + (-1)) : Int32).toNatClampNeg)) : Int32).toNatClampNeg) = 1 then (f_m_findOrder_28 f10 f8 f11 f12 n (w_4l2 - 1) (w_4l1 + (-1)) w_4m0 w_4m1 (upd w_4m2 (w_4l1 : Int32).toNatClampNeg ((w_4m2 (w_4l1 : Int32).toNatClampNeg) + 1)) w_4m3) else (f_m_findOrder_28 f10 f8 f11 f12 n (w_4l2 - 0) (w_4l1 + (-1)) w_4m0 w_4m1 (upd w_4m2 (w_4l1 : Int32).toNatClampNeg ((w_4m2 (w_4l1 : Int32).toNatClampNeg) + 1)) w_4m3))) else (if (w_4m1 ((((42 + (42 * w_4l1)) + 20) + ((upd w_4m2 (w_4l1 : Int32).toNatClampNeg ((w_4m2 (w_4l1 : Int32).toNatClampNeg) + 1)) (w_4l1 : Int32).toNatClampNeg)) : Int32).toNatClampNeg) = 0 then (match (f_m_passes w_4m0 (f_m_copy w_4m1 (42 + (42 * w_4l1)) ((42 + (42 * w_4l1)) + 42)) f10 f8 f11 f12 ((42 + (42 * w_4l1)) + 42) ((upd w_4m2 (w_4l1 : Int32).toNatClampNeg ((w_4m2 (w_4l1 : Int32).toNatClampNeg) + 1)) (w_4l1 : Int32).toNatClampNeg)) with | (o_25, o_26) => (if (o_26 (((((42 + (42 * w_4l1)) + 42) + 20) + ((upd w_4m2 (w_4l1 : Int32).toNatClampNeg ((w_4m2 (w_4l1 : Int32).toNatClampNeg) + 1)) (w_4l1 : Int32).toNatClampNeg)) : Int32).toNatClampNeg) = 3 then (f_m_findOrder_28 f10 f8 f11 f12 n w_4l2 w_4l1 o_25 o_26 (upd w_4m2 (w_4l1 : Int32).toNatClampNeg ((w_4m2 (w_4l1 : Int32).toNatClampNeg) + 1)) w_4m3) else (if (o_26 ((((42 + (42 * w_4l1)) + 42) + 18) : Int32).toNatClampNeg) = (o_26 (18 : Int32).toNatClampNeg) then (if (o_26 (((((42 + (42 * w_4l1)) + 42) + 20) + ((upd w_4m2 (w_4l1 : Int32).toNatClampNeg ((w_4m2 (w_4l1 : Int32).toNatClampNeg) + 1)) (w_4l1 : Int32).toNatClampNeg)) : Int32).toNatClampNeg) = 1 then (if (w_4l2 + 1) ≤ (o_25 41) then (f_m_findOrder_28 f10 f8 f11 f12 n (w_4l2 + 1) (w_4l1 + 1) o_25 o_26 (upd (upd w_4m2 (w_4l1 : Int32).toNatClampNeg ((w_4m2 (w_4l1 : Int32).toNatClampNeg) + 1)) ((w_4l1 + 1) : Int32).toNatClampNeg (-1)) w_4m3) else (match ((f_m_findOrder_253 w_4l1 10 0 (upd (upd o_25 41 (w_4l2 + 1)) 40 (w_4l1 + 1)) o_26 (upd w_4m2 (w_4l1 : Int32).toNatClampNeg ((w_4m2 (w_4l1 : Int32).toNatClampNeg) + 1)) w_4m3) : Int32 × (Nat → Int32) × (Nat → Int32) × (Nat → Int32) × (Nat → Int32)) with | (w_44l5, w_44m0, w_44m1, w_44m2, w_44m3) => (f_m_findOrder_28 f10 f8 f11 f12 n (w_4l2 + 1) (w_4l1 + 1) w_44m0 w_44m1 (upd w_44m2 ((w_4l1 + 1) : Int32).toNatClampNeg (-1)) w_44m3))) else (if (w_4l2 + 0) ≤ (o_25 41) then (f_m_findOrder_28 f10 f8 f11 f12 n (w_4l2 + 0) (w_4l1 + 1) o_25 o_26 (upd (upd w_4m2 (w_4l1 : Int32).toNatClampNeg ((w_4m2 (w_4l1 : Int32).toNatClampNeg) + 1)) ((w_4l1 + 1) : Int32).toNatClampNeg (-1)) w_4m3) else (match ((f_m_findOrder_253 w_4l1 10 0 (upd (upd o_25 41 (w_4l2 + 0)) 40 (w_4l1 + 1)) o_26 (upd w_4m2 (w_4l1 : Int32).toNatClampNeg ((w_4m2 (w_4l1 : Int32).toNatClampNeg) + 1)) w_4m3) : Int32 × (Nat → Int32) × (Nat → Int32) × (Nat → Int32) × (Nat → Int32)) with | (w_37l5, w_37m0, w_37m1, w_37m2, w_37m3) => (f_m_findOrder_28 f10 f8 f11 f12 n (w_4l2 + 0) (w_4l1 + 1) w_37m0 w_37m1 (upd w_37m2 ((w_4l1 + 1) : Int32).toNatClampNeg (-1)) w_37m3)))) else (f_m_findOrder_28 f10 f8 f11 f12 n w_4l2 w_4l1 o_25 o_26 (upd w_4m2 (w_4l1 : Int32).toNatClampNeg ((w_4m2 (w_4l1 : Int32).toNatClampNeg) + 1)) w_4m3)))) else (f_m_findOrder_28 f10 f8 f11 f12 n w_4l2 w_4l1 w_4m0 w_4m1 (upd w_4m2 (w_4l1 : Int32).toNatClampNeg ((w_4m2 (w_4l1 : Int32).toNatClampNeg) + 1)) w_4m3))))) := rfl
def S_m_findOrder_28 (f10 : Nat → Int32) (f8 : Nat → Int32) (f11 : Nat → Int32) (f12 : Nat → Int32) (K : Int32 → Int32 → (Nat → Int32) → (Nat → Int32) → (Nat → Int32) → (Nat → Int32) → Prop) (n : Nat) : Int32 → Int32 → (Nat → Int32) → (Nat → Int32) → (Nat → Int32) → (Nat → Int32) → Prop := Nat.rec (motive := fun _ => Int32 → Int32 → (Nat → Int32) → (Nat → Int32) → (Nat → Int32) → (Nat → Int32) → Prop) (fun _ _ _ _ _ _ => False) (fun n ih w_4l2 w_4l1 w_4m0 w_4m1 w_4m2 w_4m3 => ((w_4l1 < 0 → (K w_4l2 w_4l1 w_4m0 w_4m1 w_4m2 w_4m3)) ∧ (¬ w_4l1 < 0 → (vp_in w_4l1 8 ∧ (vp_in w_4l1 8 ∧ (vp_in w_4l1 8 ∧ ((((upd w_4m2 (w_4l1 : Int32).toNatClampNeg ((w_4m2 (w_4l1 : Int32).toNatClampNeg) + 1)) (w_4l1 : Int32).toNatClampNeg) = (w_4m0 6) → (((w_4l1 + (-1)) < 0 → (ih (w_4l2 - 0) (w_4l1 + (-1)) w_4m0 w_4m1 (upd w_4m2 (w_4l1 : Int32).toNatClampNeg ((w_4m2 (w_4l1 : Int32).toNatClampNeg) + 1)) w_4m3)) ∧ (¬ (w_4l1 + (-1)) < 0 → (vp_in (w_4l1 + (-1)) 8 ∧ (vp_in (((42 + (42 * ((w_4l1 + (-1)) + 1))) + 20) + ((upd w_4m2 (w_4l1 : Int32).toNatClampNeg ((w_4m2 (w_4l1 : Int32).toNatClampNeg) + 1)) ((w_4l1 + (-1)) : Int32).toNatClampNeg)) 1302 ∧ (((w_4m1 ((((42 + (42 * ((w_4l1 + (-1)) + 1))) + 20) + ((upd w_4m2 (w_4l1 : Int32).toNatClampNeg ((w_4m2 (w_4l1 : Int32).toNatClampNeg) + 1)) ((w_4l1 + (-1)) : Int32).toNatClampNeg)) : Int32).toNatClampNeg) = 1 → (ih (w_4l2 - 1) (w_4l1 + (-1)) w_4m0 w_4m1 (upd w_4m2 (w_4l1 : Int32).toNatClampNeg ((w_4m2 (w_4l1 : Int32).toNatClampNeg) + 1)) w_4m3)) ∧ (¬ (w_4m1 ((((42 + (42 * ((w_4l1 + (-1)) + 1))) + 20) + ((upd w_4m2 (w_4l1 : Int32).toNatClampNeg ((w_4m2 (w_4l1 : Int32).toNatClampNeg) + 1)) ((w_4l1 + (-1)) : Int32).toNatClampNeg)) : Int32).toNatClampNeg) = 1 → (ih (w_4l2 - 0) (w_4l1 + (-1)) w_4m0 w_4m1 (upd w_4m2 (w_4l1 : Int32).toNatClampNeg ((w_4m2 (w_4l1 : Int32).toNatClampNeg) + 1)) w_4m3)))))))) ∧ (¬ ((upd w_4m2 (w_4l1 : Int32).toNatClampNeg ((w_4m2 (w_4l1 : Int32).toNatClampNeg) + 1)) (w_4l1 : Int32).toNatClampNeg) = (w_4m0 6) → ((w_4l1 = 7 → (((w_4l1 + (-1)) < 0 → (ih (w_4l2 - 0) (w_4l1 + (-1)) w_4m0 w_4m1 (upd w_4m2 (w_4l1 : Int32).toNatClampNeg ((w_4m2 (w_4l1 : Int32).toNatClampNeg) + 1)) w_4m3)) ∧ (¬ (w_4l1 + (-1)) < 0 → (vp_in (w_4l1 + (-1)) 8 ∧ (vp_in (((42 + (42 * ((w_4l1 + (-1)) + 1))) + 20) + ((upd w_4m2 (w_4l1 : Int32).toNatClampNeg ((w_4m2 (w_4l1 : Int32).toNatClampNeg) + 1)) ((w_4l1 + (-1)) : Int32).toNatClampNeg)) 1302 ∧ (((w_4m1 ((((42 + (42 * ((w_4l1 + (-1)) + 1))) + 20) + ((upd w_4m2 (w_4l1 : Int32).toNatClampNeg ((w_4m2 (w_4l1 : Int32).toNatClampNeg) + 1)) ((w_4l1 + (-1)) : Int32).toNatClampNeg)) : Int32).toNatClampNeg) = 1 → (ih (w_4l2 - 1) (w_4l1 + (-1)) w_4m0 w_4m1 (upd w_4m2 (w_4l1 : Int32).toNatClampNeg ((w_4m2 (w_4l1 : Int32).toNatClampNeg) + 1)) w_4m3)) ∧ (¬ (w_4m1 ((((42 + (42 * ((w_4l1 + (-1)) + 1))) + 20) + ((upd w_4m2 (w_4l1 : Int32).toNatClampNeg ((w_4m2 (w_4l1 : Int32).toNatClampNeg) + 1)) ((w_4l1 + (-1)) : Int32).toNatClampNeg)) : Int32).toNatClampNeg) = 1 → (ih (w_4l2 - 0) (w_4l1 + (-1)) w_4m0 w_4m1 (upd w_4m2 (w_4l1 : Int32).toNatClampNeg ((w_4m2 (w_4l1 : Int32).toNatClampNeg) + 1)) w_4m3)))))))) ∧ (¬ w_4l1 = 7 → (vp_in w_4l1 8 ∧ (vp_in (((42 + (42 * w_4l1)) + 20) + ((upd w_4m2 (w_4l1 : Int32).toNatClampNeg ((w_4m2 (w_4l1 : Int32).toNatClampNeg) + 1)) (w_4l1 : Int32).toNatClampNeg)) 1302 ∧ (((w_4m1 ((((42 + (42 * w_4l1)) + 20) + ((upd w_4m2 (w_4l1 : Int32).toNatClampNeg ((w_4m2 (w_4l1 : Int32).toNatClampNeg) + 1)) (w_4l1 : Int32).toNatClampNeg)) : Int32).toNatClampNeg) = 0 → ((S_m_copy w_4m1 (42 + (42 * w_4l1)) ((42 + (42 * w_4l1)) + 42)) ∧ (vp_in w_4l1 8 ∧ ((S_m_passes w_4m0 (f_m_copy w_4m1 (42 + (42 * w_4l1)) ((42 + (42 * w_4l1)) + 42)) f10 f8 f11 f12 ((42 + (42 * w_4l1)) + 42) ((upd w_4m2 (w_4l1 : Int32).toNatClampNeg ((w_4m2 (w_4l1 : Int32).toNatClampNeg) + 1)) (w_4l1 : Int32).toNatClampNeg)) ∧ (∀ (o_25 : (Nat → Int32)) (o_26 : (Nat → Int32)), (o_25, o_26) = (f_m_passes w_4m0 (f_m_copy w_4m1 (42 + (42 * w_4l1)) ((42 + (42 * w_4l1)) + 42)) f10 f8 f11 f12 ((42 + (42 * w_4l1)) + 42) ((upd w_4m2 (w_4l1 : Int32).toNatClampNeg ((w_4m2 (w_4l1 : Int32).toNatClampNeg) + 1)) (w_4l1 : Int32).toNatClampNeg)) → (vp_in w_4l1 8 ∧ (vp_in ((((42 + (42 * w_4l1)) + 42) + 20) + ((upd w_4m2 (w_4l1 : Int32).toNatClampNeg ((w_4m2 (w_4l1 : Int32).toNatClampNeg) + 1)) (w_4l1 : Int32).toNatClampNeg)) 1302 ∧ (((o_26 (((((42 + (42 * w_4l1)) + 42) + 20) + ((upd w_4m2 (w_4l1 : Int32).toNatClampNeg ((w_4m2 (w_4l1 : Int32).toNatClampNeg) + 1)) (w_4l1 : Int32).toNatClampNeg)) : Int32).toNatClampNeg) = 3 → (ih w_4l2 w_4l1 o_25 o_26 (upd w_4m2 (w_4l1 : Int32).toNatClampNeg ((w_4m2 (w_4l1 : Int32).toNatClampNeg) + 1)) w_4m3)) ∧ (¬ (o_26 (((((42 + (42 * w_4l1)) + 42) + 20) + ((upd w_4m2 (w_4l1 : Int32).toNatClampNeg ((w_4m2 (w_4l1 : Int32).toNatClampNeg) + 1)) (w_4l1 : Int32).toNatClampNeg)) : Int32).toNatClampNeg) = 3 → (vp_in (((42 + (42 * w_4l1)) + 42) + 18) 1302 ∧ (((o_26 ((((42 + (42 * w_4l1)) + 42) + 18) : Int32).toNatClampNeg) = (o_26 (18 : Int32).toNatClampNeg) → (vp_in w_4l1 8 ∧ (vp_in ((((42 + (42 * w_4l1)) + 42) + 20) + ((upd w_4m2 (w_4l1 : Int32).toNatClampNeg ((w_4m2 (w_4l1 : Int32).toNatClampNeg) + 1)) (w_4l1 : Int32).toNatClampNeg)) 1302 ∧ (((o_26 (((((42 + (42 * w_4l1)) + 42) + 20) + ((upd w_4m2 (w_4l1 : Int32).toNatClampNeg ((w_4m2 (w_4l1 : Int32).toNatClampNeg) + 1)) (w_4l1 : Int32).toNatClampNeg)) : Int32).toNatClampNeg) = 1 → (((w_4l2 + 1) ≤ (o_25 41) → (vp_in (w_4l1 + 1) 8 ∧ (ih (w_4l2 + 1) (w_4l1 + 1) o_25 o_26 (upd (upd w_4m2 (w_4l1 : Int32).toNatClampNeg ((w_4m2 (w_4l1 : Int32).toNatClampNeg) + 1)) ((w_4l1 + 1) : Int32).toNatClampNeg (-1)) w_4m3))) ∧ (¬ (w_4l2 + 1) ≤ (o_25 41) → (S_m_findOrder_253 w_4l1 (fun (w_44l5 : Int32) (w_44m0 : (Nat → Int32)) (w_44m1 : (Nat → Int32)) (w_44m2 : (Nat → Int32)) (w_44m3 : (Nat → Int32)) => (vp_in (w_4l1 + 1) 8 ∧ (ih (w_4l2 + 1) (w_4l1 + 1) w_44m0 w_44m1 (upd w_44m2 ((w_4l1 + 1) : Int32).toNatClampNeg (-1)) w_44m3))) 10 0 (upd (upd o_25 41 (w_4l2 + 1)) 40 (w_4l1 + 1)) o_26 (upd w_4m2 (w_4l1 : Int32).toNatClampNeg ((w_4m2 (w_4l1 : Int32).toNatClampNeg) + 1)) w_4m3)))) ∧ (¬ (o_26 (((((42 + (42 * w_4l1)) + 42) + 20) + ((upd w_4m2 (w_4l1 : Int32).toNatClampNeg ((w_4m2 (w_4l1 : Int32).toNatClampNeg) + 1)) (w_4l1 : Int32).toNatClampNeg)) : Int32).toNatClampNeg) = 1 → (((w_4l2 + 0) ≤ (o_25 41) → (vp_in (w_4l1 + 1) 8 ∧ (ih (w_4l2 + 0) (w_4l1 + 1) o_25 o_26 (upd (upd w_4m2 (w_4l1 : Int32).toNatClampNeg ((w_4m2 (w_4l1 : Int32).toNatClampNeg) + 1)) ((w_4l1 + 1) : Int32).toNatClampNeg (-1)) w_4m3))) ∧ (¬ (w_4l2 + 0) ≤ (o_25 41) → (S_m_findOrder_253 w_4l1 (fun (w_37l5 : Int32) (w_37m0 : (Nat → Int32)) (w_37m1 : (Nat → Int32)) (w_37m2 : (Nat → Int32)) (w_37m3 : (Nat → Int32)) => (vp_in (w_4l1 + 1) 8 ∧ (ih (w_4l2 + 0) (w_4l1 + 1) w_37m0 w_37m1 (upd w_37m2 ((w_4l1 + 1) : Int32).toNatClampNeg (-1)) w_37m3))) 10 0 (upd (upd o_25 41 (w_4l2 + 0)) 40 (w_4l1 + 1)) o_26 (upd w_4m2 (w_4l1 : Int32).toNatClampNeg ((w_4m2 (w_4l1 : Int32).toNatClampNeg) + 1)) w_4m3)))))))) ∧ (¬ (o_26 ((((42 + (42 * w_4l1)) + 42) + 18) : Int32).toNatClampNeg) = (o_26 (18 : Int32).toNatClampNeg) → (ih w_4l2 w_4l1 o_25 o_26 (upd w_4m2 (w_4l1 : Int32).toNatClampNeg ((w_4m2 (w_4l1 : Int32).toNatClampNeg) + 1)) w_4m3))))))))))))) ∧ (¬ (w_4m1 ((((42 + (42 * w_4l1)) + 20) + ((upd w_4m2 (w_4l1 : Int32).toNatClampNeg ((w_4m2 (w_4l1 : Int32).toNatClampNeg) + 1)) (w_4l1 : Int32).toNatClampNeg)) : Int32).toNatClampNeg) = 0 → (ih w_4l2 w_4l1 w_4m0 w_4m1 (upd w_4m2 (w_4l1 : Int32).toNatClampNeg ((w_4m2 (w_4l1 : Int32).toNatClampNeg) + 1)) w_4m3))))))))))))))) n
theorem S_m_findOrder_28_s (f10 : Nat → Int32) (f8 : Nat → Int32) (f11 : Nat → Int32) (f12 : Nat → Int32) (K : Int32 → Int32 → (Nat → Int32) → (Nat → Int32) → (Nat → Int32) → (Nat → Int32) → Prop) (n : Nat) (w_4l2 : Int32) (w_4l1 : Int32) (w_4m0 : (Nat → Int32)) (w_4m1 : (Nat → Int32)) (w_4m2 : (Nat → Int32)) (w_4m3 : (Nat → Int32)) : S_m_findOrder_28 f10 f8 f11 f12 K (n + 1) w_4l2 w_4l1 w_4m0 w_4m1 w_4m2 w_4m3 = (((w_4l1 < 0 → (K w_4l2 w_4l1 w_4m0 w_4m1 w_4m2 w_4m3)) ∧ (¬ w_4l1 < 0 → (vp_in w_4l1 8 ∧ (vp_in w_4l1 8 ∧ (vp_in w_4l1 8 ∧ ((((upd w_4m2 (w_4l1 : Int32).toNatClampNeg ((w_4m2 (w_4l1 : Int32).toNatClampNeg) + 1)) (w_4l1 : Int32).toNatClampNeg) = (w_4m0 6) → (((w_4l1 + (-1)) < 0 → (S_m_findOrder_28 f10 f8 f11 f12 K n (w_4l2 - 0) (w_4l1 + (-1)) w_4m0 w_4m1 (upd w_4m2 (w_4l1 : Int32).toNatClampNeg ((w_4m2 (w_4l1 : Int32).toNatClampNeg) + 1)) w_4m3)) ∧ (¬ (w_4l1 + (-1)) < 0 → (vp_in (w_4l1 + (-1)) 8 ∧ (vp_in (((42 + (42 * ((w_4l1 + (-1)) + 1))) + 20) + ((upd w_4m2 (w_4l1 : Int32).toNatClampNeg ((w_4m2 (w_4l1 : Int32).toNatClampNeg) + 1)) ((w_4l1 + (-1)) : Int32).toNatClampNeg)) 1302 ∧ (((w_4m1 ((((42 + (42 * ((w_4l1 + (-1)) + 1))) + 20) + ((upd w_4m2 (w_4l1 : Int32).toNatClampNeg ((w_4m2 (w_4l1 : Int32).toNatClampNeg) + 1)) ((w_4l1 + (-1)) : Int32).toNatClampNeg)) : Int32).toNatClampNeg) = 1 → (S_m_findOrder_28 f10 f8 f11 f12 K n (w_4l2 - 1) (w_4l1 + (-1)) w_4m0 w_4m1 (upd w_4m2 (w_4l1 : Int32).toNatClampNeg ((w_4m2 (w_4l1 : Int32).toNatClampNeg) + 1)) w_4m3)) ∧ (¬ (w_4m1 ((((42 + (42 * ((w_4l1 + (-1)) + 1))) + 20) + ((upd w_4m2 (w_4l1 : Int32).toNatClampNeg ((w_4m2 (w_4l1 : Int32).toNatClampNeg) + 1)) ((w_4l1 + (-1)) : Int32).toNatClampNeg)) : Int32).toNatClampNeg) = 1 → (S_m_findOrder_28 f10 f8 f11 f12 K n (w_4l2 - 0) (w_4l1 + (-1)) w_4m0 w_4m1 (upd w_4m2 (w_4l1 : Int32).toNatClampNeg ((w_4m2 (w_4l1 : Int32).toNatClampNeg) + 1)) w_4m3)))))))) ∧ (¬ ((upd w_4m2 (w_4l1 : Int32).toNatClampNeg ((w_4m2 (w_4l1 : Int32).toNatClampNeg) + 1)) (w_4l1 : Int32).toNatClampNeg) = (w_4m0 6) → ((w_4l1 = 7 → (((w_4l1 + (-1)) < 0 → (S_m_findOrder_28 f10 f8 f11 f12 K n (w_4l2 - 0) (w_4l1 + (-1)) w_4m0 w_4m1 (upd w_4m2 (w_4l1 : Int32).toNatClampNeg ((w_4m2 (w_4l1 : Int32).toNatClampNeg) + 1)) w_4m3)) ∧ (¬ (w_4l1 + (-1)) < 0 → (vp_in (w_4l1 + (-1)) 8 ∧ (vp_in (((42 + (42 * ((w_4l1 + (-1)) + 1))) + 20) + ((upd w_4m2 (w_4l1 : Int32).toNatClampNeg ((w_4m2 (w_4l1 : Int32).toNatClampNeg) + 1)) ((w_4l1 + (-1)) : Int32).toNatClampNeg)) 1302 ∧ (((w_4m1 ((((42 + (42 * ((w_4l1 + (-1)) + 1))) + 20) + ((upd w_4m2 (w_4l1 : Int32).toNatClampNeg ((w_4m2 (w_4l1 : Int32).toNatClampNeg) + 1)) ((w_4l1 + (-1)) : Int32).toNatClampNeg)) : Int32).toNatClampNeg) = 1 → (S_m_findOrder_28 f10 f8 f11 f12 K n (w_4l2 - 1) (w_4l1 + (-1)) w_4m0 w_4m1 (upd w_4m2 (w_4l1 : Int32).toNatClampNeg ((w_4m2 (w_4l1 : Int32).toNatClampNeg) + 1)) w_4m3)) ∧ (¬ (w_4m1 ((((42 + (42 * ((w_4l1 + (-1)) + 1))) + 20) + ((upd w_4m2 (w_4l1 : Int32).toNatClampNeg ((w_4m2 (w_4l1 : Int32).toNatClampNeg) + 1)) ((w_4l1 + (-1)) : Int32).toNatClampNeg)) : Int32).toNatClampNeg) = 1 → (S_m_findOrder_28 f10 f8 f11 f12 K n (w_4l2 - 0) (w_4l1 + (-1)) w_4m0 w_4m1 (upd w_4m2 (w_4l1 : Int32).toNatClampNeg ((w_4m2 (w_4l1 : Int32).toNatClampNeg) + 1)) w_4m3)))))))) ∧ (¬ w_4l1 = 7 → (vp_in w_4l1 8 ∧ (vp_in (((42 + (42 * w_4l1)) + 20) + ((upd w_4m2 (w_4l1 : Int32).toNatClampNeg ((w_4m2 (w_4l1 : Int32).toNatClampNeg) + 1)) (w_4l1 : Int32).toNatClampNeg)) 1302 ∧ (((w_4m1 ((((42 + (42 * w_4l1)) + 20) + ((upd w_4m2 (w_4l1 : Int32).toNatClampNeg ((w_4m2 (w_4l1 : Int32).toNatClampNeg) + 1)) (w_4l1 : Int32).toNatClampNeg)) : Int32).toNatClampNeg) = 0 → ((S_m_copy w_4m1 (42 + (42 * w_4l1)) ((42 + (42 * w_4l1)) + 42)) ∧ (vp_in w_4l1 8 ∧ ((S_m_passes w_4m0 (f_m_copy w_4m1 (42 + (42 * w_4l1)) ((42 + (42 * w_4l1)) + 42)) f10 f8 f11 f12 ((42 + (42 * w_4l1)) + 42) ((upd w_4m2 (w_4l1 : Int32).toNatClampNeg ((w_4m2 (w_4l1 : Int32).toNatClampNeg) + 1)) (w_4l1 : Int32).toNatClampNeg)) ∧ (∀ (o_25 : (Nat → Int32)) (o_26 : (Nat → Int32)), (o_25, o_26) = (f_m_passes w_4m0 (f_m_copy w_4m1 (42 + (42 * w_4l1)) ((42 + (42 * w_4l1)) + 42)) f10 f8 f11 f12 ((42 + (42 * w_4l1)) + 42) ((upd w_4m2 (w_4l1 : Int32).toNatClampNeg ((w_4m2 (w_4l1 : Int32).toNatClampNeg) + 1)) (w_4l1 : Int32).toNatClampNeg)) → (vp_in w_4l1 8 ∧ (vp_in ((((42 + (42 * w_4l1)) + 42) + 20) + ((upd w_4m2 (w_4l1 : Int32).toNatClampNeg ((w_4m2 (w_4l1 : Int32).toNatClampNeg) + 1)) (w_4l1 : Int32).toNatClampNeg)) 1302 ∧ (((o_26 (((((42 + (42 * w_4l1)) + 42) + 20) + ((upd w_4m2 (w_4l1 : Int32).toNatClampNeg ((w_4m2 (w_4l1 : Int32).toNatClampNeg) + 1)) (w_4l1 : Int32).toNatClampNeg)) : Int32).toNatClampNeg) = 3 → (S_m_findOrder_28 f10 f8 f11 f12 K n w_4l2 w_4l1 o_25 o_26 (upd w_4m2 (w_4l1 : Int32).toNatClampNeg ((w_4m2 (w_4l1 : Int32).toNatClampNeg) + 1)) w_4m3)) ∧ (¬ (o_26 (((((42 + (42 * w_4l1)) + 42) + 20) + ((upd w_4m2 (w_4l1 : Int32).toNatClampNeg ((w_4m2 (w_4l1 : Int32).toNatClampNeg) + 1)) (w_4l1 : Int32).toNatClampNeg)) : Int32).toNatClampNeg) = 3 → (vp_in (((42 + (42 * w_4l1)) + 42) + 18) 1302 ∧ (((o_26 ((((42 + (42 * w_4l1)) + 42) + 18) : Int32).toNatClampNeg) = (o_26 (18 : Int32).toNatClampNeg) → (vp_in w_4l1 8 ∧ (vp_in ((((42 + (42 * w_4l1)) + 42) + 20) + ((upd w_4m2 (w_4l1 : Int32).toNatClampNeg ((w_4m2 (w_4l1 : Int32).toNatClampNeg) + 1)) (w_4l1 : Int32).toNatClampNeg)) 1302 ∧ (((o_26 (((((42 + (42 * w_4l1)) + 42) + 20) + ((upd w_4m2 (w_4l1 : Int32).toNatClampNeg ((w_4m2 (w_4l1 : Int32).toNatClampNeg) + 1)) (w_4l1 : Int32).toNatClampNeg)) : Int32).toNatClampNeg) = 1 → (((w_4l2 + 1) ≤ (o_25 41) → (vp_in (w_4l1 + 1) 8 ∧ (S_m_findOrder_28 f10 f8 f11 f12 K n (w_4l2 + 1) (w_4l1 + 1) o_25 o_26 (upd (upd w_4m2 (w_4l1 : Int32).toNatClampNeg ((w_4m2 (w_4l1 : Int32).toNatClampNeg) + 1)) ((w_4l1 + 1) : Int32).toNatClampNeg (-1)) w_4m3))) ∧ (¬ (w_4l2 + 1) ≤ (o_25 41) → (S_m_findOrder_253 w_4l1 (fun (w_44l5 : Int32) (w_44m0 : (Nat → Int32)) (w_44m1 : (Nat → Int32)) (w_44m2 : (Nat → Int32)) (w_44m3 : (Nat → Int32)) => (vp_in (w_4l1 + 1) 8 ∧ (S_m_findOrder_28 f10 f8 f11 f12 K n (w_4l2 + 1) (w_4l1 + 1) w_44m0 w_44m1 (upd w_44m2 ((w_4l1 + 1) : Int32).toNatClampNeg (-1)) w_44m3))) 10 0 (upd (upd o_25 41 (w_4l2 + 1)) 40 (w_4l1 + 1)) o_26 (upd w_4m2 (w_4l1 : Int32).toNatClampNeg ((w_4m2 (w_4l1 : Int32).toNatClampNeg) + 1)) w_4m3)))) ∧ (¬ (o_26 (((((42 + (42 * w_4l1)) + 42) + 20) + ((upd w_4m2 (w_4l1 : Int32).toNatClampNeg ((w_4m2 (w_4l1 : Int32).toNatClampNeg) + 1)) (w_4l1 : Int32).toNatClampNeg)) : Int32).toNatClampNeg) = 1 → (((w_4l2 + 0) ≤ (o_25 41) → (vp_in (w_4l1 + 1) 8 ∧ (S_m_findOrder_28 f10 f8 f11 f12 K n (w_4l2 + 0) (w_4l1 + 1) o_25 o_26 (upd (upd w_4m2 (w_4l1 : Int32).toNatClampNeg ((w_4m2 (w_4l1 : Int32).toNatClampNeg) + 1)) ((w_4l1 + 1) : Int32).toNatClampNeg (-1)) w_4m3))) ∧ (¬ (w_4l2 + 0) ≤ (o_25 41) → (S_m_findOrder_253 w_4l1 (fun (w_37l5 : Int32) (w_37m0 : (Nat → Int32)) (w_37m1 : (Nat → Int32)) (w_37m2 : (Nat → Int32)) (w_37m3 : (Nat → Int32)) => (vp_in (w_4l1 + 1) 8 ∧ (S_m_findOrder_28 f10 f8 f11 f12 K n (w_4l2 + 0) (w_4l1 + 1) w_37m0 w_37m1 (upd w_37m2 ((w_4l1 + 1) : Int32).toNatClampNeg (-1)) w_37m3))) 10 0 (upd (upd o_25 41 (w_4l2 + 0)) 40 (w_4l1 + 1)) o_26 (upd w_4m2 (w_4l1 : Int32).toNatClampNeg ((w_4m2 (w_4l1 : Int32).toNatClampNeg) + 1)) w_4m3)))))))) ∧ (¬ (o_26 ((((42 + (42 * w_4l1)) + 42) + 18) : Int32).toNatClampNeg) = (o_26 (18 : Int32).toNatClampNeg) → (S_m_findOrder_28 f10 f8 f11 f12 K n w_4l2 w_4l1 o_25 o_26 (upd w_4m2 (w_4l1 : Int32).toNatClampNeg ((w_4m2 (w_4l1 : Int32).toNatClampNeg) + 1)) w_4m3))))))))))))) ∧ (¬ (w_4m1 ((((42 + (42 * w_4l1)) + 20) + ((upd w_4m2 (w_4l1 : Int32).toNatClampNeg ((w_4m2 (w_4l1 : Int32).toNatClampNeg) + 1)) (w_4l1 : Int32).toNatClampNeg)) : Int32).toNatClampNeg) = 0 → (S_m_findOrder_28 f10 f8 f11 f12 K n w_4l2 w_4l1 w_4m0 w_4m1 (upd w_4m2 (w_4l1 : Int32).toNatClampNeg ((w_4m2 (w_4l1 : Int32).toNatClampNeg) + 1)) w_4m3))))))))))))))) := rfl
noncomputable def f_m_findOrder (G : Nat → Int32) (f0 : Nat → Int32) (f10 : Nat → Int32) (f8 : Nat → Int32) (f11 : Nat → Int32) (f12 : Nat → Int32) (f38 : Nat → Int32) (f39 : Nat → Int32) : (Nat → Int32) × (Nat → Int32) × (Nat → Int32) × (Nat → Int32) := (match ((f_m_findOrder_28 f10 f8 f11 f12 1000000000000 0 0 (upd (upd G 40 0) 41 0) (f_m_copy f0 0 42) (upd f38 (0 : Int32).toNatClampNeg (-1)) f39) : Int32 × Int32 × (Nat → Int32) × (Nat → Int32) × (Nat → Int32) × (Nat → Int32)) with | (w_4l2, w_4l1, w_4m0, w_4m1, w_4m2, w_4m3) => (w_4m0, w_4m1, w_4m2, w_4m3))
def S_m_findOrder (G : Nat → Int32) (f0 : Nat → Int32) (f10 : Nat → Int32) (f8 : Nat → Int32) (f11 : Nat → Int32) (f12 : Nat → Int32) (f38 : Nat → Int32) (f39 : Nat → Int32) : Prop := ((S_m_copy f0 0 42) ∧ (S_m_findOrder_28 f10 f8 f11 f12 (fun (w_4l2 : Int32) (w_4l1 : Int32) (w_4m0 : (Nat → Int32)) (w_4m1 : (Nat → Int32)) (w_4m2 : (Nat → Int32)) (w_4m3 : (Nat → Int32)) => True) 1000000000000 0 0 (upd (upd G 40 0) 41 0) (f_m_copy f0 0 42) (upd f38 (0 : Int32).toNatClampNeg (-1)) f39))
def rm_m_findOrder : Room := { frames := 3, cells := 0, slots := 0, locals := 75 }
set_option maxHeartbeats 4000000 in
set_option maxRecDepth 100000 in
theorem m_findOrder {l : Launch} {D : va_G} {cI cZ : ClassId} {sz : Nat} (Rf : Nat → Nat) (h : Nat) (G : Nat → Int32) (f0 : Nat → Int32) (f10 : Nat → Int32) (f8 : Nat → Int32) (f11 : Nat → Int32) (f12 : Nat → Int32) (f38 : Nat → Int32) (f39 : Nat → Int32) (hF : S_m_findOrder G f0 f10 f8 f11 f12 f38 f39) : KV l yX10_findOrder cX10_findOrder 6 rm_m_findOrder D cI cZ [.ref h] sz [(h, .inr (10, ML G Rf)), ((Rf 0), .inl (cI, 1302, .inl f0)), ((Rf 10), .inl (cI, 30, .inl f10)), ((Rf 8), .inl (cI, 6, .inl f8)), ((Rf 11), .inl (cI, 7, .inl f11)), ((Rf 12), .inl (cI, 7, .inl f12)), ((Rf 38), .inl (cI, 8, .inl f38)), ((Rf 39), .inl (cI, 7, .inl f39))] (fun (u : (Nat → Int32) × (Nat → Int32) × (Nat → Int32) × (Nat → Int32)) => u = f_m_findOrder G f0 f10 f8 f11 f12 f38 f39) (fun (u : (Nat → Int32) × (Nat → Int32) × (Nat → Int32) × (Nat → Int32)) => [(h, .inr (10, ML u.1 Rf)), ((Rf 0), .inl (cI, 1302, .inl u.2.1)), ((Rf 10), .inl (cI, 30, .inl f10)), ((Rf 8), .inl (cI, 6, .inl f8)), ((Rf 11), .inl (cI, 7, .inl f11)), ((Rf 12), .inl (cI, 7, .inl f12)), ((Rf 38), .inl (cI, 8, .inl u.2.2.1)), ((Rf 39), .inl (cI, 7, .inl u.2.2.2))]) := by
  refine KV.go rfl (Nat.le_of_ble_eq_true rfl) ?_
  intro p e s m args below meth c ls A Q hx hb hml hts hown hin hP hK hD hS hA hN hl hret
  have hl : lv_has ls 6 [(0, .ref h)] := hl
  rw [S_m_findOrder] at hF
  obtain ⟨RES, hE⟩ : ∃ xRES, f_m_findOrder G f0 f10 f8 f11 f12 f38 f39 = xRES := ⟨_, rfl⟩
  rw [hE] at hret
  rw [f_m_findOrder] at hE
  refine lv_aload_n hx hb dX10_findOrder_0 rfl (lv_at hl 0 rfl) ?_
  refine lv_iconst (v := 0) hx hb dX10_findOrder_1 (by decide) ?_
  refine lv_bipush (v := 42) hx hb dX10_findOrder_2 (by decide) ?_
  obtain ⟨hs_1, hF⟩ := hF
  refine cVv (wr := [((Rf 10), .inl (cI, 30, .inl f10)), ((Rf 8), .inl (cI, 6, .inl f8)), ((Rf 11), .inl (cI, 7, .inl f11)), ((Rf 12), .inl (cI, 7, .inl f12)), ((Rf 38), .inl (cI, 8, .inl f38)), ((Rf 39), .inl (cI, 7, .inl f39))]) (rest := []) (m_copy Rf h G f0 0 42 hs_1) okV_X10_copy wd_557 hx hb hml hown hts hK hP hD hS hA hN hl.1 [0, 1] [2, 3, 4, 5, 6, 7] rfl rfl rfl rfl (by decide) rfl rfl rfl (Nat.le_of_ble_eq_true rfl) (Nat.le_of_ble_eq_true rfl) (Nat.le_of_ble_eq_true rfl) (Nat.le_of_ble_eq_true rfl) (Nat.le_of_ble_eq_true rfl) dX10_findOrder_4 (fun u_2 H locs hw_u_2 hP hD hS => ?_)
  replace hw_u_2 : u_2 = (f_m_copy f0 0 42) := hw_u_2
  subst hw_u_2
  have hP : va_P D classes [((Rf 10), .inl (cI, 30, .inl f10)), ((Rf 8), .inl (cI, 6, .inl f8)), ((Rf 11), .inl (cI, 7, .inl f11)), ((Rf 12), .inl (cI, 7, .inl f12)), ((Rf 38), .inl (cI, 8, .inl f38)), ((Rf 39), .inl (cI, 7, .inl f39)), (h, .inr (10, ML G Rf)), ((Rf 0), .inl (cI, 1302, .inl (f_m_copy f0 0 42)))] H := hP
  have hD : va_D A [((Rf 10), .inl (cI, 30, .inl f10)), ((Rf 8), .inl (cI, 6, .inl f8)), ((Rf 11), .inl (cI, 7, .inl f11)), ((Rf 12), .inl (cI, 7, .inl f12)), ((Rf 38), .inl (cI, 8, .inl f38)), ((Rf 39), .inl (cI, 7, .inl f39)), (h, .inr (10, ML G Rf)), ((Rf 0), .inl (cI, 1302, .inl (f_m_copy f0 0 42)))] := hD
  refine lv_aload_n hx hb dX10_findOrder_7 rfl (lv_at hl 0 rfl) ?_
  refine lv_iconst (v := 0) hx hb dX10_findOrder_8 (by decide) ?_
  refine va_put (D := D) (ci := 10) (v := .int 0) (ty := .int) (C := RX10) (T := TX10) (N := 45) hx hb hts iX10 tyX10 tyX10_ok nmX10 hown hK hP hD hS 6 rfl rfl 40 (by decide) (hts _ wd_673) (fun _ h9 => h9) rfl (by decide +kernel) rfl rfl (Nat.le_of_ble_eq_true rfl) dX10_findOrder_9 (fun H locs hP hD hS => ?_)
  have hP : va_P D classes [((Rf 10), .inl (cI, 30, .inl f10)), ((Rf 8), .inl (cI, 6, .inl f8)), ((Rf 11), .inl (cI, 7, .inl f11)), ((Rf 12), .inl (cI, 7, .inl f12)), ((Rf 38), .inl (cI, 8, .inl f38)), ((Rf 39), .inl (cI, 7, .inl f39)), (h, .inr (10, ML (upd G 40 0) Rf)), ((Rf 0), .inl (cI, 1302, .inl (f_m_copy f0 0 42)))] H := hP
  have hD : va_D A [((Rf 10), .inl (cI, 30, .inl f10)), ((Rf 8), .inl (cI, 6, .inl f8)), ((Rf 11), .inl (cI, 7, .inl f11)), ((Rf 12), .inl (cI, 7, .inl f12)), ((Rf 38), .inl (cI, 8, .inl f38)), ((Rf 39), .inl (cI, 7, .inl f39)), (h, .inr (10, ML (upd G 40 0) Rf)), ((Rf 0), .inl (cI, 1302, .inl (f_m_copy f0 0 42)))] := hD
  refine lv_aload_n hx hb dX10_findOrder_12 rfl (lv_at hl 0 rfl) ?_
  refine lv_iconst (v := 0) hx hb dX10_findOrder_13 (by decide) ?_
  refine va_put (D := D) (ci := 10) (v := .int 0) (ty := .int) (C := RX10) (T := TX10) (N := 45) hx hb hts iX10 tyX10 tyX10_ok nmX10 hown hK hP hD hS 6 rfl rfl 41 (by decide) (hts _ wd_674) (fun _ h9 => h9) rfl (by decide +kernel) rfl rfl (Nat.le_of_ble_eq_true rfl) dX10_findOrder_14 (fun H locs hP hD hS => ?_)
  have hP : va_P D classes [((Rf 10), .inl (cI, 30, .inl f10)), ((Rf 8), .inl (cI, 6, .inl f8)), ((Rf 11), .inl (cI, 7, .inl f11)), ((Rf 12), .inl (cI, 7, .inl f12)), ((Rf 38), .inl (cI, 8, .inl f38)), ((Rf 39), .inl (cI, 7, .inl f39)), (h, .inr (10, ML (upd (upd G 40 0) 41 0) Rf)), ((Rf 0), .inl (cI, 1302, .inl (f_m_copy f0 0 42)))] H := hP
  have hD : va_D A [((Rf 10), .inl (cI, 30, .inl f10)), ((Rf 8), .inl (cI, 6, .inl f8)), ((Rf 11), .inl (cI, 7, .inl f11)), ((Rf 12), .inl (cI, 7, .inl f12)), ((Rf 38), .inl (cI, 8, .inl f38)), ((Rf 39), .inl (cI, 7, .inl f39)), (h, .inr (10, ML (upd (upd G 40 0) 41 0) Rf)), ((Rf 0), .inl (cI, 1302, .inl (f_m_copy f0 0 42)))] := hD
  refine lv_iconst (v := 0) hx hb dX10_findOrder_17 (by decide) ?_
  refine lv_istore_n (lv' := [(1, .int 0), (0, .ref h)]) hx hb dX10_findOrder_18 rfl hl (by decide) rfl (fun ls hl => ?_)
  refine lv_iconst (v := 0) hx hb dX10_findOrder_19 (by decide) ?_
  refine lv_istore_n (lv' := [(2, .int 0), (1, .int 0), (0, .ref h)]) hx hb dX10_findOrder_20 rfl hl (by decide) rfl (fun ls hl => ?_)
  refine lv_aload_n hx hb dX10_findOrder_21 rfl (lv_at hl 2 rfl) ?_
  refine va_get (D := D) (ci := 10) (v := .ref (Rf 38)) (C := RX10) (T := TX10) (N := 45) hx hb hts iX10 hown hK hP 6 rfl rfl 38 (by decide) (hts _ wd_675) (fun _ h9 => h9) rfl dX10_findOrder_22 ?_
  refine lv_iconst (v := 0) hx hb dX10_findOrder_25 (by decide) ?_
  refine lv_iconst (v := (-1)) hx hb dX10_findOrder_26 (by decide) ?_
  refine va_iast hx hb hK hP hD hS 4 0 rfl rfl (show ¬ ((0 : Int32) < 0 ∨ 8 ≤ (0 : Int32).toNatClampNeg) by decide +kernel) dX10_findOrder_27 (fun H locs hP hD hS => ?_)
  have hP : va_P D classes [((Rf 10), .inl (cI, 30, .inl f10)), ((Rf 8), .inl (cI, 6, .inl f8)), ((Rf 11), .inl (cI, 7, .inl f11)), ((Rf 12), .inl (cI, 7, .inl f12)), ((Rf 38), .inl (cI, 8, .inl (upd f38 (0 : Int32).toNatClampNeg (-1)))), ((Rf 39), .inl (cI, 7, .inl f39)), (h, .inr (10, ML (upd (upd G 40 0) 41 0) Rf)), ((Rf 0), .inl (cI, 1302, .inl (f_m_copy f0 0 42)))] H := hP
  have hD : va_D A [((Rf 10), .inl (cI, 30, .inl f10)), ((Rf 8), .inl (cI, 6, .inl f8)), ((Rf 11), .inl (cI, 7, .inl f11)), ((Rf 12), .inl (cI, 7, .inl f12)), ((Rf 38), .inl (cI, 8, .inl (upd f38 (0 : Int32).toNatClampNeg (-1)))), ((Rf 39), .inl (cI, 7, .inl f39)), (h, .inr (10, ML (upd (upd G 40 0) 41 0) Rf)), ((Rf 0), .inl (cI, 1302, .inl (f_m_copy f0 0 42)))] := hD
  have ex_28_w_4 : ∀ (w_4l2 : Int32) (w_4l1 : Int32) (w_4m0 : (Nat → Int32)) (w_4m1 : (Nat → Int32)) (w_4m2 : (Nat → Int32)) (w_4m3 : (Nat → Int32)) (H : Heap) (locs : List Loc) (ls : Array Slot), va_P D classes [((Rf 10), .inl (cI, 30, .inl f10)), ((Rf 8), .inl (cI, 6, .inl f8)), ((Rf 11), .inl (cI, 7, .inl f11)), ((Rf 12), .inl (cI, 7, .inl f12)), ((Rf 38), .inl (cI, 8, .inl w_4m2)), ((Rf 39), .inl (cI, 7, .inl w_4m3)), (h, .inr (10, ML w_4m0 Rf)), ((Rf 0), .inl (cI, 1302, .inl w_4m1))] H → va_D A [((Rf 10), .inl (cI, 30, .inl f10)), ((Rf 8), .inl (cI, 6, .inl f8)), ((Rf 11), .inl (cI, 7, .inl f11)), ((Rf 12), .inl (cI, 7, .inl f12)), ((Rf 38), .inl (cI, 8, .inl w_4m2)), ((Rf 39), .inl (cI, 7, .inl w_4m3)), (h, .inr (10, ML w_4m0 Rf)), ((Rf 0), .inl (cI, 1302, .inl w_4m1))] → va_S A s.heap H locs → lv_has ls 6 [(2, .int w_4l2), (1, .int w_4l1), (0, .ref h)] → (True) → (((w_4m0, w_4m1, w_4m2, w_4m3)) : (Nat → Int32) × (Nat → Int32) × (Nat → Int32) × (Nat → Int32)) = RES → W p l e rm_m_findOrder s m args below meth c H locs 0 0 Q (F0 m 289 ls []) := by
    intro w_4l2 w_4l1 w_4m0 w_4m1 w_4m2 w_4m3 H locs ls hP hD hS hl hF hE
    exact hret (w_4m0, w_4m1, w_4m2, w_4m3) _ _ _ _ dX10_findOrder_289 hE (cutP (isC := [6, 7, 0, 1, 2, 3, 4, 5]) hP rfl) (cutD (isC := [6, 7, 0, 1, 2, 3, 4, 5]) hD rfl rfl) hS
  have lp_28_w_4 : ∀ (n_w_4 : Nat) (w_4l2 : Int32) (w_4l1 : Int32) (w_4m0 : (Nat → Int32)) (w_4m1 : (Nat → Int32)) (w_4m2 : (Nat → Int32)) (w_4m3 : (Nat → Int32)) (H : Heap) (locs : List Loc) (ls : Array Slot), va_P D classes [((Rf 10), .inl (cI, 30, .inl f10)), ((Rf 8), .inl (cI, 6, .inl f8)), ((Rf 11), .inl (cI, 7, .inl f11)), ((Rf 12), .inl (cI, 7, .inl f12)), ((Rf 38), .inl (cI, 8, .inl w_4m2)), ((Rf 39), .inl (cI, 7, .inl w_4m3)), (h, .inr (10, ML w_4m0 Rf)), ((Rf 0), .inl (cI, 1302, .inl w_4m1))] H → va_D A [((Rf 10), .inl (cI, 30, .inl f10)), ((Rf 8), .inl (cI, 6, .inl f8)), ((Rf 11), .inl (cI, 7, .inl f11)), ((Rf 12), .inl (cI, 7, .inl f12)), ((Rf 38), .inl (cI, 8, .inl w_4m2)), ((Rf 39), .inl (cI, 7, .inl w_4m3)), (h, .inr (10, ML w_4m0 Rf)), ((Rf 0), .inl (cI, 1302, .inl w_4m1))] → va_S A s.heap H locs → lv_has ls 6 [(2, .int w_4l2), (1, .int w_4l1), (0, .ref h)] → (S_m_findOrder_28 f10 f8 f11 f12 (fun (w_4l2 : Int32) (w_4l1 : Int32) (w_4m0 : (Nat → Int32)) (w_4m1 : (Nat → Int32)) (w_4m2 : (Nat → Int32)) (w_4m3 : (Nat → Int32)) => True) n_w_4 w_4l2 w_4l1 w_4m0 w_4m1 w_4m2 w_4m3) → ((match ((f_m_findOrder_28 f10 f8 f11 f12 n_w_4 w_4l2 w_4l1 w_4m0 w_4m1 w_4m2 w_4m3) : Int32 × Int32 × (Nat → Int32) × (Nat → Int32) × (Nat → Int32) × (Nat → Int32)) with | (w_4l2, w_4l1, w_4m0, w_4m1, w_4m2, w_4m3) => (w_4m0, w_4m1, w_4m2, w_4m3)) : (Nat → Int32) × (Nat → Int32) × (Nat → Int32) × (Nat → Int32)) = RES → W p l e rm_m_findOrder s m args below meth c H locs 0 0 Q (F0 m 28 ls []) := by
    intro n_w_4
    induction n_w_4 with
    | zero => intro w_4l2 w_4l1 w_4m0 w_4m1 w_4m2 w_4m3 H locs ls hP hD hS hl hF hE; exact False.elim hF
    | succ n_w_4 ih_w_4 =>
      intro w_4l2 w_4l1 w_4m0 w_4m1 w_4m2 w_4m3 H locs ls hP hD hS hl hF hE
      rw [S_m_findOrder_28_s] at hF
      rw [f_m_findOrder_28_s] at hE
      refine lv_iload_n hx hb dX10_findOrder_28 rfl (lv_at hl 1 rfl) ?_
      refine lv_if_lt (tgt := 289) hx hb dX10_findOrder_29 (by decide) (fun c_5 => ?_) (fun c_5 => ?_)
      · replace hF := hF.1 c_5
        rw [if_pos c_5] at hE
        exact ex_28_w_4 w_4l2 w_4l1 w_4m0 w_4m1 w_4m2 w_4m3 _ _ ls hP hD hS (lv_sub hl [0, 1, 2] rfl) hF hE
      · replace hF := hF.2 c_5
        rw [if_neg c_5] at hE
        refine lv_bipush (v := 42) hx hb dX10_findOrder_32 (by decide) ?_
        refine lv_bipush (v := 42) hx hb dX10_findOrder_34 (by decide) ?_
        refine lv_iload_n hx hb dX10_findOrder_36 rfl (lv_at hl 1 rfl) ?_
        refine lv_imul hx hb dX10_findOrder_37 ?_
        refine lv_iadd hx hb dX10_findOrder_38 ?_
        refine lv_istore_n (lv' := [(3, .int (42 + (42 * w_4l1))), (2, .int w_4l2), (1, .int w_4l1), (0, .ref h)]) hx hb dX10_findOrder_39 rfl hl (by decide) rfl (fun ls hl => ?_)
        refine lv_aload_n hx hb dX10_findOrder_40 rfl (lv_at hl 3 rfl) ?_
        refine va_get (D := D) (ci := 10) (v := .ref (Rf 38)) (C := RX10) (T := TX10) (N := 45) hx hb hts iX10 hown hK hP 6 rfl rfl 38 (by decide) (hts _ wd_675) (fun _ h9 => h9) rfl dX10_findOrder_41 ?_
        refine lv_iload_n hx hb dX10_findOrder_44 rfl (lv_at hl 2 rfl) ?_
        refine lv_dup2_11 hx hb dX10_findOrder_45 rfl rfl ?_
        obtain ⟨hv_6, hF⟩ := hF
        refine va_iald hx hb hK hP 4 0 rfl rfl hv_6 dX10_findOrder_46 ?_
        refine lv_iconst (v := 1) hx hb dX10_findOrder_47 (by decide) ?_
        refine lv_iadd hx hb dX10_findOrder_48 ?_
        obtain ⟨hv_7, hF⟩ := hF
        refine va_iast hx hb hK hP hD hS 4 0 rfl rfl hv_7 dX10_findOrder_49 (fun H locs hP hD hS => ?_)
        have hP : va_P D classes [((Rf 10), .inl (cI, 30, .inl f10)), ((Rf 8), .inl (cI, 6, .inl f8)), ((Rf 11), .inl (cI, 7, .inl f11)), ((Rf 12), .inl (cI, 7, .inl f12)), ((Rf 38), .inl (cI, 8, .inl (upd w_4m2 (w_4l1 : Int32).toNatClampNeg ((w_4m2 (w_4l1 : Int32).toNatClampNeg) + 1)))), ((Rf 39), .inl (cI, 7, .inl w_4m3)), (h, .inr (10, ML w_4m0 Rf)), ((Rf 0), .inl (cI, 1302, .inl w_4m1))] H := hP
        have hD : va_D A [((Rf 10), .inl (cI, 30, .inl f10)), ((Rf 8), .inl (cI, 6, .inl f8)), ((Rf 11), .inl (cI, 7, .inl f11)), ((Rf 12), .inl (cI, 7, .inl f12)), ((Rf 38), .inl (cI, 8, .inl (upd w_4m2 (w_4l1 : Int32).toNatClampNeg ((w_4m2 (w_4l1 : Int32).toNatClampNeg) + 1)))), ((Rf 39), .inl (cI, 7, .inl w_4m3)), (h, .inr (10, ML w_4m0 Rf)), ((Rf 0), .inl (cI, 1302, .inl w_4m1))] := hD
        refine lv_aload_n hx hb dX10_findOrder_50 rfl (lv_at hl 3 rfl) ?_
        refine va_get (D := D) (ci := 10) (v := .ref (Rf 38)) (C := RX10) (T := TX10) (N := 45) hx hb hts iX10 hown hK hP 6 rfl rfl 38 (by decide) (hts _ wd_675) (fun _ h9 => h9) rfl dX10_findOrder_51 ?_
        refine lv_iload_n hx hb dX10_findOrder_54 rfl (lv_at hl 2 rfl) ?_
        obtain ⟨hv_8, hF⟩ := hF
        refine va_iald hx hb hK hP 4 0 rfl rfl hv_8 dX10_findOrder_55 ?_
        refine lv_aload_n hx hb dX10_findOrder_56 rfl (lv_at hl 3 rfl) ?_
        refine va_get (D := D) (ci := 10) (v := .int (w_4m0 6)) (C := RX10) (T := TX10) (N := 45) hx hb hts iX10 hown hK hP 6 rfl rfl 6 (by decide) (hts _ wd_501) (fun _ h9 => h9) rfl dX10_findOrder_57 ?_
        refine lv_icmp_eq (tgt := 69) hx hb dX10_findOrder_60 (by decide) (fun c_9 => ?_) (fun c_9 => ?_)
        · replace hF := hF.1 c_9
          rw [if_pos c_9] at hE
          refine lv_iinc (v := (w_4l1 + (-1))) (lv' := [(1, .int (w_4l1 + (-1))), (3, .int (42 + (42 * w_4l1))), (2, .int w_4l2), (0, .ref h)]) hx hb dX10_findOrder_69 hl (k := 2) rfl rfl (by decide) rfl (fun ls hl => ?_)
          refine lv_iload_n hx hb dX10_findOrder_72 rfl (lv_at hl 2 rfl) ?_
          refine lv_iload_n hx hb dX10_findOrder_73 rfl (lv_at hl 0 rfl) ?_
          refine lv_if_lt (tgt := 109) hx hb dX10_findOrder_74 (by decide) (fun c_10 => ?_) (fun c_10 => ?_)
          · replace hF := hF.1 c_10
            rw [if_pos c_10] at hE
            refine lv_iconst (v := 0) hx hb dX10_findOrder_109 (by decide) ?_
            refine lv_isub hx hb dX10_findOrder_110 ?_
            refine lv_istore_n (lv' := [(2, .int (w_4l2 - 0)), (1, .int (w_4l1 + (-1))), (3, .int (42 + (42 * w_4l1))), (0, .ref h)]) hx hb dX10_findOrder_111 rfl hl (by decide) rfl (fun ls hl => ?_)
            refine lv_goto (tgt := 286) hx hb dX10_findOrder_112 (by decide) ?_
            refine lv_goto (tgt := 28) hx hb dX10_findOrder_286 (by decide) ?_
            exact ih_w_4 (w_4l2 - 0) (w_4l1 + (-1)) w_4m0 w_4m1 (upd w_4m2 (w_4l1 : Int32).toNatClampNeg ((w_4m2 (w_4l1 : Int32).toNatClampNeg) + 1)) w_4m3 _ _ ls hP hD hS (lv_sub hl [0, 1, 3] rfl) hF hE
          · replace hF := hF.2 c_10
            rw [if_neg c_10] at hE
            refine lv_aload_n hx hb dX10_findOrder_77 rfl (lv_at hl 3 rfl) ?_
            refine va_get (D := D) (ci := 10) (v := .ref (Rf 0)) (C := RX10) (T := TX10) (N := 45) hx hb hts iX10 hown hK hP 6 rfl rfl 0 (by decide) (hts _ wd_491) (fun _ h9 => h9) rfl dX10_findOrder_78 ?_
            refine lv_bipush (v := 42) hx hb dX10_findOrder_81 (by decide) ?_
            refine lv_bipush (v := 42) hx hb dX10_findOrder_83 (by decide) ?_
            refine lv_iload_n hx hb dX10_findOrder_85 rfl (lv_at hl 0 rfl) ?_
            refine lv_iconst (v := 1) hx hb dX10_findOrder_86 (by decide) ?_
            refine lv_iadd hx hb dX10_findOrder_87 ?_
            refine lv_imul hx hb dX10_findOrder_88 ?_
            refine lv_iadd hx hb dX10_findOrder_89 ?_
            refine lv_bipush (v := 20) hx hb dX10_findOrder_90 (by decide) ?_
            refine lv_iadd hx hb dX10_findOrder_92 ?_
            refine lv_aload_n hx hb dX10_findOrder_93 rfl (lv_at hl 3 rfl) ?_
            refine va_get (D := D) (ci := 10) (v := .ref (Rf 38)) (C := RX10) (T := TX10) (N := 45) hx hb hts iX10 hown hK hP 6 rfl rfl 38 (by decide) (hts _ wd_675) (fun _ h9 => h9) rfl dX10_findOrder_94 ?_
            refine lv_iload_n hx hb dX10_findOrder_97 rfl (lv_at hl 0 rfl) ?_
            obtain ⟨hv_11, hF⟩ := hF
            refine va_iald hx hb hK hP 4 0 rfl rfl hv_11 dX10_findOrder_98 ?_
            refine lv_iadd hx hb dX10_findOrder_99 ?_
            obtain ⟨hv_12, hF⟩ := hF
            refine va_iald hx hb hK hP 7 0 rfl rfl hv_12 dX10_findOrder_100 ?_
            refine lv_iconst (v := 1) hx hb dX10_findOrder_101 (by decide) ?_
            refine lv_icmp_ne (tgt := 109) hx hb dX10_findOrder_102 (by decide) (fun c_13 => ?_) (fun c_13 => ?_)
            · replace hF := hF.2 c_13
              rw [if_neg c_13] at hE
              refine lv_iconst (v := 0) hx hb dX10_findOrder_109 (by decide) ?_
              refine lv_isub hx hb dX10_findOrder_110 ?_
              refine lv_istore_n (lv' := [(2, .int (w_4l2 - 0)), (1, .int (w_4l1 + (-1))), (3, .int (42 + (42 * w_4l1))), (0, .ref h)]) hx hb dX10_findOrder_111 rfl hl (by decide) rfl (fun ls hl => ?_)
              refine lv_goto (tgt := 286) hx hb dX10_findOrder_112 (by decide) ?_
              refine lv_goto (tgt := 28) hx hb dX10_findOrder_286 (by decide) ?_
              exact ih_w_4 (w_4l2 - 0) (w_4l1 + (-1)) w_4m0 w_4m1 (upd w_4m2 (w_4l1 : Int32).toNatClampNeg ((w_4m2 (w_4l1 : Int32).toNatClampNeg) + 1)) w_4m3 _ _ ls hP hD hS (lv_sub hl [0, 1, 3] rfl) hF hE
            · replace hF := hF.1 c_13
              rw [if_pos c_13] at hE
              refine lv_iconst (v := 1) hx hb dX10_findOrder_105 (by decide) ?_
              refine lv_goto (tgt := 110) hx hb dX10_findOrder_106 (by decide) ?_
              refine lv_isub hx hb dX10_findOrder_110 ?_
              refine lv_istore_n (lv' := [(2, .int (w_4l2 - 1)), (1, .int (w_4l1 + (-1))), (3, .int (42 + (42 * w_4l1))), (0, .ref h)]) hx hb dX10_findOrder_111 rfl hl (by decide) rfl (fun ls hl => ?_)
              refine lv_goto (tgt := 286) hx hb dX10_findOrder_112 (by decide) ?_
              refine lv_goto (tgt := 28) hx hb dX10_findOrder_286 (by decide) ?_
              exact ih_w_4 (w_4l2 - 1) (w_4l1 + (-1)) w_4m0 w_4m1 (upd w_4m2 (w_4l1 : Int32).toNatClampNeg ((w_4m2 (w_4l1 : Int32).toNatClampNeg) + 1)) w_4m3 _ _ ls hP hD hS (lv_sub hl [0, 1, 3] rfl) hF hE
        · replace hF := hF.2 c_9
          rw [if_neg c_9] at hE
          refine lv_iload_n hx hb dX10_findOrder_63 rfl (lv_at hl 2 rfl) ?_
          refine lv_bipush (v := 7) hx hb dX10_findOrder_64 (by decide) ?_
          refine lv_icmp_ne (tgt := 115) hx hb dX10_findOrder_66 (by decide) (fun c_14 => ?_) (fun c_14 => ?_)
          · replace hF := hF.2 c_14
            rw [if_neg c_14] at hE
            refine lv_aload_n hx hb dX10_findOrder_115 rfl (lv_at hl 3 rfl) ?_
            refine va_get (D := D) (ci := 10) (v := .ref (Rf 0)) (C := RX10) (T := TX10) (N := 45) hx hb hts iX10 hown hK hP 6 rfl rfl 0 (by decide) (hts _ wd_491) (fun _ h9 => h9) rfl dX10_findOrder_116 ?_
            refine lv_iload_n hx hb dX10_findOrder_119 rfl (lv_at hl 0 rfl) ?_
            refine lv_bipush (v := 20) hx hb dX10_findOrder_120 (by decide) ?_
            refine lv_iadd hx hb dX10_findOrder_122 ?_
            refine lv_aload_n hx hb dX10_findOrder_123 rfl (lv_at hl 3 rfl) ?_
            refine va_get (D := D) (ci := 10) (v := .ref (Rf 38)) (C := RX10) (T := TX10) (N := 45) hx hb hts iX10 hown hK hP 6 rfl rfl 38 (by decide) (hts _ wd_675) (fun _ h9 => h9) rfl dX10_findOrder_124 ?_
            refine lv_iload_n hx hb dX10_findOrder_127 rfl (lv_at hl 2 rfl) ?_
            obtain ⟨hv_15, hF⟩ := hF
            refine va_iald hx hb hK hP 4 0 rfl rfl hv_15 dX10_findOrder_128 ?_
            refine lv_iadd hx hb dX10_findOrder_129 ?_
            obtain ⟨hv_16, hF⟩ := hF
            refine va_iald hx hb hK hP 7 0 rfl rfl hv_16 dX10_findOrder_130 ?_
            refine lv_if_ne (tgt := 286) hx hb dX10_findOrder_131 (by decide) (fun c_17 => ?_) (fun c_17 => ?_)
            · replace hF := hF.2 c_17
              rw [if_neg c_17] at hE
              refine lv_goto (tgt := 28) hx hb dX10_findOrder_286 (by decide) ?_
              exact ih_w_4 w_4l2 w_4l1 w_4m0 w_4m1 (upd w_4m2 (w_4l1 : Int32).toNatClampNeg ((w_4m2 (w_4l1 : Int32).toNatClampNeg) + 1)) w_4m3 _ _ ls hP hD hS (lv_sub hl [1, 2, 3] rfl) hF hE
            · replace hF := hF.1 c_17
              rw [if_pos c_17] at hE
              refine lv_iload_n hx hb dX10_findOrder_134 rfl (lv_at hl 0 rfl) ?_
              refine lv_bipush (v := 42) hx hb dX10_findOrder_135 (by decide) ?_
              refine lv_iadd hx hb dX10_findOrder_137 ?_
              refine lv_istore (lv' := [(4, .int ((42 + (42 * w_4l1)) + 42)), (3, .int (42 + (42 * w_4l1))), (2, .int w_4l2), (1, .int w_4l1), (0, .ref h)]) hx hb dX10_findOrder_138 hl (by decide) rfl (fun ls hl => ?_)
              refine lv_aload_n hx hb dX10_findOrder_140 rfl (lv_at hl 4 rfl) ?_
              refine lv_iload_n hx hb dX10_findOrder_141 rfl (lv_at hl 1 rfl) ?_
              refine lv_iload hx hb dX10_findOrder_142 (lv_at hl 0 rfl) ?_
              obtain ⟨hs_18, hF⟩ := hF
              refine cVv (wr := [((Rf 10), .inl (cI, 30, .inl f10)), ((Rf 8), .inl (cI, 6, .inl f8)), ((Rf 11), .inl (cI, 7, .inl f11)), ((Rf 12), .inl (cI, 7, .inl f12)), ((Rf 38), .inl (cI, 8, .inl (upd w_4m2 (w_4l1 : Int32).toNatClampNeg ((w_4m2 (w_4l1 : Int32).toNatClampNeg) + 1)))), ((Rf 39), .inl (cI, 7, .inl w_4m3))]) (rest := []) (m_copy Rf h w_4m0 w_4m1 (42 + (42 * w_4l1)) ((42 + (42 * w_4l1)) + 42) hs_18) okV_X10_copy wd_557 hx hb hml hown hts hK hP hD hS hA hN hl.1 [6, 7] [0, 1, 2, 3, 4, 5] rfl rfl rfl rfl (by decide) rfl rfl rfl (Nat.le_of_ble_eq_true rfl) (Nat.le_of_ble_eq_true rfl) (Nat.le_of_ble_eq_true rfl) (Nat.le_of_ble_eq_true rfl) (Nat.le_of_ble_eq_true rfl) dX10_findOrder_144 (fun u_19 H locs hw_u_19 hP hD hS => ?_)
              replace hw_u_19 : u_19 = (f_m_copy w_4m1 (42 + (42 * w_4l1)) ((42 + (42 * w_4l1)) + 42)) := hw_u_19
              subst hw_u_19
              have hP : va_P D classes [((Rf 10), .inl (cI, 30, .inl f10)), ((Rf 8), .inl (cI, 6, .inl f8)), ((Rf 11), .inl (cI, 7, .inl f11)), ((Rf 12), .inl (cI, 7, .inl f12)), ((Rf 38), .inl (cI, 8, .inl (upd w_4m2 (w_4l1 : Int32).toNatClampNeg ((w_4m2 (w_4l1 : Int32).toNatClampNeg) + 1)))), ((Rf 39), .inl (cI, 7, .inl w_4m3)), (h, .inr (10, ML w_4m0 Rf)), ((Rf 0), .inl (cI, 1302, .inl (f_m_copy w_4m1 (42 + (42 * w_4l1)) ((42 + (42 * w_4l1)) + 42))))] H := hP
              have hD : va_D A [((Rf 10), .inl (cI, 30, .inl f10)), ((Rf 8), .inl (cI, 6, .inl f8)), ((Rf 11), .inl (cI, 7, .inl f11)), ((Rf 12), .inl (cI, 7, .inl f12)), ((Rf 38), .inl (cI, 8, .inl (upd w_4m2 (w_4l1 : Int32).toNatClampNeg ((w_4m2 (w_4l1 : Int32).toNatClampNeg) + 1)))), ((Rf 39), .inl (cI, 7, .inl w_4m3)), (h, .inr (10, ML w_4m0 Rf)), ((Rf 0), .inl (cI, 1302, .inl (f_m_copy w_4m1 (42 + (42 * w_4l1)) ((42 + (42 * w_4l1)) + 42))))] := hD
              refine lv_aload_n hx hb dX10_findOrder_147 rfl (lv_at hl 4 rfl) ?_
              refine lv_iload hx hb dX10_findOrder_148 (lv_at hl 0 rfl) ?_
              refine lv_aload_n hx hb dX10_findOrder_150 rfl (lv_at hl 4 rfl) ?_
              refine va_get (D := D) (ci := 10) (v := .ref (Rf 38)) (C := RX10) (T := TX10) (N := 45) hx hb hts iX10 hown hK hP 6 rfl rfl 38 (by decide) (hts _ wd_675) (fun _ h9 => h9) rfl dX10_findOrder_151 ?_
              refine lv_iload_n hx hb dX10_findOrder_154 rfl (lv_at hl 3 rfl) ?_
              obtain ⟨hv_21, hF⟩ := hF
              refine va_iald hx hb hK hP 4 0 rfl rfl hv_21 dX10_findOrder_155 ?_
              obtain ⟨hs_22, hF⟩ := hF
              refine cVv (wr := [((Rf 38), .inl (cI, 8, .inl (upd w_4m2 (w_4l1 : Int32).toNatClampNeg ((w_4m2 (w_4l1 : Int32).toNatClampNeg) + 1)))), ((Rf 39), .inl (cI, 7, .inl w_4m3))]) (rest := []) (m_passes Rf h w_4m0 (f_m_copy w_4m1 (42 + (42 * w_4l1)) ((42 + (42 * w_4l1)) + 42)) f10 f8 f11 f12 ((42 + (42 * w_4l1)) + 42) ((upd w_4m2 (w_4l1 : Int32).toNatClampNeg ((w_4m2 (w_4l1 : Int32).toNatClampNeg) + 1)) (w_4l1 : Int32).toNatClampNeg) hs_22) okV_X10_passes wd_668 hx hb hml hown hts hK hP hD hS hA hN hl.1 [6, 7, 0, 1, 2, 3] [4, 5] rfl rfl rfl rfl (by decide) rfl rfl rfl (Nat.le_of_ble_eq_true rfl) (Nat.le_of_ble_eq_true rfl) (Nat.le_of_ble_eq_true rfl) (Nat.le_of_ble_eq_true rfl) (Nat.le_of_ble_eq_true rfl) dX10_findOrder_156 (fun u_23 H locs hw_u_23 hP hD hS => ?_)
              obtain ⟨o_25, o_26⟩ := u_23
              replace hw_u_23 : (o_25, o_26) = (f_m_passes w_4m0 (f_m_copy w_4m1 (42 + (42 * w_4l1)) ((42 + (42 * w_4l1)) + 42)) f10 f8 f11 f12 ((42 + (42 * w_4l1)) + 42) ((upd w_4m2 (w_4l1 : Int32).toNatClampNeg ((w_4m2 (w_4l1 : Int32).toNatClampNeg) + 1)) (w_4l1 : Int32).toNatClampNeg)) := hw_u_23
              replace hF := hF o_25 o_26 hw_u_23
              rw [← hw_u_23] at hE
              replace hE : ((match ((if (o_26 (((((42 + (42 * w_4l1)) + 42) + 20) + ((upd w_4m2 (w_4l1 : Int32).toNatClampNeg ((w_4m2 (w_4l1 : Int32).toNatClampNeg) + 1)) (w_4l1 : Int32).toNatClampNeg)) : Int32).toNatClampNeg) = 3 then (f_m_findOrder_28 f10 f8 f11 f12 n_w_4 w_4l2 w_4l1 o_25 o_26 (upd w_4m2 (w_4l1 : Int32).toNatClampNeg ((w_4m2 (w_4l1 : Int32).toNatClampNeg) + 1)) w_4m3) else (if (o_26 ((((42 + (42 * w_4l1)) + 42) + 18) : Int32).toNatClampNeg) = (o_26 (18 : Int32).toNatClampNeg) then (if (o_26 (((((42 + (42 * w_4l1)) + 42) + 20) + ((upd w_4m2 (w_4l1 : Int32).toNatClampNeg ((w_4m2 (w_4l1 : Int32).toNatClampNeg) + 1)) (w_4l1 : Int32).toNatClampNeg)) : Int32).toNatClampNeg) = 1 then (if (w_4l2 + 1) ≤ (o_25 41) then (f_m_findOrder_28 f10 f8 f11 f12 n_w_4 (w_4l2 + 1) (w_4l1 + 1) o_25 o_26 (upd (upd w_4m2 (w_4l1 : Int32).toNatClampNeg ((w_4m2 (w_4l1 : Int32).toNatClampNeg) + 1)) ((w_4l1 + 1) : Int32).toNatClampNeg (-1)) w_4m3) else (match ((f_m_findOrder_253 w_4l1 10 0 (upd (upd o_25 41 (w_4l2 + 1)) 40 (w_4l1 + 1)) o_26 (upd w_4m2 (w_4l1 : Int32).toNatClampNeg ((w_4m2 (w_4l1 : Int32).toNatClampNeg) + 1)) w_4m3) : Int32 × (Nat → Int32) × (Nat → Int32) × (Nat → Int32) × (Nat → Int32)) with | (w_44l5, w_44m0, w_44m1, w_44m2, w_44m3) => (f_m_findOrder_28 f10 f8 f11 f12 n_w_4 (w_4l2 + 1) (w_4l1 + 1) w_44m0 w_44m1 (upd w_44m2 ((w_4l1 + 1) : Int32).toNatClampNeg (-1)) w_44m3))) else (if (w_4l2 + 0) ≤ (o_25 41) then (f_m_findOrder_28 f10 f8 f11 f12 n_w_4 (w_4l2 + 0) (w_4l1 + 1) o_25 o_26 (upd (upd w_4m2 (w_4l1 : Int32).toNatClampNeg ((w_4m2 (w_4l1 : Int32).toNatClampNeg) + 1)) ((w_4l1 + 1) : Int32).toNatClampNeg (-1)) w_4m3) else (match ((f_m_findOrder_253 w_4l1 10 0 (upd (upd o_25 41 (w_4l2 + 0)) 40 (w_4l1 + 1)) o_26 (upd w_4m2 (w_4l1 : Int32).toNatClampNeg ((w_4m2 (w_4l1 : Int32).toNatClampNeg) + 1)) w_4m3) : Int32 × (Nat → Int32) × (Nat → Int32) × (Nat → Int32) × (Nat → Int32)) with | (w_37l5, w_37m0, w_37m1, w_37m2, w_37m3) => (f_m_findOrder_28 f10 f8 f11 f12 n_w_4 (w_4l2 + 0) (w_4l1 + 1) w_37m0 w_37m1 (upd w_37m2 ((w_4l1 + 1) : Int32).toNatClampNeg (-1)) w_37m3)))) else (f_m_findOrder_28 f10 f8 f11 f12 n_w_4 w_4l2 w_4l1 o_25 o_26 (upd w_4m2 (w_4l1 : Int32).toNatClampNeg ((w_4m2 (w_4l1 : Int32).toNatClampNeg) + 1)) w_4m3))) : Int32 × Int32 × (Nat → Int32) × (Nat → Int32) × (Nat → Int32) × (Nat → Int32)) with | (w_4l2, w_4l1, w_4m0, w_4m1, w_4m2, w_4m3) => (w_4m0, w_4m1, w_4m2, w_4m3)) : (Nat → Int32) × (Nat → Int32) × (Nat → Int32) × (Nat → Int32)) = RES := hE
              have hP : va_P D classes [((Rf 38), .inl (cI, 8, .inl (upd w_4m2 (w_4l1 : Int32).toNatClampNeg ((w_4m2 (w_4l1 : Int32).toNatClampNeg) + 1)))), ((Rf 39), .inl (cI, 7, .inl w_4m3)), (h, .inr (10, ML o_25 Rf)), ((Rf 0), .inl (cI, 1302, .inl o_26)), ((Rf 10), .inl (cI, 30, .inl f10)), ((Rf 8), .inl (cI, 6, .inl f8)), ((Rf 11), .inl (cI, 7, .inl f11)), ((Rf 12), .inl (cI, 7, .inl f12))] H := hP
              have hD : va_D A [((Rf 38), .inl (cI, 8, .inl (upd w_4m2 (w_4l1 : Int32).toNatClampNeg ((w_4m2 (w_4l1 : Int32).toNatClampNeg) + 1)))), ((Rf 39), .inl (cI, 7, .inl w_4m3)), (h, .inr (10, ML o_25 Rf)), ((Rf 0), .inl (cI, 1302, .inl o_26)), ((Rf 10), .inl (cI, 30, .inl f10)), ((Rf 8), .inl (cI, 6, .inl f8)), ((Rf 11), .inl (cI, 7, .inl f11)), ((Rf 12), .inl (cI, 7, .inl f12))] := hD
              refine lv_aload_n hx hb dX10_findOrder_159 rfl (lv_at hl 4 rfl) ?_
              refine va_get (D := D) (ci := 10) (v := .ref (Rf 0)) (C := RX10) (T := TX10) (N := 45) hx hb hts iX10 hown hK hP 2 rfl rfl 0 (by decide) (hts _ wd_491) (fun _ h9 => h9) rfl dX10_findOrder_160 ?_
              refine lv_iload hx hb dX10_findOrder_163 (lv_at hl 0 rfl) ?_
              refine lv_bipush (v := 20) hx hb dX10_findOrder_165 (by decide) ?_
              refine lv_iadd hx hb dX10_findOrder_167 ?_
              refine lv_aload_n hx hb dX10_findOrder_168 rfl (lv_at hl 4 rfl) ?_
              refine va_get (D := D) (ci := 10) (v := .ref (Rf 38)) (C := RX10) (T := TX10) (N := 45) hx hb hts iX10 hown hK hP 2 rfl rfl 38 (by decide) (hts _ wd_675) (fun _ h9 => h9) rfl dX10_findOrder_169 ?_
              refine lv_iload_n hx hb dX10_findOrder_172 rfl (lv_at hl 3 rfl) ?_
              obtain ⟨hv_27, hF⟩ := hF
              refine va_iald hx hb hK hP 0 0 rfl rfl hv_27 dX10_findOrder_173 ?_
              refine lv_iadd hx hb dX10_findOrder_174 ?_
              obtain ⟨hv_28, hF⟩ := hF
              refine va_iald hx hb hK hP 3 0 rfl rfl hv_28 dX10_findOrder_175 ?_
              refine lv_iconst (v := 3) hx hb dX10_findOrder_176 (by decide) ?_
              refine lv_icmp_eq (tgt := 286) hx hb dX10_findOrder_177 (by decide) (fun c_29 => ?_) (fun c_29 => ?_)
              · replace hF := hF.1 c_29
                rw [if_pos c_29] at hE
                refine lv_goto (tgt := 28) hx hb dX10_findOrder_286 (by decide) ?_
                exact ih_w_4 w_4l2 w_4l1 o_25 o_26 (upd w_4m2 (w_4l1 : Int32).toNatClampNeg ((w_4m2 (w_4l1 : Int32).toNatClampNeg) + 1)) w_4m3 _ _ ls (cutP (isC := [4, 5, 6, 7, 0, 1, 2, 3]) hP rfl) (cutD (isC := [4, 5, 6, 7, 0, 1, 2, 3]) hD rfl rfl) hS (lv_sub hl [2, 3, 4] rfl) hF hE
              · replace hF := hF.2 c_29
                rw [if_neg c_29] at hE
                refine lv_aload_n hx hb dX10_findOrder_180 rfl (lv_at hl 4 rfl) ?_
                refine va_get (D := D) (ci := 10) (v := .ref (Rf 0)) (C := RX10) (T := TX10) (N := 45) hx hb hts iX10 hown hK hP 2 rfl rfl 0 (by decide) (hts _ wd_491) (fun _ h9 => h9) rfl dX10_findOrder_181 ?_
                refine lv_iload hx hb dX10_findOrder_184 (lv_at hl 0 rfl) ?_
                refine lv_bipush (v := 18) hx hb dX10_findOrder_186 (by decide) ?_
                refine lv_iadd hx hb dX10_findOrder_188 ?_
                obtain ⟨hv_30, hF⟩ := hF
                refine va_iald hx hb hK hP 3 0 rfl rfl hv_30 dX10_findOrder_189 ?_
                refine lv_aload_n hx hb dX10_findOrder_190 rfl (lv_at hl 4 rfl) ?_
                refine va_get (D := D) (ci := 10) (v := .ref (Rf 0)) (C := RX10) (T := TX10) (N := 45) hx hb hts iX10 hown hK hP 2 rfl rfl 0 (by decide) (hts _ wd_491) (fun _ h9 => h9) rfl dX10_findOrder_191 ?_
                refine lv_bipush (v := 18) hx hb dX10_findOrder_194 (by decide) ?_
                refine va_iald hx hb hK hP 3 0 rfl rfl (show ¬ ((18 : Int32) < 0 ∨ 1302 ≤ (18 : Int32).toNatClampNeg) by decide +kernel) dX10_findOrder_196 ?_
                refine lv_icmp_ne (tgt := 286) hx hb dX10_findOrder_197 (by decide) (fun c_31 => ?_) (fun c_31 => ?_)
                · replace hF := hF.2 c_31
                  rw [if_neg c_31] at hE
                  refine lv_goto (tgt := 28) hx hb dX10_findOrder_286 (by decide) ?_
                  exact ih_w_4 w_4l2 w_4l1 o_25 o_26 (upd w_4m2 (w_4l1 : Int32).toNatClampNeg ((w_4m2 (w_4l1 : Int32).toNatClampNeg) + 1)) w_4m3 _ _ ls (cutP (isC := [4, 5, 6, 7, 0, 1, 2, 3]) hP rfl) (cutD (isC := [4, 5, 6, 7, 0, 1, 2, 3]) hD rfl rfl) hS (lv_sub hl [2, 3, 4] rfl) hF hE
                · replace hF := hF.1 c_31
                  rw [if_pos c_31] at hE
                  refine lv_iload_n hx hb dX10_findOrder_200 rfl (lv_at hl 2 rfl) ?_
                  refine lv_aload_n hx hb dX10_findOrder_201 rfl (lv_at hl 4 rfl) ?_
                  refine va_get (D := D) (ci := 10) (v := .ref (Rf 0)) (C := RX10) (T := TX10) (N := 45) hx hb hts iX10 hown hK hP 2 rfl rfl 0 (by decide) (hts _ wd_491) (fun _ h9 => h9) rfl dX10_findOrder_202 ?_
                  refine lv_iload hx hb dX10_findOrder_205 (lv_at hl 0 rfl) ?_
                  refine lv_bipush (v := 20) hx hb dX10_findOrder_207 (by decide) ?_
                  refine lv_iadd hx hb dX10_findOrder_209 ?_
                  refine lv_aload_n hx hb dX10_findOrder_210 rfl (lv_at hl 4 rfl) ?_
                  refine va_get (D := D) (ci := 10) (v := .ref (Rf 38)) (C := RX10) (T := TX10) (N := 45) hx hb hts iX10 hown hK hP 2 rfl rfl 38 (by decide) (hts _ wd_675) (fun _ h9 => h9) rfl dX10_findOrder_211 ?_
                  refine lv_iload_n hx hb dX10_findOrder_214 rfl (lv_at hl 3 rfl) ?_
                  obtain ⟨hv_32, hF⟩ := hF
                  refine va_iald hx hb hK hP 0 0 rfl rfl hv_32 dX10_findOrder_215 ?_
                  refine lv_iadd hx hb dX10_findOrder_216 ?_
                  obtain ⟨hv_33, hF⟩ := hF
                  refine va_iald hx hb hK hP 3 0 rfl rfl hv_33 dX10_findOrder_217 ?_
                  refine lv_iconst (v := 1) hx hb dX10_findOrder_218 (by decide) ?_
                  refine lv_icmp_ne (tgt := 226) hx hb dX10_findOrder_219 (by decide) (fun c_34 => ?_) (fun c_34 => ?_)
                  · replace hF := hF.2 c_34
                    rw [if_neg c_34] at hE
                    refine lv_iconst (v := 0) hx hb dX10_findOrder_226 (by decide) ?_
                    refine lv_iadd hx hb dX10_findOrder_227 ?_
                    refine lv_istore_n (lv' := [(2, .int (w_4l2 + 0)), (4, .int ((42 + (42 * w_4l1)) + 42)), (3, .int (42 + (42 * w_4l1))), (1, .int w_4l1), (0, .ref h)]) hx hb dX10_findOrder_228 rfl hl (by decide) rfl (fun ls hl => ?_)
                    refine lv_iinc (v := (w_4l1 + 1)) (lv' := [(1, .int (w_4l1 + 1)), (2, .int (w_4l2 + 0)), (4, .int ((42 + (42 * w_4l1)) + 42)), (3, .int (42 + (42 * w_4l1))), (0, .ref h)]) hx hb dX10_findOrder_229 hl (k := 3) rfl rfl (by decide) rfl (fun ls hl => ?_)
                    refine lv_iload_n hx hb dX10_findOrder_232 rfl (lv_at hl 1 rfl) ?_
                    refine lv_aload_n hx hb dX10_findOrder_233 rfl (lv_at hl 4 rfl) ?_
                    refine va_get (D := D) (ci := 10) (v := .int (o_25 41)) (C := RX10) (T := TX10) (N := 45) hx hb hts iX10 hown hK hP 2 rfl rfl 41 (by decide) (hts _ wd_674) (fun _ h9 => h9) rfl dX10_findOrder_234 ?_
                    refine lv_icmp_le (tgt := 279) hx hb dX10_findOrder_237 (by decide) (fun c_35 => ?_) (fun c_35 => ?_)
                    · replace hF := hF.1 c_35
                      rw [if_pos c_35] at hE
                      refine lv_aload_n hx hb dX10_findOrder_279 rfl (lv_at hl 4 rfl) ?_
                      refine va_get (D := D) (ci := 10) (v := .ref (Rf 38)) (C := RX10) (T := TX10) (N := 45) hx hb hts iX10 hown hK hP 2 rfl rfl 38 (by decide) (hts _ wd_675) (fun _ h9 => h9) rfl dX10_findOrder_280 ?_
                      refine lv_iload_n hx hb dX10_findOrder_283 rfl (lv_at hl 0 rfl) ?_
                      refine lv_iconst (v := (-1)) hx hb dX10_findOrder_284 (by decide) ?_
                      obtain ⟨hv_36, hF⟩ := hF
                      refine va_iast hx hb hK hP hD hS 0 0 rfl rfl hv_36 dX10_findOrder_285 (fun H locs hP hD hS => ?_)
                      have hP : va_P D classes [((Rf 38), .inl (cI, 8, .inl (upd (upd w_4m2 (w_4l1 : Int32).toNatClampNeg ((w_4m2 (w_4l1 : Int32).toNatClampNeg) + 1)) ((w_4l1 + 1) : Int32).toNatClampNeg (-1)))), ((Rf 39), .inl (cI, 7, .inl w_4m3)), (h, .inr (10, ML o_25 Rf)), ((Rf 0), .inl (cI, 1302, .inl o_26)), ((Rf 10), .inl (cI, 30, .inl f10)), ((Rf 8), .inl (cI, 6, .inl f8)), ((Rf 11), .inl (cI, 7, .inl f11)), ((Rf 12), .inl (cI, 7, .inl f12))] H := hP
                      have hD : va_D A [((Rf 38), .inl (cI, 8, .inl (upd (upd w_4m2 (w_4l1 : Int32).toNatClampNeg ((w_4m2 (w_4l1 : Int32).toNatClampNeg) + 1)) ((w_4l1 + 1) : Int32).toNatClampNeg (-1)))), ((Rf 39), .inl (cI, 7, .inl w_4m3)), (h, .inr (10, ML o_25 Rf)), ((Rf 0), .inl (cI, 1302, .inl o_26)), ((Rf 10), .inl (cI, 30, .inl f10)), ((Rf 8), .inl (cI, 6, .inl f8)), ((Rf 11), .inl (cI, 7, .inl f11)), ((Rf 12), .inl (cI, 7, .inl f12))] := hD
                      refine lv_goto (tgt := 28) hx hb dX10_findOrder_286 (by decide) ?_
                      exact ih_w_4 (w_4l2 + 0) (w_4l1 + 1) o_25 o_26 (upd (upd w_4m2 (w_4l1 : Int32).toNatClampNeg ((w_4m2 (w_4l1 : Int32).toNatClampNeg) + 1)) ((w_4l1 + 1) : Int32).toNatClampNeg (-1)) w_4m3 _ _ ls (cutP (isC := [4, 5, 6, 7, 0, 1, 2, 3]) hP rfl) (cutD (isC := [4, 5, 6, 7, 0, 1, 2, 3]) hD rfl rfl) hS (lv_sub hl [1, 0, 4] rfl) hF hE
                    · replace hF := hF.2 c_35
                      rw [if_neg c_35] at hE
                      refine lv_aload_n hx hb dX10_findOrder_240 rfl (lv_at hl 4 rfl) ?_
                      refine lv_iload_n hx hb dX10_findOrder_241 rfl (lv_at hl 1 rfl) ?_
                      refine va_put (D := D) (ci := 10) (v := .int (w_4l2 + 0)) (ty := .int) (C := RX10) (T := TX10) (N := 45) hx hb hts iX10 tyX10 tyX10_ok nmX10 hown hK hP hD hS 2 rfl rfl 41 (by decide) (hts _ wd_674) (fun _ h9 => h9) rfl (by decide +kernel) rfl rfl (Nat.le_of_ble_eq_true rfl) dX10_findOrder_242 (fun H locs hP hD hS => ?_)
                      have hP : va_P D classes [((Rf 38), .inl (cI, 8, .inl (upd w_4m2 (w_4l1 : Int32).toNatClampNeg ((w_4m2 (w_4l1 : Int32).toNatClampNeg) + 1)))), ((Rf 39), .inl (cI, 7, .inl w_4m3)), (h, .inr (10, ML (upd o_25 41 (w_4l2 + 0)) Rf)), ((Rf 0), .inl (cI, 1302, .inl o_26)), ((Rf 10), .inl (cI, 30, .inl f10)), ((Rf 8), .inl (cI, 6, .inl f8)), ((Rf 11), .inl (cI, 7, .inl f11)), ((Rf 12), .inl (cI, 7, .inl f12))] H := hP
                      have hD : va_D A [((Rf 38), .inl (cI, 8, .inl (upd w_4m2 (w_4l1 : Int32).toNatClampNeg ((w_4m2 (w_4l1 : Int32).toNatClampNeg) + 1)))), ((Rf 39), .inl (cI, 7, .inl w_4m3)), (h, .inr (10, ML (upd o_25 41 (w_4l2 + 0)) Rf)), ((Rf 0), .inl (cI, 1302, .inl o_26)), ((Rf 10), .inl (cI, 30, .inl f10)), ((Rf 8), .inl (cI, 6, .inl f8)), ((Rf 11), .inl (cI, 7, .inl f11)), ((Rf 12), .inl (cI, 7, .inl f12))] := hD
                      refine lv_aload_n hx hb dX10_findOrder_245 rfl (lv_at hl 4 rfl) ?_
                      refine lv_iload_n hx hb dX10_findOrder_246 rfl (lv_at hl 0 rfl) ?_
                      refine va_put (D := D) (ci := 10) (v := .int (w_4l1 + 1)) (ty := .int) (C := RX10) (T := TX10) (N := 45) hx hb hts iX10 tyX10 tyX10_ok nmX10 hown hK hP hD hS 2 rfl rfl 40 (by decide) (hts _ wd_673) (fun _ h9 => h9) rfl (by decide +kernel) rfl rfl (Nat.le_of_ble_eq_true rfl) dX10_findOrder_247 (fun H locs hP hD hS => ?_)
                      have hP : va_P D classes [((Rf 38), .inl (cI, 8, .inl (upd w_4m2 (w_4l1 : Int32).toNatClampNeg ((w_4m2 (w_4l1 : Int32).toNatClampNeg) + 1)))), ((Rf 39), .inl (cI, 7, .inl w_4m3)), (h, .inr (10, ML (upd (upd o_25 41 (w_4l2 + 0)) 40 (w_4l1 + 1)) Rf)), ((Rf 0), .inl (cI, 1302, .inl o_26)), ((Rf 10), .inl (cI, 30, .inl f10)), ((Rf 8), .inl (cI, 6, .inl f8)), ((Rf 11), .inl (cI, 7, .inl f11)), ((Rf 12), .inl (cI, 7, .inl f12))] H := hP
                      have hD : va_D A [((Rf 38), .inl (cI, 8, .inl (upd w_4m2 (w_4l1 : Int32).toNatClampNeg ((w_4m2 (w_4l1 : Int32).toNatClampNeg) + 1)))), ((Rf 39), .inl (cI, 7, .inl w_4m3)), (h, .inr (10, ML (upd (upd o_25 41 (w_4l2 + 0)) 40 (w_4l1 + 1)) Rf)), ((Rf 0), .inl (cI, 1302, .inl o_26)), ((Rf 10), .inl (cI, 30, .inl f10)), ((Rf 8), .inl (cI, 6, .inl f8)), ((Rf 11), .inl (cI, 7, .inl f11)), ((Rf 12), .inl (cI, 7, .inl f12))] := hD
                      refine lv_iconst (v := 0) hx hb dX10_findOrder_250 (by decide) ?_
                      refine lv_istore (lv' := [(5, .int 0), (1, .int (w_4l1 + 1)), (2, .int (w_4l2 + 0)), (4, .int ((42 + (42 * w_4l1)) + 42)), (3, .int (42 + (42 * w_4l1))), (0, .ref h)]) hx hb dX10_findOrder_251 hl (by decide) rfl (fun ls hl => ?_)
                      have ex_253_w_37 : ∀ (w_37l5 : Int32) (w_37m0 : (Nat → Int32)) (w_37m1 : (Nat → Int32)) (w_37m2 : (Nat → Int32)) (w_37m3 : (Nat → Int32)) (H : Heap) (locs : List Loc) (ls : Array Slot), va_P D classes [((Rf 38), .inl (cI, 8, .inl w_37m2)), ((Rf 39), .inl (cI, 7, .inl w_37m3)), (h, .inr (10, ML w_37m0 Rf)), ((Rf 0), .inl (cI, 1302, .inl w_37m1)), ((Rf 10), .inl (cI, 30, .inl f10)), ((Rf 8), .inl (cI, 6, .inl f8)), ((Rf 11), .inl (cI, 7, .inl f11)), ((Rf 12), .inl (cI, 7, .inl f12))] H → va_D A [((Rf 38), .inl (cI, 8, .inl w_37m2)), ((Rf 39), .inl (cI, 7, .inl w_37m3)), (h, .inr (10, ML w_37m0 Rf)), ((Rf 0), .inl (cI, 1302, .inl w_37m1)), ((Rf 10), .inl (cI, 30, .inl f10)), ((Rf 8), .inl (cI, 6, .inl f8)), ((Rf 11), .inl (cI, 7, .inl f11)), ((Rf 12), .inl (cI, 7, .inl f12))] → va_S A s.heap H locs → lv_has ls 6 [(5, .int w_37l5), (1, .int (w_4l1 + 1)), (2, .int (w_4l2 + 0)), (4, .int ((42 + (42 * w_4l1)) + 42)), (3, .int (42 + (42 * w_4l1))), (0, .ref h)] → ((vp_in (w_4l1 + 1) 8 ∧ (S_m_findOrder_28 f10 f8 f11 f12 (fun (w_4l2 : Int32) (w_4l1 : Int32) (w_4m0 : (Nat → Int32)) (w_4m1 : (Nat → Int32)) (w_4m2 : (Nat → Int32)) (w_4m3 : (Nat → Int32)) => True) n_w_4 (w_4l2 + 0) (w_4l1 + 1) w_37m0 w_37m1 (upd w_37m2 ((w_4l1 + 1) : Int32).toNatClampNeg (-1)) w_37m3))) → (((match ((f_m_findOrder_28 f10 f8 f11 f12 n_w_4 (w_4l2 + 0) (w_4l1 + 1) w_37m0 w_37m1 (upd w_37m2 ((w_4l1 + 1) : Int32).toNatClampNeg (-1)) w_37m3) : Int32 × Int32 × (Nat → Int32) × (Nat → Int32) × (Nat → Int32) × (Nat → Int32)) with | (w_4l2, w_4l1, w_4m0, w_4m1, w_4m2, w_4m3) => (w_4m0, w_4m1, w_4m2, w_4m3))) : (Nat → Int32) × (Nat → Int32) × (Nat → Int32) × (Nat → Int32)) = RES → W p l e rm_m_findOrder s m args below meth c H locs 0 0 Q (F0 m 279 ls []) := by
                        intro w_37l5 w_37m0 w_37m1 w_37m2 w_37m3 H locs ls hP hD hS hl hF hE
                        refine lv_aload_n hx hb dX10_findOrder_279 rfl (lv_at hl 5 rfl) ?_
                        refine va_get (D := D) (ci := 10) (v := .ref (Rf 38)) (C := RX10) (T := TX10) (N := 45) hx hb hts iX10 hown hK hP 2 rfl rfl 38 (by decide) (hts _ wd_675) (fun _ h9 => h9) rfl dX10_findOrder_280 ?_
                        refine lv_iload_n hx hb dX10_findOrder_283 rfl (lv_at hl 1 rfl) ?_
                        refine lv_iconst (v := (-1)) hx hb dX10_findOrder_284 (by decide) ?_
                        obtain ⟨hv_38, hF⟩ := hF
                        refine va_iast hx hb hK hP hD hS 0 0 rfl rfl hv_38 dX10_findOrder_285 (fun H locs hP hD hS => ?_)
                        have hP : va_P D classes [((Rf 38), .inl (cI, 8, .inl (upd w_37m2 ((w_4l1 + 1) : Int32).toNatClampNeg (-1)))), ((Rf 39), .inl (cI, 7, .inl w_37m3)), (h, .inr (10, ML w_37m0 Rf)), ((Rf 0), .inl (cI, 1302, .inl w_37m1)), ((Rf 10), .inl (cI, 30, .inl f10)), ((Rf 8), .inl (cI, 6, .inl f8)), ((Rf 11), .inl (cI, 7, .inl f11)), ((Rf 12), .inl (cI, 7, .inl f12))] H := hP
                        have hD : va_D A [((Rf 38), .inl (cI, 8, .inl (upd w_37m2 ((w_4l1 + 1) : Int32).toNatClampNeg (-1)))), ((Rf 39), .inl (cI, 7, .inl w_37m3)), (h, .inr (10, ML w_37m0 Rf)), ((Rf 0), .inl (cI, 1302, .inl w_37m1)), ((Rf 10), .inl (cI, 30, .inl f10)), ((Rf 8), .inl (cI, 6, .inl f8)), ((Rf 11), .inl (cI, 7, .inl f11)), ((Rf 12), .inl (cI, 7, .inl f12))] := hD
                        refine lv_goto (tgt := 28) hx hb dX10_findOrder_286 (by decide) ?_
                        exact ih_w_4 (w_4l2 + 0) (w_4l1 + 1) w_37m0 w_37m1 (upd w_37m2 ((w_4l1 + 1) : Int32).toNatClampNeg (-1)) w_37m3 _ _ ls (cutP (isC := [4, 5, 6, 7, 0, 1, 2, 3]) hP rfl) (cutD (isC := [4, 5, 6, 7, 0, 1, 2, 3]) hD rfl rfl) hS (lv_sub hl [2, 1, 5] rfl) hF hE
                      have lp_253_w_37 : ∀ (n_w_37 : Nat) (w_37l5 : Int32) (w_37m0 : (Nat → Int32)) (w_37m1 : (Nat → Int32)) (w_37m2 : (Nat → Int32)) (w_37m3 : (Nat → Int32)) (H : Heap) (locs : List Loc) (ls : Array Slot), va_P D classes [((Rf 38), .inl (cI, 8, .inl w_37m2)), ((Rf 39), .inl (cI, 7, .inl w_37m3)), (h, .inr (10, ML w_37m0 Rf)), ((Rf 0), .inl (cI, 1302, .inl w_37m1)), ((Rf 10), .inl (cI, 30, .inl f10)), ((Rf 8), .inl (cI, 6, .inl f8)), ((Rf 11), .inl (cI, 7, .inl f11)), ((Rf 12), .inl (cI, 7, .inl f12))] H → va_D A [((Rf 38), .inl (cI, 8, .inl w_37m2)), ((Rf 39), .inl (cI, 7, .inl w_37m3)), (h, .inr (10, ML w_37m0 Rf)), ((Rf 0), .inl (cI, 1302, .inl w_37m1)), ((Rf 10), .inl (cI, 30, .inl f10)), ((Rf 8), .inl (cI, 6, .inl f8)), ((Rf 11), .inl (cI, 7, .inl f11)), ((Rf 12), .inl (cI, 7, .inl f12))] → va_S A s.heap H locs → lv_has ls 6 [(5, .int w_37l5), (1, .int (w_4l1 + 1)), (2, .int (w_4l2 + 0)), (4, .int ((42 + (42 * w_4l1)) + 42)), (3, .int (42 + (42 * w_4l1))), (0, .ref h)] → (S_m_findOrder_253 w_4l1 (fun (w_37l5 : Int32) (w_37m0 : (Nat → Int32)) (w_37m1 : (Nat → Int32)) (w_37m2 : (Nat → Int32)) (w_37m3 : (Nat → Int32)) => (vp_in (w_4l1 + 1) 8 ∧ (S_m_findOrder_28 f10 f8 f11 f12 (fun (w_4l2 : Int32) (w_4l1 : Int32) (w_4m0 : (Nat → Int32)) (w_4m1 : (Nat → Int32)) (w_4m2 : (Nat → Int32)) (w_4m3 : (Nat → Int32)) => True) n_w_4 (w_4l2 + 0) (w_4l1 + 1) w_37m0 w_37m1 (upd w_37m2 ((w_4l1 + 1) : Int32).toNatClampNeg (-1)) w_37m3))) n_w_37 w_37l5 w_37m0 w_37m1 w_37m2 w_37m3) → ((match ((match ((f_m_findOrder_253 w_4l1 n_w_37 w_37l5 w_37m0 w_37m1 w_37m2 w_37m3) : Int32 × (Nat → Int32) × (Nat → Int32) × (Nat → Int32) × (Nat → Int32)) with | (w_37l5, w_37m0, w_37m1, w_37m2, w_37m3) => (f_m_findOrder_28 f10 f8 f11 f12 n_w_4 (w_4l2 + 0) (w_4l1 + 1) w_37m0 w_37m1 (upd w_37m2 ((w_4l1 + 1) : Int32).toNatClampNeg (-1)) w_37m3)) : Int32 × Int32 × (Nat → Int32) × (Nat → Int32) × (Nat → Int32) × (Nat → Int32)) with | (w_4l2, w_4l1, w_4m0, w_4m1, w_4m2, w_4m3) => (w_4m0, w_4m1, w_4m2, w_4m3)) : (Nat → Int32) × (Nat → Int32) × (Nat → Int32) × (Nat → Int32)) = RES → W p l e rm_m_findOrder s m args below meth c H locs 0 0 Q (F0 m 253 ls []) := by
                        intro n_w_37
                        induction n_w_37 with
                        | zero => intro w_37l5 w_37m0 w_37m1 w_37m2 w_37m3 H locs ls hP hD hS hl hF hE; exact False.elim hF
                        | succ n_w_37 ih_w_37 =>
                          intro w_37l5 w_37m0 w_37m1 w_37m2 w_37m3 H locs ls hP hD hS hl hF hE
                          rw [S_m_findOrder_253_s] at hF
                          rw [f_m_findOrder_253_s] at hE
                          refine lv_iload hx hb dX10_findOrder_253 (lv_at hl 0 rfl) ?_
                          refine lv_iload_n hx hb dX10_findOrder_255 rfl (lv_at hl 1 rfl) ?_
                          refine lv_icmp_ge (tgt := 279) hx hb dX10_findOrder_256 (by decide) (fun c_39 => ?_) (fun c_39 => ?_)
                          · replace hF := hF.1 c_39
                            rw [if_pos c_39] at hE
                            exact ex_253_w_37 w_37l5 w_37m0 w_37m1 w_37m2 w_37m3 _ _ ls hP hD hS (lv_sub hl [0, 1, 2, 3, 4, 5] rfl) hF hE
                          · replace hF := hF.2 c_39
                            rw [if_neg c_39] at hE
                            refine lv_aload_n hx hb dX10_findOrder_259 rfl (lv_at hl 5 rfl) ?_
                            refine va_get (D := D) (ci := 10) (v := .ref (Rf 39)) (C := RX10) (T := TX10) (N := 45) hx hb hts iX10 hown hK hP 2 rfl rfl 39 (by decide) (hts _ wd_676) (fun _ h9 => h9) rfl dX10_findOrder_260 ?_
                            refine lv_iload hx hb dX10_findOrder_263 (lv_at hl 0 rfl) ?_
                            refine lv_aload_n hx hb dX10_findOrder_265 rfl (lv_at hl 5 rfl) ?_
                            refine va_get (D := D) (ci := 10) (v := .ref (Rf 38)) (C := RX10) (T := TX10) (N := 45) hx hb hts iX10 hown hK hP 2 rfl rfl 38 (by decide) (hts _ wd_675) (fun _ h9 => h9) rfl dX10_findOrder_266 ?_
                            refine lv_iload hx hb dX10_findOrder_269 (lv_at hl 0 rfl) ?_
                            obtain ⟨hv_40, hF⟩ := hF
                            refine va_iald hx hb hK hP 0 0 rfl rfl hv_40 dX10_findOrder_271 ?_
                            obtain ⟨hv_41, hF⟩ := hF
                            refine va_iast hx hb hK hP hD hS 1 0 rfl rfl hv_41 dX10_findOrder_272 (fun H locs hP hD hS => ?_)
                            have hP : va_P D classes [((Rf 38), .inl (cI, 8, .inl w_37m2)), ((Rf 39), .inl (cI, 7, .inl (upd w_37m3 (w_37l5 : Int32).toNatClampNeg (w_37m2 (w_37l5 : Int32).toNatClampNeg)))), (h, .inr (10, ML w_37m0 Rf)), ((Rf 0), .inl (cI, 1302, .inl w_37m1)), ((Rf 10), .inl (cI, 30, .inl f10)), ((Rf 8), .inl (cI, 6, .inl f8)), ((Rf 11), .inl (cI, 7, .inl f11)), ((Rf 12), .inl (cI, 7, .inl f12))] H := hP
                            have hD : va_D A [((Rf 38), .inl (cI, 8, .inl w_37m2)), ((Rf 39), .inl (cI, 7, .inl (upd w_37m3 (w_37l5 : Int32).toNatClampNeg (w_37m2 (w_37l5 : Int32).toNatClampNeg)))), (h, .inr (10, ML w_37m0 Rf)), ((Rf 0), .inl (cI, 1302, .inl w_37m1)), ((Rf 10), .inl (cI, 30, .inl f10)), ((Rf 8), .inl (cI, 6, .inl f8)), ((Rf 11), .inl (cI, 7, .inl f11)), ((Rf 12), .inl (cI, 7, .inl f12))] := hD
                            refine lv_iinc (v := (w_37l5 + 1)) (lv' := [(5, .int (w_37l5 + 1)), (1, .int (w_4l1 + 1)), (2, .int (w_4l2 + 0)), (4, .int ((42 + (42 * w_4l1)) + 42)), (3, .int (42 + (42 * w_4l1))), (0, .ref h)]) hx hb dX10_findOrder_273 hl (k := 0) rfl rfl (by decide) rfl (fun ls hl => ?_)
                            refine lv_goto (tgt := 253) hx hb dX10_findOrder_276 (by decide) ?_
                            exact ih_w_37 (w_37l5 + 1) w_37m0 w_37m1 w_37m2 (upd w_37m3 (w_37l5 : Int32).toNatClampNeg (w_37m2 (w_37l5 : Int32).toNatClampNeg)) _ _ ls hP hD hS (lv_sub hl [0, 1, 2, 3, 4, 5] rfl) hF hE
                      exact lp_253_w_37 10 0 (upd (upd o_25 41 (w_4l2 + 0)) 40 (w_4l1 + 1)) o_26 (upd w_4m2 (w_4l1 : Int32).toNatClampNeg ((w_4m2 (w_4l1 : Int32).toNatClampNeg) + 1)) w_4m3 _ _ ls hP hD hS hl hF hE
                  · replace hF := hF.1 c_34
                    rw [if_pos c_34] at hE
                    refine lv_iconst (v := 1) hx hb dX10_findOrder_222 (by decide) ?_
                    refine lv_goto (tgt := 227) hx hb dX10_findOrder_223 (by decide) ?_
                    refine lv_iadd hx hb dX10_findOrder_227 ?_
                    refine lv_istore_n (lv' := [(2, .int (w_4l2 + 1)), (4, .int ((42 + (42 * w_4l1)) + 42)), (3, .int (42 + (42 * w_4l1))), (1, .int w_4l1), (0, .ref h)]) hx hb dX10_findOrder_228 rfl hl (by decide) rfl (fun ls hl => ?_)
                    refine lv_iinc (v := (w_4l1 + 1)) (lv' := [(1, .int (w_4l1 + 1)), (2, .int (w_4l2 + 1)), (4, .int ((42 + (42 * w_4l1)) + 42)), (3, .int (42 + (42 * w_4l1))), (0, .ref h)]) hx hb dX10_findOrder_229 hl (k := 3) rfl rfl (by decide) rfl (fun ls hl => ?_)
                    refine lv_iload_n hx hb dX10_findOrder_232 rfl (lv_at hl 1 rfl) ?_
                    refine lv_aload_n hx hb dX10_findOrder_233 rfl (lv_at hl 4 rfl) ?_
                    refine va_get (D := D) (ci := 10) (v := .int (o_25 41)) (C := RX10) (T := TX10) (N := 45) hx hb hts iX10 hown hK hP 2 rfl rfl 41 (by decide) (hts _ wd_674) (fun _ h9 => h9) rfl dX10_findOrder_234 ?_
                    refine lv_icmp_le (tgt := 279) hx hb dX10_findOrder_237 (by decide) (fun c_42 => ?_) (fun c_42 => ?_)
                    · replace hF := hF.1 c_42
                      rw [if_pos c_42] at hE
                      refine lv_aload_n hx hb dX10_findOrder_279 rfl (lv_at hl 4 rfl) ?_
                      refine va_get (D := D) (ci := 10) (v := .ref (Rf 38)) (C := RX10) (T := TX10) (N := 45) hx hb hts iX10 hown hK hP 2 rfl rfl 38 (by decide) (hts _ wd_675) (fun _ h9 => h9) rfl dX10_findOrder_280 ?_
                      refine lv_iload_n hx hb dX10_findOrder_283 rfl (lv_at hl 0 rfl) ?_
                      refine lv_iconst (v := (-1)) hx hb dX10_findOrder_284 (by decide) ?_
                      obtain ⟨hv_43, hF⟩ := hF
                      refine va_iast hx hb hK hP hD hS 0 0 rfl rfl hv_43 dX10_findOrder_285 (fun H locs hP hD hS => ?_)
                      have hP : va_P D classes [((Rf 38), .inl (cI, 8, .inl (upd (upd w_4m2 (w_4l1 : Int32).toNatClampNeg ((w_4m2 (w_4l1 : Int32).toNatClampNeg) + 1)) ((w_4l1 + 1) : Int32).toNatClampNeg (-1)))), ((Rf 39), .inl (cI, 7, .inl w_4m3)), (h, .inr (10, ML o_25 Rf)), ((Rf 0), .inl (cI, 1302, .inl o_26)), ((Rf 10), .inl (cI, 30, .inl f10)), ((Rf 8), .inl (cI, 6, .inl f8)), ((Rf 11), .inl (cI, 7, .inl f11)), ((Rf 12), .inl (cI, 7, .inl f12))] H := hP
                      have hD : va_D A [((Rf 38), .inl (cI, 8, .inl (upd (upd w_4m2 (w_4l1 : Int32).toNatClampNeg ((w_4m2 (w_4l1 : Int32).toNatClampNeg) + 1)) ((w_4l1 + 1) : Int32).toNatClampNeg (-1)))), ((Rf 39), .inl (cI, 7, .inl w_4m3)), (h, .inr (10, ML o_25 Rf)), ((Rf 0), .inl (cI, 1302, .inl o_26)), ((Rf 10), .inl (cI, 30, .inl f10)), ((Rf 8), .inl (cI, 6, .inl f8)), ((Rf 11), .inl (cI, 7, .inl f11)), ((Rf 12), .inl (cI, 7, .inl f12))] := hD
                      refine lv_goto (tgt := 28) hx hb dX10_findOrder_286 (by decide) ?_
                      exact ih_w_4 (w_4l2 + 1) (w_4l1 + 1) o_25 o_26 (upd (upd w_4m2 (w_4l1 : Int32).toNatClampNeg ((w_4m2 (w_4l1 : Int32).toNatClampNeg) + 1)) ((w_4l1 + 1) : Int32).toNatClampNeg (-1)) w_4m3 _ _ ls (cutP (isC := [4, 5, 6, 7, 0, 1, 2, 3]) hP rfl) (cutD (isC := [4, 5, 6, 7, 0, 1, 2, 3]) hD rfl rfl) hS (lv_sub hl [1, 0, 4] rfl) hF hE
                    · replace hF := hF.2 c_42
                      rw [if_neg c_42] at hE
                      refine lv_aload_n hx hb dX10_findOrder_240 rfl (lv_at hl 4 rfl) ?_
                      refine lv_iload_n hx hb dX10_findOrder_241 rfl (lv_at hl 1 rfl) ?_
                      refine va_put (D := D) (ci := 10) (v := .int (w_4l2 + 1)) (ty := .int) (C := RX10) (T := TX10) (N := 45) hx hb hts iX10 tyX10 tyX10_ok nmX10 hown hK hP hD hS 2 rfl rfl 41 (by decide) (hts _ wd_674) (fun _ h9 => h9) rfl (by decide +kernel) rfl rfl (Nat.le_of_ble_eq_true rfl) dX10_findOrder_242 (fun H locs hP hD hS => ?_)
                      have hP : va_P D classes [((Rf 38), .inl (cI, 8, .inl (upd w_4m2 (w_4l1 : Int32).toNatClampNeg ((w_4m2 (w_4l1 : Int32).toNatClampNeg) + 1)))), ((Rf 39), .inl (cI, 7, .inl w_4m3)), (h, .inr (10, ML (upd o_25 41 (w_4l2 + 1)) Rf)), ((Rf 0), .inl (cI, 1302, .inl o_26)), ((Rf 10), .inl (cI, 30, .inl f10)), ((Rf 8), .inl (cI, 6, .inl f8)), ((Rf 11), .inl (cI, 7, .inl f11)), ((Rf 12), .inl (cI, 7, .inl f12))] H := hP
                      have hD : va_D A [((Rf 38), .inl (cI, 8, .inl (upd w_4m2 (w_4l1 : Int32).toNatClampNeg ((w_4m2 (w_4l1 : Int32).toNatClampNeg) + 1)))), ((Rf 39), .inl (cI, 7, .inl w_4m3)), (h, .inr (10, ML (upd o_25 41 (w_4l2 + 1)) Rf)), ((Rf 0), .inl (cI, 1302, .inl o_26)), ((Rf 10), .inl (cI, 30, .inl f10)), ((Rf 8), .inl (cI, 6, .inl f8)), ((Rf 11), .inl (cI, 7, .inl f11)), ((Rf 12), .inl (cI, 7, .inl f12))] := hD
                      refine lv_aload_n hx hb dX10_findOrder_245 rfl (lv_at hl 4 rfl) ?_
                      refine lv_iload_n hx hb dX10_findOrder_246 rfl (lv_at hl 0 rfl) ?_
                      refine va_put (D := D) (ci := 10) (v := .int (w_4l1 + 1)) (ty := .int) (C := RX10) (T := TX10) (N := 45) hx hb hts iX10 tyX10 tyX10_ok nmX10 hown hK hP hD hS 2 rfl rfl 40 (by decide) (hts _ wd_673) (fun _ h9 => h9) rfl (by decide +kernel) rfl rfl (Nat.le_of_ble_eq_true rfl) dX10_findOrder_247 (fun H locs hP hD hS => ?_)
                      have hP : va_P D classes [((Rf 38), .inl (cI, 8, .inl (upd w_4m2 (w_4l1 : Int32).toNatClampNeg ((w_4m2 (w_4l1 : Int32).toNatClampNeg) + 1)))), ((Rf 39), .inl (cI, 7, .inl w_4m3)), (h, .inr (10, ML (upd (upd o_25 41 (w_4l2 + 1)) 40 (w_4l1 + 1)) Rf)), ((Rf 0), .inl (cI, 1302, .inl o_26)), ((Rf 10), .inl (cI, 30, .inl f10)), ((Rf 8), .inl (cI, 6, .inl f8)), ((Rf 11), .inl (cI, 7, .inl f11)), ((Rf 12), .inl (cI, 7, .inl f12))] H := hP
                      have hD : va_D A [((Rf 38), .inl (cI, 8, .inl (upd w_4m2 (w_4l1 : Int32).toNatClampNeg ((w_4m2 (w_4l1 : Int32).toNatClampNeg) + 1)))), ((Rf 39), .inl (cI, 7, .inl w_4m3)), (h, .inr (10, ML (upd (upd o_25 41 (w_4l2 + 1)) 40 (w_4l1 + 1)) Rf)), ((Rf 0), .inl (cI, 1302, .inl o_26)), ((Rf 10), .inl (cI, 30, .inl f10)), ((Rf 8), .inl (cI, 6, .inl f8)), ((Rf 11), .inl (cI, 7, .inl f11)), ((Rf 12), .inl (cI, 7, .inl f12))] := hD
                      refine lv_iconst (v := 0) hx hb dX10_findOrder_250 (by decide) ?_
                      refine lv_istore (lv' := [(5, .int 0), (1, .int (w_4l1 + 1)), (2, .int (w_4l2 + 1)), (4, .int ((42 + (42 * w_4l1)) + 42)), (3, .int (42 + (42 * w_4l1))), (0, .ref h)]) hx hb dX10_findOrder_251 hl (by decide) rfl (fun ls hl => ?_)
                      have ex_253_w_44 : ∀ (w_44l5 : Int32) (w_44m0 : (Nat → Int32)) (w_44m1 : (Nat → Int32)) (w_44m2 : (Nat → Int32)) (w_44m3 : (Nat → Int32)) (H : Heap) (locs : List Loc) (ls : Array Slot), va_P D classes [((Rf 38), .inl (cI, 8, .inl w_44m2)), ((Rf 39), .inl (cI, 7, .inl w_44m3)), (h, .inr (10, ML w_44m0 Rf)), ((Rf 0), .inl (cI, 1302, .inl w_44m1)), ((Rf 10), .inl (cI, 30, .inl f10)), ((Rf 8), .inl (cI, 6, .inl f8)), ((Rf 11), .inl (cI, 7, .inl f11)), ((Rf 12), .inl (cI, 7, .inl f12))] H → va_D A [((Rf 38), .inl (cI, 8, .inl w_44m2)), ((Rf 39), .inl (cI, 7, .inl w_44m3)), (h, .inr (10, ML w_44m0 Rf)), ((Rf 0), .inl (cI, 1302, .inl w_44m1)), ((Rf 10), .inl (cI, 30, .inl f10)), ((Rf 8), .inl (cI, 6, .inl f8)), ((Rf 11), .inl (cI, 7, .inl f11)), ((Rf 12), .inl (cI, 7, .inl f12))] → va_S A s.heap H locs → lv_has ls 6 [(5, .int w_44l5), (1, .int (w_4l1 + 1)), (2, .int (w_4l2 + 1)), (4, .int ((42 + (42 * w_4l1)) + 42)), (3, .int (42 + (42 * w_4l1))), (0, .ref h)] → ((vp_in (w_4l1 + 1) 8 ∧ (S_m_findOrder_28 f10 f8 f11 f12 (fun (w_4l2 : Int32) (w_4l1 : Int32) (w_4m0 : (Nat → Int32)) (w_4m1 : (Nat → Int32)) (w_4m2 : (Nat → Int32)) (w_4m3 : (Nat → Int32)) => True) n_w_4 (w_4l2 + 1) (w_4l1 + 1) w_44m0 w_44m1 (upd w_44m2 ((w_4l1 + 1) : Int32).toNatClampNeg (-1)) w_44m3))) → (((match ((f_m_findOrder_28 f10 f8 f11 f12 n_w_4 (w_4l2 + 1) (w_4l1 + 1) w_44m0 w_44m1 (upd w_44m2 ((w_4l1 + 1) : Int32).toNatClampNeg (-1)) w_44m3) : Int32 × Int32 × (Nat → Int32) × (Nat → Int32) × (Nat → Int32) × (Nat → Int32)) with | (w_4l2, w_4l1, w_4m0, w_4m1, w_4m2, w_4m3) => (w_4m0, w_4m1, w_4m2, w_4m3))) : (Nat → Int32) × (Nat → Int32) × (Nat → Int32) × (Nat → Int32)) = RES → W p l e rm_m_findOrder s m args below meth c H locs 0 0 Q (F0 m 279 ls []) := by
                        intro w_44l5 w_44m0 w_44m1 w_44m2 w_44m3 H locs ls hP hD hS hl hF hE
                        refine lv_aload_n hx hb dX10_findOrder_279 rfl (lv_at hl 5 rfl) ?_
                        refine va_get (D := D) (ci := 10) (v := .ref (Rf 38)) (C := RX10) (T := TX10) (N := 45) hx hb hts iX10 hown hK hP 2 rfl rfl 38 (by decide) (hts _ wd_675) (fun _ h9 => h9) rfl dX10_findOrder_280 ?_
                        refine lv_iload_n hx hb dX10_findOrder_283 rfl (lv_at hl 1 rfl) ?_
                        refine lv_iconst (v := (-1)) hx hb dX10_findOrder_284 (by decide) ?_
                        obtain ⟨hv_45, hF⟩ := hF
                        refine va_iast hx hb hK hP hD hS 0 0 rfl rfl hv_45 dX10_findOrder_285 (fun H locs hP hD hS => ?_)
                        have hP : va_P D classes [((Rf 38), .inl (cI, 8, .inl (upd w_44m2 ((w_4l1 + 1) : Int32).toNatClampNeg (-1)))), ((Rf 39), .inl (cI, 7, .inl w_44m3)), (h, .inr (10, ML w_44m0 Rf)), ((Rf 0), .inl (cI, 1302, .inl w_44m1)), ((Rf 10), .inl (cI, 30, .inl f10)), ((Rf 8), .inl (cI, 6, .inl f8)), ((Rf 11), .inl (cI, 7, .inl f11)), ((Rf 12), .inl (cI, 7, .inl f12))] H := hP
                        have hD : va_D A [((Rf 38), .inl (cI, 8, .inl (upd w_44m2 ((w_4l1 + 1) : Int32).toNatClampNeg (-1)))), ((Rf 39), .inl (cI, 7, .inl w_44m3)), (h, .inr (10, ML w_44m0 Rf)), ((Rf 0), .inl (cI, 1302, .inl w_44m1)), ((Rf 10), .inl (cI, 30, .inl f10)), ((Rf 8), .inl (cI, 6, .inl f8)), ((Rf 11), .inl (cI, 7, .inl f11)), ((Rf 12), .inl (cI, 7, .inl f12))] := hD
                        refine lv_goto (tgt := 28) hx hb dX10_findOrder_286 (by decide) ?_
                        exact ih_w_4 (w_4l2 + 1) (w_4l1 + 1) w_44m0 w_44m1 (upd w_44m2 ((w_4l1 + 1) : Int32).toNatClampNeg (-1)) w_44m3 _ _ ls (cutP (isC := [4, 5, 6, 7, 0, 1, 2, 3]) hP rfl) (cutD (isC := [4, 5, 6, 7, 0, 1, 2, 3]) hD rfl rfl) hS (lv_sub hl [2, 1, 5] rfl) hF hE
                      have lp_253_w_44 : ∀ (n_w_44 : Nat) (w_44l5 : Int32) (w_44m0 : (Nat → Int32)) (w_44m1 : (Nat → Int32)) (w_44m2 : (Nat → Int32)) (w_44m3 : (Nat → Int32)) (H : Heap) (locs : List Loc) (ls : Array Slot), va_P D classes [((Rf 38), .inl (cI, 8, .inl w_44m2)), ((Rf 39), .inl (cI, 7, .inl w_44m3)), (h, .inr (10, ML w_44m0 Rf)), ((Rf 0), .inl (cI, 1302, .inl w_44m1)), ((Rf 10), .inl (cI, 30, .inl f10)), ((Rf 8), .inl (cI, 6, .inl f8)), ((Rf 11), .inl (cI, 7, .inl f11)), ((Rf 12), .inl (cI, 7, .inl f12))] H → va_D A [((Rf 38), .inl (cI, 8, .inl w_44m2)), ((Rf 39), .inl (cI, 7, .inl w_44m3)), (h, .inr (10, ML w_44m0 Rf)), ((Rf 0), .inl (cI, 1302, .inl w_44m1)), ((Rf 10), .inl (cI, 30, .inl f10)), ((Rf 8), .inl (cI, 6, .inl f8)), ((Rf 11), .inl (cI, 7, .inl f11)), ((Rf 12), .inl (cI, 7, .inl f12))] → va_S A s.heap H locs → lv_has ls 6 [(5, .int w_44l5), (1, .int (w_4l1 + 1)), (2, .int (w_4l2 + 1)), (4, .int ((42 + (42 * w_4l1)) + 42)), (3, .int (42 + (42 * w_4l1))), (0, .ref h)] → (S_m_findOrder_253 w_4l1 (fun (w_44l5 : Int32) (w_44m0 : (Nat → Int32)) (w_44m1 : (Nat → Int32)) (w_44m2 : (Nat → Int32)) (w_44m3 : (Nat → Int32)) => (vp_in (w_4l1 + 1) 8 ∧ (S_m_findOrder_28 f10 f8 f11 f12 (fun (w_4l2 : Int32) (w_4l1 : Int32) (w_4m0 : (Nat → Int32)) (w_4m1 : (Nat → Int32)) (w_4m2 : (Nat → Int32)) (w_4m3 : (Nat → Int32)) => True) n_w_4 (w_4l2 + 1) (w_4l1 + 1) w_44m0 w_44m1 (upd w_44m2 ((w_4l1 + 1) : Int32).toNatClampNeg (-1)) w_44m3))) n_w_44 w_44l5 w_44m0 w_44m1 w_44m2 w_44m3) → ((match ((match ((f_m_findOrder_253 w_4l1 n_w_44 w_44l5 w_44m0 w_44m1 w_44m2 w_44m3) : Int32 × (Nat → Int32) × (Nat → Int32) × (Nat → Int32) × (Nat → Int32)) with | (w_44l5, w_44m0, w_44m1, w_44m2, w_44m3) => (f_m_findOrder_28 f10 f8 f11 f12 n_w_4 (w_4l2 + 1) (w_4l1 + 1) w_44m0 w_44m1 (upd w_44m2 ((w_4l1 + 1) : Int32).toNatClampNeg (-1)) w_44m3)) : Int32 × Int32 × (Nat → Int32) × (Nat → Int32) × (Nat → Int32) × (Nat → Int32)) with | (w_4l2, w_4l1, w_4m0, w_4m1, w_4m2, w_4m3) => (w_4m0, w_4m1, w_4m2, w_4m3)) : (Nat → Int32) × (Nat → Int32) × (Nat → Int32) × (Nat → Int32)) = RES → W p l e rm_m_findOrder s m args below meth c H locs 0 0 Q (F0 m 253 ls []) := by
                        intro n_w_44
                        induction n_w_44 with
                        | zero => intro w_44l5 w_44m0 w_44m1 w_44m2 w_44m3 H locs ls hP hD hS hl hF hE; exact False.elim hF
                        | succ n_w_44 ih_w_44 =>
                          intro w_44l5 w_44m0 w_44m1 w_44m2 w_44m3 H locs ls hP hD hS hl hF hE
                          rw [S_m_findOrder_253_s] at hF
                          rw [f_m_findOrder_253_s] at hE
                          refine lv_iload hx hb dX10_findOrder_253 (lv_at hl 0 rfl) ?_
                          refine lv_iload_n hx hb dX10_findOrder_255 rfl (lv_at hl 1 rfl) ?_
                          refine lv_icmp_ge (tgt := 279) hx hb dX10_findOrder_256 (by decide) (fun c_46 => ?_) (fun c_46 => ?_)
                          · replace hF := hF.1 c_46
                            rw [if_pos c_46] at hE
                            exact ex_253_w_44 w_44l5 w_44m0 w_44m1 w_44m2 w_44m3 _ _ ls hP hD hS (lv_sub hl [0, 1, 2, 3, 4, 5] rfl) hF hE
                          · replace hF := hF.2 c_46
                            rw [if_neg c_46] at hE
                            refine lv_aload_n hx hb dX10_findOrder_259 rfl (lv_at hl 5 rfl) ?_
                            refine va_get (D := D) (ci := 10) (v := .ref (Rf 39)) (C := RX10) (T := TX10) (N := 45) hx hb hts iX10 hown hK hP 2 rfl rfl 39 (by decide) (hts _ wd_676) (fun _ h9 => h9) rfl dX10_findOrder_260 ?_
                            refine lv_iload hx hb dX10_findOrder_263 (lv_at hl 0 rfl) ?_
                            refine lv_aload_n hx hb dX10_findOrder_265 rfl (lv_at hl 5 rfl) ?_
                            refine va_get (D := D) (ci := 10) (v := .ref (Rf 38)) (C := RX10) (T := TX10) (N := 45) hx hb hts iX10 hown hK hP 2 rfl rfl 38 (by decide) (hts _ wd_675) (fun _ h9 => h9) rfl dX10_findOrder_266 ?_
                            refine lv_iload hx hb dX10_findOrder_269 (lv_at hl 0 rfl) ?_
                            obtain ⟨hv_47, hF⟩ := hF
                            refine va_iald hx hb hK hP 0 0 rfl rfl hv_47 dX10_findOrder_271 ?_
                            obtain ⟨hv_48, hF⟩ := hF
                            refine va_iast hx hb hK hP hD hS 1 0 rfl rfl hv_48 dX10_findOrder_272 (fun H locs hP hD hS => ?_)
                            have hP : va_P D classes [((Rf 38), .inl (cI, 8, .inl w_44m2)), ((Rf 39), .inl (cI, 7, .inl (upd w_44m3 (w_44l5 : Int32).toNatClampNeg (w_44m2 (w_44l5 : Int32).toNatClampNeg)))), (h, .inr (10, ML w_44m0 Rf)), ((Rf 0), .inl (cI, 1302, .inl w_44m1)), ((Rf 10), .inl (cI, 30, .inl f10)), ((Rf 8), .inl (cI, 6, .inl f8)), ((Rf 11), .inl (cI, 7, .inl f11)), ((Rf 12), .inl (cI, 7, .inl f12))] H := hP
                            have hD : va_D A [((Rf 38), .inl (cI, 8, .inl w_44m2)), ((Rf 39), .inl (cI, 7, .inl (upd w_44m3 (w_44l5 : Int32).toNatClampNeg (w_44m2 (w_44l5 : Int32).toNatClampNeg)))), (h, .inr (10, ML w_44m0 Rf)), ((Rf 0), .inl (cI, 1302, .inl w_44m1)), ((Rf 10), .inl (cI, 30, .inl f10)), ((Rf 8), .inl (cI, 6, .inl f8)), ((Rf 11), .inl (cI, 7, .inl f11)), ((Rf 12), .inl (cI, 7, .inl f12))] := hD
                            refine lv_iinc (v := (w_44l5 + 1)) (lv' := [(5, .int (w_44l5 + 1)), (1, .int (w_4l1 + 1)), (2, .int (w_4l2 + 1)), (4, .int ((42 + (42 * w_4l1)) + 42)), (3, .int (42 + (42 * w_4l1))), (0, .ref h)]) hx hb dX10_findOrder_273 hl (k := 0) rfl rfl (by decide) rfl (fun ls hl => ?_)
                            refine lv_goto (tgt := 253) hx hb dX10_findOrder_276 (by decide) ?_
                            exact ih_w_44 (w_44l5 + 1) w_44m0 w_44m1 w_44m2 (upd w_44m3 (w_44l5 : Int32).toNatClampNeg (w_44m2 (w_44l5 : Int32).toNatClampNeg)) _ _ ls hP hD hS (lv_sub hl [0, 1, 2, 3, 4, 5] rfl) hF hE
                      exact lp_253_w_44 10 0 (upd (upd o_25 41 (w_4l2 + 1)) 40 (w_4l1 + 1)) o_26 (upd w_4m2 (w_4l1 : Int32).toNatClampNeg ((w_4m2 (w_4l1 : Int32).toNatClampNeg) + 1)) w_4m3 _ _ ls hP hD hS hl hF hE
          · replace hF := hF.1 c_14
            rw [if_pos c_14] at hE
            refine lv_iinc (v := (w_4l1 + (-1))) (lv' := [(1, .int (w_4l1 + (-1))), (3, .int (42 + (42 * w_4l1))), (2, .int w_4l2), (0, .ref h)]) hx hb dX10_findOrder_69 hl (k := 2) rfl rfl (by decide) rfl (fun ls hl => ?_)
            refine lv_iload_n hx hb dX10_findOrder_72 rfl (lv_at hl 2 rfl) ?_
            refine lv_iload_n hx hb dX10_findOrder_73 rfl (lv_at hl 0 rfl) ?_
            refine lv_if_lt (tgt := 109) hx hb dX10_findOrder_74 (by decide) (fun c_49 => ?_) (fun c_49 => ?_)
            · replace hF := hF.1 c_49
              rw [if_pos c_49] at hE
              refine lv_iconst (v := 0) hx hb dX10_findOrder_109 (by decide) ?_
              refine lv_isub hx hb dX10_findOrder_110 ?_
              refine lv_istore_n (lv' := [(2, .int (w_4l2 - 0)), (1, .int (w_4l1 + (-1))), (3, .int (42 + (42 * w_4l1))), (0, .ref h)]) hx hb dX10_findOrder_111 rfl hl (by decide) rfl (fun ls hl => ?_)
              refine lv_goto (tgt := 286) hx hb dX10_findOrder_112 (by decide) ?_
              refine lv_goto (tgt := 28) hx hb dX10_findOrder_286 (by decide) ?_
              exact ih_w_4 (w_4l2 - 0) (w_4l1 + (-1)) w_4m0 w_4m1 (upd w_4m2 (w_4l1 : Int32).toNatClampNeg ((w_4m2 (w_4l1 : Int32).toNatClampNeg) + 1)) w_4m3 _ _ ls hP hD hS (lv_sub hl [0, 1, 3] rfl) hF hE
            · replace hF := hF.2 c_49
              rw [if_neg c_49] at hE
              refine lv_aload_n hx hb dX10_findOrder_77 rfl (lv_at hl 3 rfl) ?_
              refine va_get (D := D) (ci := 10) (v := .ref (Rf 0)) (C := RX10) (T := TX10) (N := 45) hx hb hts iX10 hown hK hP 6 rfl rfl 0 (by decide) (hts _ wd_491) (fun _ h9 => h9) rfl dX10_findOrder_78 ?_
              refine lv_bipush (v := 42) hx hb dX10_findOrder_81 (by decide) ?_
              refine lv_bipush (v := 42) hx hb dX10_findOrder_83 (by decide) ?_
              refine lv_iload_n hx hb dX10_findOrder_85 rfl (lv_at hl 0 rfl) ?_
              refine lv_iconst (v := 1) hx hb dX10_findOrder_86 (by decide) ?_
              refine lv_iadd hx hb dX10_findOrder_87 ?_
              refine lv_imul hx hb dX10_findOrder_88 ?_
              refine lv_iadd hx hb dX10_findOrder_89 ?_
              refine lv_bipush (v := 20) hx hb dX10_findOrder_90 (by decide) ?_
              refine lv_iadd hx hb dX10_findOrder_92 ?_
              refine lv_aload_n hx hb dX10_findOrder_93 rfl (lv_at hl 3 rfl) ?_
              refine va_get (D := D) (ci := 10) (v := .ref (Rf 38)) (C := RX10) (T := TX10) (N := 45) hx hb hts iX10 hown hK hP 6 rfl rfl 38 (by decide) (hts _ wd_675) (fun _ h9 => h9) rfl dX10_findOrder_94 ?_
              refine lv_iload_n hx hb dX10_findOrder_97 rfl (lv_at hl 0 rfl) ?_
              obtain ⟨hv_50, hF⟩ := hF
              refine va_iald hx hb hK hP 4 0 rfl rfl hv_50 dX10_findOrder_98 ?_
              refine lv_iadd hx hb dX10_findOrder_99 ?_
              obtain ⟨hv_51, hF⟩ := hF
              refine va_iald hx hb hK hP 7 0 rfl rfl hv_51 dX10_findOrder_100 ?_
              refine lv_iconst (v := 1) hx hb dX10_findOrder_101 (by decide) ?_
              refine lv_icmp_ne (tgt := 109) hx hb dX10_findOrder_102 (by decide) (fun c_52 => ?_) (fun c_52 => ?_)
              · replace hF := hF.2 c_52
                rw [if_neg c_52] at hE
                refine lv_iconst (v := 0) hx hb dX10_findOrder_109 (by decide) ?_
                refine lv_isub hx hb dX10_findOrder_110 ?_
                refine lv_istore_n (lv' := [(2, .int (w_4l2 - 0)), (1, .int (w_4l1 + (-1))), (3, .int (42 + (42 * w_4l1))), (0, .ref h)]) hx hb dX10_findOrder_111 rfl hl (by decide) rfl (fun ls hl => ?_)
                refine lv_goto (tgt := 286) hx hb dX10_findOrder_112 (by decide) ?_
                refine lv_goto (tgt := 28) hx hb dX10_findOrder_286 (by decide) ?_
                exact ih_w_4 (w_4l2 - 0) (w_4l1 + (-1)) w_4m0 w_4m1 (upd w_4m2 (w_4l1 : Int32).toNatClampNeg ((w_4m2 (w_4l1 : Int32).toNatClampNeg) + 1)) w_4m3 _ _ ls hP hD hS (lv_sub hl [0, 1, 3] rfl) hF hE
              · replace hF := hF.1 c_52
                rw [if_pos c_52] at hE
                refine lv_iconst (v := 1) hx hb dX10_findOrder_105 (by decide) ?_
                refine lv_goto (tgt := 110) hx hb dX10_findOrder_106 (by decide) ?_
                refine lv_isub hx hb dX10_findOrder_110 ?_
                refine lv_istore_n (lv' := [(2, .int (w_4l2 - 1)), (1, .int (w_4l1 + (-1))), (3, .int (42 + (42 * w_4l1))), (0, .ref h)]) hx hb dX10_findOrder_111 rfl hl (by decide) rfl (fun ls hl => ?_)
                refine lv_goto (tgt := 286) hx hb dX10_findOrder_112 (by decide) ?_
                refine lv_goto (tgt := 28) hx hb dX10_findOrder_286 (by decide) ?_
                exact ih_w_4 (w_4l2 - 1) (w_4l1 + (-1)) w_4m0 w_4m1 (upd w_4m2 (w_4l1 : Int32).toNatClampNeg ((w_4m2 (w_4l1 : Int32).toNatClampNeg) + 1)) w_4m3 _ _ ls hP hD hS (lv_sub hl [0, 1, 3] rfl) hF hE
  exact lp_28_w_4 1000000000000 0 0 (upd (upd G 40 0) 41 0) (f_m_copy f0 0 42) (upd f38 (0 : Int32).toNatClampNeg (-1)) f39 _ _ ls hP hD hS hl hF hE
noncomputable def f_m_order (G : Nat → Int32) (f0 : Nat → Int32) (f10 : Nat → Int32) (f8 : Nat → Int32) (f11 : Nat → Int32) (f12 : Nat → Int32) (f38 : Nat → Int32) (f39 : Nat → Int32) (i_ : Int32) : Int32 × (Nat → Int32) × (Nat → Int32) × (Nat → Int32) × (Nat → Int32) := (match (f_m_findOrder G f0 f10 f8 f11 f12 f38 f39) with | (o_4, o_5, o_6, o_7) => (if i_ = (-1) then ((o_4 41), o_4, o_5, o_6, o_7) else (if (f_m_in i_.toInt64 0 ((((o_4 40) - 1)).toInt64)) = 0 then ((-1), o_4, o_5, o_6, o_7) else ((o_7 (i_ : Int32).toNatClampNeg), o_4, o_5, o_6, o_7))))
def S_m_order (G : Nat → Int32) (f0 : Nat → Int32) (f10 : Nat → Int32) (f8 : Nat → Int32) (f11 : Nat → Int32) (f12 : Nat → Int32) (f38 : Nat → Int32) (f39 : Nat → Int32) (i_ : Int32) : Prop := ((S_m_findOrder G f0 f10 f8 f11 f12 f38 f39) ∧ (∀ (o_4 : (Nat → Int32)) (o_5 : (Nat → Int32)) (o_6 : (Nat → Int32)) (o_7 : (Nat → Int32)), (o_4, o_5, o_6, o_7) = (f_m_findOrder G f0 f10 f8 f11 f12 f38 f39) → ((i_ = (-1) → True) ∧ (¬ i_ = (-1) → ((S_m_in i_.toInt64 0 ((((o_4 40) - 1)).toInt64)) ∧ (((f_m_in i_.toInt64 0 ((((o_4 40) - 1)).toInt64)) = 0 → True) ∧ (¬ (f_m_in i_.toInt64 0 ((((o_4 40) - 1)).toInt64)) = 0 → (vp_in i_ 7 ∧ True))))))))
def rm_m_order : Room := { frames := 4, cells := 0, slots := 0, locals := 100 }
set_option maxHeartbeats 4000000 in
set_option maxRecDepth 100000 in
theorem m_order {l : Launch} {D : va_G} {cI cZ : ClassId} {sz : Nat} (Rf : Nat → Nat) (h : Nat) (G : Nat → Int32) (f0 : Nat → Int32) (f10 : Nat → Int32) (f8 : Nat → Int32) (f11 : Nat → Int32) (f12 : Nat → Int32) (f38 : Nat → Int32) (f39 : Nat → Int32) (i_ : Int32) (hF : S_m_order G f0 f10 f8 f11 f12 f38 f39 i_) : KI l yX10_order cX10_order 2 (some .int) rm_m_order D cI cZ [.ref h, .int i_] sz [(h, .inr (10, ML G Rf)), ((Rf 0), .inl (cI, 1302, .inl f0)), ((Rf 10), .inl (cI, 30, .inl f10)), ((Rf 8), .inl (cI, 6, .inl f8)), ((Rf 11), .inl (cI, 7, .inl f11)), ((Rf 12), .inl (cI, 7, .inl f12)), ((Rf 38), .inl (cI, 8, .inl f38)), ((Rf 39), .inl (cI, 7, .inl f39))] (fun (r : Int32) (u : (Nat → Int32) × (Nat → Int32) × (Nat → Int32) × (Nat → Int32)) => (r, u) = f_m_order G f0 f10 f8 f11 f12 f38 f39 i_) (fun (u : (Nat → Int32) × (Nat → Int32) × (Nat → Int32) × (Nat → Int32)) => [(h, .inr (10, ML u.1 Rf)), ((Rf 0), .inl (cI, 1302, .inl u.2.1)), ((Rf 10), .inl (cI, 30, .inl f10)), ((Rf 8), .inl (cI, 6, .inl f8)), ((Rf 11), .inl (cI, 7, .inl f11)), ((Rf 12), .inl (cI, 7, .inl f12)), ((Rf 38), .inl (cI, 8, .inl u.2.2.1)), ((Rf 39), .inl (cI, 7, .inl u.2.2.2))]) := by
  refine KI.go rfl (Nat.le_of_ble_eq_true rfl) ?_
  intro p e s m args below meth c ls A Q hx hb hml hts hown hin hP hK hD hS hA hN hl hret
  have hl : lv_has ls 2 [(0, .ref h), (1, .int i_)] := hl
  rw [S_m_order] at hF
  obtain ⟨RES, hE⟩ : ∃ xRES, f_m_order G f0 f10 f8 f11 f12 f38 f39 i_ = xRES := ⟨_, rfl⟩
  rw [hE] at hret
  rw [f_m_order] at hE
  refine lv_aload_n hx hb dX10_order_0 rfl (lv_at hl 0 rfl) ?_
  obtain ⟨hs_1, hF⟩ := hF
  refine cVv (wr := []) (rest := []) (m_findOrder Rf h G f0 f10 f8 f11 f12 f38 f39 hs_1) okV_X10_findOrder wd_677 hx hb hml hown hts hK hP hD hS hA hN hl.1 [0, 1, 2, 3, 4, 5, 6, 7] [] rfl rfl rfl rfl (by decide) rfl rfl rfl (Nat.le_of_ble_eq_true rfl) (Nat.le_of_ble_eq_true rfl) (Nat.le_of_ble_eq_true rfl) (Nat.le_of_ble_eq_true rfl) (Nat.le_of_ble_eq_true rfl) dX10_order_1 (fun u_2 H locs hw_u_2 hP hD hS => ?_)
  obtain ⟨o_4, o_5, o_6, o_7⟩ := u_2
  replace hw_u_2 : (o_4, o_5, o_6, o_7) = (f_m_findOrder G f0 f10 f8 f11 f12 f38 f39) := hw_u_2
  replace hF := hF o_4 o_5 o_6 o_7 hw_u_2
  rw [← hw_u_2] at hE
  replace hE : ((if i_ = (-1) then ((o_4 41), o_4, o_5, o_6, o_7) else (if (f_m_in i_.toInt64 0 ((((o_4 40) - 1)).toInt64)) = 0 then ((-1), o_4, o_5, o_6, o_7) else ((o_7 (i_ : Int32).toNatClampNeg), o_4, o_5, o_6, o_7))) : Int32 × (Nat → Int32) × (Nat → Int32) × (Nat → Int32) × (Nat → Int32)) = RES := hE
  have hP : va_P D classes [(h, .inr (10, ML o_4 Rf)), ((Rf 0), .inl (cI, 1302, .inl o_5)), ((Rf 10), .inl (cI, 30, .inl f10)), ((Rf 8), .inl (cI, 6, .inl f8)), ((Rf 11), .inl (cI, 7, .inl f11)), ((Rf 12), .inl (cI, 7, .inl f12)), ((Rf 38), .inl (cI, 8, .inl o_6)), ((Rf 39), .inl (cI, 7, .inl o_7))] H := hP
  have hD : va_D A [(h, .inr (10, ML o_4 Rf)), ((Rf 0), .inl (cI, 1302, .inl o_5)), ((Rf 10), .inl (cI, 30, .inl f10)), ((Rf 8), .inl (cI, 6, .inl f8)), ((Rf 11), .inl (cI, 7, .inl f11)), ((Rf 12), .inl (cI, 7, .inl f12)), ((Rf 38), .inl (cI, 8, .inl o_6)), ((Rf 39), .inl (cI, 7, .inl o_7))] := hD
  refine lv_iload_n hx hb dX10_order_4 rfl (lv_at hl 1 rfl) ?_
  refine lv_iconst (v := (-1)) hx hb dX10_order_5 (by decide) ?_
  refine lv_icmp_ne (tgt := 16) hx hb dX10_order_6 (by decide) (fun c_8 => ?_) (fun c_8 => ?_)
  · replace hF := hF.2 c_8
    rw [if_neg c_8] at hE
    refine lv_iload_n hx hb dX10_order_16 rfl (lv_at hl 1 rfl) ?_
    refine lv_i2l (v := i_.toInt64) hx hb dX10_order_17 rfl ?_
    refine lv_lconst (v := 0) hx hb dX10_order_18 (by decide) ?_
    refine lv_aload_n hx hb dX10_order_19 rfl (lv_at hl 0 rfl) ?_
    refine va_get (D := D) (ci := 10) (v := .int (o_4 40)) (C := RX10) (T := TX10) (N := 45) hx hb hts iX10 hown hK hP 0 rfl rfl 40 (by decide) (hts _ wd_673) (fun _ h9 => h9) rfl dX10_order_20 ?_
    refine lv_iconst (v := 1) hx hb dX10_order_23 (by decide) ?_
    refine lv_isub hx hb dX10_order_24 ?_
    refine lv_i2l (v := (((o_4 40) - 1)).toInt64) hx hb dX10_order_25 rfl ?_
    obtain ⟨hs_9, hF⟩ := hF
    refine cSi (wr := [(h, .inr (10, ML o_4 Rf)), ((Rf 0), .inl (cI, 1302, .inl o_5)), ((Rf 10), .inl (cI, 30, .inl f10)), ((Rf 8), .inl (cI, 6, .inl f8)), ((Rf 11), .inl (cI, 7, .inl f11)), ((Rf 12), .inl (cI, 7, .inl f12)), ((Rf 38), .inl (cI, 8, .inl o_6)), ((Rf 39), .inl (cI, 7, .inl o_7))]) (rest := []) (m_in i_.toInt64 0 ((((o_4 40) - 1)).toInt64) hs_9) okS_X10_in wd_495 hx hb hml hown hts hK hP hD hS hA hN hl.1 [] [0, 1, 2, 3, 4, 5, 6, 7] rfl rfl rfl rfl (by decide) rfl (Nat.le_of_ble_eq_true rfl) (Nat.le_of_ble_eq_true rfl) (Nat.le_of_ble_eq_true rfl) (Nat.le_of_ble_eq_true rfl) (Nat.le_of_ble_eq_true rfl) dX10_order_26 (fun r_11 u_10 H locs hw_u_10 hP hD hS => ?_)
    replace hw_u_10 : r_11 = (f_m_in i_.toInt64 0 ((((o_4 40) - 1)).toInt64)) := hw_u_10
    rw [hw_u_10]
    clear hw_u_10
    have hP : va_P D classes [(h, .inr (10, ML o_4 Rf)), ((Rf 0), .inl (cI, 1302, .inl o_5)), ((Rf 10), .inl (cI, 30, .inl f10)), ((Rf 8), .inl (cI, 6, .inl f8)), ((Rf 11), .inl (cI, 7, .inl f11)), ((Rf 12), .inl (cI, 7, .inl f12)), ((Rf 38), .inl (cI, 8, .inl o_6)), ((Rf 39), .inl (cI, 7, .inl o_7))] H := hP
    have hD : va_D A [(h, .inr (10, ML o_4 Rf)), ((Rf 0), .inl (cI, 1302, .inl o_5)), ((Rf 10), .inl (cI, 30, .inl f10)), ((Rf 8), .inl (cI, 6, .inl f8)), ((Rf 11), .inl (cI, 7, .inl f11)), ((Rf 12), .inl (cI, 7, .inl f12)), ((Rf 38), .inl (cI, 8, .inl o_6)), ((Rf 39), .inl (cI, 7, .inl o_7))] := hD
    refine lv_if_eq (tgt := 41) hx hb dX10_order_29 (by decide) (fun c_12 => ?_) (fun c_12 => ?_)
    · replace hF := hF.1 c_12
      rw [if_pos c_12] at hE
      refine lv_iconst (v := (-1)) hx hb dX10_order_41 (by decide) ?_
      exact hret (-1) (o_4, o_5, o_6, o_7) _ _ _ _ dX10_order_42 rfl hE hP hD hS
    · replace hF := hF.2 c_12
      rw [if_neg c_12] at hE
      refine lv_aload_n hx hb dX10_order_32 rfl (lv_at hl 0 rfl) ?_
      refine va_get (D := D) (ci := 10) (v := .ref (Rf 39)) (C := RX10) (T := TX10) (N := 45) hx hb hts iX10 hown hK hP 0 rfl rfl 39 (by decide) (hts _ wd_676) (fun _ h9 => h9) rfl dX10_order_33 ?_
      refine lv_iload_n hx hb dX10_order_36 rfl (lv_at hl 1 rfl) ?_
      obtain ⟨hv_13, hF⟩ := hF
      refine va_iald hx hb hK hP 7 0 rfl rfl hv_13 dX10_order_37 ?_
      refine lv_goto (tgt := 42) hx hb dX10_order_38 (by decide) ?_
      exact hret (o_7 (i_ : Int32).toNatClampNeg) (o_4, o_5, o_6, o_7) _ _ _ _ dX10_order_42 rfl hE hP hD hS
  · replace hF := hF.1 c_8
    rw [if_pos c_8] at hE
    refine lv_aload_n hx hb dX10_order_9 rfl (lv_at hl 0 rfl) ?_
    refine va_get (D := D) (ci := 10) (v := .int (o_4 41)) (C := RX10) (T := TX10) (N := 45) hx hb hts iX10 hown hK hP 0 rfl rfl 41 (by decide) (hts _ wd_674) (fun _ h9 => h9) rfl dX10_order_10 ?_
    refine lv_goto (tgt := 42) hx hb dX10_order_13 (by decide) ?_
    exact hret (o_4 41) (o_4, o_5, o_6, o_7) _ _ _ _ dX10_order_42 rfl hE hP hD hS
