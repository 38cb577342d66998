theorem dX10_wornOut_0 : decode cX10_wornOut 0 = .ok (.iconst (-1), 1) := by decide +kernel
theorem dX10_wornOut_1 : decode cX10_wornOut 1 = .ok (.istore_n 1, 1) := by decide +kernel
theorem dX10_wornOut_2 : decode cX10_wornOut 2 = .ok (.ldc_w 270, 3) := by decide +kernel
theorem dX10_wornOut_5 : decode cX10_wornOut 5 = .ok (.istore_n 2, 1) := by decide +kernel
theorem dX10_wornOut_6 : decode cX10_wornOut 6 = .ok (.iconst 0, 1) := by decide +kernel
theorem dX10_wornOut_7 : decode cX10_wornOut 7 = .ok (.istore_n 3, 1) := by decide +kernel
theorem dX10_wornOut_112 : decode cX10_wornOut 112 = .ok (.iload_n 1, 1) := by decide +kernel
theorem dX10_wornOut_113 : decode cX10_wornOut 113 = .ok (.ireturn, 1) := by decide +kernel
theorem dX10_wornOut_8 : decode cX10_wornOut 8 = .ok (.iload_n 3, 1) := by decide +kernel
theorem dX10_wornOut_9 : decode cX10_wornOut 9 = .ok (.aload_n 0, 1) := by decide +kernel
theorem dX10_wornOut_10 : decode cX10_wornOut 10 = .ok (.getfield 78, 3) := by decide +kernel
theorem dX10_wornOut_13 : decode cX10_wornOut 13 = .ok (.if_icmp .ge 99, 3) := by decide +kernel
theorem dX10_wornOut_16 : decode cX10_wornOut 16 = .ok (.iconst 0, 1) := by decide +kernel
theorem dX10_wornOut_17 : decode cX10_wornOut 17 = .ok (.istore 4, 2) := by decide +kernel
theorem dX10_wornOut_19 : decode cX10_wornOut 19 = .ok (.iconst 0, 1) := by decide +kernel
theorem dX10_wornOut_20 : decode cX10_wornOut 20 = .ok (.istore 5, 2) := by decide +kernel
theorem dX10_wornOut_62 : decode cX10_wornOut 62 = .ok (.aload_n 0, 1) := by decide +kernel
theorem dX10_wornOut_63 : decode cX10_wornOut 63 = .ok (.iload_n 3, 1) := by decide +kernel
theorem dX10_wornOut_64 : decode cX10_wornOut 64 = .ok (.invokevirtual 207, 3) := by decide +kernel
theorem dX10_wornOut_67 : decode cX10_wornOut 67 = .ok (.ifCond .ne 13, 3) := by decide +kernel
theorem dX10_wornOut_80 : decode cX10_wornOut 80 = .ok (.iconst 0, 1) := by decide +kernel
theorem dX10_wornOut_81 : decode cX10_wornOut 81 = .ok (.istore 5, 2) := by decide +kernel
theorem dX10_wornOut_83 : decode cX10_wornOut 83 = .ok (.iload 5, 2) := by decide +kernel
theorem dX10_wornOut_85 : decode cX10_wornOut 85 = .ok (.ifCond .eq 7, 3) := by decide +kernel
theorem dX10_wornOut_92 : decode cX10_wornOut 92 = .ok (.iload_n 1, 1) := by decide +kernel
theorem dX10_wornOut_93 : decode cX10_wornOut 93 = .ok (.istore_n 1, 1) := by decide +kernel
theorem dX10_wornOut_94 : decode cX10_wornOut 94 = .ok (.iload 5, 2) := by decide +kernel
theorem dX10_wornOut_96 : decode cX10_wornOut 96 = .ok (.ifCond .eq 8, 3) := by decide +kernel
theorem dX10_wornOut_104 : decode cX10_wornOut 104 = .ok (.iload_n 2, 1) := by decide +kernel
theorem dX10_wornOut_105 : decode cX10_wornOut 105 = .ok (.istore_n 2, 1) := by decide +kernel
theorem dX10_wornOut_106 : decode cX10_wornOut 106 = .ok (.iinc 3 1, 3) := by decide +kernel
theorem dX10_wornOut_109 : decode cX10_wornOut 109 = .ok (.goto (-101), 3) := by decide +kernel
theorem dX10_wornOut_70 : decode cX10_wornOut 70 = .ok (.iload 4, 2) := by decide +kernel
theorem dX10_wornOut_72 : decode cX10_wornOut 72 = .ok (.iload_n 2, 1) := by decide +kernel
theorem dX10_wornOut_73 : decode cX10_wornOut 73 = .ok (.if_icmp .ge 7, 3) := by decide +kernel
theorem dX10_wornOut_76 : decode cX10_wornOut 76 = .ok (.iconst 1, 1) := by decide +kernel
theorem dX10_wornOut_77 : decode cX10_wornOut 77 = .ok (.goto 4, 3) := by decide +kernel
theorem dX10_wornOut_88 : decode cX10_wornOut 88 = .ok (.iload_n 3, 1) := by decide +kernel
theorem dX10_wornOut_89 : decode cX10_wornOut 89 = .ok (.goto 4, 3) := by decide +kernel
theorem dX10_wornOut_99 : decode cX10_wornOut 99 = .ok (.iload 4, 2) := by decide +kernel
theorem dX10_wornOut_101 : decode cX10_wornOut 101 = .ok (.goto 4, 3) := by decide +kernel
theorem dX10_wornOut_22 : decode cX10_wornOut 22 = .ok (.iload 5, 2) := by decide +kernel
theorem dX10_wornOut_24 : decode cX10_wornOut 24 = .ok (.aload_n 0, 1) := by decide +kernel
theorem dX10_wornOut_25 : decode cX10_wornOut 25 = .ok (.getfield 17, 3) := by decide +kernel
theorem dX10_wornOut_28 : decode cX10_wornOut 28 = .ok (.if_icmp .ge 34, 3) := by decide +kernel
theorem dX10_wornOut_31 : decode cX10_wornOut 31 = .ok (.aload_n 0, 1) := by decide +kernel
theorem dX10_wornOut_32 : decode cX10_wornOut 32 = .ok (.iload_n 3, 1) := by decide +kernel
theorem dX10_wornOut_33 : decode cX10_wornOut 33 = .ok (.iload 5, 2) := by decide +kernel
theorem dX10_wornOut_35 : decode cX10_wornOut 35 = .ok (.invokevirtual 285, 3) := by decide +kernel
theorem dX10_wornOut_38 : decode cX10_wornOut 38 = .ok (.istore 6, 2) := by decide +kernel
theorem dX10_wornOut_40 : decode cX10_wornOut 40 = .ok (.iload 6, 2) := by decide +kernel
theorem dX10_wornOut_42 : decode cX10_wornOut 42 = .ok (.iload 4, 2) := by decide +kernel
theorem dX10_wornOut_44 : decode cX10_wornOut 44 = .ok (.if_icmp .le 8, 3) := by decide +kernel
theorem dX10_wornOut_52 : decode cX10_wornOut 52 = .ok (.iload 4, 2) := by decide +kernel
theorem dX10_wornOut_54 : decode cX10_wornOut 54 = .ok (.istore 4, 2) := by decide +kernel
theorem dX10_wornOut_56 : decode cX10_wornOut 56 = .ok (.iinc 5 1, 3) := by decide +kernel
theorem dX10_wornOut_59 : decode cX10_wornOut 59 = .ok (.goto (-37), 3) := by decide +kernel
theorem dX10_wornOut_47 : decode cX10_wornOut 47 = .ok (.iload 6, 2) := by decide +kernel
theorem dX10_wornOut_49 : decode cX10_wornOut 49 = .ok (.goto 5, 3) := by decide +kernel
theorem dX10_hire_0 : decode cX10_hire 0 = .ok (.aload_n 0, 1) := by decide +kernel
theorem dX10_hire_1 : decode cX10_hire 1 = .ok (.iload_n 1, 1) := by decide +kernel
theorem dX10_hire_2 : decode cX10_hire 2 = .ok (.invokevirtual 196, 3) := by decide +kernel
theorem dX10_hire_5 : decode cX10_hire 5 = .ok (.ifCond .ne 6, 3) := by decide +kernel
theorem dX10_hire_11 : decode cX10_hire 11 = .ok (.iload_n 2, 1) := by decide +kernel
theorem dX10_hire_12 : decode cX10_hire 12 = .ok (.i2l, 1) := by decide +kernel
theorem dX10_hire_13 : decode cX10_hire 13 = .ok (.lconst 0, 1) := by decide +kernel
theorem dX10_hire_14 : decode cX10_hire 14 = .ok (.lconst 1, 1) := by decide +kernel
theorem dX10_hire_15 : decode cX10_hire 15 = .ok (.invokestatic 84, 3) := by decide +kernel
theorem dX10_hire_18 : decode cX10_hire 18 = .ok (.ifCond .ne 6, 3) := by decide +kernel
theorem dX10_hire_24 : decode cX10_hire 24 = .ok (.iconst (-1), 1) := by decide +kernel
theorem dX10_hire_25 : decode cX10_hire 25 = .ok (.istore_n 3, 1) := by decide +kernel
theorem dX10_hire_26 : decode cX10_hire 26 = .ok (.ldc_w 270, 3) := by decide +kernel
theorem dX10_hire_29 : decode cX10_hire 29 = .ok (.istore 4, 2) := by decide +kernel
theorem dX10_hire_31 : decode cX10_hire 31 = .ok (.ldc_w 270, 3) := by decide +kernel
theorem dX10_hire_34 : decode cX10_hire 34 = .ok (.istore 5, 2) := by decide +kernel
theorem dX10_hire_36 : decode cX10_hire 36 = .ok (.iconst 0, 1) := by decide +kernel
theorem dX10_hire_37 : decode cX10_hire 37 = .ok (.istore 6, 2) := by decide +kernel
theorem dX10_hire_135 : decode cX10_hire 135 = .ok (.iload_n 3, 1) := by decide +kernel
theorem dX10_hire_136 : decode cX10_hire 136 = .ok (.iconst (-1), 1) := by decide +kernel
theorem dX10_hire_137 : decode cX10_hire 137 = .ok (.if_icmp .eq 7, 3) := by decide +kernel
theorem dX10_hire_144 : decode cX10_hire 144 = .ok (.iload_n 3, 1) := by decide +kernel
theorem dX10_hire_145 : decode cX10_hire 145 = .ok (.goto 18, 3) := by decide +kernel
theorem dX10_hire_163 : decode cX10_hire 163 = .ok (.ireturn, 1) := by decide +kernel
theorem dX10_hire_140 : decode cX10_hire 140 = .ok (.iload_n 2, 1) := by decide +kernel
theorem dX10_hire_141 : decode cX10_hire 141 = .ok (.ifCond .ne 7, 3) := by decide +kernel
theorem dX10_hire_148 : decode cX10_hire 148 = .ok (.iload 5, 2) := by decide +kernel
theorem dX10_hire_150 : decode cX10_hire 150 = .ok (.ldc_w 270, 3) := by decide +kernel
theorem dX10_hire_153 : decode cX10_hire 153 = .ok (.if_icmp .ne 8, 3) := by decide +kernel
theorem dX10_hire_161 : decode cX10_hire 161 = .ok (.iload 5, 2) := by decide +kernel
theorem dX10_hire_156 : decode cX10_hire 156 = .ok (.iload 4, 2) := by decide +kernel
theorem dX10_hire_158 : decode cX10_hire 158 = .ok (.goto 5, 3) := by decide +kernel
theorem dX10_hire_39 : decode cX10_hire 39 = .ok (.iload 6, 2) := by decide +kernel
theorem dX10_hire_41 : decode cX10_hire 41 = .ok (.aload_n 0, 1) := by decide +kernel
theorem dX10_hire_42 : decode cX10_hire 42 = .ok (.getfield 78, 3) := by decide +kernel
theorem dX10_hire_45 : decode cX10_hire 45 = .ok (.if_icmp .ge 90, 3) := by decide +kernel
theorem dX10_hire_48 : decode cX10_hire 48 = .ok (.aload_n 0, 1) := by decide +kernel
theorem dX10_hire_49 : decode cX10_hire 49 = .ok (.iload 6, 2) := by decide +kernel
theorem dX10_hire_51 : decode cX10_hire 51 = .ok (.iload_n 1, 1) := by decide +kernel
theorem dX10_hire_52 : decode cX10_hire 52 = .ok (.invokevirtual 267, 3) := by decide +kernel
theorem dX10_hire_55 : decode cX10_hire 55 = .ok (.iconst (-1), 1) := by decide +kernel
theorem dX10_hire_56 : decode cX10_hire 56 = .ok (.if_icmp .ne 9, 3) := by decide +kernel
theorem dX10_hire_65 : decode cX10_hire 65 = .ok (.aload_n 0, 1) := by decide +kernel
theorem dX10_hire_66 : decode cX10_hire 66 = .ok (.getfield 264, 3) := by decide +kernel
theorem dX10_hire_69 : decode cX10_hire 69 = .ok (.istore 7, 2) := by decide +kernel
theorem dX10_hire_71 : decode cX10_hire 71 = .ok (.iload 7, 2) := by decide +kernel
theorem dX10_hire_73 : decode cX10_hire 73 = .ok (.iload 4, 2) := by decide +kernel
theorem dX10_hire_75 : decode cX10_hire 75 = .ok (.if_icmp .ge 8, 3) := by decide +kernel
theorem dX10_hire_83 : decode cX10_hire 83 = .ok (.iload 7, 2) := by decide +kernel
theorem dX10_hire_85 : decode cX10_hire 85 = .ok (.iload 5, 2) := by decide +kernel
theorem dX10_hire_87 : decode cX10_hire 87 = .ok (.if_icmp .ge 8, 3) := by decide +kernel
theorem dX10_hire_95 : decode cX10_hire 95 = .ok (.iload 5, 2) := by decide +kernel
theorem dX10_hire_97 : decode cX10_hire 97 = .ok (.istore 5, 2) := by decide +kernel
theorem dX10_hire_99 : decode cX10_hire 99 = .ok (.iload 7, 2) := by decide +kernel
theorem dX10_hire_101 : decode cX10_hire 101 = .ok (.iload 4, 2) := by decide +kernel
theorem dX10_hire_103 : decode cX10_hire 103 = .ok (.if_icmp .ge 8, 3) := by decide +kernel
theorem dX10_hire_111 : decode cX10_hire 111 = .ok (.iload_n 3, 1) := by decide +kernel
theorem dX10_hire_112 : decode cX10_hire 112 = .ok (.istore_n 3, 1) := by decide +kernel
theorem dX10_hire_113 : decode cX10_hire 113 = .ok (.iload 7, 2) := by decide +kernel
theorem dX10_hire_115 : decode cX10_hire 115 = .ok (.iload 4, 2) := by decide +kernel
theorem dX10_hire_117 : decode cX10_hire 117 = .ok (.if_icmp .ge 8, 3) := by decide +kernel
theorem dX10_hire_125 : decode cX10_hire 125 = .ok (.iload 4, 2) := by decide +kernel
theorem dX10_hire_127 : decode cX10_hire 127 = .ok (.istore 4, 2) := by decide +kernel
theorem dX10_hire_129 : decode cX10_hire 129 = .ok (.iinc 6 1, 3) := by decide +kernel
theorem dX10_hire_132 : decode cX10_hire 132 = .ok (.goto (-93), 3) := by decide +kernel
theorem dX10_hire_120 : decode cX10_hire 120 = .ok (.iload 7, 2) := by decide +kernel
theorem dX10_hire_122 : decode cX10_hire 122 = .ok (.goto 5, 3) := by decide +kernel
theorem dX10_hire_106 : decode cX10_hire 106 = .ok (.iload 6, 2) := by decide +kernel
theorem dX10_hire_108 : decode cX10_hire 108 = .ok (.goto 4, 3) := by decide +kernel
theorem dX10_hire_90 : decode cX10_hire 90 = .ok (.iload 7, 2) := by decide +kernel
theorem dX10_hire_92 : decode cX10_hire 92 = .ok (.goto 5, 3) := by decide +kernel
theorem dX10_hire_78 : decode cX10_hire 78 = .ok (.iload 4, 2) := by decide +kernel
theorem dX10_hire_80 : decode cX10_hire 80 = .ok (.goto 17, 3) := by decide +kernel
theorem dX10_hire_59 : decode cX10_hire 59 = .ok (.ldc_w 270, 3) := by decide +kernel
theorem dX10_hire_62 : decode cX10_hire 62 = .ok (.goto 7, 3) := by decide +kernel
theorem dX10_hire_21 : decode cX10_hire 21 = .ok (.ldc 93, 2) := by decide +kernel
theorem dX10_hire_23 : decode cX10_hire 23 = .ok (.ireturn, 1) := by decide +kernel
theorem dX10_hire_8 : decode cX10_hire 8 = .ok (.ldc 199, 2) := by decide +kernel
theorem dX10_hire_10 : decode cX10_hire 10 = .ok (.ireturn, 1) := by decide +kernel
theorem dX10_toldHer_0 : decode cX10_toldHer 0 = .ok (.aload_n 0, 1) := by decide +kernel
theorem dX10_toldHer_1 : decode cX10_toldHer 1 = .ok (.iload_n 1, 1) := by decide +kernel
theorem dX10_toldHer_2 : decode cX10_toldHer 2 = .ok (.invokevirtual 196, 3) := by decide +kernel
theorem dX10_toldHer_5 : decode cX10_toldHer 5 = .ok (.ifCond .ne 6, 3) := by decide +kernel
theorem dX10_toldHer_11 : decode cX10_toldHer 11 = .ok (.iload_n 2, 1) := by decide +kernel
theorem dX10_toldHer_12 : decode cX10_toldHer 12 = .ok (.i2l, 1) := by decide +kernel
theorem dX10_toldHer_13 : decode cX10_toldHer 13 = .ok (.lconst 1, 1) := by decide +kernel
theorem wd_667 : Cond.constantLong RX10 283 (60) ∈ BG := BG_at 1138 (by decide +kernel) rfl
theorem dX10_toldHer_14 : decode cX10_toldHer 14 = .ok (.ldc2_w 283, 3) := by decide +kernel
theorem dX10_toldHer_17 : decode cX10_toldHer 17 = .ok (.invokestatic 84, 3) := by decide +kernel
theorem dX10_toldHer_20 : decode cX10_toldHer 20 = .ok (.ifCond .ne 6, 3) := by decide +kernel
theorem dX10_toldHer_26 : decode cX10_toldHer 26 = .ok (.iconst 0, 1) := by decide +kernel
theorem dX10_toldHer_27 : decode cX10_toldHer 27 = .ok (.istore 4, 2) := by decide +kernel
theorem dX10_toldHer_29 : decode cX10_toldHer 29 = .ok (.iconst 0, 1) := by decide +kernel
theorem dX10_toldHer_30 : decode cX10_toldHer 30 = .ok (.istore 5, 2) := by decide +kernel
theorem dX10_toldHer_32 : decode cX10_toldHer 32 = .ok (.iconst (-1), 1) := by decide +kernel
theorem dX10_toldHer_33 : decode cX10_toldHer 33 = .ok (.istore 6, 2) := by decide +kernel
theorem dX10_toldHer_35 : decode cX10_toldHer 35 = .ok (.iconst 0, 1) := by decide +kernel
theorem dX10_toldHer_36 : decode cX10_toldHer 36 = .ok (.istore 7, 2) := by decide +kernel
theorem dX10_toldHer_147 : decode cX10_toldHer 147 = .ok (.iload_n 3, 1) := by decide +kernel
theorem dX10_toldHer_148 : decode cX10_toldHer 148 = .ok (.iconst (-1), 1) := by decide +kernel
theorem dX10_toldHer_149 : decode cX10_toldHer 149 = .ok (.if_icmp .ne 8, 3) := by decide +kernel
theorem dX10_toldHer_157 : decode cX10_toldHer 157 = .ok (.iload_n 3, 1) := by decide +kernel
theorem dX10_toldHer_158 : decode cX10_toldHer 158 = .ok (.bipush (-2), 2) := by decide +kernel
theorem dX10_toldHer_160 : decode cX10_toldHer 160 = .ok (.if_icmp .ne 8, 3) := by decide +kernel
theorem dX10_toldHer_168 : decode cX10_toldHer 168 = .ok (.iload 6, 2) := by decide +kernel
theorem dX10_toldHer_170 : decode cX10_toldHer 170 = .ok (.ireturn, 1) := by decide +kernel
theorem dX10_toldHer_163 : decode cX10_toldHer 163 = .ok (.iload 5, 2) := by decide +kernel
theorem dX10_toldHer_165 : decode cX10_toldHer 165 = .ok (.goto 5, 3) := by decide +kernel
theorem dX10_toldHer_152 : decode cX10_toldHer 152 = .ok (.iload 4, 2) := by decide +kernel
theorem dX10_toldHer_154 : decode cX10_toldHer 154 = .ok (.goto 16, 3) := by decide +kernel
theorem dX10_toldHer_38 : decode cX10_toldHer 38 = .ok (.iload 7, 2) := by decide +kernel
theorem dX10_toldHer_40 : decode cX10_toldHer 40 = .ok (.aload_n 0, 1) := by decide +kernel
theorem dX10_toldHer_41 : decode cX10_toldHer 41 = .ok (.getfield 78, 3) := by decide +kernel
theorem dX10_toldHer_44 : decode cX10_toldHer 44 = .ok (.if_icmp .ge 103, 3) := by decide +kernel
theorem dX10_toldHer_47 : decode cX10_toldHer 47 = .ok (.iconst 0, 1) := by decide +kernel
theorem dX10_toldHer_48 : decode cX10_toldHer 48 = .ok (.istore 8, 2) := by decide +kernel
theorem dX10_toldHer_141 : decode cX10_toldHer 141 = .ok (.iinc 7 1, 3) := by decide +kernel
theorem dX10_toldHer_144 : decode cX10_toldHer 144 = .ok (.goto (-106), 3) := by decide +kernel
theorem dX10_toldHer_50 : decode cX10_toldHer 50 = .ok (.iload 8, 2) := by decide +kernel
theorem dX10_toldHer_52 : decode cX10_toldHer 52 = .ok (.aload_n 0, 1) := by decide +kernel
theorem dX10_toldHer_53 : decode cX10_toldHer 53 = .ok (.getfield 17, 3) := by decide +kernel
theorem dX10_toldHer_56 : decode cX10_toldHer 56 = .ok (.if_icmp .ge 85, 3) := by decide +kernel
theorem dX10_toldHer_59 : decode cX10_toldHer 59 = .ok (.aload_n 0, 1) := by decide +kernel
theorem dX10_toldHer_60 : decode cX10_toldHer 60 = .ok (.iload 7, 2) := by decide +kernel
theorem dX10_toldHer_62 : decode cX10_toldHer 62 = .ok (.iload 8, 2) := by decide +kernel
theorem dX10_toldHer_64 : decode cX10_toldHer 64 = .ok (.aload_n 0, 1) := by decide +kernel
theorem dX10_toldHer_65 : decode cX10_toldHer 65 = .ok (.getfield 24, 3) := by decide +kernel
theorem dX10_toldHer_68 : decode cX10_toldHer 68 = .ok (.iload 7, 2) := by decide +kernel
theorem dX10_toldHer_70 : decode cX10_toldHer 70 = .ok (.iaload, 1) := by decide +kernel
theorem dX10_toldHer_71 : decode cX10_toldHer 71 = .ok (.aload_n 0, 1) := by decide +kernel
theorem dX10_toldHer_72 : decode cX10_toldHer 72 = .ok (.getfield 21, 3) := by decide +kernel
theorem dX10_toldHer_75 : decode cX10_toldHer 75 = .ok (.iload_n 1, 1) := by decide +kernel
theorem dX10_toldHer_76 : decode cX10_toldHer 76 = .ok (.iaload, 1) := by decide +kernel
theorem dX10_toldHer_77 : decode cX10_toldHer 77 = .ok (.invokevirtual 237, 3) := by decide +kernel
theorem dX10_toldHer_80 : decode cX10_toldHer 80 = .ok (.aload_n 0, 1) := by decide +kernel
theorem dX10_toldHer_81 : decode cX10_toldHer 81 = .ok (.getfield 226, 3) := by decide +kernel
theorem dX10_toldHer_84 : decode cX10_toldHer 84 = .ok (.ifCond .ne 51, 3) := by decide +kernel
theorem dX10_toldHer_135 : decode cX10_toldHer 135 = .ok (.iinc 8 1, 3) := by decide +kernel
theorem dX10_toldHer_138 : decode cX10_toldHer 138 = .ok (.goto (-88), 3) := by decide +kernel
theorem dX10_toldHer_87 : decode cX10_toldHer 87 = .ok (.aload_n 0, 1) := by decide +kernel
theorem dX10_toldHer_88 : decode cX10_toldHer 88 = .ok (.getfield 219, 3) := by decide +kernel
theorem dX10_toldHer_91 : decode cX10_toldHer 91 = .ok (.ifCond .ne 44, 3) := by decide +kernel
theorem dX10_toldHer_94 : decode cX10_toldHer 94 = .ok (.aload_n 0, 1) := by decide +kernel
theorem dX10_toldHer_95 : decode cX10_toldHer 95 = .ok (.getfield 216, 3) := by decide +kernel
theorem dX10_toldHer_98 : decode cX10_toldHer 98 = .ok (.iload_n 2, 1) := by decide +kernel
theorem dX10_toldHer_99 : decode cX10_toldHer 99 = .ok (.if_icmp .ne 36, 3) := by decide +kernel
theorem dX10_toldHer_102 : decode cX10_toldHer 102 = .ok (.iload 4, 2) := by decide +kernel
theorem dX10_toldHer_104 : decode cX10_toldHer 104 = .ok (.iload_n 3, 1) := by decide +kernel
theorem dX10_toldHer_105 : decode cX10_toldHer 105 = .ok (.if_icmp .ne 14, 3) := by decide +kernel
theorem dX10_toldHer_119 : decode cX10_toldHer 119 = .ok (.iload 6, 2) := by decide +kernel
theorem dX10_toldHer_121 : decode cX10_toldHer 121 = .ok (.istore 6, 2) := by decide +kernel
theorem dX10_toldHer_123 : decode cX10_toldHer 123 = .ok (.iload 5, 2) := by decide +kernel
theorem dX10_toldHer_125 : decode cX10_toldHer 125 = .ok (.iconst 1, 1) := by decide +kernel
theorem dX10_toldHer_126 : decode cX10_toldHer 126 = .ok (.iload 8, 2) := by decide +kernel
theorem dX10_toldHer_128 : decode cX10_toldHer 128 = .ok (.ishl, 1) := by decide +kernel
theorem dX10_toldHer_129 : decode cX10_toldHer 129 = .ok (.ior, 1) := by decide +kernel
theorem dX10_toldHer_130 : decode cX10_toldHer 130 = .ok (.istore 5, 2) := by decide +kernel
theorem dX10_toldHer_132 : decode cX10_toldHer 132 = .ok (.iinc 4 1, 3) := by decide +kernel
theorem dX10_toldHer_108 : decode cX10_toldHer 108 = .ok (.bipush 10, 2) := by decide +kernel
theorem dX10_toldHer_110 : decode cX10_toldHer 110 = .ok (.iload 7, 2) := by decide +kernel
theorem dX10_toldHer_112 : decode cX10_toldHer 112 = .ok (.imul, 1) := by decide +kernel
theorem dX10_toldHer_113 : decode cX10_toldHer 113 = .ok (.iload 8, 2) := by decide +kernel
theorem dX10_toldHer_115 : decode cX10_toldHer 115 = .ok (.iadd, 1) := by decide +kernel
theorem dX10_toldHer_116 : decode cX10_toldHer 116 = .ok (.goto 5, 3) := by decide +kernel
theorem dX10_toldHer_23 : decode cX10_toldHer 23 = .ok (.ldc 93, 2) := by decide +kernel
theorem dX10_toldHer_25 : decode cX10_toldHer 25 = .ok (.ireturn, 1) := by decide +kernel
theorem dX10_toldHer_8 : decode cX10_toldHer 8 = .ok (.ldc 199, 2) := by decide +kernel
theorem dX10_toldHer_10 : decode cX10_toldHer 10 = .ok (.ireturn, 1) := by decide +kernel
noncomputable def f_m_wornOut_22 (f0 : Nat → Int32) (f10 : Nat → Int32) (w_1l3 : Int32) (n : Nat) : Int32 → Int32 → (Nat → Int32) → Int32 × Int32 × (Nat → Int32) := Nat.rec (motive := fun _ => Int32 → Int32 → (Nat → Int32) → Int32 × Int32 × (Nat → Int32)) (fun w_3l5 w_3l4 w_3m0 => (w_3l5, w_3l4, w_3m0)) (fun n ih w_3l5 w_3l4 w_3m0 => (if (w_3m0 4) ≤ w_3l5 then (w_3l5, w_3l4, w_3m0) else (match (f_m_lastsOf w_3m0 f0 f10 w_1l3 w_3l5) with | (r_18, u_17) => (if r_18 ≤ w_3l4 then (ih (w_3l5 + 1) w_3l4 u_17) else (ih (w_3l5 + 1) r_18 u_17))))) n
theorem f_m_wornOut_22_s (f0 : Nat → Int32) (f10 : Nat → Int32) (w_1l3 : Int32) (n : Nat) (w_3l5 : Int32) (w_3l4 : Int32) (w_3m0 : (Nat → Int32)) : f_m_wornOut_22 f0 f10 w_1l3 (n + 1) w_3l5 w_3l4 w_3m0 = (if (w_3m0 4) ≤ w_3l5 then (w_3l5, w_3l4, w_3m0) else (match (f_m_lastsOf w_3m0 f0 f10 w_1l3 w_3l5) with | (r_18, u_17) => (if r_18 ≤ w_3l4 then (f_m_wornOut_22 f0 f10 w_1l3 n (w_3l5 + 1) w_3l4 u_17) else (f_m_wornOut_22 f0 f10 w_1l3 n (w_3l5 + 1) r_18 u_17)))) := rfl
def S_m_wornOut_22 (f0 : Nat → Int32) (f10 : Nat → Int32) (w_1l3 : Int32) (K : Int32 → Int32 → (Nat → Int32) → Prop) (n : Nat) : Int32 → Int32 → (Nat → Int32) → Prop := Nat.rec (motive := fun _ => Int32 → Int32 → (Nat → Int32) → Prop) (fun _ _ _ => False) (fun n ih w_3l5 w_3l4 w_3m0 => (((w_3m0 4) ≤ w_3l5 → (K w_3l5 w_3l4 w_3m0)) ∧ (¬ (w_3m0 4) ≤ w_3l5 → ((S_m_lastsOf w_3m0 f0 f10 w_1l3 w_3l5) ∧ (∀ (r_18 : Int32) (u_17 : (Nat → Int32)), (r_18, u_17) = (f_m_lastsOf w_3m0 f0 f10 w_1l3 w_3l5) → ((r_18 ≤ w_3l4 → (ih (w_3l5 + 1) w_3l4 u_17)) ∧ (¬ r_18 ≤ w_3l4 → (ih (w_3l5 + 1) r_18 u_17)))))))) n
theorem S_m_wornOut_22_s (f0 : Nat → Int32) (f10 : Nat → Int32) (w_1l3 : Int32) (K : Int32 → Int32 → (Nat → Int32) → Prop) (n : Nat) (w_3l5 : Int32) (w_3l4 : Int32) (w_3m0 : (Nat → Int32)) : S_m_wornOut_22 f0 f10 w_1l3 K (n + 1) w_3l5 w_3l4 w_3m0 = ((((w_3m0 4) ≤ w_3l5 → (K w_3l5 w_3l4 w_3m0)) ∧ (¬ (w_3m0 4) ≤ w_3l5 → ((S_m_lastsOf w_3m0 f0 f10 w_1l3 w_3l5) ∧ (∀ (r_18 : Int32) (u_17 : (Nat → Int32)), (r_18, u_17) = (f_m_lastsOf w_3m0 f0 f10 w_1l3 w_3l5) → ((r_18 ≤ w_3l4 → (S_m_wornOut_22 f0 f10 w_1l3 K n (w_3l5 + 1) w_3l4 u_17)) ∧ (¬ r_18 ≤ w_3l4 → (S_m_wornOut_22 f0 f10 w_1l3 K n (w_3l5 + 1) r_18 u_17)))))))) := rfl
noncomputable def f_m_wornOut_8 (f0 : Nat → Int32) (f10 : Nat → Int32) (n : Nat) : Int32 → Int32 → Int32 → (Nat → Int32) → Int32 × Int32 × Int32 × (Nat → Int32) := Nat.rec (motive := fun _ => Int32 → Int32 → Int32 → (Nat → Int32) → Int32 × Int32 × Int32 × (Nat → Int32)) (fun w_1l3 w_1l2 w_1l1 w_1m0 => (w_1l3, w_1l2, w_1l1, w_1m0)) (fun n ih w_1l3 w_1l2 w_1l1 w_1m0 => (if (w_1m0 5) ≤ w_1l3 then (w_1l3, w_1l2, w_1l1, w_1m0) else (match ((f_m_wornOut_22 f0 f10 w_1l3 10 0 0 w_1m0) : Int32 × Int32 × (Nat → Int32)) with | (w_3l5, w_3l4, w_3m0) => (if (f_m_isDone f0 w_1l3) = 0 then (if w_1l2 ≤ w_3l4 then (ih (w_1l3 + 1) w_1l2 w_1l1 w_3m0) else (ih (w_1l3 + 1) w_3l4 w_1l3 w_3m0)) else (ih (w_1l3 + 1) w_1l2 w_1l1 w_3m0))))) n
theorem f_m_wornOut_8_s (f0 : Nat → Int32) (f10 : Nat → Int32) (n : Nat) (w_1l3 : Int32) (w_1l2 : Int32) (w_1l1 : Int32) (w_1m0 : (Nat → Int32)) : f_m_wornOut_8 f0 f10 (n + 1) w_1l3 w_1l2 w_1l1 w_1m0 = (if (w_1m0 5) ≤ w_1l3 then (w_1l3, w_1l2, w_1l1, w_1m0) else (match ((f_m_wornOut_22 f0 f10 w_1l3 10 0 0 w_1m0) : Int32 × Int32 × (Nat → Int32)) with | (w_3l5, w_3l4, w_3m0) => (if (f_m_isDone f0 w_1l3) = 0 then (if w_1l2 ≤ w_3l4 then (f_m_wornOut_8 f0 f10 n (w_1l3 + 1) w_1l2 w_1l1 w_3m0) else (f_m_wornOut_8 f0 f10 n (w_1l3 + 1) w_3l4 w_1l3 w_3m0)) else (f_m_wornOut_8 f0 f10 n (w_1l3 + 1) w_1l2 w_1l1 w_3m0)))) := rfl
def S_m_wornOut_8 (f0 : Nat → Int32) (f10 : Nat → Int32) (K : Int32 → Int32 → Int32 → (Nat → Int32) → Prop) (n : Nat) : Int32 → Int32 → Int32 → (Nat → Int32) → Prop := Nat.rec (motive := fun _ => Int32 → Int32 → Int32 → (Nat → Int32) → Prop) (fun _ _ _ _ => False) (fun n ih w_1l3 w_1l2 w_1l1 w_1m0 => (((w_1m0 5) ≤ w_1l3 → (K w_1l3 w_1l2 w_1l1 w_1m0)) ∧ (¬ (w_1m0 5) ≤ w_1l3 → (S_m_wornOut_22 f0 f10 w_1l3 (fun (w_3l5 : Int32) (w_3l4 : Int32) (w_3m0 : (Nat → Int32)) => ((S_m_isDone f0 w_1l3) ∧ (((f_m_isDone f0 w_1l3) = 0 → ((w_1l2 ≤ w_3l4 → (ih (w_1l3 + 1) w_1l2 w_1l1 w_3m0)) ∧ (¬ w_1l2 ≤ w_3l4 → (ih (w_1l3 + 1) w_3l4 w_1l3 w_3m0)))) ∧ (¬ (f_m_isDone f0 w_1l3) = 0 → (ih (w_1l3 + 1) w_1l2 w_1l1 w_3m0))))) 10 0 0 w_1m0)))) n
theorem S_m_wornOut_8_s (f0 : Nat → Int32) (f10 : Nat → Int32) (K : Int32 → Int32 → Int32 → (Nat → Int32) → Prop) (n : Nat) (w_1l3 : Int32) (w_1l2 : Int32) (w_1l1 : Int32) (w_1m0 : (Nat → Int32)) : S_m_wornOut_8 f0 f10 K (n + 1) w_1l3 w_1l2 w_1l1 w_1m0 = ((((w_1m0 5) ≤ w_1l3 → (K w_1l3 w_1l2 w_1l1 w_1m0)) ∧ (¬ (w_1m0 5) ≤ w_1l3 → (S_m_wornOut_22 f0 f10 w_1l3 (fun (w_3l5 : Int32) (w_3l4 : Int32) (w_3m0 : (Nat → Int32)) => ((S_m_isDone f0 w_1l3) ∧ (((f_m_isDone f0 w_1l3) = 0 → ((w_1l2 ≤ w_3l4 → (S_m_wornOut_8 f0 f10 K n (w_1l3 + 1) w_1l2 w_1l1 w_3m0)) ∧ (¬ w_1l2 ≤ w_3l4 → (S_m_wornOut_8 f0 f10 K n (w_1l3 + 1) w_3l4 w_1l3 w_3m0)))) ∧ (¬ (f_m_isDone f0 w_1l3) = 0 → (S_m_wornOut_8 f0 f10 K n (w_1l3 + 1) w_1l2 w_1l1 w_3m0))))) 10 0 0 w_1m0)))) := rfl
noncomputable def f_m_wornOut (G : Nat → Int32) (f0 : Nat → Int32) (f10 : Nat → Int32) : Int32 × (Nat → Int32) := (match ((f_m_wornOut_8 f0 f10 10 0 1000000000 (-1) G) : Int32 × Int32 × Int32 × (Nat → Int32)) with | (w_1l3, w_1l2, w_1l1, w_1m0) => (w_1l1, w_1m0))
def S_m_wornOut (G : Nat → Int32) (f0 : Nat → Int32) (f10 : Nat → Int32) : Prop := (S_m_wornOut_8 f0 f10 (fun (w_1l3 : Int32) (w_1l2 : Int32) (w_1l1 : Int32) (w_1m0 : (Nat → Int32)) => True) 10 0 1000000000 (-1) G)
def rm_m_wornOut : Room := { frames := 3, cells := 0, slots := 0, locals := 72 }
set_option maxHeartbeats 4000000 in
set_option maxRecDepth 100000 in
theorem m_wornOut {l : Launch} {D : va_G} {cI cZ : ClassId} {sz : Nat} (Rf : Nat → Nat) (h : Nat) (G : Nat → Int32) (f0 : Nat → Int32) (f10 : Nat → Int32) (hF : S_m_wornOut G f0 f10) : KI l yX10_wornOut cX10_wornOut 7 (some .int) rm_m_wornOut D cI cZ [.ref h] sz [(h, .inr (10, ML G Rf)), ((Rf 0), .inl (cI, 1302, .inl f0)), ((Rf 10), .inl (cI, 30, .inl f10))] (fun (r : Int32) (u : (Nat → Int32)) => (r, u) = f_m_wornOut G f0 f10) (fun (u : (Nat → Int32)) => [(h, .inr (10, ML u Rf)), ((Rf 0), .inl (cI, 1302, .inl f0)), ((Rf 10), .inl (cI, 30, .inl f10))]) := by
  refine KI.go rfl (Nat.le_of_ble_eq_true rfl) ?_
  intro p e s m args below meth c ls A Q hx hb hml hts hown hin hP hK hD hS hA hN hl hret
  have hl : lv_has ls 7 [(0, .ref h)] := hl
  rw [S_m_wornOut] at hF
  obtain ⟨RES, hE⟩ : ∃ xRES, f_m_wornOut G f0 f10 = xRES := ⟨_, rfl⟩
  rw [hE] at hret
  rw [f_m_wornOut] at hE
  refine lv_iconst (v := (-1)) hx hb dX10_wornOut_0 (by decide) ?_
  refine lv_istore_n (lv' := [(1, .int (-1)), (0, .ref h)]) hx hb dX10_wornOut_1 rfl hl (by decide) rfl (fun ls hl => ?_)
  refine lv_ldcw (v := 1000000000) hx hb hown (hts _ wd_651) dX10_wornOut_2 ?_
  refine lv_istore_n (lv' := [(2, .int 1000000000), (1, .int (-1)), (0, .ref h)]) hx hb dX10_wornOut_5 rfl hl (by decide) rfl (fun ls hl => ?_)
  refine lv_iconst (v := 0) hx hb dX10_wornOut_6 (by decide) ?_
  refine lv_istore_n (lv' := [(3, .int 0), (2, .int 1000000000), (1, .int (-1)), (0, .ref h)]) hx hb dX10_wornOut_7 rfl hl (by decide) rfl (fun ls hl => ?_)
  have ex_8_w_1 : ∀ (w_1l3 : Int32) (w_1l2 : Int32) (w_1l1 : Int32) (w_1m0 : (Nat → Int32)) (H : Heap) (locs : List Loc) (ls : Array Slot), va_P D classes [(h, .inr (10, ML w_1m0 Rf)), ((Rf 0), .inl (cI, 1302, .inl f0)), ((Rf 10), .inl (cI, 30, .inl f10))] H → va_D A [(h, .inr (10, ML w_1m0 Rf)), ((Rf 0), .inl (cI, 1302, .inl f0)), ((Rf 10), .inl (cI, 30, .inl f10))] → va_S A s.heap H locs → lv_has ls 7 [(3, .int w_1l3), (2, .int w_1l2), (1, .int w_1l1), (0, .ref h)] → (True) → (((w_1l1, w_1m0)) : Int32 × (Nat → Int32)) = RES → W p l e rm_m_wornOut s m args below meth c H locs 0 0 Q (F0 m 112 ls []) := by
    intro w_1l3 w_1l2 w_1l1 w_1m0 H locs ls hP hD hS hl hF hE
    refine lv_iload_n hx hb dX10_wornOut_112 rfl (lv_at hl 2 rfl) ?_
    exact hret w_1l1 w_1m0 _ _ _ _ dX10_wornOut_113 rfl hE hP hD hS
  have lp_8_w_1 : ∀ (n_w_1 : Nat) (w_1l3 : Int32) (w_1l2 : Int32) (w_1l1 : Int32) (w_1m0 : (Nat → Int32)) (H : Heap) (locs : List Loc) (ls : Array Slot), va_P D classes [(h, .inr (10, ML w_1m0 Rf)), ((Rf 0), .inl (cI, 1302, .inl f0)), ((Rf 10), .inl (cI, 30, .inl f10))] H → va_D A [(h, .inr (10, ML w_1m0 Rf)), ((Rf 0), .inl (cI, 1302, .inl f0)), ((Rf 10), .inl (cI, 30, .inl f10))] → va_S A s.heap H locs → lv_has ls 7 [(3, .int w_1l3), (2, .int w_1l2), (1, .int w_1l1), (0, .ref h)] → (S_m_wornOut_8 f0 f10 (fun (w_1l3 : Int32) (w_1l2 : Int32) (w_1l1 : Int32) (w_1m0 : (Nat → Int32)) => True) n_w_1 w_1l3 w_1l2 w_1l1 w_1m0) → ((match ((f_m_wornOut_8 f0 f10 n_w_1 w_1l3 w_1l2 w_1l1 w_1m0) : Int32 × Int32 × Int32 × (Nat → Int32)) with | (w_1l3, w_1l2, w_1l1, w_1m0) => (w_1l1, w_1m0)) : Int32 × (Nat → Int32)) = RES → W p l e rm_m_wornOut s m args below meth c H locs 0 0 Q (F0 m 8 ls []) := by
    intro n_w_1
    induction n_w_1 with
    | zero => intro w_1l3 w_1l2 w_1l1 w_1m0 H locs ls hP hD hS hl hF hE; exact False.elim hF
    | succ n_w_1 ih_w_1 =>
      intro w_1l3 w_1l2 w_1l1 w_1m0 H locs ls hP hD hS hl hF hE
      rw [S_m_wornOut_8_s] at hF
      rw [f_m_wornOut_8_s] at hE
      refine lv_iload_n hx hb dX10_wornOut_8 rfl (lv_at hl 0 rfl) ?_
      refine lv_aload_n hx hb dX10_wornOut_9 rfl (lv_at hl 3 rfl) ?_
      refine va_get (D := D) (ci := 10) (v := .int (w_1m0 5)) (C := RX10) (T := TX10) (N := 45) hx hb hts iX10 hown hK hP 0 rfl rfl 5 (by decide) (hts _ wd_499) (fun _ h9 => h9) rfl dX10_wornOut_10 ?_
      refine lv_icmp_ge (tgt := 112) hx hb dX10_wornOut_13 (by decide) (fun c_2 => ?_) (fun c_2 => ?_)
      · replace hF := hF.1 c_2
        rw [if_pos c_2] at hE
        exact ex_8_w_1 w_1l3 w_1l2 w_1l1 w_1m0 _ _ ls hP hD hS (lv_sub hl [0, 1, 2, 3] rfl) hF hE
      · replace hF := hF.2 c_2
        rw [if_neg c_2] at hE
        refine lv_iconst (v := 0) hx hb dX10_wornOut_16 (by decide) ?_
        refine lv_istore (lv' := [(4, .int 0), (3, .int w_1l3), (2, .int w_1l2), (1, .int w_1l1), (0, .ref h)]) hx hb dX10_wornOut_17 hl (by decide) rfl (fun ls hl => ?_)
        refine lv_iconst (v := 0) hx hb dX10_wornOut_19 (by decide) ?_
        refine lv_istore (lv' := [(5, .int 0), (4, .int 0), (3, .int w_1l3), (2, .int w_1l2), (1, .int w_1l1), (0, .ref h)]) hx hb dX10_wornOut_20 hl (by decide) rfl (fun ls hl => ?_)
        have ex_22_w_3 : ∀ (w_3l5 : Int32) (w_3l4 : Int32) (w_3m0 : (Nat → Int32)) (H : Heap) (locs : List Loc) (ls : Array Slot), va_P D classes [(h, .inr (10, ML w_3m0 Rf)), ((Rf 0), .inl (cI, 1302, .inl f0)), ((Rf 10), .inl (cI, 30, .inl f10))] H → va_D A [(h, .inr (10, ML w_3m0 Rf)), ((Rf 0), .inl (cI, 1302, .inl f0)), ((Rf 10), .inl (cI, 30, .inl f10))] → va_S A s.heap H locs → lv_has ls 7 [(5, .int w_3l5), (4, .int w_3l4), (3, .int w_1l3), (2, .int w_1l2), (1, .int w_1l1), (0, .ref h)] → (((S_m_isDone f0 w_1l3) ∧ (((f_m_isDone f0 w_1l3) = 0 → ((w_1l2 ≤ w_3l4 → (S_m_wornOut_8 f0 f10 (fun (w_1l3 : Int32) (w_1l2 : Int32) (w_1l1 : Int32) (w_1m0 : (Nat → Int32)) => True) n_w_1 (w_1l3 + 1) w_1l2 w_1l1 w_3m0)) ∧ (¬ w_1l2 ≤ w_3l4 → (S_m_wornOut_8 f0 f10 (fun (w_1l3 : Int32) (w_1l2 : Int32) (w_1l1 : Int32) (w_1m0 : (Nat → Int32)) => True) n_w_1 (w_1l3 + 1) w_3l4 w_1l3 w_3m0)))) ∧ (¬ (f_m_isDone f0 w_1l3) = 0 → (S_m_wornOut_8 f0 f10 (fun (w_1l3 : Int32) (w_1l2 : Int32) (w_1l1 : Int32) (w_1m0 : (Nat → Int32)) => True) n_w_1 (w_1l3 + 1) w_1l2 w_1l1 w_3m0))))) → (((match ((if (f_m_isDone f0 w_1l3) = 0 then (if w_1l2 ≤ w_3l4 then (f_m_wornOut_8 f0 f10 n_w_1 (w_1l3 + 1) w_1l2 w_1l1 w_3m0) else (f_m_wornOut_8 f0 f10 n_w_1 (w_1l3 + 1) w_3l4 w_1l3 w_3m0)) else (f_m_wornOut_8 f0 f10 n_w_1 (w_1l3 + 1) w_1l2 w_1l1 w_3m0)) : Int32 × Int32 × Int32 × (Nat → Int32)) with | (w_1l3, w_1l2, w_1l1, w_1m0) => (w_1l1, w_1m0))) : Int32 × (Nat → Int32)) = RES → W p l e rm_m_wornOut s m args below meth c H locs 0 0 Q (F0 m 62 ls []) := by
          intro w_3l5 w_3l4 w_3m0 H locs ls hP hD hS hl hF hE
          refine lv_aload_n hx hb dX10_wornOut_62 rfl (lv_at hl 5 rfl) ?_
          refine lv_iload_n hx hb dX10_wornOut_63 rfl (lv_at hl 2 rfl) ?_
          obtain ⟨hs_4, hF⟩ := hF
          refine cVi (wr := [((Rf 10), .inl (cI, 30, .inl f10))]) (rest := []) (m_isDone Rf h w_3m0 f0 w_1l3 hs_4) okV_X10_isDone wd_567 hx hb hml hown hts hK hP hD hS hA hN hl.1 [0, 1] [2] rfl rfl rfl rfl (by decide) rfl rfl rfl (Nat.le_of_ble_eq_true rfl) (Nat.le_of_ble_eq_true rfl) (Nat.le_of_ble_eq_true rfl) (Nat.le_of_ble_eq_true rfl) (Nat.le_of_ble_eq_true rfl) dX10_wornOut_64 (fun r_6 u_5 H locs hw_u_5 hP hD hS => ?_)
          replace hw_u_5 : r_6 = (f_m_isDone f0 w_1l3) := hw_u_5
          rw [hw_u_5]
          clear hw_u_5
          have hP : va_P D classes [((Rf 10), .inl (cI, 30, .inl f10)), (h, .inr (10, ML w_3m0 Rf)), ((Rf 0), .inl (cI, 1302, .inl f0))] H := hP
          have hD : va_D A [((Rf 10), .inl (cI, 30, .inl f10)), (h, .inr (10, ML w_3m0 Rf)), ((Rf 0), .inl (cI, 1302, .inl f0))] := hD
          refine lv_if_ne (tgt := 80) hx hb dX10_wornOut_67 (by decide) (fun c_7 => ?_) (fun c_7 => ?_)
          · replace hF := hF.2 c_7
            rw [if_neg c_7] at hE
            refine lv_iconst (v := 0) hx hb dX10_wornOut_80 (by decide) ?_
            refine lv_istore (lv' := [(5, .int 0), (4, .int w_3l4), (3, .int w_1l3), (2, .int w_1l2), (1, .int w_1l1), (0, .ref h)]) hx hb dX10_wornOut_81 hl (by decide) rfl (fun ls hl => ?_)
            refine lv_iload hx hb dX10_wornOut_83 (lv_at hl 0 rfl) ?_
            refine lv_if_eq (tgt := 92) hx hb dX10_wornOut_85 (by decide) (fun c_8 => ?_) (fun c_8 => absurd (by decide +kernel) c_8)
            refine lv_iload_n hx hb dX10_wornOut_92 rfl (lv_at hl 4 rfl) ?_
            refine lv_istore_n (lv' := [(1, .int w_1l1), (5, .int 0), (4, .int w_3l4), (3, .int w_1l3), (2, .int w_1l2), (0, .ref h)]) hx hb dX10_wornOut_93 rfl hl (by decide) rfl (fun ls hl => ?_)
            refine lv_iload hx hb dX10_wornOut_94 (lv_at hl 1 rfl) ?_
            refine lv_if_eq (tgt := 104) hx hb dX10_wornOut_96 (by decide) (fun c_9 => ?_) (fun c_9 => absurd (by decide +kernel) c_9)
            refine lv_iload_n hx hb dX10_wornOut_104 rfl (lv_at hl 4 rfl) ?_
            refine lv_istore_n (lv' := [(2, .int w_1l2), (1, .int w_1l1), (5, .int 0), (4, .int w_3l4), (3, .int w_1l3), (0, .ref h)]) hx hb dX10_wornOut_105 rfl hl (by decide) rfl (fun ls hl => ?_)
            refine lv_iinc (v := (w_1l3 + 1)) (lv' := [(3, .int (w_1l3 + 1)), (2, .int w_1l2), (1, .int w_1l1), (5, .int 0), (4, .int w_3l4), (0, .ref h)]) hx hb dX10_wornOut_106 hl (k := 4) rfl rfl (by decide) rfl (fun ls hl => ?_)
            refine lv_goto (tgt := 8) hx hb dX10_wornOut_109 (by decide) ?_
            exact ih_w_1 (w_1l3 + 1) w_1l2 w_1l1 w_3m0 _ _ ls (cutP (isC := [1, 2, 0]) hP rfl) (cutD (isC := [1, 2, 0]) hD rfl rfl) hS (lv_sub hl [0, 1, 2, 5] rfl) hF hE
          · replace hF := hF.1 c_7
            rw [if_pos c_7] at hE
            refine lv_iload hx hb dX10_wornOut_70 (lv_at hl 1 rfl) ?_
            refine lv_iload_n hx hb dX10_wornOut_72 rfl (lv_at hl 3 rfl) ?_
            refine lv_icmp_ge (tgt := 80) hx hb dX10_wornOut_73 (by decide) (fun c_10 => ?_) (fun c_10 => ?_)
            · replace hF := hF.1 c_10
              rw [if_pos c_10] at hE
              refine lv_iconst (v := 0) hx hb dX10_wornOut_80 (by decide) ?_
              refine lv_istore (lv' := [(5, .int 0), (4, .int w_3l4), (3, .int w_1l3), (2, .int w_1l2), (1, .int w_1l1), (0, .ref h)]) hx hb dX10_wornOut_81 hl (by decide) rfl (fun ls hl => ?_)
              refine lv_iload hx hb dX10_wornOut_83 (lv_at hl 0 rfl) ?_
              refine lv_if_eq (tgt := 92) hx hb dX10_wornOut_85 (by decide) (fun c_11 => ?_) (fun c_11 => absurd (by decide +kernel) c_11)
              refine lv_iload_n hx hb dX10_wornOut_92 rfl (lv_at hl 4 rfl) ?_
              refine lv_istore_n (lv' := [(1, .int w_1l1), (5, .int 0), (4, .int w_3l4), (3, .int w_1l3), (2, .int w_1l2), (0, .ref h)]) hx hb dX10_wornOut_93 rfl hl (by decide) rfl (fun ls hl => ?_)
              refine lv_iload hx hb dX10_wornOut_94 (lv_at hl 1 rfl) ?_
              refine lv_if_eq (tgt := 104) hx hb dX10_wornOut_96 (by decide) (fun c_12 => ?_) (fun c_12 => absurd (by decide +kernel) c_12)
              refine lv_iload_n hx hb dX10_wornOut_104 rfl (lv_at hl 4 rfl) ?_
              refine lv_istore_n (lv' := [(2, .int w_1l2), (1, .int w_1l1), (5, .int 0), (4, .int w_3l4), (3, .int w_1l3), (0, .ref h)]) hx hb dX10_wornOut_105 rfl hl (by decide) rfl (fun ls hl => ?_)
              refine lv_iinc (v := (w_1l3 + 1)) (lv' := [(3, .int (w_1l3 + 1)), (2, .int w_1l2), (1, .int w_1l1), (5, .int 0), (4, .int w_3l4), (0, .ref h)]) hx hb dX10_wornOut_106 hl (k := 4) rfl rfl (by decide) rfl (fun ls hl => ?_)
              refine lv_goto (tgt := 8) hx hb dX10_wornOut_109 (by decide) ?_
              exact ih_w_1 (w_1l3 + 1) w_1l2 w_1l1 w_3m0 _ _ ls (cutP (isC := [1, 2, 0]) hP rfl) (cutD (isC := [1, 2, 0]) hD rfl rfl) hS (lv_sub hl [0, 1, 2, 5] rfl) hF hE
            · replace hF := hF.2 c_10
              rw [if_neg c_10] at hE
              refine lv_iconst (v := 1) hx hb dX10_wornOut_76 (by decide) ?_
              refine lv_goto (tgt := 81) hx hb dX10_wornOut_77 (by decide) ?_
              refine lv_istore (lv' := [(5, .int 1), (4, .int w_3l4), (3, .int w_1l3), (2, .int w_1l2), (1, .int w_1l1), (0, .ref h)]) hx hb dX10_wornOut_81 hl (by decide) rfl (fun ls hl => ?_)
              refine lv_iload hx hb dX10_wornOut_83 (lv_at hl 0 rfl) ?_
              refine lv_if_eq (tgt := 92) hx hb dX10_wornOut_85 (by decide) (fun c_13 => absurd c_13 (by decide +kernel)) (fun c_13 => ?_)
              refine lv_iload_n hx hb dX10_wornOut_88 rfl (lv_at hl 2 rfl) ?_
              refine lv_goto (tgt := 93) hx hb dX10_wornOut_89 (by decide) ?_
              refine lv_istore_n (lv' := [(1, .int w_1l3), (5, .int 1), (4, .int w_3l4), (3, .int w_1l3), (2, .int w_1l2), (0, .ref h)]) hx hb dX10_wornOut_93 rfl hl (by decide) rfl (fun ls hl => ?_)
              refine lv_iload hx hb dX10_wornOut_94 (lv_at hl 1 rfl) ?_
              refine lv_if_eq (tgt := 104) hx hb dX10_wornOut_96 (by decide) (fun c_14 => absurd c_14 (by decide +kernel)) (fun c_14 => ?_)
              refine lv_iload hx hb dX10_wornOut_99 (lv_at hl 2 rfl) ?_
              refine lv_goto (tgt := 105) hx hb dX10_wornOut_101 (by decide) ?_
              refine lv_istore_n (lv' := [(2, .int w_3l4), (1, .int w_1l3), (5, .int 1), (4, .int w_3l4), (3, .int w_1l3), (0, .ref h)]) hx hb dX10_wornOut_105 rfl hl (by decide) rfl (fun ls hl => ?_)
              refine lv_iinc (v := (w_1l3 + 1)) (lv' := [(3, .int (w_1l3 + 1)), (2, .int w_3l4), (1, .int w_1l3), (5, .int 1), (4, .int w_3l4), (0, .ref h)]) hx hb dX10_wornOut_106 hl (k := 4) rfl rfl (by decide) rfl (fun ls hl => ?_)
              refine lv_goto (tgt := 8) hx hb dX10_wornOut_109 (by decide) ?_
              exact ih_w_1 (w_1l3 + 1) w_3l4 w_1l3 w_3m0 _ _ ls (cutP (isC := [1, 2, 0]) hP rfl) (cutD (isC := [1, 2, 0]) hD rfl rfl) hS (lv_sub hl [0, 1, 2, 5] rfl) hF hE
        have lp_22_w_3 : ∀ (n_w_3 : Nat) (w_3l5 : Int32) (w_3l4 : Int32) (w_3m0 : (Nat → Int32)) (H : Heap) (locs : List Loc) (ls : Array Slot), va_P D classes [(h, .inr (10, ML w_3m0 Rf)), ((Rf 0), .inl (cI, 1302, .inl f0)), ((Rf 10), .inl (cI, 30, .inl f10))] H → va_D A [(h, .inr (10, ML w_3m0 Rf)), ((Rf 0), .inl (cI, 1302, .inl f0)), ((Rf 10), .inl (cI, 30, .inl f10))] → va_S A s.heap H locs → lv_has ls 7 [(5, .int w_3l5), (4, .int w_3l4), (3, .int w_1l3), (2, .int w_1l2), (1, .int w_1l1), (0, .ref h)] → (S_m_wornOut_22 f0 f10 w_1l3 (fun (w_3l5 : Int32) (w_3l4 : Int32) (w_3m0 : (Nat → Int32)) => ((S_m_isDone f0 w_1l3) ∧ (((f_m_isDone f0 w_1l3) = 0 → ((w_1l2 ≤ w_3l4 → (S_m_wornOut_8 f0 f10 (fun (w_1l3 : Int32) (w_1l2 : Int32) (w_1l1 : Int32) (w_1m0 : (Nat → Int32)) => True) n_w_1 (w_1l3 + 1) w_1l2 w_1l1 w_3m0)) ∧ (¬ w_1l2 ≤ w_3l4 → (S_m_wornOut_8 f0 f10 (fun (w_1l3 : Int32) (w_1l2 : Int32) (w_1l1 : Int32) (w_1m0 : (Nat → Int32)) => True) n_w_1 (w_1l3 + 1) w_3l4 w_1l3 w_3m0)))) ∧ (¬ (f_m_isDone f0 w_1l3) = 0 → (S_m_wornOut_8 f0 f10 (fun (w_1l3 : Int32) (w_1l2 : Int32) (w_1l1 : Int32) (w_1m0 : (Nat → Int32)) => True) n_w_1 (w_1l3 + 1) w_1l2 w_1l1 w_3m0))))) n_w_3 w_3l5 w_3l4 w_3m0) → ((match ((match ((f_m_wornOut_22 f0 f10 w_1l3 n_w_3 w_3l5 w_3l4 w_3m0) : Int32 × Int32 × (Nat → Int32)) with | (w_3l5, w_3l4, w_3m0) => (if (f_m_isDone f0 w_1l3) = 0 then (if w_1l2 ≤ w_3l4 then (f_m_wornOut_8 f0 f10 n_w_1 (w_1l3 + 1) w_1l2 w_1l1 w_3m0) else (f_m_wornOut_8 f0 f10 n_w_1 (w_1l3 + 1) w_3l4 w_1l3 w_3m0)) else (f_m_wornOut_8 f0 f10 n_w_1 (w_1l3 + 1) w_1l2 w_1l1 w_3m0))) : Int32 × Int32 × Int32 × (Nat → Int32)) with | (w_1l3, w_1l2, w_1l1, w_1m0) => (w_1l1, w_1m0)) : Int32 × (Nat → Int32)) = RES → W p l e rm_m_wornOut s m args below meth c H locs 0 0 Q (F0 m 22 ls []) := by
          intro n_w_3
          induction n_w_3 with
          | zero => intro w_3l5 w_3l4 w_3m0 H locs ls hP hD hS hl hF hE; exact False.elim hF
          | succ n_w_3 ih_w_3 =>
            intro w_3l5 w_3l4 w_3m0 H locs ls hP hD hS hl hF hE
            rw [S_m_wornOut_22_s] at hF
            rw [f_m_wornOut_22_s] at hE
            refine lv_iload hx hb dX10_wornOut_22 (lv_at hl 0 rfl) ?_
            refine lv_aload_n hx hb dX10_wornOut_24 rfl (lv_at hl 5 rfl) ?_
            refine va_get (D := D) (ci := 10) (v := .int (w_3m0 4)) (C := RX10) (T := TX10) (N := 45) hx hb hts iX10 hown hK hP 0 rfl rfl 4 (by decide) (hts _ wd_500) (fun _ h9 => h9) rfl dX10_wornOut_25 ?_
            refine lv_icmp_ge (tgt := 62) hx hb dX10_wornOut_28 (by decide) (fun c_15 => ?_) (fun c_15 => ?_)
            · replace hF := hF.1 c_15
              rw [if_pos c_15] at hE
              exact ex_22_w_3 w_3l5 w_3l4 w_3m0 _ _ ls hP hD hS (lv_sub hl [0, 1, 2, 3, 4, 5] rfl) hF hE
            · replace hF := hF.2 c_15
              rw [if_neg c_15] at hE
              refine lv_aload_n hx hb dX10_wornOut_31 rfl (lv_at hl 5 rfl) ?_
              refine lv_iload_n hx hb dX10_wornOut_32 rfl (lv_at hl 2 rfl) ?_
              refine lv_iload hx hb dX10_wornOut_33 (lv_at hl 0 rfl) ?_
              obtain ⟨hs_16, hF⟩ := hF
              refine cVi (wr := []) (rest := []) (m_lastsOf Rf h w_3m0 f0 f10 w_1l3 w_3l5 hs_16) okV_X10_lastsOf wd_652 hx hb hml hown hts hK hP hD hS hA hN hl.1 [0, 1, 2] [] rfl rfl rfl rfl (by decide) rfl rfl rfl (Nat.le_of_ble_eq_true rfl) (Nat.le_of_ble_eq_true rfl) (Nat.le_of_ble_eq_true rfl) (Nat.le_of_ble_eq_true rfl) (Nat.le_of_ble_eq_true rfl) dX10_wornOut_35 (fun r_18 u_17 H locs hw_u_17 hP hD hS => ?_)
              replace hw_u_17 : (r_18, u_17) = (f_m_lastsOf w_3m0 f0 f10 w_1l3 w_3l5) := hw_u_17
              replace hF := hF r_18 u_17 hw_u_17
              rw [← hw_u_17] at hE
              replace hE : ((match ((match ((if r_18 ≤ w_3l4 then (f_m_wornOut_22 f0 f10 w_1l3 n_w_3 (w_3l5 + 1) w_3l4 u_17) else (f_m_wornOut_22 f0 f10 w_1l3 n_w_3 (w_3l5 + 1) r_18 u_17)) : Int32 × Int32 × (Nat → Int32)) with | (w_3l5, w_3l4, w_3m0) => (if (f_m_isDone f0 w_1l3) = 0 then (if w_1l2 ≤ w_3l4 then (f_m_wornOut_8 f0 f10 n_w_1 (w_1l3 + 1) w_1l2 w_1l1 w_3m0) else (f_m_wornOut_8 f0 f10 n_w_1 (w_1l3 + 1) w_3l4 w_1l3 w_3m0)) else (f_m_wornOut_8 f0 f10 n_w_1 (w_1l3 + 1) w_1l2 w_1l1 w_3m0))) : Int32 × Int32 × Int32 × (Nat → Int32)) with | (w_1l3, w_1l2, w_1l1, w_1m0) => (w_1l1, w_1m0)) : Int32 × (Nat → Int32)) = RES := hE
              have hP : va_P D classes [(h, .inr (10, ML u_17 Rf)), ((Rf 0), .inl (cI, 1302, .inl f0)), ((Rf 10), .inl (cI, 30, .inl f10))] H := hP
              have hD : va_D A [(h, .inr (10, ML u_17 Rf)), ((Rf 0), .inl (cI, 1302, .inl f0)), ((Rf 10), .inl (cI, 30, .inl f10))] := hD
              refine lv_istore (lv' := [(6, .int r_18), (5, .int w_3l5), (4, .int w_3l4), (3, .int w_1l3), (2, .int w_1l2), (1, .int w_1l1), (0, .ref h)]) hx hb dX10_wornOut_38 hl (by decide) rfl (fun ls hl => ?_)
              refine lv_iload hx hb dX10_wornOut_40 (lv_at hl 0 rfl) ?_
              refine lv_iload hx hb dX10_wornOut_42 (lv_at hl 2 rfl) ?_
              refine lv_icmp_le (tgt := 52) hx hb dX10_wornOut_44 (by decide) (fun c_19 => ?_) (fun c_19 => ?_)
              · replace hF := hF.1 c_19
                rw [if_pos c_19] at hE
                refine lv_iload hx hb dX10_wornOut_52 (lv_at hl 2 rfl) ?_
                refine lv_istore (lv' := [(4, .int w_3l4), (6, .int r_18), (5, .int w_3l5), (3, .int w_1l3), (2, .int w_1l2), (1, .int w_1l1), (0, .ref h)]) hx hb dX10_wornOut_54 hl (by decide) rfl (fun ls hl => ?_)
                refine lv_iinc (v := (w_3l5 + 1)) (lv' := [(5, .int (w_3l5 + 1)), (4, .int w_3l4), (6, .int r_18), (3, .int w_1l3), (2, .int w_1l2), (1, .int w_1l1), (0, .ref h)]) hx hb dX10_wornOut_56 hl (k := 2) rfl rfl (by decide) rfl (fun ls hl => ?_)
                refine lv_goto (tgt := 22) hx hb dX10_wornOut_59 (by decide) ?_
                exact ih_w_3 (w_3l5 + 1) w_3l4 u_17 _ _ ls hP hD hS (lv_sub hl [0, 1, 3, 4, 5, 6] rfl) hF hE
              · replace hF := hF.2 c_19
                rw [if_neg c_19] at hE
                refine lv_iload hx hb dX10_wornOut_47 (lv_at hl 0 rfl) ?_
                refine lv_goto (tgt := 54) hx hb dX10_wornOut_49 (by decide) ?_
                refine lv_istore (lv' := [(4, .int r_18), (6, .int r_18), (5, .int w_3l5), (3, .int w_1l3), (2, .int w_1l2), (1, .int w_1l1), (0, .ref h)]) hx hb dX10_wornOut_54 hl (by decide) rfl (fun ls hl => ?_)
                refine lv_iinc (v := (w_3l5 + 1)) (lv' := [(5, .int (w_3l5 + 1)), (4, .int r_18), (6, .int r_18), (3, .int w_1l3), (2, .int w_1l2), (1, .int w_1l1), (0, .ref h)]) hx hb dX10_wornOut_56 hl (k := 2) rfl rfl (by decide) rfl (fun ls hl => ?_)
                refine lv_goto (tgt := 22) hx hb dX10_wornOut_59 (by decide) ?_
                exact ih_w_3 (w_3l5 + 1) r_18 u_17 _ _ ls hP hD hS (lv_sub hl [0, 1, 3, 4, 5, 6] rfl) hF hE
        exact lp_22_w_3 10 0 0 w_1m0 _ _ ls hP hD hS hl hF hE
  exact lp_8_w_1 10 0 1000000000 (-1) G _ _ ls hP hD hS hl hF hE
noncomputable def f_m_hire_39 (f0 : Nat → Int32) (f10 : Nat → Int32) (f8 : Nat → Int32) (b_ : Int32) (n : Nat) : Int32 → Int32 → Int32 → Int32 → (Nat → Int32) → Int32 × Int32 × Int32 × Int32 × (Nat → Int32) := Nat.rec (motive := fun _ => Int32 → Int32 → Int32 → Int32 → (Nat → Int32) → Int32 × Int32 × Int32 × Int32 × (Nat → Int32)) (fun w_9l6 w_9l5 w_9l4 w_9l3 w_9m0 => (w_9l6, w_9l5, w_9l4, w_9l3, w_9m0)) (fun n ih w_9l6 w_9l5 w_9l4 w_9l3 w_9m0 => (if (w_9m0 5) ≤ w_9l6 then (w_9l6, w_9l5, w_9l4, w_9l3, w_9m0) else (match (f_m_best w_9m0 f0 f10 f8 w_9l6 b_) with | (r_16, u_15) => (if r_16 = (-1) then (if w_9l4 ≤ 1000000000 then (if w_9l5 ≤ 1000000000 then (if w_9l4 ≤ 1000000000 then (if w_9l4 ≤ 1000000000 then (ih (w_9l6 + 1) w_9l5 w_9l4 w_9l3 u_15) else (ih (w_9l6 + 1) w_9l5 1000000000 w_9l3 u_15)) else (if w_9l4 ≤ 1000000000 then (ih (w_9l6 + 1) w_9l5 w_9l4 w_9l6 u_15) else (ih (w_9l6 + 1) w_9l5 1000000000 w_9l6 u_15))) else (if w_9l4 ≤ 1000000000 then (if w_9l4 ≤ 1000000000 then (ih (w_9l6 + 1) 1000000000 w_9l4 w_9l3 u_15) else (ih (w_9l6 + 1) 1000000000 1000000000 w_9l3 u_15)) else (if w_9l4 ≤ 1000000000 then (ih (w_9l6 + 1) 1000000000 w_9l4 w_9l6 u_15) else (ih (w_9l6 + 1) 1000000000 1000000000 w_9l6 u_15)))) else (if w_9l4 ≤ 1000000000 then (if w_9l4 ≤ 1000000000 then (ih (w_9l6 + 1) w_9l4 w_9l4 w_9l3 u_15) else (ih (w_9l6 + 1) w_9l4 1000000000 w_9l3 u_15)) else (if w_9l4 ≤ 1000000000 then (ih (w_9l6 + 1) w_9l4 w_9l4 w_9l6 u_15) else (ih (w_9l6 + 1) w_9l4 1000000000 w_9l6 u_15)))) else (if w_9l4 ≤ (u_15 35) then (if w_9l5 ≤ (u_15 35) then (if w_9l4 ≤ (u_15 35) then (if w_9l4 ≤ (u_15 35) then (ih (w_9l6 + 1) w_9l5 w_9l4 w_9l3 u_15) else (ih (w_9l6 + 1) w_9l5 (u_15 35) w_9l3 u_15)) else (if w_9l4 ≤ (u_15 35) then (ih (w_9l6 + 1) w_9l5 w_9l4 w_9l6 u_15) else (ih (w_9l6 + 1) w_9l5 (u_15 35) w_9l6 u_15))) else (if w_9l4 ≤ (u_15 35) then (if w_9l4 ≤ (u_15 35) then (ih (w_9l6 + 1) (u_15 35) w_9l4 w_9l3 u_15) else (ih (w_9l6 + 1) (u_15 35) (u_15 35) w_9l3 u_15)) else (if w_9l4 ≤ (u_15 35) then (ih (w_9l6 + 1) (u_15 35) w_9l4 w_9l6 u_15) else (ih (w_9l6 + 1) (u_15 35) (u_15 35) w_9l6 u_15)))) else (if w_9l4 ≤ (u_15 35) then (if w_9l4 ≤ (u_15 35) then (ih (w_9l6 + 1) w_9l4 w_9l4 w_9l3 u_15) else (ih (w_9l6 + 1) w_9l4 (u_15 35) w_9l3 u_15)) else (if w_9l4 ≤ (u_15 35) then (ih (w_9l6 + 1) w_9l4 w_9l4 w_9l6 u_15) else (ih (w_9l6 + 1) w_9l4 (u_15 35) w_9l6 u_15)))))))) n
theorem f_m_hire_39_s (f0 : Nat → Int32) (f10 : Nat → Int32) (f8 : Nat → Int32) (b_ : Int32) (n : Nat) (w_9l6 : Int32) (w_9l5 : Int32) (w_9l4 : Int32) (w_9l3 : Int32) (w_9m0 : (Nat → Int32)) : f_m_hire_39 f0 f10 f8 b_ (n + 1) w_9l6 w_9l5 w_9l4 w_9l3 w_9m0 = (if (w_9m0 5) ≤ w_9l6 then (w_9l6, w_9l5, w_9l4, w_9l3, w_9m0) else (match (f_m_best w_9m0 f0 f10 f8 w_9l6 b_) with | (r_16, u_15) => (if r_16 = (-1) then (if w_9l4 ≤ 1000000000 then (if w_9l5 ≤ 1000000000 then (if w_9l4 ≤ 1000000000 then (if w_9l4 ≤ 1000000000 then (f_m_hire_39 f0 f10 f8 b_ n (w_9l6 + 1) w_9l5 w_9l4 w_9l3 u_15) else (f_m_hire_39 f0 f10 f8 b_ n (w_9l6 + 1) w_9l5 1000000000 w_9l3 u_15)) else (if w_9l4 ≤ 1000000000 then (f_m_hire_39 f0 f10 f8 b_ n (w_9l6 + 1) w_9l5 w_9l4 w_9l6 u_15) else (f_m_hire_39 f0 f10 f8 b_ n (w_9l6 + 1) w_9l5 1000000000 w_9l6 u_15))) else (if w_9l4 ≤ 1000000000 then (if w_9l4 ≤ 1000000000 then (f_m_hire_39 f0 f10 f8 b_ n (w_9l6 + 1) 1000000000 w_9l4 w_9l3 u_15) else (f_m_hire_39 f0 f10 f8 b_ n (w_9l6 + 1) 1000000000 1000000000 w_9l3 u_15)) else (if w_9l4 ≤ 1000000000 then (f_m_hire_39 f0 f10 f8 b_ n (w_9l6 + 1) 1000000000 w_9l4 w_9l6 u_15) else (f_m_hire_39 f0 f10 f8 b_ n (w_9l6 + 1) 1000000000 1000000000 w_9l6 u_15)))) else (if w_9l4 ≤ 1000000000 then (if w_9l4 ≤ 1000000000 then (f_m_hire_39 f0 f10 f8 b_ n (w_9l6 + 1) w_9l4 w_9l4 w_9l3 u_15) else (f_m_hire_39 f0 f10 f8 b_ n (w_9l6 + 1) w_9l4 1000000000 w_9l3 u_15)) else (if w_9l4 ≤ 1000000000 then (f_m_hire_39 f0 f10 f8 b_ n (w_9l6 + 1) w_9l4 w_9l4 w_9l6 u_15) else (f_m_hire_39 f0 f10 f8 b_ n (w_9l6 + 1) w_9l4 1000000000 w_9l6 u_15)))) else (if w_9l4 ≤ (u_15 35) then (if w_9l5 ≤ (u_15 35) then (if w_9l4 ≤ (u_15 35) then (if w_9l4 ≤ (u_15 35) then (f_m_hire_39 f0 f10 f8 b_ n (w_9l6 + 1) w_9l5 w_9l4 w_9l3 u_15) else (f_m_hire_39 f0 f10 f8 b_ n (w_9l6 + 1) w_9l5 (u_15 35) w_9l3 u_15)) else (if w_9l4 ≤ (u_15 35) then (f_m_hire_39 f0 f10 f8 b_ n (w_9l6 + 1) w_9l5 w_9l4 w_9l6 u_15) else (f_m_hire_39 f0 f10 f8 b_ n (w_9l6 + 1) w_9l5 (u_15 35) w_9l6 u_15))) else (if w_9l4 ≤ (u_15 35) then (if w_9l4 ≤ (u_15 35) then (f_m_hire_39 f0 f10 f8 b_ n (w_9l6 + 1) (u_15 35) w_9l4 w_9l3 u_15) else (f_m_hire_39 f0 f10 f8 b_ n (w_9l6 + 1) (u_15 35) (u_15 35) w_9l3 u_15)) else (if w_9l4 ≤ (u_15 35) then (f_m_hire_39 f0 f10 f8 b_ n (w_9l6 + 1) (u_15 35) w_9l4 w_9l6 u_15) else (f_m_hire_39 f0 f10 f8 b_ n (w_9l6 + 1) (u_15 35) (u_15 35) w_9l6 u_15)))) else (if w_9l4 ≤ (u_15 35) then (if w_9l4 ≤ (u_15 35) then (f_m_hire_39 f0 f10 f8 b_ n (w_9l6 + 1) w_9l4 w_9l4 w_9l3 u_15) else (f_m_hire_39 f0 f10 f8 b_ n (w_9l6 + 1) w_9l4 (u_15 35) w_9l3 u_15)) else (if w_9l4 ≤ (u_15 35) then (f_m_hire_39 f0 f10 f8 b_ n (w_9l6 + 1) w_9l4 w_9l4 w_9l6 u_15) else (f_m_hire_39 f0 f10 f8 b_ n (w_9l6 + 1) w_9l4 (u_15 35) w_9l6 u_15))))))) := rfl
def S_m_hire_39 (f0 : Nat → Int32) (f10 : Nat → Int32) (f8 : Nat → Int32) (b_ : Int32) (K : Int32 → Int32 → Int32 → Int32 → (Nat → Int32) → Prop) (n : Nat) : Int32 → Int32 → Int32 → Int32 → (Nat → Int32) → Prop := Nat.rec (motive := fun _ => Int32 → Int32 → Int32 → Int32 → (Nat → Int32) → Prop) (fun _ _ _ _ _ => False) (fun n ih w_9l6 w_9l5 w_9l4 w_9l3 w_9m0 => (((w_9m0 5) ≤ w_9l6 → (K w_9l6 w_9l5 w_9l4 w_9l3 w_9m0)) ∧ (¬ (w_9m0 5) ≤ w_9l6 → ((S_m_best w_9m0 f0 f10 f8 w_9l6 b_) ∧ (∀ (r_16 : Int32) (u_15 : (Nat → Int32)), (r_16, u_15) = (f_m_best w_9m0 f0 f10 f8 w_9l6 b_) → ((r_16 = (-1) → ((w_9l4 ≤ 1000000000 → ((w_9l5 ≤ 1000000000 → ((w_9l4 ≤ 1000000000 → ((w_9l4 ≤ 1000000000 → (ih (w_9l6 + 1) w_9l5 w_9l4 w_9l3 u_15)) ∧ (¬ w_9l4 ≤ 1000000000 → (ih (w_9l6 + 1) w_9l5 1000000000 w_9l3 u_15)))) ∧ (¬ w_9l4 ≤ 1000000000 → ((w_9l4 ≤ 1000000000 → (ih (w_9l6 + 1) w_9l5 w_9l4 w_9l6 u_15)) ∧ (¬ w_9l4 ≤ 1000000000 → (ih (w_9l6 + 1) w_9l5 1000000000 w_9l6 u_15)))))) ∧ (¬ w_9l5 ≤ 1000000000 → ((w_9l4 ≤ 1000000000 → ((w_9l4 ≤ 1000000000 → (ih (w_9l6 + 1) 1000000000 w_9l4 w_9l3 u_15)) ∧ (¬ w_9l4 ≤ 1000000000 → (ih (w_9l6 + 1) 1000000000 1000000000 w_9l3 u_15)))) ∧ (¬ w_9l4 ≤ 1000000000 → ((w_9l4 ≤ 1000000000 → (ih (w_9l6 + 1) 1000000000 w_9l4 w_9l6 u_15)) ∧ (¬ w_9l4 ≤ 1000000000 → (ih (w_9l6 + 1) 1000000000 1000000000 w_9l6 u_15)))))))) ∧ (¬ w_9l4 ≤ 1000000000 → ((w_9l4 ≤ 1000000000 → ((w_9l4 ≤ 1000000000 → (ih (w_9l6 + 1) w_9l4 w_9l4 w_9l3 u_15)) ∧ (¬ w_9l4 ≤ 1000000000 → (ih (w_9l6 + 1) w_9l4 1000000000 w_9l3 u_15)))) ∧ (¬ w_9l4 ≤ 1000000000 → ((w_9l4 ≤ 1000000000 → (ih (w_9l6 + 1) w_9l4 w_9l4 w_9l6 u_15)) ∧ (¬ w_9l4 ≤ 1000000000 → (ih (w_9l6 + 1) w_9l4 1000000000 w_9l6 u_15)))))))) ∧ (¬ r_16 = (-1) → ((w_9l4 ≤ (u_15 35) → ((w_9l5 ≤ (u_15 35) → ((w_9l4 ≤ (u_15 35) → ((w_9l4 ≤ (u_15 35) → (ih (w_9l6 + 1) w_9l5 w_9l4 w_9l3 u_15)) ∧ (¬ w_9l4 ≤ (u_15 35) → (ih (w_9l6 + 1) w_9l5 (u_15 35) w_9l3 u_15)))) ∧ (¬ w_9l4 ≤ (u_15 35) → ((w_9l4 ≤ (u_15 35) → (ih (w_9l6 + 1) w_9l5 w_9l4 w_9l6 u_15)) ∧ (¬ w_9l4 ≤ (u_15 35) → (ih (w_9l6 + 1) w_9l5 (u_15 35) w_9l6 u_15)))))) ∧ (¬ w_9l5 ≤ (u_15 35) → ((w_9l4 ≤ (u_15 35) → ((w_9l4 ≤ (u_15 35) → (ih (w_9l6 + 1) (u_15 35) w_9l4 w_9l3 u_15)) ∧ (¬ w_9l4 ≤ (u_15 35) → (ih (w_9l6 + 1) (u_15 35) (u_15 35) w_9l3 u_15)))) ∧ (¬ w_9l4 ≤ (u_15 35) → ((w_9l4 ≤ (u_15 35) → (ih (w_9l6 + 1) (u_15 35) w_9l4 w_9l6 u_15)) ∧ (¬ w_9l4 ≤ (u_15 35) → (ih (w_9l6 + 1) (u_15 35) (u_15 35) w_9l6 u_15)))))))) ∧ (¬ w_9l4 ≤ (u_15 35) → ((w_9l4 ≤ (u_15 35) → ((w_9l4 ≤ (u_15 35) → (ih (w_9l6 + 1) w_9l4 w_9l4 w_9l3 u_15)) ∧ (¬ w_9l4 ≤ (u_15 35) → (ih (w_9l6 + 1) w_9l4 (u_15 35) w_9l3 u_15)))) ∧ (¬ w_9l4 ≤ (u_15 35) → ((w_9l4 ≤ (u_15 35) → (ih (w_9l6 + 1) w_9l4 w_9l4 w_9l6 u_15)) ∧ (¬ w_9l4 ≤ (u_15 35) → (ih (w_9l6 + 1) w_9l4 (u_15 35) w_9l6 u_15)))))))))))))) n
theorem S_m_hire_39_s (f0 : Nat → Int32) (f10 : Nat → Int32) (f8 : Nat → Int32) (b_ : Int32) (K : Int32 → Int32 → Int32 → Int32 → (Nat → Int32) → Prop) (n : Nat) (w_9l6 : Int32) (w_9l5 : Int32) (w_9l4 : Int32) (w_9l3 : Int32) (w_9m0 : (Nat → Int32)) : S_m_hire_39 f0 f10 f8 b_ K (n + 1) w_9l6 w_9l5 w_9l4 w_9l3 w_9m0 = ((((w_9m0 5) ≤ w_9l6 → (K w_9l6 w_9l5 w_9l4 w_9l3 w_9m0)) ∧ (¬ (w_9m0 5) ≤ w_9l6 → ((S_m_best w_9m0 f0 f10 f8 w_9l6 b_) ∧ (∀ (r_16 : Int32) (u_15 : (Nat → Int32)), (r_16, u_15) = (f_m_best w_9m0 f0 f10 f8 w_9l6 b_) → ((r_16 = (-1) → ((w_9l4 ≤ 1000000000 → ((w_9l5 ≤ 1000000000 → ((w_9l4 ≤ 1000000000 → ((w_9l4 ≤ 1000000000 → (S_m_hire_39 f0 f10 f8 b_ K n (w_9l6 + 1) w_9l5 w_9l4 w_9l3 u_15)) ∧ (¬ w_9l4 ≤ 1000000000 → (S_m_hire_39 f0 f10 f8 b_ K n (w_9l6 + 1) w_9l5 1000000000 w_9l3 u_15)))) ∧ (¬ w_9l4 ≤ 1000000000 → ((w_9l4 ≤ 1000000000 → (S_m_hire_39 f0 f10 f8 b_ K n (w_9l6 + 1) w_9l5 w_9l4 w_9l6 u_15)) ∧ (¬ w_9l4 ≤ 1000000000 → (S_m_hire_39 f0 f10 f8 b_ K n (w_9l6 + 1) w_9l5 1000000000 w_9l6 u_15)))))) ∧ (¬ w_9l5 ≤ 1000000000 → ((w_9l4 ≤ 1000000000 → ((w_9l4 ≤ 1000000000 → (S_m_hire_39 f0 f10 f8 b_ K n (w_9l6 + 1) 1000000000 w_9l4 w_9l3 u_15)) ∧ (¬ w_9l4 ≤ 1000000000 → (S_m_hire_39 f0 f10 f8 b_ K n (w_9l6 + 1) 1000000000 1000000000 w_9l3 u_15)))) ∧ (¬ w_9l4 ≤ 1000000000 → ((w_9l4 ≤ 1000000000 → (S_m_hire_39 f0 f10 f8 b_ K n (w_9l6 + 1) 1000000000 w_9l4 w_9l6 u_15)) ∧ (¬ w_9l4 ≤ 1000000000 → (S_m_hire_39 f0 f10 f8 b_ K n (w_9l6 + 1) 1000000000 1000000000 w_9l6 u_15)))))))) ∧ (¬ w_9l4 ≤ 1000000000 → ((w_9l4 ≤ 1000000000 → ((w_9l4 ≤ 1000000000 → (S_m_hire_39 f0 f10 f8 b_ K n (w_9l6 + 1) w_9l4 w_9l4 w_9l3 u_15)) ∧ (¬ w_9l4 ≤ 1000000000 → (S_m_hire_39 f0 f10 f8 b_ K n (w_9l6 + 1) w_9l4 1000000000 w_9l3 u_15)))) ∧ (¬ w_9l4 ≤ 1000000000 → ((w_9l4 ≤ 1000000000 → (S_m_hire_39 f0 f10 f8 b_ K n (w_9l6 + 1) w_9l4 w_9l4 w_9l6 u_15)) ∧ (¬ w_9l4 ≤ 1000000000 → (S_m_hire_39 f0 f10 f8 b_ K n (w_9l6 + 1) w_9l4 1000000000 w_9l6 u_15)))))))) ∧ (¬ r_16 = (-1) → ((w_9l4 ≤ (u_15 35) → ((w_9l5 ≤ (u_15 35) → ((w_9l4 ≤ (u_15 35) → ((w_9l4 ≤ (u_15 35) → (S_m_hire_39 f0 f10 f8 b_ K n (w_9l6 + 1) w_9l5 w_9l4 w_9l3 u_15)) ∧ (¬ w_9l4 ≤ (u_15 35) → (S_m_hire_39 f0 f10 f8 b_ K n (w_9l6 + 1) w_9l5 (u_15 35) w_9l3 u_15)))) ∧ (¬ w_9l4 ≤ (u_15 35) → ((w_9l4 ≤ (u_15 35) → (S_m_hire_39 f0 f10 f8 b_ K n (w_9l6 + 1) w_9l5 w_9l4 w_9l6 u_15)) ∧ (¬ w_9l4 ≤ (u_15 35) → (S_m_hire_39 f0 f10 f8 b_ K n (w_9l6 + 1) w_9l5 (u_15 35) w_9l6 u_15)))))) ∧ (¬ w_9l5 ≤ (u_15 35) → ((w_9l4 ≤ (u_15 35) → ((w_9l4 ≤ (u_15 35) → (S_m_hire_39 f0 f10 f8 b_ K n (w_9l6 + 1) (u_15 35) w_9l4 w_9l3 u_15)) ∧ (¬ w_9l4 ≤ (u_15 35) → (S_m_hire_39 f0 f10 f8 b_ K n (w_9l6 + 1) (u_15 35) (u_15 35) w_9l3 u_15)))) ∧ (¬ w_9l4 ≤ (u_15 35) → ((w_9l4 ≤ (u_15 35) → (S_m_hire_39 f0 f10 f8 b_ K n (w_9l6 + 1) (u_15 35) w_9l4 w_9l6 u_15)) ∧ (¬ w_9l4 ≤ (u_15 35) → (S_m_hire_39 f0 f10 f8 b_ K n (w_9l6 + 1) (u_15 35) (u_15 35) w_9l6 u_15)))))))) ∧ (¬ w_9l4 ≤ (u_15 35) → ((w_9l4 ≤ (u_15 35) → ((w_9l4 ≤ (u_15 35) → (S_m_hire_39 f0 f10 f8 b_ K n (w_9l6 + 1) w_9l4 w_9l4 w_9l3 u_15)) ∧ (¬ w_9l4 ≤ (u_15 35) → (S_m_hire_39 f0 f10 f8 b_ K n (w_9l6 + 1) w_9l4 (u_15 35) w_9l3 u_15)))) ∧ (¬ w_9l4 ≤ (u_15 35) → ((w_9l4 ≤ (u_15 35) → (S_m_hire_39 f0 f10 f8 b_ K n (w_9l6 + 1) w_9l4 w_9l4 w_9l6 u_15)) ∧ (¬ w_9l4 ≤ (u_15 35) → (S_m_hire_39 f0 f10 f8 b_ K n (w_9l6 + 1) w_9l4 (u_15 35) w_9l6 u_15)))))))))))))) := rfl
noncomputable def f_m_hire (G : Nat → Int32) (f0 : Nat → Int32) (f10 : Nat → Int32) (f8 : Nat → Int32) (b_ : Int32) (w_ : Int32) : Int32 × (Nat → Int32) := (if (f_m_isBridge G b_) = 0 then ((-1000000001), G) else (if (f_m_in w_.toInt64 0 1) = 0 then ((-1000000002), G) else (match ((f_m_hire_39 f0 f10 f8 b_ 10 0 1000000000 1000000000 (-1) G) : Int32 × Int32 × Int32 × Int32 × (Nat → Int32)) with | (w_9l6, w_9l5, w_9l4, w_9l3, w_9m0) => (if w_9l3 = (-1) then (w_9l3, w_9m0) else (if w_ = 0 then (w_9l3, w_9m0) else (if w_9l5 = 1000000000 then (w_9l4, w_9m0) else (w_9l5, w_9m0)))))))
def S_m_hire (G : Nat → Int32) (f0 : Nat → Int32) (f10 : Nat → Int32) (f8 : Nat → Int32) (b_ : Int32) (w_ : Int32) : Prop := ((S_m_isBridge G b_) ∧ (((f_m_isBridge G b_) = 0 → True) ∧ (¬ (f_m_isBridge G b_) = 0 → ((S_m_in w_.toInt64 0 1) ∧ (((f_m_in w_.toInt64 0 1) = 0 → True) ∧ (¬ (f_m_in w_.toInt64 0 1) = 0 → (S_m_hire_39 f0 f10 f8 b_ (fun (w_9l6 : Int32) (w_9l5 : Int32) (w_9l4 : Int32) (w_9l3 : Int32) (w_9m0 : (Nat → Int32)) => ((w_9l3 = (-1) → True) ∧ (¬ w_9l3 = (-1) → ((w_ = 0 → True) ∧ (¬ w_ = 0 → ((w_9l5 = 1000000000 → True) ∧ (¬ w_9l5 = 1000000000 → True))))))) 10 0 1000000000 1000000000 (-1) G)))))))
def rm_m_hire : Room := { frames := 4, cells := 0, slots := 0, locals := 100 }
set_option maxHeartbeats 4000000 in
set_option maxRecDepth 100000 in
theorem m_hire {l : Launch} {D : va_G} {cI cZ : ClassId} {sz : Nat} (Rf : Nat → Nat) (h : Nat) (G : Nat → Int32) (f0 : Nat → Int32) (f10 : Nat → Int32) (f8 : Nat → Int32) (b_ : Int32) (w_ : Int32) (hF : S_m_hire G f0 f10 f8 b_ w_) : KI l yX10_hire cX10_hire 8 (some .int) rm_m_hire D cI cZ [.ref h, .int b_, .int w_] sz [(h, .inr (10, ML G Rf)), ((Rf 0), .inl (cI, 1302, .inl f0)), ((Rf 10), .inl (cI, 30, .inl f10)), ((Rf 8), .inl (cI, 6, .inl f8))] (fun (r : Int32) (u : (Nat → Int32)) => (r, u) = f_m_hire G f0 f10 f8 b_ w_) (fun (u : (Nat → Int32)) => [(h, .inr (10, ML u Rf)), ((Rf 0), .inl (cI, 1302, .inl f0)), ((Rf 10), .inl (cI, 30, .inl f10)), ((Rf 8), .inl (cI, 6, .inl f8))]) := by
  refine KI.go rfl (Nat.le_of_ble_eq_true rfl) ?_
  intro p e s m args below meth c ls A Q hx hb hml hts hown hin hP hK hD hS hA hN hl hret
  have hl : lv_has ls 8 [(0, .ref h), (1, .int b_), (2, .int w_)] := hl
  rw [S_m_hire] at hF
  obtain ⟨RES, hE⟩ : ∃ xRES, f_m_hire G f0 f10 f8 b_ w_ = xRES := ⟨_, rfl⟩
  rw [hE] at hret
  rw [f_m_hire] at hE
  refine lv_aload_n hx hb dX10_hire_0 rfl (lv_at hl 0 rfl) ?_
  refine lv_iload_n hx hb dX10_hire_1 rfl (lv_at hl 1 rfl) ?_
  obtain ⟨hs_1, hF⟩ := hF
  refine cVi (wr := [((Rf 0), .inl (cI, 1302, .inl f0)), ((Rf 10), .inl (cI, 30, .inl f10)), ((Rf 8), .inl (cI, 6, .inl f8))]) (rest := []) (m_isBridge Rf h G b_ hs_1) okV_X10_isBridge wd_571 hx hb hml hown hts hK hP hD hS hA hN hl.1 [0] [1, 2, 3] rfl rfl rfl rfl (by decide) rfl rfl rfl (Nat.le_of_ble_eq_true rfl) (Nat.le_of_ble_eq_true rfl) (Nat.le_of_ble_eq_true rfl) (Nat.le_of_ble_eq_true rfl) (Nat.le_of_ble_eq_true rfl) dX10_hire_2 (fun r_3 u_2 H locs hw_u_2 hP hD hS => ?_)
  replace hw_u_2 : r_3 = (f_m_isBridge G b_) := hw_u_2
  rw [hw_u_2]
  clear hw_u_2
  have hP : va_P D classes [((Rf 0), .inl (cI, 1302, .inl f0)), ((Rf 10), .inl (cI, 30, .inl f10)), ((Rf 8), .inl (cI, 6, .inl f8)), (h, .inr (10, ML G Rf))] H := hP
  have hD : va_D A [((Rf 0), .inl (cI, 1302, .inl f0)), ((Rf 10), .inl (cI, 30, .inl f10)), ((Rf 8), .inl (cI, 6, .inl f8)), (h, .inr (10, ML G Rf))] := hD
  refine lv_if_ne (tgt := 11) hx hb dX10_hire_5 (by decide) (fun c_4 => ?_) (fun c_4 => ?_)
  · replace hF := hF.2 c_4
    rw [if_neg c_4] at hE
    refine lv_iload_n hx hb dX10_hire_11 rfl (lv_at hl 2 rfl) ?_
    refine lv_i2l (v := w_.toInt64) hx hb dX10_hire_12 rfl ?_
    refine lv_lconst (v := 0) hx hb dX10_hire_13 (by decide) ?_
    refine lv_lconst (v := 1) hx hb dX10_hire_14 (by decide) ?_
    obtain ⟨hs_5, hF⟩ := hF
    refine cSi (wr := [((Rf 0), .inl (cI, 1302, .inl f0)), ((Rf 10), .inl (cI, 30, .inl f10)), ((Rf 8), .inl (cI, 6, .inl f8)), (h, .inr (10, ML G Rf))]) (rest := []) (m_in w_.toInt64 0 1 hs_5) okS_X10_in wd_495 hx hb hml hown hts hK hP hD hS hA hN hl.1 [] [0, 1, 2, 3] rfl rfl rfl rfl (by decide) rfl (Nat.le_of_ble_eq_true rfl) (Nat.le_of_ble_eq_true rfl) (Nat.le_of_ble_eq_true rfl) (Nat.le_of_ble_eq_true rfl) (Nat.le_of_ble_eq_true rfl) dX10_hire_15 (fun r_7 u_6 H locs hw_u_6 hP hD hS => ?_)
    replace hw_u_6 : r_7 = (f_m_in w_.toInt64 0 1) := hw_u_6
    rw [hw_u_6]
    clear hw_u_6
    have hP : va_P D classes [((Rf 0), .inl (cI, 1302, .inl f0)), ((Rf 10), .inl (cI, 30, .inl f10)), ((Rf 8), .inl (cI, 6, .inl f8)), (h, .inr (10, ML G Rf))] H := hP
    have hD : va_D A [((Rf 0), .inl (cI, 1302, .inl f0)), ((Rf 10), .inl (cI, 30, .inl f10)), ((Rf 8), .inl (cI, 6, .inl f8)), (h, .inr (10, ML G Rf))] := hD
    refine lv_if_ne (tgt := 24) hx hb dX10_hire_18 (by decide) (fun c_8 => ?_) (fun c_8 => ?_)
    · replace hF := hF.2 c_8
      rw [if_neg c_8] at hE
      refine lv_iconst (v := (-1)) hx hb dX10_hire_24 (by decide) ?_
      refine lv_istore_n (lv' := [(3, .int (-1)), (0, .ref h), (1, .int b_), (2, .int w_)]) hx hb dX10_hire_25 rfl hl (by decide) rfl (fun ls hl => ?_)
      refine lv_ldcw (v := 1000000000) hx hb hown (hts _ wd_651) dX10_hire_26 ?_
      refine lv_istore (lv' := [(4, .int 1000000000), (3, .int (-1)), (0, .ref h), (1, .int b_), (2, .int w_)]) hx hb dX10_hire_29 hl (by decide) rfl (fun ls hl => ?_)
      refine lv_ldcw (v := 1000000000) hx hb hown (hts _ wd_651) dX10_hire_31 ?_
      refine lv_istore (lv' := [(5, .int 1000000000), (4, .int 1000000000), (3, .int (-1)), (0, .ref h), (1, .int b_), (2, .int w_)]) hx hb dX10_hire_34 hl (by decide) rfl (fun ls hl => ?_)
      refine lv_iconst (v := 0) hx hb dX10_hire_36 (by decide) ?_
      refine lv_istore (lv' := [(6, .int 0), (5, .int 1000000000), (4, .int 1000000000), (3, .int (-1)), (0, .ref h), (1, .int b_), (2, .int w_)]) hx hb dX10_hire_37 hl (by decide) rfl (fun ls hl => ?_)
      have ex_39_w_9 : ∀ (w_9l6 : Int32) (w_9l5 : Int32) (w_9l4 : Int32) (w_9l3 : Int32) (w_9m0 : (Nat → Int32)) (H : Heap) (locs : List Loc) (ls : Array Slot), va_P D classes [((Rf 0), .inl (cI, 1302, .inl f0)), ((Rf 10), .inl (cI, 30, .inl f10)), ((Rf 8), .inl (cI, 6, .inl f8)), (h, .inr (10, ML w_9m0 Rf))] H → va_D A [((Rf 0), .inl (cI, 1302, .inl f0)), ((Rf 10), .inl (cI, 30, .inl f10)), ((Rf 8), .inl (cI, 6, .inl f8)), (h, .inr (10, ML w_9m0 Rf))] → va_S A s.heap H locs → lv_has ls 8 [(6, .int w_9l6), (5, .int w_9l5), (4, .int w_9l4), (3, .int w_9l3), (0, .ref h), (1, .int b_), (2, .int w_)] → (((w_9l3 = (-1) → True) ∧ (¬ w_9l3 = (-1) → ((w_ = 0 → True) ∧ (¬ w_ = 0 → ((w_9l5 = 1000000000 → True) ∧ (¬ w_9l5 = 1000000000 → True))))))) → (((if w_9l3 = (-1) then (w_9l3, w_9m0) else (if w_ = 0 then (w_9l3, w_9m0) else (if w_9l5 = 1000000000 then (w_9l4, w_9m0) else (w_9l5, w_9m0))))) : Int32 × (Nat → Int32)) = RES → W p l e rm_m_hire s m args below meth c H locs 0 0 Q (F0 m 135 ls []) := by
        intro w_9l6 w_9l5 w_9l4 w_9l3 w_9m0 H locs ls hP hD hS hl hF hE
        refine lv_iload_n hx hb dX10_hire_135 rfl (lv_at hl 3 rfl) ?_
        refine lv_iconst (v := (-1)) hx hb dX10_hire_136 (by decide) ?_
        refine lv_icmp_eq (tgt := 144) hx hb dX10_hire_137 (by decide) (fun c_10 => ?_) (fun c_10 => ?_)
        · replace hF := hF.1 c_10
          rw [if_pos c_10] at hE
          refine lv_iload_n hx hb dX10_hire_144 rfl (lv_at hl 3 rfl) ?_
          refine lv_goto (tgt := 163) hx hb dX10_hire_145 (by decide) ?_
          exact hret w_9l3 w_9m0 _ _ _ _ dX10_hire_163 rfl hE (cutP (isC := [3, 0, 1, 2]) hP rfl) (cutD (isC := [3, 0, 1, 2]) hD rfl rfl) hS
        · replace hF := hF.2 c_10
          rw [if_neg c_10] at hE
          refine lv_iload_n hx hb dX10_hire_140 rfl (lv_at hl 6 rfl) ?_
          refine lv_if_ne (tgt := 148) hx hb dX10_hire_141 (by decide) (fun c_11 => ?_) (fun c_11 => ?_)
          · replace hF := hF.2 c_11
            rw [if_neg c_11] at hE
            refine lv_iload hx hb dX10_hire_148 (lv_at hl 1 rfl) ?_
            refine lv_ldcw (v := 1000000000) hx hb hown (hts _ wd_651) dX10_hire_150 ?_
            refine lv_icmp_ne (tgt := 161) hx hb dX10_hire_153 (by decide) (fun c_12 => ?_) (fun c_12 => ?_)
            · replace hF := hF.2 c_12
              rw [if_neg c_12] at hE
              refine lv_iload hx hb dX10_hire_161 (lv_at hl 1 rfl) ?_
              exact hret w_9l5 w_9m0 _ _ _ _ dX10_hire_163 rfl hE (cutP (isC := [3, 0, 1, 2]) hP rfl) (cutD (isC := [3, 0, 1, 2]) hD rfl rfl) hS
            · replace hF := hF.1 c_12
              rw [if_pos c_12] at hE
              refine lv_iload hx hb dX10_hire_156 (lv_at hl 2 rfl) ?_
              refine lv_goto (tgt := 163) hx hb dX10_hire_158 (by decide) ?_
              exact hret w_9l4 w_9m0 _ _ _ _ dX10_hire_163 rfl hE (cutP (isC := [3, 0, 1, 2]) hP rfl) (cutD (isC := [3, 0, 1, 2]) hD rfl rfl) hS
          · replace hF := hF.1 c_11
            rw [if_pos c_11] at hE
            refine lv_iload_n hx hb dX10_hire_144 rfl (lv_at hl 3 rfl) ?_
            refine lv_goto (tgt := 163) hx hb dX10_hire_145 (by decide) ?_
            exact hret w_9l3 w_9m0 _ _ _ _ dX10_hire_163 rfl hE (cutP (isC := [3, 0, 1, 2]) hP rfl) (cutD (isC := [3, 0, 1, 2]) hD rfl rfl) hS
      have lp_39_w_9 : ∀ (n_w_9 : Nat) (w_9l6 : Int32) (w_9l5 : Int32) (w_9l4 : Int32) (w_9l3 : Int32) (w_9m0 : (Nat → Int32)) (H : Heap) (locs : List Loc) (ls : Array Slot), va_P D classes [((Rf 0), .inl (cI, 1302, .inl f0)), ((Rf 10), .inl (cI, 30, .inl f10)), ((Rf 8), .inl (cI, 6, .inl f8)), (h, .inr (10, ML w_9m0 Rf))] H → va_D A [((Rf 0), .inl (cI, 1302, .inl f0)), ((Rf 10), .inl (cI, 30, .inl f10)), ((Rf 8), .inl (cI, 6, .inl f8)), (h, .inr (10, ML w_9m0 Rf))] → va_S A s.heap H locs → lv_has ls 8 [(6, .int w_9l6), (5, .int w_9l5), (4, .int w_9l4), (3, .int w_9l3), (0, .ref h), (1, .int b_), (2, .int w_)] → (S_m_hire_39 f0 f10 f8 b_ (fun (w_9l6 : Int32) (w_9l5 : Int32) (w_9l4 : Int32) (w_9l3 : Int32) (w_9m0 : (Nat → Int32)) => ((w_9l3 = (-1) → True) ∧ (¬ w_9l3 = (-1) → ((w_ = 0 → True) ∧ (¬ w_ = 0 → ((w_9l5 = 1000000000 → True) ∧ (¬ w_9l5 = 1000000000 → True))))))) n_w_9 w_9l6 w_9l5 w_9l4 w_9l3 w_9m0) → ((match ((f_m_hire_39 f0 f10 f8 b_ n_w_9 w_9l6 w_9l5 w_9l4 w_9l3 w_9m0) : Int32 × Int32 × Int32 × Int32 × (Nat → Int32)) with | (w_9l6, w_9l5, w_9l4, w_9l3, w_9m0) => (if w_9l3 = (-1) then (w_9l3, w_9m0) else (if w_ = 0 then (w_9l3, w_9m0) else (if w_9l5 = 1000000000 then (w_9l4, w_9m0) else (w_9l5, w_9m0))))) : Int32 × (Nat → Int32)) = RES → W p l e rm_m_hire s m args below meth c H locs 0 0 Q (F0 m 39 ls []) := by
        intro n_w_9
        induction n_w_9 with
        | zero => intro w_9l6 w_9l5 w_9l4 w_9l3 w_9m0 H locs ls hP hD hS hl hF hE; exact False.elim hF
        | succ n_w_9 ih_w_9 =>
          intro w_9l6 w_9l5 w_9l4 w_9l3 w_9m0 H locs ls hP hD hS hl hF hE
          rw [S_m_hire_39_s] at hF
          rw [f_m_hire_39_s] at hE
          refine lv_iload hx hb dX10_hire_39 (lv_at hl 0 rfl) ?_
          refine lv_aload_n hx hb dX10_hire_41 rfl (lv_at hl 4 rfl) ?_
          refine va_get (D := D) (ci := 10) (v := .int (w_9m0 5)) (C := RX10) (T := TX10) (N := 45) hx hb hts iX10 hown hK hP 3 rfl rfl 5 (by decide) (hts _ wd_499) (fun _ h9 => h9) rfl dX10_hire_42 ?_
          refine lv_icmp_ge (tgt := 135) hx hb dX10_hire_45 (by decide) (fun c_13 => ?_) (fun c_13 => ?_)
          · replace hF := hF.1 c_13
            rw [if_pos c_13] at hE
            exact ex_39_w_9 w_9l6 w_9l5 w_9l4 w_9l3 w_9m0 _ _ ls hP hD hS (lv_sub hl [0, 1, 2, 3, 4, 5, 6] rfl) hF hE
          · replace hF := hF.2 c_13
            rw [if_neg c_13] at hE
            refine lv_aload_n hx hb dX10_hire_48 rfl (lv_at hl 4 rfl) ?_
            refine lv_iload hx hb dX10_hire_49 (lv_at hl 0 rfl) ?_
            refine lv_iload_n hx hb dX10_hire_51 rfl (lv_at hl 5 rfl) ?_
            obtain ⟨hs_14, hF⟩ := hF
            refine cVi (wr := []) (rest := []) (m_best Rf h w_9m0 f0 f10 f8 w_9l6 b_ hs_14) okV_X10_best wd_657 hx hb hml hown hts hK hP hD hS hA hN hl.1 [3, 0, 1, 2] [] rfl rfl rfl rfl (by decide) rfl rfl rfl (Nat.le_of_ble_eq_true rfl) (Nat.le_of_ble_eq_true rfl) (Nat.le_of_ble_eq_true rfl) (Nat.le_of_ble_eq_true rfl) (Nat.le_of_ble_eq_true rfl) dX10_hire_52 (fun r_16 u_15 H locs hw_u_15 hP hD hS => ?_)
            replace hw_u_15 : (r_16, u_15) = (f_m_best w_9m0 f0 f10 f8 w_9l6 b_) := hw_u_15
            replace hF := hF r_16 u_15 hw_u_15
            rw [← hw_u_15] at hE
            replace hE : ((match ((if r_16 = (-1) then (if w_9l4 ≤ 1000000000 then (if w_9l5 ≤ 1000000000 then (if w_9l4 ≤ 1000000000 then (if w_9l4 ≤ 1000000000 then (f_m_hire_39 f0 f10 f8 b_ n_w_9 (w_9l6 + 1) w_9l5 w_9l4 w_9l3 u_15) else (f_m_hire_39 f0 f10 f8 b_ n_w_9 (w_9l6 + 1) w_9l5 1000000000 w_9l3 u_15)) else (if w_9l4 ≤ 1000000000 then (f_m_hire_39 f0 f10 f8 b_ n_w_9 (w_9l6 + 1) w_9l5 w_9l4 w_9l6 u_15) else (f_m_hire_39 f0 f10 f8 b_ n_w_9 (w_9l6 + 1) w_9l5 1000000000 w_9l6 u_15))) else (if w_9l4 ≤ 1000000000 then (if w_9l4 ≤ 1000000000 then (f_m_hire_39 f0 f10 f8 b_ n_w_9 (w_9l6 + 1) 1000000000 w_9l4 w_9l3 u_15) else (f_m_hire_39 f0 f10 f8 b_ n_w_9 (w_9l6 + 1) 1000000000 1000000000 w_9l3 u_15)) else (if w_9l4 ≤ 1000000000 then (f_m_hire_39 f0 f10 f8 b_ n_w_9 (w_9l6 + 1) 1000000000 w_9l4 w_9l6 u_15) else (f_m_hire_39 f0 f10 f8 b_ n_w_9 (w_9l6 + 1) 1000000000 1000000000 w_9l6 u_15)))) else (if w_9l4 ≤ 1000000000 then (if w_9l4 ≤ 1000000000 then (f_m_hire_39 f0 f10 f8 b_ n_w_9 (w_9l6 + 1) w_9l4 w_9l4 w_9l3 u_15) else (f_m_hire_39 f0 f10 f8 b_ n_w_9 (w_9l6 + 1) w_9l4 1000000000 w_9l3 u_15)) else (if w_9l4 ≤ 1000000000 then (f_m_hire_39 f0 f10 f8 b_ n_w_9 (w_9l6 + 1) w_9l4 w_9l4 w_9l6 u_15) else (f_m_hire_39 f0 f10 f8 b_ n_w_9 (w_9l6 + 1) w_9l4 1000000000 w_9l6 u_15)))) else (if w_9l4 ≤ (u_15 35) then (if w_9l5 ≤ (u_15 35) then (if w_9l4 ≤ (u_15 35) then (if w_9l4 ≤ (u_15 35) then (f_m_hire_39 f0 f10 f8 b_ n_w_9 (w_9l6 + 1) w_9l5 w_9l4 w_9l3 u_15) else (f_m_hire_39 f0 f10 f8 b_ n_w_9 (w_9l6 + 1) w_9l5 (u_15 35) w_9l3 u_15)) else (if w_9l4 ≤ (u_15 35) then (f_m_hire_39 f0 f10 f8 b_ n_w_9 (w_9l6 + 1) w_9l5 w_9l4 w_9l6 u_15) else (f_m_hire_39 f0 f10 f8 b_ n_w_9 (w_9l6 + 1) w_9l5 (u_15 35) w_9l6 u_15))) else (if w_9l4 ≤ (u_15 35) then (if w_9l4 ≤ (u_15 35) then (f_m_hire_39 f0 f10 f8 b_ n_w_9 (w_9l6 + 1) (u_15 35) w_9l4 w_9l3 u_15) else (f_m_hire_39 f0 f10 f8 b_ n_w_9 (w_9l6 + 1) (u_15 35) (u_15 35) w_9l3 u_15)) else (if w_9l4 ≤ (u_15 35) then (f_m_hire_39 f0 f10 f8 b_ n_w_9 (w_9l6 + 1) (u_15 35) w_9l4 w_9l6 u_15) else (f_m_hire_39 f0 f10 f8 b_ n_w_9 (w_9l6 + 1) (u_15 35) (u_15 35) w_9l6 u_15)))) else (if w_9l4 ≤ (u_15 35) then (if w_9l4 ≤ (u_15 35) then (f_m_hire_39 f0 f10 f8 b_ n_w_9 (w_9l6 + 1) w_9l4 w_9l4 w_9l3 u_15) else (f_m_hire_39 f0 f10 f8 b_ n_w_9 (w_9l6 + 1) w_9l4 (u_15 35) w_9l3 u_15)) else (if w_9l4 ≤ (u_15 35) then (f_m_hire_39 f0 f10 f8 b_ n_w_9 (w_9l6 + 1) w_9l4 w_9l4 w_9l6 u_15) else (f_m_hire_39 f0 f10 f8 b_ n_w_9 (w_9l6 + 1) w_9l4 (u_15 35) w_9l6 u_15))))) : Int32 × Int32 × Int32 × Int32 × (Nat → Int32)) with | (w_9l6, w_9l5, w_9l4, w_9l3, w_9m0) => (if w_9l3 = (-1) then (w_9l3, w_9m0) else (if w_ = 0 then (w_9l3, w_9m0) else (if w_9l5 = 1000000000 then (w_9l4, w_9m0) else (w_9l5, w_9m0))))) : Int32 × (Nat → Int32)) = RES := hE
            have hP : va_P D classes [(h, .inr (10, ML u_15 Rf)), ((Rf 0), .inl (cI, 1302, .inl f0)), ((Rf 10), .inl (cI, 30, .inl f10)), ((Rf 8), .inl (cI, 6, .inl f8))] H := hP
            have hD : va_D A [(h, .inr (10, ML u_15 Rf)), ((Rf 0), .inl (cI, 1302, .inl f0)), ((Rf 10), .inl (cI, 30, .inl f10)), ((Rf 8), .inl (cI, 6, .inl f8))] := hD
            refine lv_iconst (v := (-1)) hx hb dX10_hire_55 (by decide) ?_
            refine lv_icmp_ne (tgt := 65) hx hb dX10_hire_56 (by decide) (fun c_17 => ?_) (fun c_17 => ?_)
            · replace hF := hF.2 c_17
              rw [if_neg c_17] at hE
              refine lv_aload_n hx hb dX10_hire_65 rfl (lv_at hl 4 rfl) ?_
              refine va_get (D := D) (ci := 10) (v := .int (u_15 35)) (C := RX10) (T := TX10) (N := 45) hx hb hts iX10 hown hK hP 0 rfl rfl 35 (by decide) (hts _ wd_656) (fun _ h9 => h9) rfl dX10_hire_66 ?_
              refine lv_istore (lv' := [(7, .int (u_15 35)), (6, .int w_9l6), (5, .int w_9l5), (4, .int w_9l4), (3, .int w_9l3), (0, .ref h), (1, .int b_), (2, .int w_)]) hx hb dX10_hire_69 hl (by decide) rfl (fun ls hl => ?_)
              refine lv_iload hx hb dX10_hire_71 (lv_at hl 0 rfl) ?_
              refine lv_iload hx hb dX10_hire_73 (lv_at hl 3 rfl) ?_
              refine lv_icmp_ge (tgt := 83) hx hb dX10_hire_75 (by decide) (fun c_18 => ?_) (fun c_18 => ?_)
              · replace hF := hF.1 c_18
                rw [if_pos c_18] at hE
                refine lv_iload hx hb dX10_hire_83 (lv_at hl 0 rfl) ?_
                refine lv_iload hx hb dX10_hire_85 (lv_at hl 2 rfl) ?_
                refine lv_icmp_ge (tgt := 95) hx hb dX10_hire_87 (by decide) (fun c_19 => ?_) (fun c_19 => ?_)
                · replace hF := hF.1 c_19
                  rw [if_pos c_19] at hE
                  refine lv_iload hx hb dX10_hire_95 (lv_at hl 2 rfl) ?_
                  refine lv_istore (lv' := [(5, .int w_9l5), (7, .int (u_15 35)), (6, .int w_9l6), (4, .int w_9l4), (3, .int w_9l3), (0, .ref h), (1, .int b_), (2, .int w_)]) hx hb dX10_hire_97 hl (by decide) rfl (fun ls hl => ?_)
                  refine lv_iload hx hb dX10_hire_99 (lv_at hl 1 rfl) ?_
                  refine lv_iload hx hb dX10_hire_101 (lv_at hl 3 rfl) ?_
                  refine lv_icmp_ge (tgt := 111) hx hb dX10_hire_103 (by decide) (fun c_20 => ?_) (fun c_20 => ?_)
                  · replace hF := hF.1 c_20
                    rw [if_pos c_20] at hE
                    refine lv_iload_n hx hb dX10_hire_111 rfl (lv_at hl 4 rfl) ?_
                    refine lv_istore_n (lv' := [(3, .int w_9l3), (5, .int w_9l5), (7, .int (u_15 35)), (6, .int w_9l6), (4, .int w_9l4), (0, .ref h), (1, .int b_), (2, .int w_)]) hx hb dX10_hire_112 rfl hl (by decide) rfl (fun ls hl => ?_)
                    refine lv_iload hx hb dX10_hire_113 (lv_at hl 2 rfl) ?_
                    refine lv_iload hx hb dX10_hire_115 (lv_at hl 4 rfl) ?_
                    refine lv_icmp_ge (tgt := 125) hx hb dX10_hire_117 (by decide) (fun c_21 => ?_) (fun c_21 => ?_)
                    · replace hF := hF.1 c_21
                      rw [if_pos c_21] at hE
                      refine lv_iload hx hb dX10_hire_125 (lv_at hl 4 rfl) ?_
                      refine lv_istore (lv' := [(4, .int w_9l4), (3, .int w_9l3), (5, .int w_9l5), (7, .int (u_15 35)), (6, .int w_9l6), (0, .ref h), (1, .int b_), (2, .int w_)]) hx hb dX10_hire_127 hl (by decide) rfl (fun ls hl => ?_)
                      refine lv_iinc (v := (w_9l6 + 1)) (lv' := [(6, .int (w_9l6 + 1)), (4, .int w_9l4), (3, .int w_9l3), (5, .int w_9l5), (7, .int (u_15 35)), (0, .ref h), (1, .int b_), (2, .int w_)]) hx hb dX10_hire_129 hl (k := 4) rfl rfl (by decide) rfl (fun ls hl => ?_)
                      refine lv_goto (tgt := 39) hx hb dX10_hire_132 (by decide) ?_
                      exact ih_w_9 (w_9l6 + 1) w_9l5 w_9l4 w_9l3 u_15 _ _ ls (cutP (isC := [1, 2, 3, 0]) hP rfl) (cutD (isC := [1, 2, 3, 0]) hD rfl rfl) hS (lv_sub hl [0, 3, 1, 2, 5, 6, 7] rfl) hF hE
                    · replace hF := hF.2 c_21
                      rw [if_neg c_21] at hE
                      refine lv_iload hx hb dX10_hire_120 (lv_at hl 2 rfl) ?_
                      refine lv_goto (tgt := 127) hx hb dX10_hire_122 (by decide) ?_
                      refine lv_istore (lv' := [(4, .int (u_15 35)), (3, .int w_9l3), (5, .int w_9l5), (7, .int (u_15 35)), (6, .int w_9l6), (0, .ref h), (1, .int b_), (2, .int w_)]) hx hb dX10_hire_127 hl (by decide) rfl (fun ls hl => ?_)
                      refine lv_iinc (v := (w_9l6 + 1)) (lv' := [(6, .int (w_9l6 + 1)), (4, .int (u_15 35)), (3, .int w_9l3), (5, .int w_9l5), (7, .int (u_15 35)), (0, .ref h), (1, .int b_), (2, .int w_)]) hx hb dX10_hire_129 hl (k := 4) rfl rfl (by decide) rfl (fun ls hl => ?_)
                      refine lv_goto (tgt := 39) hx hb dX10_hire_132 (by decide) ?_
                      exact ih_w_9 (w_9l6 + 1) w_9l5 (u_15 35) w_9l3 u_15 _ _ ls (cutP (isC := [1, 2, 3, 0]) hP rfl) (cutD (isC := [1, 2, 3, 0]) hD rfl rfl) hS (lv_sub hl [0, 3, 1, 2, 5, 6, 7] rfl) hF hE
                  · replace hF := hF.2 c_20
                    rw [if_neg c_20] at hE
                    refine lv_iload hx hb dX10_hire_106 (lv_at hl 2 rfl) ?_
                    refine lv_goto (tgt := 112) hx hb dX10_hire_108 (by decide) ?_
                    refine lv_istore_n (lv' := [(3, .int w_9l6), (5, .int w_9l5), (7, .int (u_15 35)), (6, .int w_9l6), (4, .int w_9l4), (0, .ref h), (1, .int b_), (2, .int w_)]) hx hb dX10_hire_112 rfl hl (by decide) rfl (fun ls hl => ?_)
                    refine lv_iload hx hb dX10_hire_113 (lv_at hl 2 rfl) ?_
                    refine lv_iload hx hb dX10_hire_115 (lv_at hl 4 rfl) ?_
                    refine lv_icmp_ge (tgt := 125) hx hb dX10_hire_117 (by decide) (fun c_22 => ?_) (fun c_22 => ?_)
                    · replace hF := hF.1 c_22
                      rw [if_pos c_22] at hE
                      refine lv_iload hx hb dX10_hire_125 (lv_at hl 4 rfl) ?_
                      refine lv_istore (lv' := [(4, .int w_9l4), (3, .int w_9l6), (5, .int w_9l5), (7, .int (u_15 35)), (6, .int w_9l6), (0, .ref h), (1, .int b_), (2, .int w_)]) hx hb dX10_hire_127 hl (by decide) rfl (fun ls hl => ?_)
                      refine lv_iinc (v := (w_9l6 + 1)) (lv' := [(6, .int (w_9l6 + 1)), (4, .int w_9l4), (3, .int w_9l6), (5, .int w_9l5), (7, .int (u_15 35)), (0, .ref h), (1, .int b_), (2, .int w_)]) hx hb dX10_hire_129 hl (k := 4) rfl rfl (by decide) rfl (fun ls hl => ?_)
                      refine lv_goto (tgt := 39) hx hb dX10_hire_132 (by decide) ?_
                      exact ih_w_9 (w_9l6 + 1) w_9l5 w_9l4 w_9l6 u_15 _ _ ls (cutP (isC := [1, 2, 3, 0]) hP rfl) (cutD (isC := [1, 2, 3, 0]) hD rfl rfl) hS (lv_sub hl [0, 3, 1, 2, 5, 6, 7] rfl) hF hE
                    · replace hF := hF.2 c_22
                      rw [if_neg c_22] at hE
                      refine lv_iload hx hb dX10_hire_120 (lv_at hl 2 rfl) ?_
                      refine lv_goto (tgt := 127) hx hb dX10_hire_122 (by decide) ?_
                      refine lv_istore (lv' := [(4, .int (u_15 35)), (3, .int w_9l6), (5, .int w_9l5), (7, .int (u_15 35)), (6, .int w_9l6), (0, .ref h), (1, .int b_), (2, .int w_)]) hx hb dX10_hire_127 hl (by decide) rfl (fun ls hl => ?_)
                      refine lv_iinc (v := (w_9l6 + 1)) (lv' := [(6, .int (w_9l6 + 1)), (4, .int (u_15 35)), (3, .int w_9l6), (5, .int w_9l5), (7, .int (u_15 35)), (0, .ref h), (1, .int b_), (2, .int w_)]) hx hb dX10_hire_129 hl (k := 4) rfl rfl (by decide) rfl (fun ls hl => ?_)
                      refine lv_goto (tgt := 39) hx hb dX10_hire_132 (by decide) ?_
                      exact ih_w_9 (w_9l6 + 1) w_9l5 (u_15 35) w_9l6 u_15 _ _ ls (cutP (isC := [1, 2, 3, 0]) hP rfl) (cutD (isC := [1, 2, 3, 0]) hD rfl rfl) hS (lv_sub hl [0, 3, 1, 2, 5, 6, 7] rfl) hF hE
                · replace hF := hF.2 c_19
                  rw [if_neg c_19] at hE
                  refine lv_iload hx hb dX10_hire_90 (lv_at hl 0 rfl) ?_
                  refine lv_goto (tgt := 97) hx hb dX10_hire_92 (by decide) ?_
                  refine lv_istore (lv' := [(5, .int (u_15 35)), (7, .int (u_15 35)), (6, .int w_9l6), (4, .int w_9l4), (3, .int w_9l3), (0, .ref h), (1, .int b_), (2, .int w_)]) hx hb dX10_hire_97 hl (by decide) rfl (fun ls hl => ?_)
                  refine lv_iload hx hb dX10_hire_99 (lv_at hl 1 rfl) ?_
                  refine lv_iload hx hb dX10_hire_101 (lv_at hl 3 rfl) ?_
                  refine lv_icmp_ge (tgt := 111) hx hb dX10_hire_103 (by decide) (fun c_23 => ?_) (fun c_23 => ?_)
                  · replace hF := hF.1 c_23
                    rw [if_pos c_23] at hE
                    refine lv_iload_n hx hb dX10_hire_111 rfl (lv_at hl 4 rfl) ?_
                    refine lv_istore_n (lv' := [(3, .int w_9l3), (5, .int (u_15 35)), (7, .int (u_15 35)), (6, .int w_9l6), (4, .int w_9l4), (0, .ref h), (1, .int b_), (2, .int w_)]) hx hb dX10_hire_112 rfl hl (by decide) rfl (fun ls hl => ?_)
                    refine lv_iload hx hb dX10_hire_113 (lv_at hl 2 rfl) ?_
                    refine lv_iload hx hb dX10_hire_115 (lv_at hl 4 rfl) ?_
                    refine lv_icmp_ge (tgt := 125) hx hb dX10_hire_117 (by decide) (fun c_24 => ?_) (fun c_24 => ?_)
                    · replace hF := hF.1 c_24
                      rw [if_pos c_24] at hE
                      refine lv_iload hx hb dX10_hire_125 (lv_at hl 4 rfl) ?_
                      refine lv_istore (lv' := [(4, .int w_9l4), (3, .int w_9l3), (5, .int (u_15 35)), (7, .int (u_15 35)), (6, .int w_9l6), (0, .ref h), (1, .int b_), (2, .int w_)]) hx hb dX10_hire_127 hl (by decide) rfl (fun ls hl => ?_)
                      refine lv_iinc (v := (w_9l6 + 1)) (lv' := [(6, .int (w_9l6 + 1)), (4, .int w_9l4), (3, .int w_9l3), (5, .int (u_15 35)), (7, .int (u_15 35)), (0, .ref h), (1, .int b_), (2, .int w_)]) hx hb dX10_hire_129 hl (k := 4) rfl rfl (by decide) rfl (fun ls hl => ?_)
                      refine lv_goto (tgt := 39) hx hb dX10_hire_132 (by decide) ?_
                      exact ih_w_9 (w_9l6 + 1) (u_15 35) w_9l4 w_9l3 u_15 _ _ ls (cutP (isC := [1, 2, 3, 0]) hP rfl) (cutD (isC := [1, 2, 3, 0]) hD rfl rfl) hS (lv_sub hl [0, 3, 1, 2, 5, 6, 7] rfl) hF hE
                    · replace hF := hF.2 c_24
                      rw [if_neg c_24] at hE
                      refine lv_iload hx hb dX10_hire_120 (lv_at hl 2 rfl) ?_
                      refine lv_goto (tgt := 127) hx hb dX10_hire_122 (by decide) ?_
                      refine lv_istore (lv' := [(4, .int (u_15 35)), (3, .int w_9l3), (5, .int (u_15 35)), (7, .int (u_15 35)), (6, .int w_9l6), (0, .ref h), (1, .int b_), (2, .int w_)]) hx hb dX10_hire_127 hl (by decide) rfl (fun ls hl => ?_)
                      refine lv_iinc (v := (w_9l6 + 1)) (lv' := [(6, .int (w_9l6 + 1)), (4, .int (u_15 35)), (3, .int w_9l3), (5, .int (u_15 35)), (7, .int (u_15 35)), (0, .ref h), (1, .int b_), (2, .int w_)]) hx hb dX10_hire_129 hl (k := 4) rfl rfl (by decide) rfl (fun ls hl => ?_)
                      refine lv_goto (tgt := 39) hx hb dX10_hire_132 (by decide) ?_
                      exact ih_w_9 (w_9l6 + 1) (u_15 35) (u_15 35) w_9l3 u_15 _ _ ls (cutP (isC := [1, 2, 3, 0]) hP rfl) (cutD (isC := [1, 2, 3, 0]) hD rfl rfl) hS (lv_sub hl [0, 3, 1, 2, 5, 6, 7] rfl) hF hE
                  · replace hF := hF.2 c_23
                    rw [if_neg c_23] at hE
                    refine lv_iload hx hb dX10_hire_106 (lv_at hl 2 rfl) ?_
                    refine lv_goto (tgt := 112) hx hb dX10_hire_108 (by decide) ?_
                    refine lv_istore_n (lv' := [(3, .int w_9l6), (5, .int (u_15 35)), (7, .int (u_15 35)), (6, .int w_9l6), (4, .int w_9l4), (0, .ref h), (1, .int b_), (2, .int w_)]) hx hb dX10_hire_112 rfl hl (by decide) rfl (fun ls hl => ?_)
                    refine lv_iload hx hb dX10_hire_113 (lv_at hl 2 rfl) ?_
                    refine lv_iload hx hb dX10_hire_115 (lv_at hl 4 rfl) ?_
                    refine lv_icmp_ge (tgt := 125) hx hb dX10_hire_117 (by decide) (fun c_25 => ?_) (fun c_25 => ?_)
                    · replace hF := hF.1 c_25
                      rw [if_pos c_25] at hE
                      refine lv_iload hx hb dX10_hire_125 (lv_at hl 4 rfl) ?_
                      refine lv_istore (lv' := [(4, .int w_9l4), (3, .int w_9l6), (5, .int (u_15 35)), (7, .int (u_15 35)), (6, .int w_9l6), (0, .ref h), (1, .int b_), (2, .int w_)]) hx hb dX10_hire_127 hl (by decide) rfl (fun ls hl => ?_)
                      refine lv_iinc (v := (w_9l6 + 1)) (lv' := [(6, .int (w_9l6 + 1)), (4, .int w_9l4), (3, .int w_9l6), (5, .int (u_15 35)), (7, .int (u_15 35)), (0, .ref h), (1, .int b_), (2, .int w_)]) hx hb dX10_hire_129 hl (k := 4) rfl rfl (by decide) rfl (fun ls hl => ?_)
                      refine lv_goto (tgt := 39) hx hb dX10_hire_132 (by decide) ?_
                      exact ih_w_9 (w_9l6 + 1) (u_15 35) w_9l4 w_9l6 u_15 _ _ ls (cutP (isC := [1, 2, 3, 0]) hP rfl) (cutD (isC := [1, 2, 3, 0]) hD rfl rfl) hS (lv_sub hl [0, 3, 1, 2, 5, 6, 7] rfl) hF hE
                    · replace hF := hF.2 c_25
                      rw [if_neg c_25] at hE
                      refine lv_iload hx hb dX10_hire_120 (lv_at hl 2 rfl) ?_
                      refine lv_goto (tgt := 127) hx hb dX10_hire_122 (by decide) ?_
                      refine lv_istore (lv' := [(4, .int (u_15 35)), (3, .int w_9l6), (5, .int (u_15 35)), (7, .int (u_15 35)), (6, .int w_9l6), (0, .ref h), (1, .int b_), (2, .int w_)]) hx hb dX10_hire_127 hl (by decide) rfl (fun ls hl => ?_)
                      refine lv_iinc (v := (w_9l6 + 1)) (lv' := [(6, .int (w_9l6 + 1)), (4, .int (u_15 35)), (3, .int w_9l6), (5, .int (u_15 35)), (7, .int (u_15 35)), (0, .ref h), (1, .int b_), (2, .int w_)]) hx hb dX10_hire_129 hl (k := 4) rfl rfl (by decide) rfl (fun ls hl => ?_)
                      refine lv_goto (tgt := 39) hx hb dX10_hire_132 (by decide) ?_
                      exact ih_w_9 (w_9l6 + 1) (u_15 35) (u_15 35) w_9l6 u_15 _ _ ls (cutP (isC := [1, 2, 3, 0]) hP rfl) (cutD (isC := [1, 2, 3, 0]) hD rfl rfl) hS (lv_sub hl [0, 3, 1, 2, 5, 6, 7] rfl) hF hE
              · replace hF := hF.2 c_18
                rw [if_neg c_18] at hE
                refine lv_iload hx hb dX10_hire_78 (lv_at hl 3 rfl) ?_
                refine lv_goto (tgt := 97) hx hb dX10_hire_80 (by decide) ?_
                refine lv_istore (lv' := [(5, .int w_9l4), (7, .int (u_15 35)), (6, .int w_9l6), (4, .int w_9l4), (3, .int w_9l3), (0, .ref h), (1, .int b_), (2, .int w_)]) hx hb dX10_hire_97 hl (by decide) rfl (fun ls hl => ?_)
                refine lv_iload hx hb dX10_hire_99 (lv_at hl 1 rfl) ?_
                refine lv_iload hx hb dX10_hire_101 (lv_at hl 3 rfl) ?_
                refine lv_icmp_ge (tgt := 111) hx hb dX10_hire_103 (by decide) (fun c_26 => ?_) (fun c_26 => ?_)
                · replace hF := hF.1 c_26
                  rw [if_pos c_26] at hE
                  refine lv_iload_n hx hb dX10_hire_111 rfl (lv_at hl 4 rfl) ?_
                  refine lv_istore_n (lv' := [(3, .int w_9l3), (5, .int w_9l4), (7, .int (u_15 35)), (6, .int w_9l6), (4, .int w_9l4), (0, .ref h), (1, .int b_), (2, .int w_)]) hx hb dX10_hire_112 rfl hl (by decide) rfl (fun ls hl => ?_)
                  refine lv_iload hx hb dX10_hire_113 (lv_at hl 2 rfl) ?_
                  refine lv_iload hx hb dX10_hire_115 (lv_at hl 4 rfl) ?_
                  refine lv_icmp_ge (tgt := 125) hx hb dX10_hire_117 (by decide) (fun c_27 => ?_) (fun c_27 => ?_)
                  · replace hF := hF.1 c_27
                    rw [if_pos c_27] at hE
                    refine lv_iload hx hb dX10_hire_125 (lv_at hl 4 rfl) ?_
                    refine lv_istore (lv' := [(4, .int w_9l4), (3, .int w_9l3), (5, .int w_9l4), (7, .int (u_15 35)), (6, .int w_9l6), (0, .ref h), (1, .int b_), (2, .int w_)]) hx hb dX10_hire_127 hl (by decide) rfl (fun ls hl => ?_)
                    refine lv_iinc (v := (w_9l6 + 1)) (lv' := [(6, .int (w_9l6 + 1)), (4, .int w_9l4), (3, .int w_9l3), (5, .int w_9l4), (7, .int (u_15 35)), (0, .ref h), (1, .int b_), (2, .int w_)]) hx hb dX10_hire_129 hl (k := 4) rfl rfl (by decide) rfl (fun ls hl => ?_)
                    refine lv_goto (tgt := 39) hx hb dX10_hire_132 (by decide) ?_
                    exact ih_w_9 (w_9l6 + 1) w_9l4 w_9l4 w_9l3 u_15 _ _ ls (cutP (isC := [1, 2, 3, 0]) hP rfl) (cutD (isC := [1, 2, 3, 0]) hD rfl rfl) hS (lv_sub hl [0, 3, 1, 2, 5, 6, 7] rfl) hF hE
                  · replace hF := hF.2 c_27
                    rw [if_neg c_27] at hE
                    refine lv_iload hx hb dX10_hire_120 (lv_at hl 2 rfl) ?_
                    refine lv_goto (tgt := 127) hx hb dX10_hire_122 (by decide) ?_
                    refine lv_istore (lv' := [(4, .int (u_15 35)), (3, .int w_9l3), (5, .int w_9l4), (7, .int (u_15 35)), (6, .int w_9l6), (0, .ref h), (1, .int b_), (2, .int w_)]) hx hb dX10_hire_127 hl (by decide) rfl (fun ls hl => ?_)
                    refine lv_iinc (v := (w_9l6 + 1)) (lv' := [(6, .int (w_9l6 + 1)), (4, .int (u_15 35)), (3, .int w_9l3), (5, .int w_9l4), (7, .int (u_15 35)), (0, .ref h), (1, .int b_), (2, .int w_)]) hx hb dX10_hire_129 hl (k := 4) rfl rfl (by decide) rfl (fun ls hl => ?_)
                    refine lv_goto (tgt := 39) hx hb dX10_hire_132 (by decide) ?_
                    exact ih_w_9 (w_9l6 + 1) w_9l4 (u_15 35) w_9l3 u_15 _ _ ls (cutP (isC := [1, 2, 3, 0]) hP rfl) (cutD (isC := [1, 2, 3, 0]) hD rfl rfl) hS (lv_sub hl [0, 3, 1, 2, 5, 6, 7] rfl) hF hE
                · replace hF := hF.2 c_26
                  rw [if_neg c_26] at hE
                  refine lv_iload hx hb dX10_hire_106 (lv_at hl 2 rfl) ?_
                  refine lv_goto (tgt := 112) hx hb dX10_hire_108 (by decide) ?_
                  refine lv_istore_n (lv' := [(3, .int w_9l6), (5, .int w_9l4), (7, .int (u_15 35)), (6, .int w_9l6), (4, .int w_9l4), (0, .ref h), (1, .int b_), (2, .int w_)]) hx hb dX10_hire_112 rfl hl (by decide) rfl (fun ls hl => ?_)
                  refine lv_iload hx hb dX10_hire_113 (lv_at hl 2 rfl) ?_
                  refine lv_iload hx hb dX10_hire_115 (lv_at hl 4 rfl) ?_
                  refine lv_icmp_ge (tgt := 125) hx hb dX10_hire_117 (by decide) (fun c_28 => ?_) (fun c_28 => ?_)
                  · replace hF := hF.1 c_28
                    rw [if_pos c_28] at hE
                    refine lv_iload hx hb dX10_hire_125 (lv_at hl 4 rfl) ?_
                    refine lv_istore (lv' := [(4, .int w_9l4), (3, .int w_9l6), (5, .int w_9l4), (7, .int (u_15 35)), (6, .int w_9l6), (0, .ref h), (1, .int b_), (2, .int w_)]) hx hb dX10_hire_127 hl (by decide) rfl (fun ls hl => ?_)
                    refine lv_iinc (v := (w_9l6 + 1)) (lv' := [(6, .int (w_9l6 + 1)), (4, .int w_9l4), (3, .int w_9l6), (5, .int w_9l4), (7, .int (u_15 35)), (0, .ref h), (1, .int b_), (2, .int w_)]) hx hb dX10_hire_129 hl (k := 4) rfl rfl (by decide) rfl (fun ls hl => ?_)
                    refine lv_goto (tgt := 39) hx hb dX10_hire_132 (by decide) ?_
                    exact ih_w_9 (w_9l6 + 1) w_9l4 w_9l4 w_9l6 u_15 _ _ ls (cutP (isC := [1, 2, 3, 0]) hP rfl) (cutD (isC := [1, 2, 3, 0]) hD rfl rfl) hS (lv_sub hl [0, 3, 1, 2, 5, 6, 7] rfl) hF hE
                  · replace hF := hF.2 c_28
                    rw [if_neg c_28] at hE
                    refine lv_iload hx hb dX10_hire_120 (lv_at hl 2 rfl) ?_
                    refine lv_goto (tgt := 127) hx hb dX10_hire_122 (by decide) ?_
                    refine lv_istore (lv' := [(4, .int (u_15 35)), (3, .int w_9l6), (5, .int w_9l4), (7, .int (u_15 35)), (6, .int w_9l6), (0, .ref h), (1, .int b_), (2, .int w_)]) hx hb dX10_hire_127 hl (by decide) rfl (fun ls hl => ?_)
                    refine lv_iinc (v := (w_9l6 + 1)) (lv' := [(6, .int (w_9l6 + 1)), (4, .int (u_15 35)), (3, .int w_9l6), (5, .int w_9l4), (7, .int (u_15 35)), (0, .ref h), (1, .int b_), (2, .int w_)]) hx hb dX10_hire_129 hl (k := 4) rfl rfl (by decide) rfl (fun ls hl => ?_)
                    refine lv_goto (tgt := 39) hx hb dX10_hire_132 (by decide) ?_
                    exact ih_w_9 (w_9l6 + 1) w_9l4 (u_15 35) w_9l6 u_15 _ _ ls (cutP (isC := [1, 2, 3, 0]) hP rfl) (cutD (isC := [1, 2, 3, 0]) hD rfl rfl) hS (lv_sub hl [0, 3, 1, 2, 5, 6, 7] rfl) hF hE
            · replace hF := hF.1 c_17
              rw [if_pos c_17] at hE
              subst c_17
              refine lv_ldcw (v := 1000000000) hx hb hown (hts _ wd_651) dX10_hire_59 ?_
              refine lv_goto (tgt := 69) hx hb dX10_hire_62 (by decide) ?_
              refine lv_istore (lv' := [(7, .int 1000000000), (6, .int w_9l6), (5, .int w_9l5), (4, .int w_9l4), (3, .int w_9l3), (0, .ref h), (1, .int b_), (2, .int w_)]) hx hb dX10_hire_69 hl (by decide) rfl (fun ls hl => ?_)
              refine lv_iload hx hb dX10_hire_71 (lv_at hl 0 rfl) ?_
              refine lv_iload hx hb dX10_hire_73 (lv_at hl 3 rfl) ?_
              refine lv_icmp_ge (tgt := 83) hx hb dX10_hire_75 (by decide) (fun c_29 => ?_) (fun c_29 => ?_)
              · replace hF := hF.1 c_29
                rw [if_pos c_29] at hE
                refine lv_iload hx hb dX10_hire_83 (lv_at hl 0 rfl) ?_
                refine lv_iload hx hb dX10_hire_85 (lv_at hl 2 rfl) ?_
                refine lv_icmp_ge (tgt := 95) hx hb dX10_hire_87 (by decide) (fun c_30 => ?_) (fun c_30 => ?_)
                · replace hF := hF.1 c_30
                  rw [if_pos c_30] at hE
                  refine lv_iload hx hb dX10_hire_95 (lv_at hl 2 rfl) ?_
                  refine lv_istore (lv' := [(5, .int w_9l5), (7, .int 1000000000), (6, .int w_9l6), (4, .int w_9l4), (3, .int w_9l3), (0, .ref h), (1, .int b_), (2, .int w_)]) hx hb dX10_hire_97 hl (by decide) rfl (fun ls hl => ?_)
                  refine lv_iload hx hb dX10_hire_99 (lv_at hl 1 rfl) ?_
                  refine lv_iload hx hb dX10_hire_101 (lv_at hl 3 rfl) ?_
                  refine lv_icmp_ge (tgt := 111) hx hb dX10_hire_103 (by decide) (fun c_31 => ?_) (fun c_31 => ?_)
                  · replace hF := hF.1 c_31
                    rw [if_pos c_31] at hE
                    refine lv_iload_n hx hb dX10_hire_111 rfl (lv_at hl 4 rfl) ?_
                    refine lv_istore_n (lv' := [(3, .int w_9l3), (5, .int w_9l5), (7, .int 1000000000), (6, .int w_9l6), (4, .int w_9l4), (0, .ref h), (1, .int b_), (2, .int w_)]) hx hb dX10_hire_112 rfl hl (by decide) rfl (fun ls hl => ?_)
                    refine lv_iload hx hb dX10_hire_113 (lv_at hl 2 rfl) ?_
                    refine lv_iload hx hb dX10_hire_115 (lv_at hl 4 rfl) ?_
                    refine lv_icmp_ge (tgt := 125) hx hb dX10_hire_117 (by decide) (fun c_32 => ?_) (fun c_32 => ?_)
                    · replace hF := hF.1 c_32
                      rw [if_pos c_32] at hE
                      refine lv_iload hx hb dX10_hire_125 (lv_at hl 4 rfl) ?_
                      refine lv_istore (lv' := [(4, .int w_9l4), (3, .int w_9l3), (5, .int w_9l5), (7, .int 1000000000), (6, .int w_9l6), (0, .ref h), (1, .int b_), (2, .int w_)]) hx hb dX10_hire_127 hl (by decide) rfl (fun ls hl => ?_)
                      refine lv_iinc (v := (w_9l6 + 1)) (lv' := [(6, .int (w_9l6 + 1)), (4, .int w_9l4), (3, .int w_9l3), (5, .int w_9l5), (7, .int 1000000000), (0, .ref h), (1, .int b_), (2, .int w_)]) hx hb dX10_hire_129 hl (k := 4) rfl rfl (by decide) rfl (fun ls hl => ?_)
                      refine lv_goto (tgt := 39) hx hb dX10_hire_132 (by decide) ?_
                      exact ih_w_9 (w_9l6 + 1) w_9l5 w_9l4 w_9l3 u_15 _ _ ls (cutP (isC := [1, 2, 3, 0]) hP rfl) (cutD (isC := [1, 2, 3, 0]) hD rfl rfl) hS (lv_sub hl [0, 3, 1, 2, 5, 6, 7] rfl) hF hE
                    · replace hF := hF.2 c_32
                      rw [if_neg c_32] at hE
                      refine lv_iload hx hb dX10_hire_120 (lv_at hl 2 rfl) ?_
                      refine lv_goto (tgt := 127) hx hb dX10_hire_122 (by decide) ?_
                      refine lv_istore (lv' := [(4, .int 1000000000), (3, .int w_9l3), (5, .int w_9l5), (7, .int 1000000000), (6, .int w_9l6), (0, .ref h), (1, .int b_), (2, .int w_)]) hx hb dX10_hire_127 hl (by decide) rfl (fun ls hl => ?_)
                      refine lv_iinc (v := (w_9l6 + 1)) (lv' := [(6, .int (w_9l6 + 1)), (4, .int 1000000000), (3, .int w_9l3), (5, .int w_9l5), (7, .int 1000000000), (0, .ref h), (1, .int b_), (2, .int w_)]) hx hb dX10_hire_129 hl (k := 4) rfl rfl (by decide) rfl (fun ls hl => ?_)
                      refine lv_goto (tgt := 39) hx hb dX10_hire_132 (by decide) ?_
                      exact ih_w_9 (w_9l6 + 1) w_9l5 1000000000 w_9l3 u_15 _ _ ls (cutP (isC := [1, 2, 3, 0]) hP rfl) (cutD (isC := [1, 2, 3, 0]) hD rfl rfl) hS (lv_sub hl [0, 3, 1, 2, 5, 6, 7] rfl) hF hE
                  · replace hF := hF.2 c_31
                    rw [if_neg c_31] at hE
                    refine lv_iload hx hb dX10_hire_106 (lv_at hl 2 rfl) ?_
                    refine lv_goto (tgt := 112) hx hb dX10_hire_108 (by decide) ?_
                    refine lv_istore_n (lv' := [(3, .int w_9l6), (5, .int w_9l5), (7, .int 1000000000), (6, .int w_9l6), (4, .int w_9l4), (0, .ref h), (1, .int b_), (2, .int w_)]) hx hb dX10_hire_112 rfl hl (by decide) rfl (fun ls hl => ?_)
                    refine lv_iload hx hb dX10_hire_113 (lv_at hl 2 rfl) ?_
                    refine lv_iload hx hb dX10_hire_115 (lv_at hl 4 rfl) ?_
                    refine lv_icmp_ge (tgt := 125) hx hb dX10_hire_117 (by decide) (fun c_33 => ?_) (fun c_33 => ?_)
                    · replace hF := hF.1 c_33
                      rw [if_pos c_33] at hE
                      refine lv_iload hx hb dX10_hire_125 (lv_at hl 4 rfl) ?_
                      refine lv_istore (lv' := [(4, .int w_9l4), (3, .int w_9l6), (5, .int w_9l5), (7, .int 1000000000), (6, .int w_9l6), (0, .ref h), (1, .int b_), (2, .int w_)]) hx hb dX10_hire_127 hl (by decide) rfl (fun ls hl => ?_)
                      refine lv_iinc (v := (w_9l6 + 1)) (lv' := [(6, .int (w_9l6 + 1)), (4, .int w_9l4), (3, .int w_9l6), (5, .int w_9l5), (7, .int 1000000000), (0, .ref h), (1, .int b_), (2, .int w_)]) hx hb dX10_hire_129 hl (k := 4) rfl rfl (by decide) rfl (fun ls hl => ?_)
                      refine lv_goto (tgt := 39) hx hb dX10_hire_132 (by decide) ?_
                      exact ih_w_9 (w_9l6 + 1) w_9l5 w_9l4 w_9l6 u_15 _ _ ls (cutP (isC := [1, 2, 3, 0]) hP rfl) (cutD (isC := [1, 2, 3, 0]) hD rfl rfl) hS (lv_sub hl [0, 3, 1, 2, 5, 6, 7] rfl) hF hE
                    · replace hF := hF.2 c_33
                      rw [if_neg c_33] at hE
                      refine lv_iload hx hb dX10_hire_120 (lv_at hl 2 rfl) ?_
                      refine lv_goto (tgt := 127) hx hb dX10_hire_122 (by decide) ?_
                      refine lv_istore (lv' := [(4, .int 1000000000), (3, .int w_9l6), (5, .int w_9l5), (7, .int 1000000000), (6, .int w_9l6), (0, .ref h), (1, .int b_), (2, .int w_)]) hx hb dX10_hire_127 hl (by decide) rfl (fun ls hl => ?_)
                      refine lv_iinc (v := (w_9l6 + 1)) (lv' := [(6, .int (w_9l6 + 1)), (4, .int 1000000000), (3, .int w_9l6), (5, .int w_9l5), (7, .int 1000000000), (0, .ref h), (1, .int b_), (2, .int w_)]) hx hb dX10_hire_129 hl (k := 4) rfl rfl (by decide) rfl (fun ls hl => ?_)
                      refine lv_goto (tgt := 39) hx hb dX10_hire_132 (by decide) ?_
                      exact ih_w_9 (w_9l6 + 1) w_9l5 1000000000 w_9l6 u_15 _ _ ls (cutP (isC := [1, 2, 3, 0]) hP rfl) (cutD (isC := [1, 2, 3, 0]) hD rfl rfl) hS (lv_sub hl [0, 3, 1, 2, 5, 6, 7] rfl) hF hE
                · replace hF := hF.2 c_30
                  rw [if_neg c_30] at hE
                  refine lv_iload hx hb dX10_hire_90 (lv_at hl 0 rfl) ?_
                  refine lv_goto (tgt := 97) hx hb dX10_hire_92 (by decide) ?_
                  refine lv_istore (lv' := [(5, .int 1000000000), (7, .int 1000000000), (6, .int w_9l6), (4, .int w_9l4), (3, .int w_9l3), (0, .ref h), (1, .int b_), (2, .int w_)]) hx hb dX10_hire_97 hl (by decide) rfl (fun ls hl => ?_)
                  refine lv_iload hx hb dX10_hire_99 (lv_at hl 1 rfl) ?_
                  refine lv_iload hx hb dX10_hire_101 (lv_at hl 3 rfl) ?_
                  refine lv_icmp_ge (tgt := 111) hx hb dX10_hire_103 (by decide) (fun c_34 => ?_) (fun c_34 => ?_)
                  · replace hF := hF.1 c_34
                    rw [if_pos c_34] at hE
                    refine lv_iload_n hx hb dX10_hire_111 rfl (lv_at hl 4 rfl) ?_
                    refine lv_istore_n (lv' := [(3, .int w_9l3), (5, .int 1000000000), (7, .int 1000000000), (6, .int w_9l6), (4, .int w_9l4), (0, .ref h), (1, .int b_), (2, .int w_)]) hx hb dX10_hire_112 rfl hl (by decide) rfl (fun ls hl => ?_)
                    refine lv_iload hx hb dX10_hire_113 (lv_at hl 2 rfl) ?_
                    refine lv_iload hx hb dX10_hire_115 (lv_at hl 4 rfl) ?_
                    refine lv_icmp_ge (tgt := 125) hx hb dX10_hire_117 (by decide) (fun c_35 => ?_) (fun c_35 => ?_)
                    · replace hF := hF.1 c_35
                      rw [if_pos c_35] at hE
                      refine lv_iload hx hb dX10_hire_125 (lv_at hl 4 rfl) ?_
                      refine lv_istore (lv' := [(4, .int w_9l4), (3, .int w_9l3), (5, .int 1000000000), (7, .int 1000000000), (6, .int w_9l6), (0, .ref h), (1, .int b_), (2, .int w_)]) hx hb dX10_hire_127 hl (by decide) rfl (fun ls hl => ?_)
                      refine lv_iinc (v := (w_9l6 + 1)) (lv' := [(6, .int (w_9l6 + 1)), (4, .int w_9l4), (3, .int w_9l3), (5, .int 1000000000), (7, .int 1000000000), (0, .ref h), (1, .int b_), (2, .int w_)]) hx hb dX10_hire_129 hl (k := 4) rfl rfl (by decide) rfl (fun ls hl => ?_)
                      refine lv_goto (tgt := 39) hx hb dX10_hire_132 (by decide) ?_
                      exact ih_w_9 (w_9l6 + 1) 1000000000 w_9l4 w_9l3 u_15 _ _ ls (cutP (isC := [1, 2, 3, 0]) hP rfl) (cutD (isC := [1, 2, 3, 0]) hD rfl rfl) hS (lv_sub hl [0, 3, 1, 2, 5, 6, 7] rfl) hF hE
                    · replace hF := hF.2 c_35
                      rw [if_neg c_35] at hE
                      refine lv_iload hx hb dX10_hire_120 (lv_at hl 2 rfl) ?_
                      refine lv_goto (tgt := 127) hx hb dX10_hire_122 (by decide) ?_
                      refine lv_istore (lv' := [(4, .int 1000000000), (3, .int w_9l3), (5, .int 1000000000), (7, .int 1000000000), (6, .int w_9l6), (0, .ref h), (1, .int b_), (2, .int w_)]) hx hb dX10_hire_127 hl (by decide) rfl (fun ls hl => ?_)
                      refine lv_iinc (v := (w_9l6 + 1)) (lv' := [(6, .int (w_9l6 + 1)), (4, .int 1000000000), (3, .int w_9l3), (5, .int 1000000000), (7, .int 1000000000), (0, .ref h), (1, .int b_), (2, .int w_)]) hx hb dX10_hire_129 hl (k := 4) rfl rfl (by decide) rfl (fun ls hl => ?_)
                      refine lv_goto (tgt := 39) hx hb dX10_hire_132 (by decide) ?_
                      exact ih_w_9 (w_9l6 + 1) 1000000000 1000000000 w_9l3 u_15 _ _ ls (cutP (isC := [1, 2, 3, 0]) hP rfl) (cutD (isC := [1, 2, 3, 0]) hD rfl rfl) hS (lv_sub hl [0, 3, 1, 2, 5, 6, 7] rfl) hF hE
                  · replace hF := hF.2 c_34
                    rw [if_neg c_34] at hE
                    refine lv_iload hx hb dX10_hire_106 (lv_at hl 2 rfl) ?_
                    refine lv_goto (tgt := 112) hx hb dX10_hire_108 (by decide) ?_
                    refine lv_istore_n (lv' := [(3, .int w_9l6), (5, .int 1000000000), (7, .int 1000000000), (6, .int w_9l6), (4, .int w_9l4), (0, .ref h), (1, .int b_), (2, .int w_)]) hx hb dX10_hire_112 rfl hl (by decide) rfl (fun ls hl => ?_)
                    refine lv_iload hx hb dX10_hire_113 (lv_at hl 2 rfl) ?_
                    refine lv_iload hx hb dX10_hire_115 (lv_at hl 4 rfl) ?_
                    refine lv_icmp_ge (tgt := 125) hx hb dX10_hire_117 (by decide) (fun c_36 => ?_) (fun c_36 => ?_)
                    · replace hF := hF.1 c_36
                      rw [if_pos c_36] at hE
                      refine lv_iload hx hb dX10_hire_125 (lv_at hl 4 rfl) ?_
                      refine lv_istore (lv' := [(4, .int w_9l4), (3, .int w_9l6), (5, .int 1000000000), (7, .int 1000000000), (6, .int w_9l6), (0, .ref h), (1, .int b_), (2, .int w_)]) hx hb dX10_hire_127 hl (by decide) rfl (fun ls hl => ?_)
                      refine lv_iinc (v := (w_9l6 + 1)) (lv' := [(6, .int (w_9l6 + 1)), (4, .int w_9l4), (3, .int w_9l6), (5, .int 1000000000), (7, .int 1000000000), (0, .ref h), (1, .int b_), (2, .int w_)]) hx hb dX10_hire_129 hl (k := 4) rfl rfl (by decide) rfl (fun ls hl => ?_)
                      refine lv_goto (tgt := 39) hx hb dX10_hire_132 (by decide) ?_
                      exact ih_w_9 (w_9l6 + 1) 1000000000 w_9l4 w_9l6 u_15 _ _ ls (cutP (isC := [1, 2, 3, 0]) hP rfl) (cutD (isC := [1, 2, 3, 0]) hD rfl rfl) hS (lv_sub hl [0, 3, 1, 2, 5, 6, 7] rfl) hF hE
                    · replace hF := hF.2 c_36
                      rw [if_neg c_36] at hE
                      refine lv_iload hx hb dX10_hire_120 (lv_at hl 2 rfl) ?_
                      refine lv_goto (tgt := 127) hx hb dX10_hire_122 (by decide) ?_
                      refine lv_istore (lv' := [(4, .int 1000000000), (3, .int w_9l6), (5, .int 1000000000), (7, .int 1000000000), (6, .int w_9l6), (0, .ref h), (1, .int b_), (2, .int w_)]) hx hb dX10_hire_127 hl (by decide) rfl (fun ls hl => ?_)
                      refine lv_iinc (v := (w_9l6 + 1)) (lv' := [(6, .int (w_9l6 + 1)), (4, .int 1000000000), (3, .int w_9l6), (5, .int 1000000000), (7, .int 1000000000), (0, .ref h), (1, .int b_), (2, .int w_)]) hx hb dX10_hire_129 hl (k := 4) rfl rfl (by decide) rfl (fun ls hl => ?_)
                      refine lv_goto (tgt := 39) hx hb dX10_hire_132 (by decide) ?_
                      exact ih_w_9 (w_9l6 + 1) 1000000000 1000000000 w_9l6 u_15 _ _ ls (cutP (isC := [1, 2, 3, 0]) hP rfl) (cutD (isC := [1, 2, 3, 0]) hD rfl rfl) hS (lv_sub hl [0, 3, 1, 2, 5, 6, 7] rfl) hF hE
              · replace hF := hF.2 c_29
                rw [if_neg c_29] at hE
                refine lv_iload hx hb dX10_hire_78 (lv_at hl 3 rfl) ?_
                refine lv_goto (tgt := 97) hx hb dX10_hire_80 (by decide) ?_
                refine lv_istore (lv' := [(5, .int w_9l4), (7, .int 1000000000), (6, .int w_9l6), (4, .int w_9l4), (3, .int w_9l3), (0, .ref h), (1, .int b_), (2, .int w_)]) hx hb dX10_hire_97 hl (by decide) rfl (fun ls hl => ?_)
                refine lv_iload hx hb dX10_hire_99 (lv_at hl 1 rfl) ?_
                refine lv_iload hx hb dX10_hire_101 (lv_at hl 3 rfl) ?_
                refine lv_icmp_ge (tgt := 111) hx hb dX10_hire_103 (by decide) (fun c_37 => ?_) (fun c_37 => ?_)
                · replace hF := hF.1 c_37
                  rw [if_pos c_37] at hE
                  refine lv_iload_n hx hb dX10_hire_111 rfl (lv_at hl 4 rfl) ?_
                  refine lv_istore_n (lv' := [(3, .int w_9l3), (5, .int w_9l4), (7, .int 1000000000), (6, .int w_9l6), (4, .int w_9l4), (0, .ref h), (1, .int b_), (2, .int w_)]) hx hb dX10_hire_112 rfl hl (by decide) rfl (fun ls hl => ?_)
                  refine lv_iload hx hb dX10_hire_113 (lv_at hl 2 rfl) ?_
                  refine lv_iload hx hb dX10_hire_115 (lv_at hl 4 rfl) ?_
                  refine lv_icmp_ge (tgt := 125) hx hb dX10_hire_117 (by decide) (fun c_38 => ?_) (fun c_38 => ?_)
                  · replace hF := hF.1 c_38
                    rw [if_pos c_38] at hE
                    refine lv_iload hx hb dX10_hire_125 (lv_at hl 4 rfl) ?_
                    refine lv_istore (lv' := [(4, .int w_9l4), (3, .int w_9l3), (5, .int w_9l4), (7, .int 1000000000), (6, .int w_9l6), (0, .ref h), (1, .int b_), (2, .int w_)]) hx hb dX10_hire_127 hl (by decide) rfl (fun ls hl => ?_)
                    refine lv_iinc (v := (w_9l6 + 1)) (lv' := [(6, .int (w_9l6 + 1)), (4, .int w_9l4), (3, .int w_9l3), (5, .int w_9l4), (7, .int 1000000000), (0, .ref h), (1, .int b_), (2, .int w_)]) hx hb dX10_hire_129 hl (k := 4) rfl rfl (by decide) rfl (fun ls hl => ?_)
                    refine lv_goto (tgt := 39) hx hb dX10_hire_132 (by decide) ?_
                    exact ih_w_9 (w_9l6 + 1) w_9l4 w_9l4 w_9l3 u_15 _ _ ls (cutP (isC := [1, 2, 3, 0]) hP rfl) (cutD (isC := [1, 2, 3, 0]) hD rfl rfl) hS (lv_sub hl [0, 3, 1, 2, 5, 6, 7] rfl) hF hE
                  · replace hF := hF.2 c_38
                    rw [if_neg c_38] at hE
                    refine lv_iload hx hb dX10_hire_120 (lv_at hl 2 rfl) ?_
                    refine lv_goto (tgt := 127) hx hb dX10_hire_122 (by decide) ?_
                    refine lv_istore (lv' := [(4, .int 1000000000), (3, .int w_9l3), (5, .int w_9l4), (7, .int 1000000000), (6, .int w_9l6), (0, .ref h), (1, .int b_), (2, .int w_)]) hx hb dX10_hire_127 hl (by decide) rfl (fun ls hl => ?_)
                    refine lv_iinc (v := (w_9l6 + 1)) (lv' := [(6, .int (w_9l6 + 1)), (4, .int 1000000000), (3, .int w_9l3), (5, .int w_9l4), (7, .int 1000000000), (0, .ref h), (1, .int b_), (2, .int w_)]) hx hb dX10_hire_129 hl (k := 4) rfl rfl (by decide) rfl (fun ls hl => ?_)
                    refine lv_goto (tgt := 39) hx hb dX10_hire_132 (by decide) ?_
                    exact ih_w_9 (w_9l6 + 1) w_9l4 1000000000 w_9l3 u_15 _ _ ls (cutP (isC := [1, 2, 3, 0]) hP rfl) (cutD (isC := [1, 2, 3, 0]) hD rfl rfl) hS (lv_sub hl [0, 3, 1, 2, 5, 6, 7] rfl) hF hE
                · replace hF := hF.2 c_37
                  rw [if_neg c_37] at hE
                  refine lv_iload hx hb dX10_hire_106 (lv_at hl 2 rfl) ?_
                  refine lv_goto (tgt := 112) hx hb dX10_hire_108 (by decide) ?_
                  refine lv_istore_n (lv' := [(3, .int w_9l6), (5, .int w_9l4), (7, .int 1000000000), (6, .int w_9l6), (4, .int w_9l4), (0, .ref h), (1, .int b_), (2, .int w_)]) hx hb dX10_hire_112 rfl hl (by decide) rfl (fun ls hl => ?_)
                  refine lv_iload hx hb dX10_hire_113 (lv_at hl 2 rfl) ?_
                  refine lv_iload hx hb dX10_hire_115 (lv_at hl 4 rfl) ?_
                  refine lv_icmp_ge (tgt := 125) hx hb dX10_hire_117 (by decide) (fun c_39 => ?_) (fun c_39 => ?_)
                  · replace hF := hF.1 c_39
                    rw [if_pos c_39] at hE
                    refine lv_iload hx hb dX10_hire_125 (lv_at hl 4 rfl) ?_
                    refine lv_istore (lv' := [(4, .int w_9l4), (3, .int w_9l6), (5, .int w_9l4), (7, .int 1000000000), (6, .int w_9l6), (0, .ref h), (1, .int b_), (2, .int w_)]) hx hb dX10_hire_127 hl (by decide) rfl (fun ls hl => ?_)
                    refine lv_iinc (v := (w_9l6 + 1)) (lv' := [(6, .int (w_9l6 + 1)), (4, .int w_9l4), (3, .int w_9l6), (5, .int w_9l4), (7, .int 1000000000), (0, .ref h), (1, .int b_), (2, .int w_)]) hx hb dX10_hire_129 hl (k := 4) rfl rfl (by decide) rfl (fun ls hl => ?_)
                    refine lv_goto (tgt := 39) hx hb dX10_hire_132 (by decide) ?_
                    exact ih_w_9 (w_9l6 + 1) w_9l4 w_9l4 w_9l6 u_15 _ _ ls (cutP (isC := [1, 2, 3, 0]) hP rfl) (cutD (isC := [1, 2, 3, 0]) hD rfl rfl) hS (lv_sub hl [0, 3, 1, 2, 5, 6, 7] rfl) hF hE
                  · replace hF := hF.2 c_39
                    rw [if_neg c_39] at hE
                    refine lv_iload hx hb dX10_hire_120 (lv_at hl 2 rfl) ?_
                    refine lv_goto (tgt := 127) hx hb dX10_hire_122 (by decide) ?_
                    refine lv_istore (lv' := [(4, .int 1000000000), (3, .int w_9l6), (5, .int w_9l4), (7, .int 1000000000), (6, .int w_9l6), (0, .ref h), (1, .int b_), (2, .int w_)]) hx hb dX10_hire_127 hl (by decide) rfl (fun ls hl => ?_)
                    refine lv_iinc (v := (w_9l6 + 1)) (lv' := [(6, .int (w_9l6 + 1)), (4, .int 1000000000), (3, .int w_9l6), (5, .int w_9l4), (7, .int 1000000000), (0, .ref h), (1, .int b_), (2, .int w_)]) hx hb dX10_hire_129 hl (k := 4) rfl rfl (by decide) rfl (fun ls hl => ?_)
                    refine lv_goto (tgt := 39) hx hb dX10_hire_132 (by decide) ?_
                    exact ih_w_9 (w_9l6 + 1) w_9l4 1000000000 w_9l6 u_15 _ _ ls (cutP (isC := [1, 2, 3, 0]) hP rfl) (cutD (isC := [1, 2, 3, 0]) hD rfl rfl) hS (lv_sub hl [0, 3, 1, 2, 5, 6, 7] rfl) hF hE
      exact lp_39_w_9 10 0 1000000000 1000000000 (-1) G _ _ ls hP hD hS hl hF hE
    · replace hF := hF.1 c_8
      rw [if_pos c_8] at hE
      refine lv_ldc (v := (-1000000002)) hx hb hown (hts _ wd_507) dX10_hire_21 ?_
      exact hret (-1000000002) G _ _ _ _ dX10_hire_23 rfl hE (cutP (isC := [3, 0, 1, 2]) hP rfl) (cutD (isC := [3, 0, 1, 2]) hD rfl rfl) hS
  · replace hF := hF.1 c_4
    rw [if_pos c_4] at hE
    refine lv_ldc (v := (-1000000001)) hx hb hown (hts _ wd_580) dX10_hire_8 ?_
    exact hret (-1000000001) G _ _ _ _ dX10_hire_10 rfl hE (cutP (isC := [3, 0, 1, 2]) hP rfl) (cutD (isC := [3, 0, 1, 2]) hD rfl rfl) hS
noncomputable def f_m_toldHer_50 (f9 : Nat → Int32) (f10 : Nat → Int32) (f8 : Nat → Int32) (b_ : Int32) (k_ : Int32) (i_ : Int32) (w_9l7 : Int32) (n : Nat) : Int32 → Int32 → Int32 → Int32 → (Nat → Int32) → Int32 × Int32 × Int32 × Int32 × (Nat → Int32) := Nat.rec (motive := fun _ => Int32 → Int32 → Int32 → Int32 → (Nat → Int32) → Int32 × Int32 × Int32 × Int32 × (Nat → Int32)) (fun w_13l8 w_13l6 w_13l5 w_13l4 w_13m0 => (w_13l8, w_13l6, w_13l5, w_13l4, w_13m0)) (fun n ih w_13l8 w_13l6 w_13l5 w_13l4 w_13m0 => (if (w_13m0 4) ≤ w_13l8 then (w_13l8, w_13l6, w_13l5, w_13l4, w_13m0) else (if ((f_m_quarrels w_13m0 f10 w_9l7 w_13l8 (f9 (w_9l7 : Int32).toNatClampNeg) (f8 (b_ : Int32).toNatClampNeg)) 34) = 0 then (if ((f_m_quarrels w_13m0 f10 w_9l7 w_13l8 (f9 (w_9l7 : Int32).toNatClampNeg) (f8 (b_ : Int32).toNatClampNeg)) 33) = 0 then (if ((f_m_quarrels w_13m0 f10 w_9l7 w_13l8 (f9 (w_9l7 : Int32).toNatClampNeg) (f8 (b_ : Int32).toNatClampNeg)) 32) = k_ then (if w_13l4 = i_ then (ih (w_13l8 + 1) ((10 * w_9l7) + w_13l8) (w_13l5 ||| (1 <<< (w_13l8 &&& 31))) (w_13l4 + 1) (f_m_quarrels w_13m0 f10 w_9l7 w_13l8 (f9 (w_9l7 : Int32).toNatClampNeg) (f8 (b_ : Int32).toNatClampNeg))) else (ih (w_13l8 + 1) w_13l6 (w_13l5 ||| (1 <<< (w_13l8 &&& 31))) (w_13l4 + 1) (f_m_quarrels w_13m0 f10 w_9l7 w_13l8 (f9 (w_9l7 : Int32).toNatClampNeg) (f8 (b_ : Int32).toNatClampNeg)))) else (ih (w_13l8 + 1) w_13l6 w_13l5 w_13l4 (f_m_quarrels w_13m0 f10 w_9l7 w_13l8 (f9 (w_9l7 : Int32).toNatClampNeg) (f8 (b_ : Int32).toNatClampNeg)))) else (ih (w_13l8 + 1) w_13l6 w_13l5 w_13l4 (f_m_quarrels w_13m0 f10 w_9l7 w_13l8 (f9 (w_9l7 : Int32).toNatClampNeg) (f8 (b_ : Int32).toNatClampNeg)))) else (ih (w_13l8 + 1) w_13l6 w_13l5 w_13l4 (f_m_quarrels w_13m0 f10 w_9l7 w_13l8 (f9 (w_9l7 : Int32).toNatClampNeg) (f8 (b_ : Int32).toNatClampNeg)))))) n
theorem f_m_toldHer_50_s (f9 : Nat → Int32) (f10 : Nat → Int32) (f8 : Nat → Int32) (b_ : Int32) (k_ : Int32) (i_ : Int32) (w_9l7 : Int32) (n : Nat) (w_13l8 : Int32) (w_13l6 : Int32) (w_13l5 : Int32) (w_13l4 : Int32) (w_13m0 : (Nat → Int32)) : f_m_toldHer_50 f9 f10 f8 b_ k_ i_ w_9l7 (n + 1) w_13l8 w_13l6 w_13l5 w_13l4 w_13m0 = (if (w_13m0 4) ≤ w_13l8 then (w_13l8, w_13l6, w_13l5, w_13l4, w_13m0) else (if ((f_m_quarrels w_13m0 f10 w_9l7 w_13l8 (f9 (w_9l7 : Int32).toNatClampNeg) (f8 (b_ : Int32).toNatClampNeg)) 34) = 0 then (if ((f_m_quarrels w_13m0 f10 w_9l7 w_13l8 (f9 (w_9l7 : Int32).toNatClampNeg) (f8 (b_ : Int32).toNatClampNeg)) 33) = 0 then (if ((f_m_quarrels w_13m0 f10 w_9l7 w_13l8 (f9 (w_9l7 : Int32).toNatClampNeg) (f8 (b_ : Int32).toNatClampNeg)) 32) = k_ then (if w_13l4 = i_ then (f_m_toldHer_50 f9 f10 f8 b_ k_ i_ w_9l7 n (w_13l8 + 1) ((10 * w_9l7) + w_13l8) (w_13l5 ||| (1 <<< (w_13l8 &&& 31))) (w_13l4 + 1) (f_m_quarrels w_13m0 f10 w_9l7 w_13l8 (f9 (w_9l7 : Int32).toNatClampNeg) (f8 (b_ : Int32).toNatClampNeg))) else (f_m_toldHer_50 f9 f10 f8 b_ k_ i_ w_9l7 n (w_13l8 + 1) w_13l6 (w_13l5 ||| (1 <<< (w_13l8 &&& 31))) (w_13l4 + 1) (f_m_quarrels w_13m0 f10 w_9l7 w_13l8 (f9 (w_9l7 : Int32).toNatClampNeg) (f8 (b_ : Int32).toNatClampNeg)))) else (f_m_toldHer_50 f9 f10 f8 b_ k_ i_ w_9l7 n (w_13l8 + 1) w_13l6 w_13l5 w_13l4 (f_m_quarrels w_13m0 f10 w_9l7 w_13l8 (f9 (w_9l7 : Int32).toNatClampNeg) (f8 (b_ : Int32).toNatClampNeg)))) else (f_m_toldHer_50 f9 f10 f8 b_ k_ i_ w_9l7 n (w_13l8 + 1) w_13l6 w_13l5 w_13l4 (f_m_quarrels w_13m0 f10 w_9l7 w_13l8 (f9 (w_9l7 : Int32).toNatClampNeg) (f8 (b_ : Int32).toNatClampNeg)))) else (f_m_toldHer_50 f9 f10 f8 b_ k_ i_ w_9l7 n (w_13l8 + 1) w_13l6 w_13l5 w_13l4 (f_m_quarrels w_13m0 f10 w_9l7 w_13l8 (f9 (w_9l7 : Int32).toNatClampNeg) (f8 (b_ : Int32).toNatClampNeg))))) := rfl
def S_m_toldHer_50 (f9 : Nat → Int32) (f10 : Nat → Int32) (f8 : Nat → Int32) (b_ : Int32) (k_ : Int32) (i_ : Int32) (w_9l7 : Int32) (K : Int32 → Int32 → Int32 → Int32 → (Nat → Int32) → Prop) (n : Nat) : Int32 → Int32 → Int32 → Int32 → (Nat → Int32) → Prop := Nat.rec (motive := fun _ => Int32 → Int32 → Int32 → Int32 → (Nat → Int32) → Prop) (fun _ _ _ _ _ => False) (fun n ih w_13l8 w_13l6 w_13l5 w_13l4 w_13m0 => (((w_13m0 4) ≤ w_13l8 → (K w_13l8 w_13l6 w_13l5 w_13l4 w_13m0)) ∧ (¬ (w_13m0 4) ≤ w_13l8 → (vp_in w_9l7 6 ∧ (vp_in b_ 6 ∧ ((S_m_quarrels w_13m0 f10 w_9l7 w_13l8 (f9 (w_9l7 : Int32).toNatClampNeg) (f8 (b_ : Int32).toNatClampNeg)) ∧ ((((f_m_quarrels w_13m0 f10 w_9l7 w_13l8 (f9 (w_9l7 : Int32).toNatClampNeg) (f8 (b_ : Int32).toNatClampNeg)) 34) = 0 → ((((f_m_quarrels w_13m0 f10 w_9l7 w_13l8 (f9 (w_9l7 : Int32).toNatClampNeg) (f8 (b_ : Int32).toNatClampNeg)) 33) = 0 → ((((f_m_quarrels w_13m0 f10 w_9l7 w_13l8 (f9 (w_9l7 : Int32).toNatClampNeg) (f8 (b_ : Int32).toNatClampNeg)) 32) = k_ → ((w_13l4 = i_ → (ih (w_13l8 + 1) ((10 * w_9l7) + w_13l8) (w_13l5 ||| (1 <<< (w_13l8 &&& 31))) (w_13l4 + 1) (f_m_quarrels w_13m0 f10 w_9l7 w_13l8 (f9 (w_9l7 : Int32).toNatClampNeg) (f8 (b_ : Int32).toNatClampNeg)))) ∧ (¬ w_13l4 = i_ → (ih (w_13l8 + 1) w_13l6 (w_13l5 ||| (1 <<< (w_13l8 &&& 31))) (w_13l4 + 1) (f_m_quarrels w_13m0 f10 w_9l7 w_13l8 (f9 (w_9l7 : Int32).toNatClampNeg) (f8 (b_ : Int32).toNatClampNeg)))))) ∧ (¬ ((f_m_quarrels w_13m0 f10 w_9l7 w_13l8 (f9 (w_9l7 : Int32).toNatClampNeg) (f8 (b_ : Int32).toNatClampNeg)) 32) = k_ → (ih (w_13l8 + 1) w_13l6 w_13l5 w_13l4 (f_m_quarrels w_13m0 f10 w_9l7 w_13l8 (f9 (w_9l7 : Int32).toNatClampNeg) (f8 (b_ : Int32).toNatClampNeg)))))) ∧ (¬ ((f_m_quarrels w_13m0 f10 w_9l7 w_13l8 (f9 (w_9l7 : Int32).toNatClampNeg) (f8 (b_ : Int32).toNatClampNeg)) 33) = 0 → (ih (w_13l8 + 1) w_13l6 w_13l5 w_13l4 (f_m_quarrels w_13m0 f10 w_9l7 w_13l8 (f9 (w_9l7 : Int32).toNatClampNeg) (f8 (b_ : Int32).toNatClampNeg)))))) ∧ (¬ ((f_m_quarrels w_13m0 f10 w_9l7 w_13l8 (f9 (w_9l7 : Int32).toNatClampNeg) (f8 (b_ : Int32).toNatClampNeg)) 34) = 0 → (ih (w_13l8 + 1) w_13l6 w_13l5 w_13l4 (f_m_quarrels w_13m0 f10 w_9l7 w_13l8 (f9 (w_9l7 : Int32).toNatClampNeg) (f8 (b_ : Int32).toNatClampNeg))))))))))) n
theorem S_m_toldHer_50_s (f9 : Nat → Int32) (f10 : Nat → Int32) (f8 : Nat → Int32) (b_ : Int32) (k_ : Int32) (i_ : Int32) (w_9l7 : Int32) (K : Int32 → Int32 → Int32 → Int32 → (Nat → Int32) → Prop) (n : Nat) (w_13l8 : Int32) (w_13l6 : Int32) (w_13l5 : Int32) (w_13l4 : Int32) (w_13m0 : (Nat → Int32)) : S_m_toldHer_50 f9 f10 f8 b_ k_ i_ w_9l7 K (n + 1) w_13l8 w_13l6 w_13l5 w_13l4 w_13m0 = ((((w_13m0 4) ≤ w_13l8 → (K w_13l8 w_13l6 w_13l5 w_13l4 w_13m0)) ∧ (¬ (w_13m0 4) ≤ w_13l8 → (vp_in w_9l7 6 ∧ (vp_in b_ 6 ∧ ((S_m_quarrels w_13m0 f10 w_9l7 w_13l8 (f9 (w_9l7 : Int32).toNatClampNeg) (f8 (b_ : Int32).toNatClampNeg)) ∧ ((((f_m_quarrels w_13m0 f10 w_9l7 w_13l8 (f9 (w_9l7 : Int32).toNatClampNeg) (f8 (b_ : Int32).toNatClampNeg)) 34) = 0 → ((((f_m_quarrels w_13m0 f10 w_9l7 w_13l8 (f9 (w_9l7 : Int32).toNatClampNeg) (f8 (b_ : Int32).toNatClampNeg)) 33) = 0 → ((((f_m_quarrels w_13m0 f10 w_9l7 w_13l8 (f9 (w_9l7 : Int32).toNatClampNeg) (f8 (b_ : Int32).toNatClampNeg)) 32) = k_ → ((w_13l4 = i_ → (S_m_toldHer_50 f9 f10 f8 b_ k_ i_ w_9l7 K n (w_13l8 + 1) ((10 * w_9l7) + w_13l8) (w_13l5 ||| (1 <<< (w_13l8 &&& 31))) (w_13l4 + 1) (f_m_quarrels w_13m0 f10 w_9l7 w_13l8 (f9 (w_9l7 : Int32).toNatClampNeg) (f8 (b_ : Int32).toNatClampNeg)))) ∧ (¬ w_13l4 = i_ → (S_m_toldHer_50 f9 f10 f8 b_ k_ i_ w_9l7 K n (w_13l8 + 1) w_13l6 (w_13l5 ||| (1 <<< (w_13l8 &&& 31))) (w_13l4 + 1) (f_m_quarrels w_13m0 f10 w_9l7 w_13l8 (f9 (w_9l7 : Int32).toNatClampNeg) (f8 (b_ : Int32).toNatClampNeg)))))) ∧ (¬ ((f_m_quarrels w_13m0 f10 w_9l7 w_13l8 (f9 (w_9l7 : Int32).toNatClampNeg) (f8 (b_ : Int32).toNatClampNeg)) 32) = k_ → (S_m_toldHer_50 f9 f10 f8 b_ k_ i_ w_9l7 K n (w_13l8 + 1) w_13l6 w_13l5 w_13l4 (f_m_quarrels w_13m0 f10 w_9l7 w_13l8 (f9 (w_9l7 : Int32).toNatClampNeg) (f8 (b_ : Int32).toNatClampNeg)))))) ∧ (¬ ((f_m_quarrels w_13m0 f10 w_9l7 w_13l8 (f9 (w_9l7 : Int32).toNatClampNeg) (f8 (b_ : Int32).toNatClampNeg)) 33) = 0 → (S_m_toldHer_50 f9 f10 f8 b_ k_ i_ w_9l7 K n (w_13l8 + 1) w_13l6 w_13l5 w_13l4 (f_m_quarrels w_13m0 f10 w_9l7 w_13l8 (f9 (w_9l7 : Int32).toNatClampNeg) (f8 (b_ : Int32).toNatClampNeg)))))) ∧ (¬ ((f_m_quarrels w_13m0 f10 w_9l7 w_13l8 (f9 (w_9l7 : Int32).toNatClampNeg) (f8 (b_ : Int32).toNatClampNeg)) 34) = 0 → (S_m_toldHer_50 f9 f10 f8 b_ k_ i_ w_9l7 K n (w_13l8 + 1) w_13l6 w_13l5 w_13l4 (f_m_quarrels w_13m0 f10 w_9l7 w_13l8 (f9 (w_9l7 : Int32).toNatClampNeg) (f8 (b_ : Int32).toNatClampNeg))))))))))) := rfl
noncomputable def f_m_toldHer_38 (f9 : Nat → Int32) (f10 : Nat → Int32) (f8 : Nat → Int32) (b_ : Int32) (k_ : Int32) (i_ : Int32) (n : Nat) : Int32 → Int32 → Int32 → Int32 → (Nat → Int32) → Int32 × Int32 × Int32 × Int32 × (Nat → Int32) := Nat.rec (motive := fun _ => Int32 → Int32 → Int32 → Int32 → (Nat → Int32) → Int32 × Int32 × Int32 × Int32 × (Nat → Int32)) (fun w_9l7 w_9l6 w_9l5 w_9l4 w_9m0 => (w_9l7, w_9l6, w_9l5, w_9l4, w_9m0)) (fun n ih w_9l7 w_9l6 w_9l5 w_9l4 w_9m0 => (if (w_9m0 5) ≤ w_9l7 then (w_9l7, w_9l6, w_9l5, w_9l4, w_9m0) else (match ((f_m_toldHer_50 f9 f10 f8 b_ k_ i_ w_9l7 10 0 w_9l6 w_9l5 w_9l4 w_9m0) : Int32 × Int32 × Int32 × Int32 × (Nat → Int32)) with | (w_13l8, w_13l6, w_13l5, w_13l4, w_13m0) => (ih (w_9l7 + 1) w_13l6 w_13l5 w_13l4 w_13m0)))) n
theorem f_m_toldHer_38_s (f9 : Nat → Int32) (f10 : Nat → Int32) (f8 : Nat → Int32) (b_ : Int32) (k_ : Int32) (i_ : Int32) (n : Nat) (w_9l7 : Int32) (w_9l6 : Int32) (w_9l5 : Int32) (w_9l4 : Int32) (w_9m0 : (Nat → Int32)) : f_m_toldHer_38 f9 f10 f8 b_ k_ i_ (n + 1) w_9l7 w_9l6 w_9l5 w_9l4 w_9m0 = (if (w_9m0 5) ≤ w_9l7 then (w_9l7, w_9l6, w_9l5, w_9l4, w_9m0) else (match ((f_m_toldHer_50 f9 f10 f8 b_ k_ i_ w_9l7 10 0 w_9l6 w_9l5 w_9l4 w_9m0) : Int32 × Int32 × Int32 × Int32 × (Nat → Int32)) with | (w_13l8, w_13l6, w_13l5, w_13l4, w_13m0) => (f_m_toldHer_38 f9 f10 f8 b_ k_ i_ n (w_9l7 + 1) w_13l6 w_13l5 w_13l4 w_13m0))) := rfl
def S_m_toldHer_38 (f9 : Nat → Int32) (f10 : Nat → Int32) (f8 : Nat → Int32) (b_ : Int32) (k_ : Int32) (i_ : Int32) (K : Int32 → Int32 → Int32 → Int32 → (Nat → Int32) → Prop) (n : Nat) : Int32 → Int32 → Int32 → Int32 → (Nat → Int32) → Prop := Nat.rec (motive := fun _ => Int32 → Int32 → Int32 → Int32 → (Nat → Int32) → Prop) (fun _ _ _ _ _ => False) (fun n ih w_9l7 w_9l6 w_9l5 w_9l4 w_9m0 => (((w_9m0 5) ≤ w_9l7 → (K w_9l7 w_9l6 w_9l5 w_9l4 w_9m0)) ∧ (¬ (w_9m0 5) ≤ w_9l7 → (S_m_toldHer_50 f9 f10 f8 b_ k_ i_ w_9l7 (fun (w_13l8 : Int32) (w_13l6 : Int32) (w_13l5 : Int32) (w_13l4 : Int32) (w_13m0 : (Nat → Int32)) => (ih (w_9l7 + 1) w_13l6 w_13l5 w_13l4 w_13m0)) 10 0 w_9l6 w_9l5 w_9l4 w_9m0)))) n
theorem S_m_toldHer_38_s (f9 : Nat → Int32) (f10 : Nat → Int32) (f8 : Nat → Int32) (b_ : Int32) (k_ : Int32) (i_ : Int32) (K : Int32 → Int32 → Int32 → Int32 → (Nat → Int32) → Prop) (n : Nat) (w_9l7 : Int32) (w_9l6 : Int32) (w_9l5 : Int32) (w_9l4 : Int32) (w_9m0 : (Nat → Int32)) : S_m_toldHer_38 f9 f10 f8 b_ k_ i_ K (n + 1) w_9l7 w_9l6 w_9l5 w_9l4 w_9m0 = ((((w_9m0 5) ≤ w_9l7 → (K w_9l7 w_9l6 w_9l5 w_9l4 w_9m0)) ∧ (¬ (w_9m0 5) ≤ w_9l7 → (S_m_toldHer_50 f9 f10 f8 b_ k_ i_ w_9l7 (fun (w_13l8 : Int32) (w_13l6 : Int32) (w_13l5 : Int32) (w_13l4 : Int32) (w_13m0 : (Nat → Int32)) => (S_m_toldHer_38 f9 f10 f8 b_ k_ i_ K n (w_9l7 + 1) w_13l6 w_13l5 w_13l4 w_13m0)) 10 0 w_9l6 w_9l5 w_9l4 w_9m0)))) := rfl
noncomputable def f_m_toldHer (G : Nat → Int32) (f9 : Nat → Int32) (f10 : Nat → Int32) (f8 : Nat → Int32) (b_ : Int32) (k_ : Int32) (i_ : Int32) : Int32 × (Nat → Int32) := (if (f_m_isBridge G b_) = 0 then ((-1000000001), G) else (if (f_m_in k_.toInt64 1 60) = 0 then ((-1000000002), G) else (match ((f_m_toldHer_38 f9 f10 f8 b_ k_ i_ 10 0 (-1) 0 0 G) : Int32 × Int32 × Int32 × Int32 × (Nat → Int32)) with | (w_9l7, w_9l6, w_9l5, w_9l4, w_9m0) => (if i_ = (-1) then (w_9l4, w_9m0) else (if i_ = (-2) then (w_9l5, w_9m0) else (w_9l6, w_9m0))))))
def S_m_toldHer (G : Nat → Int32) (f9 : Nat → Int32) (f10 : Nat → Int32) (f8 : Nat → Int32) (b_ : Int32) (k_ : Int32) (i_ : Int32) : Prop := ((S_m_isBridge G b_) ∧ (((f_m_isBridge G b_) = 0 → True) ∧ (¬ (f_m_isBridge G b_) = 0 → ((S_m_in k_.toInt64 1 60) ∧ (((f_m_in k_.toInt64 1 60) = 0 → True) ∧ (¬ (f_m_in k_.toInt64 1 60) = 0 → (S_m_toldHer_38 f9 f10 f8 b_ k_ i_ (fun (w_9l7 : Int32) (w_9l6 : Int32) (w_9l5 : Int32) (w_9l4 : Int32) (w_9m0 : (Nat → Int32)) => ((i_ = (-1) → True) ∧ (¬ i_ = (-1) → ((i_ = (-2) → True) ∧ (¬ i_ = (-2) → True))))) 10 0 (-1) 0 0 G)))))))
def rm_m_toldHer : Room := { frames := 2, cells := 0, slots := 0, locals := 50 }
set_option maxHeartbeats 4000000 in
set_option maxRecDepth 100000 in
theorem m_toldHer {l : Launch} {D : va_G} {cI cZ : ClassId} {sz : Nat} (Rf : Nat → Nat) (h : Nat) (G : Nat → Int32) (f9 : Nat → Int32) (f10 : Nat → Int32) (f8 : Nat → Int32) (b_ : Int32) (k_ : Int32) (i_ : Int32) (hF : S_m_toldHer G f9 f10 f8 b_ k_ i_) : KI l yX10_toldHer cX10_toldHer 9 (some .int) rm_m_toldHer D cI cZ [.ref h, .int b_, .int k_, .int i_] sz [(h, .inr (10, ML G Rf)), ((Rf 9), .inl (cI, 6, .inl f9)), ((Rf 10), .inl (cI, 30, .inl f10)), ((Rf 8), .inl (cI, 6, .inl f8))] (fun (r : Int32) (u : (Nat → Int32)) => (r, u) = f_m_toldHer G f9 f10 f8 b_ k_ i_) (fun (u : (Nat → Int32)) => [(h, .inr (10, ML u Rf)), ((Rf 9), .inl (cI, 6, .inl f9)), ((Rf 10), .inl (cI, 30, .inl f10)), ((Rf 8), .inl (cI, 6, .inl f8))]) := by
  refine KI.go rfl (Nat.le_of_ble_eq_true rfl) ?_
  intro p e s m args below meth c ls A Q hx hb hml hts hown hin hP hK hD hS hA hN hl hret
  have hl : lv_has ls 9 [(0, .ref h), (1, .int b_), (2, .int k_), (3, .int i_)] := hl
  rw [S_m_toldHer] at hF
  obtain ⟨RES, hE⟩ : ∃ xRES, f_m_toldHer G f9 f10 f8 b_ k_ i_ = xRES := ⟨_, rfl⟩
  rw [hE] at hret
  rw [f_m_toldHer] at hE
  refine lv_aload_n hx hb dX10_toldHer_0 rfl (lv_at hl 0 rfl) ?_
  refine lv_iload_n hx hb dX10_toldHer_1 rfl (lv_at hl 1 rfl) ?_
  obtain ⟨hs_1, hF⟩ := hF
  refine cVi (wr := [((Rf 9), .inl (cI, 6, .inl f9)), ((Rf 10), .inl (cI, 30, .inl f10)), ((Rf 8), .inl (cI, 6, .inl f8))]) (rest := []) (m_isBridge Rf h G b_ hs_1) okV_X10_isBridge wd_571 hx hb hml hown hts hK hP hD hS hA hN hl.1 [0] [1, 2, 3] rfl rfl rfl rfl (by decide) rfl rfl rfl (Nat.le_of_ble_eq_true rfl) (Nat.le_of_ble_eq_true rfl) (Nat.le_of_ble_eq_true rfl) (Nat.le_of_ble_eq_true rfl) (Nat.le_of_ble_eq_true rfl) dX10_toldHer_2 (fun r_3 u_2 H locs hw_u_2 hP hD hS => ?_)
  replace hw_u_2 : r_3 = (f_m_isBridge G b_) := hw_u_2
  rw [hw_u_2]
  clear hw_u_2
  have hP : va_P D classes [((Rf 9), .inl (cI, 6, .inl f9)), ((Rf 10), .inl (cI, 30, .inl f10)), ((Rf 8), .inl (cI, 6, .inl f8)), (h, .inr (10, ML G Rf))] H := hP
  have hD : va_D A [((Rf 9), .inl (cI, 6, .inl f9)), ((Rf 10), .inl (cI, 30, .inl f10)), ((Rf 8), .inl (cI, 6, .inl f8)), (h, .inr (10, ML G Rf))] := hD
  refine lv_if_ne (tgt := 11) hx hb dX10_toldHer_5 (by decide) (fun c_4 => ?_) (fun c_4 => ?_)
  · replace hF := hF.2 c_4
    rw [if_neg c_4] at hE
    refine lv_iload_n hx hb dX10_toldHer_11 rfl (lv_at hl 2 rfl) ?_
    refine lv_i2l (v := k_.toInt64) hx hb dX10_toldHer_12 rfl ?_
    refine lv_lconst (v := 1) hx hb dX10_toldHer_13 (by decide) ?_
    refine lv_ldc2 (v := 60) hx hb hown (hts _ wd_667) dX10_toldHer_14 ?_
    obtain ⟨hs_5, hF⟩ := hF
    refine cSi (wr := [((Rf 9), .inl (cI, 6, .inl f9)), ((Rf 10), .inl (cI, 30, .inl f10)), ((Rf 8), .inl (cI, 6, .inl f8)), (h, .inr (10, ML G Rf))]) (rest := []) (m_in k_.toInt64 1 60 hs_5) okS_X10_in wd_495 hx hb hml hown hts hK hP hD hS hA hN hl.1 [] [0, 1, 2, 3] rfl rfl rfl rfl (by decide) rfl (Nat.le_of_ble_eq_true rfl) (Nat.le_of_ble_eq_true rfl) (Nat.le_of_ble_eq_true rfl) (Nat.le_of_ble_eq_true rfl) (Nat.le_of_ble_eq_true rfl) dX10_toldHer_17 (fun r_7 u_6 H locs hw_u_6 hP hD hS => ?_)
    replace hw_u_6 : r_7 = (f_m_in k_.toInt64 1 60) := hw_u_6
    rw [hw_u_6]
    clear hw_u_6
    have hP : va_P D classes [((Rf 9), .inl (cI, 6, .inl f9)), ((Rf 10), .inl (cI, 30, .inl f10)), ((Rf 8), .inl (cI, 6, .inl f8)), (h, .inr (10, ML G Rf))] H := hP
    have hD : va_D A [((Rf 9), .inl (cI, 6, .inl f9)), ((Rf 10), .inl (cI, 30, .inl f10)), ((Rf 8), .inl (cI, 6, .inl f8)), (h, .inr (10, ML G Rf))] := hD
    refine lv_if_ne (tgt := 26) hx hb dX10_toldHer_20 (by decide) (fun c_8 => ?_) (fun c_8 => ?_)
    · replace hF := hF.2 c_8
      rw [if_neg c_8] at hE
      refine lv_iconst (v := 0) hx hb dX10_toldHer_26 (by decide) ?_
      refine lv_istore (lv' := [(4, .int 0), (0, .ref h), (1, .int b_), (2, .int k_), (3, .int i_)]) hx hb dX10_toldHer_27 hl (by decide) rfl (fun ls hl => ?_)
      refine lv_iconst (v := 0) hx hb dX10_toldHer_29 (by decide) ?_
      refine lv_istore (lv' := [(5, .int 0), (4, .int 0), (0, .ref h), (1, .int b_), (2, .int k_), (3, .int i_)]) hx hb dX10_toldHer_30 hl (by decide) rfl (fun ls hl => ?_)
      refine lv_iconst (v := (-1)) hx hb dX10_toldHer_32 (by decide) ?_
      refine lv_istore (lv' := [(6, .int (-1)), (5, .int 0), (4, .int 0), (0, .ref h), (1, .int b_), (2, .int k_), (3, .int i_)]) hx hb dX10_toldHer_33 hl (by decide) rfl (fun ls hl => ?_)
      refine lv_iconst (v := 0) hx hb dX10_toldHer_35 (by decide) ?_
      refine lv_istore (lv' := [(7, .int 0), (6, .int (-1)), (5, .int 0), (4, .int 0), (0, .ref h), (1, .int b_), (2, .int k_), (3, .int i_)]) hx hb dX10_toldHer_36 hl (by decide) rfl (fun ls hl => ?_)
      have ex_38_w_9 : ∀ (w_9l7 : Int32) (w_9l6 : Int32) (w_9l5 : Int32) (w_9l4 : Int32) (w_9m0 : (Nat → Int32)) (H : Heap) (locs : List Loc) (ls : Array Slot), va_P D classes [((Rf 9), .inl (cI, 6, .inl f9)), ((Rf 10), .inl (cI, 30, .inl f10)), ((Rf 8), .inl (cI, 6, .inl f8)), (h, .inr (10, ML w_9m0 Rf))] H → va_D A [((Rf 9), .inl (cI, 6, .inl f9)), ((Rf 10), .inl (cI, 30, .inl f10)), ((Rf 8), .inl (cI, 6, .inl f8)), (h, .inr (10, ML w_9m0 Rf))] → va_S A s.heap H locs → lv_has ls 9 [(7, .int w_9l7), (6, .int w_9l6), (5, .int w_9l5), (4, .int w_9l4), (0, .ref h), (1, .int b_), (2, .int k_), (3, .int i_)] → (((i_ = (-1) → True) ∧ (¬ i_ = (-1) → ((i_ = (-2) → True) ∧ (¬ i_ = (-2) → True))))) → (((if i_ = (-1) then (w_9l4, w_9m0) else (if i_ = (-2) then (w_9l5, w_9m0) else (w_9l6, w_9m0)))) : Int32 × (Nat → Int32)) = RES → W p l e rm_m_toldHer s m args below meth c H locs 0 0 Q (F0 m 147 ls []) := by
        intro w_9l7 w_9l6 w_9l5 w_9l4 w_9m0 H locs ls hP hD hS hl hF hE
        refine lv_iload_n hx hb dX10_toldHer_147 rfl (lv_at hl 7 rfl) ?_
        refine lv_iconst (v := (-1)) hx hb dX10_toldHer_148 (by decide) ?_
        refine lv_icmp_ne (tgt := 157) hx hb dX10_toldHer_149 (by decide) (fun c_10 => ?_) (fun c_10 => ?_)
        · replace hF := hF.2 c_10
          rw [if_neg c_10] at hE
          refine lv_iload_n hx hb dX10_toldHer_157 rfl (lv_at hl 7 rfl) ?_
          refine lv_bipush (v := (-2)) hx hb dX10_toldHer_158 (by decide) ?_
          refine lv_icmp_ne (tgt := 168) hx hb dX10_toldHer_160 (by decide) (fun c_11 => ?_) (fun c_11 => ?_)
          · replace hF := hF.2 c_11
            rw [if_neg c_11] at hE
            refine lv_iload hx hb dX10_toldHer_168 (lv_at hl 1 rfl) ?_
            exact hret w_9l6 w_9m0 _ _ _ _ dX10_toldHer_170 rfl hE (cutP (isC := [3, 0, 1, 2]) hP rfl) (cutD (isC := [3, 0, 1, 2]) hD rfl rfl) hS
          · replace hF := hF.1 c_11
            rw [if_pos c_11] at hE
            refine lv_iload hx hb dX10_toldHer_163 (lv_at hl 2 rfl) ?_
            refine lv_goto (tgt := 170) hx hb dX10_toldHer_165 (by decide) ?_
            exact hret w_9l5 w_9m0 _ _ _ _ dX10_toldHer_170 rfl hE (cutP (isC := [3, 0, 1, 2]) hP rfl) (cutD (isC := [3, 0, 1, 2]) hD rfl rfl) hS
        · replace hF := hF.1 c_10
          rw [if_pos c_10] at hE
          refine lv_iload hx hb dX10_toldHer_152 (lv_at hl 3 rfl) ?_
          refine lv_goto (tgt := 170) hx hb dX10_toldHer_154 (by decide) ?_
          exact hret w_9l4 w_9m0 _ _ _ _ dX10_toldHer_170 rfl hE (cutP (isC := [3, 0, 1, 2]) hP rfl) (cutD (isC := [3, 0, 1, 2]) hD rfl rfl) hS
      have lp_38_w_9 : ∀ (n_w_9 : Nat) (w_9l7 : Int32) (w_9l6 : Int32) (w_9l5 : Int32) (w_9l4 : Int32) (w_9m0 : (Nat → Int32)) (H : Heap) (locs : List Loc) (ls : Array Slot), va_P D classes [((Rf 9), .inl (cI, 6, .inl f9)), ((Rf 10), .inl (cI, 30, .inl f10)), ((Rf 8), .inl (cI, 6, .inl f8)), (h, .inr (10, ML w_9m0 Rf))] H → va_D A [((Rf 9), .inl (cI, 6, .inl f9)), ((Rf 10), .inl (cI, 30, .inl f10)), ((Rf 8), .inl (cI, 6, .inl f8)), (h, .inr (10, ML w_9m0 Rf))] → va_S A s.heap H locs → lv_has ls 9 [(7, .int w_9l7), (6, .int w_9l6), (5, .int w_9l5), (4, .int w_9l4), (0, .ref h), (1, .int b_), (2, .int k_), (3, .int i_)] → (S_m_toldHer_38 f9 f10 f8 b_ k_ i_ (fun (w_9l7 : Int32) (w_9l6 : Int32) (w_9l5 : Int32) (w_9l4 : Int32) (w_9m0 : (Nat → Int32)) => ((i_ = (-1) → True) ∧ (¬ i_ = (-1) → ((i_ = (-2) → True) ∧ (¬ i_ = (-2) → True))))) n_w_9 w_9l7 w_9l6 w_9l5 w_9l4 w_9m0) → ((match ((f_m_toldHer_38 f9 f10 f8 b_ k_ i_ n_w_9 w_9l7 w_9l6 w_9l5 w_9l4 w_9m0) : Int32 × Int32 × Int32 × Int32 × (Nat → Int32)) with | (w_9l7, w_9l6, w_9l5, w_9l4, w_9m0) => (if i_ = (-1) then (w_9l4, w_9m0) else (if i_ = (-2) then (w_9l5, w_9m0) else (w_9l6, w_9m0)))) : Int32 × (Nat → Int32)) = RES → W p l e rm_m_toldHer s m args below meth c H locs 0 0 Q (F0 m 38 ls []) := by
        intro n_w_9
        induction n_w_9 with
        | zero => intro w_9l7 w_9l6 w_9l5 w_9l4 w_9m0 H locs ls hP hD hS hl hF hE; exact False.elim hF
        | succ n_w_9 ih_w_9 =>
          intro w_9l7 w_9l6 w_9l5 w_9l4 w_9m0 H locs ls hP hD hS hl hF hE
          rw [S_m_toldHer_38_s] at hF
          rw [f_m_toldHer_38_s] at hE
          refine lv_iload hx hb dX10_toldHer_38 (lv_at hl 0 rfl) ?_
          refine lv_aload_n hx hb dX10_toldHer_40 rfl (lv_at hl 4 rfl) ?_
          refine va_get (D := D) (ci := 10) (v := .int (w_9m0 5)) (C := RX10) (T := TX10) (N := 45) hx hb hts iX10 hown hK hP 3 rfl rfl 5 (by decide) (hts _ wd_499) (fun _ h9 => h9) rfl dX10_toldHer_41 ?_
          refine lv_icmp_ge (tgt := 147) hx hb dX10_toldHer_44 (by decide) (fun c_12 => ?_) (fun c_12 => ?_)
          · replace hF := hF.1 c_12
            rw [if_pos c_12] at hE
            exact ex_38_w_9 w_9l7 w_9l6 w_9l5 w_9l4 w_9m0 _ _ ls hP hD hS (lv_sub hl [0, 1, 2, 3, 4, 5, 6, 7] rfl) hF hE
          · replace hF := hF.2 c_12
            rw [if_neg c_12] at hE
            refine lv_iconst (v := 0) hx hb dX10_toldHer_47 (by decide) ?_
            refine lv_istore (lv' := [(8, .int 0), (7, .int w_9l7), (6, .int w_9l6), (5, .int w_9l5), (4, .int w_9l4), (0, .ref h), (1, .int b_), (2, .int k_), (3, .int i_)]) hx hb dX10_toldHer_48 hl (by decide) rfl (fun ls hl => ?_)
            have ex_50_w_13 : ∀ (w_13l8 : Int32) (w_13l6 : Int32) (w_13l5 : Int32) (w_13l4 : Int32) (w_13m0 : (Nat → Int32)) (H : Heap) (locs : List Loc) (ls : Array Slot), va_P D classes [((Rf 9), .inl (cI, 6, .inl f9)), ((Rf 10), .inl (cI, 30, .inl f10)), ((Rf 8), .inl (cI, 6, .inl f8)), (h, .inr (10, ML w_13m0 Rf))] H → va_D A [((Rf 9), .inl (cI, 6, .inl f9)), ((Rf 10), .inl (cI, 30, .inl f10)), ((Rf 8), .inl (cI, 6, .inl f8)), (h, .inr (10, ML w_13m0 Rf))] → va_S A s.heap H locs → lv_has ls 9 [(8, .int w_13l8), (7, .int w_9l7), (6, .int w_13l6), (5, .int w_13l5), (4, .int w_13l4), (0, .ref h), (1, .int b_), (2, .int k_), (3, .int i_)] → ((S_m_toldHer_38 f9 f10 f8 b_ k_ i_ (fun (w_9l7 : Int32) (w_9l6 : Int32) (w_9l5 : Int32) (w_9l4 : Int32) (w_9m0 : (Nat → Int32)) => ((i_ = (-1) → True) ∧ (¬ i_ = (-1) → ((i_ = (-2) → True) ∧ (¬ i_ = (-2) → True))))) n_w_9 (w_9l7 + 1) w_13l6 w_13l5 w_13l4 w_13m0)) → (((match ((f_m_toldHer_38 f9 f10 f8 b_ k_ i_ n_w_9 (w_9l7 + 1) w_13l6 w_13l5 w_13l4 w_13m0) : Int32 × Int32 × Int32 × Int32 × (Nat → Int32)) with | (w_9l7, w_9l6, w_9l5, w_9l4, w_9m0) => (if i_ = (-1) then (w_9l4, w_9m0) else (if i_ = (-2) then (w_9l5, w_9m0) else (w_9l6, w_9m0))))) : Int32 × (Nat → Int32)) = RES → W p l e rm_m_toldHer s m args below meth c H locs 0 0 Q (F0 m 141 ls []) := by
              intro w_13l8 w_13l6 w_13l5 w_13l4 w_13m0 H locs ls hP hD hS hl hF hE
              refine lv_iinc (v := (w_9l7 + 1)) (lv' := [(7, .int (w_9l7 + 1)), (8, .int w_13l8), (6, .int w_13l6), (5, .int w_13l5), (4, .int w_13l4), (0, .ref h), (1, .int b_), (2, .int k_), (3, .int i_)]) hx hb dX10_toldHer_141 hl (k := 1) rfl rfl (by decide) rfl (fun ls hl => ?_)
              refine lv_goto (tgt := 38) hx hb dX10_toldHer_144 (by decide) ?_
              exact ih_w_9 (w_9l7 + 1) w_13l6 w_13l5 w_13l4 w_13m0 _ _ ls hP hD hS (lv_sub hl [0, 2, 3, 4, 5, 6, 7, 8] rfl) hF hE
            have lp_50_w_13 : ∀ (n_w_13 : Nat) (w_13l8 : Int32) (w_13l6 : Int32) (w_13l5 : Int32) (w_13l4 : Int32) (w_13m0 : (Nat → Int32)) (H : Heap) (locs : List Loc) (ls : Array Slot), va_P D classes [((Rf 9), .inl (cI, 6, .inl f9)), ((Rf 10), .inl (cI, 30, .inl f10)), ((Rf 8), .inl (cI, 6, .inl f8)), (h, .inr (10, ML w_13m0 Rf))] H → va_D A [((Rf 9), .inl (cI, 6, .inl f9)), ((Rf 10), .inl (cI, 30, .inl f10)), ((Rf 8), .inl (cI, 6, .inl f8)), (h, .inr (10, ML w_13m0 Rf))] → va_S A s.heap H locs → lv_has ls 9 [(8, .int w_13l8), (7, .int w_9l7), (6, .int w_13l6), (5, .int w_13l5), (4, .int w_13l4), (0, .ref h), (1, .int b_), (2, .int k_), (3, .int i_)] → (S_m_toldHer_50 f9 f10 f8 b_ k_ i_ w_9l7 (fun (w_13l8 : Int32) (w_13l6 : Int32) (w_13l5 : Int32) (w_13l4 : Int32) (w_13m0 : (Nat → Int32)) => (S_m_toldHer_38 f9 f10 f8 b_ k_ i_ (fun (w_9l7 : Int32) (w_9l6 : Int32) (w_9l5 : Int32) (w_9l4 : Int32) (w_9m0 : (Nat → Int32)) => ((i_ = (-1) → True) ∧ (¬ i_ = (-1) → ((i_ = (-2) → True) ∧ (¬ i_ = (-2) → True))))) n_w_9 (w_9l7 + 1) w_13l6 w_13l5 w_13l4 w_13m0)) n_w_13 w_13l8 w_13l6 w_13l5 w_13l4 w_13m0) → ((match ((match ((f_m_toldHer_50 f9 f10 f8 b_ k_ i_ w_9l7 n_w_13 w_13l8 w_13l6 w_13l5 w_13l4 w_13m0) : Int32 × Int32 × Int32 × Int32 × (Nat → Int32)) with | (w_13l8, w_13l6, w_13l5, w_13l4, w_13m0) => (f_m_toldHer_38 f9 f10 f8 b_ k_ i_ n_w_9 (w_9l7 + 1) w_13l6 w_13l5 w_13l4 w_13m0)) : Int32 × Int32 × Int32 × Int32 × (Nat → Int32)) with | (w_9l7, w_9l6, w_9l5, w_9l4, w_9m0) => (if i_ = (-1) then (w_9l4, w_9m0) else (if i_ = (-2) then (w_9l5, w_9m0) else (w_9l6, w_9m0)))) : Int32 × (Nat → Int32)) = RES → W p l e rm_m_toldHer s m args below meth c H locs 0 0 Q (F0 m 50 ls []) := by
              intro n_w_13
              induction n_w_13 with
              | zero => intro w_13l8 w_13l6 w_13l5 w_13l4 w_13m0 H locs ls hP hD hS hl hF hE; exact False.elim hF
              | succ n_w_13 ih_w_13 =>
                intro w_13l8 w_13l6 w_13l5 w_13l4 w_13m0 H locs ls hP hD hS hl hF hE
                rw [S_m_toldHer_50_s] at hF
                rw [f_m_toldHer_50_s] at hE
                refine lv_iload hx hb dX10_toldHer_50 (lv_at hl 0 rfl) ?_
                refine lv_aload_n hx hb dX10_toldHer_52 rfl (lv_at hl 5 rfl) ?_
                refine va_get (D := D) (ci := 10) (v := .int (w_13m0 4)) (C := RX10) (T := TX10) (N := 45) hx hb hts iX10 hown hK hP 3 rfl rfl 4 (by decide) (hts _ wd_500) (fun _ h9 => h9) rfl dX10_toldHer_53 ?_
                refine lv_icmp_ge (tgt := 141) hx hb dX10_toldHer_56 (by decide) (fun c_14 => ?_) (fun c_14 => ?_)
                · replace hF := hF.1 c_14
                  rw [if_pos c_14] at hE
                  exact ex_50_w_13 w_13l8 w_13l6 w_13l5 w_13l4 w_13m0 _ _ ls hP hD hS (lv_sub hl [0, 1, 2, 3, 4, 5, 6, 7, 8] rfl) hF hE
                · replace hF := hF.2 c_14
                  rw [if_neg c_14] at hE
                  refine lv_aload_n hx hb dX10_toldHer_59 rfl (lv_at hl 5 rfl) ?_
                  refine lv_iload hx hb dX10_toldHer_60 (lv_at hl 1 rfl) ?_
                  refine lv_iload hx hb dX10_toldHer_62 (lv_at hl 0 rfl) ?_
                  refine lv_aload_n hx hb dX10_toldHer_64 rfl (lv_at hl 5 rfl) ?_
                  refine va_get (D := D) (ci := 10) (v := .ref (Rf 9)) (C := RX10) (T := TX10) (N := 45) hx hb hts iX10 hown hK hP 3 rfl rfl 9 (by decide) (hts _ wd_561) (fun _ h9 => h9) rfl dX10_toldHer_65 ?_
                  refine lv_iload hx hb dX10_toldHer_68 (lv_at hl 1 rfl) ?_
                  obtain ⟨hv_15, hF⟩ := hF
                  refine va_iald hx hb hK hP 0 0 rfl rfl hv_15 dX10_toldHer_70 ?_
                  refine lv_aload_n hx hb dX10_toldHer_71 rfl (lv_at hl 5 rfl) ?_
                  refine va_get (D := D) (ci := 10) (v := .ref (Rf 8)) (C := RX10) (T := TX10) (N := 45) hx hb hts iX10 hown hK hP 3 rfl rfl 8 (by decide) (hts _ wd_579) (fun _ h9 => h9) rfl dX10_toldHer_72 ?_
                  refine lv_iload_n hx hb dX10_toldHer_75 rfl (lv_at hl 6 rfl) ?_
                  obtain ⟨hv_16, hF⟩ := hF
                  refine va_iald hx hb hK hP 2 0 rfl rfl hv_16 dX10_toldHer_76 ?_
                  obtain ⟨hs_17, hF⟩ := hF
                  refine cVv (wr := [((Rf 9), .inl (cI, 6, .inl f9)), ((Rf 8), .inl (cI, 6, .inl f8))]) (rest := []) (m_quarrels Rf h w_13m0 f10 w_9l7 w_13l8 (f9 (w_9l7 : Int32).toNatClampNeg) (f8 (b_ : Int32).toNatClampNeg) hs_17) okV_X10_quarrels wd_643 hx hb hml hown hts hK hP hD hS hA hN hl.1 [3, 1] [0, 2] rfl rfl rfl rfl (by decide) rfl rfl rfl (Nat.le_of_ble_eq_true rfl) (Nat.le_of_ble_eq_true rfl) (Nat.le_of_ble_eq_true rfl) (Nat.le_of_ble_eq_true rfl) (Nat.le_of_ble_eq_true rfl) dX10_toldHer_77 (fun u_18 H locs hw_u_18 hP hD hS => ?_)
                  replace hw_u_18 : u_18 = (f_m_quarrels w_13m0 f10 w_9l7 w_13l8 (f9 (w_9l7 : Int32).toNatClampNeg) (f8 (b_ : Int32).toNatClampNeg)) := hw_u_18
                  subst hw_u_18
                  have hP : va_P D classes [((Rf 9), .inl (cI, 6, .inl f9)), ((Rf 8), .inl (cI, 6, .inl f8)), (h, .inr (10, ML (f_m_quarrels w_13m0 f10 w_9l7 w_13l8 (f9 (w_9l7 : Int32).toNatClampNeg) (f8 (b_ : Int32).toNatClampNeg)) Rf)), ((Rf 10), .inl (cI, 30, .inl f10))] H := hP
                  have hD : va_D A [((Rf 9), .inl (cI, 6, .inl f9)), ((Rf 8), .inl (cI, 6, .inl f8)), (h, .inr (10, ML (f_m_quarrels w_13m0 f10 w_9l7 w_13l8 (f9 (w_9l7 : Int32).toNatClampNeg) (f8 (b_ : Int32).toNatClampNeg)) Rf)), ((Rf 10), .inl (cI, 30, .inl f10))] := hD
                  refine lv_aload_n hx hb dX10_toldHer_80 rfl (lv_at hl 5 rfl) ?_
                  refine va_get (D := D) (ci := 10) (v := .int ((f_m_quarrels w_13m0 f10 w_9l7 w_13l8 (f9 (w_9l7 : Int32).toNatClampNeg) (f8 (b_ : Int32).toNatClampNeg)) 34)) (C := RX10) (T := TX10) (N := 45) hx hb hts iX10 hown hK hP 2 rfl rfl 34 (by decide) (hts _ wd_555) (fun _ h9 => h9) rfl dX10_toldHer_81 ?_
                  refine lv_if_ne (tgt := 135) hx hb dX10_toldHer_84 (by decide) (fun c_20 => ?_) (fun c_20 => ?_)
                  · replace hF := hF.2 c_20
                    rw [if_neg c_20] at hE
                    refine lv_iinc (v := (w_13l8 + 1)) (lv' := [(8, .int (w_13l8 + 1)), (7, .int w_9l7), (6, .int w_13l6), (5, .int w_13l5), (4, .int w_13l4), (0, .ref h), (1, .int b_), (2, .int k_), (3, .int i_)]) hx hb dX10_toldHer_135 hl (k := 0) rfl rfl (by decide) rfl (fun ls hl => ?_)
                    refine lv_goto (tgt := 50) hx hb dX10_toldHer_138 (by decide) ?_
                    exact ih_w_13 (w_13l8 + 1) w_13l6 w_13l5 w_13l4 (f_m_quarrels w_13m0 f10 w_9l7 w_13l8 (f9 (w_9l7 : Int32).toNatClampNeg) (f8 (b_ : Int32).toNatClampNeg)) _ _ ls (cutP (isC := [0, 3, 1, 2]) hP rfl) (cutD (isC := [0, 3, 1, 2]) hD rfl rfl) hS (lv_sub hl [0, 1, 2, 3, 4, 5, 6, 7, 8] rfl) hF hE
                  · replace hF := hF.1 c_20
                    rw [if_pos c_20] at hE
                    refine lv_aload_n hx hb dX10_toldHer_87 rfl (lv_at hl 5 rfl) ?_
                    refine va_get (D := D) (ci := 10) (v := .int ((f_m_quarrels w_13m0 f10 w_9l7 w_13l8 (f9 (w_9l7 : Int32).toNatClampNeg) (f8 (b_ : Int32).toNatClampNeg)) 33)) (C := RX10) (T := TX10) (N := 45) hx hb hts iX10 hown hK hP 2 rfl rfl 33 (by decide) (hts _ wd_550) (fun _ h9 => h9) rfl dX10_toldHer_88 ?_
                    refine lv_if_ne (tgt := 135) hx hb dX10_toldHer_91 (by decide) (fun c_21 => ?_) (fun c_21 => ?_)
                    · replace hF := hF.2 c_21
                      rw [if_neg c_21] at hE
                      refine lv_iinc (v := (w_13l8 + 1)) (lv' := [(8, .int (w_13l8 + 1)), (7, .int w_9l7), (6, .int w_13l6), (5, .int w_13l5), (4, .int w_13l4), (0, .ref h), (1, .int b_), (2, .int k_), (3, .int i_)]) hx hb dX10_toldHer_135 hl (k := 0) rfl rfl (by decide) rfl (fun ls hl => ?_)
                      refine lv_goto (tgt := 50) hx hb dX10_toldHer_138 (by decide) ?_
                      exact ih_w_13 (w_13l8 + 1) w_13l6 w_13l5 w_13l4 (f_m_quarrels w_13m0 f10 w_9l7 w_13l8 (f9 (w_9l7 : Int32).toNatClampNeg) (f8 (b_ : Int32).toNatClampNeg)) _ _ ls (cutP (isC := [0, 3, 1, 2]) hP rfl) (cutD (isC := [0, 3, 1, 2]) hD rfl rfl) hS (lv_sub hl [0, 1, 2, 3, 4, 5, 6, 7, 8] rfl) hF hE
                    · replace hF := hF.1 c_21
                      rw [if_pos c_21] at hE
                      refine lv_aload_n hx hb dX10_toldHer_94 rfl (lv_at hl 5 rfl) ?_
                      refine va_get (D := D) (ci := 10) (v := .int ((f_m_quarrels w_13m0 f10 w_9l7 w_13l8 (f9 (w_9l7 : Int32).toNatClampNeg) (f8 (b_ : Int32).toNatClampNeg)) 32)) (C := RX10) (T := TX10) (N := 45) hx hb hts iX10 hown hK hP 2 rfl rfl 32 (by decide) (hts _ wd_549) (fun _ h9 => h9) rfl dX10_toldHer_95 ?_
                      refine lv_iload_n hx hb dX10_toldHer_98 rfl (lv_at hl 7 rfl) ?_
                      refine lv_icmp_ne (tgt := 135) hx hb dX10_toldHer_99 (by decide) (fun c_22 => ?_) (fun c_22 => ?_)
                      · replace hF := hF.2 c_22
                        rw [if_neg c_22] at hE
                        refine lv_iinc (v := (w_13l8 + 1)) (lv' := [(8, .int (w_13l8 + 1)), (7, .int w_9l7), (6, .int w_13l6), (5, .int w_13l5), (4, .int w_13l4), (0, .ref h), (1, .int b_), (2, .int k_), (3, .int i_)]) hx hb dX10_toldHer_135 hl (k := 0) rfl rfl (by decide) rfl (fun ls hl => ?_)
                        refine lv_goto (tgt := 50) hx hb dX10_toldHer_138 (by decide) ?_
                        exact ih_w_13 (w_13l8 + 1) w_13l6 w_13l5 w_13l4 (f_m_quarrels w_13m0 f10 w_9l7 w_13l8 (f9 (w_9l7 : Int32).toNatClampNeg) (f8 (b_ : Int32).toNatClampNeg)) _ _ ls (cutP (isC := [0, 3, 1, 2]) hP rfl) (cutD (isC := [0, 3, 1, 2]) hD rfl rfl) hS (lv_sub hl [0, 1, 2, 3, 4, 5, 6, 7, 8] rfl) hF hE
                      · replace hF := hF.1 c_22
                        rw [if_pos c_22] at hE
                        refine lv_iload hx hb dX10_toldHer_102 (lv_at hl 4 rfl) ?_
                        refine lv_iload_n hx hb dX10_toldHer_104 rfl (lv_at hl 8 rfl) ?_
                        refine lv_icmp_ne (tgt := 119) hx hb dX10_toldHer_105 (by decide) (fun c_23 => ?_) (fun c_23 => ?_)
                        · replace hF := hF.2 c_23
                          rw [if_neg c_23] at hE
                          refine lv_iload hx hb dX10_toldHer_119 (lv_at hl 2 rfl) ?_
                          refine lv_istore (lv' := [(6, .int w_13l6), (8, .int w_13l8), (7, .int w_9l7), (5, .int w_13l5), (4, .int w_13l4), (0, .ref h), (1, .int b_), (2, .int k_), (3, .int i_)]) hx hb dX10_toldHer_121 hl (by decide) rfl (fun ls hl => ?_)
                          refine lv_iload hx hb dX10_toldHer_123 (lv_at hl 3 rfl) ?_
                          refine lv_iconst (v := 1) hx hb dX10_toldHer_125 (by decide) ?_
                          refine lv_iload hx hb dX10_toldHer_126 (lv_at hl 1 rfl) ?_
                          refine lv_ishl hx hb dX10_toldHer_128 ?_
                          refine lv_ior hx hb dX10_toldHer_129 ?_
                          refine lv_istore (lv' := [(5, .int (w_13l5 ||| (1 <<< (w_13l8 &&& 31)))), (6, .int w_13l6), (8, .int w_13l8), (7, .int w_9l7), (4, .int w_13l4), (0, .ref h), (1, .int b_), (2, .int k_), (3, .int i_)]) hx hb dX10_toldHer_130 hl (by decide) rfl (fun ls hl => ?_)
                          refine lv_iinc (v := (w_13l4 + 1)) (lv' := [(4, .int (w_13l4 + 1)), (5, .int (w_13l5 ||| (1 <<< (w_13l8 &&& 31)))), (6, .int w_13l6), (8, .int w_13l8), (7, .int w_9l7), (0, .ref h), (1, .int b_), (2, .int k_), (3, .int i_)]) hx hb dX10_toldHer_132 hl (k := 4) rfl rfl (by decide) rfl (fun ls hl => ?_)
                          refine lv_iinc (v := (w_13l8 + 1)) (lv' := [(8, .int (w_13l8 + 1)), (4, .int (w_13l4 + 1)), (5, .int (w_13l5 ||| (1 <<< (w_13l8 &&& 31)))), (6, .int w_13l6), (7, .int w_9l7), (0, .ref h), (1, .int b_), (2, .int k_), (3, .int i_)]) hx hb dX10_toldHer_135 hl (k := 3) rfl rfl (by decide) rfl (fun ls hl => ?_)
                          refine lv_goto (tgt := 50) hx hb dX10_toldHer_138 (by decide) ?_
                          exact ih_w_13 (w_13l8 + 1) w_13l6 (w_13l5 ||| (1 <<< (w_13l8 &&& 31))) (w_13l4 + 1) (f_m_quarrels w_13m0 f10 w_9l7 w_13l8 (f9 (w_9l7 : Int32).toNatClampNeg) (f8 (b_ : Int32).toNatClampNeg)) _ _ ls (cutP (isC := [0, 3, 1, 2]) hP rfl) (cutD (isC := [0, 3, 1, 2]) hD rfl rfl) hS (lv_sub hl [0, 4, 3, 2, 1, 5, 6, 7, 8] rfl) hF hE
                        · replace hF := hF.1 c_23
                          rw [if_pos c_23] at hE
                          refine lv_bipush (v := 10) hx hb dX10_toldHer_108 (by decide) ?_
                          refine lv_iload hx hb dX10_toldHer_110 (lv_at hl 1 rfl) ?_
                          refine lv_imul hx hb dX10_toldHer_112 ?_
                          refine lv_iload hx hb dX10_toldHer_113 (lv_at hl 0 rfl) ?_
                          refine lv_iadd hx hb dX10_toldHer_115 ?_
                          refine lv_goto (tgt := 121) hx hb dX10_toldHer_116 (by decide) ?_
                          refine lv_istore (lv' := [(6, .int ((10 * w_9l7) + w_13l8)), (8, .int w_13l8), (7, .int w_9l7), (5, .int w_13l5), (4, .int w_13l4), (0, .ref h), (1, .int b_), (2, .int k_), (3, .int i_)]) hx hb dX10_toldHer_121 hl (by decide) rfl (fun ls hl => ?_)
                          refine lv_iload hx hb dX10_toldHer_123 (lv_at hl 3 rfl) ?_
                          refine lv_iconst (v := 1) hx hb dX10_toldHer_125 (by decide) ?_
                          refine lv_iload hx hb dX10_toldHer_126 (lv_at hl 1 rfl) ?_
                          refine lv_ishl hx hb dX10_toldHer_128 ?_
                          refine lv_ior hx hb dX10_toldHer_129 ?_
                          refine lv_istore (lv' := [(5, .int (w_13l5 ||| (1 <<< (w_13l8 &&& 31)))), (6, .int ((10 * w_9l7) + w_13l8)), (8, .int w_13l8), (7, .int w_9l7), (4, .int w_13l4), (0, .ref h), (1, .int b_), (2, .int k_), (3, .int i_)]) hx hb dX10_toldHer_130 hl (by decide) rfl (fun ls hl => ?_)
                          refine lv_iinc (v := (w_13l4 + 1)) (lv' := [(4, .int (w_13l4 + 1)), (5, .int (w_13l5 ||| (1 <<< (w_13l8 &&& 31)))), (6, .int ((10 * w_9l7) + w_13l8)), (8, .int w_13l8), (7, .int w_9l7), (0, .ref h), (1, .int b_), (2, .int k_), (3, .int i_)]) hx hb dX10_toldHer_132 hl (k := 4) rfl rfl (by decide) rfl (fun ls hl => ?_)
                          refine lv_iinc (v := (w_13l8 + 1)) (lv' := [(8, .int (w_13l8 + 1)), (4, .int (w_13l4 + 1)), (5, .int (w_13l5 ||| (1 <<< (w_13l8 &&& 31)))), (6, .int ((10 * w_9l7) + w_13l8)), (7, .int w_9l7), (0, .ref h), (1, .int b_), (2, .int k_), (3, .int i_)]) hx hb dX10_toldHer_135 hl (k := 3) rfl rfl (by decide) rfl (fun ls hl => ?_)
                          refine lv_goto (tgt := 50) hx hb dX10_toldHer_138 (by decide) ?_
                          exact ih_w_13 (w_13l8 + 1) ((10 * w_9l7) + w_13l8) (w_13l5 ||| (1 <<< (w_13l8 &&& 31))) (w_13l4 + 1) (f_m_quarrels w_13m0 f10 w_9l7 w_13l8 (f9 (w_9l7 : Int32).toNatClampNeg) (f8 (b_ : Int32).toNatClampNeg)) _ _ ls (cutP (isC := [0, 3, 1, 2]) hP rfl) (cutD (isC := [0, 3, 1, 2]) hD rfl rfl) hS (lv_sub hl [0, 4, 3, 2, 1, 5, 6, 7, 8] rfl) hF hE
            exact lp_50_w_13 10 0 w_9l6 w_9l5 w_9l4 w_9m0 _ _ ls hP hD hS hl hF hE
      exact lp_38_w_9 10 0 (-1) 0 0 G _ _ ls hP hD hS hl hF hE
    · replace hF := hF.1 c_8
      rw [if_pos c_8] at hE
      refine lv_ldc (v := (-1000000002)) hx hb hown (hts _ wd_507) dX10_toldHer_23 ?_
      exact hret (-1000000002) G _ _ _ _ dX10_toldHer_25 rfl hE (cutP (isC := [3, 0, 1, 2]) hP rfl) (cutD (isC := [3, 0, 1, 2]) hD rfl rfl) hS
  · replace hF := hF.1 c_4
    rw [if_pos c_4] at hE
    refine lv_ldc (v := (-1000000001)) hx hb hown (hts _ wd_580) dX10_toldHer_8 ?_
    exact hret (-1000000001) G _ _ _ _ dX10_toldHer_10 rfl hE (cutP (isC := [3, 0, 1, 2]) hP rfl) (cutD (isC := [3, 0, 1, 2]) hD rfl rfl) hS
