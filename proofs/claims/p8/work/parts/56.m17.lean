theorem dX10_opens_0 : decode cX10_opens 0 = .ok (.aload_n 0, 1) := by decide +kernel
theorem dX10_opens_1 : decode cX10_opens 1 = .ok (.iload_n 1, 1) := by decide +kernel
theorem dX10_opens_2 : decode cX10_opens 2 = .ok (.iload_n 3, 1) := by decide +kernel
theorem dX10_opens_3 : decode cX10_opens 3 = .ok (.aload_n 0, 1) := by decide +kernel
theorem dX10_opens_4 : decode cX10_opens 4 = .ok (.getfield 7, 3) := by decide +kernel
theorem dX10_opens_7 : decode cX10_opens 7 = .ok (.iconst 0, 1) := by decide +kernel
theorem dX10_opens_8 : decode cX10_opens 8 = .ok (.iload_n 1, 1) := by decide +kernel
theorem dX10_opens_9 : decode cX10_opens 9 = .ok (.iadd, 1) := by decide +kernel
theorem dX10_opens_10 : decode cX10_opens 10 = .ok (.iaload, 1) := by decide +kernel
theorem dX10_opens_11 : decode cX10_opens 11 = .ok (.aload_n 0, 1) := by decide +kernel
theorem dX10_opens_12 : decode cX10_opens 12 = .ok (.getfield 21, 3) := by decide +kernel
theorem dX10_opens_15 : decode cX10_opens 15 = .ok (.iload_n 2, 1) := by decide +kernel
theorem dX10_opens_16 : decode cX10_opens 16 = .ok (.iaload, 1) := by decide +kernel
theorem dX10_opens_17 : decode cX10_opens 17 = .ok (.invokevirtual 237, 3) := by decide +kernel
theorem wd_643 : Cond.methodLink RX10 237 yX10_quarrels ∈ BG := BG_at 1072 (by decide +kernel) rfl
theorem wd_644 : Cond.code yX10_quarrels cX10_quarrels 7 none ∈ BG := BG_at 1075 (by decide +kernel) rfl
theorem wd_645 : Cond.instanceMethod yX10_quarrels ∈ BG := BG_at 1074 (by decide +kernel) rfl
theorem wd_646 : Cond.selects RX10 yX10_quarrels yX10_quarrels ∈ BG := BG_in (by decide +kernel) rfl
theorem okV_X10_quarrels : okV yX10_quarrels cX10_quarrels 7 none 4 := ⟨⟨wd_644, wd_497, by decide +kernel⟩, wd_645, wd_646⟩
theorem dX10_opens_20 : decode cX10_opens 20 = .ok (.aload_n 0, 1) := by decide +kernel
theorem dX10_opens_21 : decode cX10_opens 21 = .ok (.getfield 226, 3) := by decide +kernel
theorem dX10_opens_24 : decode cX10_opens 24 = .ok (.ifCond .eq 15, 3) := by decide +kernel
theorem dX10_opens_39 : decode cX10_opens 39 = .ok (.iconst 0, 1) := by decide +kernel
theorem dX10_opens_40 : decode cX10_opens 40 = .ok (.ireturn, 1) := by decide +kernel
theorem dX10_opens_27 : decode cX10_opens 27 = .ok (.aload_n 0, 1) := by decide +kernel
theorem dX10_opens_28 : decode cX10_opens 28 = .ok (.iload_n 1, 1) := by decide +kernel
theorem dX10_opens_29 : decode cX10_opens 29 = .ok (.invokevirtual 207, 3) := by decide +kernel
theorem dX10_opens_32 : decode cX10_opens 32 = .ok (.ifCond .ne 7, 3) := by decide +kernel
theorem dX10_opens_35 : decode cX10_opens 35 = .ok (.iconst 1, 1) := by decide +kernel
theorem dX10_opens_36 : decode cX10_opens 36 = .ok (.goto 4, 3) := by decide +kernel
theorem dX10_could_0 : decode cX10_could 0 = .ok (.aload_n 0, 1) := by decide +kernel
theorem dX10_could_1 : decode cX10_could 1 = .ok (.iload_n 1, 1) := by decide +kernel
theorem dX10_could_2 : decode cX10_could 2 = .ok (.invokevirtual 204, 3) := by decide +kernel
theorem dX10_could_5 : decode cX10_could 5 = .ok (.ifCond .eq 19, 3) := by decide +kernel
theorem dX10_could_24 : decode cX10_could 24 = .ok (.ldc 199, 2) := by decide +kernel
theorem dX10_could_26 : decode cX10_could 26 = .ok (.ireturn, 1) := by decide +kernel
theorem dX10_could_8 : decode cX10_could 8 = .ok (.aload_n 0, 1) := by decide +kernel
theorem dX10_could_9 : decode cX10_could 9 = .ok (.iload_n 2, 1) := by decide +kernel
theorem dX10_could_10 : decode cX10_could 10 = .ok (.invokevirtual 196, 3) := by decide +kernel
theorem dX10_could_13 : decode cX10_could 13 = .ok (.ifCond .eq 11, 3) := by decide +kernel
theorem dX10_could_16 : decode cX10_could 16 = .ok (.aload_n 0, 1) := by decide +kernel
theorem dX10_could_17 : decode cX10_could 17 = .ok (.iload_n 3, 1) := by decide +kernel
theorem dX10_could_18 : decode cX10_could 18 = .ok (.invokevirtual 210, 3) := by decide +kernel
theorem dX10_could_21 : decode cX10_could 21 = .ok (.ifCond .ne 6, 3) := by decide +kernel
theorem dX10_could_27 : decode cX10_could 27 = .ok (.iload 4, 2) := by decide +kernel
theorem dX10_could_29 : decode cX10_could 29 = .ok (.i2l, 1) := by decide +kernel
theorem dX10_could_30 : decode cX10_could 30 = .ok (.lconst 0, 1) := by decide +kernel
theorem dX10_could_31 : decode cX10_could 31 = .ok (.lconst 1, 1) := by decide +kernel
theorem dX10_could_32 : decode cX10_could 32 = .ok (.invokestatic 84, 3) := by decide +kernel
theorem dX10_could_35 : decode cX10_could 35 = .ok (.ifCond .ne 6, 3) := by decide +kernel
theorem dX10_could_41 : decode cX10_could 41 = .ok (.aload_n 0, 1) := by decide +kernel
theorem dX10_could_42 : decode cX10_could 42 = .ok (.iload_n 1, 1) := by decide +kernel
theorem dX10_could_43 : decode cX10_could 43 = .ok (.iload_n 2, 1) := by decide +kernel
theorem dX10_could_44 : decode cX10_could 44 = .ok (.iload_n 3, 1) := by decide +kernel
theorem dX10_could_45 : decode cX10_could 45 = .ok (.invokevirtual 260, 3) := by decide +kernel
theorem wd_647 : Cond.methodLink RX10 260 yX10_opens ∈ BG := BG_at 1105 (by decide +kernel) rfl
theorem wd_648 : Cond.code yX10_opens cX10_opens 4 (some .boolean) ∈ BG := BG_at 1108 (by decide +kernel) rfl
theorem wd_649 : Cond.instanceMethod yX10_opens ∈ BG := BG_at 1107 (by decide +kernel) rfl
theorem wd_650 : Cond.selects RX10 yX10_opens yX10_opens ∈ BG := BG_in (by decide +kernel) rfl
theorem okV_X10_opens : okV yX10_opens cX10_opens 4 (some .boolean) 3 := ⟨⟨wd_648, wd_497, by decide +kernel⟩, wd_649, wd_650⟩
theorem dX10_could_48 : decode cX10_could 48 = .ok (.ifCond .ne 7, 3) := by decide +kernel
theorem dX10_could_55 : decode cX10_could 55 = .ok (.iload 4, 2) := by decide +kernel
theorem dX10_could_57 : decode cX10_could 57 = .ok (.ifCond .ne 10, 3) := by decide +kernel
theorem dX10_could_67 : decode cX10_could 67 = .ok (.aload_n 0, 1) := by decide +kernel
theorem dX10_could_68 : decode cX10_could 68 = .ok (.getfield 7, 3) := by decide +kernel
theorem dX10_could_71 : decode cX10_could 71 = .ok (.iconst 0, 1) := by decide +kernel
theorem dX10_could_72 : decode cX10_could 72 = .ok (.iload_n 1, 1) := by decide +kernel
theorem dX10_could_73 : decode cX10_could 73 = .ok (.iadd, 1) := by decide +kernel
theorem dX10_could_74 : decode cX10_could 74 = .ok (.iaload, 1) := by decide +kernel
theorem dX10_could_75 : decode cX10_could 75 = .ok (.aload_n 0, 1) := by decide +kernel
theorem dX10_could_76 : decode cX10_could 76 = .ok (.getfield 219, 3) := by decide +kernel
theorem dX10_could_79 : decode cX10_could 79 = .ok (.isub, 1) := by decide +kernel
theorem dX10_could_80 : decode cX10_could 80 = .ok (.ireturn, 1) := by decide +kernel
theorem dX10_could_60 : decode cX10_could 60 = .ok (.aload_n 0, 1) := by decide +kernel
theorem dX10_could_61 : decode cX10_could 61 = .ok (.getfield 216, 3) := by decide +kernel
theorem dX10_could_64 : decode cX10_could 64 = .ok (.goto 16, 3) := by decide +kernel
theorem dX10_could_51 : decode cX10_could 51 = .ok (.iconst (-1), 1) := by decide +kernel
theorem dX10_could_52 : decode cX10_could 52 = .ok (.goto 28, 3) := by decide +kernel
theorem dX10_could_38 : decode cX10_could 38 = .ok (.ldc 93, 2) := by decide +kernel
theorem dX10_could_40 : decode cX10_could 40 = .ok (.ireturn, 1) := by decide +kernel
theorem dX10_lastsOf_0 : decode cX10_lastsOf 0 = .ok (.aload_n 0, 1) := by decide +kernel
theorem dX10_lastsOf_1 : decode cX10_lastsOf 1 = .ok (.iload_n 1, 1) := by decide +kernel
theorem dX10_lastsOf_2 : decode cX10_lastsOf 2 = .ok (.iload_n 2, 1) := by decide +kernel
theorem dX10_lastsOf_3 : decode cX10_lastsOf 3 = .ok (.aload_n 0, 1) := by decide +kernel
theorem dX10_lastsOf_4 : decode cX10_lastsOf 4 = .ok (.getfield 7, 3) := by decide +kernel
theorem dX10_lastsOf_7 : decode cX10_lastsOf 7 = .ok (.iconst 0, 1) := by decide +kernel
theorem dX10_lastsOf_8 : decode cX10_lastsOf 8 = .ok (.iload_n 1, 1) := by decide +kernel
theorem dX10_lastsOf_9 : decode cX10_lastsOf 9 = .ok (.iadd, 1) := by decide +kernel
theorem dX10_lastsOf_10 : decode cX10_lastsOf 10 = .ok (.iaload, 1) := by decide +kernel
theorem wd_651 : Cond.constant RX10 270 (1000000000) ∈ BG := BG_at 1125 (by decide +kernel) rfl
theorem dX10_lastsOf_11 : decode cX10_lastsOf 11 = .ok (.ldc_w 270, 3) := by decide +kernel
theorem dX10_lastsOf_14 : decode cX10_lastsOf 14 = .ok (.invokevirtual 237, 3) := by decide +kernel
theorem dX10_lastsOf_17 : decode cX10_lastsOf 17 = .ok (.aload_n 0, 1) := by decide +kernel
theorem dX10_lastsOf_18 : decode cX10_lastsOf 18 = .ok (.getfield 219, 3) := by decide +kernel
theorem dX10_lastsOf_21 : decode cX10_lastsOf 21 = .ok (.ifCond .ne 17, 3) := by decide +kernel
theorem dX10_lastsOf_38 : decode cX10_lastsOf 38 = .ok (.sipush 999, 3) := by decide +kernel
theorem dX10_lastsOf_41 : decode cX10_lastsOf 41 = .ok (.ireturn, 1) := by decide +kernel
theorem dX10_lastsOf_24 : decode cX10_lastsOf 24 = .ok (.aload_n 0, 1) := by decide +kernel
theorem dX10_lastsOf_25 : decode cX10_lastsOf 25 = .ok (.getfield 216, 3) := by decide +kernel
theorem dX10_lastsOf_28 : decode cX10_lastsOf 28 = .ok (.ifCond .le 10, 3) := by decide +kernel
theorem dX10_lastsOf_31 : decode cX10_lastsOf 31 = .ok (.aload_n 0, 1) := by decide +kernel
theorem dX10_lastsOf_32 : decode cX10_lastsOf 32 = .ok (.getfield 216, 3) := by decide +kernel
theorem dX10_lastsOf_35 : decode cX10_lastsOf 35 = .ok (.goto 6, 3) := by decide +kernel
theorem dX10_lasts_0 : decode cX10_lasts 0 = .ok (.aload_n 0, 1) := by decide +kernel
theorem dX10_lasts_1 : decode cX10_lasts 1 = .ok (.iload_n 1, 1) := by decide +kernel
theorem dX10_lasts_2 : decode cX10_lasts 2 = .ok (.invokevirtual 204, 3) := by decide +kernel
theorem dX10_lasts_5 : decode cX10_lasts 5 = .ok (.ifCond .eq 11, 3) := by decide +kernel
theorem dX10_lasts_16 : decode cX10_lasts 16 = .ok (.ldc 199, 2) := by decide +kernel
theorem dX10_lasts_18 : decode cX10_lasts 18 = .ok (.ireturn, 1) := by decide +kernel
theorem dX10_lasts_8 : decode cX10_lasts 8 = .ok (.aload_n 0, 1) := by decide +kernel
theorem dX10_lasts_9 : decode cX10_lasts 9 = .ok (.iload_n 2, 1) := by decide +kernel
theorem dX10_lasts_10 : decode cX10_lasts 10 = .ok (.invokevirtual 210, 3) := by decide +kernel
theorem dX10_lasts_13 : decode cX10_lasts 13 = .ok (.ifCond .ne 6, 3) := by decide +kernel
theorem dX10_lasts_19 : decode cX10_lasts 19 = .ok (.aload_n 0, 1) := by decide +kernel
theorem dX10_lasts_20 : decode cX10_lasts 20 = .ok (.iload_n 1, 1) := by decide +kernel
theorem dX10_lasts_21 : decode cX10_lasts 21 = .ok (.invokevirtual 207, 3) := by decide +kernel
theorem dX10_lasts_24 : decode cX10_lasts 24 = .ok (.ifCond .eq 8, 3) := by decide +kernel
theorem dX10_lasts_32 : decode cX10_lasts 32 = .ok (.aload_n 0, 1) := by decide +kernel
theorem dX10_lasts_33 : decode cX10_lasts 33 = .ok (.iload_n 1, 1) := by decide +kernel
theorem dX10_lasts_34 : decode cX10_lasts 34 = .ok (.iload_n 2, 1) := by decide +kernel
theorem dX10_lasts_35 : decode cX10_lasts 35 = .ok (.invokevirtual 285, 3) := by decide +kernel
theorem wd_652 : Cond.methodLink RX10 285 yX10_lastsOf ∈ BG := BG_at 1143 (by decide +kernel) rfl
theorem wd_653 : Cond.code yX10_lastsOf cX10_lastsOf 3 (some .int) ∈ BG := BG_at 1146 (by decide +kernel) rfl
theorem wd_654 : Cond.instanceMethod yX10_lastsOf ∈ BG := BG_at 1145 (by decide +kernel) rfl
theorem wd_655 : Cond.selects RX10 yX10_lastsOf yX10_lastsOf ∈ BG := BG_in (by decide +kernel) rfl
theorem okV_X10_lastsOf : okV yX10_lastsOf cX10_lastsOf 3 (some .int) 2 := ⟨⟨wd_653, wd_497, by decide +kernel⟩, wd_654, wd_655⟩
theorem dX10_lasts_38 : decode cX10_lasts 38 = .ok (.ireturn, 1) := by decide +kernel
theorem dX10_lasts_27 : decode cX10_lasts 27 = .ok (.ldc 233, 2) := by decide +kernel
theorem dX10_lasts_29 : decode cX10_lasts 29 = .ok (.goto 9, 3) := by decide +kernel
theorem dX10_best_0 : decode cX10_best 0 = .ok (.iconst (-1), 1) := by decide +kernel
theorem dX10_best_1 : decode cX10_best 1 = .ok (.istore_n 3, 1) := by decide +kernel
theorem dX10_best_2 : decode cX10_best 2 = .ok (.sipush 999, 3) := by decide +kernel
theorem dX10_best_5 : decode cX10_best 5 = .ok (.istore 4, 2) := by decide +kernel
theorem dX10_best_7 : decode cX10_best 7 = .ok (.aload_n 0, 1) := by decide +kernel
theorem dX10_best_8 : decode cX10_best 8 = .ok (.sipush 999, 3) := by decide +kernel
theorem wd_656 : Cond.fieldLink RX10 264 "QuarrelBridgesModel" "cost" "I" ∈ BG := BG_at 818 (by decide +kernel) rfl
theorem dX10_best_11 : decode cX10_best 11 = .ok (.putfield 264, 3) := by decide +kernel
theorem dX10_best_14 : decode cX10_best 14 = .ok (.iconst 0, 1) := by decide +kernel
theorem dX10_best_15 : decode cX10_best 15 = .ok (.istore 5, 2) := by decide +kernel
theorem dX10_best_138 : decode cX10_best 138 = .ok (.iload_n 3, 1) := by decide +kernel
theorem dX10_best_139 : decode cX10_best 139 = .ok (.ireturn, 1) := by decide +kernel
theorem dX10_best_17 : decode cX10_best 17 = .ok (.iload 5, 2) := by decide +kernel
theorem dX10_best_19 : decode cX10_best 19 = .ok (.aload_n 0, 1) := by decide +kernel
theorem dX10_best_20 : decode cX10_best 20 = .ok (.getfield 17, 3) := by decide +kernel
theorem dX10_best_23 : decode cX10_best 23 = .ok (.if_icmp .ge 115, 3) := by decide +kernel
theorem dX10_best_26 : decode cX10_best 26 = .ok (.aload_n 0, 1) := by decide +kernel
theorem dX10_best_27 : decode cX10_best 27 = .ok (.iload_n 1, 1) := by decide +kernel
theorem dX10_best_28 : decode cX10_best 28 = .ok (.iload_n 2, 1) := by decide +kernel
theorem dX10_best_29 : decode cX10_best 29 = .ok (.iload 5, 2) := by decide +kernel
theorem dX10_best_31 : decode cX10_best 31 = .ok (.invokevirtual 260, 3) := by decide +kernel
theorem dX10_best_34 : decode cX10_best 34 = .ok (.ifCond .eq 98, 3) := by decide +kernel
theorem dX10_best_132 : decode cX10_best 132 = .ok (.iinc 5 1, 3) := by decide +kernel
theorem dX10_best_135 : decode cX10_best 135 = .ok (.goto (-118), 3) := by decide +kernel
theorem dX10_best_37 : decode cX10_best 37 = .ok (.aload_n 0, 1) := by decide +kernel
theorem dX10_best_38 : decode cX10_best 38 = .ok (.getfield 7, 3) := by decide +kernel
theorem dX10_best_41 : decode cX10_best 41 = .ok (.iconst 0, 1) := by decide +kernel
theorem dX10_best_42 : decode cX10_best 42 = .ok (.iload_n 1, 1) := by decide +kernel
theorem dX10_best_43 : decode cX10_best 43 = .ok (.iadd, 1) := by decide +kernel
theorem dX10_best_44 : decode cX10_best 44 = .ok (.iaload, 1) := by decide +kernel
theorem dX10_best_45 : decode cX10_best 45 = .ok (.aload_n 0, 1) := by decide +kernel
theorem dX10_best_46 : decode cX10_best 46 = .ok (.getfield 219, 3) := by decide +kernel
theorem dX10_best_49 : decode cX10_best 49 = .ok (.isub, 1) := by decide +kernel
theorem dX10_best_50 : decode cX10_best 50 = .ok (.istore 6, 2) := by decide +kernel
theorem dX10_best_52 : decode cX10_best 52 = .ok (.aload_n 0, 1) := by decide +kernel
theorem dX10_best_53 : decode cX10_best 53 = .ok (.getfield 216, 3) := by decide +kernel
theorem dX10_best_56 : decode cX10_best 56 = .ok (.iload 4, 2) := by decide +kernel
theorem dX10_best_58 : decode cX10_best 58 = .ok (.if_icmp .lt 21, 3) := by decide +kernel
theorem dX10_best_79 : decode cX10_best 79 = .ok (.iconst 1, 1) := by decide +kernel
theorem dX10_best_80 : decode cX10_best 80 = .ok (.goto 4, 3) := by decide +kernel
theorem dX10_best_84 : decode cX10_best 84 = .ok (.istore 7, 2) := by decide +kernel
theorem dX10_best_86 : decode cX10_best 86 = .ok (.iload 7, 2) := by decide +kernel
theorem dX10_best_88 : decode cX10_best 88 = .ok (.ifCond .eq 8, 3) := by decide +kernel
theorem dX10_best_91 : decode cX10_best 91 = .ok (.iload 5, 2) := by decide +kernel
theorem dX10_best_93 : decode cX10_best 93 = .ok (.goto 4, 3) := by decide +kernel
theorem dX10_best_97 : decode cX10_best 97 = .ok (.istore_n 3, 1) := by decide +kernel
theorem dX10_best_98 : decode cX10_best 98 = .ok (.aload_n 0, 1) := by decide +kernel
theorem dX10_best_99 : decode cX10_best 99 = .ok (.iload 7, 2) := by decide +kernel
theorem dX10_best_101 : decode cX10_best 101 = .ok (.ifCond .eq 8, 3) := by decide +kernel
theorem dX10_best_104 : decode cX10_best 104 = .ok (.iload 6, 2) := by decide +kernel
theorem dX10_best_106 : decode cX10_best 106 = .ok (.goto 7, 3) := by decide +kernel
theorem dX10_best_113 : decode cX10_best 113 = .ok (.putfield 264, 3) := by decide +kernel
theorem dX10_best_116 : decode cX10_best 116 = .ok (.iload 7, 2) := by decide +kernel
theorem dX10_best_118 : decode cX10_best 118 = .ok (.ifCond .eq 10, 3) := by decide +kernel
theorem dX10_best_121 : decode cX10_best 121 = .ok (.aload_n 0, 1) := by decide +kernel
theorem dX10_best_122 : decode cX10_best 122 = .ok (.getfield 216, 3) := by decide +kernel
theorem dX10_best_125 : decode cX10_best 125 = .ok (.goto 5, 3) := by decide +kernel
theorem dX10_best_130 : decode cX10_best 130 = .ok (.istore 4, 2) := by decide +kernel
theorem dX10_best_61 : decode cX10_best 61 = .ok (.aload_n 0, 1) := by decide +kernel
theorem dX10_best_62 : decode cX10_best 62 = .ok (.getfield 216, 3) := by decide +kernel
theorem dX10_best_65 : decode cX10_best 65 = .ok (.iload 4, 2) := by decide +kernel
theorem dX10_best_67 : decode cX10_best 67 = .ok (.if_icmp .ne 16, 3) := by decide +kernel
theorem dX10_best_83 : decode cX10_best 83 = .ok (.iconst 0, 1) := by decide +kernel
theorem dX10_best_96 : decode cX10_best 96 = .ok (.iload_n 3, 1) := by decide +kernel
theorem dX10_best_109 : decode cX10_best 109 = .ok (.aload_n 0, 1) := by decide +kernel
theorem dX10_best_110 : decode cX10_best 110 = .ok (.getfield 264, 3) := by decide +kernel
theorem dX10_best_128 : decode cX10_best 128 = .ok (.iload 4, 2) := by decide +kernel
theorem dX10_best_70 : decode cX10_best 70 = .ok (.iload 6, 2) := by decide +kernel
theorem dX10_best_72 : decode cX10_best 72 = .ok (.aload_n 0, 1) := by decide +kernel
theorem dX10_best_73 : decode cX10_best 73 = .ok (.getfield 264, 3) := by decide +kernel
theorem dX10_best_76 : decode cX10_best 76 = .ok (.if_icmp .ge 7, 3) := by decide +kernel
theorem dX10_bestTheme_0 : decode cX10_bestTheme 0 = .ok (.aload_n 0, 1) := by decide +kernel
theorem dX10_bestTheme_1 : decode cX10_bestTheme 1 = .ok (.iload_n 1, 1) := by decide +kernel
theorem dX10_bestTheme_2 : decode cX10_bestTheme 2 = .ok (.invokevirtual 204, 3) := by decide +kernel
theorem dX10_bestTheme_5 : decode cX10_bestTheme 5 = .ok (.ifCond .eq 20, 3) := by decide +kernel
theorem dX10_bestTheme_25 : decode cX10_bestTheme 25 = .ok (.ldc 199, 2) := by decide +kernel
theorem dX10_bestTheme_27 : decode cX10_bestTheme 27 = .ok (.ireturn, 1) := by decide +kernel
theorem dX10_bestTheme_8 : decode cX10_bestTheme 8 = .ok (.aload_n 0, 1) := by decide +kernel
theorem dX10_bestTheme_9 : decode cX10_bestTheme 9 = .ok (.iload_n 2, 1) := by decide +kernel
theorem dX10_bestTheme_10 : decode cX10_bestTheme 10 = .ok (.invokevirtual 196, 3) := by decide +kernel
theorem dX10_bestTheme_13 : decode cX10_bestTheme 13 = .ok (.ifCond .eq 12, 3) := by decide +kernel
theorem dX10_bestTheme_16 : decode cX10_bestTheme 16 = .ok (.aload_n 0, 1) := by decide +kernel
theorem dX10_bestTheme_17 : decode cX10_bestTheme 17 = .ok (.iload_n 1, 1) := by decide +kernel
theorem dX10_bestTheme_18 : decode cX10_bestTheme 18 = .ok (.iload_n 2, 1) := by decide +kernel
theorem dX10_bestTheme_19 : decode cX10_bestTheme 19 = .ok (.invokevirtual 267, 3) := by decide +kernel
theorem wd_657 : Cond.methodLink RX10 267 yX10_best ∈ BG := BG_at 1113 (by decide +kernel) rfl
theorem wd_658 : Cond.code yX10_best cX10_best 8 (some .int) ∈ BG := BG_at 1116 (by decide +kernel) rfl
theorem wd_659 : Cond.instanceMethod yX10_best ∈ BG := BG_at 1115 (by decide +kernel) rfl
theorem wd_660 : Cond.selects RX10 yX10_best yX10_best ∈ BG := BG_in (by decide +kernel) rfl
theorem okV_X10_best : okV yX10_best cX10_best 8 (some .int) 2 := ⟨⟨wd_658, wd_497, by decide +kernel⟩, wd_659, wd_660⟩
theorem dX10_bestTheme_22 : decode cX10_bestTheme 22 = .ok (.goto 5, 3) := by decide +kernel
theorem dX10_carried_0 : decode cX10_carried 0 = .ok (.iload_n 1, 1) := by decide +kernel
theorem dX10_carried_1 : decode cX10_carried 1 = .ok (.iconst (-1), 1) := by decide +kernel
theorem dX10_carried_2 : decode cX10_carried 2 = .ok (.if_icmp .eq 14, 3) := by decide +kernel
theorem dX10_carried_16 : decode cX10_carried 16 = .ok (.aload_n 0, 1) := by decide +kernel
theorem dX10_carried_17 : decode cX10_carried 17 = .ok (.iconst 0, 1) := by decide +kernel
theorem dX10_carried_18 : decode cX10_carried 18 = .ok (.iconst 0, 1) := by decide +kernel
theorem dX10_carried_19 : decode cX10_carried 19 = .ok (.invokevirtual 200, 3) := by decide +kernel
theorem dX10_carried_22 : decode cX10_carried 22 = .ok (.istore_n 2, 1) := by decide +kernel
theorem dX10_carried_23 : decode cX10_carried 23 = .ok (.iload_n 2, 1) := by decide +kernel
theorem dX10_carried_24 : decode cX10_carried 24 = .ok (.iconst (-1), 1) := by decide +kernel
theorem dX10_carried_25 : decode cX10_carried 25 = .ok (.if_icmp .ne 6, 3) := by decide +kernel
theorem dX10_carried_31 : decode cX10_carried 31 = .ok (.aload_n 0, 1) := by decide +kernel
theorem dX10_carried_32 : decode cX10_carried 32 = .ok (.iload_n 2, 1) := by decide +kernel
theorem dX10_carried_33 : decode cX10_carried 33 = .ok (.aload_n 0, 1) := by decide +kernel
theorem dX10_carried_34 : decode cX10_carried 34 = .ok (.getfield 7, 3) := by decide +kernel
theorem dX10_carried_37 : decode cX10_carried 37 = .ok (.bipush 12, 2) := by decide +kernel
theorem dX10_carried_39 : decode cX10_carried 39 = .ok (.iload_n 2, 1) := by decide +kernel
theorem dX10_carried_40 : decode cX10_carried 40 = .ok (.iadd, 1) := by decide +kernel
theorem dX10_carried_41 : decode cX10_carried 41 = .ok (.iaload, 1) := by decide +kernel
theorem dX10_carried_42 : decode cX10_carried 42 = .ok (.aload_n 0, 1) := by decide +kernel
theorem dX10_carried_43 : decode cX10_carried 43 = .ok (.getfield 7, 3) := by decide +kernel
theorem dX10_carried_46 : decode cX10_carried 46 = .ok (.iconst 0, 1) := by decide +kernel
theorem dX10_carried_47 : decode cX10_carried 47 = .ok (.iload_n 2, 1) := by decide +kernel
theorem dX10_carried_48 : decode cX10_carried 48 = .ok (.iadd, 1) := by decide +kernel
theorem dX10_carried_49 : decode cX10_carried 49 = .ok (.iaload, 1) := by decide +kernel
theorem dX10_carried_50 : decode cX10_carried 50 = .ok (.invokevirtual 222, 3) := by decide +kernel
theorem dX10_carried_53 : decode cX10_carried 53 = .ok (.istore_n 3, 1) := by decide +kernel
theorem dX10_carried_54 : decode cX10_carried 54 = .ok (.iconst (-1), 1) := by decide +kernel
theorem dX10_carried_55 : decode cX10_carried 55 = .ok (.istore 4, 2) := by decide +kernel
theorem dX10_carried_57 : decode cX10_carried 57 = .ok (.iconst 0, 1) := by decide +kernel
theorem dX10_carried_58 : decode cX10_carried 58 = .ok (.istore 5, 2) := by decide +kernel
theorem dX10_carried_60 : decode cX10_carried 60 = .ok (.iconst 1, 1) := by decide +kernel
theorem dX10_carried_61 : decode cX10_carried 61 = .ok (.istore 6, 2) := by decide +kernel
theorem dX10_carried_130 : decode cX10_carried 130 = .ok (.iload_n 1, 1) := by decide +kernel
theorem dX10_carried_131 : decode cX10_carried 131 = .ok (.iconst (-1), 1) := by decide +kernel
theorem dX10_carried_132 : decode cX10_carried 132 = .ok (.if_icmp .ne 8, 3) := by decide +kernel
theorem dX10_carried_140 : decode cX10_carried 140 = .ok (.iload 5, 2) := by decide +kernel
theorem dX10_carried_142 : decode cX10_carried 142 = .ok (.ireturn, 1) := by decide +kernel
theorem dX10_carried_135 : decode cX10_carried 135 = .ok (.iload 4, 2) := by decide +kernel
theorem dX10_carried_137 : decode cX10_carried 137 = .ok (.goto 5, 3) := by decide +kernel
theorem dX10_carried_63 : decode cX10_carried 63 = .ok (.iload 6, 2) := by decide +kernel
theorem dX10_carried_65 : decode cX10_carried 65 = .ok (.aload_n 0, 1) := by decide +kernel
theorem dX10_carried_66 : decode cX10_carried 66 = .ok (.getfield 81, 3) := by decide +kernel
theorem dX10_carried_69 : decode cX10_carried 69 = .ok (.if_icmp .ge 61, 3) := by decide +kernel
theorem dX10_carried_72 : decode cX10_carried 72 = .ok (.iload_n 3, 1) := by decide +kernel
theorem dX10_carried_73 : decode cX10_carried 73 = .ok (.ifCond .ne 14, 3) := by decide +kernel
theorem dX10_carried_87 : decode cX10_carried 87 = .ok (.iload 4, 2) := by decide +kernel
theorem dX10_carried_89 : decode cX10_carried 89 = .ok (.istore 4, 2) := by decide +kernel
theorem dX10_carried_91 : decode cX10_carried 91 = .ok (.iload 6, 2) := by decide +kernel
theorem dX10_carried_93 : decode cX10_carried 93 = .ok (.iload_n 1, 1) := by decide +kernel
theorem dX10_carried_94 : decode cX10_carried 94 = .ok (.if_icmp .ne 7, 3) := by decide +kernel
theorem dX10_carried_101 : decode cX10_carried 101 = .ok (.iload 5, 2) := by decide +kernel
theorem dX10_carried_103 : decode cX10_carried 103 = .ok (.istore 5, 2) := by decide +kernel
theorem dX10_carried_105 : decode cX10_carried 105 = .ok (.aload_n 0, 1) := by decide +kernel
theorem dX10_carried_106 : decode cX10_carried 106 = .ok (.iconst 0, 1) := by decide +kernel
theorem dX10_carried_107 : decode cX10_carried 107 = .ok (.iload 6, 2) := by decide +kernel
theorem dX10_carried_109 : decode cX10_carried 109 = .ok (.invokevirtual 200, 3) := by decide +kernel
theorem dX10_carried_112 : decode cX10_carried 112 = .ok (.iconst (-1), 1) := by decide +kernel
theorem dX10_carried_113 : decode cX10_carried 113 = .ok (.if_icmp .ne 7, 3) := by decide +kernel
theorem dX10_carried_120 : decode cX10_carried 120 = .ok (.iload_n 3, 1) := by decide +kernel
theorem dX10_carried_121 : decode cX10_carried 121 = .ok (.iconst 2, 1) := by decide +kernel
theorem dX10_carried_122 : decode cX10_carried 122 = .ok (.idiv, 1) := by decide +kernel
theorem dX10_carried_123 : decode cX10_carried 123 = .ok (.istore_n 3, 1) := by decide +kernel
theorem dX10_carried_124 : decode cX10_carried 124 = .ok (.iinc 6 1, 3) := by decide +kernel
theorem dX10_carried_127 : decode cX10_carried 127 = .ok (.goto (-64), 3) := by decide +kernel
theorem dX10_carried_116 : decode cX10_carried 116 = .ok (.iload_n 3, 1) := by decide +kernel
theorem dX10_carried_117 : decode cX10_carried 117 = .ok (.goto 6, 3) := by decide +kernel
theorem dX10_carried_97 : decode cX10_carried 97 = .ok (.iload_n 3, 1) := by decide +kernel
theorem dX10_carried_98 : decode cX10_carried 98 = .ok (.goto 5, 3) := by decide +kernel
theorem dX10_carried_76 : decode cX10_carried 76 = .ok (.iload 4, 2) := by decide +kernel
theorem dX10_carried_78 : decode cX10_carried 78 = .ok (.iconst (-1), 1) := by decide +kernel
theorem dX10_carried_79 : decode cX10_carried 79 = .ok (.if_icmp .ne 8, 3) := by decide +kernel
theorem dX10_carried_82 : decode cX10_carried 82 = .ok (.iload 6, 2) := by decide +kernel
theorem dX10_carried_84 : decode cX10_carried 84 = .ok (.goto 5, 3) := by decide +kernel
theorem dX10_carried_28 : decode cX10_carried 28 = .ok (.ldc 233, 2) := by decide +kernel
theorem dX10_carried_30 : decode cX10_carried 30 = .ok (.ireturn, 1) := by decide +kernel
theorem dX10_carried_5 : decode cX10_carried 5 = .ok (.aload_n 0, 1) := by decide +kernel
theorem dX10_carried_6 : decode cX10_carried 6 = .ok (.iload_n 1, 1) := by decide +kernel
theorem dX10_carried_7 : decode cX10_carried 7 = .ok (.invokevirtual 196, 3) := by decide +kernel
theorem dX10_carried_10 : decode cX10_carried 10 = .ok (.ifCond .ne 6, 3) := by decide +kernel
theorem dX10_carried_13 : decode cX10_carried 13 = .ok (.ldc 199, 2) := by decide +kernel
theorem dX10_carried_15 : decode cX10_carried 15 = .ok (.ireturn, 1) := by decide +kernel
theorem dX10_midstream_0 : decode cX10_midstream 0 = .ok (.aload_n 0, 1) := by decide +kernel
theorem dX10_midstream_1 : decode cX10_midstream 1 = .ok (.iload_n 1, 1) := by decide +kernel
theorem dX10_midstream_2 : decode cX10_midstream 2 = .ok (.invokevirtual 204, 3) := by decide +kernel
theorem dX10_midstream_5 : decode cX10_midstream 5 = .ok (.ifCond .ne 6, 3) := by decide +kernel
theorem dX10_midstream_11 : decode cX10_midstream 11 = .ok (.iload_n 2, 1) := by decide +kernel
theorem dX10_midstream_12 : decode cX10_midstream 12 = .ok (.i2l, 1) := by decide +kernel
theorem dX10_midstream_13 : decode cX10_midstream 13 = .ok (.lconst 0, 1) := by decide +kernel
theorem dX10_midstream_14 : decode cX10_midstream 14 = .ok (.ldc2_w 245, 3) := by decide +kernel
theorem dX10_midstream_17 : decode cX10_midstream 17 = .ok (.invokestatic 84, 3) := by decide +kernel
theorem dX10_midstream_20 : decode cX10_midstream 20 = .ok (.ifCond .eq 15, 3) := by decide +kernel
theorem dX10_midstream_35 : decode cX10_midstream 35 = .ok (.ldc 93, 2) := by decide +kernel
theorem dX10_midstream_37 : decode cX10_midstream 37 = .ok (.ireturn, 1) := by decide +kernel
theorem dX10_midstream_23 : decode cX10_midstream 23 = .ok (.iload_n 3, 1) := by decide +kernel
theorem dX10_midstream_24 : decode cX10_midstream 24 = .ok (.i2l, 1) := by decide +kernel
theorem dX10_midstream_25 : decode cX10_midstream 25 = .ok (.lconst 0, 1) := by decide +kernel
theorem wd_661 : Cond.constantLong RX10 288 (1000) ∈ BG := BG_at 1163 (by decide +kernel) rfl
theorem dX10_midstream_26 : decode cX10_midstream 26 = .ok (.ldc2_w 288, 3) := by decide +kernel
theorem dX10_midstream_29 : decode cX10_midstream 29 = .ok (.invokestatic 84, 3) := by decide +kernel
theorem dX10_midstream_32 : decode cX10_midstream 32 = .ok (.ifCond .ne 6, 3) := by decide +kernel
theorem dX10_midstream_38 : decode cX10_midstream 38 = .ok (.iload_n 3, 1) := by decide +kernel
theorem dX10_midstream_39 : decode cX10_midstream 39 = .ok (.aload_n 0, 1) := by decide +kernel
theorem dX10_midstream_40 : decode cX10_midstream 40 = .ok (.getfield 7, 3) := by decide +kernel
theorem dX10_midstream_43 : decode cX10_midstream 43 = .ok (.iconst 0, 1) := by decide +kernel
theorem dX10_midstream_44 : decode cX10_midstream 44 = .ok (.iload_n 1, 1) := by decide +kernel
theorem dX10_midstream_45 : decode cX10_midstream 45 = .ok (.iadd, 1) := by decide +kernel
theorem dX10_midstream_46 : decode cX10_midstream 46 = .ok (.iaload, 1) := by decide +kernel
theorem dX10_midstream_47 : decode cX10_midstream 47 = .ok (.if_icmp .le 16, 3) := by decide +kernel
theorem dX10_midstream_63 : decode cX10_midstream 63 = .ok (.iconst 0, 1) := by decide +kernel
theorem dX10_midstream_64 : decode cX10_midstream 64 = .ok (.istore 4, 2) := by decide +kernel
theorem wd_662 : Cond.constantLong RX10 290 (1000000000) ∈ BG := BG_at 1164 (by decide +kernel) rfl
theorem dX10_midstream_66 : decode cX10_midstream 66 = .ok (.ldc2_w 290, 3) := by decide +kernel
theorem dX10_midstream_69 : decode cX10_midstream 69 = .ok (.lstore 5, 2) := by decide +kernel
theorem dX10_midstream_71 : decode cX10_midstream 71 = .ok (.iconst 0, 1) := by decide +kernel
theorem dX10_midstream_72 : decode cX10_midstream 72 = .ok (.istore 7, 2) := by decide +kernel
theorem dX10_midstream_102 : decode cX10_midstream 102 = .ok (.lload 5, 2) := by decide +kernel
theorem dX10_midstream_104 : decode cX10_midstream 104 = .ok (.l2i, 1) := by decide +kernel
theorem dX10_midstream_105 : decode cX10_midstream 105 = .ok (.ireturn, 1) := by decide +kernel
theorem dX10_midstream_74 : decode cX10_midstream 74 = .ok (.iload 7, 2) := by decide +kernel
theorem dX10_midstream_76 : decode cX10_midstream 76 = .ok (.iload_n 2, 1) := by decide +kernel
theorem dX10_midstream_77 : decode cX10_midstream 77 = .ok (.if_icmp .ge 25, 3) := by decide +kernel
theorem dX10_midstream_80 : decode cX10_midstream 80 = .ok (.lload 5, 2) := by decide +kernel
theorem dX10_midstream_82 : decode cX10_midstream 82 = .ok (.sipush 1000, 3) := by decide +kernel
theorem dX10_midstream_85 : decode cX10_midstream 85 = .ok (.iload 4, 2) := by decide +kernel
theorem dX10_midstream_87 : decode cX10_midstream 87 = .ok (.isub, 1) := by decide +kernel
theorem dX10_midstream_88 : decode cX10_midstream 88 = .ok (.i2l, 1) := by decide +kernel
theorem dX10_midstream_89 : decode cX10_midstream 89 = .ok (.lmul, 1) := by decide +kernel
theorem dX10_midstream_90 : decode cX10_midstream 90 = .ok (.ldc2_w 288, 3) := by decide +kernel
theorem dX10_midstream_93 : decode cX10_midstream 93 = .ok (.ldiv, 1) := by decide +kernel
theorem dX10_midstream_94 : decode cX10_midstream 94 = .ok (.lstore 5, 2) := by decide +kernel
theorem dX10_midstream_96 : decode cX10_midstream 96 = .ok (.iinc 7 1, 3) := by decide +kernel
theorem dX10_midstream_99 : decode cX10_midstream 99 = .ok (.goto (-25), 3) := by decide +kernel
theorem dX10_midstream_50 : decode cX10_midstream 50 = .ok (.iload_n 3, 1) := by decide +kernel
theorem dX10_midstream_51 : decode cX10_midstream 51 = .ok (.aload_n 0, 1) := by decide +kernel
theorem dX10_midstream_52 : decode cX10_midstream 52 = .ok (.getfield 7, 3) := by decide +kernel
theorem dX10_midstream_55 : decode cX10_midstream 55 = .ok (.iconst 0, 1) := by decide +kernel
theorem dX10_midstream_56 : decode cX10_midstream 56 = .ok (.iload_n 1, 1) := by decide +kernel
theorem dX10_midstream_57 : decode cX10_midstream 57 = .ok (.iadd, 1) := by decide +kernel
theorem dX10_midstream_58 : decode cX10_midstream 58 = .ok (.iaload, 1) := by decide +kernel
theorem dX10_midstream_59 : decode cX10_midstream 59 = .ok (.isub, 1) := by decide +kernel
theorem dX10_midstream_60 : decode cX10_midstream 60 = .ok (.goto 4, 3) := by decide +kernel
theorem dX10_midstream_8 : decode cX10_midstream 8 = .ok (.ldc 199, 2) := by decide +kernel
theorem dX10_midstream_10 : decode cX10_midstream 10 = .ok (.ireturn, 1) := by decide +kernel
theorem dX10_judge_0 : decode cX10_judge 0 = .ok (.iconst 0, 1) := by decide +kernel
theorem dX10_judge_1 : decode cX10_judge 1 = .ok (.istore_n 1, 1) := by decide +kernel
theorem dX10_judge_40 : decode cX10_judge 40 = .ok (.iconst (-1), 1) := by decide +kernel
theorem dX10_judge_41 : decode cX10_judge 41 = .ok (.ireturn, 1) := by decide +kernel
theorem dX10_judge_2 : decode cX10_judge 2 = .ok (.iload_n 1, 1) := by decide +kernel
theorem dX10_judge_3 : decode cX10_judge 3 = .ok (.aload_n 0, 1) := by decide +kernel
theorem dX10_judge_4 : decode cX10_judge 4 = .ok (.getfield 177, 3) := by decide +kernel
theorem dX10_judge_7 : decode cX10_judge 7 = .ok (.if_icmp .ge 33, 3) := by decide +kernel
theorem dX10_judge_10 : decode cX10_judge 10 = .ok (.aload_n 0, 1) := by decide +kernel
theorem dX10_judge_11 : decode cX10_judge 11 = .ok (.getfield 7, 3) := by decide +kernel
theorem dX10_judge_14 : decode cX10_judge 14 = .ok (.iconst 0, 1) := by decide +kernel
theorem dX10_judge_15 : decode cX10_judge 15 = .ok (.aload_n 0, 1) := by decide +kernel
theorem dX10_judge_16 : decode cX10_judge 16 = .ok (.getfield 69, 3) := by decide +kernel
theorem dX10_judge_19 : decode cX10_judge 19 = .ok (.iload_n 1, 1) := by decide +kernel
theorem dX10_judge_20 : decode cX10_judge 20 = .ok (.iaload, 1) := by decide +kernel
theorem dX10_judge_21 : decode cX10_judge 21 = .ok (.iadd, 1) := by decide +kernel
theorem dX10_judge_22 : decode cX10_judge 22 = .ok (.iaload, 1) := by decide +kernel
theorem dX10_judge_23 : decode cX10_judge 23 = .ok (.aload_n 0, 1) := by decide +kernel
theorem dX10_judge_24 : decode cX10_judge 24 = .ok (.getfield 72, 3) := by decide +kernel
theorem dX10_judge_27 : decode cX10_judge 27 = .ok (.iload_n 1, 1) := by decide +kernel
theorem dX10_judge_28 : decode cX10_judge 28 = .ok (.iaload, 1) := by decide +kernel
theorem dX10_judge_29 : decode cX10_judge 29 = .ok (.if_icmp .eq 5, 3) := by decide +kernel
theorem dX10_judge_34 : decode cX10_judge 34 = .ok (.iinc 1 1, 3) := by decide +kernel
theorem dX10_judge_37 : decode cX10_judge 37 = .ok (.goto (-35), 3) := by decide +kernel
theorem dX10_judge_32 : decode cX10_judge 32 = .ok (.iload_n 1, 1) := by decide +kernel
theorem dX10_judge_33 : decode cX10_judge 33 = .ok (.ireturn, 1) := by decide +kernel
theorem dX10_fleet_0 : decode cX10_fleet 0 = .ok (.iload_n 1, 1) := by decide +kernel
theorem dX10_fleet_1 : decode cX10_fleet 1 = .ok (.i2l, 1) := by decide +kernel
theorem dX10_fleet_2 : decode cX10_fleet 2 = .ok (.lconst 1, 1) := by decide +kernel
theorem wd_663 : Cond.constantLong RX10 292 (9) ∈ BG := BG_at 1169 (by decide +kernel) rfl
theorem dX10_fleet_3 : decode cX10_fleet 3 = .ok (.ldc2_w 292, 3) := by decide +kernel
theorem dX10_fleet_6 : decode cX10_fleet 6 = .ok (.invokestatic 84, 3) := by decide +kernel
theorem dX10_fleet_9 : decode cX10_fleet 9 = .ok (.ifCond .ne 6, 3) := by decide +kernel
theorem dX10_fleet_15 : decode cX10_fleet 15 = .ok (.iconst 0, 1) := by decide +kernel
theorem dX10_fleet_16 : decode cX10_fleet 16 = .ok (.istore_n 2, 1) := by decide +kernel
theorem dX10_fleet_17 : decode cX10_fleet 17 = .ok (.iconst 0, 1) := by decide +kernel
theorem dX10_fleet_18 : decode cX10_fleet 18 = .ok (.istore_n 3, 1) := by decide +kernel
theorem dX10_fleet_44 : decode cX10_fleet 44 = .ok (.iconst (-1), 1) := by decide +kernel
theorem dX10_fleet_45 : decode cX10_fleet 45 = .ok (.istore_n 3, 1) := by decide +kernel
theorem dX10_fleet_46 : decode cX10_fleet 46 = .ok (.iconst 0, 1) := by decide +kernel
theorem dX10_fleet_47 : decode cX10_fleet 47 = .ok (.istore 4, 2) := by decide +kernel
theorem dX10_fleet_125 : decode cX10_fleet 125 = .ok (.iload_n 3, 1) := by decide +kernel
theorem dX10_fleet_126 : decode cX10_fleet 126 = .ok (.ireturn, 1) := by decide +kernel
theorem dX10_fleet_49 : decode cX10_fleet 49 = .ok (.iload 4, 2) := by decide +kernel
theorem dX10_fleet_51 : decode cX10_fleet 51 = .ok (.iconst 1, 1) := by decide +kernel
theorem dX10_fleet_52 : decode cX10_fleet 52 = .ok (.aload_n 0, 1) := by decide +kernel
theorem dX10_fleet_53 : decode cX10_fleet 53 = .ok (.getfield 78, 3) := by decide +kernel
theorem dX10_fleet_56 : decode cX10_fleet 56 = .ok (.ishl, 1) := by decide +kernel
theorem dX10_fleet_57 : decode cX10_fleet 57 = .ok (.if_icmp .ge 68, 3) := by decide +kernel
theorem dX10_fleet_60 : decode cX10_fleet 60 = .ok (.iload 4, 2) := by decide +kernel
theorem dX10_fleet_62 : decode cX10_fleet 62 = .ok (.aload_n 0, 1) := by decide +kernel
theorem dX10_fleet_63 : decode cX10_fleet 63 = .ok (.getfield 7, 3) := by decide +kernel
theorem dX10_fleet_66 : decode cX10_fleet 66 = .ok (.bipush 18, 2) := by decide +kernel
theorem dX10_fleet_68 : decode cX10_fleet 68 = .ok (.iaload, 1) := by decide +kernel
theorem dX10_fleet_69 : decode cX10_fleet 69 = .ok (.iand, 1) := by decide +kernel
theorem dX10_fleet_70 : decode cX10_fleet 70 = .ok (.ifCond .ne 17, 3) := by decide +kernel
theorem dX10_fleet_87 : decode cX10_fleet 87 = .ok (.iconst 0, 1) := by decide +kernel
theorem dX10_fleet_88 : decode cX10_fleet 88 = .ok (.istore 5, 2) := by decide +kernel
theorem dX10_fleet_90 : decode cX10_fleet 90 = .ok (.iload 5, 2) := by decide +kernel
theorem dX10_fleet_92 : decode cX10_fleet 92 = .ok (.ifCond .eq 25, 3) := by decide +kernel
theorem dX10_fleet_117 : decode cX10_fleet 117 = .ok (.iload_n 3, 1) := by decide +kernel
theorem dX10_fleet_118 : decode cX10_fleet 118 = .ok (.istore_n 3, 1) := by decide +kernel
theorem dX10_fleet_119 : decode cX10_fleet 119 = .ok (.iinc 4 1, 3) := by decide +kernel
theorem dX10_fleet_122 : decode cX10_fleet 122 = .ok (.goto (-73), 3) := by decide +kernel
theorem dX10_fleet_73 : decode cX10_fleet 73 = .ok (.aload_n 0, 1) := by decide +kernel
theorem dX10_fleet_74 : decode cX10_fleet 74 = .ok (.iload 4, 2) := by decide +kernel
theorem dX10_fleet_76 : decode cX10_fleet 76 = .ok (.invokevirtual 186, 3) := by decide +kernel
theorem dX10_fleet_79 : decode cX10_fleet 79 = .ok (.iload_n 2, 1) := by decide +kernel
theorem dX10_fleet_80 : decode cX10_fleet 80 = .ok (.if_icmp .lt 7, 3) := by decide +kernel
theorem dX10_fleet_83 : decode cX10_fleet 83 = .ok (.iconst 1, 1) := by decide +kernel
theorem dX10_fleet_84 : decode cX10_fleet 84 = .ok (.goto 4, 3) := by decide +kernel
theorem dX10_fleet_95 : decode cX10_fleet 95 = .ok (.iload_n 3, 1) := by decide +kernel
theorem dX10_fleet_96 : decode cX10_fleet 96 = .ok (.iconst (-1), 1) := by decide +kernel
theorem dX10_fleet_97 : decode cX10_fleet 97 = .ok (.if_icmp .eq 15, 3) := by decide +kernel
theorem dX10_fleet_112 : decode cX10_fleet 112 = .ok (.iload 4, 2) := by decide +kernel
theorem dX10_fleet_114 : decode cX10_fleet 114 = .ok (.goto 4, 3) := by decide +kernel
theorem dX10_fleet_100 : decode cX10_fleet 100 = .ok (.iload 4, 2) := by decide +kernel
theorem dX10_fleet_102 : decode cX10_fleet 102 = .ok (.invokestatic 294, 3) := by decide +kernel
theorem wd_664 : Cond.methodLink RX10 294 yX10_ones ∈ BG := BG_at 1170 (by decide +kernel) rfl
theorem wd_665 : Cond.code yX10_ones cX10_ones 3 (some .int) ∈ BG := BG_at 1172 (by decide +kernel) rfl
theorem wd_666 : Cond.static yX10_ones ∈ BG := BG_at 1171 (by decide +kernel) rfl
theorem okS_X10_ones : okS yX10_ones cX10_ones 3 (some .int) 1 := ⟨⟨wd_665, wd_497, by decide +kernel⟩, wd_666⟩
theorem dX10_fleet_105 : decode cX10_fleet 105 = .ok (.iload_n 3, 1) := by decide +kernel
theorem dX10_fleet_106 : decode cX10_fleet 106 = .ok (.invokestatic 294, 3) := by decide +kernel
theorem dX10_fleet_109 : decode cX10_fleet 109 = .ok (.if_icmp .ge 8, 3) := by decide +kernel
theorem dX10_fleet_19 : decode cX10_fleet 19 = .ok (.iload_n 3, 1) := by decide +kernel
theorem dX10_fleet_20 : decode cX10_fleet 20 = .ok (.aload_n 0, 1) := by decide +kernel
theorem dX10_fleet_21 : decode cX10_fleet 21 = .ok (.getfield 81, 3) := by decide +kernel
theorem dX10_fleet_24 : decode cX10_fleet 24 = .ok (.if_icmp .ge 20, 3) := by decide +kernel
theorem dX10_fleet_27 : decode cX10_fleet 27 = .ok (.iload_n 2, 1) := by decide +kernel
theorem dX10_fleet_28 : decode cX10_fleet 28 = .ok (.iload_n 1, 1) := by decide +kernel
theorem dX10_fleet_29 : decode cX10_fleet 29 = .ok (.aload_n 0, 1) := by decide +kernel
theorem dX10_fleet_30 : decode cX10_fleet 30 = .ok (.getfield 21, 3) := by decide +kernel
theorem dX10_fleet_33 : decode cX10_fleet 33 = .ok (.iload_n 3, 1) := by decide +kernel
theorem dX10_fleet_34 : decode cX10_fleet 34 = .ok (.iaload, 1) := by decide +kernel
theorem dX10_fleet_35 : decode cX10_fleet 35 = .ok (.imul, 1) := by decide +kernel
theorem dX10_fleet_36 : decode cX10_fleet 36 = .ok (.iadd, 1) := by decide +kernel
theorem dX10_fleet_37 : decode cX10_fleet 37 = .ok (.istore_n 2, 1) := by decide +kernel
theorem dX10_fleet_38 : decode cX10_fleet 38 = .ok (.iinc 3 1, 3) := by decide +kernel
theorem dX10_fleet_41 : decode cX10_fleet 41 = .ok (.goto (-22), 3) := by decide +kernel
theorem dX10_fleet_12 : decode cX10_fleet 12 = .ok (.ldc 93, 2) := by decide +kernel
theorem dX10_fleet_14 : decode cX10_fleet 14 = .ok (.ireturn, 1) := by decide +kernel
noncomputable def f_m_opens (G : Nat → Int32) (f0 : Nat → Int32) (f10 : Nat → Int32) (f8 : Nat → Int32) (c_ : Int32) (b_ : Int32) (t_ : Int32) : Int32 × (Nat → Int32) := (if ((f_m_quarrels G f10 c_ t_ (f0 ((0 + c_) : Int32).toNatClampNeg) (f8 (b_ : Int32).toNatClampNeg)) 34) = 0 then (0, (f_m_quarrels G f10 c_ t_ (f0 ((0 + c_) : Int32).toNatClampNeg) (f8 (b_ : Int32).toNatClampNeg))) else (if (f_m_isDone f0 c_) = 0 then (1, (f_m_quarrels G f10 c_ t_ (f0 ((0 + c_) : Int32).toNatClampNeg) (f8 (b_ : Int32).toNatClampNeg))) else (0, (f_m_quarrels G f10 c_ t_ (f0 ((0 + c_) : Int32).toNatClampNeg) (f8 (b_ : Int32).toNatClampNeg)))))
def S_m_opens (G : Nat → Int32) (f0 : Nat → Int32) (f10 : Nat → Int32) (f8 : Nat → Int32) (c_ : Int32) (b_ : Int32) (t_ : Int32) : Prop := (vp_in (0 + c_) 1302 ∧ (vp_in b_ 6 ∧ ((S_m_quarrels G f10 c_ t_ (f0 ((0 + c_) : Int32).toNatClampNeg) (f8 (b_ : Int32).toNatClampNeg)) ∧ ((((f_m_quarrels G f10 c_ t_ (f0 ((0 + c_) : Int32).toNatClampNeg) (f8 (b_ : Int32).toNatClampNeg)) 34) = 0 → True) ∧ (¬ ((f_m_quarrels G f10 c_ t_ (f0 ((0 + c_) : Int32).toNatClampNeg) (f8 (b_ : Int32).toNatClampNeg)) 34) = 0 → ((S_m_isDone f0 c_) ∧ (((f_m_isDone f0 c_) = 0 → True) ∧ (¬ (f_m_isDone f0 c_) = 0 → True))))))))
def rm_m_opens : Room := { frames := 2, cells := 0, slots := 0, locals := 50 }
set_option maxHeartbeats 4000000 in
set_option maxRecDepth 100000 in
theorem m_opens {l : Launch} {D : va_G} {cI cZ : ClassId} {sz : Nat} (Rf : Nat → Nat) (h : Nat) (G : Nat → Int32) (f0 : Nat → Int32) (f10 : Nat → Int32) (f8 : Nat → Int32) (c_ : Int32) (b_ : Int32) (t_ : Int32) (hF : S_m_opens G f0 f10 f8 c_ b_ t_) : KI l yX10_opens cX10_opens 4 (some .boolean) rm_m_opens D cI cZ [.ref h, .int c_, .int b_, .int t_] sz [(h, .inr (10, ML G Rf)), ((Rf 0), .inl (cI, 1302, .inl f0)), ((Rf 10), .inl (cI, 30, .inl f10)), ((Rf 8), .inl (cI, 6, .inl f8))] (fun (r : Int32) (u : (Nat → Int32)) => (r, u) = f_m_opens G f0 f10 f8 c_ b_ t_) (fun (u : (Nat → Int32)) => [(h, .inr (10, ML u Rf)), ((Rf 0), .inl (cI, 1302, .inl f0)), ((Rf 10), .inl (cI, 30, .inl f10)), ((Rf 8), .inl (cI, 6, .inl f8))]) := by
  refine KI.go rfl (Nat.le_of_ble_eq_true rfl) ?_
  intro p e s m args below meth c ls A Q hx hb hml hts hown hin hP hK hD hS hA hN hl hret
  have hl : lv_has ls 4 [(0, .ref h), (1, .int c_), (2, .int b_), (3, .int t_)] := hl
  rw [S_m_opens] at hF
  obtain ⟨RES, hE⟩ : ∃ xRES, f_m_opens G f0 f10 f8 c_ b_ t_ = xRES := ⟨_, rfl⟩
  rw [hE] at hret
  rw [f_m_opens] at hE
  refine lv_aload_n hx hb dX10_opens_0 rfl (lv_at hl 0 rfl) ?_
  refine lv_iload_n hx hb dX10_opens_1 rfl (lv_at hl 1 rfl) ?_
  refine lv_iload_n hx hb dX10_opens_2 rfl (lv_at hl 3 rfl) ?_
  refine lv_aload_n hx hb dX10_opens_3 rfl (lv_at hl 0 rfl) ?_
  refine va_get (D := D) (ci := 10) (v := .ref (Rf 0)) (C := RX10) (T := TX10) (N := 45) hx hb hts iX10 hown hK hP 0 rfl rfl 0 (by decide) (hts _ wd_491) (fun _ h9 => h9) rfl dX10_opens_4 ?_
  refine lv_iconst (v := 0) hx hb dX10_opens_7 (by decide) ?_
  refine lv_iload_n hx hb dX10_opens_8 rfl (lv_at hl 1 rfl) ?_
  refine lv_iadd hx hb dX10_opens_9 ?_
  obtain ⟨hv_1, hF⟩ := hF
  refine va_iald hx hb hK hP 1 0 rfl rfl hv_1 dX10_opens_10 ?_
  refine lv_aload_n hx hb dX10_opens_11 rfl (lv_at hl 0 rfl) ?_
  refine va_get (D := D) (ci := 10) (v := .ref (Rf 8)) (C := RX10) (T := TX10) (N := 45) hx hb hts iX10 hown hK hP 0 rfl rfl 8 (by decide) (hts _ wd_579) (fun _ h9 => h9) rfl dX10_opens_12 ?_
  refine lv_iload_n hx hb dX10_opens_15 rfl (lv_at hl 2 rfl) ?_
  obtain ⟨hv_2, hF⟩ := hF
  refine va_iald hx hb hK hP 3 0 rfl rfl hv_2 dX10_opens_16 ?_
  obtain ⟨hs_3, hF⟩ := hF
  refine cVv (wr := [((Rf 0), .inl (cI, 1302, .inl f0)), ((Rf 8), .inl (cI, 6, .inl f8))]) (rest := []) (m_quarrels Rf h G f10 c_ t_ (f0 ((0 + c_) : Int32).toNatClampNeg) (f8 (b_ : Int32).toNatClampNeg) hs_3) okV_X10_quarrels wd_643 hx hb hml hown hts hK hP hD hS hA hN hl.1 [0, 2] [1, 3] rfl rfl rfl rfl (by decide) rfl rfl rfl (Nat.le_of_ble_eq_true rfl) (Nat.le_of_ble_eq_true rfl) (Nat.le_of_ble_eq_true rfl) (Nat.le_of_ble_eq_true rfl) (Nat.le_of_ble_eq_true rfl) dX10_opens_17 (fun u_4 H locs hw_u_4 hP hD hS => ?_)
  replace hw_u_4 : u_4 = (f_m_quarrels G f10 c_ t_ (f0 ((0 + c_) : Int32).toNatClampNeg) (f8 (b_ : Int32).toNatClampNeg)) := hw_u_4
  subst hw_u_4
  have hP : va_P D classes [((Rf 0), .inl (cI, 1302, .inl f0)), ((Rf 8), .inl (cI, 6, .inl f8)), (h, .inr (10, ML (f_m_quarrels G f10 c_ t_ (f0 ((0 + c_) : Int32).toNatClampNeg) (f8 (b_ : Int32).toNatClampNeg)) Rf)), ((Rf 10), .inl (cI, 30, .inl f10))] H := hP
  have hD : va_D A [((Rf 0), .inl (cI, 1302, .inl f0)), ((Rf 8), .inl (cI, 6, .inl f8)), (h, .inr (10, ML (f_m_quarrels G f10 c_ t_ (f0 ((0 + c_) : Int32).toNatClampNeg) (f8 (b_ : Int32).toNatClampNeg)) Rf)), ((Rf 10), .inl (cI, 30, .inl f10))] := hD
  refine lv_aload_n hx hb dX10_opens_20 rfl (lv_at hl 0 rfl) ?_
  refine va_get (D := D) (ci := 10) (v := .int ((f_m_quarrels G f10 c_ t_ (f0 ((0 + c_) : Int32).toNatClampNeg) (f8 (b_ : Int32).toNatClampNeg)) 34)) (C := RX10) (T := TX10) (N := 45) hx hb hts iX10 hown hK hP 2 rfl rfl 34 (by decide) (hts _ wd_555) (fun _ h9 => h9) rfl dX10_opens_21 ?_
  refine lv_if_eq (tgt := 39) hx hb dX10_opens_24 (by decide) (fun c_6 => ?_) (fun c_6 => ?_)
  · replace hF := hF.1 c_6
    rw [if_pos c_6] at hE
    refine lv_iconst (v := 0) hx hb dX10_opens_39 (by decide) ?_
    exact hret 0 (f_m_quarrels G f10 c_ t_ (f0 ((0 + c_) : Int32).toNatClampNeg) (f8 (b_ : Int32).toNatClampNeg)) _ _ _ _ dX10_opens_40 rfl hE (cutP (isC := [2, 0, 3, 1]) hP rfl) (cutD (isC := [2, 0, 3, 1]) hD rfl rfl) hS
  · replace hF := hF.2 c_6
    rw [if_neg c_6] at hE
    refine lv_aload_n hx hb dX10_opens_27 rfl (lv_at hl 0 rfl) ?_
    refine lv_iload_n hx hb dX10_opens_28 rfl (lv_at hl 1 rfl) ?_
    obtain ⟨hs_7, hF⟩ := hF
    refine cVi (wr := [((Rf 8), .inl (cI, 6, .inl f8)), ((Rf 10), .inl (cI, 30, .inl f10))]) (rest := []) (m_isDone Rf h (f_m_quarrels G f10 c_ t_ (f0 ((0 + c_) : Int32).toNatClampNeg) (f8 (b_ : Int32).toNatClampNeg)) f0 c_ hs_7) okV_X10_isDone wd_567 hx hb hml hown hts hK hP hD hS hA hN hl.1 [2, 0] [1, 3] rfl rfl rfl rfl (by decide) rfl rfl rfl (Nat.le_of_ble_eq_true rfl) (Nat.le_of_ble_eq_true rfl) (Nat.le_of_ble_eq_true rfl) (Nat.le_of_ble_eq_true rfl) (Nat.le_of_ble_eq_true rfl) dX10_opens_29 (fun r_9 u_8 H locs hw_u_8 hP hD hS => ?_)
    replace hw_u_8 : r_9 = (f_m_isDone f0 c_) := hw_u_8
    rw [hw_u_8]
    clear hw_u_8
    have hP : va_P D classes [((Rf 8), .inl (cI, 6, .inl f8)), ((Rf 10), .inl (cI, 30, .inl f10)), (h, .inr (10, ML (f_m_quarrels G f10 c_ t_ (f0 ((0 + c_) : Int32).toNatClampNeg) (f8 (b_ : Int32).toNatClampNeg)) Rf)), ((Rf 0), .inl (cI, 1302, .inl f0))] H := hP
    have hD : va_D A [((Rf 8), .inl (cI, 6, .inl f8)), ((Rf 10), .inl (cI, 30, .inl f10)), (h, .inr (10, ML (f_m_quarrels G f10 c_ t_ (f0 ((0 + c_) : Int32).toNatClampNeg) (f8 (b_ : Int32).toNatClampNeg)) Rf)), ((Rf 0), .inl (cI, 1302, .inl f0))] := hD
    refine lv_if_ne (tgt := 39) hx hb dX10_opens_32 (by decide) (fun c_10 => ?_) (fun c_10 => ?_)
    · replace hF := hF.2 c_10
      rw [if_neg c_10] at hE
      refine lv_iconst (v := 0) hx hb dX10_opens_39 (by decide) ?_
      exact hret 0 (f_m_quarrels G f10 c_ t_ (f0 ((0 + c_) : Int32).toNatClampNeg) (f8 (b_ : Int32).toNatClampNeg)) _ _ _ _ dX10_opens_40 rfl hE (cutP (isC := [2, 3, 1, 0]) hP rfl) (cutD (isC := [2, 3, 1, 0]) hD rfl rfl) hS
    · replace hF := hF.1 c_10
      rw [if_pos c_10] at hE
      refine lv_iconst (v := 1) hx hb dX10_opens_35 (by decide) ?_
      refine lv_goto (tgt := 40) hx hb dX10_opens_36 (by decide) ?_
      exact hret 1 (f_m_quarrels G f10 c_ t_ (f0 ((0 + c_) : Int32).toNatClampNeg) (f8 (b_ : Int32).toNatClampNeg)) _ _ _ _ dX10_opens_40 rfl hE (cutP (isC := [2, 3, 1, 0]) hP rfl) (cutD (isC := [2, 3, 1, 0]) hD rfl rfl) hS
noncomputable def f_m_could (G : Nat → Int32) (f0 : Nat → Int32) (f10 : Nat → Int32) (f8 : Nat → Int32) (c_ : Int32) (b_ : Int32) (t_ : Int32) (w_ : Int32) : Int32 × (Nat → Int32) := (if (f_m_isCouple G c_) = 0 then ((-1000000001), G) else (if (f_m_isBridge G b_) = 0 then ((-1000000001), G) else (if (f_m_isTheme G t_) = 0 then ((-1000000001), G) else (if (f_m_in w_.toInt64 0 1) = 0 then ((-1000000002), G) else (match (f_m_opens G f0 f10 f8 c_ b_ t_) with | (r_19, u_18) => (if r_19 = 0 then ((-1), u_18) else (if w_ = 0 then ((u_18 32), u_18) else (((f0 ((0 + c_) : Int32).toNatClampNeg) - (u_18 33)), u_18))))))))
def S_m_could (G : Nat → Int32) (f0 : Nat → Int32) (f10 : Nat → Int32) (f8 : Nat → Int32) (c_ : Int32) (b_ : Int32) (t_ : Int32) (w_ : Int32) : Prop := ((S_m_isCouple G c_) ∧ (((f_m_isCouple G c_) = 0 → True) ∧ (¬ (f_m_isCouple G c_) = 0 → ((S_m_isBridge G b_) ∧ (((f_m_isBridge G b_) = 0 → True) ∧ (¬ (f_m_isBridge G b_) = 0 → ((S_m_isTheme G t_) ∧ (((f_m_isTheme G t_) = 0 → True) ∧ (¬ (f_m_isTheme G t_) = 0 → ((S_m_in w_.toInt64 0 1) ∧ (((f_m_in w_.toInt64 0 1) = 0 → True) ∧ (¬ (f_m_in w_.toInt64 0 1) = 0 → ((S_m_opens G f0 f10 f8 c_ b_ t_) ∧ (∀ (r_19 : Int32) (u_18 : (Nat → Int32)), (r_19, u_18) = (f_m_opens G f0 f10 f8 c_ b_ t_) → ((r_19 = 0 → True) ∧ (¬ r_19 = 0 → ((w_ = 0 → True) ∧ (¬ w_ = 0 → (vp_in (0 + c_) 1302 ∧ True)))))))))))))))))))
def rm_m_could : Room := { frames := 3, cells := 0, slots := 0, locals := 73 }
set_option maxHeartbeats 4000000 in
set_option maxRecDepth 100000 in
theorem m_could {l : Launch} {D : va_G} {cI cZ : ClassId} {sz : Nat} (Rf : Nat → Nat) (h : Nat) (G : Nat → Int32) (f0 : Nat → Int32) (f10 : Nat → Int32) (f8 : Nat → Int32) (c_ : Int32) (b_ : Int32) (t_ : Int32) (w_ : Int32) (hF : S_m_could G f0 f10 f8 c_ b_ t_ w_) : KI l yX10_could cX10_could 5 (some .int) rm_m_could D cI cZ [.ref h, .int c_, .int b_, .int t_, .int w_] sz [(h, .inr (10, ML G Rf)), ((Rf 0), .inl (cI, 1302, .inl f0)), ((Rf 10), .inl (cI, 30, .inl f10)), ((Rf 8), .inl (cI, 6, .inl f8))] (fun (r : Int32) (u : (Nat → Int32)) => (r, u) = f_m_could G f0 f10 f8 c_ b_ t_ w_) (fun (u : (Nat → Int32)) => [(h, .inr (10, ML u Rf)), ((Rf 0), .inl (cI, 1302, .inl f0)), ((Rf 10), .inl (cI, 30, .inl f10)), ((Rf 8), .inl (cI, 6, .inl f8))]) := by
  refine KI.go rfl (Nat.le_of_ble_eq_true rfl) ?_
  intro p e s m args below meth c ls A Q hx hb hml hts hown hin hP hK hD hS hA hN hl hret
  have hl : lv_has ls 5 [(0, .ref h), (1, .int c_), (2, .int b_), (3, .int t_), (4, .int w_)] := hl
  rw [S_m_could] at hF
  obtain ⟨RES, hE⟩ : ∃ xRES, f_m_could G f0 f10 f8 c_ b_ t_ w_ = xRES := ⟨_, rfl⟩
  rw [hE] at hret
  rw [f_m_could] at hE
  refine lv_aload_n hx hb dX10_could_0 rfl (lv_at hl 0 rfl) ?_
  refine lv_iload_n hx hb dX10_could_1 rfl (lv_at hl 1 rfl) ?_
  obtain ⟨hs_1, hF⟩ := hF
  refine cVi (wr := [((Rf 0), .inl (cI, 1302, .inl f0)), ((Rf 10), .inl (cI, 30, .inl f10)), ((Rf 8), .inl (cI, 6, .inl f8))]) (rest := []) (m_isCouple Rf h G c_ hs_1) okV_X10_isCouple wd_581 hx hb hml hown hts hK hP hD hS hA hN hl.1 [0] [1, 2, 3] rfl rfl rfl rfl (by decide) rfl rfl rfl (Nat.le_of_ble_eq_true rfl) (Nat.le_of_ble_eq_true rfl) (Nat.le_of_ble_eq_true rfl) (Nat.le_of_ble_eq_true rfl) (Nat.le_of_ble_eq_true rfl) dX10_could_2 (fun r_3 u_2 H locs hw_u_2 hP hD hS => ?_)
  replace hw_u_2 : r_3 = (f_m_isCouple G c_) := hw_u_2
  rw [hw_u_2]
  clear hw_u_2
  have hP : va_P D classes [((Rf 0), .inl (cI, 1302, .inl f0)), ((Rf 10), .inl (cI, 30, .inl f10)), ((Rf 8), .inl (cI, 6, .inl f8)), (h, .inr (10, ML G Rf))] H := hP
  have hD : va_D A [((Rf 0), .inl (cI, 1302, .inl f0)), ((Rf 10), .inl (cI, 30, .inl f10)), ((Rf 8), .inl (cI, 6, .inl f8)), (h, .inr (10, ML G Rf))] := hD
  refine lv_if_eq (tgt := 24) hx hb dX10_could_5 (by decide) (fun c_4 => ?_) (fun c_4 => ?_)
  · replace hF := hF.1 c_4
    rw [if_pos c_4] at hE
    refine lv_ldc (v := (-1000000001)) hx hb hown (hts _ wd_580) dX10_could_24 ?_
    exact hret (-1000000001) G _ _ _ _ dX10_could_26 rfl hE (cutP (isC := [3, 0, 1, 2]) hP rfl) (cutD (isC := [3, 0, 1, 2]) hD rfl rfl) hS
  · replace hF := hF.2 c_4
    rw [if_neg c_4] at hE
    refine lv_aload_n hx hb dX10_could_8 rfl (lv_at hl 0 rfl) ?_
    refine lv_iload_n hx hb dX10_could_9 rfl (lv_at hl 2 rfl) ?_
    obtain ⟨hs_5, hF⟩ := hF
    refine cVi (wr := [((Rf 0), .inl (cI, 1302, .inl f0)), ((Rf 10), .inl (cI, 30, .inl f10)), ((Rf 8), .inl (cI, 6, .inl f8))]) (rest := []) (m_isBridge Rf h G b_ hs_5) okV_X10_isBridge wd_571 hx hb hml hown hts hK hP hD hS hA hN hl.1 [3] [0, 1, 2] rfl rfl rfl rfl (by decide) rfl rfl rfl (Nat.le_of_ble_eq_true rfl) (Nat.le_of_ble_eq_true rfl) (Nat.le_of_ble_eq_true rfl) (Nat.le_of_ble_eq_true rfl) (Nat.le_of_ble_eq_true rfl) dX10_could_10 (fun r_7 u_6 H locs hw_u_6 hP hD hS => ?_)
    replace hw_u_6 : r_7 = (f_m_isBridge G b_) := hw_u_6
    rw [hw_u_6]
    clear hw_u_6
    have hP : va_P D classes [((Rf 0), .inl (cI, 1302, .inl f0)), ((Rf 10), .inl (cI, 30, .inl f10)), ((Rf 8), .inl (cI, 6, .inl f8)), (h, .inr (10, ML G Rf))] H := hP
    have hD : va_D A [((Rf 0), .inl (cI, 1302, .inl f0)), ((Rf 10), .inl (cI, 30, .inl f10)), ((Rf 8), .inl (cI, 6, .inl f8)), (h, .inr (10, ML G Rf))] := hD
    refine lv_if_eq (tgt := 24) hx hb dX10_could_13 (by decide) (fun c_8 => ?_) (fun c_8 => ?_)
    · replace hF := hF.1 c_8
      rw [if_pos c_8] at hE
      refine lv_ldc (v := (-1000000001)) hx hb hown (hts _ wd_580) dX10_could_24 ?_
      exact hret (-1000000001) G _ _ _ _ dX10_could_26 rfl hE (cutP (isC := [3, 0, 1, 2]) hP rfl) (cutD (isC := [3, 0, 1, 2]) hD rfl rfl) hS
    · replace hF := hF.2 c_8
      rw [if_neg c_8] at hE
      refine lv_aload_n hx hb dX10_could_16 rfl (lv_at hl 0 rfl) ?_
      refine lv_iload_n hx hb dX10_could_17 rfl (lv_at hl 3 rfl) ?_
      obtain ⟨hs_9, hF⟩ := hF
      refine cVi (wr := [((Rf 0), .inl (cI, 1302, .inl f0)), ((Rf 10), .inl (cI, 30, .inl f10)), ((Rf 8), .inl (cI, 6, .inl f8))]) (rest := []) (m_isTheme Rf h G t_ hs_9) okV_X10_isTheme wd_585 hx hb hml hown hts hK hP hD hS hA hN hl.1 [3] [0, 1, 2] rfl rfl rfl rfl (by decide) rfl rfl rfl (Nat.le_of_ble_eq_true rfl) (Nat.le_of_ble_eq_true rfl) (Nat.le_of_ble_eq_true rfl) (Nat.le_of_ble_eq_true rfl) (Nat.le_of_ble_eq_true rfl) dX10_could_18 (fun r_11 u_10 H locs hw_u_10 hP hD hS => ?_)
      replace hw_u_10 : r_11 = (f_m_isTheme G t_) := hw_u_10
      rw [hw_u_10]
      clear hw_u_10
      have hP : va_P D classes [((Rf 0), .inl (cI, 1302, .inl f0)), ((Rf 10), .inl (cI, 30, .inl f10)), ((Rf 8), .inl (cI, 6, .inl f8)), (h, .inr (10, ML G Rf))] H := hP
      have hD : va_D A [((Rf 0), .inl (cI, 1302, .inl f0)), ((Rf 10), .inl (cI, 30, .inl f10)), ((Rf 8), .inl (cI, 6, .inl f8)), (h, .inr (10, ML G Rf))] := hD
      refine lv_if_ne (tgt := 27) hx hb dX10_could_21 (by decide) (fun c_12 => ?_) (fun c_12 => ?_)
      · replace hF := hF.2 c_12
        rw [if_neg c_12] at hE
        refine lv_iload hx hb dX10_could_27 (lv_at hl 4 rfl) ?_
        refine lv_i2l (v := w_.toInt64) hx hb dX10_could_29 rfl ?_
        refine lv_lconst (v := 0) hx hb dX10_could_30 (by decide) ?_
        refine lv_lconst (v := 1) hx hb dX10_could_31 (by decide) ?_
        obtain ⟨hs_13, hF⟩ := hF
        refine cSi (wr := [((Rf 0), .inl (cI, 1302, .inl f0)), ((Rf 10), .inl (cI, 30, .inl f10)), ((Rf 8), .inl (cI, 6, .inl f8)), (h, .inr (10, ML G Rf))]) (rest := []) (m_in w_.toInt64 0 1 hs_13) okS_X10_in wd_495 hx hb hml hown hts hK hP hD hS hA hN hl.1 [] [0, 1, 2, 3] rfl rfl rfl rfl (by decide) rfl (Nat.le_of_ble_eq_true rfl) (Nat.le_of_ble_eq_true rfl) (Nat.le_of_ble_eq_true rfl) (Nat.le_of_ble_eq_true rfl) (Nat.le_of_ble_eq_true rfl) dX10_could_32 (fun r_15 u_14 H locs hw_u_14 hP hD hS => ?_)
        replace hw_u_14 : r_15 = (f_m_in w_.toInt64 0 1) := hw_u_14
        rw [hw_u_14]
        clear hw_u_14
        have hP : va_P D classes [((Rf 0), .inl (cI, 1302, .inl f0)), ((Rf 10), .inl (cI, 30, .inl f10)), ((Rf 8), .inl (cI, 6, .inl f8)), (h, .inr (10, ML G Rf))] H := hP
        have hD : va_D A [((Rf 0), .inl (cI, 1302, .inl f0)), ((Rf 10), .inl (cI, 30, .inl f10)), ((Rf 8), .inl (cI, 6, .inl f8)), (h, .inr (10, ML G Rf))] := hD
        refine lv_if_ne (tgt := 41) hx hb dX10_could_35 (by decide) (fun c_16 => ?_) (fun c_16 => ?_)
        · replace hF := hF.2 c_16
          rw [if_neg c_16] at hE
          refine lv_aload_n hx hb dX10_could_41 rfl (lv_at hl 0 rfl) ?_
          refine lv_iload_n hx hb dX10_could_42 rfl (lv_at hl 1 rfl) ?_
          refine lv_iload_n hx hb dX10_could_43 rfl (lv_at hl 2 rfl) ?_
          refine lv_iload_n hx hb dX10_could_44 rfl (lv_at hl 3 rfl) ?_
          obtain ⟨hs_17, hF⟩ := hF
          refine cVi (wr := []) (rest := []) (m_opens Rf h G f0 f10 f8 c_ b_ t_ hs_17) okV_X10_opens wd_647 hx hb hml hown hts hK hP hD hS hA hN hl.1 [3, 0, 1, 2] [] rfl rfl rfl rfl (by decide) rfl rfl rfl (Nat.le_of_ble_eq_true rfl) (Nat.le_of_ble_eq_true rfl) (Nat.le_of_ble_eq_true rfl) (Nat.le_of_ble_eq_true rfl) (Nat.le_of_ble_eq_true rfl) dX10_could_45 (fun r_19 u_18 H locs hw_u_18 hP hD hS => ?_)
          replace hw_u_18 : (r_19, u_18) = (f_m_opens G f0 f10 f8 c_ b_ t_) := hw_u_18
          replace hF := hF r_19 u_18 hw_u_18
          rw [← hw_u_18] at hE
          replace hE : ((if r_19 = 0 then ((-1), u_18) else (if w_ = 0 then ((u_18 32), u_18) else (((f0 ((0 + c_) : Int32).toNatClampNeg) - (u_18 33)), u_18))) : Int32 × (Nat → Int32)) = RES := hE
          have hP : va_P D classes [(h, .inr (10, ML u_18 Rf)), ((Rf 0), .inl (cI, 1302, .inl f0)), ((Rf 10), .inl (cI, 30, .inl f10)), ((Rf 8), .inl (cI, 6, .inl f8))] H := hP
          have hD : va_D A [(h, .inr (10, ML u_18 Rf)), ((Rf 0), .inl (cI, 1302, .inl f0)), ((Rf 10), .inl (cI, 30, .inl f10)), ((Rf 8), .inl (cI, 6, .inl f8))] := hD
          refine lv_if_ne (tgt := 55) hx hb dX10_could_48 (by decide) (fun c_20 => ?_) (fun c_20 => ?_)
          · replace hF := hF.2 c_20
            rw [if_neg c_20] at hE
            refine lv_iload hx hb dX10_could_55 (lv_at hl 4 rfl) ?_
            refine lv_if_ne (tgt := 67) hx hb dX10_could_57 (by decide) (fun c_21 => ?_) (fun c_21 => ?_)
            · replace hF := hF.2 c_21
              rw [if_neg c_21] at hE
              refine lv_aload_n hx hb dX10_could_67 rfl (lv_at hl 0 rfl) ?_
              refine va_get (D := D) (ci := 10) (v := .ref (Rf 0)) (C := RX10) (T := TX10) (N := 45) hx hb hts iX10 hown hK hP 0 rfl rfl 0 (by decide) (hts _ wd_491) (fun _ h9 => h9) rfl dX10_could_68 ?_
              refine lv_iconst (v := 0) hx hb dX10_could_71 (by decide) ?_
              refine lv_iload_n hx hb dX10_could_72 rfl (lv_at hl 1 rfl) ?_
              refine lv_iadd hx hb dX10_could_73 ?_
              obtain ⟨hv_22, hF⟩ := hF
              refine va_iald hx hb hK hP 1 0 rfl rfl hv_22 dX10_could_74 ?_
              refine lv_aload_n hx hb dX10_could_75 rfl (lv_at hl 0 rfl) ?_
              refine va_get (D := D) (ci := 10) (v := .int (u_18 33)) (C := RX10) (T := TX10) (N := 45) hx hb hts iX10 hown hK hP 0 rfl rfl 33 (by decide) (hts _ wd_550) (fun _ h9 => h9) rfl dX10_could_76 ?_
              refine lv_isub hx hb dX10_could_79 ?_
              exact hret ((f0 ((0 + c_) : Int32).toNatClampNeg) - (u_18 33)) u_18 _ _ _ _ dX10_could_80 rfl hE hP hD hS
            · replace hF := hF.1 c_21
              rw [if_pos c_21] at hE
              refine lv_aload_n hx hb dX10_could_60 rfl (lv_at hl 0 rfl) ?_
              refine va_get (D := D) (ci := 10) (v := .int (u_18 32)) (C := RX10) (T := TX10) (N := 45) hx hb hts iX10 hown hK hP 0 rfl rfl 32 (by decide) (hts _ wd_549) (fun _ h9 => h9) rfl dX10_could_61 ?_
              refine lv_goto (tgt := 80) hx hb dX10_could_64 (by decide) ?_
              exact hret (u_18 32) u_18 _ _ _ _ dX10_could_80 rfl hE hP hD hS
          · replace hF := hF.1 c_20
            rw [if_pos c_20] at hE
            subst c_20
            refine lv_iconst (v := (-1)) hx hb dX10_could_51 (by decide) ?_
            refine lv_goto (tgt := 80) hx hb dX10_could_52 (by decide) ?_
            exact hret (-1) u_18 _ _ _ _ dX10_could_80 rfl hE hP hD hS
        · replace hF := hF.1 c_16
          rw [if_pos c_16] at hE
          refine lv_ldc (v := (-1000000002)) hx hb hown (hts _ wd_507) dX10_could_38 ?_
          exact hret (-1000000002) G _ _ _ _ dX10_could_40 rfl hE (cutP (isC := [3, 0, 1, 2]) hP rfl) (cutD (isC := [3, 0, 1, 2]) hD rfl rfl) hS
      · replace hF := hF.1 c_12
        rw [if_pos c_12] at hE
        refine lv_ldc (v := (-1000000001)) hx hb hown (hts _ wd_580) dX10_could_24 ?_
        exact hret (-1000000001) G _ _ _ _ dX10_could_26 rfl hE (cutP (isC := [3, 0, 1, 2]) hP rfl) (cutD (isC := [3, 0, 1, 2]) hD rfl rfl) hS
noncomputable def f_m_lastsOf (G : Nat → Int32) (f0 : Nat → Int32) (f10 : Nat → Int32) (c_ : Int32) (t_ : Int32) : Int32 × (Nat → Int32) := (if ((f_m_quarrels G f10 c_ t_ (f0 ((0 + c_) : Int32).toNatClampNeg) 1000000000) 33) = 0 then (if ((f_m_quarrels G f10 c_ t_ (f0 ((0 + c_) : Int32).toNatClampNeg) 1000000000) 32) ≤ 0 then (999, (f_m_quarrels G f10 c_ t_ (f0 ((0 + c_) : Int32).toNatClampNeg) 1000000000)) else (((f_m_quarrels G f10 c_ t_ (f0 ((0 + c_) : Int32).toNatClampNeg) 1000000000) 32), (f_m_quarrels G f10 c_ t_ (f0 ((0 + c_) : Int32).toNatClampNeg) 1000000000))) else (999, (f_m_quarrels G f10 c_ t_ (f0 ((0 + c_) : Int32).toNatClampNeg) 1000000000)))
def S_m_lastsOf (G : Nat → Int32) (f0 : Nat → Int32) (f10 : Nat → Int32) (c_ : Int32) (t_ : Int32) : Prop := (vp_in (0 + c_) 1302 ∧ ((S_m_quarrels G f10 c_ t_ (f0 ((0 + c_) : Int32).toNatClampNeg) 1000000000) ∧ ((((f_m_quarrels G f10 c_ t_ (f0 ((0 + c_) : Int32).toNatClampNeg) 1000000000) 33) = 0 → ((((f_m_quarrels G f10 c_ t_ (f0 ((0 + c_) : Int32).toNatClampNeg) 1000000000) 32) ≤ 0 → True) ∧ (¬ ((f_m_quarrels G f10 c_ t_ (f0 ((0 + c_) : Int32).toNatClampNeg) 1000000000) 32) ≤ 0 → True))) ∧ (¬ ((f_m_quarrels G f10 c_ t_ (f0 ((0 + c_) : Int32).toNatClampNeg) 1000000000) 33) = 0 → True))))
def rm_m_lastsOf : Room := { frames := 2, cells := 0, slots := 0, locals := 50 }
set_option maxHeartbeats 4000000 in
set_option maxRecDepth 100000 in
theorem m_lastsOf {l : Launch} {D : va_G} {cI cZ : ClassId} {sz : Nat} (Rf : Nat → Nat) (h : Nat) (G : Nat → Int32) (f0 : Nat → Int32) (f10 : Nat → Int32) (c_ : Int32) (t_ : Int32) (hF : S_m_lastsOf G f0 f10 c_ t_) : KI l yX10_lastsOf cX10_lastsOf 3 (some .int) rm_m_lastsOf D cI cZ [.ref h, .int c_, .int t_] sz [(h, .inr (10, ML G Rf)), ((Rf 0), .inl (cI, 1302, .inl f0)), ((Rf 10), .inl (cI, 30, .inl f10))] (fun (r : Int32) (u : (Nat → Int32)) => (r, u) = f_m_lastsOf G f0 f10 c_ t_) (fun (u : (Nat → Int32)) => [(h, .inr (10, ML u Rf)), ((Rf 0), .inl (cI, 1302, .inl f0)), ((Rf 10), .inl (cI, 30, .inl f10))]) := by
  refine KI.go rfl (Nat.le_of_ble_eq_true rfl) ?_
  intro p e s m args below meth c ls A Q hx hb hml hts hown hin hP hK hD hS hA hN hl hret
  have hl : lv_has ls 3 [(0, .ref h), (1, .int c_), (2, .int t_)] := hl
  rw [S_m_lastsOf] at hF
  obtain ⟨RES, hE⟩ : ∃ xRES, f_m_lastsOf G f0 f10 c_ t_ = xRES := ⟨_, rfl⟩
  rw [hE] at hret
  rw [f_m_lastsOf] at hE
  refine lv_aload_n hx hb dX10_lastsOf_0 rfl (lv_at hl 0 rfl) ?_
  refine lv_iload_n hx hb dX10_lastsOf_1 rfl (lv_at hl 1 rfl) ?_
  refine lv_iload_n hx hb dX10_lastsOf_2 rfl (lv_at hl 2 rfl) ?_
  refine lv_aload_n hx hb dX10_lastsOf_3 rfl (lv_at hl 0 rfl) ?_
  refine va_get (D := D) (ci := 10) (v := .ref (Rf 0)) (C := RX10) (T := TX10) (N := 45) hx hb hts iX10 hown hK hP 0 rfl rfl 0 (by decide) (hts _ wd_491) (fun _ h9 => h9) rfl dX10_lastsOf_4 ?_
  refine lv_iconst (v := 0) hx hb dX10_lastsOf_7 (by decide) ?_
  refine lv_iload_n hx hb dX10_lastsOf_8 rfl (lv_at hl 1 rfl) ?_
  refine lv_iadd hx hb dX10_lastsOf_9 ?_
  obtain ⟨hv_1, hF⟩ := hF
  refine va_iald hx hb hK hP 1 0 rfl rfl hv_1 dX10_lastsOf_10 ?_
  refine lv_ldcw (v := 1000000000) hx hb hown (hts _ wd_651) dX10_lastsOf_11 ?_
  obtain ⟨hs_2, hF⟩ := hF
  refine cVv (wr := [((Rf 0), .inl (cI, 1302, .inl f0))]) (rest := []) (m_quarrels Rf h G f10 c_ t_ (f0 ((0 + c_) : Int32).toNatClampNeg) 1000000000 hs_2) okV_X10_quarrels wd_643 hx hb hml hown hts hK hP hD hS hA hN hl.1 [0, 2] [1] rfl rfl rfl rfl (by decide) rfl rfl rfl (Nat.le_of_ble_eq_true rfl) (Nat.le_of_ble_eq_true rfl) (Nat.le_of_ble_eq_true rfl) (Nat.le_of_ble_eq_true rfl) (Nat.le_of_ble_eq_true rfl) dX10_lastsOf_14 (fun u_3 H locs hw_u_3 hP hD hS => ?_)
  replace hw_u_3 : u_3 = (f_m_quarrels G f10 c_ t_ (f0 ((0 + c_) : Int32).toNatClampNeg) 1000000000) := hw_u_3
  subst hw_u_3
  have hP : va_P D classes [((Rf 0), .inl (cI, 1302, .inl f0)), (h, .inr (10, ML (f_m_quarrels G f10 c_ t_ (f0 ((0 + c_) : Int32).toNatClampNeg) 1000000000) Rf)), ((Rf 10), .inl (cI, 30, .inl f10))] H := hP
  have hD : va_D A [((Rf 0), .inl (cI, 1302, .inl f0)), (h, .inr (10, ML (f_m_quarrels G f10 c_ t_ (f0 ((0 + c_) : Int32).toNatClampNeg) 1000000000) Rf)), ((Rf 10), .inl (cI, 30, .inl f10))] := hD
  refine lv_aload_n hx hb dX10_lastsOf_17 rfl (lv_at hl 0 rfl) ?_
  refine va_get (D := D) (ci := 10) (v := .int ((f_m_quarrels G f10 c_ t_ (f0 ((0 + c_) : Int32).toNatClampNeg) 1000000000) 33)) (C := RX10) (T := TX10) (N := 45) hx hb hts iX10 hown hK hP 1 rfl rfl 33 (by decide) (hts _ wd_550) (fun _ h9 => h9) rfl dX10_lastsOf_18 ?_
  refine lv_if_ne (tgt := 38) hx hb dX10_lastsOf_21 (by decide) (fun c_5 => ?_) (fun c_5 => ?_)
  · replace hF := hF.2 c_5
    rw [if_neg c_5] at hE
    refine lv_sipush (v := 999) hx hb dX10_lastsOf_38 (by decide) ?_
    exact hret 999 (f_m_quarrels G f10 c_ t_ (f0 ((0 + c_) : Int32).toNatClampNeg) 1000000000) _ _ _ _ dX10_lastsOf_41 rfl hE (cutP (isC := [1, 0, 2]) hP rfl) (cutD (isC := [1, 0, 2]) hD rfl rfl) hS
  · replace hF := hF.1 c_5
    rw [if_pos c_5] at hE
    refine lv_aload_n hx hb dX10_lastsOf_24 rfl (lv_at hl 0 rfl) ?_
    refine va_get (D := D) (ci := 10) (v := .int ((f_m_quarrels G f10 c_ t_ (f0 ((0 + c_) : Int32).toNatClampNeg) 1000000000) 32)) (C := RX10) (T := TX10) (N := 45) hx hb hts iX10 hown hK hP 1 rfl rfl 32 (by decide) (hts _ wd_549) (fun _ h9 => h9) rfl dX10_lastsOf_25 ?_
    refine lv_if_le (tgt := 38) hx hb dX10_lastsOf_28 (by decide) (fun c_6 => ?_) (fun c_6 => ?_)
    · replace hF := hF.1 c_6
      rw [if_pos c_6] at hE
      refine lv_sipush (v := 999) hx hb dX10_lastsOf_38 (by decide) ?_
      exact hret 999 (f_m_quarrels G f10 c_ t_ (f0 ((0 + c_) : Int32).toNatClampNeg) 1000000000) _ _ _ _ dX10_lastsOf_41 rfl hE (cutP (isC := [1, 0, 2]) hP rfl) (cutD (isC := [1, 0, 2]) hD rfl rfl) hS
    · replace hF := hF.2 c_6
      rw [if_neg c_6] at hE
      refine lv_aload_n hx hb dX10_lastsOf_31 rfl (lv_at hl 0 rfl) ?_
      refine va_get (D := D) (ci := 10) (v := .int ((f_m_quarrels G f10 c_ t_ (f0 ((0 + c_) : Int32).toNatClampNeg) 1000000000) 32)) (C := RX10) (T := TX10) (N := 45) hx hb hts iX10 hown hK hP 1 rfl rfl 32 (by decide) (hts _ wd_549) (fun _ h9 => h9) rfl dX10_lastsOf_32 ?_
      refine lv_goto (tgt := 41) hx hb dX10_lastsOf_35 (by decide) ?_
      exact hret ((f_m_quarrels G f10 c_ t_ (f0 ((0 + c_) : Int32).toNatClampNeg) 1000000000) 32) (f_m_quarrels G f10 c_ t_ (f0 ((0 + c_) : Int32).toNatClampNeg) 1000000000) _ _ _ _ dX10_lastsOf_41 rfl hE (cutP (isC := [1, 0, 2]) hP rfl) (cutD (isC := [1, 0, 2]) hD rfl rfl) hS
noncomputable def f_m_lasts (G : Nat → Int32) (f0 : Nat → Int32) (f10 : Nat → Int32) (c_ : Int32) (t_ : Int32) : Int32 × (Nat → Int32) := (if (f_m_isCouple G c_) = 0 then ((-1000000001), G) else (if (f_m_isTheme G t_) = 0 then ((-1000000001), G) else (if (f_m_isDone f0 c_) = 0 then (match (f_m_lastsOf G f0 f10 c_ t_) with | (r_15, u_14) => (r_15, u_14)) else ((-1000000003), G))))
def S_m_lasts (G : Nat → Int32) (f0 : Nat → Int32) (f10 : Nat → Int32) (c_ : Int32) (t_ : Int32) : Prop := ((S_m_isCouple G c_) ∧ (((f_m_isCouple G c_) = 0 → True) ∧ (¬ (f_m_isCouple G c_) = 0 → ((S_m_isTheme G t_) ∧ (((f_m_isTheme G t_) = 0 → True) ∧ (¬ (f_m_isTheme G t_) = 0 → ((S_m_isDone f0 c_) ∧ (((f_m_isDone f0 c_) = 0 → ((S_m_lastsOf G f0 f10 c_ t_) ∧ (∀ (r_15 : Int32) (u_14 : (Nat → Int32)), (r_15, u_14) = (f_m_lastsOf G f0 f10 c_ t_) → True))) ∧ (¬ (f_m_isDone f0 c_) = 0 → True)))))))))
def rm_m_lasts : Room := { frames := 3, cells := 0, slots := 0, locals := 72 }
set_option maxHeartbeats 4000000 in
set_option maxRecDepth 100000 in
theorem m_lasts {l : Launch} {D : va_G} {cI cZ : ClassId} {sz : Nat} (Rf : Nat → Nat) (h : Nat) (G : Nat → Int32) (f0 : Nat → Int32) (f10 : Nat → Int32) (c_ : Int32) (t_ : Int32) (hF : S_m_lasts G f0 f10 c_ t_) : KI l yX10_lasts cX10_lasts 3 (some .int) rm_m_lasts D cI cZ [.ref h, .int c_, .int t_] sz [(h, .inr (10, ML G Rf)), ((Rf 0), .inl (cI, 1302, .inl f0)), ((Rf 10), .inl (cI, 30, .inl f10))] (fun (r : Int32) (u : (Nat → Int32)) => (r, u) = f_m_lasts G f0 f10 c_ t_) (fun (u : (Nat → Int32)) => [(h, .inr (10, ML u Rf)), ((Rf 0), .inl (cI, 1302, .inl f0)), ((Rf 10), .inl (cI, 30, .inl f10))]) := by
  refine KI.go rfl (Nat.le_of_ble_eq_true rfl) ?_
  intro p e s m args below meth c ls A Q hx hb hml hts hown hin hP hK hD hS hA hN hl hret
  have hl : lv_has ls 3 [(0, .ref h), (1, .int c_), (2, .int t_)] := hl
  rw [S_m_lasts] at hF
  obtain ⟨RES, hE⟩ : ∃ xRES, f_m_lasts G f0 f10 c_ t_ = xRES := ⟨_, rfl⟩
  rw [hE] at hret
  rw [f_m_lasts] at hE
  refine lv_aload_n hx hb dX10_lasts_0 rfl (lv_at hl 0 rfl) ?_
  refine lv_iload_n hx hb dX10_lasts_1 rfl (lv_at hl 1 rfl) ?_
  obtain ⟨hs_1, hF⟩ := hF
  refine cVi (wr := [((Rf 0), .inl (cI, 1302, .inl f0)), ((Rf 10), .inl (cI, 30, .inl f10))]) (rest := []) (m_isCouple Rf h G c_ hs_1) okV_X10_isCouple wd_581 hx hb hml hown hts hK hP hD hS hA hN hl.1 [0] [1, 2] rfl rfl rfl rfl (by decide) rfl rfl rfl (Nat.le_of_ble_eq_true rfl) (Nat.le_of_ble_eq_true rfl) (Nat.le_of_ble_eq_true rfl) (Nat.le_of_ble_eq_true rfl) (Nat.le_of_ble_eq_true rfl) dX10_lasts_2 (fun r_3 u_2 H locs hw_u_2 hP hD hS => ?_)
  replace hw_u_2 : r_3 = (f_m_isCouple G c_) := hw_u_2
  rw [hw_u_2]
  clear hw_u_2
  have hP : va_P D classes [((Rf 0), .inl (cI, 1302, .inl f0)), ((Rf 10), .inl (cI, 30, .inl f10)), (h, .inr (10, ML G Rf))] H := hP
  have hD : va_D A [((Rf 0), .inl (cI, 1302, .inl f0)), ((Rf 10), .inl (cI, 30, .inl f10)), (h, .inr (10, ML G Rf))] := hD
  refine lv_if_eq (tgt := 16) hx hb dX10_lasts_5 (by decide) (fun c_4 => ?_) (fun c_4 => ?_)
  · replace hF := hF.1 c_4
    rw [if_pos c_4] at hE
    refine lv_ldc (v := (-1000000001)) hx hb hown (hts _ wd_580) dX10_lasts_16 ?_
    exact hret (-1000000001) G _ _ _ _ dX10_lasts_18 rfl hE (cutP (isC := [2, 0, 1]) hP rfl) (cutD (isC := [2, 0, 1]) hD rfl rfl) hS
  · replace hF := hF.2 c_4
    rw [if_neg c_4] at hE
    refine lv_aload_n hx hb dX10_lasts_8 rfl (lv_at hl 0 rfl) ?_
    refine lv_iload_n hx hb dX10_lasts_9 rfl (lv_at hl 2 rfl) ?_
    obtain ⟨hs_5, hF⟩ := hF
    refine cVi (wr := [((Rf 0), .inl (cI, 1302, .inl f0)), ((Rf 10), .inl (cI, 30, .inl f10))]) (rest := []) (m_isTheme Rf h G t_ hs_5) okV_X10_isTheme wd_585 hx hb hml hown hts hK hP hD hS hA hN hl.1 [2] [0, 1] rfl rfl rfl rfl (by decide) rfl rfl rfl (Nat.le_of_ble_eq_true rfl) (Nat.le_of_ble_eq_true rfl) (Nat.le_of_ble_eq_true rfl) (Nat.le_of_ble_eq_true rfl) (Nat.le_of_ble_eq_true rfl) dX10_lasts_10 (fun r_7 u_6 H locs hw_u_6 hP hD hS => ?_)
    replace hw_u_6 : r_7 = (f_m_isTheme G t_) := hw_u_6
    rw [hw_u_6]
    clear hw_u_6
    have hP : va_P D classes [((Rf 0), .inl (cI, 1302, .inl f0)), ((Rf 10), .inl (cI, 30, .inl f10)), (h, .inr (10, ML G Rf))] H := hP
    have hD : va_D A [((Rf 0), .inl (cI, 1302, .inl f0)), ((Rf 10), .inl (cI, 30, .inl f10)), (h, .inr (10, ML G Rf))] := hD
    refine lv_if_ne (tgt := 19) hx hb dX10_lasts_13 (by decide) (fun c_8 => ?_) (fun c_8 => ?_)
    · replace hF := hF.2 c_8
      rw [if_neg c_8] at hE
      refine lv_aload_n hx hb dX10_lasts_19 rfl (lv_at hl 0 rfl) ?_
      refine lv_iload_n hx hb dX10_lasts_20 rfl (lv_at hl 1 rfl) ?_
      obtain ⟨hs_9, hF⟩ := hF
      refine cVi (wr := [((Rf 10), .inl (cI, 30, .inl f10))]) (rest := []) (m_isDone Rf h G f0 c_ hs_9) okV_X10_isDone wd_567 hx hb hml hown hts hK hP hD hS hA hN hl.1 [2, 0] [1] rfl rfl rfl rfl (by decide) rfl rfl rfl (Nat.le_of_ble_eq_true rfl) (Nat.le_of_ble_eq_true rfl) (Nat.le_of_ble_eq_true rfl) (Nat.le_of_ble_eq_true rfl) (Nat.le_of_ble_eq_true rfl) dX10_lasts_21 (fun r_11 u_10 H locs hw_u_10 hP hD hS => ?_)
      replace hw_u_10 : r_11 = (f_m_isDone f0 c_) := hw_u_10
      rw [hw_u_10]
      clear hw_u_10
      have hP : va_P D classes [((Rf 10), .inl (cI, 30, .inl f10)), (h, .inr (10, ML G Rf)), ((Rf 0), .inl (cI, 1302, .inl f0))] H := hP
      have hD : va_D A [((Rf 10), .inl (cI, 30, .inl f10)), (h, .inr (10, ML G Rf)), ((Rf 0), .inl (cI, 1302, .inl f0))] := hD
      refine lv_if_eq (tgt := 32) hx hb dX10_lasts_24 (by decide) (fun c_12 => ?_) (fun c_12 => ?_)
      · replace hF := hF.1 c_12
        rw [if_pos c_12] at hE
        refine lv_aload_n hx hb dX10_lasts_32 rfl (lv_at hl 0 rfl) ?_
        refine lv_iload_n hx hb dX10_lasts_33 rfl (lv_at hl 1 rfl) ?_
        refine lv_iload_n hx hb dX10_lasts_34 rfl (lv_at hl 2 rfl) ?_
        obtain ⟨hs_13, hF⟩ := hF
        refine cVi (wr := []) (rest := []) (m_lastsOf Rf h G f0 f10 c_ t_ hs_13) okV_X10_lastsOf wd_652 hx hb hml hown hts hK hP hD hS hA hN hl.1 [1, 2, 0] [] rfl rfl rfl rfl (by decide) rfl rfl rfl (Nat.le_of_ble_eq_true rfl) (Nat.le_of_ble_eq_true rfl) (Nat.le_of_ble_eq_true rfl) (Nat.le_of_ble_eq_true rfl) (Nat.le_of_ble_eq_true rfl) dX10_lasts_35 (fun r_15 u_14 H locs hw_u_14 hP hD hS => ?_)
        replace hw_u_14 : (r_15, u_14) = (f_m_lastsOf G f0 f10 c_ t_) := hw_u_14
        replace hF := hF r_15 u_14 hw_u_14
        rw [← hw_u_14] at hE
        replace hE : ((r_15, u_14) : Int32 × (Nat → Int32)) = RES := hE
        have hP : va_P D classes [(h, .inr (10, ML u_14 Rf)), ((Rf 0), .inl (cI, 1302, .inl f0)), ((Rf 10), .inl (cI, 30, .inl f10))] H := hP
        have hD : va_D A [(h, .inr (10, ML u_14 Rf)), ((Rf 0), .inl (cI, 1302, .inl f0)), ((Rf 10), .inl (cI, 30, .inl f10))] := hD
        exact hret r_15 u_14 _ _ _ _ dX10_lasts_38 rfl hE hP hD hS
      · replace hF := hF.2 c_12
        rw [if_neg c_12] at hE
        refine lv_ldc (v := (-1000000003)) hx hb hown (hts _ wd_562) dX10_lasts_27 ?_
        refine lv_goto (tgt := 38) hx hb dX10_lasts_29 (by decide) ?_
        exact hret (-1000000003) G _ _ _ _ dX10_lasts_38 rfl hE (cutP (isC := [1, 2, 0]) hP rfl) (cutD (isC := [1, 2, 0]) hD rfl rfl) hS
    · replace hF := hF.1 c_8
      rw [if_pos c_8] at hE
      refine lv_ldc (v := (-1000000001)) hx hb hown (hts _ wd_580) dX10_lasts_16 ?_
      exact hret (-1000000001) G _ _ _ _ dX10_lasts_18 rfl hE (cutP (isC := [2, 0, 1]) hP rfl) (cutD (isC := [2, 0, 1]) hD rfl rfl) hS
noncomputable def f_m_best_17 (f0 : Nat → Int32) (f10 : Nat → Int32) (f8 : Nat → Int32) (c_ : Int32) (b_ : Int32) (n : Nat) : Int32 → Int32 → Int32 → (Nat → Int32) → Int32 × Int32 × Int32 × (Nat → Int32) := Nat.rec (motive := fun _ => Int32 → Int32 → Int32 → (Nat → Int32) → Int32 × Int32 × Int32 × (Nat → Int32)) (fun w_1l5 w_1l4 w_1l3 w_1m0 => (w_1l5, w_1l4, w_1l3, w_1m0)) (fun n ih w_1l5 w_1l4 w_1l3 w_1m0 => (if (w_1m0 4) ≤ w_1l5 then (w_1l5, w_1l4, w_1l3, w_1m0) else (match (f_m_opens w_1m0 f0 f10 f8 c_ b_ w_1l5) with | (r_5, u_4) => (if r_5 = 0 then (ih (w_1l5 + 1) w_1l4 w_1l3 u_4) else (if (u_4 32) < w_1l4 then (ih (w_1l5 + 1) (u_4 32) w_1l5 (upd u_4 35 ((f0 ((0 + c_) : Int32).toNatClampNeg) - (u_4 33)))) else (if (u_4 32) = w_1l4 then (if (u_4 35) ≤ ((f0 ((0 + c_) : Int32).toNatClampNeg) - (u_4 33)) then (ih (w_1l5 + 1) w_1l4 w_1l3 (upd u_4 35 (u_4 35))) else (ih (w_1l5 + 1) (u_4 32) w_1l5 (upd u_4 35 ((f0 ((0 + c_) : Int32).toNatClampNeg) - (u_4 33))))) else (ih (w_1l5 + 1) w_1l4 w_1l3 (upd u_4 35 (u_4 35))))))))) n
theorem f_m_best_17_s (f0 : Nat → Int32) (f10 : Nat → Int32) (f8 : Nat → Int32) (c_ : Int32) (b_ : Int32) (n : Nat) (w_1l5 : Int32) (w_1l4 : Int32) (w_1l3 : Int32) (w_1m0 : (Nat → Int32)) : f_m_best_17 f0 f10 f8 c_ b_ (n + 1) w_1l5 w_1l4 w_1l3 w_1m0 = (if (w_1m0 4) ≤ w_1l5 then (w_1l5, w_1l4, w_1l3, w_1m0) else (match (f_m_opens w_1m0 f0 f10 f8 c_ b_ w_1l5) with | (r_5, u_4) => (if r_5 = 0 then (f_m_best_17 f0 f10 f8 c_ b_ n (w_1l5 + 1) w_1l4 w_1l3 u_4) else (if (u_4 32) < w_1l4 then (f_m_best_17 f0 f10 f8 c_ b_ n (w_1l5 + 1) (u_4 32) w_1l5 (upd u_4 35 ((f0 ((0 + c_) : Int32).toNatClampNeg) - (u_4 33)))) else (if (u_4 32) = w_1l4 then (if (u_4 35) ≤ ((f0 ((0 + c_) : Int32).toNatClampNeg) - (u_4 33)) then (f_m_best_17 f0 f10 f8 c_ b_ n (w_1l5 + 1) w_1l4 w_1l3 (upd u_4 35 (u_4 35))) else (f_m_best_17 f0 f10 f8 c_ b_ n (w_1l5 + 1) (u_4 32) w_1l5 (upd u_4 35 ((f0 ((0 + c_) : Int32).toNatClampNeg) - (u_4 33))))) else (f_m_best_17 f0 f10 f8 c_ b_ n (w_1l5 + 1) w_1l4 w_1l3 (upd u_4 35 (u_4 35)))))))) := rfl
def S_m_best_17 (f0 : Nat → Int32) (f10 : Nat → Int32) (f8 : Nat → Int32) (c_ : Int32) (b_ : Int32) (K : Int32 → Int32 → Int32 → (Nat → Int32) → Prop) (n : Nat) : Int32 → Int32 → Int32 → (Nat → Int32) → Prop := Nat.rec (motive := fun _ => Int32 → Int32 → Int32 → (Nat → Int32) → Prop) (fun _ _ _ _ => False) (fun n ih w_1l5 w_1l4 w_1l3 w_1m0 => (((w_1m0 4) ≤ w_1l5 → (K w_1l5 w_1l4 w_1l3 w_1m0)) ∧ (¬ (w_1m0 4) ≤ w_1l5 → ((S_m_opens w_1m0 f0 f10 f8 c_ b_ w_1l5) ∧ (∀ (r_5 : Int32) (u_4 : (Nat → Int32)), (r_5, u_4) = (f_m_opens w_1m0 f0 f10 f8 c_ b_ w_1l5) → ((r_5 = 0 → (ih (w_1l5 + 1) w_1l4 w_1l3 u_4)) ∧ (¬ r_5 = 0 → (vp_in (0 + c_) 1302 ∧ (((u_4 32) < w_1l4 → (ih (w_1l5 + 1) (u_4 32) w_1l5 (upd u_4 35 ((f0 ((0 + c_) : Int32).toNatClampNeg) - (u_4 33))))) ∧ (¬ (u_4 32) < w_1l4 → (((u_4 32) = w_1l4 → (((u_4 35) ≤ ((f0 ((0 + c_) : Int32).toNatClampNeg) - (u_4 33)) → (ih (w_1l5 + 1) w_1l4 w_1l3 (upd u_4 35 (u_4 35)))) ∧ (¬ (u_4 35) ≤ ((f0 ((0 + c_) : Int32).toNatClampNeg) - (u_4 33)) → (ih (w_1l5 + 1) (u_4 32) w_1l5 (upd u_4 35 ((f0 ((0 + c_) : Int32).toNatClampNeg) - (u_4 33))))))) ∧ (¬ (u_4 32) = w_1l4 → (ih (w_1l5 + 1) w_1l4 w_1l3 (upd u_4 35 (u_4 35))))))))))))))) n
theorem S_m_best_17_s (f0 : Nat → Int32) (f10 : Nat → Int32) (f8 : Nat → Int32) (c_ : Int32) (b_ : Int32) (K : Int32 → Int32 → Int32 → (Nat → Int32) → Prop) (n : Nat) (w_1l5 : Int32) (w_1l4 : Int32) (w_1l3 : Int32) (w_1m0 : (Nat → Int32)) : S_m_best_17 f0 f10 f8 c_ b_ K (n + 1) w_1l5 w_1l4 w_1l3 w_1m0 = ((((w_1m0 4) ≤ w_1l5 → (K w_1l5 w_1l4 w_1l3 w_1m0)) ∧ (¬ (w_1m0 4) ≤ w_1l5 → ((S_m_opens w_1m0 f0 f10 f8 c_ b_ w_1l5) ∧ (∀ (r_5 : Int32) (u_4 : (Nat → Int32)), (r_5, u_4) = (f_m_opens w_1m0 f0 f10 f8 c_ b_ w_1l5) → ((r_5 = 0 → (S_m_best_17 f0 f10 f8 c_ b_ K n (w_1l5 + 1) w_1l4 w_1l3 u_4)) ∧ (¬ r_5 = 0 → (vp_in (0 + c_) 1302 ∧ (((u_4 32) < w_1l4 → (S_m_best_17 f0 f10 f8 c_ b_ K n (w_1l5 + 1) (u_4 32) w_1l5 (upd u_4 35 ((f0 ((0 + c_) : Int32).toNatClampNeg) - (u_4 33))))) ∧ (¬ (u_4 32) < w_1l4 → (((u_4 32) = w_1l4 → (((u_4 35) ≤ ((f0 ((0 + c_) : Int32).toNatClampNeg) - (u_4 33)) → (S_m_best_17 f0 f10 f8 c_ b_ K n (w_1l5 + 1) w_1l4 w_1l3 (upd u_4 35 (u_4 35)))) ∧ (¬ (u_4 35) ≤ ((f0 ((0 + c_) : Int32).toNatClampNeg) - (u_4 33)) → (S_m_best_17 f0 f10 f8 c_ b_ K n (w_1l5 + 1) (u_4 32) w_1l5 (upd u_4 35 ((f0 ((0 + c_) : Int32).toNatClampNeg) - (u_4 33))))))) ∧ (¬ (u_4 32) = w_1l4 → (S_m_best_17 f0 f10 f8 c_ b_ K n (w_1l5 + 1) w_1l4 w_1l3 (upd u_4 35 (u_4 35))))))))))))))) := rfl
noncomputable def f_m_best (G : Nat → Int32) (f0 : Nat → Int32) (f10 : Nat → Int32) (f8 : Nat → Int32) (c_ : Int32) (b_ : Int32) : Int32 × (Nat → Int32) := (match ((f_m_best_17 f0 f10 f8 c_ b_ 10 0 999 (-1) (upd G 35 999)) : Int32 × Int32 × Int32 × (Nat → Int32)) with | (w_1l5, w_1l4, w_1l3, w_1m0) => (w_1l3, w_1m0))
def S_m_best (G : Nat → Int32) (f0 : Nat → Int32) (f10 : Nat → Int32) (f8 : Nat → Int32) (c_ : Int32) (b_ : Int32) : Prop := (S_m_best_17 f0 f10 f8 c_ b_ (fun (w_1l5 : Int32) (w_1l4 : Int32) (w_1l3 : Int32) (w_1m0 : (Nat → Int32)) => True) 10 0 999 (-1) (upd G 35 999))
def rm_m_best : Room := { frames := 3, cells := 0, slots := 0, locals := 73 }
set_option maxHeartbeats 4000000 in
set_option maxRecDepth 100000 in
theorem m_best {l : Launch} {D : va_G} {cI cZ : ClassId} {sz : Nat} (Rf : Nat → Nat) (h : Nat) (G : Nat → Int32) (f0 : Nat → Int32) (f10 : Nat → Int32) (f8 : Nat → Int32) (c_ : Int32) (b_ : Int32) (hF : S_m_best G f0 f10 f8 c_ b_) : KI l yX10_best cX10_best 8 (some .int) rm_m_best D cI cZ [.ref h, .int c_, .int b_] sz [(h, .inr (10, ML G Rf)), ((Rf 0), .inl (cI, 1302, .inl f0)), ((Rf 10), .inl (cI, 30, .inl f10)), ((Rf 8), .inl (cI, 6, .inl f8))] (fun (r : Int32) (u : (Nat → Int32)) => (r, u) = f_m_best G f0 f10 f8 c_ b_) (fun (u : (Nat → Int32)) => [(h, .inr (10, ML u Rf)), ((Rf 0), .inl (cI, 1302, .inl f0)), ((Rf 10), .inl (cI, 30, .inl f10)), ((Rf 8), .inl (cI, 6, .inl f8))]) := by
  refine KI.go rfl (Nat.le_of_ble_eq_true rfl) ?_
  intro p e s m args below meth c ls A Q hx hb hml hts hown hin hP hK hD hS hA hN hl hret
  have hl : lv_has ls 8 [(0, .ref h), (1, .int c_), (2, .int b_)] := hl
  rw [S_m_best] at hF
  obtain ⟨RES, hE⟩ : ∃ xRES, f_m_best G f0 f10 f8 c_ b_ = xRES := ⟨_, rfl⟩
  rw [hE] at hret
  rw [f_m_best] at hE
  refine lv_iconst (v := (-1)) hx hb dX10_best_0 (by decide) ?_
  refine lv_istore_n (lv' := [(3, .int (-1)), (0, .ref h), (1, .int c_), (2, .int b_)]) hx hb dX10_best_1 rfl hl (by decide) rfl (fun ls hl => ?_)
  refine lv_sipush (v := 999) hx hb dX10_best_2 (by decide) ?_
  refine lv_istore (lv' := [(4, .int 999), (3, .int (-1)), (0, .ref h), (1, .int c_), (2, .int b_)]) hx hb dX10_best_5 hl (by decide) rfl (fun ls hl => ?_)
  refine lv_aload_n hx hb dX10_best_7 rfl (lv_at hl 2 rfl) ?_
  refine lv_sipush (v := 999) hx hb dX10_best_8 (by decide) ?_
  refine va_put (D := D) (ci := 10) (v := .int 999) (ty := .int) (C := RX10) (T := TX10) (N := 45) hx hb hts iX10 tyX10 tyX10_ok nmX10 hown hK hP hD hS 0 rfl rfl 35 (by decide) (hts _ wd_656) (fun _ h9 => h9) rfl (by decide +kernel) rfl rfl (Nat.le_of_ble_eq_true rfl) dX10_best_11 (fun H locs hP hD hS => ?_)
  have hP : va_P D classes [(h, .inr (10, ML (upd G 35 999) Rf)), ((Rf 0), .inl (cI, 1302, .inl f0)), ((Rf 10), .inl (cI, 30, .inl f10)), ((Rf 8), .inl (cI, 6, .inl f8))] H := hP
  have hD : va_D A [(h, .inr (10, ML (upd G 35 999) Rf)), ((Rf 0), .inl (cI, 1302, .inl f0)), ((Rf 10), .inl (cI, 30, .inl f10)), ((Rf 8), .inl (cI, 6, .inl f8))] := hD
  refine lv_iconst (v := 0) hx hb dX10_best_14 (by decide) ?_
  refine lv_istore (lv' := [(5, .int 0), (4, .int 999), (3, .int (-1)), (0, .ref h), (1, .int c_), (2, .int b_)]) hx hb dX10_best_15 hl (by decide) rfl (fun ls hl => ?_)
  have ex_17_w_1 : ∀ (w_1l5 : Int32) (w_1l4 : Int32) (w_1l3 : Int32) (w_1m0 : (Nat → Int32)) (H : Heap) (locs : List Loc) (ls : Array Slot), va_P D classes [(h, .inr (10, ML w_1m0 Rf)), ((Rf 0), .inl (cI, 1302, .inl f0)), ((Rf 10), .inl (cI, 30, .inl f10)), ((Rf 8), .inl (cI, 6, .inl f8))] H → va_D A [(h, .inr (10, ML w_1m0 Rf)), ((Rf 0), .inl (cI, 1302, .inl f0)), ((Rf 10), .inl (cI, 30, .inl f10)), ((Rf 8), .inl (cI, 6, .inl f8))] → va_S A s.heap H locs → lv_has ls 8 [(5, .int w_1l5), (4, .int w_1l4), (3, .int w_1l3), (0, .ref h), (1, .int c_), (2, .int b_)] → (True) → (((w_1l3, w_1m0)) : Int32 × (Nat → Int32)) = RES → W p l e rm_m_best s m args below meth c H locs 0 0 Q (F0 m 138 ls []) := by
    intro w_1l5 w_1l4 w_1l3 w_1m0 H locs ls hP hD hS hl hF hE
    refine lv_iload_n hx hb dX10_best_138 rfl (lv_at hl 2 rfl) ?_
    exact hret w_1l3 w_1m0 _ _ _ _ dX10_best_139 rfl hE hP hD hS
  have lp_17_w_1 : ∀ (n_w_1 : Nat) (w_1l5 : Int32) (w_1l4 : Int32) (w_1l3 : Int32) (w_1m0 : (Nat → Int32)) (H : Heap) (locs : List Loc) (ls : Array Slot), va_P D classes [(h, .inr (10, ML w_1m0 Rf)), ((Rf 0), .inl (cI, 1302, .inl f0)), ((Rf 10), .inl (cI, 30, .inl f10)), ((Rf 8), .inl (cI, 6, .inl f8))] H → va_D A [(h, .inr (10, ML w_1m0 Rf)), ((Rf 0), .inl (cI, 1302, .inl f0)), ((Rf 10), .inl (cI, 30, .inl f10)), ((Rf 8), .inl (cI, 6, .inl f8))] → va_S A s.heap H locs → lv_has ls 8 [(5, .int w_1l5), (4, .int w_1l4), (3, .int w_1l3), (0, .ref h), (1, .int c_), (2, .int b_)] → (S_m_best_17 f0 f10 f8 c_ b_ (fun (w_1l5 : Int32) (w_1l4 : Int32) (w_1l3 : Int32) (w_1m0 : (Nat → Int32)) => True) n_w_1 w_1l5 w_1l4 w_1l3 w_1m0) → ((match ((f_m_best_17 f0 f10 f8 c_ b_ n_w_1 w_1l5 w_1l4 w_1l3 w_1m0) : Int32 × Int32 × Int32 × (Nat → Int32)) with | (w_1l5, w_1l4, w_1l3, w_1m0) => (w_1l3, w_1m0)) : Int32 × (Nat → Int32)) = RES → W p l e rm_m_best s m args below meth c H locs 0 0 Q (F0 m 17 ls []) := by
    intro n_w_1
    induction n_w_1 with
    | zero => intro w_1l5 w_1l4 w_1l3 w_1m0 H locs ls hP hD hS hl hF hE; exact False.elim hF
    | succ n_w_1 ih_w_1 =>
      intro w_1l5 w_1l4 w_1l3 w_1m0 H locs ls hP hD hS hl hF hE
      rw [S_m_best_17_s] at hF
      rw [f_m_best_17_s] at hE
      refine lv_iload hx hb dX10_best_17 (lv_at hl 0 rfl) ?_
      refine lv_aload_n hx hb dX10_best_19 rfl (lv_at hl 3 rfl) ?_
      refine va_get (D := D) (ci := 10) (v := .int (w_1m0 4)) (C := RX10) (T := TX10) (N := 45) hx hb hts iX10 hown hK hP 0 rfl rfl 4 (by decide) (hts _ wd_500) (fun _ h9 => h9) rfl dX10_best_20 ?_
      refine lv_icmp_ge (tgt := 138) hx hb dX10_best_23 (by decide) (fun c_2 => ?_) (fun c_2 => ?_)
      · replace hF := hF.1 c_2
        rw [if_pos c_2] at hE
        exact ex_17_w_1 w_1l5 w_1l4 w_1l3 w_1m0 _ _ ls hP hD hS (lv_sub hl [0, 1, 2, 3, 4, 5] rfl) hF hE
      · replace hF := hF.2 c_2
        rw [if_neg c_2] at hE
        refine lv_aload_n hx hb dX10_best_26 rfl (lv_at hl 3 rfl) ?_
        refine lv_iload_n hx hb dX10_best_27 rfl (lv_at hl 4 rfl) ?_
        refine lv_iload_n hx hb dX10_best_28 rfl (lv_at hl 5 rfl) ?_
        refine lv_iload hx hb dX10_best_29 (lv_at hl 0 rfl) ?_
        obtain ⟨hs_3, hF⟩ := hF
        refine cVi (wr := []) (rest := []) (m_opens Rf h w_1m0 f0 f10 f8 c_ b_ w_1l5 hs_3) okV_X10_opens wd_647 hx hb hml hown hts hK hP hD hS hA hN hl.1 [0, 1, 2, 3] [] rfl rfl rfl rfl (by decide) rfl rfl rfl (Nat.le_of_ble_eq_true rfl) (Nat.le_of_ble_eq_true rfl) (Nat.le_of_ble_eq_true rfl) (Nat.le_of_ble_eq_true rfl) (Nat.le_of_ble_eq_true rfl) dX10_best_31 (fun r_5 u_4 H locs hw_u_4 hP hD hS => ?_)
        replace hw_u_4 : (r_5, u_4) = (f_m_opens w_1m0 f0 f10 f8 c_ b_ w_1l5) := hw_u_4
        replace hF := hF r_5 u_4 hw_u_4
        rw [← hw_u_4] at hE
        replace hE : ((match ((if r_5 = 0 then (f_m_best_17 f0 f10 f8 c_ b_ n_w_1 (w_1l5 + 1) w_1l4 w_1l3 u_4) else (if (u_4 32) < w_1l4 then (f_m_best_17 f0 f10 f8 c_ b_ n_w_1 (w_1l5 + 1) (u_4 32) w_1l5 (upd u_4 35 ((f0 ((0 + c_) : Int32).toNatClampNeg) - (u_4 33)))) else (if (u_4 32) = w_1l4 then (if (u_4 35) ≤ ((f0 ((0 + c_) : Int32).toNatClampNeg) - (u_4 33)) then (f_m_best_17 f0 f10 f8 c_ b_ n_w_1 (w_1l5 + 1) w_1l4 w_1l3 (upd u_4 35 (u_4 35))) else (f_m_best_17 f0 f10 f8 c_ b_ n_w_1 (w_1l5 + 1) (u_4 32) w_1l5 (upd u_4 35 ((f0 ((0 + c_) : Int32).toNatClampNeg) - (u_4 33))))) else (f_m_best_17 f0 f10 f8 c_ b_ n_w_1 (w_1l5 + 1) w_1l4 w_1l3 (upd u_4 35 (u_4 35)))))) : Int32 × Int32 × Int32 × (Nat → Int32)) with | (w_1l5, w_1l4, w_1l3, w_1m0) => (w_1l3, w_1m0)) : Int32 × (Nat → Int32)) = RES := hE
        have hP : va_P D classes [(h, .inr (10, ML u_4 Rf)), ((Rf 0), .inl (cI, 1302, .inl f0)), ((Rf 10), .inl (cI, 30, .inl f10)), ((Rf 8), .inl (cI, 6, .inl f8))] H := hP
        have hD : va_D A [(h, .inr (10, ML u_4 Rf)), ((Rf 0), .inl (cI, 1302, .inl f0)), ((Rf 10), .inl (cI, 30, .inl f10)), ((Rf 8), .inl (cI, 6, .inl f8))] := hD
        refine lv_if_eq (tgt := 132) hx hb dX10_best_34 (by decide) (fun c_6 => ?_) (fun c_6 => ?_)
        · replace hF := hF.1 c_6
          rw [if_pos c_6] at hE
          subst c_6
          refine lv_iinc (v := (w_1l5 + 1)) (lv' := [(5, .int (w_1l5 + 1)), (4, .int w_1l4), (3, .int w_1l3), (0, .ref h), (1, .int c_), (2, .int b_)]) hx hb dX10_best_132 hl (k := 0) rfl rfl (by decide) rfl (fun ls hl => ?_)
          refine lv_goto (tgt := 17) hx hb dX10_best_135 (by decide) ?_
          exact ih_w_1 (w_1l5 + 1) w_1l4 w_1l3 u_4 _ _ ls hP hD hS (lv_sub hl [0, 1, 2, 3, 4, 5] rfl) hF hE
        · replace hF := hF.2 c_6
          rw [if_neg c_6] at hE
          refine lv_aload_n hx hb dX10_best_37 rfl (lv_at hl 3 rfl) ?_
          refine va_get (D := D) (ci := 10) (v := .ref (Rf 0)) (C := RX10) (T := TX10) (N := 45) hx hb hts iX10 hown hK hP 0 rfl rfl 0 (by decide) (hts _ wd_491) (fun _ h9 => h9) rfl dX10_best_38 ?_
          refine lv_iconst (v := 0) hx hb dX10_best_41 (by decide) ?_
          refine lv_iload_n hx hb dX10_best_42 rfl (lv_at hl 4 rfl) ?_
          refine lv_iadd hx hb dX10_best_43 ?_
          obtain ⟨hv_7, hF⟩ := hF
          refine va_iald hx hb hK hP 1 0 rfl rfl hv_7 dX10_best_44 ?_
          refine lv_aload_n hx hb dX10_best_45 rfl (lv_at hl 3 rfl) ?_
          refine va_get (D := D) (ci := 10) (v := .int (u_4 33)) (C := RX10) (T := TX10) (N := 45) hx hb hts iX10 hown hK hP 0 rfl rfl 33 (by decide) (hts _ wd_550) (fun _ h9 => h9) rfl dX10_best_46 ?_
          refine lv_isub hx hb dX10_best_49 ?_
          refine lv_istore (lv' := [(6, .int ((f0 ((0 + c_) : Int32).toNatClampNeg) - (u_4 33))), (5, .int w_1l5), (4, .int w_1l4), (3, .int w_1l3), (0, .ref h), (1, .int c_), (2, .int b_)]) hx hb dX10_best_50 hl (by decide) rfl (fun ls hl => ?_)
          refine lv_aload_n hx hb dX10_best_52 rfl (lv_at hl 4 rfl) ?_
          refine va_get (D := D) (ci := 10) (v := .int (u_4 32)) (C := RX10) (T := TX10) (N := 45) hx hb hts iX10 hown hK hP 0 rfl rfl 32 (by decide) (hts _ wd_549) (fun _ h9 => h9) rfl dX10_best_53 ?_
          refine lv_iload hx hb dX10_best_56 (lv_at hl 2 rfl) ?_
          refine lv_icmp_lt (tgt := 79) hx hb dX10_best_58 (by decide) (fun c_8 => ?_) (fun c_8 => ?_)
          · replace hF := hF.1 c_8
            rw [if_pos c_8] at hE
            refine lv_iconst (v := 1) hx hb dX10_best_79 (by decide) ?_
            refine lv_goto (tgt := 84) hx hb dX10_best_80 (by decide) ?_
            refine lv_istore (lv' := [(7, .int 1), (6, .int ((f0 ((0 + c_) : Int32).toNatClampNeg) - (u_4 33))), (5, .int w_1l5), (4, .int w_1l4), (3, .int w_1l3), (0, .ref h), (1, .int c_), (2, .int b_)]) hx hb dX10_best_84 hl (by decide) rfl (fun ls hl => ?_)
            refine lv_iload hx hb dX10_best_86 (lv_at hl 0 rfl) ?_
            refine lv_if_eq (tgt := 96) hx hb dX10_best_88 (by decide) (fun c_9 => absurd c_9 (by decide +kernel)) (fun c_9 => ?_)
            refine lv_iload hx hb dX10_best_91 (lv_at hl 2 rfl) ?_
            refine lv_goto (tgt := 97) hx hb dX10_best_93 (by decide) ?_
            refine lv_istore_n (lv' := [(3, .int w_1l5), (7, .int 1), (6, .int ((f0 ((0 + c_) : Int32).toNatClampNeg) - (u_4 33))), (5, .int w_1l5), (4, .int w_1l4), (0, .ref h), (1, .int c_), (2, .int b_)]) hx hb dX10_best_97 rfl hl (by decide) rfl (fun ls hl => ?_)
            refine lv_aload_n hx hb dX10_best_98 rfl (lv_at hl 5 rfl) ?_
            refine lv_iload hx hb dX10_best_99 (lv_at hl 1 rfl) ?_
            refine lv_if_eq (tgt := 109) hx hb dX10_best_101 (by decide) (fun c_10 => absurd c_10 (by decide +kernel)) (fun c_10 => ?_)
            refine lv_iload hx hb dX10_best_104 (lv_at hl 2 rfl) ?_
            refine lv_goto (tgt := 113) hx hb dX10_best_106 (by decide) ?_
            refine va_put (D := D) (ci := 10) (v := .int ((f0 ((0 + c_) : Int32).toNatClampNeg) - (u_4 33))) (ty := .int) (C := RX10) (T := TX10) (N := 45) hx hb hts iX10 tyX10 tyX10_ok nmX10 hown hK hP hD hS 0 rfl rfl 35 (by decide) (hts _ wd_656) (fun _ h9 => h9) rfl (by decide +kernel) rfl rfl (Nat.le_of_ble_eq_true rfl) dX10_best_113 (fun H locs hP hD hS => ?_)
            have hP : va_P D classes [(h, .inr (10, ML (upd u_4 35 ((f0 ((0 + c_) : Int32).toNatClampNeg) - (u_4 33))) Rf)), ((Rf 0), .inl (cI, 1302, .inl f0)), ((Rf 10), .inl (cI, 30, .inl f10)), ((Rf 8), .inl (cI, 6, .inl f8))] H := hP
            have hD : va_D A [(h, .inr (10, ML (upd u_4 35 ((f0 ((0 + c_) : Int32).toNatClampNeg) - (u_4 33))) Rf)), ((Rf 0), .inl (cI, 1302, .inl f0)), ((Rf 10), .inl (cI, 30, .inl f10)), ((Rf 8), .inl (cI, 6, .inl f8))] := hD
            refine lv_iload hx hb dX10_best_116 (lv_at hl 1 rfl) ?_
            refine lv_if_eq (tgt := 128) hx hb dX10_best_118 (by decide) (fun c_11 => absurd c_11 (by decide +kernel)) (fun c_11 => ?_)
            refine lv_aload_n hx hb dX10_best_121 rfl (lv_at hl 5 rfl) ?_
            refine va_get (D := D) (ci := 10) (v := .int (u_4 32)) (C := RX10) (T := TX10) (N := 45) hx hb hts iX10 hown hK hP 0 rfl rfl 32 (by decide) (hts _ wd_549) (fun _ h9 => h9) rfl dX10_best_122 ?_
            refine lv_goto (tgt := 130) hx hb dX10_best_125 (by decide) ?_
            refine lv_istore (lv' := [(4, .int (u_4 32)), (3, .int w_1l5), (7, .int 1), (6, .int ((f0 ((0 + c_) : Int32).toNatClampNeg) - (u_4 33))), (5, .int w_1l5), (0, .ref h), (1, .int c_), (2, .int b_)]) hx hb dX10_best_130 hl (by decide) rfl (fun ls hl => ?_)
            refine lv_iinc (v := (w_1l5 + 1)) (lv' := [(5, .int (w_1l5 + 1)), (4, .int (u_4 32)), (3, .int w_1l5), (7, .int 1), (6, .int ((f0 ((0 + c_) : Int32).toNatClampNeg) - (u_4 33))), (0, .ref h), (1, .int c_), (2, .int b_)]) hx hb dX10_best_132 hl (k := 4) rfl rfl (by decide) rfl (fun ls hl => ?_)
            refine lv_goto (tgt := 17) hx hb dX10_best_135 (by decide) ?_
            exact ih_w_1 (w_1l5 + 1) (u_4 32) w_1l5 (upd u_4 35 ((f0 ((0 + c_) : Int32).toNatClampNeg) - (u_4 33))) _ _ ls hP hD hS (lv_sub hl [0, 1, 2, 5, 6, 7] rfl) hF hE
          · replace hF := hF.2 c_8
            rw [if_neg c_8] at hE
            refine lv_aload_n hx hb dX10_best_61 rfl (lv_at hl 4 rfl) ?_
            refine va_get (D := D) (ci := 10) (v := .int (u_4 32)) (C := RX10) (T := TX10) (N := 45) hx hb hts iX10 hown hK hP 0 rfl rfl 32 (by decide) (hts _ wd_549) (fun _ h9 => h9) rfl dX10_best_62 ?_
            refine lv_iload hx hb dX10_best_65 (lv_at hl 2 rfl) ?_
            refine lv_icmp_ne (tgt := 83) hx hb dX10_best_67 (by decide) (fun c_12 => ?_) (fun c_12 => ?_)
            · replace hF := hF.2 c_12
              rw [if_neg c_12] at hE
              refine lv_iconst (v := 0) hx hb dX10_best_83 (by decide) ?_
              refine lv_istore (lv' := [(7, .int 0), (6, .int ((f0 ((0 + c_) : Int32).toNatClampNeg) - (u_4 33))), (5, .int w_1l5), (4, .int w_1l4), (3, .int w_1l3), (0, .ref h), (1, .int c_), (2, .int b_)]) hx hb dX10_best_84 hl (by decide) rfl (fun ls hl => ?_)
              refine lv_iload hx hb dX10_best_86 (lv_at hl 0 rfl) ?_
              refine lv_if_eq (tgt := 96) hx hb dX10_best_88 (by decide) (fun c_13 => ?_) (fun c_13 => absurd (by decide +kernel) c_13)
              refine lv_iload_n hx hb dX10_best_96 rfl (lv_at hl 4 rfl) ?_
              refine lv_istore_n (lv' := [(3, .int w_1l3), (7, .int 0), (6, .int ((f0 ((0 + c_) : Int32).toNatClampNeg) - (u_4 33))), (5, .int w_1l5), (4, .int w_1l4), (0, .ref h), (1, .int c_), (2, .int b_)]) hx hb dX10_best_97 rfl hl (by decide) rfl (fun ls hl => ?_)
              refine lv_aload_n hx hb dX10_best_98 rfl (lv_at hl 5 rfl) ?_
              refine lv_iload hx hb dX10_best_99 (lv_at hl 1 rfl) ?_
              refine lv_if_eq (tgt := 109) hx hb dX10_best_101 (by decide) (fun c_14 => ?_) (fun c_14 => absurd (by decide +kernel) c_14)
              refine lv_aload_n hx hb dX10_best_109 rfl (lv_at hl 5 rfl) ?_
              refine va_get (D := D) (ci := 10) (v := .int (u_4 35)) (C := RX10) (T := TX10) (N := 45) hx hb hts iX10 hown hK hP 0 rfl rfl 35 (by decide) (hts _ wd_656) (fun _ h9 => h9) rfl dX10_best_110 ?_
              refine va_put (D := D) (ci := 10) (v := .int (u_4 35)) (ty := .int) (C := RX10) (T := TX10) (N := 45) hx hb hts iX10 tyX10 tyX10_ok nmX10 hown hK hP hD hS 0 rfl rfl 35 (by decide) (hts _ wd_656) (fun _ h9 => h9) rfl (by decide +kernel) rfl rfl (Nat.le_of_ble_eq_true rfl) dX10_best_113 (fun H locs hP hD hS => ?_)
              have hP : va_P D classes [(h, .inr (10, ML (upd u_4 35 (u_4 35)) Rf)), ((Rf 0), .inl (cI, 1302, .inl f0)), ((Rf 10), .inl (cI, 30, .inl f10)), ((Rf 8), .inl (cI, 6, .inl f8))] H := hP
              have hD : va_D A [(h, .inr (10, ML (upd u_4 35 (u_4 35)) Rf)), ((Rf 0), .inl (cI, 1302, .inl f0)), ((Rf 10), .inl (cI, 30, .inl f10)), ((Rf 8), .inl (cI, 6, .inl f8))] := hD
              refine lv_iload hx hb dX10_best_116 (lv_at hl 1 rfl) ?_
              refine lv_if_eq (tgt := 128) hx hb dX10_best_118 (by decide) (fun c_15 => ?_) (fun c_15 => absurd (by decide +kernel) c_15)
              refine lv_iload hx hb dX10_best_128 (lv_at hl 4 rfl) ?_
              refine lv_istore (lv' := [(4, .int w_1l4), (3, .int w_1l3), (7, .int 0), (6, .int ((f0 ((0 + c_) : Int32).toNatClampNeg) - (u_4 33))), (5, .int w_1l5), (0, .ref h), (1, .int c_), (2, .int b_)]) hx hb dX10_best_130 hl (by decide) rfl (fun ls hl => ?_)
              refine lv_iinc (v := (w_1l5 + 1)) (lv' := [(5, .int (w_1l5 + 1)), (4, .int w_1l4), (3, .int w_1l3), (7, .int 0), (6, .int ((f0 ((0 + c_) : Int32).toNatClampNeg) - (u_4 33))), (0, .ref h), (1, .int c_), (2, .int b_)]) hx hb dX10_best_132 hl (k := 4) rfl rfl (by decide) rfl (fun ls hl => ?_)
              refine lv_goto (tgt := 17) hx hb dX10_best_135 (by decide) ?_
              exact ih_w_1 (w_1l5 + 1) w_1l4 w_1l3 (upd u_4 35 (u_4 35)) _ _ ls hP hD hS (lv_sub hl [0, 1, 2, 5, 6, 7] rfl) hF hE
            · replace hF := hF.1 c_12
              rw [if_pos c_12] at hE
              refine lv_iload hx hb dX10_best_70 (lv_at hl 0 rfl) ?_
              refine lv_aload_n hx hb dX10_best_72 rfl (lv_at hl 4 rfl) ?_
              refine va_get (D := D) (ci := 10) (v := .int (u_4 35)) (C := RX10) (T := TX10) (N := 45) hx hb hts iX10 hown hK hP 0 rfl rfl 35 (by decide) (hts _ wd_656) (fun _ h9 => h9) rfl dX10_best_73 ?_
              refine lv_icmp_ge (tgt := 83) hx hb dX10_best_76 (by decide) (fun c_16 => ?_) (fun c_16 => ?_)
              · replace hF := hF.1 c_16
                rw [if_pos c_16] at hE
                refine lv_iconst (v := 0) hx hb dX10_best_83 (by decide) ?_
                refine lv_istore (lv' := [(7, .int 0), (6, .int ((f0 ((0 + c_) : Int32).toNatClampNeg) - (u_4 33))), (5, .int w_1l5), (4, .int w_1l4), (3, .int w_1l3), (0, .ref h), (1, .int c_), (2, .int b_)]) hx hb dX10_best_84 hl (by decide) rfl (fun ls hl => ?_)
                refine lv_iload hx hb dX10_best_86 (lv_at hl 0 rfl) ?_
                refine lv_if_eq (tgt := 96) hx hb dX10_best_88 (by decide) (fun c_17 => ?_) (fun c_17 => absurd (by decide +kernel) c_17)
                refine lv_iload_n hx hb dX10_best_96 rfl (lv_at hl 4 rfl) ?_
                refine lv_istore_n (lv' := [(3, .int w_1l3), (7, .int 0), (6, .int ((f0 ((0 + c_) : Int32).toNatClampNeg) - (u_4 33))), (5, .int w_1l5), (4, .int w_1l4), (0, .ref h), (1, .int c_), (2, .int b_)]) hx hb dX10_best_97 rfl hl (by decide) rfl (fun ls hl => ?_)
                refine lv_aload_n hx hb dX10_best_98 rfl (lv_at hl 5 rfl) ?_
                refine lv_iload hx hb dX10_best_99 (lv_at hl 1 rfl) ?_
                refine lv_if_eq (tgt := 109) hx hb dX10_best_101 (by decide) (fun c_18 => ?_) (fun c_18 => absurd (by decide +kernel) c_18)
                refine lv_aload_n hx hb dX10_best_109 rfl (lv_at hl 5 rfl) ?_
                refine va_get (D := D) (ci := 10) (v := .int (u_4 35)) (C := RX10) (T := TX10) (N := 45) hx hb hts iX10 hown hK hP 0 rfl rfl 35 (by decide) (hts _ wd_656) (fun _ h9 => h9) rfl dX10_best_110 ?_
                refine va_put (D := D) (ci := 10) (v := .int (u_4 35)) (ty := .int) (C := RX10) (T := TX10) (N := 45) hx hb hts iX10 tyX10 tyX10_ok nmX10 hown hK hP hD hS 0 rfl rfl 35 (by decide) (hts _ wd_656) (fun _ h9 => h9) rfl (by decide +kernel) rfl rfl (Nat.le_of_ble_eq_true rfl) dX10_best_113 (fun H locs hP hD hS => ?_)
                have hP : va_P D classes [(h, .inr (10, ML (upd u_4 35 (u_4 35)) Rf)), ((Rf 0), .inl (cI, 1302, .inl f0)), ((Rf 10), .inl (cI, 30, .inl f10)), ((Rf 8), .inl (cI, 6, .inl f8))] H := hP
                have hD : va_D A [(h, .inr (10, ML (upd u_4 35 (u_4 35)) Rf)), ((Rf 0), .inl (cI, 1302, .inl f0)), ((Rf 10), .inl (cI, 30, .inl f10)), ((Rf 8), .inl (cI, 6, .inl f8))] := hD
                refine lv_iload hx hb dX10_best_116 (lv_at hl 1 rfl) ?_
                refine lv_if_eq (tgt := 128) hx hb dX10_best_118 (by decide) (fun c_19 => ?_) (fun c_19 => absurd (by decide +kernel) c_19)
                refine lv_iload hx hb dX10_best_128 (lv_at hl 4 rfl) ?_
                refine lv_istore (lv' := [(4, .int w_1l4), (3, .int w_1l3), (7, .int 0), (6, .int ((f0 ((0 + c_) : Int32).toNatClampNeg) - (u_4 33))), (5, .int w_1l5), (0, .ref h), (1, .int c_), (2, .int b_)]) hx hb dX10_best_130 hl (by decide) rfl (fun ls hl => ?_)
                refine lv_iinc (v := (w_1l5 + 1)) (lv' := [(5, .int (w_1l5 + 1)), (4, .int w_1l4), (3, .int w_1l3), (7, .int 0), (6, .int ((f0 ((0 + c_) : Int32).toNatClampNeg) - (u_4 33))), (0, .ref h), (1, .int c_), (2, .int b_)]) hx hb dX10_best_132 hl (k := 4) rfl rfl (by decide) rfl (fun ls hl => ?_)
                refine lv_goto (tgt := 17) hx hb dX10_best_135 (by decide) ?_
                exact ih_w_1 (w_1l5 + 1) w_1l4 w_1l3 (upd u_4 35 (u_4 35)) _ _ ls hP hD hS (lv_sub hl [0, 1, 2, 5, 6, 7] rfl) hF hE
              · replace hF := hF.2 c_16
                rw [if_neg c_16] at hE
                refine lv_iconst (v := 1) hx hb dX10_best_79 (by decide) ?_
                refine lv_goto (tgt := 84) hx hb dX10_best_80 (by decide) ?_
                refine lv_istore (lv' := [(7, .int 1), (6, .int ((f0 ((0 + c_) : Int32).toNatClampNeg) - (u_4 33))), (5, .int w_1l5), (4, .int w_1l4), (3, .int w_1l3), (0, .ref h), (1, .int c_), (2, .int b_)]) hx hb dX10_best_84 hl (by decide) rfl (fun ls hl => ?_)
                refine lv_iload hx hb dX10_best_86 (lv_at hl 0 rfl) ?_
                refine lv_if_eq (tgt := 96) hx hb dX10_best_88 (by decide) (fun c_20 => absurd c_20 (by decide +kernel)) (fun c_20 => ?_)
                refine lv_iload hx hb dX10_best_91 (lv_at hl 2 rfl) ?_
                refine lv_goto (tgt := 97) hx hb dX10_best_93 (by decide) ?_
                refine lv_istore_n (lv' := [(3, .int w_1l5), (7, .int 1), (6, .int ((f0 ((0 + c_) : Int32).toNatClampNeg) - (u_4 33))), (5, .int w_1l5), (4, .int w_1l4), (0, .ref h), (1, .int c_), (2, .int b_)]) hx hb dX10_best_97 rfl hl (by decide) rfl (fun ls hl => ?_)
                refine lv_aload_n hx hb dX10_best_98 rfl (lv_at hl 5 rfl) ?_
                refine lv_iload hx hb dX10_best_99 (lv_at hl 1 rfl) ?_
                refine lv_if_eq (tgt := 109) hx hb dX10_best_101 (by decide) (fun c_21 => absurd c_21 (by decide +kernel)) (fun c_21 => ?_)
                refine lv_iload hx hb dX10_best_104 (lv_at hl 2 rfl) ?_
                refine lv_goto (tgt := 113) hx hb dX10_best_106 (by decide) ?_
                refine va_put (D := D) (ci := 10) (v := .int ((f0 ((0 + c_) : Int32).toNatClampNeg) - (u_4 33))) (ty := .int) (C := RX10) (T := TX10) (N := 45) hx hb hts iX10 tyX10 tyX10_ok nmX10 hown hK hP hD hS 0 rfl rfl 35 (by decide) (hts _ wd_656) (fun _ h9 => h9) rfl (by decide +kernel) rfl rfl (Nat.le_of_ble_eq_true rfl) dX10_best_113 (fun H locs hP hD hS => ?_)
                have hP : va_P D classes [(h, .inr (10, ML (upd u_4 35 ((f0 ((0 + c_) : Int32).toNatClampNeg) - (u_4 33))) Rf)), ((Rf 0), .inl (cI, 1302, .inl f0)), ((Rf 10), .inl (cI, 30, .inl f10)), ((Rf 8), .inl (cI, 6, .inl f8))] H := hP
                have hD : va_D A [(h, .inr (10, ML (upd u_4 35 ((f0 ((0 + c_) : Int32).toNatClampNeg) - (u_4 33))) Rf)), ((Rf 0), .inl (cI, 1302, .inl f0)), ((Rf 10), .inl (cI, 30, .inl f10)), ((Rf 8), .inl (cI, 6, .inl f8))] := hD
                refine lv_iload hx hb dX10_best_116 (lv_at hl 1 rfl) ?_
                refine lv_if_eq (tgt := 128) hx hb dX10_best_118 (by decide) (fun c_22 => absurd c_22 (by decide +kernel)) (fun c_22 => ?_)
                refine lv_aload_n hx hb dX10_best_121 rfl (lv_at hl 5 rfl) ?_
                refine va_get (D := D) (ci := 10) (v := .int (u_4 32)) (C := RX10) (T := TX10) (N := 45) hx hb hts iX10 hown hK hP 0 rfl rfl 32 (by decide) (hts _ wd_549) (fun _ h9 => h9) rfl dX10_best_122 ?_
                refine lv_goto (tgt := 130) hx hb dX10_best_125 (by decide) ?_
                refine lv_istore (lv' := [(4, .int (u_4 32)), (3, .int w_1l5), (7, .int 1), (6, .int ((f0 ((0 + c_) : Int32).toNatClampNeg) - (u_4 33))), (5, .int w_1l5), (0, .ref h), (1, .int c_), (2, .int b_)]) hx hb dX10_best_130 hl (by decide) rfl (fun ls hl => ?_)
                refine lv_iinc (v := (w_1l5 + 1)) (lv' := [(5, .int (w_1l5 + 1)), (4, .int (u_4 32)), (3, .int w_1l5), (7, .int 1), (6, .int ((f0 ((0 + c_) : Int32).toNatClampNeg) - (u_4 33))), (0, .ref h), (1, .int c_), (2, .int b_)]) hx hb dX10_best_132 hl (k := 4) rfl rfl (by decide) rfl (fun ls hl => ?_)
                refine lv_goto (tgt := 17) hx hb dX10_best_135 (by decide) ?_
                exact ih_w_1 (w_1l5 + 1) (u_4 32) w_1l5 (upd u_4 35 ((f0 ((0 + c_) : Int32).toNatClampNeg) - (u_4 33))) _ _ ls hP hD hS (lv_sub hl [0, 1, 2, 5, 6, 7] rfl) hF hE
  exact lp_17_w_1 10 0 999 (-1) (upd G 35 999) _ _ ls hP hD hS hl hF hE
noncomputable def f_m_bestTheme (G : Nat → Int32) (f0 : Nat → Int32) (f10 : Nat → Int32) (f8 : Nat → Int32) (c_ : Int32) (b_ : Int32) : Int32 × (Nat → Int32) := (if (f_m_isCouple G c_) = 0 then ((-1000000001), G) else (if (f_m_isBridge G b_) = 0 then ((-1000000001), G) else (match (f_m_best G f0 f10 f8 c_ b_) with | (r_11, u_10) => (r_11, u_10))))
def S_m_bestTheme (G : Nat → Int32) (f0 : Nat → Int32) (f10 : Nat → Int32) (f8 : Nat → Int32) (c_ : Int32) (b_ : Int32) : Prop := ((S_m_isCouple G c_) ∧ (((f_m_isCouple G c_) = 0 → True) ∧ (¬ (f_m_isCouple G c_) = 0 → ((S_m_isBridge G b_) ∧ (((f_m_isBridge G b_) = 0 → True) ∧ (¬ (f_m_isBridge G b_) = 0 → ((S_m_best G f0 f10 f8 c_ b_) ∧ (∀ (r_11 : Int32) (u_10 : (Nat → Int32)), (r_11, u_10) = (f_m_best G f0 f10 f8 c_ b_) → True))))))))
def rm_m_bestTheme : Room := { frames := 4, cells := 0, slots := 0, locals := 100 }
set_option maxHeartbeats 4000000 in
set_option maxRecDepth 100000 in
theorem m_bestTheme {l : Launch} {D : va_G} {cI cZ : ClassId} {sz : Nat} (Rf : Nat → Nat) (h : Nat) (G : Nat → Int32) (f0 : Nat → Int32) (f10 : Nat → Int32) (f8 : Nat → Int32) (c_ : Int32) (b_ : Int32) (hF : S_m_bestTheme G f0 f10 f8 c_ b_) : KI l yX10_bestTheme cX10_bestTheme 3 (some .int) rm_m_bestTheme D cI cZ [.ref h, .int c_, .int b_] sz [(h, .inr (10, ML G Rf)), ((Rf 0), .inl (cI, 1302, .inl f0)), ((Rf 10), .inl (cI, 30, .inl f10)), ((Rf 8), .inl (cI, 6, .inl f8))] (fun (r : Int32) (u : (Nat → Int32)) => (r, u) = f_m_bestTheme G f0 f10 f8 c_ b_) (fun (u : (Nat → Int32)) => [(h, .inr (10, ML u Rf)), ((Rf 0), .inl (cI, 1302, .inl f0)), ((Rf 10), .inl (cI, 30, .inl f10)), ((Rf 8), .inl (cI, 6, .inl f8))]) := by
  refine KI.go rfl (Nat.le_of_ble_eq_true rfl) ?_
  intro p e s m args below meth c ls A Q hx hb hml hts hown hin hP hK hD hS hA hN hl hret
  have hl : lv_has ls 3 [(0, .ref h), (1, .int c_), (2, .int b_)] := hl
  rw [S_m_bestTheme] at hF
  obtain ⟨RES, hE⟩ : ∃ xRES, f_m_bestTheme G f0 f10 f8 c_ b_ = xRES := ⟨_, rfl⟩
  rw [hE] at hret
  rw [f_m_bestTheme] at hE
  refine lv_aload_n hx hb dX10_bestTheme_0 rfl (lv_at hl 0 rfl) ?_
  refine lv_iload_n hx hb dX10_bestTheme_1 rfl (lv_at hl 1 rfl) ?_
  obtain ⟨hs_1, hF⟩ := hF
  refine cVi (wr := [((Rf 0), .inl (cI, 1302, .inl f0)), ((Rf 10), .inl (cI, 30, .inl f10)), ((Rf 8), .inl (cI, 6, .inl f8))]) (rest := []) (m_isCouple Rf h G c_ hs_1) okV_X10_isCouple wd_581 hx hb hml hown hts hK hP hD hS hA hN hl.1 [0] [1, 2, 3] rfl rfl rfl rfl (by decide) rfl rfl rfl (Nat.le_of_ble_eq_true rfl) (Nat.le_of_ble_eq_true rfl) (Nat.le_of_ble_eq_true rfl) (Nat.le_of_ble_eq_true rfl) (Nat.le_of_ble_eq_true rfl) dX10_bestTheme_2 (fun r_3 u_2 H locs hw_u_2 hP hD hS => ?_)
  replace hw_u_2 : r_3 = (f_m_isCouple G c_) := hw_u_2
  rw [hw_u_2]
  clear hw_u_2
  have hP : va_P D classes [((Rf 0), .inl (cI, 1302, .inl f0)), ((Rf 10), .inl (cI, 30, .inl f10)), ((Rf 8), .inl (cI, 6, .inl f8)), (h, .inr (10, ML G Rf))] H := hP
  have hD : va_D A [((Rf 0), .inl (cI, 1302, .inl f0)), ((Rf 10), .inl (cI, 30, .inl f10)), ((Rf 8), .inl (cI, 6, .inl f8)), (h, .inr (10, ML G Rf))] := hD
  refine lv_if_eq (tgt := 25) hx hb dX10_bestTheme_5 (by decide) (fun c_4 => ?_) (fun c_4 => ?_)
  · replace hF := hF.1 c_4
    rw [if_pos c_4] at hE
    refine lv_ldc (v := (-1000000001)) hx hb hown (hts _ wd_580) dX10_bestTheme_25 ?_
    exact hret (-1000000001) G _ _ _ _ dX10_bestTheme_27 rfl hE (cutP (isC := [3, 0, 1, 2]) hP rfl) (cutD (isC := [3, 0, 1, 2]) hD rfl rfl) hS
  · replace hF := hF.2 c_4
    rw [if_neg c_4] at hE
    refine lv_aload_n hx hb dX10_bestTheme_8 rfl (lv_at hl 0 rfl) ?_
    refine lv_iload_n hx hb dX10_bestTheme_9 rfl (lv_at hl 2 rfl) ?_
    obtain ⟨hs_5, hF⟩ := hF
    refine cVi (wr := [((Rf 0), .inl (cI, 1302, .inl f0)), ((Rf 10), .inl (cI, 30, .inl f10)), ((Rf 8), .inl (cI, 6, .inl f8))]) (rest := []) (m_isBridge Rf h G b_ hs_5) okV_X10_isBridge wd_571 hx hb hml hown hts hK hP hD hS hA hN hl.1 [3] [0, 1, 2] rfl rfl rfl rfl (by decide) rfl rfl rfl (Nat.le_of_ble_eq_true rfl) (Nat.le_of_ble_eq_true rfl) (Nat.le_of_ble_eq_true rfl) (Nat.le_of_ble_eq_true rfl) (Nat.le_of_ble_eq_true rfl) dX10_bestTheme_10 (fun r_7 u_6 H locs hw_u_6 hP hD hS => ?_)
    replace hw_u_6 : r_7 = (f_m_isBridge G b_) := hw_u_6
    rw [hw_u_6]
    clear hw_u_6
    have hP : va_P D classes [((Rf 0), .inl (cI, 1302, .inl f0)), ((Rf 10), .inl (cI, 30, .inl f10)), ((Rf 8), .inl (cI, 6, .inl f8)), (h, .inr (10, ML G Rf))] H := hP
    have hD : va_D A [((Rf 0), .inl (cI, 1302, .inl f0)), ((Rf 10), .inl (cI, 30, .inl f10)), ((Rf 8), .inl (cI, 6, .inl f8)), (h, .inr (10, ML G Rf))] := hD
    refine lv_if_eq (tgt := 25) hx hb dX10_bestTheme_13 (by decide) (fun c_8 => ?_) (fun c_8 => ?_)
    · replace hF := hF.1 c_8
      rw [if_pos c_8] at hE
      refine lv_ldc (v := (-1000000001)) hx hb hown (hts _ wd_580) dX10_bestTheme_25 ?_
      exact hret (-1000000001) G _ _ _ _ dX10_bestTheme_27 rfl hE (cutP (isC := [3, 0, 1, 2]) hP rfl) (cutD (isC := [3, 0, 1, 2]) hD rfl rfl) hS
    · replace hF := hF.2 c_8
      rw [if_neg c_8] at hE
      refine lv_aload_n hx hb dX10_bestTheme_16 rfl (lv_at hl 0 rfl) ?_
      refine lv_iload_n hx hb dX10_bestTheme_17 rfl (lv_at hl 1 rfl) ?_
      refine lv_iload_n hx hb dX10_bestTheme_18 rfl (lv_at hl 2 rfl) ?_
      obtain ⟨hs_9, hF⟩ := hF
      refine cVi (wr := []) (rest := []) (m_best Rf h G f0 f10 f8 c_ b_ hs_9) okV_X10_best wd_657 hx hb hml hown hts hK hP hD hS hA hN hl.1 [3, 0, 1, 2] [] rfl rfl rfl rfl (by decide) rfl rfl rfl (Nat.le_of_ble_eq_true rfl) (Nat.le_of_ble_eq_true rfl) (Nat.le_of_ble_eq_true rfl) (Nat.le_of_ble_eq_true rfl) (Nat.le_of_ble_eq_true rfl) dX10_bestTheme_19 (fun r_11 u_10 H locs hw_u_10 hP hD hS => ?_)
      replace hw_u_10 : (r_11, u_10) = (f_m_best G f0 f10 f8 c_ b_) := hw_u_10
      replace hF := hF r_11 u_10 hw_u_10
      rw [← hw_u_10] at hE
      replace hE : ((r_11, u_10) : Int32 × (Nat → Int32)) = RES := hE
      have hP : va_P D classes [(h, .inr (10, ML u_10 Rf)), ((Rf 0), .inl (cI, 1302, .inl f0)), ((Rf 10), .inl (cI, 30, .inl f10)), ((Rf 8), .inl (cI, 6, .inl f8))] H := hP
      have hD : va_D A [(h, .inr (10, ML u_10 Rf)), ((Rf 0), .inl (cI, 1302, .inl f0)), ((Rf 10), .inl (cI, 30, .inl f10)), ((Rf 8), .inl (cI, 6, .inl f8))] := hD
      refine lv_goto (tgt := 27) hx hb dX10_bestTheme_22 (by decide) ?_
      exact hret r_11 u_10 _ _ _ _ dX10_bestTheme_27 rfl hE hP hD hS
noncomputable def f_m_carried_63 (G : Nat → Int32) (f0 : Nat → Int32) (b_ : Int32) (n : Nat) : Int32 → Int32 → Int32 → Int32 → Int32 × Int32 × Int32 × Int32 := Nat.rec (motive := fun _ => Int32 → Int32 → Int32 → Int32 → Int32 × Int32 × Int32 × Int32) (fun w_11l6 w_11l5 w_11l4 w_11l3 => (w_11l6, w_11l5, w_11l4, w_11l3)) (fun n ih w_11l6 w_11l5 w_11l4 w_11l3 => (if (G 3) ≤ w_11l6 then (w_11l6, w_11l5, w_11l4, w_11l3) else (if w_11l3 = 0 then (if w_11l4 = (-1) then (if w_11l6 = b_ then (if (f_m_whoIsAt G f0 0 w_11l6) = (-1) then (ih (w_11l6 + 1) w_11l3 w_11l6 w_11l3) else (ih (w_11l6 + 1) w_11l3 w_11l6 (w_11l3 / 2))) else (if (f_m_whoIsAt G f0 0 w_11l6) = (-1) then (ih (w_11l6 + 1) w_11l5 w_11l6 w_11l3) else (ih (w_11l6 + 1) w_11l5 w_11l6 (w_11l3 / 2)))) else (if w_11l6 = b_ then (if (f_m_whoIsAt G f0 0 w_11l6) = (-1) then (ih (w_11l6 + 1) w_11l3 w_11l4 w_11l3) else (ih (w_11l6 + 1) w_11l3 w_11l4 (w_11l3 / 2))) else (if (f_m_whoIsAt G f0 0 w_11l6) = (-1) then (ih (w_11l6 + 1) w_11l5 w_11l4 w_11l3) else (ih (w_11l6 + 1) w_11l5 w_11l4 (w_11l3 / 2))))) else (if w_11l6 = b_ then (if (f_m_whoIsAt G f0 0 w_11l6) = (-1) then (ih (w_11l6 + 1) w_11l3 w_11l4 w_11l3) else (ih (w_11l6 + 1) w_11l3 w_11l4 (w_11l3 / 2))) else (if (f_m_whoIsAt G f0 0 w_11l6) = (-1) then (ih (w_11l6 + 1) w_11l5 w_11l4 w_11l3) else (ih (w_11l6 + 1) w_11l5 w_11l4 (w_11l3 / 2))))))) n
theorem f_m_carried_63_s (G : Nat → Int32) (f0 : Nat → Int32) (b_ : Int32) (n : Nat) (w_11l6 : Int32) (w_11l5 : Int32) (w_11l4 : Int32) (w_11l3 : Int32) : f_m_carried_63 G f0 b_ (n + 1) w_11l6 w_11l5 w_11l4 w_11l3 = (if (G 3) ≤ w_11l6 then (w_11l6, w_11l5, w_11l4, w_11l3) else (if w_11l3 = 0 then (if w_11l4 = (-1) then (if w_11l6 = b_ then (if (f_m_whoIsAt G f0 0 w_11l6) = (-1) then (f_m_carried_63 G f0 b_ n (w_11l6 + 1) w_11l3 w_11l6 w_11l3) else (f_m_carried_63 G f0 b_ n (w_11l6 + 1) w_11l3 w_11l6 (w_11l3 / 2))) else (if (f_m_whoIsAt G f0 0 w_11l6) = (-1) then (f_m_carried_63 G f0 b_ n (w_11l6 + 1) w_11l5 w_11l6 w_11l3) else (f_m_carried_63 G f0 b_ n (w_11l6 + 1) w_11l5 w_11l6 (w_11l3 / 2)))) else (if w_11l6 = b_ then (if (f_m_whoIsAt G f0 0 w_11l6) = (-1) then (f_m_carried_63 G f0 b_ n (w_11l6 + 1) w_11l3 w_11l4 w_11l3) else (f_m_carried_63 G f0 b_ n (w_11l6 + 1) w_11l3 w_11l4 (w_11l3 / 2))) else (if (f_m_whoIsAt G f0 0 w_11l6) = (-1) then (f_m_carried_63 G f0 b_ n (w_11l6 + 1) w_11l5 w_11l4 w_11l3) else (f_m_carried_63 G f0 b_ n (w_11l6 + 1) w_11l5 w_11l4 (w_11l3 / 2))))) else (if w_11l6 = b_ then (if (f_m_whoIsAt G f0 0 w_11l6) = (-1) then (f_m_carried_63 G f0 b_ n (w_11l6 + 1) w_11l3 w_11l4 w_11l3) else (f_m_carried_63 G f0 b_ n (w_11l6 + 1) w_11l3 w_11l4 (w_11l3 / 2))) else (if (f_m_whoIsAt G f0 0 w_11l6) = (-1) then (f_m_carried_63 G f0 b_ n (w_11l6 + 1) w_11l5 w_11l4 w_11l3) else (f_m_carried_63 G f0 b_ n (w_11l6 + 1) w_11l5 w_11l4 (w_11l3 / 2)))))) := rfl
def S_m_carried_63 (G : Nat → Int32) (f0 : Nat → Int32) (b_ : Int32) (K : Int32 → Int32 → Int32 → Int32 → Prop) (n : Nat) : Int32 → Int32 → Int32 → Int32 → Prop := Nat.rec (motive := fun _ => Int32 → Int32 → Int32 → Int32 → Prop) (fun _ _ _ _ => True) (fun n ih w_11l6 w_11l5 w_11l4 w_11l3 => (((G 3) ≤ w_11l6 → (K w_11l6 w_11l5 w_11l4 w_11l3)) ∧ (¬ (G 3) ≤ w_11l6 → ((w_11l3 = 0 → ((w_11l4 = (-1) → ((w_11l6 = b_ → ((S_m_whoIsAt G f0 0 w_11l6) ∧ (((f_m_whoIsAt G f0 0 w_11l6) = (-1) → (ih (w_11l6 + 1) w_11l3 w_11l6 w_11l3)) ∧ (¬ (f_m_whoIsAt G f0 0 w_11l6) = (-1) → (ih (w_11l6 + 1) w_11l3 w_11l6 (w_11l3 / 2)))))) ∧ (¬ w_11l6 = b_ → ((S_m_whoIsAt G f0 0 w_11l6) ∧ (((f_m_whoIsAt G f0 0 w_11l6) = (-1) → (ih (w_11l6 + 1) w_11l5 w_11l6 w_11l3)) ∧ (¬ (f_m_whoIsAt G f0 0 w_11l6) = (-1) → (ih (w_11l6 + 1) w_11l5 w_11l6 (w_11l3 / 2)))))))) ∧ (¬ w_11l4 = (-1) → ((w_11l6 = b_ → ((S_m_whoIsAt G f0 0 w_11l6) ∧ (((f_m_whoIsAt G f0 0 w_11l6) = (-1) → (ih (w_11l6 + 1) w_11l3 w_11l4 w_11l3)) ∧ (¬ (f_m_whoIsAt G f0 0 w_11l6) = (-1) → (ih (w_11l6 + 1) w_11l3 w_11l4 (w_11l3 / 2)))))) ∧ (¬ w_11l6 = b_ → ((S_m_whoIsAt G f0 0 w_11l6) ∧ (((f_m_whoIsAt G f0 0 w_11l6) = (-1) → (ih (w_11l6 + 1) w_11l5 w_11l4 w_11l3)) ∧ (¬ (f_m_whoIsAt G f0 0 w_11l6) = (-1) → (ih (w_11l6 + 1) w_11l5 w_11l4 (w_11l3 / 2)))))))))) ∧ (¬ w_11l3 = 0 → ((w_11l6 = b_ → ((S_m_whoIsAt G f0 0 w_11l6) ∧ (((f_m_whoIsAt G f0 0 w_11l6) = (-1) → (ih (w_11l6 + 1) w_11l3 w_11l4 w_11l3)) ∧ (¬ (f_m_whoIsAt G f0 0 w_11l6) = (-1) → (ih (w_11l6 + 1) w_11l3 w_11l4 (w_11l3 / 2)))))) ∧ (¬ w_11l6 = b_ → ((S_m_whoIsAt G f0 0 w_11l6) ∧ (((f_m_whoIsAt G f0 0 w_11l6) = (-1) → (ih (w_11l6 + 1) w_11l5 w_11l4 w_11l3)) ∧ (¬ (f_m_whoIsAt G f0 0 w_11l6) = (-1) → (ih (w_11l6 + 1) w_11l5 w_11l4 (w_11l3 / 2)))))))))))) n
theorem S_m_carried_63_s (G : Nat → Int32) (f0 : Nat → Int32) (b_ : Int32) (K : Int32 → Int32 → Int32 → Int32 → Prop) (n : Nat) (w_11l6 : Int32) (w_11l5 : Int32) (w_11l4 : Int32) (w_11l3 : Int32) : S_m_carried_63 G f0 b_ K (n + 1) w_11l6 w_11l5 w_11l4 w_11l3 = ((((G 3) ≤ w_11l6 → (K w_11l6 w_11l5 w_11l4 w_11l3)) ∧ (¬ (G 3) ≤ w_11l6 → ((w_11l3 = 0 → ((w_11l4 = (-1) → ((w_11l6 = b_ → ((S_m_whoIsAt G f0 0 w_11l6) ∧ (((f_m_whoIsAt G f0 0 w_11l6) = (-1) → (S_m_carried_63 G f0 b_ K n (w_11l6 + 1) w_11l3 w_11l6 w_11l3)) ∧ (¬ (f_m_whoIsAt G f0 0 w_11l6) = (-1) → (S_m_carried_63 G f0 b_ K n (w_11l6 + 1) w_11l3 w_11l6 (w_11l3 / 2)))))) ∧ (¬ w_11l6 = b_ → ((S_m_whoIsAt G f0 0 w_11l6) ∧ (((f_m_whoIsAt G f0 0 w_11l6) = (-1) → (S_m_carried_63 G f0 b_ K n (w_11l6 + 1) w_11l5 w_11l6 w_11l3)) ∧ (¬ (f_m_whoIsAt G f0 0 w_11l6) = (-1) → (S_m_carried_63 G f0 b_ K n (w_11l6 + 1) w_11l5 w_11l6 (w_11l3 / 2)))))))) ∧ (¬ w_11l4 = (-1) → ((w_11l6 = b_ → ((S_m_whoIsAt G f0 0 w_11l6) ∧ (((f_m_whoIsAt G f0 0 w_11l6) = (-1) → (S_m_carried_63 G f0 b_ K n (w_11l6 + 1) w_11l3 w_11l4 w_11l3)) ∧ (¬ (f_m_whoIsAt G f0 0 w_11l6) = (-1) → (S_m_carried_63 G f0 b_ K n (w_11l6 + 1) w_11l3 w_11l4 (w_11l3 / 2)))))) ∧ (¬ w_11l6 = b_ → ((S_m_whoIsAt G f0 0 w_11l6) ∧ (((f_m_whoIsAt G f0 0 w_11l6) = (-1) → (S_m_carried_63 G f0 b_ K n (w_11l6 + 1) w_11l5 w_11l4 w_11l3)) ∧ (¬ (f_m_whoIsAt G f0 0 w_11l6) = (-1) → (S_m_carried_63 G f0 b_ K n (w_11l6 + 1) w_11l5 w_11l4 (w_11l3 / 2)))))))))) ∧ (¬ w_11l3 = 0 → ((w_11l6 = b_ → ((S_m_whoIsAt G f0 0 w_11l6) ∧ (((f_m_whoIsAt G f0 0 w_11l6) = (-1) → (S_m_carried_63 G f0 b_ K n (w_11l6 + 1) w_11l3 w_11l4 w_11l3)) ∧ (¬ (f_m_whoIsAt G f0 0 w_11l6) = (-1) → (S_m_carried_63 G f0 b_ K n (w_11l6 + 1) w_11l3 w_11l4 (w_11l3 / 2)))))) ∧ (¬ w_11l6 = b_ → ((S_m_whoIsAt G f0 0 w_11l6) ∧ (((f_m_whoIsAt G f0 0 w_11l6) = (-1) → (S_m_carried_63 G f0 b_ K n (w_11l6 + 1) w_11l5 w_11l4 w_11l3)) ∧ (¬ (f_m_whoIsAt G f0 0 w_11l6) = (-1) → (S_m_carried_63 G f0 b_ K n (w_11l6 + 1) w_11l5 w_11l4 (w_11l3 / 2)))))))))))) := rfl
noncomputable def f_m_carried (G : Nat → Int32) (f0 : Nat → Int32) (f10 : Nat → Int32) (b_ : Int32) : Int32 := (if b_ = (-1) then (if (f_m_whoIsAt G f0 0 0) = (-1) then (-1000000003) else (match ((f_m_carried_63 G f0 b_ ((((G 3) : Int32).toInt - (1 : Int32).toInt).toNat + 1) 1 0 (-1) (f_m_stampOf G f10 (f_m_whoIsAt G f0 0 0) (f0 ((12 + (f_m_whoIsAt G f0 0 0)) : Int32).toNatClampNeg) (f0 ((0 + (f_m_whoIsAt G f0 0 0)) : Int32).toNatClampNeg))) : Int32 × Int32 × Int32 × Int32) with | (w_11l6, w_11l5, w_11l4, w_11l3) => (if b_ = (-1) then w_11l4 else w_11l5))) else (if (f_m_isBridge G b_) = 0 then (-1000000001) else (if (f_m_whoIsAt G f0 0 0) = (-1) then (-1000000003) else (match ((f_m_carried_63 G f0 b_ ((((G 3) : Int32).toInt - (1 : Int32).toInt).toNat + 1) 1 0 (-1) (f_m_stampOf G f10 (f_m_whoIsAt G f0 0 0) (f0 ((12 + (f_m_whoIsAt G f0 0 0)) : Int32).toNatClampNeg) (f0 ((0 + (f_m_whoIsAt G f0 0 0)) : Int32).toNatClampNeg))) : Int32 × Int32 × Int32 × Int32) with | (w_56l6, w_56l5, w_56l4, w_56l3) => (if b_ = (-1) then w_56l4 else w_56l5)))))
def S_m_carried (G : Nat → Int32) (f0 : Nat → Int32) (f10 : Nat → Int32) (b_ : Int32) : Prop := ((b_ = (-1) → ((S_m_whoIsAt G f0 0 0) ∧ (((f_m_whoIsAt G f0 0 0) = (-1) → True) ∧ (¬ (f_m_whoIsAt G f0 0 0) = (-1) → (vp_in (12 + (f_m_whoIsAt G f0 0 0)) 1302 ∧ (vp_in (0 + (f_m_whoIsAt G f0 0 0)) 1302 ∧ ((S_m_stampOf G f10 (f_m_whoIsAt G f0 0 0) (f0 ((12 + (f_m_whoIsAt G f0 0 0)) : Int32).toNatClampNeg) (f0 ((0 + (f_m_whoIsAt G f0 0 0)) : Int32).toNatClampNeg)) ∧ (S_m_carried_63 G f0 b_ (fun (w_11l6 : Int32) (w_11l5 : Int32) (w_11l4 : Int32) (w_11l3 : Int32) => ((b_ = (-1) → True) ∧ (¬ b_ = (-1) → True))) ((((G 3) : Int32).toInt - (1 : Int32).toInt).toNat + 1) 1 0 (-1) (f_m_stampOf G f10 (f_m_whoIsAt G f0 0 0) (f0 ((12 + (f_m_whoIsAt G f0 0 0)) : Int32).toNatClampNeg) (f0 ((0 + (f_m_whoIsAt G f0 0 0)) : Int32).toNatClampNeg)))))))))) ∧ (¬ b_ = (-1) → ((S_m_isBridge G b_) ∧ (((f_m_isBridge G b_) = 0 → True) ∧ (¬ (f_m_isBridge G b_) = 0 → ((S_m_whoIsAt G f0 0 0) ∧ (((f_m_whoIsAt G f0 0 0) = (-1) → True) ∧ (¬ (f_m_whoIsAt G f0 0 0) = (-1) → (vp_in (12 + (f_m_whoIsAt G f0 0 0)) 1302 ∧ (vp_in (0 + (f_m_whoIsAt G f0 0 0)) 1302 ∧ ((S_m_stampOf G f10 (f_m_whoIsAt G f0 0 0) (f0 ((12 + (f_m_whoIsAt G f0 0 0)) : Int32).toNatClampNeg) (f0 ((0 + (f_m_whoIsAt G f0 0 0)) : Int32).toNatClampNeg)) ∧ (S_m_carried_63 G f0 b_ (fun (w_56l6 : Int32) (w_56l5 : Int32) (w_56l4 : Int32) (w_56l3 : Int32) => ((b_ = (-1) → True) ∧ (¬ b_ = (-1) → True))) ((((G 3) : Int32).toInt - (1 : Int32).toInt).toNat + 1) 1 0 (-1) (f_m_stampOf G f10 (f_m_whoIsAt G f0 0 0) (f0 ((12 + (f_m_whoIsAt G f0 0 0)) : Int32).toNatClampNeg) (f0 ((0 + (f_m_whoIsAt G f0 0 0)) : Int32).toNatClampNeg))))))))))))))
def rm_m_carried : Room := { frames := 2, cells := 0, slots := 0, locals := 46 }
set_option maxHeartbeats 4000000 in
set_option maxRecDepth 100000 in
theorem m_carried {l : Launch} {D : va_G} {cI cZ : ClassId} {sz : Nat} (Rf : Nat → Nat) (h : Nat) (G : Nat → Int32) (f0 : Nat → Int32) (f10 : Nat → Int32) (b_ : Int32) (hF : S_m_carried G f0 f10 b_) : KI l yX10_carried cX10_carried 7 (some .int) rm_m_carried D cI cZ [.ref h, .int b_] sz [(h, .inr (10, ML G Rf)), ((Rf 0), .inl (cI, 1302, .inl f0)), ((Rf 10), .inl (cI, 30, .inl f10))] (fun (r : Int32) (_ : Unit) => r = f_m_carried G f0 f10 b_) (fun (_ : Unit) => [(h, .inr (10, ML G Rf)), ((Rf 0), .inl (cI, 1302, .inl f0)), ((Rf 10), .inl (cI, 30, .inl f10))]) := by
  refine KI.go rfl (Nat.le_of_ble_eq_true rfl) ?_
  intro p e s m args below meth c ls A Q hx hb hml hts hown hin hP hK hD hS hA hN hl hret
  have hl : lv_has ls 7 [(0, .ref h), (1, .int b_)] := hl
  rw [S_m_carried] at hF
  obtain ⟨RES, hE⟩ : ∃ xRES, f_m_carried G f0 f10 b_ = xRES := ⟨_, rfl⟩
  rw [hE] at hret
  rw [f_m_carried] at hE
  refine lv_iload_n hx hb dX10_carried_0 rfl (lv_at hl 1 rfl) ?_
  refine lv_iconst (v := (-1)) hx hb dX10_carried_1 (by decide) ?_
  refine lv_icmp_eq (tgt := 16) hx hb dX10_carried_2 (by decide) (fun c_1 => ?_) (fun c_1 => ?_)
  · replace hF := hF.1 c_1
    rw [if_pos c_1] at hE
    refine lv_aload_n hx hb dX10_carried_16 rfl (lv_at hl 0 rfl) ?_
    refine lv_iconst (v := 0) hx hb dX10_carried_17 (by decide) ?_
    refine lv_iconst (v := 0) hx hb dX10_carried_18 (by decide) ?_
    obtain ⟨hs_2, hF⟩ := hF
    refine cVi (wr := [((Rf 10), .inl (cI, 30, .inl f10))]) (rest := []) (m_whoIsAt Rf h G f0 0 0 hs_2) okV_X10_whoIsAt wd_575 hx hb hml hown hts hK hP hD hS hA hN hl.1 [0, 1] [2] rfl rfl rfl rfl (by decide) rfl rfl rfl (Nat.le_of_ble_eq_true rfl) (Nat.le_of_ble_eq_true rfl) (Nat.le_of_ble_eq_true rfl) (Nat.le_of_ble_eq_true rfl) (Nat.le_of_ble_eq_true rfl) dX10_carried_19 (fun r_4 u_3 H locs hw_u_3 hP hD hS => ?_)
    replace hw_u_3 : r_4 = (f_m_whoIsAt G f0 0 0) := hw_u_3
    rw [hw_u_3]
    clear hw_u_3
    have hP : va_P D classes [((Rf 10), .inl (cI, 30, .inl f10)), (h, .inr (10, ML G Rf)), ((Rf 0), .inl (cI, 1302, .inl f0))] H := hP
    have hD : va_D A [((Rf 10), .inl (cI, 30, .inl f10)), (h, .inr (10, ML G Rf)), ((Rf 0), .inl (cI, 1302, .inl f0))] := hD
    refine lv_istore_n (lv' := [(2, .int (f_m_whoIsAt G f0 0 0)), (0, .ref h), (1, .int b_)]) hx hb dX10_carried_22 rfl hl (by decide) rfl (fun ls hl => ?_)
    refine lv_iload_n hx hb dX10_carried_23 rfl (lv_at hl 0 rfl) ?_
    refine lv_iconst (v := (-1)) hx hb dX10_carried_24 (by decide) ?_
    refine lv_icmp_ne (tgt := 31) hx hb dX10_carried_25 (by decide) (fun c_5 => ?_) (fun c_5 => ?_)
    · replace hF := hF.2 c_5
      rw [if_neg c_5] at hE
      refine lv_aload_n hx hb dX10_carried_31 rfl (lv_at hl 1 rfl) ?_
      refine lv_iload_n hx hb dX10_carried_32 rfl (lv_at hl 0 rfl) ?_
      refine lv_aload_n hx hb dX10_carried_33 rfl (lv_at hl 1 rfl) ?_
      refine va_get (D := D) (ci := 10) (v := .ref (Rf 0)) (C := RX10) (T := TX10) (N := 45) hx hb hts iX10 hown hK hP 1 rfl rfl 0 (by decide) (hts _ wd_491) (fun _ h9 => h9) rfl dX10_carried_34 ?_
      refine lv_bipush (v := 12) hx hb dX10_carried_37 (by decide) ?_
      refine lv_iload_n hx hb dX10_carried_39 rfl (lv_at hl 0 rfl) ?_
      refine lv_iadd hx hb dX10_carried_40 ?_
      obtain ⟨hv_6, hF⟩ := hF
      refine va_iald hx hb hK hP 2 0 rfl rfl hv_6 dX10_carried_41 ?_
      refine lv_aload_n hx hb dX10_carried_42 rfl (lv_at hl 1 rfl) ?_
      refine va_get (D := D) (ci := 10) (v := .ref (Rf 0)) (C := RX10) (T := TX10) (N := 45) hx hb hts iX10 hown hK hP 1 rfl rfl 0 (by decide) (hts _ wd_491) (fun _ h9 => h9) rfl dX10_carried_43 ?_
      refine lv_iconst (v := 0) hx hb dX10_carried_46 (by decide) ?_
      refine lv_iload_n hx hb dX10_carried_47 rfl (lv_at hl 0 rfl) ?_
      refine lv_iadd hx hb dX10_carried_48 ?_
      obtain ⟨hv_7, hF⟩ := hF
      refine va_iald hx hb hK hP 2 0 rfl rfl hv_7 dX10_carried_49 ?_
      obtain ⟨hs_8, hF⟩ := hF
      refine cVi (wr := [((Rf 0), .inl (cI, 1302, .inl f0))]) (rest := []) (m_stampOf Rf h G f10 (f_m_whoIsAt G f0 0 0) (f0 ((12 + (f_m_whoIsAt G f0 0 0)) : Int32).toNatClampNeg) (f0 ((0 + (f_m_whoIsAt G f0 0 0)) : Int32).toNatClampNeg) hs_8) okV_X10_stampOf wd_551 hx hb hml hown hts hK hP hD hS hA hN hl.1 [1, 0] [2] rfl rfl rfl rfl (by decide) rfl rfl rfl (Nat.le_of_ble_eq_true rfl) (Nat.le_of_ble_eq_true rfl) (Nat.le_of_ble_eq_true rfl) (Nat.le_of_ble_eq_true rfl) (Nat.le_of_ble_eq_true rfl) dX10_carried_50 (fun r_10 u_9 H locs hw_u_9 hP hD hS => ?_)
      replace hw_u_9 : r_10 = (f_m_stampOf G f10 (f_m_whoIsAt G f0 0 0) (f0 ((12 + (f_m_whoIsAt G f0 0 0)) : Int32).toNatClampNeg) (f0 ((0 + (f_m_whoIsAt G f0 0 0)) : Int32).toNatClampNeg)) := hw_u_9
      rw [hw_u_9]
      clear hw_u_9
      have hP : va_P D classes [((Rf 0), .inl (cI, 1302, .inl f0)), (h, .inr (10, ML G Rf)), ((Rf 10), .inl (cI, 30, .inl f10))] H := hP
      have hD : va_D A [((Rf 0), .inl (cI, 1302, .inl f0)), (h, .inr (10, ML G Rf)), ((Rf 10), .inl (cI, 30, .inl f10))] := hD
      refine lv_istore_n (lv' := [(3, .int (f_m_stampOf G f10 (f_m_whoIsAt G f0 0 0) (f0 ((12 + (f_m_whoIsAt G f0 0 0)) : Int32).toNatClampNeg) (f0 ((0 + (f_m_whoIsAt G f0 0 0)) : Int32).toNatClampNeg))), (2, .int (f_m_whoIsAt G f0 0 0)), (0, .ref h), (1, .int b_)]) hx hb dX10_carried_53 rfl hl (by decide) rfl (fun ls hl => ?_)
      refine lv_iconst (v := (-1)) hx hb dX10_carried_54 (by decide) ?_
      refine lv_istore (lv' := [(4, .int (-1)), (3, .int (f_m_stampOf G f10 (f_m_whoIsAt G f0 0 0) (f0 ((12 + (f_m_whoIsAt G f0 0 0)) : Int32).toNatClampNeg) (f0 ((0 + (f_m_whoIsAt G f0 0 0)) : Int32).toNatClampNeg))), (2, .int (f_m_whoIsAt G f0 0 0)), (0, .ref h), (1, .int b_)]) hx hb dX10_carried_55 hl (by decide) rfl (fun ls hl => ?_)
      refine lv_iconst (v := 0) hx hb dX10_carried_57 (by decide) ?_
      refine lv_istore (lv' := [(5, .int 0), (4, .int (-1)), (3, .int (f_m_stampOf G f10 (f_m_whoIsAt G f0 0 0) (f0 ((12 + (f_m_whoIsAt G f0 0 0)) : Int32).toNatClampNeg) (f0 ((0 + (f_m_whoIsAt G f0 0 0)) : Int32).toNatClampNeg))), (2, .int (f_m_whoIsAt G f0 0 0)), (0, .ref h), (1, .int b_)]) hx hb dX10_carried_58 hl (by decide) rfl (fun ls hl => ?_)
      refine lv_iconst (v := 1) hx hb dX10_carried_60 (by decide) ?_
      refine lv_istore (lv' := [(6, .int 1), (5, .int 0), (4, .int (-1)), (3, .int (f_m_stampOf G f10 (f_m_whoIsAt G f0 0 0) (f0 ((12 + (f_m_whoIsAt G f0 0 0)) : Int32).toNatClampNeg) (f0 ((0 + (f_m_whoIsAt G f0 0 0)) : Int32).toNatClampNeg))), (2, .int (f_m_whoIsAt G f0 0 0)), (0, .ref h), (1, .int b_)]) hx hb dX10_carried_61 hl (by decide) rfl (fun ls hl => ?_)
      have ex_63_w_11 : ∀ (w_11l6 : Int32) (w_11l5 : Int32) (w_11l4 : Int32) (w_11l3 : Int32) (H : Heap) (locs : List Loc) (ls : Array Slot), va_P D classes [((Rf 0), .inl (cI, 1302, .inl f0)), (h, .inr (10, ML G Rf)), ((Rf 10), .inl (cI, 30, .inl f10))] H → va_D A [((Rf 0), .inl (cI, 1302, .inl f0)), (h, .inr (10, ML G Rf)), ((Rf 10), .inl (cI, 30, .inl f10))] → va_S A s.heap H locs → lv_has ls 7 [(6, .int w_11l6), (5, .int w_11l5), (4, .int w_11l4), (3, .int w_11l3), (2, .int (f_m_whoIsAt G f0 0 0)), (0, .ref h), (1, .int b_)] → (((b_ = (-1) → True) ∧ (¬ b_ = (-1) → True))) → (((if b_ = (-1) then w_11l4 else w_11l5)) : Int32) = RES → W p l e rm_m_carried s m args below meth c H locs 0 0 Q (F0 m 130 ls []) := by
        intro w_11l6 w_11l5 w_11l4 w_11l3 H locs ls hP hD hS hl hF hE
        refine lv_iload_n hx hb dX10_carried_130 rfl (lv_at hl 6 rfl) ?_
        refine lv_iconst (v := (-1)) hx hb dX10_carried_131 (by decide) ?_
        refine lv_icmp_ne (tgt := 140) hx hb dX10_carried_132 (by decide) (fun c_12 => ?_) (fun c_12 => ?_)
        · replace hF := hF.2 c_12
          rw [if_neg c_12] at hE
          refine lv_iload hx hb dX10_carried_140 (lv_at hl 1 rfl) ?_
          exact hret w_11l5 () _ _ _ _ dX10_carried_142 rfl hE (cutP (isC := [1, 0, 2]) hP rfl) (cutD (isC := [1, 0, 2]) hD rfl rfl) hS
        · replace hF := hF.1 c_12
          rw [if_pos c_12] at hE
          refine lv_iload hx hb dX10_carried_135 (lv_at hl 2 rfl) ?_
          refine lv_goto (tgt := 142) hx hb dX10_carried_137 (by decide) ?_
          exact hret w_11l4 () _ _ _ _ dX10_carried_142 rfl hE (cutP (isC := [1, 0, 2]) hP rfl) (cutD (isC := [1, 0, 2]) hD rfl rfl) hS
      have lp_63_w_11 : ∀ (n_w_11 : Nat) (w_11l6 : Int32) (w_11l5 : Int32) (w_11l4 : Int32) (w_11l3 : Int32) (H : Heap) (locs : List Loc) (ls : Array Slot), va_P D classes [((Rf 0), .inl (cI, 1302, .inl f0)), (h, .inr (10, ML G Rf)), ((Rf 10), .inl (cI, 30, .inl f10))] H → va_D A [((Rf 0), .inl (cI, 1302, .inl f0)), (h, .inr (10, ML G Rf)), ((Rf 10), .inl (cI, 30, .inl f10))] → va_S A s.heap H locs → lv_has ls 7 [(6, .int w_11l6), (5, .int w_11l5), (4, .int w_11l4), (3, .int w_11l3), (2, .int (f_m_whoIsAt G f0 0 0)), (0, .ref h), (1, .int b_)] → (S_m_carried_63 G f0 b_ (fun (w_11l6 : Int32) (w_11l5 : Int32) (w_11l4 : Int32) (w_11l3 : Int32) => ((b_ = (-1) → True) ∧ (¬ b_ = (-1) → True))) n_w_11 w_11l6 w_11l5 w_11l4 w_11l3) → (((G 3) : Int32).toInt - (w_11l6 : Int32).toInt).toNat < n_w_11 → ((match ((f_m_carried_63 G f0 b_ n_w_11 w_11l6 w_11l5 w_11l4 w_11l3) : Int32 × Int32 × Int32 × Int32) with | (w_11l6, w_11l5, w_11l4, w_11l3) => (if b_ = (-1) then w_11l4 else w_11l5)) : Int32) = RES → W p l e rm_m_carried s m args below meth c H locs 0 0 Q (F0 m 63 ls []) := by
        intro n_w_11
        induction n_w_11 with
        | zero => intro w_11l6 w_11l5 w_11l4 w_11l3 H locs ls hP hD hS hl hF hm; exact absurd hm (Nat.not_lt_zero _)
        | succ n_w_11 ih_w_11 =>
          intro w_11l6 w_11l5 w_11l4 w_11l3 H locs ls hP hD hS hl hF hm hE
          rw [S_m_carried_63_s] at hF
          rw [f_m_carried_63_s] at hE
          refine lv_iload hx hb dX10_carried_63 (lv_at hl 0 rfl) ?_
          refine lv_aload_n hx hb dX10_carried_65 rfl (lv_at hl 5 rfl) ?_
          refine va_get (D := D) (ci := 10) (v := .int (G 3)) (C := RX10) (T := TX10) (N := 45) hx hb hts iX10 hown hK hP 1 rfl rfl 3 (by decide) (hts _ wd_494) (fun _ h9 => h9) rfl dX10_carried_66 ?_
          refine lv_icmp_ge (tgt := 130) hx hb dX10_carried_69 (by decide) (fun c_13 => ?_) (fun c_13 => ?_)
          · replace hF := hF.1 c_13
            rw [if_pos c_13] at hE
            exact ex_63_w_11 w_11l6 w_11l5 w_11l4 w_11l3 _ _ ls hP hD hS (lv_sub hl [0, 1, 2, 3, 4, 5, 6] rfl) hF hE
          · replace hF := hF.2 c_13
            rw [if_neg c_13] at hE
            refine lv_iload_n hx hb dX10_carried_72 rfl (lv_at hl 3 rfl) ?_
            refine lv_if_ne (tgt := 87) hx hb dX10_carried_73 (by decide) (fun c_14 => ?_) (fun c_14 => ?_)
            · replace hF := hF.2 c_14
              rw [if_neg c_14] at hE
              refine lv_iload hx hb dX10_carried_87 (lv_at hl 2 rfl) ?_
              refine lv_istore (lv' := [(4, .int w_11l4), (6, .int w_11l6), (5, .int w_11l5), (3, .int w_11l3), (2, .int (f_m_whoIsAt G f0 0 0)), (0, .ref h), (1, .int b_)]) hx hb dX10_carried_89 hl (by decide) rfl (fun ls hl => ?_)
              refine lv_iload hx hb dX10_carried_91 (lv_at hl 1 rfl) ?_
              refine lv_iload_n hx hb dX10_carried_93 rfl (lv_at hl 6 rfl) ?_
              refine lv_icmp_ne (tgt := 101) hx hb dX10_carried_94 (by decide) (fun c_15 => ?_) (fun c_15 => ?_)
              · replace hF := hF.2 c_15
                rw [if_neg c_15] at hE
                refine lv_iload hx hb dX10_carried_101 (lv_at hl 2 rfl) ?_
                refine lv_istore (lv' := [(5, .int w_11l5), (4, .int w_11l4), (6, .int w_11l6), (3, .int w_11l3), (2, .int (f_m_whoIsAt G f0 0 0)), (0, .ref h), (1, .int b_)]) hx hb dX10_carried_103 hl (by decide) rfl (fun ls hl => ?_)
                refine lv_aload_n hx hb dX10_carried_105 rfl (lv_at hl 5 rfl) ?_
                refine lv_iconst (v := 0) hx hb dX10_carried_106 (by decide) ?_
                refine lv_iload hx hb dX10_carried_107 (lv_at hl 2 rfl) ?_
                obtain ⟨hs_16, hF⟩ := hF
                refine cVi (wr := [((Rf 10), .inl (cI, 30, .inl f10))]) (rest := []) (m_whoIsAt Rf h G f0 0 w_11l6 hs_16) okV_X10_whoIsAt wd_575 hx hb hml hown hts hK hP hD hS hA hN hl.1 [1, 0] [2] rfl rfl rfl rfl (by decide) rfl rfl rfl (Nat.le_of_ble_eq_true rfl) (Nat.le_of_ble_eq_true rfl) (Nat.le_of_ble_eq_true rfl) (Nat.le_of_ble_eq_true rfl) (Nat.le_of_ble_eq_true rfl) dX10_carried_109 (fun r_18 u_17 H locs hw_u_17 hP hD hS => ?_)
                replace hw_u_17 : r_18 = (f_m_whoIsAt G f0 0 w_11l6) := hw_u_17
                rw [hw_u_17]
                clear hw_u_17
                have hP : va_P D classes [((Rf 10), .inl (cI, 30, .inl f10)), (h, .inr (10, ML G Rf)), ((Rf 0), .inl (cI, 1302, .inl f0))] H := hP
                have hD : va_D A [((Rf 10), .inl (cI, 30, .inl f10)), (h, .inr (10, ML G Rf)), ((Rf 0), .inl (cI, 1302, .inl f0))] := hD
                refine lv_iconst (v := (-1)) hx hb dX10_carried_112 (by decide) ?_
                refine lv_icmp_ne (tgt := 120) hx hb dX10_carried_113 (by decide) (fun c_19 => ?_) (fun c_19 => ?_)
                · replace hF := hF.2 c_19
                  rw [if_neg c_19] at hE
                  refine lv_iload_n hx hb dX10_carried_120 rfl (lv_at hl 3 rfl) ?_
                  refine lv_iconst (v := 2) hx hb dX10_carried_121 (by decide) ?_
                  refine lv_idiv hx hb dX10_carried_122 (by decide) ?_
                  refine lv_istore_n (lv' := [(3, .int (w_11l3 / 2)), (5, .int w_11l5), (4, .int w_11l4), (6, .int w_11l6), (2, .int (f_m_whoIsAt G f0 0 0)), (0, .ref h), (1, .int b_)]) hx hb dX10_carried_123 rfl hl (by decide) rfl (fun ls hl => ?_)
                  refine lv_iinc (v := (w_11l6 + 1)) (lv' := [(6, .int (w_11l6 + 1)), (3, .int (w_11l3 / 2)), (5, .int w_11l5), (4, .int w_11l4), (2, .int (f_m_whoIsAt G f0 0 0)), (0, .ref h), (1, .int b_)]) hx hb dX10_carried_124 hl (k := 3) rfl rfl (by decide) rfl (fun ls hl => ?_)
                  refine lv_goto (tgt := 63) hx hb dX10_carried_127 (by decide) ?_
                  exact ih_w_11 (w_11l6 + 1) w_11l5 w_11l4 (w_11l3 / 2) _ _ ls (cutP (isC := [2, 1, 0]) hP rfl) (cutD (isC := [2, 1, 0]) hD rfl rfl) hS (lv_sub hl [0, 2, 3, 1, 4, 5, 6] rfl) hF (up_step c_13 hm) hE
                · replace hF := hF.1 c_19
                  rw [if_pos c_19] at hE
                  refine lv_iload_n hx hb dX10_carried_116 rfl (lv_at hl 3 rfl) ?_
                  refine lv_goto (tgt := 123) hx hb dX10_carried_117 (by decide) ?_
                  refine lv_istore_n (lv' := [(3, .int w_11l3), (5, .int w_11l5), (4, .int w_11l4), (6, .int w_11l6), (2, .int (f_m_whoIsAt G f0 0 0)), (0, .ref h), (1, .int b_)]) hx hb dX10_carried_123 rfl hl (by decide) rfl (fun ls hl => ?_)
                  refine lv_iinc (v := (w_11l6 + 1)) (lv' := [(6, .int (w_11l6 + 1)), (3, .int w_11l3), (5, .int w_11l5), (4, .int w_11l4), (2, .int (f_m_whoIsAt G f0 0 0)), (0, .ref h), (1, .int b_)]) hx hb dX10_carried_124 hl (k := 3) rfl rfl (by decide) rfl (fun ls hl => ?_)
                  refine lv_goto (tgt := 63) hx hb dX10_carried_127 (by decide) ?_
                  exact ih_w_11 (w_11l6 + 1) w_11l5 w_11l4 w_11l3 _ _ ls (cutP (isC := [2, 1, 0]) hP rfl) (cutD (isC := [2, 1, 0]) hD rfl rfl) hS (lv_sub hl [0, 2, 3, 1, 4, 5, 6] rfl) hF (up_step c_13 hm) hE
              · replace hF := hF.1 c_15
                rw [if_pos c_15] at hE
                refine lv_iload_n hx hb dX10_carried_97 rfl (lv_at hl 3 rfl) ?_
                refine lv_goto (tgt := 103) hx hb dX10_carried_98 (by decide) ?_
                refine lv_istore (lv' := [(5, .int w_11l3), (4, .int w_11l4), (6, .int w_11l6), (3, .int w_11l3), (2, .int (f_m_whoIsAt G f0 0 0)), (0, .ref h), (1, .int b_)]) hx hb dX10_carried_103 hl (by decide) rfl (fun ls hl => ?_)
                refine lv_aload_n hx hb dX10_carried_105 rfl (lv_at hl 5 rfl) ?_
                refine lv_iconst (v := 0) hx hb dX10_carried_106 (by decide) ?_
                refine lv_iload hx hb dX10_carried_107 (lv_at hl 2 rfl) ?_
                obtain ⟨hs_20, hF⟩ := hF
                refine cVi (wr := [((Rf 10), .inl (cI, 30, .inl f10))]) (rest := []) (m_whoIsAt Rf h G f0 0 w_11l6 hs_20) okV_X10_whoIsAt wd_575 hx hb hml hown hts hK hP hD hS hA hN hl.1 [1, 0] [2] rfl rfl rfl rfl (by decide) rfl rfl rfl (Nat.le_of_ble_eq_true rfl) (Nat.le_of_ble_eq_true rfl) (Nat.le_of_ble_eq_true rfl) (Nat.le_of_ble_eq_true rfl) (Nat.le_of_ble_eq_true rfl) dX10_carried_109 (fun r_22 u_21 H locs hw_u_21 hP hD hS => ?_)
                replace hw_u_21 : r_22 = (f_m_whoIsAt G f0 0 w_11l6) := hw_u_21
                rw [hw_u_21]
                clear hw_u_21
                have hP : va_P D classes [((Rf 10), .inl (cI, 30, .inl f10)), (h, .inr (10, ML G Rf)), ((Rf 0), .inl (cI, 1302, .inl f0))] H := hP
                have hD : va_D A [((Rf 10), .inl (cI, 30, .inl f10)), (h, .inr (10, ML G Rf)), ((Rf 0), .inl (cI, 1302, .inl f0))] := hD
                refine lv_iconst (v := (-1)) hx hb dX10_carried_112 (by decide) ?_
                refine lv_icmp_ne (tgt := 120) hx hb dX10_carried_113 (by decide) (fun c_23 => ?_) (fun c_23 => ?_)
                · replace hF := hF.2 c_23
                  rw [if_neg c_23] at hE
                  refine lv_iload_n hx hb dX10_carried_120 rfl (lv_at hl 3 rfl) ?_
                  refine lv_iconst (v := 2) hx hb dX10_carried_121 (by decide) ?_
                  refine lv_idiv hx hb dX10_carried_122 (by decide) ?_
                  refine lv_istore_n (lv' := [(3, .int (w_11l3 / 2)), (5, .int w_11l3), (4, .int w_11l4), (6, .int w_11l6), (2, .int (f_m_whoIsAt G f0 0 0)), (0, .ref h), (1, .int b_)]) hx hb dX10_carried_123 rfl hl (by decide) rfl (fun ls hl => ?_)
                  refine lv_iinc (v := (w_11l6 + 1)) (lv' := [(6, .int (w_11l6 + 1)), (3, .int (w_11l3 / 2)), (5, .int w_11l3), (4, .int w_11l4), (2, .int (f_m_whoIsAt G f0 0 0)), (0, .ref h), (1, .int b_)]) hx hb dX10_carried_124 hl (k := 3) rfl rfl (by decide) rfl (fun ls hl => ?_)
                  refine lv_goto (tgt := 63) hx hb dX10_carried_127 (by decide) ?_
                  exact ih_w_11 (w_11l6 + 1) w_11l3 w_11l4 (w_11l3 / 2) _ _ ls (cutP (isC := [2, 1, 0]) hP rfl) (cutD (isC := [2, 1, 0]) hD rfl rfl) hS (lv_sub hl [0, 2, 3, 1, 4, 5, 6] rfl) hF (up_step c_13 hm) hE
                · replace hF := hF.1 c_23
                  rw [if_pos c_23] at hE
                  refine lv_iload_n hx hb dX10_carried_116 rfl (lv_at hl 3 rfl) ?_
                  refine lv_goto (tgt := 123) hx hb dX10_carried_117 (by decide) ?_
                  refine lv_istore_n (lv' := [(3, .int w_11l3), (5, .int w_11l3), (4, .int w_11l4), (6, .int w_11l6), (2, .int (f_m_whoIsAt G f0 0 0)), (0, .ref h), (1, .int b_)]) hx hb dX10_carried_123 rfl hl (by decide) rfl (fun ls hl => ?_)
                  refine lv_iinc (v := (w_11l6 + 1)) (lv' := [(6, .int (w_11l6 + 1)), (3, .int w_11l3), (5, .int w_11l3), (4, .int w_11l4), (2, .int (f_m_whoIsAt G f0 0 0)), (0, .ref h), (1, .int b_)]) hx hb dX10_carried_124 hl (k := 3) rfl rfl (by decide) rfl (fun ls hl => ?_)
                  refine lv_goto (tgt := 63) hx hb dX10_carried_127 (by decide) ?_
                  exact ih_w_11 (w_11l6 + 1) w_11l3 w_11l4 w_11l3 _ _ ls (cutP (isC := [2, 1, 0]) hP rfl) (cutD (isC := [2, 1, 0]) hD rfl rfl) hS (lv_sub hl [0, 2, 3, 1, 4, 5, 6] rfl) hF (up_step c_13 hm) hE
            · replace hF := hF.1 c_14
              rw [if_pos c_14] at hE
              refine lv_iload hx hb dX10_carried_76 (lv_at hl 2 rfl) ?_
              refine lv_iconst (v := (-1)) hx hb dX10_carried_78 (by decide) ?_
              refine lv_icmp_ne (tgt := 87) hx hb dX10_carried_79 (by decide) (fun c_24 => ?_) (fun c_24 => ?_)
              · replace hF := hF.2 c_24
                rw [if_neg c_24] at hE
                refine lv_iload hx hb dX10_carried_87 (lv_at hl 2 rfl) ?_
                refine lv_istore (lv' := [(4, .int w_11l4), (6, .int w_11l6), (5, .int w_11l5), (3, .int w_11l3), (2, .int (f_m_whoIsAt G f0 0 0)), (0, .ref h), (1, .int b_)]) hx hb dX10_carried_89 hl (by decide) rfl (fun ls hl => ?_)
                refine lv_iload hx hb dX10_carried_91 (lv_at hl 1 rfl) ?_
                refine lv_iload_n hx hb dX10_carried_93 rfl (lv_at hl 6 rfl) ?_
                refine lv_icmp_ne (tgt := 101) hx hb dX10_carried_94 (by decide) (fun c_25 => ?_) (fun c_25 => ?_)
                · replace hF := hF.2 c_25
                  rw [if_neg c_25] at hE
                  refine lv_iload hx hb dX10_carried_101 (lv_at hl 2 rfl) ?_
                  refine lv_istore (lv' := [(5, .int w_11l5), (4, .int w_11l4), (6, .int w_11l6), (3, .int w_11l3), (2, .int (f_m_whoIsAt G f0 0 0)), (0, .ref h), (1, .int b_)]) hx hb dX10_carried_103 hl (by decide) rfl (fun ls hl => ?_)
                  refine lv_aload_n hx hb dX10_carried_105 rfl (lv_at hl 5 rfl) ?_
                  refine lv_iconst (v := 0) hx hb dX10_carried_106 (by decide) ?_
                  refine lv_iload hx hb dX10_carried_107 (lv_at hl 2 rfl) ?_
                  obtain ⟨hs_26, hF⟩ := hF
                  refine cVi (wr := [((Rf 10), .inl (cI, 30, .inl f10))]) (rest := []) (m_whoIsAt Rf h G f0 0 w_11l6 hs_26) okV_X10_whoIsAt wd_575 hx hb hml hown hts hK hP hD hS hA hN hl.1 [1, 0] [2] rfl rfl rfl rfl (by decide) rfl rfl rfl (Nat.le_of_ble_eq_true rfl) (Nat.le_of_ble_eq_true rfl) (Nat.le_of_ble_eq_true rfl) (Nat.le_of_ble_eq_true rfl) (Nat.le_of_ble_eq_true rfl) dX10_carried_109 (fun r_28 u_27 H locs hw_u_27 hP hD hS => ?_)
                  replace hw_u_27 : r_28 = (f_m_whoIsAt G f0 0 w_11l6) := hw_u_27
                  rw [hw_u_27]
                  clear hw_u_27
                  have hP : va_P D classes [((Rf 10), .inl (cI, 30, .inl f10)), (h, .inr (10, ML G Rf)), ((Rf 0), .inl (cI, 1302, .inl f0))] H := hP
                  have hD : va_D A [((Rf 10), .inl (cI, 30, .inl f10)), (h, .inr (10, ML G Rf)), ((Rf 0), .inl (cI, 1302, .inl f0))] := hD
                  refine lv_iconst (v := (-1)) hx hb dX10_carried_112 (by decide) ?_
                  refine lv_icmp_ne (tgt := 120) hx hb dX10_carried_113 (by decide) (fun c_29 => ?_) (fun c_29 => ?_)
                  · replace hF := hF.2 c_29
                    rw [if_neg c_29] at hE
                    refine lv_iload_n hx hb dX10_carried_120 rfl (lv_at hl 3 rfl) ?_
                    refine lv_iconst (v := 2) hx hb dX10_carried_121 (by decide) ?_
                    refine lv_idiv hx hb dX10_carried_122 (by decide) ?_
                    refine lv_istore_n (lv' := [(3, .int (w_11l3 / 2)), (5, .int w_11l5), (4, .int w_11l4), (6, .int w_11l6), (2, .int (f_m_whoIsAt G f0 0 0)), (0, .ref h), (1, .int b_)]) hx hb dX10_carried_123 rfl hl (by decide) rfl (fun ls hl => ?_)
                    refine lv_iinc (v := (w_11l6 + 1)) (lv' := [(6, .int (w_11l6 + 1)), (3, .int (w_11l3 / 2)), (5, .int w_11l5), (4, .int w_11l4), (2, .int (f_m_whoIsAt G f0 0 0)), (0, .ref h), (1, .int b_)]) hx hb dX10_carried_124 hl (k := 3) rfl rfl (by decide) rfl (fun ls hl => ?_)
                    refine lv_goto (tgt := 63) hx hb dX10_carried_127 (by decide) ?_
                    exact ih_w_11 (w_11l6 + 1) w_11l5 w_11l4 (w_11l3 / 2) _ _ ls (cutP (isC := [2, 1, 0]) hP rfl) (cutD (isC := [2, 1, 0]) hD rfl rfl) hS (lv_sub hl [0, 2, 3, 1, 4, 5, 6] rfl) hF (up_step c_13 hm) hE
                  · replace hF := hF.1 c_29
                    rw [if_pos c_29] at hE
                    refine lv_iload_n hx hb dX10_carried_116 rfl (lv_at hl 3 rfl) ?_
                    refine lv_goto (tgt := 123) hx hb dX10_carried_117 (by decide) ?_
                    refine lv_istore_n (lv' := [(3, .int w_11l3), (5, .int w_11l5), (4, .int w_11l4), (6, .int w_11l6), (2, .int (f_m_whoIsAt G f0 0 0)), (0, .ref h), (1, .int b_)]) hx hb dX10_carried_123 rfl hl (by decide) rfl (fun ls hl => ?_)
                    refine lv_iinc (v := (w_11l6 + 1)) (lv' := [(6, .int (w_11l6 + 1)), (3, .int w_11l3), (5, .int w_11l5), (4, .int w_11l4), (2, .int (f_m_whoIsAt G f0 0 0)), (0, .ref h), (1, .int b_)]) hx hb dX10_carried_124 hl (k := 3) rfl rfl (by decide) rfl (fun ls hl => ?_)
                    refine lv_goto (tgt := 63) hx hb dX10_carried_127 (by decide) ?_
                    exact ih_w_11 (w_11l6 + 1) w_11l5 w_11l4 w_11l3 _ _ ls (cutP (isC := [2, 1, 0]) hP rfl) (cutD (isC := [2, 1, 0]) hD rfl rfl) hS (lv_sub hl [0, 2, 3, 1, 4, 5, 6] rfl) hF (up_step c_13 hm) hE
                · replace hF := hF.1 c_25
                  rw [if_pos c_25] at hE
                  refine lv_iload_n hx hb dX10_carried_97 rfl (lv_at hl 3 rfl) ?_
                  refine lv_goto (tgt := 103) hx hb dX10_carried_98 (by decide) ?_
                  refine lv_istore (lv' := [(5, .int w_11l3), (4, .int w_11l4), (6, .int w_11l6), (3, .int w_11l3), (2, .int (f_m_whoIsAt G f0 0 0)), (0, .ref h), (1, .int b_)]) hx hb dX10_carried_103 hl (by decide) rfl (fun ls hl => ?_)
                  refine lv_aload_n hx hb dX10_carried_105 rfl (lv_at hl 5 rfl) ?_
                  refine lv_iconst (v := 0) hx hb dX10_carried_106 (by decide) ?_
                  refine lv_iload hx hb dX10_carried_107 (lv_at hl 2 rfl) ?_
                  obtain ⟨hs_30, hF⟩ := hF
                  refine cVi (wr := [((Rf 10), .inl (cI, 30, .inl f10))]) (rest := []) (m_whoIsAt Rf h G f0 0 w_11l6 hs_30) okV_X10_whoIsAt wd_575 hx hb hml hown hts hK hP hD hS hA hN hl.1 [1, 0] [2] rfl rfl rfl rfl (by decide) rfl rfl rfl (Nat.le_of_ble_eq_true rfl) (Nat.le_of_ble_eq_true rfl) (Nat.le_of_ble_eq_true rfl) (Nat.le_of_ble_eq_true rfl) (Nat.le_of_ble_eq_true rfl) dX10_carried_109 (fun r_32 u_31 H locs hw_u_31 hP hD hS => ?_)
                  replace hw_u_31 : r_32 = (f_m_whoIsAt G f0 0 w_11l6) := hw_u_31
                  rw [hw_u_31]
                  clear hw_u_31
                  have hP : va_P D classes [((Rf 10), .inl (cI, 30, .inl f10)), (h, .inr (10, ML G Rf)), ((Rf 0), .inl (cI, 1302, .inl f0))] H := hP
                  have hD : va_D A [((Rf 10), .inl (cI, 30, .inl f10)), (h, .inr (10, ML G Rf)), ((Rf 0), .inl (cI, 1302, .inl f0))] := hD
                  refine lv_iconst (v := (-1)) hx hb dX10_carried_112 (by decide) ?_
                  refine lv_icmp_ne (tgt := 120) hx hb dX10_carried_113 (by decide) (fun c_33 => ?_) (fun c_33 => ?_)
                  · replace hF := hF.2 c_33
                    rw [if_neg c_33] at hE
                    refine lv_iload_n hx hb dX10_carried_120 rfl (lv_at hl 3 rfl) ?_
                    refine lv_iconst (v := 2) hx hb dX10_carried_121 (by decide) ?_
                    refine lv_idiv hx hb dX10_carried_122 (by decide) ?_
                    refine lv_istore_n (lv' := [(3, .int (w_11l3 / 2)), (5, .int w_11l3), (4, .int w_11l4), (6, .int w_11l6), (2, .int (f_m_whoIsAt G f0 0 0)), (0, .ref h), (1, .int b_)]) hx hb dX10_carried_123 rfl hl (by decide) rfl (fun ls hl => ?_)
                    refine lv_iinc (v := (w_11l6 + 1)) (lv' := [(6, .int (w_11l6 + 1)), (3, .int (w_11l3 / 2)), (5, .int w_11l3), (4, .int w_11l4), (2, .int (f_m_whoIsAt G f0 0 0)), (0, .ref h), (1, .int b_)]) hx hb dX10_carried_124 hl (k := 3) rfl rfl (by decide) rfl (fun ls hl => ?_)
                    refine lv_goto (tgt := 63) hx hb dX10_carried_127 (by decide) ?_
                    exact ih_w_11 (w_11l6 + 1) w_11l3 w_11l4 (w_11l3 / 2) _ _ ls (cutP (isC := [2, 1, 0]) hP rfl) (cutD (isC := [2, 1, 0]) hD rfl rfl) hS (lv_sub hl [0, 2, 3, 1, 4, 5, 6] rfl) hF (up_step c_13 hm) hE
                  · replace hF := hF.1 c_33
                    rw [if_pos c_33] at hE
                    refine lv_iload_n hx hb dX10_carried_116 rfl (lv_at hl 3 rfl) ?_
                    refine lv_goto (tgt := 123) hx hb dX10_carried_117 (by decide) ?_
                    refine lv_istore_n (lv' := [(3, .int w_11l3), (5, .int w_11l3), (4, .int w_11l4), (6, .int w_11l6), (2, .int (f_m_whoIsAt G f0 0 0)), (0, .ref h), (1, .int b_)]) hx hb dX10_carried_123 rfl hl (by decide) rfl (fun ls hl => ?_)
                    refine lv_iinc (v := (w_11l6 + 1)) (lv' := [(6, .int (w_11l6 + 1)), (3, .int w_11l3), (5, .int w_11l3), (4, .int w_11l4), (2, .int (f_m_whoIsAt G f0 0 0)), (0, .ref h), (1, .int b_)]) hx hb dX10_carried_124 hl (k := 3) rfl rfl (by decide) rfl (fun ls hl => ?_)
                    refine lv_goto (tgt := 63) hx hb dX10_carried_127 (by decide) ?_
                    exact ih_w_11 (w_11l6 + 1) w_11l3 w_11l4 w_11l3 _ _ ls (cutP (isC := [2, 1, 0]) hP rfl) (cutD (isC := [2, 1, 0]) hD rfl rfl) hS (lv_sub hl [0, 2, 3, 1, 4, 5, 6] rfl) hF (up_step c_13 hm) hE
              · replace hF := hF.1 c_24
                rw [if_pos c_24] at hE
                refine lv_iload hx hb dX10_carried_82 (lv_at hl 0 rfl) ?_
                refine lv_goto (tgt := 89) hx hb dX10_carried_84 (by decide) ?_
                refine lv_istore (lv' := [(4, .int w_11l6), (6, .int w_11l6), (5, .int w_11l5), (3, .int w_11l3), (2, .int (f_m_whoIsAt G f0 0 0)), (0, .ref h), (1, .int b_)]) hx hb dX10_carried_89 hl (by decide) rfl (fun ls hl => ?_)
                refine lv_iload hx hb dX10_carried_91 (lv_at hl 1 rfl) ?_
                refine lv_iload_n hx hb dX10_carried_93 rfl (lv_at hl 6 rfl) ?_
                refine lv_icmp_ne (tgt := 101) hx hb dX10_carried_94 (by decide) (fun c_34 => ?_) (fun c_34 => ?_)
                · replace hF := hF.2 c_34
                  rw [if_neg c_34] at hE
                  refine lv_iload hx hb dX10_carried_101 (lv_at hl 2 rfl) ?_
                  refine lv_istore (lv' := [(5, .int w_11l5), (4, .int w_11l6), (6, .int w_11l6), (3, .int w_11l3), (2, .int (f_m_whoIsAt G f0 0 0)), (0, .ref h), (1, .int b_)]) hx hb dX10_carried_103 hl (by decide) rfl (fun ls hl => ?_)
                  refine lv_aload_n hx hb dX10_carried_105 rfl (lv_at hl 5 rfl) ?_
                  refine lv_iconst (v := 0) hx hb dX10_carried_106 (by decide) ?_
                  refine lv_iload hx hb dX10_carried_107 (lv_at hl 2 rfl) ?_
                  obtain ⟨hs_35, hF⟩ := hF
                  refine cVi (wr := [((Rf 10), .inl (cI, 30, .inl f10))]) (rest := []) (m_whoIsAt Rf h G f0 0 w_11l6 hs_35) okV_X10_whoIsAt wd_575 hx hb hml hown hts hK hP hD hS hA hN hl.1 [1, 0] [2] rfl rfl rfl rfl (by decide) rfl rfl rfl (Nat.le_of_ble_eq_true rfl) (Nat.le_of_ble_eq_true rfl) (Nat.le_of_ble_eq_true rfl) (Nat.le_of_ble_eq_true rfl) (Nat.le_of_ble_eq_true rfl) dX10_carried_109 (fun r_37 u_36 H locs hw_u_36 hP hD hS => ?_)
                  replace hw_u_36 : r_37 = (f_m_whoIsAt G f0 0 w_11l6) := hw_u_36
                  rw [hw_u_36]
                  clear hw_u_36
                  have hP : va_P D classes [((Rf 10), .inl (cI, 30, .inl f10)), (h, .inr (10, ML G Rf)), ((Rf 0), .inl (cI, 1302, .inl f0))] H := hP
                  have hD : va_D A [((Rf 10), .inl (cI, 30, .inl f10)), (h, .inr (10, ML G Rf)), ((Rf 0), .inl (cI, 1302, .inl f0))] := hD
                  refine lv_iconst (v := (-1)) hx hb dX10_carried_112 (by decide) ?_
                  refine lv_icmp_ne (tgt := 120) hx hb dX10_carried_113 (by decide) (fun c_38 => ?_) (fun c_38 => ?_)
                  · replace hF := hF.2 c_38
                    rw [if_neg c_38] at hE
                    refine lv_iload_n hx hb dX10_carried_120 rfl (lv_at hl 3 rfl) ?_
                    refine lv_iconst (v := 2) hx hb dX10_carried_121 (by decide) ?_
                    refine lv_idiv hx hb dX10_carried_122 (by decide) ?_
                    refine lv_istore_n (lv' := [(3, .int (w_11l3 / 2)), (5, .int w_11l5), (4, .int w_11l6), (6, .int w_11l6), (2, .int (f_m_whoIsAt G f0 0 0)), (0, .ref h), (1, .int b_)]) hx hb dX10_carried_123 rfl hl (by decide) rfl (fun ls hl => ?_)
                    refine lv_iinc (v := (w_11l6 + 1)) (lv' := [(6, .int (w_11l6 + 1)), (3, .int (w_11l3 / 2)), (5, .int w_11l5), (4, .int w_11l6), (2, .int (f_m_whoIsAt G f0 0 0)), (0, .ref h), (1, .int b_)]) hx hb dX10_carried_124 hl (k := 3) rfl rfl (by decide) rfl (fun ls hl => ?_)
                    refine lv_goto (tgt := 63) hx hb dX10_carried_127 (by decide) ?_
                    exact ih_w_11 (w_11l6 + 1) w_11l5 w_11l6 (w_11l3 / 2) _ _ ls (cutP (isC := [2, 1, 0]) hP rfl) (cutD (isC := [2, 1, 0]) hD rfl rfl) hS (lv_sub hl [0, 2, 3, 1, 4, 5, 6] rfl) hF (up_step c_13 hm) hE
                  · replace hF := hF.1 c_38
                    rw [if_pos c_38] at hE
                    refine lv_iload_n hx hb dX10_carried_116 rfl (lv_at hl 3 rfl) ?_
                    refine lv_goto (tgt := 123) hx hb dX10_carried_117 (by decide) ?_
                    refine lv_istore_n (lv' := [(3, .int w_11l3), (5, .int w_11l5), (4, .int w_11l6), (6, .int w_11l6), (2, .int (f_m_whoIsAt G f0 0 0)), (0, .ref h), (1, .int b_)]) hx hb dX10_carried_123 rfl hl (by decide) rfl (fun ls hl => ?_)
                    refine lv_iinc (v := (w_11l6 + 1)) (lv' := [(6, .int (w_11l6 + 1)), (3, .int w_11l3), (5, .int w_11l5), (4, .int w_11l6), (2, .int (f_m_whoIsAt G f0 0 0)), (0, .ref h), (1, .int b_)]) hx hb dX10_carried_124 hl (k := 3) rfl rfl (by decide) rfl (fun ls hl => ?_)
                    refine lv_goto (tgt := 63) hx hb dX10_carried_127 (by decide) ?_
                    exact ih_w_11 (w_11l6 + 1) w_11l5 w_11l6 w_11l3 _ _ ls (cutP (isC := [2, 1, 0]) hP rfl) (cutD (isC := [2, 1, 0]) hD rfl rfl) hS (lv_sub hl [0, 2, 3, 1, 4, 5, 6] rfl) hF (up_step c_13 hm) hE
                · replace hF := hF.1 c_34
                  rw [if_pos c_34] at hE
                  refine lv_iload_n hx hb dX10_carried_97 rfl (lv_at hl 3 rfl) ?_
                  refine lv_goto (tgt := 103) hx hb dX10_carried_98 (by decide) ?_
                  refine lv_istore (lv' := [(5, .int w_11l3), (4, .int w_11l6), (6, .int w_11l6), (3, .int w_11l3), (2, .int (f_m_whoIsAt G f0 0 0)), (0, .ref h), (1, .int b_)]) hx hb dX10_carried_103 hl (by decide) rfl (fun ls hl => ?_)
                  refine lv_aload_n hx hb dX10_carried_105 rfl (lv_at hl 5 rfl) ?_
                  refine lv_iconst (v := 0) hx hb dX10_carried_106 (by decide) ?_
                  refine lv_iload hx hb dX10_carried_107 (lv_at hl 2 rfl) ?_
                  obtain ⟨hs_39, hF⟩ := hF
                  refine cVi (wr := [((Rf 10), .inl (cI, 30, .inl f10))]) (rest := []) (m_whoIsAt Rf h G f0 0 w_11l6 hs_39) okV_X10_whoIsAt wd_575 hx hb hml hown hts hK hP hD hS hA hN hl.1 [1, 0] [2] rfl rfl rfl rfl (by decide) rfl rfl rfl (Nat.le_of_ble_eq_true rfl) (Nat.le_of_ble_eq_true rfl) (Nat.le_of_ble_eq_true rfl) (Nat.le_of_ble_eq_true rfl) (Nat.le_of_ble_eq_true rfl) dX10_carried_109 (fun r_41 u_40 H locs hw_u_40 hP hD hS => ?_)
                  replace hw_u_40 : r_41 = (f_m_whoIsAt G f0 0 w_11l6) := hw_u_40
                  rw [hw_u_40]
                  clear hw_u_40
                  have hP : va_P D classes [((Rf 10), .inl (cI, 30, .inl f10)), (h, .inr (10, ML G Rf)), ((Rf 0), .inl (cI, 1302, .inl f0))] H := hP
                  have hD : va_D A [((Rf 10), .inl (cI, 30, .inl f10)), (h, .inr (10, ML G Rf)), ((Rf 0), .inl (cI, 1302, .inl f0))] := hD
                  refine lv_iconst (v := (-1)) hx hb dX10_carried_112 (by decide) ?_
                  refine lv_icmp_ne (tgt := 120) hx hb dX10_carried_113 (by decide) (fun c_42 => ?_) (fun c_42 => ?_)
                  · replace hF := hF.2 c_42
                    rw [if_neg c_42] at hE
                    refine lv_iload_n hx hb dX10_carried_120 rfl (lv_at hl 3 rfl) ?_
                    refine lv_iconst (v := 2) hx hb dX10_carried_121 (by decide) ?_
                    refine lv_idiv hx hb dX10_carried_122 (by decide) ?_
                    refine lv_istore_n (lv' := [(3, .int (w_11l3 / 2)), (5, .int w_11l3), (4, .int w_11l6), (6, .int w_11l6), (2, .int (f_m_whoIsAt G f0 0 0)), (0, .ref h), (1, .int b_)]) hx hb dX10_carried_123 rfl hl (by decide) rfl (fun ls hl => ?_)
                    refine lv_iinc (v := (w_11l6 + 1)) (lv' := [(6, .int (w_11l6 + 1)), (3, .int (w_11l3 / 2)), (5, .int w_11l3), (4, .int w_11l6), (2, .int (f_m_whoIsAt G f0 0 0)), (0, .ref h), (1, .int b_)]) hx hb dX10_carried_124 hl (k := 3) rfl rfl (by decide) rfl (fun ls hl => ?_)
                    refine lv_goto (tgt := 63) hx hb dX10_carried_127 (by decide) ?_
                    exact ih_w_11 (w_11l6 + 1) w_11l3 w_11l6 (w_11l3 / 2) _ _ ls (cutP (isC := [2, 1, 0]) hP rfl) (cutD (isC := [2, 1, 0]) hD rfl rfl) hS (lv_sub hl [0, 2, 3, 1, 4, 5, 6] rfl) hF (up_step c_13 hm) hE
                  · replace hF := hF.1 c_42
                    rw [if_pos c_42] at hE
                    refine lv_iload_n hx hb dX10_carried_116 rfl (lv_at hl 3 rfl) ?_
                    refine lv_goto (tgt := 123) hx hb dX10_carried_117 (by decide) ?_
                    refine lv_istore_n (lv' := [(3, .int w_11l3), (5, .int w_11l3), (4, .int w_11l6), (6, .int w_11l6), (2, .int (f_m_whoIsAt G f0 0 0)), (0, .ref h), (1, .int b_)]) hx hb dX10_carried_123 rfl hl (by decide) rfl (fun ls hl => ?_)
                    refine lv_iinc (v := (w_11l6 + 1)) (lv' := [(6, .int (w_11l6 + 1)), (3, .int w_11l3), (5, .int w_11l3), (4, .int w_11l6), (2, .int (f_m_whoIsAt G f0 0 0)), (0, .ref h), (1, .int b_)]) hx hb dX10_carried_124 hl (k := 3) rfl rfl (by decide) rfl (fun ls hl => ?_)
                    refine lv_goto (tgt := 63) hx hb dX10_carried_127 (by decide) ?_
                    exact ih_w_11 (w_11l6 + 1) w_11l3 w_11l6 w_11l3 _ _ ls (cutP (isC := [2, 1, 0]) hP rfl) (cutD (isC := [2, 1, 0]) hD rfl rfl) hS (lv_sub hl [0, 2, 3, 1, 4, 5, 6] rfl) hF (up_step c_13 hm) hE
      exact lp_63_w_11 ((((G 3) : Int32).toInt - (1 : Int32).toInt).toNat + 1) 1 0 (-1) (f_m_stampOf G f10 (f_m_whoIsAt G f0 0 0) (f0 ((12 + (f_m_whoIsAt G f0 0 0)) : Int32).toNatClampNeg) (f0 ((0 + (f_m_whoIsAt G f0 0 0)) : Int32).toNatClampNeg)) _ _ ls hP hD hS hl hF (Nat.lt_succ_self _) hE
    · replace hF := hF.1 c_5
      rw [if_pos c_5] at hE
      refine lv_ldc (v := (-1000000003)) hx hb hown (hts _ wd_562) dX10_carried_28 ?_
      exact hret (-1000000003) () _ _ _ _ dX10_carried_30 rfl hE (cutP (isC := [1, 2, 0]) hP rfl) (cutD (isC := [1, 2, 0]) hD rfl rfl) hS
  · replace hF := hF.2 c_1
    rw [if_neg c_1] at hE
    refine lv_aload_n hx hb dX10_carried_5 rfl (lv_at hl 0 rfl) ?_
    refine lv_iload_n hx hb dX10_carried_6 rfl (lv_at hl 1 rfl) ?_
    obtain ⟨hs_43, hF⟩ := hF
    refine cVi (wr := [((Rf 0), .inl (cI, 1302, .inl f0)), ((Rf 10), .inl (cI, 30, .inl f10))]) (rest := []) (m_isBridge Rf h G b_ hs_43) okV_X10_isBridge wd_571 hx hb hml hown hts hK hP hD hS hA hN hl.1 [0] [1, 2] rfl rfl rfl rfl (by decide) rfl rfl rfl (Nat.le_of_ble_eq_true rfl) (Nat.le_of_ble_eq_true rfl) (Nat.le_of_ble_eq_true rfl) (Nat.le_of_ble_eq_true rfl) (Nat.le_of_ble_eq_true rfl) dX10_carried_7 (fun r_45 u_44 H locs hw_u_44 hP hD hS => ?_)
    replace hw_u_44 : r_45 = (f_m_isBridge G b_) := hw_u_44
    rw [hw_u_44]
    clear hw_u_44
    have hP : va_P D classes [((Rf 0), .inl (cI, 1302, .inl f0)), ((Rf 10), .inl (cI, 30, .inl f10)), (h, .inr (10, ML G Rf))] H := hP
    have hD : va_D A [((Rf 0), .inl (cI, 1302, .inl f0)), ((Rf 10), .inl (cI, 30, .inl f10)), (h, .inr (10, ML G Rf))] := hD
    refine lv_if_ne (tgt := 16) hx hb dX10_carried_10 (by decide) (fun c_46 => ?_) (fun c_46 => ?_)
    · replace hF := hF.2 c_46
      rw [if_neg c_46] at hE
      refine lv_aload_n hx hb dX10_carried_16 rfl (lv_at hl 0 rfl) ?_
      refine lv_iconst (v := 0) hx hb dX10_carried_17 (by decide) ?_
      refine lv_iconst (v := 0) hx hb dX10_carried_18 (by decide) ?_
      obtain ⟨hs_47, hF⟩ := hF
      refine cVi (wr := [((Rf 10), .inl (cI, 30, .inl f10))]) (rest := []) (m_whoIsAt Rf h G f0 0 0 hs_47) okV_X10_whoIsAt wd_575 hx hb hml hown hts hK hP hD hS hA hN hl.1 [2, 0] [1] rfl rfl rfl rfl (by decide) rfl rfl rfl (Nat.le_of_ble_eq_true rfl) (Nat.le_of_ble_eq_true rfl) (Nat.le_of_ble_eq_true rfl) (Nat.le_of_ble_eq_true rfl) (Nat.le_of_ble_eq_true rfl) dX10_carried_19 (fun r_49 u_48 H locs hw_u_48 hP hD hS => ?_)
      replace hw_u_48 : r_49 = (f_m_whoIsAt G f0 0 0) := hw_u_48
      rw [hw_u_48]
      clear hw_u_48
      have hP : va_P D classes [((Rf 10), .inl (cI, 30, .inl f10)), (h, .inr (10, ML G Rf)), ((Rf 0), .inl (cI, 1302, .inl f0))] H := hP
      have hD : va_D A [((Rf 10), .inl (cI, 30, .inl f10)), (h, .inr (10, ML G Rf)), ((Rf 0), .inl (cI, 1302, .inl f0))] := hD
      refine lv_istore_n (lv' := [(2, .int (f_m_whoIsAt G f0 0 0)), (0, .ref h), (1, .int b_)]) hx hb dX10_carried_22 rfl hl (by decide) rfl (fun ls hl => ?_)
      refine lv_iload_n hx hb dX10_carried_23 rfl (lv_at hl 0 rfl) ?_
      refine lv_iconst (v := (-1)) hx hb dX10_carried_24 (by decide) ?_
      refine lv_icmp_ne (tgt := 31) hx hb dX10_carried_25 (by decide) (fun c_50 => ?_) (fun c_50 => ?_)
      · replace hF := hF.2 c_50
        rw [if_neg c_50] at hE
        refine lv_aload_n hx hb dX10_carried_31 rfl (lv_at hl 1 rfl) ?_
        refine lv_iload_n hx hb dX10_carried_32 rfl (lv_at hl 0 rfl) ?_
        refine lv_aload_n hx hb dX10_carried_33 rfl (lv_at hl 1 rfl) ?_
        refine va_get (D := D) (ci := 10) (v := .ref (Rf 0)) (C := RX10) (T := TX10) (N := 45) hx hb hts iX10 hown hK hP 1 rfl rfl 0 (by decide) (hts _ wd_491) (fun _ h9 => h9) rfl dX10_carried_34 ?_
        refine lv_bipush (v := 12) hx hb dX10_carried_37 (by decide) ?_
        refine lv_iload_n hx hb dX10_carried_39 rfl (lv_at hl 0 rfl) ?_
        refine lv_iadd hx hb dX10_carried_40 ?_
        obtain ⟨hv_51, hF⟩ := hF
        refine va_iald hx hb hK hP 2 0 rfl rfl hv_51 dX10_carried_41 ?_
        refine lv_aload_n hx hb dX10_carried_42 rfl (lv_at hl 1 rfl) ?_
        refine va_get (D := D) (ci := 10) (v := .ref (Rf 0)) (C := RX10) (T := TX10) (N := 45) hx hb hts iX10 hown hK hP 1 rfl rfl 0 (by decide) (hts _ wd_491) (fun _ h9 => h9) rfl dX10_carried_43 ?_
        refine lv_iconst (v := 0) hx hb dX10_carried_46 (by decide) ?_
        refine lv_iload_n hx hb dX10_carried_47 rfl (lv_at hl 0 rfl) ?_
        refine lv_iadd hx hb dX10_carried_48 ?_
        obtain ⟨hv_52, hF⟩ := hF
        refine va_iald hx hb hK hP 2 0 rfl rfl hv_52 dX10_carried_49 ?_
        obtain ⟨hs_53, hF⟩ := hF
        refine cVi (wr := [((Rf 0), .inl (cI, 1302, .inl f0))]) (rest := []) (m_stampOf Rf h G f10 (f_m_whoIsAt G f0 0 0) (f0 ((12 + (f_m_whoIsAt G f0 0 0)) : Int32).toNatClampNeg) (f0 ((0 + (f_m_whoIsAt G f0 0 0)) : Int32).toNatClampNeg) hs_53) okV_X10_stampOf wd_551 hx hb hml hown hts hK hP hD hS hA hN hl.1 [1, 0] [2] rfl rfl rfl rfl (by decide) rfl rfl rfl (Nat.le_of_ble_eq_true rfl) (Nat.le_of_ble_eq_true rfl) (Nat.le_of_ble_eq_true rfl) (Nat.le_of_ble_eq_true rfl) (Nat.le_of_ble_eq_true rfl) dX10_carried_50 (fun r_55 u_54 H locs hw_u_54 hP hD hS => ?_)
        replace hw_u_54 : r_55 = (f_m_stampOf G f10 (f_m_whoIsAt G f0 0 0) (f0 ((12 + (f_m_whoIsAt G f0 0 0)) : Int32).toNatClampNeg) (f0 ((0 + (f_m_whoIsAt G f0 0 0)) : Int32).toNatClampNeg)) := hw_u_54
        rw [hw_u_54]
        clear hw_u_54
        have hP : va_P D classes [((Rf 0), .inl (cI, 1302, .inl f0)), (h, .inr (10, ML G Rf)), ((Rf 10), .inl (cI, 30, .inl f10))] H := hP
        have hD : va_D A [((Rf 0), .inl (cI, 1302, .inl f0)), (h, .inr (10, ML G Rf)), ((Rf 10), .inl (cI, 30, .inl f10))] := hD
        refine lv_istore_n (lv' := [(3, .int (f_m_stampOf G f10 (f_m_whoIsAt G f0 0 0) (f0 ((12 + (f_m_whoIsAt G f0 0 0)) : Int32).toNatClampNeg) (f0 ((0 + (f_m_whoIsAt G f0 0 0)) : Int32).toNatClampNeg))), (2, .int (f_m_whoIsAt G f0 0 0)), (0, .ref h), (1, .int b_)]) hx hb dX10_carried_53 rfl hl (by decide) rfl (fun ls hl => ?_)
        refine lv_iconst (v := (-1)) hx hb dX10_carried_54 (by decide) ?_
        refine lv_istore (lv' := [(4, .int (-1)), (3, .int (f_m_stampOf G f10 (f_m_whoIsAt G f0 0 0) (f0 ((12 + (f_m_whoIsAt G f0 0 0)) : Int32).toNatClampNeg) (f0 ((0 + (f_m_whoIsAt G f0 0 0)) : Int32).toNatClampNeg))), (2, .int (f_m_whoIsAt G f0 0 0)), (0, .ref h), (1, .int b_)]) hx hb dX10_carried_55 hl (by decide) rfl (fun ls hl => ?_)
        refine lv_iconst (v := 0) hx hb dX10_carried_57 (by decide) ?_
        refine lv_istore (lv' := [(5, .int 0), (4, .int (-1)), (3, .int (f_m_stampOf G f10 (f_m_whoIsAt G f0 0 0) (f0 ((12 + (f_m_whoIsAt G f0 0 0)) : Int32).toNatClampNeg) (f0 ((0 + (f_m_whoIsAt G f0 0 0)) : Int32).toNatClampNeg))), (2, .int (f_m_whoIsAt G f0 0 0)), (0, .ref h), (1, .int b_)]) hx hb dX10_carried_58 hl (by decide) rfl (fun ls hl => ?_)
        refine lv_iconst (v := 1) hx hb dX10_carried_60 (by decide) ?_
        refine lv_istore (lv' := [(6, .int 1), (5, .int 0), (4, .int (-1)), (3, .int (f_m_stampOf G f10 (f_m_whoIsAt G f0 0 0) (f0 ((12 + (f_m_whoIsAt G f0 0 0)) : Int32).toNatClampNeg) (f0 ((0 + (f_m_whoIsAt G f0 0 0)) : Int32).toNatClampNeg))), (2, .int (f_m_whoIsAt G f0 0 0)), (0, .ref h), (1, .int b_)]) hx hb dX10_carried_61 hl (by decide) rfl (fun ls hl => ?_)
        have ex_63_w_56 : ∀ (w_56l6 : Int32) (w_56l5 : Int32) (w_56l4 : Int32) (w_56l3 : Int32) (H : Heap) (locs : List Loc) (ls : Array Slot), va_P D classes [((Rf 0), .inl (cI, 1302, .inl f0)), (h, .inr (10, ML G Rf)), ((Rf 10), .inl (cI, 30, .inl f10))] H → va_D A [((Rf 0), .inl (cI, 1302, .inl f0)), (h, .inr (10, ML G Rf)), ((Rf 10), .inl (cI, 30, .inl f10))] → va_S A s.heap H locs → lv_has ls 7 [(6, .int w_56l6), (5, .int w_56l5), (4, .int w_56l4), (3, .int w_56l3), (2, .int (f_m_whoIsAt G f0 0 0)), (0, .ref h), (1, .int b_)] → (((b_ = (-1) → True) ∧ (¬ b_ = (-1) → True))) → (((if b_ = (-1) then w_56l4 else w_56l5)) : Int32) = RES → W p l e rm_m_carried s m args below meth c H locs 0 0 Q (F0 m 130 ls []) := by
          intro w_56l6 w_56l5 w_56l4 w_56l3 H locs ls hP hD hS hl hF hE
          refine lv_iload_n hx hb dX10_carried_130 rfl (lv_at hl 6 rfl) ?_
          refine lv_iconst (v := (-1)) hx hb dX10_carried_131 (by decide) ?_
          refine lv_icmp_ne (tgt := 140) hx hb dX10_carried_132 (by decide) (fun c_57 => ?_) (fun c_57 => ?_)
          · replace hF := hF.2 c_57
            rw [if_neg c_57] at hE
            refine lv_iload hx hb dX10_carried_140 (lv_at hl 1 rfl) ?_
            exact hret w_56l5 () _ _ _ _ dX10_carried_142 rfl hE (cutP (isC := [1, 0, 2]) hP rfl) (cutD (isC := [1, 0, 2]) hD rfl rfl) hS
          · replace hF := hF.1 c_57
            rw [if_pos c_57] at hE
            refine lv_iload hx hb dX10_carried_135 (lv_at hl 2 rfl) ?_
            refine lv_goto (tgt := 142) hx hb dX10_carried_137 (by decide) ?_
            exact hret w_56l4 () _ _ _ _ dX10_carried_142 rfl hE (cutP (isC := [1, 0, 2]) hP rfl) (cutD (isC := [1, 0, 2]) hD rfl rfl) hS
        have lp_63_w_56 : ∀ (n_w_56 : Nat) (w_56l6 : Int32) (w_56l5 : Int32) (w_56l4 : Int32) (w_56l3 : Int32) (H : Heap) (locs : List Loc) (ls : Array Slot), va_P D classes [((Rf 0), .inl (cI, 1302, .inl f0)), (h, .inr (10, ML G Rf)), ((Rf 10), .inl (cI, 30, .inl f10))] H → va_D A [((Rf 0), .inl (cI, 1302, .inl f0)), (h, .inr (10, ML G Rf)), ((Rf 10), .inl (cI, 30, .inl f10))] → va_S A s.heap H locs → lv_has ls 7 [(6, .int w_56l6), (5, .int w_56l5), (4, .int w_56l4), (3, .int w_56l3), (2, .int (f_m_whoIsAt G f0 0 0)), (0, .ref h), (1, .int b_)] → (S_m_carried_63 G f0 b_ (fun (w_56l6 : Int32) (w_56l5 : Int32) (w_56l4 : Int32) (w_56l3 : Int32) => ((b_ = (-1) → True) ∧ (¬ b_ = (-1) → True))) n_w_56 w_56l6 w_56l5 w_56l4 w_56l3) → (((G 3) : Int32).toInt - (w_56l6 : Int32).toInt).toNat < n_w_56 → ((match ((f_m_carried_63 G f0 b_ n_w_56 w_56l6 w_56l5 w_56l4 w_56l3) : Int32 × Int32 × Int32 × Int32) with | (w_56l6, w_56l5, w_56l4, w_56l3) => (if b_ = (-1) then w_56l4 else w_56l5)) : Int32) = RES → W p l e rm_m_carried s m args below meth c H locs 0 0 Q (F0 m 63 ls []) := by
          intro n_w_56
          induction n_w_56 with
          | zero => intro w_56l6 w_56l5 w_56l4 w_56l3 H locs ls hP hD hS hl hF hm; exact absurd hm (Nat.not_lt_zero _)
          | succ n_w_56 ih_w_56 =>
            intro w_56l6 w_56l5 w_56l4 w_56l3 H locs ls hP hD hS hl hF hm hE
            rw [S_m_carried_63_s] at hF
            rw [f_m_carried_63_s] at hE
            refine lv_iload hx hb dX10_carried_63 (lv_at hl 0 rfl) ?_
            refine lv_aload_n hx hb dX10_carried_65 rfl (lv_at hl 5 rfl) ?_
            refine va_get (D := D) (ci := 10) (v := .int (G 3)) (C := RX10) (T := TX10) (N := 45) hx hb hts iX10 hown hK hP 1 rfl rfl 3 (by decide) (hts _ wd_494) (fun _ h9 => h9) rfl dX10_carried_66 ?_
            refine lv_icmp_ge (tgt := 130) hx hb dX10_carried_69 (by decide) (fun c_58 => ?_) (fun c_58 => ?_)
            · replace hF := hF.1 c_58
              rw [if_pos c_58] at hE
              exact ex_63_w_56 w_56l6 w_56l5 w_56l4 w_56l3 _ _ ls hP hD hS (lv_sub hl [0, 1, 2, 3, 4, 5, 6] rfl) hF hE
            · replace hF := hF.2 c_58
              rw [if_neg c_58] at hE
              refine lv_iload_n hx hb dX10_carried_72 rfl (lv_at hl 3 rfl) ?_
              refine lv_if_ne (tgt := 87) hx hb dX10_carried_73 (by decide) (fun c_59 => ?_) (fun c_59 => ?_)
              · replace hF := hF.2 c_59
                rw [if_neg c_59] at hE
                refine lv_iload hx hb dX10_carried_87 (lv_at hl 2 rfl) ?_
                refine lv_istore (lv' := [(4, .int w_56l4), (6, .int w_56l6), (5, .int w_56l5), (3, .int w_56l3), (2, .int (f_m_whoIsAt G f0 0 0)), (0, .ref h), (1, .int b_)]) hx hb dX10_carried_89 hl (by decide) rfl (fun ls hl => ?_)
                refine lv_iload hx hb dX10_carried_91 (lv_at hl 1 rfl) ?_
                refine lv_iload_n hx hb dX10_carried_93 rfl (lv_at hl 6 rfl) ?_
                refine lv_icmp_ne (tgt := 101) hx hb dX10_carried_94 (by decide) (fun c_60 => ?_) (fun c_60 => ?_)
                · replace hF := hF.2 c_60
                  rw [if_neg c_60] at hE
                  refine lv_iload hx hb dX10_carried_101 (lv_at hl 2 rfl) ?_
                  refine lv_istore (lv' := [(5, .int w_56l5), (4, .int w_56l4), (6, .int w_56l6), (3, .int w_56l3), (2, .int (f_m_whoIsAt G f0 0 0)), (0, .ref h), (1, .int b_)]) hx hb dX10_carried_103 hl (by decide) rfl (fun ls hl => ?_)
                  refine lv_aload_n hx hb dX10_carried_105 rfl (lv_at hl 5 rfl) ?_
                  refine lv_iconst (v := 0) hx hb dX10_carried_106 (by decide) ?_
                  refine lv_iload hx hb dX10_carried_107 (lv_at hl 2 rfl) ?_
                  obtain ⟨hs_61, hF⟩ := hF
                  refine cVi (wr := [((Rf 10), .inl (cI, 30, .inl f10))]) (rest := []) (m_whoIsAt Rf h G f0 0 w_56l6 hs_61) okV_X10_whoIsAt wd_575 hx hb hml hown hts hK hP hD hS hA hN hl.1 [1, 0] [2] rfl rfl rfl rfl (by decide) rfl rfl rfl (Nat.le_of_ble_eq_true rfl) (Nat.le_of_ble_eq_true rfl) (Nat.le_of_ble_eq_true rfl) (Nat.le_of_ble_eq_true rfl) (Nat.le_of_ble_eq_true rfl) dX10_carried_109 (fun r_63 u_62 H locs hw_u_62 hP hD hS => ?_)
                  replace hw_u_62 : r_63 = (f_m_whoIsAt G f0 0 w_56l6) := hw_u_62
                  rw [hw_u_62]
                  clear hw_u_62
                  have hP : va_P D classes [((Rf 10), .inl (cI, 30, .inl f10)), (h, .inr (10, ML G Rf)), ((Rf 0), .inl (cI, 1302, .inl f0))] H := hP
                  have hD : va_D A [((Rf 10), .inl (cI, 30, .inl f10)), (h, .inr (10, ML G Rf)), ((Rf 0), .inl (cI, 1302, .inl f0))] := hD
                  refine lv_iconst (v := (-1)) hx hb dX10_carried_112 (by decide) ?_
                  refine lv_icmp_ne (tgt := 120) hx hb dX10_carried_113 (by decide) (fun c_64 => ?_) (fun c_64 => ?_)
                  · replace hF := hF.2 c_64
                    rw [if_neg c_64] at hE
                    refine lv_iload_n hx hb dX10_carried_120 rfl (lv_at hl 3 rfl) ?_
                    refine lv_iconst (v := 2) hx hb dX10_carried_121 (by decide) ?_
                    refine lv_idiv hx hb dX10_carried_122 (by decide) ?_
                    refine lv_istore_n (lv' := [(3, .int (w_56l3 / 2)), (5, .int w_56l5), (4, .int w_56l4), (6, .int w_56l6), (2, .int (f_m_whoIsAt G f0 0 0)), (0, .ref h), (1, .int b_)]) hx hb dX10_carried_123 rfl hl (by decide) rfl (fun ls hl => ?_)
                    refine lv_iinc (v := (w_56l6 + 1)) (lv' := [(6, .int (w_56l6 + 1)), (3, .int (w_56l3 / 2)), (5, .int w_56l5), (4, .int w_56l4), (2, .int (f_m_whoIsAt G f0 0 0)), (0, .ref h), (1, .int b_)]) hx hb dX10_carried_124 hl (k := 3) rfl rfl (by decide) rfl (fun ls hl => ?_)
                    refine lv_goto (tgt := 63) hx hb dX10_carried_127 (by decide) ?_
                    exact ih_w_56 (w_56l6 + 1) w_56l5 w_56l4 (w_56l3 / 2) _ _ ls (cutP (isC := [2, 1, 0]) hP rfl) (cutD (isC := [2, 1, 0]) hD rfl rfl) hS (lv_sub hl [0, 2, 3, 1, 4, 5, 6] rfl) hF (up_step c_58 hm) hE
                  · replace hF := hF.1 c_64
                    rw [if_pos c_64] at hE
                    refine lv_iload_n hx hb dX10_carried_116 rfl (lv_at hl 3 rfl) ?_
                    refine lv_goto (tgt := 123) hx hb dX10_carried_117 (by decide) ?_
                    refine lv_istore_n (lv' := [(3, .int w_56l3), (5, .int w_56l5), (4, .int w_56l4), (6, .int w_56l6), (2, .int (f_m_whoIsAt G f0 0 0)), (0, .ref h), (1, .int b_)]) hx hb dX10_carried_123 rfl hl (by decide) rfl (fun ls hl => ?_)
                    refine lv_iinc (v := (w_56l6 + 1)) (lv' := [(6, .int (w_56l6 + 1)), (3, .int w_56l3), (5, .int w_56l5), (4, .int w_56l4), (2, .int (f_m_whoIsAt G f0 0 0)), (0, .ref h), (1, .int b_)]) hx hb dX10_carried_124 hl (k := 3) rfl rfl (by decide) rfl (fun ls hl => ?_)
                    refine lv_goto (tgt := 63) hx hb dX10_carried_127 (by decide) ?_
                    exact ih_w_56 (w_56l6 + 1) w_56l5 w_56l4 w_56l3 _ _ ls (cutP (isC := [2, 1, 0]) hP rfl) (cutD (isC := [2, 1, 0]) hD rfl rfl) hS (lv_sub hl [0, 2, 3, 1, 4, 5, 6] rfl) hF (up_step c_58 hm) hE
                · replace hF := hF.1 c_60
                  rw [if_pos c_60] at hE
                  refine lv_iload_n hx hb dX10_carried_97 rfl (lv_at hl 3 rfl) ?_
                  refine lv_goto (tgt := 103) hx hb dX10_carried_98 (by decide) ?_
                  refine lv_istore (lv' := [(5, .int w_56l3), (4, .int w_56l4), (6, .int w_56l6), (3, .int w_56l3), (2, .int (f_m_whoIsAt G f0 0 0)), (0, .ref h), (1, .int b_)]) hx hb dX10_carried_103 hl (by decide) rfl (fun ls hl => ?_)
                  refine lv_aload_n hx hb dX10_carried_105 rfl (lv_at hl 5 rfl) ?_
                  refine lv_iconst (v := 0) hx hb dX10_carried_106 (by decide) ?_
                  refine lv_iload hx hb dX10_carried_107 (lv_at hl 2 rfl) ?_
                  obtain ⟨hs_65, hF⟩ := hF
                  refine cVi (wr := [((Rf 10), .inl (cI, 30, .inl f10))]) (rest := []) (m_whoIsAt Rf h G f0 0 w_56l6 hs_65) okV_X10_whoIsAt wd_575 hx hb hml hown hts hK hP hD hS hA hN hl.1 [1, 0] [2] rfl rfl rfl rfl (by decide) rfl rfl rfl (Nat.le_of_ble_eq_true rfl) (Nat.le_of_ble_eq_true rfl) (Nat.le_of_ble_eq_true rfl) (Nat.le_of_ble_eq_true rfl) (Nat.le_of_ble_eq_true rfl) dX10_carried_109 (fun r_67 u_66 H locs hw_u_66 hP hD hS => ?_)
                  replace hw_u_66 : r_67 = (f_m_whoIsAt G f0 0 w_56l6) := hw_u_66
                  rw [hw_u_66]
                  clear hw_u_66
                  have hP : va_P D classes [((Rf 10), .inl (cI, 30, .inl f10)), (h, .inr (10, ML G Rf)), ((Rf 0), .inl (cI, 1302, .inl f0))] H := hP
                  have hD : va_D A [((Rf 10), .inl (cI, 30, .inl f10)), (h, .inr (10, ML G Rf)), ((Rf 0), .inl (cI, 1302, .inl f0))] := hD
                  refine lv_iconst (v := (-1)) hx hb dX10_carried_112 (by decide) ?_
                  refine lv_icmp_ne (tgt := 120) hx hb dX10_carried_113 (by decide) (fun c_68 => ?_) (fun c_68 => ?_)
                  · replace hF := hF.2 c_68
                    rw [if_neg c_68] at hE
                    refine lv_iload_n hx hb dX10_carried_120 rfl (lv_at hl 3 rfl) ?_
                    refine lv_iconst (v := 2) hx hb dX10_carried_121 (by decide) ?_
                    refine lv_idiv hx hb dX10_carried_122 (by decide) ?_
                    refine lv_istore_n (lv' := [(3, .int (w_56l3 / 2)), (5, .int w_56l3), (4, .int w_56l4), (6, .int w_56l6), (2, .int (f_m_whoIsAt G f0 0 0)), (0, .ref h), (1, .int b_)]) hx hb dX10_carried_123 rfl hl (by decide) rfl (fun ls hl => ?_)
                    refine lv_iinc (v := (w_56l6 + 1)) (lv' := [(6, .int (w_56l6 + 1)), (3, .int (w_56l3 / 2)), (5, .int w_56l3), (4, .int w_56l4), (2, .int (f_m_whoIsAt G f0 0 0)), (0, .ref h), (1, .int b_)]) hx hb dX10_carried_124 hl (k := 3) rfl rfl (by decide) rfl (fun ls hl => ?_)
                    refine lv_goto (tgt := 63) hx hb dX10_carried_127 (by decide) ?_
                    exact ih_w_56 (w_56l6 + 1) w_56l3 w_56l4 (w_56l3 / 2) _ _ ls (cutP (isC := [2, 1, 0]) hP rfl) (cutD (isC := [2, 1, 0]) hD rfl rfl) hS (lv_sub hl [0, 2, 3, 1, 4, 5, 6] rfl) hF (up_step c_58 hm) hE
                  · replace hF := hF.1 c_68
                    rw [if_pos c_68] at hE
                    refine lv_iload_n hx hb dX10_carried_116 rfl (lv_at hl 3 rfl) ?_
                    refine lv_goto (tgt := 123) hx hb dX10_carried_117 (by decide) ?_
                    refine lv_istore_n (lv' := [(3, .int w_56l3), (5, .int w_56l3), (4, .int w_56l4), (6, .int w_56l6), (2, .int (f_m_whoIsAt G f0 0 0)), (0, .ref h), (1, .int b_)]) hx hb dX10_carried_123 rfl hl (by decide) rfl (fun ls hl => ?_)
                    refine lv_iinc (v := (w_56l6 + 1)) (lv' := [(6, .int (w_56l6 + 1)), (3, .int w_56l3), (5, .int w_56l3), (4, .int w_56l4), (2, .int (f_m_whoIsAt G f0 0 0)), (0, .ref h), (1, .int b_)]) hx hb dX10_carried_124 hl (k := 3) rfl rfl (by decide) rfl (fun ls hl => ?_)
                    refine lv_goto (tgt := 63) hx hb dX10_carried_127 (by decide) ?_
                    exact ih_w_56 (w_56l6 + 1) w_56l3 w_56l4 w_56l3 _ _ ls (cutP (isC := [2, 1, 0]) hP rfl) (cutD (isC := [2, 1, 0]) hD rfl rfl) hS (lv_sub hl [0, 2, 3, 1, 4, 5, 6] rfl) hF (up_step c_58 hm) hE
              · replace hF := hF.1 c_59
                rw [if_pos c_59] at hE
                refine lv_iload hx hb dX10_carried_76 (lv_at hl 2 rfl) ?_
                refine lv_iconst (v := (-1)) hx hb dX10_carried_78 (by decide) ?_
                refine lv_icmp_ne (tgt := 87) hx hb dX10_carried_79 (by decide) (fun c_69 => ?_) (fun c_69 => ?_)
                · replace hF := hF.2 c_69
                  rw [if_neg c_69] at hE
                  refine lv_iload hx hb dX10_carried_87 (lv_at hl 2 rfl) ?_
                  refine lv_istore (lv' := [(4, .int w_56l4), (6, .int w_56l6), (5, .int w_56l5), (3, .int w_56l3), (2, .int (f_m_whoIsAt G f0 0 0)), (0, .ref h), (1, .int b_)]) hx hb dX10_carried_89 hl (by decide) rfl (fun ls hl => ?_)
                  refine lv_iload hx hb dX10_carried_91 (lv_at hl 1 rfl) ?_
                  refine lv_iload_n hx hb dX10_carried_93 rfl (lv_at hl 6 rfl) ?_
                  refine lv_icmp_ne (tgt := 101) hx hb dX10_carried_94 (by decide) (fun c_70 => ?_) (fun c_70 => ?_)
                  · replace hF := hF.2 c_70
                    rw [if_neg c_70] at hE
                    refine lv_iload hx hb dX10_carried_101 (lv_at hl 2 rfl) ?_
                    refine lv_istore (lv' := [(5, .int w_56l5), (4, .int w_56l4), (6, .int w_56l6), (3, .int w_56l3), (2, .int (f_m_whoIsAt G f0 0 0)), (0, .ref h), (1, .int b_)]) hx hb dX10_carried_103 hl (by decide) rfl (fun ls hl => ?_)
                    refine lv_aload_n hx hb dX10_carried_105 rfl (lv_at hl 5 rfl) ?_
                    refine lv_iconst (v := 0) hx hb dX10_carried_106 (by decide) ?_
                    refine lv_iload hx hb dX10_carried_107 (lv_at hl 2 rfl) ?_
                    obtain ⟨hs_71, hF⟩ := hF
                    refine cVi (wr := [((Rf 10), .inl (cI, 30, .inl f10))]) (rest := []) (m_whoIsAt Rf h G f0 0 w_56l6 hs_71) okV_X10_whoIsAt wd_575 hx hb hml hown hts hK hP hD hS hA hN hl.1 [1, 0] [2] rfl rfl rfl rfl (by decide) rfl rfl rfl (Nat.le_of_ble_eq_true rfl) (Nat.le_of_ble_eq_true rfl) (Nat.le_of_ble_eq_true rfl) (Nat.le_of_ble_eq_true rfl) (Nat.le_of_ble_eq_true rfl) dX10_carried_109 (fun r_73 u_72 H locs hw_u_72 hP hD hS => ?_)
                    replace hw_u_72 : r_73 = (f_m_whoIsAt G f0 0 w_56l6) := hw_u_72
                    rw [hw_u_72]
                    clear hw_u_72
                    have hP : va_P D classes [((Rf 10), .inl (cI, 30, .inl f10)), (h, .inr (10, ML G Rf)), ((Rf 0), .inl (cI, 1302, .inl f0))] H := hP
                    have hD : va_D A [((Rf 10), .inl (cI, 30, .inl f10)), (h, .inr (10, ML G Rf)), ((Rf 0), .inl (cI, 1302, .inl f0))] := hD
                    refine lv_iconst (v := (-1)) hx hb dX10_carried_112 (by decide) ?_
                    refine lv_icmp_ne (tgt := 120) hx hb dX10_carried_113 (by decide) (fun c_74 => ?_) (fun c_74 => ?_)
                    · replace hF := hF.2 c_74
                      rw [if_neg c_74] at hE
                      refine lv_iload_n hx hb dX10_carried_120 rfl (lv_at hl 3 rfl) ?_
                      refine lv_iconst (v := 2) hx hb dX10_carried_121 (by decide) ?_
                      refine lv_idiv hx hb dX10_carried_122 (by decide) ?_
                      refine lv_istore_n (lv' := [(3, .int (w_56l3 / 2)), (5, .int w_56l5), (4, .int w_56l4), (6, .int w_56l6), (2, .int (f_m_whoIsAt G f0 0 0)), (0, .ref h), (1, .int b_)]) hx hb dX10_carried_123 rfl hl (by decide) rfl (fun ls hl => ?_)
                      refine lv_iinc (v := (w_56l6 + 1)) (lv' := [(6, .int (w_56l6 + 1)), (3, .int (w_56l3 / 2)), (5, .int w_56l5), (4, .int w_56l4), (2, .int (f_m_whoIsAt G f0 0 0)), (0, .ref h), (1, .int b_)]) hx hb dX10_carried_124 hl (k := 3) rfl rfl (by decide) rfl (fun ls hl => ?_)
                      refine lv_goto (tgt := 63) hx hb dX10_carried_127 (by decide) ?_
                      exact ih_w_56 (w_56l6 + 1) w_56l5 w_56l4 (w_56l3 / 2) _ _ ls (cutP (isC := [2, 1, 0]) hP rfl) (cutD (isC := [2, 1, 0]) hD rfl rfl) hS (lv_sub hl [0, 2, 3, 1, 4, 5, 6] rfl) hF (up_step c_58 hm) hE
                    · replace hF := hF.1 c_74
                      rw [if_pos c_74] at hE
                      refine lv_iload_n hx hb dX10_carried_116 rfl (lv_at hl 3 rfl) ?_
                      refine lv_goto (tgt := 123) hx hb dX10_carried_117 (by decide) ?_
                      refine lv_istore_n (lv' := [(3, .int w_56l3), (5, .int w_56l5), (4, .int w_56l4), (6, .int w_56l6), (2, .int (f_m_whoIsAt G f0 0 0)), (0, .ref h), (1, .int b_)]) hx hb dX10_carried_123 rfl hl (by decide) rfl (fun ls hl => ?_)
                      refine lv_iinc (v := (w_56l6 + 1)) (lv' := [(6, .int (w_56l6 + 1)), (3, .int w_56l3), (5, .int w_56l5), (4, .int w_56l4), (2, .int (f_m_whoIsAt G f0 0 0)), (0, .ref h), (1, .int b_)]) hx hb dX10_carried_124 hl (k := 3) rfl rfl (by decide) rfl (fun ls hl => ?_)
                      refine lv_goto (tgt := 63) hx hb dX10_carried_127 (by decide) ?_
                      exact ih_w_56 (w_56l6 + 1) w_56l5 w_56l4 w_56l3 _ _ ls (cutP (isC := [2, 1, 0]) hP rfl) (cutD (isC := [2, 1, 0]) hD rfl rfl) hS (lv_sub hl [0, 2, 3, 1, 4, 5, 6] rfl) hF (up_step c_58 hm) hE
                  · replace hF := hF.1 c_70
                    rw [if_pos c_70] at hE
                    refine lv_iload_n hx hb dX10_carried_97 rfl (lv_at hl 3 rfl) ?_
                    refine lv_goto (tgt := 103) hx hb dX10_carried_98 (by decide) ?_
                    refine lv_istore (lv' := [(5, .int w_56l3), (4, .int w_56l4), (6, .int w_56l6), (3, .int w_56l3), (2, .int (f_m_whoIsAt G f0 0 0)), (0, .ref h), (1, .int b_)]) hx hb dX10_carried_103 hl (by decide) rfl (fun ls hl => ?_)
                    refine lv_aload_n hx hb dX10_carried_105 rfl (lv_at hl 5 rfl) ?_
                    refine lv_iconst (v := 0) hx hb dX10_carried_106 (by decide) ?_
                    refine lv_iload hx hb dX10_carried_107 (lv_at hl 2 rfl) ?_
                    obtain ⟨hs_75, hF⟩ := hF
                    refine cVi (wr := [((Rf 10), .inl (cI, 30, .inl f10))]) (rest := []) (m_whoIsAt Rf h G f0 0 w_56l6 hs_75) okV_X10_whoIsAt wd_575 hx hb hml hown hts hK hP hD hS hA hN hl.1 [1, 0] [2] rfl rfl rfl rfl (by decide) rfl rfl rfl (Nat.le_of_ble_eq_true rfl) (Nat.le_of_ble_eq_true rfl) (Nat.le_of_ble_eq_true rfl) (Nat.le_of_ble_eq_true rfl) (Nat.le_of_ble_eq_true rfl) dX10_carried_109 (fun r_77 u_76 H locs hw_u_76 hP hD hS => ?_)
                    replace hw_u_76 : r_77 = (f_m_whoIsAt G f0 0 w_56l6) := hw_u_76
                    rw [hw_u_76]
                    clear hw_u_76
                    have hP : va_P D classes [((Rf 10), .inl (cI, 30, .inl f10)), (h, .inr (10, ML G Rf)), ((Rf 0), .inl (cI, 1302, .inl f0))] H := hP
                    have hD : va_D A [((Rf 10), .inl (cI, 30, .inl f10)), (h, .inr (10, ML G Rf)), ((Rf 0), .inl (cI, 1302, .inl f0))] := hD
                    refine lv_iconst (v := (-1)) hx hb dX10_carried_112 (by decide) ?_
                    refine lv_icmp_ne (tgt := 120) hx hb dX10_carried_113 (by decide) (fun c_78 => ?_) (fun c_78 => ?_)
                    · replace hF := hF.2 c_78
                      rw [if_neg c_78] at hE
                      refine lv_iload_n hx hb dX10_carried_120 rfl (lv_at hl 3 rfl) ?_
                      refine lv_iconst (v := 2) hx hb dX10_carried_121 (by decide) ?_
                      refine lv_idiv hx hb dX10_carried_122 (by decide) ?_
                      refine lv_istore_n (lv' := [(3, .int (w_56l3 / 2)), (5, .int w_56l3), (4, .int w_56l4), (6, .int w_56l6), (2, .int (f_m_whoIsAt G f0 0 0)), (0, .ref h), (1, .int b_)]) hx hb dX10_carried_123 rfl hl (by decide) rfl (fun ls hl => ?_)
                      refine lv_iinc (v := (w_56l6 + 1)) (lv' := [(6, .int (w_56l6 + 1)), (3, .int (w_56l3 / 2)), (5, .int w_56l3), (4, .int w_56l4), (2, .int (f_m_whoIsAt G f0 0 0)), (0, .ref h), (1, .int b_)]) hx hb dX10_carried_124 hl (k := 3) rfl rfl (by decide) rfl (fun ls hl => ?_)
                      refine lv_goto (tgt := 63) hx hb dX10_carried_127 (by decide) ?_
                      exact ih_w_56 (w_56l6 + 1) w_56l3 w_56l4 (w_56l3 / 2) _ _ ls (cutP (isC := [2, 1, 0]) hP rfl) (cutD (isC := [2, 1, 0]) hD rfl rfl) hS (lv_sub hl [0, 2, 3, 1, 4, 5, 6] rfl) hF (up_step c_58 hm) hE
                    · replace hF := hF.1 c_78
                      rw [if_pos c_78] at hE
                      refine lv_iload_n hx hb dX10_carried_116 rfl (lv_at hl 3 rfl) ?_
                      refine lv_goto (tgt := 123) hx hb dX10_carried_117 (by decide) ?_
                      refine lv_istore_n (lv' := [(3, .int w_56l3), (5, .int w_56l3), (4, .int w_56l4), (6, .int w_56l6), (2, .int (f_m_whoIsAt G f0 0 0)), (0, .ref h), (1, .int b_)]) hx hb dX10_carried_123 rfl hl (by decide) rfl (fun ls hl => ?_)
                      refine lv_iinc (v := (w_56l6 + 1)) (lv' := [(6, .int (w_56l6 + 1)), (3, .int w_56l3), (5, .int w_56l3), (4, .int w_56l4), (2, .int (f_m_whoIsAt G f0 0 0)), (0, .ref h), (1, .int b_)]) hx hb dX10_carried_124 hl (k := 3) rfl rfl (by decide) rfl (fun ls hl => ?_)
                      refine lv_goto (tgt := 63) hx hb dX10_carried_127 (by decide) ?_
                      exact ih_w_56 (w_56l6 + 1) w_56l3 w_56l4 w_56l3 _ _ ls (cutP (isC := [2, 1, 0]) hP rfl) (cutD (isC := [2, 1, 0]) hD rfl rfl) hS (lv_sub hl [0, 2, 3, 1, 4, 5, 6] rfl) hF (up_step c_58 hm) hE
                · replace hF := hF.1 c_69
                  rw [if_pos c_69] at hE
                  refine lv_iload hx hb dX10_carried_82 (lv_at hl 0 rfl) ?_
                  refine lv_goto (tgt := 89) hx hb dX10_carried_84 (by decide) ?_
                  refine lv_istore (lv' := [(4, .int w_56l6), (6, .int w_56l6), (5, .int w_56l5), (3, .int w_56l3), (2, .int (f_m_whoIsAt G f0 0 0)), (0, .ref h), (1, .int b_)]) hx hb dX10_carried_89 hl (by decide) rfl (fun ls hl => ?_)
                  refine lv_iload hx hb dX10_carried_91 (lv_at hl 1 rfl) ?_
                  refine lv_iload_n hx hb dX10_carried_93 rfl (lv_at hl 6 rfl) ?_
                  refine lv_icmp_ne (tgt := 101) hx hb dX10_carried_94 (by decide) (fun c_79 => ?_) (fun c_79 => ?_)
                  · replace hF := hF.2 c_79
                    rw [if_neg c_79] at hE
                    refine lv_iload hx hb dX10_carried_101 (lv_at hl 2 rfl) ?_
                    refine lv_istore (lv' := [(5, .int w_56l5), (4, .int w_56l6), (6, .int w_56l6), (3, .int w_56l3), (2, .int (f_m_whoIsAt G f0 0 0)), (0, .ref h), (1, .int b_)]) hx hb dX10_carried_103 hl (by decide) rfl (fun ls hl => ?_)
                    refine lv_aload_n hx hb dX10_carried_105 rfl (lv_at hl 5 rfl) ?_
                    refine lv_iconst (v := 0) hx hb dX10_carried_106 (by decide) ?_
                    refine lv_iload hx hb dX10_carried_107 (lv_at hl 2 rfl) ?_
                    obtain ⟨hs_80, hF⟩ := hF
                    refine cVi (wr := [((Rf 10), .inl (cI, 30, .inl f10))]) (rest := []) (m_whoIsAt Rf h G f0 0 w_56l6 hs_80) okV_X10_whoIsAt wd_575 hx hb hml hown hts hK hP hD hS hA hN hl.1 [1, 0] [2] rfl rfl rfl rfl (by decide) rfl rfl rfl (Nat.le_of_ble_eq_true rfl) (Nat.le_of_ble_eq_true rfl) (Nat.le_of_ble_eq_true rfl) (Nat.le_of_ble_eq_true rfl) (Nat.le_of_ble_eq_true rfl) dX10_carried_109 (fun r_82 u_81 H locs hw_u_81 hP hD hS => ?_)
                    replace hw_u_81 : r_82 = (f_m_whoIsAt G f0 0 w_56l6) := hw_u_81
                    rw [hw_u_81]
                    clear hw_u_81
                    have hP : va_P D classes [((Rf 10), .inl (cI, 30, .inl f10)), (h, .inr (10, ML G Rf)), ((Rf 0), .inl (cI, 1302, .inl f0))] H := hP
                    have hD : va_D A [((Rf 10), .inl (cI, 30, .inl f10)), (h, .inr (10, ML G Rf)), ((Rf 0), .inl (cI, 1302, .inl f0))] := hD
                    refine lv_iconst (v := (-1)) hx hb dX10_carried_112 (by decide) ?_
                    refine lv_icmp_ne (tgt := 120) hx hb dX10_carried_113 (by decide) (fun c_83 => ?_) (fun c_83 => ?_)
                    · replace hF := hF.2 c_83
                      rw [if_neg c_83] at hE
                      refine lv_iload_n hx hb dX10_carried_120 rfl (lv_at hl 3 rfl) ?_
                      refine lv_iconst (v := 2) hx hb dX10_carried_121 (by decide) ?_
                      refine lv_idiv hx hb dX10_carried_122 (by decide) ?_
                      refine lv_istore_n (lv' := [(3, .int (w_56l3 / 2)), (5, .int w_56l5), (4, .int w_56l6), (6, .int w_56l6), (2, .int (f_m_whoIsAt G f0 0 0)), (0, .ref h), (1, .int b_)]) hx hb dX10_carried_123 rfl hl (by decide) rfl (fun ls hl => ?_)
                      refine lv_iinc (v := (w_56l6 + 1)) (lv' := [(6, .int (w_56l6 + 1)), (3, .int (w_56l3 / 2)), (5, .int w_56l5), (4, .int w_56l6), (2, .int (f_m_whoIsAt G f0 0 0)), (0, .ref h), (1, .int b_)]) hx hb dX10_carried_124 hl (k := 3) rfl rfl (by decide) rfl (fun ls hl => ?_)
                      refine lv_goto (tgt := 63) hx hb dX10_carried_127 (by decide) ?_
                      exact ih_w_56 (w_56l6 + 1) w_56l5 w_56l6 (w_56l3 / 2) _ _ ls (cutP (isC := [2, 1, 0]) hP rfl) (cutD (isC := [2, 1, 0]) hD rfl rfl) hS (lv_sub hl [0, 2, 3, 1, 4, 5, 6] rfl) hF (up_step c_58 hm) hE
                    · replace hF := hF.1 c_83
                      rw [if_pos c_83] at hE
                      refine lv_iload_n hx hb dX10_carried_116 rfl (lv_at hl 3 rfl) ?_
                      refine lv_goto (tgt := 123) hx hb dX10_carried_117 (by decide) ?_
                      refine lv_istore_n (lv' := [(3, .int w_56l3), (5, .int w_56l5), (4, .int w_56l6), (6, .int w_56l6), (2, .int (f_m_whoIsAt G f0 0 0)), (0, .ref h), (1, .int b_)]) hx hb dX10_carried_123 rfl hl (by decide) rfl (fun ls hl => ?_)
                      refine lv_iinc (v := (w_56l6 + 1)) (lv' := [(6, .int (w_56l6 + 1)), (3, .int w_56l3), (5, .int w_56l5), (4, .int w_56l6), (2, .int (f_m_whoIsAt G f0 0 0)), (0, .ref h), (1, .int b_)]) hx hb dX10_carried_124 hl (k := 3) rfl rfl (by decide) rfl (fun ls hl => ?_)
                      refine lv_goto (tgt := 63) hx hb dX10_carried_127 (by decide) ?_
                      exact ih_w_56 (w_56l6 + 1) w_56l5 w_56l6 w_56l3 _ _ ls (cutP (isC := [2, 1, 0]) hP rfl) (cutD (isC := [2, 1, 0]) hD rfl rfl) hS (lv_sub hl [0, 2, 3, 1, 4, 5, 6] rfl) hF (up_step c_58 hm) hE
                  · replace hF := hF.1 c_79
                    rw [if_pos c_79] at hE
                    refine lv_iload_n hx hb dX10_carried_97 rfl (lv_at hl 3 rfl) ?_
                    refine lv_goto (tgt := 103) hx hb dX10_carried_98 (by decide) ?_
                    refine lv_istore (lv' := [(5, .int w_56l3), (4, .int w_56l6), (6, .int w_56l6), (3, .int w_56l3), (2, .int (f_m_whoIsAt G f0 0 0)), (0, .ref h), (1, .int b_)]) hx hb dX10_carried_103 hl (by decide) rfl (fun ls hl => ?_)
                    refine lv_aload_n hx hb dX10_carried_105 rfl (lv_at hl 5 rfl) ?_
                    refine lv_iconst (v := 0) hx hb dX10_carried_106 (by decide) ?_
                    refine lv_iload hx hb dX10_carried_107 (lv_at hl 2 rfl) ?_
                    obtain ⟨hs_84, hF⟩ := hF
                    refine cVi (wr := [((Rf 10), .inl (cI, 30, .inl f10))]) (rest := []) (m_whoIsAt Rf h G f0 0 w_56l6 hs_84) okV_X10_whoIsAt wd_575 hx hb hml hown hts hK hP hD hS hA hN hl.1 [1, 0] [2] rfl rfl rfl rfl (by decide) rfl rfl rfl (Nat.le_of_ble_eq_true rfl) (Nat.le_of_ble_eq_true rfl) (Nat.le_of_ble_eq_true rfl) (Nat.le_of_ble_eq_true rfl) (Nat.le_of_ble_eq_true rfl) dX10_carried_109 (fun r_86 u_85 H locs hw_u_85 hP hD hS => ?_)
                    replace hw_u_85 : r_86 = (f_m_whoIsAt G f0 0 w_56l6) := hw_u_85
                    rw [hw_u_85]
                    clear hw_u_85
                    have hP : va_P D classes [((Rf 10), .inl (cI, 30, .inl f10)), (h, .inr (10, ML G Rf)), ((Rf 0), .inl (cI, 1302, .inl f0))] H := hP
                    have hD : va_D A [((Rf 10), .inl (cI, 30, .inl f10)), (h, .inr (10, ML G Rf)), ((Rf 0), .inl (cI, 1302, .inl f0))] := hD
                    refine lv_iconst (v := (-1)) hx hb dX10_carried_112 (by decide) ?_
                    refine lv_icmp_ne (tgt := 120) hx hb dX10_carried_113 (by decide) (fun c_87 => ?_) (fun c_87 => ?_)
                    · replace hF := hF.2 c_87
                      rw [if_neg c_87] at hE
                      refine lv_iload_n hx hb dX10_carried_120 rfl (lv_at hl 3 rfl) ?_
                      refine lv_iconst (v := 2) hx hb dX10_carried_121 (by decide) ?_
                      refine lv_idiv hx hb dX10_carried_122 (by decide) ?_
                      refine lv_istore_n (lv' := [(3, .int (w_56l3 / 2)), (5, .int w_56l3), (4, .int w_56l6), (6, .int w_56l6), (2, .int (f_m_whoIsAt G f0 0 0)), (0, .ref h), (1, .int b_)]) hx hb dX10_carried_123 rfl hl (by decide) rfl (fun ls hl => ?_)
                      refine lv_iinc (v := (w_56l6 + 1)) (lv' := [(6, .int (w_56l6 + 1)), (3, .int (w_56l3 / 2)), (5, .int w_56l3), (4, .int w_56l6), (2, .int (f_m_whoIsAt G f0 0 0)), (0, .ref h), (1, .int b_)]) hx hb dX10_carried_124 hl (k := 3) rfl rfl (by decide) rfl (fun ls hl => ?_)
                      refine lv_goto (tgt := 63) hx hb dX10_carried_127 (by decide) ?_
                      exact ih_w_56 (w_56l6 + 1) w_56l3 w_56l6 (w_56l3 / 2) _ _ ls (cutP (isC := [2, 1, 0]) hP rfl) (cutD (isC := [2, 1, 0]) hD rfl rfl) hS (lv_sub hl [0, 2, 3, 1, 4, 5, 6] rfl) hF (up_step c_58 hm) hE
                    · replace hF := hF.1 c_87
                      rw [if_pos c_87] at hE
                      refine lv_iload_n hx hb dX10_carried_116 rfl (lv_at hl 3 rfl) ?_
                      refine lv_goto (tgt := 123) hx hb dX10_carried_117 (by decide) ?_
                      refine lv_istore_n (lv' := [(3, .int w_56l3), (5, .int w_56l3), (4, .int w_56l6), (6, .int w_56l6), (2, .int (f_m_whoIsAt G f0 0 0)), (0, .ref h), (1, .int b_)]) hx hb dX10_carried_123 rfl hl (by decide) rfl (fun ls hl => ?_)
                      refine lv_iinc (v := (w_56l6 + 1)) (lv' := [(6, .int (w_56l6 + 1)), (3, .int w_56l3), (5, .int w_56l3), (4, .int w_56l6), (2, .int (f_m_whoIsAt G f0 0 0)), (0, .ref h), (1, .int b_)]) hx hb dX10_carried_124 hl (k := 3) rfl rfl (by decide) rfl (fun ls hl => ?_)
                      refine lv_goto (tgt := 63) hx hb dX10_carried_127 (by decide) ?_
                      exact ih_w_56 (w_56l6 + 1) w_56l3 w_56l6 w_56l3 _ _ ls (cutP (isC := [2, 1, 0]) hP rfl) (cutD (isC := [2, 1, 0]) hD rfl rfl) hS (lv_sub hl [0, 2, 3, 1, 4, 5, 6] rfl) hF (up_step c_58 hm) hE
        exact lp_63_w_56 ((((G 3) : Int32).toInt - (1 : Int32).toInt).toNat + 1) 1 0 (-1) (f_m_stampOf G f10 (f_m_whoIsAt G f0 0 0) (f0 ((12 + (f_m_whoIsAt G f0 0 0)) : Int32).toNatClampNeg) (f0 ((0 + (f_m_whoIsAt G f0 0 0)) : Int32).toNatClampNeg)) _ _ ls hP hD hS hl hF (Nat.lt_succ_self _) hE
      · replace hF := hF.1 c_50
        rw [if_pos c_50] at hE
        refine lv_ldc (v := (-1000000003)) hx hb hown (hts _ wd_562) dX10_carried_28 ?_
        exact hret (-1000000003) () _ _ _ _ dX10_carried_30 rfl hE (cutP (isC := [1, 2, 0]) hP rfl) (cutD (isC := [1, 2, 0]) hD rfl rfl) hS
    · replace hF := hF.1 c_46
      rw [if_pos c_46] at hE
      refine lv_ldc (v := (-1000000001)) hx hb hown (hts _ wd_580) dX10_carried_13 ?_
      exact hret (-1000000001) () _ _ _ _ dX10_carried_15 rfl hE (cutP (isC := [2, 0, 1]) hP rfl) (cutD (isC := [2, 0, 1]) hD rfl rfl) hS
noncomputable def f_m_midstream_74 (n_ : Int32) (n : Nat) : Int32 → Int64 → Int32 → Int32 × Int64 × Int32 := Nat.rec (motive := fun _ => Int32 → Int64 → Int32 → Int32 × Int64 × Int32) (fun w_15l7 w_15l5 w_15l4 => (w_15l7, w_15l5, w_15l4)) (fun n ih w_15l7 w_15l5 w_15l4 => (if n_ ≤ w_15l7 then (w_15l7, w_15l5, w_15l4) else (ih (w_15l7 + 1) ((w_15l5 * ((1000 - w_15l4)).toInt64) / 1000) w_15l4))) n
theorem f_m_midstream_74_s (n_ : Int32) (n : Nat) (w_15l7 : Int32) (w_15l5 : Int64) (w_15l4 : Int32) : f_m_midstream_74 n_ (n + 1) w_15l7 w_15l5 w_15l4 = (if n_ ≤ w_15l7 then (w_15l7, w_15l5, w_15l4) else (f_m_midstream_74 n_ n (w_15l7 + 1) ((w_15l5 * ((1000 - w_15l4)).toInt64) / 1000) w_15l4)) := rfl
def S_m_midstream_74 (n_ : Int32) (K : Int32 → Int64 → Int32 → Prop) (n : Nat) : Int32 → Int64 → Int32 → Prop := Nat.rec (motive := fun _ => Int32 → Int64 → Int32 → Prop) (fun _ _ _ => True) (fun n ih w_15l7 w_15l5 w_15l4 => ((n_ ≤ w_15l7 → (K w_15l7 w_15l5 w_15l4)) ∧ (¬ n_ ≤ w_15l7 → (ih (w_15l7 + 1) ((w_15l5 * ((1000 - w_15l4)).toInt64) / 1000) w_15l4)))) n
theorem S_m_midstream_74_s (n_ : Int32) (K : Int32 → Int64 → Int32 → Prop) (n : Nat) (w_15l7 : Int32) (w_15l5 : Int64) (w_15l4 : Int32) : S_m_midstream_74 n_ K (n + 1) w_15l7 w_15l5 w_15l4 = (((n_ ≤ w_15l7 → (K w_15l7 w_15l5 w_15l4)) ∧ (¬ n_ ≤ w_15l7 → (S_m_midstream_74 n_ K n (w_15l7 + 1) ((w_15l5 * ((1000 - w_15l4)).toInt64) / 1000) w_15l4)))) := rfl
noncomputable def f_m_midstream (G : Nat → Int32) (f0 : Nat → Int32) (c_ : Int32) (n_ : Int32) (q_ : Int32) : Int32 := (if (f_m_isCouple G c_) = 0 then (-1000000001) else (if (f_m_in n_.toInt64 0 99) = 0 then (-1000000002) else (if (f_m_in q_.toInt64 0 1000) = 0 then (-1000000002) else (if q_ ≤ (f0 ((0 + c_) : Int32).toNatClampNeg) then (match ((f_m_midstream_74 n_ (((n_ : Int32).toInt - (0 : Int32).toInt).toNat + 1) 0 1000000000 0) : Int32 × Int64 × Int32) with | (w_15l7, w_15l5, w_15l4) => ((w_15l5).toInt32)) else (match ((f_m_midstream_74 n_ (((n_ : Int32).toInt - (0 : Int32).toInt).toNat + 1) 0 1000000000 (q_ - (f0 ((0 + c_) : Int32).toNatClampNeg))) : Int32 × Int64 × Int32) with | (w_18l7, w_18l5, w_18l4) => ((w_18l5).toInt32))))))
def S_m_midstream (G : Nat → Int32) (f0 : Nat → Int32) (c_ : Int32) (n_ : Int32) (q_ : Int32) : Prop := ((S_m_isCouple G c_) ∧ (((f_m_isCouple G c_) = 0 → True) ∧ (¬ (f_m_isCouple G c_) = 0 → ((S_m_in n_.toInt64 0 99) ∧ (((f_m_in n_.toInt64 0 99) = 0 → True) ∧ (¬ (f_m_in n_.toInt64 0 99) = 0 → ((S_m_in q_.toInt64 0 1000) ∧ (((f_m_in q_.toInt64 0 1000) = 0 → True) ∧ (¬ (f_m_in q_.toInt64 0 1000) = 0 → (vp_in (0 + c_) 1302 ∧ ((q_ ≤ (f0 ((0 + c_) : Int32).toNatClampNeg) → (S_m_midstream_74 n_ (fun (w_15l7 : Int32) (w_15l5 : Int64) (w_15l4 : Int32) => True) (((n_ : Int32).toInt - (0 : Int32).toInt).toNat + 1) 0 1000000000 0)) ∧ (¬ q_ ≤ (f0 ((0 + c_) : Int32).toNatClampNeg) → (vp_in (0 + c_) 1302 ∧ (S_m_midstream_74 n_ (fun (w_18l7 : Int32) (w_18l5 : Int64) (w_18l4 : Int32) => True) (((n_ : Int32).toInt - (0 : Int32).toInt).toNat + 1) 0 1000000000 (q_ - (f0 ((0 + c_) : Int32).toNatClampNeg))))))))))))))))
def rm_m_midstream : Room := { frames := 2, cells := 0, slots := 0, locals := 46 }
set_option maxHeartbeats 4000000 in
set_option maxRecDepth 100000 in
theorem m_midstream {l : Launch} {D : va_G} {cI cZ : ClassId} {sz : Nat} (Rf : Nat → Nat) (h : Nat) (G : Nat → Int32) (f0 : Nat → Int32) (c_ : Int32) (n_ : Int32) (q_ : Int32) (hF : S_m_midstream G f0 c_ n_ q_) : KI l yX10_midstream cX10_midstream 8 (some .int) rm_m_midstream D cI cZ [.ref h, .int c_, .int n_, .int q_] sz [(h, .inr (10, ML G Rf)), ((Rf 0), .inl (cI, 1302, .inl f0))] (fun (r : Int32) (_ : Unit) => r = f_m_midstream G f0 c_ n_ q_) (fun (_ : Unit) => [(h, .inr (10, ML G Rf)), ((Rf 0), .inl (cI, 1302, .inl f0))]) := by
  refine KI.go rfl (Nat.le_of_ble_eq_true rfl) ?_
  intro p e s m args below meth c ls A Q hx hb hml hts hown hin hP hK hD hS hA hN hl hret
  have hl : lv_has ls 8 [(0, .ref h), (1, .int c_), (2, .int n_), (3, .int q_)] := hl
  rw [S_m_midstream] at hF
  obtain ⟨RES, hE⟩ : ∃ xRES, f_m_midstream G f0 c_ n_ q_ = xRES := ⟨_, rfl⟩
  rw [hE] at hret
  rw [f_m_midstream] at hE
  refine lv_aload_n hx hb dX10_midstream_0 rfl (lv_at hl 0 rfl) ?_
  refine lv_iload_n hx hb dX10_midstream_1 rfl (lv_at hl 1 rfl) ?_
  obtain ⟨hs_1, hF⟩ := hF
  refine cVi (wr := [((Rf 0), .inl (cI, 1302, .inl f0))]) (rest := []) (m_isCouple Rf h G c_ hs_1) okV_X10_isCouple wd_581 hx hb hml hown hts hK hP hD hS hA hN hl.1 [0] [1] rfl rfl rfl rfl (by decide) rfl rfl rfl (Nat.le_of_ble_eq_true rfl) (Nat.le_of_ble_eq_true rfl) (Nat.le_of_ble_eq_true rfl) (Nat.le_of_ble_eq_true rfl) (Nat.le_of_ble_eq_true rfl) dX10_midstream_2 (fun r_3 u_2 H locs hw_u_2 hP hD hS => ?_)
  replace hw_u_2 : r_3 = (f_m_isCouple G c_) := hw_u_2
  rw [hw_u_2]
  clear hw_u_2
  have hP : va_P D classes [((Rf 0), .inl (cI, 1302, .inl f0)), (h, .inr (10, ML G Rf))] H := hP
  have hD : va_D A [((Rf 0), .inl (cI, 1302, .inl f0)), (h, .inr (10, ML G Rf))] := hD
  refine lv_if_ne (tgt := 11) hx hb dX10_midstream_5 (by decide) (fun c_4 => ?_) (fun c_4 => ?_)
  · replace hF := hF.2 c_4
    rw [if_neg c_4] at hE
    refine lv_iload_n hx hb dX10_midstream_11 rfl (lv_at hl 2 rfl) ?_
    refine lv_i2l (v := n_.toInt64) hx hb dX10_midstream_12 rfl ?_
    refine lv_lconst (v := 0) hx hb dX10_midstream_13 (by decide) ?_
    refine lv_ldc2 (v := 99) hx hb hown (hts _ wd_599) dX10_midstream_14 ?_
    obtain ⟨hs_5, hF⟩ := hF
    refine cSi (wr := [((Rf 0), .inl (cI, 1302, .inl f0)), (h, .inr (10, ML G Rf))]) (rest := []) (m_in n_.toInt64 0 99 hs_5) okS_X10_in wd_495 hx hb hml hown hts hK hP hD hS hA hN hl.1 [] [0, 1] rfl rfl rfl rfl (by decide) rfl (Nat.le_of_ble_eq_true rfl) (Nat.le_of_ble_eq_true rfl) (Nat.le_of_ble_eq_true rfl) (Nat.le_of_ble_eq_true rfl) (Nat.le_of_ble_eq_true rfl) dX10_midstream_17 (fun r_7 u_6 H locs hw_u_6 hP hD hS => ?_)
    replace hw_u_6 : r_7 = (f_m_in n_.toInt64 0 99) := hw_u_6
    rw [hw_u_6]
    clear hw_u_6
    have hP : va_P D classes [((Rf 0), .inl (cI, 1302, .inl f0)), (h, .inr (10, ML G Rf))] H := hP
    have hD : va_D A [((Rf 0), .inl (cI, 1302, .inl f0)), (h, .inr (10, ML G Rf))] := hD
    refine lv_if_eq (tgt := 35) hx hb dX10_midstream_20 (by decide) (fun c_8 => ?_) (fun c_8 => ?_)
    · replace hF := hF.1 c_8
      rw [if_pos c_8] at hE
      refine lv_ldc (v := (-1000000002)) hx hb hown (hts _ wd_507) dX10_midstream_35 ?_
      exact hret (-1000000002) () _ _ _ _ dX10_midstream_37 rfl hE (cutP (isC := [1, 0]) hP rfl) (cutD (isC := [1, 0]) hD rfl rfl) hS
    · replace hF := hF.2 c_8
      rw [if_neg c_8] at hE
      refine lv_iload_n hx hb dX10_midstream_23 rfl (lv_at hl 3 rfl) ?_
      refine lv_i2l (v := q_.toInt64) hx hb dX10_midstream_24 rfl ?_
      refine lv_lconst (v := 0) hx hb dX10_midstream_25 (by decide) ?_
      refine lv_ldc2 (v := 1000) hx hb hown (hts _ wd_661) dX10_midstream_26 ?_
      obtain ⟨hs_9, hF⟩ := hF
      refine cSi (wr := [((Rf 0), .inl (cI, 1302, .inl f0)), (h, .inr (10, ML G Rf))]) (rest := []) (m_in q_.toInt64 0 1000 hs_9) okS_X10_in wd_495 hx hb hml hown hts hK hP hD hS hA hN hl.1 [] [0, 1] rfl rfl rfl rfl (by decide) rfl (Nat.le_of_ble_eq_true rfl) (Nat.le_of_ble_eq_true rfl) (Nat.le_of_ble_eq_true rfl) (Nat.le_of_ble_eq_true rfl) (Nat.le_of_ble_eq_true rfl) dX10_midstream_29 (fun r_11 u_10 H locs hw_u_10 hP hD hS => ?_)
      replace hw_u_10 : r_11 = (f_m_in q_.toInt64 0 1000) := hw_u_10
      rw [hw_u_10]
      clear hw_u_10
      have hP : va_P D classes [((Rf 0), .inl (cI, 1302, .inl f0)), (h, .inr (10, ML G Rf))] H := hP
      have hD : va_D A [((Rf 0), .inl (cI, 1302, .inl f0)), (h, .inr (10, ML G Rf))] := hD
      refine lv_if_ne (tgt := 38) hx hb dX10_midstream_32 (by decide) (fun c_12 => ?_) (fun c_12 => ?_)
      · replace hF := hF.2 c_12
        rw [if_neg c_12] at hE
        refine lv_iload_n hx hb dX10_midstream_38 rfl (lv_at hl 3 rfl) ?_
        refine lv_aload_n hx hb dX10_midstream_39 rfl (lv_at hl 0 rfl) ?_
        refine va_get (D := D) (ci := 10) (v := .ref (Rf 0)) (C := RX10) (T := TX10) (N := 45) hx hb hts iX10 hown hK hP 1 rfl rfl 0 (by decide) (hts _ wd_491) (fun _ h9 => h9) rfl dX10_midstream_40 ?_
        refine lv_iconst (v := 0) hx hb dX10_midstream_43 (by decide) ?_
        refine lv_iload_n hx hb dX10_midstream_44 rfl (lv_at hl 1 rfl) ?_
        refine lv_iadd hx hb dX10_midstream_45 ?_
        obtain ⟨hv_13, hF⟩ := hF
        refine va_iald hx hb hK hP 0 0 rfl rfl hv_13 dX10_midstream_46 ?_
        refine lv_icmp_le (tgt := 63) hx hb dX10_midstream_47 (by decide) (fun c_14 => ?_) (fun c_14 => ?_)
        · replace hF := hF.1 c_14
          rw [if_pos c_14] at hE
          refine lv_iconst (v := 0) hx hb dX10_midstream_63 (by decide) ?_
          refine lv_istore (lv' := [(4, .int 0), (0, .ref h), (1, .int c_), (2, .int n_), (3, .int q_)]) hx hb dX10_midstream_64 hl (by decide) rfl (fun ls hl => ?_)
          refine lv_ldc2 (v := 1000000000) hx hb hown (hts _ wd_662) dX10_midstream_66 ?_
          refine lv_lstore (lv' := [(5, .long 1000000000), (4, .int 0), (0, .ref h), (1, .int c_), (2, .int n_), (3, .int q_)]) hx hb dX10_midstream_69 hl (by decide) rfl (fun ls hl => ?_)
          refine lv_iconst (v := 0) hx hb dX10_midstream_71 (by decide) ?_
          refine lv_istore (lv' := [(7, .int 0), (5, .long 1000000000), (4, .int 0), (0, .ref h), (1, .int c_), (2, .int n_), (3, .int q_)]) hx hb dX10_midstream_72 hl (by decide) rfl (fun ls hl => ?_)
          have ex_74_w_15 : ∀ (w_15l7 : Int32) (w_15l5 : Int64) (w_15l4 : Int32) (H : Heap) (locs : List Loc) (ls : Array Slot), va_P D classes [((Rf 0), .inl (cI, 1302, .inl f0)), (h, .inr (10, ML G Rf))] H → va_D A [((Rf 0), .inl (cI, 1302, .inl f0)), (h, .inr (10, ML G Rf))] → va_S A s.heap H locs → lv_has ls 8 [(7, .int w_15l7), (5, .long w_15l5), (4, .int w_15l4), (0, .ref h), (1, .int c_), (2, .int n_), (3, .int q_)] → (True) → ((((w_15l5).toInt32)) : Int32) = RES → W p l e rm_m_midstream s m args below meth c H locs 0 0 Q (F0 m 102 ls []) := by
            intro w_15l7 w_15l5 w_15l4 H locs ls hP hD hS hl hF hE
            refine lv_lload hx hb dX10_midstream_102 (lv_at hl 1 rfl) ?_
            refine lv_l2i (v := (w_15l5).toInt32) hx hb dX10_midstream_104 rfl ?_
            exact hret ((w_15l5).toInt32) () _ _ _ _ dX10_midstream_105 rfl hE (cutP (isC := [1, 0]) hP rfl) (cutD (isC := [1, 0]) hD rfl rfl) hS
          have lp_74_w_15 : ∀ (n_w_15 : Nat) (w_15l7 : Int32) (w_15l5 : Int64) (w_15l4 : Int32) (H : Heap) (locs : List Loc) (ls : Array Slot), va_P D classes [((Rf 0), .inl (cI, 1302, .inl f0)), (h, .inr (10, ML G Rf))] H → va_D A [((Rf 0), .inl (cI, 1302, .inl f0)), (h, .inr (10, ML G Rf))] → va_S A s.heap H locs → lv_has ls 8 [(7, .int w_15l7), (5, .long w_15l5), (4, .int w_15l4), (0, .ref h), (1, .int c_), (2, .int n_), (3, .int q_)] → (S_m_midstream_74 n_ (fun (w_15l7 : Int32) (w_15l5 : Int64) (w_15l4 : Int32) => True) n_w_15 w_15l7 w_15l5 w_15l4) → ((n_ : Int32).toInt - (w_15l7 : Int32).toInt).toNat < n_w_15 → ((match ((f_m_midstream_74 n_ n_w_15 w_15l7 w_15l5 w_15l4) : Int32 × Int64 × Int32) with | (w_15l7, w_15l5, w_15l4) => ((w_15l5).toInt32)) : Int32) = RES → W p l e rm_m_midstream s m args below meth c H locs 0 0 Q (F0 m 74 ls []) := by
            intro n_w_15
            induction n_w_15 with
            | zero => intro w_15l7 w_15l5 w_15l4 H locs ls hP hD hS hl hF hm; exact absurd hm (Nat.not_lt_zero _)
            | succ n_w_15 ih_w_15 =>
              intro w_15l7 w_15l5 w_15l4 H locs ls hP hD hS hl hF hm hE
              rw [S_m_midstream_74_s] at hF
              rw [f_m_midstream_74_s] at hE
              refine lv_iload hx hb dX10_midstream_74 (lv_at hl 0 rfl) ?_
              refine lv_iload_n hx hb dX10_midstream_76 rfl (lv_at hl 5 rfl) ?_
              refine lv_icmp_ge (tgt := 102) hx hb dX10_midstream_77 (by decide) (fun c_16 => ?_) (fun c_16 => ?_)
              · replace hF := hF.1 c_16
                rw [if_pos c_16] at hE
                exact ex_74_w_15 w_15l7 w_15l5 w_15l4 _ _ ls hP hD hS (lv_sub hl [0, 1, 2, 3, 4, 5, 6] rfl) hF hE
              · replace hF := hF.2 c_16
                rw [if_neg c_16] at hE
                refine lv_lload hx hb dX10_midstream_80 (lv_at hl 1 rfl) ?_
                refine lv_sipush (v := 1000) hx hb dX10_midstream_82 (by decide) ?_
                refine lv_iload hx hb dX10_midstream_85 (lv_at hl 2 rfl) ?_
                refine lv_isub hx hb dX10_midstream_87 ?_
                refine lv_i2l (v := ((1000 - w_15l4)).toInt64) hx hb dX10_midstream_88 rfl ?_
                refine lv_lmul hx hb dX10_midstream_89 ?_
                refine lv_ldc2 (v := 1000) hx hb hown (hts _ wd_661) dX10_midstream_90 ?_
                refine lv_ldiv hx hb dX10_midstream_93 (by decide) ?_
                refine lv_lstore (lv' := [(5, .long (((w_15l5 * ((1000 - w_15l4)).toInt64) / 1000))), (7, .int w_15l7), (4, .int w_15l4), (0, .ref h), (1, .int c_), (2, .int n_), (3, .int q_)]) hx hb dX10_midstream_94 hl (by decide) rfl (fun ls hl => ?_)
                refine lv_iinc (v := (w_15l7 + 1)) (lv' := [(7, .int (w_15l7 + 1)), (5, .long (((w_15l5 * ((1000 - w_15l4)).toInt64) / 1000))), (4, .int w_15l4), (0, .ref h), (1, .int c_), (2, .int n_), (3, .int q_)]) hx hb dX10_midstream_96 hl (k := 1) rfl rfl (by decide) rfl (fun ls hl => ?_)
                refine lv_goto (tgt := 74) hx hb dX10_midstream_99 (by decide) ?_
                exact ih_w_15 (w_15l7 + 1) ((w_15l5 * ((1000 - w_15l4)).toInt64) / 1000) w_15l4 _ _ ls hP hD hS (lv_sub hl [0, 1, 2, 3, 4, 5, 6] rfl) hF (up_step c_16 hm) hE
          exact lp_74_w_15 (((n_ : Int32).toInt - (0 : Int32).toInt).toNat + 1) 0 1000000000 0 _ _ ls hP hD hS hl hF (Nat.lt_succ_self _) hE
        · replace hF := hF.2 c_14
          rw [if_neg c_14] at hE
          refine lv_iload_n hx hb dX10_midstream_50 rfl (lv_at hl 3 rfl) ?_
          refine lv_aload_n hx hb dX10_midstream_51 rfl (lv_at hl 0 rfl) ?_
          refine va_get (D := D) (ci := 10) (v := .ref (Rf 0)) (C := RX10) (T := TX10) (N := 45) hx hb hts iX10 hown hK hP 1 rfl rfl 0 (by decide) (hts _ wd_491) (fun _ h9 => h9) rfl dX10_midstream_52 ?_
          refine lv_iconst (v := 0) hx hb dX10_midstream_55 (by decide) ?_
          refine lv_iload_n hx hb dX10_midstream_56 rfl (lv_at hl 1 rfl) ?_
          refine lv_iadd hx hb dX10_midstream_57 ?_
          obtain ⟨hv_17, hF⟩ := hF
          refine va_iald hx hb hK hP 0 0 rfl rfl hv_17 dX10_midstream_58 ?_
          refine lv_isub hx hb dX10_midstream_59 ?_
          refine lv_goto (tgt := 64) hx hb dX10_midstream_60 (by decide) ?_
          refine lv_istore (lv' := [(4, .int (q_ - (f0 ((0 + c_) : Int32).toNatClampNeg))), (0, .ref h), (1, .int c_), (2, .int n_), (3, .int q_)]) hx hb dX10_midstream_64 hl (by decide) rfl (fun ls hl => ?_)
          refine lv_ldc2 (v := 1000000000) hx hb hown (hts _ wd_662) dX10_midstream_66 ?_
          refine lv_lstore (lv' := [(5, .long 1000000000), (4, .int (q_ - (f0 ((0 + c_) : Int32).toNatClampNeg))), (0, .ref h), (1, .int c_), (2, .int n_), (3, .int q_)]) hx hb dX10_midstream_69 hl (by decide) rfl (fun ls hl => ?_)
          refine lv_iconst (v := 0) hx hb dX10_midstream_71 (by decide) ?_
          refine lv_istore (lv' := [(7, .int 0), (5, .long 1000000000), (4, .int (q_ - (f0 ((0 + c_) : Int32).toNatClampNeg))), (0, .ref h), (1, .int c_), (2, .int n_), (3, .int q_)]) hx hb dX10_midstream_72 hl (by decide) rfl (fun ls hl => ?_)
          have ex_74_w_18 : ∀ (w_18l7 : Int32) (w_18l5 : Int64) (w_18l4 : Int32) (H : Heap) (locs : List Loc) (ls : Array Slot), va_P D classes [((Rf 0), .inl (cI, 1302, .inl f0)), (h, .inr (10, ML G Rf))] H → va_D A [((Rf 0), .inl (cI, 1302, .inl f0)), (h, .inr (10, ML G Rf))] → va_S A s.heap H locs → lv_has ls 8 [(7, .int w_18l7), (5, .long w_18l5), (4, .int w_18l4), (0, .ref h), (1, .int c_), (2, .int n_), (3, .int q_)] → (True) → ((((w_18l5).toInt32)) : Int32) = RES → W p l e rm_m_midstream s m args below meth c H locs 0 0 Q (F0 m 102 ls []) := by
            intro w_18l7 w_18l5 w_18l4 H locs ls hP hD hS hl hF hE
            refine lv_lload hx hb dX10_midstream_102 (lv_at hl 1 rfl) ?_
            refine lv_l2i (v := (w_18l5).toInt32) hx hb dX10_midstream_104 rfl ?_
            exact hret ((w_18l5).toInt32) () _ _ _ _ dX10_midstream_105 rfl hE (cutP (isC := [1, 0]) hP rfl) (cutD (isC := [1, 0]) hD rfl rfl) hS
          have lp_74_w_18 : ∀ (n_w_18 : Nat) (w_18l7 : Int32) (w_18l5 : Int64) (w_18l4 : Int32) (H : Heap) (locs : List Loc) (ls : Array Slot), va_P D classes [((Rf 0), .inl (cI, 1302, .inl f0)), (h, .inr (10, ML G Rf))] H → va_D A [((Rf 0), .inl (cI, 1302, .inl f0)), (h, .inr (10, ML G Rf))] → va_S A s.heap H locs → lv_has ls 8 [(7, .int w_18l7), (5, .long w_18l5), (4, .int w_18l4), (0, .ref h), (1, .int c_), (2, .int n_), (3, .int q_)] → (S_m_midstream_74 n_ (fun (w_18l7 : Int32) (w_18l5 : Int64) (w_18l4 : Int32) => True) n_w_18 w_18l7 w_18l5 w_18l4) → ((n_ : Int32).toInt - (w_18l7 : Int32).toInt).toNat < n_w_18 → ((match ((f_m_midstream_74 n_ n_w_18 w_18l7 w_18l5 w_18l4) : Int32 × Int64 × Int32) with | (w_18l7, w_18l5, w_18l4) => ((w_18l5).toInt32)) : Int32) = RES → W p l e rm_m_midstream s m args below meth c H locs 0 0 Q (F0 m 74 ls []) := by
            intro n_w_18
            induction n_w_18 with
            | zero => intro w_18l7 w_18l5 w_18l4 H locs ls hP hD hS hl hF hm; exact absurd hm (Nat.not_lt_zero _)
            | succ n_w_18 ih_w_18 =>
              intro w_18l7 w_18l5 w_18l4 H locs ls hP hD hS hl hF hm hE
              rw [S_m_midstream_74_s] at hF
              rw [f_m_midstream_74_s] at hE
              refine lv_iload hx hb dX10_midstream_74 (lv_at hl 0 rfl) ?_
              refine lv_iload_n hx hb dX10_midstream_76 rfl (lv_at hl 5 rfl) ?_
              refine lv_icmp_ge (tgt := 102) hx hb dX10_midstream_77 (by decide) (fun c_19 => ?_) (fun c_19 => ?_)
              · replace hF := hF.1 c_19
                rw [if_pos c_19] at hE
                exact ex_74_w_18 w_18l7 w_18l5 w_18l4 _ _ ls hP hD hS (lv_sub hl [0, 1, 2, 3, 4, 5, 6] rfl) hF hE
              · replace hF := hF.2 c_19
                rw [if_neg c_19] at hE
                refine lv_lload hx hb dX10_midstream_80 (lv_at hl 1 rfl) ?_
                refine lv_sipush (v := 1000) hx hb dX10_midstream_82 (by decide) ?_
                refine lv_iload hx hb dX10_midstream_85 (lv_at hl 2 rfl) ?_
                refine lv_isub hx hb dX10_midstream_87 ?_
                refine lv_i2l (v := ((1000 - w_18l4)).toInt64) hx hb dX10_midstream_88 rfl ?_
                refine lv_lmul hx hb dX10_midstream_89 ?_
                refine lv_ldc2 (v := 1000) hx hb hown (hts _ wd_661) dX10_midstream_90 ?_
                refine lv_ldiv hx hb dX10_midstream_93 (by decide) ?_
                refine lv_lstore (lv' := [(5, .long (((w_18l5 * ((1000 - w_18l4)).toInt64) / 1000))), (7, .int w_18l7), (4, .int w_18l4), (0, .ref h), (1, .int c_), (2, .int n_), (3, .int q_)]) hx hb dX10_midstream_94 hl (by decide) rfl (fun ls hl => ?_)
                refine lv_iinc (v := (w_18l7 + 1)) (lv' := [(7, .int (w_18l7 + 1)), (5, .long (((w_18l5 * ((1000 - w_18l4)).toInt64) / 1000))), (4, .int w_18l4), (0, .ref h), (1, .int c_), (2, .int n_), (3, .int q_)]) hx hb dX10_midstream_96 hl (k := 1) rfl rfl (by decide) rfl (fun ls hl => ?_)
                refine lv_goto (tgt := 74) hx hb dX10_midstream_99 (by decide) ?_
                exact ih_w_18 (w_18l7 + 1) ((w_18l5 * ((1000 - w_18l4)).toInt64) / 1000) w_18l4 _ _ ls hP hD hS (lv_sub hl [0, 1, 2, 3, 4, 5, 6] rfl) hF (up_step c_19 hm) hE
          exact lp_74_w_18 (((n_ : Int32).toInt - (0 : Int32).toInt).toNat + 1) 0 1000000000 (q_ - (f0 ((0 + c_) : Int32).toNatClampNeg)) _ _ ls hP hD hS hl hF (Nat.lt_succ_self _) hE
      · replace hF := hF.1 c_12
        rw [if_pos c_12] at hE
        refine lv_ldc (v := (-1000000002)) hx hb hown (hts _ wd_507) dX10_midstream_35 ?_
        exact hret (-1000000002) () _ _ _ _ dX10_midstream_37 rfl hE (cutP (isC := [1, 0]) hP rfl) (cutD (isC := [1, 0]) hD rfl rfl) hS
  · replace hF := hF.1 c_4
    rw [if_pos c_4] at hE
    refine lv_ldc (v := (-1000000001)) hx hb hown (hts _ wd_580) dX10_midstream_8 ?_
    exact hret (-1000000001) () _ _ _ _ dX10_midstream_10 rfl hE (cutP (isC := [1, 0]) hP rfl) (cutD (isC := [1, 0]) hD rfl rfl) hS
noncomputable def f_m_judge_2 (G : Nat → Int32) (f0 : Nat → Int32) (f43 : Nat → Int32) (f44 : Nat → Int32) (n : Nat) : Int32 → (Int32) ⊕ (Int32) := Nat.rec (motive := fun _ => Int32 → (Int32) ⊕ (Int32)) (fun w_1l1 => Sum.inl w_1l1) (fun n ih w_1l1 => (if (G 42) ≤ w_1l1 then (Sum.inl w_1l1) else (if (f0 ((0 + (f43 (w_1l1 : Int32).toNatClampNeg)) : Int32).toNatClampNeg) = (f44 (w_1l1 : Int32).toNatClampNeg) then (ih (w_1l1 + 1)) else (Sum.inr w_1l1)))) n
theorem f_m_judge_2_s (G : Nat → Int32) (f0 : Nat → Int32) (f43 : Nat → Int32) (f44 : Nat → Int32) (n : Nat) (w_1l1 : Int32) : f_m_judge_2 G f0 f43 f44 (n + 1) w_1l1 = (if (G 42) ≤ w_1l1 then (Sum.inl w_1l1) else (if (f0 ((0 + (f43 (w_1l1 : Int32).toNatClampNeg)) : Int32).toNatClampNeg) = (f44 (w_1l1 : Int32).toNatClampNeg) then (f_m_judge_2 G f0 f43 f44 n (w_1l1 + 1)) else (Sum.inr w_1l1))) := rfl
def S_m_judge_2 (G : Nat → Int32) (f0 : Nat → Int32) (f43 : Nat → Int32) (f44 : Nat → Int32) (K : Int32 → Prop) (n : Nat) : Int32 → Prop := Nat.rec (motive := fun _ => Int32 → Prop) (fun _ => True) (fun n ih w_1l1 => (((G 42) ≤ w_1l1 → (K w_1l1)) ∧ (¬ (G 42) ≤ w_1l1 → (vp_in w_1l1 15 ∧ (vp_in (0 + (f43 (w_1l1 : Int32).toNatClampNeg)) 1302 ∧ (vp_in w_1l1 15 ∧ (((f0 ((0 + (f43 (w_1l1 : Int32).toNatClampNeg)) : Int32).toNatClampNeg) = (f44 (w_1l1 : Int32).toNatClampNeg) → (ih (w_1l1 + 1))) ∧ (¬ (f0 ((0 + (f43 (w_1l1 : Int32).toNatClampNeg)) : Int32).toNatClampNeg) = (f44 (w_1l1 : Int32).toNatClampNeg) → True)))))))) n
theorem S_m_judge_2_s (G : Nat → Int32) (f0 : Nat → Int32) (f43 : Nat → Int32) (f44 : Nat → Int32) (K : Int32 → Prop) (n : Nat) (w_1l1 : Int32) : S_m_judge_2 G f0 f43 f44 K (n + 1) w_1l1 = ((((G 42) ≤ w_1l1 → (K w_1l1)) ∧ (¬ (G 42) ≤ w_1l1 → (vp_in w_1l1 15 ∧ (vp_in (0 + (f43 (w_1l1 : Int32).toNatClampNeg)) 1302 ∧ (vp_in w_1l1 15 ∧ (((f0 ((0 + (f43 (w_1l1 : Int32).toNatClampNeg)) : Int32).toNatClampNeg) = (f44 (w_1l1 : Int32).toNatClampNeg) → (S_m_judge_2 G f0 f43 f44 K n (w_1l1 + 1))) ∧ (¬ (f0 ((0 + (f43 (w_1l1 : Int32).toNatClampNeg)) : Int32).toNatClampNeg) = (f44 (w_1l1 : Int32).toNatClampNeg) → True)))))))) := rfl
noncomputable def f_m_judge (G : Nat → Int32) (f0 : Nat → Int32) (f43 : Nat → Int32) (f44 : Nat → Int32) : Int32 := (match ((f_m_judge_2 G f0 f43 f44 ((((G 42) : Int32).toInt - (0 : Int32).toInt).toNat + 1) 0) : (Int32) ⊕ (Int32)) with | Sum.inl w_1l1 => (-1) | Sum.inr o => o)
def S_m_judge (G : Nat → Int32) (f0 : Nat → Int32) (f43 : Nat → Int32) (f44 : Nat → Int32) : Prop := (S_m_judge_2 G f0 f43 f44 (fun (w_1l1 : Int32) => True) ((((G 42) : Int32).toInt - (0 : Int32).toInt).toNat + 1) 0)
def rm_m_judge : Room := { frames := 0, cells := 0, slots := 0, locals := 0 }
set_option maxHeartbeats 4000000 in
set_option maxRecDepth 100000 in
theorem m_judge {l : Launch} {D : va_G} {cI cZ : ClassId} {sz : Nat} (Rf : Nat → Nat) (h : Nat) (G : Nat → Int32) (f0 : Nat → Int32) (f43 : Nat → Int32) (f44 : Nat → Int32) (hF : S_m_judge G f0 f43 f44) : KI l yX10_judge cX10_judge 2 (some .int) rm_m_judge D cI cZ [.ref h] sz [(h, .inr (10, ML G Rf)), ((Rf 0), .inl (cI, 1302, .inl f0)), ((Rf 43), .inl (cI, 15, .inl f43)), ((Rf 44), .inl (cI, 15, .inl f44))] (fun (r : Int32) (_ : Unit) => r = f_m_judge G f0 f43 f44) (fun (_ : Unit) => [(h, .inr (10, ML G Rf)), ((Rf 0), .inl (cI, 1302, .inl f0)), ((Rf 43), .inl (cI, 15, .inl f43)), ((Rf 44), .inl (cI, 15, .inl f44))]) := by
  refine KI.go rfl (Nat.le_of_ble_eq_true rfl) ?_
  intro p e s m args below meth c ls A Q hx hb hml hts hown hin hP hK hD hS hA hN hl hret
  have hl : lv_has ls 2 [(0, .ref h)] := hl
  rw [S_m_judge] at hF
  obtain ⟨RES, hE⟩ : ∃ xRES, f_m_judge G f0 f43 f44 = xRES := ⟨_, rfl⟩
  rw [hE] at hret
  rw [f_m_judge] at hE
  refine lv_iconst (v := 0) hx hb dX10_judge_0 (by decide) ?_
  refine lv_istore_n (lv' := [(1, .int 0), (0, .ref h)]) hx hb dX10_judge_1 rfl hl (by decide) rfl (fun ls hl => ?_)
  have ex_2_w_1 : ∀ (w_1l1 : Int32) (H : Heap) (locs : List Loc) (ls : Array Slot), va_P D classes [(h, .inr (10, ML G Rf)), ((Rf 0), .inl (cI, 1302, .inl f0)), ((Rf 43), .inl (cI, 15, .inl f43)), ((Rf 44), .inl (cI, 15, .inl f44))] H → va_D A [(h, .inr (10, ML G Rf)), ((Rf 0), .inl (cI, 1302, .inl f0)), ((Rf 43), .inl (cI, 15, .inl f43)), ((Rf 44), .inl (cI, 15, .inl f44))] → va_S A s.heap H locs → lv_has ls 2 [(1, .int w_1l1), (0, .ref h)] → (True) → (((-1)) : Int32) = RES → W p l e rm_m_judge s m args below meth c H locs 0 0 Q (F0 m 40 ls []) := by
    intro w_1l1 H locs ls hP hD hS hl hF hE
    refine lv_iconst (v := (-1)) hx hb dX10_judge_40 (by decide) ?_
    exact hret (-1) () _ _ _ _ dX10_judge_41 rfl hE hP hD hS
  have lp_2_w_1 : ∀ (n_w_1 : Nat) (w_1l1 : Int32) (H : Heap) (locs : List Loc) (ls : Array Slot), va_P D classes [(h, .inr (10, ML G Rf)), ((Rf 0), .inl (cI, 1302, .inl f0)), ((Rf 43), .inl (cI, 15, .inl f43)), ((Rf 44), .inl (cI, 15, .inl f44))] H → va_D A [(h, .inr (10, ML G Rf)), ((Rf 0), .inl (cI, 1302, .inl f0)), ((Rf 43), .inl (cI, 15, .inl f43)), ((Rf 44), .inl (cI, 15, .inl f44))] → va_S A s.heap H locs → lv_has ls 2 [(1, .int w_1l1), (0, .ref h)] → (S_m_judge_2 G f0 f43 f44 (fun (w_1l1 : Int32) => True) n_w_1 w_1l1) → (((G 42) : Int32).toInt - (w_1l1 : Int32).toInt).toNat < n_w_1 → ((match ((f_m_judge_2 G f0 f43 f44 n_w_1 w_1l1) : (Int32) ⊕ (Int32)) with | Sum.inl w_1l1 => (-1) | Sum.inr o => o) : Int32) = RES → W p l e rm_m_judge s m args below meth c H locs 0 0 Q (F0 m 2 ls []) := by
    intro n_w_1
    induction n_w_1 with
    | zero => intro w_1l1 H locs ls hP hD hS hl hF hm; exact absurd hm (Nat.not_lt_zero _)
    | succ n_w_1 ih_w_1 =>
      intro w_1l1 H locs ls hP hD hS hl hF hm hE
      rw [S_m_judge_2_s] at hF
      rw [f_m_judge_2_s] at hE
      refine lv_iload_n hx hb dX10_judge_2 rfl (lv_at hl 0 rfl) ?_
      refine lv_aload_n hx hb dX10_judge_3 rfl (lv_at hl 1 rfl) ?_
      refine va_get (D := D) (ci := 10) (v := .int (G 42)) (C := RX10) (T := TX10) (N := 45) hx hb hts iX10 hown hK hP 0 rfl rfl 42 (by decide) (hts _ wd_609) (fun _ h9 => h9) rfl dX10_judge_4 ?_
      refine lv_icmp_ge (tgt := 40) hx hb dX10_judge_7 (by decide) (fun c_2 => ?_) (fun c_2 => ?_)
      · replace hF := hF.1 c_2
        rw [if_pos c_2] at hE
        exact ex_2_w_1 w_1l1 _ _ ls hP hD hS (lv_sub hl [0, 1] rfl) hF hE
      · replace hF := hF.2 c_2
        rw [if_neg c_2] at hE
        refine lv_aload_n hx hb dX10_judge_10 rfl (lv_at hl 1 rfl) ?_
        refine va_get (D := D) (ci := 10) (v := .ref (Rf 0)) (C := RX10) (T := TX10) (N := 45) hx hb hts iX10 hown hK hP 0 rfl rfl 0 (by decide) (hts _ wd_491) (fun _ h9 => h9) rfl dX10_judge_11 ?_
        refine lv_iconst (v := 0) hx hb dX10_judge_14 (by decide) ?_
        refine lv_aload_n hx hb dX10_judge_15 rfl (lv_at hl 1 rfl) ?_
        refine va_get (D := D) (ci := 10) (v := .ref (Rf 43)) (C := RX10) (T := TX10) (N := 45) hx hb hts iX10 hown hK hP 0 rfl rfl 43 (by decide) (hts _ wd_610) (fun _ h9 => h9) rfl dX10_judge_16 ?_
        refine lv_iload_n hx hb dX10_judge_19 rfl (lv_at hl 0 rfl) ?_
        obtain ⟨hv_3, hF⟩ := hF
        refine va_iald hx hb hK hP 2 0 rfl rfl hv_3 dX10_judge_20 ?_
        refine lv_iadd hx hb dX10_judge_21 ?_
        obtain ⟨hv_4, hF⟩ := hF
        refine va_iald hx hb hK hP 1 0 rfl rfl hv_4 dX10_judge_22 ?_
        refine lv_aload_n hx hb dX10_judge_23 rfl (lv_at hl 1 rfl) ?_
        refine va_get (D := D) (ci := 10) (v := .ref (Rf 44)) (C := RX10) (T := TX10) (N := 45) hx hb hts iX10 hown hK hP 0 rfl rfl 44 (by decide) (hts _ wd_611) (fun _ h9 => h9) rfl dX10_judge_24 ?_
        refine lv_iload_n hx hb dX10_judge_27 rfl (lv_at hl 0 rfl) ?_
        obtain ⟨hv_5, hF⟩ := hF
        refine va_iald hx hb hK hP 3 0 rfl rfl hv_5 dX10_judge_28 ?_
        refine lv_icmp_eq (tgt := 34) hx hb dX10_judge_29 (by decide) (fun c_6 => ?_) (fun c_6 => ?_)
        · replace hF := hF.1 c_6
          rw [if_pos c_6] at hE
          refine lv_iinc (v := (w_1l1 + 1)) (lv' := [(1, .int (w_1l1 + 1)), (0, .ref h)]) hx hb dX10_judge_34 hl (k := 0) rfl rfl (by decide) rfl (fun ls hl => ?_)
          refine lv_goto (tgt := 2) hx hb dX10_judge_37 (by decide) ?_
          exact ih_w_1 (w_1l1 + 1) _ _ ls hP hD hS (lv_sub hl [0, 1] rfl) hF (up_step c_2 hm) hE
        · replace hF := hF.2 c_6
          rw [if_neg c_6] at hE
          refine lv_iload_n hx hb dX10_judge_32 rfl (lv_at hl 0 rfl) ?_
          exact hret w_1l1 () _ _ _ _ dX10_judge_33 rfl hE hP hD hS
  exact lp_2_w_1 ((((G 42) : Int32).toInt - (0 : Int32).toInt).toNat + 1) 0 _ _ ls hP hD hS hl hF (Nat.lt_succ_self _) hE
noncomputable def f_m_fleet_49 (G : Nat → Int32) (f0 : Nat → Int32) (w_5l2 : Int32) (n : Nat) : Int32 → Int32 → Int32 × Int32 := Nat.rec (motive := fun _ => Int32 → Int32 → Int32 × Int32) (fun w_6l4 w_6l3 => (w_6l4, w_6l3)) (fun n ih w_6l4 w_6l3 => (if (1 <<< ((G 5) &&& 31)) ≤ w_6l4 then (w_6l4, w_6l3) else (if (w_6l4 &&& (f0 (18 : Int32).toNatClampNeg)) = 0 then (if (f_m_griefOf G f0 w_6l4) < w_5l2 then (ih (w_6l4 + 1) w_6l3) else (if w_6l3 = (-1) then (ih (w_6l4 + 1) w_6l4) else (if (f_m_ones w_6l3) ≤ (f_m_ones w_6l4) then (ih (w_6l4 + 1) w_6l3) else (ih (w_6l4 + 1) w_6l4)))) else (ih (w_6l4 + 1) w_6l3)))) n
theorem f_m_fleet_49_s (G : Nat → Int32) (f0 : Nat → Int32) (w_5l2 : Int32) (n : Nat) (w_6l4 : Int32) (w_6l3 : Int32) : f_m_fleet_49 G f0 w_5l2 (n + 1) w_6l4 w_6l3 = (if (1 <<< ((G 5) &&& 31)) ≤ w_6l4 then (w_6l4, w_6l3) else (if (w_6l4 &&& (f0 (18 : Int32).toNatClampNeg)) = 0 then (if (f_m_griefOf G f0 w_6l4) < w_5l2 then (f_m_fleet_49 G f0 w_5l2 n (w_6l4 + 1) w_6l3) else (if w_6l3 = (-1) then (f_m_fleet_49 G f0 w_5l2 n (w_6l4 + 1) w_6l4) else (if (f_m_ones w_6l3) ≤ (f_m_ones w_6l4) then (f_m_fleet_49 G f0 w_5l2 n (w_6l4 + 1) w_6l3) else (f_m_fleet_49 G f0 w_5l2 n (w_6l4 + 1) w_6l4)))) else (f_m_fleet_49 G f0 w_5l2 n (w_6l4 + 1) w_6l3))) := rfl
def S_m_fleet_49 (G : Nat → Int32) (f0 : Nat → Int32) (w_5l2 : Int32) (K : Int32 → Int32 → Prop) (n : Nat) : Int32 → Int32 → Prop := Nat.rec (motive := fun _ => Int32 → Int32 → Prop) (fun _ _ => True) (fun n ih w_6l4 w_6l3 => (((1 <<< ((G 5) &&& 31)) ≤ w_6l4 → (K w_6l4 w_6l3)) ∧ (¬ (1 <<< ((G 5) &&& 31)) ≤ w_6l4 → (((w_6l4 &&& (f0 (18 : Int32).toNatClampNeg)) = 0 → ((S_m_griefOf G f0 w_6l4) ∧ (((f_m_griefOf G f0 w_6l4) < w_5l2 → (ih (w_6l4 + 1) w_6l3)) ∧ (¬ (f_m_griefOf G f0 w_6l4) < w_5l2 → ((w_6l3 = (-1) → (ih (w_6l4 + 1) w_6l4)) ∧ (¬ w_6l3 = (-1) → ((S_m_ones w_6l4) ∧ ((S_m_ones w_6l3) ∧ (((f_m_ones w_6l3) ≤ (f_m_ones w_6l4) → (ih (w_6l4 + 1) w_6l3)) ∧ (¬ (f_m_ones w_6l3) ≤ (f_m_ones w_6l4) → (ih (w_6l4 + 1) w_6l4))))))))))) ∧ (¬ (w_6l4 &&& (f0 (18 : Int32).toNatClampNeg)) = 0 → (ih (w_6l4 + 1) w_6l3)))))) n
theorem S_m_fleet_49_s (G : Nat → Int32) (f0 : Nat → Int32) (w_5l2 : Int32) (K : Int32 → Int32 → Prop) (n : Nat) (w_6l4 : Int32) (w_6l3 : Int32) : S_m_fleet_49 G f0 w_5l2 K (n + 1) w_6l4 w_6l3 = ((((1 <<< ((G 5) &&& 31)) ≤ w_6l4 → (K w_6l4 w_6l3)) ∧ (¬ (1 <<< ((G 5) &&& 31)) ≤ w_6l4 → (((w_6l4 &&& (f0 (18 : Int32).toNatClampNeg)) = 0 → ((S_m_griefOf G f0 w_6l4) ∧ (((f_m_griefOf G f0 w_6l4) < w_5l2 → (S_m_fleet_49 G f0 w_5l2 K n (w_6l4 + 1) w_6l3)) ∧ (¬ (f_m_griefOf G f0 w_6l4) < w_5l2 → ((w_6l3 = (-1) → (S_m_fleet_49 G f0 w_5l2 K n (w_6l4 + 1) w_6l4)) ∧ (¬ w_6l3 = (-1) → ((S_m_ones w_6l4) ∧ ((S_m_ones w_6l3) ∧ (((f_m_ones w_6l3) ≤ (f_m_ones w_6l4) → (S_m_fleet_49 G f0 w_5l2 K n (w_6l4 + 1) w_6l3)) ∧ (¬ (f_m_ones w_6l3) ≤ (f_m_ones w_6l4) → (S_m_fleet_49 G f0 w_5l2 K n (w_6l4 + 1) w_6l4))))))))))) ∧ (¬ (w_6l4 &&& (f0 (18 : Int32).toNatClampNeg)) = 0 → (S_m_fleet_49 G f0 w_5l2 K n (w_6l4 + 1) w_6l3)))))) := rfl
noncomputable def f_m_fleet_19 (G : Nat → Int32) (f8 : Nat → Int32) (n_ : Int32) (n : Nat) : Int32 → Int32 → Int32 × Int32 := Nat.rec (motive := fun _ => Int32 → Int32 → Int32 × Int32) (fun w_5l3 w_5l2 => (w_5l3, w_5l2)) (fun n ih w_5l3 w_5l2 => (if (G 3) ≤ w_5l3 then (w_5l3, w_5l2) else (ih (w_5l3 + 1) (w_5l2 + (n_ * (f8 (w_5l3 : Int32).toNatClampNeg)))))) n
theorem f_m_fleet_19_s (G : Nat → Int32) (f8 : Nat → Int32) (n_ : Int32) (n : Nat) (w_5l3 : Int32) (w_5l2 : Int32) : f_m_fleet_19 G f8 n_ (n + 1) w_5l3 w_5l2 = (if (G 3) ≤ w_5l3 then (w_5l3, w_5l2) else (f_m_fleet_19 G f8 n_ n (w_5l3 + 1) (w_5l2 + (n_ * (f8 (w_5l3 : Int32).toNatClampNeg))))) := rfl
def S_m_fleet_19 (G : Nat → Int32) (f8 : Nat → Int32) (n_ : Int32) (K : Int32 → Int32 → Prop) (n : Nat) : Int32 → Int32 → Prop := Nat.rec (motive := fun _ => Int32 → Int32 → Prop) (fun _ _ => True) (fun n ih w_5l3 w_5l2 => (((G 3) ≤ w_5l3 → (K w_5l3 w_5l2)) ∧ (¬ (G 3) ≤ w_5l3 → (vp_in w_5l3 6 ∧ (ih (w_5l3 + 1) (w_5l2 + (n_ * (f8 (w_5l3 : Int32).toNatClampNeg)))))))) n
theorem S_m_fleet_19_s (G : Nat → Int32) (f8 : Nat → Int32) (n_ : Int32) (K : Int32 → Int32 → Prop) (n : Nat) (w_5l3 : Int32) (w_5l2 : Int32) : S_m_fleet_19 G f8 n_ K (n + 1) w_5l3 w_5l2 = ((((G 3) ≤ w_5l3 → (K w_5l3 w_5l2)) ∧ (¬ (G 3) ≤ w_5l3 → (vp_in w_5l3 6 ∧ (S_m_fleet_19 G f8 n_ K n (w_5l3 + 1) (w_5l2 + (n_ * (f8 (w_5l3 : Int32).toNatClampNeg)))))))) := rfl
noncomputable def f_m_fleet (G : Nat → Int32) (f0 : Nat → Int32) (f8 : Nat → Int32) (n_ : Int32) : Int32 := (if (f_m_in n_.toInt64 1 9) = 0 then (-1000000002) else (match ((f_m_fleet_19 G f8 n_ ((((G 3) : Int32).toInt - (0 : Int32).toInt).toNat + 1) 0 0) : Int32 × Int32) with | (w_5l3, w_5l2) => (match ((f_m_fleet_49 G f0 w_5l2 ((((1 <<< ((G 5) &&& 31)) : Int32).toInt - (0 : Int32).toInt).toNat + 1) 0 (-1)) : Int32 × Int32) with | (w_6l4, w_6l3) => w_6l3)))
def S_m_fleet (G : Nat → Int32) (f0 : Nat → Int32) (f8 : Nat → Int32) (n_ : Int32) : Prop := ((S_m_in n_.toInt64 1 9) ∧ (((f_m_in n_.toInt64 1 9) = 0 → True) ∧ (¬ (f_m_in n_.toInt64 1 9) = 0 → (S_m_fleet_19 G f8 n_ (fun (w_5l3 : Int32) (w_5l2 : Int32) => (S_m_fleet_49 G f0 w_5l2 (fun (w_6l4 : Int32) (w_6l3 : Int32) => True) ((((1 <<< ((G 5) &&& 31)) : Int32).toInt - (0 : Int32).toInt).toNat + 1) 0 (-1))) ((((G 3) : Int32).toInt - (0 : Int32).toInt).toNat + 1) 0 0))))
def rm_m_fleet : Room := { frames := 2, cells := 0, slots := 0, locals := 44 }
set_option maxHeartbeats 4000000 in
set_option maxRecDepth 100000 in
theorem m_fleet {l : Launch} {D : va_G} {cI cZ : ClassId} {sz : Nat} (Rf : Nat → Nat) (h : Nat) (G : Nat → Int32) (f0 : Nat → Int32) (f8 : Nat → Int32) (n_ : Int32) (hF : S_m_fleet G f0 f8 n_) : KI l yX10_fleet cX10_fleet 6 (some .int) rm_m_fleet D cI cZ [.ref h, .int n_] sz [(h, .inr (10, ML G Rf)), ((Rf 0), .inl (cI, 1302, .inl f0)), ((Rf 8), .inl (cI, 6, .inl f8))] (fun (r : Int32) (_ : Unit) => r = f_m_fleet G f0 f8 n_) (fun (_ : Unit) => [(h, .inr (10, ML G Rf)), ((Rf 0), .inl (cI, 1302, .inl f0)), ((Rf 8), .inl (cI, 6, .inl f8))]) := by
  refine KI.go rfl (Nat.le_of_ble_eq_true rfl) ?_
  intro p e s m args below meth c ls A Q hx hb hml hts hown hin hP hK hD hS hA hN hl hret
  have hl : lv_has ls 6 [(0, .ref h), (1, .int n_)] := hl
  rw [S_m_fleet] at hF
  obtain ⟨RES, hE⟩ : ∃ xRES, f_m_fleet G f0 f8 n_ = xRES := ⟨_, rfl⟩
  rw [hE] at hret
  rw [f_m_fleet] at hE
  refine lv_iload_n hx hb dX10_fleet_0 rfl (lv_at hl 1 rfl) ?_
  refine lv_i2l (v := n_.toInt64) hx hb dX10_fleet_1 rfl ?_
  refine lv_lconst (v := 1) hx hb dX10_fleet_2 (by decide) ?_
  refine lv_ldc2 (v := 9) hx hb hown (hts _ wd_663) dX10_fleet_3 ?_
  obtain ⟨hs_1, hF⟩ := hF
  refine cSi (wr := [(h, .inr (10, ML G Rf)), ((Rf 0), .inl (cI, 1302, .inl f0)), ((Rf 8), .inl (cI, 6, .inl f8))]) (rest := []) (m_in n_.toInt64 1 9 hs_1) okS_X10_in wd_495 hx hb hml hown hts hK hP hD hS hA hN hl.1 [] [0, 1, 2] rfl rfl rfl rfl (by decide) rfl (Nat.le_of_ble_eq_true rfl) (Nat.le_of_ble_eq_true rfl) (Nat.le_of_ble_eq_true rfl) (Nat.le_of_ble_eq_true rfl) (Nat.le_of_ble_eq_true rfl) dX10_fleet_6 (fun r_3 u_2 H locs hw_u_2 hP hD hS => ?_)
  replace hw_u_2 : r_3 = (f_m_in n_.toInt64 1 9) := hw_u_2
  rw [hw_u_2]
  clear hw_u_2
  have hP : va_P D classes [(h, .inr (10, ML G Rf)), ((Rf 0), .inl (cI, 1302, .inl f0)), ((Rf 8), .inl (cI, 6, .inl f8))] H := hP
  have hD : va_D A [(h, .inr (10, ML G Rf)), ((Rf 0), .inl (cI, 1302, .inl f0)), ((Rf 8), .inl (cI, 6, .inl f8))] := hD
  refine lv_if_ne (tgt := 15) hx hb dX10_fleet_9 (by decide) (fun c_4 => ?_) (fun c_4 => ?_)
  · replace hF := hF.2 c_4
    rw [if_neg c_4] at hE
    refine lv_iconst (v := 0) hx hb dX10_fleet_15 (by decide) ?_
    refine lv_istore_n (lv' := [(2, .int 0), (0, .ref h), (1, .int n_)]) hx hb dX10_fleet_16 rfl hl (by decide) rfl (fun ls hl => ?_)
    refine lv_iconst (v := 0) hx hb dX10_fleet_17 (by decide) ?_
    refine lv_istore_n (lv' := [(3, .int 0), (2, .int 0), (0, .ref h), (1, .int n_)]) hx hb dX10_fleet_18 rfl hl (by decide) rfl (fun ls hl => ?_)
    have ex_19_w_5 : ∀ (w_5l3 : Int32) (w_5l2 : Int32) (H : Heap) (locs : List Loc) (ls : Array Slot), va_P D classes [(h, .inr (10, ML G Rf)), ((Rf 0), .inl (cI, 1302, .inl f0)), ((Rf 8), .inl (cI, 6, .inl f8))] H → va_D A [(h, .inr (10, ML G Rf)), ((Rf 0), .inl (cI, 1302, .inl f0)), ((Rf 8), .inl (cI, 6, .inl f8))] → va_S A s.heap H locs → lv_has ls 6 [(3, .int w_5l3), (2, .int w_5l2), (0, .ref h), (1, .int n_)] → ((S_m_fleet_49 G f0 w_5l2 (fun (w_6l4 : Int32) (w_6l3 : Int32) => True) ((((1 <<< ((G 5) &&& 31)) : Int32).toInt - (0 : Int32).toInt).toNat + 1) 0 (-1))) → (((match ((f_m_fleet_49 G f0 w_5l2 ((((1 <<< ((G 5) &&& 31)) : Int32).toInt - (0 : Int32).toInt).toNat + 1) 0 (-1)) : Int32 × Int32) with | (w_6l4, w_6l3) => w_6l3)) : Int32) = RES → W p l e rm_m_fleet s m args below meth c H locs 0 0 Q (F0 m 44 ls []) := by
      intro w_5l3 w_5l2 H locs ls hP hD hS hl hF hE
      refine lv_iconst (v := (-1)) hx hb dX10_fleet_44 (by decide) ?_
      refine lv_istore_n (lv' := [(3, .int (-1)), (2, .int w_5l2), (0, .ref h), (1, .int n_)]) hx hb dX10_fleet_45 rfl hl (by decide) rfl (fun ls hl => ?_)
      refine lv_iconst (v := 0) hx hb dX10_fleet_46 (by decide) ?_
      refine lv_istore (lv' := [(4, .int 0), (3, .int (-1)), (2, .int w_5l2), (0, .ref h), (1, .int n_)]) hx hb dX10_fleet_47 hl (by decide) rfl (fun ls hl => ?_)
      have ex_49_w_6 : ∀ (w_6l4 : Int32) (w_6l3 : Int32) (H : Heap) (locs : List Loc) (ls : Array Slot), va_P D classes [(h, .inr (10, ML G Rf)), ((Rf 0), .inl (cI, 1302, .inl f0)), ((Rf 8), .inl (cI, 6, .inl f8))] H → va_D A [(h, .inr (10, ML G Rf)), ((Rf 0), .inl (cI, 1302, .inl f0)), ((Rf 8), .inl (cI, 6, .inl f8))] → va_S A s.heap H locs → lv_has ls 6 [(4, .int w_6l4), (3, .int w_6l3), (2, .int w_5l2), (0, .ref h), (1, .int n_)] → (True) → ((w_6l3) : Int32) = RES → W p l e rm_m_fleet s m args below meth c H locs 0 0 Q (F0 m 125 ls []) := by
        intro w_6l4 w_6l3 H locs ls hP hD hS hl hF hE
        refine lv_iload_n hx hb dX10_fleet_125 rfl (lv_at hl 1 rfl) ?_
        exact hret w_6l3 () _ _ _ _ dX10_fleet_126 rfl hE hP hD hS
      have lp_49_w_6 : ∀ (n_w_6 : Nat) (w_6l4 : Int32) (w_6l3 : Int32) (H : Heap) (locs : List Loc) (ls : Array Slot), va_P D classes [(h, .inr (10, ML G Rf)), ((Rf 0), .inl (cI, 1302, .inl f0)), ((Rf 8), .inl (cI, 6, .inl f8))] H → va_D A [(h, .inr (10, ML G Rf)), ((Rf 0), .inl (cI, 1302, .inl f0)), ((Rf 8), .inl (cI, 6, .inl f8))] → va_S A s.heap H locs → lv_has ls 6 [(4, .int w_6l4), (3, .int w_6l3), (2, .int w_5l2), (0, .ref h), (1, .int n_)] → (S_m_fleet_49 G f0 w_5l2 (fun (w_6l4 : Int32) (w_6l3 : Int32) => True) n_w_6 w_6l4 w_6l3) → (((1 <<< ((G 5) &&& 31)) : Int32).toInt - (w_6l4 : Int32).toInt).toNat < n_w_6 → ((match ((f_m_fleet_49 G f0 w_5l2 n_w_6 w_6l4 w_6l3) : Int32 × Int32) with | (w_6l4, w_6l3) => w_6l3) : Int32) = RES → W p l e rm_m_fleet s m args below meth c H locs 0 0 Q (F0 m 49 ls []) := by
        intro n_w_6
        induction n_w_6 with
        | zero => intro w_6l4 w_6l3 H locs ls hP hD hS hl hF hm; exact absurd hm (Nat.not_lt_zero _)
        | succ n_w_6 ih_w_6 =>
          intro w_6l4 w_6l3 H locs ls hP hD hS hl hF hm hE
          rw [S_m_fleet_49_s] at hF
          rw [f_m_fleet_49_s] at hE
          refine lv_iload hx hb dX10_fleet_49 (lv_at hl 0 rfl) ?_
          refine lv_iconst (v := 1) hx hb dX10_fleet_51 (by decide) ?_
          refine lv_aload_n hx hb dX10_fleet_52 rfl (lv_at hl 3 rfl) ?_
          refine va_get (D := D) (ci := 10) (v := .int (G 5)) (C := RX10) (T := TX10) (N := 45) hx hb hts iX10 hown hK hP 0 rfl rfl 5 (by decide) (hts _ wd_499) (fun _ h9 => h9) rfl dX10_fleet_53 ?_
          refine lv_ishl hx hb dX10_fleet_56 ?_
          refine lv_icmp_ge (tgt := 125) hx hb dX10_fleet_57 (by decide) (fun c_7 => ?_) (fun c_7 => ?_)
          · replace hF := hF.1 c_7
            rw [if_pos c_7] at hE
            exact ex_49_w_6 w_6l4 w_6l3 _ _ ls hP hD hS (lv_sub hl [0, 1, 2, 3, 4] rfl) hF hE
          · replace hF := hF.2 c_7
            rw [if_neg c_7] at hE
            refine lv_iload hx hb dX10_fleet_60 (lv_at hl 0 rfl) ?_
            refine lv_aload_n hx hb dX10_fleet_62 rfl (lv_at hl 3 rfl) ?_
            refine va_get (D := D) (ci := 10) (v := .ref (Rf 0)) (C := RX10) (T := TX10) (N := 45) hx hb hts iX10 hown hK hP 0 rfl rfl 0 (by decide) (hts _ wd_491) (fun _ h9 => h9) rfl dX10_fleet_63 ?_
            refine lv_bipush (v := 18) hx hb dX10_fleet_66 (by decide) ?_
            refine va_iald hx hb hK hP 1 0 rfl rfl (show ¬ ((18 : Int32) < 0 ∨ 1302 ≤ (18 : Int32).toNatClampNeg) by decide +kernel) dX10_fleet_68 ?_
            refine lv_iand hx hb dX10_fleet_69 ?_
            refine lv_if_ne (tgt := 87) hx hb dX10_fleet_70 (by decide) (fun c_8 => ?_) (fun c_8 => ?_)
            · replace hF := hF.2 c_8
              rw [if_neg c_8] at hE
              refine lv_iconst (v := 0) hx hb dX10_fleet_87 (by decide) ?_
              refine lv_istore (lv' := [(5, .int 0), (4, .int w_6l4), (3, .int w_6l3), (2, .int w_5l2), (0, .ref h), (1, .int n_)]) hx hb dX10_fleet_88 hl (by decide) rfl (fun ls hl => ?_)
              refine lv_iload hx hb dX10_fleet_90 (lv_at hl 0 rfl) ?_
              refine lv_if_eq (tgt := 117) hx hb dX10_fleet_92 (by decide) (fun c_9 => ?_) (fun c_9 => absurd (by decide +kernel) c_9)
              refine lv_iload_n hx hb dX10_fleet_117 rfl (lv_at hl 2 rfl) ?_
              refine lv_istore_n (lv' := [(3, .int w_6l3), (5, .int 0), (4, .int w_6l4), (2, .int w_5l2), (0, .ref h), (1, .int n_)]) hx hb dX10_fleet_118 rfl hl (by decide) rfl (fun ls hl => ?_)
              refine lv_iinc (v := (w_6l4 + 1)) (lv' := [(4, .int (w_6l4 + 1)), (3, .int w_6l3), (5, .int 0), (2, .int w_5l2), (0, .ref h), (1, .int n_)]) hx hb dX10_fleet_119 hl (k := 2) rfl rfl (by decide) rfl (fun ls hl => ?_)
              refine lv_goto (tgt := 49) hx hb dX10_fleet_122 (by decide) ?_
              exact ih_w_6 (w_6l4 + 1) w_6l3 _ _ ls hP hD hS (lv_sub hl [0, 1, 3, 4, 5] rfl) hF (up_step c_7 hm) hE
            · replace hF := hF.1 c_8
              rw [if_pos c_8] at hE
              refine lv_aload_n hx hb dX10_fleet_73 rfl (lv_at hl 3 rfl) ?_
              refine lv_iload hx hb dX10_fleet_74 (lv_at hl 0 rfl) ?_
              obtain ⟨hs_10, hF⟩ := hF
              refine cVi (wr := [((Rf 8), .inl (cI, 6, .inl f8))]) (rest := []) (m_griefOf Rf h G f0 w_6l4 hs_10) okV_X10_griefOf wd_619 hx hb hml hown hts hK hP hD hS hA hN hl.1 [0, 1] [2] rfl rfl rfl rfl (by decide) rfl rfl rfl (Nat.le_of_ble_eq_true rfl) (Nat.le_of_ble_eq_true rfl) (Nat.le_of_ble_eq_true rfl) (Nat.le_of_ble_eq_true rfl) (Nat.le_of_ble_eq_true rfl) dX10_fleet_76 (fun r_12 u_11 H locs hw_u_11 hP hD hS => ?_)
              replace hw_u_11 : r_12 = (f_m_griefOf G f0 w_6l4) := hw_u_11
              rw [hw_u_11]
              clear hw_u_11
              have hP : va_P D classes [((Rf 8), .inl (cI, 6, .inl f8)), (h, .inr (10, ML G Rf)), ((Rf 0), .inl (cI, 1302, .inl f0))] H := hP
              have hD : va_D A [((Rf 8), .inl (cI, 6, .inl f8)), (h, .inr (10, ML G Rf)), ((Rf 0), .inl (cI, 1302, .inl f0))] := hD
              refine lv_iload_n hx hb dX10_fleet_79 rfl (lv_at hl 2 rfl) ?_
              refine lv_icmp_lt (tgt := 87) hx hb dX10_fleet_80 (by decide) (fun c_13 => ?_) (fun c_13 => ?_)
              · replace hF := hF.1 c_13
                rw [if_pos c_13] at hE
                refine lv_iconst (v := 0) hx hb dX10_fleet_87 (by decide) ?_
                refine lv_istore (lv' := [(5, .int 0), (4, .int w_6l4), (3, .int w_6l3), (2, .int w_5l2), (0, .ref h), (1, .int n_)]) hx hb dX10_fleet_88 hl (by decide) rfl (fun ls hl => ?_)
                refine lv_iload hx hb dX10_fleet_90 (lv_at hl 0 rfl) ?_
                refine lv_if_eq (tgt := 117) hx hb dX10_fleet_92 (by decide) (fun c_14 => ?_) (fun c_14 => absurd (by decide +kernel) c_14)
                refine lv_iload_n hx hb dX10_fleet_117 rfl (lv_at hl 2 rfl) ?_
                refine lv_istore_n (lv' := [(3, .int w_6l3), (5, .int 0), (4, .int w_6l4), (2, .int w_5l2), (0, .ref h), (1, .int n_)]) hx hb dX10_fleet_118 rfl hl (by decide) rfl (fun ls hl => ?_)
                refine lv_iinc (v := (w_6l4 + 1)) (lv' := [(4, .int (w_6l4 + 1)), (3, .int w_6l3), (5, .int 0), (2, .int w_5l2), (0, .ref h), (1, .int n_)]) hx hb dX10_fleet_119 hl (k := 2) rfl rfl (by decide) rfl (fun ls hl => ?_)
                refine lv_goto (tgt := 49) hx hb dX10_fleet_122 (by decide) ?_
                exact ih_w_6 (w_6l4 + 1) w_6l3 _ _ ls (cutP (isC := [1, 2, 0]) hP rfl) (cutD (isC := [1, 2, 0]) hD rfl rfl) hS (lv_sub hl [0, 1, 3, 4, 5] rfl) hF (up_step c_7 hm) hE
              · replace hF := hF.2 c_13
                rw [if_neg c_13] at hE
                refine lv_iconst (v := 1) hx hb dX10_fleet_83 (by decide) ?_
                refine lv_goto (tgt := 88) hx hb dX10_fleet_84 (by decide) ?_
                refine lv_istore (lv' := [(5, .int 1), (4, .int w_6l4), (3, .int w_6l3), (2, .int w_5l2), (0, .ref h), (1, .int n_)]) hx hb dX10_fleet_88 hl (by decide) rfl (fun ls hl => ?_)
                refine lv_iload hx hb dX10_fleet_90 (lv_at hl 0 rfl) ?_
                refine lv_if_eq (tgt := 117) hx hb dX10_fleet_92 (by decide) (fun c_15 => absurd c_15 (by decide +kernel)) (fun c_15 => ?_)
                refine lv_iload_n hx hb dX10_fleet_95 rfl (lv_at hl 2 rfl) ?_
                refine lv_iconst (v := (-1)) hx hb dX10_fleet_96 (by decide) ?_
                refine lv_icmp_eq (tgt := 112) hx hb dX10_fleet_97 (by decide) (fun c_16 => ?_) (fun c_16 => ?_)
                · replace hF := hF.1 c_16
                  rw [if_pos c_16] at hE
                  refine lv_iload hx hb dX10_fleet_112 (lv_at hl 1 rfl) ?_
                  refine lv_goto (tgt := 118) hx hb dX10_fleet_114 (by decide) ?_
                  refine lv_istore_n (lv' := [(3, .int w_6l4), (5, .int 1), (4, .int w_6l4), (2, .int w_5l2), (0, .ref h), (1, .int n_)]) hx hb dX10_fleet_118 rfl hl (by decide) rfl (fun ls hl => ?_)
                  refine lv_iinc (v := (w_6l4 + 1)) (lv' := [(4, .int (w_6l4 + 1)), (3, .int w_6l4), (5, .int 1), (2, .int w_5l2), (0, .ref h), (1, .int n_)]) hx hb dX10_fleet_119 hl (k := 2) rfl rfl (by decide) rfl (fun ls hl => ?_)
                  refine lv_goto (tgt := 49) hx hb dX10_fleet_122 (by decide) ?_
                  exact ih_w_6 (w_6l4 + 1) w_6l4 _ _ ls (cutP (isC := [1, 2, 0]) hP rfl) (cutD (isC := [1, 2, 0]) hD rfl rfl) hS (lv_sub hl [0, 1, 3, 4, 5] rfl) hF (up_step c_7 hm) hE
                · replace hF := hF.2 c_16
                  rw [if_neg c_16] at hE
                  refine lv_iload hx hb dX10_fleet_100 (lv_at hl 1 rfl) ?_
                  obtain ⟨hs_17, hF⟩ := hF
                  refine cSi (wr := [((Rf 8), .inl (cI, 6, .inl f8)), (h, .inr (10, ML G Rf)), ((Rf 0), .inl (cI, 1302, .inl f0))]) (rest := []) (m_ones w_6l4 hs_17) okS_X10_ones wd_664 hx hb hml hown hts hK hP hD hS hA hN hl.1 [] [0, 1, 2] rfl rfl rfl rfl (by decide) rfl (Nat.le_of_ble_eq_true rfl) (Nat.le_of_ble_eq_true rfl) (Nat.le_of_ble_eq_true rfl) (Nat.le_of_ble_eq_true rfl) (Nat.le_of_ble_eq_true rfl) dX10_fleet_102 (fun r_19 u_18 H locs hw_u_18 hP hD hS => ?_)
                  replace hw_u_18 : r_19 = (f_m_ones w_6l4) := hw_u_18
                  rw [hw_u_18]
                  clear hw_u_18
                  have hP : va_P D classes [((Rf 8), .inl (cI, 6, .inl f8)), (h, .inr (10, ML G Rf)), ((Rf 0), .inl (cI, 1302, .inl f0))] H := hP
                  have hD : va_D A [((Rf 8), .inl (cI, 6, .inl f8)), (h, .inr (10, ML G Rf)), ((Rf 0), .inl (cI, 1302, .inl f0))] := hD
                  refine lv_iload_n hx hb dX10_fleet_105 rfl (lv_at hl 2 rfl) ?_
                  obtain ⟨hs_20, hF⟩ := hF
                  refine cSi (wr := [((Rf 8), .inl (cI, 6, .inl f8)), (h, .inr (10, ML G Rf)), ((Rf 0), .inl (cI, 1302, .inl f0))]) (rest := [.int (f_m_ones w_6l4)]) (m_ones w_6l3 hs_20) okS_X10_ones wd_664 hx hb hml hown hts hK hP hD hS hA hN hl.1 [] [0, 1, 2] rfl rfl rfl rfl (by decide) rfl (Nat.le_of_ble_eq_true rfl) (Nat.le_of_ble_eq_true rfl) (Nat.le_of_ble_eq_true rfl) (Nat.le_of_ble_eq_true rfl) (Nat.le_of_ble_eq_true rfl) dX10_fleet_106 (fun r_22 u_21 H locs hw_u_21 hP hD hS => ?_)
                  replace hw_u_21 : r_22 = (f_m_ones w_6l3) := hw_u_21
                  rw [hw_u_21]
                  clear hw_u_21
                  have hP : va_P D classes [((Rf 8), .inl (cI, 6, .inl f8)), (h, .inr (10, ML G Rf)), ((Rf 0), .inl (cI, 1302, .inl f0))] H := hP
                  have hD : va_D A [((Rf 8), .inl (cI, 6, .inl f8)), (h, .inr (10, ML G Rf)), ((Rf 0), .inl (cI, 1302, .inl f0))] := hD
                  refine lv_icmp_ge (tgt := 117) hx hb dX10_fleet_109 (by decide) (fun c_23 => ?_) (fun c_23 => ?_)
                  · replace hF := hF.1 c_23
                    rw [if_pos c_23] at hE
                    refine lv_iload_n hx hb dX10_fleet_117 rfl (lv_at hl 2 rfl) ?_
                    refine lv_istore_n (lv' := [(3, .int w_6l3), (5, .int 1), (4, .int w_6l4), (2, .int w_5l2), (0, .ref h), (1, .int n_)]) hx hb dX10_fleet_118 rfl hl (by decide) rfl (fun ls hl => ?_)
                    refine lv_iinc (v := (w_6l4 + 1)) (lv' := [(4, .int (w_6l4 + 1)), (3, .int w_6l3), (5, .int 1), (2, .int w_5l2), (0, .ref h), (1, .int n_)]) hx hb dX10_fleet_119 hl (k := 2) rfl rfl (by decide) rfl (fun ls hl => ?_)
                    refine lv_goto (tgt := 49) hx hb dX10_fleet_122 (by decide) ?_
                    exact ih_w_6 (w_6l4 + 1) w_6l3 _ _ ls (cutP (isC := [1, 2, 0]) hP rfl) (cutD (isC := [1, 2, 0]) hD rfl rfl) hS (lv_sub hl [0, 1, 3, 4, 5] rfl) hF (up_step c_7 hm) hE
                  · replace hF := hF.2 c_23
                    rw [if_neg c_23] at hE
                    refine lv_iload hx hb dX10_fleet_112 (lv_at hl 1 rfl) ?_
                    refine lv_goto (tgt := 118) hx hb dX10_fleet_114 (by decide) ?_
                    refine lv_istore_n (lv' := [(3, .int w_6l4), (5, .int 1), (4, .int w_6l4), (2, .int w_5l2), (0, .ref h), (1, .int n_)]) hx hb dX10_fleet_118 rfl hl (by decide) rfl (fun ls hl => ?_)
                    refine lv_iinc (v := (w_6l4 + 1)) (lv' := [(4, .int (w_6l4 + 1)), (3, .int w_6l4), (5, .int 1), (2, .int w_5l2), (0, .ref h), (1, .int n_)]) hx hb dX10_fleet_119 hl (k := 2) rfl rfl (by decide) rfl (fun ls hl => ?_)
                    refine lv_goto (tgt := 49) hx hb dX10_fleet_122 (by decide) ?_
                    exact ih_w_6 (w_6l4 + 1) w_6l4 _ _ ls (cutP (isC := [1, 2, 0]) hP rfl) (cutD (isC := [1, 2, 0]) hD rfl rfl) hS (lv_sub hl [0, 1, 3, 4, 5] rfl) hF (up_step c_7 hm) hE
      exact lp_49_w_6 ((((1 <<< ((G 5) &&& 31)) : Int32).toInt - (0 : Int32).toInt).toNat + 1) 0 (-1) _ _ ls hP hD hS hl hF (Nat.lt_succ_self _) hE
    have lp_19_w_5 : ∀ (n_w_5 : Nat) (w_5l3 : Int32) (w_5l2 : Int32) (H : Heap) (locs : List Loc) (ls : Array Slot), va_P D classes [(h, .inr (10, ML G Rf)), ((Rf 0), .inl (cI, 1302, .inl f0)), ((Rf 8), .inl (cI, 6, .inl f8))] H → va_D A [(h, .inr (10, ML G Rf)), ((Rf 0), .inl (cI, 1302, .inl f0)), ((Rf 8), .inl (cI, 6, .inl f8))] → va_S A s.heap H locs → lv_has ls 6 [(3, .int w_5l3), (2, .int w_5l2), (0, .ref h), (1, .int n_)] → (S_m_fleet_19 G f8 n_ (fun (w_5l3 : Int32) (w_5l2 : Int32) => (S_m_fleet_49 G f0 w_5l2 (fun (w_6l4 : Int32) (w_6l3 : Int32) => True) ((((1 <<< ((G 5) &&& 31)) : Int32).toInt - (0 : Int32).toInt).toNat + 1) 0 (-1))) n_w_5 w_5l3 w_5l2) → (((G 3) : Int32).toInt - (w_5l3 : Int32).toInt).toNat < n_w_5 → ((match ((f_m_fleet_19 G f8 n_ n_w_5 w_5l3 w_5l2) : Int32 × Int32) with | (w_5l3, w_5l2) => (match ((f_m_fleet_49 G f0 w_5l2 ((((1 <<< ((G 5) &&& 31)) : Int32).toInt - (0 : Int32).toInt).toNat + 1) 0 (-1)) : Int32 × Int32) with | (w_6l4, w_6l3) => w_6l3)) : Int32) = RES → W p l e rm_m_fleet s m args below meth c H locs 0 0 Q (F0 m 19 ls []) := by
      intro n_w_5
      induction n_w_5 with
      | zero => intro w_5l3 w_5l2 H locs ls hP hD hS hl hF hm; exact absurd hm (Nat.not_lt_zero _)
      | succ n_w_5 ih_w_5 =>
        intro w_5l3 w_5l2 H locs ls hP hD hS hl hF hm hE
        rw [S_m_fleet_19_s] at hF
        rw [f_m_fleet_19_s] at hE
        refine lv_iload_n hx hb dX10_fleet_19 rfl (lv_at hl 0 rfl) ?_
        refine lv_aload_n hx hb dX10_fleet_20 rfl (lv_at hl 2 rfl) ?_
        refine va_get (D := D) (ci := 10) (v := .int (G 3)) (C := RX10) (T := TX10) (N := 45) hx hb hts iX10 hown hK hP 0 rfl rfl 3 (by decide) (hts _ wd_494) (fun _ h9 => h9) rfl dX10_fleet_21 ?_
        refine lv_icmp_ge (tgt := 44) hx hb dX10_fleet_24 (by decide) (fun c_24 => ?_) (fun c_24 => ?_)
        · replace hF := hF.1 c_24
          rw [if_pos c_24] at hE
          exact ex_19_w_5 w_5l3 w_5l2 _ _ ls hP hD hS (lv_sub hl [0, 1, 2, 3] rfl) hF hE
        · replace hF := hF.2 c_24
          rw [if_neg c_24] at hE
          refine lv_iload_n hx hb dX10_fleet_27 rfl (lv_at hl 1 rfl) ?_
          refine lv_iload_n hx hb dX10_fleet_28 rfl (lv_at hl 3 rfl) ?_
          refine lv_aload_n hx hb dX10_fleet_29 rfl (lv_at hl 2 rfl) ?_
          refine va_get (D := D) (ci := 10) (v := .ref (Rf 8)) (C := RX10) (T := TX10) (N := 45) hx hb hts iX10 hown hK hP 0 rfl rfl 8 (by decide) (hts _ wd_579) (fun _ h9 => h9) rfl dX10_fleet_30 ?_
          refine lv_iload_n hx hb dX10_fleet_33 rfl (lv_at hl 0 rfl) ?_
          obtain ⟨hv_25, hF⟩ := hF
          refine va_iald hx hb hK hP 2 0 rfl rfl hv_25 dX10_fleet_34 ?_
          refine lv_imul hx hb dX10_fleet_35 ?_
          refine lv_iadd hx hb dX10_fleet_36 ?_
          refine lv_istore_n (lv' := [(2, .int (w_5l2 + (n_ * (f8 (w_5l3 : Int32).toNatClampNeg)))), (3, .int w_5l3), (0, .ref h), (1, .int n_)]) hx hb dX10_fleet_37 rfl hl (by decide) rfl (fun ls hl => ?_)
          refine lv_iinc (v := (w_5l3 + 1)) (lv' := [(3, .int (w_5l3 + 1)), (2, .int (w_5l2 + (n_ * (f8 (w_5l3 : Int32).toNatClampNeg)))), (0, .ref h), (1, .int n_)]) hx hb dX10_fleet_38 hl (k := 1) rfl rfl (by decide) rfl (fun ls hl => ?_)
          refine lv_goto (tgt := 19) hx hb dX10_fleet_41 (by decide) ?_
          exact ih_w_5 (w_5l3 + 1) (w_5l2 + (n_ * (f8 (w_5l3 : Int32).toNatClampNeg))) _ _ ls hP hD hS (lv_sub hl [0, 1, 2, 3] rfl) hF (up_step c_24 hm) hE
    exact lp_19_w_5 ((((G 3) : Int32).toInt - (0 : Int32).toInt).toNat + 1) 0 0 _ _ ls hP hD hS hl hF (Nat.lt_succ_self _) hE
  · replace hF := hF.1 c_4
    rw [if_pos c_4] at hE
    refine lv_ldc (v := (-1000000002)) hx hb hown (hts _ wd_507) dX10_fleet_12 ?_
    exact hret (-1000000002) () _ _ _ _ dX10_fleet_14 rfl hE hP hD hS
