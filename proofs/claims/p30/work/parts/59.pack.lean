section
def fw_cX10_findOrder : List (List Nat) := [[42, 3, 16, 42, 182, 0, 229, 42, 3, 181, 1, 18, 42, 3, 181, 1, 21, 3], [21, 3, 60, 3, 61, 42, 180, 0, 63, 3, 2, 79, 27, 155, 1, 4, 16, 42], [16, 42, 16, 42, 27, 104, 96, 62, 42, 180, 0, 63, 27, 92, 46, 4, 96, 79], [96, 79, 42, 180, 0, 63, 27, 46, 42, 180, 0, 88, 159, 0, 9, 27, 16, 7], [16, 7, 160, 0, 49, 132, 1, 255, 28, 27, 155, 0, 35, 42, 180, 0, 7, 16], [7, 16, 42, 16, 42, 27, 4, 96, 104, 96, 16, 20, 96, 42, 180, 0, 63, 27], [63, 27, 46, 96, 46, 4, 160, 0, 7, 4, 167, 0, 4, 3, 100, 61, 167, 0], [167, 0, 174, 42, 180, 0, 7, 29, 16, 20, 96, 42, 180, 0, 63, 27, 46, 96], [46, 96, 46, 154, 0, 155, 29, 16, 42, 96, 54, 4, 42, 29, 21, 4, 182, 0], [182, 0, 229, 42, 21, 4, 42, 180, 0, 63, 27, 46, 182, 0, 242, 42, 180, 0], [180, 0, 7, 21, 4, 16, 20, 96, 42, 180, 0, 63, 27, 46, 96, 46, 6, 159], [6, 159, 0, 109, 42, 180, 0, 7, 21, 4, 16, 18, 96, 46, 42, 180, 0, 7], [0, 7, 16, 18, 46, 160, 0, 89, 28, 42, 180, 0, 7, 21, 4, 16, 20, 96], [20, 96, 42, 180, 0, 63, 27, 46, 96, 46, 4, 160, 0, 7, 4, 167, 0, 4], [0, 4, 3, 96, 61, 132, 1, 1, 28, 42, 180, 1, 21, 164, 0, 42, 42, 28], [42, 28, 181, 1, 21, 42, 27, 181, 1, 18, 3, 54, 5, 21, 5, 27, 162, 0], [162, 0, 23, 42, 180, 0, 66, 21, 5, 42, 180, 0, 63, 21, 5, 46, 79, 132], [79, 132, 5, 1, 167, 255, 233, 42, 180, 0, 63, 27, 2, 79, 167, 254, 254, 177], [254, 177]]
theorem fW_cX10_findOrder : fq_wins 19 cX10_findOrder.data.toList = fw_cX10_findOrder := by decide +kernel
theorem fk_cX10_findOrder_0 : fq_ck cX10_findOrder 0 [42, 3, 16, 42, 182, 0, 229, 42, 3, 181, 1, 18, 42, 3, 181, 1, 21, 3] := fq_of fW_cX10_findOrder 0 rfl rfl
theorem dX10_findOrder_0 : decode cX10_findOrder 0 = .ok (.aload_n 0, 1) := fq_42 fk_cX10_findOrder_0 0 rfl rfl
theorem dX10_findOrder_1 : decode cX10_findOrder 1 = .ok (.iconst 0, 1) := fq_3 fk_cX10_findOrder_0 1 rfl rfl
theorem dX10_findOrder_2 : decode cX10_findOrder 2 = .ok (.bipush 42, 2) := fq_16 fk_cX10_findOrder_0 2 rfl rfl rfl rfl
theorem dX10_findOrder_4 : decode cX10_findOrder 4 = .ok (.invokevirtual 229, 3) := fq_182 fk_cX10_findOrder_0 4 rfl rfl rfl rfl rfl
theorem dX10_findOrder_7 : decode cX10_findOrder 7 = .ok (.aload_n 0, 1) := fq_42 fk_cX10_findOrder_0 7 rfl rfl
theorem dX10_findOrder_8 : decode cX10_findOrder 8 = .ok (.iconst 0, 1) := fq_3 fk_cX10_findOrder_0 8 rfl rfl
theorem wd_673 : Cond.fieldLink RX10 274 "QuarrelBridgesModel" "bestLong" "I" ∈ BG := BG_at4 103 (by decide +kernel) rfl
theorem dX10_findOrder_9 : decode cX10_findOrder 9 = .ok (.putfield 274, 3) := fq_181 fk_cX10_findOrder_0 9 rfl rfl rfl rfl rfl
theorem dX10_findOrder_12 : decode cX10_findOrder 12 = .ok (.aload_n 0, 1) := fq_42 fk_cX10_findOrder_0 12 rfl rfl
theorem dX10_findOrder_13 : decode cX10_findOrder 13 = .ok (.iconst 0, 1) := fq_3 fk_cX10_findOrder_0 13 rfl rfl
theorem wd_674 : Cond.fieldLink RX10 277 "QuarrelBridgesModel" "bestTimely" "I" ∈ BG := BG_at4 104 (by decide +kernel) rfl
theorem dX10_findOrder_14 : decode cX10_findOrder 14 = .ok (.putfield 277, 3) := fq_181 fk_cX10_findOrder_0 14 rfl rfl rfl rfl rfl
theorem fk_cX10_findOrder_1 : fq_ck cX10_findOrder 16 [21, 3, 60, 3, 61, 42, 180, 0, 63, 3, 2, 79, 27, 155, 1, 4, 16, 42] := fq_of fW_cX10_findOrder 1 rfl rfl
theorem dX10_findOrder_17 : decode cX10_findOrder 17 = .ok (.iconst 0, 1) := fq_3 fk_cX10_findOrder_1 1 rfl rfl
theorem dX10_findOrder_18 : decode cX10_findOrder 18 = .ok (.istore_n 1, 1) := fq_60 fk_cX10_findOrder_1 2 rfl rfl
theorem dX10_findOrder_19 : decode cX10_findOrder 19 = .ok (.iconst 0, 1) := fq_3 fk_cX10_findOrder_1 3 rfl rfl
theorem dX10_findOrder_20 : decode cX10_findOrder 20 = .ok (.istore_n 2, 1) := fq_61 fk_cX10_findOrder_1 4 rfl rfl
theorem dX10_findOrder_21 : decode cX10_findOrder 21 = .ok (.aload_n 0, 1) := fq_42 fk_cX10_findOrder_1 5 rfl rfl
theorem wd_675 : Cond.fieldLink RX10 63 "QuarrelBridgesModel" "row" "[I" ∈ BG := BG_at4 101 (by decide +kernel) rfl
theorem dX10_findOrder_22 : decode cX10_findOrder 22 = .ok (.getfield 63, 3) := fq_180 fk_cX10_findOrder_1 6 rfl rfl rfl rfl rfl
theorem dX10_findOrder_25 : decode cX10_findOrder 25 = .ok (.iconst 0, 1) := fq_3 fk_cX10_findOrder_1 9 rfl rfl
theorem dX10_findOrder_26 : decode cX10_findOrder 26 = .ok (.iconst (-1), 1) := fq_2 fk_cX10_findOrder_1 10 rfl rfl
theorem dX10_findOrder_27 : decode cX10_findOrder 27 = .ok (.iastore, 1) := fq_79 fk_cX10_findOrder_1 11 rfl rfl
theorem fk_cX10_findOrder_18 : fq_ck cX10_findOrder 288 [254, 177] := fq_of fW_cX10_findOrder 18 rfl rfl
theorem dX10_findOrder_289 : decode cX10_findOrder 289 = .ok (.return_, 1) := fq_177 fk_cX10_findOrder_18 1 rfl rfl
theorem dX10_findOrder_28 : decode cX10_findOrder 28 = .ok (.iload_n 1, 1) := fq_27 fk_cX10_findOrder_1 12 rfl rfl
theorem dX10_findOrder_29 : decode cX10_findOrder 29 = .ok (.ifCond .lt 260, 3) := fq_155 fk_cX10_findOrder_1 13 rfl rfl rfl rfl rfl
theorem fk_cX10_findOrder_2 : fq_ck cX10_findOrder 32 [16, 42, 16, 42, 27, 104, 96, 62, 42, 180, 0, 63, 27, 92, 46, 4, 96, 79] := fq_of fW_cX10_findOrder 2 rfl rfl
theorem dX10_findOrder_32 : decode cX10_findOrder 32 = .ok (.bipush 42, 2) := fq_16 fk_cX10_findOrder_2 0 rfl rfl rfl rfl
theorem dX10_findOrder_34 : decode cX10_findOrder 34 = .ok (.bipush 42, 2) := fq_16 fk_cX10_findOrder_2 2 rfl rfl rfl rfl
theorem dX10_findOrder_36 : decode cX10_findOrder 36 = .ok (.iload_n 1, 1) := fq_27 fk_cX10_findOrder_2 4 rfl rfl
theorem dX10_findOrder_37 : decode cX10_findOrder 37 = .ok (.imul, 1) := fq_104 fk_cX10_findOrder_2 5 rfl rfl
theorem dX10_findOrder_38 : decode cX10_findOrder 38 = .ok (.iadd, 1) := fq_96 fk_cX10_findOrder_2 6 rfl rfl
theorem dX10_findOrder_39 : decode cX10_findOrder 39 = .ok (.istore_n 3, 1) := fq_62 fk_cX10_findOrder_2 7 rfl rfl
theorem dX10_findOrder_40 : decode cX10_findOrder 40 = .ok (.aload_n 0, 1) := fq_42 fk_cX10_findOrder_2 8 rfl rfl
theorem dX10_findOrder_41 : decode cX10_findOrder 41 = .ok (.getfield 63, 3) := fq_180 fk_cX10_findOrder_2 9 rfl rfl rfl rfl rfl
theorem dX10_findOrder_44 : decode cX10_findOrder 44 = .ok (.iload_n 1, 1) := fq_27 fk_cX10_findOrder_2 12 rfl rfl
theorem dX10_findOrder_45 : decode cX10_findOrder 45 = .ok (.dup2, 1) := fq_92 fk_cX10_findOrder_2 13 rfl rfl
theorem dX10_findOrder_46 : decode cX10_findOrder 46 = .ok (.iaload, 1) := fq_46 fk_cX10_findOrder_2 14 rfl rfl
theorem dX10_findOrder_47 : decode cX10_findOrder 47 = .ok (.iconst 1, 1) := fq_4 fk_cX10_findOrder_2 15 rfl rfl
theorem fk_cX10_findOrder_3 : fq_ck cX10_findOrder 48 [96, 79, 42, 180, 0, 63, 27, 46, 42, 180, 0, 88, 159, 0, 9, 27, 16, 7] := fq_of fW_cX10_findOrder 3 rfl rfl
theorem dX10_findOrder_48 : decode cX10_findOrder 48 = .ok (.iadd, 1) := fq_96 fk_cX10_findOrder_3 0 rfl rfl
theorem dX10_findOrder_49 : decode cX10_findOrder 49 = .ok (.iastore, 1) := fq_79 fk_cX10_findOrder_3 1 rfl rfl
theorem dX10_findOrder_50 : decode cX10_findOrder 50 = .ok (.aload_n 0, 1) := fq_42 fk_cX10_findOrder_3 2 rfl rfl
theorem dX10_findOrder_51 : decode cX10_findOrder 51 = .ok (.getfield 63, 3) := fq_180 fk_cX10_findOrder_3 3 rfl rfl rfl rfl rfl
theorem dX10_findOrder_54 : decode cX10_findOrder 54 = .ok (.iload_n 1, 1) := fq_27 fk_cX10_findOrder_3 6 rfl rfl
theorem dX10_findOrder_55 : decode cX10_findOrder 55 = .ok (.iaload, 1) := fq_46 fk_cX10_findOrder_3 7 rfl rfl
theorem dX10_findOrder_56 : decode cX10_findOrder 56 = .ok (.aload_n 0, 1) := fq_42 fk_cX10_findOrder_3 8 rfl rfl
theorem dX10_findOrder_57 : decode cX10_findOrder 57 = .ok (.getfield 88, 3) := fq_180 fk_cX10_findOrder_3 9 rfl rfl rfl rfl rfl
theorem dX10_findOrder_60 : decode cX10_findOrder 60 = .ok (.if_icmp .eq 9, 3) := fq_159 fk_cX10_findOrder_3 12 rfl rfl rfl rfl rfl
theorem fk_cX10_findOrder_4 : fq_ck cX10_findOrder 64 [16, 7, 160, 0, 49, 132, 1, 255, 28, 27, 155, 0, 35, 42, 180, 0, 7, 16] := fq_of fW_cX10_findOrder 4 rfl rfl
theorem dX10_findOrder_69 : decode cX10_findOrder 69 = .ok (.iinc 1 (-1), 3) := fq_132 fk_cX10_findOrder_4 5 rfl rfl rfl rfl rfl
theorem dX10_findOrder_72 : decode cX10_findOrder 72 = .ok (.iload_n 2, 1) := fq_28 fk_cX10_findOrder_4 8 rfl rfl
theorem dX10_findOrder_73 : decode cX10_findOrder 73 = .ok (.iload_n 1, 1) := fq_27 fk_cX10_findOrder_4 9 rfl rfl
theorem dX10_findOrder_74 : decode cX10_findOrder 74 = .ok (.ifCond .lt 35, 3) := fq_155 fk_cX10_findOrder_4 10 rfl rfl rfl rfl rfl
theorem fk_cX10_findOrder_6 : fq_ck cX10_findOrder 96 [63, 27, 46, 96, 46, 4, 160, 0, 7, 4, 167, 0, 4, 3, 100, 61, 167, 0] := fq_of fW_cX10_findOrder 6 rfl rfl
theorem dX10_findOrder_109 : decode cX10_findOrder 109 = .ok (.iconst 0, 1) := fq_3 fk_cX10_findOrder_6 13 rfl rfl
theorem dX10_findOrder_110 : decode cX10_findOrder 110 = .ok (.isub, 1) := fq_100 fk_cX10_findOrder_6 14 rfl rfl
theorem dX10_findOrder_111 : decode cX10_findOrder 111 = .ok (.istore_n 2, 1) := fq_61 fk_cX10_findOrder_6 15 rfl rfl
theorem fk_cX10_findOrder_7 : fq_ck cX10_findOrder 112 [167, 0, 174, 42, 180, 0, 7, 29, 16, 20, 96, 42, 180, 0, 63, 27, 46, 96] := fq_of fW_cX10_findOrder 7 rfl rfl
theorem dX10_findOrder_112 : decode cX10_findOrder 112 = .ok (.goto 174, 3) := fq_167 fk_cX10_findOrder_7 0 rfl rfl rfl rfl rfl
theorem fk_cX10_findOrder_17 : fq_ck cX10_findOrder 272 [79, 132, 5, 1, 167, 255, 233, 42, 180, 0, 63, 27, 2, 79, 167, 254, 254, 177] := fq_of fW_cX10_findOrder 17 rfl rfl
theorem dX10_findOrder_286 : decode cX10_findOrder 286 = .ok (.goto (-258), 3) := fq_167 fk_cX10_findOrder_17 14 rfl rfl rfl rfl rfl
theorem dX10_findOrder_77 : decode cX10_findOrder 77 = .ok (.aload_n 0, 1) := fq_42 fk_cX10_findOrder_4 13 rfl rfl
theorem dX10_findOrder_78 : decode cX10_findOrder 78 = .ok (.getfield 7, 3) := fq_180 fk_cX10_findOrder_4 14 rfl rfl rfl rfl rfl
theorem fk_cX10_findOrder_5 : fq_ck cX10_findOrder 80 [7, 16, 42, 16, 42, 27, 4, 96, 104, 96, 16, 20, 96, 42, 180, 0, 63, 27] := fq_of fW_cX10_findOrder 5 rfl rfl
theorem dX10_findOrder_81 : decode cX10_findOrder 81 = .ok (.bipush 42, 2) := fq_16 fk_cX10_findOrder_5 1 rfl rfl rfl rfl
theorem dX10_findOrder_83 : decode cX10_findOrder 83 = .ok (.bipush 42, 2) := fq_16 fk_cX10_findOrder_5 3 rfl rfl rfl rfl
theorem dX10_findOrder_85 : decode cX10_findOrder 85 = .ok (.iload_n 1, 1) := fq_27 fk_cX10_findOrder_5 5 rfl rfl
theorem dX10_findOrder_86 : decode cX10_findOrder 86 = .ok (.iconst 1, 1) := fq_4 fk_cX10_findOrder_5 6 rfl rfl
theorem dX10_findOrder_87 : decode cX10_findOrder 87 = .ok (.iadd, 1) := fq_96 fk_cX10_findOrder_5 7 rfl rfl
theorem dX10_findOrder_88 : decode cX10_findOrder 88 = .ok (.imul, 1) := fq_104 fk_cX10_findOrder_5 8 rfl rfl
theorem dX10_findOrder_89 : decode cX10_findOrder 89 = .ok (.iadd, 1) := fq_96 fk_cX10_findOrder_5 9 rfl rfl
theorem dX10_findOrder_90 : decode cX10_findOrder 90 = .ok (.bipush 20, 2) := fq_16 fk_cX10_findOrder_5 10 rfl rfl rfl rfl
theorem dX10_findOrder_92 : decode cX10_findOrder 92 = .ok (.iadd, 1) := fq_96 fk_cX10_findOrder_5 12 rfl rfl
theorem dX10_findOrder_93 : decode cX10_findOrder 93 = .ok (.aload_n 0, 1) := fq_42 fk_cX10_findOrder_5 13 rfl rfl
theorem dX10_findOrder_94 : decode cX10_findOrder 94 = .ok (.getfield 63, 3) := fq_180 fk_cX10_findOrder_5 14 rfl rfl rfl rfl rfl
theorem dX10_findOrder_97 : decode cX10_findOrder 97 = .ok (.iload_n 1, 1) := fq_27 fk_cX10_findOrder_6 1 rfl rfl
theorem dX10_findOrder_98 : decode cX10_findOrder 98 = .ok (.iaload, 1) := fq_46 fk_cX10_findOrder_6 2 rfl rfl
theorem dX10_findOrder_99 : decode cX10_findOrder 99 = .ok (.iadd, 1) := fq_96 fk_cX10_findOrder_6 3 rfl rfl
theorem dX10_findOrder_100 : decode cX10_findOrder 100 = .ok (.iaload, 1) := fq_46 fk_cX10_findOrder_6 4 rfl rfl
theorem dX10_findOrder_101 : decode cX10_findOrder 101 = .ok (.iconst 1, 1) := fq_4 fk_cX10_findOrder_6 5 rfl rfl
theorem dX10_findOrder_102 : decode cX10_findOrder 102 = .ok (.if_icmp .ne 7, 3) := fq_160 fk_cX10_findOrder_6 6 rfl rfl rfl rfl rfl
theorem dX10_findOrder_105 : decode cX10_findOrder 105 = .ok (.iconst 1, 1) := fq_4 fk_cX10_findOrder_6 9 rfl rfl
theorem dX10_findOrder_106 : decode cX10_findOrder 106 = .ok (.goto 4, 3) := fq_167 fk_cX10_findOrder_6 10 rfl rfl rfl rfl rfl
theorem dX10_findOrder_63 : decode cX10_findOrder 63 = .ok (.iload_n 1, 1) := fq_27 fk_cX10_findOrder_3 15 rfl rfl
theorem dX10_findOrder_64 : decode cX10_findOrder 64 = .ok (.bipush 7, 2) := fq_16 fk_cX10_findOrder_4 0 rfl rfl rfl rfl
theorem dX10_findOrder_66 : decode cX10_findOrder 66 = .ok (.if_icmp .ne 49, 3) := fq_160 fk_cX10_findOrder_4 2 rfl rfl rfl rfl rfl
theorem dX10_findOrder_115 : decode cX10_findOrder 115 = .ok (.aload_n 0, 1) := fq_42 fk_cX10_findOrder_7 3 rfl rfl
theorem dX10_findOrder_116 : decode cX10_findOrder 116 = .ok (.getfield 7, 3) := fq_180 fk_cX10_findOrder_7 4 rfl rfl rfl rfl rfl
theorem dX10_findOrder_119 : decode cX10_findOrder 119 = .ok (.iload_n 3, 1) := fq_29 fk_cX10_findOrder_7 7 rfl rfl
theorem dX10_findOrder_120 : decode cX10_findOrder 120 = .ok (.bipush 20, 2) := fq_16 fk_cX10_findOrder_7 8 rfl rfl rfl rfl
theorem dX10_findOrder_122 : decode cX10_findOrder 122 = .ok (.iadd, 1) := fq_96 fk_cX10_findOrder_7 10 rfl rfl
theorem dX10_findOrder_123 : decode cX10_findOrder 123 = .ok (.aload_n 0, 1) := fq_42 fk_cX10_findOrder_7 11 rfl rfl
theorem dX10_findOrder_124 : decode cX10_findOrder 124 = .ok (.getfield 63, 3) := fq_180 fk_cX10_findOrder_7 12 rfl rfl rfl rfl rfl
theorem dX10_findOrder_127 : decode cX10_findOrder 127 = .ok (.iload_n 1, 1) := fq_27 fk_cX10_findOrder_7 15 rfl rfl
theorem fk_cX10_findOrder_8 : fq_ck cX10_findOrder 128 [46, 96, 46, 154, 0, 155, 29, 16, 42, 96, 54, 4, 42, 29, 21, 4, 182, 0] := fq_of fW_cX10_findOrder 8 rfl rfl
theorem dX10_findOrder_128 : decode cX10_findOrder 128 = .ok (.iaload, 1) := fq_46 fk_cX10_findOrder_8 0 rfl rfl
theorem dX10_findOrder_129 : decode cX10_findOrder 129 = .ok (.iadd, 1) := fq_96 fk_cX10_findOrder_8 1 rfl rfl
theorem dX10_findOrder_130 : decode cX10_findOrder 130 = .ok (.iaload, 1) := fq_46 fk_cX10_findOrder_8 2 rfl rfl
theorem dX10_findOrder_131 : decode cX10_findOrder 131 = .ok (.ifCond .ne 155, 3) := fq_154 fk_cX10_findOrder_8 3 rfl rfl rfl rfl rfl
theorem dX10_findOrder_134 : decode cX10_findOrder 134 = .ok (.iload_n 3, 1) := fq_29 fk_cX10_findOrder_8 6 rfl rfl
theorem dX10_findOrder_135 : decode cX10_findOrder 135 = .ok (.bipush 42, 2) := fq_16 fk_cX10_findOrder_8 7 rfl rfl rfl rfl
theorem dX10_findOrder_137 : decode cX10_findOrder 137 = .ok (.iadd, 1) := fq_96 fk_cX10_findOrder_8 9 rfl rfl
theorem dX10_findOrder_138 : decode cX10_findOrder 138 = .ok (.istore 4, 2) := fq_54 fk_cX10_findOrder_8 10 rfl rfl rfl
theorem dX10_findOrder_140 : decode cX10_findOrder 140 = .ok (.aload_n 0, 1) := fq_42 fk_cX10_findOrder_8 12 rfl rfl
theorem dX10_findOrder_141 : decode cX10_findOrder 141 = .ok (.iload_n 3, 1) := fq_29 fk_cX10_findOrder_8 13 rfl rfl
theorem dX10_findOrder_142 : decode cX10_findOrder 142 = .ok (.iload 4, 2) := fq_21 fk_cX10_findOrder_8 14 rfl rfl rfl
theorem fk_cX10_findOrder_9 : fq_ck cX10_findOrder 144 [182, 0, 229, 42, 21, 4, 42, 180, 0, 63, 27, 46, 182, 0, 242, 42, 180, 0] := fq_of fW_cX10_findOrder 9 rfl rfl
theorem dX10_findOrder_144 : decode cX10_findOrder 144 = .ok (.invokevirtual 229, 3) := fq_182 fk_cX10_findOrder_9 0 rfl rfl rfl rfl rfl
theorem dX10_findOrder_147 : decode cX10_findOrder 147 = .ok (.aload_n 0, 1) := fq_42 fk_cX10_findOrder_9 3 rfl rfl
theorem dX10_findOrder_148 : decode cX10_findOrder 148 = .ok (.iload 4, 2) := fq_21 fk_cX10_findOrder_9 4 rfl rfl rfl
theorem dX10_findOrder_150 : decode cX10_findOrder 150 = .ok (.aload_n 0, 1) := fq_42 fk_cX10_findOrder_9 6 rfl rfl
theorem dX10_findOrder_151 : decode cX10_findOrder 151 = .ok (.getfield 63, 3) := fq_180 fk_cX10_findOrder_9 7 rfl rfl rfl rfl rfl
theorem dX10_findOrder_154 : decode cX10_findOrder 154 = .ok (.iload_n 1, 1) := fq_27 fk_cX10_findOrder_9 10 rfl rfl
theorem dX10_findOrder_155 : decode cX10_findOrder 155 = .ok (.iaload, 1) := fq_46 fk_cX10_findOrder_9 11 rfl rfl
theorem dX10_findOrder_156 : decode cX10_findOrder 156 = .ok (.invokevirtual 242, 3) := fq_182 fk_cX10_findOrder_9 12 rfl rfl rfl rfl rfl
theorem dX10_findOrder_159 : decode cX10_findOrder 159 = .ok (.aload_n 0, 1) := fq_42 fk_cX10_findOrder_9 15 rfl rfl
theorem fk_cX10_findOrder_10 : fq_ck cX10_findOrder 160 [180, 0, 7, 21, 4, 16, 20, 96, 42, 180, 0, 63, 27, 46, 96, 46, 6, 159] := fq_of fW_cX10_findOrder 10 rfl rfl
theorem dX10_findOrder_160 : decode cX10_findOrder 160 = .ok (.getfield 7, 3) := fq_180 fk_cX10_findOrder_10 0 rfl rfl rfl rfl rfl
theorem dX10_findOrder_163 : decode cX10_findOrder 163 = .ok (.iload 4, 2) := fq_21 fk_cX10_findOrder_10 3 rfl rfl rfl
theorem dX10_findOrder_165 : decode cX10_findOrder 165 = .ok (.bipush 20, 2) := fq_16 fk_cX10_findOrder_10 5 rfl rfl rfl rfl
theorem dX10_findOrder_167 : decode cX10_findOrder 167 = .ok (.iadd, 1) := fq_96 fk_cX10_findOrder_10 7 rfl rfl
theorem dX10_findOrder_168 : decode cX10_findOrder 168 = .ok (.aload_n 0, 1) := fq_42 fk_cX10_findOrder_10 8 rfl rfl
theorem dX10_findOrder_169 : decode cX10_findOrder 169 = .ok (.getfield 63, 3) := fq_180 fk_cX10_findOrder_10 9 rfl rfl rfl rfl rfl
theorem dX10_findOrder_172 : decode cX10_findOrder 172 = .ok (.iload_n 1, 1) := fq_27 fk_cX10_findOrder_10 12 rfl rfl
theorem dX10_findOrder_173 : decode cX10_findOrder 173 = .ok (.iaload, 1) := fq_46 fk_cX10_findOrder_10 13 rfl rfl
theorem dX10_findOrder_174 : decode cX10_findOrder 174 = .ok (.iadd, 1) := fq_96 fk_cX10_findOrder_10 14 rfl rfl
theorem dX10_findOrder_175 : decode cX10_findOrder 175 = .ok (.iaload, 1) := fq_46 fk_cX10_findOrder_10 15 rfl rfl
theorem fk_cX10_findOrder_11 : fq_ck cX10_findOrder 176 [6, 159, 0, 109, 42, 180, 0, 7, 21, 4, 16, 18, 96, 46, 42, 180, 0, 7] := fq_of fW_cX10_findOrder 11 rfl rfl
theorem dX10_findOrder_176 : decode cX10_findOrder 176 = .ok (.iconst 3, 1) := fq_6 fk_cX10_findOrder_11 0 rfl rfl
theorem dX10_findOrder_177 : decode cX10_findOrder 177 = .ok (.if_icmp .eq 109, 3) := fq_159 fk_cX10_findOrder_11 1 rfl rfl rfl rfl rfl
theorem dX10_findOrder_180 : decode cX10_findOrder 180 = .ok (.aload_n 0, 1) := fq_42 fk_cX10_findOrder_11 4 rfl rfl
theorem dX10_findOrder_181 : decode cX10_findOrder 181 = .ok (.getfield 7, 3) := fq_180 fk_cX10_findOrder_11 5 rfl rfl rfl rfl rfl
theorem dX10_findOrder_184 : decode cX10_findOrder 184 = .ok (.iload 4, 2) := fq_21 fk_cX10_findOrder_11 8 rfl rfl rfl
theorem dX10_findOrder_186 : decode cX10_findOrder 186 = .ok (.bipush 18, 2) := fq_16 fk_cX10_findOrder_11 10 rfl rfl rfl rfl
theorem dX10_findOrder_188 : decode cX10_findOrder 188 = .ok (.iadd, 1) := fq_96 fk_cX10_findOrder_11 12 rfl rfl
theorem dX10_findOrder_189 : decode cX10_findOrder 189 = .ok (.iaload, 1) := fq_46 fk_cX10_findOrder_11 13 rfl rfl
theorem dX10_findOrder_190 : decode cX10_findOrder 190 = .ok (.aload_n 0, 1) := fq_42 fk_cX10_findOrder_11 14 rfl rfl
theorem dX10_findOrder_191 : decode cX10_findOrder 191 = .ok (.getfield 7, 3) := fq_180 fk_cX10_findOrder_11 15 rfl rfl rfl rfl rfl
theorem fk_cX10_findOrder_12 : fq_ck cX10_findOrder 192 [0, 7, 16, 18, 46, 160, 0, 89, 28, 42, 180, 0, 7, 21, 4, 16, 20, 96] := fq_of fW_cX10_findOrder 12 rfl rfl
theorem dX10_findOrder_194 : decode cX10_findOrder 194 = .ok (.bipush 18, 2) := fq_16 fk_cX10_findOrder_12 2 rfl rfl rfl rfl
theorem dX10_findOrder_196 : decode cX10_findOrder 196 = .ok (.iaload, 1) := fq_46 fk_cX10_findOrder_12 4 rfl rfl
theorem dX10_findOrder_197 : decode cX10_findOrder 197 = .ok (.if_icmp .ne 89, 3) := fq_160 fk_cX10_findOrder_12 5 rfl rfl rfl rfl rfl
theorem dX10_findOrder_200 : decode cX10_findOrder 200 = .ok (.iload_n 2, 1) := fq_28 fk_cX10_findOrder_12 8 rfl rfl
theorem dX10_findOrder_201 : decode cX10_findOrder 201 = .ok (.aload_n 0, 1) := fq_42 fk_cX10_findOrder_12 9 rfl rfl
theorem dX10_findOrder_202 : decode cX10_findOrder 202 = .ok (.getfield 7, 3) := fq_180 fk_cX10_findOrder_12 10 rfl rfl rfl rfl rfl
theorem dX10_findOrder_205 : decode cX10_findOrder 205 = .ok (.iload 4, 2) := fq_21 fk_cX10_findOrder_12 13 rfl rfl rfl
theorem dX10_findOrder_207 : decode cX10_findOrder 207 = .ok (.bipush 20, 2) := fq_16 fk_cX10_findOrder_12 15 rfl rfl rfl rfl
theorem fk_cX10_findOrder_13 : fq_ck cX10_findOrder 208 [20, 96, 42, 180, 0, 63, 27, 46, 96, 46, 4, 160, 0, 7, 4, 167, 0, 4] := fq_of fW_cX10_findOrder 13 rfl rfl
theorem dX10_findOrder_209 : decode cX10_findOrder 209 = .ok (.iadd, 1) := fq_96 fk_cX10_findOrder_13 1 rfl rfl
theorem dX10_findOrder_210 : decode cX10_findOrder 210 = .ok (.aload_n 0, 1) := fq_42 fk_cX10_findOrder_13 2 rfl rfl
theorem dX10_findOrder_211 : decode cX10_findOrder 211 = .ok (.getfield 63, 3) := fq_180 fk_cX10_findOrder_13 3 rfl rfl rfl rfl rfl
theorem dX10_findOrder_214 : decode cX10_findOrder 214 = .ok (.iload_n 1, 1) := fq_27 fk_cX10_findOrder_13 6 rfl rfl
theorem dX10_findOrder_215 : decode cX10_findOrder 215 = .ok (.iaload, 1) := fq_46 fk_cX10_findOrder_13 7 rfl rfl
theorem dX10_findOrder_216 : decode cX10_findOrder 216 = .ok (.iadd, 1) := fq_96 fk_cX10_findOrder_13 8 rfl rfl
theorem dX10_findOrder_217 : decode cX10_findOrder 217 = .ok (.iaload, 1) := fq_46 fk_cX10_findOrder_13 9 rfl rfl
theorem dX10_findOrder_218 : decode cX10_findOrder 218 = .ok (.iconst 1, 1) := fq_4 fk_cX10_findOrder_13 10 rfl rfl
theorem dX10_findOrder_219 : decode cX10_findOrder 219 = .ok (.if_icmp .ne 7, 3) := fq_160 fk_cX10_findOrder_13 11 rfl rfl rfl rfl rfl
theorem fk_cX10_findOrder_14 : fq_ck cX10_findOrder 224 [0, 4, 3, 96, 61, 132, 1, 1, 28, 42, 180, 1, 21, 164, 0, 42, 42, 28] := fq_of fW_cX10_findOrder 14 rfl rfl
theorem dX10_findOrder_226 : decode cX10_findOrder 226 = .ok (.iconst 0, 1) := fq_3 fk_cX10_findOrder_14 2 rfl rfl
theorem dX10_findOrder_227 : decode cX10_findOrder 227 = .ok (.iadd, 1) := fq_96 fk_cX10_findOrder_14 3 rfl rfl
theorem dX10_findOrder_228 : decode cX10_findOrder 228 = .ok (.istore_n 2, 1) := fq_61 fk_cX10_findOrder_14 4 rfl rfl
theorem dX10_findOrder_229 : decode cX10_findOrder 229 = .ok (.iinc 1 1, 3) := fq_132 fk_cX10_findOrder_14 5 rfl rfl rfl rfl rfl
theorem dX10_findOrder_232 : decode cX10_findOrder 232 = .ok (.iload_n 2, 1) := fq_28 fk_cX10_findOrder_14 8 rfl rfl
theorem dX10_findOrder_233 : decode cX10_findOrder 233 = .ok (.aload_n 0, 1) := fq_42 fk_cX10_findOrder_14 9 rfl rfl
theorem dX10_findOrder_234 : decode cX10_findOrder 234 = .ok (.getfield 277, 3) := fq_180 fk_cX10_findOrder_14 10 rfl rfl rfl rfl rfl
theorem dX10_findOrder_237 : decode cX10_findOrder 237 = .ok (.if_icmp .le 42, 3) := fq_164 fk_cX10_findOrder_14 13 rfl rfl rfl rfl rfl
theorem dX10_findOrder_279 : decode cX10_findOrder 279 = .ok (.aload_n 0, 1) := fq_42 fk_cX10_findOrder_17 7 rfl rfl
theorem dX10_findOrder_280 : decode cX10_findOrder 280 = .ok (.getfield 63, 3) := fq_180 fk_cX10_findOrder_17 8 rfl rfl rfl rfl rfl
theorem dX10_findOrder_283 : decode cX10_findOrder 283 = .ok (.iload_n 1, 1) := fq_27 fk_cX10_findOrder_17 11 rfl rfl
theorem dX10_findOrder_284 : decode cX10_findOrder 284 = .ok (.iconst (-1), 1) := fq_2 fk_cX10_findOrder_17 12 rfl rfl
theorem dX10_findOrder_285 : decode cX10_findOrder 285 = .ok (.iastore, 1) := fq_79 fk_cX10_findOrder_17 13 rfl rfl
theorem fk_cX10_findOrder_15 : fq_ck cX10_findOrder 240 [42, 28, 181, 1, 21, 42, 27, 181, 1, 18, 3, 54, 5, 21, 5, 27, 162, 0] := fq_of fW_cX10_findOrder 15 rfl rfl
theorem dX10_findOrder_240 : decode cX10_findOrder 240 = .ok (.aload_n 0, 1) := fq_42 fk_cX10_findOrder_15 0 rfl rfl
theorem dX10_findOrder_241 : decode cX10_findOrder 241 = .ok (.iload_n 2, 1) := fq_28 fk_cX10_findOrder_15 1 rfl rfl
theorem dX10_findOrder_242 : decode cX10_findOrder 242 = .ok (.putfield 277, 3) := fq_181 fk_cX10_findOrder_15 2 rfl rfl rfl rfl rfl
theorem dX10_findOrder_245 : decode cX10_findOrder 245 = .ok (.aload_n 0, 1) := fq_42 fk_cX10_findOrder_15 5 rfl rfl
theorem dX10_findOrder_246 : decode cX10_findOrder 246 = .ok (.iload_n 1, 1) := fq_27 fk_cX10_findOrder_15 6 rfl rfl
theorem dX10_findOrder_247 : decode cX10_findOrder 247 = .ok (.putfield 274, 3) := fq_181 fk_cX10_findOrder_15 7 rfl rfl rfl rfl rfl
theorem dX10_findOrder_250 : decode cX10_findOrder 250 = .ok (.iconst 0, 1) := fq_3 fk_cX10_findOrder_15 10 rfl rfl
theorem dX10_findOrder_251 : decode cX10_findOrder 251 = .ok (.istore 5, 2) := fq_54 fk_cX10_findOrder_15 11 rfl rfl rfl
theorem dX10_findOrder_253 : decode cX10_findOrder 253 = .ok (.iload 5, 2) := fq_21 fk_cX10_findOrder_15 13 rfl rfl rfl
theorem dX10_findOrder_255 : decode cX10_findOrder 255 = .ok (.iload_n 1, 1) := fq_27 fk_cX10_findOrder_15 15 rfl rfl
theorem fk_cX10_findOrder_16 : fq_ck cX10_findOrder 256 [162, 0, 23, 42, 180, 0, 66, 21, 5, 42, 180, 0, 63, 21, 5, 46, 79, 132] := fq_of fW_cX10_findOrder 16 rfl rfl
theorem dX10_findOrder_256 : decode cX10_findOrder 256 = .ok (.if_icmp .ge 23, 3) := fq_162 fk_cX10_findOrder_16 0 rfl rfl rfl rfl rfl
theorem dX10_findOrder_259 : decode cX10_findOrder 259 = .ok (.aload_n 0, 1) := fq_42 fk_cX10_findOrder_16 3 rfl rfl
theorem wd_676 : Cond.fieldLink RX10 66 "QuarrelBridgesModel" "bestRow" "[I" ∈ BG := BG_at4 102 (by decide +kernel) rfl
theorem dX10_findOrder_260 : decode cX10_findOrder 260 = .ok (.getfield 66, 3) := fq_180 fk_cX10_findOrder_16 4 rfl rfl rfl rfl rfl
theorem dX10_findOrder_263 : decode cX10_findOrder 263 = .ok (.iload 5, 2) := fq_21 fk_cX10_findOrder_16 7 rfl rfl rfl
theorem dX10_findOrder_265 : decode cX10_findOrder 265 = .ok (.aload_n 0, 1) := fq_42 fk_cX10_findOrder_16 9 rfl rfl
theorem dX10_findOrder_266 : decode cX10_findOrder 266 = .ok (.getfield 63, 3) := fq_180 fk_cX10_findOrder_16 10 rfl rfl rfl rfl rfl
theorem dX10_findOrder_269 : decode cX10_findOrder 269 = .ok (.iload 5, 2) := fq_21 fk_cX10_findOrder_16 13 rfl rfl rfl
theorem dX10_findOrder_271 : decode cX10_findOrder 271 = .ok (.iaload, 1) := fq_46 fk_cX10_findOrder_16 15 rfl rfl
theorem dX10_findOrder_272 : decode cX10_findOrder 272 = .ok (.iastore, 1) := fq_79 fk_cX10_findOrder_17 0 rfl rfl
theorem dX10_findOrder_273 : decode cX10_findOrder 273 = .ok (.iinc 5 1, 3) := fq_132 fk_cX10_findOrder_17 1 rfl rfl rfl rfl rfl
theorem dX10_findOrder_276 : decode cX10_findOrder 276 = .ok (.goto (-23), 3) := fq_167 fk_cX10_findOrder_17 4 rfl rfl rfl rfl rfl
theorem dX10_findOrder_222 : decode cX10_findOrder 222 = .ok (.iconst 1, 1) := fq_4 fk_cX10_findOrder_13 14 rfl rfl
theorem dX10_findOrder_223 : decode cX10_findOrder 223 = .ok (.goto 4, 3) := fq_167 fk_cX10_findOrder_13 15 rfl rfl rfl rfl rfl
def fw_cX10_order : List (List Nat) := [[42, 182, 1, 24, 27, 2, 160, 0, 10, 42, 180, 1, 21, 167, 0, 29, 27, 133], [27, 133, 9, 42, 180, 1, 18, 4, 100, 133, 184, 0, 84, 153, 0, 12, 42, 180], [42, 180, 0, 66, 27, 46, 167, 0, 4, 2, 172]]
theorem fW_cX10_order : fq_wins 3 cX10_order.data.toList = fw_cX10_order := by decide +kernel
theorem fk_cX10_order_0 : fq_ck cX10_order 0 [42, 182, 1, 24, 27, 2, 160, 0, 10, 42, 180, 1, 21, 167, 0, 29, 27, 133] := fq_of fW_cX10_order 0 rfl rfl
theorem dX10_order_0 : decode cX10_order 0 = .ok (.aload_n 0, 1) := fq_42 fk_cX10_order_0 0 rfl rfl
theorem dX10_order_1 : decode cX10_order 1 = .ok (.invokevirtual 280, 3) := fq_182 fk_cX10_order_0 1 rfl rfl rfl rfl rfl
theorem wd_677 : Cond.methodLink RX10 280 yX10_findOrder ∈ BG := BG_at5 170 (by decide +kernel) rfl
theorem wd_678 : Cond.code yX10_findOrder cX10_findOrder 6 none ∈ BG := BG_at5 173 rfl rfl
theorem wd_679 : Cond.instanceMethod yX10_findOrder ∈ BG := BG_at5 172 (by decide +kernel) rfl
theorem wd_680 : Cond.selects RX10 yX10_findOrder yX10_findOrder ∈ BG := BG_in (by decide +kernel) rfl
theorem okV_X10_findOrder : okV yX10_findOrder cX10_findOrder 6 none 0 := ⟨⟨wd_678, wd_497, by decide +kernel⟩, wd_679, wd_680⟩
theorem dX10_order_4 : decode cX10_order 4 = .ok (.iload_n 1, 1) := fq_27 fk_cX10_order_0 4 rfl rfl
theorem dX10_order_5 : decode cX10_order 5 = .ok (.iconst (-1), 1) := fq_2 fk_cX10_order_0 5 rfl rfl
theorem dX10_order_6 : decode cX10_order 6 = .ok (.if_icmp .ne 10, 3) := fq_160 fk_cX10_order_0 6 rfl rfl rfl rfl rfl
theorem fk_cX10_order_1 : fq_ck cX10_order 16 [27, 133, 9, 42, 180, 1, 18, 4, 100, 133, 184, 0, 84, 153, 0, 12, 42, 180] := fq_of fW_cX10_order 1 rfl rfl
theorem dX10_order_16 : decode cX10_order 16 = .ok (.iload_n 1, 1) := fq_27 fk_cX10_order_1 0 rfl rfl
theorem dX10_order_17 : decode cX10_order 17 = .ok (.i2l, 1) := fq_133 fk_cX10_order_1 1 rfl rfl
theorem dX10_order_18 : decode cX10_order 18 = .ok (.lconst 0, 1) := fq_9 fk_cX10_order_1 2 rfl rfl
theorem dX10_order_19 : decode cX10_order 19 = .ok (.aload_n 0, 1) := fq_42 fk_cX10_order_1 3 rfl rfl
theorem dX10_order_20 : decode cX10_order 20 = .ok (.getfield 274, 3) := fq_180 fk_cX10_order_1 4 rfl rfl rfl rfl rfl
theorem dX10_order_23 : decode cX10_order 23 = .ok (.iconst 1, 1) := fq_4 fk_cX10_order_1 7 rfl rfl
theorem dX10_order_24 : decode cX10_order 24 = .ok (.isub, 1) := fq_100 fk_cX10_order_1 8 rfl rfl
theorem dX10_order_25 : decode cX10_order 25 = .ok (.i2l, 1) := fq_133 fk_cX10_order_1 9 rfl rfl
theorem dX10_order_26 : decode cX10_order 26 = .ok (.invokestatic 84, 3) := fq_184 fk_cX10_order_1 10 rfl rfl rfl rfl rfl
theorem dX10_order_29 : decode cX10_order 29 = .ok (.ifCond .eq 12, 3) := fq_153 fk_cX10_order_1 13 rfl rfl rfl rfl rfl
theorem fk_cX10_order_2 : fq_ck cX10_order 32 [42, 180, 0, 66, 27, 46, 167, 0, 4, 2, 172] := fq_of fW_cX10_order 2 rfl rfl
theorem dX10_order_41 : decode cX10_order 41 = .ok (.iconst (-1), 1) := fq_2 fk_cX10_order_2 9 rfl rfl
theorem dX10_order_42 : decode cX10_order 42 = .ok (.ireturn, 1) := fq_172 fk_cX10_order_2 10 rfl rfl
theorem dX10_order_32 : decode cX10_order 32 = .ok (.aload_n 0, 1) := fq_42 fk_cX10_order_2 0 rfl rfl
theorem dX10_order_33 : decode cX10_order 33 = .ok (.getfield 66, 3) := fq_180 fk_cX10_order_2 1 rfl rfl rfl rfl rfl
theorem dX10_order_36 : decode cX10_order 36 = .ok (.iload_n 1, 1) := fq_27 fk_cX10_order_2 4 rfl rfl
theorem dX10_order_37 : decode cX10_order 37 = .ok (.iaload, 1) := fq_46 fk_cX10_order_2 5 rfl rfl
theorem dX10_order_38 : decode cX10_order 38 = .ok (.goto 4, 3) := fq_167 fk_cX10_order_2 6 rfl rfl rfl rfl rfl
theorem dX10_order_9 : decode cX10_order 9 = .ok (.aload_n 0, 1) := fq_42 fk_cX10_order_0 9 rfl rfl
theorem dX10_order_10 : decode cX10_order 10 = .ok (.getfield 277, 3) := fq_180 fk_cX10_order_0 10 rfl rfl rfl rfl rfl
theorem dX10_order_13 : decode cX10_order 13 = .ok (.goto 29, 3) := fq_167 fk_cX10_order_0 13 rfl rfl rfl rfl rfl
noncomputable def f_m_findOrder_253 (w_4l1 : Int32) (n : Nat) : Int32 → (Nat → Int32) → (Nat → Int32) → (Nat → Int32) → (Nat → Int32) → Int32 × (Nat → Int32) × (Nat → Int32) × (Nat → Int32) × (Nat → Int32) := Nat.rec (motive := fun _ => Int32 → (Nat → Int32) → (Nat → Int32) → (Nat → Int32) → (Nat → Int32) → Int32 × (Nat → Int32) × (Nat → Int32) × (Nat → Int32) × (Nat → Int32)) (fun w_37l5 w_37m0 w_37m1 w_37m2 w_37m3 => (w_37l5, w_37m0, w_37m1, w_37m2, w_37m3)) (fun n ih w_37l5 w_37m0 w_37m1 w_37m2 w_37m3 => (if (w_4l1 + 1) ≤ w_37l5 then (w_37l5, w_37m0, w_37m1, w_37m2, w_37m3) else (ih (w_37l5 + 1) w_37m0 w_37m1 w_37m2 (upd w_37m3 (w_37l5 : Int32).toNatClampNeg (w_37m2 (w_37l5 : Int32).toNatClampNeg))))) n
theorem f_m_findOrder_253_s (w_4l1 : Int32) (n : Nat) (w_37l5 : Int32) (w_37m0 : (Nat → Int32)) (w_37m1 : (Nat → Int32)) (w_37m2 : (Nat → Int32)) (w_37m3 : (Nat → Int32)) : f_m_findOrder_253 w_4l1 (n + 1) w_37l5 w_37m0 w_37m1 w_37m2 w_37m3 = (if (w_4l1 + 1) ≤ w_37l5 then (w_37l5, w_37m0, w_37m1, w_37m2, w_37m3) else (f_m_findOrder_253 w_4l1 n (w_37l5 + 1) w_37m0 w_37m1 w_37m2 (upd w_37m3 (w_37l5 : Int32).toNatClampNeg (w_37m2 (w_37l5 : Int32).toNatClampNeg)))) := rfl
def S_m_findOrder_253 (w_4l1 : Int32) (K : Int32 → (Nat → Int32) → (Nat → Int32) → (Nat → Int32) → (Nat → Int32) → Prop) (n : Nat) : Int32 → (Nat → Int32) → (Nat → Int32) → (Nat → Int32) → (Nat → Int32) → Prop := Nat.rec (motive := fun _ => Int32 → (Nat → Int32) → (Nat → Int32) → (Nat → Int32) → (Nat → Int32) → Prop) (fun _ _ _ _ _ => False) (fun n ih w_37l5 w_37m0 w_37m1 w_37m2 w_37m3 => (((w_4l1 + 1) ≤ w_37l5 → (K w_37l5 w_37m0 w_37m1 w_37m2 w_37m3)) ∧ (¬ (w_4l1 + 1) ≤ w_37l5 → (vp_in w_37l5 8 ∧ (vp_in w_37l5 7 ∧ (ih (w_37l5 + 1) w_37m0 w_37m1 w_37m2 (upd w_37m3 (w_37l5 : Int32).toNatClampNeg (w_37m2 (w_37l5 : Int32).toNatClampNeg)))))))) n
theorem S_m_findOrder_253_s (w_4l1 : Int32) (K : Int32 → (Nat → Int32) → (Nat → Int32) → (Nat → Int32) → (Nat → Int32) → Prop) (n : Nat) (w_37l5 : Int32) (w_37m0 : (Nat → Int32)) (w_37m1 : (Nat → Int32)) (w_37m2 : (Nat → Int32)) (w_37m3 : (Nat → Int32)) : S_m_findOrder_253 w_4l1 K (n + 1) w_37l5 w_37m0 w_37m1 w_37m2 w_37m3 = ((((w_4l1 + 1) ≤ w_37l5 → (K w_37l5 w_37m0 w_37m1 w_37m2 w_37m3)) ∧ (¬ (w_4l1 + 1) ≤ w_37l5 → (vp_in w_37l5 8 ∧ (vp_in w_37l5 7 ∧ (S_m_findOrder_253 w_4l1 K n (w_37l5 + 1) w_37m0 w_37m1 w_37m2 (upd w_37m3 (w_37l5 : Int32).toNatClampNeg (w_37m2 (w_37l5 : Int32).toNatClampNeg)))))))) := rfl
noncomputable def f_m_findOrder_28 (f10 : Nat → Int32) (f8 : Nat → Int32) (f11 : Nat → Int32) (f12 : Nat → Int32) (n : Nat) : Int32 → Int32 → (Nat → Int32) → (Nat → Int32) → (Nat → Int32) → (Nat → Int32) → Int32 × Int32 × (Nat → Int32) × (Nat → Int32) × (Nat → Int32) × (Nat → Int32) := Nat.rec (motive := fun _ => Int32 → Int32 → (Nat → Int32) → (Nat → Int32) → (Nat → Int32) → (Nat → Int32) → Int32 × Int32 × (Nat → Int32) × (Nat → Int32) × (Nat → Int32) × (Nat → Int32)) (fun w_4l2 w_4l1 w_4m0 w_4m1 w_4m2 w_4m3 => (w_4l2, w_4l1, w_4m0, w_4m1, w_4m2, w_4m3)) (fun n ih w_4l2 w_4l1 w_4m0 w_4m1 w_4m2 w_4m3 => (if w_4l1 < 0 then (w_4l2, w_4l1, w_4m0, w_4m1, w_4m2, w_4m3) else (if ((upd w_4m2 (w_4l1 : Int32).toNatClampNeg ((w_4m2 (w_4l1 : Int32).toNatClampNeg) + 1)) (w_4l1 : Int32).toNatClampNeg) = (w_4m0 6) then (if (w_4l1 + (-1)) < 0 then (ih (w_4l2 - 0) (w_4l1 + (-1)) w_4m0 w_4m1 (upd w_4m2 (w_4l1 : Int32).toNatClampNeg ((w_4m2 (w_4l1 : Int32).toNatClampNeg) + 1)) w_4m3) else (if (w_4m1 ((((42 + (42 * ((w_4l1 + (-1)) + 1))) + 20) + ((upd w_4m2 (w_4l1 : Int32).toNatClampNeg ((w_4m2 (w_4l1 : Int32).toNatClampNeg) + 1)) ((w_4l1 + (-1)) : Int32).toNatClampNeg)) : Int32).toNatClampNeg) = 1 then (ih (w_4l2 - 1) (w_4l1 + (-1)) w_4m0 w_4m1 (upd w_4m2 (w_4l1 : Int32).toNatClampNeg ((w_4m2 (w_4l1 : Int32).toNatClampNeg) + 1)) w_4m3) else (ih (w_4l2 - 0) (w_4l1 + (-1)) w_4m0 w_4m1 (upd w_4m2 (w_4l1 : Int32).toNatClampNeg ((w_4m2 (w_4l1 : Int32).toNatClampNeg) + 1)) w_4m3))) else (if w_4l1 = 7 then (if (w_4l1 + (-1)) < 0 then (ih (w_4l2 - 0) (w_4l1 + (-1)) w_4m0 w_4m1 (upd w_4m2 (w_4l1 : Int32).toNatClampNeg ((w_4m2 (w_4l1 : Int32).toNatClampNeg) + 1)) w_4m3) else (if (w_4m1 ((((42 + (42 * ((w_4l1 + (-1)) + 1))) + 20) + ((upd w_4m2 (w_4l1 : Int32).toNatClampNeg ((w_4m2 (w_4l1 : Int32).toNatClampNeg) + 1)) ((w_4l1 + (-1)) : Int32).toNatClampNeg)) : Int32).toNatClampNeg) = 1 then (ih (w_4l2 - 1) (w_4l1 + (-1)) w_4m0 w_4m1 (upd w_4m2 (w_4l1 : Int32).toNatClampNeg ((w_4m2 (w_4l1 : Int32).toNatClampNeg) + 1)) w_4m3) else (ih (w_4l2 - 0) (w_4l1 + (-1)) w_4m0 w_4m1 (upd w_4m2 (w_4l1 : Int32).toNatClampNeg ((w_4m2 (w_4l1 : Int32).toNatClampNeg) + 1)) w_4m3))) else (if (w_4m1 ((((42 + (42 * w_4l1)) + 20) + ((upd w_4m2 (w_4l1 : Int32).toNatClampNeg ((w_4m2 (w_4l1 : Int32).toNatClampNeg) + 1)) (w_4l1 : Int32).toNatClampNeg)) : Int32).toNatClampNeg) = 0 then (match (f_m_passes w_4m0 (f_m_copy w_4m1 (42 + (42 * w_4l1)) ((42 + (42 * w_4l1)) + 42)) f10 f8 f11 f12 ((42 + (42 * w_4l1)) + 42) ((upd w_4m2 (w_4l1 : Int32).toNatClampNeg ((w_4m2 (w_4l1 : Int32).toNatClampNeg) + 1)) (w_4l1 : Int32).toNatClampNeg)) with | (o_25, o_26) => (if (o_26 (((((42 + (42 * w_4l1)) + 42) + 20) + ((upd w_4m2 (w_4l1 : Int32).toNatClampNeg ((w_4m2 (w_4l1 : Int32).toNatClampNeg) + 1)) (w_4l1 : Int32).toNatClampNeg)) : Int32).toNatClampNeg) = 3 then (ih w_4l2 w_4l1 o_25 o_26 (upd w_4m2 (w_4l1 : Int32).toNatClampNeg ((w_4m2 (w_4l1 : Int32).toNatClampNeg) + 1)) w_4m3) else (if (o_26 ((((42 + (42 * w_4l1)) + 42) + 18) : Int32).toNatClampNeg) = (o_26 (18 : Int32).toNatClampNeg) then (if (o_26 (((((42 + (42 * w_4l1)) + 42) + 20) + ((upd w_4m2 (w_4l1 : Int32).toNatClampNeg ((w_4m2 (w_4l1 : Int32).toNatClampNeg) + 1)) (w_4l1 : Int32).toNatClampNeg)) : Int32).toNatClampNeg) = 1 then (if (w_4l2 + 1) ≤ (o_25 41) then (ih (w_4l2 + 1) (w_4l1 + 1) o_25 o_26 (upd (upd w_4m2 (w_4l1 : Int32).toNatClampNeg ((w_4m2 (w_4l1 : Int32).toNatClampNeg) + 1)) ((w_4l1 + 1) : Int32).toNatClampNeg (-1)) w_4m3) else (match ((f_m_findOrder_253 w_4l1 10 0 (upd (upd o_25 41 (w_4l2 + 1)) 40 (w_4l1 + 1)) o_26 (upd w_4m2 (w_4l1 : Int32).toNatClampNeg ((w_4m2 (w_4l1 : Int32).toNatClampNeg) + 1)) w_4m3) : Int32 × (Nat → Int32) × (Nat → Int32) × (Nat → Int32) × (Nat → Int32)) with | (w_44l5, w_44m0, w_44m1, w_44m2, w_44m3) => (ih (w_4l2 + 1) (w_4l1 + 1) w_44m0 w_44m1 (upd w_44m2 ((w_4l1 + 1) : Int32).toNatClampNeg (-1)) w_44m3))) else (if (w_4l2 + 0) ≤ (o_25 41) then (ih (w_4l2 + 0) (w_4l1 + 1) o_25 o_26 (upd (upd w_4m2 (w_4l1 : Int32).toNatClampNeg ((w_4m2 (w_4l1 : Int32).toNatClampNeg) + 1)) ((w_4l1 + 1) : Int32).toNatClampNeg (-1)) w_4m3) else (match ((f_m_findOrder_253 w_4l1 10 0 (upd (upd o_25 41 (w_4l2 + 0)) 40 (w_4l1 + 1)) o_26 (upd w_4m2 (w_4l1 : Int32).toNatClampNeg ((w_4m2 (w_4l1 : Int32).toNatClampNeg) + 1)) w_4m3) : Int32 × (Nat → Int32) × (Nat → Int32) × (Nat → Int32) × (Nat → Int32)) with | (w_37l5, w_37m0, w_37m1, w_37m2, w_37m3) => (ih (w_4l2 + 0) (w_4l1 + 1) w_37m0 w_37m1 (upd w_37m2 ((w_4l1 + 1) : Int32).toNatClampNeg (-1)) w_37m3)))) else (ih w_4l2 w_4l1 o_25 o_26 (upd w_4m2 (w_4l1 : Int32).toNatClampNeg ((w_4m2 (w_4l1 : Int32).toNatClampNeg) + 1)) w_4m3)))) else (ih w_4l2 w_4l1 w_4m0 w_4m1 (upd w_4m2 (w_4l1 : Int32).toNatClampNeg ((w_4m2 (w_4l1 : Int32).toNatClampNeg) + 1)) w_4m3)))))) n
theorem f_m_findOrder_28_s (f10 : Nat → Int32) (f8 : Nat → Int32) (f11 : Nat → Int32) (f12 : Nat → Int32) (n : Nat) (w_4l2 : Int32) (w_4l1 : Int32) (w_4m0 : (Nat → Int32)) (w_4m1 : (Nat → Int32)) (w_4m2 : (Nat → Int32)) (w_4m3 : (Nat → Int32)) : f_m_findOrder_28 f10 f8 f11 f12 (n + 1) w_4l2 w_4l1 w_4m0 w_4m1 w_4m2 w_4m3 = (if w_4l1 < 0 then (w_4l2, w_4l1, w_4m0, w_4m1, w_4m2, w_4m3) else (if ((upd w_4m2 (w_4l1 : Int32).toNatClampNeg ((w_4m2 (w_4l1 : Int32).toNatClampNeg) + 1)) (w_4l1 : Int32).toNatClampNeg) = (w_4m0 6) then (if (w_4l1 + (-1)) < 0 then (f_m_findOrder_28 f10 f8 f11 f12 n (w_4l2 - 0) (w_4l1 + (-1)) w_4m0 w_4m1 (upd w_4m2 (w_4l1 : Int32).toNatClampNeg ((w_4m2 (w_4l1 : Int32).toNatClampNeg) + 1)) w_4m3) else (if (w_4m1 ((((42 + (42 * ((w_4l1 + (-1)) + 1))) + 20) + ((upd w_4m2 (w_4l1 : Int32).toNatClampNeg ((w_4m2 (w_4l1 : Int32).toNatClampNeg) + 1)) ((w_4l1 + (-1)) : Int32).toNatClampNeg)) : Int32).toNatClampNeg) = 1 then (f_m_findOrder_28 f10 f8 f11 f12 n (w_4l2 - 1) (w_4l1 + (-1)) w_4m0 w_4m1 (upd w_4m2 (w_4l1 : Int32).toNatClampNeg ((w_4m2 (w_4l1 : Int32).toNatClampNeg) + 1)) w_4m3) else (f_m_findOrder_28 f10 f8 f11 f12 n (w_4l2 - 0) (w_4l1 + (-1)) w_4m0 w_4m1 (upd w_4m2 (w_4l1 : Int32).toNatClampNeg ((w_4m2 (w_4l1 : Int32).toNatClampNeg) + 1)) w_4m3))) else (if w_4l1 = 7 then (if (w_4l1 + (-1)) < 0 then (f_m_findOrder_28 f10 f8 f11 f12 n (w_4l2 - 0) (w_4l1 + (-1)) w_4m0 w_4m1 (upd w_4m2 (w_4l1 : Int32).toNatClampNeg ((w_4m2 (w_4l1 : Int32).toNatClampNeg) + 1)) w_4m3) else (if (w_4m1 ((((42 + (42 * ((w_4l1 + (-1)) + 1))) + 20) + ((upd w_4m2 (w_4l1 : Int32).toNatClampNeg ((w_4m2 (w_4l1 : Int32).toNatClampNeg) + 1)) ((w_4l1 + (-1)) : Int32).toNatClampNeg)) : Int32).toNatClampNeg) = 1 then (f_m_findOrder_28 f10 f8 f11 f12 n (w_4l2 - 1) (w_4l1 + (-1)) w_4m0 w_4m1 (upd w_4m2 (w_4l1 : Int32).toNatClampNeg ((w_4m2 (w_4l1 : Int32).toNatClampNeg) + 1)) w_4m3) else (f_m_findOrder_28 f10 f8 f11 f12 n (w_4l2 - 0) (w_4l1 + (-1)) w_4m0 w_4m1 (upd w_4m2 (w_4l1 : Int32).toNatClampNeg ((w_4m2 (w_4l1 : Int32).toNatClampNeg) + 1)) w_4m3))) else (if (w_4m1 ((((42 + (42 * w_4l1)) + 20) + ((upd w_4m2 (w_4l1 : Int32).toNatClampNeg ((w_4m2 (w_4l1 : Int32).toNatClampNeg) + 1)) (w_4l1 : Int32).toNatClampNeg)) : Int32).toNatClampNeg) = 0 then (match (f_m_passes w_4m0 (f_m_copy w_4m1 (42 + (42 * w_4l1)) ((42 + (42 * w_4l1)) + 42)) f10 f8 f11 f12 ((42 + (42 * w_4l1)) + 42) ((upd w_4m2 (w_4l1 : Int32).toNatClampNeg ((w_4m2 (w_4l1 : Int32).toNatClampNeg) + 1)) (w_4l1 : Int32).toNatClampNeg)) with | (o_25, o_26) => (if (o_26 (((((42 + (42 * w_4l1)) + 42) + 20) + ((upd w_4m2 (w_4l1 : Int32).toNatClampNeg ((w_4m2 (w_4l1 : Int32).toNatClampNeg) + 1)) (w_4l1 : Int32).toNatClampNeg)) : Int32).toNatClampNeg) = 3 then (f_m_findOrder_28 f10 f8 f11 f12 n w_4l2 w_4l1 o_25 o_26 (upd w_4m2 (w_4l1 : Int32).toNatClampNeg ((w_4m2 (w_4l1 : Int32).toNatClampNeg) + 1)) w_4m3) else (if (o_26 ((((42 + (42 * w_4l1)) + 42) + 18) : Int32).toNatClampNeg) = (o_26 (18 : Int32).toNatClampNeg) then (if (o_26 (((((42 + (42 * w_4l1)) + 42) + 20) + ((upd w_4m2 (w_4l1 : Int32).toNatClampNeg ((w_4m2 (w_4l1 : Int32).toNatClampNeg) + 1)) (w_4l1 : Int32).toNatClampNeg)) : Int32).toNatClampNeg) = 1 then (if (w_4l2 + 1) ≤ (o_25 41) then (f_m_findOrder_28 f10 f8 f11 f12 n (w_4l2 + 1) (w_4l1 + 1) o_25 o_26 (upd (upd w_4m2 (w_4l1 : Int32).toNatClampNeg ((w_4m2 (w_4l1 : Int32).toNatClampNeg) + 1)) ((w_4l1 + 1) : Int32).toNatClampNeg (-1)) w_4m3) else (match ((f_m_findOrder_253 w_4l1 10 0 (upd (upd o_25 41 (w_4l2 + 1)) 40 (w_4l1 + 1)) o_26 (upd w_4m2 (w_4l1 : Int32).toNatClampNeg ((w_4m2 (w_4l1 : Int32).toNatClampNeg) + 1)) w_4m3) : Int32 × (Nat → Int32) × (Nat → Int32) × (Nat → Int32) × (Nat → Int32)) with | (w_44l5, w_44m0, w_44m1, w_44m2, w_44m3) => (f_m_findOrder_28 f10 f8 f11 f12 n (w_4l2 + 1) (w_4l1 + 1) w_44m0 w_44m1 (upd w_44m2 ((w_4l1 + 1) : Int32).toNatClampNeg (-1)) w_44m3))) else (if (w_4l2 + 0) ≤ (o_25 41) then (f_m_findOrder_28 f10 f8 f11 f12 n (w_4l2 + 0) (w_4l1 + 1) o_25 o_26 (upd (upd w_4m2 (w_4l1 : Int32).toNatClampNeg ((w_4m2 (w_4l1 : Int32).toNatClampNeg) + 1)) ((w_4l1 + 1) : Int32).toNatClampNeg (-1)) w_4m3) else (match ((f_m_findOrder_253 w_4l1 10 0 (upd (upd o_25 41 (w_4l2 + 0)) 40 (w_4l1 + 1)) o_26 (upd w_4m2 (w_4l1 : Int32).toNatClampNeg ((w_4m2 (w_4l1 : Int32).toNatClampNeg) + 1)) w_4m3) : Int32 × (Nat → Int32) × (Nat → Int32) × (Nat → Int32) × (Nat → Int32)) with | (w_37l5, w_37m0, w_37m1, w_37m2, w_37m3) => (f_m_findOrder_28 f10 f8 f11 f12 n (w_4l2 + 0) (w_4l1 + 1) w_37m0 w_37m1 (upd w_37m2 ((w_4l1 + 1) : Int32).toNatClampNeg (-1)) w_37m3)))) else (f_m_findOrder_28 f10 f8 f11 f12 n w_4l2 w_4l1 o_25 o_26 (upd w_4m2 (w_4l1 : Int32).toNatClampNeg ((w_4m2 (w_4l1 : Int32).toNatClampNeg) + 1)) w_4m3)))) else (f_m_findOrder_28 f10 f8 f11 f12 n w_4l2 w_4l1 w_4m0 w_4m1 (upd w_4m2 (w_4l1 : Int32).toNatClampNeg ((w_4m2 (w_4l1 : Int32).toNatClampNeg) + 1)) w_4m3))))) := rfl
def S_m_findOrder_28 (f10 : Nat → Int32) (f8 : Nat → Int32) (f11 : Nat → Int32) (f12 : Nat → Int32) (K : Int32 → Int32 → (Nat → Int32) → (Nat → Int32) → (Nat → Int32) → (Nat → Int32) → Prop) (n : Nat) : Int32 → Int32 → (Nat → Int32) → (Nat → Int32) → (Nat → Int32) → (Nat → Int32) → Prop := Nat.rec (motive := fun _ => Int32 → Int32 → (Nat → Int32) → (Nat → Int32) → (Nat → Int32) → (Nat → Int32) → Prop) (fun _ _ _ _ _ _ => False) (fun n ih w_4l2 w_4l1 w_4m0 w_4m1 w_4m2 w_4m3 => ((w_4l1 < 0 → (K w_4l2 w_4l1 w_4m0 w_4m1 w_4m2 w_4m3)) ∧ (¬ w_4l1 < 0 → (vp_in w_4l1 8 ∧ (vp_in w_4l1 8 ∧ (vp_in w_4l1 8 ∧ ((((upd w_4m2 (w_4l1 : Int32).toNatClampNeg ((w_4m2 (w_4l1 : Int32).toNatClampNeg) + 1)) (w_4l1 : Int32).toNatClampNeg) = (w_4m0 6) → (((w_4l1 + (-1)) < 0 → (ih (w_4l2 - 0) (w_4l1 + (-1)) w_4m0 w_4m1 (upd w_4m2 (w_4l1 : Int32).toNatClampNeg ((w_4m2 (w_4l1 : Int32).toNatClampNeg) + 1)) w_4m3)) ∧ (¬ (w_4l1 + (-1)) < 0 → (vp_in (w_4l1 + (-1)) 8 ∧ (vp_in (((42 + (42 * ((w_4l1 + (-1)) + 1))) + 20) + ((upd w_4m2 (w_4l1 : Int32).toNatClampNeg ((w_4m2 (w_4l1 : Int32).toNatClampNeg) + 1)) ((w_4l1 + (-1)) : Int32).toNatClampNeg)) 1302 ∧ (((w_4m1 ((((42 + (42 * ((w_4l1 + (-1)) + 1))) + 20) + ((upd w_4m2 (w_4l1 : Int32).toNatClampNeg ((w_4m2 (w_4l1 : Int32).toNatClampNeg) + 1)) ((w_4l1 + (-1)) : Int32).toNatClampNeg)) : Int32).toNatClampNeg) = 1 → (ih (w_4l2 - 1) (w_4l1 + (-1)) w_4m0 w_4m1 (upd w_4m2 (w_4l1 : Int32).toNatClampNeg ((w_4m2 (w_4l1 : Int32).toNatClampNeg) + 1)) w_4m3)) ∧ (¬ (w_4m1 ((((42 + (42 * ((w_4l1 + (-1)) + 1))) + 20) + ((upd w_4m2 (w_4l1 : Int32).toNatClampNeg ((w_4m2 (w_4l1 : Int32).toNatClampNeg) + 1)) ((w_4l1 + (-1)) : Int32).toNatClampNeg)) : Int32).toNatClampNeg) = 1 → (ih (w_4l2 - 0) (w_4l1 + (-1)) w_4m0 w_4m1 (upd w_4m2 (w_4l1 : Int32).toNatClampNeg ((w_4m2 (w_4l1 : Int32).toNatClampNeg) + 1)) w_4m3)))))))) ∧ (¬ ((upd w_4m2 (w_4l1 : Int32).toNatClampNeg ((w_4m2 (w_4l1 : Int32).toNatClampNeg) + 1)) (w_4l1 : Int32).toNatClampNeg) = (w_4m0 6) → ((w_4l1 = 7 → (((w_4l1 + (-1)) < 0 → (ih (w_4l2 - 0) (w_4l1 + (-1)) w_4m0 w_4m1 (upd w_4m2 (w_4l1 : Int32).toNatClampNeg ((w_4m2 (w_4l1 : Int32).toNatClampNeg) + 1)) w_4m3)) ∧ (¬ (w_4l1 + (-1)) < 0 → (vp_in (w_4l1 + (-1)) 8 ∧ (vp_in (((42 + (42 * ((w_4l1 + (-1)) + 1))) + 20) + ((upd w_4m2 (w_4l1 : Int32).toNatClampNeg ((w_4m2 (w_4l1 : Int32).toNatClampNeg) + 1)) ((w_4l1 + (-1)) : Int32).toNatClampNeg)) 1302 ∧ (((w_4m1 ((((42 + (42 * ((w_4l1 + (-1)) + 1))) + 20) + ((upd w_4m2 (w_4l1 : Int32).toNatClampNeg ((w_4m2 (w_4l1 : Int32).toNatClampNeg) + 1)) ((w_4l1 + (-1)) : Int32).toNatClampNeg)) : Int32).toNatClampNeg) = 1 → (ih (w_4l2 - 1) (w_4l1 + (-1)) w_4m0 w_4m1 (upd w_4m2 (w_4l1 : Int32).toNatClampNeg ((w_4m2 (w_4l1 : Int32).toNatClampNeg) + 1)) w_4m3)) ∧ (¬ (w_4m1 ((((42 + (42 * ((w_4l1 + (-1)) + 1))) + 20) + ((upd w_4m2 (w_4l1 : Int32).toNatClampNeg ((w_4m2 (w_4l1 : Int32).toNatClampNeg) + 1)) ((w_4l1 + (-1)) : Int32).toNatClampNeg)) : Int32).toNatClampNeg) = 1 → (ih (w_4l2 - 0) (w_4l1 + (-1)) w_4m0 w_4m1 (upd w_4m2 (w_4l1 : Int32).toNatClampNeg ((w_4m2 (w_4l1 : Int32).toNatClampNeg) + 1)) w_4m3)))))))) ∧ (¬ w_4l1 = 7 → (vp_in w_4l1 8 ∧ (vp_in (((42 + (42 * w_4l1)) + 20) + ((upd w_4m2 (w_4l1 : Int32).toNatClampNeg ((w_4m2 (w_4l1 : Int32).toNatClampNeg) + 1)) (w_4l1 : Int32).toNatClampNeg)) 1302 ∧ (((w_4m1 ((((42 + (42 * w_4l1)) + 20) + ((upd w_4m2 (w_4l1 : Int32).toNatClampNeg ((w_4m2 (w_4l1 : Int32).toNatClampNeg) + 1)) (w_4l1 : Int32).toNatClampNeg)) : Int32).toNatClampNeg) = 0 → ((S_m_copy w_4m1 (42 + (42 * w_4l1)) ((42 + (42 * w_4l1)) + 42)) ∧ (vp_in w_4l1 8 ∧ ((S_m_passes w_4m0 (f_m_copy w_4m1 (42 + (42 * w_4l1)) ((42 + (42 * w_4l1)) + 42)) f10 f8 f11 f12 ((42 + (42 * w_4l1)) + 42) ((upd w_4m2 (w_4l1 : Int32).toNatClampNeg ((w_4m2 (w_4l1 : Int32).toNatClampNeg) + 1)) (w_4l1 : Int32).toNatClampNeg)) ∧ (∀ (o_25 : (Nat → Int32)) (o_26 : (Nat → Int32)), (o_25, o_26) = (f_m_passes w_4m0 (f_m_copy w_4m1 (42 + (42 * w_4l1)) ((42 + (42 * w_4l1)) + 42)) f10 f8 f11 f12 ((42 + (42 * w_4l1)) + 42) ((upd w_4m2 (w_4l1 : Int32).toNatClampNeg ((w_4m2 (w_4l1 : Int32).toNatClampNeg) + 1)) (w_4l1 : Int32).toNatClampNeg)) → (vp_in w_4l1 8 ∧ (vp_in ((((42 + (42 * w_4l1)) + 42) + 20) + ((upd w_4m2 (w_4l1 : Int32).toNatClampNeg ((w_4m2 (w_4l1 : Int32).toNatClampNeg) + 1)) (w_4l1 : Int32).toNatClampNeg)) 1302 ∧ (((o_26 (((((42 + (42 * w_4l1)) + 42) + 20) + ((upd w_4m2 (w_4l1 : Int32).toNatClampNeg ((w_4m2 (w_4l1 : Int32).toNatClampNeg) + 1)) (w_4l1 : Int32).toNatClampNeg)) : Int32).toNatClampNeg) = 3 → (ih w_4l2 w_4l1 o_25 o_26 (upd w_4m2 (w_4l1 : Int32).toNatClampNeg ((w_4m2 (w_4l1 : Int32).toNatClampNeg) + 1)) w_4m3)) ∧ (¬ (o_26 (((((42 + (42 * w_4l1)) + 42) + 20) + ((upd w_4m2 (w_4l1 : Int32).toNatClampNeg ((w_4m2 (w_4l1 : Int32).toNatClampNeg) + 1)) (w_4l1 : Int32).toNatClampNeg)) : Int32).toNatClampNeg) = 3 → (vp_in (((42 + (42 * w_4l1)) + 42) + 18) 1302 ∧ (((o_26 ((((42 + (42 * w_4l1)) + 42) + 18) : Int32).toNatClampNeg) = (o_26 (18 : Int32).toNatClampNeg) → (vp_in w_4l1 8 ∧ (vp_in ((((42 + (42 * w_4l1)) + 42) + 20) + ((upd w_4m2 (w_4l1 : Int32).toNatClampNeg ((w_4m2 (w_4l1 : Int32).toNatClampNeg) + 1)) (w_4l1 : Int32).toNatClampNeg)) 1302 ∧ (((o_26 (((((42 + (42 * w_4l1)) + 42) + 20) + ((upd w_4m2 (w_4l1 : Int32).toNatClampNeg ((w_4m2 (w_4l1 : Int32).toNatClampNeg) + 1)) (w_4l1 : Int32).toNatClampNeg)) : Int32).toNatClampNeg) = 1 → (((w_4l2 + 1) ≤ (o_25 41) → (vp_in (w_4l1 + 1) 8 ∧ (ih (w_4l2 + 1) (w_4l1 + 1) o_25 o_26 (upd (upd w_4m2 (w_4l1 : Int32).toNatClampNeg ((w_4m2 (w_4l1 : Int32).toNatClampNeg) + 1)) ((w_4l1 + 1) : Int32).toNatClampNeg (-1)) w_4m3))) ∧ (¬ (w_4l2 + 1) ≤ (o_25 41) → (S_m_findOrder_253 w_4l1 (fun (w_44l5 : Int32) (w_44m0 : (Nat → Int32)) (w_44m1 : (Nat → Int32)) (w_44m2 : (Nat → Int32)) (w_44m3 : (Nat → Int32)) => (vp_in (w_4l1 + 1) 8 ∧ (ih (w_4l2 + 1) (w_4l1 + 1) w_44m0 w_44m1 (upd w_44m2 ((w_4l1 + 1) : Int32).toNatClampNeg (-1)) w_44m3))) 10 0 (upd (upd o_25 41 (w_4l2 + 1)) 40 (w_4l1 + 1)) o_26 (upd w_4m2 (w_4l1 : Int32).toNatClampNeg ((w_4m2 (w_4l1 : Int32).toNatClampNeg) + 1)) w_4m3)))) ∧ (¬ (o_26 (((((42 + (42 * w_4l1)) + 42) + 20) + ((upd w_4m2 (w_4l1 : Int32).toNatClampNeg ((w_4m2 (w_4l1 : Int32).toNatClampNeg) + 1)) (w_4l1 : Int32).toNatClampNeg)) : Int32).toNatClampNeg) = 1 → (((w_4l2 + 0) ≤ (o_25 41) → (vp_in (w_4l1 + 1) 8 ∧ (ih (w_4l2 + 0) (w_4l1 + 1) o_25 o_26 (upd (upd w_4m2 (w_4l1 : Int32).toNatClampNeg ((w_4m2 (w_4l1 : Int32).toNatClampNeg) + 1)) ((w_4l1 + 1) : Int32).toNatClampNeg (-1)) w_4m3))) ∧ (¬ (w_4l2 + 0) ≤ (o_25 41) → (S_m_findOrder_253 w_4l1 (fun (w_37l5 : Int32) (w_37m0 : (Nat → Int32)) (w_37m1 : (Nat → Int32)) (w_37m2 : (Nat → Int32)) (w_37m3 : (Nat → Int32)) => (vp_in (w_4l1 + 1) 8 ∧ (ih (w_4l2 + 0) (w_4l1 + 1) w_37m0 w_37m1 (upd w_37m2 ((w_4l1 + 1) : Int32).toNatClampNeg (-1)) w_37m3))) 10 0 (upd (upd o_25 41 (w_4l2 + 0)) 40 (w_4l1 + 1)) o_26 (upd w_4m2 (w_4l1 : Int32).toNatClampNeg ((w_4m2 (w_4l1 : Int32).toNatClampNeg) + 1)) w_4m3)))))))) ∧ (¬ (o_26 ((((42 + (42 * w_4l1)) + 42) + 18) : Int32).toNatClampNeg) = (o_26 (18 : Int32).toNatClampNeg) → (ih w_4l2 w_4l1 o_25 o_26 (upd w_4m2 (w_4l1 : Int32).toNatClampNeg ((w_4m2 (w_4l1 : Int32).toNatClampNeg) + 1)) w_4m3))))))))))))) ∧ (¬ (w_4m1 ((((42 + (42 * w_4l1)) + 20) + ((upd w_4m2 (w_4l1 : Int32).toNatClampNeg ((w_4m2 (w_4l1 : Int32).toNatClampNeg) + 1)) (w_4l1 : Int32).toNatClampNeg)) : Int32).toNatClampNeg) = 0 → (ih w_4l2 w_4l1 w_4m0 w_4m1 (upd w_4m2 (w_4l1 : Int32).toNatClampNeg ((w_4m2 (w_4l1 : Int32).toNatClampNeg) + 1)) w_4m3))))))))))))))) n
theorem S_m_findOrder_28_s (f10 : Nat → Int32) (f8 : Nat → Int32) (f11 : Nat → Int32) (f12 : Nat → Int32) (K : Int32 → Int32 → (Nat → Int32) → (Nat → Int32) → (Nat → Int32) → (Nat → Int32) → Prop) (n : Nat) (w_4l2 : Int32) (w_4l1 : Int32) (w_4m0 : (Nat → Int32)) (w_4m1 : (Nat → Int32)) (w_4m2 : (Nat → Int32)) (w_4m3 : (Nat → Int32)) : S_m_findOrder_28 f10 f8 f11 f12 K (n + 1) w_4l2 w_4l1 w_4m0 w_4m1 w_4m2 w_4m3 = (((w_4l1 < 0 → (K w_4l2 w_4l1 w_4m0 w_4m1 w_4m2 w_4m3)) ∧ (¬ w_4l1 < 0 → (vp_in w_4l1 8 ∧ (vp_in w_4l1 8 ∧ (vp_in w_4l1 8 ∧ ((((upd w_4m2 (w_4l1 : Int32).toNatClampNeg ((w_4m2 (w_4l1 : Int32).toNatClampNeg) + 1)) (w_4l1 : Int32).toNatClampNeg) = (w_4m0 6) → (((w_4l1 + (-1)) < 0 → (S_m_findOrder_28 f10 f8 f11 f12 K n (w_4l2 - 0) (w_4l1 + (-1)) w_4m0 w_4m1 (upd w_4m2 (w_4l1 : Int32).toNatClampNeg ((w_4m2 (w_4l1 : Int32).toNatClampNeg) + 1)) w_4m3)) ∧ (¬ (w_4l1 + (-1)) < 0 → (vp_in (w_4l1 + (-1)) 8 ∧ (vp_in (((42 + (42 * ((w_4l1 + (-1)) + 1))) + 20) + ((upd w_4m2 (w_4l1 : Int32).toNatClampNeg ((w_4m2 (w_4l1 : Int32).toNatClampNeg) + 1)) ((w_4l1 + (-1)) : Int32).toNatClampNeg)) 1302 ∧ (((w_4m1 ((((42 + (42 * ((w_4l1 + (-1)) + 1))) + 20) + ((upd w_4m2 (w_4l1 : Int32).toNatClampNeg ((w_4m2 (w_4l1 : Int32).toNatClampNeg) + 1)) ((w_4l1 + (-1)) : Int32).toNatClampNeg)) : Int32).toNatClampNeg) = 1 → (S_m_findOrder_28 f10 f8 f11 f12 K n (w_4l2 - 1) (w_4l1 + (-1)) w_4m0 w_4m1 (upd w_4m2 (w_4l1 : Int32).toNatClampNeg ((w_4m2 (w_4l1 : Int32).toNatClampNeg) + 1)) w_4m3)) ∧ (¬ (w_4m1 ((((42 + (42 * ((w_4l1 + (-1)) + 1))) + 20) + ((upd w_4m2 (w_4l1 : Int32).toNatClampNeg ((w_4m2 (w_4l1 : Int32).toNatClampNeg) + 1)) ((w_4l1 + (-1)) : Int32).toNatClampNeg)) : Int32).toNatClampNeg) = 1 → (S_m_findOrder_28 f10 f8 f11 f12 K n (w_4l2 - 0) (w_4l1 + (-1)) w_4m0 w_4m1 (upd w_4m2 (w_4l1 : Int32).toNatClampNeg ((w_4m2 (w_4l1 : Int32).toNatClampNeg) + 1)) w_4m3)))))))) ∧ (¬ ((upd w_4m2 (w_4l1 : Int32).toNatClampNeg ((w_4m2 (w_4l1 : Int32).toNatClampNeg) + 1)) (w_4l1 : Int32).toNatClampNeg) = (w_4m0 6) → ((w_4l1 = 7 → (((w_4l1 + (-1)) < 0 → (S_m_findOrder_28 f10 f8 f11 f12 K n (w_4l2 - 0) (w_4l1 + (-1)) w_4m0 w_4m1 (upd w_4m2 (w_4l1 : Int32).toNatClampNeg ((w_4m2 (w_4l1 : Int32).toNatClampNeg) + 1)) w_4m3)) ∧ (¬ (w_4l1 + (-1)) < 0 → (vp_in (w_4l1 + (-1)) 8 ∧ (vp_in (((42 + (42 * ((w_4l1 + (-1)) + 1))) + 20) + ((upd w_4m2 (w_4l1 : Int32).toNatClampNeg ((w_4m2 (w_4l1 : Int32).toNatClampNeg) + 1)) ((w_4l1 + (-1)) : Int32).toNatClampNeg)) 1302 ∧ (((w_4m1 ((((42 + (42 * ((w_4l1 + (-1)) + 1))) + 20) + ((upd w_4m2 (w_4l1 : Int32).toNatClampNeg ((w_4m2 (w_4l1 : Int32).toNatClampNeg) + 1)) ((w_4l1 + (-1)) : Int32).toNatClampNeg)) : Int32).toNatClampNeg) = 1 → (S_m_findOrder_28 f10 f8 f11 f12 K n (w_4l2 - 1) (w_4l1 + (-1)) w_4m0 w_4m1 (upd w_4m2 (w_4l1 : Int32).toNatClampNeg ((w_4m2 (w_4l1 : Int32).toNatClampNeg) + 1)) w_4m3)) ∧ (¬ (w_4m1 ((((42 + (42 * ((w_4l1 + (-1)) + 1))) + 20) + ((upd w_4m2 (w_4l1 : Int32).toNatClampNeg ((w_4m2 (w_4l1 : Int32).toNatClampNeg) + 1)) ((w_4l1 + (-1)) : Int32).toNatClampNeg)) : Int32).toNatClampNeg) = 1 → (S_m_findOrder_28 f10 f8 f11 f12 K n (w_4l2 - 0) (w_4l1 + (-1)) w_4m0 w_4m1 (upd w_4m2 (w_4l1 : Int32).toNatClampNeg ((w_4m2 (w_4l1 : Int32).toNatClampNeg) + 1)) w_4m3)))))))) ∧ (¬ w_4l1 = 7 → (vp_in w_4l1 8 ∧ (vp_in (((42 + (42 * w_4l1)) + 20) + ((upd w_4m2 (w_4l1 : Int32).toNatClampNeg ((w_4m2 (w_4l1 : Int32).toNatClampNeg) + 1)) (w_4l1 : Int32).toNatClampNeg)) 1302 ∧ (((w_4m1 ((((42 + (42 * w_4l1)) + 20) + ((upd w_4m2 (w_4l1 : Int32).toNatClampNeg ((w_4m2 (w_4l1 : Int32).toNatClampNeg) + 1)) (w_4l1 : Int32).toNatClampNeg)) : Int32).toNatClampNeg) = 0 → ((S_m_copy w_4m1 (42 + (42 * w_4l1)) ((42 + (42 * w_4l1)) + 42)) ∧ (vp_in w_4l1 8 ∧ ((S_m_passes w_4m0 (f_m_copy w_4m1 (42 + (42 * w_4l1)) ((42 + (42 * w_4l1)) + 42)) f10 f8 f11 f12 ((42 + (42 * w_4l1)) + 42) ((upd w_4m2 (w_4l1 : Int32).toNatClampNeg ((w_4m2 (w_4l1 : Int32).toNatClampNeg) + 1)) (w_4l1 : Int32).toNatClampNeg)) ∧ (∀ (o_25 : (Nat → Int32)) (o_26 : (Nat → Int32)), (o_25, o_26) = (f_m_passes w_4m0 (f_m_copy w_4m1 (42 + (42 * w_4l1)) ((42 + (42 * w_4l1)) + 42)) f10 f8 f11 f12 ((42 + (42 * w_4l1)) + 42) ((upd w_4m2 (w_4l1 : Int32).toNatClampNeg ((w_4m2 (w_4l1 : Int32).toNatClampNeg) + 1)) (w_4l1 : Int32).toNatClampNeg)) → (vp_in w_4l1 8 ∧ (vp_in ((((42 + (42 * w_4l1)) + 42) + 20) + ((upd w_4m2 (w_4l1 : Int32).toNatClampNeg ((w_4m2 (w_4l1 : Int32).toNatClampNeg) + 1)) (w_4l1 : Int32).toNatClampNeg)) 1302 ∧ (((o_26 (((((42 + (42 * w_4l1)) + 42) + 20) + ((upd w_4m2 (w_4l1 : Int32).toNatClampNeg ((w_4m2 (w_4l1 : Int32).toNatClampNeg) + 1)) (w_4l1 : Int32).toNatClampNeg)) : Int32).toNatClampNeg) = 3 → (S_m_findOrder_28 f10 f8 f11 f12 K n w_4l2 w_4l1 o_25 o_26 (upd w_4m2 (w_4l1 : Int32).toNatClampNeg ((w_4m2 (w_4l1 : Int32).toNatClampNeg) + 1)) w_4m3)) ∧ (¬ (o_26 (((((42 + (42 * w_4l1)) + 42) + 20) + ((upd w_4m2 (w_4l1 : Int32).toNatClampNeg ((w_4m2 (w_4l1 : Int32).toNatClampNeg) + 1)) (w_4l1 : Int32).toNatClampNeg)) : Int32).toNatClampNeg) = 3 → (vp_in (((42 + (42 * w_4l1)) + 42) + 18) 1302 ∧ (((o_26 ((((42 + (42 * w_4l1)) + 42) + 18) : Int32).toNatClampNeg) = (o_26 (18 : Int32).toNatClampNeg) → (vp_in w_4l1 8 ∧ (vp_in ((((42 + (42 * w_4l1)) + 42) + 20) + ((upd w_4m2 (w_4l1 : Int32).toNatClampNeg ((w_4m2 (w_4l1 : Int32).toNatClampNeg) + 1)) (w_4l1 : Int32).toNatClampNeg)) 1302 ∧ (((o_26 (((((42 + (42 * w_4l1)) + 42) + 20) + ((upd w_4m2 (w_4l1 : Int32).toNatClampNeg ((w_4m2 (w_4l1 : Int32).toNatClampNeg) + 1)) (w_4l1 : Int32).toNatClampNeg)) : Int32).toNatClampNeg) = 1 → (((w_4l2 + 1) ≤ (o_25 41) → (vp_in (w_4l1 + 1) 8 ∧ (S_m_findOrder_28 f10 f8 f11 f12 K n (w_4l2 + 1) (w_4l1 + 1) o_25 o_26 (upd (upd w_4m2 (w_4l1 : Int32).toNatClampNeg ((w_4m2 (w_4l1 : Int32).toNatClampNeg) + 1)) ((w_4l1 + 1) : Int32).toNatClampNeg (-1)) w_4m3))) ∧ (¬ (w_4l2 + 1) ≤ (o_25 41) → (S_m_findOrder_253 w_4l1 (fun (w_44l5 : Int32) (w_44m0 : (Nat → Int32)) (w_44m1 : (Nat → Int32)) (w_44m2 : (Nat → Int32)) (w_44m3 : (Nat → Int32)) => (vp_in (w_4l1 + 1) 8 ∧ (S_m_findOrder_28 f10 f8 f11 f12 K n (w_4l2 + 1) (w_4l1 + 1) w_44m0 w_44m1 (upd w_44m2 ((w_4l1 + 1) : Int32).toNatClampNeg (-1)) w_44m3))) 10 0 (upd (upd o_25 41 (w_4l2 + 1)) 40 (w_4l1 + 1)) o_26 (upd w_4m2 (w_4l1 : Int32).toNatClampNeg ((w_4m2 (w_4l1 : Int32).toNatClampNeg) + 1)) w_4m3)))) ∧ (¬ (o_26 (((((42 + (42 * w_4l1)) + 42) + 20) + ((upd w_4m2 (w_4l1 : Int32).toNatClampNeg ((w_4m2 (w_4l1 : Int32).toNatClampNeg) + 1)) (w_4l1 : Int32).toNatClampNeg)) : Int32).toNatClampNeg) = 1 → (((w_4l2 + 0) ≤ (o_25 41) → (vp_in (w_4l1 + 1) 8 ∧ (S_m_findOrder_28 f10 f8 f11 f12 K n (w_4l2 + 0) (w_4l1 + 1) o_25 o_26 (upd (upd w_4m2 (w_4l1 : Int32).toNatClampNeg ((w_4m2 (w_4l1 : Int32).toNatClampNeg) + 1)) ((w_4l1 + 1) : Int32).toNatClampNeg (-1)) w_4m3))) ∧ (¬ (w_4l2 + 0) ≤ (o_25 41) → (S_m_findOrder_253 w_4l1 (fun (w_37l5 : Int32) (w_37m0 : (Nat → Int32)) (w_37m1 : (Nat → Int32)) (w_37m2 : (Nat → Int32)) (w_37m3 : (Nat → Int32)) => (vp_in (w_4l1 + 1) 8 ∧ (S_m_findOrder_28 f10 f8 f11 f12 K n (w_4l2 + 0) (w_4l1 + 1) w_37m0 w_37m1 (upd w_37m2 ((w_4l1 + 1) : Int32).toNatClampNeg (-1)) w_37m3))) 10 0 (upd (upd o_25 41 (w_4l2 + 0)) 40 (w_4l1 + 1)) o_26 (upd w_4m2 (w_4l1 : Int32).toNatClampNeg ((w_4m2 (w_4l1 : Int32).toNatClampNeg) + 1)) w_4m3)))))))) ∧ (¬ (o_26 ((((42 + (42 * w_4l1)) + 42) + 18) : Int32).toNatClampNeg) = (o_26 (18 : Int32).toNatClampNeg) → (S_m_findOrder_28 f10 f8 f11 f12 K n w_4l2 w_4l1 o_25 o_26 (upd w_4m2 (w_4l1 : Int32).toNatClampNeg ((w_4m2 (w_4l1 : Int32).toNatClampNeg) + 1)) w_4m3))))))))))))) ∧ (¬ (w_4m1 ((((42 + (42 * w_4l1)) + 20) + ((upd w_4m2 (w_4l1 : Int32).toNatClampNeg ((w_4m2 (w_4l1 : Int32).toNatClampNeg) + 1)) (w_4l1 : Int32).toNatClampNeg)) : Int32).toNatClampNeg) = 0 → (S_m_findOrder_28 f10 f8 f11 f12 K n w_4l2 w_4l1 w_4m0 w_4m1 (upd w_4m2 (w_4l1 : Int32).toNatClampNeg ((w_4m2 (w_4l1 : Int32).toNatClampNeg) + 1)) w_4m3))))))))))))))) := rfl
noncomputable def f_m_findOrder (G : Nat → Int32) (f0 : Nat → Int32) (f10 : Nat → Int32) (f8 : Nat → Int32) (f11 : Nat → Int32) (f12 : Nat → Int32) (f38 : Nat → Int32) (f39 : Nat → Int32) : (Nat → Int32) × (Nat → Int32) × (Nat → Int32) × (Nat → Int32) := (match ((f_m_findOrder_28 f10 f8 f11 f12 1000000000000 0 0 (upd (upd G 40 0) 41 0) (f_m_copy f0 0 42) (upd f38 (0 : Int32).toNatClampNeg (-1)) f39) : Int32 × Int32 × (Nat → Int32) × (Nat → Int32) × (Nat → Int32) × (Nat → Int32)) with | (w_4l2, w_4l1, w_4m0, w_4m1, w_4m2, w_4m3) => (w_4m0, w_4m1, w_4m2, w_4m3))
def S_m_findOrder (G : Nat → Int32) (f0 : Nat → Int32) (f10 : Nat → Int32) (f8 : Nat → Int32) (f11 : Nat → Int32) (f12 : Nat → Int32) (f38 : Nat → Int32) (f39 : Nat → Int32) : Prop := ((S_m_copy f0 0 42) ∧ (S_m_findOrder_28 f10 f8 f11 f12 (fun (w_4l2 : Int32) (w_4l1 : Int32) (w_4m0 : (Nat → Int32)) (w_4m1 : (Nat → Int32)) (w_4m2 : (Nat → Int32)) (w_4m3 : (Nat → Int32)) => True) 1000000000000 0 0 (upd (upd G 40 0) 41 0) (f_m_copy f0 0 42) (upd f38 (0 : Int32).toNatClampNeg (-1)) f39))
def rm_m_findOrder : Room := { frames := 3, cells := 0, slots := 0, locals := 75 }
set_option maxHeartbeats 4000000 in
set_option maxRecDepth 100000 in
theorem m_findOrder {l : Launch} {D : va_G} {cI cZ : ClassId} {sz : Nat} (Rf : Nat → Nat) (h : Nat) (G : Nat → Int32) (f0 : Nat → Int32) (f10 : Nat → Int32) (f8 : Nat → Int32) (f11 : Nat → Int32) (f12 : Nat → Int32) (f38 : Nat → Int32) (f39 : Nat → Int32) (hF : S_m_findOrder G f0 f10 f8 f11 f12 f38 f39) : KV l yX10_findOrder cX10_findOrder 6 rm_m_findOrder D cI cZ [.ref h] sz [(h, .inr (10, ML G Rf)), ((Rf 0), .inl (cI, 1302, .inl f0)), ((Rf 10), .inl (cI, 30, .inl f10)), ((Rf 8), .inl (cI, 6, .inl f8)), ((Rf 11), .inl (cI, 7, .inl f11)), ((Rf 12), .inl (cI, 7, .inl f12)), ((Rf 38), .inl (cI, 8, .inl f38)), ((Rf 39), .inl (cI, 7, .inl f39))] (fun (u : (Nat → Int32) × (Nat → Int32) × (Nat → Int32) × (Nat → Int32)) => u = f_m_findOrder G f0 f10 f8 f11 f12 f38 f39) (fun (u : (Nat → Int32) × (Nat → Int32) × (Nat → Int32) × (Nat → Int32)) => [(h, .inr (10, ML u.1 Rf)), ((Rf 0), .inl (cI, 1302, .inl u.2.1)), ((Rf 10), .inl (cI, 30, .inl f10)), ((Rf 8), .inl (cI, 6, .inl f8)), ((Rf 11), .inl (cI, 7, .inl f11)), ((Rf 12), .inl (cI, 7, .inl f12)), ((Rf 38), .inl (cI, 8, .inl u.2.2.1)), ((Rf 39), .inl (cI, 7, .inl u.2.2.2))]) := by
  refine KV.go rfl (Nat.le_of_ble_eq_true rfl) ?_
  intro p e s m args below meth c ls A Q hx hb hml hts hown hin hP hK hD hS hA hN hl hret
  have hl : lv_has ls 6 [(0, .ref h)] := hl
  rw [S_m_findOrder] at hF
  obtain ⟨RES, hE⟩ : ∃ xRES, f_m_findOrder G f0 f10 f8 f11 f12 f38 f39 = xRES := ⟨_, rfl⟩
  rw [hE] at hret
  rw [f_m_findOrder] at hE
  refine lv_aload_n hx hb dX10_findOrder_0 rfl (lv_at hl 0 rfl) ?_
  refine lv_iconst (v := 0) hx hb dX10_findOrder_1 rfl ?_
  refine lv_bipush (v := 42) hx hb dX10_findOrder_2 rfl ?_
  obtain ⟨hs_1, hF⟩ := hF
  refine cVv (wr := [((Rf 10), .inl (cI, 30, .inl f10)), ((Rf 8), .inl (cI, 6, .inl f8)), ((Rf 11), .inl (cI, 7, .inl f11)), ((Rf 12), .inl (cI, 7, .inl f12)), ((Rf 38), .inl (cI, 8, .inl f38)), ((Rf 39), .inl (cI, 7, .inl f39))]) (rest := []) (m_copy Rf h G f0 0 42 hs_1) okV_X10_copy wd_557 hx hb hml hown hts hK hP hD hS hA hN hl.1 [0, 1] [2, 3, 4, 5, 6, 7] rfl rfl rfl rfl (of_decide_eq_true rfl) rfl rfl rfl (Nat.le_of_ble_eq_true rfl) (Nat.le_of_ble_eq_true rfl) (Nat.le_of_ble_eq_true rfl) (Nat.le_of_ble_eq_true rfl) (Nat.le_of_ble_eq_true rfl) dX10_findOrder_4 (fun u_2 H locs hw_u_2 hP hD hS => ?_)
  replace hw_u_2 : u_2 = (f_m_copy f0 0 42) := hw_u_2
  subst hw_u_2
  have hP : va_P D classes [((Rf 10), .inl (cI, 30, .inl f10)), ((Rf 8), .inl (cI, 6, .inl f8)), ((Rf 11), .inl (cI, 7, .inl f11)), ((Rf 12), .inl (cI, 7, .inl f12)), ((Rf 38), .inl (cI, 8, .inl f38)), ((Rf 39), .inl (cI, 7, .inl f39)), (h, .inr (10, ML G Rf)), ((Rf 0), .inl (cI, 1302, .inl (f_m_copy f0 0 42)))] H := hP
  have hD : va_D A [((Rf 10), .inl (cI, 30, .inl f10)), ((Rf 8), .inl (cI, 6, .inl f8)), ((Rf 11), .inl (cI, 7, .inl f11)), ((Rf 12), .inl (cI, 7, .inl f12)), ((Rf 38), .inl (cI, 8, .inl f38)), ((Rf 39), .inl (cI, 7, .inl f39)), (h, .inr (10, ML G Rf)), ((Rf 0), .inl (cI, 1302, .inl (f_m_copy f0 0 42)))] := hD
  refine lv_aload_n hx hb dX10_findOrder_7 rfl (lv_at hl 0 rfl) ?_
  refine lv_iconst (v := 0) hx hb dX10_findOrder_8 rfl ?_
  refine va_put (D := D) (ci := 10) (v := .int 0) (ty := .int) (C := RX10) (T := TX10) (N := 45) hx hb hts iX10 tyX10 tyX10_ok nmX10 hown hK hP hD hS 6 rfl rfl 40 (Nat.le_of_ble_eq_true rfl) (hts _ wd_673) (fun _ h9 => h9) rfl (by decide +kernel) rfl rfl (Nat.le_of_ble_eq_true rfl) dX10_findOrder_9 (fun H locs hP hD hS => ?_)
  have hP : va_P D classes [((Rf 10), .inl (cI, 30, .inl f10)), ((Rf 8), .inl (cI, 6, .inl f8)), ((Rf 11), .inl (cI, 7, .inl f11)), ((Rf 12), .inl (cI, 7, .inl f12)), ((Rf 38), .inl (cI, 8, .inl f38)), ((Rf 39), .inl (cI, 7, .inl f39)), (h, .inr (10, ML (upd G 40 0) Rf)), ((Rf 0), .inl (cI, 1302, .inl (f_m_copy f0 0 42)))] H := hP
  have hD : va_D A [((Rf 10), .inl (cI, 30, .inl f10)), ((Rf 8), .inl (cI, 6, .inl f8)), ((Rf 11), .inl (cI, 7, .inl f11)), ((Rf 12), .inl (cI, 7, .inl f12)), ((Rf 38), .inl (cI, 8, .inl f38)), ((Rf 39), .inl (cI, 7, .inl f39)), (h, .inr (10, ML (upd G 40 0) Rf)), ((Rf 0), .inl (cI, 1302, .inl (f_m_copy f0 0 42)))] := hD
  refine lv_aload_n hx hb dX10_findOrder_12 rfl (lv_at hl 0 rfl) ?_
  refine lv_iconst (v := 0) hx hb dX10_findOrder_13 rfl ?_
  refine va_put (D := D) (ci := 10) (v := .int 0) (ty := .int) (C := RX10) (T := TX10) (N := 45) hx hb hts iX10 tyX10 tyX10_ok nmX10 hown hK hP hD hS 6 rfl rfl 41 (Nat.le_of_ble_eq_true rfl) (hts _ wd_674) (fun _ h9 => h9) rfl (by decide +kernel) rfl rfl (Nat.le_of_ble_eq_true rfl) dX10_findOrder_14 (fun H locs hP hD hS => ?_)
  have hP : va_P D classes [((Rf 10), .inl (cI, 30, .inl f10)), ((Rf 8), .inl (cI, 6, .inl f8)), ((Rf 11), .inl (cI, 7, .inl f11)), ((Rf 12), .inl (cI, 7, .inl f12)), ((Rf 38), .inl (cI, 8, .inl f38)), ((Rf 39), .inl (cI, 7, .inl f39)), (h, .inr (10, ML (upd (upd G 40 0) 41 0) Rf)), ((Rf 0), .inl (cI, 1302, .inl (f_m_copy f0 0 42)))] H := hP
  have hD : va_D A [((Rf 10), .inl (cI, 30, .inl f10)), ((Rf 8), .inl (cI, 6, .inl f8)), ((Rf 11), .inl (cI, 7, .inl f11)), ((Rf 12), .inl (cI, 7, .inl f12)), ((Rf 38), .inl (cI, 8, .inl f38)), ((Rf 39), .inl (cI, 7, .inl f39)), (h, .inr (10, ML (upd (upd G 40 0) 41 0) Rf)), ((Rf 0), .inl (cI, 1302, .inl (f_m_copy f0 0 42)))] := hD
  refine lv_iconst (v := 0) hx hb dX10_findOrder_17 rfl ?_
  refine lv_istore_n (lv' := [(1, .int 0), (0, .ref h)]) hx hb dX10_findOrder_18 rfl hl (Nat.le_of_ble_eq_true rfl) rfl (fun ls hl => ?_)
  refine lv_iconst (v := 0) hx hb dX10_findOrder_19 rfl ?_
  refine lv_istore_n (lv' := [(2, .int 0), (1, .int 0), (0, .ref h)]) hx hb dX10_findOrder_20 rfl hl (Nat.le_of_ble_eq_true rfl) rfl (fun ls hl => ?_)
  refine lv_aload_n hx hb dX10_findOrder_21 rfl (lv_at hl 2 rfl) ?_
  refine va_get (D := D) (ci := 10) (v := .ref (Rf 38)) (C := RX10) (T := TX10) (N := 45) hx hb hts iX10 hown hK hP 6 rfl rfl 38 (Nat.le_of_ble_eq_true rfl) (hts _ wd_675) (fun _ h9 => h9) rfl dX10_findOrder_22 ?_
  refine lv_iconst (v := 0) hx hb dX10_findOrder_25 rfl ?_
  refine lv_iconst (v := (-1)) hx hb dX10_findOrder_26 rfl ?_
  refine va_iast hx hb hK hP hD hS 4 0 rfl rfl (show ¬ ((0 : Int32) < 0 ∨ 8 ≤ (0 : Int32).toNatClampNeg) by decide +kernel) dX10_findOrder_27 (fun H locs hP hD hS => ?_)
  have hP : va_P D classes [((Rf 10), .inl (cI, 30, .inl f10)), ((Rf 8), .inl (cI, 6, .inl f8)), ((Rf 11), .inl (cI, 7, .inl f11)), ((Rf 12), .inl (cI, 7, .inl f12)), ((Rf 38), .inl (cI, 8, .inl (upd f38 (0 : Int32).toNatClampNeg (-1)))), ((Rf 39), .inl (cI, 7, .inl f39)), (h, .inr (10, ML (upd (upd G 40 0) 41 0) Rf)), ((Rf 0), .inl (cI, 1302, .inl (f_m_copy f0 0 42)))] H := hP
  have hD : va_D A [((Rf 10), .inl (cI, 30, .inl f10)), ((Rf 8), .inl (cI, 6, .inl f8)), ((Rf 11), .inl (cI, 7, .inl f11)), ((Rf 12), .inl (cI, 7, .inl f12)), ((Rf 38), .inl (cI, 8, .inl (upd f38 (0 : Int32).toNatClampNeg (-1)))), ((Rf 39), .inl (cI, 7, .inl f39)), (h, .inr (10, ML (upd (upd G 40 0) 41 0) Rf)), ((Rf 0), .inl (cI, 1302, .inl (f_m_copy f0 0 42)))] := hD
  have ex_28_w_4 : ∀ (w_4l2 : Int32) (w_4l1 : Int32) (w_4m0 : (Nat → Int32)) (w_4m1 : (Nat → Int32)) (w_4m2 : (Nat → Int32)) (w_4m3 : (Nat → Int32)) (H : Heap) (locs : List Loc) (ls : Array Slot), va_P D classes [((Rf 10), .inl (cI, 30, .inl f10)), ((Rf 8), .inl (cI, 6, .inl f8)), ((Rf 11), .inl (cI, 7, .inl f11)), ((Rf 12), .inl (cI, 7, .inl f12)), ((Rf 38), .inl (cI, 8, .inl w_4m2)), ((Rf 39), .inl (cI, 7, .inl w_4m3)), (h, .inr (10, ML w_4m0 Rf)), ((Rf 0), .inl (cI, 1302, .inl w_4m1))] H → va_D A [((Rf 10), .inl (cI, 30, .inl f10)), ((Rf 8), .inl (cI, 6, .inl f8)), ((Rf 11), .inl (cI, 7, .inl f11)), ((Rf 12), .inl (cI, 7, .inl f12)), ((Rf 38), .inl (cI, 8, .inl w_4m2)), ((Rf 39), .inl (cI, 7, .inl w_4m3)), (h, .inr (10, ML w_4m0 Rf)), ((Rf 0), .inl (cI, 1302, .inl w_4m1))] → va_S A s.heap H locs → lv_has ls 6 [(2, .int w_4l2), (1, .int w_4l1), (0, .ref h)] → (True) → (((w_4m0, w_4m1, w_4m2, w_4m3)) : (Nat → Int32) × (Nat → Int32) × (Nat → Int32) × (Nat → Int32)) = RES → W p l e rm_m_findOrder s m args below meth c H locs 0 0 Q (F0 m 289 ls []) := by
    intro w_4l2 w_4l1 w_4m0 w_4m1 w_4m2 w_4m3 H locs ls hP hD hS hl hF hE
    exact hret (w_4m0, w_4m1, w_4m2, w_4m3) _ _ _ _ dX10_findOrder_289 hE (cutP (isC := [6, 7, 0, 1, 2, 3, 4, 5]) hP rfl) (cutD (isC := [6, 7, 0, 1, 2, 3, 4, 5]) hD rfl rfl) hS
  have lp_28_w_4 : ∀ (n_w_4 : Nat) (w_4l2 : Int32) (w_4l1 : Int32) (w_4m0 : (Nat → Int32)) (w_4m1 : (Nat → Int32)) (w_4m2 : (Nat → Int32)) (w_4m3 : (Nat → Int32)) (H : Heap) (locs : List Loc) (ls : Array Slot), va_P D classes [((Rf 10), .inl (cI, 30, .inl f10)), ((Rf 8), .inl (cI, 6, .inl f8)), ((Rf 11), .inl (cI, 7, .inl f11)), ((Rf 12), .inl (cI, 7, .inl f12)), ((Rf 38), .inl (cI, 8, .inl w_4m2)), ((Rf 39), .inl (cI, 7, .inl w_4m3)), (h, .inr (10, ML w_4m0 Rf)), ((Rf 0), .inl (cI, 1302, .inl w_4m1))] H → va_D A [((Rf 10), .inl (cI, 30, .inl f10)), ((Rf 8), .inl (cI, 6, .inl f8)), ((Rf 11), .inl (cI, 7, .inl f11)), ((Rf 12), .inl (cI, 7, .inl f12)), ((Rf 38), .inl (cI, 8, .inl w_4m2)), ((Rf 39), .inl (cI, 7, .inl w_4m3)), (h, .inr (10, ML w_4m0 Rf)), ((Rf 0), .inl (cI, 1302, .inl w_4m1))] → va_S A s.heap H locs → lv_has ls 6 [(2, .int w_4l2), (1, .int w_4l1), (0, .ref h)] → (S_m_findOrder_28 f10 f8 f11 f12 (fun (w_4l2 : Int32) (w_4l1 : Int32) (w_4m0 : (Nat → Int32)) (w_4m1 : (Nat → Int32)) (w_4m2 : (Nat → Int32)) (w_4m3 : (Nat → Int32)) => True) n_w_4 w_4l2 w_4l1 w_4m0 w_4m1 w_4m2 w_4m3) → ((match ((f_m_findOrder_28 f10 f8 f11 f12 n_w_4 w_4l2 w_4l1 w_4m0 w_4m1 w_4m2 w_4m3) : Int32 × Int32 × (Nat → Int32) × (Nat → Int32) × (Nat → Int32) × (Nat → Int32)) with | (w_4l2, w_4l1, w_4m0, w_4m1, w_4m2, w_4m3) => (w_4m0, w_4m1, w_4m2, w_4m3)) : (Nat → Int32) × (Nat → Int32) × (Nat → Int32) × (Nat → Int32)) = RES → W p l e rm_m_findOrder s m args below meth c H locs 0 0 Q (F0 m 28 ls []) := by
    intro n_w_4
    induction n_w_4 with
    | zero => intro w_4l2 w_4l1 w_4m0 w_4m1 w_4m2 w_4m3 H locs ls hP hD hS hl hF hE; exact False.elim hF
    | succ n_w_4 ih_w_4 =>
      intro w_4l2 w_4l1 w_4m0 w_4m1 w_4m2 w_4m3 H locs ls hP hD hS hl hF hE
      rw [S_m_findOrder_28_s] at hF
      rw [f_m_findOrder_28_s] at hE
      refine lv_iload_n hx hb dX10_findOrder_28 rfl (lv_at hl 1 rfl) ?_
      refine lv_if_lt (tgt := 289) hx hb dX10_findOrder_29 rfl (fun c_5 => ?_) (fun c_5 => ?_)
      · replace hF := hF.1 c_5
        rw [if_pos c_5] at hE
        exact ex_28_w_4 w_4l2 w_4l1 w_4m0 w_4m1 w_4m2 w_4m3 _ _ ls hP hD hS (lv_sub hl [0, 1, 2] rfl) hF hE
      · replace hF := hF.2 c_5
        rw [if_neg c_5] at hE
        refine lv_bipush (v := 42) hx hb dX10_findOrder_32 rfl ?_
        refine lv_bipush (v := 42) hx hb dX10_findOrder_34 rfl ?_
        refine lv_iload_n hx hb dX10_findOrder_36 rfl (lv_at hl 1 rfl) ?_
        refine lv_imul hx hb dX10_findOrder_37 ?_
        refine lv_iadd hx hb dX10_findOrder_38 ?_
        refine lv_istore_n (lv' := [(3, .int (42 + (42 * w_4l1))), (2, .int w_4l2), (1, .int w_4l1), (0, .ref h)]) hx hb dX10_findOrder_39 rfl hl (Nat.le_of_ble_eq_true rfl) rfl (fun ls hl => ?_)
        refine lv_aload_n hx hb dX10_findOrder_40 rfl (lv_at hl 3 rfl) ?_
        refine va_get (D := D) (ci := 10) (v := .ref (Rf 38)) (C := RX10) (T := TX10) (N := 45) hx hb hts iX10 hown hK hP 6 rfl rfl 38 (Nat.le_of_ble_eq_true rfl) (hts _ wd_675) (fun _ h9 => h9) rfl dX10_findOrder_41 ?_
        refine lv_iload_n hx hb dX10_findOrder_44 rfl (lv_at hl 2 rfl) ?_
        refine lv_dup2_11 hx hb dX10_findOrder_45 rfl rfl ?_
        obtain ⟨hv_6, hF⟩ := hF
        refine va_iald hx hb hK hP 4 0 rfl rfl hv_6 dX10_findOrder_46 ?_
        refine lv_iconst (v := 1) hx hb dX10_findOrder_47 rfl ?_
        refine lv_iadd hx hb dX10_findOrder_48 ?_
        obtain ⟨hv_7, hF⟩ := hF
        refine va_iast hx hb hK hP hD hS 4 0 rfl rfl hv_7 dX10_findOrder_49 (fun H locs hP hD hS => ?_)
        have hP : va_P D classes [((Rf 10), .inl (cI, 30, .inl f10)), ((Rf 8), .inl (cI, 6, .inl f8)), ((Rf 11), .inl (cI, 7, .inl f11)), ((Rf 12), .inl (cI, 7, .inl f12)), ((Rf 38), .inl (cI, 8, .inl (upd w_4m2 (w_4l1 : Int32).toNatClampNeg ((w_4m2 (w_4l1 : Int32).toNatClampNeg) + 1)))), ((Rf 39), .inl (cI, 7, .inl w_4m3)), (h, .inr (10, ML w_4m0 Rf)), ((Rf 0), .inl (cI, 1302, .inl w_4m1))] H := hP
        have hD : va_D A [((Rf 10), .inl (cI, 30, .inl f10)), ((Rf 8), .inl (cI, 6, .inl f8)), ((Rf 11), .inl (cI, 7, .inl f11)), ((Rf 12), .inl (cI, 7, .inl f12)), ((Rf 38), .inl (cI, 8, .inl (upd w_4m2 (w_4l1 : Int32).toNatClampNeg ((w_4m2 (w_4l1 : Int32).toNatClampNeg) + 1)))), ((Rf 39), .inl (cI, 7, .inl w_4m3)), (h, .inr (10, ML w_4m0 Rf)), ((Rf 0), .inl (cI, 1302, .inl w_4m1))] := hD
        refine lv_aload_n hx hb dX10_findOrder_50 rfl (lv_at hl 3 rfl) ?_
        refine va_get (D := D) (ci := 10) (v := .ref (Rf 38)) (C := RX10) (T := TX10) (N := 45) hx hb hts iX10 hown hK hP 6 rfl rfl 38 (Nat.le_of_ble_eq_true rfl) (hts _ wd_675) (fun _ h9 => h9) rfl dX10_findOrder_51 ?_
        refine lv_iload_n hx hb dX10_findOrder_54 rfl (lv_at hl 2 rfl) ?_
        obtain ⟨hv_8, hF⟩ := hF
        refine va_iald hx hb hK hP 4 0 rfl rfl hv_8 dX10_findOrder_55 ?_
        refine lv_aload_n hx hb dX10_findOrder_56 rfl (lv_at hl 3 rfl) ?_
        refine va_get (D := D) (ci := 10) (v := .int (w_4m0 6)) (C := RX10) (T := TX10) (N := 45) hx hb hts iX10 hown hK hP 6 rfl rfl 6 (Nat.le_of_ble_eq_true rfl) (hts _ wd_501) (fun _ h9 => h9) rfl dX10_findOrder_57 ?_
        refine lv_icmp_eq (tgt := 69) hx hb dX10_findOrder_60 rfl (fun c_9 => ?_) (fun c_9 => ?_)
        · replace hF := hF.1 c_9
          rw [if_pos c_9] at hE
          refine lv_iinc (v := (w_4l1 + (-1))) (lv' := [(1, .int (w_4l1 + (-1))), (3, .int (42 + (42 * w_4l1))), (2, .int w_4l2), (0, .ref h)]) hx hb dX10_findOrder_69 hl (k := 2) rfl rfl (Nat.le_of_ble_eq_true rfl) rfl (fun ls hl => ?_)
          refine lv_iload_n hx hb dX10_findOrder_72 rfl (lv_at hl 2 rfl) ?_
          refine lv_iload_n hx hb dX10_findOrder_73 rfl (lv_at hl 0 rfl) ?_
          refine lv_if_lt (tgt := 109) hx hb dX10_findOrder_74 rfl (fun c_10 => ?_) (fun c_10 => ?_)
          · replace hF := hF.1 c_10
            rw [if_pos c_10] at hE
            refine lv_iconst (v := 0) hx hb dX10_findOrder_109 rfl ?_
            refine lv_isub hx hb dX10_findOrder_110 ?_
            refine lv_istore_n (lv' := [(2, .int (w_4l2 - 0)), (1, .int (w_4l1 + (-1))), (3, .int (42 + (42 * w_4l1))), (0, .ref h)]) hx hb dX10_findOrder_111 rfl hl (Nat.le_of_ble_eq_true rfl) rfl (fun ls hl => ?_)
            refine lv_goto (tgt := 286) hx hb dX10_findOrder_112 rfl ?_
            refine lv_goto (tgt := 28) hx hb dX10_findOrder_286 rfl ?_
            exact ih_w_4 (w_4l2 - 0) (w_4l1 + (-1)) w_4m0 w_4m1 (upd w_4m2 (w_4l1 : Int32).toNatClampNeg ((w_4m2 (w_4l1 : Int32).toNatClampNeg) + 1)) w_4m3 _ _ ls hP hD hS (lv_sub hl [0, 1, 3] rfl) hF hE
          · replace hF := hF.2 c_10
            rw [if_neg c_10] at hE
            refine lv_aload_n hx hb dX10_findOrder_77 rfl (lv_at hl 3 rfl) ?_
            refine va_get (D := D) (ci := 10) (v := .ref (Rf 0)) (C := RX10) (T := TX10) (N := 45) hx hb hts iX10 hown hK hP 6 rfl rfl 0 (Nat.le_of_ble_eq_true rfl) (hts _ wd_491) (fun _ h9 => h9) rfl dX10_findOrder_78 ?_
            refine lv_bipush (v := 42) hx hb dX10_findOrder_81 rfl ?_
            refine lv_bipush (v := 42) hx hb dX10_findOrder_83 rfl ?_
            refine lv_iload_n hx hb dX10_findOrder_85 rfl (lv_at hl 0 rfl) ?_
            refine lv_iconst (v := 1) hx hb dX10_findOrder_86 rfl ?_
            refine lv_iadd hx hb dX10_findOrder_87 ?_
            refine lv_imul hx hb dX10_findOrder_88 ?_
            refine lv_iadd hx hb dX10_findOrder_89 ?_
            refine lv_bipush (v := 20) hx hb dX10_findOrder_90 rfl ?_
            refine lv_iadd hx hb dX10_findOrder_92 ?_
            refine lv_aload_n hx hb dX10_findOrder_93 rfl (lv_at hl 3 rfl) ?_
            refine va_get (D := D) (ci := 10) (v := .ref (Rf 38)) (C := RX10) (T := TX10) (N := 45) hx hb hts iX10 hown hK hP 6 rfl rfl 38 (Nat.le_of_ble_eq_true rfl) (hts _ wd_675) (fun _ h9 => h9) rfl dX10_findOrder_94 ?_
            refine lv_iload_n hx hb dX10_findOrder_97 rfl (lv_at hl 0 rfl) ?_
            obtain ⟨hv_11, hF⟩ := hF
            refine va_iald hx hb hK hP 4 0 rfl rfl hv_11 dX10_findOrder_98 ?_
            refine lv_iadd hx hb dX10_findOrder_99 ?_
            obtain ⟨hv_12, hF⟩ := hF
            refine va_iald hx hb hK hP 7 0 rfl rfl hv_12 dX10_findOrder_100 ?_
            refine lv_iconst (v := 1) hx hb dX10_findOrder_101 rfl ?_
            refine lv_icmp_ne (tgt := 109) hx hb dX10_findOrder_102 rfl (fun c_13 => ?_) (fun c_13 => ?_)
            · replace hF := hF.2 c_13
              rw [if_neg c_13] at hE
              refine lv_iconst (v := 0) hx hb dX10_findOrder_109 rfl ?_
              refine lv_isub hx hb dX10_findOrder_110 ?_
              refine lv_istore_n (lv' := [(2, .int (w_4l2 - 0)), (1, .int (w_4l1 + (-1))), (3, .int (42 + (42 * w_4l1))), (0, .ref h)]) hx hb dX10_findOrder_111 rfl hl (Nat.le_of_ble_eq_true rfl) rfl (fun ls hl => ?_)
              refine lv_goto (tgt := 286) hx hb dX10_findOrder_112 rfl ?_
              refine lv_goto (tgt := 28) hx hb dX10_findOrder_286 rfl ?_
              exact ih_w_4 (w_4l2 - 0) (w_4l1 + (-1)) w_4m0 w_4m1 (upd w_4m2 (w_4l1 : Int32).toNatClampNeg ((w_4m2 (w_4l1 : Int32).toNatClampNeg) + 1)) w_4m3 _ _ ls hP hD hS (lv_sub hl [0, 1, 3] rfl) hF hE
            · replace hF := hF.1 c_13
              rw [if_pos c_13] at hE
              refine lv_iconst (v := 1) hx hb dX10_findOrder_105 rfl ?_
              refine lv_goto (tgt := 110) hx hb dX10_findOrder_106 rfl ?_
              refine lv_isub hx hb dX10_findOrder_110 ?_
              refine lv_istore_n (lv' := [(2, .int (w_4l2 - 1)), (1, .int (w_4l1 + (-1))), (3, .int (42 + (42 * w_4l1))), (0, .ref h)]) hx hb dX10_findOrder_111 rfl hl (Nat.le_of_ble_eq_true rfl) rfl (fun ls hl => ?_)
              refine lv_goto (tgt := 286) hx hb dX10_findOrder_112 rfl ?_
              refine lv_goto (tgt := 28) hx hb dX10_findOrder_286 rfl ?_
              exact ih_w_4 (w_4l2 - 1) (w_4l1 + (-1)) w_4m0 w_4m1 (upd w_4m2 (w_4l1 : Int32).toNatClampNeg ((w_4m2 (w_4l1 : Int32).toNatClampNeg) + 1)) w_4m3 _ _ ls hP hD hS (lv_sub hl [0, 1, 3] rfl) hF hE
        · replace hF := hF.2 c_9
          rw [if_neg c_9] at hE
          refine lv_iload_n hx hb dX10_findOrder_63 rfl (lv_at hl 2 rfl) ?_
          refine lv_bipush (v := 7) hx hb dX10_findOrder_64 rfl ?_
          refine lv_icmp_ne (tgt := 115) hx hb dX10_findOrder_66 rfl (fun c_14 => ?_) (fun c_14 => ?_)
          · replace hF := hF.2 c_14
            rw [if_neg c_14] at hE
            refine lv_aload_n hx hb dX10_findOrder_115 rfl (lv_at hl 3 rfl) ?_
            refine va_get (D := D) (ci := 10) (v := .ref (Rf 0)) (C := RX10) (T := TX10) (N := 45) hx hb hts iX10 hown hK hP 6 rfl rfl 0 (Nat.le_of_ble_eq_true rfl) (hts _ wd_491) (fun _ h9 => h9) rfl dX10_findOrder_116 ?_
            refine lv_iload_n hx hb dX10_findOrder_119 rfl (lv_at hl 0 rfl) ?_
            refine lv_bipush (v := 20) hx hb dX10_findOrder_120 rfl ?_
            refine lv_iadd hx hb dX10_findOrder_122 ?_
            refine lv_aload_n hx hb dX10_findOrder_123 rfl (lv_at hl 3 rfl) ?_
            refine va_get (D := D) (ci := 10) (v := .ref (Rf 38)) (C := RX10) (T := TX10) (N := 45) hx hb hts iX10 hown hK hP 6 rfl rfl 38 (Nat.le_of_ble_eq_true rfl) (hts _ wd_675) (fun _ h9 => h9) rfl dX10_findOrder_124 ?_
            refine lv_iload_n hx hb dX10_findOrder_127 rfl (lv_at hl 2 rfl) ?_
            obtain ⟨hv_15, hF⟩ := hF
            refine va_iald hx hb hK hP 4 0 rfl rfl hv_15 dX10_findOrder_128 ?_
            refine lv_iadd hx hb dX10_findOrder_129 ?_
            obtain ⟨hv_16, hF⟩ := hF
            refine va_iald hx hb hK hP 7 0 rfl rfl hv_16 dX10_findOrder_130 ?_
            refine lv_if_ne (tgt := 286) hx hb dX10_findOrder_131 rfl (fun c_17 => ?_) (fun c_17 => ?_)
            · replace hF := hF.2 c_17
              rw [if_neg c_17] at hE
              refine lv_goto (tgt := 28) hx hb dX10_findOrder_286 rfl ?_
              exact ih_w_4 w_4l2 w_4l1 w_4m0 w_4m1 (upd w_4m2 (w_4l1 : Int32).toNatClampNeg ((w_4m2 (w_4l1 : Int32).toNatClampNeg) + 1)) w_4m3 _ _ ls hP hD hS (lv_sub hl [1, 2, 3] rfl) hF hE
            · replace hF := hF.1 c_17
              rw [if_pos c_17] at hE
              refine lv_iload_n hx hb dX10_findOrder_134 rfl (lv_at hl 0 rfl) ?_
              refine lv_bipush (v := 42) hx hb dX10_findOrder_135 rfl ?_
              refine lv_iadd hx hb dX10_findOrder_137 ?_
              refine lv_istore (lv' := [(4, .int ((42 + (42 * w_4l1)) + 42)), (3, .int (42 + (42 * w_4l1))), (2, .int w_4l2), (1, .int w_4l1), (0, .ref h)]) hx hb dX10_findOrder_138 hl (Nat.le_of_ble_eq_true rfl) rfl (fun ls hl => ?_)
              refine lv_aload_n hx hb dX10_findOrder_140 rfl (lv_at hl 4 rfl) ?_
              refine lv_iload_n hx hb dX10_findOrder_141 rfl (lv_at hl 1 rfl) ?_
              refine lv_iload hx hb dX10_findOrder_142 (lv_at hl 0 rfl) ?_
              obtain ⟨hs_18, hF⟩ := hF
              refine cVv (wr := [((Rf 10), .inl (cI, 30, .inl f10)), ((Rf 8), .inl (cI, 6, .inl f8)), ((Rf 11), .inl (cI, 7, .inl f11)), ((Rf 12), .inl (cI, 7, .inl f12)), ((Rf 38), .inl (cI, 8, .inl (upd w_4m2 (w_4l1 : Int32).toNatClampNeg ((w_4m2 (w_4l1 : Int32).toNatClampNeg) + 1)))), ((Rf 39), .inl (cI, 7, .inl w_4m3))]) (rest := []) (m_copy Rf h w_4m0 w_4m1 (42 + (42 * w_4l1)) ((42 + (42 * w_4l1)) + 42) hs_18) okV_X10_copy wd_557 hx hb hml hown hts hK hP hD hS hA hN hl.1 [6, 7] [0, 1, 2, 3, 4, 5] rfl rfl rfl rfl (of_decide_eq_true rfl) rfl rfl rfl (Nat.le_of_ble_eq_true rfl) (Nat.le_of_ble_eq_true rfl) (Nat.le_of_ble_eq_true rfl) (Nat.le_of_ble_eq_true rfl) (Nat.le_of_ble_eq_true rfl) dX10_findOrder_144 (fun u_19 H locs hw_u_19 hP hD hS => ?_)
              replace hw_u_19 : u_19 = (f_m_copy w_4m1 (42 + (42 * w_4l1)) ((42 + (42 * w_4l1)) + 42)) := hw_u_19
              subst hw_u_19
              have hP : va_P D classes [((Rf 10), .inl (cI, 30, .inl f10)), ((Rf 8), .inl (cI, 6, .inl f8)), ((Rf 11), .inl (cI, 7, .inl f11)), ((Rf 12), .inl (cI, 7, .inl f12)), ((Rf 38), .inl (cI, 8, .inl (upd w_4m2 (w_4l1 : Int32).toNatClampNeg ((w_4m2 (w_4l1 : Int32).toNatClampNeg) + 1)))), ((Rf 39), .inl (cI, 7, .inl w_4m3)), (h, .inr (10, ML w_4m0 Rf)), ((Rf 0), .inl (cI, 1302, .inl (f_m_copy w_4m1 (42 + (42 * w_4l1)) ((42 + (42 * w_4l1)) + 42))))] H := hP
              have hD : va_D A [((Rf 10), .inl (cI, 30, .inl f10)), ((Rf 8), .inl (cI, 6, .inl f8)), ((Rf 11), .inl (cI, 7, .inl f11)), ((Rf 12), .inl (cI, 7, .inl f12)), ((Rf 38), .inl (cI, 8, .inl (upd w_4m2 (w_4l1 : Int32).toNatClampNeg ((w_4m2 (w_4l1 : Int32).toNatClampNeg) + 1)))), ((Rf 39), .inl (cI, 7, .inl w_4m3)), (h, .inr (10, ML w_4m0 Rf)), ((Rf 0), .inl (cI, 1302, .inl (f_m_copy w_4m1 (42 + (42 * w_4l1)) ((42 + (42 * w_4l1)) + 42))))] := hD
              refine lv_aload_n hx hb dX10_findOrder_147 rfl (lv_at hl 4 rfl) ?_
              refine lv_iload hx hb dX10_findOrder_148 (lv_at hl 0 rfl) ?_
              refine lv_aload_n hx hb dX10_findOrder_150 rfl (lv_at hl 4 rfl) ?_
              refine va_get (D := D) (ci := 10) (v := .ref (Rf 38)) (C := RX10) (T := TX10) (N := 45) hx hb hts iX10 hown hK hP 6 rfl rfl 38 (Nat.le_of_ble_eq_true rfl) (hts _ wd_675) (fun _ h9 => h9) rfl dX10_findOrder_151 ?_
              refine lv_iload_n hx hb dX10_findOrder_154 rfl (lv_at hl 3 rfl) ?_
              obtain ⟨hv_21, hF⟩ := hF
              refine va_iald hx hb hK hP 4 0 rfl rfl hv_21 dX10_findOrder_155 ?_
              obtain ⟨hs_22, hF⟩ := hF
              refine cVv (wr := [((Rf 38), .inl (cI, 8, .inl (upd w_4m2 (w_4l1 : Int32).toNatClampNeg ((w_4m2 (w_4l1 : Int32).toNatClampNeg) + 1)))), ((Rf 39), .inl (cI, 7, .inl w_4m3))]) (rest := []) (m_passes Rf h w_4m0 (f_m_copy w_4m1 (42 + (42 * w_4l1)) ((42 + (42 * w_4l1)) + 42)) f10 f8 f11 f12 ((42 + (42 * w_4l1)) + 42) ((upd w_4m2 (w_4l1 : Int32).toNatClampNeg ((w_4m2 (w_4l1 : Int32).toNatClampNeg) + 1)) (w_4l1 : Int32).toNatClampNeg) hs_22) okV_X10_passes wd_668 hx hb hml hown hts hK hP hD hS hA hN hl.1 [6, 7, 0, 1, 2, 3] [4, 5] rfl rfl rfl rfl (of_decide_eq_true rfl) rfl rfl rfl (Nat.le_of_ble_eq_true rfl) (Nat.le_of_ble_eq_true rfl) (Nat.le_of_ble_eq_true rfl) (Nat.le_of_ble_eq_true rfl) (Nat.le_of_ble_eq_true rfl) dX10_findOrder_156 (fun u_23 H locs hw_u_23 hP hD hS => ?_)
              obtain ⟨o_25, o_26⟩ := u_23
              replace hw_u_23 : (o_25, o_26) = (f_m_passes w_4m0 (f_m_copy w_4m1 (42 + (42 * w_4l1)) ((42 + (42 * w_4l1)) + 42)) f10 f8 f11 f12 ((42 + (42 * w_4l1)) + 42) ((upd w_4m2 (w_4l1 : Int32).toNatClampNeg ((w_4m2 (w_4l1 : Int32).toNatClampNeg) + 1)) (w_4l1 : Int32).toNatClampNeg)) := hw_u_23
              replace hF := hF o_25 o_26 hw_u_23
              rw [← hw_u_23] at hE
              replace hE : ((match ((if (o_26 (((((42 + (42 * w_4l1)) + 42) + 20) + ((upd w_4m2 (w_4l1 : Int32).toNatClampNeg ((w_4m2 (w_4l1 : Int32).toNatClampNeg) + 1)) (w_4l1 : Int32).toNatClampNeg)) : Int32).toNatClampNeg) = 3 then (f_m_findOrder_28 f10 f8 f11 f12 n_w_4 w_4l2 w_4l1 o_25 o_26 (upd w_4m2 (w_4l1 : Int32).toNatClampNeg ((w_4m2 (w_4l1 : Int32).toNatClampNeg) + 1)) w_4m3) else (if (o_26 ((((42 + (42 * w_4l1)) + 42) + 18) : Int32).toNatClampNeg) = (o_26 (18 : Int32).toNatClampNeg) then (if (o_26 (((((42 + (42 * w_4l1)) + 42) + 20) + ((upd w_4m2 (w_4l1 : Int32).toNatClampNeg ((w_4m2 (w_4l1 : Int32).toNatClampNeg) + 1)) (w_4l1 : Int32).toNatClampNeg)) : Int32).toNatClampNeg) = 1 then (if (w_4l2 + 1) ≤ (o_25 41) then (f_m_findOrder_28 f10 f8 f11 f12 n_w_4 (w_4l2 + 1) (w_4l1 + 1) o_25 o_26 (upd (upd w_4m2 (w_4l1 : Int32).toNatClampNeg ((w_4m2 (w_4l1 : Int32).toNatClampNeg) + 1)) ((w_4l1 + 1) : Int32).toNatClampNeg (-1)) w_4m3) else (match ((f_m_findOrder_253 w_4l1 10 0 (upd (upd o_25 41 (w_4l2 + 1)) 40 (w_4l1 + 1)) o_26 (upd w_4m2 (w_4l1 : Int32).toNatClampNeg ((w_4m2 (w_4l1 : Int32).toNatClampNeg) + 1)) w_4m3) : Int32 × (Nat → Int32) × (Nat → Int32) × (Nat → Int32) × (Nat → Int32)) with | (w_44l5, w_44m0, w_44m1, w_44m2, w_44m3) => (f_m_findOrder_28 f10 f8 f11 f12 n_w_4 (w_4l2 + 1) (w_4l1 + 1) w_44m0 w_44m1 (upd w_44m2 ((w_4l1 + 1) : Int32).toNatClampNeg (-1)) w_44m3))) else (if (w_4l2 + 0) ≤ (o_25 41) then (f_m_findOrder_28 f10 f8 f11 f12 n_w_4 (w_4l2 + 0) (w_4l1 + 1) o_25 o_26 (upd (upd w_4m2 (w_4l1 : Int32).toNatClampNeg ((w_4m2 (w_4l1 : Int32).toNatClampNeg) + 1)) ((w_4l1 + 1) : Int32).toNatClampNeg (-1)) w_4m3) else (match ((f_m_findOrder_253 w_4l1 10 0 (upd (upd o_25 41 (w_4l2 + 0)) 40 (w_4l1 + 1)) o_26 (upd w_4m2 (w_4l1 : Int32).toNatClampNeg ((w_4m2 (w_4l1 : Int32).toNatClampNeg) + 1)) w_4m3) : Int32 × (Nat → Int32) × (Nat → Int32) × (Nat → Int32) × (Nat → Int32)) with | (w_37l5, w_37m0, w_37m1, w_37m2, w_37m3) => (f_m_findOrder_28 f10 f8 f11 f12 n_w_4 (w_4l2 + 0) (w_4l1 + 1) w_37m0 w_37m1 (upd w_37m2 ((w_4l1 + 1) : Int32).toNatClampNeg (-1)) w_37m3)))) else (f_m_findOrder_28 f10 f8 f11 f12 n_w_4 w_4l2 w_4l1 o_25 o_26 (upd w_4m2 (w_4l1 : Int32).toNatClampNeg ((w_4m2 (w_4l1 : Int32).toNatClampNeg) + 1)) w_4m3))) : Int32 × Int32 × (Nat → Int32) × (Nat → Int32) × (Nat → Int32) × (Nat → Int32)) with | (w_4l2, w_4l1, w_4m0, w_4m1, w_4m2, w_4m3) => (w_4m0, w_4m1, w_4m2, w_4m3)) : (Nat → Int32) × (Nat → Int32) × (Nat → Int32) × (Nat → Int32)) = RES := hE
              have hP : va_P D classes [((Rf 38), .inl (cI, 8, .inl (upd w_4m2 (w_4l1 : Int32).toNatClampNeg ((w_4m2 (w_4l1 : Int32).toNatClampNeg) + 1)))), ((Rf 39), .inl (cI, 7, .inl w_4m3)), (h, .inr (10, ML o_25 Rf)), ((Rf 0), .inl (cI, 1302, .inl o_26)), ((Rf 10), .inl (cI, 30, .inl f10)), ((Rf 8), .inl (cI, 6, .inl f8)), ((Rf 11), .inl (cI, 7, .inl f11)), ((Rf 12), .inl (cI, 7, .inl f12))] H := hP
              have hD : va_D A [((Rf 38), .inl (cI, 8, .inl (upd w_4m2 (w_4l1 : Int32).toNatClampNeg ((w_4m2 (w_4l1 : Int32).toNatClampNeg) + 1)))), ((Rf 39), .inl (cI, 7, .inl w_4m3)), (h, .inr (10, ML o_25 Rf)), ((Rf 0), .inl (cI, 1302, .inl o_26)), ((Rf 10), .inl (cI, 30, .inl f10)), ((Rf 8), .inl (cI, 6, .inl f8)), ((Rf 11), .inl (cI, 7, .inl f11)), ((Rf 12), .inl (cI, 7, .inl f12))] := hD
              refine lv_aload_n hx hb dX10_findOrder_159 rfl (lv_at hl 4 rfl) ?_
              refine va_get (D := D) (ci := 10) (v := .ref (Rf 0)) (C := RX10) (T := TX10) (N := 45) hx hb hts iX10 hown hK hP 2 rfl rfl 0 (Nat.le_of_ble_eq_true rfl) (hts _ wd_491) (fun _ h9 => h9) rfl dX10_findOrder_160 ?_
              refine lv_iload hx hb dX10_findOrder_163 (lv_at hl 0 rfl) ?_
              refine lv_bipush (v := 20) hx hb dX10_findOrder_165 rfl ?_
              refine lv_iadd hx hb dX10_findOrder_167 ?_
              refine lv_aload_n hx hb dX10_findOrder_168 rfl (lv_at hl 4 rfl) ?_
              refine va_get (D := D) (ci := 10) (v := .ref (Rf 38)) (C := RX10) (T := TX10) (N := 45) hx hb hts iX10 hown hK hP 2 rfl rfl 38 (Nat.le_of_ble_eq_true rfl) (hts _ wd_675) (fun _ h9 => h9) rfl dX10_findOrder_169 ?_
              refine lv_iload_n hx hb dX10_findOrder_172 rfl (lv_at hl 3 rfl) ?_
              obtain ⟨hv_27, hF⟩ := hF
              refine va_iald hx hb hK hP 0 0 rfl rfl hv_27 dX10_findOrder_173 ?_
              refine lv_iadd hx hb dX10_findOrder_174 ?_
              obtain ⟨hv_28, hF⟩ := hF
              refine va_iald hx hb hK hP 3 0 rfl rfl hv_28 dX10_findOrder_175 ?_
              refine lv_iconst (v := 3) hx hb dX10_findOrder_176 rfl ?_
              refine lv_icmp_eq (tgt := 286) hx hb dX10_findOrder_177 rfl (fun c_29 => ?_) (fun c_29 => ?_)
              · replace hF := hF.1 c_29
                rw [if_pos c_29] at hE
                refine lv_goto (tgt := 28) hx hb dX10_findOrder_286 rfl ?_
                exact ih_w_4 w_4l2 w_4l1 o_25 o_26 (upd w_4m2 (w_4l1 : Int32).toNatClampNeg ((w_4m2 (w_4l1 : Int32).toNatClampNeg) + 1)) w_4m3 _ _ ls (cutP (isC := [4, 5, 6, 7, 0, 1, 2, 3]) hP rfl) (cutD (isC := [4, 5, 6, 7, 0, 1, 2, 3]) hD rfl rfl) hS (lv_sub hl [2, 3, 4] rfl) hF hE
              · replace hF := hF.2 c_29
                rw [if_neg c_29] at hE
                refine lv_aload_n hx hb dX10_findOrder_180 rfl (lv_at hl 4 rfl) ?_
                refine va_get (D := D) (ci := 10) (v := .ref (Rf 0)) (C := RX10) (T := TX10) (N := 45) hx hb hts iX10 hown hK hP 2 rfl rfl 0 (Nat.le_of_ble_eq_true rfl) (hts _ wd_491) (fun _ h9 => h9) rfl dX10_findOrder_181 ?_
                refine lv_iload hx hb dX10_findOrder_184 (lv_at hl 0 rfl) ?_
                refine lv_bipush (v := 18) hx hb dX10_findOrder_186 rfl ?_
                refine lv_iadd hx hb dX10_findOrder_188 ?_
                obtain ⟨hv_30, hF⟩ := hF
                refine va_iald hx hb hK hP 3 0 rfl rfl hv_30 dX10_findOrder_189 ?_
                refine lv_aload_n hx hb dX10_findOrder_190 rfl (lv_at hl 4 rfl) ?_
                refine va_get (D := D) (ci := 10) (v := .ref (Rf 0)) (C := RX10) (T := TX10) (N := 45) hx hb hts iX10 hown hK hP 2 rfl rfl 0 (Nat.le_of_ble_eq_true rfl) (hts _ wd_491) (fun _ h9 => h9) rfl dX10_findOrder_191 ?_
                refine lv_bipush (v := 18) hx hb dX10_findOrder_194 rfl ?_
                refine va_iald hx hb hK hP 3 0 rfl rfl (show ¬ ((18 : Int32) < 0 ∨ 1302 ≤ (18 : Int32).toNatClampNeg) by decide +kernel) dX10_findOrder_196 ?_
                refine lv_icmp_ne (tgt := 286) hx hb dX10_findOrder_197 rfl (fun c_31 => ?_) (fun c_31 => ?_)
                · replace hF := hF.2 c_31
                  rw [if_neg c_31] at hE
                  refine lv_goto (tgt := 28) hx hb dX10_findOrder_286 rfl ?_
                  exact ih_w_4 w_4l2 w_4l1 o_25 o_26 (upd w_4m2 (w_4l1 : Int32).toNatClampNeg ((w_4m2 (w_4l1 : Int32).toNatClampNeg) + 1)) w_4m3 _ _ ls (cutP (isC := [4, 5, 6, 7, 0, 1, 2, 3]) hP rfl) (cutD (isC := [4, 5, 6, 7, 0, 1, 2, 3]) hD rfl rfl) hS (lv_sub hl [2, 3, 4] rfl) hF hE
                · replace hF := hF.1 c_31
                  rw [if_pos c_31] at hE
                  refine lv_iload_n hx hb dX10_findOrder_200 rfl (lv_at hl 2 rfl) ?_
                  refine lv_aload_n hx hb dX10_findOrder_201 rfl (lv_at hl 4 rfl) ?_
                  refine va_get (D := D) (ci := 10) (v := .ref (Rf 0)) (C := RX10) (T := TX10) (N := 45) hx hb hts iX10 hown hK hP 2 rfl rfl 0 (Nat.le_of_ble_eq_true rfl) (hts _ wd_491) (fun _ h9 => h9) rfl dX10_findOrder_202 ?_
                  refine lv_iload hx hb dX10_findOrder_205 (lv_at hl 0 rfl) ?_
                  refine lv_bipush (v := 20) hx hb dX10_findOrder_207 rfl ?_
                  refine lv_iadd hx hb dX10_findOrder_209 ?_
                  refine lv_aload_n hx hb dX10_findOrder_210 rfl (lv_at hl 4 rfl) ?_
                  refine va_get (D := D) (ci := 10) (v := .ref (Rf 38)) (C := RX10) (T := TX10) (N := 45) hx hb hts iX10 hown hK hP 2 rfl rfl 38 (Nat.le_of_ble_eq_true rfl) (hts _ wd_675) (fun _ h9 => h9) rfl dX10_findOrder_211 ?_
                  refine lv_iload_n hx hb dX10_findOrder_214 rfl (lv_at hl 3 rfl) ?_
                  obtain ⟨hv_32, hF⟩ := hF
                  refine va_iald hx hb hK hP 0 0 rfl rfl hv_32 dX10_findOrder_215 ?_
                  refine lv_iadd hx hb dX10_findOrder_216 ?_
                  obtain ⟨hv_33, hF⟩ := hF
                  refine va_iald hx hb hK hP 3 0 rfl rfl hv_33 dX10_findOrder_217 ?_
                  refine lv_iconst (v := 1) hx hb dX10_findOrder_218 rfl ?_
                  refine lv_icmp_ne (tgt := 226) hx hb dX10_findOrder_219 rfl (fun c_34 => ?_) (fun c_34 => ?_)
                  · replace hF := hF.2 c_34
                    rw [if_neg c_34] at hE
                    refine lv_iconst (v := 0) hx hb dX10_findOrder_226 rfl ?_
                    refine lv_iadd hx hb dX10_findOrder_227 ?_
                    refine lv_istore_n (lv' := [(2, .int (w_4l2 + 0)), (4, .int ((42 + (42 * w_4l1)) + 42)), (3, .int (42 + (42 * w_4l1))), (1, .int w_4l1), (0, .ref h)]) hx hb dX10_findOrder_228 rfl hl (Nat.le_of_ble_eq_true rfl) rfl (fun ls hl => ?_)
                    refine lv_iinc (v := (w_4l1 + 1)) (lv' := [(1, .int (w_4l1 + 1)), (2, .int (w_4l2 + 0)), (4, .int ((42 + (42 * w_4l1)) + 42)), (3, .int (42 + (42 * w_4l1))), (0, .ref h)]) hx hb dX10_findOrder_229 hl (k := 3) rfl rfl (Nat.le_of_ble_eq_true rfl) rfl (fun ls hl => ?_)
                    refine lv_iload_n hx hb dX10_findOrder_232 rfl (lv_at hl 1 rfl) ?_
                    refine lv_aload_n hx hb dX10_findOrder_233 rfl (lv_at hl 4 rfl) ?_
                    refine va_get (D := D) (ci := 10) (v := .int (o_25 41)) (C := RX10) (T := TX10) (N := 45) hx hb hts iX10 hown hK hP 2 rfl rfl 41 (Nat.le_of_ble_eq_true rfl) (hts _ wd_674) (fun _ h9 => h9) rfl dX10_findOrder_234 ?_
                    refine lv_icmp_le (tgt := 279) hx hb dX10_findOrder_237 rfl (fun c_35 => ?_) (fun c_35 => ?_)
                    · replace hF := hF.1 c_35
                      rw [if_pos c_35] at hE
                      refine lv_aload_n hx hb dX10_findOrder_279 rfl (lv_at hl 4 rfl) ?_
                      refine va_get (D := D) (ci := 10) (v := .ref (Rf 38)) (C := RX10) (T := TX10) (N := 45) hx hb hts iX10 hown hK hP 2 rfl rfl 38 (Nat.le_of_ble_eq_true rfl) (hts _ wd_675) (fun _ h9 => h9) rfl dX10_findOrder_280 ?_
                      refine lv_iload_n hx hb dX10_findOrder_283 rfl (lv_at hl 0 rfl) ?_
                      refine lv_iconst (v := (-1)) hx hb dX10_findOrder_284 rfl ?_
                      obtain ⟨hv_36, hF⟩ := hF
                      refine va_iast hx hb hK hP hD hS 0 0 rfl rfl hv_36 dX10_findOrder_285 (fun H locs hP hD hS => ?_)
                      have hP : va_P D classes [((Rf 38), .inl (cI, 8, .inl (upd (upd w_4m2 (w_4l1 : Int32).toNatClampNeg ((w_4m2 (w_4l1 : Int32).toNatClampNeg) + 1)) ((w_4l1 + 1) : Int32).toNatClampNeg (-1)))), ((Rf 39), .inl (cI, 7, .inl w_4m3)), (h, .inr (10, ML o_25 Rf)), ((Rf 0), .inl (cI, 1302, .inl o_26)), ((Rf 10), .inl (cI, 30, .inl f10)), ((Rf 8), .inl (cI, 6, .inl f8)), ((Rf 11), .inl (cI, 7, .inl f11)), ((Rf 12), .inl (cI, 7, .inl f12))] H := hP
                      have hD : va_D A [((Rf 38), .inl (cI, 8, .inl (upd (upd w_4m2 (w_4l1 : Int32).toNatClampNeg ((w_4m2 (w_4l1 : Int32).toNatClampNeg) + 1)) ((w_4l1 + 1) : Int32).toNatClampNeg (-1)))), ((Rf 39), .inl (cI, 7, .inl w_4m3)), (h, .inr (10, ML o_25 Rf)), ((Rf 0), .inl (cI, 1302, .inl o_26)), ((Rf 10), .inl (cI, 30, .inl f10)), ((Rf 8), .inl (cI, 6, .inl f8)), ((Rf 11), .inl (cI, 7, .inl f11)), ((Rf 12), .inl (cI, 7, .inl f12))] := hD
                      refine lv_goto (tgt := 28) hx hb dX10_findOrder_286 rfl ?_
                      exact ih_w_4 (w_4l2 + 0) (w_4l1 + 1) o_25 o_26 (upd (upd w_4m2 (w_4l1 : Int32).toNatClampNeg ((w_4m2 (w_4l1 : Int32).toNatClampNeg) + 1)) ((w_4l1 + 1) : Int32).toNatClampNeg (-1)) w_4m3 _ _ ls (cutP (isC := [4, 5, 6, 7, 0, 1, 2, 3]) hP rfl) (cutD (isC := [4, 5, 6, 7, 0, 1, 2, 3]) hD rfl rfl) hS (lv_sub hl [1, 0, 4] rfl) hF hE
                    · replace hF := hF.2 c_35
                      rw [if_neg c_35] at hE
                      refine lv_aload_n hx hb dX10_findOrder_240 rfl (lv_at hl 4 rfl) ?_
                      refine lv_iload_n hx hb dX10_findOrder_241 rfl (lv_at hl 1 rfl) ?_
                      refine va_put (D := D) (ci := 10) (v := .int (w_4l2 + 0)) (ty := .int) (C := RX10) (T := TX10) (N := 45) hx hb hts iX10 tyX10 tyX10_ok nmX10 hown hK hP hD hS 2 rfl rfl 41 (Nat.le_of_ble_eq_true rfl) (hts _ wd_674) (fun _ h9 => h9) rfl (by decide +kernel) rfl rfl (Nat.le_of_ble_eq_true rfl) dX10_findOrder_242 (fun H locs hP hD hS => ?_)
                      have hP : va_P D classes [((Rf 38), .inl (cI, 8, .inl (upd w_4m2 (w_4l1 : Int32).toNatClampNeg ((w_4m2 (w_4l1 : Int32).toNatClampNeg) + 1)))), ((Rf 39), .inl (cI, 7, .inl w_4m3)), (h, .inr (10, ML (upd o_25 41 (w_4l2 + 0)) Rf)), ((Rf 0), .inl (cI, 1302, .inl o_26)), ((Rf 10), .inl (cI, 30, .inl f10)), ((Rf 8), .inl (cI, 6, .inl f8)), ((Rf 11), .inl (cI, 7, .inl f11)), ((Rf 12), .inl (cI, 7, .inl f12))] H := hP
                      have hD : va_D A [((Rf 38), .inl (cI, 8, .inl (upd w_4m2 (w_4l1 : Int32).toNatClampNeg ((w_4m2 (w_4l1 : Int32).toNatClampNeg) + 1)))), ((Rf 39), .inl (cI, 7, .inl w_4m3)), (h, .inr (10, ML (upd o_25 41 (w_4l2 + 0)) Rf)), ((Rf 0), .inl (cI, 1302, .inl o_26)), ((Rf 10), .inl (cI, 30, .inl f10)), ((Rf 8), .inl (cI, 6, .inl f8)), ((Rf 11), .inl (cI, 7, .inl f11)), ((Rf 12), .inl (cI, 7, .inl f12))] := hD
                      refine lv_aload_n hx hb dX10_findOrder_245 rfl (lv_at hl 4 rfl) ?_
                      refine lv_iload_n hx hb dX10_findOrder_246 rfl (lv_at hl 0 rfl) ?_
                      refine va_put (D := D) (ci := 10) (v := .int (w_4l1 + 1)) (ty := .int) (C := RX10) (T := TX10) (N := 45) hx hb hts iX10 tyX10 tyX10_ok nmX10 hown hK hP hD hS 2 rfl rfl 40 (Nat.le_of_ble_eq_true rfl) (hts _ wd_673) (fun _ h9 => h9) rfl (by decide +kernel) rfl rfl (Nat.le_of_ble_eq_true rfl) dX10_findOrder_247 (fun H locs hP hD hS => ?_)
                      have hP : va_P D classes [((Rf 38), .inl (cI, 8, .inl (upd w_4m2 (w_4l1 : Int32).toNatClampNeg ((w_4m2 (w_4l1 : Int32).toNatClampNeg) + 1)))), ((Rf 39), .inl (cI, 7, .inl w_4m3)), (h, .inr (10, ML (upd (upd o_25 41 (w_4l2 + 0)) 40 (w_4l1 + 1)) Rf)), ((Rf 0), .inl (cI, 1302, .inl o_26)), ((Rf 10), .inl (cI, 30, .inl f10)), ((Rf 8), .inl (cI, 6, .inl f8)), ((Rf 11), .inl (cI, 7, .inl f11)), ((Rf 12), .inl (cI, 7, .inl f12))] H := hP
                      have hD : va_D A [((Rf 38), .inl (cI, 8, .inl (upd w_4m2 (w_4l1 : Int32).toNatClampNeg ((w_4m2 (w_4l1 : Int32).toNatClampNeg) + 1)))), ((Rf 39), .inl (cI, 7, .inl w_4m3)), (h, .inr (10, ML (upd (upd o_25 41 (w_4l2 + 0)) 40 (w_4l1 + 1)) Rf)), ((Rf 0), .inl (cI, 1302, .inl o_26)), ((Rf 10), .inl (cI, 30, .inl f10)), ((Rf 8), .inl (cI, 6, .inl f8)), ((Rf 11), .inl (cI, 7, .inl f11)), ((Rf 12), .inl (cI, 7, .inl f12))] := hD
                      refine lv_iconst (v := 0) hx hb dX10_findOrder_250 rfl ?_
                      refine lv_istore (lv' := [(5, .int 0), (1, .int (w_4l1 + 1)), (2, .int (w_4l2 + 0)), (4, .int ((42 + (42 * w_4l1)) + 42)), (3, .int (42 + (42 * w_4l1))), (0, .ref h)]) hx hb dX10_findOrder_251 hl (Nat.le_of_ble_eq_true rfl) rfl (fun ls hl => ?_)
                      have ex_253_w_37 : ∀ (w_37l5 : Int32) (w_37m0 : (Nat → Int32)) (w_37m1 : (Nat → Int32)) (w_37m2 : (Nat → Int32)) (w_37m3 : (Nat → Int32)) (H : Heap) (locs : List Loc) (ls : Array Slot), va_P D classes [((Rf 38), .inl (cI, 8, .inl w_37m2)), ((Rf 39), .inl (cI, 7, .inl w_37m3)), (h, .inr (10, ML w_37m0 Rf)), ((Rf 0), .inl (cI, 1302, .inl w_37m1)), ((Rf 10), .inl (cI, 30, .inl f10)), ((Rf 8), .inl (cI, 6, .inl f8)), ((Rf 11), .inl (cI, 7, .inl f11)), ((Rf 12), .inl (cI, 7, .inl f12))] H → va_D A [((Rf 38), .inl (cI, 8, .inl w_37m2)), ((Rf 39), .inl (cI, 7, .inl w_37m3)), (h, .inr (10, ML w_37m0 Rf)), ((Rf 0), .inl (cI, 1302, .inl w_37m1)), ((Rf 10), .inl (cI, 30, .inl f10)), ((Rf 8), .inl (cI, 6, .inl f8)), ((Rf 11), .inl (cI, 7, .inl f11)), ((Rf 12), .inl (cI, 7, .inl f12))] → va_S A s.heap H locs → lv_has ls 6 [(5, .int w_37l5), (1, .int (w_4l1 + 1)), (2, .int (w_4l2 + 0)), (4, .int ((42 + (42 * w_4l1)) + 42)), (3, .int (42 + (42 * w_4l1))), (0, .ref h)] → ((vp_in (w_4l1 + 1) 8 ∧ (S_m_findOrder_28 f10 f8 f11 f12 (fun (w_4l2 : Int32) (w_4l1 : Int32) (w_4m0 : (Nat → Int32)) (w_4m1 : (Nat → Int32)) (w_4m2 : (Nat → Int32)) (w_4m3 : (Nat → Int32)) => True) n_w_4 (w_4l2 + 0) (w_4l1 + 1) w_37m0 w_37m1 (upd w_37m2 ((w_4l1 + 1) : Int32).toNatClampNeg (-1)) w_37m3))) → (((match ((f_m_findOrder_28 f10 f8 f11 f12 n_w_4 (w_4l2 + 0) (w_4l1 + 1) w_37m0 w_37m1 (upd w_37m2 ((w_4l1 + 1) : Int32).toNatClampNeg (-1)) w_37m3) : Int32 × Int32 × (Nat → Int32) × (Nat → Int32) × (Nat → Int32) × (Nat → Int32)) with | (w_4l2, w_4l1, w_4m0, w_4m1, w_4m2, w_4m3) => (w_4m0, w_4m1, w_4m2, w_4m3))) : (Nat → Int32) × (Nat → Int32) × (Nat → Int32) × (Nat → Int32)) = RES → W p l e rm_m_findOrder s m args below meth c H locs 0 0 Q (F0 m 279 ls []) := by
                        intro w_37l5 w_37m0 w_37m1 w_37m2 w_37m3 H locs ls hP hD hS hl hF hE
                        refine lv_aload_n hx hb dX10_findOrder_279 rfl (lv_at hl 5 rfl) ?_
                        refine va_get (D := D) (ci := 10) (v := .ref (Rf 38)) (C := RX10) (T := TX10) (N := 45) hx hb hts iX10 hown hK hP 2 rfl rfl 38 (Nat.le_of_ble_eq_true rfl) (hts _ wd_675) (fun _ h9 => h9) rfl dX10_findOrder_280 ?_
                        refine lv_iload_n hx hb dX10_findOrder_283 rfl (lv_at hl 1 rfl) ?_
                        refine lv_iconst (v := (-1)) hx hb dX10_findOrder_284 rfl ?_
                        obtain ⟨hv_38, hF⟩ := hF
                        refine va_iast hx hb hK hP hD hS 0 0 rfl rfl hv_38 dX10_findOrder_285 (fun H locs hP hD hS => ?_)
                        have hP : va_P D classes [((Rf 38), .inl (cI, 8, .inl (upd w_37m2 ((w_4l1 + 1) : Int32).toNatClampNeg (-1)))), ((Rf 39), .inl (cI, 7, .inl w_37m3)), (h, .inr (10, ML w_37m0 Rf)), ((Rf 0), .inl (cI, 1302, .inl w_37m1)), ((Rf 10), .inl (cI, 30, .inl f10)), ((Rf 8), .inl (cI, 6, .inl f8)), ((Rf 11), .inl (cI, 7, .inl f11)), ((Rf 12), .inl (cI, 7, .inl f12))] H := hP
                        have hD : va_D A [((Rf 38), .inl (cI, 8, .inl (upd w_37m2 ((w_4l1 + 1) : Int32).toNatClampNeg (-1)))), ((Rf 39), .inl (cI, 7, .inl w_37m3)), (h, .inr (10, ML w_37m0 Rf)), ((Rf 0), .inl (cI, 1302, .inl w_37m1)), ((Rf 10), .inl (cI, 30, .inl f10)), ((Rf 8), .inl (cI, 6, .inl f8)), ((Rf 11), .inl (cI, 7, .inl f11)), ((Rf 12), .inl (cI, 7, .inl f12))] := hD
                        refine lv_goto (tgt := 28) hx hb dX10_findOrder_286 rfl ?_
                        exact ih_w_4 (w_4l2 + 0) (w_4l1 + 1) w_37m0 w_37m1 (upd w_37m2 ((w_4l1 + 1) : Int32).toNatClampNeg (-1)) w_37m3 _ _ ls (cutP (isC := [4, 5, 6, 7, 0, 1, 2, 3]) hP rfl) (cutD (isC := [4, 5, 6, 7, 0, 1, 2, 3]) hD rfl rfl) hS (lv_sub hl [2, 1, 5] rfl) hF hE
                      have lp_253_w_37 : ∀ (n_w_37 : Nat) (w_37l5 : Int32) (w_37m0 : (Nat → Int32)) (w_37m1 : (Nat → Int32)) (w_37m2 : (Nat → Int32)) (w_37m3 : (Nat → Int32)) (H : Heap) (locs : List Loc) (ls : Array Slot), va_P D classes [((Rf 38), .inl (cI, 8, .inl w_37m2)), ((Rf 39), .inl (cI, 7, .inl w_37m3)), (h, .inr (10, ML w_37m0 Rf)), ((Rf 0), .inl (cI, 1302, .inl w_37m1)), ((Rf 10), .inl (cI, 30, .inl f10)), ((Rf 8), .inl (cI, 6, .inl f8)), ((Rf 11), .inl (cI, 7, .inl f11)), ((Rf 12), .inl (cI, 7, .inl f12))] H → va_D A [((Rf 38), .inl (cI, 8, .inl w_37m2)), ((Rf 39), .inl (cI, 7, .inl w_37m3)), (h, .inr (10, ML w_37m0 Rf)), ((Rf 0), .inl (cI, 1302, .inl w_37m1)), ((Rf 10), .inl (cI, 30, .inl f10)), ((Rf 8), .inl (cI, 6, .inl f8)), ((Rf 11), .inl (cI, 7, .inl f11)), ((Rf 12), .inl (cI, 7, .inl f12))] → va_S A s.heap H locs → lv_has ls 6 [(5, .int w_37l5), (1, .int (w_4l1 + 1)), (2, .int (w_4l2 + 0)), (4, .int ((42 + (42 * w_4l1)) + 42)), (3, .int (42 + (42 * w_4l1))), (0, .ref h)] → (S_m_findOrder_253 w_4l1 (fun (w_37l5 : Int32) (w_37m0 : (Nat → Int32)) (w_37m1 : (Nat → Int32)) (w_37m2 : (Nat → Int32)) (w_37m3 : (Nat → Int32)) => (vp_in (w_4l1 + 1) 8 ∧ (S_m_findOrder_28 f10 f8 f11 f12 (fun (w_4l2 : Int32) (w_4l1 : Int32) (w_4m0 : (Nat → Int32)) (w_4m1 : (Nat → Int32)) (w_4m2 : (Nat → Int32)) (w_4m3 : (Nat → Int32)) => True) n_w_4 (w_4l2 + 0) (w_4l1 + 1) w_37m0 w_37m1 (upd w_37m2 ((w_4l1 + 1) : Int32).toNatClampNeg (-1)) w_37m3))) n_w_37 w_37l5 w_37m0 w_37m1 w_37m2 w_37m3) → ((match ((match ((f_m_findOrder_253 w_4l1 n_w_37 w_37l5 w_37m0 w_37m1 w_37m2 w_37m3) : Int32 × (Nat → Int32) × (Nat → Int32) × (Nat → Int32) × (Nat → Int32)) with | (w_37l5, w_37m0, w_37m1, w_37m2, w_37m3) => (f_m_findOrder_28 f10 f8 f11 f12 n_w_4 (w_4l2 + 0) (w_4l1 + 1) w_37m0 w_37m1 (upd w_37m2 ((w_4l1 + 1) : Int32).toNatClampNeg (-1)) w_37m3)) : Int32 × Int32 × (Nat → Int32) × (Nat → Int32) × (Nat → Int32) × (Nat → Int32)) with | (w_4l2, w_4l1, w_4m0, w_4m1, w_4m2, w_4m3) => (w_4m0, w_4m1, w_4m2, w_4m3)) : (Nat → Int32) × (Nat → Int32) × (Nat → Int32) × (Nat → Int32)) = RES → W p l e rm_m_findOrder s m args below meth c H locs 0 0 Q (F0 m 253 ls []) := by
                        intro n_w_37
                        induction n_w_37 with
                        | zero => intro w_37l5 w_37m0 w_37m1 w_37m2 w_37m3 H locs ls hP hD hS hl hF hE; exact False.elim hF
                        | succ n_w_37 ih_w_37 =>
                          intro w_37l5 w_37m0 w_37m1 w_37m2 w_37m3 H locs ls hP hD hS hl hF hE
                          rw [S_m_findOrder_253_s] at hF
                          rw [f_m_findOrder_253_s] at hE
                          refine lv_iload hx hb dX10_findOrder_253 (lv_at hl 0 rfl) ?_
                          refine lv_iload_n hx hb dX10_findOrder_255 rfl (lv_at hl 1 rfl) ?_
                          refine lv_icmp_ge (tgt := 279) hx hb dX10_findOrder_256 rfl (fun c_39 => ?_) (fun c_39 => ?_)
                          · replace hF := hF.1 c_39
                            rw [if_pos c_39] at hE
                            exact ex_253_w_37 w_37l5 w_37m0 w_37m1 w_37m2 w_37m3 _ _ ls hP hD hS (lv_sub hl [0, 1, 2, 3, 4, 5] rfl) hF hE
                          · replace hF := hF.2 c_39
                            rw [if_neg c_39] at hE
                            refine lv_aload_n hx hb dX10_findOrder_259 rfl (lv_at hl 5 rfl) ?_
                            refine va_get (D := D) (ci := 10) (v := .ref (Rf 39)) (C := RX10) (T := TX10) (N := 45) hx hb hts iX10 hown hK hP 2 rfl rfl 39 (Nat.le_of_ble_eq_true rfl) (hts _ wd_676) (fun _ h9 => h9) rfl dX10_findOrder_260 ?_
                            refine lv_iload hx hb dX10_findOrder_263 (lv_at hl 0 rfl) ?_
                            refine lv_aload_n hx hb dX10_findOrder_265 rfl (lv_at hl 5 rfl) ?_
                            refine va_get (D := D) (ci := 10) (v := .ref (Rf 38)) (C := RX10) (T := TX10) (N := 45) hx hb hts iX10 hown hK hP 2 rfl rfl 38 (Nat.le_of_ble_eq_true rfl) (hts _ wd_675) (fun _ h9 => h9) rfl dX10_findOrder_266 ?_
                            refine lv_iload hx hb dX10_findOrder_269 (lv_at hl 0 rfl) ?_
                            obtain ⟨hv_40, hF⟩ := hF
                            refine va_iald hx hb hK hP 0 0 rfl rfl hv_40 dX10_findOrder_271 ?_
                            obtain ⟨hv_41, hF⟩ := hF
                            refine va_iast hx hb hK hP hD hS 1 0 rfl rfl hv_41 dX10_findOrder_272 (fun H locs hP hD hS => ?_)
                            have hP : va_P D classes [((Rf 38), .inl (cI, 8, .inl w_37m2)), ((Rf 39), .inl (cI, 7, .inl (upd w_37m3 (w_37l5 : Int32).toNatClampNeg (w_37m2 (w_37l5 : Int32).toNatClampNeg)))), (h, .inr (10, ML w_37m0 Rf)), ((Rf 0), .inl (cI, 1302, .inl w_37m1)), ((Rf 10), .inl (cI, 30, .inl f10)), ((Rf 8), .inl (cI, 6, .inl f8)), ((Rf 11), .inl (cI, 7, .inl f11)), ((Rf 12), .inl (cI, 7, .inl f12))] H := hP
                            have hD : va_D A [((Rf 38), .inl (cI, 8, .inl w_37m2)), ((Rf 39), .inl (cI, 7, .inl (upd w_37m3 (w_37l5 : Int32).toNatClampNeg (w_37m2 (w_37l5 : Int32).toNatClampNeg)))), (h, .inr (10, ML w_37m0 Rf)), ((Rf 0), .inl (cI, 1302, .inl w_37m1)), ((Rf 10), .inl (cI, 30, .inl f10)), ((Rf 8), .inl (cI, 6, .inl f8)), ((Rf 11), .inl (cI, 7, .inl f11)), ((Rf 12), .inl (cI, 7, .inl f12))] := hD
                            refine lv_iinc (v := (w_37l5 + 1)) (lv' := [(5, .int (w_37l5 + 1)), (1, .int (w_4l1 + 1)), (2, .int (w_4l2 + 0)), (4, .int ((42 + (42 * w_4l1)) + 42)), (3, .int (42 + (42 * w_4l1))), (0, .ref h)]) hx hb dX10_findOrder_273 hl (k := 0) rfl rfl (Nat.le_of_ble_eq_true rfl) rfl (fun ls hl => ?_)
                            refine lv_goto (tgt := 253) hx hb dX10_findOrder_276 rfl ?_
                            exact ih_w_37 (w_37l5 + 1) w_37m0 w_37m1 w_37m2 (upd w_37m3 (w_37l5 : Int32).toNatClampNeg (w_37m2 (w_37l5 : Int32).toNatClampNeg)) _ _ ls hP hD hS (lv_sub hl [0, 1, 2, 3, 4, 5] rfl) hF hE
                      exact lp_253_w_37 10 0 (upd (upd o_25 41 (w_4l2 + 0)) 40 (w_4l1 + 1)) o_26 (upd w_4m2 (w_4l1 : Int32).toNatClampNeg ((w_4m2 (w_4l1 : Int32).toNatClampNeg) + 1)) w_4m3 _ _ ls hP hD hS hl hF hE
                  · replace hF := hF.1 c_34
                    rw [if_pos c_34] at hE
                    refine lv_iconst (v := 1) hx hb dX10_findOrder_222 rfl ?_
                    refine lv_goto (tgt := 227) hx hb dX10_findOrder_223 rfl ?_
                    refine lv_iadd hx hb dX10_findOrder_227 ?_
                    refine lv_istore_n (lv' := [(2, .int (w_4l2 + 1)), (4, .int ((42 + (42 * w_4l1)) + 42)), (3, .int (42 + (42 * w_4l1))), (1, .int w_4l1), (0, .ref h)]) hx hb dX10_findOrder_228 rfl hl (Nat.le_of_ble_eq_true rfl) rfl (fun ls hl => ?_)
                    refine lv_iinc (v := (w_4l1 + 1)) (lv' := [(1, .int (w_4l1 + 1)), (2, .int (w_4l2 + 1)), (4, .int ((42 + (42 * w_4l1)) + 42)), (3, .int (42 + (42 * w_4l1))), (0, .ref h)]) hx hb dX10_findOrder_229 hl (k := 3) rfl rfl (Nat.le_of_ble_eq_true rfl) rfl (fun ls hl => ?_)
                    refine lv_iload_n hx hb dX10_findOrder_232 rfl (lv_at hl 1 rfl) ?_
                    refine lv_aload_n hx hb dX10_findOrder_233 rfl (lv_at hl 4 rfl) ?_
                    refine va_get (D := D) (ci := 10) (v := .int (o_25 41)) (C := RX10) (T := TX10) (N := 45) hx hb hts iX10 hown hK hP 2 rfl rfl 41 (Nat.le_of_ble_eq_true rfl) (hts _ wd_674) (fun _ h9 => h9) rfl dX10_findOrder_234 ?_
                    refine lv_icmp_le (tgt := 279) hx hb dX10_findOrder_237 rfl (fun c_42 => ?_) (fun c_42 => ?_)
                    · replace hF := hF.1 c_42
                      rw [if_pos c_42] at hE
                      refine lv_aload_n hx hb dX10_findOrder_279 rfl (lv_at hl 4 rfl) ?_
                      refine va_get (D := D) (ci := 10) (v := .ref (Rf 38)) (C := RX10) (T := TX10) (N := 45) hx hb hts iX10 hown hK hP 2 rfl rfl 38 (Nat.le_of_ble_eq_true rfl) (hts _ wd_675) (fun _ h9 => h9) rfl dX10_findOrder_280 ?_
                      refine lv_iload_n hx hb dX10_findOrder_283 rfl (lv_at hl 0 rfl) ?_
                      refine lv_iconst (v := (-1)) hx hb dX10_findOrder_284 rfl ?_
                      obtain ⟨hv_43, hF⟩ := hF
                      refine va_iast hx hb hK hP hD hS 0 0 rfl rfl hv_43 dX10_findOrder_285 (fun H locs hP hD hS => ?_)
                      have hP : va_P D classes [((Rf 38), .inl (cI, 8, .inl (upd (upd w_4m2 (w_4l1 : Int32).toNatClampNeg ((w_4m2 (w_4l1 : Int32).toNatClampNeg) + 1)) ((w_4l1 + 1) : Int32).toNatClampNeg (-1)))), ((Rf 39), .inl (cI, 7, .inl w_4m3)), (h, .inr (10, ML o_25 Rf)), ((Rf 0), .inl (cI, 1302, .inl o_26)), ((Rf 10), .inl (cI, 30, .inl f10)), ((Rf 8), .inl (cI, 6, .inl f8)), ((Rf 11), .inl (cI, 7, .inl f11)), ((Rf 12), .inl (cI, 7, .inl f12))] H := hP
                      have hD : va_D A [((Rf 38), .inl (cI, 8, .inl (upd (upd w_4m2 (w_4l1 : Int32).toNatClampNeg ((w_4m2 (w_4l1 : Int32).toNatClampNeg) + 1)) ((w_4l1 + 1) : Int32).toNatClampNeg (-1)))), ((Rf 39), .inl (cI, 7, .inl w_4m3)), (h, .inr (10, ML o_25 Rf)), ((Rf 0), .inl (cI, 1302, .inl o_26)), ((Rf 10), .inl (cI, 30, .inl f10)), ((Rf 8), .inl (cI, 6, .inl f8)), ((Rf 11), .inl (cI, 7, .inl f11)), ((Rf 12), .inl (cI, 7, .inl f12))] := hD
                      refine lv_goto (tgt := 28) hx hb dX10_findOrder_286 rfl ?_
                      exact ih_w_4 (w_4l2 + 1) (w_4l1 + 1) o_25 o_26 (upd (upd w_4m2 (w_4l1 : Int32).toNatClampNeg ((w_4m2 (w_4l1 : Int32).toNatClampNeg) + 1)) ((w_4l1 + 1) : Int32).toNatClampNeg (-1)) w_4m3 _ _ ls (cutP (isC := [4, 5, 6, 7, 0, 1, 2, 3]) hP rfl) (cutD (isC := [4, 5, 6, 7, 0, 1, 2, 3]) hD rfl rfl) hS (lv_sub hl [1, 0, 4] rfl) hF hE
                    · replace hF := hF.2 c_42
                      rw [if_neg c_42] at hE
                      refine lv_aload_n hx hb dX10_findOrder_240 rfl (lv_at hl 4 rfl) ?_
                      refine lv_iload_n hx hb dX10_findOrder_241 rfl (lv_at hl 1 rfl) ?_
                      refine va_put (D := D) (ci := 10) (v := .int (w_4l2 + 1)) (ty := .int) (C := RX10) (T := TX10) (N := 45) hx hb hts iX10 tyX10 tyX10_ok nmX10 hown hK hP hD hS 2 rfl rfl 41 (Nat.le_of_ble_eq_true rfl) (hts _ wd_674) (fun _ h9 => h9) rfl (by decide +kernel) rfl rfl (Nat.le_of_ble_eq_true rfl) dX10_findOrder_242 (fun H locs hP hD hS => ?_)
                      have hP : va_P D classes [((Rf 38), .inl (cI, 8, .inl (upd w_4m2 (w_4l1 : Int32).toNatClampNeg ((w_4m2 (w_4l1 : Int32).toNatClampNeg) + 1)))), ((Rf 39), .inl (cI, 7, .inl w_4m3)), (h, .inr (10, ML (upd o_25 41 (w_4l2 + 1)) Rf)), ((Rf 0), .inl (cI, 1302, .inl o_26)), ((Rf 10), .inl (cI, 30, .inl f10)), ((Rf 8), .inl (cI, 6, .inl f8)), ((Rf 11), .inl (cI, 7, .inl f11)), ((Rf 12), .inl (cI, 7, .inl f12))] H := hP
                      have hD : va_D A [((Rf 38), .inl (cI, 8, .inl (upd w_4m2 (w_4l1 : Int32).toNatClampNeg ((w_4m2 (w_4l1 : Int32).toNatClampNeg) + 1)))), ((Rf 39), .inl (cI, 7, .inl w_4m3)), (h, .inr (10, ML (upd o_25 41 (w_4l2 + 1)) Rf)), ((Rf 0), .inl (cI, 1302, .inl o_26)), ((Rf 10), .inl (cI, 30, .inl f10)), ((Rf 8), .inl (cI, 6, .inl f8)), ((Rf 11), .inl (cI, 7, .inl f11)), ((Rf 12), .inl (cI, 7, .inl f12))] := hD
                      refine lv_aload_n hx hb dX10_findOrder_245 rfl (lv_at hl 4 rfl) ?_
                      refine lv_iload_n hx hb dX10_findOrder_246 rfl (lv_at hl 0 rfl) ?_
                      refine va_put (D := D) (ci := 10) (v := .int (w_4l1 + 1)) (ty := .int) (C := RX10) (T := TX10) (N := 45) hx hb hts iX10 tyX10 tyX10_ok nmX10 hown hK hP hD hS 2 rfl rfl 40 (Nat.le_of_ble_eq_true rfl) (hts _ wd_673) (fun _ h9 => h9) rfl (by decide +kernel) rfl rfl (Nat.le_of_ble_eq_true rfl) dX10_findOrder_247 (fun H locs hP hD hS => ?_)
                      have hP : va_P D classes [((Rf 38), .inl (cI, 8, .inl (upd w_4m2 (w_4l1 : Int32).toNatClampNeg ((w_4m2 (w_4l1 : Int32).toNatClampNeg) + 1)))), ((Rf 39), .inl (cI, 7, .inl w_4m3)), (h, .inr (10, ML (upd (upd o_25 41 (w_4l2 + 1)) 40 (w_4l1 + 1)) Rf)), ((Rf 0), .inl (cI, 1302, .inl o_26)), ((Rf 10), .inl (cI, 30, .inl f10)), ((Rf 8), .inl (cI, 6, .inl f8)), ((Rf 11), .inl (cI, 7, .inl f11)), ((Rf 12), .inl (cI, 7, .inl f12))] H := hP
                      have hD : va_D A [((Rf 38), .inl (cI, 8, .inl (upd w_4m2 (w_4l1 : Int32).toNatClampNeg ((w_4m2 (w_4l1 : Int32).toNatClampNeg) + 1)))), ((Rf 39), .inl (cI, 7, .inl w_4m3)), (h, .inr (10, ML (upd (upd o_25 41 (w_4l2 + 1)) 40 (w_4l1 + 1)) Rf)), ((Rf 0), .inl (cI, 1302, .inl o_26)), ((Rf 10), .inl (cI, 30, .inl f10)), ((Rf 8), .inl (cI, 6, .inl f8)), ((Rf 11), .inl (cI, 7, .inl f11)), ((Rf 12), .inl (cI, 7, .inl f12))] := hD
                      refine lv_iconst (v := 0) hx hb dX10_findOrder_250 rfl ?_
                      refine lv_istore (lv' := [(5, .int 0), (1, .int (w_4l1 + 1)), (2, .int (w_4l2 + 1)), (4, .int ((42 + (42 * w_4l1)) + 42)), (3, .int (42 + (42 * w_4l1))), (0, .ref h)]) hx hb dX10_findOrder_251 hl (Nat.le_of_ble_eq_true rfl) rfl (fun ls hl => ?_)
                      have ex_253_w_44 : ∀ (w_44l5 : Int32) (w_44m0 : (Nat → Int32)) (w_44m1 : (Nat → Int32)) (w_44m2 : (Nat → Int32)) (w_44m3 : (Nat → Int32)) (H : Heap) (locs : List Loc) (ls : Array Slot), va_P D classes [((Rf 38), .inl (cI, 8, .inl w_44m2)), ((Rf 39), .inl (cI, 7, .inl w_44m3)), (h, .inr (10, ML w_44m0 Rf)), ((Rf 0), .inl (cI, 1302, .inl w_44m1)), ((Rf 10), .inl (cI, 30, .inl f10)), ((Rf 8), .inl (cI, 6, .inl f8)), ((Rf 11), .inl (cI, 7, .inl f11)), ((Rf 12), .inl (cI, 7, .inl f12))] H → va_D A [((Rf 38), .inl (cI, 8, .inl w_44m2)), ((Rf 39), .inl (cI, 7, .inl w_44m3)), (h, .inr (10, ML w_44m0 Rf)), ((Rf 0), .inl (cI, 1302, .inl w_44m1)), ((Rf 10), .inl (cI, 30, .inl f10)), ((Rf 8), .inl (cI, 6, .inl f8)), ((Rf 11), .inl (cI, 7, .inl f11)), ((Rf 12), .inl (cI, 7, .inl f12))] → va_S A s.heap H locs → lv_has ls 6 [(5, .int w_44l5), (1, .int (w_4l1 + 1)), (2, .int (w_4l2 + 1)), (4, .int ((42 + (42 * w_4l1)) + 42)), (3, .int (42 + (42 * w_4l1))), (0, .ref h)] → ((vp_in (w_4l1 + 1) 8 ∧ (S_m_findOrder_28 f10 f8 f11 f12 (fun (w_4l2 : Int32) (w_4l1 : Int32) (w_4m0 : (Nat → Int32)) (w_4m1 : (Nat → Int32)) (w_4m2 : (Nat → Int32)) (w_4m3 : (Nat → Int32)) => True) n_w_4 (w_4l2 + 1) (w_4l1 + 1) w_44m0 w_44m1 (upd w_44m2 ((w_4l1 + 1) : Int32).toNatClampNeg (-1)) w_44m3))) → (((match ((f_m_findOrder_28 f10 f8 f11 f12 n_w_4 (w_4l2 + 1) (w_4l1 + 1) w_44m0 w_44m1 (upd w_44m2 ((w_4l1 + 1) : Int32).toNatClampNeg (-1)) w_44m3) : Int32 × Int32 × (Nat → Int32) × (Nat → Int32) × (Nat → Int32) × (Nat → Int32)) with | (w_4l2, w_4l1, w_4m0, w_4m1, w_4m2, w_4m3) => (w_4m0, w_4m1, w_4m2, w_4m3))) : (Nat → Int32) × (Nat → Int32) × (Nat → Int32) × (Nat → Int32)) = RES → W p l e rm_m_findOrder s m args below meth c H locs 0 0 Q (F0 m 279 ls []) := by
                        intro w_44l5 w_44m0 w_44m1 w_44m2 w_44m3 H locs ls hP hD hS hl hF hE
                        refine lv_aload_n hx hb dX10_findOrder_279 rfl (lv_at hl 5 rfl) ?_
                        refine va_get (D := D) (ci := 10) (v := .ref (Rf 38)) (C := RX10) (T := TX10) (N := 45) hx hb hts iX10 hown hK hP 2 rfl rfl 38 (Nat.le_of_ble_eq_true rfl) (hts _ wd_675) (fun _ h9 => h9) rfl dX10_findOrder_280 ?_
                        refine lv_iload_n hx hb dX10_findOrder_283 rfl (lv_at hl 1 rfl) ?_
                        refine lv_iconst (v := (-1)) hx hb dX10_findOrder_284 rfl ?_
                        obtain ⟨hv_45, hF⟩ := hF
                        refine va_iast hx hb hK hP hD hS 0 0 rfl rfl hv_45 dX10_findOrder_285 (fun H locs hP hD hS => ?_)
                        have hP : va_P D classes [((Rf 38), .inl (cI, 8, .inl (upd w_44m2 ((w_4l1 + 1) : Int32).toNatClampNeg (-1)))), ((Rf 39), .inl (cI, 7, .inl w_44m3)), (h, .inr (10, ML w_44m0 Rf)), ((Rf 0), .inl (cI, 1302, .inl w_44m1)), ((Rf 10), .inl (cI, 30, .inl f10)), ((Rf 8), .inl (cI, 6, .inl f8)), ((Rf 11), .inl (cI, 7, .inl f11)), ((Rf 12), .inl (cI, 7, .inl f12))] H := hP
                        have hD : va_D A [((Rf 38), .inl (cI, 8, .inl (upd w_44m2 ((w_4l1 + 1) : Int32).toNatClampNeg (-1)))), ((Rf 39), .inl (cI, 7, .inl w_44m3)), (h, .inr (10, ML w_44m0 Rf)), ((Rf 0), .inl (cI, 1302, .inl w_44m1)), ((Rf 10), .inl (cI, 30, .inl f10)), ((Rf 8), .inl (cI, 6, .inl f8)), ((Rf 11), .inl (cI, 7, .inl f11)), ((Rf 12), .inl (cI, 7, .inl f12))] := hD
                        refine lv_goto (tgt := 28) hx hb dX10_findOrder_286 rfl ?_
                        exact ih_w_4 (w_4l2 + 1) (w_4l1 + 1) w_44m0 w_44m1 (upd w_44m2 ((w_4l1 + 1) : Int32).toNatClampNeg (-1)) w_44m3 _ _ ls (cutP (isC := [4, 5, 6, 7, 0, 1, 2, 3]) hP rfl) (cutD (isC := [4, 5, 6, 7, 0, 1, 2, 3]) hD rfl rfl) hS (lv_sub hl [2, 1, 5] rfl) hF hE
                      have lp_253_w_44 : ∀ (n_w_44 : Nat) (w_44l5 : Int32) (w_44m0 : (Nat → Int32)) (w_44m1 : (Nat → Int32)) (w_44m2 : (Nat → Int32)) (w_44m3 : (Nat → Int32)) (H : Heap) (locs : List Loc) (ls : Array Slot), va_P D classes [((Rf 38), .inl (cI, 8, .inl w_44m2)), ((Rf 39), .inl (cI, 7, .inl w_44m3)), (h, .inr (10, ML w_44m0 Rf)), ((Rf 0), .inl (cI, 1302, .inl w_44m1)), ((Rf 10), .inl (cI, 30, .inl f10)), ((Rf 8), .inl (cI, 6, .inl f8)), ((Rf 11), .inl (cI, 7, .inl f11)), ((Rf 12), .inl (cI, 7, .inl f12))] H → va_D A [((Rf 38), .inl (cI, 8, .inl w_44m2)), ((Rf 39), .inl (cI, 7, .inl w_44m3)), (h, .inr (10, ML w_44m0 Rf)), ((Rf 0), .inl (cI, 1302, .inl w_44m1)), ((Rf 10), .inl (cI, 30, .inl f10)), ((Rf 8), .inl (cI, 6, .inl f8)), ((Rf 11), .inl (cI, 7, .inl f11)), ((Rf 12), .inl (cI, 7, .inl f12))] → va_S A s.heap H locs → lv_has ls 6 [(5, .int w_44l5), (1, .int (w_4l1 + 1)), (2, .int (w_4l2 + 1)), (4, .int ((42 + (42 * w_4l1)) + 42)), (3, .int (42 + (42 * w_4l1))), (0, .ref h)] → (S_m_findOrder_253 w_4l1 (fun (w_44l5 : Int32) (w_44m0 : (Nat → Int32)) (w_44m1 : (Nat → Int32)) (w_44m2 : (Nat → Int32)) (w_44m3 : (Nat → Int32)) => (vp_in (w_4l1 + 1) 8 ∧ (S_m_findOrder_28 f10 f8 f11 f12 (fun (w_4l2 : Int32) (w_4l1 : Int32) (w_4m0 : (Nat → Int32)) (w_4m1 : (Nat → Int32)) (w_4m2 : (Nat → Int32)) (w_4m3 : (Nat → Int32)) => True) n_w_4 (w_4l2 + 1) (w_4l1 + 1) w_44m0 w_44m1 (upd w_44m2 ((w_4l1 + 1) : Int32).toNatClampNeg (-1)) w_44m3))) n_w_44 w_44l5 w_44m0 w_44m1 w_44m2 w_44m3) → ((match ((match ((f_m_findOrder_253 w_4l1 n_w_44 w_44l5 w_44m0 w_44m1 w_44m2 w_44m3) : Int32 × (Nat → Int32) × (Nat → Int32) × (Nat → Int32) × (Nat → Int32)) with | (w_44l5, w_44m0, w_44m1, w_44m2, w_44m3) => (f_m_findOrder_28 f10 f8 f11 f12 n_w_4 (w_4l2 + 1) (w_4l1 + 1) w_44m0 w_44m1 (upd w_44m2 ((w_4l1 + 1) : Int32).toNatClampNeg (-1)) w_44m3)) : Int32 × Int32 × (Nat → Int32) × (Nat → Int32) × (Nat → Int32) × (Nat → Int32)) with | (w_4l2, w_4l1, w_4m0, w_4m1, w_4m2, w_4m3) => (w_4m0, w_4m1, w_4m2, w_4m3)) : (Nat → Int32) × (Nat → Int32) × (Nat → Int32) × (Nat → Int32)) = RES → W p l e rm_m_findOrder s m args below meth c H locs 0 0 Q (F0 m 253 ls []) := by
                        intro n_w_44
                        induction n_w_44 with
                        | zero => intro w_44l5 w_44m0 w_44m1 w_44m2 w_44m3 H locs ls hP hD hS hl hF hE; exact False.elim hF
                        | succ n_w_44 ih_w_44 =>
                          intro w_44l5 w_44m0 w_44m1 w_44m2 w_44m3 H locs ls hP hD hS hl hF hE
                          rw [S_m_findOrder_253_s] at hF
                          rw [f_m_findOrder_253_s] at hE
                          refine lv_iload hx hb dX10_findOrder_253 (lv_at hl 0 rfl) ?_
                          refine lv_iload_n hx hb dX10_findOrder_255 rfl (lv_at hl 1 rfl) ?_
                          refine lv_icmp_ge (tgt := 279) hx hb dX10_findOrder_256 rfl (fun c_46 => ?_) (fun c_46 => ?_)
                          · replace hF := hF.1 c_46
                            rw [if_pos c_46] at hE
                            exact ex_253_w_44 w_44l5 w_44m0 w_44m1 w_44m2 w_44m3 _ _ ls hP hD hS (lv_sub hl [0, 1, 2, 3, 4, 5] rfl) hF hE
                          · replace hF := hF.2 c_46
                            rw [if_neg c_46] at hE
                            refine lv_aload_n hx hb dX10_findOrder_259 rfl (lv_at hl 5 rfl) ?_
                            refine va_get (D := D) (ci := 10) (v := .ref (Rf 39)) (C := RX10) (T := TX10) (N := 45) hx hb hts iX10 hown hK hP 2 rfl rfl 39 (Nat.le_of_ble_eq_true rfl) (hts _ wd_676) (fun _ h9 => h9) rfl dX10_findOrder_260 ?_
                            refine lv_iload hx hb dX10_findOrder_263 (lv_at hl 0 rfl) ?_
                            refine lv_aload_n hx hb dX10_findOrder_265 rfl (lv_at hl 5 rfl) ?_
                            refine va_get (D := D) (ci := 10) (v := .ref (Rf 38)) (C := RX10) (T := TX10) (N := 45) hx hb hts iX10 hown hK hP 2 rfl rfl 38 (Nat.le_of_ble_eq_true rfl) (hts _ wd_675) (fun _ h9 => h9) rfl dX10_findOrder_266 ?_
                            refine lv_iload hx hb dX10_findOrder_269 (lv_at hl 0 rfl) ?_
                            obtain ⟨hv_47, hF⟩ := hF
                            refine va_iald hx hb hK hP 0 0 rfl rfl hv_47 dX10_findOrder_271 ?_
                            obtain ⟨hv_48, hF⟩ := hF
                            refine va_iast hx hb hK hP hD hS 1 0 rfl rfl hv_48 dX10_findOrder_272 (fun H locs hP hD hS => ?_)
                            have hP : va_P D classes [((Rf 38), .inl (cI, 8, .inl w_44m2)), ((Rf 39), .inl (cI, 7, .inl (upd w_44m3 (w_44l5 : Int32).toNatClampNeg (w_44m2 (w_44l5 : Int32).toNatClampNeg)))), (h, .inr (10, ML w_44m0 Rf)), ((Rf 0), .inl (cI, 1302, .inl w_44m1)), ((Rf 10), .inl (cI, 30, .inl f10)), ((Rf 8), .inl (cI, 6, .inl f8)), ((Rf 11), .inl (cI, 7, .inl f11)), ((Rf 12), .inl (cI, 7, .inl f12))] H := hP
                            have hD : va_D A [((Rf 38), .inl (cI, 8, .inl w_44m2)), ((Rf 39), .inl (cI, 7, .inl (upd w_44m3 (w_44l5 : Int32).toNatClampNeg (w_44m2 (w_44l5 : Int32).toNatClampNeg)))), (h, .inr (10, ML w_44m0 Rf)), ((Rf 0), .inl (cI, 1302, .inl w_44m1)), ((Rf 10), .inl (cI, 30, .inl f10)), ((Rf 8), .inl (cI, 6, .inl f8)), ((Rf 11), .inl (cI, 7, .inl f11)), ((Rf 12), .inl (cI, 7, .inl f12))] := hD
                            refine lv_iinc (v := (w_44l5 + 1)) (lv' := [(5, .int (w_44l5 + 1)), (1, .int (w_4l1 + 1)), (2, .int (w_4l2 + 1)), (4, .int ((42 + (42 * w_4l1)) + 42)), (3, .int (42 + (42 * w_4l1))), (0, .ref h)]) hx hb dX10_findOrder_273 hl (k := 0) rfl rfl (Nat.le_of_ble_eq_true rfl) rfl (fun ls hl => ?_)
                            refine lv_goto (tgt := 253) hx hb dX10_findOrder_276 rfl ?_
                            exact ih_w_44 (w_44l5 + 1) w_44m0 w_44m1 w_44m2 (upd w_44m3 (w_44l5 : Int32).toNatClampNeg (w_44m2 (w_44l5 : Int32).toNatClampNeg)) _ _ ls hP hD hS (lv_sub hl [0, 1, 2, 3, 4, 5] rfl) hF hE
                      exact lp_253_w_44 10 0 (upd (upd o_25 41 (w_4l2 + 1)) 40 (w_4l1 + 1)) o_26 (upd w_4m2 (w_4l1 : Int32).toNatClampNeg ((w_4m2 (w_4l1 : Int32).toNatClampNeg) + 1)) w_4m3 _ _ ls hP hD hS hl hF hE
          · replace hF := hF.1 c_14
            rw [if_pos c_14] at hE
            refine lv_iinc (v := (w_4l1 + (-1))) (lv' := [(1, .int (w_4l1 + (-1))), (3, .int (42 + (42 * w_4l1))), (2, .int w_4l2), (0, .ref h)]) hx hb dX10_findOrder_69 hl (k := 2) rfl rfl (Nat.le_of_ble_eq_true rfl) rfl (fun ls hl => ?_)
            refine lv_iload_n hx hb dX10_findOrder_72 rfl (lv_at hl 2 rfl) ?_
            refine lv_iload_n hx hb dX10_findOrder_73 rfl (lv_at hl 0 rfl) ?_
            refine lv_if_lt (tgt := 109) hx hb dX10_findOrder_74 rfl (fun c_49 => ?_) (fun c_49 => ?_)
            · replace hF := hF.1 c_49
              rw [if_pos c_49] at hE
              refine lv_iconst (v := 0) hx hb dX10_findOrder_109 rfl ?_
              refine lv_isub hx hb dX10_findOrder_110 ?_
              refine lv_istore_n (lv' := [(2, .int (w_4l2 - 0)), (1, .int (w_4l1 + (-1))), (3, .int (42 + (42 * w_4l1))), (0, .ref h)]) hx hb dX10_findOrder_111 rfl hl (Nat.le_of_ble_eq_true rfl) rfl (fun ls hl => ?_)
              refine lv_goto (tgt := 286) hx hb dX10_findOrder_112 rfl ?_
              refine lv_goto (tgt := 28) hx hb dX10_findOrder_286 rfl ?_
              exact ih_w_4 (w_4l2 - 0) (w_4l1 + (-1)) w_4m0 w_4m1 (upd w_4m2 (w_4l1 : Int32).toNatClampNeg ((w_4m2 (w_4l1 : Int32).toNatClampNeg) + 1)) w_4m3 _ _ ls hP hD hS (lv_sub hl [0, 1, 3] rfl) hF hE
            · replace hF := hF.2 c_49
              rw [if_neg c_49] at hE
              refine lv_aload_n hx hb dX10_findOrder_77 rfl (lv_at hl 3 rfl) ?_
              refine va_get (D := D) (ci := 10) (v := .ref (Rf 0)) (C := RX10) (T := TX10) (N := 45) hx hb hts iX10 hown hK hP 6 rfl rfl 0 (Nat.le_of_ble_eq_true rfl) (hts _ wd_491) (fun _ h9 => h9) rfl dX10_findOrder_78 ?_
              refine lv_bipush (v := 42) hx hb dX10_findOrder_81 rfl ?_
              refine lv_bipush (v := 42) hx hb dX10_findOrder_83 rfl ?_
              refine lv_iload_n hx hb dX10_findOrder_85 rfl (lv_at hl 0 rfl) ?_
              refine lv_iconst (v := 1) hx hb dX10_findOrder_86 rfl ?_
              refine lv_iadd hx hb dX10_findOrder_87 ?_
              refine lv_imul hx hb dX10_findOrder_88 ?_
              refine lv_iadd hx hb dX10_findOrder_89 ?_
              refine lv_bipush (v := 20) hx hb dX10_findOrder_90 rfl ?_
              refine lv_iadd hx hb dX10_findOrder_92 ?_
              refine lv_aload_n hx hb dX10_findOrder_93 rfl (lv_at hl 3 rfl) ?_
              refine va_get (D := D) (ci := 10) (v := .ref (Rf 38)) (C := RX10) (T := TX10) (N := 45) hx hb hts iX10 hown hK hP 6 rfl rfl 38 (Nat.le_of_ble_eq_true rfl) (hts _ wd_675) (fun _ h9 => h9) rfl dX10_findOrder_94 ?_
              refine lv_iload_n hx hb dX10_findOrder_97 rfl (lv_at hl 0 rfl) ?_
              obtain ⟨hv_50, hF⟩ := hF
              refine va_iald hx hb hK hP 4 0 rfl rfl hv_50 dX10_findOrder_98 ?_
              refine lv_iadd hx hb dX10_findOrder_99 ?_
              obtain ⟨hv_51, hF⟩ := hF
              refine va_iald hx hb hK hP 7 0 rfl rfl hv_51 dX10_findOrder_100 ?_
              refine lv_iconst (v := 1) hx hb dX10_findOrder_101 rfl ?_
              refine lv_icmp_ne (tgt := 109) hx hb dX10_findOrder_102 rfl (fun c_52 => ?_) (fun c_52 => ?_)
              · replace hF := hF.2 c_52
                rw [if_neg c_52] at hE
                refine lv_iconst (v := 0) hx hb dX10_findOrder_109 rfl ?_
                refine lv_isub hx hb dX10_findOrder_110 ?_
                refine lv_istore_n (lv' := [(2, .int (w_4l2 - 0)), (1, .int (w_4l1 + (-1))), (3, .int (42 + (42 * w_4l1))), (0, .ref h)]) hx hb dX10_findOrder_111 rfl hl (Nat.le_of_ble_eq_true rfl) rfl (fun ls hl => ?_)
                refine lv_goto (tgt := 286) hx hb dX10_findOrder_112 rfl ?_
                refine lv_goto (tgt := 28) hx hb dX10_findOrder_286 rfl ?_
                exact ih_w_4 (w_4l2 - 0) (w_4l1 + (-1)) w_4m0 w_4m1 (upd w_4m2 (w_4l1 : Int32).toNatClampNeg ((w_4m2 (w_4l1 : Int32).toNatClampNeg) + 1)) w_4m3 _ _ ls hP hD hS (lv_sub hl [0, 1, 3] rfl) hF hE
              · replace hF := hF.1 c_52
                rw [if_pos c_52] at hE
                refine lv_iconst (v := 1) hx hb dX10_findOrder_105 rfl ?_
                refine lv_goto (tgt := 110) hx hb dX10_findOrder_106 rfl ?_
                refine lv_isub hx hb dX10_findOrder_110 ?_
                refine lv_istore_n (lv' := [(2, .int (w_4l2 - 1)), (1, .int (w_4l1 + (-1))), (3, .int (42 + (42 * w_4l1))), (0, .ref h)]) hx hb dX10_findOrder_111 rfl hl (Nat.le_of_ble_eq_true rfl) rfl (fun ls hl => ?_)
                refine lv_goto (tgt := 286) hx hb dX10_findOrder_112 rfl ?_
                refine lv_goto (tgt := 28) hx hb dX10_findOrder_286 rfl ?_
                exact ih_w_4 (w_4l2 - 1) (w_4l1 + (-1)) w_4m0 w_4m1 (upd w_4m2 (w_4l1 : Int32).toNatClampNeg ((w_4m2 (w_4l1 : Int32).toNatClampNeg) + 1)) w_4m3 _ _ ls hP hD hS (lv_sub hl [0, 1, 3] rfl) hF hE
  exact lp_28_w_4 1000000000000 0 0 (upd (upd G 40 0) 41 0) (f_m_copy f0 0 42) (upd f38 (0 : Int32).toNatClampNeg (-1)) f39 _ _ ls hP hD hS hl hF hE
noncomputable def f_m_order (G : Nat → Int32) (f0 : Nat → Int32) (f10 : Nat → Int32) (f8 : Nat → Int32) (f11 : Nat → Int32) (f12 : Nat → Int32) (f38 : Nat → Int32) (f39 : Nat → Int32) (i_ : Int32) : Int32 × (Nat → Int32) × (Nat → Int32) × (Nat → Int32) × (Nat → Int32) := (match (f_m_findOrder G f0 f10 f8 f11 f12 f38 f39) with | (o_4, o_5, o_6, o_7) => (if i_ = (-1) then ((o_4 41), o_4, o_5, o_6, o_7) else (if (f_m_in i_.toInt64 0 ((((o_4 40) - 1)).toInt64)) = 0 then ((-1), o_4, o_5, o_6, o_7) else ((o_7 (i_ : Int32).toNatClampNeg), o_4, o_5, o_6, o_7))))
def S_m_order (G : Nat → Int32) (f0 : Nat → Int32) (f10 : Nat → Int32) (f8 : Nat → Int32) (f11 : Nat → Int32) (f12 : Nat → Int32) (f38 : Nat → Int32) (f39 : Nat → Int32) (i_ : Int32) : Prop := ((S_m_findOrder G f0 f10 f8 f11 f12 f38 f39) ∧ (∀ (o_4 : (Nat → Int32)) (o_5 : (Nat → Int32)) (o_6 : (Nat → Int32)) (o_7 : (Nat → Int32)), (o_4, o_5, o_6, o_7) = (f_m_findOrder G f0 f10 f8 f11 f12 f38 f39) → ((i_ = (-1) → True) ∧ (¬ i_ = (-1) → ((S_m_in i_.toInt64 0 ((((o_4 40) - 1)).toInt64)) ∧ (((f_m_in i_.toInt64 0 ((((o_4 40) - 1)).toInt64)) = 0 → True) ∧ (¬ (f_m_in i_.toInt64 0 ((((o_4 40) - 1)).toInt64)) = 0 → (vp_in i_ 7 ∧ True))))))))
def rm_m_order : Room := { frames := 4, cells := 0, slots := 0, locals := 100 }
set_option maxHeartbeats 4000000 in
set_option maxRecDepth 100000 in
theorem m_order {l : Launch} {D : va_G} {cI cZ : ClassId} {sz : Nat} (Rf : Nat → Nat) (h : Nat) (G : Nat → Int32) (f0 : Nat → Int32) (f10 : Nat → Int32) (f8 : Nat → Int32) (f11 : Nat → Int32) (f12 : Nat → Int32) (f38 : Nat → Int32) (f39 : Nat → Int32) (i_ : Int32) (hF : S_m_order G f0 f10 f8 f11 f12 f38 f39 i_) : KI l yX10_order cX10_order 2 (some .int) rm_m_order D cI cZ [.ref h, .int i_] sz [(h, .inr (10, ML G Rf)), ((Rf 0), .inl (cI, 1302, .inl f0)), ((Rf 10), .inl (cI, 30, .inl f10)), ((Rf 8), .inl (cI, 6, .inl f8)), ((Rf 11), .inl (cI, 7, .inl f11)), ((Rf 12), .inl (cI, 7, .inl f12)), ((Rf 38), .inl (cI, 8, .inl f38)), ((Rf 39), .inl (cI, 7, .inl f39))] (fun (r : Int32) (u : (Nat → Int32) × (Nat → Int32) × (Nat → Int32) × (Nat → Int32)) => (r, u) = f_m_order G f0 f10 f8 f11 f12 f38 f39 i_) (fun (u : (Nat → Int32) × (Nat → Int32) × (Nat → Int32) × (Nat → Int32)) => [(h, .inr (10, ML u.1 Rf)), ((Rf 0), .inl (cI, 1302, .inl u.2.1)), ((Rf 10), .inl (cI, 30, .inl f10)), ((Rf 8), .inl (cI, 6, .inl f8)), ((Rf 11), .inl (cI, 7, .inl f11)), ((Rf 12), .inl (cI, 7, .inl f12)), ((Rf 38), .inl (cI, 8, .inl u.2.2.1)), ((Rf 39), .inl (cI, 7, .inl u.2.2.2))]) := by
  refine KI.go rfl (Nat.le_of_ble_eq_true rfl) ?_
  intro p e s m args below meth c ls A Q hx hb hml hts hown hin hP hK hD hS hA hN hl hret
  have hl : lv_has ls 2 [(0, .ref h), (1, .int i_)] := hl
  rw [S_m_order] at hF
  obtain ⟨RES, hE⟩ : ∃ xRES, f_m_order G f0 f10 f8 f11 f12 f38 f39 i_ = xRES := ⟨_, rfl⟩
  rw [hE] at hret
  rw [f_m_order] at hE
  refine lv_aload_n hx hb dX10_order_0 rfl (lv_at hl 0 rfl) ?_
  obtain ⟨hs_1, hF⟩ := hF
  refine cVv (wr := []) (rest := []) (m_findOrder Rf h G f0 f10 f8 f11 f12 f38 f39 hs_1) okV_X10_findOrder wd_677 hx hb hml hown hts hK hP hD hS hA hN hl.1 [0, 1, 2, 3, 4, 5, 6, 7] [] rfl rfl rfl rfl (of_decide_eq_true rfl) rfl rfl rfl (Nat.le_of_ble_eq_true rfl) (Nat.le_of_ble_eq_true rfl) (Nat.le_of_ble_eq_true rfl) (Nat.le_of_ble_eq_true rfl) (Nat.le_of_ble_eq_true rfl) dX10_order_1 (fun u_2 H locs hw_u_2 hP hD hS => ?_)
  obtain ⟨o_4, o_5, o_6, o_7⟩ := u_2
  replace hw_u_2 : (o_4, o_5, o_6, o_7) = (f_m_findOrder G f0 f10 f8 f11 f12 f38 f39) := hw_u_2
  replace hF := hF o_4 o_5 o_6 o_7 hw_u_2
  rw [← hw_u_2] at hE
  replace hE : ((if i_ = (-1) then ((o_4 41), o_4, o_5, o_6, o_7) else (if (f_m_in i_.toInt64 0 ((((o_4 40) - 1)).toInt64)) = 0 then ((-1), o_4, o_5, o_6, o_7) else ((o_7 (i_ : Int32).toNatClampNeg), o_4, o_5, o_6, o_7))) : Int32 × (Nat → Int32) × (Nat → Int32) × (Nat → Int32) × (Nat → Int32)) = RES := hE
  have hP : va_P D classes [(h, .inr (10, ML o_4 Rf)), ((Rf 0), .inl (cI, 1302, .inl o_5)), ((Rf 10), .inl (cI, 30, .inl f10)), ((Rf 8), .inl (cI, 6, .inl f8)), ((Rf 11), .inl (cI, 7, .inl f11)), ((Rf 12), .inl (cI, 7, .inl f12)), ((Rf 38), .inl (cI, 8, .inl o_6)), ((Rf 39), .inl (cI, 7, .inl o_7))] H := hP
  have hD : va_D A [(h, .inr (10, ML o_4 Rf)), ((Rf 0), .inl (cI, 1302, .inl o_5)), ((Rf 10), .inl (cI, 30, .inl f10)), ((Rf 8), .inl (cI, 6, .inl f8)), ((Rf 11), .inl (cI, 7, .inl f11)), ((Rf 12), .inl (cI, 7, .inl f12)), ((Rf 38), .inl (cI, 8, .inl o_6)), ((Rf 39), .inl (cI, 7, .inl o_7))] := hD
  refine lv_iload_n hx hb dX10_order_4 rfl (lv_at hl 1 rfl) ?_
  refine lv_iconst (v := (-1)) hx hb dX10_order_5 rfl ?_
  refine lv_icmp_ne (tgt := 16) hx hb dX10_order_6 rfl (fun c_8 => ?_) (fun c_8 => ?_)
  · replace hF := hF.2 c_8
    rw [if_neg c_8] at hE
    refine lv_iload_n hx hb dX10_order_16 rfl (lv_at hl 1 rfl) ?_
    refine lv_i2l (v := i_.toInt64) hx hb dX10_order_17 rfl ?_
    refine lv_lconst (v := 0) hx hb dX10_order_18 rfl ?_
    refine lv_aload_n hx hb dX10_order_19 rfl (lv_at hl 0 rfl) ?_
    refine va_get (D := D) (ci := 10) (v := .int (o_4 40)) (C := RX10) (T := TX10) (N := 45) hx hb hts iX10 hown hK hP 0 rfl rfl 40 (Nat.le_of_ble_eq_true rfl) (hts _ wd_673) (fun _ h9 => h9) rfl dX10_order_20 ?_
    refine lv_iconst (v := 1) hx hb dX10_order_23 rfl ?_
    refine lv_isub hx hb dX10_order_24 ?_
    refine lv_i2l (v := (((o_4 40) - 1)).toInt64) hx hb dX10_order_25 rfl ?_
    obtain ⟨hs_9, hF⟩ := hF
    refine cSi (wr := [(h, .inr (10, ML o_4 Rf)), ((Rf 0), .inl (cI, 1302, .inl o_5)), ((Rf 10), .inl (cI, 30, .inl f10)), ((Rf 8), .inl (cI, 6, .inl f8)), ((Rf 11), .inl (cI, 7, .inl f11)), ((Rf 12), .inl (cI, 7, .inl f12)), ((Rf 38), .inl (cI, 8, .inl o_6)), ((Rf 39), .inl (cI, 7, .inl o_7))]) (rest := []) (m_in i_.toInt64 0 ((((o_4 40) - 1)).toInt64) hs_9) okS_X10_in wd_495 hx hb hml hown hts hK hP hD hS hA hN hl.1 [] [0, 1, 2, 3, 4, 5, 6, 7] rfl rfl rfl rfl (of_decide_eq_true rfl) rfl (Nat.le_of_ble_eq_true rfl) (Nat.le_of_ble_eq_true rfl) (Nat.le_of_ble_eq_true rfl) (Nat.le_of_ble_eq_true rfl) (Nat.le_of_ble_eq_true rfl) dX10_order_26 (fun r_11 u_10 H locs hw_u_10 hP hD hS => ?_)
    replace hw_u_10 : r_11 = (f_m_in i_.toInt64 0 ((((o_4 40) - 1)).toInt64)) := hw_u_10
    rw [hw_u_10]
    clear hw_u_10
    have hP : va_P D classes [(h, .inr (10, ML o_4 Rf)), ((Rf 0), .inl (cI, 1302, .inl o_5)), ((Rf 10), .inl (cI, 30, .inl f10)), ((Rf 8), .inl (cI, 6, .inl f8)), ((Rf 11), .inl (cI, 7, .inl f11)), ((Rf 12), .inl (cI, 7, .inl f12)), ((Rf 38), .inl (cI, 8, .inl o_6)), ((Rf 39), .inl (cI, 7, .inl o_7))] H := hP
    have hD : va_D A [(h, .inr (10, ML o_4 Rf)), ((Rf 0), .inl (cI, 1302, .inl o_5)), ((Rf 10), .inl (cI, 30, .inl f10)), ((Rf 8), .inl (cI, 6, .inl f8)), ((Rf 11), .inl (cI, 7, .inl f11)), ((Rf 12), .inl (cI, 7, .inl f12)), ((Rf 38), .inl (cI, 8, .inl o_6)), ((Rf 39), .inl (cI, 7, .inl o_7))] := hD
    refine lv_if_eq (tgt := 41) hx hb dX10_order_29 rfl (fun c_12 => ?_) (fun c_12 => ?_)
    · replace hF := hF.1 c_12
      rw [if_pos c_12] at hE
      refine lv_iconst (v := (-1)) hx hb dX10_order_41 rfl ?_
      exact hret (-1) (o_4, o_5, o_6, o_7) _ _ _ _ dX10_order_42 rfl hE hP hD hS
    · replace hF := hF.2 c_12
      rw [if_neg c_12] at hE
      refine lv_aload_n hx hb dX10_order_32 rfl (lv_at hl 0 rfl) ?_
      refine va_get (D := D) (ci := 10) (v := .ref (Rf 39)) (C := RX10) (T := TX10) (N := 45) hx hb hts iX10 hown hK hP 0 rfl rfl 39 (Nat.le_of_ble_eq_true rfl) (hts _ wd_676) (fun _ h9 => h9) rfl dX10_order_33 ?_
      refine lv_iload_n hx hb dX10_order_36 rfl (lv_at hl 1 rfl) ?_
      obtain ⟨hv_13, hF⟩ := hF
      refine va_iald hx hb hK hP 7 0 rfl rfl hv_13 dX10_order_37 ?_
      refine lv_goto (tgt := 42) hx hb dX10_order_38 rfl ?_
      exact hret (o_7 (i_ : Int32).toNatClampNeg) (o_4, o_5, o_6, o_7) _ _ _ _ dX10_order_42 rfl hE hP hD hS
  · replace hF := hF.1 c_8
    rw [if_pos c_8] at hE
    refine lv_aload_n hx hb dX10_order_9 rfl (lv_at hl 0 rfl) ?_
    refine va_get (D := D) (ci := 10) (v := .int (o_4 41)) (C := RX10) (T := TX10) (N := 45) hx hb hts iX10 hown hK hP 0 rfl rfl 41 (Nat.le_of_ble_eq_true rfl) (hts _ wd_674) (fun _ h9 => h9) rfl dX10_order_10 ?_
    refine lv_goto (tgt := 42) hx hb dX10_order_13 rfl ?_
    exact hret (o_4 41) (o_4, o_5, o_6, o_7) _ _ _ _ dX10_order_42 rfl hE hP hD hS
end
section
def fw_cX10_town : List (List Nat) := [[42, 3, 181, 0, 98, 42, 3, 181, 0, 108, 42, 2, 181, 0, 39, 42, 3, 181], [3, 181, 0, 126, 42, 4, 181, 0, 136, 42, 3, 181, 0, 132, 42, 3, 181, 0], [181, 0, 139, 42, 3, 181, 0, 146, 42, 3, 181, 0, 152, 42, 3, 181, 0, 149], [0, 149, 4, 60, 27, 153, 0, 19, 42, 182, 0, 111, 2, 159, 0, 11, 42, 182], [42, 182, 0, 171, 60, 167, 255, 239, 42, 3, 181, 0, 94, 27, 154, 0, 11, 16], [11, 16, 246, 42, 180, 0, 108, 100, 172, 42, 42, 180, 0, 126, 181, 0, 81, 42], [81, 42, 42, 180, 0, 136, 181, 0, 17, 42, 42, 180, 0, 139, 181, 0, 78, 42], [78, 42, 42, 180, 0, 146, 181, 0, 88, 42, 42, 180, 0, 152, 181, 0, 174, 3], [174, 3, 61, 28, 16, 6, 162, 0, 33, 42, 180, 0, 21, 28, 42, 180, 0, 42], [0, 42, 28, 46, 79, 42, 180, 0, 24, 28, 42, 180, 0, 45, 28, 46, 79, 132], [79, 132, 2, 1, 167, 255, 223, 3, 61, 28, 16, 30, 162, 0, 21, 42, 180, 0], [180, 0, 27, 28, 42, 180, 0, 48, 28, 46, 79, 132, 2, 1, 167, 255, 235, 3], [235, 3, 61, 28, 16, 7, 162, 0, 33, 42, 180, 0, 30, 28, 42, 180, 0, 51], [0, 51, 28, 46, 79, 42, 180, 0, 33, 28, 42, 180, 0, 54, 28, 46, 79, 132], [79, 132, 2, 1, 167, 255, 223, 42, 182, 0, 75, 42, 3, 181, 0, 177, 42, 3], [42, 3, 181, 0, 180, 42, 180, 0, 13, 3, 3, 84, 42, 180, 0, 13, 4, 3], [4, 3, 84, 42, 180, 0, 81, 172]]
theorem fW_cX10_town : fq_wins 17 cX10_town.data.toList = fw_cX10_town := by decide +kernel
theorem fk_cX10_town_0 : fq_ck cX10_town 0 [42, 3, 181, 0, 98, 42, 3, 181, 0, 108, 42, 2, 181, 0, 39, 42, 3, 181] := fq_of fW_cX10_town 0 rfl rfl
theorem dX10_town_0 : decode cX10_town 0 = .ok (.aload_n 0, 1) := fq_42 fk_cX10_town_0 0 rfl rfl
theorem dX10_town_1 : decode cX10_town 1 = .ok (.iconst 0, 1) := fq_3 fk_cX10_town_0 1 rfl rfl
theorem dX10_town_2 : decode cX10_town 2 = .ok (.putfield 98, 3) := fq_181 fk_cX10_town_0 2 rfl rfl rfl rfl rfl
theorem dX10_town_5 : decode cX10_town 5 = .ok (.aload_n 0, 1) := fq_42 fk_cX10_town_0 5 rfl rfl
theorem dX10_town_6 : decode cX10_town 6 = .ok (.iconst 0, 1) := fq_3 fk_cX10_town_0 6 rfl rfl
theorem dX10_town_7 : decode cX10_town 7 = .ok (.putfield 108, 3) := fq_181 fk_cX10_town_0 7 rfl rfl rfl rfl rfl
theorem dX10_town_10 : decode cX10_town 10 = .ok (.aload_n 0, 1) := fq_42 fk_cX10_town_0 10 rfl rfl
theorem dX10_town_11 : decode cX10_town 11 = .ok (.iconst (-1), 1) := fq_2 fk_cX10_town_0 11 rfl rfl
theorem dX10_town_12 : decode cX10_town 12 = .ok (.putfield 39, 3) := fq_181 fk_cX10_town_0 12 rfl rfl rfl rfl rfl
theorem dX10_town_15 : decode cX10_town 15 = .ok (.aload_n 0, 1) := fq_42 fk_cX10_town_0 15 rfl rfl
theorem fk_cX10_town_1 : fq_ck cX10_town 16 [3, 181, 0, 126, 42, 4, 181, 0, 136, 42, 3, 181, 0, 132, 42, 3, 181, 0] := fq_of fW_cX10_town 1 rfl rfl
theorem dX10_town_16 : decode cX10_town 16 = .ok (.iconst 0, 1) := fq_3 fk_cX10_town_1 0 rfl rfl
theorem dX10_town_17 : decode cX10_town 17 = .ok (.putfield 126, 3) := fq_181 fk_cX10_town_1 1 rfl rfl rfl rfl rfl
theorem dX10_town_20 : decode cX10_town 20 = .ok (.aload_n 0, 1) := fq_42 fk_cX10_town_1 4 rfl rfl
theorem dX10_town_21 : decode cX10_town 21 = .ok (.iconst 1, 1) := fq_4 fk_cX10_town_1 5 rfl rfl
theorem dX10_town_22 : decode cX10_town 22 = .ok (.putfield 136, 3) := fq_181 fk_cX10_town_1 6 rfl rfl rfl rfl rfl
theorem dX10_town_25 : decode cX10_town 25 = .ok (.aload_n 0, 1) := fq_42 fk_cX10_town_1 9 rfl rfl
theorem dX10_town_26 : decode cX10_town 26 = .ok (.iconst 0, 1) := fq_3 fk_cX10_town_1 10 rfl rfl
theorem dX10_town_27 : decode cX10_town 27 = .ok (.putfield 132, 3) := fq_181 fk_cX10_town_1 11 rfl rfl rfl rfl rfl
theorem dX10_town_30 : decode cX10_town 30 = .ok (.aload_n 0, 1) := fq_42 fk_cX10_town_1 14 rfl rfl
theorem dX10_town_31 : decode cX10_town 31 = .ok (.iconst 0, 1) := fq_3 fk_cX10_town_1 15 rfl rfl
theorem fk_cX10_town_2 : fq_ck cX10_town 32 [181, 0, 139, 42, 3, 181, 0, 146, 42, 3, 181, 0, 152, 42, 3, 181, 0, 149] := fq_of fW_cX10_town 2 rfl rfl
theorem dX10_town_32 : decode cX10_town 32 = .ok (.putfield 139, 3) := fq_181 fk_cX10_town_2 0 rfl rfl rfl rfl rfl
theorem dX10_town_35 : decode cX10_town 35 = .ok (.aload_n 0, 1) := fq_42 fk_cX10_town_2 3 rfl rfl
theorem dX10_town_36 : decode cX10_town 36 = .ok (.iconst 0, 1) := fq_3 fk_cX10_town_2 4 rfl rfl
theorem dX10_town_37 : decode cX10_town 37 = .ok (.putfield 146, 3) := fq_181 fk_cX10_town_2 5 rfl rfl rfl rfl rfl
theorem dX10_town_40 : decode cX10_town 40 = .ok (.aload_n 0, 1) := fq_42 fk_cX10_town_2 8 rfl rfl
theorem dX10_town_41 : decode cX10_town 41 = .ok (.iconst 0, 1) := fq_3 fk_cX10_town_2 9 rfl rfl
theorem dX10_town_42 : decode cX10_town 42 = .ok (.putfield 152, 3) := fq_181 fk_cX10_town_2 10 rfl rfl rfl rfl rfl
theorem dX10_town_45 : decode cX10_town 45 = .ok (.aload_n 0, 1) := fq_42 fk_cX10_town_2 13 rfl rfl
theorem dX10_town_46 : decode cX10_town 46 = .ok (.iconst 0, 1) := fq_3 fk_cX10_town_2 14 rfl rfl
theorem dX10_town_47 : decode cX10_town 47 = .ok (.putfield 149, 3) := fq_181 fk_cX10_town_2 15 rfl rfl rfl rfl rfl
theorem fk_cX10_town_3 : fq_ck cX10_town 48 [0, 149, 4, 60, 27, 153, 0, 19, 42, 182, 0, 111, 2, 159, 0, 11, 42, 182] := fq_of fW_cX10_town 3 rfl rfl
theorem dX10_town_50 : decode cX10_town 50 = .ok (.iconst 1, 1) := fq_4 fk_cX10_town_3 2 rfl rfl
theorem dX10_town_51 : decode cX10_town 51 = .ok (.istore_n 1, 1) := fq_60 fk_cX10_town_3 3 rfl rfl
theorem fk_cX10_town_4 : fq_ck cX10_town 64 [42, 182, 0, 171, 60, 167, 255, 239, 42, 3, 181, 0, 94, 27, 154, 0, 11, 16] := fq_of fW_cX10_town 4 rfl rfl
theorem dX10_town_72 : decode cX10_town 72 = .ok (.aload_n 0, 1) := fq_42 fk_cX10_town_4 8 rfl rfl
theorem dX10_town_73 : decode cX10_town 73 = .ok (.iconst 0, 1) := fq_3 fk_cX10_town_4 9 rfl rfl
theorem dX10_town_74 : decode cX10_town 74 = .ok (.putfield 94, 3) := fq_181 fk_cX10_town_4 10 rfl rfl rfl rfl rfl
theorem dX10_town_77 : decode cX10_town 77 = .ok (.iload_n 1, 1) := fq_27 fk_cX10_town_4 13 rfl rfl
theorem dX10_town_78 : decode cX10_town 78 = .ok (.ifCond .ne 11, 3) := fq_154 fk_cX10_town_4 14 rfl rfl rfl rfl rfl
theorem fk_cX10_town_5 : fq_ck cX10_town 80 [11, 16, 246, 42, 180, 0, 108, 100, 172, 42, 42, 180, 0, 126, 181, 0, 81, 42] := fq_of fW_cX10_town 5 rfl rfl
theorem dX10_town_89 : decode cX10_town 89 = .ok (.aload_n 0, 1) := fq_42 fk_cX10_town_5 9 rfl rfl
theorem dX10_town_90 : decode cX10_town 90 = .ok (.aload_n 0, 1) := fq_42 fk_cX10_town_5 10 rfl rfl
theorem dX10_town_91 : decode cX10_town 91 = .ok (.getfield 126, 3) := fq_180 fk_cX10_town_5 11 rfl rfl rfl rfl rfl
theorem dX10_town_94 : decode cX10_town 94 = .ok (.putfield 81, 3) := fq_181 fk_cX10_town_5 14 rfl rfl rfl rfl rfl
theorem fk_cX10_town_6 : fq_ck cX10_town 96 [81, 42, 42, 180, 0, 136, 181, 0, 17, 42, 42, 180, 0, 139, 181, 0, 78, 42] := fq_of fW_cX10_town 6 rfl rfl
theorem dX10_town_97 : decode cX10_town 97 = .ok (.aload_n 0, 1) := fq_42 fk_cX10_town_6 1 rfl rfl
theorem dX10_town_98 : decode cX10_town 98 = .ok (.aload_n 0, 1) := fq_42 fk_cX10_town_6 2 rfl rfl
theorem dX10_town_99 : decode cX10_town 99 = .ok (.getfield 136, 3) := fq_180 fk_cX10_town_6 3 rfl rfl rfl rfl rfl
theorem dX10_town_102 : decode cX10_town 102 = .ok (.putfield 17, 3) := fq_181 fk_cX10_town_6 6 rfl rfl rfl rfl rfl
theorem dX10_town_105 : decode cX10_town 105 = .ok (.aload_n 0, 1) := fq_42 fk_cX10_town_6 9 rfl rfl
theorem dX10_town_106 : decode cX10_town 106 = .ok (.aload_n 0, 1) := fq_42 fk_cX10_town_6 10 rfl rfl
theorem dX10_town_107 : decode cX10_town 107 = .ok (.getfield 139, 3) := fq_180 fk_cX10_town_6 11 rfl rfl rfl rfl rfl
theorem dX10_town_110 : decode cX10_town 110 = .ok (.putfield 78, 3) := fq_181 fk_cX10_town_6 14 rfl rfl rfl rfl rfl
theorem fk_cX10_town_7 : fq_ck cX10_town 112 [78, 42, 42, 180, 0, 146, 181, 0, 88, 42, 42, 180, 0, 152, 181, 0, 174, 3] := fq_of fW_cX10_town 7 rfl rfl
theorem dX10_town_113 : decode cX10_town 113 = .ok (.aload_n 0, 1) := fq_42 fk_cX10_town_7 1 rfl rfl
theorem dX10_town_114 : decode cX10_town 114 = .ok (.aload_n 0, 1) := fq_42 fk_cX10_town_7 2 rfl rfl
theorem dX10_town_115 : decode cX10_town 115 = .ok (.getfield 146, 3) := fq_180 fk_cX10_town_7 3 rfl rfl rfl rfl rfl
theorem dX10_town_118 : decode cX10_town 118 = .ok (.putfield 88, 3) := fq_181 fk_cX10_town_7 6 rfl rfl rfl rfl rfl
theorem dX10_town_121 : decode cX10_town 121 = .ok (.aload_n 0, 1) := fq_42 fk_cX10_town_7 9 rfl rfl
theorem dX10_town_122 : decode cX10_town 122 = .ok (.aload_n 0, 1) := fq_42 fk_cX10_town_7 10 rfl rfl
theorem dX10_town_123 : decode cX10_town 123 = .ok (.getfield 152, 3) := fq_180 fk_cX10_town_7 11 rfl rfl rfl rfl rfl
theorem dX10_town_126 : decode cX10_town 126 = .ok (.putfield 174, 3) := fq_181 fk_cX10_town_7 14 rfl rfl rfl rfl rfl
theorem fk_cX10_town_8 : fq_ck cX10_town 128 [174, 3, 61, 28, 16, 6, 162, 0, 33, 42, 180, 0, 21, 28, 42, 180, 0, 42] := fq_of fW_cX10_town 8 rfl rfl
theorem dX10_town_129 : decode cX10_town 129 = .ok (.iconst 0, 1) := fq_3 fk_cX10_town_8 1 rfl rfl
theorem dX10_town_130 : decode cX10_town 130 = .ok (.istore_n 2, 1) := fq_61 fk_cX10_town_8 2 rfl rfl
theorem fk_cX10_town_10 : fq_ck cX10_town 160 [79, 132, 2, 1, 167, 255, 223, 3, 61, 28, 16, 30, 162, 0, 21, 42, 180, 0] := fq_of fW_cX10_town 10 rfl rfl
theorem dX10_town_167 : decode cX10_town 167 = .ok (.iconst 0, 1) := fq_3 fk_cX10_town_10 7 rfl rfl
theorem dX10_town_168 : decode cX10_town 168 = .ok (.istore_n 2, 1) := fq_61 fk_cX10_town_10 8 rfl rfl
theorem fk_cX10_town_12 : fq_ck cX10_town 192 [235, 3, 61, 28, 16, 7, 162, 0, 33, 42, 180, 0, 30, 28, 42, 180, 0, 51] := fq_of fW_cX10_town 12 rfl rfl
theorem dX10_town_193 : decode cX10_town 193 = .ok (.iconst 0, 1) := fq_3 fk_cX10_town_12 1 rfl rfl
theorem dX10_town_194 : decode cX10_town 194 = .ok (.istore_n 2, 1) := fq_61 fk_cX10_town_12 2 rfl rfl
theorem fk_cX10_town_14 : fq_ck cX10_town 224 [79, 132, 2, 1, 167, 255, 223, 42, 182, 0, 75, 42, 3, 181, 0, 177, 42, 3] := fq_of fW_cX10_town 14 rfl rfl
theorem dX10_town_231 : decode cX10_town 231 = .ok (.aload_n 0, 1) := fq_42 fk_cX10_town_14 7 rfl rfl
theorem dX10_town_232 : decode cX10_town 232 = .ok (.invokevirtual 75, 3) := fq_182 fk_cX10_town_14 8 rfl rfl rfl rfl rfl
theorem wd_681 : Cond.methodLink RX10 75 yX10_begins ∈ BG := BG_at4 59 (by decide +kernel) rfl
theorem wd_682 : Cond.code yX10_begins cX10_begins 3 none ∈ BG := BG_at4 62 rfl rfl
theorem wd_683 : Cond.instanceMethod yX10_begins ∈ BG := BG_at4 61 (by decide +kernel) rfl
theorem wd_684 : Cond.selects RX10 yX10_begins yX10_begins ∈ BG := BG_in (by decide +kernel) rfl
theorem okV_X10_begins : okV yX10_begins cX10_begins 3 none 0 := ⟨⟨wd_682, wd_497, by decide +kernel⟩, wd_683, wd_684⟩
theorem dX10_town_235 : decode cX10_town 235 = .ok (.aload_n 0, 1) := fq_42 fk_cX10_town_14 11 rfl rfl
theorem dX10_town_236 : decode cX10_town 236 = .ok (.iconst 0, 1) := fq_3 fk_cX10_town_14 12 rfl rfl
theorem dX10_town_237 : decode cX10_town 237 = .ok (.putfield 177, 3) := fq_181 fk_cX10_town_14 13 rfl rfl rfl rfl rfl
theorem fk_cX10_town_15 : fq_ck cX10_town 240 [42, 3, 181, 0, 180, 42, 180, 0, 13, 3, 3, 84, 42, 180, 0, 13, 4, 3] := fq_of fW_cX10_town 15 rfl rfl
theorem dX10_town_240 : decode cX10_town 240 = .ok (.aload_n 0, 1) := fq_42 fk_cX10_town_15 0 rfl rfl
theorem dX10_town_241 : decode cX10_town 241 = .ok (.iconst 0, 1) := fq_3 fk_cX10_town_15 1 rfl rfl
theorem dX10_town_242 : decode cX10_town 242 = .ok (.putfield 180, 3) := fq_181 fk_cX10_town_15 2 rfl rfl rfl rfl rfl
theorem dX10_town_245 : decode cX10_town 245 = .ok (.aload_n 0, 1) := fq_42 fk_cX10_town_15 5 rfl rfl
theorem dX10_town_246 : decode cX10_town 246 = .ok (.getfield 13, 3) := fq_180 fk_cX10_town_15 6 rfl rfl rfl rfl rfl
theorem dX10_town_249 : decode cX10_town 249 = .ok (.iconst 0, 1) := fq_3 fk_cX10_town_15 9 rfl rfl
theorem dX10_town_250 : decode cX10_town 250 = .ok (.iconst 0, 1) := fq_3 fk_cX10_town_15 10 rfl rfl
theorem dX10_town_251 : decode cX10_town 251 = .ok (.bastore, 1) := fq_84 fk_cX10_town_15 11 rfl rfl
theorem dX10_town_252 : decode cX10_town 252 = .ok (.aload_n 0, 1) := fq_42 fk_cX10_town_15 12 rfl rfl
theorem dX10_town_253 : decode cX10_town 253 = .ok (.getfield 13, 3) := fq_180 fk_cX10_town_15 13 rfl rfl rfl rfl rfl
theorem fk_cX10_town_16 : fq_ck cX10_town 256 [4, 3, 84, 42, 180, 0, 81, 172] := fq_of fW_cX10_town 16 rfl rfl
theorem dX10_town_256 : decode cX10_town 256 = .ok (.iconst 1, 1) := fq_4 fk_cX10_town_16 0 rfl rfl
theorem dX10_town_257 : decode cX10_town 257 = .ok (.iconst 0, 1) := fq_3 fk_cX10_town_16 1 rfl rfl
theorem dX10_town_258 : decode cX10_town 258 = .ok (.bastore, 1) := fq_84 fk_cX10_town_16 2 rfl rfl
theorem dX10_town_259 : decode cX10_town 259 = .ok (.aload_n 0, 1) := fq_42 fk_cX10_town_16 3 rfl rfl
theorem dX10_town_260 : decode cX10_town 260 = .ok (.getfield 81, 3) := fq_180 fk_cX10_town_16 4 rfl rfl rfl rfl rfl
theorem dX10_town_263 : decode cX10_town 263 = .ok (.ireturn, 1) := fq_172 fk_cX10_town_16 7 rfl rfl
theorem dX10_town_195 : decode cX10_town 195 = .ok (.iload_n 2, 1) := fq_28 fk_cX10_town_12 3 rfl rfl
theorem dX10_town_196 : decode cX10_town 196 = .ok (.bipush 7, 2) := fq_16 fk_cX10_town_12 4 rfl rfl rfl rfl
theorem dX10_town_198 : decode cX10_town 198 = .ok (.if_icmp .ge 33, 3) := fq_162 fk_cX10_town_12 6 rfl rfl rfl rfl rfl
theorem dX10_town_201 : decode cX10_town 201 = .ok (.aload_n 0, 1) := fq_42 fk_cX10_town_12 9 rfl rfl
theorem dX10_town_202 : decode cX10_town 202 = .ok (.getfield 30, 3) := fq_180 fk_cX10_town_12 10 rfl rfl rfl rfl rfl
theorem dX10_town_205 : decode cX10_town 205 = .ok (.iload_n 2, 1) := fq_28 fk_cX10_town_12 13 rfl rfl
theorem dX10_town_206 : decode cX10_town 206 = .ok (.aload_n 0, 1) := fq_42 fk_cX10_town_12 14 rfl rfl
theorem dX10_town_207 : decode cX10_town 207 = .ok (.getfield 51, 3) := fq_180 fk_cX10_town_12 15 rfl rfl rfl rfl rfl
theorem fk_cX10_town_13 : fq_ck cX10_town 208 [0, 51, 28, 46, 79, 42, 180, 0, 33, 28, 42, 180, 0, 54, 28, 46, 79, 132] := fq_of fW_cX10_town 13 rfl rfl
theorem dX10_town_210 : decode cX10_town 210 = .ok (.iload_n 2, 1) := fq_28 fk_cX10_town_13 2 rfl rfl
theorem dX10_town_211 : decode cX10_town 211 = .ok (.iaload, 1) := fq_46 fk_cX10_town_13 3 rfl rfl
theorem dX10_town_212 : decode cX10_town 212 = .ok (.iastore, 1) := fq_79 fk_cX10_town_13 4 rfl rfl
theorem dX10_town_213 : decode cX10_town 213 = .ok (.aload_n 0, 1) := fq_42 fk_cX10_town_13 5 rfl rfl
theorem dX10_town_214 : decode cX10_town 214 = .ok (.getfield 33, 3) := fq_180 fk_cX10_town_13 6 rfl rfl rfl rfl rfl
theorem dX10_town_217 : decode cX10_town 217 = .ok (.iload_n 2, 1) := fq_28 fk_cX10_town_13 9 rfl rfl
theorem dX10_town_218 : decode cX10_town 218 = .ok (.aload_n 0, 1) := fq_42 fk_cX10_town_13 10 rfl rfl
theorem dX10_town_219 : decode cX10_town 219 = .ok (.getfield 54, 3) := fq_180 fk_cX10_town_13 11 rfl rfl rfl rfl rfl
theorem dX10_town_222 : decode cX10_town 222 = .ok (.iload_n 2, 1) := fq_28 fk_cX10_town_13 14 rfl rfl
theorem dX10_town_223 : decode cX10_town 223 = .ok (.iaload, 1) := fq_46 fk_cX10_town_13 15 rfl rfl
theorem dX10_town_224 : decode cX10_town 224 = .ok (.iastore, 1) := fq_79 fk_cX10_town_14 0 rfl rfl
theorem dX10_town_225 : decode cX10_town 225 = .ok (.iinc 2 1, 3) := fq_132 fk_cX10_town_14 1 rfl rfl rfl rfl rfl
theorem dX10_town_228 : decode cX10_town 228 = .ok (.goto (-33), 3) := fq_167 fk_cX10_town_14 4 rfl rfl rfl rfl rfl
theorem dX10_town_169 : decode cX10_town 169 = .ok (.iload_n 2, 1) := fq_28 fk_cX10_town_10 9 rfl rfl
theorem dX10_town_170 : decode cX10_town 170 = .ok (.bipush 30, 2) := fq_16 fk_cX10_town_10 10 rfl rfl rfl rfl
theorem dX10_town_172 : decode cX10_town 172 = .ok (.if_icmp .ge 21, 3) := fq_162 fk_cX10_town_10 12 rfl rfl rfl rfl rfl
theorem dX10_town_175 : decode cX10_town 175 = .ok (.aload_n 0, 1) := fq_42 fk_cX10_town_10 15 rfl rfl
theorem fk_cX10_town_11 : fq_ck cX10_town 176 [180, 0, 27, 28, 42, 180, 0, 48, 28, 46, 79, 132, 2, 1, 167, 255, 235, 3] := fq_of fW_cX10_town 11 rfl rfl
theorem dX10_town_176 : decode cX10_town 176 = .ok (.getfield 27, 3) := fq_180 fk_cX10_town_11 0 rfl rfl rfl rfl rfl
theorem dX10_town_179 : decode cX10_town 179 = .ok (.iload_n 2, 1) := fq_28 fk_cX10_town_11 3 rfl rfl
theorem dX10_town_180 : decode cX10_town 180 = .ok (.aload_n 0, 1) := fq_42 fk_cX10_town_11 4 rfl rfl
theorem dX10_town_181 : decode cX10_town 181 = .ok (.getfield 48, 3) := fq_180 fk_cX10_town_11 5 rfl rfl rfl rfl rfl
theorem dX10_town_184 : decode cX10_town 184 = .ok (.iload_n 2, 1) := fq_28 fk_cX10_town_11 8 rfl rfl
theorem dX10_town_185 : decode cX10_town 185 = .ok (.iaload, 1) := fq_46 fk_cX10_town_11 9 rfl rfl
theorem dX10_town_186 : decode cX10_town 186 = .ok (.iastore, 1) := fq_79 fk_cX10_town_11 10 rfl rfl
theorem dX10_town_187 : decode cX10_town 187 = .ok (.iinc 2 1, 3) := fq_132 fk_cX10_town_11 11 rfl rfl rfl rfl rfl
theorem dX10_town_190 : decode cX10_town 190 = .ok (.goto (-21), 3) := fq_167 fk_cX10_town_11 14 rfl rfl rfl rfl rfl
theorem dX10_town_131 : decode cX10_town 131 = .ok (.iload_n 2, 1) := fq_28 fk_cX10_town_8 3 rfl rfl
theorem dX10_town_132 : decode cX10_town 132 = .ok (.bipush 6, 2) := fq_16 fk_cX10_town_8 4 rfl rfl rfl rfl
theorem dX10_town_134 : decode cX10_town 134 = .ok (.if_icmp .ge 33, 3) := fq_162 fk_cX10_town_8 6 rfl rfl rfl rfl rfl
theorem dX10_town_137 : decode cX10_town 137 = .ok (.aload_n 0, 1) := fq_42 fk_cX10_town_8 9 rfl rfl
theorem dX10_town_138 : decode cX10_town 138 = .ok (.getfield 21, 3) := fq_180 fk_cX10_town_8 10 rfl rfl rfl rfl rfl
theorem dX10_town_141 : decode cX10_town 141 = .ok (.iload_n 2, 1) := fq_28 fk_cX10_town_8 13 rfl rfl
theorem dX10_town_142 : decode cX10_town 142 = .ok (.aload_n 0, 1) := fq_42 fk_cX10_town_8 14 rfl rfl
theorem dX10_town_143 : decode cX10_town 143 = .ok (.getfield 42, 3) := fq_180 fk_cX10_town_8 15 rfl rfl rfl rfl rfl
theorem fk_cX10_town_9 : fq_ck cX10_town 144 [0, 42, 28, 46, 79, 42, 180, 0, 24, 28, 42, 180, 0, 45, 28, 46, 79, 132] := fq_of fW_cX10_town 9 rfl rfl
theorem dX10_town_146 : decode cX10_town 146 = .ok (.iload_n 2, 1) := fq_28 fk_cX10_town_9 2 rfl rfl
theorem dX10_town_147 : decode cX10_town 147 = .ok (.iaload, 1) := fq_46 fk_cX10_town_9 3 rfl rfl
theorem dX10_town_148 : decode cX10_town 148 = .ok (.iastore, 1) := fq_79 fk_cX10_town_9 4 rfl rfl
theorem dX10_town_149 : decode cX10_town 149 = .ok (.aload_n 0, 1) := fq_42 fk_cX10_town_9 5 rfl rfl
theorem dX10_town_150 : decode cX10_town 150 = .ok (.getfield 24, 3) := fq_180 fk_cX10_town_9 6 rfl rfl rfl rfl rfl
theorem dX10_town_153 : decode cX10_town 153 = .ok (.iload_n 2, 1) := fq_28 fk_cX10_town_9 9 rfl rfl
theorem dX10_town_154 : decode cX10_town 154 = .ok (.aload_n 0, 1) := fq_42 fk_cX10_town_9 10 rfl rfl
theorem dX10_town_155 : decode cX10_town 155 = .ok (.getfield 45, 3) := fq_180 fk_cX10_town_9 11 rfl rfl rfl rfl rfl
theorem dX10_town_158 : decode cX10_town 158 = .ok (.iload_n 2, 1) := fq_28 fk_cX10_town_9 14 rfl rfl
theorem dX10_town_159 : decode cX10_town 159 = .ok (.iaload, 1) := fq_46 fk_cX10_town_9 15 rfl rfl
theorem dX10_town_160 : decode cX10_town 160 = .ok (.iastore, 1) := fq_79 fk_cX10_town_10 0 rfl rfl
theorem dX10_town_161 : decode cX10_town 161 = .ok (.iinc 2 1, 3) := fq_132 fk_cX10_town_10 1 rfl rfl rfl rfl rfl
theorem dX10_town_164 : decode cX10_town 164 = .ok (.goto (-33), 3) := fq_167 fk_cX10_town_10 4 rfl rfl rfl rfl rfl
theorem dX10_town_81 : decode cX10_town 81 = .ok (.bipush (-10), 2) := fq_16 fk_cX10_town_5 1 rfl rfl rfl rfl
theorem dX10_town_83 : decode cX10_town 83 = .ok (.aload_n 0, 1) := fq_42 fk_cX10_town_5 3 rfl rfl
theorem dX10_town_84 : decode cX10_town 84 = .ok (.getfield 108, 3) := fq_180 fk_cX10_town_5 4 rfl rfl rfl rfl rfl
theorem dX10_town_87 : decode cX10_town 87 = .ok (.isub, 1) := fq_100 fk_cX10_town_5 7 rfl rfl
theorem dX10_town_88 : decode cX10_town 88 = .ok (.ireturn, 1) := fq_172 fk_cX10_town_5 8 rfl rfl
theorem dX10_town_52 : decode cX10_town 52 = .ok (.iload_n 1, 1) := fq_27 fk_cX10_town_3 4 rfl rfl
theorem dX10_town_53 : decode cX10_town 53 = .ok (.ifCond .eq 19, 3) := fq_153 fk_cX10_town_3 5 rfl rfl rfl rfl rfl
theorem dX10_town_56 : decode cX10_town 56 = .ok (.aload_n 0, 1) := fq_42 fk_cX10_town_3 8 rfl rfl
theorem dX10_town_57 : decode cX10_town 57 = .ok (.invokevirtual 111, 3) := fq_182 fk_cX10_town_3 9 rfl rfl rfl rfl rfl
theorem dX10_town_60 : decode cX10_town 60 = .ok (.iconst (-1), 1) := fq_2 fk_cX10_town_3 12 rfl rfl
theorem dX10_town_61 : decode cX10_town 61 = .ok (.if_icmp .eq 11, 3) := fq_159 fk_cX10_town_3 13 rfl rfl rfl rfl rfl
theorem dX10_town_64 : decode cX10_town 64 = .ok (.aload_n 0, 1) := fq_42 fk_cX10_town_4 0 rfl rfl
theorem dX10_town_65 : decode cX10_town 65 = .ok (.invokevirtual 171, 3) := fq_182 fk_cX10_town_4 1 rfl rfl rfl rfl rfl
theorem wd_685 : Cond.methodLink RX10 171 yX10_takesClause ∈ BG := BG_at4 222 (by decide +kernel) rfl
theorem wd_686 : Cond.code yX10_takesClause cX10_takesClause 5 (some .boolean) ∈ BG := BG_at4 225 rfl rfl
theorem wd_687 : Cond.instanceMethod yX10_takesClause ∈ BG := BG_at4 224 (by decide +kernel) rfl
theorem wd_688 : Cond.selects RX10 yX10_takesClause yX10_takesClause ∈ BG := BG_in (by decide +kernel) rfl
theorem okV_X10_takesClause : okV yX10_takesClause cX10_takesClause 5 (some .boolean) 0 := ⟨⟨wd_686, wd_497, by decide +kernel⟩, wd_687, wd_688⟩
theorem dX10_town_68 : decode cX10_town 68 = .ok (.istore_n 1, 1) := fq_60 fk_cX10_town_4 4 rfl rfl
theorem dX10_town_69 : decode cX10_town 69 = .ok (.goto (-17), 3) := fq_167 fk_cX10_town_4 5 rfl rfl rfl rfl rfl
noncomputable def f_m_town_195  (n : Nat) : Int32 → (Nat → Int32) → (Nat → Int32) → (Nat → Int32) → (Nat → Int32) → (Nat → Int32) → (Nat → Int32) → (Nat → Int32) → (Nat → Int32) → (Nat → Int32) → (Nat → Int32) → (Nat → Int32) → (Nat → Int32) → (Nat → Int32) → Int32 × (Nat → Int32) × (Nat → Int32) × (Nat → Int32) × (Nat → Int32) × (Nat → Int32) × (Nat → Int32) × (Nat → Int32) × (Nat → Int32) × (Nat → Int32) × (Nat → Int32) × (Nat → Int32) × (Nat → Int32) × (Nat → Int32) := Nat.rec (motive := fun _ => Int32 → (Nat → Int32) → (Nat → Int32) → (Nat → Int32) → (Nat → Int32) → (Nat → Int32) → (Nat → Int32) → (Nat → Int32) → (Nat → Int32) → (Nat → Int32) → (Nat → Int32) → (Nat → Int32) → (Nat → Int32) → (Nat → Int32) → Int32 × (Nat → Int32) × (Nat → Int32) × (Nat → Int32) × (Nat → Int32) × (Nat → Int32) × (Nat → Int32) × (Nat → Int32) × (Nat → Int32) × (Nat → Int32) × (Nat → Int32) × (Nat → Int32) × (Nat → Int32) × (Nat → Int32)) (fun w_5l2 w_5m0 w_5m1 w_5m2 w_5m3 w_5m4 w_5m5 w_5m6 w_5m7 w_5m8 w_5m9 w_5m10 w_5m11 w_5m12 => (w_5l2, w_5m0, w_5m1, w_5m2, w_5m3, w_5m4, w_5m5, w_5m6, w_5m7, w_5m8, w_5m9, w_5m10, w_5m11, w_5m12)) (fun n ih w_5l2 w_5m0 w_5m1 w_5m2 w_5m3 w_5m4 w_5m5 w_5m6 w_5m7 w_5m8 w_5m9 w_5m10 w_5m11 w_5m12 => (if 7 ≤ w_5l2 then (w_5l2, w_5m0, w_5m1, w_5m2, w_5m3, w_5m4, w_5m5, w_5m6, w_5m7, w_5m8, w_5m9, w_5m10, w_5m11, w_5m12) else (ih (w_5l2 + 1) w_5m0 w_5m1 w_5m2 w_5m3 w_5m4 w_5m5 (upd w_5m6 (w_5l2 : Int32).toNatClampNeg (w_5m11 (w_5l2 : Int32).toNatClampNeg)) (upd w_5m7 (w_5l2 : Int32).toNatClampNeg (w_5m12 (w_5l2 : Int32).toNatClampNeg)) w_5m8 w_5m9 w_5m10 w_5m11 w_5m12))) n
theorem f_m_town_195_s  (n : Nat) (w_5l2 : Int32) (w_5m0 : (Nat → Int32)) (w_5m1 : (Nat → Int32)) (w_5m2 : (Nat → Int32)) (w_5m3 : (Nat → Int32)) (w_5m4 : (Nat → Int32)) (w_5m5 : (Nat → Int32)) (w_5m6 : (Nat → Int32)) (w_5m7 : (Nat → Int32)) (w_5m8 : (Nat → Int32)) (w_5m9 : (Nat → Int32)) (w_5m10 : (Nat → Int32)) (w_5m11 : (Nat → Int32)) (w_5m12 : (Nat → Int32)) : f_m_town_195  (n + 1) w_5l2 w_5m0 w_5m1 w_5m2 w_5m3 w_5m4 w_5m5 w_5m6 w_5m7 w_5m8 w_5m9 w_5m10 w_5m11 w_5m12 = (if 7 ≤ w_5l2 then (w_5l2, w_5m0, w_5m1, w_5m2, w_5m3, w_5m4, w_5m5, w_5m6, w_5m7, w_5m8, w_5m9, w_5m10, w_5m11, w_5m12) else (f_m_town_195  n (w_5l2 + 1) w_5m0 w_5m1 w_5m2 w_5m3 w_5m4 w_5m5 (upd w_5m6 (w_5l2 : Int32).toNatClampNeg (w_5m11 (w_5l2 : Int32).toNatClampNeg)) (upd w_5m7 (w_5l2 : Int32).toNatClampNeg (w_5m12 (w_5l2 : Int32).toNatClampNeg)) w_5m8 w_5m9 w_5m10 w_5m11 w_5m12)) := rfl
def S_m_town_195  (K : Int32 → (Nat → Int32) → (Nat → Int32) → (Nat → Int32) → (Nat → Int32) → (Nat → Int32) → (Nat → Int32) → (Nat → Int32) → (Nat → Int32) → (Nat → Int32) → (Nat → Int32) → (Nat → Int32) → (Nat → Int32) → (Nat → Int32) → Prop) (n : Nat) : Int32 → (Nat → Int32) → (Nat → Int32) → (Nat → Int32) → (Nat → Int32) → (Nat → Int32) → (Nat → Int32) → (Nat → Int32) → (Nat → Int32) → (Nat → Int32) → (Nat → Int32) → (Nat → Int32) → (Nat → Int32) → (Nat → Int32) → Prop := Nat.rec (motive := fun _ => Int32 → (Nat → Int32) → (Nat → Int32) → (Nat → Int32) → (Nat → Int32) → (Nat → Int32) → (Nat → Int32) → (Nat → Int32) → (Nat → Int32) → (Nat → Int32) → (Nat → Int32) → (Nat → Int32) → (Nat → Int32) → (Nat → Int32) → Prop) (fun _ _ _ _ _ _ _ _ _ _ _ _ _ _ => True) (fun n ih w_5l2 w_5m0 w_5m1 w_5m2 w_5m3 w_5m4 w_5m5 w_5m6 w_5m7 w_5m8 w_5m9 w_5m10 w_5m11 w_5m12 => ((7 ≤ w_5l2 → (K w_5l2 w_5m0 w_5m1 w_5m2 w_5m3 w_5m4 w_5m5 w_5m6 w_5m7 w_5m8 w_5m9 w_5m10 w_5m11 w_5m12)) ∧ (¬ 7 ≤ w_5l2 → (vp_in w_5l2 7 ∧ (vp_in w_5l2 7 ∧ (vp_in w_5l2 7 ∧ (vp_in w_5l2 7 ∧ (ih (w_5l2 + 1) w_5m0 w_5m1 w_5m2 w_5m3 w_5m4 w_5m5 (upd w_5m6 (w_5l2 : Int32).toNatClampNeg (w_5m11 (w_5l2 : Int32).toNatClampNeg)) (upd w_5m7 (w_5l2 : Int32).toNatClampNeg (w_5m12 (w_5l2 : Int32).toNatClampNeg)) w_5m8 w_5m9 w_5m10 w_5m11 w_5m12)))))))) n
theorem S_m_town_195_s  (K : Int32 → (Nat → Int32) → (Nat → Int32) → (Nat → Int32) → (Nat → Int32) → (Nat → Int32) → (Nat → Int32) → (Nat → Int32) → (Nat → Int32) → (Nat → Int32) → (Nat → Int32) → (Nat → Int32) → (Nat → Int32) → (Nat → Int32) → Prop) (n : Nat) (w_5l2 : Int32) (w_5m0 : (Nat → Int32)) (w_5m1 : (Nat → Int32)) (w_5m2 : (Nat → Int32)) (w_5m3 : (Nat → Int32)) (w_5m4 : (Nat → Int32)) (w_5m5 : (Nat → Int32)) (w_5m6 : (Nat → Int32)) (w_5m7 : (Nat → Int32)) (w_5m8 : (Nat → Int32)) (w_5m9 : (Nat → Int32)) (w_5m10 : (Nat → Int32)) (w_5m11 : (Nat → Int32)) (w_5m12 : (Nat → Int32)) : S_m_town_195  K (n + 1) w_5l2 w_5m0 w_5m1 w_5m2 w_5m3 w_5m4 w_5m5 w_5m6 w_5m7 w_5m8 w_5m9 w_5m10 w_5m11 w_5m12 = (((7 ≤ w_5l2 → (K w_5l2 w_5m0 w_5m1 w_5m2 w_5m3 w_5m4 w_5m5 w_5m6 w_5m7 w_5m8 w_5m9 w_5m10 w_5m11 w_5m12)) ∧ (¬ 7 ≤ w_5l2 → (vp_in w_5l2 7 ∧ (vp_in w_5l2 7 ∧ (vp_in w_5l2 7 ∧ (vp_in w_5l2 7 ∧ (S_m_town_195  K n (w_5l2 + 1) w_5m0 w_5m1 w_5m2 w_5m3 w_5m4 w_5m5 (upd w_5m6 (w_5l2 : Int32).toNatClampNeg (w_5m11 (w_5l2 : Int32).toNatClampNeg)) (upd w_5m7 (w_5l2 : Int32).toNatClampNeg (w_5m12 (w_5l2 : Int32).toNatClampNeg)) w_5m8 w_5m9 w_5m10 w_5m11 w_5m12)))))))) := rfl
noncomputable def f_m_town_169  (n : Nat) : Int32 → (Nat → Int32) → (Nat → Int32) → (Nat → Int32) → (Nat → Int32) → (Nat → Int32) → (Nat → Int32) → (Nat → Int32) → (Nat → Int32) → (Nat → Int32) → (Nat → Int32) → (Nat → Int32) → (Nat → Int32) → (Nat → Int32) → Int32 × (Nat → Int32) × (Nat → Int32) × (Nat → Int32) × (Nat → Int32) × (Nat → Int32) × (Nat → Int32) × (Nat → Int32) × (Nat → Int32) × (Nat → Int32) × (Nat → Int32) × (Nat → Int32) × (Nat → Int32) × (Nat → Int32) := Nat.rec (motive := fun _ => Int32 → (Nat → Int32) → (Nat → Int32) → (Nat → Int32) → (Nat → Int32) → (Nat → Int32) → (Nat → Int32) → (Nat → Int32) → (Nat → Int32) → (Nat → Int32) → (Nat → Int32) → (Nat → Int32) → (Nat → Int32) → (Nat → Int32) → Int32 × (Nat → Int32) × (Nat → Int32) × (Nat → Int32) × (Nat → Int32) × (Nat → Int32) × (Nat → Int32) × (Nat → Int32) × (Nat → Int32) × (Nat → Int32) × (Nat → Int32) × (Nat → Int32) × (Nat → Int32) × (Nat → Int32)) (fun w_4l2 w_4m0 w_4m1 w_4m2 w_4m3 w_4m4 w_4m5 w_4m6 w_4m7 w_4m8 w_4m9 w_4m10 w_4m11 w_4m12 => (w_4l2, w_4m0, w_4m1, w_4m2, w_4m3, w_4m4, w_4m5, w_4m6, w_4m7, w_4m8, w_4m9, w_4m10, w_4m11, w_4m12)) (fun n ih w_4l2 w_4m0 w_4m1 w_4m2 w_4m3 w_4m4 w_4m5 w_4m6 w_4m7 w_4m8 w_4m9 w_4m10 w_4m11 w_4m12 => (if 30 ≤ w_4l2 then (w_4l2, w_4m0, w_4m1, w_4m2, w_4m3, w_4m4, w_4m5, w_4m6, w_4m7, w_4m8, w_4m9, w_4m10, w_4m11, w_4m12) else (ih (w_4l2 + 1) w_4m0 w_4m1 w_4m2 w_4m3 w_4m4 (upd w_4m5 (w_4l2 : Int32).toNatClampNeg (w_4m10 (w_4l2 : Int32).toNatClampNeg)) w_4m6 w_4m7 w_4m8 w_4m9 w_4m10 w_4m11 w_4m12))) n
theorem f_m_town_169_s  (n : Nat) (w_4l2 : Int32) (w_4m0 : (Nat → Int32)) (w_4m1 : (Nat → Int32)) (w_4m2 : (Nat → Int32)) (w_4m3 : (Nat → Int32)) (w_4m4 : (Nat → Int32)) (w_4m5 : (Nat → Int32)) (w_4m6 : (Nat → Int32)) (w_4m7 : (Nat → Int32)) (w_4m8 : (Nat → Int32)) (w_4m9 : (Nat → Int32)) (w_4m10 : (Nat → Int32)) (w_4m11 : (Nat → Int32)) (w_4m12 : (Nat → Int32)) : f_m_town_169  (n + 1) w_4l2 w_4m0 w_4m1 w_4m2 w_4m3 w_4m4 w_4m5 w_4m6 w_4m7 w_4m8 w_4m9 w_4m10 w_4m11 w_4m12 = (if 30 ≤ w_4l2 then (w_4l2, w_4m0, w_4m1, w_4m2, w_4m3, w_4m4, w_4m5, w_4m6, w_4m7, w_4m8, w_4m9, w_4m10, w_4m11, w_4m12) else (f_m_town_169  n (w_4l2 + 1) w_4m0 w_4m1 w_4m2 w_4m3 w_4m4 (upd w_4m5 (w_4l2 : Int32).toNatClampNeg (w_4m10 (w_4l2 : Int32).toNatClampNeg)) w_4m6 w_4m7 w_4m8 w_4m9 w_4m10 w_4m11 w_4m12)) := rfl
def S_m_town_169  (K : Int32 → (Nat → Int32) → (Nat → Int32) → (Nat → Int32) → (Nat → Int32) → (Nat → Int32) → (Nat → Int32) → (Nat → Int32) → (Nat → Int32) → (Nat → Int32) → (Nat → Int32) → (Nat → Int32) → (Nat → Int32) → (Nat → Int32) → Prop) (n : Nat) : Int32 → (Nat → Int32) → (Nat → Int32) → (Nat → Int32) → (Nat → Int32) → (Nat → Int32) → (Nat → Int32) → (Nat → Int32) → (Nat → Int32) → (Nat → Int32) → (Nat → Int32) → (Nat → Int32) → (Nat → Int32) → (Nat → Int32) → Prop := Nat.rec (motive := fun _ => Int32 → (Nat → Int32) → (Nat → Int32) → (Nat → Int32) → (Nat → Int32) → (Nat → Int32) → (Nat → Int32) → (Nat → Int32) → (Nat → Int32) → (Nat → Int32) → (Nat → Int32) → (Nat → Int32) → (Nat → Int32) → (Nat → Int32) → Prop) (fun _ _ _ _ _ _ _ _ _ _ _ _ _ _ => True) (fun n ih w_4l2 w_4m0 w_4m1 w_4m2 w_4m3 w_4m4 w_4m5 w_4m6 w_4m7 w_4m8 w_4m9 w_4m10 w_4m11 w_4m12 => ((30 ≤ w_4l2 → (K w_4l2 w_4m0 w_4m1 w_4m2 w_4m3 w_4m4 w_4m5 w_4m6 w_4m7 w_4m8 w_4m9 w_4m10 w_4m11 w_4m12)) ∧ (¬ 30 ≤ w_4l2 → (vp_in w_4l2 30 ∧ (vp_in w_4l2 30 ∧ (ih (w_4l2 + 1) w_4m0 w_4m1 w_4m2 w_4m3 w_4m4 (upd w_4m5 (w_4l2 : Int32).toNatClampNeg (w_4m10 (w_4l2 : Int32).toNatClampNeg)) w_4m6 w_4m7 w_4m8 w_4m9 w_4m10 w_4m11 w_4m12)))))) n
theorem S_m_town_169_s  (K : Int32 → (Nat → Int32) → (Nat → Int32) → (Nat → Int32) → (Nat → Int32) → (Nat → Int32) → (Nat → Int32) → (Nat → Int32) → (Nat → Int32) → (Nat → Int32) → (Nat → Int32) → (Nat → Int32) → (Nat → Int32) → (Nat → Int32) → Prop) (n : Nat) (w_4l2 : Int32) (w_4m0 : (Nat → Int32)) (w_4m1 : (Nat → Int32)) (w_4m2 : (Nat → Int32)) (w_4m3 : (Nat → Int32)) (w_4m4 : (Nat → Int32)) (w_4m5 : (Nat → Int32)) (w_4m6 : (Nat → Int32)) (w_4m7 : (Nat → Int32)) (w_4m8 : (Nat → Int32)) (w_4m9 : (Nat → Int32)) (w_4m10 : (Nat → Int32)) (w_4m11 : (Nat → Int32)) (w_4m12 : (Nat → Int32)) : S_m_town_169  K (n + 1) w_4l2 w_4m0 w_4m1 w_4m2 w_4m3 w_4m4 w_4m5 w_4m6 w_4m7 w_4m8 w_4m9 w_4m10 w_4m11 w_4m12 = (((30 ≤ w_4l2 → (K w_4l2 w_4m0 w_4m1 w_4m2 w_4m3 w_4m4 w_4m5 w_4m6 w_4m7 w_4m8 w_4m9 w_4m10 w_4m11 w_4m12)) ∧ (¬ 30 ≤ w_4l2 → (vp_in w_4l2 30 ∧ (vp_in w_4l2 30 ∧ (S_m_town_169  K n (w_4l2 + 1) w_4m0 w_4m1 w_4m2 w_4m3 w_4m4 (upd w_4m5 (w_4l2 : Int32).toNatClampNeg (w_4m10 (w_4l2 : Int32).toNatClampNeg)) w_4m6 w_4m7 w_4m8 w_4m9 w_4m10 w_4m11 w_4m12)))))) := rfl
noncomputable def f_m_town_131  (n : Nat) : Int32 → (Nat → Int32) → (Nat → Int32) → (Nat → Int32) → (Nat → Int32) → (Nat → Int32) → (Nat → Int32) → (Nat → Int32) → (Nat → Int32) → (Nat → Int32) → (Nat → Int32) → (Nat → Int32) → (Nat → Int32) → (Nat → Int32) → Int32 × (Nat → Int32) × (Nat → Int32) × (Nat → Int32) × (Nat → Int32) × (Nat → Int32) × (Nat → Int32) × (Nat → Int32) × (Nat → Int32) × (Nat → Int32) × (Nat → Int32) × (Nat → Int32) × (Nat → Int32) × (Nat → Int32) := Nat.rec (motive := fun _ => Int32 → (Nat → Int32) → (Nat → Int32) → (Nat → Int32) → (Nat → Int32) → (Nat → Int32) → (Nat → Int32) → (Nat → Int32) → (Nat → Int32) → (Nat → Int32) → (Nat → Int32) → (Nat → Int32) → (Nat → Int32) → (Nat → Int32) → Int32 × (Nat → Int32) × (Nat → Int32) × (Nat → Int32) × (Nat → Int32) × (Nat → Int32) × (Nat → Int32) × (Nat → Int32) × (Nat → Int32) × (Nat → Int32) × (Nat → Int32) × (Nat → Int32) × (Nat → Int32) × (Nat → Int32)) (fun w_3l2 w_3m0 w_3m1 w_3m2 w_3m3 w_3m4 w_3m5 w_3m6 w_3m7 w_3m8 w_3m9 w_3m10 w_3m11 w_3m12 => (w_3l2, w_3m0, w_3m1, w_3m2, w_3m3, w_3m4, w_3m5, w_3m6, w_3m7, w_3m8, w_3m9, w_3m10, w_3m11, w_3m12)) (fun n ih w_3l2 w_3m0 w_3m1 w_3m2 w_3m3 w_3m4 w_3m5 w_3m6 w_3m7 w_3m8 w_3m9 w_3m10 w_3m11 w_3m12 => (if 6 ≤ w_3l2 then (w_3l2, w_3m0, w_3m1, w_3m2, w_3m3, w_3m4, w_3m5, w_3m6, w_3m7, w_3m8, w_3m9, w_3m10, w_3m11, w_3m12) else (ih (w_3l2 + 1) w_3m0 w_3m1 w_3m2 (upd w_3m3 (w_3l2 : Int32).toNatClampNeg (w_3m8 (w_3l2 : Int32).toNatClampNeg)) (upd w_3m4 (w_3l2 : Int32).toNatClampNeg (w_3m9 (w_3l2 : Int32).toNatClampNeg)) w_3m5 w_3m6 w_3m7 w_3m8 w_3m9 w_3m10 w_3m11 w_3m12))) n
theorem f_m_town_131_s  (n : Nat) (w_3l2 : Int32) (w_3m0 : (Nat → Int32)) (w_3m1 : (Nat → Int32)) (w_3m2 : (Nat → Int32)) (w_3m3 : (Nat → Int32)) (w_3m4 : (Nat → Int32)) (w_3m5 : (Nat → Int32)) (w_3m6 : (Nat → Int32)) (w_3m7 : (Nat → Int32)) (w_3m8 : (Nat → Int32)) (w_3m9 : (Nat → Int32)) (w_3m10 : (Nat → Int32)) (w_3m11 : (Nat → Int32)) (w_3m12 : (Nat → Int32)) : f_m_town_131  (n + 1) w_3l2 w_3m0 w_3m1 w_3m2 w_3m3 w_3m4 w_3m5 w_3m6 w_3m7 w_3m8 w_3m9 w_3m10 w_3m11 w_3m12 = (if 6 ≤ w_3l2 then (w_3l2, w_3m0, w_3m1, w_3m2, w_3m3, w_3m4, w_3m5, w_3m6, w_3m7, w_3m8, w_3m9, w_3m10, w_3m11, w_3m12) else (f_m_town_131  n (w_3l2 + 1) w_3m0 w_3m1 w_3m2 (upd w_3m3 (w_3l2 : Int32).toNatClampNeg (w_3m8 (w_3l2 : Int32).toNatClampNeg)) (upd w_3m4 (w_3l2 : Int32).toNatClampNeg (w_3m9 (w_3l2 : Int32).toNatClampNeg)) w_3m5 w_3m6 w_3m7 w_3m8 w_3m9 w_3m10 w_3m11 w_3m12)) := rfl
def S_m_town_131  (K : Int32 → (Nat → Int32) → (Nat → Int32) → (Nat → Int32) → (Nat → Int32) → (Nat → Int32) → (Nat → Int32) → (Nat → Int32) → (Nat → Int32) → (Nat → Int32) → (Nat → Int32) → (Nat → Int32) → (Nat → Int32) → (Nat → Int32) → Prop) (n : Nat) : Int32 → (Nat → Int32) → (Nat → Int32) → (Nat → Int32) → (Nat → Int32) → (Nat → Int32) → (Nat → Int32) → (Nat → Int32) → (Nat → Int32) → (Nat → Int32) → (Nat → Int32) → (Nat → Int32) → (Nat → Int32) → (Nat → Int32) → Prop := Nat.rec (motive := fun _ => Int32 → (Nat → Int32) → (Nat → Int32) → (Nat → Int32) → (Nat → Int32) → (Nat → Int32) → (Nat → Int32) → (Nat → Int32) → (Nat → Int32) → (Nat → Int32) → (Nat → Int32) → (Nat → Int32) → (Nat → Int32) → (Nat → Int32) → Prop) (fun _ _ _ _ _ _ _ _ _ _ _ _ _ _ => True) (fun n ih w_3l2 w_3m0 w_3m1 w_3m2 w_3m3 w_3m4 w_3m5 w_3m6 w_3m7 w_3m8 w_3m9 w_3m10 w_3m11 w_3m12 => ((6 ≤ w_3l2 → (K w_3l2 w_3m0 w_3m1 w_3m2 w_3m3 w_3m4 w_3m5 w_3m6 w_3m7 w_3m8 w_3m9 w_3m10 w_3m11 w_3m12)) ∧ (¬ 6 ≤ w_3l2 → (vp_in w_3l2 6 ∧ (vp_in w_3l2 6 ∧ (vp_in w_3l2 6 ∧ (vp_in w_3l2 6 ∧ (ih (w_3l2 + 1) w_3m0 w_3m1 w_3m2 (upd w_3m3 (w_3l2 : Int32).toNatClampNeg (w_3m8 (w_3l2 : Int32).toNatClampNeg)) (upd w_3m4 (w_3l2 : Int32).toNatClampNeg (w_3m9 (w_3l2 : Int32).toNatClampNeg)) w_3m5 w_3m6 w_3m7 w_3m8 w_3m9 w_3m10 w_3m11 w_3m12)))))))) n
theorem S_m_town_131_s  (K : Int32 → (Nat → Int32) → (Nat → Int32) → (Nat → Int32) → (Nat → Int32) → (Nat → Int32) → (Nat → Int32) → (Nat → Int32) → (Nat → Int32) → (Nat → Int32) → (Nat → Int32) → (Nat → Int32) → (Nat → Int32) → (Nat → Int32) → Prop) (n : Nat) (w_3l2 : Int32) (w_3m0 : (Nat → Int32)) (w_3m1 : (Nat → Int32)) (w_3m2 : (Nat → Int32)) (w_3m3 : (Nat → Int32)) (w_3m4 : (Nat → Int32)) (w_3m5 : (Nat → Int32)) (w_3m6 : (Nat → Int32)) (w_3m7 : (Nat → Int32)) (w_3m8 : (Nat → Int32)) (w_3m9 : (Nat → Int32)) (w_3m10 : (Nat → Int32)) (w_3m11 : (Nat → Int32)) (w_3m12 : (Nat → Int32)) : S_m_town_131  K (n + 1) w_3l2 w_3m0 w_3m1 w_3m2 w_3m3 w_3m4 w_3m5 w_3m6 w_3m7 w_3m8 w_3m9 w_3m10 w_3m11 w_3m12 = (((6 ≤ w_3l2 → (K w_3l2 w_3m0 w_3m1 w_3m2 w_3m3 w_3m4 w_3m5 w_3m6 w_3m7 w_3m8 w_3m9 w_3m10 w_3m11 w_3m12)) ∧ (¬ 6 ≤ w_3l2 → (vp_in w_3l2 6 ∧ (vp_in w_3l2 6 ∧ (vp_in w_3l2 6 ∧ (vp_in w_3l2 6 ∧ (S_m_town_131  K n (w_3l2 + 1) w_3m0 w_3m1 w_3m2 (upd w_3m3 (w_3l2 : Int32).toNatClampNeg (w_3m8 (w_3l2 : Int32).toNatClampNeg)) (upd w_3m4 (w_3l2 : Int32).toNatClampNeg (w_3m9 (w_3l2 : Int32).toNatClampNeg)) w_3m5 w_3m6 w_3m7 w_3m8 w_3m9 w_3m10 w_3m11 w_3m12)))))))) := rfl
noncomputable def f_m_town_52 (f13 : Nat → Int32) (n : Nat) : Int32 → (Nat → Int32) → (Nat → Int32) → (Nat → Int32) → (Nat → Int32) → (Nat → Int32) → (Nat → Int32) → (Nat → Int32) → (Nat → Int32) → (Nat → Int32) → (Nat → Int32) → (Nat → Int32) → (Nat → Int32) → (Nat → Int32) → Int32 × (Nat → Int32) × (Nat → Int32) × (Nat → Int32) × (Nat → Int32) × (Nat → Int32) × (Nat → Int32) × (Nat → Int32) × (Nat → Int32) × (Nat → Int32) × (Nat → Int32) × (Nat → Int32) × (Nat → Int32) × (Nat → Int32) := Nat.rec (motive := fun _ => Int32 → (Nat → Int32) → (Nat → Int32) → (Nat → Int32) → (Nat → Int32) → (Nat → Int32) → (Nat → Int32) → (Nat → Int32) → (Nat → Int32) → (Nat → Int32) → (Nat → Int32) → (Nat → Int32) → (Nat → Int32) → (Nat → Int32) → Int32 × (Nat → Int32) × (Nat → Int32) × (Nat → Int32) × (Nat → Int32) × (Nat → Int32) × (Nat → Int32) × (Nat → Int32) × (Nat → Int32) × (Nat → Int32) × (Nat → Int32) × (Nat → Int32) × (Nat → Int32) × (Nat → Int32)) (fun w_1l1 w_1m0 w_1m1 w_1m2 w_1m3 w_1m4 w_1m5 w_1m6 w_1m7 w_1m8 w_1m9 w_1m10 w_1m11 w_1m12 => (w_1l1, w_1m0, w_1m1, w_1m2, w_1m3, w_1m4, w_1m5, w_1m6, w_1m7, w_1m8, w_1m9, w_1m10, w_1m11, w_1m12)) (fun n ih w_1l1 w_1m0 w_1m1 w_1m2 w_1m3 w_1m4 w_1m5 w_1m6 w_1m7 w_1m8 w_1m9 w_1m10 w_1m11 w_1m12 => (if w_1l1 = 0 then (w_1l1, w_1m0, w_1m1, w_1m2, w_1m3, w_1m4, w_1m5, w_1m6, w_1m7, w_1m8, w_1m9, w_1m10, w_1m11, w_1m12) else (match (f_m_here w_1m0 f13) with | (r_25, u_24) => (if r_25 = (-1) then (w_1l1, u_24, w_1m1, w_1m2, w_1m3, w_1m4, w_1m5, w_1m6, w_1m7, w_1m8, w_1m9, w_1m10, w_1m11, w_1m12) else (match (f_m_takesClause u_24 f13 w_1m8 w_1m9 w_1m10 w_1m11 w_1m12) with | (r_29, o_30, o_31, o_32, o_33, o_34, o_35) => (ih r_29 o_30 w_1m1 w_1m2 w_1m3 w_1m4 w_1m5 w_1m6 w_1m7 o_31 o_32 o_33 o_34 o_35)))))) n
theorem f_m_town_52_s (f13 : Nat → Int32) (n : Nat) (w_1l1 : Int32) (w_1m0 : (Nat → Int32)) (w_1m1 : (Nat → Int32)) (w_1m2 : (Nat → Int32)) (w_1m3 : (Nat → Int32)) (w_1m4 : (Nat → Int32)) (w_1m5 : (Nat → Int32)) (w_1m6 : (Nat → Int32)) (w_1m7 : (Nat → Int32)) (w_1m8 : (Nat → Int32)) (w_1m9 : (Nat → Int32)) (w_1m10 : (Nat → Int32)) (w_1m11 : (Nat → Int32)) (w_1m12 : (Nat → Int32)) : f_m_town_52 f13 (n + 1) w_1l1 w_1m0 w_1m1 w_1m2 w_1m3 w_1m4 w_1m5 w_1m6 w_1m7 w_1m8 w_1m9 w_1m10 w_1m11 w_1m12 = (if w_1l1 = 0 then (w_1l1, w_1m0, w_1m1, w_1m2, w_1m3, w_1m4, w_1m5, w_1m6, w_1m7, w_1m8, w_1m9, w_1m10, w_1m11, w_1m12) else (match (f_m_here w_1m0 f13) with | (r_25, u_24) => (if r_25 = (-1) then (w_1l1, u_24, w_1m1, w_1m2, w_1m3, w_1m4, w_1m5, w_1m6, w_1m7, w_1m8, w_1m9, w_1m10, w_1m11, w_1m12) else (match (f_m_takesClause u_24 f13 w_1m8 w_1m9 w_1m10 w_1m11 w_1m12) with | (r_29, o_30, o_31, o_32, o_33, o_34, o_35) => (f_m_town_52 f13 n r_29 o_30 w_1m1 w_1m2 w_1m3 w_1m4 w_1m5 w_1m6 w_1m7 o_31 o_32 o_33 o_34 o_35))))) := rfl
def S_m_town_52 (f13 : Nat → Int32) (K : Int32 → (Nat → Int32) → (Nat → Int32) → (Nat → Int32) → (Nat → Int32) → (Nat → Int32) → (Nat → Int32) → (Nat → Int32) → (Nat → Int32) → (Nat → Int32) → (Nat → Int32) → (Nat → Int32) → (Nat → Int32) → (Nat → Int32) → Prop) (n : Nat) : Int32 → (Nat → Int32) → (Nat → Int32) → (Nat → Int32) → (Nat → Int32) → (Nat → Int32) → (Nat → Int32) → (Nat → Int32) → (Nat → Int32) → (Nat → Int32) → (Nat → Int32) → (Nat → Int32) → (Nat → Int32) → (Nat → Int32) → Prop := Nat.rec (motive := fun _ => Int32 → (Nat → Int32) → (Nat → Int32) → (Nat → Int32) → (Nat → Int32) → (Nat → Int32) → (Nat → Int32) → (Nat → Int32) → (Nat → Int32) → (Nat → Int32) → (Nat → Int32) → (Nat → Int32) → (Nat → Int32) → (Nat → Int32) → Prop) (fun _ _ _ _ _ _ _ _ _ _ _ _ _ _ => False) (fun n ih w_1l1 w_1m0 w_1m1 w_1m2 w_1m3 w_1m4 w_1m5 w_1m6 w_1m7 w_1m8 w_1m9 w_1m10 w_1m11 w_1m12 => ((w_1l1 = 0 → (K w_1l1 w_1m0 w_1m1 w_1m2 w_1m3 w_1m4 w_1m5 w_1m6 w_1m7 w_1m8 w_1m9 w_1m10 w_1m11 w_1m12)) ∧ (¬ w_1l1 = 0 → ((S_m_here w_1m0 f13) ∧ (∀ (r_25 : Int32) (u_24 : (Nat → Int32)), (r_25, u_24) = (f_m_here w_1m0 f13) → ((r_25 = (-1) → (K w_1l1 u_24 w_1m1 w_1m2 w_1m3 w_1m4 w_1m5 w_1m6 w_1m7 w_1m8 w_1m9 w_1m10 w_1m11 w_1m12)) ∧ (¬ r_25 = (-1) → ((S_m_takesClause u_24 f13 w_1m8 w_1m9 w_1m10 w_1m11 w_1m12) ∧ (∀ (r_29 : Int32) (o_30 : (Nat → Int32)) (o_31 : (Nat → Int32)) (o_32 : (Nat → Int32)) (o_33 : (Nat → Int32)) (o_34 : (Nat → Int32)) (o_35 : (Nat → Int32)), (r_29, o_30, o_31, o_32, o_33, o_34, o_35) = (f_m_takesClause u_24 f13 w_1m8 w_1m9 w_1m10 w_1m11 w_1m12) → (ih r_29 o_30 w_1m1 w_1m2 w_1m3 w_1m4 w_1m5 w_1m6 w_1m7 o_31 o_32 o_33 o_34 o_35)))))))))) n
theorem S_m_town_52_s (f13 : Nat → Int32) (K : Int32 → (Nat → Int32) → (Nat → Int32) → (Nat → Int32) → (Nat → Int32) → (Nat → Int32) → (Nat → Int32) → (Nat → Int32) → (Nat → Int32) → (Nat → Int32) → (Nat → Int32) → (Nat → Int32) → (Nat → Int32) → (Nat → Int32) → Prop) (n : Nat) (w_1l1 : Int32) (w_1m0 : (Nat → Int32)) (w_1m1 : (Nat → Int32)) (w_1m2 : (Nat → Int32)) (w_1m3 : (Nat → Int32)) (w_1m4 : (Nat → Int32)) (w_1m5 : (Nat → Int32)) (w_1m6 : (Nat → Int32)) (w_1m7 : (Nat → Int32)) (w_1m8 : (Nat → Int32)) (w_1m9 : (Nat → Int32)) (w_1m10 : (Nat → Int32)) (w_1m11 : (Nat → Int32)) (w_1m12 : (Nat → Int32)) : S_m_town_52 f13 K (n + 1) w_1l1 w_1m0 w_1m1 w_1m2 w_1m3 w_1m4 w_1m5 w_1m6 w_1m7 w_1m8 w_1m9 w_1m10 w_1m11 w_1m12 = (((w_1l1 = 0 → (K w_1l1 w_1m0 w_1m1 w_1m2 w_1m3 w_1m4 w_1m5 w_1m6 w_1m7 w_1m8 w_1m9 w_1m10 w_1m11 w_1m12)) ∧ (¬ w_1l1 = 0 → ((S_m_here w_1m0 f13) ∧ (∀ (r_25 : Int32) (u_24 : (Nat → Int32)), (r_25, u_24) = (f_m_here w_1m0 f13) → ((r_25 = (-1) → (K w_1l1 u_24 w_1m1 w_1m2 w_1m3 w_1m4 w_1m5 w_1m6 w_1m7 w_1m8 w_1m9 w_1m10 w_1m11 w_1m12)) ∧ (¬ r_25 = (-1) → ((S_m_takesClause u_24 f13 w_1m8 w_1m9 w_1m10 w_1m11 w_1m12) ∧ (∀ (r_29 : Int32) (o_30 : (Nat → Int32)) (o_31 : (Nat → Int32)) (o_32 : (Nat → Int32)) (o_33 : (Nat → Int32)) (o_34 : (Nat → Int32)) (o_35 : (Nat → Int32)), (r_29, o_30, o_31, o_32, o_33, o_34, o_35) = (f_m_takesClause u_24 f13 w_1m8 w_1m9 w_1m10 w_1m11 w_1m12) → (S_m_town_52 f13 K n r_29 o_30 w_1m1 w_1m2 w_1m3 w_1m4 w_1m5 w_1m6 w_1m7 o_31 o_32 o_33 o_34 o_35)))))))))) := rfl
noncomputable def f_m_town (G : Nat → Int32) (f0 : Nat → Int32) (f1 : Nat → Int32) (f8 : Nat → Int32) (f9 : Nat → Int32) (f10 : Nat → Int32) (f11 : Nat → Int32) (f12 : Nat → Int32) (f13 : Nat → Int32) (f27 : Nat → Int32) (f28 : Nat → Int32) (f29 : Nat → Int32) (f30 : Nat → Int32) (f31 : Nat → Int32) : Int32 × (Nat → Int32) × (Nat → Int32) × (Nat → Int32) × (Nat → Int32) × (Nat → Int32) × (Nat → Int32) × (Nat → Int32) × (Nat → Int32) × (Nat → Int32) × (Nat → Int32) × (Nat → Int32) × (Nat → Int32) × (Nat → Int32) := (match ((f_m_town_52 f13 300 1 (upd (upd (upd (upd (upd (upd (upd (upd (upd (upd G 15 0) 18 0) 19 (-1)) 20 0) 21 1) 22 0) 23 0) 24 0) 25 0) 26 0) f0 f1 f8 f9 f10 f11 f12 f27 f28 f29 f30 f31) : Int32 × (Nat → Int32) × (Nat → Int32) × (Nat → Int32) × (Nat → Int32) × (Nat → Int32) × (Nat → Int32) × (Nat → Int32) × (Nat → Int32) × (Nat → Int32) × (Nat → Int32) × (Nat → Int32) × (Nat → Int32) × (Nat → Int32)) with | (w_1l1, w_1m0, w_1m1, w_1m2, w_1m3, w_1m4, w_1m5, w_1m6, w_1m7, w_1m8, w_1m9, w_1m10, w_1m11, w_1m12) => (if w_1l1 = 0 then (((-10) - (w_1m0 18)), (upd w_1m0 14 0), w_1m1, w_1m2, w_1m3, w_1m4, w_1m5, w_1m6, w_1m7, w_1m8, w_1m9, w_1m10, w_1m11, w_1m12) else (match ((f_m_town_131  (((6 : Int32).toInt - (0 : Int32).toInt).toNat + 1) 0 (upd (upd (upd (upd (upd (upd w_1m0 14 0) 3 (w_1m0 20)) 4 (w_1m0 21)) 5 (w_1m0 23)) 6 (w_1m0 24)) 7 (w_1m0 25)) w_1m1 w_1m2 w_1m3 w_1m4 w_1m5 w_1m6 w_1m7 w_1m8 w_1m9 w_1m10 w_1m11 w_1m12) : Int32 × (Nat → Int32) × (Nat → Int32) × (Nat → Int32) × (Nat → Int32) × (Nat → Int32) × (Nat → Int32) × (Nat → Int32) × (Nat → Int32) × (Nat → Int32) × (Nat → Int32) × (Nat → Int32) × (Nat → Int32) × (Nat → Int32)) with | (w_3l2, w_3m0, w_3m1, w_3m2, w_3m3, w_3m4, w_3m5, w_3m6, w_3m7, w_3m8, w_3m9, w_3m10, w_3m11, w_3m12) => (match ((f_m_town_169  (((30 : Int32).toInt - (0 : Int32).toInt).toNat + 1) 0 w_3m0 w_3m1 w_3m2 w_3m3 w_3m4 w_3m5 w_3m6 w_3m7 w_3m8 w_3m9 w_3m10 w_3m11 w_3m12) : Int32 × (Nat → Int32) × (Nat → Int32) × (Nat → Int32) × (Nat → Int32) × (Nat → Int32) × (Nat → Int32) × (Nat → Int32) × (Nat → Int32) × (Nat → Int32) × (Nat → Int32) × (Nat → Int32) × (Nat → Int32) × (Nat → Int32)) with | (w_4l2, w_4m0, w_4m1, w_4m2, w_4m3, w_4m4, w_4m5, w_4m6, w_4m7, w_4m8, w_4m9, w_4m10, w_4m11, w_4m12) => (match ((f_m_town_195  (((7 : Int32).toInt - (0 : Int32).toInt).toNat + 1) 0 w_4m0 w_4m1 w_4m2 w_4m3 w_4m4 w_4m5 w_4m6 w_4m7 w_4m8 w_4m9 w_4m10 w_4m11 w_4m12) : Int32 × (Nat → Int32) × (Nat → Int32) × (Nat → Int32) × (Nat → Int32) × (Nat → Int32) × (Nat → Int32) × (Nat → Int32) × (Nat → Int32) × (Nat → Int32) × (Nat → Int32) × (Nat → Int32) × (Nat → Int32) × (Nat → Int32)) with | (w_5l2, w_5m0, w_5m1, w_5m2, w_5m3, w_5m4, w_5m5, w_5m6, w_5m7, w_5m8, w_5m9, w_5m10, w_5m11, w_5m12) => ((w_5m0 3), (upd (upd w_5m0 42 0) 2 0), (f_m_begins w_5m0 w_5m1 w_5m4), (upd (upd w_5m2 (0 : Int32).toNatClampNeg (vp_nar .boolean 0)) (1 : Int32).toNatClampNeg (vp_nar .boolean 0)), w_5m3, w_5m4, w_5m5, w_5m6, w_5m7, w_5m8, w_5m9, w_5m10, w_5m11, w_5m12))))))
def S_m_town (G : Nat → Int32) (f0 : Nat → Int32) (f1 : Nat → Int32) (f8 : Nat → Int32) (f9 : Nat → Int32) (f10 : Nat → Int32) (f11 : Nat → Int32) (f12 : Nat → Int32) (f13 : Nat → Int32) (f27 : Nat → Int32) (f28 : Nat → Int32) (f29 : Nat → Int32) (f30 : Nat → Int32) (f31 : Nat → Int32) : Prop := (S_m_town_52 f13 (fun (w_1l1 : Int32) (w_1m0 : (Nat → Int32)) (w_1m1 : (Nat → Int32)) (w_1m2 : (Nat → Int32)) (w_1m3 : (Nat → Int32)) (w_1m4 : (Nat → Int32)) (w_1m5 : (Nat → Int32)) (w_1m6 : (Nat → Int32)) (w_1m7 : (Nat → Int32)) (w_1m8 : (Nat → Int32)) (w_1m9 : (Nat → Int32)) (w_1m10 : (Nat → Int32)) (w_1m11 : (Nat → Int32)) (w_1m12 : (Nat → Int32)) => ((w_1l1 = 0 → True) ∧ (¬ w_1l1 = 0 → (S_m_town_131  (fun (w_3l2 : Int32) (w_3m0 : (Nat → Int32)) (w_3m1 : (Nat → Int32)) (w_3m2 : (Nat → Int32)) (w_3m3 : (Nat → Int32)) (w_3m4 : (Nat → Int32)) (w_3m5 : (Nat → Int32)) (w_3m6 : (Nat → Int32)) (w_3m7 : (Nat → Int32)) (w_3m8 : (Nat → Int32)) (w_3m9 : (Nat → Int32)) (w_3m10 : (Nat → Int32)) (w_3m11 : (Nat → Int32)) (w_3m12 : (Nat → Int32)) => (S_m_town_169  (fun (w_4l2 : Int32) (w_4m0 : (Nat → Int32)) (w_4m1 : (Nat → Int32)) (w_4m2 : (Nat → Int32)) (w_4m3 : (Nat → Int32)) (w_4m4 : (Nat → Int32)) (w_4m5 : (Nat → Int32)) (w_4m6 : (Nat → Int32)) (w_4m7 : (Nat → Int32)) (w_4m8 : (Nat → Int32)) (w_4m9 : (Nat → Int32)) (w_4m10 : (Nat → Int32)) (w_4m11 : (Nat → Int32)) (w_4m12 : (Nat → Int32)) => (S_m_town_195  (fun (w_5l2 : Int32) (w_5m0 : (Nat → Int32)) (w_5m1 : (Nat → Int32)) (w_5m2 : (Nat → Int32)) (w_5m3 : (Nat → Int32)) (w_5m4 : (Nat → Int32)) (w_5m5 : (Nat → Int32)) (w_5m6 : (Nat → Int32)) (w_5m7 : (Nat → Int32)) (w_5m8 : (Nat → Int32)) (w_5m9 : (Nat → Int32)) (w_5m10 : (Nat → Int32)) (w_5m11 : (Nat → Int32)) (w_5m12 : (Nat → Int32)) => ((S_m_begins w_5m0 w_5m1 w_5m4) ∧ True)) (((7 : Int32).toInt - (0 : Int32).toInt).toNat + 1) 0 w_4m0 w_4m1 w_4m2 w_4m3 w_4m4 w_4m5 w_4m6 w_4m7 w_4m8 w_4m9 w_4m10 w_4m11 w_4m12)) (((30 : Int32).toInt - (0 : Int32).toInt).toNat + 1) 0 w_3m0 w_3m1 w_3m2 w_3m3 w_3m4 w_3m5 w_3m6 w_3m7 w_3m8 w_3m9 w_3m10 w_3m11 w_3m12)) (((6 : Int32).toInt - (0 : Int32).toInt).toNat + 1) 0 (upd (upd (upd (upd (upd (upd w_1m0 14 0) 3 (w_1m0 20)) 4 (w_1m0 21)) 5 (w_1m0 23)) 6 (w_1m0 24)) 7 (w_1m0 25)) w_1m1 w_1m2 w_1m3 w_1m4 w_1m5 w_1m6 w_1m7 w_1m8 w_1m9 w_1m10 w_1m11 w_1m12)))) 300 1 (upd (upd (upd (upd (upd (upd (upd (upd (upd (upd G 15 0) 18 0) 19 (-1)) 20 0) 21 1) 22 0) 23 0) 24 0) 25 0) 26 0) f0 f1 f8 f9 f10 f11 f12 f27 f28 f29 f30 f31)
def rm_m_town : Room := { frames := 5, cells := 0, slots := 0, locals := 108 }
set_option maxHeartbeats 4000000 in
set_option maxRecDepth 100000 in
theorem m_town {l : Launch} {D : va_G} {cI cZ : ClassId} {sz : Nat} (Rf : Nat → Nat) (h : Nat) (G : Nat → Int32) (f0 : Nat → Int32) (f1 : Nat → Int32) (f8 : Nat → Int32) (f9 : Nat → Int32) (f10 : Nat → Int32) (f11 : Nat → Int32) (f12 : Nat → Int32) (f13 : Nat → Int32) (f27 : Nat → Int32) (f28 : Nat → Int32) (f29 : Nat → Int32) (f30 : Nat → Int32) (f31 : Nat → Int32) (hF : S_m_town G f0 f1 f8 f9 f10 f11 f12 f13 f27 f28 f29 f30 f31) : KI l yX10_town cX10_town 3 (some .int) rm_m_town D cI cZ [.ref h] sz [(h, .inr (10, ML G Rf)), ((Rf 0), .inl (cI, 1302, .inl f0)), ((Rf 1), .inl (cZ, 2, .inl f1)), ((Rf 8), .inl (cI, 6, .inl f8)), ((Rf 9), .inl (cI, 6, .inl f9)), ((Rf 10), .inl (cI, 30, .inl f10)), ((Rf 11), .inl (cI, 7, .inl f11)), ((Rf 12), .inl (cI, 7, .inl f12)), ((Rf 13), .inl (cI, 240, .inl f13)), ((Rf 27), .inl (cI, 6, .inl f27)), ((Rf 28), .inl (cI, 6, .inl f28)), ((Rf 29), .inl (cI, 30, .inl f29)), ((Rf 30), .inl (cI, 7, .inl f30)), ((Rf 31), .inl (cI, 7, .inl f31))] (fun (r : Int32) (u : (Nat → Int32) × (Nat → Int32) × (Nat → Int32) × (Nat → Int32) × (Nat → Int32) × (Nat → Int32) × (Nat → Int32) × (Nat → Int32) × (Nat → Int32) × (Nat → Int32) × (Nat → Int32) × (Nat → Int32) × (Nat → Int32)) => (r, u) = f_m_town G f0 f1 f8 f9 f10 f11 f12 f13 f27 f28 f29 f30 f31) (fun (u : (Nat → Int32) × (Nat → Int32) × (Nat → Int32) × (Nat → Int32) × (Nat → Int32) × (Nat → Int32) × (Nat → Int32) × (Nat → Int32) × (Nat → Int32) × (Nat → Int32) × (Nat → Int32) × (Nat → Int32) × (Nat → Int32)) => [(h, .inr (10, ML u.1 Rf)), ((Rf 0), .inl (cI, 1302, .inl u.2.1)), ((Rf 1), .inl (cZ, 2, .inl u.2.2.1)), ((Rf 8), .inl (cI, 6, .inl u.2.2.2.1)), ((Rf 9), .inl (cI, 6, .inl u.2.2.2.2.1)), ((Rf 10), .inl (cI, 30, .inl u.2.2.2.2.2.1)), ((Rf 11), .inl (cI, 7, .inl u.2.2.2.2.2.2.1)), ((Rf 12), .inl (cI, 7, .inl u.2.2.2.2.2.2.2.1)), ((Rf 13), .inl (cI, 240, .inl f13)), ((Rf 27), .inl (cI, 6, .inl u.2.2.2.2.2.2.2.2.1)), ((Rf 28), .inl (cI, 6, .inl u.2.2.2.2.2.2.2.2.2.1)), ((Rf 29), .inl (cI, 30, .inl u.2.2.2.2.2.2.2.2.2.2.1)), ((Rf 30), .inl (cI, 7, .inl u.2.2.2.2.2.2.2.2.2.2.2.1)), ((Rf 31), .inl (cI, 7, .inl u.2.2.2.2.2.2.2.2.2.2.2.2))]) := by
  refine KI.go rfl (Nat.le_of_ble_eq_true rfl) ?_
  intro p e s m args below meth c ls A Q hx hb hml hts hown hin hP hK hD hS hA hN hl hret
  have hl : lv_has ls 3 [(0, .ref h)] := hl
  rw [S_m_town] at hF
  obtain ⟨RES, hE⟩ : ∃ xRES, f_m_town G f0 f1 f8 f9 f10 f11 f12 f13 f27 f28 f29 f30 f31 = xRES := ⟨_, rfl⟩
  rw [hE] at hret
  rw [f_m_town] at hE
  refine lv_aload_n hx hb dX10_town_0 rfl (lv_at hl 0 rfl) ?_
  refine lv_iconst (v := 0) hx hb dX10_town_1 rfl ?_
  refine va_put (D := D) (ci := 10) (v := .int 0) (ty := .int) (C := RX10) (T := TX10) (N := 45) hx hb hts iX10 tyX10 tyX10_ok nmX10 hown hK hP hD hS 0 rfl rfl 15 (Nat.le_of_ble_eq_true rfl) (hts _ wd_508) (fun _ h9 => h9) rfl (by decide +kernel) rfl rfl (Nat.le_of_ble_eq_true rfl) dX10_town_2 (fun H locs hP hD hS => ?_)
  have hP : va_P D classes [(h, .inr (10, ML (upd G 15 0) Rf)), ((Rf 0), .inl (cI, 1302, .inl f0)), ((Rf 1), .inl (cZ, 2, .inl f1)), ((Rf 8), .inl (cI, 6, .inl f8)), ((Rf 9), .inl (cI, 6, .inl f9)), ((Rf 10), .inl (cI, 30, .inl f10)), ((Rf 11), .inl (cI, 7, .inl f11)), ((Rf 12), .inl (cI, 7, .inl f12)), ((Rf 13), .inl (cI, 240, .inl f13)), ((Rf 27), .inl (cI, 6, .inl f27)), ((Rf 28), .inl (cI, 6, .inl f28)), ((Rf 29), .inl (cI, 30, .inl f29)), ((Rf 30), .inl (cI, 7, .inl f30)), ((Rf 31), .inl (cI, 7, .inl f31))] H := hP
  have hD : va_D A [(h, .inr (10, ML (upd G 15 0) Rf)), ((Rf 0), .inl (cI, 1302, .inl f0)), ((Rf 1), .inl (cZ, 2, .inl f1)), ((Rf 8), .inl (cI, 6, .inl f8)), ((Rf 9), .inl (cI, 6, .inl f9)), ((Rf 10), .inl (cI, 30, .inl f10)), ((Rf 11), .inl (cI, 7, .inl f11)), ((Rf 12), .inl (cI, 7, .inl f12)), ((Rf 13), .inl (cI, 240, .inl f13)), ((Rf 27), .inl (cI, 6, .inl f27)), ((Rf 28), .inl (cI, 6, .inl f28)), ((Rf 29), .inl (cI, 30, .inl f29)), ((Rf 30), .inl (cI, 7, .inl f30)), ((Rf 31), .inl (cI, 7, .inl f31))] := hD
  refine lv_aload_n hx hb dX10_town_5 rfl (lv_at hl 0 rfl) ?_
  refine lv_iconst (v := 0) hx hb dX10_town_6 rfl ?_
  refine va_put (D := D) (ci := 10) (v := .int 0) (ty := .int) (C := RX10) (T := TX10) (N := 45) hx hb hts iX10 tyX10 tyX10_ok nmX10 hown hK hP hD hS 0 rfl rfl 18 (Nat.le_of_ble_eq_true rfl) (hts _ wd_514) (fun _ h9 => h9) rfl (by decide +kernel) rfl rfl (Nat.le_of_ble_eq_true rfl) dX10_town_7 (fun H locs hP hD hS => ?_)
  have hP : va_P D classes [(h, .inr (10, ML (upd (upd G 15 0) 18 0) Rf)), ((Rf 0), .inl (cI, 1302, .inl f0)), ((Rf 1), .inl (cZ, 2, .inl f1)), ((Rf 8), .inl (cI, 6, .inl f8)), ((Rf 9), .inl (cI, 6, .inl f9)), ((Rf 10), .inl (cI, 30, .inl f10)), ((Rf 11), .inl (cI, 7, .inl f11)), ((Rf 12), .inl (cI, 7, .inl f12)), ((Rf 13), .inl (cI, 240, .inl f13)), ((Rf 27), .inl (cI, 6, .inl f27)), ((Rf 28), .inl (cI, 6, .inl f28)), ((Rf 29), .inl (cI, 30, .inl f29)), ((Rf 30), .inl (cI, 7, .inl f30)), ((Rf 31), .inl (cI, 7, .inl f31))] H := hP
  have hD : va_D A [(h, .inr (10, ML (upd (upd G 15 0) 18 0) Rf)), ((Rf 0), .inl (cI, 1302, .inl f0)), ((Rf 1), .inl (cZ, 2, .inl f1)), ((Rf 8), .inl (cI, 6, .inl f8)), ((Rf 9), .inl (cI, 6, .inl f9)), ((Rf 10), .inl (cI, 30, .inl f10)), ((Rf 11), .inl (cI, 7, .inl f11)), ((Rf 12), .inl (cI, 7, .inl f12)), ((Rf 13), .inl (cI, 240, .inl f13)), ((Rf 27), .inl (cI, 6, .inl f27)), ((Rf 28), .inl (cI, 6, .inl f28)), ((Rf 29), .inl (cI, 30, .inl f29)), ((Rf 30), .inl (cI, 7, .inl f30)), ((Rf 31), .inl (cI, 7, .inl f31))] := hD
  refine lv_aload_n hx hb dX10_town_10 rfl (lv_at hl 0 rfl) ?_
  refine lv_iconst (v := (-1)) hx hb dX10_town_11 rfl ?_
  refine va_put (D := D) (ci := 10) (v := .int (-1)) (ty := .int) (C := RX10) (T := TX10) (N := 45) hx hb hts iX10 tyX10 tyX10_ok nmX10 hown hK hP hD hS 0 rfl rfl 19 (Nat.le_of_ble_eq_true rfl) (hts _ wd_515) (fun _ h9 => h9) rfl (by decide +kernel) rfl rfl (Nat.le_of_ble_eq_true rfl) dX10_town_12 (fun H locs hP hD hS => ?_)
  have hP : va_P D classes [(h, .inr (10, ML (upd (upd (upd G 15 0) 18 0) 19 (-1)) Rf)), ((Rf 0), .inl (cI, 1302, .inl f0)), ((Rf 1), .inl (cZ, 2, .inl f1)), ((Rf 8), .inl (cI, 6, .inl f8)), ((Rf 9), .inl (cI, 6, .inl f9)), ((Rf 10), .inl (cI, 30, .inl f10)), ((Rf 11), .inl (cI, 7, .inl f11)), ((Rf 12), .inl (cI, 7, .inl f12)), ((Rf 13), .inl (cI, 240, .inl f13)), ((Rf 27), .inl (cI, 6, .inl f27)), ((Rf 28), .inl (cI, 6, .inl f28)), ((Rf 29), .inl (cI, 30, .inl f29)), ((Rf 30), .inl (cI, 7, .inl f30)), ((Rf 31), .inl (cI, 7, .inl f31))] H := hP
  have hD : va_D A [(h, .inr (10, ML (upd (upd (upd G 15 0) 18 0) 19 (-1)) Rf)), ((Rf 0), .inl (cI, 1302, .inl f0)), ((Rf 1), .inl (cZ, 2, .inl f1)), ((Rf 8), .inl (cI, 6, .inl f8)), ((Rf 9), .inl (cI, 6, .inl f9)), ((Rf 10), .inl (cI, 30, .inl f10)), ((Rf 11), .inl (cI, 7, .inl f11)), ((Rf 12), .inl (cI, 7, .inl f12)), ((Rf 13), .inl (cI, 240, .inl f13)), ((Rf 27), .inl (cI, 6, .inl f27)), ((Rf 28), .inl (cI, 6, .inl f28)), ((Rf 29), .inl (cI, 30, .inl f29)), ((Rf 30), .inl (cI, 7, .inl f30)), ((Rf 31), .inl (cI, 7, .inl f31))] := hD
  refine lv_aload_n hx hb dX10_town_15 rfl (lv_at hl 0 rfl) ?_
  refine lv_iconst (v := 0) hx hb dX10_town_16 rfl ?_
  refine va_put (D := D) (ci := 10) (v := .int 0) (ty := .int) (C := RX10) (T := TX10) (N := 45) hx hb hts iX10 tyX10 tyX10_ok nmX10 hown hK hP hD hS 0 rfl rfl 20 (Nat.le_of_ble_eq_true rfl) (hts _ wd_527) (fun _ h9 => h9) rfl (by decide +kernel) rfl rfl (Nat.le_of_ble_eq_true rfl) dX10_town_17 (fun H locs hP hD hS => ?_)
  have hP : va_P D classes [(h, .inr (10, ML (upd (upd (upd (upd G 15 0) 18 0) 19 (-1)) 20 0) Rf)), ((Rf 0), .inl (cI, 1302, .inl f0)), ((Rf 1), .inl (cZ, 2, .inl f1)), ((Rf 8), .inl (cI, 6, .inl f8)), ((Rf 9), .inl (cI, 6, .inl f9)), ((Rf 10), .inl (cI, 30, .inl f10)), ((Rf 11), .inl (cI, 7, .inl f11)), ((Rf 12), .inl (cI, 7, .inl f12)), ((Rf 13), .inl (cI, 240, .inl f13)), ((Rf 27), .inl (cI, 6, .inl f27)), ((Rf 28), .inl (cI, 6, .inl f28)), ((Rf 29), .inl (cI, 30, .inl f29)), ((Rf 30), .inl (cI, 7, .inl f30)), ((Rf 31), .inl (cI, 7, .inl f31))] H := hP
  have hD : va_D A [(h, .inr (10, ML (upd (upd (upd (upd G 15 0) 18 0) 19 (-1)) 20 0) Rf)), ((Rf 0), .inl (cI, 1302, .inl f0)), ((Rf 1), .inl (cZ, 2, .inl f1)), ((Rf 8), .inl (cI, 6, .inl f8)), ((Rf 9), .inl (cI, 6, .inl f9)), ((Rf 10), .inl (cI, 30, .inl f10)), ((Rf 11), .inl (cI, 7, .inl f11)), ((Rf 12), .inl (cI, 7, .inl f12)), ((Rf 13), .inl (cI, 240, .inl f13)), ((Rf 27), .inl (cI, 6, .inl f27)), ((Rf 28), .inl (cI, 6, .inl f28)), ((Rf 29), .inl (cI, 30, .inl f29)), ((Rf 30), .inl (cI, 7, .inl f30)), ((Rf 31), .inl (cI, 7, .inl f31))] := hD
  refine lv_aload_n hx hb dX10_town_20 rfl (lv_at hl 0 rfl) ?_
  refine lv_iconst (v := 1) hx hb dX10_town_21 rfl ?_
  refine va_put (D := D) (ci := 10) (v := .int 1) (ty := .int) (C := RX10) (T := TX10) (N := 45) hx hb hts iX10 tyX10 tyX10_ok nmX10 hown hK hP hD hS 0 rfl rfl 21 (Nat.le_of_ble_eq_true rfl) (hts _ wd_534) (fun _ h9 => h9) rfl (by decide +kernel) rfl rfl (Nat.le_of_ble_eq_true rfl) dX10_town_22 (fun H locs hP hD hS => ?_)
  have hP : va_P D classes [(h, .inr (10, ML (upd (upd (upd (upd (upd G 15 0) 18 0) 19 (-1)) 20 0) 21 1) Rf)), ((Rf 0), .inl (cI, 1302, .inl f0)), ((Rf 1), .inl (cZ, 2, .inl f1)), ((Rf 8), .inl (cI, 6, .inl f8)), ((Rf 9), .inl (cI, 6, .inl f9)), ((Rf 10), .inl (cI, 30, .inl f10)), ((Rf 11), .inl (cI, 7, .inl f11)), ((Rf 12), .inl (cI, 7, .inl f12)), ((Rf 13), .inl (cI, 240, .inl f13)), ((Rf 27), .inl (cI, 6, .inl f27)), ((Rf 28), .inl (cI, 6, .inl f28)), ((Rf 29), .inl (cI, 30, .inl f29)), ((Rf 30), .inl (cI, 7, .inl f30)), ((Rf 31), .inl (cI, 7, .inl f31))] H := hP
  have hD : va_D A [(h, .inr (10, ML (upd (upd (upd (upd (upd G 15 0) 18 0) 19 (-1)) 20 0) 21 1) Rf)), ((Rf 0), .inl (cI, 1302, .inl f0)), ((Rf 1), .inl (cZ, 2, .inl f1)), ((Rf 8), .inl (cI, 6, .inl f8)), ((Rf 9), .inl (cI, 6, .inl f9)), ((Rf 10), .inl (cI, 30, .inl f10)), ((Rf 11), .inl (cI, 7, .inl f11)), ((Rf 12), .inl (cI, 7, .inl f12)), ((Rf 13), .inl (cI, 240, .inl f13)), ((Rf 27), .inl (cI, 6, .inl f27)), ((Rf 28), .inl (cI, 6, .inl f28)), ((Rf 29), .inl (cI, 30, .inl f29)), ((Rf 30), .inl (cI, 7, .inl f30)), ((Rf 31), .inl (cI, 7, .inl f31))] := hD
  refine lv_aload_n hx hb dX10_town_25 rfl (lv_at hl 0 rfl) ?_
  refine lv_iconst (v := 0) hx hb dX10_town_26 rfl ?_
  refine va_put (D := D) (ci := 10) (v := .int 0) (ty := .boolean) (C := RX10) (T := TX10) (N := 45) hx hb hts iX10 tyX10 tyX10_ok nmX10 hown hK hP hD hS 0 rfl rfl 22 (Nat.le_of_ble_eq_true rfl) (hts _ wd_533) (fun _ h9 => h9) rfl (by decide +kernel) rfl rfl (Nat.le_of_ble_eq_true rfl) dX10_town_27 (fun H locs hP hD hS => ?_)
  have hP : va_P D classes [(h, .inr (10, ML (upd (upd (upd (upd (upd (upd G 15 0) 18 0) 19 (-1)) 20 0) 21 1) 22 0) Rf)), ((Rf 0), .inl (cI, 1302, .inl f0)), ((Rf 1), .inl (cZ, 2, .inl f1)), ((Rf 8), .inl (cI, 6, .inl f8)), ((Rf 9), .inl (cI, 6, .inl f9)), ((Rf 10), .inl (cI, 30, .inl f10)), ((Rf 11), .inl (cI, 7, .inl f11)), ((Rf 12), .inl (cI, 7, .inl f12)), ((Rf 13), .inl (cI, 240, .inl f13)), ((Rf 27), .inl (cI, 6, .inl f27)), ((Rf 28), .inl (cI, 6, .inl f28)), ((Rf 29), .inl (cI, 30, .inl f29)), ((Rf 30), .inl (cI, 7, .inl f30)), ((Rf 31), .inl (cI, 7, .inl f31))] H := hP
  have hD : va_D A [(h, .inr (10, ML (upd (upd (upd (upd (upd (upd G 15 0) 18 0) 19 (-1)) 20 0) 21 1) 22 0) Rf)), ((Rf 0), .inl (cI, 1302, .inl f0)), ((Rf 1), .inl (cZ, 2, .inl f1)), ((Rf 8), .inl (cI, 6, .inl f8)), ((Rf 9), .inl (cI, 6, .inl f9)), ((Rf 10), .inl (cI, 30, .inl f10)), ((Rf 11), .inl (cI, 7, .inl f11)), ((Rf 12), .inl (cI, 7, .inl f12)), ((Rf 13), .inl (cI, 240, .inl f13)), ((Rf 27), .inl (cI, 6, .inl f27)), ((Rf 28), .inl (cI, 6, .inl f28)), ((Rf 29), .inl (cI, 30, .inl f29)), ((Rf 30), .inl (cI, 7, .inl f30)), ((Rf 31), .inl (cI, 7, .inl f31))] := hD
  refine lv_aload_n hx hb dX10_town_30 rfl (lv_at hl 0 rfl) ?_
  refine lv_iconst (v := 0) hx hb dX10_town_31 rfl ?_
  refine va_put (D := D) (ci := 10) (v := .int 0) (ty := .int) (C := RX10) (T := TX10) (N := 45) hx hb hts iX10 tyX10 tyX10_ok nmX10 hown hK hP hD hS 0 rfl rfl 23 (Nat.le_of_ble_eq_true rfl) (hts _ wd_536) (fun _ h9 => h9) rfl (by decide +kernel) rfl rfl (Nat.le_of_ble_eq_true rfl) dX10_town_32 (fun H locs hP hD hS => ?_)
  have hP : va_P D classes [(h, .inr (10, ML (upd (upd (upd (upd (upd (upd (upd G 15 0) 18 0) 19 (-1)) 20 0) 21 1) 22 0) 23 0) Rf)), ((Rf 0), .inl (cI, 1302, .inl f0)), ((Rf 1), .inl (cZ, 2, .inl f1)), ((Rf 8), .inl (cI, 6, .inl f8)), ((Rf 9), .inl (cI, 6, .inl f9)), ((Rf 10), .inl (cI, 30, .inl f10)), ((Rf 11), .inl (cI, 7, .inl f11)), ((Rf 12), .inl (cI, 7, .inl f12)), ((Rf 13), .inl (cI, 240, .inl f13)), ((Rf 27), .inl (cI, 6, .inl f27)), ((Rf 28), .inl (cI, 6, .inl f28)), ((Rf 29), .inl (cI, 30, .inl f29)), ((Rf 30), .inl (cI, 7, .inl f30)), ((Rf 31), .inl (cI, 7, .inl f31))] H := hP
  have hD : va_D A [(h, .inr (10, ML (upd (upd (upd (upd (upd (upd (upd G 15 0) 18 0) 19 (-1)) 20 0) 21 1) 22 0) 23 0) Rf)), ((Rf 0), .inl (cI, 1302, .inl f0)), ((Rf 1), .inl (cZ, 2, .inl f1)), ((Rf 8), .inl (cI, 6, .inl f8)), ((Rf 9), .inl (cI, 6, .inl f9)), ((Rf 10), .inl (cI, 30, .inl f10)), ((Rf 11), .inl (cI, 7, .inl f11)), ((Rf 12), .inl (cI, 7, .inl f12)), ((Rf 13), .inl (cI, 240, .inl f13)), ((Rf 27), .inl (cI, 6, .inl f27)), ((Rf 28), .inl (cI, 6, .inl f28)), ((Rf 29), .inl (cI, 30, .inl f29)), ((Rf 30), .inl (cI, 7, .inl f30)), ((Rf 31), .inl (cI, 7, .inl f31))] := hD
  refine lv_aload_n hx hb dX10_town_35 rfl (lv_at hl 0 rfl) ?_
  refine lv_iconst (v := 0) hx hb dX10_town_36 rfl ?_
  refine va_put (D := D) (ci := 10) (v := .int 0) (ty := .int) (C := RX10) (T := TX10) (N := 45) hx hb hts iX10 tyX10 tyX10_ok nmX10 hown hK hP hD hS 0 rfl rfl 24 (Nat.le_of_ble_eq_true rfl) (hts _ wd_543) (fun _ h9 => h9) rfl (by decide +kernel) rfl rfl (Nat.le_of_ble_eq_true rfl) dX10_town_37 (fun H locs hP hD hS => ?_)
  have hP : va_P D classes [(h, .inr (10, ML (upd (upd (upd (upd (upd (upd (upd (upd G 15 0) 18 0) 19 (-1)) 20 0) 21 1) 22 0) 23 0) 24 0) Rf)), ((Rf 0), .inl (cI, 1302, .inl f0)), ((Rf 1), .inl (cZ, 2, .inl f1)), ((Rf 8), .inl (cI, 6, .inl f8)), ((Rf 9), .inl (cI, 6, .inl f9)), ((Rf 10), .inl (cI, 30, .inl f10)), ((Rf 11), .inl (cI, 7, .inl f11)), ((Rf 12), .inl (cI, 7, .inl f12)), ((Rf 13), .inl (cI, 240, .inl f13)), ((Rf 27), .inl (cI, 6, .inl f27)), ((Rf 28), .inl (cI, 6, .inl f28)), ((Rf 29), .inl (cI, 30, .inl f29)), ((Rf 30), .inl (cI, 7, .inl f30)), ((Rf 31), .inl (cI, 7, .inl f31))] H := hP
  have hD : va_D A [(h, .inr (10, ML (upd (upd (upd (upd (upd (upd (upd (upd G 15 0) 18 0) 19 (-1)) 20 0) 21 1) 22 0) 23 0) 24 0) Rf)), ((Rf 0), .inl (cI, 1302, .inl f0)), ((Rf 1), .inl (cZ, 2, .inl f1)), ((Rf 8), .inl (cI, 6, .inl f8)), ((Rf 9), .inl (cI, 6, .inl f9)), ((Rf 10), .inl (cI, 30, .inl f10)), ((Rf 11), .inl (cI, 7, .inl f11)), ((Rf 12), .inl (cI, 7, .inl f12)), ((Rf 13), .inl (cI, 240, .inl f13)), ((Rf 27), .inl (cI, 6, .inl f27)), ((Rf 28), .inl (cI, 6, .inl f28)), ((Rf 29), .inl (cI, 30, .inl f29)), ((Rf 30), .inl (cI, 7, .inl f30)), ((Rf 31), .inl (cI, 7, .inl f31))] := hD
  refine lv_aload_n hx hb dX10_town_40 rfl (lv_at hl 0 rfl) ?_
  refine lv_iconst (v := 0) hx hb dX10_town_41 rfl ?_
  refine va_put (D := D) (ci := 10) (v := .int 0) (ty := .int) (C := RX10) (T := TX10) (N := 45) hx hb hts iX10 tyX10 tyX10_ok nmX10 hown hK hP hD hS 0 rfl rfl 25 (Nat.le_of_ble_eq_true rfl) (hts _ wd_546) (fun _ h9 => h9) rfl (by decide +kernel) rfl rfl (Nat.le_of_ble_eq_true rfl) dX10_town_42 (fun H locs hP hD hS => ?_)
  have hP : va_P D classes [(h, .inr (10, ML (upd (upd (upd (upd (upd (upd (upd (upd (upd G 15 0) 18 0) 19 (-1)) 20 0) 21 1) 22 0) 23 0) 24 0) 25 0) Rf)), ((Rf 0), .inl (cI, 1302, .inl f0)), ((Rf 1), .inl (cZ, 2, .inl f1)), ((Rf 8), .inl (cI, 6, .inl f8)), ((Rf 9), .inl (cI, 6, .inl f9)), ((Rf 10), .inl (cI, 30, .inl f10)), ((Rf 11), .inl (cI, 7, .inl f11)), ((Rf 12), .inl (cI, 7, .inl f12)), ((Rf 13), .inl (cI, 240, .inl f13)), ((Rf 27), .inl (cI, 6, .inl f27)), ((Rf 28), .inl (cI, 6, .inl f28)), ((Rf 29), .inl (cI, 30, .inl f29)), ((Rf 30), .inl (cI, 7, .inl f30)), ((Rf 31), .inl (cI, 7, .inl f31))] H := hP
  have hD : va_D A [(h, .inr (10, ML (upd (upd (upd (upd (upd (upd (upd (upd (upd G 15 0) 18 0) 19 (-1)) 20 0) 21 1) 22 0) 23 0) 24 0) 25 0) Rf)), ((Rf 0), .inl (cI, 1302, .inl f0)), ((Rf 1), .inl (cZ, 2, .inl f1)), ((Rf 8), .inl (cI, 6, .inl f8)), ((Rf 9), .inl (cI, 6, .inl f9)), ((Rf 10), .inl (cI, 30, .inl f10)), ((Rf 11), .inl (cI, 7, .inl f11)), ((Rf 12), .inl (cI, 7, .inl f12)), ((Rf 13), .inl (cI, 240, .inl f13)), ((Rf 27), .inl (cI, 6, .inl f27)), ((Rf 28), .inl (cI, 6, .inl f28)), ((Rf 29), .inl (cI, 30, .inl f29)), ((Rf 30), .inl (cI, 7, .inl f30)), ((Rf 31), .inl (cI, 7, .inl f31))] := hD
  refine lv_aload_n hx hb dX10_town_45 rfl (lv_at hl 0 rfl) ?_
  refine lv_iconst (v := 0) hx hb dX10_town_46 rfl ?_
  refine va_put (D := D) (ci := 10) (v := .int 0) (ty := .boolean) (C := RX10) (T := TX10) (N := 45) hx hb hts iX10 tyX10 tyX10_ok nmX10 hown hK hP hD hS 0 rfl rfl 26 (Nat.le_of_ble_eq_true rfl) (hts _ wd_545) (fun _ h9 => h9) rfl (by decide +kernel) rfl rfl (Nat.le_of_ble_eq_true rfl) dX10_town_47 (fun H locs hP hD hS => ?_)
  have hP : va_P D classes [(h, .inr (10, ML (upd (upd (upd (upd (upd (upd (upd (upd (upd (upd G 15 0) 18 0) 19 (-1)) 20 0) 21 1) 22 0) 23 0) 24 0) 25 0) 26 0) Rf)), ((Rf 0), .inl (cI, 1302, .inl f0)), ((Rf 1), .inl (cZ, 2, .inl f1)), ((Rf 8), .inl (cI, 6, .inl f8)), ((Rf 9), .inl (cI, 6, .inl f9)), ((Rf 10), .inl (cI, 30, .inl f10)), ((Rf 11), .inl (cI, 7, .inl f11)), ((Rf 12), .inl (cI, 7, .inl f12)), ((Rf 13), .inl (cI, 240, .inl f13)), ((Rf 27), .inl (cI, 6, .inl f27)), ((Rf 28), .inl (cI, 6, .inl f28)), ((Rf 29), .inl (cI, 30, .inl f29)), ((Rf 30), .inl (cI, 7, .inl f30)), ((Rf 31), .inl (cI, 7, .inl f31))] H := hP
  have hD : va_D A [(h, .inr (10, ML (upd (upd (upd (upd (upd (upd (upd (upd (upd (upd G 15 0) 18 0) 19 (-1)) 20 0) 21 1) 22 0) 23 0) 24 0) 25 0) 26 0) Rf)), ((Rf 0), .inl (cI, 1302, .inl f0)), ((Rf 1), .inl (cZ, 2, .inl f1)), ((Rf 8), .inl (cI, 6, .inl f8)), ((Rf 9), .inl (cI, 6, .inl f9)), ((Rf 10), .inl (cI, 30, .inl f10)), ((Rf 11), .inl (cI, 7, .inl f11)), ((Rf 12), .inl (cI, 7, .inl f12)), ((Rf 13), .inl (cI, 240, .inl f13)), ((Rf 27), .inl (cI, 6, .inl f27)), ((Rf 28), .inl (cI, 6, .inl f28)), ((Rf 29), .inl (cI, 30, .inl f29)), ((Rf 30), .inl (cI, 7, .inl f30)), ((Rf 31), .inl (cI, 7, .inl f31))] := hD
  refine lv_iconst (v := 1) hx hb dX10_town_50 rfl ?_
  refine lv_istore_n (lv' := [(1, .int 1), (0, .ref h)]) hx hb dX10_town_51 rfl hl (Nat.le_of_ble_eq_true rfl) rfl (fun ls hl => ?_)
  have ex_52_w_1 : ∀ (w_1l1 : Int32) (w_1m0 : (Nat → Int32)) (w_1m1 : (Nat → Int32)) (w_1m2 : (Nat → Int32)) (w_1m3 : (Nat → Int32)) (w_1m4 : (Nat → Int32)) (w_1m5 : (Nat → Int32)) (w_1m6 : (Nat → Int32)) (w_1m7 : (Nat → Int32)) (w_1m8 : (Nat → Int32)) (w_1m9 : (Nat → Int32)) (w_1m10 : (Nat → Int32)) (w_1m11 : (Nat → Int32)) (w_1m12 : (Nat → Int32)) (H : Heap) (locs : List Loc) (ls : Array Slot), va_P D classes [(h, .inr (10, ML w_1m0 Rf)), ((Rf 0), .inl (cI, 1302, .inl w_1m1)), ((Rf 1), .inl (cZ, 2, .inl w_1m2)), ((Rf 8), .inl (cI, 6, .inl w_1m3)), ((Rf 9), .inl (cI, 6, .inl w_1m4)), ((Rf 10), .inl (cI, 30, .inl w_1m5)), ((Rf 11), .inl (cI, 7, .inl w_1m6)), ((Rf 12), .inl (cI, 7, .inl w_1m7)), ((Rf 13), .inl (cI, 240, .inl f13)), ((Rf 27), .inl (cI, 6, .inl w_1m8)), ((Rf 28), .inl (cI, 6, .inl w_1m9)), ((Rf 29), .inl (cI, 30, .inl w_1m10)), ((Rf 30), .inl (cI, 7, .inl w_1m11)), ((Rf 31), .inl (cI, 7, .inl w_1m12))] H → va_D A [(h, .inr (10, ML w_1m0 Rf)), ((Rf 0), .inl (cI, 1302, .inl w_1m1)), ((Rf 1), .inl (cZ, 2, .inl w_1m2)), ((Rf 8), .inl (cI, 6, .inl w_1m3)), ((Rf 9), .inl (cI, 6, .inl w_1m4)), ((Rf 10), .inl (cI, 30, .inl w_1m5)), ((Rf 11), .inl (cI, 7, .inl w_1m6)), ((Rf 12), .inl (cI, 7, .inl w_1m7)), ((Rf 13), .inl (cI, 240, .inl f13)), ((Rf 27), .inl (cI, 6, .inl w_1m8)), ((Rf 28), .inl (cI, 6, .inl w_1m9)), ((Rf 29), .inl (cI, 30, .inl w_1m10)), ((Rf 30), .inl (cI, 7, .inl w_1m11)), ((Rf 31), .inl (cI, 7, .inl w_1m12))] → va_S A s.heap H locs → lv_has ls 3 [(1, .int w_1l1), (0, .ref h)] → (((w_1l1 = 0 → True) ∧ (¬ w_1l1 = 0 → (S_m_town_131  (fun (w_3l2 : Int32) (w_3m0 : (Nat → Int32)) (w_3m1 : (Nat → Int32)) (w_3m2 : (Nat → Int32)) (w_3m3 : (Nat → Int32)) (w_3m4 : (Nat → Int32)) (w_3m5 : (Nat → Int32)) (w_3m6 : (Nat → Int32)) (w_3m7 : (Nat → Int32)) (w_3m8 : (Nat → Int32)) (w_3m9 : (Nat → Int32)) (w_3m10 : (Nat → Int32)) (w_3m11 : (Nat → Int32)) (w_3m12 : (Nat → Int32)) => (S_m_town_169  (fun (w_4l2 : Int32) (w_4m0 : (Nat → Int32)) (w_4m1 : (Nat → Int32)) (w_4m2 : (Nat → Int32)) (w_4m3 : (Nat → Int32)) (w_4m4 : (Nat → Int32)) (w_4m5 : (Nat → Int32)) (w_4m6 : (Nat → Int32)) (w_4m7 : (Nat → Int32)) (w_4m8 : (Nat → Int32)) (w_4m9 : (Nat → Int32)) (w_4m10 : (Nat → Int32)) (w_4m11 : (Nat → Int32)) (w_4m12 : (Nat → Int32)) => (S_m_town_195  (fun (w_5l2 : Int32) (w_5m0 : (Nat → Int32)) (w_5m1 : (Nat → Int32)) (w_5m2 : (Nat → Int32)) (w_5m3 : (Nat → Int32)) (w_5m4 : (Nat → Int32)) (w_5m5 : (Nat → Int32)) (w_5m6 : (Nat → Int32)) (w_5m7 : (Nat → Int32)) (w_5m8 : (Nat → Int32)) (w_5m9 : (Nat → Int32)) (w_5m10 : (Nat → Int32)) (w_5m11 : (Nat → Int32)) (w_5m12 : (Nat → Int32)) => ((S_m_begins w_5m0 w_5m1 w_5m4) ∧ True)) (((7 : Int32).toInt - (0 : Int32).toInt).toNat + 1) 0 w_4m0 w_4m1 w_4m2 w_4m3 w_4m4 w_4m5 w_4m6 w_4m7 w_4m8 w_4m9 w_4m10 w_4m11 w_4m12)) (((30 : Int32).toInt - (0 : Int32).toInt).toNat + 1) 0 w_3m0 w_3m1 w_3m2 w_3m3 w_3m4 w_3m5 w_3m6 w_3m7 w_3m8 w_3m9 w_3m10 w_3m11 w_3m12)) (((6 : Int32).toInt - (0 : Int32).toInt).toNat + 1) 0 (upd (upd (upd (upd (upd (upd w_1m0 14 0) 3 (w_1m0 20)) 4 (w_1m0 21)) 5 (w_1m0 23)) 6 (w_1m0 24)) 7 (w_1m0 25)) w_1m1 w_1m2 w_1m3 w_1m4 w_1m5 w_1m6 w_1m7 w_1m8 w_1m9 w_1m10 w_1m11 w_1m12)))) → (((if w_1l1 = 0 then (((-10) - (w_1m0 18)), (upd w_1m0 14 0), w_1m1, w_1m2, w_1m3, w_1m4, w_1m5, w_1m6, w_1m7, w_1m8, w_1m9, w_1m10, w_1m11, w_1m12) else (match ((f_m_town_131  (((6 : Int32).toInt - (0 : Int32).toInt).toNat + 1) 0 (upd (upd (upd (upd (upd (upd w_1m0 14 0) 3 (w_1m0 20)) 4 (w_1m0 21)) 5 (w_1m0 23)) 6 (w_1m0 24)) 7 (w_1m0 25)) w_1m1 w_1m2 w_1m3 w_1m4 w_1m5 w_1m6 w_1m7 w_1m8 w_1m9 w_1m10 w_1m11 w_1m12) : Int32 × (Nat → Int32) × (Nat → Int32) × (Nat → Int32) × (Nat → Int32) × (Nat → Int32) × (Nat → Int32) × (Nat → Int32) × (Nat → Int32) × (Nat → Int32) × (Nat → Int32) × (Nat → Int32) × (Nat → Int32) × (Nat → Int32)) with | (w_3l2, w_3m0, w_3m1, w_3m2, w_3m3, w_3m4, w_3m5, w_3m6, w_3m7, w_3m8, w_3m9, w_3m10, w_3m11, w_3m12) => (match ((f_m_town_169  (((30 : Int32).toInt - (0 : Int32).toInt).toNat + 1) 0 w_3m0 w_3m1 w_3m2 w_3m3 w_3m4 w_3m5 w_3m6 w_3m7 w_3m8 w_3m9 w_3m10 w_3m11 w_3m12) : Int32 × (Nat → Int32) × (Nat → Int32) × (Nat → Int32) × (Nat → Int32) × (Nat → Int32) × (Nat → Int32) × (Nat → Int32) × (Nat → Int32) × (Nat → Int32) × (Nat → Int32) × (Nat → Int32) × (Nat → Int32) × (Nat → Int32)) with | (w_4l2, w_4m0, w_4m1, w_4m2, w_4m3, w_4m4, w_4m5, w_4m6, w_4m7, w_4m8, w_4m9, w_4m10, w_4m11, w_4m12) => (match ((f_m_town_195  (((7 : Int32).toInt - (0 : Int32).toInt).toNat + 1) 0 w_4m0 w_4m1 w_4m2 w_4m3 w_4m4 w_4m5 w_4m6 w_4m7 w_4m8 w_4m9 w_4m10 w_4m11 w_4m12) : Int32 × (Nat → Int32) × (Nat → Int32) × (Nat → Int32) × (Nat → Int32) × (Nat → Int32) × (Nat → Int32) × (Nat → Int32) × (Nat → Int32) × (Nat → Int32) × (Nat → Int32) × (Nat → Int32) × (Nat → Int32) × (Nat → Int32)) with | (w_5l2, w_5m0, w_5m1, w_5m2, w_5m3, w_5m4, w_5m5, w_5m6, w_5m7, w_5m8, w_5m9, w_5m10, w_5m11, w_5m12) => ((w_5m0 3), (upd (upd w_5m0 42 0) 2 0), (f_m_begins w_5m0 w_5m1 w_5m4), (upd (upd w_5m2 (0 : Int32).toNatClampNeg (vp_nar .boolean 0)) (1 : Int32).toNatClampNeg (vp_nar .boolean 0)), w_5m3, w_5m4, w_5m5, w_5m6, w_5m7, w_5m8, w_5m9, w_5m10, w_5m11, w_5m12)))))) : Int32 × (Nat → Int32) × (Nat → Int32) × (Nat → Int32) × (Nat → Int32) × (Nat → Int32) × (Nat → Int32) × (Nat → Int32) × (Nat → Int32) × (Nat → Int32) × (Nat → Int32) × (Nat → Int32) × (Nat → Int32) × (Nat → Int32)) = RES → W p l e rm_m_town s m args below meth c H locs 0 0 Q (F0 m 72 ls []) := by
    intro w_1l1 w_1m0 w_1m1 w_1m2 w_1m3 w_1m4 w_1m5 w_1m6 w_1m7 w_1m8 w_1m9 w_1m10 w_1m11 w_1m12 H locs ls hP hD hS hl hF hE
    refine lv_aload_n hx hb dX10_town_72 rfl (lv_at hl 1 rfl) ?_
    refine lv_iconst (v := 0) hx hb dX10_town_73 rfl ?_
    refine va_put (D := D) (ci := 10) (v := .int 0) (ty := .int) (C := RX10) (T := TX10) (N := 45) hx hb hts iX10 tyX10 tyX10_ok nmX10 hown hK hP hD hS 0 rfl rfl 14 (Nat.le_of_ble_eq_true rfl) (hts _ wd_492) (fun _ h9 => h9) rfl (by decide +kernel) rfl rfl (Nat.le_of_ble_eq_true rfl) dX10_town_74 (fun H locs hP hD hS => ?_)
    have hP : va_P D classes [(h, .inr (10, ML (upd w_1m0 14 0) Rf)), ((Rf 0), .inl (cI, 1302, .inl w_1m1)), ((Rf 1), .inl (cZ, 2, .inl w_1m2)), ((Rf 8), .inl (cI, 6, .inl w_1m3)), ((Rf 9), .inl (cI, 6, .inl w_1m4)), ((Rf 10), .inl (cI, 30, .inl w_1m5)), ((Rf 11), .inl (cI, 7, .inl w_1m6)), ((Rf 12), .inl (cI, 7, .inl w_1m7)), ((Rf 13), .inl (cI, 240, .inl f13)), ((Rf 27), .inl (cI, 6, .inl w_1m8)), ((Rf 28), .inl (cI, 6, .inl w_1m9)), ((Rf 29), .inl (cI, 30, .inl w_1m10)), ((Rf 30), .inl (cI, 7, .inl w_1m11)), ((Rf 31), .inl (cI, 7, .inl w_1m12))] H := hP
    have hD : va_D A [(h, .inr (10, ML (upd w_1m0 14 0) Rf)), ((Rf 0), .inl (cI, 1302, .inl w_1m1)), ((Rf 1), .inl (cZ, 2, .inl w_1m2)), ((Rf 8), .inl (cI, 6, .inl w_1m3)), ((Rf 9), .inl (cI, 6, .inl w_1m4)), ((Rf 10), .inl (cI, 30, .inl w_1m5)), ((Rf 11), .inl (cI, 7, .inl w_1m6)), ((Rf 12), .inl (cI, 7, .inl w_1m7)), ((Rf 13), .inl (cI, 240, .inl f13)), ((Rf 27), .inl (cI, 6, .inl w_1m8)), ((Rf 28), .inl (cI, 6, .inl w_1m9)), ((Rf 29), .inl (cI, 30, .inl w_1m10)), ((Rf 30), .inl (cI, 7, .inl w_1m11)), ((Rf 31), .inl (cI, 7, .inl w_1m12))] := hD
    refine lv_iload_n hx hb dX10_town_77 rfl (lv_at hl 0 rfl) ?_
    refine lv_if_ne (tgt := 89) hx hb dX10_town_78 rfl (fun c_2 => ?_) (fun c_2 => ?_)
    · replace hF := hF.2 c_2
      rw [if_neg c_2] at hE
      refine lv_aload_n hx hb dX10_town_89 rfl (lv_at hl 1 rfl) ?_
      refine lv_aload_n hx hb dX10_town_90 rfl (lv_at hl 1 rfl) ?_
      refine va_get (D := D) (ci := 10) (v := .int (w_1m0 20)) (C := RX10) (T := TX10) (N := 45) hx hb hts iX10 hown hK hP 0 rfl rfl 20 (Nat.le_of_ble_eq_true rfl) (hts _ wd_527) (fun _ h9 => h9) rfl dX10_town_91 ?_
      refine va_put (D := D) (ci := 10) (v := .int (w_1m0 20)) (ty := .int) (C := RX10) (T := TX10) (N := 45) hx hb hts iX10 tyX10 tyX10_ok nmX10 hown hK hP hD hS 0 rfl rfl 3 (Nat.le_of_ble_eq_true rfl) (hts _ wd_494) (fun _ h9 => h9) rfl (by decide +kernel) rfl rfl (Nat.le_of_ble_eq_true rfl) dX10_town_94 (fun H locs hP hD hS => ?_)
      have hP : va_P D classes [(h, .inr (10, ML (upd (upd w_1m0 14 0) 3 (w_1m0 20)) Rf)), ((Rf 0), .inl (cI, 1302, .inl w_1m1)), ((Rf 1), .inl (cZ, 2, .inl w_1m2)), ((Rf 8), .inl (cI, 6, .inl w_1m3)), ((Rf 9), .inl (cI, 6, .inl w_1m4)), ((Rf 10), .inl (cI, 30, .inl w_1m5)), ((Rf 11), .inl (cI, 7, .inl w_1m6)), ((Rf 12), .inl (cI, 7, .inl w_1m7)), ((Rf 13), .inl (cI, 240, .inl f13)), ((Rf 27), .inl (cI, 6, .inl w_1m8)), ((Rf 28), .inl (cI, 6, .inl w_1m9)), ((Rf 29), .inl (cI, 30, .inl w_1m10)), ((Rf 30), .inl (cI, 7, .inl w_1m11)), ((Rf 31), .inl (cI, 7, .inl w_1m12))] H := hP
      have hD : va_D A [(h, .inr (10, ML (upd (upd w_1m0 14 0) 3 (w_1m0 20)) Rf)), ((Rf 0), .inl (cI, 1302, .inl w_1m1)), ((Rf 1), .inl (cZ, 2, .inl w_1m2)), ((Rf 8), .inl (cI, 6, .inl w_1m3)), ((Rf 9), .inl (cI, 6, .inl w_1m4)), ((Rf 10), .inl (cI, 30, .inl w_1m5)), ((Rf 11), .inl (cI, 7, .inl w_1m6)), ((Rf 12), .inl (cI, 7, .inl w_1m7)), ((Rf 13), .inl (cI, 240, .inl f13)), ((Rf 27), .inl (cI, 6, .inl w_1m8)), ((Rf 28), .inl (cI, 6, .inl w_1m9)), ((Rf 29), .inl (cI, 30, .inl w_1m10)), ((Rf 30), .inl (cI, 7, .inl w_1m11)), ((Rf 31), .inl (cI, 7, .inl w_1m12))] := hD
      refine lv_aload_n hx hb dX10_town_97 rfl (lv_at hl 1 rfl) ?_
      refine lv_aload_n hx hb dX10_town_98 rfl (lv_at hl 1 rfl) ?_
      refine va_get (D := D) (ci := 10) (v := .int (w_1m0 21)) (C := RX10) (T := TX10) (N := 45) hx hb hts iX10 hown hK hP 0 rfl rfl 21 (Nat.le_of_ble_eq_true rfl) (hts _ wd_534) (fun _ h9 => h9) rfl dX10_town_99 ?_
      refine va_put (D := D) (ci := 10) (v := .int (w_1m0 21)) (ty := .int) (C := RX10) (T := TX10) (N := 45) hx hb hts iX10 tyX10 tyX10_ok nmX10 hown hK hP hD hS 0 rfl rfl 4 (Nat.le_of_ble_eq_true rfl) (hts _ wd_500) (fun _ h9 => h9) rfl (by decide +kernel) rfl rfl (Nat.le_of_ble_eq_true rfl) dX10_town_102 (fun H locs hP hD hS => ?_)
      have hP : va_P D classes [(h, .inr (10, ML (upd (upd (upd w_1m0 14 0) 3 (w_1m0 20)) 4 (w_1m0 21)) Rf)), ((Rf 0), .inl (cI, 1302, .inl w_1m1)), ((Rf 1), .inl (cZ, 2, .inl w_1m2)), ((Rf 8), .inl (cI, 6, .inl w_1m3)), ((Rf 9), .inl (cI, 6, .inl w_1m4)), ((Rf 10), .inl (cI, 30, .inl w_1m5)), ((Rf 11), .inl (cI, 7, .inl w_1m6)), ((Rf 12), .inl (cI, 7, .inl w_1m7)), ((Rf 13), .inl (cI, 240, .inl f13)), ((Rf 27), .inl (cI, 6, .inl w_1m8)), ((Rf 28), .inl (cI, 6, .inl w_1m9)), ((Rf 29), .inl (cI, 30, .inl w_1m10)), ((Rf 30), .inl (cI, 7, .inl w_1m11)), ((Rf 31), .inl (cI, 7, .inl w_1m12))] H := hP
      have hD : va_D A [(h, .inr (10, ML (upd (upd (upd w_1m0 14 0) 3 (w_1m0 20)) 4 (w_1m0 21)) Rf)), ((Rf 0), .inl (cI, 1302, .inl w_1m1)), ((Rf 1), .inl (cZ, 2, .inl w_1m2)), ((Rf 8), .inl (cI, 6, .inl w_1m3)), ((Rf 9), .inl (cI, 6, .inl w_1m4)), ((Rf 10), .inl (cI, 30, .inl w_1m5)), ((Rf 11), .inl (cI, 7, .inl w_1m6)), ((Rf 12), .inl (cI, 7, .inl w_1m7)), ((Rf 13), .inl (cI, 240, .inl f13)), ((Rf 27), .inl (cI, 6, .inl w_1m8)), ((Rf 28), .inl (cI, 6, .inl w_1m9)), ((Rf 29), .inl (cI, 30, .inl w_1m10)), ((Rf 30), .inl (cI, 7, .inl w_1m11)), ((Rf 31), .inl (cI, 7, .inl w_1m12))] := hD
      refine lv_aload_n hx hb dX10_town_105 rfl (lv_at hl 1 rfl) ?_
      refine lv_aload_n hx hb dX10_town_106 rfl (lv_at hl 1 rfl) ?_
      refine va_get (D := D) (ci := 10) (v := .int (w_1m0 23)) (C := RX10) (T := TX10) (N := 45) hx hb hts iX10 hown hK hP 0 rfl rfl 23 (Nat.le_of_ble_eq_true rfl) (hts _ wd_536) (fun _ h9 => h9) rfl dX10_town_107 ?_
      refine va_put (D := D) (ci := 10) (v := .int (w_1m0 23)) (ty := .int) (C := RX10) (T := TX10) (N := 45) hx hb hts iX10 tyX10 tyX10_ok nmX10 hown hK hP hD hS 0 rfl rfl 5 (Nat.le_of_ble_eq_true rfl) (hts _ wd_499) (fun _ h9 => h9) rfl (by decide +kernel) rfl rfl (Nat.le_of_ble_eq_true rfl) dX10_town_110 (fun H locs hP hD hS => ?_)
      have hP : va_P D classes [(h, .inr (10, ML (upd (upd (upd (upd w_1m0 14 0) 3 (w_1m0 20)) 4 (w_1m0 21)) 5 (w_1m0 23)) Rf)), ((Rf 0), .inl (cI, 1302, .inl w_1m1)), ((Rf 1), .inl (cZ, 2, .inl w_1m2)), ((Rf 8), .inl (cI, 6, .inl w_1m3)), ((Rf 9), .inl (cI, 6, .inl w_1m4)), ((Rf 10), .inl (cI, 30, .inl w_1m5)), ((Rf 11), .inl (cI, 7, .inl w_1m6)), ((Rf 12), .inl (cI, 7, .inl w_1m7)), ((Rf 13), .inl (cI, 240, .inl f13)), ((Rf 27), .inl (cI, 6, .inl w_1m8)), ((Rf 28), .inl (cI, 6, .inl w_1m9)), ((Rf 29), .inl (cI, 30, .inl w_1m10)), ((Rf 30), .inl (cI, 7, .inl w_1m11)), ((Rf 31), .inl (cI, 7, .inl w_1m12))] H := hP
      have hD : va_D A [(h, .inr (10, ML (upd (upd (upd (upd w_1m0 14 0) 3 (w_1m0 20)) 4 (w_1m0 21)) 5 (w_1m0 23)) Rf)), ((Rf 0), .inl (cI, 1302, .inl w_1m1)), ((Rf 1), .inl (cZ, 2, .inl w_1m2)), ((Rf 8), .inl (cI, 6, .inl w_1m3)), ((Rf 9), .inl (cI, 6, .inl w_1m4)), ((Rf 10), .inl (cI, 30, .inl w_1m5)), ((Rf 11), .inl (cI, 7, .inl w_1m6)), ((Rf 12), .inl (cI, 7, .inl w_1m7)), ((Rf 13), .inl (cI, 240, .inl f13)), ((Rf 27), .inl (cI, 6, .inl w_1m8)), ((Rf 28), .inl (cI, 6, .inl w_1m9)), ((Rf 29), .inl (cI, 30, .inl w_1m10)), ((Rf 30), .inl (cI, 7, .inl w_1m11)), ((Rf 31), .inl (cI, 7, .inl w_1m12))] := hD
      refine lv_aload_n hx hb dX10_town_113 rfl (lv_at hl 1 rfl) ?_
      refine lv_aload_n hx hb dX10_town_114 rfl (lv_at hl 1 rfl) ?_
      refine va_get (D := D) (ci := 10) (v := .int (w_1m0 24)) (C := RX10) (T := TX10) (N := 45) hx hb hts iX10 hown hK hP 0 rfl rfl 24 (Nat.le_of_ble_eq_true rfl) (hts _ wd_543) (fun _ h9 => h9) rfl dX10_town_115 ?_
      refine va_put (D := D) (ci := 10) (v := .int (w_1m0 24)) (ty := .int) (C := RX10) (T := TX10) (N := 45) hx hb hts iX10 tyX10 tyX10_ok nmX10 hown hK hP hD hS 0 rfl rfl 6 (Nat.le_of_ble_eq_true rfl) (hts _ wd_501) (fun _ h9 => h9) rfl (by decide +kernel) rfl rfl (Nat.le_of_ble_eq_true rfl) dX10_town_118 (fun H locs hP hD hS => ?_)
      have hP : va_P D classes [(h, .inr (10, ML (upd (upd (upd (upd (upd w_1m0 14 0) 3 (w_1m0 20)) 4 (w_1m0 21)) 5 (w_1m0 23)) 6 (w_1m0 24)) Rf)), ((Rf 0), .inl (cI, 1302, .inl w_1m1)), ((Rf 1), .inl (cZ, 2, .inl w_1m2)), ((Rf 8), .inl (cI, 6, .inl w_1m3)), ((Rf 9), .inl (cI, 6, .inl w_1m4)), ((Rf 10), .inl (cI, 30, .inl w_1m5)), ((Rf 11), .inl (cI, 7, .inl w_1m6)), ((Rf 12), .inl (cI, 7, .inl w_1m7)), ((Rf 13), .inl (cI, 240, .inl f13)), ((Rf 27), .inl (cI, 6, .inl w_1m8)), ((Rf 28), .inl (cI, 6, .inl w_1m9)), ((Rf 29), .inl (cI, 30, .inl w_1m10)), ((Rf 30), .inl (cI, 7, .inl w_1m11)), ((Rf 31), .inl (cI, 7, .inl w_1m12))] H := hP
      have hD : va_D A [(h, .inr (10, ML (upd (upd (upd (upd (upd w_1m0 14 0) 3 (w_1m0 20)) 4 (w_1m0 21)) 5 (w_1m0 23)) 6 (w_1m0 24)) Rf)), ((Rf 0), .inl (cI, 1302, .inl w_1m1)), ((Rf 1), .inl (cZ, 2, .inl w_1m2)), ((Rf 8), .inl (cI, 6, .inl w_1m3)), ((Rf 9), .inl (cI, 6, .inl w_1m4)), ((Rf 10), .inl (cI, 30, .inl w_1m5)), ((Rf 11), .inl (cI, 7, .inl w_1m6)), ((Rf 12), .inl (cI, 7, .inl w_1m7)), ((Rf 13), .inl (cI, 240, .inl f13)), ((Rf 27), .inl (cI, 6, .inl w_1m8)), ((Rf 28), .inl (cI, 6, .inl w_1m9)), ((Rf 29), .inl (cI, 30, .inl w_1m10)), ((Rf 30), .inl (cI, 7, .inl w_1m11)), ((Rf 31), .inl (cI, 7, .inl w_1m12))] := hD
      refine lv_aload_n hx hb dX10_town_121 rfl (lv_at hl 1 rfl) ?_
      refine lv_aload_n hx hb dX10_town_122 rfl (lv_at hl 1 rfl) ?_
      refine va_get (D := D) (ci := 10) (v := .int (w_1m0 25)) (C := RX10) (T := TX10) (N := 45) hx hb hts iX10 hown hK hP 0 rfl rfl 25 (Nat.le_of_ble_eq_true rfl) (hts _ wd_546) (fun _ h9 => h9) rfl dX10_town_123 ?_
      refine va_put (D := D) (ci := 10) (v := .int (w_1m0 25)) (ty := .int) (C := RX10) (T := TX10) (N := 45) hx hb hts iX10 tyX10 tyX10_ok nmX10 hown hK hP hD hS 0 rfl rfl 7 (Nat.le_of_ble_eq_true rfl) (hts _ wd_548) (fun _ h9 => h9) rfl (by decide +kernel) rfl rfl (Nat.le_of_ble_eq_true rfl) dX10_town_126 (fun H locs hP hD hS => ?_)
      have hP : va_P D classes [(h, .inr (10, ML (upd (upd (upd (upd (upd (upd w_1m0 14 0) 3 (w_1m0 20)) 4 (w_1m0 21)) 5 (w_1m0 23)) 6 (w_1m0 24)) 7 (w_1m0 25)) Rf)), ((Rf 0), .inl (cI, 1302, .inl w_1m1)), ((Rf 1), .inl (cZ, 2, .inl w_1m2)), ((Rf 8), .inl (cI, 6, .inl w_1m3)), ((Rf 9), .inl (cI, 6, .inl w_1m4)), ((Rf 10), .inl (cI, 30, .inl w_1m5)), ((Rf 11), .inl (cI, 7, .inl w_1m6)), ((Rf 12), .inl (cI, 7, .inl w_1m7)), ((Rf 13), .inl (cI, 240, .inl f13)), ((Rf 27), .inl (cI, 6, .inl w_1m8)), ((Rf 28), .inl (cI, 6, .inl w_1m9)), ((Rf 29), .inl (cI, 30, .inl w_1m10)), ((Rf 30), .inl (cI, 7, .inl w_1m11)), ((Rf 31), .inl (cI, 7, .inl w_1m12))] H := hP
      have hD : va_D A [(h, .inr (10, ML (upd (upd (upd (upd (upd (upd w_1m0 14 0) 3 (w_1m0 20)) 4 (w_1m0 21)) 5 (w_1m0 23)) 6 (w_1m0 24)) 7 (w_1m0 25)) Rf)), ((Rf 0), .inl (cI, 1302, .inl w_1m1)), ((Rf 1), .inl (cZ, 2, .inl w_1m2)), ((Rf 8), .inl (cI, 6, .inl w_1m3)), ((Rf 9), .inl (cI, 6, .inl w_1m4)), ((Rf 10), .inl (cI, 30, .inl w_1m5)), ((Rf 11), .inl (cI, 7, .inl w_1m6)), ((Rf 12), .inl (cI, 7, .inl w_1m7)), ((Rf 13), .inl (cI, 240, .inl f13)), ((Rf 27), .inl (cI, 6, .inl w_1m8)), ((Rf 28), .inl (cI, 6, .inl w_1m9)), ((Rf 29), .inl (cI, 30, .inl w_1m10)), ((Rf 30), .inl (cI, 7, .inl w_1m11)), ((Rf 31), .inl (cI, 7, .inl w_1m12))] := hD
      refine lv_iconst (v := 0) hx hb dX10_town_129 rfl ?_
      refine lv_istore_n (lv' := [(2, .int 0), (1, .int w_1l1), (0, .ref h)]) hx hb dX10_town_130 rfl hl (Nat.le_of_ble_eq_true rfl) rfl (fun ls hl => ?_)
      have ex_131_w_3 : ∀ (w_3l2 : Int32) (w_3m0 : (Nat → Int32)) (w_3m1 : (Nat → Int32)) (w_3m2 : (Nat → Int32)) (w_3m3 : (Nat → Int32)) (w_3m4 : (Nat → Int32)) (w_3m5 : (Nat → Int32)) (w_3m6 : (Nat → Int32)) (w_3m7 : (Nat → Int32)) (w_3m8 : (Nat → Int32)) (w_3m9 : (Nat → Int32)) (w_3m10 : (Nat → Int32)) (w_3m11 : (Nat → Int32)) (w_3m12 : (Nat → Int32)) (H : Heap) (locs : List Loc) (ls : Array Slot), va_P D classes [(h, .inr (10, ML w_3m0 Rf)), ((Rf 0), .inl (cI, 1302, .inl w_3m1)), ((Rf 1), .inl (cZ, 2, .inl w_3m2)), ((Rf 8), .inl (cI, 6, .inl w_3m3)), ((Rf 9), .inl (cI, 6, .inl w_3m4)), ((Rf 10), .inl (cI, 30, .inl w_3m5)), ((Rf 11), .inl (cI, 7, .inl w_3m6)), ((Rf 12), .inl (cI, 7, .inl w_3m7)), ((Rf 13), .inl (cI, 240, .inl f13)), ((Rf 27), .inl (cI, 6, .inl w_3m8)), ((Rf 28), .inl (cI, 6, .inl w_3m9)), ((Rf 29), .inl (cI, 30, .inl w_3m10)), ((Rf 30), .inl (cI, 7, .inl w_3m11)), ((Rf 31), .inl (cI, 7, .inl w_3m12))] H → va_D A [(h, .inr (10, ML w_3m0 Rf)), ((Rf 0), .inl (cI, 1302, .inl w_3m1)), ((Rf 1), .inl (cZ, 2, .inl w_3m2)), ((Rf 8), .inl (cI, 6, .inl w_3m3)), ((Rf 9), .inl (cI, 6, .inl w_3m4)), ((Rf 10), .inl (cI, 30, .inl w_3m5)), ((Rf 11), .inl (cI, 7, .inl w_3m6)), ((Rf 12), .inl (cI, 7, .inl w_3m7)), ((Rf 13), .inl (cI, 240, .inl f13)), ((Rf 27), .inl (cI, 6, .inl w_3m8)), ((Rf 28), .inl (cI, 6, .inl w_3m9)), ((Rf 29), .inl (cI, 30, .inl w_3m10)), ((Rf 30), .inl (cI, 7, .inl w_3m11)), ((Rf 31), .inl (cI, 7, .inl w_3m12))] → va_S A s.heap H locs → lv_has ls 3 [(2, .int w_3l2), (1, .int w_1l1), (0, .ref h)] → ((S_m_town_169  (fun (w_4l2 : Int32) (w_4m0 : (Nat → Int32)) (w_4m1 : (Nat → Int32)) (w_4m2 : (Nat → Int32)) (w_4m3 : (Nat → Int32)) (w_4m4 : (Nat → Int32)) (w_4m5 : (Nat → Int32)) (w_4m6 : (Nat → Int32)) (w_4m7 : (Nat → Int32)) (w_4m8 : (Nat → Int32)) (w_4m9 : (Nat → Int32)) (w_4m10 : (Nat → Int32)) (w_4m11 : (Nat → Int32)) (w_4m12 : (Nat → Int32)) => (S_m_town_195  (fun (w_5l2 : Int32) (w_5m0 : (Nat → Int32)) (w_5m1 : (Nat → Int32)) (w_5m2 : (Nat → Int32)) (w_5m3 : (Nat → Int32)) (w_5m4 : (Nat → Int32)) (w_5m5 : (Nat → Int32)) (w_5m6 : (Nat → Int32)) (w_5m7 : (Nat → Int32)) (w_5m8 : (Nat → Int32)) (w_5m9 : (Nat → Int32)) (w_5m10 : (Nat → Int32)) (w_5m11 : (Nat → Int32)) (w_5m12 : (Nat → Int32)) => ((S_m_begins w_5m0 w_5m1 w_5m4) ∧ True)) (((7 : Int32).toInt - (0 : Int32).toInt).toNat + 1) 0 w_4m0 w_4m1 w_4m2 w_4m3 w_4m4 w_4m5 w_4m6 w_4m7 w_4m8 w_4m9 w_4m10 w_4m11 w_4m12)) (((30 : Int32).toInt - (0 : Int32).toInt).toNat + 1) 0 w_3m0 w_3m1 w_3m2 w_3m3 w_3m4 w_3m5 w_3m6 w_3m7 w_3m8 w_3m9 w_3m10 w_3m11 w_3m12)) → (((match ((f_m_town_169  (((30 : Int32).toInt - (0 : Int32).toInt).toNat + 1) 0 w_3m0 w_3m1 w_3m2 w_3m3 w_3m4 w_3m5 w_3m6 w_3m7 w_3m8 w_3m9 w_3m10 w_3m11 w_3m12) : Int32 × (Nat → Int32) × (Nat → Int32) × (Nat → Int32) × (Nat → Int32) × (Nat → Int32) × (Nat → Int32) × (Nat → Int32) × (Nat → Int32) × (Nat → Int32) × (Nat → Int32) × (Nat → Int32) × (Nat → Int32) × (Nat → Int32)) with | (w_4l2, w_4m0, w_4m1, w_4m2, w_4m3, w_4m4, w_4m5, w_4m6, w_4m7, w_4m8, w_4m9, w_4m10, w_4m11, w_4m12) => (match ((f_m_town_195  (((7 : Int32).toInt - (0 : Int32).toInt).toNat + 1) 0 w_4m0 w_4m1 w_4m2 w_4m3 w_4m4 w_4m5 w_4m6 w_4m7 w_4m8 w_4m9 w_4m10 w_4m11 w_4m12) : Int32 × (Nat → Int32) × (Nat → Int32) × (Nat → Int32) × (Nat → Int32) × (Nat → Int32) × (Nat → Int32) × (Nat → Int32) × (Nat → Int32) × (Nat → Int32) × (Nat → Int32) × (Nat → Int32) × (Nat → Int32) × (Nat → Int32)) with | (w_5l2, w_5m0, w_5m1, w_5m2, w_5m3, w_5m4, w_5m5, w_5m6, w_5m7, w_5m8, w_5m9, w_5m10, w_5m11, w_5m12) => ((w_5m0 3), (upd (upd w_5m0 42 0) 2 0), (f_m_begins w_5m0 w_5m1 w_5m4), (upd (upd w_5m2 (0 : Int32).toNatClampNeg (vp_nar .boolean 0)) (1 : Int32).toNatClampNeg (vp_nar .boolean 0)), w_5m3, w_5m4, w_5m5, w_5m6, w_5m7, w_5m8, w_5m9, w_5m10, w_5m11, w_5m12)))) : Int32 × (Nat → Int32) × (Nat → Int32) × (Nat → Int32) × (Nat → Int32) × (Nat → Int32) × (Nat → Int32) × (Nat → Int32) × (Nat → Int32) × (Nat → Int32) × (Nat → Int32) × (Nat → Int32) × (Nat → Int32) × (Nat → Int32)) = RES → W p l e rm_m_town s m args below meth c H locs 0 0 Q (F0 m 167 ls []) := by
        intro w_3l2 w_3m0 w_3m1 w_3m2 w_3m3 w_3m4 w_3m5 w_3m6 w_3m7 w_3m8 w_3m9 w_3m10 w_3m11 w_3m12 H locs ls hP hD hS hl hF hE
        refine lv_iconst (v := 0) hx hb dX10_town_167 rfl ?_
        refine lv_istore_n (lv' := [(2, .int 0), (1, .int w_1l1), (0, .ref h)]) hx hb dX10_town_168 rfl hl (Nat.le_of_ble_eq_true rfl) rfl (fun ls hl => ?_)
        have ex_169_w_4 : ∀ (w_4l2 : Int32) (w_4m0 : (Nat → Int32)) (w_4m1 : (Nat → Int32)) (w_4m2 : (Nat → Int32)) (w_4m3 : (Nat → Int32)) (w_4m4 : (Nat → Int32)) (w_4m5 : (Nat → Int32)) (w_4m6 : (Nat → Int32)) (w_4m7 : (Nat → Int32)) (w_4m8 : (Nat → Int32)) (w_4m9 : (Nat → Int32)) (w_4m10 : (Nat → Int32)) (w_4m11 : (Nat → Int32)) (w_4m12 : (Nat → Int32)) (H : Heap) (locs : List Loc) (ls : Array Slot), va_P D classes [(h, .inr (10, ML w_4m0 Rf)), ((Rf 0), .inl (cI, 1302, .inl w_4m1)), ((Rf 1), .inl (cZ, 2, .inl w_4m2)), ((Rf 8), .inl (cI, 6, .inl w_4m3)), ((Rf 9), .inl (cI, 6, .inl w_4m4)), ((Rf 10), .inl (cI, 30, .inl w_4m5)), ((Rf 11), .inl (cI, 7, .inl w_4m6)), ((Rf 12), .inl (cI, 7, .inl w_4m7)), ((Rf 13), .inl (cI, 240, .inl f13)), ((Rf 27), .inl (cI, 6, .inl w_4m8)), ((Rf 28), .inl (cI, 6, .inl w_4m9)), ((Rf 29), .inl (cI, 30, .inl w_4m10)), ((Rf 30), .inl (cI, 7, .inl w_4m11)), ((Rf 31), .inl (cI, 7, .inl w_4m12))] H → va_D A [(h, .inr (10, ML w_4m0 Rf)), ((Rf 0), .inl (cI, 1302, .inl w_4m1)), ((Rf 1), .inl (cZ, 2, .inl w_4m2)), ((Rf 8), .inl (cI, 6, .inl w_4m3)), ((Rf 9), .inl (cI, 6, .inl w_4m4)), ((Rf 10), .inl (cI, 30, .inl w_4m5)), ((Rf 11), .inl (cI, 7, .inl w_4m6)), ((Rf 12), .inl (cI, 7, .inl w_4m7)), ((Rf 13), .inl (cI, 240, .inl f13)), ((Rf 27), .inl (cI, 6, .inl w_4m8)), ((Rf 28), .inl (cI, 6, .inl w_4m9)), ((Rf 29), .inl (cI, 30, .inl w_4m10)), ((Rf 30), .inl (cI, 7, .inl w_4m11)), ((Rf 31), .inl (cI, 7, .inl w_4m12))] → va_S A s.heap H locs → lv_has ls 3 [(2, .int w_4l2), (1, .int w_1l1), (0, .ref h)] → ((S_m_town_195  (fun (w_5l2 : Int32) (w_5m0 : (Nat → Int32)) (w_5m1 : (Nat → Int32)) (w_5m2 : (Nat → Int32)) (w_5m3 : (Nat → Int32)) (w_5m4 : (Nat → Int32)) (w_5m5 : (Nat → Int32)) (w_5m6 : (Nat → Int32)) (w_5m7 : (Nat → Int32)) (w_5m8 : (Nat → Int32)) (w_5m9 : (Nat → Int32)) (w_5m10 : (Nat → Int32)) (w_5m11 : (Nat → Int32)) (w_5m12 : (Nat → Int32)) => ((S_m_begins w_5m0 w_5m1 w_5m4) ∧ True)) (((7 : Int32).toInt - (0 : Int32).toInt).toNat + 1) 0 w_4m0 w_4m1 w_4m2 w_4m3 w_4m4 w_4m5 w_4m6 w_4m7 w_4m8 w_4m9 w_4m10 w_4m11 w_4m12)) → (((match ((f_m_town_195  (((7 : Int32).toInt - (0 : Int32).toInt).toNat + 1) 0 w_4m0 w_4m1 w_4m2 w_4m3 w_4m4 w_4m5 w_4m6 w_4m7 w_4m8 w_4m9 w_4m10 w_4m11 w_4m12) : Int32 × (Nat → Int32) × (Nat → Int32) × (Nat → Int32) × (Nat → Int32) × (Nat → Int32) × (Nat → Int32) × (Nat → Int32) × (Nat → Int32) × (Nat → Int32) × (Nat → Int32) × (Nat → Int32) × (Nat → Int32) × (Nat → Int32)) with | (w_5l2, w_5m0, w_5m1, w_5m2, w_5m3, w_5m4, w_5m5, w_5m6, w_5m7, w_5m8, w_5m9, w_5m10, w_5m11, w_5m12) => ((w_5m0 3), (upd (upd w_5m0 42 0) 2 0), (f_m_begins w_5m0 w_5m1 w_5m4), (upd (upd w_5m2 (0 : Int32).toNatClampNeg (vp_nar .boolean 0)) (1 : Int32).toNatClampNeg (vp_nar .boolean 0)), w_5m3, w_5m4, w_5m5, w_5m6, w_5m7, w_5m8, w_5m9, w_5m10, w_5m11, w_5m12))) : Int32 × (Nat → Int32) × (Nat → Int32) × (Nat → Int32) × (Nat → Int32) × (Nat → Int32) × (Nat → Int32) × (Nat → Int32) × (Nat → Int32) × (Nat → Int32) × (Nat → Int32) × (Nat → Int32) × (Nat → Int32) × (Nat → Int32)) = RES → W p l e rm_m_town s m args below meth c H locs 0 0 Q (F0 m 193 ls []) := by
          intro w_4l2 w_4m0 w_4m1 w_4m2 w_4m3 w_4m4 w_4m5 w_4m6 w_4m7 w_4m8 w_4m9 w_4m10 w_4m11 w_4m12 H locs ls hP hD hS hl hF hE
          refine lv_iconst (v := 0) hx hb dX10_town_193 rfl ?_
          refine lv_istore_n (lv' := [(2, .int 0), (1, .int w_1l1), (0, .ref h)]) hx hb dX10_town_194 rfl hl (Nat.le_of_ble_eq_true rfl) rfl (fun ls hl => ?_)
          have ex_195_w_5 : ∀ (w_5l2 : Int32) (w_5m0 : (Nat → Int32)) (w_5m1 : (Nat → Int32)) (w_5m2 : (Nat → Int32)) (w_5m3 : (Nat → Int32)) (w_5m4 : (Nat → Int32)) (w_5m5 : (Nat → Int32)) (w_5m6 : (Nat → Int32)) (w_5m7 : (Nat → Int32)) (w_5m8 : (Nat → Int32)) (w_5m9 : (Nat → Int32)) (w_5m10 : (Nat → Int32)) (w_5m11 : (Nat → Int32)) (w_5m12 : (Nat → Int32)) (H : Heap) (locs : List Loc) (ls : Array Slot), va_P D classes [(h, .inr (10, ML w_5m0 Rf)), ((Rf 0), .inl (cI, 1302, .inl w_5m1)), ((Rf 1), .inl (cZ, 2, .inl w_5m2)), ((Rf 8), .inl (cI, 6, .inl w_5m3)), ((Rf 9), .inl (cI, 6, .inl w_5m4)), ((Rf 10), .inl (cI, 30, .inl w_5m5)), ((Rf 11), .inl (cI, 7, .inl w_5m6)), ((Rf 12), .inl (cI, 7, .inl w_5m7)), ((Rf 13), .inl (cI, 240, .inl f13)), ((Rf 27), .inl (cI, 6, .inl w_5m8)), ((Rf 28), .inl (cI, 6, .inl w_5m9)), ((Rf 29), .inl (cI, 30, .inl w_5m10)), ((Rf 30), .inl (cI, 7, .inl w_5m11)), ((Rf 31), .inl (cI, 7, .inl w_5m12))] H → va_D A [(h, .inr (10, ML w_5m0 Rf)), ((Rf 0), .inl (cI, 1302, .inl w_5m1)), ((Rf 1), .inl (cZ, 2, .inl w_5m2)), ((Rf 8), .inl (cI, 6, .inl w_5m3)), ((Rf 9), .inl (cI, 6, .inl w_5m4)), ((Rf 10), .inl (cI, 30, .inl w_5m5)), ((Rf 11), .inl (cI, 7, .inl w_5m6)), ((Rf 12), .inl (cI, 7, .inl w_5m7)), ((Rf 13), .inl (cI, 240, .inl f13)), ((Rf 27), .inl (cI, 6, .inl w_5m8)), ((Rf 28), .inl (cI, 6, .inl w_5m9)), ((Rf 29), .inl (cI, 30, .inl w_5m10)), ((Rf 30), .inl (cI, 7, .inl w_5m11)), ((Rf 31), .inl (cI, 7, .inl w_5m12))] → va_S A s.heap H locs → lv_has ls 3 [(2, .int w_5l2), (1, .int w_1l1), (0, .ref h)] → (((S_m_begins w_5m0 w_5m1 w_5m4) ∧ True)) → ((((w_5m0 3), (upd (upd w_5m0 42 0) 2 0), (f_m_begins w_5m0 w_5m1 w_5m4), (upd (upd w_5m2 (0 : Int32).toNatClampNeg (vp_nar .boolean 0)) (1 : Int32).toNatClampNeg (vp_nar .boolean 0)), w_5m3, w_5m4, w_5m5, w_5m6, w_5m7, w_5m8, w_5m9, w_5m10, w_5m11, w_5m12)) : Int32 × (Nat → Int32) × (Nat → Int32) × (Nat → Int32) × (Nat → Int32) × (Nat → Int32) × (Nat → Int32) × (Nat → Int32) × (Nat → Int32) × (Nat → Int32) × (Nat → Int32) × (Nat → Int32) × (Nat → Int32) × (Nat → Int32)) = RES → W p l e rm_m_town s m args below meth c H locs 0 0 Q (F0 m 231 ls []) := by
            intro w_5l2 w_5m0 w_5m1 w_5m2 w_5m3 w_5m4 w_5m5 w_5m6 w_5m7 w_5m8 w_5m9 w_5m10 w_5m11 w_5m12 H locs ls hP hD hS hl hF hE
            refine lv_aload_n hx hb dX10_town_231 rfl (lv_at hl 2 rfl) ?_
            obtain ⟨hs_6, hF⟩ := hF
            refine cVv (wr := [((Rf 1), .inl (cZ, 2, .inl w_5m2)), ((Rf 8), .inl (cI, 6, .inl w_5m3)), ((Rf 10), .inl (cI, 30, .inl w_5m5)), ((Rf 11), .inl (cI, 7, .inl w_5m6)), ((Rf 12), .inl (cI, 7, .inl w_5m7)), ((Rf 13), .inl (cI, 240, .inl f13)), ((Rf 27), .inl (cI, 6, .inl w_5m8)), ((Rf 28), .inl (cI, 6, .inl w_5m9)), ((Rf 29), .inl (cI, 30, .inl w_5m10)), ((Rf 30), .inl (cI, 7, .inl w_5m11)), ((Rf 31), .inl (cI, 7, .inl w_5m12))]) (rest := []) (m_begins Rf h w_5m0 w_5m1 w_5m4 hs_6) okV_X10_begins wd_681 hx hb hml hown hts hK hP hD hS hA hN hl.1 [0, 1, 4] [2, 3, 5, 6, 7, 8, 9, 10, 11, 12, 13] rfl rfl rfl rfl (of_decide_eq_true rfl) rfl rfl rfl (Nat.le_of_ble_eq_true rfl) (Nat.le_of_ble_eq_true rfl) (Nat.le_of_ble_eq_true rfl) (Nat.le_of_ble_eq_true rfl) (Nat.le_of_ble_eq_true rfl) dX10_town_232 (fun u_7 H locs hw_u_7 hP hD hS => ?_)
            replace hw_u_7 : u_7 = (f_m_begins w_5m0 w_5m1 w_5m4) := hw_u_7
            subst hw_u_7
            have hP : va_P D classes [((Rf 1), .inl (cZ, 2, .inl w_5m2)), ((Rf 8), .inl (cI, 6, .inl w_5m3)), ((Rf 10), .inl (cI, 30, .inl w_5m5)), ((Rf 11), .inl (cI, 7, .inl w_5m6)), ((Rf 12), .inl (cI, 7, .inl w_5m7)), ((Rf 13), .inl (cI, 240, .inl f13)), ((Rf 27), .inl (cI, 6, .inl w_5m8)), ((Rf 28), .inl (cI, 6, .inl w_5m9)), ((Rf 29), .inl (cI, 30, .inl w_5m10)), ((Rf 30), .inl (cI, 7, .inl w_5m11)), ((Rf 31), .inl (cI, 7, .inl w_5m12)), (h, .inr (10, ML w_5m0 Rf)), ((Rf 0), .inl (cI, 1302, .inl (f_m_begins w_5m0 w_5m1 w_5m4))), ((Rf 9), .inl (cI, 6, .inl w_5m4))] H := hP
            have hD : va_D A [((Rf 1), .inl (cZ, 2, .inl w_5m2)), ((Rf 8), .inl (cI, 6, .inl w_5m3)), ((Rf 10), .inl (cI, 30, .inl w_5m5)), ((Rf 11), .inl (cI, 7, .inl w_5m6)), ((Rf 12), .inl (cI, 7, .inl w_5m7)), ((Rf 13), .inl (cI, 240, .inl f13)), ((Rf 27), .inl (cI, 6, .inl w_5m8)), ((Rf 28), .inl (cI, 6, .inl w_5m9)), ((Rf 29), .inl (cI, 30, .inl w_5m10)), ((Rf 30), .inl (cI, 7, .inl w_5m11)), ((Rf 31), .inl (cI, 7, .inl w_5m12)), (h, .inr (10, ML w_5m0 Rf)), ((Rf 0), .inl (cI, 1302, .inl (f_m_begins w_5m0 w_5m1 w_5m4))), ((Rf 9), .inl (cI, 6, .inl w_5m4))] := hD
            refine lv_aload_n hx hb dX10_town_235 rfl (lv_at hl 2 rfl) ?_
            refine lv_iconst (v := 0) hx hb dX10_town_236 rfl ?_
            refine va_put (D := D) (ci := 10) (v := .int 0) (ty := .int) (C := RX10) (T := TX10) (N := 45) hx hb hts iX10 tyX10 tyX10_ok nmX10 hown hK hP hD hS 11 rfl rfl 42 (Nat.le_of_ble_eq_true rfl) (hts _ wd_609) (fun _ h9 => h9) rfl (by decide +kernel) rfl rfl (Nat.le_of_ble_eq_true rfl) dX10_town_237 (fun H locs hP hD hS => ?_)
            have hP : va_P D classes [((Rf 1), .inl (cZ, 2, .inl w_5m2)), ((Rf 8), .inl (cI, 6, .inl w_5m3)), ((Rf 10), .inl (cI, 30, .inl w_5m5)), ((Rf 11), .inl (cI, 7, .inl w_5m6)), ((Rf 12), .inl (cI, 7, .inl w_5m7)), ((Rf 13), .inl (cI, 240, .inl f13)), ((Rf 27), .inl (cI, 6, .inl w_5m8)), ((Rf 28), .inl (cI, 6, .inl w_5m9)), ((Rf 29), .inl (cI, 30, .inl w_5m10)), ((Rf 30), .inl (cI, 7, .inl w_5m11)), ((Rf 31), .inl (cI, 7, .inl w_5m12)), (h, .inr (10, ML (upd w_5m0 42 0) Rf)), ((Rf 0), .inl (cI, 1302, .inl (f_m_begins w_5m0 w_5m1 w_5m4))), ((Rf 9), .inl (cI, 6, .inl w_5m4))] H := hP
            have hD : va_D A [((Rf 1), .inl (cZ, 2, .inl w_5m2)), ((Rf 8), .inl (cI, 6, .inl w_5m3)), ((Rf 10), .inl (cI, 30, .inl w_5m5)), ((Rf 11), .inl (cI, 7, .inl w_5m6)), ((Rf 12), .inl (cI, 7, .inl w_5m7)), ((Rf 13), .inl (cI, 240, .inl f13)), ((Rf 27), .inl (cI, 6, .inl w_5m8)), ((Rf 28), .inl (cI, 6, .inl w_5m9)), ((Rf 29), .inl (cI, 30, .inl w_5m10)), ((Rf 30), .inl (cI, 7, .inl w_5m11)), ((Rf 31), .inl (cI, 7, .inl w_5m12)), (h, .inr (10, ML (upd w_5m0 42 0) Rf)), ((Rf 0), .inl (cI, 1302, .inl (f_m_begins w_5m0 w_5m1 w_5m4))), ((Rf 9), .inl (cI, 6, .inl w_5m4))] := hD
            refine lv_aload_n hx hb dX10_town_240 rfl (lv_at hl 2 rfl) ?_
            refine lv_iconst (v := 0) hx hb dX10_town_241 rfl ?_
            refine va_put (D := D) (ci := 10) (v := .int 0) (ty := .int) (C := RX10) (T := TX10) (N := 45) hx hb hts iX10 tyX10 tyX10_ok nmX10 hown hK hP hD hS 11 rfl rfl 2 (Nat.le_of_ble_eq_true rfl) (hts _ wd_556) (fun _ h9 => h9) rfl (by decide +kernel) rfl rfl (Nat.le_of_ble_eq_true rfl) dX10_town_242 (fun H locs hP hD hS => ?_)
            have hP : va_P D classes [((Rf 1), .inl (cZ, 2, .inl w_5m2)), ((Rf 8), .inl (cI, 6, .inl w_5m3)), ((Rf 10), .inl (cI, 30, .inl w_5m5)), ((Rf 11), .inl (cI, 7, .inl w_5m6)), ((Rf 12), .inl (cI, 7, .inl w_5m7)), ((Rf 13), .inl (cI, 240, .inl f13)), ((Rf 27), .inl (cI, 6, .inl w_5m8)), ((Rf 28), .inl (cI, 6, .inl w_5m9)), ((Rf 29), .inl (cI, 30, .inl w_5m10)), ((Rf 30), .inl (cI, 7, .inl w_5m11)), ((Rf 31), .inl (cI, 7, .inl w_5m12)), (h, .inr (10, ML (upd (upd w_5m0 42 0) 2 0) Rf)), ((Rf 0), .inl (cI, 1302, .inl (f_m_begins w_5m0 w_5m1 w_5m4))), ((Rf 9), .inl (cI, 6, .inl w_5m4))] H := hP
            have hD : va_D A [((Rf 1), .inl (cZ, 2, .inl w_5m2)), ((Rf 8), .inl (cI, 6, .inl w_5m3)), ((Rf 10), .inl (cI, 30, .inl w_5m5)), ((Rf 11), .inl (cI, 7, .inl w_5m6)), ((Rf 12), .inl (cI, 7, .inl w_5m7)), ((Rf 13), .inl (cI, 240, .inl f13)), ((Rf 27), .inl (cI, 6, .inl w_5m8)), ((Rf 28), .inl (cI, 6, .inl w_5m9)), ((Rf 29), .inl (cI, 30, .inl w_5m10)), ((Rf 30), .inl (cI, 7, .inl w_5m11)), ((Rf 31), .inl (cI, 7, .inl w_5m12)), (h, .inr (10, ML (upd (upd w_5m0 42 0) 2 0) Rf)), ((Rf 0), .inl (cI, 1302, .inl (f_m_begins w_5m0 w_5m1 w_5m4))), ((Rf 9), .inl (cI, 6, .inl w_5m4))] := hD
            refine lv_aload_n hx hb dX10_town_245 rfl (lv_at hl 2 rfl) ?_
            refine va_get (D := D) (ci := 10) (v := .ref (Rf 1)) (C := RX10) (T := TX10) (N := 45) hx hb hts iX10 hown hK hP 11 rfl rfl 1 (Nat.le_of_ble_eq_true rfl) (hts _ wd_612) (fun _ h9 => h9) rfl dX10_town_246 ?_
            refine lv_iconst (v := 0) hx hb dX10_town_249 rfl ?_
            refine lv_iconst (v := 0) hx hb dX10_town_250 rfl ?_
            refine va_zast hx hb hK hP hD hS 0 1 rfl rfl (show ¬ ((0 : Int32) < 0 ∨ 2 ≤ (0 : Int32).toNatClampNeg) by decide +kernel) dX10_town_251 (fun H locs hP hD hS => ?_)
            have hP : va_P D classes [((Rf 1), .inl (cZ, 2, .inl (upd w_5m2 (0 : Int32).toNatClampNeg (vp_nar .boolean 0)))), ((Rf 8), .inl (cI, 6, .inl w_5m3)), ((Rf 10), .inl (cI, 30, .inl w_5m5)), ((Rf 11), .inl (cI, 7, .inl w_5m6)), ((Rf 12), .inl (cI, 7, .inl w_5m7)), ((Rf 13), .inl (cI, 240, .inl f13)), ((Rf 27), .inl (cI, 6, .inl w_5m8)), ((Rf 28), .inl (cI, 6, .inl w_5m9)), ((Rf 29), .inl (cI, 30, .inl w_5m10)), ((Rf 30), .inl (cI, 7, .inl w_5m11)), ((Rf 31), .inl (cI, 7, .inl w_5m12)), (h, .inr (10, ML (upd (upd w_5m0 42 0) 2 0) Rf)), ((Rf 0), .inl (cI, 1302, .inl (f_m_begins w_5m0 w_5m1 w_5m4))), ((Rf 9), .inl (cI, 6, .inl w_5m4))] H := hP
            have hD : va_D A [((Rf 1), .inl (cZ, 2, .inl (upd w_5m2 (0 : Int32).toNatClampNeg (vp_nar .boolean 0)))), ((Rf 8), .inl (cI, 6, .inl w_5m3)), ((Rf 10), .inl (cI, 30, .inl w_5m5)), ((Rf 11), .inl (cI, 7, .inl w_5m6)), ((Rf 12), .inl (cI, 7, .inl w_5m7)), ((Rf 13), .inl (cI, 240, .inl f13)), ((Rf 27), .inl (cI, 6, .inl w_5m8)), ((Rf 28), .inl (cI, 6, .inl w_5m9)), ((Rf 29), .inl (cI, 30, .inl w_5m10)), ((Rf 30), .inl (cI, 7, .inl w_5m11)), ((Rf 31), .inl (cI, 7, .inl w_5m12)), (h, .inr (10, ML (upd (upd w_5m0 42 0) 2 0) Rf)), ((Rf 0), .inl (cI, 1302, .inl (f_m_begins w_5m0 w_5m1 w_5m4))), ((Rf 9), .inl (cI, 6, .inl w_5m4))] := hD
            refine lv_aload_n hx hb dX10_town_252 rfl (lv_at hl 2 rfl) ?_
            refine va_get (D := D) (ci := 10) (v := .ref (Rf 1)) (C := RX10) (T := TX10) (N := 45) hx hb hts iX10 hown hK hP 11 rfl rfl 1 (Nat.le_of_ble_eq_true rfl) (hts _ wd_612) (fun _ h9 => h9) rfl dX10_town_253 ?_
            refine lv_iconst (v := 1) hx hb dX10_town_256 rfl ?_
            refine lv_iconst (v := 0) hx hb dX10_town_257 rfl ?_
            refine va_zast hx hb hK hP hD hS 0 1 rfl rfl (show ¬ ((1 : Int32) < 0 ∨ 2 ≤ (1 : Int32).toNatClampNeg) by decide +kernel) dX10_town_258 (fun H locs hP hD hS => ?_)
            have hP : va_P D classes [((Rf 1), .inl (cZ, 2, .inl (upd (upd w_5m2 (0 : Int32).toNatClampNeg (vp_nar .boolean 0)) (1 : Int32).toNatClampNeg (vp_nar .boolean 0)))), ((Rf 8), .inl (cI, 6, .inl w_5m3)), ((Rf 10), .inl (cI, 30, .inl w_5m5)), ((Rf 11), .inl (cI, 7, .inl w_5m6)), ((Rf 12), .inl (cI, 7, .inl w_5m7)), ((Rf 13), .inl (cI, 240, .inl f13)), ((Rf 27), .inl (cI, 6, .inl w_5m8)), ((Rf 28), .inl (cI, 6, .inl w_5m9)), ((Rf 29), .inl (cI, 30, .inl w_5m10)), ((Rf 30), .inl (cI, 7, .inl w_5m11)), ((Rf 31), .inl (cI, 7, .inl w_5m12)), (h, .inr (10, ML (upd (upd w_5m0 42 0) 2 0) Rf)), ((Rf 0), .inl (cI, 1302, .inl (f_m_begins w_5m0 w_5m1 w_5m4))), ((Rf 9), .inl (cI, 6, .inl w_5m4))] H := hP
            have hD : va_D A [((Rf 1), .inl (cZ, 2, .inl (upd (upd w_5m2 (0 : Int32).toNatClampNeg (vp_nar .boolean 0)) (1 : Int32).toNatClampNeg (vp_nar .boolean 0)))), ((Rf 8), .inl (cI, 6, .inl w_5m3)), ((Rf 10), .inl (cI, 30, .inl w_5m5)), ((Rf 11), .inl (cI, 7, .inl w_5m6)), ((Rf 12), .inl (cI, 7, .inl w_5m7)), ((Rf 13), .inl (cI, 240, .inl f13)), ((Rf 27), .inl (cI, 6, .inl w_5m8)), ((Rf 28), .inl (cI, 6, .inl w_5m9)), ((Rf 29), .inl (cI, 30, .inl w_5m10)), ((Rf 30), .inl (cI, 7, .inl w_5m11)), ((Rf 31), .inl (cI, 7, .inl w_5m12)), (h, .inr (10, ML (upd (upd w_5m0 42 0) 2 0) Rf)), ((Rf 0), .inl (cI, 1302, .inl (f_m_begins w_5m0 w_5m1 w_5m4))), ((Rf 9), .inl (cI, 6, .inl w_5m4))] := hD
            refine lv_aload_n hx hb dX10_town_259 rfl (lv_at hl 2 rfl) ?_
            refine va_get (D := D) (ci := 10) (v := .int (w_5m0 3)) (C := RX10) (T := TX10) (N := 45) hx hb hts iX10 hown hK hP 11 rfl rfl 3 (Nat.le_of_ble_eq_true rfl) (hts _ wd_494) (fun _ h9 => h9) rfl dX10_town_260 ?_
            exact hret (w_5m0 3) ((upd (upd w_5m0 42 0) 2 0), (f_m_begins w_5m0 w_5m1 w_5m4), (upd (upd w_5m2 (0 : Int32).toNatClampNeg (vp_nar .boolean 0)) (1 : Int32).toNatClampNeg (vp_nar .boolean 0)), w_5m3, w_5m4, w_5m5, w_5m6, w_5m7, w_5m8, w_5m9, w_5m10, w_5m11, w_5m12) _ _ _ _ dX10_town_263 rfl hE (cutP (isC := [11, 12, 0, 1, 13, 2, 3, 4, 5, 6, 7, 8, 9, 10]) hP rfl) (cutD (isC := [11, 12, 0, 1, 13, 2, 3, 4, 5, 6, 7, 8, 9, 10]) hD rfl rfl) hS
          have lp_195_w_5 : ∀ (n_w_5 : Nat) (w_5l2 : Int32) (w_5m0 : (Nat → Int32)) (w_5m1 : (Nat → Int32)) (w_5m2 : (Nat → Int32)) (w_5m3 : (Nat → Int32)) (w_5m4 : (Nat → Int32)) (w_5m5 : (Nat → Int32)) (w_5m6 : (Nat → Int32)) (w_5m7 : (Nat → Int32)) (w_5m8 : (Nat → Int32)) (w_5m9 : (Nat → Int32)) (w_5m10 : (Nat → Int32)) (w_5m11 : (Nat → Int32)) (w_5m12 : (Nat → Int32)) (H : Heap) (locs : List Loc) (ls : Array Slot), va_P D classes [(h, .inr (10, ML w_5m0 Rf)), ((Rf 0), .inl (cI, 1302, .inl w_5m1)), ((Rf 1), .inl (cZ, 2, .inl w_5m2)), ((Rf 8), .inl (cI, 6, .inl w_5m3)), ((Rf 9), .inl (cI, 6, .inl w_5m4)), ((Rf 10), .inl (cI, 30, .inl w_5m5)), ((Rf 11), .inl (cI, 7, .inl w_5m6)), ((Rf 12), .inl (cI, 7, .inl w_5m7)), ((Rf 13), .inl (cI, 240, .inl f13)), ((Rf 27), .inl (cI, 6, .inl w_5m8)), ((Rf 28), .inl (cI, 6, .inl w_5m9)), ((Rf 29), .inl (cI, 30, .inl w_5m10)), ((Rf 30), .inl (cI, 7, .inl w_5m11)), ((Rf 31), .inl (cI, 7, .inl w_5m12))] H → va_D A [(h, .inr (10, ML w_5m0 Rf)), ((Rf 0), .inl (cI, 1302, .inl w_5m1)), ((Rf 1), .inl (cZ, 2, .inl w_5m2)), ((Rf 8), .inl (cI, 6, .inl w_5m3)), ((Rf 9), .inl (cI, 6, .inl w_5m4)), ((Rf 10), .inl (cI, 30, .inl w_5m5)), ((Rf 11), .inl (cI, 7, .inl w_5m6)), ((Rf 12), .inl (cI, 7, .inl w_5m7)), ((Rf 13), .inl (cI, 240, .inl f13)), ((Rf 27), .inl (cI, 6, .inl w_5m8)), ((Rf 28), .inl (cI, 6, .inl w_5m9)), ((Rf 29), .inl (cI, 30, .inl w_5m10)), ((Rf 30), .inl (cI, 7, .inl w_5m11)), ((Rf 31), .inl (cI, 7, .inl w_5m12))] → va_S A s.heap H locs → lv_has ls 3 [(2, .int w_5l2), (1, .int w_1l1), (0, .ref h)] → (S_m_town_195  (fun (w_5l2 : Int32) (w_5m0 : (Nat → Int32)) (w_5m1 : (Nat → Int32)) (w_5m2 : (Nat → Int32)) (w_5m3 : (Nat → Int32)) (w_5m4 : (Nat → Int32)) (w_5m5 : (Nat → Int32)) (w_5m6 : (Nat → Int32)) (w_5m7 : (Nat → Int32)) (w_5m8 : (Nat → Int32)) (w_5m9 : (Nat → Int32)) (w_5m10 : (Nat → Int32)) (w_5m11 : (Nat → Int32)) (w_5m12 : (Nat → Int32)) => ((S_m_begins w_5m0 w_5m1 w_5m4) ∧ True)) n_w_5 w_5l2 w_5m0 w_5m1 w_5m2 w_5m3 w_5m4 w_5m5 w_5m6 w_5m7 w_5m8 w_5m9 w_5m10 w_5m11 w_5m12) → ((7 : Int32).toInt - (w_5l2 : Int32).toInt).toNat < n_w_5 → ((match ((f_m_town_195  n_w_5 w_5l2 w_5m0 w_5m1 w_5m2 w_5m3 w_5m4 w_5m5 w_5m6 w_5m7 w_5m8 w_5m9 w_5m10 w_5m11 w_5m12) : Int32 × (Nat → Int32) × (Nat → Int32) × (Nat → Int32) × (Nat → Int32) × (Nat → Int32) × (Nat → Int32) × (Nat → Int32) × (Nat → Int32) × (Nat → Int32) × (Nat → Int32) × (Nat → Int32) × (Nat → Int32) × (Nat → Int32)) with | (w_5l2, w_5m0, w_5m1, w_5m2, w_5m3, w_5m4, w_5m5, w_5m6, w_5m7, w_5m8, w_5m9, w_5m10, w_5m11, w_5m12) => ((w_5m0 3), (upd (upd w_5m0 42 0) 2 0), (f_m_begins w_5m0 w_5m1 w_5m4), (upd (upd w_5m2 (0 : Int32).toNatClampNeg (vp_nar .boolean 0)) (1 : Int32).toNatClampNeg (vp_nar .boolean 0)), w_5m3, w_5m4, w_5m5, w_5m6, w_5m7, w_5m8, w_5m9, w_5m10, w_5m11, w_5m12)) : Int32 × (Nat → Int32) × (Nat → Int32) × (Nat → Int32) × (Nat → Int32) × (Nat → Int32) × (Nat → Int32) × (Nat → Int32) × (Nat → Int32) × (Nat → Int32) × (Nat → Int32) × (Nat → Int32) × (Nat → Int32) × (Nat → Int32)) = RES → W p l e rm_m_town s m args below meth c H locs 0 0 Q (F0 m 195 ls []) := by
            intro n_w_5
            induction n_w_5 with
            | zero => intro w_5l2 w_5m0 w_5m1 w_5m2 w_5m3 w_5m4 w_5m5 w_5m6 w_5m7 w_5m8 w_5m9 w_5m10 w_5m11 w_5m12 H locs ls hP hD hS hl hF hm; exact absurd hm (Nat.not_lt_zero _)
            | succ n_w_5 ih_w_5 =>
              intro w_5l2 w_5m0 w_5m1 w_5m2 w_5m3 w_5m4 w_5m5 w_5m6 w_5m7 w_5m8 w_5m9 w_5m10 w_5m11 w_5m12 H locs ls hP hD hS hl hF hm hE
              rw [S_m_town_195_s] at hF
              rw [f_m_town_195_s] at hE
              refine lv_iload_n hx hb dX10_town_195 rfl (lv_at hl 0 rfl) ?_
              refine lv_bipush (v := 7) hx hb dX10_town_196 rfl ?_
              refine lv_icmp_ge (tgt := 231) hx hb dX10_town_198 rfl (fun c_9 => ?_) (fun c_9 => ?_)
              · replace hF := hF.1 c_9
                rw [if_pos c_9] at hE
                exact ex_195_w_5 w_5l2 w_5m0 w_5m1 w_5m2 w_5m3 w_5m4 w_5m5 w_5m6 w_5m7 w_5m8 w_5m9 w_5m10 w_5m11 w_5m12 _ _ ls hP hD hS (lv_sub hl [0, 1, 2] rfl) hF hE
              · replace hF := hF.2 c_9
                rw [if_neg c_9] at hE
                refine lv_aload_n hx hb dX10_town_201 rfl (lv_at hl 2 rfl) ?_
                refine va_get (D := D) (ci := 10) (v := .ref (Rf 11)) (C := RX10) (T := TX10) (N := 45) hx hb hts iX10 hown hK hP 0 rfl rfl 11 (Nat.le_of_ble_eq_true rfl) (hts _ wd_593) (fun _ h9 => h9) rfl dX10_town_202 ?_
                refine lv_iload_n hx hb dX10_town_205 rfl (lv_at hl 0 rfl) ?_
                refine lv_aload_n hx hb dX10_town_206 rfl (lv_at hl 2 rfl) ?_
                refine va_get (D := D) (ci := 10) (v := .ref (Rf 30)) (C := RX10) (T := TX10) (N := 45) hx hb hts iX10 hown hK hP 0 rfl rfl 30 (Nat.le_of_ble_eq_true rfl) (hts _ wd_542) (fun _ h9 => h9) rfl dX10_town_207 ?_
                refine lv_iload_n hx hb dX10_town_210 rfl (lv_at hl 0 rfl) ?_
                obtain ⟨hv_10, hF⟩ := hF
                refine va_iald hx hb hK hP 12 0 rfl rfl hv_10 dX10_town_211 ?_
                obtain ⟨hv_11, hF⟩ := hF
                refine va_iast hx hb hK hP hD hS 6 0 rfl rfl hv_11 dX10_town_212 (fun H locs hP hD hS => ?_)
                have hP : va_P D classes [(h, .inr (10, ML w_5m0 Rf)), ((Rf 0), .inl (cI, 1302, .inl w_5m1)), ((Rf 1), .inl (cZ, 2, .inl w_5m2)), ((Rf 8), .inl (cI, 6, .inl w_5m3)), ((Rf 9), .inl (cI, 6, .inl w_5m4)), ((Rf 10), .inl (cI, 30, .inl w_5m5)), ((Rf 11), .inl (cI, 7, .inl (upd w_5m6 (w_5l2 : Int32).toNatClampNeg (w_5m11 (w_5l2 : Int32).toNatClampNeg)))), ((Rf 12), .inl (cI, 7, .inl w_5m7)), ((Rf 13), .inl (cI, 240, .inl f13)), ((Rf 27), .inl (cI, 6, .inl w_5m8)), ((Rf 28), .inl (cI, 6, .inl w_5m9)), ((Rf 29), .inl (cI, 30, .inl w_5m10)), ((Rf 30), .inl (cI, 7, .inl w_5m11)), ((Rf 31), .inl (cI, 7, .inl w_5m12))] H := hP
                have hD : va_D A [(h, .inr (10, ML w_5m0 Rf)), ((Rf 0), .inl (cI, 1302, .inl w_5m1)), ((Rf 1), .inl (cZ, 2, .inl w_5m2)), ((Rf 8), .inl (cI, 6, .inl w_5m3)), ((Rf 9), .inl (cI, 6, .inl w_5m4)), ((Rf 10), .inl (cI, 30, .inl w_5m5)), ((Rf 11), .inl (cI, 7, .inl (upd w_5m6 (w_5l2 : Int32).toNatClampNeg (w_5m11 (w_5l2 : Int32).toNatClampNeg)))), ((Rf 12), .inl (cI, 7, .inl w_5m7)), ((Rf 13), .inl (cI, 240, .inl f13)), ((Rf 27), .inl (cI, 6, .inl w_5m8)), ((Rf 28), .inl (cI, 6, .inl w_5m9)), ((Rf 29), .inl (cI, 30, .inl w_5m10)), ((Rf 30), .inl (cI, 7, .inl w_5m11)), ((Rf 31), .inl (cI, 7, .inl w_5m12))] := hD
                refine lv_aload_n hx hb dX10_town_213 rfl (lv_at hl 2 rfl) ?_
                refine va_get (D := D) (ci := 10) (v := .ref (Rf 12)) (C := RX10) (T := TX10) (N := 45) hx hb hts iX10 hown hK hP 0 rfl rfl 12 (Nat.le_of_ble_eq_true rfl) (hts _ wd_594) (fun _ h9 => h9) rfl dX10_town_214 ?_
                refine lv_iload_n hx hb dX10_town_217 rfl (lv_at hl 0 rfl) ?_
                refine lv_aload_n hx hb dX10_town_218 rfl (lv_at hl 2 rfl) ?_
                refine va_get (D := D) (ci := 10) (v := .ref (Rf 31)) (C := RX10) (T := TX10) (N := 45) hx hb hts iX10 hown hK hP 0 rfl rfl 31 (Nat.le_of_ble_eq_true rfl) (hts _ wd_544) (fun _ h9 => h9) rfl dX10_town_219 ?_
                refine lv_iload_n hx hb dX10_town_222 rfl (lv_at hl 0 rfl) ?_
                obtain ⟨hv_12, hF⟩ := hF
                refine va_iald hx hb hK hP 13 0 rfl rfl hv_12 dX10_town_223 ?_
                obtain ⟨hv_13, hF⟩ := hF
                refine va_iast hx hb hK hP hD hS 7 0 rfl rfl hv_13 dX10_town_224 (fun H locs hP hD hS => ?_)
                have hP : va_P D classes [(h, .inr (10, ML w_5m0 Rf)), ((Rf 0), .inl (cI, 1302, .inl w_5m1)), ((Rf 1), .inl (cZ, 2, .inl w_5m2)), ((Rf 8), .inl (cI, 6, .inl w_5m3)), ((Rf 9), .inl (cI, 6, .inl w_5m4)), ((Rf 10), .inl (cI, 30, .inl w_5m5)), ((Rf 11), .inl (cI, 7, .inl (upd w_5m6 (w_5l2 : Int32).toNatClampNeg (w_5m11 (w_5l2 : Int32).toNatClampNeg)))), ((Rf 12), .inl (cI, 7, .inl (upd w_5m7 (w_5l2 : Int32).toNatClampNeg (w_5m12 (w_5l2 : Int32).toNatClampNeg)))), ((Rf 13), .inl (cI, 240, .inl f13)), ((Rf 27), .inl (cI, 6, .inl w_5m8)), ((Rf 28), .inl (cI, 6, .inl w_5m9)), ((Rf 29), .inl (cI, 30, .inl w_5m10)), ((Rf 30), .inl (cI, 7, .inl w_5m11)), ((Rf 31), .inl (cI, 7, .inl w_5m12))] H := hP
                have hD : va_D A [(h, .inr (10, ML w_5m0 Rf)), ((Rf 0), .inl (cI, 1302, .inl w_5m1)), ((Rf 1), .inl (cZ, 2, .inl w_5m2)), ((Rf 8), .inl (cI, 6, .inl w_5m3)), ((Rf 9), .inl (cI, 6, .inl w_5m4)), ((Rf 10), .inl (cI, 30, .inl w_5m5)), ((Rf 11), .inl (cI, 7, .inl (upd w_5m6 (w_5l2 : Int32).toNatClampNeg (w_5m11 (w_5l2 : Int32).toNatClampNeg)))), ((Rf 12), .inl (cI, 7, .inl (upd w_5m7 (w_5l2 : Int32).toNatClampNeg (w_5m12 (w_5l2 : Int32).toNatClampNeg)))), ((Rf 13), .inl (cI, 240, .inl f13)), ((Rf 27), .inl (cI, 6, .inl w_5m8)), ((Rf 28), .inl (cI, 6, .inl w_5m9)), ((Rf 29), .inl (cI, 30, .inl w_5m10)), ((Rf 30), .inl (cI, 7, .inl w_5m11)), ((Rf 31), .inl (cI, 7, .inl w_5m12))] := hD
                refine lv_iinc (v := (w_5l2 + 1)) (lv' := [(2, .int (w_5l2 + 1)), (1, .int w_1l1), (0, .ref h)]) hx hb dX10_town_225 hl (k := 0) rfl rfl (Nat.le_of_ble_eq_true rfl) rfl (fun ls hl => ?_)
                refine lv_goto (tgt := 195) hx hb dX10_town_228 rfl ?_
                exact ih_w_5 (w_5l2 + 1) w_5m0 w_5m1 w_5m2 w_5m3 w_5m4 w_5m5 (upd w_5m6 (w_5l2 : Int32).toNatClampNeg (w_5m11 (w_5l2 : Int32).toNatClampNeg)) (upd w_5m7 (w_5l2 : Int32).toNatClampNeg (w_5m12 (w_5l2 : Int32).toNatClampNeg)) w_5m8 w_5m9 w_5m10 w_5m11 w_5m12 _ _ ls hP hD hS (lv_sub hl [0, 1, 2] rfl) hF (up_step c_9 hm) hE
          exact lp_195_w_5 (((7 : Int32).toInt - (0 : Int32).toInt).toNat + 1) 0 w_4m0 w_4m1 w_4m2 w_4m3 w_4m4 w_4m5 w_4m6 w_4m7 w_4m8 w_4m9 w_4m10 w_4m11 w_4m12 _ _ ls hP hD hS hl hF (Nat.lt_succ_self _) hE
        have lp_169_w_4 : ∀ (n_w_4 : Nat) (w_4l2 : Int32) (w_4m0 : (Nat → Int32)) (w_4m1 : (Nat → Int32)) (w_4m2 : (Nat → Int32)) (w_4m3 : (Nat → Int32)) (w_4m4 : (Nat → Int32)) (w_4m5 : (Nat → Int32)) (w_4m6 : (Nat → Int32)) (w_4m7 : (Nat → Int32)) (w_4m8 : (Nat → Int32)) (w_4m9 : (Nat → Int32)) (w_4m10 : (Nat → Int32)) (w_4m11 : (Nat → Int32)) (w_4m12 : (Nat → Int32)) (H : Heap) (locs : List Loc) (ls : Array Slot), va_P D classes [(h, .inr (10, ML w_4m0 Rf)), ((Rf 0), .inl (cI, 1302, .inl w_4m1)), ((Rf 1), .inl (cZ, 2, .inl w_4m2)), ((Rf 8), .inl (cI, 6, .inl w_4m3)), ((Rf 9), .inl (cI, 6, .inl w_4m4)), ((Rf 10), .inl (cI, 30, .inl w_4m5)), ((Rf 11), .inl (cI, 7, .inl w_4m6)), ((Rf 12), .inl (cI, 7, .inl w_4m7)), ((Rf 13), .inl (cI, 240, .inl f13)), ((Rf 27), .inl (cI, 6, .inl w_4m8)), ((Rf 28), .inl (cI, 6, .inl w_4m9)), ((Rf 29), .inl (cI, 30, .inl w_4m10)), ((Rf 30), .inl (cI, 7, .inl w_4m11)), ((Rf 31), .inl (cI, 7, .inl w_4m12))] H → va_D A [(h, .inr (10, ML w_4m0 Rf)), ((Rf 0), .inl (cI, 1302, .inl w_4m1)), ((Rf 1), .inl (cZ, 2, .inl w_4m2)), ((Rf 8), .inl (cI, 6, .inl w_4m3)), ((Rf 9), .inl (cI, 6, .inl w_4m4)), ((Rf 10), .inl (cI, 30, .inl w_4m5)), ((Rf 11), .inl (cI, 7, .inl w_4m6)), ((Rf 12), .inl (cI, 7, .inl w_4m7)), ((Rf 13), .inl (cI, 240, .inl f13)), ((Rf 27), .inl (cI, 6, .inl w_4m8)), ((Rf 28), .inl (cI, 6, .inl w_4m9)), ((Rf 29), .inl (cI, 30, .inl w_4m10)), ((Rf 30), .inl (cI, 7, .inl w_4m11)), ((Rf 31), .inl (cI, 7, .inl w_4m12))] → va_S A s.heap H locs → lv_has ls 3 [(2, .int w_4l2), (1, .int w_1l1), (0, .ref h)] → (S_m_town_169  (fun (w_4l2 : Int32) (w_4m0 : (Nat → Int32)) (w_4m1 : (Nat → Int32)) (w_4m2 : (Nat → Int32)) (w_4m3 : (Nat → Int32)) (w_4m4 : (Nat → Int32)) (w_4m5 : (Nat → Int32)) (w_4m6 : (Nat → Int32)) (w_4m7 : (Nat → Int32)) (w_4m8 : (Nat → Int32)) (w_4m9 : (Nat → Int32)) (w_4m10 : (Nat → Int32)) (w_4m11 : (Nat → Int32)) (w_4m12 : (Nat → Int32)) => (S_m_town_195  (fun (w_5l2 : Int32) (w_5m0 : (Nat → Int32)) (w_5m1 : (Nat → Int32)) (w_5m2 : (Nat → Int32)) (w_5m3 : (Nat → Int32)) (w_5m4 : (Nat → Int32)) (w_5m5 : (Nat → Int32)) (w_5m6 : (Nat → Int32)) (w_5m7 : (Nat → Int32)) (w_5m8 : (Nat → Int32)) (w_5m9 : (Nat → Int32)) (w_5m10 : (Nat → Int32)) (w_5m11 : (Nat → Int32)) (w_5m12 : (Nat → Int32)) => ((S_m_begins w_5m0 w_5m1 w_5m4) ∧ True)) (((7 : Int32).toInt - (0 : Int32).toInt).toNat + 1) 0 w_4m0 w_4m1 w_4m2 w_4m3 w_4m4 w_4m5 w_4m6 w_4m7 w_4m8 w_4m9 w_4m10 w_4m11 w_4m12)) n_w_4 w_4l2 w_4m0 w_4m1 w_4m2 w_4m3 w_4m4 w_4m5 w_4m6 w_4m7 w_4m8 w_4m9 w_4m10 w_4m11 w_4m12) → ((30 : Int32).toInt - (w_4l2 : Int32).toInt).toNat < n_w_4 → ((match ((f_m_town_169  n_w_4 w_4l2 w_4m0 w_4m1 w_4m2 w_4m3 w_4m4 w_4m5 w_4m6 w_4m7 w_4m8 w_4m9 w_4m10 w_4m11 w_4m12) : Int32 × (Nat → Int32) × (Nat → Int32) × (Nat → Int32) × (Nat → Int32) × (Nat → Int32) × (Nat → Int32) × (Nat → Int32) × (Nat → Int32) × (Nat → Int32) × (Nat → Int32) × (Nat → Int32) × (Nat → Int32) × (Nat → Int32)) with | (w_4l2, w_4m0, w_4m1, w_4m2, w_4m3, w_4m4, w_4m5, w_4m6, w_4m7, w_4m8, w_4m9, w_4m10, w_4m11, w_4m12) => (match ((f_m_town_195  (((7 : Int32).toInt - (0 : Int32).toInt).toNat + 1) 0 w_4m0 w_4m1 w_4m2 w_4m3 w_4m4 w_4m5 w_4m6 w_4m7 w_4m8 w_4m9 w_4m10 w_4m11 w_4m12) : Int32 × (Nat → Int32) × (Nat → Int32) × (Nat → Int32) × (Nat → Int32) × (Nat → Int32) × (Nat → Int32) × (Nat → Int32) × (Nat → Int32) × (Nat → Int32) × (Nat → Int32) × (Nat → Int32) × (Nat → Int32) × (Nat → Int32)) with | (w_5l2, w_5m0, w_5m1, w_5m2, w_5m3, w_5m4, w_5m5, w_5m6, w_5m7, w_5m8, w_5m9, w_5m10, w_5m11, w_5m12) => ((w_5m0 3), (upd (upd w_5m0 42 0) 2 0), (f_m_begins w_5m0 w_5m1 w_5m4), (upd (upd w_5m2 (0 : Int32).toNatClampNeg (vp_nar .boolean 0)) (1 : Int32).toNatClampNeg (vp_nar .boolean 0)), w_5m3, w_5m4, w_5m5, w_5m6, w_5m7, w_5m8, w_5m9, w_5m10, w_5m11, w_5m12))) : Int32 × (Nat → Int32) × (Nat → Int32) × (Nat → Int32) × (Nat → Int32) × (Nat → Int32) × (Nat → Int32) × (Nat → Int32) × (Nat → Int32) × (Nat → Int32) × (Nat → Int32) × (Nat → Int32) × (Nat → Int32) × (Nat → Int32)) = RES → W p l e rm_m_town s m args below meth c H locs 0 0 Q (F0 m 169 ls []) := by
          intro n_w_4
          induction n_w_4 with
          | zero => intro w_4l2 w_4m0 w_4m1 w_4m2 w_4m3 w_4m4 w_4m5 w_4m6 w_4m7 w_4m8 w_4m9 w_4m10 w_4m11 w_4m12 H locs ls hP hD hS hl hF hm; exact absurd hm (Nat.not_lt_zero _)
          | succ n_w_4 ih_w_4 =>
            intro w_4l2 w_4m0 w_4m1 w_4m2 w_4m3 w_4m4 w_4m5 w_4m6 w_4m7 w_4m8 w_4m9 w_4m10 w_4m11 w_4m12 H locs ls hP hD hS hl hF hm hE
            rw [S_m_town_169_s] at hF
            rw [f_m_town_169_s] at hE
            refine lv_iload_n hx hb dX10_town_169 rfl (lv_at hl 0 rfl) ?_
            refine lv_bipush (v := 30) hx hb dX10_town_170 rfl ?_
            refine lv_icmp_ge (tgt := 193) hx hb dX10_town_172 rfl (fun c_14 => ?_) (fun c_14 => ?_)
            · replace hF := hF.1 c_14
              rw [if_pos c_14] at hE
              exact ex_169_w_4 w_4l2 w_4m0 w_4m1 w_4m2 w_4m3 w_4m4 w_4m5 w_4m6 w_4m7 w_4m8 w_4m9 w_4m10 w_4m11 w_4m12 _ _ ls hP hD hS (lv_sub hl [0, 1, 2] rfl) hF hE
            · replace hF := hF.2 c_14
              rw [if_neg c_14] at hE
              refine lv_aload_n hx hb dX10_town_175 rfl (lv_at hl 2 rfl) ?_
              refine va_get (D := D) (ci := 10) (v := .ref (Rf 10)) (C := RX10) (T := TX10) (N := 45) hx hb hts iX10 hown hK hP 0 rfl rfl 10 (Nat.le_of_ble_eq_true rfl) (hts _ wd_547) (fun _ h9 => h9) rfl dX10_town_176 ?_
              refine lv_iload_n hx hb dX10_town_179 rfl (lv_at hl 0 rfl) ?_
              refine lv_aload_n hx hb dX10_town_180 rfl (lv_at hl 2 rfl) ?_
              refine va_get (D := D) (ci := 10) (v := .ref (Rf 29)) (C := RX10) (T := TX10) (N := 45) hx hb hts iX10 hown hK hP 0 rfl rfl 29 (Nat.le_of_ble_eq_true rfl) (hts _ wd_537) (fun _ h9 => h9) rfl dX10_town_181 ?_
              refine lv_iload_n hx hb dX10_town_184 rfl (lv_at hl 0 rfl) ?_
              obtain ⟨hv_15, hF⟩ := hF
              refine va_iald hx hb hK hP 11 0 rfl rfl hv_15 dX10_town_185 ?_
              obtain ⟨hv_16, hF⟩ := hF
              refine va_iast hx hb hK hP hD hS 5 0 rfl rfl hv_16 dX10_town_186 (fun H locs hP hD hS => ?_)
              have hP : va_P D classes [(h, .inr (10, ML w_4m0 Rf)), ((Rf 0), .inl (cI, 1302, .inl w_4m1)), ((Rf 1), .inl (cZ, 2, .inl w_4m2)), ((Rf 8), .inl (cI, 6, .inl w_4m3)), ((Rf 9), .inl (cI, 6, .inl w_4m4)), ((Rf 10), .inl (cI, 30, .inl (upd w_4m5 (w_4l2 : Int32).toNatClampNeg (w_4m10 (w_4l2 : Int32).toNatClampNeg)))), ((Rf 11), .inl (cI, 7, .inl w_4m6)), ((Rf 12), .inl (cI, 7, .inl w_4m7)), ((Rf 13), .inl (cI, 240, .inl f13)), ((Rf 27), .inl (cI, 6, .inl w_4m8)), ((Rf 28), .inl (cI, 6, .inl w_4m9)), ((Rf 29), .inl (cI, 30, .inl w_4m10)), ((Rf 30), .inl (cI, 7, .inl w_4m11)), ((Rf 31), .inl (cI, 7, .inl w_4m12))] H := hP
              have hD : va_D A [(h, .inr (10, ML w_4m0 Rf)), ((Rf 0), .inl (cI, 1302, .inl w_4m1)), ((Rf 1), .inl (cZ, 2, .inl w_4m2)), ((Rf 8), .inl (cI, 6, .inl w_4m3)), ((Rf 9), .inl (cI, 6, .inl w_4m4)), ((Rf 10), .inl (cI, 30, .inl (upd w_4m5 (w_4l2 : Int32).toNatClampNeg (w_4m10 (w_4l2 : Int32).toNatClampNeg)))), ((Rf 11), .inl (cI, 7, .inl w_4m6)), ((Rf 12), .inl (cI, 7, .inl w_4m7)), ((Rf 13), .inl (cI, 240, .inl f13)), ((Rf 27), .inl (cI, 6, .inl w_4m8)), ((Rf 28), .inl (cI, 6, .inl w_4m9)), ((Rf 29), .inl (cI, 30, .inl w_4m10)), ((Rf 30), .inl (cI, 7, .inl w_4m11)), ((Rf 31), .inl (cI, 7, .inl w_4m12))] := hD
              refine lv_iinc (v := (w_4l2 + 1)) (lv' := [(2, .int (w_4l2 + 1)), (1, .int w_1l1), (0, .ref h)]) hx hb dX10_town_187 hl (k := 0) rfl rfl (Nat.le_of_ble_eq_true rfl) rfl (fun ls hl => ?_)
              refine lv_goto (tgt := 169) hx hb dX10_town_190 rfl ?_
              exact ih_w_4 (w_4l2 + 1) w_4m0 w_4m1 w_4m2 w_4m3 w_4m4 (upd w_4m5 (w_4l2 : Int32).toNatClampNeg (w_4m10 (w_4l2 : Int32).toNatClampNeg)) w_4m6 w_4m7 w_4m8 w_4m9 w_4m10 w_4m11 w_4m12 _ _ ls hP hD hS (lv_sub hl [0, 1, 2] rfl) hF (up_step c_14 hm) hE
        exact lp_169_w_4 (((30 : Int32).toInt - (0 : Int32).toInt).toNat + 1) 0 w_3m0 w_3m1 w_3m2 w_3m3 w_3m4 w_3m5 w_3m6 w_3m7 w_3m8 w_3m9 w_3m10 w_3m11 w_3m12 _ _ ls hP hD hS hl hF (Nat.lt_succ_self _) hE
      have lp_131_w_3 : ∀ (n_w_3 : Nat) (w_3l2 : Int32) (w_3m0 : (Nat → Int32)) (w_3m1 : (Nat → Int32)) (w_3m2 : (Nat → Int32)) (w_3m3 : (Nat → Int32)) (w_3m4 : (Nat → Int32)) (w_3m5 : (Nat → Int32)) (w_3m6 : (Nat → Int32)) (w_3m7 : (Nat → Int32)) (w_3m8 : (Nat → Int32)) (w_3m9 : (Nat → Int32)) (w_3m10 : (Nat → Int32)) (w_3m11 : (Nat → Int32)) (w_3m12 : (Nat → Int32)) (H : Heap) (locs : List Loc) (ls : Array Slot), va_P D classes [(h, .inr (10, ML w_3m0 Rf)), ((Rf 0), .inl (cI, 1302, .inl w_3m1)), ((Rf 1), .inl (cZ, 2, .inl w_3m2)), ((Rf 8), .inl (cI, 6, .inl w_3m3)), ((Rf 9), .inl (cI, 6, .inl w_3m4)), ((Rf 10), .inl (cI, 30, .inl w_3m5)), ((Rf 11), .inl (cI, 7, .inl w_3m6)), ((Rf 12), .inl (cI, 7, .inl w_3m7)), ((Rf 13), .inl (cI, 240, .inl f13)), ((Rf 27), .inl (cI, 6, .inl w_3m8)), ((Rf 28), .inl (cI, 6, .inl w_3m9)), ((Rf 29), .inl (cI, 30, .inl w_3m10)), ((Rf 30), .inl (cI, 7, .inl w_3m11)), ((Rf 31), .inl (cI, 7, .inl w_3m12))] H → va_D A [(h, .inr (10, ML w_3m0 Rf)), ((Rf 0), .inl (cI, 1302, .inl w_3m1)), ((Rf 1), .inl (cZ, 2, .inl w_3m2)), ((Rf 8), .inl (cI, 6, .inl w_3m3)), ((Rf 9), .inl (cI, 6, .inl w_3m4)), ((Rf 10), .inl (cI, 30, .inl w_3m5)), ((Rf 11), .inl (cI, 7, .inl w_3m6)), ((Rf 12), .inl (cI, 7, .inl w_3m7)), ((Rf 13), .inl (cI, 240, .inl f13)), ((Rf 27), .inl (cI, 6, .inl w_3m8)), ((Rf 28), .inl (cI, 6, .inl w_3m9)), ((Rf 29), .inl (cI, 30, .inl w_3m10)), ((Rf 30), .inl (cI, 7, .inl w_3m11)), ((Rf 31), .inl (cI, 7, .inl w_3m12))] → va_S A s.heap H locs → lv_has ls 3 [(2, .int w_3l2), (1, .int w_1l1), (0, .ref h)] → (S_m_town_131  (fun (w_3l2 : Int32) (w_3m0 : (Nat → Int32)) (w_3m1 : (Nat → Int32)) (w_3m2 : (Nat → Int32)) (w_3m3 : (Nat → Int32)) (w_3m4 : (Nat → Int32)) (w_3m5 : (Nat → Int32)) (w_3m6 : (Nat → Int32)) (w_3m7 : (Nat → Int32)) (w_3m8 : (Nat → Int32)) (w_3m9 : (Nat → Int32)) (w_3m10 : (Nat → Int32)) (w_3m11 : (Nat → Int32)) (w_3m12 : (Nat → Int32)) => (S_m_town_169  (fun (w_4l2 : Int32) (w_4m0 : (Nat → Int32)) (w_4m1 : (Nat → Int32)) (w_4m2 : (Nat → Int32)) (w_4m3 : (Nat → Int32)) (w_4m4 : (Nat → Int32)) (w_4m5 : (Nat → Int32)) (w_4m6 : (Nat → Int32)) (w_4m7 : (Nat → Int32)) (w_4m8 : (Nat → Int32)) (w_4m9 : (Nat → Int32)) (w_4m10 : (Nat → Int32)) (w_4m11 : (Nat → Int32)) (w_4m12 : (Nat → Int32)) => (S_m_town_195  (fun (w_5l2 : Int32) (w_5m0 : (Nat → Int32)) (w_5m1 : (Nat → Int32)) (w_5m2 : (Nat → Int32)) (w_5m3 : (Nat → Int32)) (w_5m4 : (Nat → Int32)) (w_5m5 : (Nat → Int32)) (w_5m6 : (Nat → Int32)) (w_5m7 : (Nat → Int32)) (w_5m8 : (Nat → Int32)) (w_5m9 : (Nat → Int32)) (w_5m10 : (Nat → Int32)) (w_5m11 : (Nat → Int32)) (w_5m12 : (Nat → Int32)) => ((S_m_begins w_5m0 w_5m1 w_5m4) ∧ True)) (((7 : Int32).toInt - (0 : Int32).toInt).toNat + 1) 0 w_4m0 w_4m1 w_4m2 w_4m3 w_4m4 w_4m5 w_4m6 w_4m7 w_4m8 w_4m9 w_4m10 w_4m11 w_4m12)) (((30 : Int32).toInt - (0 : Int32).toInt).toNat + 1) 0 w_3m0 w_3m1 w_3m2 w_3m3 w_3m4 w_3m5 w_3m6 w_3m7 w_3m8 w_3m9 w_3m10 w_3m11 w_3m12)) n_w_3 w_3l2 w_3m0 w_3m1 w_3m2 w_3m3 w_3m4 w_3m5 w_3m6 w_3m7 w_3m8 w_3m9 w_3m10 w_3m11 w_3m12) → ((6 : Int32).toInt - (w_3l2 : Int32).toInt).toNat < n_w_3 → ((match ((f_m_town_131  n_w_3 w_3l2 w_3m0 w_3m1 w_3m2 w_3m3 w_3m4 w_3m5 w_3m6 w_3m7 w_3m8 w_3m9 w_3m10 w_3m11 w_3m12) : Int32 × (Nat → Int32) × (Nat → Int32) × (Nat → Int32) × (Nat → Int32) × (Nat → Int32) × (Nat → Int32) × (Nat → Int32) × (Nat → Int32) × (Nat → Int32) × (Nat → Int32) × (Nat → Int32) × (Nat → Int32) × (Nat → Int32)) with | (w_3l2, w_3m0, w_3m1, w_3m2, w_3m3, w_3m4, w_3m5, w_3m6, w_3m7, w_3m8, w_3m9, w_3m10, w_3m11, w_3m12) => (match ((f_m_town_169  (((30 : Int32).toInt - (0 : Int32).toInt).toNat + 1) 0 w_3m0 w_3m1 w_3m2 w_3m3 w_3m4 w_3m5 w_3m6 w_3m7 w_3m8 w_3m9 w_3m10 w_3m11 w_3m12) : Int32 × (Nat → Int32) × (Nat → Int32) × (Nat → Int32) × (Nat → Int32) × (Nat → Int32) × (Nat → Int32) × (Nat → Int32) × (Nat → Int32) × (Nat → Int32) × (Nat → Int32) × (Nat → Int32) × (Nat → Int32) × (Nat → Int32)) with | (w_4l2, w_4m0, w_4m1, w_4m2, w_4m3, w_4m4, w_4m5, w_4m6, w_4m7, w_4m8, w_4m9, w_4m10, w_4m11, w_4m12) => (match ((f_m_town_195  (((7 : Int32).toInt - (0 : Int32).toInt).toNat + 1) 0 w_4m0 w_4m1 w_4m2 w_4m3 w_4m4 w_4m5 w_4m6 w_4m7 w_4m8 w_4m9 w_4m10 w_4m11 w_4m12) : Int32 × (Nat → Int32) × (Nat → Int32) × (Nat → Int32) × (Nat → Int32) × (Nat → Int32) × (Nat → Int32) × (Nat → Int32) × (Nat → Int32) × (Nat → Int32) × (Nat → Int32) × (Nat → Int32) × (Nat → Int32) × (Nat → Int32)) with | (w_5l2, w_5m0, w_5m1, w_5m2, w_5m3, w_5m4, w_5m5, w_5m6, w_5m7, w_5m8, w_5m9, w_5m10, w_5m11, w_5m12) => ((w_5m0 3), (upd (upd w_5m0 42 0) 2 0), (f_m_begins w_5m0 w_5m1 w_5m4), (upd (upd w_5m2 (0 : Int32).toNatClampNeg (vp_nar .boolean 0)) (1 : Int32).toNatClampNeg (vp_nar .boolean 0)), w_5m3, w_5m4, w_5m5, w_5m6, w_5m7, w_5m8, w_5m9, w_5m10, w_5m11, w_5m12)))) : Int32 × (Nat → Int32) × (Nat → Int32) × (Nat → Int32) × (Nat → Int32) × (Nat → Int32) × (Nat → Int32) × (Nat → Int32) × (Nat → Int32) × (Nat → Int32) × (Nat → Int32) × (Nat → Int32) × (Nat → Int32) × (Nat → Int32)) = RES → W p l e rm_m_town s m args below meth c H locs 0 0 Q (F0 m 131 ls []) := by
        intro n_w_3
        induction n_w_3 with
        | zero => intro w_3l2 w_3m0 w_3m1 w_3m2 w_3m3 w_3m4 w_3m5 w_3m6 w_3m7 w_3m8 w_3m9 w_3m10 w_3m11 w_3m12 H locs ls hP hD hS hl hF hm; exact absurd hm (Nat.not_lt_zero _)
        | succ n_w_3 ih_w_3 =>
          intro w_3l2 w_3m0 w_3m1 w_3m2 w_3m3 w_3m4 w_3m5 w_3m6 w_3m7 w_3m8 w_3m9 w_3m10 w_3m11 w_3m12 H locs ls hP hD hS hl hF hm hE
          rw [S_m_town_131_s] at hF
          rw [f_m_town_131_s] at hE
          refine lv_iload_n hx hb dX10_town_131 rfl (lv_at hl 0 rfl) ?_
          refine lv_bipush (v := 6) hx hb dX10_town_132 rfl ?_
          refine lv_icmp_ge (tgt := 167) hx hb dX10_town_134 rfl (fun c_17 => ?_) (fun c_17 => ?_)
          · replace hF := hF.1 c_17
            rw [if_pos c_17] at hE
            exact ex_131_w_3 w_3l2 w_3m0 w_3m1 w_3m2 w_3m3 w_3m4 w_3m5 w_3m6 w_3m7 w_3m8 w_3m9 w_3m10 w_3m11 w_3m12 _ _ ls hP hD hS (lv_sub hl [0, 1, 2] rfl) hF hE
          · replace hF := hF.2 c_17
            rw [if_neg c_17] at hE
            refine lv_aload_n hx hb dX10_town_137 rfl (lv_at hl 2 rfl) ?_
            refine va_get (D := D) (ci := 10) (v := .ref (Rf 8)) (C := RX10) (T := TX10) (N := 45) hx hb hts iX10 hown hK hP 0 rfl rfl 8 (Nat.le_of_ble_eq_true rfl) (hts _ wd_579) (fun _ h9 => h9) rfl dX10_town_138 ?_
            refine lv_iload_n hx hb dX10_town_141 rfl (lv_at hl 0 rfl) ?_
            refine lv_aload_n hx hb dX10_town_142 rfl (lv_at hl 2 rfl) ?_
            refine va_get (D := D) (ci := 10) (v := .ref (Rf 27)) (C := RX10) (T := TX10) (N := 45) hx hb hts iX10 hown hK hP 0 rfl rfl 27 (Nat.le_of_ble_eq_true rfl) (hts _ wd_532) (fun _ h9 => h9) rfl dX10_town_143 ?_
            refine lv_iload_n hx hb dX10_town_146 rfl (lv_at hl 0 rfl) ?_
            obtain ⟨hv_18, hF⟩ := hF
            refine va_iald hx hb hK hP 9 0 rfl rfl hv_18 dX10_town_147 ?_
            obtain ⟨hv_19, hF⟩ := hF
            refine va_iast hx hb hK hP hD hS 3 0 rfl rfl hv_19 dX10_town_148 (fun H locs hP hD hS => ?_)
            have hP : va_P D classes [(h, .inr (10, ML w_3m0 Rf)), ((Rf 0), .inl (cI, 1302, .inl w_3m1)), ((Rf 1), .inl (cZ, 2, .inl w_3m2)), ((Rf 8), .inl (cI, 6, .inl (upd w_3m3 (w_3l2 : Int32).toNatClampNeg (w_3m8 (w_3l2 : Int32).toNatClampNeg)))), ((Rf 9), .inl (cI, 6, .inl w_3m4)), ((Rf 10), .inl (cI, 30, .inl w_3m5)), ((Rf 11), .inl (cI, 7, .inl w_3m6)), ((Rf 12), .inl (cI, 7, .inl w_3m7)), ((Rf 13), .inl (cI, 240, .inl f13)), ((Rf 27), .inl (cI, 6, .inl w_3m8)), ((Rf 28), .inl (cI, 6, .inl w_3m9)), ((Rf 29), .inl (cI, 30, .inl w_3m10)), ((Rf 30), .inl (cI, 7, .inl w_3m11)), ((Rf 31), .inl (cI, 7, .inl w_3m12))] H := hP
            have hD : va_D A [(h, .inr (10, ML w_3m0 Rf)), ((Rf 0), .inl (cI, 1302, .inl w_3m1)), ((Rf 1), .inl (cZ, 2, .inl w_3m2)), ((Rf 8), .inl (cI, 6, .inl (upd w_3m3 (w_3l2 : Int32).toNatClampNeg (w_3m8 (w_3l2 : Int32).toNatClampNeg)))), ((Rf 9), .inl (cI, 6, .inl w_3m4)), ((Rf 10), .inl (cI, 30, .inl w_3m5)), ((Rf 11), .inl (cI, 7, .inl w_3m6)), ((Rf 12), .inl (cI, 7, .inl w_3m7)), ((Rf 13), .inl (cI, 240, .inl f13)), ((Rf 27), .inl (cI, 6, .inl w_3m8)), ((Rf 28), .inl (cI, 6, .inl w_3m9)), ((Rf 29), .inl (cI, 30, .inl w_3m10)), ((Rf 30), .inl (cI, 7, .inl w_3m11)), ((Rf 31), .inl (cI, 7, .inl w_3m12))] := hD
            refine lv_aload_n hx hb dX10_town_149 rfl (lv_at hl 2 rfl) ?_
            refine va_get (D := D) (ci := 10) (v := .ref (Rf 9)) (C := RX10) (T := TX10) (N := 45) hx hb hts iX10 hown hK hP 0 rfl rfl 9 (Nat.le_of_ble_eq_true rfl) (hts _ wd_561) (fun _ h9 => h9) rfl dX10_town_150 ?_
            refine lv_iload_n hx hb dX10_town_153 rfl (lv_at hl 0 rfl) ?_
            refine lv_aload_n hx hb dX10_town_154 rfl (lv_at hl 2 rfl) ?_
            refine va_get (D := D) (ci := 10) (v := .ref (Rf 28)) (C := RX10) (T := TX10) (N := 45) hx hb hts iX10 hown hK hP 0 rfl rfl 28 (Nat.le_of_ble_eq_true rfl) (hts _ wd_535) (fun _ h9 => h9) rfl dX10_town_155 ?_
            refine lv_iload_n hx hb dX10_town_158 rfl (lv_at hl 0 rfl) ?_
            obtain ⟨hv_20, hF⟩ := hF
            refine va_iald hx hb hK hP 10 0 rfl rfl hv_20 dX10_town_159 ?_
            obtain ⟨hv_21, hF⟩ := hF
            refine va_iast hx hb hK hP hD hS 4 0 rfl rfl hv_21 dX10_town_160 (fun H locs hP hD hS => ?_)
            have hP : va_P D classes [(h, .inr (10, ML w_3m0 Rf)), ((Rf 0), .inl (cI, 1302, .inl w_3m1)), ((Rf 1), .inl (cZ, 2, .inl w_3m2)), ((Rf 8), .inl (cI, 6, .inl (upd w_3m3 (w_3l2 : Int32).toNatClampNeg (w_3m8 (w_3l2 : Int32).toNatClampNeg)))), ((Rf 9), .inl (cI, 6, .inl (upd w_3m4 (w_3l2 : Int32).toNatClampNeg (w_3m9 (w_3l2 : Int32).toNatClampNeg)))), ((Rf 10), .inl (cI, 30, .inl w_3m5)), ((Rf 11), .inl (cI, 7, .inl w_3m6)), ((Rf 12), .inl (cI, 7, .inl w_3m7)), ((Rf 13), .inl (cI, 240, .inl f13)), ((Rf 27), .inl (cI, 6, .inl w_3m8)), ((Rf 28), .inl (cI, 6, .inl w_3m9)), ((Rf 29), .inl (cI, 30, .inl w_3m10)), ((Rf 30), .inl (cI, 7, .inl w_3m11)), ((Rf 31), .inl (cI, 7, .inl w_3m12))] H := hP
            have hD : va_D A [(h, .inr (10, ML w_3m0 Rf)), ((Rf 0), .inl (cI, 1302, .inl w_3m1)), ((Rf 1), .inl (cZ, 2, .inl w_3m2)), ((Rf 8), .inl (cI, 6, .inl (upd w_3m3 (w_3l2 : Int32).toNatClampNeg (w_3m8 (w_3l2 : Int32).toNatClampNeg)))), ((Rf 9), .inl (cI, 6, .inl (upd w_3m4 (w_3l2 : Int32).toNatClampNeg (w_3m9 (w_3l2 : Int32).toNatClampNeg)))), ((Rf 10), .inl (cI, 30, .inl w_3m5)), ((Rf 11), .inl (cI, 7, .inl w_3m6)), ((Rf 12), .inl (cI, 7, .inl w_3m7)), ((Rf 13), .inl (cI, 240, .inl f13)), ((Rf 27), .inl (cI, 6, .inl w_3m8)), ((Rf 28), .inl (cI, 6, .inl w_3m9)), ((Rf 29), .inl (cI, 30, .inl w_3m10)), ((Rf 30), .inl (cI, 7, .inl w_3m11)), ((Rf 31), .inl (cI, 7, .inl w_3m12))] := hD
            refine lv_iinc (v := (w_3l2 + 1)) (lv' := [(2, .int (w_3l2 + 1)), (1, .int w_1l1), (0, .ref h)]) hx hb dX10_town_161 hl (k := 0) rfl rfl (Nat.le_of_ble_eq_true rfl) rfl (fun ls hl => ?_)
            refine lv_goto (tgt := 131) hx hb dX10_town_164 rfl ?_
            exact ih_w_3 (w_3l2 + 1) w_3m0 w_3m1 w_3m2 (upd w_3m3 (w_3l2 : Int32).toNatClampNeg (w_3m8 (w_3l2 : Int32).toNatClampNeg)) (upd w_3m4 (w_3l2 : Int32).toNatClampNeg (w_3m9 (w_3l2 : Int32).toNatClampNeg)) w_3m5 w_3m6 w_3m7 w_3m8 w_3m9 w_3m10 w_3m11 w_3m12 _ _ ls hP hD hS (lv_sub hl [0, 1, 2] rfl) hF (up_step c_17 hm) hE
      exact lp_131_w_3 (((6 : Int32).toInt - (0 : Int32).toInt).toNat + 1) 0 (upd (upd (upd (upd (upd (upd w_1m0 14 0) 3 (w_1m0 20)) 4 (w_1m0 21)) 5 (w_1m0 23)) 6 (w_1m0 24)) 7 (w_1m0 25)) w_1m1 w_1m2 w_1m3 w_1m4 w_1m5 w_1m6 w_1m7 w_1m8 w_1m9 w_1m10 w_1m11 w_1m12 _ _ ls hP hD hS hl hF (Nat.lt_succ_self _) hE
    · replace hF := hF.1 c_2
      rw [if_pos c_2] at hE
      refine lv_bipush (v := (-10)) hx hb dX10_town_81 rfl ?_
      refine lv_aload_n hx hb dX10_town_83 rfl (lv_at hl 1 rfl) ?_
      refine va_get (D := D) (ci := 10) (v := .int (w_1m0 18)) (C := RX10) (T := TX10) (N := 45) hx hb hts iX10 hown hK hP 0 rfl rfl 18 (Nat.le_of_ble_eq_true rfl) (hts _ wd_514) (fun _ h9 => h9) rfl dX10_town_84 ?_
      refine lv_isub hx hb dX10_town_87 ?_
      exact hret ((-10) - (w_1m0 18)) ((upd w_1m0 14 0), w_1m1, w_1m2, w_1m3, w_1m4, w_1m5, w_1m6, w_1m7, w_1m8, w_1m9, w_1m10, w_1m11, w_1m12) _ _ _ _ dX10_town_88 rfl hE hP hD hS
  have lp_52_w_1 : ∀ (n_w_1 : Nat) (w_1l1 : Int32) (w_1m0 : (Nat → Int32)) (w_1m1 : (Nat → Int32)) (w_1m2 : (Nat → Int32)) (w_1m3 : (Nat → Int32)) (w_1m4 : (Nat → Int32)) (w_1m5 : (Nat → Int32)) (w_1m6 : (Nat → Int32)) (w_1m7 : (Nat → Int32)) (w_1m8 : (Nat → Int32)) (w_1m9 : (Nat → Int32)) (w_1m10 : (Nat → Int32)) (w_1m11 : (Nat → Int32)) (w_1m12 : (Nat → Int32)) (H : Heap) (locs : List Loc) (ls : Array Slot), va_P D classes [(h, .inr (10, ML w_1m0 Rf)), ((Rf 0), .inl (cI, 1302, .inl w_1m1)), ((Rf 1), .inl (cZ, 2, .inl w_1m2)), ((Rf 8), .inl (cI, 6, .inl w_1m3)), ((Rf 9), .inl (cI, 6, .inl w_1m4)), ((Rf 10), .inl (cI, 30, .inl w_1m5)), ((Rf 11), .inl (cI, 7, .inl w_1m6)), ((Rf 12), .inl (cI, 7, .inl w_1m7)), ((Rf 13), .inl (cI, 240, .inl f13)), ((Rf 27), .inl (cI, 6, .inl w_1m8)), ((Rf 28), .inl (cI, 6, .inl w_1m9)), ((Rf 29), .inl (cI, 30, .inl w_1m10)), ((Rf 30), .inl (cI, 7, .inl w_1m11)), ((Rf 31), .inl (cI, 7, .inl w_1m12))] H → va_D A [(h, .inr (10, ML w_1m0 Rf)), ((Rf 0), .inl (cI, 1302, .inl w_1m1)), ((Rf 1), .inl (cZ, 2, .inl w_1m2)), ((Rf 8), .inl (cI, 6, .inl w_1m3)), ((Rf 9), .inl (cI, 6, .inl w_1m4)), ((Rf 10), .inl (cI, 30, .inl w_1m5)), ((Rf 11), .inl (cI, 7, .inl w_1m6)), ((Rf 12), .inl (cI, 7, .inl w_1m7)), ((Rf 13), .inl (cI, 240, .inl f13)), ((Rf 27), .inl (cI, 6, .inl w_1m8)), ((Rf 28), .inl (cI, 6, .inl w_1m9)), ((Rf 29), .inl (cI, 30, .inl w_1m10)), ((Rf 30), .inl (cI, 7, .inl w_1m11)), ((Rf 31), .inl (cI, 7, .inl w_1m12))] → va_S A s.heap H locs → lv_has ls 3 [(1, .int w_1l1), (0, .ref h)] → (S_m_town_52 f13 (fun (w_1l1 : Int32) (w_1m0 : (Nat → Int32)) (w_1m1 : (Nat → Int32)) (w_1m2 : (Nat → Int32)) (w_1m3 : (Nat → Int32)) (w_1m4 : (Nat → Int32)) (w_1m5 : (Nat → Int32)) (w_1m6 : (Nat → Int32)) (w_1m7 : (Nat → Int32)) (w_1m8 : (Nat → Int32)) (w_1m9 : (Nat → Int32)) (w_1m10 : (Nat → Int32)) (w_1m11 : (Nat → Int32)) (w_1m12 : (Nat → Int32)) => ((w_1l1 = 0 → True) ∧ (¬ w_1l1 = 0 → (S_m_town_131  (fun (w_3l2 : Int32) (w_3m0 : (Nat → Int32)) (w_3m1 : (Nat → Int32)) (w_3m2 : (Nat → Int32)) (w_3m3 : (Nat → Int32)) (w_3m4 : (Nat → Int32)) (w_3m5 : (Nat → Int32)) (w_3m6 : (Nat → Int32)) (w_3m7 : (Nat → Int32)) (w_3m8 : (Nat → Int32)) (w_3m9 : (Nat → Int32)) (w_3m10 : (Nat → Int32)) (w_3m11 : (Nat → Int32)) (w_3m12 : (Nat → Int32)) => (S_m_town_169  (fun (w_4l2 : Int32) (w_4m0 : (Nat → Int32)) (w_4m1 : (Nat → Int32)) (w_4m2 : (Nat → Int32)) (w_4m3 : (Nat → Int32)) (w_4m4 : (Nat → Int32)) (w_4m5 : (Nat → Int32)) (w_4m6 : (Nat → Int32)) (w_4m7 : (Nat → Int32)) (w_4m8 : (Nat → Int32)) (w_4m9 : (Nat → Int32)) (w_4m10 : (Nat → Int32)) (w_4m11 : (Nat → Int32)) (w_4m12 : (Nat → Int32)) => (S_m_town_195  (fun (w_5l2 : Int32) (w_5m0 : (Nat → Int32)) (w_5m1 : (Nat → Int32)) (w_5m2 : (Nat → Int32)) (w_5m3 : (Nat → Int32)) (w_5m4 : (Nat → Int32)) (w_5m5 : (Nat → Int32)) (w_5m6 : (Nat → Int32)) (w_5m7 : (Nat → Int32)) (w_5m8 : (Nat → Int32)) (w_5m9 : (Nat → Int32)) (w_5m10 : (Nat → Int32)) (w_5m11 : (Nat → Int32)) (w_5m12 : (Nat → Int32)) => ((S_m_begins w_5m0 w_5m1 w_5m4) ∧ True)) (((7 : Int32).toInt - (0 : Int32).toInt).toNat + 1) 0 w_4m0 w_4m1 w_4m2 w_4m3 w_4m4 w_4m5 w_4m6 w_4m7 w_4m8 w_4m9 w_4m10 w_4m11 w_4m12)) (((30 : Int32).toInt - (0 : Int32).toInt).toNat + 1) 0 w_3m0 w_3m1 w_3m2 w_3m3 w_3m4 w_3m5 w_3m6 w_3m7 w_3m8 w_3m9 w_3m10 w_3m11 w_3m12)) (((6 : Int32).toInt - (0 : Int32).toInt).toNat + 1) 0 (upd (upd (upd (upd (upd (upd w_1m0 14 0) 3 (w_1m0 20)) 4 (w_1m0 21)) 5 (w_1m0 23)) 6 (w_1m0 24)) 7 (w_1m0 25)) w_1m1 w_1m2 w_1m3 w_1m4 w_1m5 w_1m6 w_1m7 w_1m8 w_1m9 w_1m10 w_1m11 w_1m12)))) n_w_1 w_1l1 w_1m0 w_1m1 w_1m2 w_1m3 w_1m4 w_1m5 w_1m6 w_1m7 w_1m8 w_1m9 w_1m10 w_1m11 w_1m12) → ((match ((f_m_town_52 f13 n_w_1 w_1l1 w_1m0 w_1m1 w_1m2 w_1m3 w_1m4 w_1m5 w_1m6 w_1m7 w_1m8 w_1m9 w_1m10 w_1m11 w_1m12) : Int32 × (Nat → Int32) × (Nat → Int32) × (Nat → Int32) × (Nat → Int32) × (Nat → Int32) × (Nat → Int32) × (Nat → Int32) × (Nat → Int32) × (Nat → Int32) × (Nat → Int32) × (Nat → Int32) × (Nat → Int32) × (Nat → Int32)) with | (w_1l1, w_1m0, w_1m1, w_1m2, w_1m3, w_1m4, w_1m5, w_1m6, w_1m7, w_1m8, w_1m9, w_1m10, w_1m11, w_1m12) => (if w_1l1 = 0 then (((-10) - (w_1m0 18)), (upd w_1m0 14 0), w_1m1, w_1m2, w_1m3, w_1m4, w_1m5, w_1m6, w_1m7, w_1m8, w_1m9, w_1m10, w_1m11, w_1m12) else (match ((f_m_town_131  (((6 : Int32).toInt - (0 : Int32).toInt).toNat + 1) 0 (upd (upd (upd (upd (upd (upd w_1m0 14 0) 3 (w_1m0 20)) 4 (w_1m0 21)) 5 (w_1m0 23)) 6 (w_1m0 24)) 7 (w_1m0 25)) w_1m1 w_1m2 w_1m3 w_1m4 w_1m5 w_1m6 w_1m7 w_1m8 w_1m9 w_1m10 w_1m11 w_1m12) : Int32 × (Nat → Int32) × (Nat → Int32) × (Nat → Int32) × (Nat → Int32) × (Nat → Int32) × (Nat → Int32) × (Nat → Int32) × (Nat → Int32) × (Nat → Int32) × (Nat → Int32) × (Nat → Int32) × (Nat → Int32) × (Nat → Int32)) with | (w_3l2, w_3m0, w_3m1, w_3m2, w_3m3, w_3m4, w_3m5, w_3m6, w_3m7, w_3m8, w_3m9, w_3m10, w_3m11, w_3m12) => (match ((f_m_town_169  (((30 : Int32).toInt - (0 : Int32).toInt).toNat + 1) 0 w_3m0 w_3m1 w_3m2 w_3m3 w_3m4 w_3m5 w_3m6 w_3m7 w_3m8 w_3m9 w_3m10 w_3m11 w_3m12) : Int32 × (Nat → Int32) × (Nat → Int32) × (Nat → Int32) × (Nat → Int32) × (Nat → Int32) × (Nat → Int32) × (Nat → Int32) × (Nat → Int32) × (Nat → Int32) × (Nat → Int32) × (Nat → Int32) × (Nat → Int32) × (Nat → Int32)) with | (w_4l2, w_4m0, w_4m1, w_4m2, w_4m3, w_4m4, w_4m5, w_4m6, w_4m7, w_4m8, w_4m9, w_4m10, w_4m11, w_4m12) => (match ((f_m_town_195  (((7 : Int32).toInt - (0 : Int32).toInt).toNat + 1) 0 w_4m0 w_4m1 w_4m2 w_4m3 w_4m4 w_4m5 w_4m6 w_4m7 w_4m8 w_4m9 w_4m10 w_4m11 w_4m12) : Int32 × (Nat → Int32) × (Nat → Int32) × (Nat → Int32) × (Nat → Int32) × (Nat → Int32) × (Nat → Int32) × (Nat → Int32) × (Nat → Int32) × (Nat → Int32) × (Nat → Int32) × (Nat → Int32) × (Nat → Int32) × (Nat → Int32)) with | (w_5l2, w_5m0, w_5m1, w_5m2, w_5m3, w_5m4, w_5m5, w_5m6, w_5m7, w_5m8, w_5m9, w_5m10, w_5m11, w_5m12) => ((w_5m0 3), (upd (upd w_5m0 42 0) 2 0), (f_m_begins w_5m0 w_5m1 w_5m4), (upd (upd w_5m2 (0 : Int32).toNatClampNeg (vp_nar .boolean 0)) (1 : Int32).toNatClampNeg (vp_nar .boolean 0)), w_5m3, w_5m4, w_5m5, w_5m6, w_5m7, w_5m8, w_5m9, w_5m10, w_5m11, w_5m12)))))) : Int32 × (Nat → Int32) × (Nat → Int32) × (Nat → Int32) × (Nat → Int32) × (Nat → Int32) × (Nat → Int32) × (Nat → Int32) × (Nat → Int32) × (Nat → Int32) × (Nat → Int32) × (Nat → Int32) × (Nat → Int32) × (Nat → Int32)) = RES → W p l e rm_m_town s m args below meth c H locs 0 0 Q (F0 m 52 ls []) := by
    intro n_w_1
    induction n_w_1 with
    | zero => intro w_1l1 w_1m0 w_1m1 w_1m2 w_1m3 w_1m4 w_1m5 w_1m6 w_1m7 w_1m8 w_1m9 w_1m10 w_1m11 w_1m12 H locs ls hP hD hS hl hF hE; exact False.elim hF
    | succ n_w_1 ih_w_1 =>
      intro w_1l1 w_1m0 w_1m1 w_1m2 w_1m3 w_1m4 w_1m5 w_1m6 w_1m7 w_1m8 w_1m9 w_1m10 w_1m11 w_1m12 H locs ls hP hD hS hl hF hE
      rw [S_m_town_52_s] at hF
      rw [f_m_town_52_s] at hE
      refine lv_iload_n hx hb dX10_town_52 rfl (lv_at hl 0 rfl) ?_
      refine lv_if_eq (tgt := 72) hx hb dX10_town_53 rfl (fun c_22 => ?_) (fun c_22 => ?_)
      · replace hF := hF.1 c_22
        rw [if_pos c_22] at hE
        exact ex_52_w_1 w_1l1 w_1m0 w_1m1 w_1m2 w_1m3 w_1m4 w_1m5 w_1m6 w_1m7 w_1m8 w_1m9 w_1m10 w_1m11 w_1m12 _ _ ls hP hD hS (lv_sub hl [0, 1] rfl) hF hE
      · replace hF := hF.2 c_22
        rw [if_neg c_22] at hE
        refine lv_aload_n hx hb dX10_town_56 rfl (lv_at hl 1 rfl) ?_
        obtain ⟨hs_23, hF⟩ := hF
        refine cVi (wr := [((Rf 0), .inl (cI, 1302, .inl w_1m1)), ((Rf 1), .inl (cZ, 2, .inl w_1m2)), ((Rf 8), .inl (cI, 6, .inl w_1m3)), ((Rf 9), .inl (cI, 6, .inl w_1m4)), ((Rf 10), .inl (cI, 30, .inl w_1m5)), ((Rf 11), .inl (cI, 7, .inl w_1m6)), ((Rf 12), .inl (cI, 7, .inl w_1m7)), ((Rf 27), .inl (cI, 6, .inl w_1m8)), ((Rf 28), .inl (cI, 6, .inl w_1m9)), ((Rf 29), .inl (cI, 30, .inl w_1m10)), ((Rf 30), .inl (cI, 7, .inl w_1m11)), ((Rf 31), .inl (cI, 7, .inl w_1m12))]) (rest := []) (m_here Rf h w_1m0 f13 hs_23) okV_X10_here wd_516 hx hb hml hown hts hK hP hD hS hA hN hl.1 [0, 8] [1, 2, 3, 4, 5, 6, 7, 9, 10, 11, 12, 13] rfl rfl rfl rfl (of_decide_eq_true rfl) rfl rfl rfl (Nat.le_of_ble_eq_true rfl) (Nat.le_of_ble_eq_true rfl) (Nat.le_of_ble_eq_true rfl) (Nat.le_of_ble_eq_true rfl) (Nat.le_of_ble_eq_true rfl) dX10_town_57 (fun r_25 u_24 H locs hw_u_24 hP hD hS => ?_)
        replace hw_u_24 : (r_25, u_24) = (f_m_here w_1m0 f13) := hw_u_24
        replace hF := hF r_25 u_24 hw_u_24
        rw [← hw_u_24] at hE
        replace hE : ((match ((if r_25 = (-1) then (w_1l1, u_24, w_1m1, w_1m2, w_1m3, w_1m4, w_1m5, w_1m6, w_1m7, w_1m8, w_1m9, w_1m10, w_1m11, w_1m12) else (match (f_m_takesClause u_24 f13 w_1m8 w_1m9 w_1m10 w_1m11 w_1m12) with | (r_29, o_30, o_31, o_32, o_33, o_34, o_35) => (f_m_town_52 f13 n_w_1 r_29 o_30 w_1m1 w_1m2 w_1m3 w_1m4 w_1m5 w_1m6 w_1m7 o_31 o_32 o_33 o_34 o_35))) : Int32 × (Nat → Int32) × (Nat → Int32) × (Nat → Int32) × (Nat → Int32) × (Nat → Int32) × (Nat → Int32) × (Nat → Int32) × (Nat → Int32) × (Nat → Int32) × (Nat → Int32) × (Nat → Int32) × (Nat → Int32) × (Nat → Int32)) with | (w_1l1, w_1m0, w_1m1, w_1m2, w_1m3, w_1m4, w_1m5, w_1m6, w_1m7, w_1m8, w_1m9, w_1m10, w_1m11, w_1m12) => (if w_1l1 = 0 then (((-10) - (w_1m0 18)), (upd w_1m0 14 0), w_1m1, w_1m2, w_1m3, w_1m4, w_1m5, w_1m6, w_1m7, w_1m8, w_1m9, w_1m10, w_1m11, w_1m12) else (match ((f_m_town_131  (((6 : Int32).toInt - (0 : Int32).toInt).toNat + 1) 0 (upd (upd (upd (upd (upd (upd w_1m0 14 0) 3 (w_1m0 20)) 4 (w_1m0 21)) 5 (w_1m0 23)) 6 (w_1m0 24)) 7 (w_1m0 25)) w_1m1 w_1m2 w_1m3 w_1m4 w_1m5 w_1m6 w_1m7 w_1m8 w_1m9 w_1m10 w_1m11 w_1m12) : Int32 × (Nat → Int32) × (Nat → Int32) × (Nat → Int32) × (Nat → Int32) × (Nat → Int32) × (Nat → Int32) × (Nat → Int32) × (Nat → Int32) × (Nat → Int32) × (Nat → Int32) × (Nat → Int32) × (Nat → Int32) × (Nat → Int32)) with | (w_3l2, w_3m0, w_3m1, w_3m2, w_3m3, w_3m4, w_3m5, w_3m6, w_3m7, w_3m8, w_3m9, w_3m10, w_3m11, w_3m12) => (match ((f_m_town_169  (((30 : Int32).toInt - (0 : Int32).toInt).toNat + 1) 0 w_3m0 w_3m1 w_3m2 w_3m3 w_3m4 w_3m5 w_3m6 w_3m7 w_3m8 w_3m9 w_3m10 w_3m11 w_3m12) : Int32 × (Nat → Int32) × (Nat → Int32) × (Nat → Int32) × (Nat → Int32) × (Nat → Int32) × (Nat → Int32) × (Nat → Int32) × (Nat → Int32) × (Nat → Int32) × (Nat → Int32) × (Nat → Int32) × (Nat → Int32) × (Nat → Int32)) with | (w_4l2, w_4m0, w_4m1, w_4m2, w_4m3, w_4m4, w_4m5, w_4m6, w_4m7, w_4m8, w_4m9, w_4m10, w_4m11, w_4m12) => (match ((f_m_town_195  (((7 : Int32).toInt - (0 : Int32).toInt).toNat + 1) 0 w_4m0 w_4m1 w_4m2 w_4m3 w_4m4 w_4m5 w_4m6 w_4m7 w_4m8 w_4m9 w_4m10 w_4m11 w_4m12) : Int32 × (Nat → Int32) × (Nat → Int32) × (Nat → Int32) × (Nat → Int32) × (Nat → Int32) × (Nat → Int32) × (Nat → Int32) × (Nat → Int32) × (Nat → Int32) × (Nat → Int32) × (Nat → Int32) × (Nat → Int32) × (Nat → Int32)) with | (w_5l2, w_5m0, w_5m1, w_5m2, w_5m3, w_5m4, w_5m5, w_5m6, w_5m7, w_5m8, w_5m9, w_5m10, w_5m11, w_5m12) => ((w_5m0 3), (upd (upd w_5m0 42 0) 2 0), (f_m_begins w_5m0 w_5m1 w_5m4), (upd (upd w_5m2 (0 : Int32).toNatClampNeg (vp_nar .boolean 0)) (1 : Int32).toNatClampNeg (vp_nar .boolean 0)), w_5m3, w_5m4, w_5m5, w_5m6, w_5m7, w_5m8, w_5m9, w_5m10, w_5m11, w_5m12)))))) : Int32 × (Nat → Int32) × (Nat → Int32) × (Nat → Int32) × (Nat → Int32) × (Nat → Int32) × (Nat → Int32) × (Nat → Int32) × (Nat → Int32) × (Nat → Int32) × (Nat → Int32) × (Nat → Int32) × (Nat → Int32) × (Nat → Int32)) = RES := hE
        have hP : va_P D classes [((Rf 0), .inl (cI, 1302, .inl w_1m1)), ((Rf 1), .inl (cZ, 2, .inl w_1m2)), ((Rf 8), .inl (cI, 6, .inl w_1m3)), ((Rf 9), .inl (cI, 6, .inl w_1m4)), ((Rf 10), .inl (cI, 30, .inl w_1m5)), ((Rf 11), .inl (cI, 7, .inl w_1m6)), ((Rf 12), .inl (cI, 7, .inl w_1m7)), ((Rf 27), .inl (cI, 6, .inl w_1m8)), ((Rf 28), .inl (cI, 6, .inl w_1m9)), ((Rf 29), .inl (cI, 30, .inl w_1m10)), ((Rf 30), .inl (cI, 7, .inl w_1m11)), ((Rf 31), .inl (cI, 7, .inl w_1m12)), (h, .inr (10, ML u_24 Rf)), ((Rf 13), .inl (cI, 240, .inl f13))] H := hP
        have hD : va_D A [((Rf 0), .inl (cI, 1302, .inl w_1m1)), ((Rf 1), .inl (cZ, 2, .inl w_1m2)), ((Rf 8), .inl (cI, 6, .inl w_1m3)), ((Rf 9), .inl (cI, 6, .inl w_1m4)), ((Rf 10), .inl (cI, 30, .inl w_1m5)), ((Rf 11), .inl (cI, 7, .inl w_1m6)), ((Rf 12), .inl (cI, 7, .inl w_1m7)), ((Rf 27), .inl (cI, 6, .inl w_1m8)), ((Rf 28), .inl (cI, 6, .inl w_1m9)), ((Rf 29), .inl (cI, 30, .inl w_1m10)), ((Rf 30), .inl (cI, 7, .inl w_1m11)), ((Rf 31), .inl (cI, 7, .inl w_1m12)), (h, .inr (10, ML u_24 Rf)), ((Rf 13), .inl (cI, 240, .inl f13))] := hD
        refine lv_iconst (v := (-1)) hx hb dX10_town_60 rfl ?_
        refine lv_icmp_eq (tgt := 72) hx hb dX10_town_61 rfl (fun c_26 => ?_) (fun c_26 => ?_)
        · replace hF := hF.1 c_26
          rw [if_pos c_26] at hE
          subst c_26
          exact ex_52_w_1 w_1l1 u_24 w_1m1 w_1m2 w_1m3 w_1m4 w_1m5 w_1m6 w_1m7 w_1m8 w_1m9 w_1m10 w_1m11 w_1m12 _ _ ls (cutP (isC := [12, 0, 1, 2, 3, 4, 5, 6, 13, 7, 8, 9, 10, 11]) hP rfl) (cutD (isC := [12, 0, 1, 2, 3, 4, 5, 6, 13, 7, 8, 9, 10, 11]) hD rfl rfl) hS (lv_sub hl [0, 1] rfl) hF hE
        · replace hF := hF.2 c_26
          rw [if_neg c_26] at hE
          refine lv_aload_n hx hb dX10_town_64 rfl (lv_at hl 1 rfl) ?_
          obtain ⟨hs_27, hF⟩ := hF
          refine cVi (wr := [((Rf 0), .inl (cI, 1302, .inl w_1m1)), ((Rf 1), .inl (cZ, 2, .inl w_1m2)), ((Rf 8), .inl (cI, 6, .inl w_1m3)), ((Rf 9), .inl (cI, 6, .inl w_1m4)), ((Rf 10), .inl (cI, 30, .inl w_1m5)), ((Rf 11), .inl (cI, 7, .inl w_1m6)), ((Rf 12), .inl (cI, 7, .inl w_1m7))]) (rest := []) (m_takesClause Rf h u_24 f13 w_1m8 w_1m9 w_1m10 w_1m11 w_1m12 hs_27) okV_X10_takesClause wd_685 hx hb hml hown hts hK hP hD hS hA hN hl.1 [12, 13, 7, 8, 9, 10, 11] [0, 1, 2, 3, 4, 5, 6] rfl rfl rfl rfl (of_decide_eq_true rfl) rfl rfl rfl (Nat.le_of_ble_eq_true rfl) (Nat.le_of_ble_eq_true rfl) (Nat.le_of_ble_eq_true rfl) (Nat.le_of_ble_eq_true rfl) (Nat.le_of_ble_eq_true rfl) dX10_town_65 (fun r_29 u_28 H locs hw_u_28 hP hD hS => ?_)
          obtain ⟨o_30, o_31, o_32, o_33, o_34, o_35⟩ := u_28
          replace hw_u_28 : (r_29, o_30, o_31, o_32, o_33, o_34, o_35) = (f_m_takesClause u_24 f13 w_1m8 w_1m9 w_1m10 w_1m11 w_1m12) := hw_u_28
          replace hF := hF r_29 o_30 o_31 o_32 o_33 o_34 o_35 hw_u_28
          rw [← hw_u_28] at hE
          replace hE : ((match ((f_m_town_52 f13 n_w_1 r_29 o_30 w_1m1 w_1m2 w_1m3 w_1m4 w_1m5 w_1m6 w_1m7 o_31 o_32 o_33 o_34 o_35) : Int32 × (Nat → Int32) × (Nat → Int32) × (Nat → Int32) × (Nat → Int32) × (Nat → Int32) × (Nat → Int32) × (Nat → Int32) × (Nat → Int32) × (Nat → Int32) × (Nat → Int32) × (Nat → Int32) × (Nat → Int32) × (Nat → Int32)) with | (w_1l1, w_1m0, w_1m1, w_1m2, w_1m3, w_1m4, w_1m5, w_1m6, w_1m7, w_1m8, w_1m9, w_1m10, w_1m11, w_1m12) => (if w_1l1 = 0 then (((-10) - (w_1m0 18)), (upd w_1m0 14 0), w_1m1, w_1m2, w_1m3, w_1m4, w_1m5, w_1m6, w_1m7, w_1m8, w_1m9, w_1m10, w_1m11, w_1m12) else (match ((f_m_town_131  (((6 : Int32).toInt - (0 : Int32).toInt).toNat + 1) 0 (upd (upd (upd (upd (upd (upd w_1m0 14 0) 3 (w_1m0 20)) 4 (w_1m0 21)) 5 (w_1m0 23)) 6 (w_1m0 24)) 7 (w_1m0 25)) w_1m1 w_1m2 w_1m3 w_1m4 w_1m5 w_1m6 w_1m7 w_1m8 w_1m9 w_1m10 w_1m11 w_1m12) : Int32 × (Nat → Int32) × (Nat → Int32) × (Nat → Int32) × (Nat → Int32) × (Nat → Int32) × (Nat → Int32) × (Nat → Int32) × (Nat → Int32) × (Nat → Int32) × (Nat → Int32) × (Nat → Int32) × (Nat → Int32) × (Nat → Int32)) with | (w_3l2, w_3m0, w_3m1, w_3m2, w_3m3, w_3m4, w_3m5, w_3m6, w_3m7, w_3m8, w_3m9, w_3m10, w_3m11, w_3m12) => (match ((f_m_town_169  (((30 : Int32).toInt - (0 : Int32).toInt).toNat + 1) 0 w_3m0 w_3m1 w_3m2 w_3m3 w_3m4 w_3m5 w_3m6 w_3m7 w_3m8 w_3m9 w_3m10 w_3m11 w_3m12) : Int32 × (Nat → Int32) × (Nat → Int32) × (Nat → Int32) × (Nat → Int32) × (Nat → Int32) × (Nat → Int32) × (Nat → Int32) × (Nat → Int32) × (Nat → Int32) × (Nat → Int32) × (Nat → Int32) × (Nat → Int32) × (Nat → Int32)) with | (w_4l2, w_4m0, w_4m1, w_4m2, w_4m3, w_4m4, w_4m5, w_4m6, w_4m7, w_4m8, w_4m9, w_4m10, w_4m11, w_4m12) => (match ((f_m_town_195  (((7 : Int32).toInt - (0 : Int32).toInt).toNat + 1) 0 w_4m0 w_4m1 w_4m2 w_4m3 w_4m4 w_4m5 w_4m6 w_4m7 w_4m8 w_4m9 w_4m10 w_4m11 w_4m12) : Int32 × (Nat → Int32) × (Nat → Int32) × (Nat → Int32) × (Nat → Int32) × (Nat → Int32) × (Nat → Int32) × (Nat → Int32) × (Nat → Int32) × (Nat → Int32) × (Nat → Int32) × (Nat → Int32) × (Nat → Int32) × (Nat → Int32)) with | (w_5l2, w_5m0, w_5m1, w_5m2, w_5m3, w_5m4, w_5m5, w_5m6, w_5m7, w_5m8, w_5m9, w_5m10, w_5m11, w_5m12) => ((w_5m0 3), (upd (upd w_5m0 42 0) 2 0), (f_m_begins w_5m0 w_5m1 w_5m4), (upd (upd w_5m2 (0 : Int32).toNatClampNeg (vp_nar .boolean 0)) (1 : Int32).toNatClampNeg (vp_nar .boolean 0)), w_5m3, w_5m4, w_5m5, w_5m6, w_5m7, w_5m8, w_5m9, w_5m10, w_5m11, w_5m12)))))) : Int32 × (Nat → Int32) × (Nat → Int32) × (Nat → Int32) × (Nat → Int32) × (Nat → Int32) × (Nat → Int32) × (Nat → Int32) × (Nat → Int32) × (Nat → Int32) × (Nat → Int32) × (Nat → Int32) × (Nat → Int32) × (Nat → Int32)) = RES := hE
          have hP : va_P D classes [((Rf 0), .inl (cI, 1302, .inl w_1m1)), ((Rf 1), .inl (cZ, 2, .inl w_1m2)), ((Rf 8), .inl (cI, 6, .inl w_1m3)), ((Rf 9), .inl (cI, 6, .inl w_1m4)), ((Rf 10), .inl (cI, 30, .inl w_1m5)), ((Rf 11), .inl (cI, 7, .inl w_1m6)), ((Rf 12), .inl (cI, 7, .inl w_1m7)), (h, .inr (10, ML o_30 Rf)), ((Rf 13), .inl (cI, 240, .inl f13)), ((Rf 27), .inl (cI, 6, .inl o_31)), ((Rf 28), .inl (cI, 6, .inl o_32)), ((Rf 29), .inl (cI, 30, .inl o_33)), ((Rf 30), .inl (cI, 7, .inl o_34)), ((Rf 31), .inl (cI, 7, .inl o_35))] H := hP
          have hD : va_D A [((Rf 0), .inl (cI, 1302, .inl w_1m1)), ((Rf 1), .inl (cZ, 2, .inl w_1m2)), ((Rf 8), .inl (cI, 6, .inl w_1m3)), ((Rf 9), .inl (cI, 6, .inl w_1m4)), ((Rf 10), .inl (cI, 30, .inl w_1m5)), ((Rf 11), .inl (cI, 7, .inl w_1m6)), ((Rf 12), .inl (cI, 7, .inl w_1m7)), (h, .inr (10, ML o_30 Rf)), ((Rf 13), .inl (cI, 240, .inl f13)), ((Rf 27), .inl (cI, 6, .inl o_31)), ((Rf 28), .inl (cI, 6, .inl o_32)), ((Rf 29), .inl (cI, 30, .inl o_33)), ((Rf 30), .inl (cI, 7, .inl o_34)), ((Rf 31), .inl (cI, 7, .inl o_35))] := hD
          refine lv_istore_n (lv' := [(1, .int r_29), (0, .ref h)]) hx hb dX10_town_68 rfl hl (Nat.le_of_ble_eq_true rfl) rfl (fun ls hl => ?_)
          refine lv_goto (tgt := 52) hx hb dX10_town_69 rfl ?_
          exact ih_w_1 r_29 o_30 w_1m1 w_1m2 w_1m3 w_1m4 w_1m5 w_1m6 w_1m7 o_31 o_32 o_33 o_34 o_35 _ _ ls (cutP (isC := [7, 0, 1, 2, 3, 4, 5, 6, 8, 9, 10, 11, 12, 13]) hP rfl) (cutD (isC := [7, 0, 1, 2, 3, 4, 5, 6, 8, 9, 10, 11, 12, 13]) hD rfl rfl) hS (lv_sub hl [0, 1] rfl) hF hE
  exact lp_52_w_1 300 1 (upd (upd (upd (upd (upd (upd (upd (upd (upd (upd G 15 0) 18 0) 19 (-1)) 20 0) 21 1) 22 0) 23 0) 24 0) 25 0) 26 0) f0 f1 f8 f9 f10 f11 f12 f27 f28 f29 f30 f31 _ _ ls hP hD hS hl hF hE
end
section
def fw_cX10_who : List (List Nat) := [[42, 27, 182, 0, 196, 153, 0, 19, 28, 2, 159, 0, 17, 28, 133, 9, 27, 133], [27, 133, 184, 0, 84, 154, 0, 6, 18, 199, 172, 42, 182, 1, 15, 27, 4, 96], [4, 96, 62, 29, 155, 0, 178, 3, 54, 4, 21, 4, 16, 64, 162, 0, 162, 29], [162, 29, 27, 164, 0, 7, 3, 167, 0, 6, 19, 1, 14, 54, 5, 3, 54, 6], [54, 6, 21, 6, 42, 180, 0, 78, 162, 0, 116, 29, 27, 163, 0, 111, 21, 4], [21, 4, 21, 6, 184, 0, 183, 153, 0, 9, 19, 1, 14, 167, 0, 22, 42, 180], [42, 180, 0, 57, 16, 64, 29, 4, 96, 104, 21, 4, 4, 21, 6, 120, 128, 96], [128, 96, 46, 54, 7, 21, 7, 19, 1, 14, 159, 0, 21, 42, 180, 0, 60, 16], [60, 16, 6, 29, 104, 21, 6, 96, 46, 19, 1, 14, 160, 0, 9, 19, 1, 14], [1, 14, 167, 0, 18, 21, 7, 42, 180, 0, 60, 16, 6, 29, 104, 21, 6, 96], [6, 96, 46, 96, 54, 8, 21, 8, 21, 5, 162, 0, 8, 21, 8, 167, 0, 5], [0, 5, 21, 5, 54, 5, 132, 6, 1, 167, 255, 137, 42, 180, 0, 57, 16, 64], [16, 64, 29, 104, 21, 4, 96, 21, 5, 79, 132, 4, 1, 167, 255, 93, 132, 3], [132, 3, 255, 167, 255, 80, 42, 180, 0, 57, 3, 46, 19, 1, 14, 159, 0, 8], [0, 8, 28, 2, 160, 0, 26, 42, 180, 0, 57, 3, 46, 19, 1, 14, 160, 0], [160, 0, 7, 2, 167, 0, 9, 42, 180, 0, 57, 3, 46, 172, 3, 62, 2, 54], [2, 54, 4, 3, 54, 5, 21, 5, 28, 163, 0, 160, 2, 54, 4, 42, 180, 0], [180, 0, 78, 4, 100, 54, 6, 21, 6, 155, 0, 131, 29, 21, 6, 184, 0, 183], [0, 183, 154, 0, 51, 42, 180, 0, 60, 16, 6, 21, 5, 104, 21, 6, 96, 46], [96, 46, 19, 1, 14, 159, 0, 32, 42, 180, 0, 57, 16, 64, 21, 5, 4, 96], [4, 96, 104, 29, 4, 21, 6, 120, 128, 96, 46, 19, 1, 14, 159, 0, 7, 4], [7, 4, 167, 0, 4, 3, 54, 7, 21, 7, 153, 0, 56, 42, 180, 0, 60, 16], [60, 16, 6, 21, 5, 104, 21, 6, 96, 46, 42, 180, 0, 57, 16, 64, 21, 5], [21, 5, 4, 96, 104, 29, 4, 21, 6, 120, 128, 96, 46, 96, 42, 180, 0, 57], [0, 57, 16, 64, 21, 5, 104, 29, 96, 46, 160, 0, 8, 21, 6, 167, 0, 5], [0, 5, 21, 4, 54, 4, 132, 6, 255, 167, 255, 126, 29, 4, 21, 4, 120, 128], [120, 128, 62, 132, 5, 1, 167, 255, 96, 21, 4, 172]]
theorem fW_cX10_who : fq_wins 27 cX10_who.data.toList = fw_cX10_who := by decide +kernel
theorem fk_cX10_who_0 : fq_ck cX10_who 0 [42, 27, 182, 0, 196, 153, 0, 19, 28, 2, 159, 0, 17, 28, 133, 9, 27, 133] := fq_of fW_cX10_who 0 rfl rfl
theorem dX10_who_0 : decode cX10_who 0 = .ok (.aload_n 0, 1) := fq_42 fk_cX10_who_0 0 rfl rfl
theorem dX10_who_1 : decode cX10_who 1 = .ok (.iload_n 1, 1) := fq_27 fk_cX10_who_0 1 rfl rfl
theorem dX10_who_2 : decode cX10_who 2 = .ok (.invokevirtual 196, 3) := fq_182 fk_cX10_who_0 2 rfl rfl rfl rfl rfl
theorem dX10_who_5 : decode cX10_who 5 = .ok (.ifCond .eq 19, 3) := fq_153 fk_cX10_who_0 5 rfl rfl rfl rfl rfl
theorem fk_cX10_who_1 : fq_ck cX10_who 16 [27, 133, 184, 0, 84, 154, 0, 6, 18, 199, 172, 42, 182, 1, 15, 27, 4, 96] := fq_of fW_cX10_who 1 rfl rfl
theorem dX10_who_24 : decode cX10_who 24 = .ok (.ldc 199, 2) := fq_18 fk_cX10_who_1 8 rfl rfl rfl
theorem dX10_who_26 : decode cX10_who 26 = .ok (.ireturn, 1) := fq_172 fk_cX10_who_1 10 rfl rfl
theorem dX10_who_8 : decode cX10_who 8 = .ok (.iload_n 2, 1) := fq_28 fk_cX10_who_0 8 rfl rfl
theorem dX10_who_9 : decode cX10_who 9 = .ok (.iconst (-1), 1) := fq_2 fk_cX10_who_0 9 rfl rfl
theorem dX10_who_10 : decode cX10_who 10 = .ok (.if_icmp .eq 17, 3) := fq_159 fk_cX10_who_0 10 rfl rfl rfl rfl rfl
theorem dX10_who_27 : decode cX10_who 27 = .ok (.aload_n 0, 1) := fq_42 fk_cX10_who_1 11 rfl rfl
theorem dX10_who_28 : decode cX10_who 28 = .ok (.invokevirtual 271, 3) := fq_182 fk_cX10_who_1 12 rfl rfl rfl rfl rfl
theorem wd_689 : Cond.methodLink RX10 271 yX10_layCosts ∈ BG := BG_at5 161 (by decide +kernel) rfl
theorem wd_690 : Cond.code yX10_layCosts cX10_layCosts 4 none ∈ BG := BG_at5 164 rfl rfl
theorem wd_691 : Cond.instanceMethod yX10_layCosts ∈ BG := BG_at5 163 (by decide +kernel) rfl
theorem wd_692 : Cond.selects RX10 yX10_layCosts yX10_layCosts ∈ BG := BG_in (by decide +kernel) rfl
theorem okV_X10_layCosts : okV yX10_layCosts cX10_layCosts 4 none 0 := ⟨⟨wd_690, wd_497, by decide +kernel⟩, wd_691, wd_692⟩
theorem dX10_who_31 : decode cX10_who 31 = .ok (.iload_n 1, 1) := fq_27 fk_cX10_who_1 15 rfl rfl
theorem fk_cX10_who_2 : fq_ck cX10_who 32 [4, 96, 62, 29, 155, 0, 178, 3, 54, 4, 21, 4, 16, 64, 162, 0, 162, 29] := fq_of fW_cX10_who 2 rfl rfl
theorem dX10_who_32 : decode cX10_who 32 = .ok (.iconst 1, 1) := fq_4 fk_cX10_who_2 0 rfl rfl
theorem dX10_who_33 : decode cX10_who 33 = .ok (.iadd, 1) := fq_96 fk_cX10_who_2 1 rfl rfl
theorem dX10_who_34 : decode cX10_who 34 = .ok (.istore_n 3, 1) := fq_62 fk_cX10_who_2 2 rfl rfl
theorem fk_cX10_who_13 : fq_ck cX10_who 208 [132, 3, 255, 167, 255, 80, 42, 180, 0, 57, 3, 46, 19, 1, 14, 159, 0, 8] := fq_of fW_cX10_who 13 rfl rfl
theorem dX10_who_214 : decode cX10_who 214 = .ok (.aload_n 0, 1) := fq_42 fk_cX10_who_13 6 rfl rfl
theorem wd_693 : Cond.fieldLink RX10 57 "QuarrelBridgesModel" "least" "[I" ∈ BG := BG_at4 99 (by decide +kernel) rfl
theorem dX10_who_215 : decode cX10_who 215 = .ok (.getfield 57, 3) := fq_180 fk_cX10_who_13 7 rfl rfl rfl rfl rfl
theorem dX10_who_218 : decode cX10_who 218 = .ok (.iconst 0, 1) := fq_3 fk_cX10_who_13 10 rfl rfl
theorem dX10_who_219 : decode cX10_who 219 = .ok (.iaload, 1) := fq_46 fk_cX10_who_13 11 rfl rfl
theorem dX10_who_220 : decode cX10_who 220 = .ok (.ldc_w 270, 3) := fq_19 fk_cX10_who_13 12 rfl rfl rfl rfl rfl
theorem dX10_who_223 : decode cX10_who 223 = .ok (.if_icmp .eq 8, 3) := fq_159 fk_cX10_who_13 15 rfl rfl rfl rfl rfl
theorem fk_cX10_who_14 : fq_ck cX10_who 224 [0, 8, 28, 2, 160, 0, 26, 42, 180, 0, 57, 3, 46, 19, 1, 14, 160, 0] := fq_of fW_cX10_who 14 rfl rfl
theorem dX10_who_231 : decode cX10_who 231 = .ok (.aload_n 0, 1) := fq_42 fk_cX10_who_14 7 rfl rfl
theorem dX10_who_232 : decode cX10_who 232 = .ok (.getfield 57, 3) := fq_180 fk_cX10_who_14 8 rfl rfl rfl rfl rfl
theorem dX10_who_235 : decode cX10_who 235 = .ok (.iconst 0, 1) := fq_3 fk_cX10_who_14 11 rfl rfl
theorem dX10_who_236 : decode cX10_who 236 = .ok (.iaload, 1) := fq_46 fk_cX10_who_14 12 rfl rfl
theorem dX10_who_237 : decode cX10_who 237 = .ok (.ldc_w 270, 3) := fq_19 fk_cX10_who_14 13 rfl rfl rfl rfl rfl
theorem fk_cX10_who_15 : fq_ck cX10_who 240 [160, 0, 7, 2, 167, 0, 9, 42, 180, 0, 57, 3, 46, 172, 3, 62, 2, 54] := fq_of fW_cX10_who 15 rfl rfl
theorem dX10_who_240 : decode cX10_who 240 = .ok (.if_icmp .ne 7, 3) := fq_160 fk_cX10_who_15 0 rfl rfl rfl rfl rfl
theorem dX10_who_247 : decode cX10_who 247 = .ok (.aload_n 0, 1) := fq_42 fk_cX10_who_15 7 rfl rfl
theorem dX10_who_248 : decode cX10_who 248 = .ok (.getfield 57, 3) := fq_180 fk_cX10_who_15 8 rfl rfl rfl rfl rfl
theorem dX10_who_251 : decode cX10_who 251 = .ok (.iconst 0, 1) := fq_3 fk_cX10_who_15 11 rfl rfl
theorem dX10_who_252 : decode cX10_who 252 = .ok (.iaload, 1) := fq_46 fk_cX10_who_15 12 rfl rfl
theorem dX10_who_253 : decode cX10_who 253 = .ok (.ireturn, 1) := fq_172 fk_cX10_who_15 13 rfl rfl
theorem dX10_who_243 : decode cX10_who 243 = .ok (.iconst (-1), 1) := fq_2 fk_cX10_who_15 3 rfl rfl
theorem dX10_who_244 : decode cX10_who 244 = .ok (.goto 9, 3) := fq_167 fk_cX10_who_15 4 rfl rfl rfl rfl rfl
theorem dX10_who_226 : decode cX10_who 226 = .ok (.iload_n 2, 1) := fq_28 fk_cX10_who_14 2 rfl rfl
theorem dX10_who_227 : decode cX10_who 227 = .ok (.iconst (-1), 1) := fq_2 fk_cX10_who_14 3 rfl rfl
theorem dX10_who_228 : decode cX10_who 228 = .ok (.if_icmp .ne 26, 3) := fq_160 fk_cX10_who_14 4 rfl rfl rfl rfl rfl
theorem dX10_who_254 : decode cX10_who 254 = .ok (.iconst 0, 1) := fq_3 fk_cX10_who_15 14 rfl rfl
theorem dX10_who_255 : decode cX10_who 255 = .ok (.istore_n 3, 1) := fq_62 fk_cX10_who_15 15 rfl rfl
theorem fk_cX10_who_16 : fq_ck cX10_who 256 [2, 54, 4, 3, 54, 5, 21, 5, 28, 163, 0, 160, 2, 54, 4, 42, 180, 0] := fq_of fW_cX10_who 16 rfl rfl
theorem dX10_who_256 : decode cX10_who 256 = .ok (.iconst (-1), 1) := fq_2 fk_cX10_who_16 0 rfl rfl
theorem dX10_who_257 : decode cX10_who 257 = .ok (.istore 4, 2) := fq_54 fk_cX10_who_16 1 rfl rfl rfl
theorem dX10_who_259 : decode cX10_who 259 = .ok (.iconst 0, 1) := fq_3 fk_cX10_who_16 3 rfl rfl
theorem dX10_who_260 : decode cX10_who 260 = .ok (.istore 5, 2) := fq_54 fk_cX10_who_16 4 rfl rfl rfl
theorem fk_cX10_who_26 : fq_ck cX10_who 416 [120, 128, 62, 132, 5, 1, 167, 255, 96, 21, 4, 172] := fq_of fW_cX10_who 26 rfl rfl
theorem dX10_who_425 : decode cX10_who 425 = .ok (.iload 4, 2) := fq_21 fk_cX10_who_26 9 rfl rfl rfl
theorem dX10_who_427 : decode cX10_who 427 = .ok (.ireturn, 1) := fq_172 fk_cX10_who_26 11 rfl rfl
theorem dX10_who_262 : decode cX10_who 262 = .ok (.iload 5, 2) := fq_21 fk_cX10_who_16 6 rfl rfl rfl
theorem dX10_who_264 : decode cX10_who 264 = .ok (.iload_n 2, 1) := fq_28 fk_cX10_who_16 8 rfl rfl
theorem dX10_who_265 : decode cX10_who 265 = .ok (.if_icmp .gt 160, 3) := fq_163 fk_cX10_who_16 9 rfl rfl rfl rfl rfl
theorem dX10_who_268 : decode cX10_who 268 = .ok (.iconst (-1), 1) := fq_2 fk_cX10_who_16 12 rfl rfl
theorem dX10_who_269 : decode cX10_who 269 = .ok (.istore 4, 2) := fq_54 fk_cX10_who_16 13 rfl rfl rfl
theorem dX10_who_271 : decode cX10_who 271 = .ok (.aload_n 0, 1) := fq_42 fk_cX10_who_16 15 rfl rfl
theorem fk_cX10_who_17 : fq_ck cX10_who 272 [180, 0, 78, 4, 100, 54, 6, 21, 6, 155, 0, 131, 29, 21, 6, 184, 0, 183] := fq_of fW_cX10_who 17 rfl rfl
theorem dX10_who_272 : decode cX10_who 272 = .ok (.getfield 78, 3) := fq_180 fk_cX10_who_17 0 rfl rfl rfl rfl rfl
theorem dX10_who_275 : decode cX10_who 275 = .ok (.iconst 1, 1) := fq_4 fk_cX10_who_17 3 rfl rfl
theorem dX10_who_276 : decode cX10_who 276 = .ok (.isub, 1) := fq_100 fk_cX10_who_17 4 rfl rfl
theorem dX10_who_277 : decode cX10_who 277 = .ok (.istore 6, 2) := fq_54 fk_cX10_who_17 5 rfl rfl rfl
theorem fk_cX10_who_25 : fq_ck cX10_who 400 [0, 5, 21, 4, 54, 4, 132, 6, 255, 167, 255, 126, 29, 4, 21, 4, 120, 128] := fq_of fW_cX10_who 25 rfl rfl
theorem dX10_who_412 : decode cX10_who 412 = .ok (.iload_n 3, 1) := fq_29 fk_cX10_who_25 12 rfl rfl
theorem dX10_who_413 : decode cX10_who 413 = .ok (.iconst 1, 1) := fq_4 fk_cX10_who_25 13 rfl rfl
theorem dX10_who_414 : decode cX10_who 414 = .ok (.iload 4, 2) := fq_21 fk_cX10_who_25 14 rfl rfl rfl
theorem dX10_who_416 : decode cX10_who 416 = .ok (.ishl, 1) := fq_120 fk_cX10_who_26 0 rfl rfl
theorem dX10_who_417 : decode cX10_who 417 = .ok (.ior, 1) := fq_128 fk_cX10_who_26 1 rfl rfl
theorem dX10_who_418 : decode cX10_who 418 = .ok (.istore_n 3, 1) := fq_62 fk_cX10_who_26 2 rfl rfl
theorem dX10_who_419 : decode cX10_who 419 = .ok (.iinc 5 1, 3) := fq_132 fk_cX10_who_26 3 rfl rfl rfl rfl rfl
theorem dX10_who_422 : decode cX10_who 422 = .ok (.goto (-160), 3) := fq_167 fk_cX10_who_26 6 rfl rfl rfl rfl rfl
theorem dX10_who_279 : decode cX10_who 279 = .ok (.iload 6, 2) := fq_21 fk_cX10_who_17 7 rfl rfl rfl
theorem dX10_who_281 : decode cX10_who 281 = .ok (.ifCond .lt 131, 3) := fq_155 fk_cX10_who_17 9 rfl rfl rfl rfl rfl
theorem dX10_who_284 : decode cX10_who 284 = .ok (.iload_n 3, 1) := fq_29 fk_cX10_who_17 12 rfl rfl
theorem dX10_who_285 : decode cX10_who 285 = .ok (.iload 6, 2) := fq_21 fk_cX10_who_17 13 rfl rfl rfl
theorem dX10_who_287 : decode cX10_who 287 = .ok (.invokestatic 183, 3) := fq_184 fk_cX10_who_17 15 rfl rfl rfl rfl rfl
theorem fk_cX10_who_18 : fq_ck cX10_who 288 [0, 183, 154, 0, 51, 42, 180, 0, 60, 16, 6, 21, 5, 104, 21, 6, 96, 46] := fq_of fW_cX10_who 18 rfl rfl
theorem dX10_who_290 : decode cX10_who 290 = .ok (.ifCond .ne 51, 3) := fq_154 fk_cX10_who_18 2 rfl rfl rfl rfl rfl
theorem fk_cX10_who_21 : fq_ck cX10_who 336 [7, 4, 167, 0, 4, 3, 54, 7, 21, 7, 153, 0, 56, 42, 180, 0, 60, 16] := fq_of fW_cX10_who 21 rfl rfl
theorem dX10_who_341 : decode cX10_who 341 = .ok (.iconst 0, 1) := fq_3 fk_cX10_who_21 5 rfl rfl
theorem dX10_who_342 : decode cX10_who 342 = .ok (.istore 7, 2) := fq_54 fk_cX10_who_21 6 rfl rfl rfl
theorem dX10_who_344 : decode cX10_who 344 = .ok (.iload 7, 2) := fq_21 fk_cX10_who_21 8 rfl rfl rfl
theorem dX10_who_346 : decode cX10_who 346 = .ok (.ifCond .eq 56, 3) := fq_153 fk_cX10_who_21 10 rfl rfl rfl rfl rfl
theorem dX10_who_402 : decode cX10_who 402 = .ok (.iload 4, 2) := fq_21 fk_cX10_who_25 2 rfl rfl rfl
theorem dX10_who_404 : decode cX10_who 404 = .ok (.istore 4, 2) := fq_54 fk_cX10_who_25 4 rfl rfl rfl
theorem dX10_who_406 : decode cX10_who 406 = .ok (.iinc 6 (-1), 3) := fq_132 fk_cX10_who_25 6 rfl rfl rfl rfl rfl
theorem dX10_who_409 : decode cX10_who 409 = .ok (.goto (-130), 3) := fq_167 fk_cX10_who_25 9 rfl rfl rfl rfl rfl
theorem dX10_who_293 : decode cX10_who 293 = .ok (.aload_n 0, 1) := fq_42 fk_cX10_who_18 5 rfl rfl
theorem dX10_who_294 : decode cX10_who 294 = .ok (.getfield 60, 3) := fq_180 fk_cX10_who_18 6 rfl rfl rfl rfl rfl
theorem dX10_who_297 : decode cX10_who 297 = .ok (.bipush 6, 2) := fq_16 fk_cX10_who_18 9 rfl rfl rfl rfl
theorem dX10_who_299 : decode cX10_who 299 = .ok (.iload 5, 2) := fq_21 fk_cX10_who_18 11 rfl rfl rfl
theorem dX10_who_301 : decode cX10_who 301 = .ok (.imul, 1) := fq_104 fk_cX10_who_18 13 rfl rfl
theorem dX10_who_302 : decode cX10_who 302 = .ok (.iload 6, 2) := fq_21 fk_cX10_who_18 14 rfl rfl rfl
theorem fk_cX10_who_19 : fq_ck cX10_who 304 [96, 46, 19, 1, 14, 159, 0, 32, 42, 180, 0, 57, 16, 64, 21, 5, 4, 96] := fq_of fW_cX10_who 19 rfl rfl
theorem dX10_who_304 : decode cX10_who 304 = .ok (.iadd, 1) := fq_96 fk_cX10_who_19 0 rfl rfl
theorem dX10_who_305 : decode cX10_who 305 = .ok (.iaload, 1) := fq_46 fk_cX10_who_19 1 rfl rfl
theorem dX10_who_306 : decode cX10_who 306 = .ok (.ldc_w 270, 3) := fq_19 fk_cX10_who_19 2 rfl rfl rfl rfl rfl
theorem dX10_who_309 : decode cX10_who 309 = .ok (.if_icmp .eq 32, 3) := fq_159 fk_cX10_who_19 5 rfl rfl rfl rfl rfl
theorem dX10_who_312 : decode cX10_who 312 = .ok (.aload_n 0, 1) := fq_42 fk_cX10_who_19 8 rfl rfl
theorem dX10_who_313 : decode cX10_who 313 = .ok (.getfield 57, 3) := fq_180 fk_cX10_who_19 9 rfl rfl rfl rfl rfl
theorem dX10_who_316 : decode cX10_who 316 = .ok (.bipush 64, 2) := fq_16 fk_cX10_who_19 12 rfl rfl rfl rfl
theorem dX10_who_318 : decode cX10_who 318 = .ok (.iload 5, 2) := fq_21 fk_cX10_who_19 14 rfl rfl rfl
theorem fk_cX10_who_20 : fq_ck cX10_who 320 [4, 96, 104, 29, 4, 21, 6, 120, 128, 96, 46, 19, 1, 14, 159, 0, 7, 4] := fq_of fW_cX10_who 20 rfl rfl
theorem dX10_who_320 : decode cX10_who 320 = .ok (.iconst 1, 1) := fq_4 fk_cX10_who_20 0 rfl rfl
theorem dX10_who_321 : decode cX10_who 321 = .ok (.iadd, 1) := fq_96 fk_cX10_who_20 1 rfl rfl
theorem dX10_who_322 : decode cX10_who 322 = .ok (.imul, 1) := fq_104 fk_cX10_who_20 2 rfl rfl
theorem dX10_who_323 : decode cX10_who 323 = .ok (.iload_n 3, 1) := fq_29 fk_cX10_who_20 3 rfl rfl
theorem dX10_who_324 : decode cX10_who 324 = .ok (.iconst 1, 1) := fq_4 fk_cX10_who_20 4 rfl rfl
theorem dX10_who_325 : decode cX10_who 325 = .ok (.iload 6, 2) := fq_21 fk_cX10_who_20 5 rfl rfl rfl
theorem dX10_who_327 : decode cX10_who 327 = .ok (.ishl, 1) := fq_120 fk_cX10_who_20 7 rfl rfl
theorem dX10_who_328 : decode cX10_who 328 = .ok (.ior, 1) := fq_128 fk_cX10_who_20 8 rfl rfl
theorem dX10_who_329 : decode cX10_who 329 = .ok (.iadd, 1) := fq_96 fk_cX10_who_20 9 rfl rfl
theorem dX10_who_330 : decode cX10_who 330 = .ok (.iaload, 1) := fq_46 fk_cX10_who_20 10 rfl rfl
theorem dX10_who_331 : decode cX10_who 331 = .ok (.ldc_w 270, 3) := fq_19 fk_cX10_who_20 11 rfl rfl rfl rfl rfl
theorem dX10_who_334 : decode cX10_who 334 = .ok (.if_icmp .eq 7, 3) := fq_159 fk_cX10_who_20 14 rfl rfl rfl rfl rfl
theorem dX10_who_337 : decode cX10_who 337 = .ok (.iconst 1, 1) := fq_4 fk_cX10_who_21 1 rfl rfl
theorem dX10_who_338 : decode cX10_who 338 = .ok (.goto 4, 3) := fq_167 fk_cX10_who_21 2 rfl rfl rfl rfl rfl
theorem dX10_who_349 : decode cX10_who 349 = .ok (.aload_n 0, 1) := fq_42 fk_cX10_who_21 13 rfl rfl
theorem dX10_who_350 : decode cX10_who 350 = .ok (.getfield 60, 3) := fq_180 fk_cX10_who_21 14 rfl rfl rfl rfl rfl
theorem fk_cX10_who_22 : fq_ck cX10_who 352 [60, 16, 6, 21, 5, 104, 21, 6, 96, 46, 42, 180, 0, 57, 16, 64, 21, 5] := fq_of fW_cX10_who 22 rfl rfl
theorem dX10_who_353 : decode cX10_who 353 = .ok (.bipush 6, 2) := fq_16 fk_cX10_who_22 1 rfl rfl rfl rfl
theorem dX10_who_355 : decode cX10_who 355 = .ok (.iload 5, 2) := fq_21 fk_cX10_who_22 3 rfl rfl rfl
theorem dX10_who_357 : decode cX10_who 357 = .ok (.imul, 1) := fq_104 fk_cX10_who_22 5 rfl rfl
theorem dX10_who_358 : decode cX10_who 358 = .ok (.iload 6, 2) := fq_21 fk_cX10_who_22 6 rfl rfl rfl
theorem dX10_who_360 : decode cX10_who 360 = .ok (.iadd, 1) := fq_96 fk_cX10_who_22 8 rfl rfl
theorem dX10_who_361 : decode cX10_who 361 = .ok (.iaload, 1) := fq_46 fk_cX10_who_22 9 rfl rfl
theorem dX10_who_362 : decode cX10_who 362 = .ok (.aload_n 0, 1) := fq_42 fk_cX10_who_22 10 rfl rfl
theorem dX10_who_363 : decode cX10_who 363 = .ok (.getfield 57, 3) := fq_180 fk_cX10_who_22 11 rfl rfl rfl rfl rfl
theorem dX10_who_366 : decode cX10_who 366 = .ok (.bipush 64, 2) := fq_16 fk_cX10_who_22 14 rfl rfl rfl rfl
theorem fk_cX10_who_23 : fq_ck cX10_who 368 [21, 5, 4, 96, 104, 29, 4, 21, 6, 120, 128, 96, 46, 96, 42, 180, 0, 57] := fq_of fW_cX10_who 23 rfl rfl
theorem dX10_who_368 : decode cX10_who 368 = .ok (.iload 5, 2) := fq_21 fk_cX10_who_23 0 rfl rfl rfl
theorem dX10_who_370 : decode cX10_who 370 = .ok (.iconst 1, 1) := fq_4 fk_cX10_who_23 2 rfl rfl
theorem dX10_who_371 : decode cX10_who 371 = .ok (.iadd, 1) := fq_96 fk_cX10_who_23 3 rfl rfl
theorem dX10_who_372 : decode cX10_who 372 = .ok (.imul, 1) := fq_104 fk_cX10_who_23 4 rfl rfl
theorem dX10_who_373 : decode cX10_who 373 = .ok (.iload_n 3, 1) := fq_29 fk_cX10_who_23 5 rfl rfl
theorem dX10_who_374 : decode cX10_who 374 = .ok (.iconst 1, 1) := fq_4 fk_cX10_who_23 6 rfl rfl
theorem dX10_who_375 : decode cX10_who 375 = .ok (.iload 6, 2) := fq_21 fk_cX10_who_23 7 rfl rfl rfl
theorem dX10_who_377 : decode cX10_who 377 = .ok (.ishl, 1) := fq_120 fk_cX10_who_23 9 rfl rfl
theorem dX10_who_378 : decode cX10_who 378 = .ok (.ior, 1) := fq_128 fk_cX10_who_23 10 rfl rfl
theorem dX10_who_379 : decode cX10_who 379 = .ok (.iadd, 1) := fq_96 fk_cX10_who_23 11 rfl rfl
theorem dX10_who_380 : decode cX10_who 380 = .ok (.iaload, 1) := fq_46 fk_cX10_who_23 12 rfl rfl
theorem dX10_who_381 : decode cX10_who 381 = .ok (.iadd, 1) := fq_96 fk_cX10_who_23 13 rfl rfl
theorem dX10_who_382 : decode cX10_who 382 = .ok (.aload_n 0, 1) := fq_42 fk_cX10_who_23 14 rfl rfl
theorem dX10_who_383 : decode cX10_who 383 = .ok (.getfield 57, 3) := fq_180 fk_cX10_who_23 15 rfl rfl rfl rfl rfl
theorem fk_cX10_who_24 : fq_ck cX10_who 384 [0, 57, 16, 64, 21, 5, 104, 29, 96, 46, 160, 0, 8, 21, 6, 167, 0, 5] := fq_of fW_cX10_who 24 rfl rfl
theorem dX10_who_386 : decode cX10_who 386 = .ok (.bipush 64, 2) := fq_16 fk_cX10_who_24 2 rfl rfl rfl rfl
theorem dX10_who_388 : decode cX10_who 388 = .ok (.iload 5, 2) := fq_21 fk_cX10_who_24 4 rfl rfl rfl
theorem dX10_who_390 : decode cX10_who 390 = .ok (.imul, 1) := fq_104 fk_cX10_who_24 6 rfl rfl
theorem dX10_who_391 : decode cX10_who 391 = .ok (.iload_n 3, 1) := fq_29 fk_cX10_who_24 7 rfl rfl
theorem dX10_who_392 : decode cX10_who 392 = .ok (.iadd, 1) := fq_96 fk_cX10_who_24 8 rfl rfl
theorem dX10_who_393 : decode cX10_who 393 = .ok (.iaload, 1) := fq_46 fk_cX10_who_24 9 rfl rfl
theorem dX10_who_394 : decode cX10_who 394 = .ok (.if_icmp .ne 8, 3) := fq_160 fk_cX10_who_24 10 rfl rfl rfl rfl rfl
theorem dX10_who_397 : decode cX10_who 397 = .ok (.iload 6, 2) := fq_21 fk_cX10_who_24 13 rfl rfl rfl
theorem dX10_who_399 : decode cX10_who 399 = .ok (.goto 5, 3) := fq_167 fk_cX10_who_24 15 rfl rfl rfl rfl rfl
theorem dX10_who_35 : decode cX10_who 35 = .ok (.iload_n 3, 1) := fq_29 fk_cX10_who_2 3 rfl rfl
theorem dX10_who_36 : decode cX10_who 36 = .ok (.ifCond .lt 178, 3) := fq_155 fk_cX10_who_2 4 rfl rfl rfl rfl rfl
theorem dX10_who_39 : decode cX10_who 39 = .ok (.iconst 0, 1) := fq_3 fk_cX10_who_2 7 rfl rfl
theorem dX10_who_40 : decode cX10_who 40 = .ok (.istore 4, 2) := fq_54 fk_cX10_who_2 8 rfl rfl rfl
theorem dX10_who_208 : decode cX10_who 208 = .ok (.iinc 3 (-1), 3) := fq_132 fk_cX10_who_13 0 rfl rfl rfl rfl rfl
theorem dX10_who_211 : decode cX10_who 211 = .ok (.goto (-176), 3) := fq_167 fk_cX10_who_13 3 rfl rfl rfl rfl rfl
theorem dX10_who_42 : decode cX10_who 42 = .ok (.iload 4, 2) := fq_21 fk_cX10_who_2 10 rfl rfl rfl
theorem dX10_who_44 : decode cX10_who 44 = .ok (.bipush 64, 2) := fq_16 fk_cX10_who_2 12 rfl rfl rfl rfl
theorem dX10_who_46 : decode cX10_who 46 = .ok (.if_icmp .ge 162, 3) := fq_162 fk_cX10_who_2 14 rfl rfl rfl rfl rfl
theorem fk_cX10_who_3 : fq_ck cX10_who 48 [162, 29, 27, 164, 0, 7, 3, 167, 0, 6, 19, 1, 14, 54, 5, 3, 54, 6] := fq_of fW_cX10_who 3 rfl rfl
theorem dX10_who_49 : decode cX10_who 49 = .ok (.iload_n 3, 1) := fq_29 fk_cX10_who_3 1 rfl rfl
theorem dX10_who_50 : decode cX10_who 50 = .ok (.iload_n 1, 1) := fq_27 fk_cX10_who_3 2 rfl rfl
theorem dX10_who_51 : decode cX10_who 51 = .ok (.if_icmp .le 7, 3) := fq_164 fk_cX10_who_3 3 rfl rfl rfl rfl rfl
theorem dX10_who_58 : decode cX10_who 58 = .ok (.ldc_w 270, 3) := fq_19 fk_cX10_who_3 10 rfl rfl rfl rfl rfl
theorem dX10_who_61 : decode cX10_who 61 = .ok (.istore 5, 2) := fq_54 fk_cX10_who_3 13 rfl rfl rfl
theorem dX10_who_63 : decode cX10_who 63 = .ok (.iconst 0, 1) := fq_3 fk_cX10_who_3 15 rfl rfl
theorem fk_cX10_who_4 : fq_ck cX10_who 64 [54, 6, 21, 6, 42, 180, 0, 78, 162, 0, 116, 29, 27, 163, 0, 111, 21, 4] := fq_of fW_cX10_who 4 rfl rfl
theorem dX10_who_64 : decode cX10_who 64 = .ok (.istore 6, 2) := fq_54 fk_cX10_who_4 0 rfl rfl rfl
theorem fk_cX10_who_11 : fq_ck cX10_who 176 [0, 5, 21, 5, 54, 5, 132, 6, 1, 167, 255, 137, 42, 180, 0, 57, 16, 64] := fq_of fW_cX10_who 11 rfl rfl
theorem dX10_who_188 : decode cX10_who 188 = .ok (.aload_n 0, 1) := fq_42 fk_cX10_who_11 12 rfl rfl
theorem dX10_who_189 : decode cX10_who 189 = .ok (.getfield 57, 3) := fq_180 fk_cX10_who_11 13 rfl rfl rfl rfl rfl
theorem fk_cX10_who_12 : fq_ck cX10_who 192 [16, 64, 29, 104, 21, 4, 96, 21, 5, 79, 132, 4, 1, 167, 255, 93, 132, 3] := fq_of fW_cX10_who 12 rfl rfl
theorem dX10_who_192 : decode cX10_who 192 = .ok (.bipush 64, 2) := fq_16 fk_cX10_who_12 0 rfl rfl rfl rfl
theorem dX10_who_194 : decode cX10_who 194 = .ok (.iload_n 3, 1) := fq_29 fk_cX10_who_12 2 rfl rfl
theorem dX10_who_195 : decode cX10_who 195 = .ok (.imul, 1) := fq_104 fk_cX10_who_12 3 rfl rfl
theorem dX10_who_196 : decode cX10_who 196 = .ok (.iload 4, 2) := fq_21 fk_cX10_who_12 4 rfl rfl rfl
theorem dX10_who_198 : decode cX10_who 198 = .ok (.iadd, 1) := fq_96 fk_cX10_who_12 6 rfl rfl
theorem dX10_who_199 : decode cX10_who 199 = .ok (.iload 5, 2) := fq_21 fk_cX10_who_12 7 rfl rfl rfl
theorem dX10_who_201 : decode cX10_who 201 = .ok (.iastore, 1) := fq_79 fk_cX10_who_12 9 rfl rfl
theorem dX10_who_202 : decode cX10_who 202 = .ok (.iinc 4 1, 3) := fq_132 fk_cX10_who_12 10 rfl rfl rfl rfl rfl
theorem dX10_who_205 : decode cX10_who 205 = .ok (.goto (-163), 3) := fq_167 fk_cX10_who_12 13 rfl rfl rfl rfl rfl
theorem dX10_who_66 : decode cX10_who 66 = .ok (.iload 6, 2) := fq_21 fk_cX10_who_4 2 rfl rfl rfl
theorem dX10_who_68 : decode cX10_who 68 = .ok (.aload_n 0, 1) := fq_42 fk_cX10_who_4 4 rfl rfl
theorem dX10_who_69 : decode cX10_who 69 = .ok (.getfield 78, 3) := fq_180 fk_cX10_who_4 5 rfl rfl rfl rfl rfl
theorem dX10_who_72 : decode cX10_who 72 = .ok (.if_icmp .ge 116, 3) := fq_162 fk_cX10_who_4 8 rfl rfl rfl rfl rfl
theorem dX10_who_75 : decode cX10_who 75 = .ok (.iload_n 3, 1) := fq_29 fk_cX10_who_4 11 rfl rfl
theorem dX10_who_76 : decode cX10_who 76 = .ok (.iload_n 1, 1) := fq_27 fk_cX10_who_4 12 rfl rfl
theorem dX10_who_77 : decode cX10_who 77 = .ok (.if_icmp .gt 111, 3) := fq_163 fk_cX10_who_4 13 rfl rfl rfl rfl rfl
theorem fk_cX10_who_5 : fq_ck cX10_who 80 [21, 4, 21, 6, 184, 0, 183, 153, 0, 9, 19, 1, 14, 167, 0, 22, 42, 180] := fq_of fW_cX10_who 5 rfl rfl
theorem dX10_who_80 : decode cX10_who 80 = .ok (.iload 4, 2) := fq_21 fk_cX10_who_5 0 rfl rfl rfl
theorem dX10_who_82 : decode cX10_who 82 = .ok (.iload 6, 2) := fq_21 fk_cX10_who_5 2 rfl rfl rfl
theorem dX10_who_84 : decode cX10_who 84 = .ok (.invokestatic 183, 3) := fq_184 fk_cX10_who_5 4 rfl rfl rfl rfl rfl
theorem dX10_who_87 : decode cX10_who 87 = .ok (.ifCond .eq 9, 3) := fq_153 fk_cX10_who_5 7 rfl rfl rfl rfl rfl
theorem fk_cX10_who_6 : fq_ck cX10_who 96 [42, 180, 0, 57, 16, 64, 29, 4, 96, 104, 21, 4, 4, 21, 6, 120, 128, 96] := fq_of fW_cX10_who 6 rfl rfl
theorem dX10_who_96 : decode cX10_who 96 = .ok (.aload_n 0, 1) := fq_42 fk_cX10_who_6 0 rfl rfl
theorem dX10_who_97 : decode cX10_who 97 = .ok (.getfield 57, 3) := fq_180 fk_cX10_who_6 1 rfl rfl rfl rfl rfl
theorem dX10_who_100 : decode cX10_who 100 = .ok (.bipush 64, 2) := fq_16 fk_cX10_who_6 4 rfl rfl rfl rfl
theorem dX10_who_102 : decode cX10_who 102 = .ok (.iload_n 3, 1) := fq_29 fk_cX10_who_6 6 rfl rfl
theorem dX10_who_103 : decode cX10_who 103 = .ok (.iconst 1, 1) := fq_4 fk_cX10_who_6 7 rfl rfl
theorem dX10_who_104 : decode cX10_who 104 = .ok (.iadd, 1) := fq_96 fk_cX10_who_6 8 rfl rfl
theorem dX10_who_105 : decode cX10_who 105 = .ok (.imul, 1) := fq_104 fk_cX10_who_6 9 rfl rfl
theorem dX10_who_106 : decode cX10_who 106 = .ok (.iload 4, 2) := fq_21 fk_cX10_who_6 10 rfl rfl rfl
theorem dX10_who_108 : decode cX10_who 108 = .ok (.iconst 1, 1) := fq_4 fk_cX10_who_6 12 rfl rfl
theorem dX10_who_109 : decode cX10_who 109 = .ok (.iload 6, 2) := fq_21 fk_cX10_who_6 13 rfl rfl rfl
theorem dX10_who_111 : decode cX10_who 111 = .ok (.ishl, 1) := fq_120 fk_cX10_who_6 15 rfl rfl
theorem fk_cX10_who_7 : fq_ck cX10_who 112 [128, 96, 46, 54, 7, 21, 7, 19, 1, 14, 159, 0, 21, 42, 180, 0, 60, 16] := fq_of fW_cX10_who 7 rfl rfl
theorem dX10_who_112 : decode cX10_who 112 = .ok (.ior, 1) := fq_128 fk_cX10_who_7 0 rfl rfl
theorem dX10_who_113 : decode cX10_who 113 = .ok (.iadd, 1) := fq_96 fk_cX10_who_7 1 rfl rfl
theorem dX10_who_114 : decode cX10_who 114 = .ok (.iaload, 1) := fq_46 fk_cX10_who_7 2 rfl rfl
theorem dX10_who_115 : decode cX10_who 115 = .ok (.istore 7, 2) := fq_54 fk_cX10_who_7 3 rfl rfl rfl
theorem dX10_who_117 : decode cX10_who 117 = .ok (.iload 7, 2) := fq_21 fk_cX10_who_7 5 rfl rfl rfl
theorem dX10_who_119 : decode cX10_who 119 = .ok (.ldc_w 270, 3) := fq_19 fk_cX10_who_7 7 rfl rfl rfl rfl rfl
theorem dX10_who_122 : decode cX10_who 122 = .ok (.if_icmp .eq 21, 3) := fq_159 fk_cX10_who_7 10 rfl rfl rfl rfl rfl
theorem fk_cX10_who_8 : fq_ck cX10_who 128 [60, 16, 6, 29, 104, 21, 6, 96, 46, 19, 1, 14, 160, 0, 9, 19, 1, 14] := fq_of fW_cX10_who 8 rfl rfl
theorem dX10_who_143 : decode cX10_who 143 = .ok (.ldc_w 270, 3) := fq_19 fk_cX10_who_8 15 rfl rfl rfl rfl rfl
theorem fk_cX10_who_9 : fq_ck cX10_who 144 [1, 14, 167, 0, 18, 21, 7, 42, 180, 0, 60, 16, 6, 29, 104, 21, 6, 96] := fq_of fW_cX10_who 9 rfl rfl
theorem dX10_who_146 : decode cX10_who 146 = .ok (.goto 18, 3) := fq_167 fk_cX10_who_9 2 rfl rfl rfl rfl rfl
theorem fk_cX10_who_10 : fq_ck cX10_who 160 [6, 96, 46, 96, 54, 8, 21, 8, 21, 5, 162, 0, 8, 21, 8, 167, 0, 5] := fq_of fW_cX10_who 10 rfl rfl
theorem dX10_who_164 : decode cX10_who 164 = .ok (.istore 8, 2) := fq_54 fk_cX10_who_10 4 rfl rfl rfl
theorem dX10_who_166 : decode cX10_who 166 = .ok (.iload 8, 2) := fq_21 fk_cX10_who_10 6 rfl rfl rfl
theorem dX10_who_168 : decode cX10_who 168 = .ok (.iload 5, 2) := fq_21 fk_cX10_who_10 8 rfl rfl rfl
theorem dX10_who_170 : decode cX10_who 170 = .ok (.if_icmp .ge 8, 3) := fq_162 fk_cX10_who_10 10 rfl rfl rfl rfl rfl
theorem dX10_who_178 : decode cX10_who 178 = .ok (.iload 5, 2) := fq_21 fk_cX10_who_11 2 rfl rfl rfl
theorem dX10_who_180 : decode cX10_who 180 = .ok (.istore 5, 2) := fq_54 fk_cX10_who_11 4 rfl rfl rfl
theorem dX10_who_182 : decode cX10_who 182 = .ok (.iinc 6 1, 3) := fq_132 fk_cX10_who_11 6 rfl rfl rfl rfl rfl
theorem dX10_who_185 : decode cX10_who 185 = .ok (.goto (-119), 3) := fq_167 fk_cX10_who_11 9 rfl rfl rfl rfl rfl
theorem dX10_who_173 : decode cX10_who 173 = .ok (.iload 8, 2) := fq_21 fk_cX10_who_10 13 rfl rfl rfl
theorem dX10_who_175 : decode cX10_who 175 = .ok (.goto 5, 3) := fq_167 fk_cX10_who_10 15 rfl rfl rfl rfl rfl
theorem dX10_who_125 : decode cX10_who 125 = .ok (.aload_n 0, 1) := fq_42 fk_cX10_who_7 13 rfl rfl
theorem dX10_who_126 : decode cX10_who 126 = .ok (.getfield 60, 3) := fq_180 fk_cX10_who_7 14 rfl rfl rfl rfl rfl
theorem dX10_who_129 : decode cX10_who 129 = .ok (.bipush 6, 2) := fq_16 fk_cX10_who_8 1 rfl rfl rfl rfl
theorem dX10_who_131 : decode cX10_who 131 = .ok (.iload_n 3, 1) := fq_29 fk_cX10_who_8 3 rfl rfl
theorem dX10_who_132 : decode cX10_who 132 = .ok (.imul, 1) := fq_104 fk_cX10_who_8 4 rfl rfl
theorem dX10_who_133 : decode cX10_who 133 = .ok (.iload 6, 2) := fq_21 fk_cX10_who_8 5 rfl rfl rfl
theorem dX10_who_135 : decode cX10_who 135 = .ok (.iadd, 1) := fq_96 fk_cX10_who_8 7 rfl rfl
theorem dX10_who_136 : decode cX10_who 136 = .ok (.iaload, 1) := fq_46 fk_cX10_who_8 8 rfl rfl
theorem dX10_who_137 : decode cX10_who 137 = .ok (.ldc_w 270, 3) := fq_19 fk_cX10_who_8 9 rfl rfl rfl rfl rfl
theorem dX10_who_140 : decode cX10_who 140 = .ok (.if_icmp .ne 9, 3) := fq_160 fk_cX10_who_8 12 rfl rfl rfl rfl rfl
theorem dX10_who_149 : decode cX10_who 149 = .ok (.iload 7, 2) := fq_21 fk_cX10_who_9 5 rfl rfl rfl
theorem dX10_who_151 : decode cX10_who 151 = .ok (.aload_n 0, 1) := fq_42 fk_cX10_who_9 7 rfl rfl
theorem dX10_who_152 : decode cX10_who 152 = .ok (.getfield 60, 3) := fq_180 fk_cX10_who_9 8 rfl rfl rfl rfl rfl
theorem dX10_who_155 : decode cX10_who 155 = .ok (.bipush 6, 2) := fq_16 fk_cX10_who_9 11 rfl rfl rfl rfl
theorem dX10_who_157 : decode cX10_who 157 = .ok (.iload_n 3, 1) := fq_29 fk_cX10_who_9 13 rfl rfl
theorem dX10_who_158 : decode cX10_who 158 = .ok (.imul, 1) := fq_104 fk_cX10_who_9 14 rfl rfl
theorem dX10_who_159 : decode cX10_who 159 = .ok (.iload 6, 2) := fq_21 fk_cX10_who_9 15 rfl rfl rfl
theorem dX10_who_161 : decode cX10_who 161 = .ok (.iadd, 1) := fq_96 fk_cX10_who_10 1 rfl rfl
theorem dX10_who_162 : decode cX10_who 162 = .ok (.iaload, 1) := fq_46 fk_cX10_who_10 2 rfl rfl
theorem dX10_who_163 : decode cX10_who 163 = .ok (.iadd, 1) := fq_96 fk_cX10_who_10 3 rfl rfl
theorem dX10_who_90 : decode cX10_who 90 = .ok (.ldc_w 270, 3) := fq_19 fk_cX10_who_5 10 rfl rfl rfl rfl rfl
theorem dX10_who_93 : decode cX10_who 93 = .ok (.goto 22, 3) := fq_167 fk_cX10_who_5 13 rfl rfl rfl rfl rfl
theorem dX10_who_54 : decode cX10_who 54 = .ok (.iconst 0, 1) := fq_3 fk_cX10_who_3 6 rfl rfl
theorem dX10_who_55 : decode cX10_who 55 = .ok (.goto 6, 3) := fq_167 fk_cX10_who_3 7 rfl rfl rfl rfl rfl
theorem dX10_who_13 : decode cX10_who 13 = .ok (.iload_n 2, 1) := fq_28 fk_cX10_who_0 13 rfl rfl
theorem dX10_who_14 : decode cX10_who 14 = .ok (.i2l, 1) := fq_133 fk_cX10_who_0 14 rfl rfl
theorem dX10_who_15 : decode cX10_who 15 = .ok (.lconst 0, 1) := fq_9 fk_cX10_who_0 15 rfl rfl
theorem dX10_who_16 : decode cX10_who 16 = .ok (.iload_n 1, 1) := fq_27 fk_cX10_who_1 0 rfl rfl
theorem dX10_who_17 : decode cX10_who 17 = .ok (.i2l, 1) := fq_133 fk_cX10_who_1 1 rfl rfl
theorem dX10_who_18 : decode cX10_who 18 = .ok (.invokestatic 84, 3) := fq_184 fk_cX10_who_1 2 rfl rfl rfl rfl rfl
theorem dX10_who_21 : decode cX10_who 21 = .ok (.ifCond .ne 6, 3) := fq_154 fk_cX10_who_1 5 rfl rfl rfl rfl rfl
noncomputable def f_m_who_279 (w262xl5 : Int32) (w262xl3 : Int32) (n : Nat) : Int32 → Int32 → (Nat → Int32) → (Nat → Int32) → (Nat → Int32) → Int32 × Int32 × (Nat → Int32) × (Nat → Int32) × (Nat → Int32) := Nat.rec (motive := fun _ => Int32 → Int32 → (Nat → Int32) → (Nat → Int32) → (Nat → Int32) → Int32 × Int32 × (Nat → Int32) × (Nat → Int32) × (Nat → Int32)) (fun w279xl6 w279xl4 w279xm0 w279xm1 w279xm2 => (w279xl6, w279xl4, w279xm0, w279xm1, w279xm2)) (fun n ih w279xl6 w279xl4 w279xm0 w279xm1 w279xm2 => (if w279xl6 < 0 then (w279xl6, w279xl4, w279xm0, w279xm1, w279xm2) else (if (f_m_has w262xl3 w279xl6) = 0 then (if (w279xm1 (((6 * w262xl5) + w279xl6) : Int32).toNatClampNeg) = 1000000000 then (ih (w279xl6 + (-1)) w279xl4 w279xm0 w279xm1 w279xm2) else (if (w279xm2 (((64 * (w262xl5 + 1)) + (w262xl3 ||| ((1 : Int32) <<< (w279xl6 &&& 31)))) : Int32).toNatClampNeg) = 1000000000 then (ih (w279xl6 + (-1)) w279xl4 w279xm0 w279xm1 w279xm2) else (if ((w279xm1 (((6 * w262xl5) + w279xl6) : Int32).toNatClampNeg) + (w279xm2 (((64 * (w262xl5 + 1)) + (w262xl3 ||| ((1 : Int32) <<< (w279xl6 &&& 31)))) : Int32).toNatClampNeg)) = (w279xm2 (((64 * w262xl5) + w262xl3) : Int32).toNatClampNeg) then (ih (w279xl6 + (-1)) w279xl6 w279xm0 w279xm1 w279xm2) else (ih (w279xl6 + (-1)) w279xl4 w279xm0 w279xm1 w279xm2)))) else (ih (w279xl6 + (-1)) w279xl4 w279xm0 w279xm1 w279xm2)))) n
theorem f_m_who_279_s (w262xl5 : Int32) (w262xl3 : Int32) (n : Nat) (w279xl6 : Int32) (w279xl4 : Int32) (w279xm0 : (Nat → Int32)) (w279xm1 : (Nat → Int32)) (w279xm2 : (Nat → Int32)) : f_m_who_279 w262xl5 w262xl3 (n + 1) w279xl6 w279xl4 w279xm0 w279xm1 w279xm2 = (if w279xl6 < 0 then (w279xl6, w279xl4, w279xm0, w279xm1, w279xm2) else (if (f_m_has w262xl3 w279xl6) = 0 then (if (w279xm1 (((6 * w262xl5) + w279xl6) : Int32).toNatClampNeg) = 1000000000 then (f_m_who_279 w262xl5 w262xl3 n (w279xl6 + (-1)) w279xl4 w279xm0 w279xm1 w279xm2) else (if (w279xm2 (((64 * (w262xl5 + 1)) + (w262xl3 ||| ((1 : Int32) <<< (w279xl6 &&& 31)))) : Int32).toNatClampNeg) = 1000000000 then (f_m_who_279 w262xl5 w262xl3 n (w279xl6 + (-1)) w279xl4 w279xm0 w279xm1 w279xm2) else (if ((w279xm1 (((6 * w262xl5) + w279xl6) : Int32).toNatClampNeg) + (w279xm2 (((64 * (w262xl5 + 1)) + (w262xl3 ||| ((1 : Int32) <<< (w279xl6 &&& 31)))) : Int32).toNatClampNeg)) = (w279xm2 (((64 * w262xl5) + w262xl3) : Int32).toNatClampNeg) then (f_m_who_279 w262xl5 w262xl3 n (w279xl6 + (-1)) w279xl6 w279xm0 w279xm1 w279xm2) else (f_m_who_279 w262xl5 w262xl3 n (w279xl6 + (-1)) w279xl4 w279xm0 w279xm1 w279xm2)))) else (f_m_who_279 w262xl5 w262xl3 n (w279xl6 + (-1)) w279xl4 w279xm0 w279xm1 w279xm2))) := rfl
def S_m_who_279 (w262xl5 : Int32) (w262xl3 : Int32) (K : Int32 → Int32 → (Nat → Int32) → (Nat → Int32) → (Nat → Int32) → Prop) (n : Nat) : Int32 → Int32 → (Nat → Int32) → (Nat → Int32) → (Nat → Int32) → Prop := Nat.rec (motive := fun _ => Int32 → Int32 → (Nat → Int32) → (Nat → Int32) → (Nat → Int32) → Prop) (fun _ _ _ _ _ => False) (fun n ih w279xl6 w279xl4 w279xm0 w279xm1 w279xm2 => ((w279xl6 < 0 → (K w279xl6 w279xl4 w279xm0 w279xm1 w279xm2)) ∧ (¬ w279xl6 < 0 → ((S_m_has w262xl3 w279xl6) ∧ (((f_m_has w262xl3 w279xl6) = 0 → (vp_in ((6 * w262xl5) + w279xl6) 36 ∧ (((w279xm1 (((6 * w262xl5) + w279xl6) : Int32).toNatClampNeg) = 1000000000 → (ih (w279xl6 + (-1)) w279xl4 w279xm0 w279xm1 w279xm2)) ∧ (¬ (w279xm1 (((6 * w262xl5) + w279xl6) : Int32).toNatClampNeg) = 1000000000 → (vp_in ((64 * (w262xl5 + 1)) + (w262xl3 ||| ((1 : Int32) <<< (w279xl6 &&& 31)))) 448 ∧ (((w279xm2 (((64 * (w262xl5 + 1)) + (w262xl3 ||| ((1 : Int32) <<< (w279xl6 &&& 31)))) : Int32).toNatClampNeg) = 1000000000 → (ih (w279xl6 + (-1)) w279xl4 w279xm0 w279xm1 w279xm2)) ∧ (¬ (w279xm2 (((64 * (w262xl5 + 1)) + (w262xl3 ||| ((1 : Int32) <<< (w279xl6 &&& 31)))) : Int32).toNatClampNeg) = 1000000000 → (vp_in ((6 * w262xl5) + w279xl6) 36 ∧ (vp_in ((64 * (w262xl5 + 1)) + (w262xl3 ||| ((1 : Int32) <<< (w279xl6 &&& 31)))) 448 ∧ (vp_in ((64 * w262xl5) + w262xl3) 448 ∧ ((((w279xm1 (((6 * w262xl5) + w279xl6) : Int32).toNatClampNeg) + (w279xm2 (((64 * (w262xl5 + 1)) + (w262xl3 ||| ((1 : Int32) <<< (w279xl6 &&& 31)))) : Int32).toNatClampNeg)) = (w279xm2 (((64 * w262xl5) + w262xl3) : Int32).toNatClampNeg) → (ih (w279xl6 + (-1)) w279xl6 w279xm0 w279xm1 w279xm2)) ∧ (¬ ((w279xm1 (((6 * w262xl5) + w279xl6) : Int32).toNatClampNeg) + (w279xm2 (((64 * (w262xl5 + 1)) + (w262xl3 ||| ((1 : Int32) <<< (w279xl6 &&& 31)))) : Int32).toNatClampNeg)) = (w279xm2 (((64 * w262xl5) + w262xl3) : Int32).toNatClampNeg) → (ih (w279xl6 + (-1)) w279xl4 w279xm0 w279xm1 w279xm2))))))))))))) ∧ (¬ (f_m_has w262xl3 w279xl6) = 0 → (ih (w279xl6 + (-1)) w279xl4 w279xm0 w279xm1 w279xm2))))))) n
theorem S_m_who_279_s (w262xl5 : Int32) (w262xl3 : Int32) (K : Int32 → Int32 → (Nat → Int32) → (Nat → Int32) → (Nat → Int32) → Prop) (n : Nat) (w279xl6 : Int32) (w279xl4 : Int32) (w279xm0 : (Nat → Int32)) (w279xm1 : (Nat → Int32)) (w279xm2 : (Nat → Int32)) : S_m_who_279 w262xl5 w262xl3 K (n + 1) w279xl6 w279xl4 w279xm0 w279xm1 w279xm2 = (((w279xl6 < 0 → (K w279xl6 w279xl4 w279xm0 w279xm1 w279xm2)) ∧ (¬ w279xl6 < 0 → ((S_m_has w262xl3 w279xl6) ∧ (((f_m_has w262xl3 w279xl6) = 0 → (vp_in ((6 * w262xl5) + w279xl6) 36 ∧ (((w279xm1 (((6 * w262xl5) + w279xl6) : Int32).toNatClampNeg) = 1000000000 → (S_m_who_279 w262xl5 w262xl3 K n (w279xl6 + (-1)) w279xl4 w279xm0 w279xm1 w279xm2)) ∧ (¬ (w279xm1 (((6 * w262xl5) + w279xl6) : Int32).toNatClampNeg) = 1000000000 → (vp_in ((64 * (w262xl5 + 1)) + (w262xl3 ||| ((1 : Int32) <<< (w279xl6 &&& 31)))) 448 ∧ (((w279xm2 (((64 * (w262xl5 + 1)) + (w262xl3 ||| ((1 : Int32) <<< (w279xl6 &&& 31)))) : Int32).toNatClampNeg) = 1000000000 → (S_m_who_279 w262xl5 w262xl3 K n (w279xl6 + (-1)) w279xl4 w279xm0 w279xm1 w279xm2)) ∧ (¬ (w279xm2 (((64 * (w262xl5 + 1)) + (w262xl3 ||| ((1 : Int32) <<< (w279xl6 &&& 31)))) : Int32).toNatClampNeg) = 1000000000 → (vp_in ((6 * w262xl5) + w279xl6) 36 ∧ (vp_in ((64 * (w262xl5 + 1)) + (w262xl3 ||| ((1 : Int32) <<< (w279xl6 &&& 31)))) 448 ∧ (vp_in ((64 * w262xl5) + w262xl3) 448 ∧ ((((w279xm1 (((6 * w262xl5) + w279xl6) : Int32).toNatClampNeg) + (w279xm2 (((64 * (w262xl5 + 1)) + (w262xl3 ||| ((1 : Int32) <<< (w279xl6 &&& 31)))) : Int32).toNatClampNeg)) = (w279xm2 (((64 * w262xl5) + w262xl3) : Int32).toNatClampNeg) → (S_m_who_279 w262xl5 w262xl3 K n (w279xl6 + (-1)) w279xl6 w279xm0 w279xm1 w279xm2)) ∧ (¬ ((w279xm1 (((6 * w262xl5) + w279xl6) : Int32).toNatClampNeg) + (w279xm2 (((64 * (w262xl5 + 1)) + (w262xl3 ||| ((1 : Int32) <<< (w279xl6 &&& 31)))) : Int32).toNatClampNeg)) = (w279xm2 (((64 * w262xl5) + w262xl3) : Int32).toNatClampNeg) → (S_m_who_279 w262xl5 w262xl3 K n (w279xl6 + (-1)) w279xl4 w279xm0 w279xm1 w279xm2))))))))))))) ∧ (¬ (f_m_has w262xl3 w279xl6) = 0 → (S_m_who_279 w262xl5 w262xl3 K n (w279xl6 + (-1)) w279xl4 w279xm0 w279xm1 w279xm2))))))) := rfl
noncomputable def f_m_who_262 (b_ : Int32) (n : Nat) : Int32 → Int32 → Int32 → (Nat → Int32) → (Nat → Int32) → (Nat → Int32) → Int32 × Int32 × Int32 × (Nat → Int32) × (Nat → Int32) × (Nat → Int32) := Nat.rec (motive := fun _ => Int32 → Int32 → Int32 → (Nat → Int32) → (Nat → Int32) → (Nat → Int32) → Int32 × Int32 × Int32 × (Nat → Int32) × (Nat → Int32) × (Nat → Int32)) (fun w262xl5 w262xl4 w262xl3 w262xm0 w262xm1 w262xm2 => (w262xl5, w262xl4, w262xl3, w262xm0, w262xm1, w262xm2)) (fun n ih w262xl5 w262xl4 w262xl3 w262xm0 w262xm1 w262xm2 => (if b_ < w262xl5 then (w262xl5, w262xl4, w262xl3, w262xm0, w262xm1, w262xm2) else (match ((f_m_who_279 w262xl5 w262xl3 10 ((w262xm0 5) - 1) (-1) w262xm0 w262xm1 w262xm2) : Int32 × Int32 × (Nat → Int32) × (Nat → Int32) × (Nat → Int32)) with | (w279xl6, w279xl4, w279xm0, w279xm1, w279xm2) => (ih (w262xl5 + 1) w279xl4 (w262xl3 ||| ((1 : Int32) <<< (w279xl4 &&& 31))) w279xm0 w279xm1 w279xm2)))) n
theorem f_m_who_262_s (b_ : Int32) (n : Nat) (w262xl5 : Int32) (w262xl4 : Int32) (w262xl3 : Int32) (w262xm0 : (Nat → Int32)) (w262xm1 : (Nat → Int32)) (w262xm2 : (Nat → Int32)) : f_m_who_262 b_ (n + 1) w262xl5 w262xl4 w262xl3 w262xm0 w262xm1 w262xm2 = (if b_ < w262xl5 then (w262xl5, w262xl4, w262xl3, w262xm0, w262xm1, w262xm2) else (match ((f_m_who_279 w262xl5 w262xl3 10 ((w262xm0 5) - 1) (-1) w262xm0 w262xm1 w262xm2) : Int32 × Int32 × (Nat → Int32) × (Nat → Int32) × (Nat → Int32)) with | (w279xl6, w279xl4, w279xm0, w279xm1, w279xm2) => (f_m_who_262 b_ n (w262xl5 + 1) w279xl4 (w262xl3 ||| ((1 : Int32) <<< (w279xl4 &&& 31))) w279xm0 w279xm1 w279xm2))) := rfl
def S_m_who_262 (b_ : Int32) (K : Int32 → Int32 → Int32 → (Nat → Int32) → (Nat → Int32) → (Nat → Int32) → Prop) (n : Nat) : Int32 → Int32 → Int32 → (Nat → Int32) → (Nat → Int32) → (Nat → Int32) → Prop := Nat.rec (motive := fun _ => Int32 → Int32 → Int32 → (Nat → Int32) → (Nat → Int32) → (Nat → Int32) → Prop) (fun _ _ _ _ _ _ => False) (fun n ih w262xl5 w262xl4 w262xl3 w262xm0 w262xm1 w262xm2 => ((b_ < w262xl5 → (K w262xl5 w262xl4 w262xl3 w262xm0 w262xm1 w262xm2)) ∧ (¬ b_ < w262xl5 → (S_m_who_279 w262xl5 w262xl3 (fun (w279xl6 : Int32) (w279xl4 : Int32) (w279xm0 : (Nat → Int32)) (w279xm1 : (Nat → Int32)) (w279xm2 : (Nat → Int32)) => (ih (w262xl5 + 1) w279xl4 (w262xl3 ||| ((1 : Int32) <<< (w279xl4 &&& 31))) w279xm0 w279xm1 w279xm2)) 10 ((w262xm0 5) - 1) (-1) w262xm0 w262xm1 w262xm2)))) n
theorem S_m_who_262_s (b_ : Int32) (K : Int32 → Int32 → Int32 → (Nat → Int32) → (Nat → Int32) → (Nat → Int32) → Prop) (n : Nat) (w262xl5 : Int32) (w262xl4 : Int32) (w262xl3 : Int32) (w262xm0 : (Nat → Int32)) (w262xm1 : (Nat → Int32)) (w262xm2 : (Nat → Int32)) : S_m_who_262 b_ K (n + 1) w262xl5 w262xl4 w262xl3 w262xm0 w262xm1 w262xm2 = (((b_ < w262xl5 → (K w262xl5 w262xl4 w262xl3 w262xm0 w262xm1 w262xm2)) ∧ (¬ b_ < w262xl5 → (S_m_who_279 w262xl5 w262xl3 (fun (w279xl6 : Int32) (w279xl4 : Int32) (w279xm0 : (Nat → Int32)) (w279xm1 : (Nat → Int32)) (w279xm2 : (Nat → Int32)) => (S_m_who_262 b_ K n (w262xl5 + 1) w279xl4 (w262xl3 ||| ((1 : Int32) <<< (w279xl4 &&& 31))) w279xm0 w279xm1 w279xm2)) 10 ((w262xm0 5) - 1) (-1) w262xm0 w262xm1 w262xm2)))) := rfl
noncomputable def f_m_who_66 (m_ : Int32) (w35xl3 : Int32) (w42xl4 : Int32) (n : Nat) : Int32 → Int32 → (Nat → Int32) → (Nat → Int32) → (Nat → Int32) → Int32 × Int32 × (Nat → Int32) × (Nat → Int32) × (Nat → Int32) := Nat.rec (motive := fun _ => Int32 → Int32 → (Nat → Int32) → (Nat → Int32) → (Nat → Int32) → Int32 × Int32 × (Nat → Int32) × (Nat → Int32) × (Nat → Int32)) (fun w66xl6 w66xl5 w66xm0 w66xm1 w66xm2 => (w66xl6, w66xl5, w66xm0, w66xm1, w66xm2)) (fun n ih w66xl6 w66xl5 w66xm0 w66xm1 w66xm2 => (if (w66xm0 5) ≤ w66xl6 then (w66xl6, w66xl5, w66xm0, w66xm1, w66xm2) else (if m_ < w35xl3 then (w66xl6, w66xl5, w66xm0, w66xm1, w66xm2) else (if (f_m_has w42xl4 w66xl6) = 0 then (if (w66xm2 (((64 * (w35xl3 + 1)) + (w42xl4 ||| ((1 : Int32) <<< (w66xl6 &&& 31)))) : Int32).toNatClampNeg) = 1000000000 then (if w66xl5 ≤ 1000000000 then (ih (w66xl6 + 1) w66xl5 w66xm0 w66xm1 w66xm2) else (ih (w66xl6 + 1) 1000000000 w66xm0 w66xm1 w66xm2)) else (if (w66xm1 (((6 * w35xl3) + w66xl6) : Int32).toNatClampNeg) = 1000000000 then (if w66xl5 ≤ 1000000000 then (ih (w66xl6 + 1) w66xl5 w66xm0 w66xm1 w66xm2) else (ih (w66xl6 + 1) 1000000000 w66xm0 w66xm1 w66xm2)) else (if w66xl5 ≤ ((w66xm2 (((64 * (w35xl3 + 1)) + (w42xl4 ||| ((1 : Int32) <<< (w66xl6 &&& 31)))) : Int32).toNatClampNeg) + (w66xm1 (((6 * w35xl3) + w66xl6) : Int32).toNatClampNeg)) then (ih (w66xl6 + 1) w66xl5 w66xm0 w66xm1 w66xm2) else (ih (w66xl6 + 1) ((w66xm2 (((64 * (w35xl3 + 1)) + (w42xl4 ||| ((1 : Int32) <<< (w66xl6 &&& 31)))) : Int32).toNatClampNeg) + (w66xm1 (((6 * w35xl3) + w66xl6) : Int32).toNatClampNeg)) w66xm0 w66xm1 w66xm2)))) else (if w66xl5 ≤ 1000000000 then (ih (w66xl6 + 1) w66xl5 w66xm0 w66xm1 w66xm2) else (ih (w66xl6 + 1) 1000000000 w66xm0 w66xm1 w66xm2)))))) n
theorem f_m_who_66_s (m_ : Int32) (w35xl3 : Int32) (w42xl4 : Int32) (n : Nat) (w66xl6 : Int32) (w66xl5 : Int32) (w66xm0 : (Nat → Int32)) (w66xm1 : (Nat → Int32)) (w66xm2 : (Nat → Int32)) : f_m_who_66 m_ w35xl3 w42xl4 (n + 1) w66xl6 w66xl5 w66xm0 w66xm1 w66xm2 = (if (w66xm0 5) ≤ w66xl6 then (w66xl6, w66xl5, w66xm0, w66xm1, w66xm2) else (if m_ < w35xl3 then (w66xl6, w66xl5, w66xm0, w66xm1, w66xm2) else (if (f_m_has w42xl4 w66xl6) = 0 then (if (w66xm2 (((64 * (w35xl3 + 1)) + (w42xl4 ||| ((1 : Int32) <<< (w66xl6 &&& 31)))) : Int32).toNatClampNeg) = 1000000000 then (if w66xl5 ≤ 1000000000 then (f_m_who_66 m_ w35xl3 w42xl4 n (w66xl6 + 1) w66xl5 w66xm0 w66xm1 w66xm2) else (f_m_who_66 m_ w35xl3 w42xl4 n (w66xl6 + 1) 1000000000 w66xm0 w66xm1 w66xm2)) else (if (w66xm1 (((6 * w35xl3) + w66xl6) : Int32).toNatClampNeg) = 1000000000 then (if w66xl5 ≤ 1000000000 then (f_m_who_66 m_ w35xl3 w42xl4 n (w66xl6 + 1) w66xl5 w66xm0 w66xm1 w66xm2) else (f_m_who_66 m_ w35xl3 w42xl4 n (w66xl6 + 1) 1000000000 w66xm0 w66xm1 w66xm2)) else (if w66xl5 ≤ ((w66xm2 (((64 * (w35xl3 + 1)) + (w42xl4 ||| ((1 : Int32) <<< (w66xl6 &&& 31)))) : Int32).toNatClampNeg) + (w66xm1 (((6 * w35xl3) + w66xl6) : Int32).toNatClampNeg)) then (f_m_who_66 m_ w35xl3 w42xl4 n (w66xl6 + 1) w66xl5 w66xm0 w66xm1 w66xm2) else (f_m_who_66 m_ w35xl3 w42xl4 n (w66xl6 + 1) ((w66xm2 (((64 * (w35xl3 + 1)) + (w42xl4 ||| ((1 : Int32) <<< (w66xl6 &&& 31)))) : Int32).toNatClampNeg) + (w66xm1 (((6 * w35xl3) + w66xl6) : Int32).toNatClampNeg)) w66xm0 w66xm1 w66xm2)))) else (if w66xl5 ≤ 1000000000 then (f_m_who_66 m_ w35xl3 w42xl4 n (w66xl6 + 1) w66xl5 w66xm0 w66xm1 w66xm2) else (f_m_who_66 m_ w35xl3 w42xl4 n (w66xl6 + 1) 1000000000 w66xm0 w66xm1 w66xm2))))) := rfl
def S_m_who_66 (m_ : Int32) (w35xl3 : Int32) (w42xl4 : Int32) (K : Int32 → Int32 → (Nat → Int32) → (Nat → Int32) → (Nat → Int32) → Prop) (n : Nat) : Int32 → Int32 → (Nat → Int32) → (Nat → Int32) → (Nat → Int32) → Prop := Nat.rec (motive := fun _ => Int32 → Int32 → (Nat → Int32) → (Nat → Int32) → (Nat → Int32) → Prop) (fun _ _ _ _ _ => False) (fun n ih w66xl6 w66xl5 w66xm0 w66xm1 w66xm2 => (((w66xm0 5) ≤ w66xl6 → (K w66xl6 w66xl5 w66xm0 w66xm1 w66xm2)) ∧ (¬ (w66xm0 5) ≤ w66xl6 → ((m_ < w35xl3 → (K w66xl6 w66xl5 w66xm0 w66xm1 w66xm2)) ∧ (¬ m_ < w35xl3 → ((S_m_has w42xl4 w66xl6) ∧ (((f_m_has w42xl4 w66xl6) = 0 → (vp_in ((64 * (w35xl3 + 1)) + (w42xl4 ||| ((1 : Int32) <<< (w66xl6 &&& 31)))) 448 ∧ (((w66xm2 (((64 * (w35xl3 + 1)) + (w42xl4 ||| ((1 : Int32) <<< (w66xl6 &&& 31)))) : Int32).toNatClampNeg) = 1000000000 → ((w66xl5 ≤ 1000000000 → (ih (w66xl6 + 1) w66xl5 w66xm0 w66xm1 w66xm2)) ∧ (¬ w66xl5 ≤ 1000000000 → (ih (w66xl6 + 1) 1000000000 w66xm0 w66xm1 w66xm2)))) ∧ (¬ (w66xm2 (((64 * (w35xl3 + 1)) + (w42xl4 ||| ((1 : Int32) <<< (w66xl6 &&& 31)))) : Int32).toNatClampNeg) = 1000000000 → (vp_in ((6 * w35xl3) + w66xl6) 36 ∧ (((w66xm1 (((6 * w35xl3) + w66xl6) : Int32).toNatClampNeg) = 1000000000 → ((w66xl5 ≤ 1000000000 → (ih (w66xl6 + 1) w66xl5 w66xm0 w66xm1 w66xm2)) ∧ (¬ w66xl5 ≤ 1000000000 → (ih (w66xl6 + 1) 1000000000 w66xm0 w66xm1 w66xm2)))) ∧ (¬ (w66xm1 (((6 * w35xl3) + w66xl6) : Int32).toNatClampNeg) = 1000000000 → (vp_in ((6 * w35xl3) + w66xl6) 36 ∧ ((w66xl5 ≤ ((w66xm2 (((64 * (w35xl3 + 1)) + (w42xl4 ||| ((1 : Int32) <<< (w66xl6 &&& 31)))) : Int32).toNatClampNeg) + (w66xm1 (((6 * w35xl3) + w66xl6) : Int32).toNatClampNeg)) → (ih (w66xl6 + 1) w66xl5 w66xm0 w66xm1 w66xm2)) ∧ (¬ w66xl5 ≤ ((w66xm2 (((64 * (w35xl3 + 1)) + (w42xl4 ||| ((1 : Int32) <<< (w66xl6 &&& 31)))) : Int32).toNatClampNeg) + (w66xm1 (((6 * w35xl3) + w66xl6) : Int32).toNatClampNeg)) → (ih (w66xl6 + 1) ((w66xm2 (((64 * (w35xl3 + 1)) + (w42xl4 ||| ((1 : Int32) <<< (w66xl6 &&& 31)))) : Int32).toNatClampNeg) + (w66xm1 (((6 * w35xl3) + w66xl6) : Int32).toNatClampNeg)) w66xm0 w66xm1 w66xm2))))))))))) ∧ (¬ (f_m_has w42xl4 w66xl6) = 0 → ((w66xl5 ≤ 1000000000 → (ih (w66xl6 + 1) w66xl5 w66xm0 w66xm1 w66xm2)) ∧ (¬ w66xl5 ≤ 1000000000 → (ih (w66xl6 + 1) 1000000000 w66xm0 w66xm1 w66xm2))))))))))) n
theorem S_m_who_66_s (m_ : Int32) (w35xl3 : Int32) (w42xl4 : Int32) (K : Int32 → Int32 → (Nat → Int32) → (Nat → Int32) → (Nat → Int32) → Prop) (n : Nat) (w66xl6 : Int32) (w66xl5 : Int32) (w66xm0 : (Nat → Int32)) (w66xm1 : (Nat → Int32)) (w66xm2 : (Nat → Int32)) : S_m_who_66 m_ w35xl3 w42xl4 K (n + 1) w66xl6 w66xl5 w66xm0 w66xm1 w66xm2 = ((((w66xm0 5) ≤ w66xl6 → (K w66xl6 w66xl5 w66xm0 w66xm1 w66xm2)) ∧ (¬ (w66xm0 5) ≤ w66xl6 → ((m_ < w35xl3 → (K w66xl6 w66xl5 w66xm0 w66xm1 w66xm2)) ∧ (¬ m_ < w35xl3 → ((S_m_has w42xl4 w66xl6) ∧ (((f_m_has w42xl4 w66xl6) = 0 → (vp_in ((64 * (w35xl3 + 1)) + (w42xl4 ||| ((1 : Int32) <<< (w66xl6 &&& 31)))) 448 ∧ (((w66xm2 (((64 * (w35xl3 + 1)) + (w42xl4 ||| ((1 : Int32) <<< (w66xl6 &&& 31)))) : Int32).toNatClampNeg) = 1000000000 → ((w66xl5 ≤ 1000000000 → (S_m_who_66 m_ w35xl3 w42xl4 K n (w66xl6 + 1) w66xl5 w66xm0 w66xm1 w66xm2)) ∧ (¬ w66xl5 ≤ 1000000000 → (S_m_who_66 m_ w35xl3 w42xl4 K n (w66xl6 + 1) 1000000000 w66xm0 w66xm1 w66xm2)))) ∧ (¬ (w66xm2 (((64 * (w35xl3 + 1)) + (w42xl4 ||| ((1 : Int32) <<< (w66xl6 &&& 31)))) : Int32).toNatClampNeg) = 1000000000 → (vp_in ((6 * w35xl3) + w66xl6) 36 ∧ (((w66xm1 (((6 * w35xl3) + w66xl6) : Int32).toNatClampNeg) = 1000000000 → ((w66xl5 ≤ 1000000000 → (S_m_who_66 m_ w35xl3 w42xl4 K n (w66xl6 + 1) w66xl5 w66xm0 w66xm1 w66xm2)) ∧ (¬ w66xl5 ≤ 1000000000 → (S_m_who_66 m_ w35xl3 w42xl4 K n (w66xl6 + 1) 1000000000 w66xm0 w66xm1 w66xm2)))) ∧ (¬ (w66xm1 (((6 * w35xl3) + w66xl6) : Int32).toNatClampNeg) = 1000000000 → (vp_in ((6 * w35xl3) + w66xl6) 36 ∧ ((w66xl5 ≤ ((w66xm2 (((64 * (w35xl3 + 1)) + (w42xl4 ||| ((1 : Int32) <<< (w66xl6 &&& 31)))) : Int32).toNatClampNeg) + (w66xm1 (((6 * w35xl3) + w66xl6) : Int32).toNatClampNeg)) → (S_m_who_66 m_ w35xl3 w42xl4 K n (w66xl6 + 1) w66xl5 w66xm0 w66xm1 w66xm2)) ∧ (¬ w66xl5 ≤ ((w66xm2 (((64 * (w35xl3 + 1)) + (w42xl4 ||| ((1 : Int32) <<< (w66xl6 &&& 31)))) : Int32).toNatClampNeg) + (w66xm1 (((6 * w35xl3) + w66xl6) : Int32).toNatClampNeg)) → (S_m_who_66 m_ w35xl3 w42xl4 K n (w66xl6 + 1) ((w66xm2 (((64 * (w35xl3 + 1)) + (w42xl4 ||| ((1 : Int32) <<< (w66xl6 &&& 31)))) : Int32).toNatClampNeg) + (w66xm1 (((6 * w35xl3) + w66xl6) : Int32).toNatClampNeg)) w66xm0 w66xm1 w66xm2))))))))))) ∧ (¬ (f_m_has w42xl4 w66xl6) = 0 → ((w66xl5 ≤ 1000000000 → (S_m_who_66 m_ w35xl3 w42xl4 K n (w66xl6 + 1) w66xl5 w66xm0 w66xm1 w66xm2)) ∧ (¬ w66xl5 ≤ 1000000000 → (S_m_who_66 m_ w35xl3 w42xl4 K n (w66xl6 + 1) 1000000000 w66xm0 w66xm1 w66xm2))))))))))) := rfl
noncomputable def f_m_who_42 (m_ : Int32) (w35xl3 : Int32) (n : Nat) : Int32 → (Nat → Int32) → (Nat → Int32) → (Nat → Int32) → Int32 × (Nat → Int32) × (Nat → Int32) × (Nat → Int32) := Nat.rec (motive := fun _ => Int32 → (Nat → Int32) → (Nat → Int32) → (Nat → Int32) → Int32 × (Nat → Int32) × (Nat → Int32) × (Nat → Int32)) (fun w42xl4 w42xm0 w42xm1 w42xm2 => (w42xl4, w42xm0, w42xm1, w42xm2)) (fun n ih w42xl4 w42xm0 w42xm1 w42xm2 => (if 64 ≤ w42xl4 then (w42xl4, w42xm0, w42xm1, w42xm2) else (if w35xl3 ≤ m_ then (match ((f_m_who_66 m_ w35xl3 w42xl4 10 0 1000000000 w42xm0 w42xm1 w42xm2) : Int32 × Int32 × (Nat → Int32) × (Nat → Int32) × (Nat → Int32)) with | (w66xl6, w66xl5, w66xm0, w66xm1, w66xm2) => (ih (w42xl4 + 1) w66xm0 w66xm1 (upd w66xm2 (((64 * w35xl3) + w42xl4) : Int32).toNatClampNeg w66xl5))) else (match ((f_m_who_66 m_ w35xl3 w42xl4 10 0 0 w42xm0 w42xm1 w42xm2) : Int32 × Int32 × (Nat → Int32) × (Nat → Int32) × (Nat → Int32)) with | (w66xl6, w66xl5, w66xm0, w66xm1, w66xm2) => (ih (w42xl4 + 1) w66xm0 w66xm1 (upd w66xm2 (((64 * w35xl3) + w42xl4) : Int32).toNatClampNeg w66xl5)))))) n
theorem f_m_who_42_s (m_ : Int32) (w35xl3 : Int32) (n : Nat) (w42xl4 : Int32) (w42xm0 : (Nat → Int32)) (w42xm1 : (Nat → Int32)) (w42xm2 : (Nat → Int32)) : f_m_who_42 m_ w35xl3 (n + 1) w42xl4 w42xm0 w42xm1 w42xm2 = (if 64 ≤ w42xl4 then (w42xl4, w42xm0, w42xm1, w42xm2) else (if w35xl3 ≤ m_ then (match ((f_m_who_66 m_ w35xl3 w42xl4 10 0 1000000000 w42xm0 w42xm1 w42xm2) : Int32 × Int32 × (Nat → Int32) × (Nat → Int32) × (Nat → Int32)) with | (w66xl6, w66xl5, w66xm0, w66xm1, w66xm2) => (f_m_who_42 m_ w35xl3 n (w42xl4 + 1) w66xm0 w66xm1 (upd w66xm2 (((64 * w35xl3) + w42xl4) : Int32).toNatClampNeg w66xl5))) else (match ((f_m_who_66 m_ w35xl3 w42xl4 10 0 0 w42xm0 w42xm1 w42xm2) : Int32 × Int32 × (Nat → Int32) × (Nat → Int32) × (Nat → Int32)) with | (w66xl6, w66xl5, w66xm0, w66xm1, w66xm2) => (f_m_who_42 m_ w35xl3 n (w42xl4 + 1) w66xm0 w66xm1 (upd w66xm2 (((64 * w35xl3) + w42xl4) : Int32).toNatClampNeg w66xl5))))) := rfl
def S_m_who_42 (m_ : Int32) (w35xl3 : Int32) (K : Int32 → (Nat → Int32) → (Nat → Int32) → (Nat → Int32) → Prop) (n : Nat) : Int32 → (Nat → Int32) → (Nat → Int32) → (Nat → Int32) → Prop := Nat.rec (motive := fun _ => Int32 → (Nat → Int32) → (Nat → Int32) → (Nat → Int32) → Prop) (fun _ _ _ _ => True) (fun n ih w42xl4 w42xm0 w42xm1 w42xm2 => ((64 ≤ w42xl4 → (K w42xl4 w42xm0 w42xm1 w42xm2)) ∧ (¬ 64 ≤ w42xl4 → ((w35xl3 ≤ m_ → (S_m_who_66 m_ w35xl3 w42xl4 (fun (w66xl6 : Int32) (w66xl5 : Int32) (w66xm0 : (Nat → Int32)) (w66xm1 : (Nat → Int32)) (w66xm2 : (Nat → Int32)) => (vp_in ((64 * w35xl3) + w42xl4) 448 ∧ (ih (w42xl4 + 1) w66xm0 w66xm1 (upd w66xm2 (((64 * w35xl3) + w42xl4) : Int32).toNatClampNeg w66xl5)))) 10 0 1000000000 w42xm0 w42xm1 w42xm2)) ∧ (¬ w35xl3 ≤ m_ → (S_m_who_66 m_ w35xl3 w42xl4 (fun (w66xl6 : Int32) (w66xl5 : Int32) (w66xm0 : (Nat → Int32)) (w66xm1 : (Nat → Int32)) (w66xm2 : (Nat → Int32)) => (vp_in ((64 * w35xl3) + w42xl4) 448 ∧ (ih (w42xl4 + 1) w66xm0 w66xm1 (upd w66xm2 (((64 * w35xl3) + w42xl4) : Int32).toNatClampNeg w66xl5)))) 10 0 0 w42xm0 w42xm1 w42xm2)))))) n
theorem S_m_who_42_s (m_ : Int32) (w35xl3 : Int32) (K : Int32 → (Nat → Int32) → (Nat → Int32) → (Nat → Int32) → Prop) (n : Nat) (w42xl4 : Int32) (w42xm0 : (Nat → Int32)) (w42xm1 : (Nat → Int32)) (w42xm2 : (Nat → Int32)) : S_m_who_42 m_ w35xl3 K (n + 1) w42xl4 w42xm0 w42xm1 w42xm2 = (((64 ≤ w42xl4 → (K w42xl4 w42xm0 w42xm1 w42xm2)) ∧ (¬ 64 ≤ w42xl4 → ((w35xl3 ≤ m_ → (S_m_who_66 m_ w35xl3 w42xl4 (fun (w66xl6 : Int32) (w66xl5 : Int32) (w66xm0 : (Nat → Int32)) (w66xm1 : (Nat → Int32)) (w66xm2 : (Nat → Int32)) => (vp_in ((64 * w35xl3) + w42xl4) 448 ∧ (S_m_who_42 m_ w35xl3 K n (w42xl4 + 1) w66xm0 w66xm1 (upd w66xm2 (((64 * w35xl3) + w42xl4) : Int32).toNatClampNeg w66xl5)))) 10 0 1000000000 w42xm0 w42xm1 w42xm2)) ∧ (¬ w35xl3 ≤ m_ → (S_m_who_66 m_ w35xl3 w42xl4 (fun (w66xl6 : Int32) (w66xl5 : Int32) (w66xm0 : (Nat → Int32)) (w66xm1 : (Nat → Int32)) (w66xm2 : (Nat → Int32)) => (vp_in ((64 * w35xl3) + w42xl4) 448 ∧ (S_m_who_42 m_ w35xl3 K n (w42xl4 + 1) w66xm0 w66xm1 (upd w66xm2 (((64 * w35xl3) + w42xl4) : Int32).toNatClampNeg w66xl5)))) 10 0 0 w42xm0 w42xm1 w42xm2)))))) := rfl
noncomputable def f_m_who_35 (m_ : Int32) (n : Nat) : Int32 → (Nat → Int32) → (Nat → Int32) → (Nat → Int32) → Int32 × (Nat → Int32) × (Nat → Int32) × (Nat → Int32) := Nat.rec (motive := fun _ => Int32 → (Nat → Int32) → (Nat → Int32) → (Nat → Int32) → Int32 × (Nat → Int32) × (Nat → Int32) × (Nat → Int32)) (fun w35xl3 w35xm0 w35xm1 w35xm2 => (w35xl3, w35xm0, w35xm1, w35xm2)) (fun n ih w35xl3 w35xm0 w35xm1 w35xm2 => (if w35xl3 < 0 then (w35xl3, w35xm0, w35xm1, w35xm2) else (match ((f_m_who_42 m_ w35xl3 (((64 : Int32).toInt - (0 : Int32).toInt).toNat + 1) 0 w35xm0 w35xm1 w35xm2) : Int32 × (Nat → Int32) × (Nat → Int32) × (Nat → Int32)) with | (w42xl4, w42xm0, w42xm1, w42xm2) => (ih (w35xl3 + (-1)) w42xm0 w42xm1 w42xm2)))) n
theorem f_m_who_35_s (m_ : Int32) (n : Nat) (w35xl3 : Int32) (w35xm0 : (Nat → Int32)) (w35xm1 : (Nat → Int32)) (w35xm2 : (Nat → Int32)) : f_m_who_35 m_ (n + 1) w35xl3 w35xm0 w35xm1 w35xm2 = (if w35xl3 < 0 then (w35xl3, w35xm0, w35xm1, w35xm2) else (match ((f_m_who_42 m_ w35xl3 (((64 : Int32).toInt - (0 : Int32).toInt).toNat + 1) 0 w35xm0 w35xm1 w35xm2) : Int32 × (Nat → Int32) × (Nat → Int32) × (Nat → Int32)) with | (w42xl4, w42xm0, w42xm1, w42xm2) => (f_m_who_35 m_ n (w35xl3 + (-1)) w42xm0 w42xm1 w42xm2))) := rfl
def S_m_who_35 (m_ : Int32) (K : Int32 → (Nat → Int32) → (Nat → Int32) → (Nat → Int32) → Prop) (n : Nat) : Int32 → (Nat → Int32) → (Nat → Int32) → (Nat → Int32) → Prop := Nat.rec (motive := fun _ => Int32 → (Nat → Int32) → (Nat → Int32) → (Nat → Int32) → Prop) (fun _ _ _ _ => False) (fun n ih w35xl3 w35xm0 w35xm1 w35xm2 => ((w35xl3 < 0 → (K w35xl3 w35xm0 w35xm1 w35xm2)) ∧ (¬ w35xl3 < 0 → (S_m_who_42 m_ w35xl3 (fun (w42xl4 : Int32) (w42xm0 : (Nat → Int32)) (w42xm1 : (Nat → Int32)) (w42xm2 : (Nat → Int32)) => (ih (w35xl3 + (-1)) w42xm0 w42xm1 w42xm2)) (((64 : Int32).toInt - (0 : Int32).toInt).toNat + 1) 0 w35xm0 w35xm1 w35xm2)))) n
theorem S_m_who_35_s (m_ : Int32) (K : Int32 → (Nat → Int32) → (Nat → Int32) → (Nat → Int32) → Prop) (n : Nat) (w35xl3 : Int32) (w35xm0 : (Nat → Int32)) (w35xm1 : (Nat → Int32)) (w35xm2 : (Nat → Int32)) : S_m_who_35 m_ K (n + 1) w35xl3 w35xm0 w35xm1 w35xm2 = (((w35xl3 < 0 → (K w35xl3 w35xm0 w35xm1 w35xm2)) ∧ (¬ w35xl3 < 0 → (S_m_who_42 m_ w35xl3 (fun (w42xl4 : Int32) (w42xm0 : (Nat → Int32)) (w42xm1 : (Nat → Int32)) (w42xm2 : (Nat → Int32)) => (S_m_who_35 m_ K n (w35xl3 + (-1)) w42xm0 w42xm1 w42xm2)) (((64 : Int32).toInt - (0 : Int32).toInt).toNat + 1) 0 w35xm0 w35xm1 w35xm2)))) := rfl
noncomputable def f_m_who (G : Nat → Int32) (f0 : Nat → Int32) (f10 : Nat → Int32) (f8 : Nat → Int32) (f37 : Nat → Int32) (f36 : Nat → Int32) (m_ : Int32) (b_ : Int32) : Int32 × (Nat → Int32) × (Nat → Int32) × (Nat → Int32) := (if (f_m_isBridge G m_) = 0 then ((-1000000001), G, f37, f36) else (if b_ = (-1) then (match (f_m_layCosts G f0 f10 f8 f37) with | (o_9, o_10) => (match ((f_m_who_35 m_ 10 (m_ + 1) o_9 o_10 f36) : Int32 × (Nat → Int32) × (Nat → Int32) × (Nat → Int32)) with | (w35xl3, w35xm0, w35xm1, w35xm2) => (if (w35xm2 (0 : Int32).toNatClampNeg) = 1000000000 then (if (w35xm2 (0 : Int32).toNatClampNeg) = 1000000000 then ((-1), w35xm0, w35xm1, w35xm2) else ((w35xm2 (0 : Int32).toNatClampNeg), w35xm0, w35xm1, w35xm2)) else (if b_ = (-1) then (if (w35xm2 (0 : Int32).toNatClampNeg) = 1000000000 then ((-1), w35xm0, w35xm1, w35xm2) else ((w35xm2 (0 : Int32).toNatClampNeg), w35xm0, w35xm1, w35xm2)) else (match ((f_m_who_262 b_ 10 0 (-1) 0 w35xm0 w35xm1 w35xm2) : Int32 × Int32 × Int32 × (Nat → Int32) × (Nat → Int32) × (Nat → Int32)) with | (w262xl5, w262xl4, w262xl3, w262xm0, w262xm1, w262xm2) => (w262xl4, w262xm0, w262xm1, w262xm2)))))) else (if (f_m_in b_.toInt64 0 m_.toInt64) = 0 then ((-1000000001), G, f37, f36) else (match (f_m_layCosts G f0 f10 f8 f37) with | (o_77, o_78) => (match ((f_m_who_35 m_ 10 (m_ + 1) o_77 o_78 f36) : Int32 × (Nat → Int32) × (Nat → Int32) × (Nat → Int32)) with | (w35xl3, w35xm0, w35xm1, w35xm2) => (if (w35xm2 (0 : Int32).toNatClampNeg) = 1000000000 then (if (w35xm2 (0 : Int32).toNatClampNeg) = 1000000000 then ((-1), w35xm0, w35xm1, w35xm2) else ((w35xm2 (0 : Int32).toNatClampNeg), w35xm0, w35xm1, w35xm2)) else (if b_ = (-1) then (if (w35xm2 (0 : Int32).toNatClampNeg) = 1000000000 then ((-1), w35xm0, w35xm1, w35xm2) else ((w35xm2 (0 : Int32).toNatClampNeg), w35xm0, w35xm1, w35xm2)) else (match ((f_m_who_262 b_ 10 0 (-1) 0 w35xm0 w35xm1 w35xm2) : Int32 × Int32 × Int32 × (Nat → Int32) × (Nat → Int32) × (Nat → Int32)) with | (w262xl5, w262xl4, w262xl3, w262xm0, w262xm1, w262xm2) => (w262xl4, w262xm0, w262xm1, w262xm2)))))))))
def S_m_who (G : Nat → Int32) (f0 : Nat → Int32) (f10 : Nat → Int32) (f8 : Nat → Int32) (f37 : Nat → Int32) (f36 : Nat → Int32) (m_ : Int32) (b_ : Int32) : Prop := ((S_m_isBridge G m_) ∧ (((f_m_isBridge G m_) = 0 → True) ∧ (¬ (f_m_isBridge G m_) = 0 → ((b_ = (-1) → ((S_m_layCosts G f0 f10 f8 f37) ∧ (∀ (o_9 : (Nat → Int32)) (o_10 : (Nat → Int32)), (o_9, o_10) = (f_m_layCosts G f0 f10 f8 f37) → (S_m_who_35 m_ (fun (w35xl3 : Int32) (w35xm0 : (Nat → Int32)) (w35xm1 : (Nat → Int32)) (w35xm2 : (Nat → Int32)) => (((w35xm2 (0 : Int32).toNatClampNeg) = 1000000000 → (((w35xm2 (0 : Int32).toNatClampNeg) = 1000000000 → True) ∧ (¬ (w35xm2 (0 : Int32).toNatClampNeg) = 1000000000 → True))) ∧ (¬ (w35xm2 (0 : Int32).toNatClampNeg) = 1000000000 → ((b_ = (-1) → (((w35xm2 (0 : Int32).toNatClampNeg) = 1000000000 → True) ∧ (¬ (w35xm2 (0 : Int32).toNatClampNeg) = 1000000000 → True))) ∧ (¬ b_ = (-1) → (S_m_who_262 b_ (fun (w262xl5 : Int32) (w262xl4 : Int32) (w262xl3 : Int32) (w262xm0 : (Nat → Int32)) (w262xm1 : (Nat → Int32)) (w262xm2 : (Nat → Int32)) => True) 10 0 (-1) 0 w35xm0 w35xm1 w35xm2)))))) 10 (m_ + 1) o_9 o_10 f36)))) ∧ (¬ b_ = (-1) → ((S_m_in b_.toInt64 0 m_.toInt64) ∧ (((f_m_in b_.toInt64 0 m_.toInt64) = 0 → True) ∧ (¬ (f_m_in b_.toInt64 0 m_.toInt64) = 0 → ((S_m_layCosts G f0 f10 f8 f37) ∧ (∀ (o_77 : (Nat → Int32)) (o_78 : (Nat → Int32)), (o_77, o_78) = (f_m_layCosts G f0 f10 f8 f37) → (S_m_who_35 m_ (fun (w35xl3 : Int32) (w35xm0 : (Nat → Int32)) (w35xm1 : (Nat → Int32)) (w35xm2 : (Nat → Int32)) => (((w35xm2 (0 : Int32).toNatClampNeg) = 1000000000 → (((w35xm2 (0 : Int32).toNatClampNeg) = 1000000000 → True) ∧ (¬ (w35xm2 (0 : Int32).toNatClampNeg) = 1000000000 → True))) ∧ (¬ (w35xm2 (0 : Int32).toNatClampNeg) = 1000000000 → ((b_ = (-1) → (((w35xm2 (0 : Int32).toNatClampNeg) = 1000000000 → True) ∧ (¬ (w35xm2 (0 : Int32).toNatClampNeg) = 1000000000 → True))) ∧ (¬ b_ = (-1) → (S_m_who_262 b_ (fun (w262xl5 : Int32) (w262xl4 : Int32) (w262xl3 : Int32) (w262xm0 : (Nat → Int32)) (w262xm1 : (Nat → Int32)) (w262xm2 : (Nat → Int32)) => True) 10 0 (-1) 0 w35xm0 w35xm1 w35xm2)))))) 10 (m_ + 1) o_77 o_78 f36)))))))))))
def rm_m_who : Room := { frames := 5, cells := 0, slots := 0, locals := 123 }
set_option maxHeartbeats 4000000 in
set_option maxRecDepth 100000 in
theorem m_who {l : Launch} {D : va_G} {cI cZ : ClassId} {sz : Nat} (Rf : Nat → Nat) (h : Nat) (G : Nat → Int32) (f0 : Nat → Int32) (f10 : Nat → Int32) (f8 : Nat → Int32) (f37 : Nat → Int32) (f36 : Nat → Int32) (m_ : Int32) (b_ : Int32) (hF : S_m_who G f0 f10 f8 f37 f36 m_ b_) : KI l yX10_who cX10_who 9 (some .int) rm_m_who D cI cZ [.ref h, .int m_, .int b_] sz [(h, .inr (10, ML G Rf)), ((Rf 0), .inl (cI, 1302, .inl f0)), ((Rf 10), .inl (cI, 30, .inl f10)), ((Rf 8), .inl (cI, 6, .inl f8)), ((Rf 37), .inl (cI, 36, .inl f37)), ((Rf 36), .inl (cI, 448, .inl f36))] (fun (r : Int32) (u : (Nat → Int32) × (Nat → Int32) × (Nat → Int32)) => (r, u) = f_m_who G f0 f10 f8 f37 f36 m_ b_) (fun (u : (Nat → Int32) × (Nat → Int32) × (Nat → Int32)) => [(h, .inr (10, ML u.1 Rf)), ((Rf 0), .inl (cI, 1302, .inl f0)), ((Rf 10), .inl (cI, 30, .inl f10)), ((Rf 8), .inl (cI, 6, .inl f8)), ((Rf 37), .inl (cI, 36, .inl u.2.1)), ((Rf 36), .inl (cI, 448, .inl u.2.2))]) := by
  refine KI.go rfl (Nat.le_of_ble_eq_true rfl) ?_
  intro p e s m args below meth c ls A Q hx hb hml hts hown hin hP hK hD hS hA hN hl hret
  have hl : lv_has ls 9 [(0, .ref h), (1, .int m_), (2, .int b_)] := hl
  rw [S_m_who] at hF
  obtain ⟨RES, hE⟩ : ∃ xRES, f_m_who G f0 f10 f8 f37 f36 m_ b_ = xRES := ⟨_, rfl⟩
  rw [hE] at hret
  rw [f_m_who] at hE
  refine lv_aload_n hx hb dX10_who_0 rfl (lv_at hl 0 rfl) ?_
  refine lv_iload_n hx hb dX10_who_1 rfl (lv_at hl 1 rfl) ?_
  obtain ⟨hs_1, hF⟩ := hF
  refine cVi (wr := [((Rf 0), .inl (cI, 1302, .inl f0)), ((Rf 10), .inl (cI, 30, .inl f10)), ((Rf 8), .inl (cI, 6, .inl f8)), ((Rf 37), .inl (cI, 36, .inl f37)), ((Rf 36), .inl (cI, 448, .inl f36))]) (rest := []) (m_isBridge Rf h G m_ hs_1) okV_X10_isBridge wd_571 hx hb hml hown hts hK hP hD hS hA hN hl.1 [0] [1, 2, 3, 4, 5] rfl rfl rfl rfl (of_decide_eq_true rfl) rfl rfl rfl (Nat.le_of_ble_eq_true rfl) (Nat.le_of_ble_eq_true rfl) (Nat.le_of_ble_eq_true rfl) (Nat.le_of_ble_eq_true rfl) (Nat.le_of_ble_eq_true rfl) dX10_who_2 (fun r_3 u_2 H locs hw_u_2 hP hD hS => ?_)
  replace hw_u_2 : r_3 = (f_m_isBridge G m_) := hw_u_2
  rw [hw_u_2]
  clear hw_u_2
  have hP : va_P D classes [((Rf 0), .inl (cI, 1302, .inl f0)), ((Rf 10), .inl (cI, 30, .inl f10)), ((Rf 8), .inl (cI, 6, .inl f8)), ((Rf 37), .inl (cI, 36, .inl f37)), ((Rf 36), .inl (cI, 448, .inl f36)), (h, .inr (10, ML G Rf))] H := hP
  have hD : va_D A [((Rf 0), .inl (cI, 1302, .inl f0)), ((Rf 10), .inl (cI, 30, .inl f10)), ((Rf 8), .inl (cI, 6, .inl f8)), ((Rf 37), .inl (cI, 36, .inl f37)), ((Rf 36), .inl (cI, 448, .inl f36)), (h, .inr (10, ML G Rf))] := hD
  refine lv_if_eq (tgt := 24) hx hb dX10_who_5 rfl (fun c_4 => ?_) (fun c_4 => ?_)
  · replace hF := hF.1 c_4
    rw [if_pos c_4] at hE
    refine lv_ldc (v := (-1000000001)) hx hb hown (hts _ wd_580) dX10_who_24 ?_
    exact hret (-1000000001) (G, f37, f36) _ _ _ _ dX10_who_26 rfl hE (cutP (isC := [5, 0, 1, 2, 3, 4]) hP rfl) (cutD (isC := [5, 0, 1, 2, 3, 4]) hD rfl rfl) hS
  · replace hF := hF.2 c_4
    rw [if_neg c_4] at hE
    refine lv_iload_n hx hb dX10_who_8 rfl (lv_at hl 2 rfl) ?_
    refine lv_iconst (v := (-1)) hx hb dX10_who_9 rfl ?_
    refine lv_icmp_eq (tgt := 27) hx hb dX10_who_10 rfl (fun c_5 => ?_) (fun c_5 => ?_)
    · replace hF := hF.1 c_5
      rw [if_pos c_5] at hE
      refine lv_aload_n hx hb dX10_who_27 rfl (lv_at hl 0 rfl) ?_
      obtain ⟨hs_6, hF⟩ := hF
      refine cVv (wr := [((Rf 36), .inl (cI, 448, .inl f36))]) (rest := []) (m_layCosts Rf h G f0 f10 f8 f37 hs_6) okV_X10_layCosts wd_689 hx hb hml hown hts hK hP hD hS hA hN hl.1 [5, 0, 1, 2, 3] [4] rfl rfl rfl rfl (of_decide_eq_true rfl) rfl rfl rfl (Nat.le_of_ble_eq_true rfl) (Nat.le_of_ble_eq_true rfl) (Nat.le_of_ble_eq_true rfl) (Nat.le_of_ble_eq_true rfl) (Nat.le_of_ble_eq_true rfl) dX10_who_28 (fun u_7 H locs hw_u_7 hP hD hS => ?_)
      obtain ⟨o_9, o_10⟩ := u_7
      replace hw_u_7 : (o_9, o_10) = (f_m_layCosts G f0 f10 f8 f37) := hw_u_7
      replace hF := hF o_9 o_10 hw_u_7
      rw [← hw_u_7] at hE
      replace hE : ((match ((f_m_who_35 m_ 10 (m_ + 1) o_9 o_10 f36) : Int32 × (Nat → Int32) × (Nat → Int32) × (Nat → Int32)) with | (w35xl3, w35xm0, w35xm1, w35xm2) => (if (w35xm2 (0 : Int32).toNatClampNeg) = 1000000000 then (if (w35xm2 (0 : Int32).toNatClampNeg) = 1000000000 then ((-1), w35xm0, w35xm1, w35xm2) else ((w35xm2 (0 : Int32).toNatClampNeg), w35xm0, w35xm1, w35xm2)) else (if b_ = (-1) then (if (w35xm2 (0 : Int32).toNatClampNeg) = 1000000000 then ((-1), w35xm0, w35xm1, w35xm2) else ((w35xm2 (0 : Int32).toNatClampNeg), w35xm0, w35xm1, w35xm2)) else (match ((f_m_who_262 b_ 10 0 (-1) 0 w35xm0 w35xm1 w35xm2) : Int32 × Int32 × Int32 × (Nat → Int32) × (Nat → Int32) × (Nat → Int32)) with | (w262xl5, w262xl4, w262xl3, w262xm0, w262xm1, w262xm2) => (w262xl4, w262xm0, w262xm1, w262xm2))))) : Int32 × (Nat → Int32) × (Nat → Int32) × (Nat → Int32)) = RES := hE
      have hP : va_P D classes [((Rf 36), .inl (cI, 448, .inl f36)), (h, .inr (10, ML o_9 Rf)), ((Rf 0), .inl (cI, 1302, .inl f0)), ((Rf 10), .inl (cI, 30, .inl f10)), ((Rf 8), .inl (cI, 6, .inl f8)), ((Rf 37), .inl (cI, 36, .inl o_10))] H := hP
      have hD : va_D A [((Rf 36), .inl (cI, 448, .inl f36)), (h, .inr (10, ML o_9 Rf)), ((Rf 0), .inl (cI, 1302, .inl f0)), ((Rf 10), .inl (cI, 30, .inl f10)), ((Rf 8), .inl (cI, 6, .inl f8)), ((Rf 37), .inl (cI, 36, .inl o_10))] := hD
      refine lv_iload_n hx hb dX10_who_31 rfl (lv_at hl 1 rfl) ?_
      refine lv_iconst (v := 1) hx hb dX10_who_32 rfl ?_
      refine lv_iadd hx hb dX10_who_33 ?_
      refine lv_istore_n (lv' := [(3, .int (m_ + 1)), (0, .ref h), (1, .int m_), (2, .int b_)]) hx hb dX10_who_34 rfl hl (Nat.le_of_ble_eq_true rfl) rfl (fun ls hl => ?_)
      have ex_35_w35x : ∀ (w35xl3 : Int32) (w35xm0 : (Nat → Int32)) (w35xm1 : (Nat → Int32)) (w35xm2 : (Nat → Int32)) (H : Heap) (locs : List Loc) (ls : Array Slot), va_P D classes [((Rf 36), .inl (cI, 448, .inl w35xm2)), (h, .inr (10, ML w35xm0 Rf)), ((Rf 0), .inl (cI, 1302, .inl f0)), ((Rf 10), .inl (cI, 30, .inl f10)), ((Rf 8), .inl (cI, 6, .inl f8)), ((Rf 37), .inl (cI, 36, .inl w35xm1))] H → va_D A [((Rf 36), .inl (cI, 448, .inl w35xm2)), (h, .inr (10, ML w35xm0 Rf)), ((Rf 0), .inl (cI, 1302, .inl f0)), ((Rf 10), .inl (cI, 30, .inl f10)), ((Rf 8), .inl (cI, 6, .inl f8)), ((Rf 37), .inl (cI, 36, .inl w35xm1))] → va_S A s.heap H locs → lv_has ls 9 [(3, .int w35xl3), (0, .ref h), (1, .int m_), (2, .int b_)] → ((((w35xm2 (0 : Int32).toNatClampNeg) = 1000000000 → (((w35xm2 (0 : Int32).toNatClampNeg) = 1000000000 → True) ∧ (¬ (w35xm2 (0 : Int32).toNatClampNeg) = 1000000000 → True))) ∧ (¬ (w35xm2 (0 : Int32).toNatClampNeg) = 1000000000 → ((b_ = (-1) → (((w35xm2 (0 : Int32).toNatClampNeg) = 1000000000 → True) ∧ (¬ (w35xm2 (0 : Int32).toNatClampNeg) = 1000000000 → True))) ∧ (¬ b_ = (-1) → (S_m_who_262 b_ (fun (w262xl5 : Int32) (w262xl4 : Int32) (w262xl3 : Int32) (w262xm0 : (Nat → Int32)) (w262xm1 : (Nat → Int32)) (w262xm2 : (Nat → Int32)) => True) 10 0 (-1) 0 w35xm0 w35xm1 w35xm2)))))) → (((if (w35xm2 (0 : Int32).toNatClampNeg) = 1000000000 then (if (w35xm2 (0 : Int32).toNatClampNeg) = 1000000000 then ((-1), w35xm0, w35xm1, w35xm2) else ((w35xm2 (0 : Int32).toNatClampNeg), w35xm0, w35xm1, w35xm2)) else (if b_ = (-1) then (if (w35xm2 (0 : Int32).toNatClampNeg) = 1000000000 then ((-1), w35xm0, w35xm1, w35xm2) else ((w35xm2 (0 : Int32).toNatClampNeg), w35xm0, w35xm1, w35xm2)) else (match ((f_m_who_262 b_ 10 0 (-1) 0 w35xm0 w35xm1 w35xm2) : Int32 × Int32 × Int32 × (Nat → Int32) × (Nat → Int32) × (Nat → Int32)) with | (w262xl5, w262xl4, w262xl3, w262xm0, w262xm1, w262xm2) => (w262xl4, w262xm0, w262xm1, w262xm2))))) : Int32 × (Nat → Int32) × (Nat → Int32) × (Nat → Int32)) = RES → W p l e rm_m_who s m args below meth c H locs 0 0 Q (F0 m 214 ls []) := by
        intro w35xl3 w35xm0 w35xm1 w35xm2 H locs ls hP hD hS hl hF hE
        refine lv_aload_n hx hb dX10_who_214 rfl (lv_at hl 1 rfl) ?_
        refine va_get (D := D) (ci := 10) (v := .ref (Rf 36)) (C := RX10) (T := TX10) (N := 45) hx hb hts iX10 hown hK hP 1 rfl rfl 36 (Nat.le_of_ble_eq_true rfl) (hts _ wd_693) (fun _ h9 => h9) rfl dX10_who_215 ?_
        refine lv_iconst (v := 0) hx hb dX10_who_218 rfl ?_
        refine va_iald hx hb hK hP 0 0 rfl rfl (show ¬ ((0 : Int32) < 0 ∨ 448 ≤ (0 : Int32).toNatClampNeg) by decide +kernel) dX10_who_219 ?_
        refine lv_ldcw (v := 1000000000) hx hb hown (hts _ wd_651) dX10_who_220 ?_
        refine lv_icmp_eq (tgt := 231) hx hb dX10_who_223 rfl (fun c_11 => ?_) (fun c_11 => ?_)
        · replace hF := hF.1 c_11
          rw [if_pos c_11] at hE
          refine lv_aload_n hx hb dX10_who_231 rfl (lv_at hl 1 rfl) ?_
          refine va_get (D := D) (ci := 10) (v := .ref (Rf 36)) (C := RX10) (T := TX10) (N := 45) hx hb hts iX10 hown hK hP 1 rfl rfl 36 (Nat.le_of_ble_eq_true rfl) (hts _ wd_693) (fun _ h9 => h9) rfl dX10_who_232 ?_
          refine lv_iconst (v := 0) hx hb dX10_who_235 rfl ?_
          refine va_iald hx hb hK hP 0 0 rfl rfl (show ¬ ((0 : Int32) < 0 ∨ 448 ≤ (0 : Int32).toNatClampNeg) by decide +kernel) dX10_who_236 ?_
          refine lv_ldcw (v := 1000000000) hx hb hown (hts _ wd_651) dX10_who_237 ?_
          refine lv_icmp_ne (tgt := 247) hx hb dX10_who_240 rfl (fun c_12 => ?_) (fun c_12 => ?_)
          · replace hF := hF.2 c_12
            rw [if_neg c_12] at hE
            refine lv_aload_n hx hb dX10_who_247 rfl (lv_at hl 1 rfl) ?_
            refine va_get (D := D) (ci := 10) (v := .ref (Rf 36)) (C := RX10) (T := TX10) (N := 45) hx hb hts iX10 hown hK hP 1 rfl rfl 36 (Nat.le_of_ble_eq_true rfl) (hts _ wd_693) (fun _ h9 => h9) rfl dX10_who_248 ?_
            refine lv_iconst (v := 0) hx hb dX10_who_251 rfl ?_
            refine va_iald hx hb hK hP 0 0 rfl rfl (show ¬ ((0 : Int32) < 0 ∨ 448 ≤ (0 : Int32).toNatClampNeg) by decide +kernel) dX10_who_252 ?_
            exact hret (w35xm2 (0 : Int32).toNatClampNeg) (w35xm0, w35xm1, w35xm2) _ _ _ _ dX10_who_253 rfl hE (cutP (isC := [1, 2, 3, 4, 5, 0]) hP rfl) (cutD (isC := [1, 2, 3, 4, 5, 0]) hD rfl rfl) hS
          · replace hF := hF.1 c_12
            rw [if_pos c_12] at hE
            refine lv_iconst (v := (-1)) hx hb dX10_who_243 rfl ?_
            refine lv_goto (tgt := 253) hx hb dX10_who_244 rfl ?_
            exact hret (-1) (w35xm0, w35xm1, w35xm2) _ _ _ _ dX10_who_253 rfl hE (cutP (isC := [1, 2, 3, 4, 5, 0]) hP rfl) (cutD (isC := [1, 2, 3, 4, 5, 0]) hD rfl rfl) hS
        · replace hF := hF.2 c_11
          rw [if_neg c_11] at hE
          refine lv_iload_n hx hb dX10_who_226 rfl (lv_at hl 3 rfl) ?_
          refine lv_iconst (v := (-1)) hx hb dX10_who_227 rfl ?_
          refine lv_icmp_ne (tgt := 254) hx hb dX10_who_228 rfl (fun c_13 => ?_) (fun c_13 => ?_)
          · replace hF := hF.2 c_13
            rw [if_neg c_13] at hE
            refine lv_iconst (v := 0) hx hb dX10_who_254 rfl ?_
            refine lv_istore_n (lv' := [(3, .int 0), (0, .ref h), (1, .int m_), (2, .int b_)]) hx hb dX10_who_255 rfl hl (Nat.le_of_ble_eq_true rfl) rfl (fun ls hl => ?_)
            refine lv_iconst (v := (-1)) hx hb dX10_who_256 rfl ?_
            refine lv_istore (lv' := [(4, .int (-1)), (3, .int 0), (0, .ref h), (1, .int m_), (2, .int b_)]) hx hb dX10_who_257 hl (Nat.le_of_ble_eq_true rfl) rfl (fun ls hl => ?_)
            refine lv_iconst (v := 0) hx hb dX10_who_259 rfl ?_
            refine lv_istore (lv' := [(5, .int 0), (4, .int (-1)), (3, .int 0), (0, .ref h), (1, .int m_), (2, .int b_)]) hx hb dX10_who_260 hl (Nat.le_of_ble_eq_true rfl) rfl (fun ls hl => ?_)
            have ex_262_w262x : ∀ (w262xl5 : Int32) (w262xl4 : Int32) (w262xl3 : Int32) (w262xm0 : (Nat → Int32)) (w262xm1 : (Nat → Int32)) (w262xm2 : (Nat → Int32)) (H : Heap) (locs : List Loc) (ls : Array Slot), va_P D classes [((Rf 36), .inl (cI, 448, .inl w262xm2)), (h, .inr (10, ML w262xm0 Rf)), ((Rf 0), .inl (cI, 1302, .inl f0)), ((Rf 10), .inl (cI, 30, .inl f10)), ((Rf 8), .inl (cI, 6, .inl f8)), ((Rf 37), .inl (cI, 36, .inl w262xm1))] H → va_D A [((Rf 36), .inl (cI, 448, .inl w262xm2)), (h, .inr (10, ML w262xm0 Rf)), ((Rf 0), .inl (cI, 1302, .inl f0)), ((Rf 10), .inl (cI, 30, .inl f10)), ((Rf 8), .inl (cI, 6, .inl f8)), ((Rf 37), .inl (cI, 36, .inl w262xm1))] → va_S A s.heap H locs → lv_has ls 9 [(5, .int w262xl5), (4, .int w262xl4), (3, .int w262xl3), (0, .ref h), (1, .int m_), (2, .int b_)] → (True) → (((w262xl4, w262xm0, w262xm1, w262xm2)) : Int32 × (Nat → Int32) × (Nat → Int32) × (Nat → Int32)) = RES → W p l e rm_m_who s m args below meth c H locs 0 0 Q (F0 m 425 ls []) := by
              intro w262xl5 w262xl4 w262xl3 w262xm0 w262xm1 w262xm2 H locs ls hP hD hS hl hF hE
              refine lv_iload hx hb dX10_who_425 (lv_at hl 1 rfl) ?_
              exact hret w262xl4 (w262xm0, w262xm1, w262xm2) _ _ _ _ dX10_who_427 rfl hE (cutP (isC := [1, 2, 3, 4, 5, 0]) hP rfl) (cutD (isC := [1, 2, 3, 4, 5, 0]) hD rfl rfl) hS
            have lp_262_w262x : ∀ (n_w262x : Nat) (w262xl5 : Int32) (w262xl4 : Int32) (w262xl3 : Int32) (w262xm0 : (Nat → Int32)) (w262xm1 : (Nat → Int32)) (w262xm2 : (Nat → Int32)) (H : Heap) (locs : List Loc) (ls : Array Slot), va_P D classes [((Rf 36), .inl (cI, 448, .inl w262xm2)), (h, .inr (10, ML w262xm0 Rf)), ((Rf 0), .inl (cI, 1302, .inl f0)), ((Rf 10), .inl (cI, 30, .inl f10)), ((Rf 8), .inl (cI, 6, .inl f8)), ((Rf 37), .inl (cI, 36, .inl w262xm1))] H → va_D A [((Rf 36), .inl (cI, 448, .inl w262xm2)), (h, .inr (10, ML w262xm0 Rf)), ((Rf 0), .inl (cI, 1302, .inl f0)), ((Rf 10), .inl (cI, 30, .inl f10)), ((Rf 8), .inl (cI, 6, .inl f8)), ((Rf 37), .inl (cI, 36, .inl w262xm1))] → va_S A s.heap H locs → lv_has ls 9 [(5, .int w262xl5), (4, .int w262xl4), (3, .int w262xl3), (0, .ref h), (1, .int m_), (2, .int b_)] → (S_m_who_262 b_ (fun (w262xl5 : Int32) (w262xl4 : Int32) (w262xl3 : Int32) (w262xm0 : (Nat → Int32)) (w262xm1 : (Nat → Int32)) (w262xm2 : (Nat → Int32)) => True) n_w262x w262xl5 w262xl4 w262xl3 w262xm0 w262xm1 w262xm2) → ((match ((f_m_who_262 b_ n_w262x w262xl5 w262xl4 w262xl3 w262xm0 w262xm1 w262xm2) : Int32 × Int32 × Int32 × (Nat → Int32) × (Nat → Int32) × (Nat → Int32)) with | (w262xl5, w262xl4, w262xl3, w262xm0, w262xm1, w262xm2) => (w262xl4, w262xm0, w262xm1, w262xm2)) : Int32 × (Nat → Int32) × (Nat → Int32) × (Nat → Int32)) = RES → W p l e rm_m_who s m args below meth c H locs 0 0 Q (F0 m 262 ls []) := by
              intro n_w262x
              induction n_w262x with
              | zero => intro w262xl5 w262xl4 w262xl3 w262xm0 w262xm1 w262xm2 H locs ls hP hD hS hl hF hE; exact False.elim hF
              | succ n_w262x ih_w262x =>
                intro w262xl5 w262xl4 w262xl3 w262xm0 w262xm1 w262xm2 H locs ls hP hD hS hl hF hE
                rw [S_m_who_262_s] at hF
                rw [f_m_who_262_s] at hE
                refine lv_iload hx hb dX10_who_262 (lv_at hl 0 rfl) ?_
                refine lv_iload_n hx hb dX10_who_264 rfl (lv_at hl 5 rfl) ?_
                refine lv_icmp_gt (tgt := 425) hx hb dX10_who_265 rfl (fun c_14 => ?_) (fun c_14 => ?_)
                · replace hF := hF.1 c_14
                  rw [if_pos c_14] at hE
                  exact ex_262_w262x w262xl5 w262xl4 w262xl3 w262xm0 w262xm1 w262xm2 _ _ ls hP hD hS (lv_sub hl [0, 1, 2, 3, 4, 5] rfl) hF hE
                · replace hF := hF.2 c_14
                  rw [if_neg c_14] at hE
                  refine lv_iconst (v := (-1)) hx hb dX10_who_268 rfl ?_
                  refine lv_istore (lv' := [(4, .int (-1)), (5, .int w262xl5), (3, .int w262xl3), (0, .ref h), (1, .int m_), (2, .int b_)]) hx hb dX10_who_269 hl (Nat.le_of_ble_eq_true rfl) rfl (fun ls hl => ?_)
                  refine lv_aload_n hx hb dX10_who_271 rfl (lv_at hl 3 rfl) ?_
                  refine va_get (D := D) (ci := 10) (v := .int (w262xm0 5)) (C := RX10) (T := TX10) (N := 45) hx hb hts iX10 hown hK hP 1 rfl rfl 5 (Nat.le_of_ble_eq_true rfl) (hts _ wd_499) (fun _ h9 => h9) rfl dX10_who_272 ?_
                  refine lv_iconst (v := 1) hx hb dX10_who_275 rfl ?_
                  refine lv_isub hx hb dX10_who_276 ?_
                  refine lv_istore (lv' := [(6, .int ((w262xm0 5) - 1)), (4, .int (-1)), (5, .int w262xl5), (3, .int w262xl3), (0, .ref h), (1, .int m_), (2, .int b_)]) hx hb dX10_who_277 hl (Nat.le_of_ble_eq_true rfl) rfl (fun ls hl => ?_)
                  have ex_279_w279x : ∀ (w279xl6 : Int32) (w279xl4 : Int32) (w279xm0 : (Nat → Int32)) (w279xm1 : (Nat → Int32)) (w279xm2 : (Nat → Int32)) (H : Heap) (locs : List Loc) (ls : Array Slot), va_P D classes [((Rf 36), .inl (cI, 448, .inl w279xm2)), (h, .inr (10, ML w279xm0 Rf)), ((Rf 0), .inl (cI, 1302, .inl f0)), ((Rf 10), .inl (cI, 30, .inl f10)), ((Rf 8), .inl (cI, 6, .inl f8)), ((Rf 37), .inl (cI, 36, .inl w279xm1))] H → va_D A [((Rf 36), .inl (cI, 448, .inl w279xm2)), (h, .inr (10, ML w279xm0 Rf)), ((Rf 0), .inl (cI, 1302, .inl f0)), ((Rf 10), .inl (cI, 30, .inl f10)), ((Rf 8), .inl (cI, 6, .inl f8)), ((Rf 37), .inl (cI, 36, .inl w279xm1))] → va_S A s.heap H locs → lv_has ls 9 [(6, .int w279xl6), (4, .int w279xl4), (5, .int w262xl5), (3, .int w262xl3), (0, .ref h), (1, .int m_), (2, .int b_)] → ((S_m_who_262 b_ (fun (w262xl5 : Int32) (w262xl4 : Int32) (w262xl3 : Int32) (w262xm0 : (Nat → Int32)) (w262xm1 : (Nat → Int32)) (w262xm2 : (Nat → Int32)) => True) n_w262x (w262xl5 + 1) w279xl4 (w262xl3 ||| ((1 : Int32) <<< (w279xl4 &&& 31))) w279xm0 w279xm1 w279xm2)) → (((match ((f_m_who_262 b_ n_w262x (w262xl5 + 1) w279xl4 (w262xl3 ||| ((1 : Int32) <<< (w279xl4 &&& 31))) w279xm0 w279xm1 w279xm2) : Int32 × Int32 × Int32 × (Nat → Int32) × (Nat → Int32) × (Nat → Int32)) with | (w262xl5, w262xl4, w262xl3, w262xm0, w262xm1, w262xm2) => (w262xl4, w262xm0, w262xm1, w262xm2))) : Int32 × (Nat → Int32) × (Nat → Int32) × (Nat → Int32)) = RES → W p l e rm_m_who s m args below meth c H locs 0 0 Q (F0 m 412 ls []) := by
                    intro w279xl6 w279xl4 w279xm0 w279xm1 w279xm2 H locs ls hP hD hS hl hF hE
                    refine lv_iload_n hx hb dX10_who_412 rfl (lv_at hl 3 rfl) ?_
                    refine lv_iconst (v := 1) hx hb dX10_who_413 rfl ?_
                    refine lv_iload hx hb dX10_who_414 (lv_at hl 1 rfl) ?_
                    refine lv_ishl hx hb dX10_who_416 ?_
                    refine lv_ior hx hb dX10_who_417 ?_
                    refine lv_istore_n (lv' := [(3, .int (w262xl3 ||| ((1 : Int32) <<< (w279xl4 &&& 31)))), (6, .int w279xl6), (4, .int w279xl4), (5, .int w262xl5), (0, .ref h), (1, .int m_), (2, .int b_)]) hx hb dX10_who_418 rfl hl (Nat.le_of_ble_eq_true rfl) rfl (fun ls hl => ?_)
                    refine lv_iinc (v := (w262xl5 + 1)) (lv' := [(5, .int (w262xl5 + 1)), (3, .int (w262xl3 ||| ((1 : Int32) <<< (w279xl4 &&& 31)))), (6, .int w279xl6), (4, .int w279xl4), (0, .ref h), (1, .int m_), (2, .int b_)]) hx hb dX10_who_419 hl (k := 3) rfl rfl (Nat.le_of_ble_eq_true rfl) rfl (fun ls hl => ?_)
                    refine lv_goto (tgt := 262) hx hb dX10_who_422 rfl ?_
                    exact ih_w262x (w262xl5 + 1) w279xl4 (w262xl3 ||| ((1 : Int32) <<< (w279xl4 &&& 31))) w279xm0 w279xm1 w279xm2 _ _ ls hP hD hS (lv_sub hl [0, 3, 1, 4, 5, 6] rfl) hF hE
                  have lp_279_w279x : ∀ (n_w279x : Nat) (w279xl6 : Int32) (w279xl4 : Int32) (w279xm0 : (Nat → Int32)) (w279xm1 : (Nat → Int32)) (w279xm2 : (Nat → Int32)) (H : Heap) (locs : List Loc) (ls : Array Slot), va_P D classes [((Rf 36), .inl (cI, 448, .inl w279xm2)), (h, .inr (10, ML w279xm0 Rf)), ((Rf 0), .inl (cI, 1302, .inl f0)), ((Rf 10), .inl (cI, 30, .inl f10)), ((Rf 8), .inl (cI, 6, .inl f8)), ((Rf 37), .inl (cI, 36, .inl w279xm1))] H → va_D A [((Rf 36), .inl (cI, 448, .inl w279xm2)), (h, .inr (10, ML w279xm0 Rf)), ((Rf 0), .inl (cI, 1302, .inl f0)), ((Rf 10), .inl (cI, 30, .inl f10)), ((Rf 8), .inl (cI, 6, .inl f8)), ((Rf 37), .inl (cI, 36, .inl w279xm1))] → va_S A s.heap H locs → lv_has ls 9 [(6, .int w279xl6), (4, .int w279xl4), (5, .int w262xl5), (3, .int w262xl3), (0, .ref h), (1, .int m_), (2, .int b_)] → (S_m_who_279 w262xl5 w262xl3 (fun (w279xl6 : Int32) (w279xl4 : Int32) (w279xm0 : (Nat → Int32)) (w279xm1 : (Nat → Int32)) (w279xm2 : (Nat → Int32)) => (S_m_who_262 b_ (fun (w262xl5 : Int32) (w262xl4 : Int32) (w262xl3 : Int32) (w262xm0 : (Nat → Int32)) (w262xm1 : (Nat → Int32)) (w262xm2 : (Nat → Int32)) => True) n_w262x (w262xl5 + 1) w279xl4 (w262xl3 ||| ((1 : Int32) <<< (w279xl4 &&& 31))) w279xm0 w279xm1 w279xm2)) n_w279x w279xl6 w279xl4 w279xm0 w279xm1 w279xm2) → ((match ((match ((f_m_who_279 w262xl5 w262xl3 n_w279x w279xl6 w279xl4 w279xm0 w279xm1 w279xm2) : Int32 × Int32 × (Nat → Int32) × (Nat → Int32) × (Nat → Int32)) with | (w279xl6, w279xl4, w279xm0, w279xm1, w279xm2) => (f_m_who_262 b_ n_w262x (w262xl5 + 1) w279xl4 (w262xl3 ||| ((1 : Int32) <<< (w279xl4 &&& 31))) w279xm0 w279xm1 w279xm2)) : Int32 × Int32 × Int32 × (Nat → Int32) × (Nat → Int32) × (Nat → Int32)) with | (w262xl5, w262xl4, w262xl3, w262xm0, w262xm1, w262xm2) => (w262xl4, w262xm0, w262xm1, w262xm2)) : Int32 × (Nat → Int32) × (Nat → Int32) × (Nat → Int32)) = RES → W p l e rm_m_who s m args below meth c H locs 0 0 Q (F0 m 279 ls []) := by
                    intro n_w279x
                    induction n_w279x with
                    | zero => intro w279xl6 w279xl4 w279xm0 w279xm1 w279xm2 H locs ls hP hD hS hl hF hE; exact False.elim hF
                    | succ n_w279x ih_w279x =>
                      intro w279xl6 w279xl4 w279xm0 w279xm1 w279xm2 H locs ls hP hD hS hl hF hE
                      rw [S_m_who_279_s] at hF
                      rw [f_m_who_279_s] at hE
                      refine lv_iload hx hb dX10_who_279 (lv_at hl 0 rfl) ?_
                      refine lv_if_lt (tgt := 412) hx hb dX10_who_281 rfl (fun c_15 => ?_) (fun c_15 => ?_)
                      · replace hF := hF.1 c_15
                        rw [if_pos c_15] at hE
                        exact ex_279_w279x w279xl6 w279xl4 w279xm0 w279xm1 w279xm2 _ _ ls hP hD hS (lv_sub hl [0, 1, 2, 3, 4, 5, 6] rfl) hF hE
                      · replace hF := hF.2 c_15
                        rw [if_neg c_15] at hE
                        refine lv_iload_n hx hb dX10_who_284 rfl (lv_at hl 3 rfl) ?_
                        refine lv_iload hx hb dX10_who_285 (lv_at hl 0 rfl) ?_
                        obtain ⟨hs_16, hF⟩ := hF
                        refine cSi (wr := [((Rf 36), .inl (cI, 448, .inl w279xm2)), (h, .inr (10, ML w279xm0 Rf)), ((Rf 0), .inl (cI, 1302, .inl f0)), ((Rf 10), .inl (cI, 30, .inl f10)), ((Rf 8), .inl (cI, 6, .inl f8)), ((Rf 37), .inl (cI, 36, .inl w279xm1))]) (rest := []) (m_has w262xl3 w279xl6 hs_16) okS_X10_has wd_502 hx hb hml hown hts hK hP hD hS hA hN hl.1 [] [0, 1, 2, 3, 4, 5] rfl rfl rfl rfl (of_decide_eq_true rfl) rfl (Nat.le_of_ble_eq_true rfl) (Nat.le_of_ble_eq_true rfl) (Nat.le_of_ble_eq_true rfl) (Nat.le_of_ble_eq_true rfl) (Nat.le_of_ble_eq_true rfl) dX10_who_287 (fun r_18 u_17 H locs hw_u_17 hP hD hS => ?_)
                        replace hw_u_17 : r_18 = (f_m_has w262xl3 w279xl6) := hw_u_17
                        rw [hw_u_17]
                        clear hw_u_17
                        have hP : va_P D classes [((Rf 36), .inl (cI, 448, .inl w279xm2)), (h, .inr (10, ML w279xm0 Rf)), ((Rf 0), .inl (cI, 1302, .inl f0)), ((Rf 10), .inl (cI, 30, .inl f10)), ((Rf 8), .inl (cI, 6, .inl f8)), ((Rf 37), .inl (cI, 36, .inl w279xm1))] H := hP
                        have hD : va_D A [((Rf 36), .inl (cI, 448, .inl w279xm2)), (h, .inr (10, ML w279xm0 Rf)), ((Rf 0), .inl (cI, 1302, .inl f0)), ((Rf 10), .inl (cI, 30, .inl f10)), ((Rf 8), .inl (cI, 6, .inl f8)), ((Rf 37), .inl (cI, 36, .inl w279xm1))] := hD
                        refine lv_if_ne (tgt := 341) hx hb dX10_who_290 rfl (fun c_19 => ?_) (fun c_19 => ?_)
                        · replace hF := hF.2 c_19
                          rw [if_neg c_19] at hE
                          refine lv_iconst (v := 0) hx hb dX10_who_341 rfl ?_
                          refine lv_istore (lv' := [(7, .int 0), (6, .int w279xl6), (4, .int w279xl4), (5, .int w262xl5), (3, .int w262xl3), (0, .ref h), (1, .int m_), (2, .int b_)]) hx hb dX10_who_342 hl (Nat.le_of_ble_eq_true rfl) rfl (fun ls hl => ?_)
                          refine lv_iload hx hb dX10_who_344 (lv_at hl 0 rfl) ?_
                          refine lv_if_eq (tgt := 402) hx hb dX10_who_346 rfl (fun c_20 => ?_) (fun c_20 => absurd (by decide +kernel) c_20)
                          refine lv_iload hx hb dX10_who_402 (lv_at hl 2 rfl) ?_
                          refine lv_istore (lv' := [(4, .int w279xl4), (7, .int 0), (6, .int w279xl6), (5, .int w262xl5), (3, .int w262xl3), (0, .ref h), (1, .int m_), (2, .int b_)]) hx hb dX10_who_404 hl (Nat.le_of_ble_eq_true rfl) rfl (fun ls hl => ?_)
                          refine lv_iinc (v := (w279xl6 + (-1))) (lv' := [(6, .int (w279xl6 + (-1))), (4, .int w279xl4), (7, .int 0), (5, .int w262xl5), (3, .int w262xl3), (0, .ref h), (1, .int m_), (2, .int b_)]) hx hb dX10_who_406 hl (k := 2) rfl rfl (Nat.le_of_ble_eq_true rfl) rfl (fun ls hl => ?_)
                          refine lv_goto (tgt := 279) hx hb dX10_who_409 rfl ?_
                          exact ih_w279x (w279xl6 + (-1)) w279xl4 w279xm0 w279xm1 w279xm2 _ _ ls hP hD hS (lv_sub hl [0, 1, 3, 4, 5, 6, 7] rfl) hF hE
                        · replace hF := hF.1 c_19
                          rw [if_pos c_19] at hE
                          refine lv_aload_n hx hb dX10_who_293 rfl (lv_at hl 4 rfl) ?_
                          refine va_get (D := D) (ci := 10) (v := .ref (Rf 37)) (C := RX10) (T := TX10) (N := 45) hx hb hts iX10 hown hK hP 1 rfl rfl 37 (Nat.le_of_ble_eq_true rfl) (hts _ wd_672) (fun _ h9 => h9) rfl dX10_who_294 ?_
                          refine lv_bipush (v := 6) hx hb dX10_who_297 rfl ?_
                          refine lv_iload hx hb dX10_who_299 (lv_at hl 2 rfl) ?_
                          refine lv_imul hx hb dX10_who_301 ?_
                          refine lv_iload hx hb dX10_who_302 (lv_at hl 0 rfl) ?_
                          refine lv_iadd hx hb dX10_who_304 ?_
                          obtain ⟨hv_21, hF⟩ := hF
                          refine va_iald hx hb hK hP 5 0 rfl rfl hv_21 dX10_who_305 ?_
                          refine lv_ldcw (v := 1000000000) hx hb hown (hts _ wd_651) dX10_who_306 ?_
                          refine lv_icmp_eq (tgt := 341) hx hb dX10_who_309 rfl (fun c_22 => ?_) (fun c_22 => ?_)
                          · replace hF := hF.1 c_22
                            rw [if_pos c_22] at hE
                            refine lv_iconst (v := 0) hx hb dX10_who_341 rfl ?_
                            refine lv_istore (lv' := [(7, .int 0), (6, .int w279xl6), (4, .int w279xl4), (5, .int w262xl5), (3, .int w262xl3), (0, .ref h), (1, .int m_), (2, .int b_)]) hx hb dX10_who_342 hl (Nat.le_of_ble_eq_true rfl) rfl (fun ls hl => ?_)
                            refine lv_iload hx hb dX10_who_344 (lv_at hl 0 rfl) ?_
                            refine lv_if_eq (tgt := 402) hx hb dX10_who_346 rfl (fun c_23 => ?_) (fun c_23 => absurd (by decide +kernel) c_23)
                            refine lv_iload hx hb dX10_who_402 (lv_at hl 2 rfl) ?_
                            refine lv_istore (lv' := [(4, .int w279xl4), (7, .int 0), (6, .int w279xl6), (5, .int w262xl5), (3, .int w262xl3), (0, .ref h), (1, .int m_), (2, .int b_)]) hx hb dX10_who_404 hl (Nat.le_of_ble_eq_true rfl) rfl (fun ls hl => ?_)
                            refine lv_iinc (v := (w279xl6 + (-1))) (lv' := [(6, .int (w279xl6 + (-1))), (4, .int w279xl4), (7, .int 0), (5, .int w262xl5), (3, .int w262xl3), (0, .ref h), (1, .int m_), (2, .int b_)]) hx hb dX10_who_406 hl (k := 2) rfl rfl (Nat.le_of_ble_eq_true rfl) rfl (fun ls hl => ?_)
                            refine lv_goto (tgt := 279) hx hb dX10_who_409 rfl ?_
                            exact ih_w279x (w279xl6 + (-1)) w279xl4 w279xm0 w279xm1 w279xm2 _ _ ls hP hD hS (lv_sub hl [0, 1, 3, 4, 5, 6, 7] rfl) hF hE
                          · replace hF := hF.2 c_22
                            rw [if_neg c_22] at hE
                            refine lv_aload_n hx hb dX10_who_312 rfl (lv_at hl 4 rfl) ?_
                            refine va_get (D := D) (ci := 10) (v := .ref (Rf 36)) (C := RX10) (T := TX10) (N := 45) hx hb hts iX10 hown hK hP 1 rfl rfl 36 (Nat.le_of_ble_eq_true rfl) (hts _ wd_693) (fun _ h9 => h9) rfl dX10_who_313 ?_
                            refine lv_bipush (v := 64) hx hb dX10_who_316 rfl ?_
                            refine lv_iload hx hb dX10_who_318 (lv_at hl 2 rfl) ?_
                            refine lv_iconst (v := 1) hx hb dX10_who_320 rfl ?_
                            refine lv_iadd hx hb dX10_who_321 ?_
                            refine lv_imul hx hb dX10_who_322 ?_
                            refine lv_iload_n hx hb dX10_who_323 rfl (lv_at hl 3 rfl) ?_
                            refine lv_iconst (v := 1) hx hb dX10_who_324 rfl ?_
                            refine lv_iload hx hb dX10_who_325 (lv_at hl 0 rfl) ?_
                            refine lv_ishl hx hb dX10_who_327 ?_
                            refine lv_ior hx hb dX10_who_328 ?_
                            refine lv_iadd hx hb dX10_who_329 ?_
                            obtain ⟨hv_24, hF⟩ := hF
                            refine va_iald hx hb hK hP 0 0 rfl rfl hv_24 dX10_who_330 ?_
                            refine lv_ldcw (v := 1000000000) hx hb hown (hts _ wd_651) dX10_who_331 ?_
                            refine lv_icmp_eq (tgt := 341) hx hb dX10_who_334 rfl (fun c_25 => ?_) (fun c_25 => ?_)
                            · replace hF := hF.1 c_25
                              rw [if_pos c_25] at hE
                              refine lv_iconst (v := 0) hx hb dX10_who_341 rfl ?_
                              refine lv_istore (lv' := [(7, .int 0), (6, .int w279xl6), (4, .int w279xl4), (5, .int w262xl5), (3, .int w262xl3), (0, .ref h), (1, .int m_), (2, .int b_)]) hx hb dX10_who_342 hl (Nat.le_of_ble_eq_true rfl) rfl (fun ls hl => ?_)
                              refine lv_iload hx hb dX10_who_344 (lv_at hl 0 rfl) ?_
                              refine lv_if_eq (tgt := 402) hx hb dX10_who_346 rfl (fun c_26 => ?_) (fun c_26 => absurd (by decide +kernel) c_26)
                              refine lv_iload hx hb dX10_who_402 (lv_at hl 2 rfl) ?_
                              refine lv_istore (lv' := [(4, .int w279xl4), (7, .int 0), (6, .int w279xl6), (5, .int w262xl5), (3, .int w262xl3), (0, .ref h), (1, .int m_), (2, .int b_)]) hx hb dX10_who_404 hl (Nat.le_of_ble_eq_true rfl) rfl (fun ls hl => ?_)
                              refine lv_iinc (v := (w279xl6 + (-1))) (lv' := [(6, .int (w279xl6 + (-1))), (4, .int w279xl4), (7, .int 0), (5, .int w262xl5), (3, .int w262xl3), (0, .ref h), (1, .int m_), (2, .int b_)]) hx hb dX10_who_406 hl (k := 2) rfl rfl (Nat.le_of_ble_eq_true rfl) rfl (fun ls hl => ?_)
                              refine lv_goto (tgt := 279) hx hb dX10_who_409 rfl ?_
                              exact ih_w279x (w279xl6 + (-1)) w279xl4 w279xm0 w279xm1 w279xm2 _ _ ls hP hD hS (lv_sub hl [0, 1, 3, 4, 5, 6, 7] rfl) hF hE
                            · replace hF := hF.2 c_25
                              rw [if_neg c_25] at hE
                              refine lv_iconst (v := 1) hx hb dX10_who_337 rfl ?_
                              refine lv_goto (tgt := 342) hx hb dX10_who_338 rfl ?_
                              refine lv_istore (lv' := [(7, .int 1), (6, .int w279xl6), (4, .int w279xl4), (5, .int w262xl5), (3, .int w262xl3), (0, .ref h), (1, .int m_), (2, .int b_)]) hx hb dX10_who_342 hl (Nat.le_of_ble_eq_true rfl) rfl (fun ls hl => ?_)
                              refine lv_iload hx hb dX10_who_344 (lv_at hl 0 rfl) ?_
                              refine lv_if_eq (tgt := 402) hx hb dX10_who_346 rfl (fun c_27 => absurd c_27 (by decide +kernel)) (fun c_27 => ?_)
                              refine lv_aload_n hx hb dX10_who_349 rfl (lv_at hl 5 rfl) ?_
                              refine va_get (D := D) (ci := 10) (v := .ref (Rf 37)) (C := RX10) (T := TX10) (N := 45) hx hb hts iX10 hown hK hP 1 rfl rfl 37 (Nat.le_of_ble_eq_true rfl) (hts _ wd_672) (fun _ h9 => h9) rfl dX10_who_350 ?_
                              refine lv_bipush (v := 6) hx hb dX10_who_353 rfl ?_
                              refine lv_iload hx hb dX10_who_355 (lv_at hl 3 rfl) ?_
                              refine lv_imul hx hb dX10_who_357 ?_
                              refine lv_iload hx hb dX10_who_358 (lv_at hl 1 rfl) ?_
                              refine lv_iadd hx hb dX10_who_360 ?_
                              obtain ⟨hv_28, hF⟩ := hF
                              refine va_iald hx hb hK hP 5 0 rfl rfl hv_28 dX10_who_361 ?_
                              refine lv_aload_n hx hb dX10_who_362 rfl (lv_at hl 5 rfl) ?_
                              refine va_get (D := D) (ci := 10) (v := .ref (Rf 36)) (C := RX10) (T := TX10) (N := 45) hx hb hts iX10 hown hK hP 1 rfl rfl 36 (Nat.le_of_ble_eq_true rfl) (hts _ wd_693) (fun _ h9 => h9) rfl dX10_who_363 ?_
                              refine lv_bipush (v := 64) hx hb dX10_who_366 rfl ?_
                              refine lv_iload hx hb dX10_who_368 (lv_at hl 3 rfl) ?_
                              refine lv_iconst (v := 1) hx hb dX10_who_370 rfl ?_
                              refine lv_iadd hx hb dX10_who_371 ?_
                              refine lv_imul hx hb dX10_who_372 ?_
                              refine lv_iload_n hx hb dX10_who_373 rfl (lv_at hl 4 rfl) ?_
                              refine lv_iconst (v := 1) hx hb dX10_who_374 rfl ?_
                              refine lv_iload hx hb dX10_who_375 (lv_at hl 1 rfl) ?_
                              refine lv_ishl hx hb dX10_who_377 ?_
                              refine lv_ior hx hb dX10_who_378 ?_
                              refine lv_iadd hx hb dX10_who_379 ?_
                              obtain ⟨hv_29, hF⟩ := hF
                              refine va_iald hx hb hK hP 0 0 rfl rfl hv_29 dX10_who_380 ?_
                              refine lv_iadd hx hb dX10_who_381 ?_
                              refine lv_aload_n hx hb dX10_who_382 rfl (lv_at hl 5 rfl) ?_
                              refine va_get (D := D) (ci := 10) (v := .ref (Rf 36)) (C := RX10) (T := TX10) (N := 45) hx hb hts iX10 hown hK hP 1 rfl rfl 36 (Nat.le_of_ble_eq_true rfl) (hts _ wd_693) (fun _ h9 => h9) rfl dX10_who_383 ?_
                              refine lv_bipush (v := 64) hx hb dX10_who_386 rfl ?_
                              refine lv_iload hx hb dX10_who_388 (lv_at hl 3 rfl) ?_
                              refine lv_imul hx hb dX10_who_390 ?_
                              refine lv_iload_n hx hb dX10_who_391 rfl (lv_at hl 4 rfl) ?_
                              refine lv_iadd hx hb dX10_who_392 ?_
                              obtain ⟨hv_30, hF⟩ := hF
                              refine va_iald hx hb hK hP 0 0 rfl rfl hv_30 dX10_who_393 ?_
                              refine lv_icmp_ne (tgt := 402) hx hb dX10_who_394 rfl (fun c_31 => ?_) (fun c_31 => ?_)
                              · replace hF := hF.2 c_31
                                rw [if_neg c_31] at hE
                                refine lv_iload hx hb dX10_who_402 (lv_at hl 2 rfl) ?_
                                refine lv_istore (lv' := [(4, .int w279xl4), (7, .int 1), (6, .int w279xl6), (5, .int w262xl5), (3, .int w262xl3), (0, .ref h), (1, .int m_), (2, .int b_)]) hx hb dX10_who_404 hl (Nat.le_of_ble_eq_true rfl) rfl (fun ls hl => ?_)
                                refine lv_iinc (v := (w279xl6 + (-1))) (lv' := [(6, .int (w279xl6 + (-1))), (4, .int w279xl4), (7, .int 1), (5, .int w262xl5), (3, .int w262xl3), (0, .ref h), (1, .int m_), (2, .int b_)]) hx hb dX10_who_406 hl (k := 2) rfl rfl (Nat.le_of_ble_eq_true rfl) rfl (fun ls hl => ?_)
                                refine lv_goto (tgt := 279) hx hb dX10_who_409 rfl ?_
                                exact ih_w279x (w279xl6 + (-1)) w279xl4 w279xm0 w279xm1 w279xm2 _ _ ls hP hD hS (lv_sub hl [0, 1, 3, 4, 5, 6, 7] rfl) hF hE
                              · replace hF := hF.1 c_31
                                rw [if_pos c_31] at hE
                                refine lv_iload hx hb dX10_who_397 (lv_at hl 1 rfl) ?_
                                refine lv_goto (tgt := 404) hx hb dX10_who_399 rfl ?_
                                refine lv_istore (lv' := [(4, .int w279xl6), (7, .int 1), (6, .int w279xl6), (5, .int w262xl5), (3, .int w262xl3), (0, .ref h), (1, .int m_), (2, .int b_)]) hx hb dX10_who_404 hl (Nat.le_of_ble_eq_true rfl) rfl (fun ls hl => ?_)
                                refine lv_iinc (v := (w279xl6 + (-1))) (lv' := [(6, .int (w279xl6 + (-1))), (4, .int w279xl6), (7, .int 1), (5, .int w262xl5), (3, .int w262xl3), (0, .ref h), (1, .int m_), (2, .int b_)]) hx hb dX10_who_406 hl (k := 2) rfl rfl (Nat.le_of_ble_eq_true rfl) rfl (fun ls hl => ?_)
                                refine lv_goto (tgt := 279) hx hb dX10_who_409 rfl ?_
                                exact ih_w279x (w279xl6 + (-1)) w279xl6 w279xm0 w279xm1 w279xm2 _ _ ls hP hD hS (lv_sub hl [0, 1, 3, 4, 5, 6, 7] rfl) hF hE
                  exact lp_279_w279x 10 ((w262xm0 5) - 1) (-1) w262xm0 w262xm1 w262xm2 _ _ ls hP hD hS hl hF hE
            exact lp_262_w262x 10 0 (-1) 0 w35xm0 w35xm1 w35xm2 _ _ ls hP hD hS hl hF hE
          · replace hF := hF.1 c_13
            rw [if_pos c_13] at hE
            refine lv_aload_n hx hb dX10_who_231 rfl (lv_at hl 1 rfl) ?_
            refine va_get (D := D) (ci := 10) (v := .ref (Rf 36)) (C := RX10) (T := TX10) (N := 45) hx hb hts iX10 hown hK hP 1 rfl rfl 36 (Nat.le_of_ble_eq_true rfl) (hts _ wd_693) (fun _ h9 => h9) rfl dX10_who_232 ?_
            refine lv_iconst (v := 0) hx hb dX10_who_235 rfl ?_
            refine va_iald hx hb hK hP 0 0 rfl rfl (show ¬ ((0 : Int32) < 0 ∨ 448 ≤ (0 : Int32).toNatClampNeg) by decide +kernel) dX10_who_236 ?_
            refine lv_ldcw (v := 1000000000) hx hb hown (hts _ wd_651) dX10_who_237 ?_
            refine lv_icmp_ne (tgt := 247) hx hb dX10_who_240 rfl (fun c_32 => ?_) (fun c_32 => ?_)
            · replace hF := hF.2 c_32
              rw [if_neg c_32] at hE
              refine lv_aload_n hx hb dX10_who_247 rfl (lv_at hl 1 rfl) ?_
              refine va_get (D := D) (ci := 10) (v := .ref (Rf 36)) (C := RX10) (T := TX10) (N := 45) hx hb hts iX10 hown hK hP 1 rfl rfl 36 (Nat.le_of_ble_eq_true rfl) (hts _ wd_693) (fun _ h9 => h9) rfl dX10_who_248 ?_
              refine lv_iconst (v := 0) hx hb dX10_who_251 rfl ?_
              refine va_iald hx hb hK hP 0 0 rfl rfl (show ¬ ((0 : Int32) < 0 ∨ 448 ≤ (0 : Int32).toNatClampNeg) by decide +kernel) dX10_who_252 ?_
              exact hret (w35xm2 (0 : Int32).toNatClampNeg) (w35xm0, w35xm1, w35xm2) _ _ _ _ dX10_who_253 rfl hE (cutP (isC := [1, 2, 3, 4, 5, 0]) hP rfl) (cutD (isC := [1, 2, 3, 4, 5, 0]) hD rfl rfl) hS
            · replace hF := hF.1 c_32
              rw [if_pos c_32] at hE
              refine lv_iconst (v := (-1)) hx hb dX10_who_243 rfl ?_
              refine lv_goto (tgt := 253) hx hb dX10_who_244 rfl ?_
              exact hret (-1) (w35xm0, w35xm1, w35xm2) _ _ _ _ dX10_who_253 rfl hE (cutP (isC := [1, 2, 3, 4, 5, 0]) hP rfl) (cutD (isC := [1, 2, 3, 4, 5, 0]) hD rfl rfl) hS
      have lp_35_w35x : ∀ (n_w35x : Nat) (w35xl3 : Int32) (w35xm0 : (Nat → Int32)) (w35xm1 : (Nat → Int32)) (w35xm2 : (Nat → Int32)) (H : Heap) (locs : List Loc) (ls : Array Slot), va_P D classes [((Rf 36), .inl (cI, 448, .inl w35xm2)), (h, .inr (10, ML w35xm0 Rf)), ((Rf 0), .inl (cI, 1302, .inl f0)), ((Rf 10), .inl (cI, 30, .inl f10)), ((Rf 8), .inl (cI, 6, .inl f8)), ((Rf 37), .inl (cI, 36, .inl w35xm1))] H → va_D A [((Rf 36), .inl (cI, 448, .inl w35xm2)), (h, .inr (10, ML w35xm0 Rf)), ((Rf 0), .inl (cI, 1302, .inl f0)), ((Rf 10), .inl (cI, 30, .inl f10)), ((Rf 8), .inl (cI, 6, .inl f8)), ((Rf 37), .inl (cI, 36, .inl w35xm1))] → va_S A s.heap H locs → lv_has ls 9 [(3, .int w35xl3), (0, .ref h), (1, .int m_), (2, .int b_)] → (S_m_who_35 m_ (fun (w35xl3 : Int32) (w35xm0 : (Nat → Int32)) (w35xm1 : (Nat → Int32)) (w35xm2 : (Nat → Int32)) => (((w35xm2 (0 : Int32).toNatClampNeg) = 1000000000 → (((w35xm2 (0 : Int32).toNatClampNeg) = 1000000000 → True) ∧ (¬ (w35xm2 (0 : Int32).toNatClampNeg) = 1000000000 → True))) ∧ (¬ (w35xm2 (0 : Int32).toNatClampNeg) = 1000000000 → ((b_ = (-1) → (((w35xm2 (0 : Int32).toNatClampNeg) = 1000000000 → True) ∧ (¬ (w35xm2 (0 : Int32).toNatClampNeg) = 1000000000 → True))) ∧ (¬ b_ = (-1) → (S_m_who_262 b_ (fun (w262xl5 : Int32) (w262xl4 : Int32) (w262xl3 : Int32) (w262xm0 : (Nat → Int32)) (w262xm1 : (Nat → Int32)) (w262xm2 : (Nat → Int32)) => True) 10 0 (-1) 0 w35xm0 w35xm1 w35xm2)))))) n_w35x w35xl3 w35xm0 w35xm1 w35xm2) → ((match ((f_m_who_35 m_ n_w35x w35xl3 w35xm0 w35xm1 w35xm2) : Int32 × (Nat → Int32) × (Nat → Int32) × (Nat → Int32)) with | (w35xl3, w35xm0, w35xm1, w35xm2) => (if (w35xm2 (0 : Int32).toNatClampNeg) = 1000000000 then (if (w35xm2 (0 : Int32).toNatClampNeg) = 1000000000 then ((-1), w35xm0, w35xm1, w35xm2) else ((w35xm2 (0 : Int32).toNatClampNeg), w35xm0, w35xm1, w35xm2)) else (if b_ = (-1) then (if (w35xm2 (0 : Int32).toNatClampNeg) = 1000000000 then ((-1), w35xm0, w35xm1, w35xm2) else ((w35xm2 (0 : Int32).toNatClampNeg), w35xm0, w35xm1, w35xm2)) else (match ((f_m_who_262 b_ 10 0 (-1) 0 w35xm0 w35xm1 w35xm2) : Int32 × Int32 × Int32 × (Nat → Int32) × (Nat → Int32) × (Nat → Int32)) with | (w262xl5, w262xl4, w262xl3, w262xm0, w262xm1, w262xm2) => (w262xl4, w262xm0, w262xm1, w262xm2))))) : Int32 × (Nat → Int32) × (Nat → Int32) × (Nat → Int32)) = RES → W p l e rm_m_who s m args below meth c H locs 0 0 Q (F0 m 35 ls []) := by
        intro n_w35x
        induction n_w35x with
        | zero => intro w35xl3 w35xm0 w35xm1 w35xm2 H locs ls hP hD hS hl hF hE; exact False.elim hF
        | succ n_w35x ih_w35x =>
          intro w35xl3 w35xm0 w35xm1 w35xm2 H locs ls hP hD hS hl hF hE
          rw [S_m_who_35_s] at hF
          rw [f_m_who_35_s] at hE
          refine lv_iload_n hx hb dX10_who_35 rfl (lv_at hl 0 rfl) ?_
          refine lv_if_lt (tgt := 214) hx hb dX10_who_36 rfl (fun c_33 => ?_) (fun c_33 => ?_)
          · replace hF := hF.1 c_33
            rw [if_pos c_33] at hE
            exact ex_35_w35x w35xl3 w35xm0 w35xm1 w35xm2 _ _ ls hP hD hS (lv_sub hl [0, 1, 2, 3] rfl) hF hE
          · replace hF := hF.2 c_33
            rw [if_neg c_33] at hE
            refine lv_iconst (v := 0) hx hb dX10_who_39 rfl ?_
            refine lv_istore (lv' := [(4, .int 0), (3, .int w35xl3), (0, .ref h), (1, .int m_), (2, .int b_)]) hx hb dX10_who_40 hl (Nat.le_of_ble_eq_true rfl) rfl (fun ls hl => ?_)
            have ex_42_w42x : ∀ (w42xl4 : Int32) (w42xm0 : (Nat → Int32)) (w42xm1 : (Nat → Int32)) (w42xm2 : (Nat → Int32)) (H : Heap) (locs : List Loc) (ls : Array Slot), va_P D classes [((Rf 36), .inl (cI, 448, .inl w42xm2)), (h, .inr (10, ML w42xm0 Rf)), ((Rf 0), .inl (cI, 1302, .inl f0)), ((Rf 10), .inl (cI, 30, .inl f10)), ((Rf 8), .inl (cI, 6, .inl f8)), ((Rf 37), .inl (cI, 36, .inl w42xm1))] H → va_D A [((Rf 36), .inl (cI, 448, .inl w42xm2)), (h, .inr (10, ML w42xm0 Rf)), ((Rf 0), .inl (cI, 1302, .inl f0)), ((Rf 10), .inl (cI, 30, .inl f10)), ((Rf 8), .inl (cI, 6, .inl f8)), ((Rf 37), .inl (cI, 36, .inl w42xm1))] → va_S A s.heap H locs → lv_has ls 9 [(4, .int w42xl4), (3, .int w35xl3), (0, .ref h), (1, .int m_), (2, .int b_)] → ((S_m_who_35 m_ (fun (w35xl3 : Int32) (w35xm0 : (Nat → Int32)) (w35xm1 : (Nat → Int32)) (w35xm2 : (Nat → Int32)) => (((w35xm2 (0 : Int32).toNatClampNeg) = 1000000000 → (((w35xm2 (0 : Int32).toNatClampNeg) = 1000000000 → True) ∧ (¬ (w35xm2 (0 : Int32).toNatClampNeg) = 1000000000 → True))) ∧ (¬ (w35xm2 (0 : Int32).toNatClampNeg) = 1000000000 → ((b_ = (-1) → (((w35xm2 (0 : Int32).toNatClampNeg) = 1000000000 → True) ∧ (¬ (w35xm2 (0 : Int32).toNatClampNeg) = 1000000000 → True))) ∧ (¬ b_ = (-1) → (S_m_who_262 b_ (fun (w262xl5 : Int32) (w262xl4 : Int32) (w262xl3 : Int32) (w262xm0 : (Nat → Int32)) (w262xm1 : (Nat → Int32)) (w262xm2 : (Nat → Int32)) => True) 10 0 (-1) 0 w35xm0 w35xm1 w35xm2)))))) n_w35x (w35xl3 + (-1)) w42xm0 w42xm1 w42xm2)) → (((match ((f_m_who_35 m_ n_w35x (w35xl3 + (-1)) w42xm0 w42xm1 w42xm2) : Int32 × (Nat → Int32) × (Nat → Int32) × (Nat → Int32)) with | (w35xl3, w35xm0, w35xm1, w35xm2) => (if (w35xm2 (0 : Int32).toNatClampNeg) = 1000000000 then (if (w35xm2 (0 : Int32).toNatClampNeg) = 1000000000 then ((-1), w35xm0, w35xm1, w35xm2) else ((w35xm2 (0 : Int32).toNatClampNeg), w35xm0, w35xm1, w35xm2)) else (if b_ = (-1) then (if (w35xm2 (0 : Int32).toNatClampNeg) = 1000000000 then ((-1), w35xm0, w35xm1, w35xm2) else ((w35xm2 (0 : Int32).toNatClampNeg), w35xm0, w35xm1, w35xm2)) else (match ((f_m_who_262 b_ 10 0 (-1) 0 w35xm0 w35xm1 w35xm2) : Int32 × Int32 × Int32 × (Nat → Int32) × (Nat → Int32) × (Nat → Int32)) with | (w262xl5, w262xl4, w262xl3, w262xm0, w262xm1, w262xm2) => (w262xl4, w262xm0, w262xm1, w262xm2)))))) : Int32 × (Nat → Int32) × (Nat → Int32) × (Nat → Int32)) = RES → W p l e rm_m_who s m args below meth c H locs 0 0 Q (F0 m 208 ls []) := by
              intro w42xl4 w42xm0 w42xm1 w42xm2 H locs ls hP hD hS hl hF hE
              refine lv_iinc (v := (w35xl3 + (-1))) (lv' := [(3, .int (w35xl3 + (-1))), (4, .int w42xl4), (0, .ref h), (1, .int m_), (2, .int b_)]) hx hb dX10_who_208 hl (k := 1) rfl rfl (Nat.le_of_ble_eq_true rfl) rfl (fun ls hl => ?_)
              refine lv_goto (tgt := 35) hx hb dX10_who_211 rfl ?_
              exact ih_w35x (w35xl3 + (-1)) w42xm0 w42xm1 w42xm2 _ _ ls hP hD hS (lv_sub hl [0, 2, 3, 4] rfl) hF hE
            have lp_42_w42x : ∀ (n_w42x : Nat) (w42xl4 : Int32) (w42xm0 : (Nat → Int32)) (w42xm1 : (Nat → Int32)) (w42xm2 : (Nat → Int32)) (H : Heap) (locs : List Loc) (ls : Array Slot), va_P D classes [((Rf 36), .inl (cI, 448, .inl w42xm2)), (h, .inr (10, ML w42xm0 Rf)), ((Rf 0), .inl (cI, 1302, .inl f0)), ((Rf 10), .inl (cI, 30, .inl f10)), ((Rf 8), .inl (cI, 6, .inl f8)), ((Rf 37), .inl (cI, 36, .inl w42xm1))] H → va_D A [((Rf 36), .inl (cI, 448, .inl w42xm2)), (h, .inr (10, ML w42xm0 Rf)), ((Rf 0), .inl (cI, 1302, .inl f0)), ((Rf 10), .inl (cI, 30, .inl f10)), ((Rf 8), .inl (cI, 6, .inl f8)), ((Rf 37), .inl (cI, 36, .inl w42xm1))] → va_S A s.heap H locs → lv_has ls 9 [(4, .int w42xl4), (3, .int w35xl3), (0, .ref h), (1, .int m_), (2, .int b_)] → (S_m_who_42 m_ w35xl3 (fun (w42xl4 : Int32) (w42xm0 : (Nat → Int32)) (w42xm1 : (Nat → Int32)) (w42xm2 : (Nat → Int32)) => (S_m_who_35 m_ (fun (w35xl3 : Int32) (w35xm0 : (Nat → Int32)) (w35xm1 : (Nat → Int32)) (w35xm2 : (Nat → Int32)) => (((w35xm2 (0 : Int32).toNatClampNeg) = 1000000000 → (((w35xm2 (0 : Int32).toNatClampNeg) = 1000000000 → True) ∧ (¬ (w35xm2 (0 : Int32).toNatClampNeg) = 1000000000 → True))) ∧ (¬ (w35xm2 (0 : Int32).toNatClampNeg) = 1000000000 → ((b_ = (-1) → (((w35xm2 (0 : Int32).toNatClampNeg) = 1000000000 → True) ∧ (¬ (w35xm2 (0 : Int32).toNatClampNeg) = 1000000000 → True))) ∧ (¬ b_ = (-1) → (S_m_who_262 b_ (fun (w262xl5 : Int32) (w262xl4 : Int32) (w262xl3 : Int32) (w262xm0 : (Nat → Int32)) (w262xm1 : (Nat → Int32)) (w262xm2 : (Nat → Int32)) => True) 10 0 (-1) 0 w35xm0 w35xm1 w35xm2)))))) n_w35x (w35xl3 + (-1)) w42xm0 w42xm1 w42xm2)) n_w42x w42xl4 w42xm0 w42xm1 w42xm2) → ((64 : Int32).toInt - (w42xl4 : Int32).toInt).toNat < n_w42x → ((match ((match ((f_m_who_42 m_ w35xl3 n_w42x w42xl4 w42xm0 w42xm1 w42xm2) : Int32 × (Nat → Int32) × (Nat → Int32) × (Nat → Int32)) with | (w42xl4, w42xm0, w42xm1, w42xm2) => (f_m_who_35 m_ n_w35x (w35xl3 + (-1)) w42xm0 w42xm1 w42xm2)) : Int32 × (Nat → Int32) × (Nat → Int32) × (Nat → Int32)) with | (w35xl3, w35xm0, w35xm1, w35xm2) => (if (w35xm2 (0 : Int32).toNatClampNeg) = 1000000000 then (if (w35xm2 (0 : Int32).toNatClampNeg) = 1000000000 then ((-1), w35xm0, w35xm1, w35xm2) else ((w35xm2 (0 : Int32).toNatClampNeg), w35xm0, w35xm1, w35xm2)) else (if b_ = (-1) then (if (w35xm2 (0 : Int32).toNatClampNeg) = 1000000000 then ((-1), w35xm0, w35xm1, w35xm2) else ((w35xm2 (0 : Int32).toNatClampNeg), w35xm0, w35xm1, w35xm2)) else (match ((f_m_who_262 b_ 10 0 (-1) 0 w35xm0 w35xm1 w35xm2) : Int32 × Int32 × Int32 × (Nat → Int32) × (Nat → Int32) × (Nat → Int32)) with | (w262xl5, w262xl4, w262xl3, w262xm0, w262xm1, w262xm2) => (w262xl4, w262xm0, w262xm1, w262xm2))))) : Int32 × (Nat → Int32) × (Nat → Int32) × (Nat → Int32)) = RES → W p l e rm_m_who s m args below meth c H locs 0 0 Q (F0 m 42 ls []) := by
              intro n_w42x
              induction n_w42x with
              | zero => intro w42xl4 w42xm0 w42xm1 w42xm2 H locs ls hP hD hS hl hF hm; exact absurd hm (Nat.not_lt_zero _)
              | succ n_w42x ih_w42x =>
                intro w42xl4 w42xm0 w42xm1 w42xm2 H locs ls hP hD hS hl hF hm hE
                rw [S_m_who_42_s] at hF
                rw [f_m_who_42_s] at hE
                refine lv_iload hx hb dX10_who_42 (lv_at hl 0 rfl) ?_
                refine lv_bipush (v := 64) hx hb dX10_who_44 rfl ?_
                refine lv_icmp_ge (tgt := 208) hx hb dX10_who_46 rfl (fun c_34 => ?_) (fun c_34 => ?_)
                · replace hF := hF.1 c_34
                  rw [if_pos c_34] at hE
                  exact ex_42_w42x w42xl4 w42xm0 w42xm1 w42xm2 _ _ ls hP hD hS (lv_sub hl [0, 1, 2, 3, 4] rfl) hF hE
                · replace hF := hF.2 c_34
                  rw [if_neg c_34] at hE
                  refine lv_iload_n hx hb dX10_who_49 rfl (lv_at hl 1 rfl) ?_
                  refine lv_iload_n hx hb dX10_who_50 rfl (lv_at hl 3 rfl) ?_
                  refine lv_icmp_le (tgt := 58) hx hb dX10_who_51 rfl (fun c_35 => ?_) (fun c_35 => ?_)
                  · replace hF := hF.1 c_35
                    rw [if_pos c_35] at hE
                    refine lv_ldcw (v := 1000000000) hx hb hown (hts _ wd_651) dX10_who_58 ?_
                    refine lv_istore (lv' := [(5, .int 1000000000), (4, .int w42xl4), (3, .int w35xl3), (0, .ref h), (1, .int m_), (2, .int b_)]) hx hb dX10_who_61 hl (Nat.le_of_ble_eq_true rfl) rfl (fun ls hl => ?_)
                    refine lv_iconst (v := 0) hx hb dX10_who_63 rfl ?_
                    refine lv_istore (lv' := [(6, .int 0), (5, .int 1000000000), (4, .int w42xl4), (3, .int w35xl3), (0, .ref h), (1, .int m_), (2, .int b_)]) hx hb dX10_who_64 hl (Nat.le_of_ble_eq_true rfl) rfl (fun ls hl => ?_)
                    have ex_66_w66x : ∀ (w66xl6 : Int32) (w66xl5 : Int32) (w66xm0 : (Nat → Int32)) (w66xm1 : (Nat → Int32)) (w66xm2 : (Nat → Int32)) (H : Heap) (locs : List Loc) (ls : Array Slot), va_P D classes [((Rf 36), .inl (cI, 448, .inl w66xm2)), (h, .inr (10, ML w66xm0 Rf)), ((Rf 0), .inl (cI, 1302, .inl f0)), ((Rf 10), .inl (cI, 30, .inl f10)), ((Rf 8), .inl (cI, 6, .inl f8)), ((Rf 37), .inl (cI, 36, .inl w66xm1))] H → va_D A [((Rf 36), .inl (cI, 448, .inl w66xm2)), (h, .inr (10, ML w66xm0 Rf)), ((Rf 0), .inl (cI, 1302, .inl f0)), ((Rf 10), .inl (cI, 30, .inl f10)), ((Rf 8), .inl (cI, 6, .inl f8)), ((Rf 37), .inl (cI, 36, .inl w66xm1))] → va_S A s.heap H locs → lv_has ls 9 [(6, .int w66xl6), (5, .int w66xl5), (4, .int w42xl4), (3, .int w35xl3), (0, .ref h), (1, .int m_), (2, .int b_)] → ((vp_in ((64 * w35xl3) + w42xl4) 448 ∧ (S_m_who_42 m_ w35xl3 (fun (w42xl4 : Int32) (w42xm0 : (Nat → Int32)) (w42xm1 : (Nat → Int32)) (w42xm2 : (Nat → Int32)) => (S_m_who_35 m_ (fun (w35xl3 : Int32) (w35xm0 : (Nat → Int32)) (w35xm1 : (Nat → Int32)) (w35xm2 : (Nat → Int32)) => (((w35xm2 (0 : Int32).toNatClampNeg) = 1000000000 → (((w35xm2 (0 : Int32).toNatClampNeg) = 1000000000 → True) ∧ (¬ (w35xm2 (0 : Int32).toNatClampNeg) = 1000000000 → True))) ∧ (¬ (w35xm2 (0 : Int32).toNatClampNeg) = 1000000000 → ((b_ = (-1) → (((w35xm2 (0 : Int32).toNatClampNeg) = 1000000000 → True) ∧ (¬ (w35xm2 (0 : Int32).toNatClampNeg) = 1000000000 → True))) ∧ (¬ b_ = (-1) → (S_m_who_262 b_ (fun (w262xl5 : Int32) (w262xl4 : Int32) (w262xl3 : Int32) (w262xm0 : (Nat → Int32)) (w262xm1 : (Nat → Int32)) (w262xm2 : (Nat → Int32)) => True) 10 0 (-1) 0 w35xm0 w35xm1 w35xm2)))))) n_w35x (w35xl3 + (-1)) w42xm0 w42xm1 w42xm2)) n_w42x (w42xl4 + 1) w66xm0 w66xm1 (upd w66xm2 (((64 * w35xl3) + w42xl4) : Int32).toNatClampNeg w66xl5)))) → (((match ((match ((f_m_who_42 m_ w35xl3 n_w42x (w42xl4 + 1) w66xm0 w66xm1 (upd w66xm2 (((64 * w35xl3) + w42xl4) : Int32).toNatClampNeg w66xl5)) : Int32 × (Nat → Int32) × (Nat → Int32) × (Nat → Int32)) with | (w42xl4, w42xm0, w42xm1, w42xm2) => (f_m_who_35 m_ n_w35x (w35xl3 + (-1)) w42xm0 w42xm1 w42xm2)) : Int32 × (Nat → Int32) × (Nat → Int32) × (Nat → Int32)) with | (w35xl3, w35xm0, w35xm1, w35xm2) => (if (w35xm2 (0 : Int32).toNatClampNeg) = 1000000000 then (if (w35xm2 (0 : Int32).toNatClampNeg) = 1000000000 then ((-1), w35xm0, w35xm1, w35xm2) else ((w35xm2 (0 : Int32).toNatClampNeg), w35xm0, w35xm1, w35xm2)) else (if b_ = (-1) then (if (w35xm2 (0 : Int32).toNatClampNeg) = 1000000000 then ((-1), w35xm0, w35xm1, w35xm2) else ((w35xm2 (0 : Int32).toNatClampNeg), w35xm0, w35xm1, w35xm2)) else (match ((f_m_who_262 b_ 10 0 (-1) 0 w35xm0 w35xm1 w35xm2) : Int32 × Int32 × Int32 × (Nat → Int32) × (Nat → Int32) × (Nat → Int32)) with | (w262xl5, w262xl4, w262xl3, w262xm0, w262xm1, w262xm2) => (w262xl4, w262xm0, w262xm1, w262xm2)))))) : Int32 × (Nat → Int32) × (Nat → Int32) × (Nat → Int32)) = RES → W p l e rm_m_who s m args below meth c H locs 0 0 Q (F0 m 188 ls []) := by
                      intro w66xl6 w66xl5 w66xm0 w66xm1 w66xm2 H locs ls hP hD hS hl hF hE
                      refine lv_aload_n hx hb dX10_who_188 rfl (lv_at hl 4 rfl) ?_
                      refine va_get (D := D) (ci := 10) (v := .ref (Rf 36)) (C := RX10) (T := TX10) (N := 45) hx hb hts iX10 hown hK hP 1 rfl rfl 36 (Nat.le_of_ble_eq_true rfl) (hts _ wd_693) (fun _ h9 => h9) rfl dX10_who_189 ?_
                      refine lv_bipush (v := 64) hx hb dX10_who_192 rfl ?_
                      refine lv_iload_n hx hb dX10_who_194 rfl (lv_at hl 3 rfl) ?_
                      refine lv_imul hx hb dX10_who_195 ?_
                      refine lv_iload hx hb dX10_who_196 (lv_at hl 2 rfl) ?_
                      refine lv_iadd hx hb dX10_who_198 ?_
                      refine lv_iload hx hb dX10_who_199 (lv_at hl 1 rfl) ?_
                      obtain ⟨hv_36, hF⟩ := hF
                      refine va_iast hx hb hK hP hD hS 0 0 rfl rfl hv_36 dX10_who_201 (fun H locs hP hD hS => ?_)
                      have hP : va_P D classes [((Rf 36), .inl (cI, 448, .inl (upd w66xm2 (((64 * w35xl3) + w42xl4) : Int32).toNatClampNeg w66xl5))), (h, .inr (10, ML w66xm0 Rf)), ((Rf 0), .inl (cI, 1302, .inl f0)), ((Rf 10), .inl (cI, 30, .inl f10)), ((Rf 8), .inl (cI, 6, .inl f8)), ((Rf 37), .inl (cI, 36, .inl w66xm1))] H := hP
                      have hD : va_D A [((Rf 36), .inl (cI, 448, .inl (upd w66xm2 (((64 * w35xl3) + w42xl4) : Int32).toNatClampNeg w66xl5))), (h, .inr (10, ML w66xm0 Rf)), ((Rf 0), .inl (cI, 1302, .inl f0)), ((Rf 10), .inl (cI, 30, .inl f10)), ((Rf 8), .inl (cI, 6, .inl f8)), ((Rf 37), .inl (cI, 36, .inl w66xm1))] := hD
                      refine lv_iinc (v := (w42xl4 + 1)) (lv' := [(4, .int (w42xl4 + 1)), (6, .int w66xl6), (5, .int w66xl5), (3, .int w35xl3), (0, .ref h), (1, .int m_), (2, .int b_)]) hx hb dX10_who_202 hl (k := 2) rfl rfl (Nat.le_of_ble_eq_true rfl) rfl (fun ls hl => ?_)
                      refine lv_goto (tgt := 42) hx hb dX10_who_205 rfl ?_
                      exact ih_w42x (w42xl4 + 1) w66xm0 w66xm1 (upd w66xm2 (((64 * w35xl3) + w42xl4) : Int32).toNatClampNeg w66xl5) _ _ ls hP hD hS (lv_sub hl [0, 3, 4, 5, 6] rfl) hF (up_step c_34 hm) hE
                    have lp_66_w66x : ∀ (n_w66x : Nat) (w66xl6 : Int32) (w66xl5 : Int32) (w66xm0 : (Nat → Int32)) (w66xm1 : (Nat → Int32)) (w66xm2 : (Nat → Int32)) (H : Heap) (locs : List Loc) (ls : Array Slot), va_P D classes [((Rf 36), .inl (cI, 448, .inl w66xm2)), (h, .inr (10, ML w66xm0 Rf)), ((Rf 0), .inl (cI, 1302, .inl f0)), ((Rf 10), .inl (cI, 30, .inl f10)), ((Rf 8), .inl (cI, 6, .inl f8)), ((Rf 37), .inl (cI, 36, .inl w66xm1))] H → va_D A [((Rf 36), .inl (cI, 448, .inl w66xm2)), (h, .inr (10, ML w66xm0 Rf)), ((Rf 0), .inl (cI, 1302, .inl f0)), ((Rf 10), .inl (cI, 30, .inl f10)), ((Rf 8), .inl (cI, 6, .inl f8)), ((Rf 37), .inl (cI, 36, .inl w66xm1))] → va_S A s.heap H locs → lv_has ls 9 [(6, .int w66xl6), (5, .int w66xl5), (4, .int w42xl4), (3, .int w35xl3), (0, .ref h), (1, .int m_), (2, .int b_)] → (S_m_who_66 m_ w35xl3 w42xl4 (fun (w66xl6 : Int32) (w66xl5 : Int32) (w66xm0 : (Nat → Int32)) (w66xm1 : (Nat → Int32)) (w66xm2 : (Nat → Int32)) => (vp_in ((64 * w35xl3) + w42xl4) 448 ∧ (S_m_who_42 m_ w35xl3 (fun (w42xl4 : Int32) (w42xm0 : (Nat → Int32)) (w42xm1 : (Nat → Int32)) (w42xm2 : (Nat → Int32)) => (S_m_who_35 m_ (fun (w35xl3 : Int32) (w35xm0 : (Nat → Int32)) (w35xm1 : (Nat → Int32)) (w35xm2 : (Nat → Int32)) => (((w35xm2 (0 : Int32).toNatClampNeg) = 1000000000 → (((w35xm2 (0 : Int32).toNatClampNeg) = 1000000000 → True) ∧ (¬ (w35xm2 (0 : Int32).toNatClampNeg) = 1000000000 → True))) ∧ (¬ (w35xm2 (0 : Int32).toNatClampNeg) = 1000000000 → ((b_ = (-1) → (((w35xm2 (0 : Int32).toNatClampNeg) = 1000000000 → True) ∧ (¬ (w35xm2 (0 : Int32).toNatClampNeg) = 1000000000 → True))) ∧ (¬ b_ = (-1) → (S_m_who_262 b_ (fun (w262xl5 : Int32) (w262xl4 : Int32) (w262xl3 : Int32) (w262xm0 : (Nat → Int32)) (w262xm1 : (Nat → Int32)) (w262xm2 : (Nat → Int32)) => True) 10 0 (-1) 0 w35xm0 w35xm1 w35xm2)))))) n_w35x (w35xl3 + (-1)) w42xm0 w42xm1 w42xm2)) n_w42x (w42xl4 + 1) w66xm0 w66xm1 (upd w66xm2 (((64 * w35xl3) + w42xl4) : Int32).toNatClampNeg w66xl5)))) n_w66x w66xl6 w66xl5 w66xm0 w66xm1 w66xm2) → ((match ((match ((match ((f_m_who_66 m_ w35xl3 w42xl4 n_w66x w66xl6 w66xl5 w66xm0 w66xm1 w66xm2) : Int32 × Int32 × (Nat → Int32) × (Nat → Int32) × (Nat → Int32)) with | (w66xl6, w66xl5, w66xm0, w66xm1, w66xm2) => (f_m_who_42 m_ w35xl3 n_w42x (w42xl4 + 1) w66xm0 w66xm1 (upd w66xm2 (((64 * w35xl3) + w42xl4) : Int32).toNatClampNeg w66xl5))) : Int32 × (Nat → Int32) × (Nat → Int32) × (Nat → Int32)) with | (w42xl4, w42xm0, w42xm1, w42xm2) => (f_m_who_35 m_ n_w35x (w35xl3 + (-1)) w42xm0 w42xm1 w42xm2)) : Int32 × (Nat → Int32) × (Nat → Int32) × (Nat → Int32)) with | (w35xl3, w35xm0, w35xm1, w35xm2) => (if (w35xm2 (0 : Int32).toNatClampNeg) = 1000000000 then (if (w35xm2 (0 : Int32).toNatClampNeg) = 1000000000 then ((-1), w35xm0, w35xm1, w35xm2) else ((w35xm2 (0 : Int32).toNatClampNeg), w35xm0, w35xm1, w35xm2)) else (if b_ = (-1) then (if (w35xm2 (0 : Int32).toNatClampNeg) = 1000000000 then ((-1), w35xm0, w35xm1, w35xm2) else ((w35xm2 (0 : Int32).toNatClampNeg), w35xm0, w35xm1, w35xm2)) else (match ((f_m_who_262 b_ 10 0 (-1) 0 w35xm0 w35xm1 w35xm2) : Int32 × Int32 × Int32 × (Nat → Int32) × (Nat → Int32) × (Nat → Int32)) with | (w262xl5, w262xl4, w262xl3, w262xm0, w262xm1, w262xm2) => (w262xl4, w262xm0, w262xm1, w262xm2))))) : Int32 × (Nat → Int32) × (Nat → Int32) × (Nat → Int32)) = RES → W p l e rm_m_who s m args below meth c H locs 0 0 Q (F0 m 66 ls []) := by
                      intro n_w66x
                      induction n_w66x with
                      | zero => intro w66xl6 w66xl5 w66xm0 w66xm1 w66xm2 H locs ls hP hD hS hl hF hE; exact False.elim hF
                      | succ n_w66x ih_w66x =>
                        intro w66xl6 w66xl5 w66xm0 w66xm1 w66xm2 H locs ls hP hD hS hl hF hE
                        rw [S_m_who_66_s] at hF
                        rw [f_m_who_66_s] at hE
                        refine lv_iload hx hb dX10_who_66 (lv_at hl 0 rfl) ?_
                        refine lv_aload_n hx hb dX10_who_68 rfl (lv_at hl 4 rfl) ?_
                        refine va_get (D := D) (ci := 10) (v := .int (w66xm0 5)) (C := RX10) (T := TX10) (N := 45) hx hb hts iX10 hown hK hP 1 rfl rfl 5 (Nat.le_of_ble_eq_true rfl) (hts _ wd_499) (fun _ h9 => h9) rfl dX10_who_69 ?_
                        refine lv_icmp_ge (tgt := 188) hx hb dX10_who_72 rfl (fun c_37 => ?_) (fun c_37 => ?_)
                        · replace hF := hF.1 c_37
                          rw [if_pos c_37] at hE
                          exact ex_66_w66x w66xl6 w66xl5 w66xm0 w66xm1 w66xm2 _ _ ls hP hD hS (lv_sub hl [0, 1, 2, 3, 4, 5, 6] rfl) hF hE
                        · replace hF := hF.2 c_37
                          rw [if_neg c_37] at hE
                          refine lv_iload_n hx hb dX10_who_75 rfl (lv_at hl 3 rfl) ?_
                          refine lv_iload_n hx hb dX10_who_76 rfl (lv_at hl 5 rfl) ?_
                          refine lv_icmp_gt (tgt := 188) hx hb dX10_who_77 rfl (fun c_38 => ?_) (fun c_38 => ?_)
                          · replace hF := hF.1 c_38
                            rw [if_pos c_38] at hE
                            exact ex_66_w66x w66xl6 w66xl5 w66xm0 w66xm1 w66xm2 _ _ ls hP hD hS (lv_sub hl [0, 1, 2, 3, 4, 5, 6] rfl) hF hE
                          · replace hF := hF.2 c_38
                            rw [if_neg c_38] at hE
                            refine lv_iload hx hb dX10_who_80 (lv_at hl 2 rfl) ?_
                            refine lv_iload hx hb dX10_who_82 (lv_at hl 0 rfl) ?_
                            obtain ⟨hs_39, hF⟩ := hF
                            refine cSi (wr := [((Rf 36), .inl (cI, 448, .inl w66xm2)), (h, .inr (10, ML w66xm0 Rf)), ((Rf 0), .inl (cI, 1302, .inl f0)), ((Rf 10), .inl (cI, 30, .inl f10)), ((Rf 8), .inl (cI, 6, .inl f8)), ((Rf 37), .inl (cI, 36, .inl w66xm1))]) (rest := []) (m_has w42xl4 w66xl6 hs_39) okS_X10_has wd_502 hx hb hml hown hts hK hP hD hS hA hN hl.1 [] [0, 1, 2, 3, 4, 5] rfl rfl rfl rfl (of_decide_eq_true rfl) rfl (Nat.le_of_ble_eq_true rfl) (Nat.le_of_ble_eq_true rfl) (Nat.le_of_ble_eq_true rfl) (Nat.le_of_ble_eq_true rfl) (Nat.le_of_ble_eq_true rfl) dX10_who_84 (fun r_41 u_40 H locs hw_u_40 hP hD hS => ?_)
                            replace hw_u_40 : r_41 = (f_m_has w42xl4 w66xl6) := hw_u_40
                            rw [hw_u_40]
                            clear hw_u_40
                            have hP : va_P D classes [((Rf 36), .inl (cI, 448, .inl w66xm2)), (h, .inr (10, ML w66xm0 Rf)), ((Rf 0), .inl (cI, 1302, .inl f0)), ((Rf 10), .inl (cI, 30, .inl f10)), ((Rf 8), .inl (cI, 6, .inl f8)), ((Rf 37), .inl (cI, 36, .inl w66xm1))] H := hP
                            have hD : va_D A [((Rf 36), .inl (cI, 448, .inl w66xm2)), (h, .inr (10, ML w66xm0 Rf)), ((Rf 0), .inl (cI, 1302, .inl f0)), ((Rf 10), .inl (cI, 30, .inl f10)), ((Rf 8), .inl (cI, 6, .inl f8)), ((Rf 37), .inl (cI, 36, .inl w66xm1))] := hD
                            refine lv_if_eq (tgt := 96) hx hb dX10_who_87 rfl (fun c_42 => ?_) (fun c_42 => ?_)
                            · replace hF := hF.1 c_42
                              rw [if_pos c_42] at hE
                              refine lv_aload_n hx hb dX10_who_96 rfl (lv_at hl 4 rfl) ?_
                              refine va_get (D := D) (ci := 10) (v := .ref (Rf 36)) (C := RX10) (T := TX10) (N := 45) hx hb hts iX10 hown hK hP 1 rfl rfl 36 (Nat.le_of_ble_eq_true rfl) (hts _ wd_693) (fun _ h9 => h9) rfl dX10_who_97 ?_
                              refine lv_bipush (v := 64) hx hb dX10_who_100 rfl ?_
                              refine lv_iload_n hx hb dX10_who_102 rfl (lv_at hl 3 rfl) ?_
                              refine lv_iconst (v := 1) hx hb dX10_who_103 rfl ?_
                              refine lv_iadd hx hb dX10_who_104 ?_
                              refine lv_imul hx hb dX10_who_105 ?_
                              refine lv_iload hx hb dX10_who_106 (lv_at hl 2 rfl) ?_
                              refine lv_iconst (v := 1) hx hb dX10_who_108 rfl ?_
                              refine lv_iload hx hb dX10_who_109 (lv_at hl 0 rfl) ?_
                              refine lv_ishl hx hb dX10_who_111 ?_
                              refine lv_ior hx hb dX10_who_112 ?_
                              refine lv_iadd hx hb dX10_who_113 ?_
                              obtain ⟨hv_43, hF⟩ := hF
                              refine va_iald hx hb hK hP 0 0 rfl rfl hv_43 dX10_who_114 ?_
                              refine lv_istore (lv' := [(7, .int (w66xm2 (((64 * (w35xl3 + 1)) + (w42xl4 ||| ((1 : Int32) <<< (w66xl6 &&& 31)))) : Int32).toNatClampNeg)), (6, .int w66xl6), (5, .int w66xl5), (4, .int w42xl4), (3, .int w35xl3), (0, .ref h), (1, .int m_), (2, .int b_)]) hx hb dX10_who_115 hl (Nat.le_of_ble_eq_true rfl) rfl (fun ls hl => ?_)
                              refine lv_iload hx hb dX10_who_117 (lv_at hl 0 rfl) ?_
                              refine lv_ldcw (v := 1000000000) hx hb hown (hts _ wd_651) dX10_who_119 ?_
                              refine lv_icmp_eq (tgt := 143) hx hb dX10_who_122 rfl (fun c_44 => ?_) (fun c_44 => ?_)
                              · replace hF := hF.1 c_44
                                rw [if_pos c_44] at hE
                                refine lv_ldcw (v := 1000000000) hx hb hown (hts _ wd_651) dX10_who_143 ?_
                                refine lv_goto (tgt := 164) hx hb dX10_who_146 rfl ?_
                                refine lv_istore (lv' := [(8, .int 1000000000), (7, .int (w66xm2 (((64 * (w35xl3 + 1)) + (w42xl4 ||| ((1 : Int32) <<< (w66xl6 &&& 31)))) : Int32).toNatClampNeg)), (6, .int w66xl6), (5, .int w66xl5), (4, .int w42xl4), (3, .int w35xl3), (0, .ref h), (1, .int m_), (2, .int b_)]) hx hb dX10_who_164 hl (Nat.le_of_ble_eq_true rfl) rfl (fun ls hl => ?_)
                                refine lv_iload hx hb dX10_who_166 (lv_at hl 0 rfl) ?_
                                refine lv_iload hx hb dX10_who_168 (lv_at hl 3 rfl) ?_
                                refine lv_icmp_ge (tgt := 178) hx hb dX10_who_170 rfl (fun c_45 => ?_) (fun c_45 => ?_)
                                · replace hF := hF.1 c_45
                                  rw [if_pos c_45] at hE
                                  refine lv_iload hx hb dX10_who_178 (lv_at hl 3 rfl) ?_
                                  refine lv_istore (lv' := [(5, .int w66xl5), (8, .int 1000000000), (7, .int (w66xm2 (((64 * (w35xl3 + 1)) + (w42xl4 ||| ((1 : Int32) <<< (w66xl6 &&& 31)))) : Int32).toNatClampNeg)), (6, .int w66xl6), (4, .int w42xl4), (3, .int w35xl3), (0, .ref h), (1, .int m_), (2, .int b_)]) hx hb dX10_who_180 hl (Nat.le_of_ble_eq_true rfl) rfl (fun ls hl => ?_)
                                  refine lv_iinc (v := (w66xl6 + 1)) (lv' := [(6, .int (w66xl6 + 1)), (5, .int w66xl5), (8, .int 1000000000), (7, .int (w66xm2 (((64 * (w35xl3 + 1)) + (w42xl4 ||| ((1 : Int32) <<< (w66xl6 &&& 31)))) : Int32).toNatClampNeg)), (4, .int w42xl4), (3, .int w35xl3), (0, .ref h), (1, .int m_), (2, .int b_)]) hx hb dX10_who_182 hl (k := 3) rfl rfl (Nat.le_of_ble_eq_true rfl) rfl (fun ls hl => ?_)
                                  refine lv_goto (tgt := 66) hx hb dX10_who_185 rfl ?_
                                  exact ih_w66x (w66xl6 + 1) w66xl5 w66xm0 w66xm1 w66xm2 _ _ ls hP hD hS (lv_sub hl [0, 1, 4, 5, 6, 7, 8] rfl) hF hE
                                · replace hF := hF.2 c_45
                                  rw [if_neg c_45] at hE
                                  refine lv_iload hx hb dX10_who_173 (lv_at hl 0 rfl) ?_
                                  refine lv_goto (tgt := 180) hx hb dX10_who_175 rfl ?_
                                  refine lv_istore (lv' := [(5, .int 1000000000), (8, .int 1000000000), (7, .int (w66xm2 (((64 * (w35xl3 + 1)) + (w42xl4 ||| ((1 : Int32) <<< (w66xl6 &&& 31)))) : Int32).toNatClampNeg)), (6, .int w66xl6), (4, .int w42xl4), (3, .int w35xl3), (0, .ref h), (1, .int m_), (2, .int b_)]) hx hb dX10_who_180 hl (Nat.le_of_ble_eq_true rfl) rfl (fun ls hl => ?_)
                                  refine lv_iinc (v := (w66xl6 + 1)) (lv' := [(6, .int (w66xl6 + 1)), (5, .int 1000000000), (8, .int 1000000000), (7, .int (w66xm2 (((64 * (w35xl3 + 1)) + (w42xl4 ||| ((1 : Int32) <<< (w66xl6 &&& 31)))) : Int32).toNatClampNeg)), (4, .int w42xl4), (3, .int w35xl3), (0, .ref h), (1, .int m_), (2, .int b_)]) hx hb dX10_who_182 hl (k := 3) rfl rfl (Nat.le_of_ble_eq_true rfl) rfl (fun ls hl => ?_)
                                  refine lv_goto (tgt := 66) hx hb dX10_who_185 rfl ?_
                                  exact ih_w66x (w66xl6 + 1) 1000000000 w66xm0 w66xm1 w66xm2 _ _ ls hP hD hS (lv_sub hl [0, 1, 4, 5, 6, 7, 8] rfl) hF hE
                              · replace hF := hF.2 c_44
                                rw [if_neg c_44] at hE
                                refine lv_aload_n hx hb dX10_who_125 rfl (lv_at hl 5 rfl) ?_
                                refine va_get (D := D) (ci := 10) (v := .ref (Rf 37)) (C := RX10) (T := TX10) (N := 45) hx hb hts iX10 hown hK hP 1 rfl rfl 37 (Nat.le_of_ble_eq_true rfl) (hts _ wd_672) (fun _ h9 => h9) rfl dX10_who_126 ?_
                                refine lv_bipush (v := 6) hx hb dX10_who_129 rfl ?_
                                refine lv_iload_n hx hb dX10_who_131 rfl (lv_at hl 4 rfl) ?_
                                refine lv_imul hx hb dX10_who_132 ?_
                                refine lv_iload hx hb dX10_who_133 (lv_at hl 1 rfl) ?_
                                refine lv_iadd hx hb dX10_who_135 ?_
                                obtain ⟨hv_46, hF⟩ := hF
                                refine va_iald hx hb hK hP 5 0 rfl rfl hv_46 dX10_who_136 ?_
                                refine lv_ldcw (v := 1000000000) hx hb hown (hts _ wd_651) dX10_who_137 ?_
                                refine lv_icmp_ne (tgt := 149) hx hb dX10_who_140 rfl (fun c_47 => ?_) (fun c_47 => ?_)
                                · replace hF := hF.2 c_47
                                  rw [if_neg c_47] at hE
                                  refine lv_iload hx hb dX10_who_149 (lv_at hl 0 rfl) ?_
                                  refine lv_aload_n hx hb dX10_who_151 rfl (lv_at hl 5 rfl) ?_
                                  refine va_get (D := D) (ci := 10) (v := .ref (Rf 37)) (C := RX10) (T := TX10) (N := 45) hx hb hts iX10 hown hK hP 1 rfl rfl 37 (Nat.le_of_ble_eq_true rfl) (hts _ wd_672) (fun _ h9 => h9) rfl dX10_who_152 ?_
                                  refine lv_bipush (v := 6) hx hb dX10_who_155 rfl ?_
                                  refine lv_iload_n hx hb dX10_who_157 rfl (lv_at hl 4 rfl) ?_
                                  refine lv_imul hx hb dX10_who_158 ?_
                                  refine lv_iload hx hb dX10_who_159 (lv_at hl 1 rfl) ?_
                                  refine lv_iadd hx hb dX10_who_161 ?_
                                  obtain ⟨hv_48, hF⟩ := hF
                                  refine va_iald hx hb hK hP 5 0 rfl rfl hv_48 dX10_who_162 ?_
                                  refine lv_iadd hx hb dX10_who_163 ?_
                                  refine lv_istore (lv' := [(8, .int ((w66xm2 (((64 * (w35xl3 + 1)) + (w42xl4 ||| ((1 : Int32) <<< (w66xl6 &&& 31)))) : Int32).toNatClampNeg) + (w66xm1 (((6 * w35xl3) + w66xl6) : Int32).toNatClampNeg))), (7, .int (w66xm2 (((64 * (w35xl3 + 1)) + (w42xl4 ||| ((1 : Int32) <<< (w66xl6 &&& 31)))) : Int32).toNatClampNeg)), (6, .int w66xl6), (5, .int w66xl5), (4, .int w42xl4), (3, .int w35xl3), (0, .ref h), (1, .int m_), (2, .int b_)]) hx hb dX10_who_164 hl (Nat.le_of_ble_eq_true rfl) rfl (fun ls hl => ?_)
                                  refine lv_iload hx hb dX10_who_166 (lv_at hl 0 rfl) ?_
                                  refine lv_iload hx hb dX10_who_168 (lv_at hl 3 rfl) ?_
                                  refine lv_icmp_ge (tgt := 178) hx hb dX10_who_170 rfl (fun c_49 => ?_) (fun c_49 => ?_)
                                  · replace hF := hF.1 c_49
                                    rw [if_pos c_49] at hE
                                    refine lv_iload hx hb dX10_who_178 (lv_at hl 3 rfl) ?_
                                    refine lv_istore (lv' := [(5, .int w66xl5), (8, .int ((w66xm2 (((64 * (w35xl3 + 1)) + (w42xl4 ||| ((1 : Int32) <<< (w66xl6 &&& 31)))) : Int32).toNatClampNeg) + (w66xm1 (((6 * w35xl3) + w66xl6) : Int32).toNatClampNeg))), (7, .int (w66xm2 (((64 * (w35xl3 + 1)) + (w42xl4 ||| ((1 : Int32) <<< (w66xl6 &&& 31)))) : Int32).toNatClampNeg)), (6, .int w66xl6), (4, .int w42xl4), (3, .int w35xl3), (0, .ref h), (1, .int m_), (2, .int b_)]) hx hb dX10_who_180 hl (Nat.le_of_ble_eq_true rfl) rfl (fun ls hl => ?_)
                                    refine lv_iinc (v := (w66xl6 + 1)) (lv' := [(6, .int (w66xl6 + 1)), (5, .int w66xl5), (8, .int ((w66xm2 (((64 * (w35xl3 + 1)) + (w42xl4 ||| ((1 : Int32) <<< (w66xl6 &&& 31)))) : Int32).toNatClampNeg) + (w66xm1 (((6 * w35xl3) + w66xl6) : Int32).toNatClampNeg))), (7, .int (w66xm2 (((64 * (w35xl3 + 1)) + (w42xl4 ||| ((1 : Int32) <<< (w66xl6 &&& 31)))) : Int32).toNatClampNeg)), (4, .int w42xl4), (3, .int w35xl3), (0, .ref h), (1, .int m_), (2, .int b_)]) hx hb dX10_who_182 hl (k := 3) rfl rfl (Nat.le_of_ble_eq_true rfl) rfl (fun ls hl => ?_)
                                    refine lv_goto (tgt := 66) hx hb dX10_who_185 rfl ?_
                                    exact ih_w66x (w66xl6 + 1) w66xl5 w66xm0 w66xm1 w66xm2 _ _ ls hP hD hS (lv_sub hl [0, 1, 4, 5, 6, 7, 8] rfl) hF hE
                                  · replace hF := hF.2 c_49
                                    rw [if_neg c_49] at hE
                                    refine lv_iload hx hb dX10_who_173 (lv_at hl 0 rfl) ?_
                                    refine lv_goto (tgt := 180) hx hb dX10_who_175 rfl ?_
                                    refine lv_istore (lv' := [(5, .int ((w66xm2 (((64 * (w35xl3 + 1)) + (w42xl4 ||| ((1 : Int32) <<< (w66xl6 &&& 31)))) : Int32).toNatClampNeg) + (w66xm1 (((6 * w35xl3) + w66xl6) : Int32).toNatClampNeg))), (8, .int ((w66xm2 (((64 * (w35xl3 + 1)) + (w42xl4 ||| ((1 : Int32) <<< (w66xl6 &&& 31)))) : Int32).toNatClampNeg) + (w66xm1 (((6 * w35xl3) + w66xl6) : Int32).toNatClampNeg))), (7, .int (w66xm2 (((64 * (w35xl3 + 1)) + (w42xl4 ||| ((1 : Int32) <<< (w66xl6 &&& 31)))) : Int32).toNatClampNeg)), (6, .int w66xl6), (4, .int w42xl4), (3, .int w35xl3), (0, .ref h), (1, .int m_), (2, .int b_)]) hx hb dX10_who_180 hl (Nat.le_of_ble_eq_true rfl) rfl (fun ls hl => ?_)
                                    refine lv_iinc (v := (w66xl6 + 1)) (lv' := [(6, .int (w66xl6 + 1)), (5, .int ((w66xm2 (((64 * (w35xl3 + 1)) + (w42xl4 ||| ((1 : Int32) <<< (w66xl6 &&& 31)))) : Int32).toNatClampNeg) + (w66xm1 (((6 * w35xl3) + w66xl6) : Int32).toNatClampNeg))), (8, .int ((w66xm2 (((64 * (w35xl3 + 1)) + (w42xl4 ||| ((1 : Int32) <<< (w66xl6 &&& 31)))) : Int32).toNatClampNeg) + (w66xm1 (((6 * w35xl3) + w66xl6) : Int32).toNatClampNeg))), (7, .int (w66xm2 (((64 * (w35xl3 + 1)) + (w42xl4 ||| ((1 : Int32) <<< (w66xl6 &&& 31)))) : Int32).toNatClampNeg)), (4, .int w42xl4), (3, .int w35xl3), (0, .ref h), (1, .int m_), (2, .int b_)]) hx hb dX10_who_182 hl (k := 3) rfl rfl (Nat.le_of_ble_eq_true rfl) rfl (fun ls hl => ?_)
                                    refine lv_goto (tgt := 66) hx hb dX10_who_185 rfl ?_
                                    exact ih_w66x (w66xl6 + 1) ((w66xm2 (((64 * (w35xl3 + 1)) + (w42xl4 ||| ((1 : Int32) <<< (w66xl6 &&& 31)))) : Int32).toNatClampNeg) + (w66xm1 (((6 * w35xl3) + w66xl6) : Int32).toNatClampNeg)) w66xm0 w66xm1 w66xm2 _ _ ls hP hD hS (lv_sub hl [0, 1, 4, 5, 6, 7, 8] rfl) hF hE
                                · replace hF := hF.1 c_47
                                  rw [if_pos c_47] at hE
                                  refine lv_ldcw (v := 1000000000) hx hb hown (hts _ wd_651) dX10_who_143 ?_
                                  refine lv_goto (tgt := 164) hx hb dX10_who_146 rfl ?_
                                  refine lv_istore (lv' := [(8, .int 1000000000), (7, .int (w66xm2 (((64 * (w35xl3 + 1)) + (w42xl4 ||| ((1 : Int32) <<< (w66xl6 &&& 31)))) : Int32).toNatClampNeg)), (6, .int w66xl6), (5, .int w66xl5), (4, .int w42xl4), (3, .int w35xl3), (0, .ref h), (1, .int m_), (2, .int b_)]) hx hb dX10_who_164 hl (Nat.le_of_ble_eq_true rfl) rfl (fun ls hl => ?_)
                                  refine lv_iload hx hb dX10_who_166 (lv_at hl 0 rfl) ?_
                                  refine lv_iload hx hb dX10_who_168 (lv_at hl 3 rfl) ?_
                                  refine lv_icmp_ge (tgt := 178) hx hb dX10_who_170 rfl (fun c_50 => ?_) (fun c_50 => ?_)
                                  · replace hF := hF.1 c_50
                                    rw [if_pos c_50] at hE
                                    refine lv_iload hx hb dX10_who_178 (lv_at hl 3 rfl) ?_
                                    refine lv_istore (lv' := [(5, .int w66xl5), (8, .int 1000000000), (7, .int (w66xm2 (((64 * (w35xl3 + 1)) + (w42xl4 ||| ((1 : Int32) <<< (w66xl6 &&& 31)))) : Int32).toNatClampNeg)), (6, .int w66xl6), (4, .int w42xl4), (3, .int w35xl3), (0, .ref h), (1, .int m_), (2, .int b_)]) hx hb dX10_who_180 hl (Nat.le_of_ble_eq_true rfl) rfl (fun ls hl => ?_)
                                    refine lv_iinc (v := (w66xl6 + 1)) (lv' := [(6, .int (w66xl6 + 1)), (5, .int w66xl5), (8, .int 1000000000), (7, .int (w66xm2 (((64 * (w35xl3 + 1)) + (w42xl4 ||| ((1 : Int32) <<< (w66xl6 &&& 31)))) : Int32).toNatClampNeg)), (4, .int w42xl4), (3, .int w35xl3), (0, .ref h), (1, .int m_), (2, .int b_)]) hx hb dX10_who_182 hl (k := 3) rfl rfl (Nat.le_of_ble_eq_true rfl) rfl (fun ls hl => ?_)
                                    refine lv_goto (tgt := 66) hx hb dX10_who_185 rfl ?_
                                    exact ih_w66x (w66xl6 + 1) w66xl5 w66xm0 w66xm1 w66xm2 _ _ ls hP hD hS (lv_sub hl [0, 1, 4, 5, 6, 7, 8] rfl) hF hE
                                  · replace hF := hF.2 c_50
                                    rw [if_neg c_50] at hE
                                    refine lv_iload hx hb dX10_who_173 (lv_at hl 0 rfl) ?_
                                    refine lv_goto (tgt := 180) hx hb dX10_who_175 rfl ?_
                                    refine lv_istore (lv' := [(5, .int 1000000000), (8, .int 1000000000), (7, .int (w66xm2 (((64 * (w35xl3 + 1)) + (w42xl4 ||| ((1 : Int32) <<< (w66xl6 &&& 31)))) : Int32).toNatClampNeg)), (6, .int w66xl6), (4, .int w42xl4), (3, .int w35xl3), (0, .ref h), (1, .int m_), (2, .int b_)]) hx hb dX10_who_180 hl (Nat.le_of_ble_eq_true rfl) rfl (fun ls hl => ?_)
                                    refine lv_iinc (v := (w66xl6 + 1)) (lv' := [(6, .int (w66xl6 + 1)), (5, .int 1000000000), (8, .int 1000000000), (7, .int (w66xm2 (((64 * (w35xl3 + 1)) + (w42xl4 ||| ((1 : Int32) <<< (w66xl6 &&& 31)))) : Int32).toNatClampNeg)), (4, .int w42xl4), (3, .int w35xl3), (0, .ref h), (1, .int m_), (2, .int b_)]) hx hb dX10_who_182 hl (k := 3) rfl rfl (Nat.le_of_ble_eq_true rfl) rfl (fun ls hl => ?_)
                                    refine lv_goto (tgt := 66) hx hb dX10_who_185 rfl ?_
                                    exact ih_w66x (w66xl6 + 1) 1000000000 w66xm0 w66xm1 w66xm2 _ _ ls hP hD hS (lv_sub hl [0, 1, 4, 5, 6, 7, 8] rfl) hF hE
                            · replace hF := hF.2 c_42
                              rw [if_neg c_42] at hE
                              refine lv_ldcw (v := 1000000000) hx hb hown (hts _ wd_651) dX10_who_90 ?_
                              refine lv_goto (tgt := 115) hx hb dX10_who_93 rfl ?_
                              refine lv_istore (lv' := [(7, .int 1000000000), (6, .int w66xl6), (5, .int w66xl5), (4, .int w42xl4), (3, .int w35xl3), (0, .ref h), (1, .int m_), (2, .int b_)]) hx hb dX10_who_115 hl (Nat.le_of_ble_eq_true rfl) rfl (fun ls hl => ?_)
                              refine lv_iload hx hb dX10_who_117 (lv_at hl 0 rfl) ?_
                              refine lv_ldcw (v := 1000000000) hx hb hown (hts _ wd_651) dX10_who_119 ?_
                              refine lv_icmp_eq (tgt := 143) hx hb dX10_who_122 rfl (fun c_51 => ?_) (fun c_51 => absurd (by decide +kernel) c_51)
                              refine lv_ldcw (v := 1000000000) hx hb hown (hts _ wd_651) dX10_who_143 ?_
                              refine lv_goto (tgt := 164) hx hb dX10_who_146 rfl ?_
                              refine lv_istore (lv' := [(8, .int 1000000000), (7, .int 1000000000), (6, .int w66xl6), (5, .int w66xl5), (4, .int w42xl4), (3, .int w35xl3), (0, .ref h), (1, .int m_), (2, .int b_)]) hx hb dX10_who_164 hl (Nat.le_of_ble_eq_true rfl) rfl (fun ls hl => ?_)
                              refine lv_iload hx hb dX10_who_166 (lv_at hl 0 rfl) ?_
                              refine lv_iload hx hb dX10_who_168 (lv_at hl 3 rfl) ?_
                              refine lv_icmp_ge (tgt := 178) hx hb dX10_who_170 rfl (fun c_52 => ?_) (fun c_52 => ?_)
                              · replace hF := hF.1 c_52
                                rw [if_pos c_52] at hE
                                refine lv_iload hx hb dX10_who_178 (lv_at hl 3 rfl) ?_
                                refine lv_istore (lv' := [(5, .int w66xl5), (8, .int 1000000000), (7, .int 1000000000), (6, .int w66xl6), (4, .int w42xl4), (3, .int w35xl3), (0, .ref h), (1, .int m_), (2, .int b_)]) hx hb dX10_who_180 hl (Nat.le_of_ble_eq_true rfl) rfl (fun ls hl => ?_)
                                refine lv_iinc (v := (w66xl6 + 1)) (lv' := [(6, .int (w66xl6 + 1)), (5, .int w66xl5), (8, .int 1000000000), (7, .int 1000000000), (4, .int w42xl4), (3, .int w35xl3), (0, .ref h), (1, .int m_), (2, .int b_)]) hx hb dX10_who_182 hl (k := 3) rfl rfl (Nat.le_of_ble_eq_true rfl) rfl (fun ls hl => ?_)
                                refine lv_goto (tgt := 66) hx hb dX10_who_185 rfl ?_
                                exact ih_w66x (w66xl6 + 1) w66xl5 w66xm0 w66xm1 w66xm2 _ _ ls hP hD hS (lv_sub hl [0, 1, 4, 5, 6, 7, 8] rfl) hF hE
                              · replace hF := hF.2 c_52
                                rw [if_neg c_52] at hE
                                refine lv_iload hx hb dX10_who_173 (lv_at hl 0 rfl) ?_
                                refine lv_goto (tgt := 180) hx hb dX10_who_175 rfl ?_
                                refine lv_istore (lv' := [(5, .int 1000000000), (8, .int 1000000000), (7, .int 1000000000), (6, .int w66xl6), (4, .int w42xl4), (3, .int w35xl3), (0, .ref h), (1, .int m_), (2, .int b_)]) hx hb dX10_who_180 hl (Nat.le_of_ble_eq_true rfl) rfl (fun ls hl => ?_)
                                refine lv_iinc (v := (w66xl6 + 1)) (lv' := [(6, .int (w66xl6 + 1)), (5, .int 1000000000), (8, .int 1000000000), (7, .int 1000000000), (4, .int w42xl4), (3, .int w35xl3), (0, .ref h), (1, .int m_), (2, .int b_)]) hx hb dX10_who_182 hl (k := 3) rfl rfl (Nat.le_of_ble_eq_true rfl) rfl (fun ls hl => ?_)
                                refine lv_goto (tgt := 66) hx hb dX10_who_185 rfl ?_
                                exact ih_w66x (w66xl6 + 1) 1000000000 w66xm0 w66xm1 w66xm2 _ _ ls hP hD hS (lv_sub hl [0, 1, 4, 5, 6, 7, 8] rfl) hF hE
                    exact lp_66_w66x 10 0 1000000000 w42xm0 w42xm1 w42xm2 _ _ ls hP hD hS hl hF hE
                  · replace hF := hF.2 c_35
                    rw [if_neg c_35] at hE
                    refine lv_iconst (v := 0) hx hb dX10_who_54 rfl ?_
                    refine lv_goto (tgt := 61) hx hb dX10_who_55 rfl ?_
                    refine lv_istore (lv' := [(5, .int 0), (4, .int w42xl4), (3, .int w35xl3), (0, .ref h), (1, .int m_), (2, .int b_)]) hx hb dX10_who_61 hl (Nat.le_of_ble_eq_true rfl) rfl (fun ls hl => ?_)
                    refine lv_iconst (v := 0) hx hb dX10_who_63 rfl ?_
                    refine lv_istore (lv' := [(6, .int 0), (5, .int 0), (4, .int w42xl4), (3, .int w35xl3), (0, .ref h), (1, .int m_), (2, .int b_)]) hx hb dX10_who_64 hl (Nat.le_of_ble_eq_true rfl) rfl (fun ls hl => ?_)
                    have ex_66_w66x : ∀ (w66xl6 : Int32) (w66xl5 : Int32) (w66xm0 : (Nat → Int32)) (w66xm1 : (Nat → Int32)) (w66xm2 : (Nat → Int32)) (H : Heap) (locs : List Loc) (ls : Array Slot), va_P D classes [((Rf 36), .inl (cI, 448, .inl w66xm2)), (h, .inr (10, ML w66xm0 Rf)), ((Rf 0), .inl (cI, 1302, .inl f0)), ((Rf 10), .inl (cI, 30, .inl f10)), ((Rf 8), .inl (cI, 6, .inl f8)), ((Rf 37), .inl (cI, 36, .inl w66xm1))] H → va_D A [((Rf 36), .inl (cI, 448, .inl w66xm2)), (h, .inr (10, ML w66xm0 Rf)), ((Rf 0), .inl (cI, 1302, .inl f0)), ((Rf 10), .inl (cI, 30, .inl f10)), ((Rf 8), .inl (cI, 6, .inl f8)), ((Rf 37), .inl (cI, 36, .inl w66xm1))] → va_S A s.heap H locs → lv_has ls 9 [(6, .int w66xl6), (5, .int w66xl5), (4, .int w42xl4), (3, .int w35xl3), (0, .ref h), (1, .int m_), (2, .int b_)] → ((vp_in ((64 * w35xl3) + w42xl4) 448 ∧ (S_m_who_42 m_ w35xl3 (fun (w42xl4 : Int32) (w42xm0 : (Nat → Int32)) (w42xm1 : (Nat → Int32)) (w42xm2 : (Nat → Int32)) => (S_m_who_35 m_ (fun (w35xl3 : Int32) (w35xm0 : (Nat → Int32)) (w35xm1 : (Nat → Int32)) (w35xm2 : (Nat → Int32)) => (((w35xm2 (0 : Int32).toNatClampNeg) = 1000000000 → (((w35xm2 (0 : Int32).toNatClampNeg) = 1000000000 → True) ∧ (¬ (w35xm2 (0 : Int32).toNatClampNeg) = 1000000000 → True))) ∧ (¬ (w35xm2 (0 : Int32).toNatClampNeg) = 1000000000 → ((b_ = (-1) → (((w35xm2 (0 : Int32).toNatClampNeg) = 1000000000 → True) ∧ (¬ (w35xm2 (0 : Int32).toNatClampNeg) = 1000000000 → True))) ∧ (¬ b_ = (-1) → (S_m_who_262 b_ (fun (w262xl5 : Int32) (w262xl4 : Int32) (w262xl3 : Int32) (w262xm0 : (Nat → Int32)) (w262xm1 : (Nat → Int32)) (w262xm2 : (Nat → Int32)) => True) 10 0 (-1) 0 w35xm0 w35xm1 w35xm2)))))) n_w35x (w35xl3 + (-1)) w42xm0 w42xm1 w42xm2)) n_w42x (w42xl4 + 1) w66xm0 w66xm1 (upd w66xm2 (((64 * w35xl3) + w42xl4) : Int32).toNatClampNeg w66xl5)))) → (((match ((match ((f_m_who_42 m_ w35xl3 n_w42x (w42xl4 + 1) w66xm0 w66xm1 (upd w66xm2 (((64 * w35xl3) + w42xl4) : Int32).toNatClampNeg w66xl5)) : Int32 × (Nat → Int32) × (Nat → Int32) × (Nat → Int32)) with | (w42xl4, w42xm0, w42xm1, w42xm2) => (f_m_who_35 m_ n_w35x (w35xl3 + (-1)) w42xm0 w42xm1 w42xm2)) : Int32 × (Nat → Int32) × (Nat → Int32) × (Nat → Int32)) with | (w35xl3, w35xm0, w35xm1, w35xm2) => (if (w35xm2 (0 : Int32).toNatClampNeg) = 1000000000 then (if (w35xm2 (0 : Int32).toNatClampNeg) = 1000000000 then ((-1), w35xm0, w35xm1, w35xm2) else ((w35xm2 (0 : Int32).toNatClampNeg), w35xm0, w35xm1, w35xm2)) else (if b_ = (-1) then (if (w35xm2 (0 : Int32).toNatClampNeg) = 1000000000 then ((-1), w35xm0, w35xm1, w35xm2) else ((w35xm2 (0 : Int32).toNatClampNeg), w35xm0, w35xm1, w35xm2)) else (match ((f_m_who_262 b_ 10 0 (-1) 0 w35xm0 w35xm1 w35xm2) : Int32 × Int32 × Int32 × (Nat → Int32) × (Nat → Int32) × (Nat → Int32)) with | (w262xl5, w262xl4, w262xl3, w262xm0, w262xm1, w262xm2) => (w262xl4, w262xm0, w262xm1, w262xm2)))))) : Int32 × (Nat → Int32) × (Nat → Int32) × (Nat → Int32)) = RES → W p l e rm_m_who s m args below meth c H locs 0 0 Q (F0 m 188 ls []) := by
                      intro w66xl6 w66xl5 w66xm0 w66xm1 w66xm2 H locs ls hP hD hS hl hF hE
                      refine lv_aload_n hx hb dX10_who_188 rfl (lv_at hl 4 rfl) ?_
                      refine va_get (D := D) (ci := 10) (v := .ref (Rf 36)) (C := RX10) (T := TX10) (N := 45) hx hb hts iX10 hown hK hP 1 rfl rfl 36 (Nat.le_of_ble_eq_true rfl) (hts _ wd_693) (fun _ h9 => h9) rfl dX10_who_189 ?_
                      refine lv_bipush (v := 64) hx hb dX10_who_192 rfl ?_
                      refine lv_iload_n hx hb dX10_who_194 rfl (lv_at hl 3 rfl) ?_
                      refine lv_imul hx hb dX10_who_195 ?_
                      refine lv_iload hx hb dX10_who_196 (lv_at hl 2 rfl) ?_
                      refine lv_iadd hx hb dX10_who_198 ?_
                      refine lv_iload hx hb dX10_who_199 (lv_at hl 1 rfl) ?_
                      obtain ⟨hv_53, hF⟩ := hF
                      refine va_iast hx hb hK hP hD hS 0 0 rfl rfl hv_53 dX10_who_201 (fun H locs hP hD hS => ?_)
                      have hP : va_P D classes [((Rf 36), .inl (cI, 448, .inl (upd w66xm2 (((64 * w35xl3) + w42xl4) : Int32).toNatClampNeg w66xl5))), (h, .inr (10, ML w66xm0 Rf)), ((Rf 0), .inl (cI, 1302, .inl f0)), ((Rf 10), .inl (cI, 30, .inl f10)), ((Rf 8), .inl (cI, 6, .inl f8)), ((Rf 37), .inl (cI, 36, .inl w66xm1))] H := hP
                      have hD : va_D A [((Rf 36), .inl (cI, 448, .inl (upd w66xm2 (((64 * w35xl3) + w42xl4) : Int32).toNatClampNeg w66xl5))), (h, .inr (10, ML w66xm0 Rf)), ((Rf 0), .inl (cI, 1302, .inl f0)), ((Rf 10), .inl (cI, 30, .inl f10)), ((Rf 8), .inl (cI, 6, .inl f8)), ((Rf 37), .inl (cI, 36, .inl w66xm1))] := hD
                      refine lv_iinc (v := (w42xl4 + 1)) (lv' := [(4, .int (w42xl4 + 1)), (6, .int w66xl6), (5, .int w66xl5), (3, .int w35xl3), (0, .ref h), (1, .int m_), (2, .int b_)]) hx hb dX10_who_202 hl (k := 2) rfl rfl (Nat.le_of_ble_eq_true rfl) rfl (fun ls hl => ?_)
                      refine lv_goto (tgt := 42) hx hb dX10_who_205 rfl ?_
                      exact ih_w42x (w42xl4 + 1) w66xm0 w66xm1 (upd w66xm2 (((64 * w35xl3) + w42xl4) : Int32).toNatClampNeg w66xl5) _ _ ls hP hD hS (lv_sub hl [0, 3, 4, 5, 6] rfl) hF (up_step c_34 hm) hE
                    have lp_66_w66x : ∀ (n_w66x : Nat) (w66xl6 : Int32) (w66xl5 : Int32) (w66xm0 : (Nat → Int32)) (w66xm1 : (Nat → Int32)) (w66xm2 : (Nat → Int32)) (H : Heap) (locs : List Loc) (ls : Array Slot), va_P D classes [((Rf 36), .inl (cI, 448, .inl w66xm2)), (h, .inr (10, ML w66xm0 Rf)), ((Rf 0), .inl (cI, 1302, .inl f0)), ((Rf 10), .inl (cI, 30, .inl f10)), ((Rf 8), .inl (cI, 6, .inl f8)), ((Rf 37), .inl (cI, 36, .inl w66xm1))] H → va_D A [((Rf 36), .inl (cI, 448, .inl w66xm2)), (h, .inr (10, ML w66xm0 Rf)), ((Rf 0), .inl (cI, 1302, .inl f0)), ((Rf 10), .inl (cI, 30, .inl f10)), ((Rf 8), .inl (cI, 6, .inl f8)), ((Rf 37), .inl (cI, 36, .inl w66xm1))] → va_S A s.heap H locs → lv_has ls 9 [(6, .int w66xl6), (5, .int w66xl5), (4, .int w42xl4), (3, .int w35xl3), (0, .ref h), (1, .int m_), (2, .int b_)] → (S_m_who_66 m_ w35xl3 w42xl4 (fun (w66xl6 : Int32) (w66xl5 : Int32) (w66xm0 : (Nat → Int32)) (w66xm1 : (Nat → Int32)) (w66xm2 : (Nat → Int32)) => (vp_in ((64 * w35xl3) + w42xl4) 448 ∧ (S_m_who_42 m_ w35xl3 (fun (w42xl4 : Int32) (w42xm0 : (Nat → Int32)) (w42xm1 : (Nat → Int32)) (w42xm2 : (Nat → Int32)) => (S_m_who_35 m_ (fun (w35xl3 : Int32) (w35xm0 : (Nat → Int32)) (w35xm1 : (Nat → Int32)) (w35xm2 : (Nat → Int32)) => (((w35xm2 (0 : Int32).toNatClampNeg) = 1000000000 → (((w35xm2 (0 : Int32).toNatClampNeg) = 1000000000 → True) ∧ (¬ (w35xm2 (0 : Int32).toNatClampNeg) = 1000000000 → True))) ∧ (¬ (w35xm2 (0 : Int32).toNatClampNeg) = 1000000000 → ((b_ = (-1) → (((w35xm2 (0 : Int32).toNatClampNeg) = 1000000000 → True) ∧ (¬ (w35xm2 (0 : Int32).toNatClampNeg) = 1000000000 → True))) ∧ (¬ b_ = (-1) → (S_m_who_262 b_ (fun (w262xl5 : Int32) (w262xl4 : Int32) (w262xl3 : Int32) (w262xm0 : (Nat → Int32)) (w262xm1 : (Nat → Int32)) (w262xm2 : (Nat → Int32)) => True) 10 0 (-1) 0 w35xm0 w35xm1 w35xm2)))))) n_w35x (w35xl3 + (-1)) w42xm0 w42xm1 w42xm2)) n_w42x (w42xl4 + 1) w66xm0 w66xm1 (upd w66xm2 (((64 * w35xl3) + w42xl4) : Int32).toNatClampNeg w66xl5)))) n_w66x w66xl6 w66xl5 w66xm0 w66xm1 w66xm2) → ((match ((match ((match ((f_m_who_66 m_ w35xl3 w42xl4 n_w66x w66xl6 w66xl5 w66xm0 w66xm1 w66xm2) : Int32 × Int32 × (Nat → Int32) × (Nat → Int32) × (Nat → Int32)) with | (w66xl6, w66xl5, w66xm0, w66xm1, w66xm2) => (f_m_who_42 m_ w35xl3 n_w42x (w42xl4 + 1) w66xm0 w66xm1 (upd w66xm2 (((64 * w35xl3) + w42xl4) : Int32).toNatClampNeg w66xl5))) : Int32 × (Nat → Int32) × (Nat → Int32) × (Nat → Int32)) with | (w42xl4, w42xm0, w42xm1, w42xm2) => (f_m_who_35 m_ n_w35x (w35xl3 + (-1)) w42xm0 w42xm1 w42xm2)) : Int32 × (Nat → Int32) × (Nat → Int32) × (Nat → Int32)) with | (w35xl3, w35xm0, w35xm1, w35xm2) => (if (w35xm2 (0 : Int32).toNatClampNeg) = 1000000000 then (if (w35xm2 (0 : Int32).toNatClampNeg) = 1000000000 then ((-1), w35xm0, w35xm1, w35xm2) else ((w35xm2 (0 : Int32).toNatClampNeg), w35xm0, w35xm1, w35xm2)) else (if b_ = (-1) then (if (w35xm2 (0 : Int32).toNatClampNeg) = 1000000000 then ((-1), w35xm0, w35xm1, w35xm2) else ((w35xm2 (0 : Int32).toNatClampNeg), w35xm0, w35xm1, w35xm2)) else (match ((f_m_who_262 b_ 10 0 (-1) 0 w35xm0 w35xm1 w35xm2) : Int32 × Int32 × Int32 × (Nat → Int32) × (Nat → Int32) × (Nat → Int32)) with | (w262xl5, w262xl4, w262xl3, w262xm0, w262xm1, w262xm2) => (w262xl4, w262xm0, w262xm1, w262xm2))))) : Int32 × (Nat → Int32) × (Nat → Int32) × (Nat → Int32)) = RES → W p l e rm_m_who s m args below meth c H locs 0 0 Q (F0 m 66 ls []) := by
                      intro n_w66x
                      induction n_w66x with
                      | zero => intro w66xl6 w66xl5 w66xm0 w66xm1 w66xm2 H locs ls hP hD hS hl hF hE; exact False.elim hF
                      | succ n_w66x ih_w66x =>
                        intro w66xl6 w66xl5 w66xm0 w66xm1 w66xm2 H locs ls hP hD hS hl hF hE
                        rw [S_m_who_66_s] at hF
                        rw [f_m_who_66_s] at hE
                        refine lv_iload hx hb dX10_who_66 (lv_at hl 0 rfl) ?_
                        refine lv_aload_n hx hb dX10_who_68 rfl (lv_at hl 4 rfl) ?_
                        refine va_get (D := D) (ci := 10) (v := .int (w66xm0 5)) (C := RX10) (T := TX10) (N := 45) hx hb hts iX10 hown hK hP 1 rfl rfl 5 (Nat.le_of_ble_eq_true rfl) (hts _ wd_499) (fun _ h9 => h9) rfl dX10_who_69 ?_
                        refine lv_icmp_ge (tgt := 188) hx hb dX10_who_72 rfl (fun c_54 => ?_) (fun c_54 => ?_)
                        · replace hF := hF.1 c_54
                          rw [if_pos c_54] at hE
                          exact ex_66_w66x w66xl6 w66xl5 w66xm0 w66xm1 w66xm2 _ _ ls hP hD hS (lv_sub hl [0, 1, 2, 3, 4, 5, 6] rfl) hF hE
                        · replace hF := hF.2 c_54
                          rw [if_neg c_54] at hE
                          refine lv_iload_n hx hb dX10_who_75 rfl (lv_at hl 3 rfl) ?_
                          refine lv_iload_n hx hb dX10_who_76 rfl (lv_at hl 5 rfl) ?_
                          refine lv_icmp_gt (tgt := 188) hx hb dX10_who_77 rfl (fun c_55 => ?_) (fun c_55 => ?_)
                          · replace hF := hF.1 c_55
                            rw [if_pos c_55] at hE
                            exact ex_66_w66x w66xl6 w66xl5 w66xm0 w66xm1 w66xm2 _ _ ls hP hD hS (lv_sub hl [0, 1, 2, 3, 4, 5, 6] rfl) hF hE
                          · replace hF := hF.2 c_55
                            rw [if_neg c_55] at hE
                            refine lv_iload hx hb dX10_who_80 (lv_at hl 2 rfl) ?_
                            refine lv_iload hx hb dX10_who_82 (lv_at hl 0 rfl) ?_
                            obtain ⟨hs_56, hF⟩ := hF
                            refine cSi (wr := [((Rf 36), .inl (cI, 448, .inl w66xm2)), (h, .inr (10, ML w66xm0 Rf)), ((Rf 0), .inl (cI, 1302, .inl f0)), ((Rf 10), .inl (cI, 30, .inl f10)), ((Rf 8), .inl (cI, 6, .inl f8)), ((Rf 37), .inl (cI, 36, .inl w66xm1))]) (rest := []) (m_has w42xl4 w66xl6 hs_56) okS_X10_has wd_502 hx hb hml hown hts hK hP hD hS hA hN hl.1 [] [0, 1, 2, 3, 4, 5] rfl rfl rfl rfl (of_decide_eq_true rfl) rfl (Nat.le_of_ble_eq_true rfl) (Nat.le_of_ble_eq_true rfl) (Nat.le_of_ble_eq_true rfl) (Nat.le_of_ble_eq_true rfl) (Nat.le_of_ble_eq_true rfl) dX10_who_84 (fun r_58 u_57 H locs hw_u_57 hP hD hS => ?_)
                            replace hw_u_57 : r_58 = (f_m_has w42xl4 w66xl6) := hw_u_57
                            rw [hw_u_57]
                            clear hw_u_57
                            have hP : va_P D classes [((Rf 36), .inl (cI, 448, .inl w66xm2)), (h, .inr (10, ML w66xm0 Rf)), ((Rf 0), .inl (cI, 1302, .inl f0)), ((Rf 10), .inl (cI, 30, .inl f10)), ((Rf 8), .inl (cI, 6, .inl f8)), ((Rf 37), .inl (cI, 36, .inl w66xm1))] H := hP
                            have hD : va_D A [((Rf 36), .inl (cI, 448, .inl w66xm2)), (h, .inr (10, ML w66xm0 Rf)), ((Rf 0), .inl (cI, 1302, .inl f0)), ((Rf 10), .inl (cI, 30, .inl f10)), ((Rf 8), .inl (cI, 6, .inl f8)), ((Rf 37), .inl (cI, 36, .inl w66xm1))] := hD
                            refine lv_if_eq (tgt := 96) hx hb dX10_who_87 rfl (fun c_59 => ?_) (fun c_59 => ?_)
                            · replace hF := hF.1 c_59
                              rw [if_pos c_59] at hE
                              refine lv_aload_n hx hb dX10_who_96 rfl (lv_at hl 4 rfl) ?_
                              refine va_get (D := D) (ci := 10) (v := .ref (Rf 36)) (C := RX10) (T := TX10) (N := 45) hx hb hts iX10 hown hK hP 1 rfl rfl 36 (Nat.le_of_ble_eq_true rfl) (hts _ wd_693) (fun _ h9 => h9) rfl dX10_who_97 ?_
                              refine lv_bipush (v := 64) hx hb dX10_who_100 rfl ?_
                              refine lv_iload_n hx hb dX10_who_102 rfl (lv_at hl 3 rfl) ?_
                              refine lv_iconst (v := 1) hx hb dX10_who_103 rfl ?_
                              refine lv_iadd hx hb dX10_who_104 ?_
                              refine lv_imul hx hb dX10_who_105 ?_
                              refine lv_iload hx hb dX10_who_106 (lv_at hl 2 rfl) ?_
                              refine lv_iconst (v := 1) hx hb dX10_who_108 rfl ?_
                              refine lv_iload hx hb dX10_who_109 (lv_at hl 0 rfl) ?_
                              refine lv_ishl hx hb dX10_who_111 ?_
                              refine lv_ior hx hb dX10_who_112 ?_
                              refine lv_iadd hx hb dX10_who_113 ?_
                              obtain ⟨hv_60, hF⟩ := hF
                              refine va_iald hx hb hK hP 0 0 rfl rfl hv_60 dX10_who_114 ?_
                              refine lv_istore (lv' := [(7, .int (w66xm2 (((64 * (w35xl3 + 1)) + (w42xl4 ||| ((1 : Int32) <<< (w66xl6 &&& 31)))) : Int32).toNatClampNeg)), (6, .int w66xl6), (5, .int w66xl5), (4, .int w42xl4), (3, .int w35xl3), (0, .ref h), (1, .int m_), (2, .int b_)]) hx hb dX10_who_115 hl (Nat.le_of_ble_eq_true rfl) rfl (fun ls hl => ?_)
                              refine lv_iload hx hb dX10_who_117 (lv_at hl 0 rfl) ?_
                              refine lv_ldcw (v := 1000000000) hx hb hown (hts _ wd_651) dX10_who_119 ?_
                              refine lv_icmp_eq (tgt := 143) hx hb dX10_who_122 rfl (fun c_61 => ?_) (fun c_61 => ?_)
                              · replace hF := hF.1 c_61
                                rw [if_pos c_61] at hE
                                refine lv_ldcw (v := 1000000000) hx hb hown (hts _ wd_651) dX10_who_143 ?_
                                refine lv_goto (tgt := 164) hx hb dX10_who_146 rfl ?_
                                refine lv_istore (lv' := [(8, .int 1000000000), (7, .int (w66xm2 (((64 * (w35xl3 + 1)) + (w42xl4 ||| ((1 : Int32) <<< (w66xl6 &&& 31)))) : Int32).toNatClampNeg)), (6, .int w66xl6), (5, .int w66xl5), (4, .int w42xl4), (3, .int w35xl3), (0, .ref h), (1, .int m_), (2, .int b_)]) hx hb dX10_who_164 hl (Nat.le_of_ble_eq_true rfl) rfl (fun ls hl => ?_)
                                refine lv_iload hx hb dX10_who_166 (lv_at hl 0 rfl) ?_
                                refine lv_iload hx hb dX10_who_168 (lv_at hl 3 rfl) ?_
                                refine lv_icmp_ge (tgt := 178) hx hb dX10_who_170 rfl (fun c_62 => ?_) (fun c_62 => ?_)
                                · replace hF := hF.1 c_62
                                  rw [if_pos c_62] at hE
                                  refine lv_iload hx hb dX10_who_178 (lv_at hl 3 rfl) ?_
                                  refine lv_istore (lv' := [(5, .int w66xl5), (8, .int 1000000000), (7, .int (w66xm2 (((64 * (w35xl3 + 1)) + (w42xl4 ||| ((1 : Int32) <<< (w66xl6 &&& 31)))) : Int32).toNatClampNeg)), (6, .int w66xl6), (4, .int w42xl4), (3, .int w35xl3), (0, .ref h), (1, .int m_), (2, .int b_)]) hx hb dX10_who_180 hl (Nat.le_of_ble_eq_true rfl) rfl (fun ls hl => ?_)
                                  refine lv_iinc (v := (w66xl6 + 1)) (lv' := [(6, .int (w66xl6 + 1)), (5, .int w66xl5), (8, .int 1000000000), (7, .int (w66xm2 (((64 * (w35xl3 + 1)) + (w42xl4 ||| ((1 : Int32) <<< (w66xl6 &&& 31)))) : Int32).toNatClampNeg)), (4, .int w42xl4), (3, .int w35xl3), (0, .ref h), (1, .int m_), (2, .int b_)]) hx hb dX10_who_182 hl (k := 3) rfl rfl (Nat.le_of_ble_eq_true rfl) rfl (fun ls hl => ?_)
                                  refine lv_goto (tgt := 66) hx hb dX10_who_185 rfl ?_
                                  exact ih_w66x (w66xl6 + 1) w66xl5 w66xm0 w66xm1 w66xm2 _ _ ls hP hD hS (lv_sub hl [0, 1, 4, 5, 6, 7, 8] rfl) hF hE
                                · replace hF := hF.2 c_62
                                  rw [if_neg c_62] at hE
                                  refine lv_iload hx hb dX10_who_173 (lv_at hl 0 rfl) ?_
                                  refine lv_goto (tgt := 180) hx hb dX10_who_175 rfl ?_
                                  refine lv_istore (lv' := [(5, .int 1000000000), (8, .int 1000000000), (7, .int (w66xm2 (((64 * (w35xl3 + 1)) + (w42xl4 ||| ((1 : Int32) <<< (w66xl6 &&& 31)))) : Int32).toNatClampNeg)), (6, .int w66xl6), (4, .int w42xl4), (3, .int w35xl3), (0, .ref h), (1, .int m_), (2, .int b_)]) hx hb dX10_who_180 hl (Nat.le_of_ble_eq_true rfl) rfl (fun ls hl => ?_)
                                  refine lv_iinc (v := (w66xl6 + 1)) (lv' := [(6, .int (w66xl6 + 1)), (5, .int 1000000000), (8, .int 1000000000), (7, .int (w66xm2 (((64 * (w35xl3 + 1)) + (w42xl4 ||| ((1 : Int32) <<< (w66xl6 &&& 31)))) : Int32).toNatClampNeg)), (4, .int w42xl4), (3, .int w35xl3), (0, .ref h), (1, .int m_), (2, .int b_)]) hx hb dX10_who_182 hl (k := 3) rfl rfl (Nat.le_of_ble_eq_true rfl) rfl (fun ls hl => ?_)
                                  refine lv_goto (tgt := 66) hx hb dX10_who_185 rfl ?_
                                  exact ih_w66x (w66xl6 + 1) 1000000000 w66xm0 w66xm1 w66xm2 _ _ ls hP hD hS (lv_sub hl [0, 1, 4, 5, 6, 7, 8] rfl) hF hE
                              · replace hF := hF.2 c_61
                                rw [if_neg c_61] at hE
                                refine lv_aload_n hx hb dX10_who_125 rfl (lv_at hl 5 rfl) ?_
                                refine va_get (D := D) (ci := 10) (v := .ref (Rf 37)) (C := RX10) (T := TX10) (N := 45) hx hb hts iX10 hown hK hP 1 rfl rfl 37 (Nat.le_of_ble_eq_true rfl) (hts _ wd_672) (fun _ h9 => h9) rfl dX10_who_126 ?_
                                refine lv_bipush (v := 6) hx hb dX10_who_129 rfl ?_
                                refine lv_iload_n hx hb dX10_who_131 rfl (lv_at hl 4 rfl) ?_
                                refine lv_imul hx hb dX10_who_132 ?_
                                refine lv_iload hx hb dX10_who_133 (lv_at hl 1 rfl) ?_
                                refine lv_iadd hx hb dX10_who_135 ?_
                                obtain ⟨hv_63, hF⟩ := hF
                                refine va_iald hx hb hK hP 5 0 rfl rfl hv_63 dX10_who_136 ?_
                                refine lv_ldcw (v := 1000000000) hx hb hown (hts _ wd_651) dX10_who_137 ?_
                                refine lv_icmp_ne (tgt := 149) hx hb dX10_who_140 rfl (fun c_64 => ?_) (fun c_64 => ?_)
                                · replace hF := hF.2 c_64
                                  rw [if_neg c_64] at hE
                                  refine lv_iload hx hb dX10_who_149 (lv_at hl 0 rfl) ?_
                                  refine lv_aload_n hx hb dX10_who_151 rfl (lv_at hl 5 rfl) ?_
                                  refine va_get (D := D) (ci := 10) (v := .ref (Rf 37)) (C := RX10) (T := TX10) (N := 45) hx hb hts iX10 hown hK hP 1 rfl rfl 37 (Nat.le_of_ble_eq_true rfl) (hts _ wd_672) (fun _ h9 => h9) rfl dX10_who_152 ?_
                                  refine lv_bipush (v := 6) hx hb dX10_who_155 rfl ?_
                                  refine lv_iload_n hx hb dX10_who_157 rfl (lv_at hl 4 rfl) ?_
                                  refine lv_imul hx hb dX10_who_158 ?_
                                  refine lv_iload hx hb dX10_who_159 (lv_at hl 1 rfl) ?_
                                  refine lv_iadd hx hb dX10_who_161 ?_
                                  obtain ⟨hv_65, hF⟩ := hF
                                  refine va_iald hx hb hK hP 5 0 rfl rfl hv_65 dX10_who_162 ?_
                                  refine lv_iadd hx hb dX10_who_163 ?_
                                  refine lv_istore (lv' := [(8, .int ((w66xm2 (((64 * (w35xl3 + 1)) + (w42xl4 ||| ((1 : Int32) <<< (w66xl6 &&& 31)))) : Int32).toNatClampNeg) + (w66xm1 (((6 * w35xl3) + w66xl6) : Int32).toNatClampNeg))), (7, .int (w66xm2 (((64 * (w35xl3 + 1)) + (w42xl4 ||| ((1 : Int32) <<< (w66xl6 &&& 31)))) : Int32).toNatClampNeg)), (6, .int w66xl6), (5, .int w66xl5), (4, .int w42xl4), (3, .int w35xl3), (0, .ref h), (1, .int m_), (2, .int b_)]) hx hb dX10_who_164 hl (Nat.le_of_ble_eq_true rfl) rfl (fun ls hl => ?_)
                                  refine lv_iload hx hb dX10_who_166 (lv_at hl 0 rfl) ?_
                                  refine lv_iload hx hb dX10_who_168 (lv_at hl 3 rfl) ?_
                                  refine lv_icmp_ge (tgt := 178) hx hb dX10_who_170 rfl (fun c_66 => ?_) (fun c_66 => ?_)
                                  · replace hF := hF.1 c_66
                                    rw [if_pos c_66] at hE
                                    refine lv_iload hx hb dX10_who_178 (lv_at hl 3 rfl) ?_
                                    refine lv_istore (lv' := [(5, .int w66xl5), (8, .int ((w66xm2 (((64 * (w35xl3 + 1)) + (w42xl4 ||| ((1 : Int32) <<< (w66xl6 &&& 31)))) : Int32).toNatClampNeg) + (w66xm1 (((6 * w35xl3) + w66xl6) : Int32).toNatClampNeg))), (7, .int (w66xm2 (((64 * (w35xl3 + 1)) + (w42xl4 ||| ((1 : Int32) <<< (w66xl6 &&& 31)))) : Int32).toNatClampNeg)), (6, .int w66xl6), (4, .int w42xl4), (3, .int w35xl3), (0, .ref h), (1, .int m_), (2, .int b_)]) hx hb dX10_who_180 hl (Nat.le_of_ble_eq_true rfl) rfl (fun ls hl => ?_)
                                    refine lv_iinc (v := (w66xl6 + 1)) (lv' := [(6, .int (w66xl6 + 1)), (5, .int w66xl5), (8, .int ((w66xm2 (((64 * (w35xl3 + 1)) + (w42xl4 ||| ((1 : Int32) <<< (w66xl6 &&& 31)))) : Int32).toNatClampNeg) + (w66xm1 (((6 * w35xl3) + w66xl6) : Int32).toNatClampNeg))), (7, .int (w66xm2 (((64 * (w35xl3 + 1)) + (w42xl4 ||| ((1 : Int32) <<< (w66xl6 &&& 31)))) : Int32).toNatClampNeg)), (4, .int w42xl4), (3, .int w35xl3), (0, .ref h), (1, .int m_), (2, .int b_)]) hx hb dX10_who_182 hl (k := 3) rfl rfl (Nat.le_of_ble_eq_true rfl) rfl (fun ls hl => ?_)
                                    refine lv_goto (tgt := 66) hx hb dX10_who_185 rfl ?_
                                    exact ih_w66x (w66xl6 + 1) w66xl5 w66xm0 w66xm1 w66xm2 _ _ ls hP hD hS (lv_sub hl [0, 1, 4, 5, 6, 7, 8] rfl) hF hE
                                  · replace hF := hF.2 c_66
                                    rw [if_neg c_66] at hE
                                    refine lv_iload hx hb dX10_who_173 (lv_at hl 0 rfl) ?_
                                    refine lv_goto (tgt := 180) hx hb dX10_who_175 rfl ?_
                                    refine lv_istore (lv' := [(5, .int ((w66xm2 (((64 * (w35xl3 + 1)) + (w42xl4 ||| ((1 : Int32) <<< (w66xl6 &&& 31)))) : Int32).toNatClampNeg) + (w66xm1 (((6 * w35xl3) + w66xl6) : Int32).toNatClampNeg))), (8, .int ((w66xm2 (((64 * (w35xl3 + 1)) + (w42xl4 ||| ((1 : Int32) <<< (w66xl6 &&& 31)))) : Int32).toNatClampNeg) + (w66xm1 (((6 * w35xl3) + w66xl6) : Int32).toNatClampNeg))), (7, .int (w66xm2 (((64 * (w35xl3 + 1)) + (w42xl4 ||| ((1 : Int32) <<< (w66xl6 &&& 31)))) : Int32).toNatClampNeg)), (6, .int w66xl6), (4, .int w42xl4), (3, .int w35xl3), (0, .ref h), (1, .int m_), (2, .int b_)]) hx hb dX10_who_180 hl (Nat.le_of_ble_eq_true rfl) rfl (fun ls hl => ?_)
                                    refine lv_iinc (v := (w66xl6 + 1)) (lv' := [(6, .int (w66xl6 + 1)), (5, .int ((w66xm2 (((64 * (w35xl3 + 1)) + (w42xl4 ||| ((1 : Int32) <<< (w66xl6 &&& 31)))) : Int32).toNatClampNeg) + (w66xm1 (((6 * w35xl3) + w66xl6) : Int32).toNatClampNeg))), (8, .int ((w66xm2 (((64 * (w35xl3 + 1)) + (w42xl4 ||| ((1 : Int32) <<< (w66xl6 &&& 31)))) : Int32).toNatClampNeg) + (w66xm1 (((6 * w35xl3) + w66xl6) : Int32).toNatClampNeg))), (7, .int (w66xm2 (((64 * (w35xl3 + 1)) + (w42xl4 ||| ((1 : Int32) <<< (w66xl6 &&& 31)))) : Int32).toNatClampNeg)), (4, .int w42xl4), (3, .int w35xl3), (0, .ref h), (1, .int m_), (2, .int b_)]) hx hb dX10_who_182 hl (k := 3) rfl rfl (Nat.le_of_ble_eq_true rfl) rfl (fun ls hl => ?_)
                                    refine lv_goto (tgt := 66) hx hb dX10_who_185 rfl ?_
                                    exact ih_w66x (w66xl6 + 1) ((w66xm2 (((64 * (w35xl3 + 1)) + (w42xl4 ||| ((1 : Int32) <<< (w66xl6 &&& 31)))) : Int32).toNatClampNeg) + (w66xm1 (((6 * w35xl3) + w66xl6) : Int32).toNatClampNeg)) w66xm0 w66xm1 w66xm2 _ _ ls hP hD hS (lv_sub hl [0, 1, 4, 5, 6, 7, 8] rfl) hF hE
                                · replace hF := hF.1 c_64
                                  rw [if_pos c_64] at hE
                                  refine lv_ldcw (v := 1000000000) hx hb hown (hts _ wd_651) dX10_who_143 ?_
                                  refine lv_goto (tgt := 164) hx hb dX10_who_146 rfl ?_
                                  refine lv_istore (lv' := [(8, .int 1000000000), (7, .int (w66xm2 (((64 * (w35xl3 + 1)) + (w42xl4 ||| ((1 : Int32) <<< (w66xl6 &&& 31)))) : Int32).toNatClampNeg)), (6, .int w66xl6), (5, .int w66xl5), (4, .int w42xl4), (3, .int w35xl3), (0, .ref h), (1, .int m_), (2, .int b_)]) hx hb dX10_who_164 hl (Nat.le_of_ble_eq_true rfl) rfl (fun ls hl => ?_)
                                  refine lv_iload hx hb dX10_who_166 (lv_at hl 0 rfl) ?_
                                  refine lv_iload hx hb dX10_who_168 (lv_at hl 3 rfl) ?_
                                  refine lv_icmp_ge (tgt := 178) hx hb dX10_who_170 rfl (fun c_67 => ?_) (fun c_67 => ?_)
                                  · replace hF := hF.1 c_67
                                    rw [if_pos c_67] at hE
                                    refine lv_iload hx hb dX10_who_178 (lv_at hl 3 rfl) ?_
                                    refine lv_istore (lv' := [(5, .int w66xl5), (8, .int 1000000000), (7, .int (w66xm2 (((64 * (w35xl3 + 1)) + (w42xl4 ||| ((1 : Int32) <<< (w66xl6 &&& 31)))) : Int32).toNatClampNeg)), (6, .int w66xl6), (4, .int w42xl4), (3, .int w35xl3), (0, .ref h), (1, .int m_), (2, .int b_)]) hx hb dX10_who_180 hl (Nat.le_of_ble_eq_true rfl) rfl (fun ls hl => ?_)
                                    refine lv_iinc (v := (w66xl6 + 1)) (lv' := [(6, .int (w66xl6 + 1)), (5, .int w66xl5), (8, .int 1000000000), (7, .int (w66xm2 (((64 * (w35xl3 + 1)) + (w42xl4 ||| ((1 : Int32) <<< (w66xl6 &&& 31)))) : Int32).toNatClampNeg)), (4, .int w42xl4), (3, .int w35xl3), (0, .ref h), (1, .int m_), (2, .int b_)]) hx hb dX10_who_182 hl (k := 3) rfl rfl (Nat.le_of_ble_eq_true rfl) rfl (fun ls hl => ?_)
                                    refine lv_goto (tgt := 66) hx hb dX10_who_185 rfl ?_
                                    exact ih_w66x (w66xl6 + 1) w66xl5 w66xm0 w66xm1 w66xm2 _ _ ls hP hD hS (lv_sub hl [0, 1, 4, 5, 6, 7, 8] rfl) hF hE
                                  · replace hF := hF.2 c_67
                                    rw [if_neg c_67] at hE
                                    refine lv_iload hx hb dX10_who_173 (lv_at hl 0 rfl) ?_
                                    refine lv_goto (tgt := 180) hx hb dX10_who_175 rfl ?_
                                    refine lv_istore (lv' := [(5, .int 1000000000), (8, .int 1000000000), (7, .int (w66xm2 (((64 * (w35xl3 + 1)) + (w42xl4 ||| ((1 : Int32) <<< (w66xl6 &&& 31)))) : Int32).toNatClampNeg)), (6, .int w66xl6), (4, .int w42xl4), (3, .int w35xl3), (0, .ref h), (1, .int m_), (2, .int b_)]) hx hb dX10_who_180 hl (Nat.le_of_ble_eq_true rfl) rfl (fun ls hl => ?_)
                                    refine lv_iinc (v := (w66xl6 + 1)) (lv' := [(6, .int (w66xl6 + 1)), (5, .int 1000000000), (8, .int 1000000000), (7, .int (w66xm2 (((64 * (w35xl3 + 1)) + (w42xl4 ||| ((1 : Int32) <<< (w66xl6 &&& 31)))) : Int32).toNatClampNeg)), (4, .int w42xl4), (3, .int w35xl3), (0, .ref h), (1, .int m_), (2, .int b_)]) hx hb dX10_who_182 hl (k := 3) rfl rfl (Nat.le_of_ble_eq_true rfl) rfl (fun ls hl => ?_)
                                    refine lv_goto (tgt := 66) hx hb dX10_who_185 rfl ?_
                                    exact ih_w66x (w66xl6 + 1) 1000000000 w66xm0 w66xm1 w66xm2 _ _ ls hP hD hS (lv_sub hl [0, 1, 4, 5, 6, 7, 8] rfl) hF hE
                            · replace hF := hF.2 c_59
                              rw [if_neg c_59] at hE
                              refine lv_ldcw (v := 1000000000) hx hb hown (hts _ wd_651) dX10_who_90 ?_
                              refine lv_goto (tgt := 115) hx hb dX10_who_93 rfl ?_
                              refine lv_istore (lv' := [(7, .int 1000000000), (6, .int w66xl6), (5, .int w66xl5), (4, .int w42xl4), (3, .int w35xl3), (0, .ref h), (1, .int m_), (2, .int b_)]) hx hb dX10_who_115 hl (Nat.le_of_ble_eq_true rfl) rfl (fun ls hl => ?_)
                              refine lv_iload hx hb dX10_who_117 (lv_at hl 0 rfl) ?_
                              refine lv_ldcw (v := 1000000000) hx hb hown (hts _ wd_651) dX10_who_119 ?_
                              refine lv_icmp_eq (tgt := 143) hx hb dX10_who_122 rfl (fun c_68 => ?_) (fun c_68 => absurd (by decide +kernel) c_68)
                              refine lv_ldcw (v := 1000000000) hx hb hown (hts _ wd_651) dX10_who_143 ?_
                              refine lv_goto (tgt := 164) hx hb dX10_who_146 rfl ?_
                              refine lv_istore (lv' := [(8, .int 1000000000), (7, .int 1000000000), (6, .int w66xl6), (5, .int w66xl5), (4, .int w42xl4), (3, .int w35xl3), (0, .ref h), (1, .int m_), (2, .int b_)]) hx hb dX10_who_164 hl (Nat.le_of_ble_eq_true rfl) rfl (fun ls hl => ?_)
                              refine lv_iload hx hb dX10_who_166 (lv_at hl 0 rfl) ?_
                              refine lv_iload hx hb dX10_who_168 (lv_at hl 3 rfl) ?_
                              refine lv_icmp_ge (tgt := 178) hx hb dX10_who_170 rfl (fun c_69 => ?_) (fun c_69 => ?_)
                              · replace hF := hF.1 c_69
                                rw [if_pos c_69] at hE
                                refine lv_iload hx hb dX10_who_178 (lv_at hl 3 rfl) ?_
                                refine lv_istore (lv' := [(5, .int w66xl5), (8, .int 1000000000), (7, .int 1000000000), (6, .int w66xl6), (4, .int w42xl4), (3, .int w35xl3), (0, .ref h), (1, .int m_), (2, .int b_)]) hx hb dX10_who_180 hl (Nat.le_of_ble_eq_true rfl) rfl (fun ls hl => ?_)
                                refine lv_iinc (v := (w66xl6 + 1)) (lv' := [(6, .int (w66xl6 + 1)), (5, .int w66xl5), (8, .int 1000000000), (7, .int 1000000000), (4, .int w42xl4), (3, .int w35xl3), (0, .ref h), (1, .int m_), (2, .int b_)]) hx hb dX10_who_182 hl (k := 3) rfl rfl (Nat.le_of_ble_eq_true rfl) rfl (fun ls hl => ?_)
                                refine lv_goto (tgt := 66) hx hb dX10_who_185 rfl ?_
                                exact ih_w66x (w66xl6 + 1) w66xl5 w66xm0 w66xm1 w66xm2 _ _ ls hP hD hS (lv_sub hl [0, 1, 4, 5, 6, 7, 8] rfl) hF hE
                              · replace hF := hF.2 c_69
                                rw [if_neg c_69] at hE
                                refine lv_iload hx hb dX10_who_173 (lv_at hl 0 rfl) ?_
                                refine lv_goto (tgt := 180) hx hb dX10_who_175 rfl ?_
                                refine lv_istore (lv' := [(5, .int 1000000000), (8, .int 1000000000), (7, .int 1000000000), (6, .int w66xl6), (4, .int w42xl4), (3, .int w35xl3), (0, .ref h), (1, .int m_), (2, .int b_)]) hx hb dX10_who_180 hl (Nat.le_of_ble_eq_true rfl) rfl (fun ls hl => ?_)
                                refine lv_iinc (v := (w66xl6 + 1)) (lv' := [(6, .int (w66xl6 + 1)), (5, .int 1000000000), (8, .int 1000000000), (7, .int 1000000000), (4, .int w42xl4), (3, .int w35xl3), (0, .ref h), (1, .int m_), (2, .int b_)]) hx hb dX10_who_182 hl (k := 3) rfl rfl (Nat.le_of_ble_eq_true rfl) rfl (fun ls hl => ?_)
                                refine lv_goto (tgt := 66) hx hb dX10_who_185 rfl ?_
                                exact ih_w66x (w66xl6 + 1) 1000000000 w66xm0 w66xm1 w66xm2 _ _ ls hP hD hS (lv_sub hl [0, 1, 4, 5, 6, 7, 8] rfl) hF hE
                    exact lp_66_w66x 10 0 0 w42xm0 w42xm1 w42xm2 _ _ ls hP hD hS hl hF hE
            exact lp_42_w42x (((64 : Int32).toInt - (0 : Int32).toInt).toNat + 1) 0 w35xm0 w35xm1 w35xm2 _ _ ls hP hD hS hl hF (Nat.lt_succ_self _) hE
      exact lp_35_w35x 10 (m_ + 1) o_9 o_10 f36 _ _ ls hP hD hS hl hF hE
    · replace hF := hF.2 c_5
      rw [if_neg c_5] at hE
      refine lv_iload_n hx hb dX10_who_13 rfl (lv_at hl 2 rfl) ?_
      refine lv_i2l (v := b_.toInt64) hx hb dX10_who_14 rfl ?_
      refine lv_lconst (v := 0) hx hb dX10_who_15 rfl ?_
      refine lv_iload_n hx hb dX10_who_16 rfl (lv_at hl 1 rfl) ?_
      refine lv_i2l (v := m_.toInt64) hx hb dX10_who_17 rfl ?_
      obtain ⟨hs_70, hF⟩ := hF
      refine cSi (wr := [((Rf 0), .inl (cI, 1302, .inl f0)), ((Rf 10), .inl (cI, 30, .inl f10)), ((Rf 8), .inl (cI, 6, .inl f8)), ((Rf 37), .inl (cI, 36, .inl f37)), ((Rf 36), .inl (cI, 448, .inl f36)), (h, .inr (10, ML G Rf))]) (rest := []) (m_in b_.toInt64 0 m_.toInt64 hs_70) okS_X10_in wd_495 hx hb hml hown hts hK hP hD hS hA hN hl.1 [] [0, 1, 2, 3, 4, 5] rfl rfl rfl rfl (of_decide_eq_true rfl) rfl (Nat.le_of_ble_eq_true rfl) (Nat.le_of_ble_eq_true rfl) (Nat.le_of_ble_eq_true rfl) (Nat.le_of_ble_eq_true rfl) (Nat.le_of_ble_eq_true rfl) dX10_who_18 (fun r_72 u_71 H locs hw_u_71 hP hD hS => ?_)
      replace hw_u_71 : r_72 = (f_m_in b_.toInt64 0 m_.toInt64) := hw_u_71
      rw [hw_u_71]
      clear hw_u_71
      have hP : va_P D classes [((Rf 0), .inl (cI, 1302, .inl f0)), ((Rf 10), .inl (cI, 30, .inl f10)), ((Rf 8), .inl (cI, 6, .inl f8)), ((Rf 37), .inl (cI, 36, .inl f37)), ((Rf 36), .inl (cI, 448, .inl f36)), (h, .inr (10, ML G Rf))] H := hP
      have hD : va_D A [((Rf 0), .inl (cI, 1302, .inl f0)), ((Rf 10), .inl (cI, 30, .inl f10)), ((Rf 8), .inl (cI, 6, .inl f8)), ((Rf 37), .inl (cI, 36, .inl f37)), ((Rf 36), .inl (cI, 448, .inl f36)), (h, .inr (10, ML G Rf))] := hD
      refine lv_if_ne (tgt := 27) hx hb dX10_who_21 rfl (fun c_73 => ?_) (fun c_73 => ?_)
      · replace hF := hF.2 c_73
        rw [if_neg c_73] at hE
        refine lv_aload_n hx hb dX10_who_27 rfl (lv_at hl 0 rfl) ?_
        obtain ⟨hs_74, hF⟩ := hF
        refine cVv (wr := [((Rf 36), .inl (cI, 448, .inl f36))]) (rest := []) (m_layCosts Rf h G f0 f10 f8 f37 hs_74) okV_X10_layCosts wd_689 hx hb hml hown hts hK hP hD hS hA hN hl.1 [5, 0, 1, 2, 3] [4] rfl rfl rfl rfl (of_decide_eq_true rfl) rfl rfl rfl (Nat.le_of_ble_eq_true rfl) (Nat.le_of_ble_eq_true rfl) (Nat.le_of_ble_eq_true rfl) (Nat.le_of_ble_eq_true rfl) (Nat.le_of_ble_eq_true rfl) dX10_who_28 (fun u_75 H locs hw_u_75 hP hD hS => ?_)
        obtain ⟨o_77, o_78⟩ := u_75
        replace hw_u_75 : (o_77, o_78) = (f_m_layCosts G f0 f10 f8 f37) := hw_u_75
        replace hF := hF o_77 o_78 hw_u_75
        rw [← hw_u_75] at hE
        replace hE : ((match ((f_m_who_35 m_ 10 (m_ + 1) o_77 o_78 f36) : Int32 × (Nat → Int32) × (Nat → Int32) × (Nat → Int32)) with | (w35xl3, w35xm0, w35xm1, w35xm2) => (if (w35xm2 (0 : Int32).toNatClampNeg) = 1000000000 then (if (w35xm2 (0 : Int32).toNatClampNeg) = 1000000000 then ((-1), w35xm0, w35xm1, w35xm2) else ((w35xm2 (0 : Int32).toNatClampNeg), w35xm0, w35xm1, w35xm2)) else (if b_ = (-1) then (if (w35xm2 (0 : Int32).toNatClampNeg) = 1000000000 then ((-1), w35xm0, w35xm1, w35xm2) else ((w35xm2 (0 : Int32).toNatClampNeg), w35xm0, w35xm1, w35xm2)) else (match ((f_m_who_262 b_ 10 0 (-1) 0 w35xm0 w35xm1 w35xm2) : Int32 × Int32 × Int32 × (Nat → Int32) × (Nat → Int32) × (Nat → Int32)) with | (w262xl5, w262xl4, w262xl3, w262xm0, w262xm1, w262xm2) => (w262xl4, w262xm0, w262xm1, w262xm2))))) : Int32 × (Nat → Int32) × (Nat → Int32) × (Nat → Int32)) = RES := hE
        have hP : va_P D classes [((Rf 36), .inl (cI, 448, .inl f36)), (h, .inr (10, ML o_77 Rf)), ((Rf 0), .inl (cI, 1302, .inl f0)), ((Rf 10), .inl (cI, 30, .inl f10)), ((Rf 8), .inl (cI, 6, .inl f8)), ((Rf 37), .inl (cI, 36, .inl o_78))] H := hP
        have hD : va_D A [((Rf 36), .inl (cI, 448, .inl f36)), (h, .inr (10, ML o_77 Rf)), ((Rf 0), .inl (cI, 1302, .inl f0)), ((Rf 10), .inl (cI, 30, .inl f10)), ((Rf 8), .inl (cI, 6, .inl f8)), ((Rf 37), .inl (cI, 36, .inl o_78))] := hD
        refine lv_iload_n hx hb dX10_who_31 rfl (lv_at hl 1 rfl) ?_
        refine lv_iconst (v := 1) hx hb dX10_who_32 rfl ?_
        refine lv_iadd hx hb dX10_who_33 ?_
        refine lv_istore_n (lv' := [(3, .int (m_ + 1)), (0, .ref h), (1, .int m_), (2, .int b_)]) hx hb dX10_who_34 rfl hl (Nat.le_of_ble_eq_true rfl) rfl (fun ls hl => ?_)
        have ex_35_w35x : ∀ (w35xl3 : Int32) (w35xm0 : (Nat → Int32)) (w35xm1 : (Nat → Int32)) (w35xm2 : (Nat → Int32)) (H : Heap) (locs : List Loc) (ls : Array Slot), va_P D classes [((Rf 36), .inl (cI, 448, .inl w35xm2)), (h, .inr (10, ML w35xm0 Rf)), ((Rf 0), .inl (cI, 1302, .inl f0)), ((Rf 10), .inl (cI, 30, .inl f10)), ((Rf 8), .inl (cI, 6, .inl f8)), ((Rf 37), .inl (cI, 36, .inl w35xm1))] H → va_D A [((Rf 36), .inl (cI, 448, .inl w35xm2)), (h, .inr (10, ML w35xm0 Rf)), ((Rf 0), .inl (cI, 1302, .inl f0)), ((Rf 10), .inl (cI, 30, .inl f10)), ((Rf 8), .inl (cI, 6, .inl f8)), ((Rf 37), .inl (cI, 36, .inl w35xm1))] → va_S A s.heap H locs → lv_has ls 9 [(3, .int w35xl3), (0, .ref h), (1, .int m_), (2, .int b_)] → ((((w35xm2 (0 : Int32).toNatClampNeg) = 1000000000 → (((w35xm2 (0 : Int32).toNatClampNeg) = 1000000000 → True) ∧ (¬ (w35xm2 (0 : Int32).toNatClampNeg) = 1000000000 → True))) ∧ (¬ (w35xm2 (0 : Int32).toNatClampNeg) = 1000000000 → ((b_ = (-1) → (((w35xm2 (0 : Int32).toNatClampNeg) = 1000000000 → True) ∧ (¬ (w35xm2 (0 : Int32).toNatClampNeg) = 1000000000 → True))) ∧ (¬ b_ = (-1) → (S_m_who_262 b_ (fun (w262xl5 : Int32) (w262xl4 : Int32) (w262xl3 : Int32) (w262xm0 : (Nat → Int32)) (w262xm1 : (Nat → Int32)) (w262xm2 : (Nat → Int32)) => True) 10 0 (-1) 0 w35xm0 w35xm1 w35xm2)))))) → (((if (w35xm2 (0 : Int32).toNatClampNeg) = 1000000000 then (if (w35xm2 (0 : Int32).toNatClampNeg) = 1000000000 then ((-1), w35xm0, w35xm1, w35xm2) else ((w35xm2 (0 : Int32).toNatClampNeg), w35xm0, w35xm1, w35xm2)) else (if b_ = (-1) then (if (w35xm2 (0 : Int32).toNatClampNeg) = 1000000000 then ((-1), w35xm0, w35xm1, w35xm2) else ((w35xm2 (0 : Int32).toNatClampNeg), w35xm0, w35xm1, w35xm2)) else (match ((f_m_who_262 b_ 10 0 (-1) 0 w35xm0 w35xm1 w35xm2) : Int32 × Int32 × Int32 × (Nat → Int32) × (Nat → Int32) × (Nat → Int32)) with | (w262xl5, w262xl4, w262xl3, w262xm0, w262xm1, w262xm2) => (w262xl4, w262xm0, w262xm1, w262xm2))))) : Int32 × (Nat → Int32) × (Nat → Int32) × (Nat → Int32)) = RES → W p l e rm_m_who s m args below meth c H locs 0 0 Q (F0 m 214 ls []) := by
          intro w35xl3 w35xm0 w35xm1 w35xm2 H locs ls hP hD hS hl hF hE
          refine lv_aload_n hx hb dX10_who_214 rfl (lv_at hl 1 rfl) ?_
          refine va_get (D := D) (ci := 10) (v := .ref (Rf 36)) (C := RX10) (T := TX10) (N := 45) hx hb hts iX10 hown hK hP 1 rfl rfl 36 (Nat.le_of_ble_eq_true rfl) (hts _ wd_693) (fun _ h9 => h9) rfl dX10_who_215 ?_
          refine lv_iconst (v := 0) hx hb dX10_who_218 rfl ?_
          refine va_iald hx hb hK hP 0 0 rfl rfl (show ¬ ((0 : Int32) < 0 ∨ 448 ≤ (0 : Int32).toNatClampNeg) by decide +kernel) dX10_who_219 ?_
          refine lv_ldcw (v := 1000000000) hx hb hown (hts _ wd_651) dX10_who_220 ?_
          refine lv_icmp_eq (tgt := 231) hx hb dX10_who_223 rfl (fun c_79 => ?_) (fun c_79 => ?_)
          · replace hF := hF.1 c_79
            rw [if_pos c_79] at hE
            refine lv_aload_n hx hb dX10_who_231 rfl (lv_at hl 1 rfl) ?_
            refine va_get (D := D) (ci := 10) (v := .ref (Rf 36)) (C := RX10) (T := TX10) (N := 45) hx hb hts iX10 hown hK hP 1 rfl rfl 36 (Nat.le_of_ble_eq_true rfl) (hts _ wd_693) (fun _ h9 => h9) rfl dX10_who_232 ?_
            refine lv_iconst (v := 0) hx hb dX10_who_235 rfl ?_
            refine va_iald hx hb hK hP 0 0 rfl rfl (show ¬ ((0 : Int32) < 0 ∨ 448 ≤ (0 : Int32).toNatClampNeg) by decide +kernel) dX10_who_236 ?_
            refine lv_ldcw (v := 1000000000) hx hb hown (hts _ wd_651) dX10_who_237 ?_
            refine lv_icmp_ne (tgt := 247) hx hb dX10_who_240 rfl (fun c_80 => ?_) (fun c_80 => ?_)
            · replace hF := hF.2 c_80
              rw [if_neg c_80] at hE
              refine lv_aload_n hx hb dX10_who_247 rfl (lv_at hl 1 rfl) ?_
              refine va_get (D := D) (ci := 10) (v := .ref (Rf 36)) (C := RX10) (T := TX10) (N := 45) hx hb hts iX10 hown hK hP 1 rfl rfl 36 (Nat.le_of_ble_eq_true rfl) (hts _ wd_693) (fun _ h9 => h9) rfl dX10_who_248 ?_
              refine lv_iconst (v := 0) hx hb dX10_who_251 rfl ?_
              refine va_iald hx hb hK hP 0 0 rfl rfl (show ¬ ((0 : Int32) < 0 ∨ 448 ≤ (0 : Int32).toNatClampNeg) by decide +kernel) dX10_who_252 ?_
              exact hret (w35xm2 (0 : Int32).toNatClampNeg) (w35xm0, w35xm1, w35xm2) _ _ _ _ dX10_who_253 rfl hE (cutP (isC := [1, 2, 3, 4, 5, 0]) hP rfl) (cutD (isC := [1, 2, 3, 4, 5, 0]) hD rfl rfl) hS
            · replace hF := hF.1 c_80
              rw [if_pos c_80] at hE
              refine lv_iconst (v := (-1)) hx hb dX10_who_243 rfl ?_
              refine lv_goto (tgt := 253) hx hb dX10_who_244 rfl ?_
              exact hret (-1) (w35xm0, w35xm1, w35xm2) _ _ _ _ dX10_who_253 rfl hE (cutP (isC := [1, 2, 3, 4, 5, 0]) hP rfl) (cutD (isC := [1, 2, 3, 4, 5, 0]) hD rfl rfl) hS
          · replace hF := hF.2 c_79
            rw [if_neg c_79] at hE
            refine lv_iload_n hx hb dX10_who_226 rfl (lv_at hl 3 rfl) ?_
            refine lv_iconst (v := (-1)) hx hb dX10_who_227 rfl ?_
            refine lv_icmp_ne (tgt := 254) hx hb dX10_who_228 rfl (fun c_81 => ?_) (fun c_81 => ?_)
            · replace hF := hF.2 c_81
              rw [if_neg c_81] at hE
              refine lv_iconst (v := 0) hx hb dX10_who_254 rfl ?_
              refine lv_istore_n (lv' := [(3, .int 0), (0, .ref h), (1, .int m_), (2, .int b_)]) hx hb dX10_who_255 rfl hl (Nat.le_of_ble_eq_true rfl) rfl (fun ls hl => ?_)
              refine lv_iconst (v := (-1)) hx hb dX10_who_256 rfl ?_
              refine lv_istore (lv' := [(4, .int (-1)), (3, .int 0), (0, .ref h), (1, .int m_), (2, .int b_)]) hx hb dX10_who_257 hl (Nat.le_of_ble_eq_true rfl) rfl (fun ls hl => ?_)
              refine lv_iconst (v := 0) hx hb dX10_who_259 rfl ?_
              refine lv_istore (lv' := [(5, .int 0), (4, .int (-1)), (3, .int 0), (0, .ref h), (1, .int m_), (2, .int b_)]) hx hb dX10_who_260 hl (Nat.le_of_ble_eq_true rfl) rfl (fun ls hl => ?_)
              have ex_262_w262x : ∀ (w262xl5 : Int32) (w262xl4 : Int32) (w262xl3 : Int32) (w262xm0 : (Nat → Int32)) (w262xm1 : (Nat → Int32)) (w262xm2 : (Nat → Int32)) (H : Heap) (locs : List Loc) (ls : Array Slot), va_P D classes [((Rf 36), .inl (cI, 448, .inl w262xm2)), (h, .inr (10, ML w262xm0 Rf)), ((Rf 0), .inl (cI, 1302, .inl f0)), ((Rf 10), .inl (cI, 30, .inl f10)), ((Rf 8), .inl (cI, 6, .inl f8)), ((Rf 37), .inl (cI, 36, .inl w262xm1))] H → va_D A [((Rf 36), .inl (cI, 448, .inl w262xm2)), (h, .inr (10, ML w262xm0 Rf)), ((Rf 0), .inl (cI, 1302, .inl f0)), ((Rf 10), .inl (cI, 30, .inl f10)), ((Rf 8), .inl (cI, 6, .inl f8)), ((Rf 37), .inl (cI, 36, .inl w262xm1))] → va_S A s.heap H locs → lv_has ls 9 [(5, .int w262xl5), (4, .int w262xl4), (3, .int w262xl3), (0, .ref h), (1, .int m_), (2, .int b_)] → (True) → (((w262xl4, w262xm0, w262xm1, w262xm2)) : Int32 × (Nat → Int32) × (Nat → Int32) × (Nat → Int32)) = RES → W p l e rm_m_who s m args below meth c H locs 0 0 Q (F0 m 425 ls []) := by
                intro w262xl5 w262xl4 w262xl3 w262xm0 w262xm1 w262xm2 H locs ls hP hD hS hl hF hE
                refine lv_iload hx hb dX10_who_425 (lv_at hl 1 rfl) ?_
                exact hret w262xl4 (w262xm0, w262xm1, w262xm2) _ _ _ _ dX10_who_427 rfl hE (cutP (isC := [1, 2, 3, 4, 5, 0]) hP rfl) (cutD (isC := [1, 2, 3, 4, 5, 0]) hD rfl rfl) hS
              have lp_262_w262x : ∀ (n_w262x : Nat) (w262xl5 : Int32) (w262xl4 : Int32) (w262xl3 : Int32) (w262xm0 : (Nat → Int32)) (w262xm1 : (Nat → Int32)) (w262xm2 : (Nat → Int32)) (H : Heap) (locs : List Loc) (ls : Array Slot), va_P D classes [((Rf 36), .inl (cI, 448, .inl w262xm2)), (h, .inr (10, ML w262xm0 Rf)), ((Rf 0), .inl (cI, 1302, .inl f0)), ((Rf 10), .inl (cI, 30, .inl f10)), ((Rf 8), .inl (cI, 6, .inl f8)), ((Rf 37), .inl (cI, 36, .inl w262xm1))] H → va_D A [((Rf 36), .inl (cI, 448, .inl w262xm2)), (h, .inr (10, ML w262xm0 Rf)), ((Rf 0), .inl (cI, 1302, .inl f0)), ((Rf 10), .inl (cI, 30, .inl f10)), ((Rf 8), .inl (cI, 6, .inl f8)), ((Rf 37), .inl (cI, 36, .inl w262xm1))] → va_S A s.heap H locs → lv_has ls 9 [(5, .int w262xl5), (4, .int w262xl4), (3, .int w262xl3), (0, .ref h), (1, .int m_), (2, .int b_)] → (S_m_who_262 b_ (fun (w262xl5 : Int32) (w262xl4 : Int32) (w262xl3 : Int32) (w262xm0 : (Nat → Int32)) (w262xm1 : (Nat → Int32)) (w262xm2 : (Nat → Int32)) => True) n_w262x w262xl5 w262xl4 w262xl3 w262xm0 w262xm1 w262xm2) → ((match ((f_m_who_262 b_ n_w262x w262xl5 w262xl4 w262xl3 w262xm0 w262xm1 w262xm2) : Int32 × Int32 × Int32 × (Nat → Int32) × (Nat → Int32) × (Nat → Int32)) with | (w262xl5, w262xl4, w262xl3, w262xm0, w262xm1, w262xm2) => (w262xl4, w262xm0, w262xm1, w262xm2)) : Int32 × (Nat → Int32) × (Nat → Int32) × (Nat → Int32)) = RES → W p l e rm_m_who s m args below meth c H locs 0 0 Q (F0 m 262 ls []) := by
                intro n_w262x
                induction n_w262x with
                | zero => intro w262xl5 w262xl4 w262xl3 w262xm0 w262xm1 w262xm2 H locs ls hP hD hS hl hF hE; exact False.elim hF
                | succ n_w262x ih_w262x =>
                  intro w262xl5 w262xl4 w262xl3 w262xm0 w262xm1 w262xm2 H locs ls hP hD hS hl hF hE
                  rw [S_m_who_262_s] at hF
                  rw [f_m_who_262_s] at hE
                  refine lv_iload hx hb dX10_who_262 (lv_at hl 0 rfl) ?_
                  refine lv_iload_n hx hb dX10_who_264 rfl (lv_at hl 5 rfl) ?_
                  refine lv_icmp_gt (tgt := 425) hx hb dX10_who_265 rfl (fun c_82 => ?_) (fun c_82 => ?_)
                  · replace hF := hF.1 c_82
                    rw [if_pos c_82] at hE
                    exact ex_262_w262x w262xl5 w262xl4 w262xl3 w262xm0 w262xm1 w262xm2 _ _ ls hP hD hS (lv_sub hl [0, 1, 2, 3, 4, 5] rfl) hF hE
                  · replace hF := hF.2 c_82
                    rw [if_neg c_82] at hE
                    refine lv_iconst (v := (-1)) hx hb dX10_who_268 rfl ?_
                    refine lv_istore (lv' := [(4, .int (-1)), (5, .int w262xl5), (3, .int w262xl3), (0, .ref h), (1, .int m_), (2, .int b_)]) hx hb dX10_who_269 hl (Nat.le_of_ble_eq_true rfl) rfl (fun ls hl => ?_)
                    refine lv_aload_n hx hb dX10_who_271 rfl (lv_at hl 3 rfl) ?_
                    refine va_get (D := D) (ci := 10) (v := .int (w262xm0 5)) (C := RX10) (T := TX10) (N := 45) hx hb hts iX10 hown hK hP 1 rfl rfl 5 (Nat.le_of_ble_eq_true rfl) (hts _ wd_499) (fun _ h9 => h9) rfl dX10_who_272 ?_
                    refine lv_iconst (v := 1) hx hb dX10_who_275 rfl ?_
                    refine lv_isub hx hb dX10_who_276 ?_
                    refine lv_istore (lv' := [(6, .int ((w262xm0 5) - 1)), (4, .int (-1)), (5, .int w262xl5), (3, .int w262xl3), (0, .ref h), (1, .int m_), (2, .int b_)]) hx hb dX10_who_277 hl (Nat.le_of_ble_eq_true rfl) rfl (fun ls hl => ?_)
                    have ex_279_w279x : ∀ (w279xl6 : Int32) (w279xl4 : Int32) (w279xm0 : (Nat → Int32)) (w279xm1 : (Nat → Int32)) (w279xm2 : (Nat → Int32)) (H : Heap) (locs : List Loc) (ls : Array Slot), va_P D classes [((Rf 36), .inl (cI, 448, .inl w279xm2)), (h, .inr (10, ML w279xm0 Rf)), ((Rf 0), .inl (cI, 1302, .inl f0)), ((Rf 10), .inl (cI, 30, .inl f10)), ((Rf 8), .inl (cI, 6, .inl f8)), ((Rf 37), .inl (cI, 36, .inl w279xm1))] H → va_D A [((Rf 36), .inl (cI, 448, .inl w279xm2)), (h, .inr (10, ML w279xm0 Rf)), ((Rf 0), .inl (cI, 1302, .inl f0)), ((Rf 10), .inl (cI, 30, .inl f10)), ((Rf 8), .inl (cI, 6, .inl f8)), ((Rf 37), .inl (cI, 36, .inl w279xm1))] → va_S A s.heap H locs → lv_has ls 9 [(6, .int w279xl6), (4, .int w279xl4), (5, .int w262xl5), (3, .int w262xl3), (0, .ref h), (1, .int m_), (2, .int b_)] → ((S_m_who_262 b_ (fun (w262xl5 : Int32) (w262xl4 : Int32) (w262xl3 : Int32) (w262xm0 : (Nat → Int32)) (w262xm1 : (Nat → Int32)) (w262xm2 : (Nat → Int32)) => True) n_w262x (w262xl5 + 1) w279xl4 (w262xl3 ||| ((1 : Int32) <<< (w279xl4 &&& 31))) w279xm0 w279xm1 w279xm2)) → (((match ((f_m_who_262 b_ n_w262x (w262xl5 + 1) w279xl4 (w262xl3 ||| ((1 : Int32) <<< (w279xl4 &&& 31))) w279xm0 w279xm1 w279xm2) : Int32 × Int32 × Int32 × (Nat → Int32) × (Nat → Int32) × (Nat → Int32)) with | (w262xl5, w262xl4, w262xl3, w262xm0, w262xm1, w262xm2) => (w262xl4, w262xm0, w262xm1, w262xm2))) : Int32 × (Nat → Int32) × (Nat → Int32) × (Nat → Int32)) = RES → W p l e rm_m_who s m args below meth c H locs 0 0 Q (F0 m 412 ls []) := by
                      intro w279xl6 w279xl4 w279xm0 w279xm1 w279xm2 H locs ls hP hD hS hl hF hE
                      refine lv_iload_n hx hb dX10_who_412 rfl (lv_at hl 3 rfl) ?_
                      refine lv_iconst (v := 1) hx hb dX10_who_413 rfl ?_
                      refine lv_iload hx hb dX10_who_414 (lv_at hl 1 rfl) ?_
                      refine lv_ishl hx hb dX10_who_416 ?_
                      refine lv_ior hx hb dX10_who_417 ?_
                      refine lv_istore_n (lv' := [(3, .int (w262xl3 ||| ((1 : Int32) <<< (w279xl4 &&& 31)))), (6, .int w279xl6), (4, .int w279xl4), (5, .int w262xl5), (0, .ref h), (1, .int m_), (2, .int b_)]) hx hb dX10_who_418 rfl hl (Nat.le_of_ble_eq_true rfl) rfl (fun ls hl => ?_)
                      refine lv_iinc (v := (w262xl5 + 1)) (lv' := [(5, .int (w262xl5 + 1)), (3, .int (w262xl3 ||| ((1 : Int32) <<< (w279xl4 &&& 31)))), (6, .int w279xl6), (4, .int w279xl4), (0, .ref h), (1, .int m_), (2, .int b_)]) hx hb dX10_who_419 hl (k := 3) rfl rfl (Nat.le_of_ble_eq_true rfl) rfl (fun ls hl => ?_)
                      refine lv_goto (tgt := 262) hx hb dX10_who_422 rfl ?_
                      exact ih_w262x (w262xl5 + 1) w279xl4 (w262xl3 ||| ((1 : Int32) <<< (w279xl4 &&& 31))) w279xm0 w279xm1 w279xm2 _ _ ls hP hD hS (lv_sub hl [0, 3, 1, 4, 5, 6] rfl) hF hE
                    have lp_279_w279x : ∀ (n_w279x : Nat) (w279xl6 : Int32) (w279xl4 : Int32) (w279xm0 : (Nat → Int32)) (w279xm1 : (Nat → Int32)) (w279xm2 : (Nat → Int32)) (H : Heap) (locs : List Loc) (ls : Array Slot), va_P D classes [((Rf 36), .inl (cI, 448, .inl w279xm2)), (h, .inr (10, ML w279xm0 Rf)), ((Rf 0), .inl (cI, 1302, .inl f0)), ((Rf 10), .inl (cI, 30, .inl f10)), ((Rf 8), .inl (cI, 6, .inl f8)), ((Rf 37), .inl (cI, 36, .inl w279xm1))] H → va_D A [((Rf 36), .inl (cI, 448, .inl w279xm2)), (h, .inr (10, ML w279xm0 Rf)), ((Rf 0), .inl (cI, 1302, .inl f0)), ((Rf 10), .inl (cI, 30, .inl f10)), ((Rf 8), .inl (cI, 6, .inl f8)), ((Rf 37), .inl (cI, 36, .inl w279xm1))] → va_S A s.heap H locs → lv_has ls 9 [(6, .int w279xl6), (4, .int w279xl4), (5, .int w262xl5), (3, .int w262xl3), (0, .ref h), (1, .int m_), (2, .int b_)] → (S_m_who_279 w262xl5 w262xl3 (fun (w279xl6 : Int32) (w279xl4 : Int32) (w279xm0 : (Nat → Int32)) (w279xm1 : (Nat → Int32)) (w279xm2 : (Nat → Int32)) => (S_m_who_262 b_ (fun (w262xl5 : Int32) (w262xl4 : Int32) (w262xl3 : Int32) (w262xm0 : (Nat → Int32)) (w262xm1 : (Nat → Int32)) (w262xm2 : (Nat → Int32)) => True) n_w262x (w262xl5 + 1) w279xl4 (w262xl3 ||| ((1 : Int32) <<< (w279xl4 &&& 31))) w279xm0 w279xm1 w279xm2)) n_w279x w279xl6 w279xl4 w279xm0 w279xm1 w279xm2) → ((match ((match ((f_m_who_279 w262xl5 w262xl3 n_w279x w279xl6 w279xl4 w279xm0 w279xm1 w279xm2) : Int32 × Int32 × (Nat → Int32) × (Nat → Int32) × (Nat → Int32)) with | (w279xl6, w279xl4, w279xm0, w279xm1, w279xm2) => (f_m_who_262 b_ n_w262x (w262xl5 + 1) w279xl4 (w262xl3 ||| ((1 : Int32) <<< (w279xl4 &&& 31))) w279xm0 w279xm1 w279xm2)) : Int32 × Int32 × Int32 × (Nat → Int32) × (Nat → Int32) × (Nat → Int32)) with | (w262xl5, w262xl4, w262xl3, w262xm0, w262xm1, w262xm2) => (w262xl4, w262xm0, w262xm1, w262xm2)) : Int32 × (Nat → Int32) × (Nat → Int32) × (Nat → Int32)) = RES → W p l e rm_m_who s m args below meth c H locs 0 0 Q (F0 m 279 ls []) := by
                      intro n_w279x
                      induction n_w279x with
                      | zero => intro w279xl6 w279xl4 w279xm0 w279xm1 w279xm2 H locs ls hP hD hS hl hF hE; exact False.elim hF
                      | succ n_w279x ih_w279x =>
                        intro w279xl6 w279xl4 w279xm0 w279xm1 w279xm2 H locs ls hP hD hS hl hF hE
                        rw [S_m_who_279_s] at hF
                        rw [f_m_who_279_s] at hE
                        refine lv_iload hx hb dX10_who_279 (lv_at hl 0 rfl) ?_
                        refine lv_if_lt (tgt := 412) hx hb dX10_who_281 rfl (fun c_83 => ?_) (fun c_83 => ?_)
                        · replace hF := hF.1 c_83
                          rw [if_pos c_83] at hE
                          exact ex_279_w279x w279xl6 w279xl4 w279xm0 w279xm1 w279xm2 _ _ ls hP hD hS (lv_sub hl [0, 1, 2, 3, 4, 5, 6] rfl) hF hE
                        · replace hF := hF.2 c_83
                          rw [if_neg c_83] at hE
                          refine lv_iload_n hx hb dX10_who_284 rfl (lv_at hl 3 rfl) ?_
                          refine lv_iload hx hb dX10_who_285 (lv_at hl 0 rfl) ?_
                          obtain ⟨hs_84, hF⟩ := hF
                          refine cSi (wr := [((Rf 36), .inl (cI, 448, .inl w279xm2)), (h, .inr (10, ML w279xm0 Rf)), ((Rf 0), .inl (cI, 1302, .inl f0)), ((Rf 10), .inl (cI, 30, .inl f10)), ((Rf 8), .inl (cI, 6, .inl f8)), ((Rf 37), .inl (cI, 36, .inl w279xm1))]) (rest := []) (m_has w262xl3 w279xl6 hs_84) okS_X10_has wd_502 hx hb hml hown hts hK hP hD hS hA hN hl.1 [] [0, 1, 2, 3, 4, 5] rfl rfl rfl rfl (of_decide_eq_true rfl) rfl (Nat.le_of_ble_eq_true rfl) (Nat.le_of_ble_eq_true rfl) (Nat.le_of_ble_eq_true rfl) (Nat.le_of_ble_eq_true rfl) (Nat.le_of_ble_eq_true rfl) dX10_who_287 (fun r_86 u_85 H locs hw_u_85 hP hD hS => ?_)
                          replace hw_u_85 : r_86 = (f_m_has w262xl3 w279xl6) := hw_u_85
                          rw [hw_u_85]
                          clear hw_u_85
                          have hP : va_P D classes [((Rf 36), .inl (cI, 448, .inl w279xm2)), (h, .inr (10, ML w279xm0 Rf)), ((Rf 0), .inl (cI, 1302, .inl f0)), ((Rf 10), .inl (cI, 30, .inl f10)), ((Rf 8), .inl (cI, 6, .inl f8)), ((Rf 37), .inl (cI, 36, .inl w279xm1))] H := hP
                          have hD : va_D A [((Rf 36), .inl (cI, 448, .inl w279xm2)), (h, .inr (10, ML w279xm0 Rf)), ((Rf 0), .inl (cI, 1302, .inl f0)), ((Rf 10), .inl (cI, 30, .inl f10)), ((Rf 8), .inl (cI, 6, .inl f8)), ((Rf 37), .inl (cI, 36, .inl w279xm1))] := hD
                          refine lv_if_ne (tgt := 341) hx hb dX10_who_290 rfl (fun c_87 => ?_) (fun c_87 => ?_)
                          · replace hF := hF.2 c_87
                            rw [if_neg c_87] at hE
                            refine lv_iconst (v := 0) hx hb dX10_who_341 rfl ?_
                            refine lv_istore (lv' := [(7, .int 0), (6, .int w279xl6), (4, .int w279xl4), (5, .int w262xl5), (3, .int w262xl3), (0, .ref h), (1, .int m_), (2, .int b_)]) hx hb dX10_who_342 hl (Nat.le_of_ble_eq_true rfl) rfl (fun ls hl => ?_)
                            refine lv_iload hx hb dX10_who_344 (lv_at hl 0 rfl) ?_
                            refine lv_if_eq (tgt := 402) hx hb dX10_who_346 rfl (fun c_88 => ?_) (fun c_88 => absurd (by decide +kernel) c_88)
                            refine lv_iload hx hb dX10_who_402 (lv_at hl 2 rfl) ?_
                            refine lv_istore (lv' := [(4, .int w279xl4), (7, .int 0), (6, .int w279xl6), (5, .int w262xl5), (3, .int w262xl3), (0, .ref h), (1, .int m_), (2, .int b_)]) hx hb dX10_who_404 hl (Nat.le_of_ble_eq_true rfl) rfl (fun ls hl => ?_)
                            refine lv_iinc (v := (w279xl6 + (-1))) (lv' := [(6, .int (w279xl6 + (-1))), (4, .int w279xl4), (7, .int 0), (5, .int w262xl5), (3, .int w262xl3), (0, .ref h), (1, .int m_), (2, .int b_)]) hx hb dX10_who_406 hl (k := 2) rfl rfl (Nat.le_of_ble_eq_true rfl) rfl (fun ls hl => ?_)
                            refine lv_goto (tgt := 279) hx hb dX10_who_409 rfl ?_
                            exact ih_w279x (w279xl6 + (-1)) w279xl4 w279xm0 w279xm1 w279xm2 _ _ ls hP hD hS (lv_sub hl [0, 1, 3, 4, 5, 6, 7] rfl) hF hE
                          · replace hF := hF.1 c_87
                            rw [if_pos c_87] at hE
                            refine lv_aload_n hx hb dX10_who_293 rfl (lv_at hl 4 rfl) ?_
                            refine va_get (D := D) (ci := 10) (v := .ref (Rf 37)) (C := RX10) (T := TX10) (N := 45) hx hb hts iX10 hown hK hP 1 rfl rfl 37 (Nat.le_of_ble_eq_true rfl) (hts _ wd_672) (fun _ h9 => h9) rfl dX10_who_294 ?_
                            refine lv_bipush (v := 6) hx hb dX10_who_297 rfl ?_
                            refine lv_iload hx hb dX10_who_299 (lv_at hl 2 rfl) ?_
                            refine lv_imul hx hb dX10_who_301 ?_
                            refine lv_iload hx hb dX10_who_302 (lv_at hl 0 rfl) ?_
                            refine lv_iadd hx hb dX10_who_304 ?_
                            obtain ⟨hv_89, hF⟩ := hF
                            refine va_iald hx hb hK hP 5 0 rfl rfl hv_89 dX10_who_305 ?_
                            refine lv_ldcw (v := 1000000000) hx hb hown (hts _ wd_651) dX10_who_306 ?_
                            refine lv_icmp_eq (tgt := 341) hx hb dX10_who_309 rfl (fun c_90 => ?_) (fun c_90 => ?_)
                            · replace hF := hF.1 c_90
                              rw [if_pos c_90] at hE
                              refine lv_iconst (v := 0) hx hb dX10_who_341 rfl ?_
                              refine lv_istore (lv' := [(7, .int 0), (6, .int w279xl6), (4, .int w279xl4), (5, .int w262xl5), (3, .int w262xl3), (0, .ref h), (1, .int m_), (2, .int b_)]) hx hb dX10_who_342 hl (Nat.le_of_ble_eq_true rfl) rfl (fun ls hl => ?_)
                              refine lv_iload hx hb dX10_who_344 (lv_at hl 0 rfl) ?_
                              refine lv_if_eq (tgt := 402) hx hb dX10_who_346 rfl (fun c_91 => ?_) (fun c_91 => absurd (by decide +kernel) c_91)
                              refine lv_iload hx hb dX10_who_402 (lv_at hl 2 rfl) ?_
                              refine lv_istore (lv' := [(4, .int w279xl4), (7, .int 0), (6, .int w279xl6), (5, .int w262xl5), (3, .int w262xl3), (0, .ref h), (1, .int m_), (2, .int b_)]) hx hb dX10_who_404 hl (Nat.le_of_ble_eq_true rfl) rfl (fun ls hl => ?_)
                              refine lv_iinc (v := (w279xl6 + (-1))) (lv' := [(6, .int (w279xl6 + (-1))), (4, .int w279xl4), (7, .int 0), (5, .int w262xl5), (3, .int w262xl3), (0, .ref h), (1, .int m_), (2, .int b_)]) hx hb dX10_who_406 hl (k := 2) rfl rfl (Nat.le_of_ble_eq_true rfl) rfl (fun ls hl => ?_)
                              refine lv_goto (tgt := 279) hx hb dX10_who_409 rfl ?_
                              exact ih_w279x (w279xl6 + (-1)) w279xl4 w279xm0 w279xm1 w279xm2 _ _ ls hP hD hS (lv_sub hl [0, 1, 3, 4, 5, 6, 7] rfl) hF hE
                            · replace hF := hF.2 c_90
                              rw [if_neg c_90] at hE
                              refine lv_aload_n hx hb dX10_who_312 rfl (lv_at hl 4 rfl) ?_
                              refine va_get (D := D) (ci := 10) (v := .ref (Rf 36)) (C := RX10) (T := TX10) (N := 45) hx hb hts iX10 hown hK hP 1 rfl rfl 36 (Nat.le_of_ble_eq_true rfl) (hts _ wd_693) (fun _ h9 => h9) rfl dX10_who_313 ?_
                              refine lv_bipush (v := 64) hx hb dX10_who_316 rfl ?_
                              refine lv_iload hx hb dX10_who_318 (lv_at hl 2 rfl) ?_
                              refine lv_iconst (v := 1) hx hb dX10_who_320 rfl ?_
                              refine lv_iadd hx hb dX10_who_321 ?_
                              refine lv_imul hx hb dX10_who_322 ?_
                              refine lv_iload_n hx hb dX10_who_323 rfl (lv_at hl 3 rfl) ?_
                              refine lv_iconst (v := 1) hx hb dX10_who_324 rfl ?_
                              refine lv_iload hx hb dX10_who_325 (lv_at hl 0 rfl) ?_
                              refine lv_ishl hx hb dX10_who_327 ?_
                              refine lv_ior hx hb dX10_who_328 ?_
                              refine lv_iadd hx hb dX10_who_329 ?_
                              obtain ⟨hv_92, hF⟩ := hF
                              refine va_iald hx hb hK hP 0 0 rfl rfl hv_92 dX10_who_330 ?_
                              refine lv_ldcw (v := 1000000000) hx hb hown (hts _ wd_651) dX10_who_331 ?_
                              refine lv_icmp_eq (tgt := 341) hx hb dX10_who_334 rfl (fun c_93 => ?_) (fun c_93 => ?_)
                              · replace hF := hF.1 c_93
                                rw [if_pos c_93] at hE
                                refine lv_iconst (v := 0) hx hb dX10_who_341 rfl ?_
                                refine lv_istore (lv' := [(7, .int 0), (6, .int w279xl6), (4, .int w279xl4), (5, .int w262xl5), (3, .int w262xl3), (0, .ref h), (1, .int m_), (2, .int b_)]) hx hb dX10_who_342 hl (Nat.le_of_ble_eq_true rfl) rfl (fun ls hl => ?_)
                                refine lv_iload hx hb dX10_who_344 (lv_at hl 0 rfl) ?_
                                refine lv_if_eq (tgt := 402) hx hb dX10_who_346 rfl (fun c_94 => ?_) (fun c_94 => absurd (by decide +kernel) c_94)
                                refine lv_iload hx hb dX10_who_402 (lv_at hl 2 rfl) ?_
                                refine lv_istore (lv' := [(4, .int w279xl4), (7, .int 0), (6, .int w279xl6), (5, .int w262xl5), (3, .int w262xl3), (0, .ref h), (1, .int m_), (2, .int b_)]) hx hb dX10_who_404 hl (Nat.le_of_ble_eq_true rfl) rfl (fun ls hl => ?_)
                                refine lv_iinc (v := (w279xl6 + (-1))) (lv' := [(6, .int (w279xl6 + (-1))), (4, .int w279xl4), (7, .int 0), (5, .int w262xl5), (3, .int w262xl3), (0, .ref h), (1, .int m_), (2, .int b_)]) hx hb dX10_who_406 hl (k := 2) rfl rfl (Nat.le_of_ble_eq_true rfl) rfl (fun ls hl => ?_)
                                refine lv_goto (tgt := 279) hx hb dX10_who_409 rfl ?_
                                exact ih_w279x (w279xl6 + (-1)) w279xl4 w279xm0 w279xm1 w279xm2 _ _ ls hP hD hS (lv_sub hl [0, 1, 3, 4, 5, 6, 7] rfl) hF hE
                              · replace hF := hF.2 c_93
                                rw [if_neg c_93] at hE
                                refine lv_iconst (v := 1) hx hb dX10_who_337 rfl ?_
                                refine lv_goto (tgt := 342) hx hb dX10_who_338 rfl ?_
                                refine lv_istore (lv' := [(7, .int 1), (6, .int w279xl6), (4, .int w279xl4), (5, .int w262xl5), (3, .int w262xl3), (0, .ref h), (1, .int m_), (2, .int b_)]) hx hb dX10_who_342 hl (Nat.le_of_ble_eq_true rfl) rfl (fun ls hl => ?_)
                                refine lv_iload hx hb dX10_who_344 (lv_at hl 0 rfl) ?_
                                refine lv_if_eq (tgt := 402) hx hb dX10_who_346 rfl (fun c_95 => absurd c_95 (by decide +kernel)) (fun c_95 => ?_)
                                refine lv_aload_n hx hb dX10_who_349 rfl (lv_at hl 5 rfl) ?_
                                refine va_get (D := D) (ci := 10) (v := .ref (Rf 37)) (C := RX10) (T := TX10) (N := 45) hx hb hts iX10 hown hK hP 1 rfl rfl 37 (Nat.le_of_ble_eq_true rfl) (hts _ wd_672) (fun _ h9 => h9) rfl dX10_who_350 ?_
                                refine lv_bipush (v := 6) hx hb dX10_who_353 rfl ?_
                                refine lv_iload hx hb dX10_who_355 (lv_at hl 3 rfl) ?_
                                refine lv_imul hx hb dX10_who_357 ?_
                                refine lv_iload hx hb dX10_who_358 (lv_at hl 1 rfl) ?_
                                refine lv_iadd hx hb dX10_who_360 ?_
                                obtain ⟨hv_96, hF⟩ := hF
                                refine va_iald hx hb hK hP 5 0 rfl rfl hv_96 dX10_who_361 ?_
                                refine lv_aload_n hx hb dX10_who_362 rfl (lv_at hl 5 rfl) ?_
                                refine va_get (D := D) (ci := 10) (v := .ref (Rf 36)) (C := RX10) (T := TX10) (N := 45) hx hb hts iX10 hown hK hP 1 rfl rfl 36 (Nat.le_of_ble_eq_true rfl) (hts _ wd_693) (fun _ h9 => h9) rfl dX10_who_363 ?_
                                refine lv_bipush (v := 64) hx hb dX10_who_366 rfl ?_
                                refine lv_iload hx hb dX10_who_368 (lv_at hl 3 rfl) ?_
                                refine lv_iconst (v := 1) hx hb dX10_who_370 rfl ?_
                                refine lv_iadd hx hb dX10_who_371 ?_
                                refine lv_imul hx hb dX10_who_372 ?_
                                refine lv_iload_n hx hb dX10_who_373 rfl (lv_at hl 4 rfl) ?_
                                refine lv_iconst (v := 1) hx hb dX10_who_374 rfl ?_
                                refine lv_iload hx hb dX10_who_375 (lv_at hl 1 rfl) ?_
                                refine lv_ishl hx hb dX10_who_377 ?_
                                refine lv_ior hx hb dX10_who_378 ?_
                                refine lv_iadd hx hb dX10_who_379 ?_
                                obtain ⟨hv_97, hF⟩ := hF
                                refine va_iald hx hb hK hP 0 0 rfl rfl hv_97 dX10_who_380 ?_
                                refine lv_iadd hx hb dX10_who_381 ?_
                                refine lv_aload_n hx hb dX10_who_382 rfl (lv_at hl 5 rfl) ?_
                                refine va_get (D := D) (ci := 10) (v := .ref (Rf 36)) (C := RX10) (T := TX10) (N := 45) hx hb hts iX10 hown hK hP 1 rfl rfl 36 (Nat.le_of_ble_eq_true rfl) (hts _ wd_693) (fun _ h9 => h9) rfl dX10_who_383 ?_
                                refine lv_bipush (v := 64) hx hb dX10_who_386 rfl ?_
                                refine lv_iload hx hb dX10_who_388 (lv_at hl 3 rfl) ?_
                                refine lv_imul hx hb dX10_who_390 ?_
                                refine lv_iload_n hx hb dX10_who_391 rfl (lv_at hl 4 rfl) ?_
                                refine lv_iadd hx hb dX10_who_392 ?_
                                obtain ⟨hv_98, hF⟩ := hF
                                refine va_iald hx hb hK hP 0 0 rfl rfl hv_98 dX10_who_393 ?_
                                refine lv_icmp_ne (tgt := 402) hx hb dX10_who_394 rfl (fun c_99 => ?_) (fun c_99 => ?_)
                                · replace hF := hF.2 c_99
                                  rw [if_neg c_99] at hE
                                  refine lv_iload hx hb dX10_who_402 (lv_at hl 2 rfl) ?_
                                  refine lv_istore (lv' := [(4, .int w279xl4), (7, .int 1), (6, .int w279xl6), (5, .int w262xl5), (3, .int w262xl3), (0, .ref h), (1, .int m_), (2, .int b_)]) hx hb dX10_who_404 hl (Nat.le_of_ble_eq_true rfl) rfl (fun ls hl => ?_)
                                  refine lv_iinc (v := (w279xl6 + (-1))) (lv' := [(6, .int (w279xl6 + (-1))), (4, .int w279xl4), (7, .int 1), (5, .int w262xl5), (3, .int w262xl3), (0, .ref h), (1, .int m_), (2, .int b_)]) hx hb dX10_who_406 hl (k := 2) rfl rfl (Nat.le_of_ble_eq_true rfl) rfl (fun ls hl => ?_)
                                  refine lv_goto (tgt := 279) hx hb dX10_who_409 rfl ?_
                                  exact ih_w279x (w279xl6 + (-1)) w279xl4 w279xm0 w279xm1 w279xm2 _ _ ls hP hD hS (lv_sub hl [0, 1, 3, 4, 5, 6, 7] rfl) hF hE
                                · replace hF := hF.1 c_99
                                  rw [if_pos c_99] at hE
                                  refine lv_iload hx hb dX10_who_397 (lv_at hl 1 rfl) ?_
                                  refine lv_goto (tgt := 404) hx hb dX10_who_399 rfl ?_
                                  refine lv_istore (lv' := [(4, .int w279xl6), (7, .int 1), (6, .int w279xl6), (5, .int w262xl5), (3, .int w262xl3), (0, .ref h), (1, .int m_), (2, .int b_)]) hx hb dX10_who_404 hl (Nat.le_of_ble_eq_true rfl) rfl (fun ls hl => ?_)
                                  refine lv_iinc (v := (w279xl6 + (-1))) (lv' := [(6, .int (w279xl6 + (-1))), (4, .int w279xl6), (7, .int 1), (5, .int w262xl5), (3, .int w262xl3), (0, .ref h), (1, .int m_), (2, .int b_)]) hx hb dX10_who_406 hl (k := 2) rfl rfl (Nat.le_of_ble_eq_true rfl) rfl (fun ls hl => ?_)
                                  refine lv_goto (tgt := 279) hx hb dX10_who_409 rfl ?_
                                  exact ih_w279x (w279xl6 + (-1)) w279xl6 w279xm0 w279xm1 w279xm2 _ _ ls hP hD hS (lv_sub hl [0, 1, 3, 4, 5, 6, 7] rfl) hF hE
                    exact lp_279_w279x 10 ((w262xm0 5) - 1) (-1) w262xm0 w262xm1 w262xm2 _ _ ls hP hD hS hl hF hE
              exact lp_262_w262x 10 0 (-1) 0 w35xm0 w35xm1 w35xm2 _ _ ls hP hD hS hl hF hE
            · replace hF := hF.1 c_81
              rw [if_pos c_81] at hE
              refine lv_aload_n hx hb dX10_who_231 rfl (lv_at hl 1 rfl) ?_
              refine va_get (D := D) (ci := 10) (v := .ref (Rf 36)) (C := RX10) (T := TX10) (N := 45) hx hb hts iX10 hown hK hP 1 rfl rfl 36 (Nat.le_of_ble_eq_true rfl) (hts _ wd_693) (fun _ h9 => h9) rfl dX10_who_232 ?_
              refine lv_iconst (v := 0) hx hb dX10_who_235 rfl ?_
              refine va_iald hx hb hK hP 0 0 rfl rfl (show ¬ ((0 : Int32) < 0 ∨ 448 ≤ (0 : Int32).toNatClampNeg) by decide +kernel) dX10_who_236 ?_
              refine lv_ldcw (v := 1000000000) hx hb hown (hts _ wd_651) dX10_who_237 ?_
              refine lv_icmp_ne (tgt := 247) hx hb dX10_who_240 rfl (fun c_100 => ?_) (fun c_100 => ?_)
              · replace hF := hF.2 c_100
                rw [if_neg c_100] at hE
                refine lv_aload_n hx hb dX10_who_247 rfl (lv_at hl 1 rfl) ?_
                refine va_get (D := D) (ci := 10) (v := .ref (Rf 36)) (C := RX10) (T := TX10) (N := 45) hx hb hts iX10 hown hK hP 1 rfl rfl 36 (Nat.le_of_ble_eq_true rfl) (hts _ wd_693) (fun _ h9 => h9) rfl dX10_who_248 ?_
                refine lv_iconst (v := 0) hx hb dX10_who_251 rfl ?_
                refine va_iald hx hb hK hP 0 0 rfl rfl (show ¬ ((0 : Int32) < 0 ∨ 448 ≤ (0 : Int32).toNatClampNeg) by decide +kernel) dX10_who_252 ?_
                exact hret (w35xm2 (0 : Int32).toNatClampNeg) (w35xm0, w35xm1, w35xm2) _ _ _ _ dX10_who_253 rfl hE (cutP (isC := [1, 2, 3, 4, 5, 0]) hP rfl) (cutD (isC := [1, 2, 3, 4, 5, 0]) hD rfl rfl) hS
              · replace hF := hF.1 c_100
                rw [if_pos c_100] at hE
                refine lv_iconst (v := (-1)) hx hb dX10_who_243 rfl ?_
                refine lv_goto (tgt := 253) hx hb dX10_who_244 rfl ?_
                exact hret (-1) (w35xm0, w35xm1, w35xm2) _ _ _ _ dX10_who_253 rfl hE (cutP (isC := [1, 2, 3, 4, 5, 0]) hP rfl) (cutD (isC := [1, 2, 3, 4, 5, 0]) hD rfl rfl) hS
        have lp_35_w35x : ∀ (n_w35x : Nat) (w35xl3 : Int32) (w35xm0 : (Nat → Int32)) (w35xm1 : (Nat → Int32)) (w35xm2 : (Nat → Int32)) (H : Heap) (locs : List Loc) (ls : Array Slot), va_P D classes [((Rf 36), .inl (cI, 448, .inl w35xm2)), (h, .inr (10, ML w35xm0 Rf)), ((Rf 0), .inl (cI, 1302, .inl f0)), ((Rf 10), .inl (cI, 30, .inl f10)), ((Rf 8), .inl (cI, 6, .inl f8)), ((Rf 37), .inl (cI, 36, .inl w35xm1))] H → va_D A [((Rf 36), .inl (cI, 448, .inl w35xm2)), (h, .inr (10, ML w35xm0 Rf)), ((Rf 0), .inl (cI, 1302, .inl f0)), ((Rf 10), .inl (cI, 30, .inl f10)), ((Rf 8), .inl (cI, 6, .inl f8)), ((Rf 37), .inl (cI, 36, .inl w35xm1))] → va_S A s.heap H locs → lv_has ls 9 [(3, .int w35xl3), (0, .ref h), (1, .int m_), (2, .int b_)] → (S_m_who_35 m_ (fun (w35xl3 : Int32) (w35xm0 : (Nat → Int32)) (w35xm1 : (Nat → Int32)) (w35xm2 : (Nat → Int32)) => (((w35xm2 (0 : Int32).toNatClampNeg) = 1000000000 → (((w35xm2 (0 : Int32).toNatClampNeg) = 1000000000 → True) ∧ (¬ (w35xm2 (0 : Int32).toNatClampNeg) = 1000000000 → True))) ∧ (¬ (w35xm2 (0 : Int32).toNatClampNeg) = 1000000000 → ((b_ = (-1) → (((w35xm2 (0 : Int32).toNatClampNeg) = 1000000000 → True) ∧ (¬ (w35xm2 (0 : Int32).toNatClampNeg) = 1000000000 → True))) ∧ (¬ b_ = (-1) → (S_m_who_262 b_ (fun (w262xl5 : Int32) (w262xl4 : Int32) (w262xl3 : Int32) (w262xm0 : (Nat → Int32)) (w262xm1 : (Nat → Int32)) (w262xm2 : (Nat → Int32)) => True) 10 0 (-1) 0 w35xm0 w35xm1 w35xm2)))))) n_w35x w35xl3 w35xm0 w35xm1 w35xm2) → ((match ((f_m_who_35 m_ n_w35x w35xl3 w35xm0 w35xm1 w35xm2) : Int32 × (Nat → Int32) × (Nat → Int32) × (Nat → Int32)) with | (w35xl3, w35xm0, w35xm1, w35xm2) => (if (w35xm2 (0 : Int32).toNatClampNeg) = 1000000000 then (if (w35xm2 (0 : Int32).toNatClampNeg) = 1000000000 then ((-1), w35xm0, w35xm1, w35xm2) else ((w35xm2 (0 : Int32).toNatClampNeg), w35xm0, w35xm1, w35xm2)) else (if b_ = (-1) then (if (w35xm2 (0 : Int32).toNatClampNeg) = 1000000000 then ((-1), w35xm0, w35xm1, w35xm2) else ((w35xm2 (0 : Int32).toNatClampNeg), w35xm0, w35xm1, w35xm2)) else (match ((f_m_who_262 b_ 10 0 (-1) 0 w35xm0 w35xm1 w35xm2) : Int32 × Int32 × Int32 × (Nat → Int32) × (Nat → Int32) × (Nat → Int32)) with | (w262xl5, w262xl4, w262xl3, w262xm0, w262xm1, w262xm2) => (w262xl4, w262xm0, w262xm1, w262xm2))))) : Int32 × (Nat → Int32) × (Nat → Int32) × (Nat → Int32)) = RES → W p l e rm_m_who s m args below meth c H locs 0 0 Q (F0 m 35 ls []) := by
          intro n_w35x
          induction n_w35x with
          | zero => intro w35xl3 w35xm0 w35xm1 w35xm2 H locs ls hP hD hS hl hF hE; exact False.elim hF
          | succ n_w35x ih_w35x =>
            intro w35xl3 w35xm0 w35xm1 w35xm2 H locs ls hP hD hS hl hF hE
            rw [S_m_who_35_s] at hF
            rw [f_m_who_35_s] at hE
            refine lv_iload_n hx hb dX10_who_35 rfl (lv_at hl 0 rfl) ?_
            refine lv_if_lt (tgt := 214) hx hb dX10_who_36 rfl (fun c_101 => ?_) (fun c_101 => ?_)
            · replace hF := hF.1 c_101
              rw [if_pos c_101] at hE
              exact ex_35_w35x w35xl3 w35xm0 w35xm1 w35xm2 _ _ ls hP hD hS (lv_sub hl [0, 1, 2, 3] rfl) hF hE
            · replace hF := hF.2 c_101
              rw [if_neg c_101] at hE
              refine lv_iconst (v := 0) hx hb dX10_who_39 rfl ?_
              refine lv_istore (lv' := [(4, .int 0), (3, .int w35xl3), (0, .ref h), (1, .int m_), (2, .int b_)]) hx hb dX10_who_40 hl (Nat.le_of_ble_eq_true rfl) rfl (fun ls hl => ?_)
              have ex_42_w42x : ∀ (w42xl4 : Int32) (w42xm0 : (Nat → Int32)) (w42xm1 : (Nat → Int32)) (w42xm2 : (Nat → Int32)) (H : Heap) (locs : List Loc) (ls : Array Slot), va_P D classes [((Rf 36), .inl (cI, 448, .inl w42xm2)), (h, .inr (10, ML w42xm0 Rf)), ((Rf 0), .inl (cI, 1302, .inl f0)), ((Rf 10), .inl (cI, 30, .inl f10)), ((Rf 8), .inl (cI, 6, .inl f8)), ((Rf 37), .inl (cI, 36, .inl w42xm1))] H → va_D A [((Rf 36), .inl (cI, 448, .inl w42xm2)), (h, .inr (10, ML w42xm0 Rf)), ((Rf 0), .inl (cI, 1302, .inl f0)), ((Rf 10), .inl (cI, 30, .inl f10)), ((Rf 8), .inl (cI, 6, .inl f8)), ((Rf 37), .inl (cI, 36, .inl w42xm1))] → va_S A s.heap H locs → lv_has ls 9 [(4, .int w42xl4), (3, .int w35xl3), (0, .ref h), (1, .int m_), (2, .int b_)] → ((S_m_who_35 m_ (fun (w35xl3 : Int32) (w35xm0 : (Nat → Int32)) (w35xm1 : (Nat → Int32)) (w35xm2 : (Nat → Int32)) => (((w35xm2 (0 : Int32).toNatClampNeg) = 1000000000 → (((w35xm2 (0 : Int32).toNatClampNeg) = 1000000000 → True) ∧ (¬ (w35xm2 (0 : Int32).toNatClampNeg) = 1000000000 → True))) ∧ (¬ (w35xm2 (0 : Int32).toNatClampNeg) = 1000000000 → ((b_ = (-1) → (((w35xm2 (0 : Int32).toNatClampNeg) = 1000000000 → True) ∧ (¬ (w35xm2 (0 : Int32).toNatClampNeg) = 1000000000 → True))) ∧ (¬ b_ = (-1) → (S_m_who_262 b_ (fun (w262xl5 : Int32) (w262xl4 : Int32) (w262xl3 : Int32) (w262xm0 : (Nat → Int32)) (w262xm1 : (Nat → Int32)) (w262xm2 : (Nat → Int32)) => True) 10 0 (-1) 0 w35xm0 w35xm1 w35xm2)))))) n_w35x (w35xl3 + (-1)) w42xm0 w42xm1 w42xm2)) → (((match ((f_m_who_35 m_ n_w35x (w35xl3 + (-1)) w42xm0 w42xm1 w42xm2) : Int32 × (Nat → Int32) × (Nat → Int32) × (Nat → Int32)) with | (w35xl3, w35xm0, w35xm1, w35xm2) => (if (w35xm2 (0 : Int32).toNatClampNeg) = 1000000000 then (if (w35xm2 (0 : Int32).toNatClampNeg) = 1000000000 then ((-1), w35xm0, w35xm1, w35xm2) else ((w35xm2 (0 : Int32).toNatClampNeg), w35xm0, w35xm1, w35xm2)) else (if b_ = (-1) then (if (w35xm2 (0 : Int32).toNatClampNeg) = 1000000000 then ((-1), w35xm0, w35xm1, w35xm2) else ((w35xm2 (0 : Int32).toNatClampNeg), w35xm0, w35xm1, w35xm2)) else (match ((f_m_who_262 b_ 10 0 (-1) 0 w35xm0 w35xm1 w35xm2) : Int32 × Int32 × Int32 × (Nat → Int32) × (Nat → Int32) × (Nat → Int32)) with | (w262xl5, w262xl4, w262xl3, w262xm0, w262xm1, w262xm2) => (w262xl4, w262xm0, w262xm1, w262xm2)))))) : Int32 × (Nat → Int32) × (Nat → Int32) × (Nat → Int32)) = RES → W p l e rm_m_who s m args below meth c H locs 0 0 Q (F0 m 208 ls []) := by
                intro w42xl4 w42xm0 w42xm1 w42xm2 H locs ls hP hD hS hl hF hE
                refine lv_iinc (v := (w35xl3 + (-1))) (lv' := [(3, .int (w35xl3 + (-1))), (4, .int w42xl4), (0, .ref h), (1, .int m_), (2, .int b_)]) hx hb dX10_who_208 hl (k := 1) rfl rfl (Nat.le_of_ble_eq_true rfl) rfl (fun ls hl => ?_)
                refine lv_goto (tgt := 35) hx hb dX10_who_211 rfl ?_
                exact ih_w35x (w35xl3 + (-1)) w42xm0 w42xm1 w42xm2 _ _ ls hP hD hS (lv_sub hl [0, 2, 3, 4] rfl) hF hE
              have lp_42_w42x : ∀ (n_w42x : Nat) (w42xl4 : Int32) (w42xm0 : (Nat → Int32)) (w42xm1 : (Nat → Int32)) (w42xm2 : (Nat → Int32)) (H : Heap) (locs : List Loc) (ls : Array Slot), va_P D classes [((Rf 36), .inl (cI, 448, .inl w42xm2)), (h, .inr (10, ML w42xm0 Rf)), ((Rf 0), .inl (cI, 1302, .inl f0)), ((Rf 10), .inl (cI, 30, .inl f10)), ((Rf 8), .inl (cI, 6, .inl f8)), ((Rf 37), .inl (cI, 36, .inl w42xm1))] H → va_D A [((Rf 36), .inl (cI, 448, .inl w42xm2)), (h, .inr (10, ML w42xm0 Rf)), ((Rf 0), .inl (cI, 1302, .inl f0)), ((Rf 10), .inl (cI, 30, .inl f10)), ((Rf 8), .inl (cI, 6, .inl f8)), ((Rf 37), .inl (cI, 36, .inl w42xm1))] → va_S A s.heap H locs → lv_has ls 9 [(4, .int w42xl4), (3, .int w35xl3), (0, .ref h), (1, .int m_), (2, .int b_)] → (S_m_who_42 m_ w35xl3 (fun (w42xl4 : Int32) (w42xm0 : (Nat → Int32)) (w42xm1 : (Nat → Int32)) (w42xm2 : (Nat → Int32)) => (S_m_who_35 m_ (fun (w35xl3 : Int32) (w35xm0 : (Nat → Int32)) (w35xm1 : (Nat → Int32)) (w35xm2 : (Nat → Int32)) => (((w35xm2 (0 : Int32).toNatClampNeg) = 1000000000 → (((w35xm2 (0 : Int32).toNatClampNeg) = 1000000000 → True) ∧ (¬ (w35xm2 (0 : Int32).toNatClampNeg) = 1000000000 → True))) ∧ (¬ (w35xm2 (0 : Int32).toNatClampNeg) = 1000000000 → ((b_ = (-1) → (((w35xm2 (0 : Int32).toNatClampNeg) = 1000000000 → True) ∧ (¬ (w35xm2 (0 : Int32).toNatClampNeg) = 1000000000 → True))) ∧ (¬ b_ = (-1) → (S_m_who_262 b_ (fun (w262xl5 : Int32) (w262xl4 : Int32) (w262xl3 : Int32) (w262xm0 : (Nat → Int32)) (w262xm1 : (Nat → Int32)) (w262xm2 : (Nat → Int32)) => True) 10 0 (-1) 0 w35xm0 w35xm1 w35xm2)))))) n_w35x (w35xl3 + (-1)) w42xm0 w42xm1 w42xm2)) n_w42x w42xl4 w42xm0 w42xm1 w42xm2) → ((64 : Int32).toInt - (w42xl4 : Int32).toInt).toNat < n_w42x → ((match ((match ((f_m_who_42 m_ w35xl3 n_w42x w42xl4 w42xm0 w42xm1 w42xm2) : Int32 × (Nat → Int32) × (Nat → Int32) × (Nat → Int32)) with | (w42xl4, w42xm0, w42xm1, w42xm2) => (f_m_who_35 m_ n_w35x (w35xl3 + (-1)) w42xm0 w42xm1 w42xm2)) : Int32 × (Nat → Int32) × (Nat → Int32) × (Nat → Int32)) with | (w35xl3, w35xm0, w35xm1, w35xm2) => (if (w35xm2 (0 : Int32).toNatClampNeg) = 1000000000 then (if (w35xm2 (0 : Int32).toNatClampNeg) = 1000000000 then ((-1), w35xm0, w35xm1, w35xm2) else ((w35xm2 (0 : Int32).toNatClampNeg), w35xm0, w35xm1, w35xm2)) else (if b_ = (-1) then (if (w35xm2 (0 : Int32).toNatClampNeg) = 1000000000 then ((-1), w35xm0, w35xm1, w35xm2) else ((w35xm2 (0 : Int32).toNatClampNeg), w35xm0, w35xm1, w35xm2)) else (match ((f_m_who_262 b_ 10 0 (-1) 0 w35xm0 w35xm1 w35xm2) : Int32 × Int32 × Int32 × (Nat → Int32) × (Nat → Int32) × (Nat → Int32)) with | (w262xl5, w262xl4, w262xl3, w262xm0, w262xm1, w262xm2) => (w262xl4, w262xm0, w262xm1, w262xm2))))) : Int32 × (Nat → Int32) × (Nat → Int32) × (Nat → Int32)) = RES → W p l e rm_m_who s m args below meth c H locs 0 0 Q (F0 m 42 ls []) := by
                intro n_w42x
                induction n_w42x with
                | zero => intro w42xl4 w42xm0 w42xm1 w42xm2 H locs ls hP hD hS hl hF hm; exact absurd hm (Nat.not_lt_zero _)
                | succ n_w42x ih_w42x =>
                  intro w42xl4 w42xm0 w42xm1 w42xm2 H locs ls hP hD hS hl hF hm hE
                  rw [S_m_who_42_s] at hF
                  rw [f_m_who_42_s] at hE
                  refine lv_iload hx hb dX10_who_42 (lv_at hl 0 rfl) ?_
                  refine lv_bipush (v := 64) hx hb dX10_who_44 rfl ?_
                  refine lv_icmp_ge (tgt := 208) hx hb dX10_who_46 rfl (fun c_102 => ?_) (fun c_102 => ?_)
                  · replace hF := hF.1 c_102
                    rw [if_pos c_102] at hE
                    exact ex_42_w42x w42xl4 w42xm0 w42xm1 w42xm2 _ _ ls hP hD hS (lv_sub hl [0, 1, 2, 3, 4] rfl) hF hE
                  · replace hF := hF.2 c_102
                    rw [if_neg c_102] at hE
                    refine lv_iload_n hx hb dX10_who_49 rfl (lv_at hl 1 rfl) ?_
                    refine lv_iload_n hx hb dX10_who_50 rfl (lv_at hl 3 rfl) ?_
                    refine lv_icmp_le (tgt := 58) hx hb dX10_who_51 rfl (fun c_103 => ?_) (fun c_103 => ?_)
                    · replace hF := hF.1 c_103
                      rw [if_pos c_103] at hE
                      refine lv_ldcw (v := 1000000000) hx hb hown (hts _ wd_651) dX10_who_58 ?_
                      refine lv_istore (lv' := [(5, .int 1000000000), (4, .int w42xl4), (3, .int w35xl3), (0, .ref h), (1, .int m_), (2, .int b_)]) hx hb dX10_who_61 hl (Nat.le_of_ble_eq_true rfl) rfl (fun ls hl => ?_)
                      refine lv_iconst (v := 0) hx hb dX10_who_63 rfl ?_
                      refine lv_istore (lv' := [(6, .int 0), (5, .int 1000000000), (4, .int w42xl4), (3, .int w35xl3), (0, .ref h), (1, .int m_), (2, .int b_)]) hx hb dX10_who_64 hl (Nat.le_of_ble_eq_true rfl) rfl (fun ls hl => ?_)
                      have ex_66_w66x : ∀ (w66xl6 : Int32) (w66xl5 : Int32) (w66xm0 : (Nat → Int32)) (w66xm1 : (Nat → Int32)) (w66xm2 : (Nat → Int32)) (H : Heap) (locs : List Loc) (ls : Array Slot), va_P D classes [((Rf 36), .inl (cI, 448, .inl w66xm2)), (h, .inr (10, ML w66xm0 Rf)), ((Rf 0), .inl (cI, 1302, .inl f0)), ((Rf 10), .inl (cI, 30, .inl f10)), ((Rf 8), .inl (cI, 6, .inl f8)), ((Rf 37), .inl (cI, 36, .inl w66xm1))] H → va_D A [((Rf 36), .inl (cI, 448, .inl w66xm2)), (h, .inr (10, ML w66xm0 Rf)), ((Rf 0), .inl (cI, 1302, .inl f0)), ((Rf 10), .inl (cI, 30, .inl f10)), ((Rf 8), .inl (cI, 6, .inl f8)), ((Rf 37), .inl (cI, 36, .inl w66xm1))] → va_S A s.heap H locs → lv_has ls 9 [(6, .int w66xl6), (5, .int w66xl5), (4, .int w42xl4), (3, .int w35xl3), (0, .ref h), (1, .int m_), (2, .int b_)] → ((vp_in ((64 * w35xl3) + w42xl4) 448 ∧ (S_m_who_42 m_ w35xl3 (fun (w42xl4 : Int32) (w42xm0 : (Nat → Int32)) (w42xm1 : (Nat → Int32)) (w42xm2 : (Nat → Int32)) => (S_m_who_35 m_ (fun (w35xl3 : Int32) (w35xm0 : (Nat → Int32)) (w35xm1 : (Nat → Int32)) (w35xm2 : (Nat → Int32)) => (((w35xm2 (0 : Int32).toNatClampNeg) = 1000000000 → (((w35xm2 (0 : Int32).toNatClampNeg) = 1000000000 → True) ∧ (¬ (w35xm2 (0 : Int32).toNatClampNeg) = 1000000000 → True))) ∧ (¬ (w35xm2 (0 : Int32).toNatClampNeg) = 1000000000 → ((b_ = (-1) → (((w35xm2 (0 : Int32).toNatClampNeg) = 1000000000 → True) ∧ (¬ (w35xm2 (0 : Int32).toNatClampNeg) = 1000000000 → True))) ∧ (¬ b_ = (-1) → (S_m_who_262 b_ (fun (w262xl5 : Int32) (w262xl4 : Int32) (w262xl3 : Int32) (w262xm0 : (Nat → Int32)) (w262xm1 : (Nat → Int32)) (w262xm2 : (Nat → Int32)) => True) 10 0 (-1) 0 w35xm0 w35xm1 w35xm2)))))) n_w35x (w35xl3 + (-1)) w42xm0 w42xm1 w42xm2)) n_w42x (w42xl4 + 1) w66xm0 w66xm1 (upd w66xm2 (((64 * w35xl3) + w42xl4) : Int32).toNatClampNeg w66xl5)))) → (((match ((match ((f_m_who_42 m_ w35xl3 n_w42x (w42xl4 + 1) w66xm0 w66xm1 (upd w66xm2 (((64 * w35xl3) + w42xl4) : Int32).toNatClampNeg w66xl5)) : Int32 × (Nat → Int32) × (Nat → Int32) × (Nat → Int32)) with | (w42xl4, w42xm0, w42xm1, w42xm2) => (f_m_who_35 m_ n_w35x (w35xl3 + (-1)) w42xm0 w42xm1 w42xm2)) : Int32 × (Nat → Int32) × (Nat → Int32) × (Nat → Int32)) with | (w35xl3, w35xm0, w35xm1, w35xm2) => (if (w35xm2 (0 : Int32).toNatClampNeg) = 1000000000 then (if (w35xm2 (0 : Int32).toNatClampNeg) = 1000000000 then ((-1), w35xm0, w35xm1, w35xm2) else ((w35xm2 (0 : Int32).toNatClampNeg), w35xm0, w35xm1, w35xm2)) else (if b_ = (-1) then (if (w35xm2 (0 : Int32).toNatClampNeg) = 1000000000 then ((-1), w35xm0, w35xm1, w35xm2) else ((w35xm2 (0 : Int32).toNatClampNeg), w35xm0, w35xm1, w35xm2)) else (match ((f_m_who_262 b_ 10 0 (-1) 0 w35xm0 w35xm1 w35xm2) : Int32 × Int32 × Int32 × (Nat → Int32) × (Nat → Int32) × (Nat → Int32)) with | (w262xl5, w262xl4, w262xl3, w262xm0, w262xm1, w262xm2) => (w262xl4, w262xm0, w262xm1, w262xm2)))))) : Int32 × (Nat → Int32) × (Nat → Int32) × (Nat → Int32)) = RES → W p l e rm_m_who s m args below meth c H locs 0 0 Q (F0 m 188 ls []) := by
                        intro w66xl6 w66xl5 w66xm0 w66xm1 w66xm2 H locs ls hP hD hS hl hF hE
                        refine lv_aload_n hx hb dX10_who_188 rfl (lv_at hl 4 rfl) ?_
                        refine va_get (D := D) (ci := 10) (v := .ref (Rf 36)) (C := RX10) (T := TX10) (N := 45) hx hb hts iX10 hown hK hP 1 rfl rfl 36 (Nat.le_of_ble_eq_true rfl) (hts _ wd_693) (fun _ h9 => h9) rfl dX10_who_189 ?_
                        refine lv_bipush (v := 64) hx hb dX10_who_192 rfl ?_
                        refine lv_iload_n hx hb dX10_who_194 rfl (lv_at hl 3 rfl) ?_
                        refine lv_imul hx hb dX10_who_195 ?_
                        refine lv_iload hx hb dX10_who_196 (lv_at hl 2 rfl) ?_
                        refine lv_iadd hx hb dX10_who_198 ?_
                        refine lv_iload hx hb dX10_who_199 (lv_at hl 1 rfl) ?_
                        obtain ⟨hv_104, hF⟩ := hF
                        refine va_iast hx hb hK hP hD hS 0 0 rfl rfl hv_104 dX10_who_201 (fun H locs hP hD hS => ?_)
                        have hP : va_P D classes [((Rf 36), .inl (cI, 448, .inl (upd w66xm2 (((64 * w35xl3) + w42xl4) : Int32).toNatClampNeg w66xl5))), (h, .inr (10, ML w66xm0 Rf)), ((Rf 0), .inl (cI, 1302, .inl f0)), ((Rf 10), .inl (cI, 30, .inl f10)), ((Rf 8), .inl (cI, 6, .inl f8)), ((Rf 37), .inl (cI, 36, .inl w66xm1))] H := hP
                        have hD : va_D A [((Rf 36), .inl (cI, 448, .inl (upd w66xm2 (((64 * w35xl3) + w42xl4) : Int32).toNatClampNeg w66xl5))), (h, .inr (10, ML w66xm0 Rf)), ((Rf 0), .inl (cI, 1302, .inl f0)), ((Rf 10), .inl (cI, 30, .inl f10)), ((Rf 8), .inl (cI, 6, .inl f8)), ((Rf 37), .inl (cI, 36, .inl w66xm1))] := hD
                        refine lv_iinc (v := (w42xl4 + 1)) (lv' := [(4, .int (w42xl4 + 1)), (6, .int w66xl6), (5, .int w66xl5), (3, .int w35xl3), (0, .ref h), (1, .int m_), (2, .int b_)]) hx hb dX10_who_202 hl (k := 2) rfl rfl (Nat.le_of_ble_eq_true rfl) rfl (fun ls hl => ?_)
                        refine lv_goto (tgt := 42) hx hb dX10_who_205 rfl ?_
                        exact ih_w42x (w42xl4 + 1) w66xm0 w66xm1 (upd w66xm2 (((64 * w35xl3) + w42xl4) : Int32).toNatClampNeg w66xl5) _ _ ls hP hD hS (lv_sub hl [0, 3, 4, 5, 6] rfl) hF (up_step c_102 hm) hE
                      have lp_66_w66x : ∀ (n_w66x : Nat) (w66xl6 : Int32) (w66xl5 : Int32) (w66xm0 : (Nat → Int32)) (w66xm1 : (Nat → Int32)) (w66xm2 : (Nat → Int32)) (H : Heap) (locs : List Loc) (ls : Array Slot), va_P D classes [((Rf 36), .inl (cI, 448, .inl w66xm2)), (h, .inr (10, ML w66xm0 Rf)), ((Rf 0), .inl (cI, 1302, .inl f0)), ((Rf 10), .inl (cI, 30, .inl f10)), ((Rf 8), .inl (cI, 6, .inl f8)), ((Rf 37), .inl (cI, 36, .inl w66xm1))] H → va_D A [((Rf 36), .inl (cI, 448, .inl w66xm2)), (h, .inr (10, ML w66xm0 Rf)), ((Rf 0), .inl (cI, 1302, .inl f0)), ((Rf 10), .inl (cI, 30, .inl f10)), ((Rf 8), .inl (cI, 6, .inl f8)), ((Rf 37), .inl (cI, 36, .inl w66xm1))] → va_S A s.heap H locs → lv_has ls 9 [(6, .int w66xl6), (5, .int w66xl5), (4, .int w42xl4), (3, .int w35xl3), (0, .ref h), (1, .int m_), (2, .int b_)] → (S_m_who_66 m_ w35xl3 w42xl4 (fun (w66xl6 : Int32) (w66xl5 : Int32) (w66xm0 : (Nat → Int32)) (w66xm1 : (Nat → Int32)) (w66xm2 : (Nat → Int32)) => (vp_in ((64 * w35xl3) + w42xl4) 448 ∧ (S_m_who_42 m_ w35xl3 (fun (w42xl4 : Int32) (w42xm0 : (Nat → Int32)) (w42xm1 : (Nat → Int32)) (w42xm2 : (Nat → Int32)) => (S_m_who_35 m_ (fun (w35xl3 : Int32) (w35xm0 : (Nat → Int32)) (w35xm1 : (Nat → Int32)) (w35xm2 : (Nat → Int32)) => (((w35xm2 (0 : Int32).toNatClampNeg) = 1000000000 → (((w35xm2 (0 : Int32).toNatClampNeg) = 1000000000 → True) ∧ (¬ (w35xm2 (0 : Int32).toNatClampNeg) = 1000000000 → True))) ∧ (¬ (w35xm2 (0 : Int32).toNatClampNeg) = 1000000000 → ((b_ = (-1) → (((w35xm2 (0 : Int32).toNatClampNeg) = 1000000000 → True) ∧ (¬ (w35xm2 (0 : Int32).toNatClampNeg) = 1000000000 → True))) ∧ (¬ b_ = (-1) → (S_m_who_262 b_ (fun (w262xl5 : Int32) (w262xl4 : Int32) (w262xl3 : Int32) (w262xm0 : (Nat → Int32)) (w262xm1 : (Nat → Int32)) (w262xm2 : (Nat → Int32)) => True) 10 0 (-1) 0 w35xm0 w35xm1 w35xm2)))))) n_w35x (w35xl3 + (-1)) w42xm0 w42xm1 w42xm2)) n_w42x (w42xl4 + 1) w66xm0 w66xm1 (upd w66xm2 (((64 * w35xl3) + w42xl4) : Int32).toNatClampNeg w66xl5)))) n_w66x w66xl6 w66xl5 w66xm0 w66xm1 w66xm2) → ((match ((match ((match ((f_m_who_66 m_ w35xl3 w42xl4 n_w66x w66xl6 w66xl5 w66xm0 w66xm1 w66xm2) : Int32 × Int32 × (Nat → Int32) × (Nat → Int32) × (Nat → Int32)) with | (w66xl6, w66xl5, w66xm0, w66xm1, w66xm2) => (f_m_who_42 m_ w35xl3 n_w42x (w42xl4 + 1) w66xm0 w66xm1 (upd w66xm2 (((64 * w35xl3) + w42xl4) : Int32).toNatClampNeg w66xl5))) : Int32 × (Nat → Int32) × (Nat → Int32) × (Nat → Int32)) with | (w42xl4, w42xm0, w42xm1, w42xm2) => (f_m_who_35 m_ n_w35x (w35xl3 + (-1)) w42xm0 w42xm1 w42xm2)) : Int32 × (Nat → Int32) × (Nat → Int32) × (Nat → Int32)) with | (w35xl3, w35xm0, w35xm1, w35xm2) => (if (w35xm2 (0 : Int32).toNatClampNeg) = 1000000000 then (if (w35xm2 (0 : Int32).toNatClampNeg) = 1000000000 then ((-1), w35xm0, w35xm1, w35xm2) else ((w35xm2 (0 : Int32).toNatClampNeg), w35xm0, w35xm1, w35xm2)) else (if b_ = (-1) then (if (w35xm2 (0 : Int32).toNatClampNeg) = 1000000000 then ((-1), w35xm0, w35xm1, w35xm2) else ((w35xm2 (0 : Int32).toNatClampNeg), w35xm0, w35xm1, w35xm2)) else (match ((f_m_who_262 b_ 10 0 (-1) 0 w35xm0 w35xm1 w35xm2) : Int32 × Int32 × Int32 × (Nat → Int32) × (Nat → Int32) × (Nat → Int32)) with | (w262xl5, w262xl4, w262xl3, w262xm0, w262xm1, w262xm2) => (w262xl4, w262xm0, w262xm1, w262xm2))))) : Int32 × (Nat → Int32) × (Nat → Int32) × (Nat → Int32)) = RES → W p l e rm_m_who s m args below meth c H locs 0 0 Q (F0 m 66 ls []) := by
                        intro n_w66x
                        induction n_w66x with
                        | zero => intro w66xl6 w66xl5 w66xm0 w66xm1 w66xm2 H locs ls hP hD hS hl hF hE; exact False.elim hF
                        | succ n_w66x ih_w66x =>
                          intro w66xl6 w66xl5 w66xm0 w66xm1 w66xm2 H locs ls hP hD hS hl hF hE
                          rw [S_m_who_66_s] at hF
                          rw [f_m_who_66_s] at hE
                          refine lv_iload hx hb dX10_who_66 (lv_at hl 0 rfl) ?_
                          refine lv_aload_n hx hb dX10_who_68 rfl (lv_at hl 4 rfl) ?_
                          refine va_get (D := D) (ci := 10) (v := .int (w66xm0 5)) (C := RX10) (T := TX10) (N := 45) hx hb hts iX10 hown hK hP 1 rfl rfl 5 (Nat.le_of_ble_eq_true rfl) (hts _ wd_499) (fun _ h9 => h9) rfl dX10_who_69 ?_
                          refine lv_icmp_ge (tgt := 188) hx hb dX10_who_72 rfl (fun c_105 => ?_) (fun c_105 => ?_)
                          · replace hF := hF.1 c_105
                            rw [if_pos c_105] at hE
                            exact ex_66_w66x w66xl6 w66xl5 w66xm0 w66xm1 w66xm2 _ _ ls hP hD hS (lv_sub hl [0, 1, 2, 3, 4, 5, 6] rfl) hF hE
                          · replace hF := hF.2 c_105
                            rw [if_neg c_105] at hE
                            refine lv_iload_n hx hb dX10_who_75 rfl (lv_at hl 3 rfl) ?_
                            refine lv_iload_n hx hb dX10_who_76 rfl (lv_at hl 5 rfl) ?_
                            refine lv_icmp_gt (tgt := 188) hx hb dX10_who_77 rfl (fun c_106 => ?_) (fun c_106 => ?_)
                            · replace hF := hF.1 c_106
                              rw [if_pos c_106] at hE
                              exact ex_66_w66x w66xl6 w66xl5 w66xm0 w66xm1 w66xm2 _ _ ls hP hD hS (lv_sub hl [0, 1, 2, 3, 4, 5, 6] rfl) hF hE
                            · replace hF := hF.2 c_106
                              rw [if_neg c_106] at hE
                              refine lv_iload hx hb dX10_who_80 (lv_at hl 2 rfl) ?_
                              refine lv_iload hx hb dX10_who_82 (lv_at hl 0 rfl) ?_
                              obtain ⟨hs_107, hF⟩ := hF
                              refine cSi (wr := [((Rf 36), .inl (cI, 448, .inl w66xm2)), (h, .inr (10, ML w66xm0 Rf)), ((Rf 0), .inl (cI, 1302, .inl f0)), ((Rf 10), .inl (cI, 30, .inl f10)), ((Rf 8), .inl (cI, 6, .inl f8)), ((Rf 37), .inl (cI, 36, .inl w66xm1))]) (rest := []) (m_has w42xl4 w66xl6 hs_107) okS_X10_has wd_502 hx hb hml hown hts hK hP hD hS hA hN hl.1 [] [0, 1, 2, 3, 4, 5] rfl rfl rfl rfl (of_decide_eq_true rfl) rfl (Nat.le_of_ble_eq_true rfl) (Nat.le_of_ble_eq_true rfl) (Nat.le_of_ble_eq_true rfl) (Nat.le_of_ble_eq_true rfl) (Nat.le_of_ble_eq_true rfl) dX10_who_84 (fun r_109 u_108 H locs hw_u_108 hP hD hS => ?_)
                              replace hw_u_108 : r_109 = (f_m_has w42xl4 w66xl6) := hw_u_108
                              rw [hw_u_108]
                              clear hw_u_108
                              have hP : va_P D classes [((Rf 36), .inl (cI, 448, .inl w66xm2)), (h, .inr (10, ML w66xm0 Rf)), ((Rf 0), .inl (cI, 1302, .inl f0)), ((Rf 10), .inl (cI, 30, .inl f10)), ((Rf 8), .inl (cI, 6, .inl f8)), ((Rf 37), .inl (cI, 36, .inl w66xm1))] H := hP
                              have hD : va_D A [((Rf 36), .inl (cI, 448, .inl w66xm2)), (h, .inr (10, ML w66xm0 Rf)), ((Rf 0), .inl (cI, 1302, .inl f0)), ((Rf 10), .inl (cI, 30, .inl f10)), ((Rf 8), .inl (cI, 6, .inl f8)), ((Rf 37), .inl (cI, 36, .inl w66xm1))] := hD
                              refine lv_if_eq (tgt := 96) hx hb dX10_who_87 rfl (fun c_110 => ?_) (fun c_110 => ?_)
                              · replace hF := hF.1 c_110
                                rw [if_pos c_110] at hE
                                refine lv_aload_n hx hb dX10_who_96 rfl (lv_at hl 4 rfl) ?_
                                refine va_get (D := D) (ci := 10) (v := .ref (Rf 36)) (C := RX10) (T := TX10) (N := 45) hx hb hts iX10 hown hK hP 1 rfl rfl 36 (Nat.le_of_ble_eq_true rfl) (hts _ wd_693) (fun _ h9 => h9) rfl dX10_who_97 ?_
                                refine lv_bipush (v := 64) hx hb dX10_who_100 rfl ?_
                                refine lv_iload_n hx hb dX10_who_102 rfl (lv_at hl 3 rfl) ?_
                                refine lv_iconst (v := 1) hx hb dX10_who_103 rfl ?_
                                refine lv_iadd hx hb dX10_who_104 ?_
                                refine lv_imul hx hb dX10_who_105 ?_
                                refine lv_iload hx hb dX10_who_106 (lv_at hl 2 rfl) ?_
                                refine lv_iconst (v := 1) hx hb dX10_who_108 rfl ?_
                                refine lv_iload hx hb dX10_who_109 (lv_at hl 0 rfl) ?_
                                refine lv_ishl hx hb dX10_who_111 ?_
                                refine lv_ior hx hb dX10_who_112 ?_
                                refine lv_iadd hx hb dX10_who_113 ?_
                                obtain ⟨hv_111, hF⟩ := hF
                                refine va_iald hx hb hK hP 0 0 rfl rfl hv_111 dX10_who_114 ?_
                                refine lv_istore (lv' := [(7, .int (w66xm2 (((64 * (w35xl3 + 1)) + (w42xl4 ||| ((1 : Int32) <<< (w66xl6 &&& 31)))) : Int32).toNatClampNeg)), (6, .int w66xl6), (5, .int w66xl5), (4, .int w42xl4), (3, .int w35xl3), (0, .ref h), (1, .int m_), (2, .int b_)]) hx hb dX10_who_115 hl (Nat.le_of_ble_eq_true rfl) rfl (fun ls hl => ?_)
                                refine lv_iload hx hb dX10_who_117 (lv_at hl 0 rfl) ?_
                                refine lv_ldcw (v := 1000000000) hx hb hown (hts _ wd_651) dX10_who_119 ?_
                                refine lv_icmp_eq (tgt := 143) hx hb dX10_who_122 rfl (fun c_112 => ?_) (fun c_112 => ?_)
                                · replace hF := hF.1 c_112
                                  rw [if_pos c_112] at hE
                                  refine lv_ldcw (v := 1000000000) hx hb hown (hts _ wd_651) dX10_who_143 ?_
                                  refine lv_goto (tgt := 164) hx hb dX10_who_146 rfl ?_
                                  refine lv_istore (lv' := [(8, .int 1000000000), (7, .int (w66xm2 (((64 * (w35xl3 + 1)) + (w42xl4 ||| ((1 : Int32) <<< (w66xl6 &&& 31)))) : Int32).toNatClampNeg)), (6, .int w66xl6), (5, .int w66xl5), (4, .int w42xl4), (3, .int w35xl3), (0, .ref h), (1, .int m_), (2, .int b_)]) hx hb dX10_who_164 hl (Nat.le_of_ble_eq_true rfl) rfl (fun ls hl => ?_)
                                  refine lv_iload hx hb dX10_who_166 (lv_at hl 0 rfl) ?_
                                  refine lv_iload hx hb dX10_who_168 (lv_at hl 3 rfl) ?_
                                  refine lv_icmp_ge (tgt := 178) hx hb dX10_who_170 rfl (fun c_113 => ?_) (fun c_113 => ?_)
                                  · replace hF := hF.1 c_113
                                    rw [if_pos c_113] at hE
                                    refine lv_iload hx hb dX10_who_178 (lv_at hl 3 rfl) ?_
                                    refine lv_istore (lv' := [(5, .int w66xl5), (8, .int 1000000000), (7, .int (w66xm2 (((64 * (w35xl3 + 1)) + (w42xl4 ||| ((1 : Int32) <<< (w66xl6 &&& 31)))) : Int32).toNatClampNeg)), (6, .int w66xl6), (4, .int w42xl4), (3, .int w35xl3), (0, .ref h), (1, .int m_), (2, .int b_)]) hx hb dX10_who_180 hl (Nat.le_of_ble_eq_true rfl) rfl (fun ls hl => ?_)
                                    refine lv_iinc (v := (w66xl6 + 1)) (lv' := [(6, .int (w66xl6 + 1)), (5, .int w66xl5), (8, .int 1000000000), (7, .int (w66xm2 (((64 * (w35xl3 + 1)) + (w42xl4 ||| ((1 : Int32) <<< (w66xl6 &&& 31)))) : Int32).toNatClampNeg)), (4, .int w42xl4), (3, .int w35xl3), (0, .ref h), (1, .int m_), (2, .int b_)]) hx hb dX10_who_182 hl (k := 3) rfl rfl (Nat.le_of_ble_eq_true rfl) rfl (fun ls hl => ?_)
                                    refine lv_goto (tgt := 66) hx hb dX10_who_185 rfl ?_
                                    exact ih_w66x (w66xl6 + 1) w66xl5 w66xm0 w66xm1 w66xm2 _ _ ls hP hD hS (lv_sub hl [0, 1, 4, 5, 6, 7, 8] rfl) hF hE
                                  · replace hF := hF.2 c_113
                                    rw [if_neg c_113] at hE
                                    refine lv_iload hx hb dX10_who_173 (lv_at hl 0 rfl) ?_
                                    refine lv_goto (tgt := 180) hx hb dX10_who_175 rfl ?_
                                    refine lv_istore (lv' := [(5, .int 1000000000), (8, .int 1000000000), (7, .int (w66xm2 (((64 * (w35xl3 + 1)) + (w42xl4 ||| ((1 : Int32) <<< (w66xl6 &&& 31)))) : Int32).toNatClampNeg)), (6, .int w66xl6), (4, .int w42xl4), (3, .int w35xl3), (0, .ref h), (1, .int m_), (2, .int b_)]) hx hb dX10_who_180 hl (Nat.le_of_ble_eq_true rfl) rfl (fun ls hl => ?_)
                                    refine lv_iinc (v := (w66xl6 + 1)) (lv' := [(6, .int (w66xl6 + 1)), (5, .int 1000000000), (8, .int 1000000000), (7, .int (w66xm2 (((64 * (w35xl3 + 1)) + (w42xl4 ||| ((1 : Int32) <<< (w66xl6 &&& 31)))) : Int32).toNatClampNeg)), (4, .int w42xl4), (3, .int w35xl3), (0, .ref h), (1, .int m_), (2, .int b_)]) hx hb dX10_who_182 hl (k := 3) rfl rfl (Nat.le_of_ble_eq_true rfl) rfl (fun ls hl => ?_)
                                    refine lv_goto (tgt := 66) hx hb dX10_who_185 rfl ?_
                                    exact ih_w66x (w66xl6 + 1) 1000000000 w66xm0 w66xm1 w66xm2 _ _ ls hP hD hS (lv_sub hl [0, 1, 4, 5, 6, 7, 8] rfl) hF hE
                                · replace hF := hF.2 c_112
                                  rw [if_neg c_112] at hE
                                  refine lv_aload_n hx hb dX10_who_125 rfl (lv_at hl 5 rfl) ?_
                                  refine va_get (D := D) (ci := 10) (v := .ref (Rf 37)) (C := RX10) (T := TX10) (N := 45) hx hb hts iX10 hown hK hP 1 rfl rfl 37 (Nat.le_of_ble_eq_true rfl) (hts _ wd_672) (fun _ h9 => h9) rfl dX10_who_126 ?_
                                  refine lv_bipush (v := 6) hx hb dX10_who_129 rfl ?_
                                  refine lv_iload_n hx hb dX10_who_131 rfl (lv_at hl 4 rfl) ?_
                                  refine lv_imul hx hb dX10_who_132 ?_
                                  refine lv_iload hx hb dX10_who_133 (lv_at hl 1 rfl) ?_
                                  refine lv_iadd hx hb dX10_who_135 ?_
                                  obtain ⟨hv_114, hF⟩ := hF
                                  refine va_iald hx hb hK hP 5 0 rfl rfl hv_114 dX10_who_136 ?_
                                  refine lv_ldcw (v := 1000000000) hx hb hown (hts _ wd_651) dX10_who_137 ?_
                                  refine lv_icmp_ne (tgt := 149) hx hb dX10_who_140 rfl (fun c_115 => ?_) (fun c_115 => ?_)
                                  · replace hF := hF.2 c_115
                                    rw [if_neg c_115] at hE
                                    refine lv_iload hx hb dX10_who_149 (lv_at hl 0 rfl) ?_
                                    refine lv_aload_n hx hb dX10_who_151 rfl (lv_at hl 5 rfl) ?_
                                    refine va_get (D := D) (ci := 10) (v := .ref (Rf 37)) (C := RX10) (T := TX10) (N := 45) hx hb hts iX10 hown hK hP 1 rfl rfl 37 (Nat.le_of_ble_eq_true rfl) (hts _ wd_672) (fun _ h9 => h9) rfl dX10_who_152 ?_
                                    refine lv_bipush (v := 6) hx hb dX10_who_155 rfl ?_
                                    refine lv_iload_n hx hb dX10_who_157 rfl (lv_at hl 4 rfl) ?_
                                    refine lv_imul hx hb dX10_who_158 ?_
                                    refine lv_iload hx hb dX10_who_159 (lv_at hl 1 rfl) ?_
                                    refine lv_iadd hx hb dX10_who_161 ?_
                                    obtain ⟨hv_116, hF⟩ := hF
                                    refine va_iald hx hb hK hP 5 0 rfl rfl hv_116 dX10_who_162 ?_
                                    refine lv_iadd hx hb dX10_who_163 ?_
                                    refine lv_istore (lv' := [(8, .int ((w66xm2 (((64 * (w35xl3 + 1)) + (w42xl4 ||| ((1 : Int32) <<< (w66xl6 &&& 31)))) : Int32).toNatClampNeg) + (w66xm1 (((6 * w35xl3) + w66xl6) : Int32).toNatClampNeg))), (7, .int (w66xm2 (((64 * (w35xl3 + 1)) + (w42xl4 ||| ((1 : Int32) <<< (w66xl6 &&& 31)))) : Int32).toNatClampNeg)), (6, .int w66xl6), (5, .int w66xl5), (4, .int w42xl4), (3, .int w35xl3), (0, .ref h), (1, .int m_), (2, .int b_)]) hx hb dX10_who_164 hl (Nat.le_of_ble_eq_true rfl) rfl (fun ls hl => ?_)
                                    refine lv_iload hx hb dX10_who_166 (lv_at hl 0 rfl) ?_
                                    refine lv_iload hx hb dX10_who_168 (lv_at hl 3 rfl) ?_
                                    refine lv_icmp_ge (tgt := 178) hx hb dX10_who_170 rfl (fun c_117 => ?_) (fun c_117 => ?_)
                                    · replace hF := hF.1 c_117
                                      rw [if_pos c_117] at hE
                                      refine lv_iload hx hb dX10_who_178 (lv_at hl 3 rfl) ?_
                                      refine lv_istore (lv' := [(5, .int w66xl5), (8, .int ((w66xm2 (((64 * (w35xl3 + 1)) + (w42xl4 ||| ((1 : Int32) <<< (w66xl6 &&& 31)))) : Int32).toNatClampNeg) + (w66xm1 (((6 * w35xl3) + w66xl6) : Int32).toNatClampNeg))), (7, .int (w66xm2 (((64 * (w35xl3 + 1)) + (w42xl4 ||| ((1 : Int32) <<< (w66xl6 &&& 31)))) : Int32).toNatClampNeg)), (6, .int w66xl6), (4, .int w42xl4), (3, .int w35xl3), (0, .ref h), (1, .int m_), (2, .int b_)]) hx hb dX10_who_180 hl (Nat.le_of_ble_eq_true rfl) rfl (fun ls hl => ?_)
                                      refine lv_iinc (v := (w66xl6 + 1)) (lv' := [(6, .int (w66xl6 + 1)), (5, .int w66xl5), (8, .int ((w66xm2 (((64 * (w35xl3 + 1)) + (w42xl4 ||| ((1 : Int32) <<< (w66xl6 &&& 31)))) : Int32).toNatClampNeg) + (w66xm1 (((6 * w35xl3) + w66xl6) : Int32).toNatClampNeg))), (7, .int (w66xm2 (((64 * (w35xl3 + 1)) + (w42xl4 ||| ((1 : Int32) <<< (w66xl6 &&& 31)))) : Int32).toNatClampNeg)), (4, .int w42xl4), (3, .int w35xl3), (0, .ref h), (1, .int m_), (2, .int b_)]) hx hb dX10_who_182 hl (k := 3) rfl rfl (Nat.le_of_ble_eq_true rfl) rfl (fun ls hl => ?_)
                                      refine lv_goto (tgt := 66) hx hb dX10_who_185 rfl ?_
                                      exact ih_w66x (w66xl6 + 1) w66xl5 w66xm0 w66xm1 w66xm2 _ _ ls hP hD hS (lv_sub hl [0, 1, 4, 5, 6, 7, 8] rfl) hF hE
                                    · replace hF := hF.2 c_117
                                      rw [if_neg c_117] at hE
                                      refine lv_iload hx hb dX10_who_173 (lv_at hl 0 rfl) ?_
                                      refine lv_goto (tgt := 180) hx hb dX10_who_175 rfl ?_
                                      refine lv_istore (lv' := [(5, .int ((w66xm2 (((64 * (w35xl3 + 1)) + (w42xl4 ||| ((1 : Int32) <<< (w66xl6 &&& 31)))) : Int32).toNatClampNeg) + (w66xm1 (((6 * w35xl3) + w66xl6) : Int32).toNatClampNeg))), (8, .int ((w66xm2 (((64 * (w35xl3 + 1)) + (w42xl4 ||| ((1 : Int32) <<< (w66xl6 &&& 31)))) : Int32).toNatClampNeg) + (w66xm1 (((6 * w35xl3) + w66xl6) : Int32).toNatClampNeg))), (7, .int (w66xm2 (((64 * (w35xl3 + 1)) + (w42xl4 ||| ((1 : Int32) <<< (w66xl6 &&& 31)))) : Int32).toNatClampNeg)), (6, .int w66xl6), (4, .int w42xl4), (3, .int w35xl3), (0, .ref h), (1, .int m_), (2, .int b_)]) hx hb dX10_who_180 hl (Nat.le_of_ble_eq_true rfl) rfl (fun ls hl => ?_)
                                      refine lv_iinc (v := (w66xl6 + 1)) (lv' := [(6, .int (w66xl6 + 1)), (5, .int ((w66xm2 (((64 * (w35xl3 + 1)) + (w42xl4 ||| ((1 : Int32) <<< (w66xl6 &&& 31)))) : Int32).toNatClampNeg) + (w66xm1 (((6 * w35xl3) + w66xl6) : Int32).toNatClampNeg))), (8, .int ((w66xm2 (((64 * (w35xl3 + 1)) + (w42xl4 ||| ((1 : Int32) <<< (w66xl6 &&& 31)))) : Int32).toNatClampNeg) + (w66xm1 (((6 * w35xl3) + w66xl6) : Int32).toNatClampNeg))), (7, .int (w66xm2 (((64 * (w35xl3 + 1)) + (w42xl4 ||| ((1 : Int32) <<< (w66xl6 &&& 31)))) : Int32).toNatClampNeg)), (4, .int w42xl4), (3, .int w35xl3), (0, .ref h), (1, .int m_), (2, .int b_)]) hx hb dX10_who_182 hl (k := 3) rfl rfl (Nat.le_of_ble_eq_true rfl) rfl (fun ls hl => ?_)
                                      refine lv_goto (tgt := 66) hx hb dX10_who_185 rfl ?_
                                      exact ih_w66x (w66xl6 + 1) ((w66xm2 (((64 * (w35xl3 + 1)) + (w42xl4 ||| ((1 : Int32) <<< (w66xl6 &&& 31)))) : Int32).toNatClampNeg) + (w66xm1 (((6 * w35xl3) + w66xl6) : Int32).toNatClampNeg)) w66xm0 w66xm1 w66xm2 _ _ ls hP hD hS (lv_sub hl [0, 1, 4, 5, 6, 7, 8] rfl) hF hE
                                  · replace hF := hF.1 c_115
                                    rw [if_pos c_115] at hE
                                    refine lv_ldcw (v := 1000000000) hx hb hown (hts _ wd_651) dX10_who_143 ?_
                                    refine lv_goto (tgt := 164) hx hb dX10_who_146 rfl ?_
                                    refine lv_istore (lv' := [(8, .int 1000000000), (7, .int (w66xm2 (((64 * (w35xl3 + 1)) + (w42xl4 ||| ((1 : Int32) <<< (w66xl6 &&& 31)))) : Int32).toNatClampNeg)), (6, .int w66xl6), (5, .int w66xl5), (4, .int w42xl4), (3, .int w35xl3), (0, .ref h), (1, .int m_), (2, .int b_)]) hx hb dX10_who_164 hl (Nat.le_of_ble_eq_true rfl) rfl (fun ls hl => ?_)
                                    refine lv_iload hx hb dX10_who_166 (lv_at hl 0 rfl) ?_
                                    refine lv_iload hx hb dX10_who_168 (lv_at hl 3 rfl) ?_
                                    refine lv_icmp_ge (tgt := 178) hx hb dX10_who_170 rfl (fun c_118 => ?_) (fun c_118 => ?_)
                                    · replace hF := hF.1 c_118
                                      rw [if_pos c_118] at hE
                                      refine lv_iload hx hb dX10_who_178 (lv_at hl 3 rfl) ?_
                                      refine lv_istore (lv' := [(5, .int w66xl5), (8, .int 1000000000), (7, .int (w66xm2 (((64 * (w35xl3 + 1)) + (w42xl4 ||| ((1 : Int32) <<< (w66xl6 &&& 31)))) : Int32).toNatClampNeg)), (6, .int w66xl6), (4, .int w42xl4), (3, .int w35xl3), (0, .ref h), (1, .int m_), (2, .int b_)]) hx hb dX10_who_180 hl (Nat.le_of_ble_eq_true rfl) rfl (fun ls hl => ?_)
                                      refine lv_iinc (v := (w66xl6 + 1)) (lv' := [(6, .int (w66xl6 + 1)), (5, .int w66xl5), (8, .int 1000000000), (7, .int (w66xm2 (((64 * (w35xl3 + 1)) + (w42xl4 ||| ((1 : Int32) <<< (w66xl6 &&& 31)))) : Int32).toNatClampNeg)), (4, .int w42xl4), (3, .int w35xl3), (0, .ref h), (1, .int m_), (2, .int b_)]) hx hb dX10_who_182 hl (k := 3) rfl rfl (Nat.le_of_ble_eq_true rfl) rfl (fun ls hl => ?_)
                                      refine lv_goto (tgt := 66) hx hb dX10_who_185 rfl ?_
                                      exact ih_w66x (w66xl6 + 1) w66xl5 w66xm0 w66xm1 w66xm2 _ _ ls hP hD hS (lv_sub hl [0, 1, 4, 5, 6, 7, 8] rfl) hF hE
                                    · replace hF := hF.2 c_118
                                      rw [if_neg c_118] at hE
                                      refine lv_iload hx hb dX10_who_173 (lv_at hl 0 rfl) ?_
                                      refine lv_goto (tgt := 180) hx hb dX10_who_175 rfl ?_
                                      refine lv_istore (lv' := [(5, .int 1000000000), (8, .int 1000000000), (7, .int (w66xm2 (((64 * (w35xl3 + 1)) + (w42xl4 ||| ((1 : Int32) <<< (w66xl6 &&& 31)))) : Int32).toNatClampNeg)), (6, .int w66xl6), (4, .int w42xl4), (3, .int w35xl3), (0, .ref h), (1, .int m_), (2, .int b_)]) hx hb dX10_who_180 hl (Nat.le_of_ble_eq_true rfl) rfl (fun ls hl => ?_)
                                      refine lv_iinc (v := (w66xl6 + 1)) (lv' := [(6, .int (w66xl6 + 1)), (5, .int 1000000000), (8, .int 1000000000), (7, .int (w66xm2 (((64 * (w35xl3 + 1)) + (w42xl4 ||| ((1 : Int32) <<< (w66xl6 &&& 31)))) : Int32).toNatClampNeg)), (4, .int w42xl4), (3, .int w35xl3), (0, .ref h), (1, .int m_), (2, .int b_)]) hx hb dX10_who_182 hl (k := 3) rfl rfl (Nat.le_of_ble_eq_true rfl) rfl (fun ls hl => ?_)
                                      refine lv_goto (tgt := 66) hx hb dX10_who_185 rfl ?_
                                      exact ih_w66x (w66xl6 + 1) 1000000000 w66xm0 w66xm1 w66xm2 _ _ ls hP hD hS (lv_sub hl [0, 1, 4, 5, 6, 7, 8] rfl) hF hE
                              · replace hF := hF.2 c_110
                                rw [if_neg c_110] at hE
                                refine lv_ldcw (v := 1000000000) hx hb hown (hts _ wd_651) dX10_who_90 ?_
                                refine lv_goto (tgt := 115) hx hb dX10_who_93 rfl ?_
                                refine lv_istore (lv' := [(7, .int 1000000000), (6, .int w66xl6), (5, .int w66xl5), (4, .int w42xl4), (3, .int w35xl3), (0, .ref h), (1, .int m_), (2, .int b_)]) hx hb dX10_who_115 hl (Nat.le_of_ble_eq_true rfl) rfl (fun ls hl => ?_)
                                refine lv_iload hx hb dX10_who_117 (lv_at hl 0 rfl) ?_
                                refine lv_ldcw (v := 1000000000) hx hb hown (hts _ wd_651) dX10_who_119 ?_
                                refine lv_icmp_eq (tgt := 143) hx hb dX10_who_122 rfl (fun c_119 => ?_) (fun c_119 => absurd (by decide +kernel) c_119)
                                refine lv_ldcw (v := 1000000000) hx hb hown (hts _ wd_651) dX10_who_143 ?_
                                refine lv_goto (tgt := 164) hx hb dX10_who_146 rfl ?_
                                refine lv_istore (lv' := [(8, .int 1000000000), (7, .int 1000000000), (6, .int w66xl6), (5, .int w66xl5), (4, .int w42xl4), (3, .int w35xl3), (0, .ref h), (1, .int m_), (2, .int b_)]) hx hb dX10_who_164 hl (Nat.le_of_ble_eq_true rfl) rfl (fun ls hl => ?_)
                                refine lv_iload hx hb dX10_who_166 (lv_at hl 0 rfl) ?_
                                refine lv_iload hx hb dX10_who_168 (lv_at hl 3 rfl) ?_
                                refine lv_icmp_ge (tgt := 178) hx hb dX10_who_170 rfl (fun c_120 => ?_) (fun c_120 => ?_)
                                · replace hF := hF.1 c_120
                                  rw [if_pos c_120] at hE
                                  refine lv_iload hx hb dX10_who_178 (lv_at hl 3 rfl) ?_
                                  refine lv_istore (lv' := [(5, .int w66xl5), (8, .int 1000000000), (7, .int 1000000000), (6, .int w66xl6), (4, .int w42xl4), (3, .int w35xl3), (0, .ref h), (1, .int m_), (2, .int b_)]) hx hb dX10_who_180 hl (Nat.le_of_ble_eq_true rfl) rfl (fun ls hl => ?_)
                                  refine lv_iinc (v := (w66xl6 + 1)) (lv' := [(6, .int (w66xl6 + 1)), (5, .int w66xl5), (8, .int 1000000000), (7, .int 1000000000), (4, .int w42xl4), (3, .int w35xl3), (0, .ref h), (1, .int m_), (2, .int b_)]) hx hb dX10_who_182 hl (k := 3) rfl rfl (Nat.le_of_ble_eq_true rfl) rfl (fun ls hl => ?_)
                                  refine lv_goto (tgt := 66) hx hb dX10_who_185 rfl ?_
                                  exact ih_w66x (w66xl6 + 1) w66xl5 w66xm0 w66xm1 w66xm2 _ _ ls hP hD hS (lv_sub hl [0, 1, 4, 5, 6, 7, 8] rfl) hF hE
                                · replace hF := hF.2 c_120
                                  rw [if_neg c_120] at hE
                                  refine lv_iload hx hb dX10_who_173 (lv_at hl 0 rfl) ?_
                                  refine lv_goto (tgt := 180) hx hb dX10_who_175 rfl ?_
                                  refine lv_istore (lv' := [(5, .int 1000000000), (8, .int 1000000000), (7, .int 1000000000), (6, .int w66xl6), (4, .int w42xl4), (3, .int w35xl3), (0, .ref h), (1, .int m_), (2, .int b_)]) hx hb dX10_who_180 hl (Nat.le_of_ble_eq_true rfl) rfl (fun ls hl => ?_)
                                  refine lv_iinc (v := (w66xl6 + 1)) (lv' := [(6, .int (w66xl6 + 1)), (5, .int 1000000000), (8, .int 1000000000), (7, .int 1000000000), (4, .int w42xl4), (3, .int w35xl3), (0, .ref h), (1, .int m_), (2, .int b_)]) hx hb dX10_who_182 hl (k := 3) rfl rfl (Nat.le_of_ble_eq_true rfl) rfl (fun ls hl => ?_)
                                  refine lv_goto (tgt := 66) hx hb dX10_who_185 rfl ?_
                                  exact ih_w66x (w66xl6 + 1) 1000000000 w66xm0 w66xm1 w66xm2 _ _ ls hP hD hS (lv_sub hl [0, 1, 4, 5, 6, 7, 8] rfl) hF hE
                      exact lp_66_w66x 10 0 1000000000 w42xm0 w42xm1 w42xm2 _ _ ls hP hD hS hl hF hE
                    · replace hF := hF.2 c_103
                      rw [if_neg c_103] at hE
                      refine lv_iconst (v := 0) hx hb dX10_who_54 rfl ?_
                      refine lv_goto (tgt := 61) hx hb dX10_who_55 rfl ?_
                      refine lv_istore (lv' := [(5, .int 0), (4, .int w42xl4), (3, .int w35xl3), (0, .ref h), (1, .int m_), (2, .int b_)]) hx hb dX10_who_61 hl (Nat.le_of_ble_eq_true rfl) rfl (fun ls hl => ?_)
                      refine lv_iconst (v := 0) hx hb dX10_who_63 rfl ?_
                      refine lv_istore (lv' := [(6, .int 0), (5, .int 0), (4, .int w42xl4), (3, .int w35xl3), (0, .ref h), (1, .int m_), (2, .int b_)]) hx hb dX10_who_64 hl (Nat.le_of_ble_eq_true rfl) rfl (fun ls hl => ?_)
                      have ex_66_w66x : ∀ (w66xl6 : Int32) (w66xl5 : Int32) (w66xm0 : (Nat → Int32)) (w66xm1 : (Nat → Int32)) (w66xm2 : (Nat → Int32)) (H : Heap) (locs : List Loc) (ls : Array Slot), va_P D classes [((Rf 36), .inl (cI, 448, .inl w66xm2)), (h, .inr (10, ML w66xm0 Rf)), ((Rf 0), .inl (cI, 1302, .inl f0)), ((Rf 10), .inl (cI, 30, .inl f10)), ((Rf 8), .inl (cI, 6, .inl f8)), ((Rf 37), .inl (cI, 36, .inl w66xm1))] H → va_D A [((Rf 36), .inl (cI, 448, .inl w66xm2)), (h, .inr (10, ML w66xm0 Rf)), ((Rf 0), .inl (cI, 1302, .inl f0)), ((Rf 10), .inl (cI, 30, .inl f10)), ((Rf 8), .inl (cI, 6, .inl f8)), ((Rf 37), .inl (cI, 36, .inl w66xm1))] → va_S A s.heap H locs → lv_has ls 9 [(6, .int w66xl6), (5, .int w66xl5), (4, .int w42xl4), (3, .int w35xl3), (0, .ref h), (1, .int m_), (2, .int b_)] → ((vp_in ((64 * w35xl3) + w42xl4) 448 ∧ (S_m_who_42 m_ w35xl3 (fun (w42xl4 : Int32) (w42xm0 : (Nat → Int32)) (w42xm1 : (Nat → Int32)) (w42xm2 : (Nat → Int32)) => (S_m_who_35 m_ (fun (w35xl3 : Int32) (w35xm0 : (Nat → Int32)) (w35xm1 : (Nat → Int32)) (w35xm2 : (Nat → Int32)) => (((w35xm2 (0 : Int32).toNatClampNeg) = 1000000000 → (((w35xm2 (0 : Int32).toNatClampNeg) = 1000000000 → True) ∧ (¬ (w35xm2 (0 : Int32).toNatClampNeg) = 1000000000 → True))) ∧ (¬ (w35xm2 (0 : Int32).toNatClampNeg) = 1000000000 → ((b_ = (-1) → (((w35xm2 (0 : Int32).toNatClampNeg) = 1000000000 → True) ∧ (¬ (w35xm2 (0 : Int32).toNatClampNeg) = 1000000000 → True))) ∧ (¬ b_ = (-1) → (S_m_who_262 b_ (fun (w262xl5 : Int32) (w262xl4 : Int32) (w262xl3 : Int32) (w262xm0 : (Nat → Int32)) (w262xm1 : (Nat → Int32)) (w262xm2 : (Nat → Int32)) => True) 10 0 (-1) 0 w35xm0 w35xm1 w35xm2)))))) n_w35x (w35xl3 + (-1)) w42xm0 w42xm1 w42xm2)) n_w42x (w42xl4 + 1) w66xm0 w66xm1 (upd w66xm2 (((64 * w35xl3) + w42xl4) : Int32).toNatClampNeg w66xl5)))) → (((match ((match ((f_m_who_42 m_ w35xl3 n_w42x (w42xl4 + 1) w66xm0 w66xm1 (upd w66xm2 (((64 * w35xl3) + w42xl4) : Int32).toNatClampNeg w66xl5)) : Int32 × (Nat → Int32) × (Nat → Int32) × (Nat → Int32)) with | (w42xl4, w42xm0, w42xm1, w42xm2) => (f_m_who_35 m_ n_w35x (w35xl3 + (-1)) w42xm0 w42xm1 w42xm2)) : Int32 × (Nat → Int32) × (Nat → Int32) × (Nat → Int32)) with | (w35xl3, w35xm0, w35xm1, w35xm2) => (if (w35xm2 (0 : Int32).toNatClampNeg) = 1000000000 then (if (w35xm2 (0 : Int32).toNatClampNeg) = 1000000000 then ((-1), w35xm0, w35xm1, w35xm2) else ((w35xm2 (0 : Int32).toNatClampNeg), w35xm0, w35xm1, w35xm2)) else (if b_ = (-1) then (if (w35xm2 (0 : Int32).toNatClampNeg) = 1000000000 then ((-1), w35xm0, w35xm1, w35xm2) else ((w35xm2 (0 : Int32).toNatClampNeg), w35xm0, w35xm1, w35xm2)) else (match ((f_m_who_262 b_ 10 0 (-1) 0 w35xm0 w35xm1 w35xm2) : Int32 × Int32 × Int32 × (Nat → Int32) × (Nat → Int32) × (Nat → Int32)) with | (w262xl5, w262xl4, w262xl3, w262xm0, w262xm1, w262xm2) => (w262xl4, w262xm0, w262xm1, w262xm2)))))) : Int32 × (Nat → Int32) × (Nat → Int32) × (Nat → Int32)) = RES → W p l e rm_m_who s m args below meth c H locs 0 0 Q (F0 m 188 ls []) := by
                        intro w66xl6 w66xl5 w66xm0 w66xm1 w66xm2 H locs ls hP hD hS hl hF hE
                        refine lv_aload_n hx hb dX10_who_188 rfl (lv_at hl 4 rfl) ?_
                        refine va_get (D := D) (ci := 10) (v := .ref (Rf 36)) (C := RX10) (T := TX10) (N := 45) hx hb hts iX10 hown hK hP 1 rfl rfl 36 (Nat.le_of_ble_eq_true rfl) (hts _ wd_693) (fun _ h9 => h9) rfl dX10_who_189 ?_
                        refine lv_bipush (v := 64) hx hb dX10_who_192 rfl ?_
                        refine lv_iload_n hx hb dX10_who_194 rfl (lv_at hl 3 rfl) ?_
                        refine lv_imul hx hb dX10_who_195 ?_
                        refine lv_iload hx hb dX10_who_196 (lv_at hl 2 rfl) ?_
                        refine lv_iadd hx hb dX10_who_198 ?_
                        refine lv_iload hx hb dX10_who_199 (lv_at hl 1 rfl) ?_
                        obtain ⟨hv_121, hF⟩ := hF
                        refine va_iast hx hb hK hP hD hS 0 0 rfl rfl hv_121 dX10_who_201 (fun H locs hP hD hS => ?_)
                        have hP : va_P D classes [((Rf 36), .inl (cI, 448, .inl (upd w66xm2 (((64 * w35xl3) + w42xl4) : Int32).toNatClampNeg w66xl5))), (h, .inr (10, ML w66xm0 Rf)), ((Rf 0), .inl (cI, 1302, .inl f0)), ((Rf 10), .inl (cI, 30, .inl f10)), ((Rf 8), .inl (cI, 6, .inl f8)), ((Rf 37), .inl (cI, 36, .inl w66xm1))] H := hP
                        have hD : va_D A [((Rf 36), .inl (cI, 448, .inl (upd w66xm2 (((64 * w35xl3) + w42xl4) : Int32).toNatClampNeg w66xl5))), (h, .inr (10, ML w66xm0 Rf)), ((Rf 0), .inl (cI, 1302, .inl f0)), ((Rf 10), .inl (cI, 30, .inl f10)), ((Rf 8), .inl (cI, 6, .inl f8)), ((Rf 37), .inl (cI, 36, .inl w66xm1))] := hD
                        refine lv_iinc (v := (w42xl4 + 1)) (lv' := [(4, .int (w42xl4 + 1)), (6, .int w66xl6), (5, .int w66xl5), (3, .int w35xl3), (0, .ref h), (1, .int m_), (2, .int b_)]) hx hb dX10_who_202 hl (k := 2) rfl rfl (Nat.le_of_ble_eq_true rfl) rfl (fun ls hl => ?_)
                        refine lv_goto (tgt := 42) hx hb dX10_who_205 rfl ?_
                        exact ih_w42x (w42xl4 + 1) w66xm0 w66xm1 (upd w66xm2 (((64 * w35xl3) + w42xl4) : Int32).toNatClampNeg w66xl5) _ _ ls hP hD hS (lv_sub hl [0, 3, 4, 5, 6] rfl) hF (up_step c_102 hm) hE
                      have lp_66_w66x : ∀ (n_w66x : Nat) (w66xl6 : Int32) (w66xl5 : Int32) (w66xm0 : (Nat → Int32)) (w66xm1 : (Nat → Int32)) (w66xm2 : (Nat → Int32)) (H : Heap) (locs : List Loc) (ls : Array Slot), va_P D classes [((Rf 36), .inl (cI, 448, .inl w66xm2)), (h, .inr (10, ML w66xm0 Rf)), ((Rf 0), .inl (cI, 1302, .inl f0)), ((Rf 10), .inl (cI, 30, .inl f10)), ((Rf 8), .inl (cI, 6, .inl f8)), ((Rf 37), .inl (cI, 36, .inl w66xm1))] H → va_D A [((Rf 36), .inl (cI, 448, .inl w66xm2)), (h, .inr (10, ML w66xm0 Rf)), ((Rf 0), .inl (cI, 1302, .inl f0)), ((Rf 10), .inl (cI, 30, .inl f10)), ((Rf 8), .inl (cI, 6, .inl f8)), ((Rf 37), .inl (cI, 36, .inl w66xm1))] → va_S A s.heap H locs → lv_has ls 9 [(6, .int w66xl6), (5, .int w66xl5), (4, .int w42xl4), (3, .int w35xl3), (0, .ref h), (1, .int m_), (2, .int b_)] → (S_m_who_66 m_ w35xl3 w42xl4 (fun (w66xl6 : Int32) (w66xl5 : Int32) (w66xm0 : (Nat → Int32)) (w66xm1 : (Nat → Int32)) (w66xm2 : (Nat → Int32)) => (vp_in ((64 * w35xl3) + w42xl4) 448 ∧ (S_m_who_42 m_ w35xl3 (fun (w42xl4 : Int32) (w42xm0 : (Nat → Int32)) (w42xm1 : (Nat → Int32)) (w42xm2 : (Nat → Int32)) => (S_m_who_35 m_ (fun (w35xl3 : Int32) (w35xm0 : (Nat → Int32)) (w35xm1 : (Nat → Int32)) (w35xm2 : (Nat → Int32)) => (((w35xm2 (0 : Int32).toNatClampNeg) = 1000000000 → (((w35xm2 (0 : Int32).toNatClampNeg) = 1000000000 → True) ∧ (¬ (w35xm2 (0 : Int32).toNatClampNeg) = 1000000000 → True))) ∧ (¬ (w35xm2 (0 : Int32).toNatClampNeg) = 1000000000 → ((b_ = (-1) → (((w35xm2 (0 : Int32).toNatClampNeg) = 1000000000 → True) ∧ (¬ (w35xm2 (0 : Int32).toNatClampNeg) = 1000000000 → True))) ∧ (¬ b_ = (-1) → (S_m_who_262 b_ (fun (w262xl5 : Int32) (w262xl4 : Int32) (w262xl3 : Int32) (w262xm0 : (Nat → Int32)) (w262xm1 : (Nat → Int32)) (w262xm2 : (Nat → Int32)) => True) 10 0 (-1) 0 w35xm0 w35xm1 w35xm2)))))) n_w35x (w35xl3 + (-1)) w42xm0 w42xm1 w42xm2)) n_w42x (w42xl4 + 1) w66xm0 w66xm1 (upd w66xm2 (((64 * w35xl3) + w42xl4) : Int32).toNatClampNeg w66xl5)))) n_w66x w66xl6 w66xl5 w66xm0 w66xm1 w66xm2) → ((match ((match ((match ((f_m_who_66 m_ w35xl3 w42xl4 n_w66x w66xl6 w66xl5 w66xm0 w66xm1 w66xm2) : Int32 × Int32 × (Nat → Int32) × (Nat → Int32) × (Nat → Int32)) with | (w66xl6, w66xl5, w66xm0, w66xm1, w66xm2) => (f_m_who_42 m_ w35xl3 n_w42x (w42xl4 + 1) w66xm0 w66xm1 (upd w66xm2 (((64 * w35xl3) + w42xl4) : Int32).toNatClampNeg w66xl5))) : Int32 × (Nat → Int32) × (Nat → Int32) × (Nat → Int32)) with | (w42xl4, w42xm0, w42xm1, w42xm2) => (f_m_who_35 m_ n_w35x (w35xl3 + (-1)) w42xm0 w42xm1 w42xm2)) : Int32 × (Nat → Int32) × (Nat → Int32) × (Nat → Int32)) with | (w35xl3, w35xm0, w35xm1, w35xm2) => (if (w35xm2 (0 : Int32).toNatClampNeg) = 1000000000 then (if (w35xm2 (0 : Int32).toNatClampNeg) = 1000000000 then ((-1), w35xm0, w35xm1, w35xm2) else ((w35xm2 (0 : Int32).toNatClampNeg), w35xm0, w35xm1, w35xm2)) else (if b_ = (-1) then (if (w35xm2 (0 : Int32).toNatClampNeg) = 1000000000 then ((-1), w35xm0, w35xm1, w35xm2) else ((w35xm2 (0 : Int32).toNatClampNeg), w35xm0, w35xm1, w35xm2)) else (match ((f_m_who_262 b_ 10 0 (-1) 0 w35xm0 w35xm1 w35xm2) : Int32 × Int32 × Int32 × (Nat → Int32) × (Nat → Int32) × (Nat → Int32)) with | (w262xl5, w262xl4, w262xl3, w262xm0, w262xm1, w262xm2) => (w262xl4, w262xm0, w262xm1, w262xm2))))) : Int32 × (Nat → Int32) × (Nat → Int32) × (Nat → Int32)) = RES → W p l e rm_m_who s m args below meth c H locs 0 0 Q (F0 m 66 ls []) := by
                        intro n_w66x
                        induction n_w66x with
                        | zero => intro w66xl6 w66xl5 w66xm0 w66xm1 w66xm2 H locs ls hP hD hS hl hF hE; exact False.elim hF
                        | succ n_w66x ih_w66x =>
                          intro w66xl6 w66xl5 w66xm0 w66xm1 w66xm2 H locs ls hP hD hS hl hF hE
                          rw [S_m_who_66_s] at hF
                          rw [f_m_who_66_s] at hE
                          refine lv_iload hx hb dX10_who_66 (lv_at hl 0 rfl) ?_
                          refine lv_aload_n hx hb dX10_who_68 rfl (lv_at hl 4 rfl) ?_
                          refine va_get (D := D) (ci := 10) (v := .int (w66xm0 5)) (C := RX10) (T := TX10) (N := 45) hx hb hts iX10 hown hK hP 1 rfl rfl 5 (Nat.le_of_ble_eq_true rfl) (hts _ wd_499) (fun _ h9 => h9) rfl dX10_who_69 ?_
                          refine lv_icmp_ge (tgt := 188) hx hb dX10_who_72 rfl (fun c_122 => ?_) (fun c_122 => ?_)
                          · replace hF := hF.1 c_122
                            rw [if_pos c_122] at hE
                            exact ex_66_w66x w66xl6 w66xl5 w66xm0 w66xm1 w66xm2 _ _ ls hP hD hS (lv_sub hl [0, 1, 2, 3, 4, 5, 6] rfl) hF hE
                          · replace hF := hF.2 c_122
                            rw [if_neg c_122] at hE
                            refine lv_iload_n hx hb dX10_who_75 rfl (lv_at hl 3 rfl) ?_
                            refine lv_iload_n hx hb dX10_who_76 rfl (lv_at hl 5 rfl) ?_
                            refine lv_icmp_gt (tgt := 188) hx hb dX10_who_77 rfl (fun c_123 => ?_) (fun c_123 => ?_)
                            · replace hF := hF.1 c_123
                              rw [if_pos c_123] at hE
                              exact ex_66_w66x w66xl6 w66xl5 w66xm0 w66xm1 w66xm2 _ _ ls hP hD hS (lv_sub hl [0, 1, 2, 3, 4, 5, 6] rfl) hF hE
                            · replace hF := hF.2 c_123
                              rw [if_neg c_123] at hE
                              refine lv_iload hx hb dX10_who_80 (lv_at hl 2 rfl) ?_
                              refine lv_iload hx hb dX10_who_82 (lv_at hl 0 rfl) ?_
                              obtain ⟨hs_124, hF⟩ := hF
                              refine cSi (wr := [((Rf 36), .inl (cI, 448, .inl w66xm2)), (h, .inr (10, ML w66xm0 Rf)), ((Rf 0), .inl (cI, 1302, .inl f0)), ((Rf 10), .inl (cI, 30, .inl f10)), ((Rf 8), .inl (cI, 6, .inl f8)), ((Rf 37), .inl (cI, 36, .inl w66xm1))]) (rest := []) (m_has w42xl4 w66xl6 hs_124) okS_X10_has wd_502 hx hb hml hown hts hK hP hD hS hA hN hl.1 [] [0, 1, 2, 3, 4, 5] rfl rfl rfl rfl (of_decide_eq_true rfl) rfl (Nat.le_of_ble_eq_true rfl) (Nat.le_of_ble_eq_true rfl) (Nat.le_of_ble_eq_true rfl) (Nat.le_of_ble_eq_true rfl) (Nat.le_of_ble_eq_true rfl) dX10_who_84 (fun r_126 u_125 H locs hw_u_125 hP hD hS => ?_)
                              replace hw_u_125 : r_126 = (f_m_has w42xl4 w66xl6) := hw_u_125
                              rw [hw_u_125]
                              clear hw_u_125
                              have hP : va_P D classes [((Rf 36), .inl (cI, 448, .inl w66xm2)), (h, .inr (10, ML w66xm0 Rf)), ((Rf 0), .inl (cI, 1302, .inl f0)), ((Rf 10), .inl (cI, 30, .inl f10)), ((Rf 8), .inl (cI, 6, .inl f8)), ((Rf 37), .inl (cI, 36, .inl w66xm1))] H := hP
                              have hD : va_D A [((Rf 36), .inl (cI, 448, .inl w66xm2)), (h, .inr (10, ML w66xm0 Rf)), ((Rf 0), .inl (cI, 1302, .inl f0)), ((Rf 10), .inl (cI, 30, .inl f10)), ((Rf 8), .inl (cI, 6, .inl f8)), ((Rf 37), .inl (cI, 36, .inl w66xm1))] := hD
                              refine lv_if_eq (tgt := 96) hx hb dX10_who_87 rfl (fun c_127 => ?_) (fun c_127 => ?_)
                              · replace hF := hF.1 c_127
                                rw [if_pos c_127] at hE
                                refine lv_aload_n hx hb dX10_who_96 rfl (lv_at hl 4 rfl) ?_
                                refine va_get (D := D) (ci := 10) (v := .ref (Rf 36)) (C := RX10) (T := TX10) (N := 45) hx hb hts iX10 hown hK hP 1 rfl rfl 36 (Nat.le_of_ble_eq_true rfl) (hts _ wd_693) (fun _ h9 => h9) rfl dX10_who_97 ?_
                                refine lv_bipush (v := 64) hx hb dX10_who_100 rfl ?_
                                refine lv_iload_n hx hb dX10_who_102 rfl (lv_at hl 3 rfl) ?_
                                refine lv_iconst (v := 1) hx hb dX10_who_103 rfl ?_
                                refine lv_iadd hx hb dX10_who_104 ?_
                                refine lv_imul hx hb dX10_who_105 ?_
                                refine lv_iload hx hb dX10_who_106 (lv_at hl 2 rfl) ?_
                                refine lv_iconst (v := 1) hx hb dX10_who_108 rfl ?_
                                refine lv_iload hx hb dX10_who_109 (lv_at hl 0 rfl) ?_
                                refine lv_ishl hx hb dX10_who_111 ?_
                                refine lv_ior hx hb dX10_who_112 ?_
                                refine lv_iadd hx hb dX10_who_113 ?_
                                obtain ⟨hv_128, hF⟩ := hF
                                refine va_iald hx hb hK hP 0 0 rfl rfl hv_128 dX10_who_114 ?_
                                refine lv_istore (lv' := [(7, .int (w66xm2 (((64 * (w35xl3 + 1)) + (w42xl4 ||| ((1 : Int32) <<< (w66xl6 &&& 31)))) : Int32).toNatClampNeg)), (6, .int w66xl6), (5, .int w66xl5), (4, .int w42xl4), (3, .int w35xl3), (0, .ref h), (1, .int m_), (2, .int b_)]) hx hb dX10_who_115 hl (Nat.le_of_ble_eq_true rfl) rfl (fun ls hl => ?_)
                                refine lv_iload hx hb dX10_who_117 (lv_at hl 0 rfl) ?_
                                refine lv_ldcw (v := 1000000000) hx hb hown (hts _ wd_651) dX10_who_119 ?_
                                refine lv_icmp_eq (tgt := 143) hx hb dX10_who_122 rfl (fun c_129 => ?_) (fun c_129 => ?_)
                                · replace hF := hF.1 c_129
                                  rw [if_pos c_129] at hE
                                  refine lv_ldcw (v := 1000000000) hx hb hown (hts _ wd_651) dX10_who_143 ?_
                                  refine lv_goto (tgt := 164) hx hb dX10_who_146 rfl ?_
                                  refine lv_istore (lv' := [(8, .int 1000000000), (7, .int (w66xm2 (((64 * (w35xl3 + 1)) + (w42xl4 ||| ((1 : Int32) <<< (w66xl6 &&& 31)))) : Int32).toNatClampNeg)), (6, .int w66xl6), (5, .int w66xl5), (4, .int w42xl4), (3, .int w35xl3), (0, .ref h), (1, .int m_), (2, .int b_)]) hx hb dX10_who_164 hl (Nat.le_of_ble_eq_true rfl) rfl (fun ls hl => ?_)
                                  refine lv_iload hx hb dX10_who_166 (lv_at hl 0 rfl) ?_
                                  refine lv_iload hx hb dX10_who_168 (lv_at hl 3 rfl) ?_
                                  refine lv_icmp_ge (tgt := 178) hx hb dX10_who_170 rfl (fun c_130 => ?_) (fun c_130 => ?_)
                                  · replace hF := hF.1 c_130
                                    rw [if_pos c_130] at hE
                                    refine lv_iload hx hb dX10_who_178 (lv_at hl 3 rfl) ?_
                                    refine lv_istore (lv' := [(5, .int w66xl5), (8, .int 1000000000), (7, .int (w66xm2 (((64 * (w35xl3 + 1)) + (w42xl4 ||| ((1 : Int32) <<< (w66xl6 &&& 31)))) : Int32).toNatClampNeg)), (6, .int w66xl6), (4, .int w42xl4), (3, .int w35xl3), (0, .ref h), (1, .int m_), (2, .int b_)]) hx hb dX10_who_180 hl (Nat.le_of_ble_eq_true rfl) rfl (fun ls hl => ?_)
                                    refine lv_iinc (v := (w66xl6 + 1)) (lv' := [(6, .int (w66xl6 + 1)), (5, .int w66xl5), (8, .int 1000000000), (7, .int (w66xm2 (((64 * (w35xl3 + 1)) + (w42xl4 ||| ((1 : Int32) <<< (w66xl6 &&& 31)))) : Int32).toNatClampNeg)), (4, .int w42xl4), (3, .int w35xl3), (0, .ref h), (1, .int m_), (2, .int b_)]) hx hb dX10_who_182 hl (k := 3) rfl rfl (Nat.le_of_ble_eq_true rfl) rfl (fun ls hl => ?_)
                                    refine lv_goto (tgt := 66) hx hb dX10_who_185 rfl ?_
                                    exact ih_w66x (w66xl6 + 1) w66xl5 w66xm0 w66xm1 w66xm2 _ _ ls hP hD hS (lv_sub hl [0, 1, 4, 5, 6, 7, 8] rfl) hF hE
                                  · replace hF := hF.2 c_130
                                    rw [if_neg c_130] at hE
                                    refine lv_iload hx hb dX10_who_173 (lv_at hl 0 rfl) ?_
                                    refine lv_goto (tgt := 180) hx hb dX10_who_175 rfl ?_
                                    refine lv_istore (lv' := [(5, .int 1000000000), (8, .int 1000000000), (7, .int (w66xm2 (((64 * (w35xl3 + 1)) + (w42xl4 ||| ((1 : Int32) <<< (w66xl6 &&& 31)))) : Int32).toNatClampNeg)), (6, .int w66xl6), (4, .int w42xl4), (3, .int w35xl3), (0, .ref h), (1, .int m_), (2, .int b_)]) hx hb dX10_who_180 hl (Nat.le_of_ble_eq_true rfl) rfl (fun ls hl => ?_)
                                    refine lv_iinc (v := (w66xl6 + 1)) (lv' := [(6, .int (w66xl6 + 1)), (5, .int 1000000000), (8, .int 1000000000), (7, .int (w66xm2 (((64 * (w35xl3 + 1)) + (w42xl4 ||| ((1 : Int32) <<< (w66xl6 &&& 31)))) : Int32).toNatClampNeg)), (4, .int w42xl4), (3, .int w35xl3), (0, .ref h), (1, .int m_), (2, .int b_)]) hx hb dX10_who_182 hl (k := 3) rfl rfl (Nat.le_of_ble_eq_true rfl) rfl (fun ls hl => ?_)
                                    refine lv_goto (tgt := 66) hx hb dX10_who_185 rfl ?_
                                    exact ih_w66x (w66xl6 + 1) 1000000000 w66xm0 w66xm1 w66xm2 _ _ ls hP hD hS (lv_sub hl [0, 1, 4, 5, 6, 7, 8] rfl) hF hE
                                · replace hF := hF.2 c_129
                                  rw [if_neg c_129] at hE
                                  refine lv_aload_n hx hb dX10_who_125 rfl (lv_at hl 5 rfl) ?_
                                  refine va_get (D := D) (ci := 10) (v := .ref (Rf 37)) (C := RX10) (T := TX10) (N := 45) hx hb hts iX10 hown hK hP 1 rfl rfl 37 (Nat.le_of_ble_eq_true rfl) (hts _ wd_672) (fun _ h9 => h9) rfl dX10_who_126 ?_
                                  refine lv_bipush (v := 6) hx hb dX10_who_129 rfl ?_
                                  refine lv_iload_n hx hb dX10_who_131 rfl (lv_at hl 4 rfl) ?_
                                  refine lv_imul hx hb dX10_who_132 ?_
                                  refine lv_iload hx hb dX10_who_133 (lv_at hl 1 rfl) ?_
                                  refine lv_iadd hx hb dX10_who_135 ?_
                                  obtain ⟨hv_131, hF⟩ := hF
                                  refine va_iald hx hb hK hP 5 0 rfl rfl hv_131 dX10_who_136 ?_
                                  refine lv_ldcw (v := 1000000000) hx hb hown (hts _ wd_651) dX10_who_137 ?_
                                  refine lv_icmp_ne (tgt := 149) hx hb dX10_who_140 rfl (fun c_132 => ?_) (fun c_132 => ?_)
                                  · replace hF := hF.2 c_132
                                    rw [if_neg c_132] at hE
                                    refine lv_iload hx hb dX10_who_149 (lv_at hl 0 rfl) ?_
                                    refine lv_aload_n hx hb dX10_who_151 rfl (lv_at hl 5 rfl) ?_
                                    refine va_get (D := D) (ci := 10) (v := .ref (Rf 37)) (C := RX10) (T := TX10) (N := 45) hx hb hts iX10 hown hK hP 1 rfl rfl 37 (Nat.le_of_ble_eq_true rfl) (hts _ wd_672) (fun _ h9 => h9) rfl dX10_who_152 ?_
                                    refine lv_bipush (v := 6) hx hb dX10_who_155 rfl ?_
                                    refine lv_iload_n hx hb dX10_who_157 rfl (lv_at hl 4 rfl) ?_
                                    refine lv_imul hx hb dX10_who_158 ?_
                                    refine lv_iload hx hb dX10_who_159 (lv_at hl 1 rfl) ?_
                                    refine lv_iadd hx hb dX10_who_161 ?_
                                    obtain ⟨hv_133, hF⟩ := hF
                                    refine va_iald hx hb hK hP 5 0 rfl rfl hv_133 dX10_who_162 ?_
                                    refine lv_iadd hx hb dX10_who_163 ?_
                                    refine lv_istore (lv' := [(8, .int ((w66xm2 (((64 * (w35xl3 + 1)) + (w42xl4 ||| ((1 : Int32) <<< (w66xl6 &&& 31)))) : Int32).toNatClampNeg) + (w66xm1 (((6 * w35xl3) + w66xl6) : Int32).toNatClampNeg))), (7, .int (w66xm2 (((64 * (w35xl3 + 1)) + (w42xl4 ||| ((1 : Int32) <<< (w66xl6 &&& 31)))) : Int32).toNatClampNeg)), (6, .int w66xl6), (5, .int w66xl5), (4, .int w42xl4), (3, .int w35xl3), (0, .ref h), (1, .int m_), (2, .int b_)]) hx hb dX10_who_164 hl (Nat.le_of_ble_eq_true rfl) rfl (fun ls hl => ?_)
                                    refine lv_iload hx hb dX10_who_166 (lv_at hl 0 rfl) ?_
                                    refine lv_iload hx hb dX10_who_168 (lv_at hl 3 rfl) ?_
                                    refine lv_icmp_ge (tgt := 178) hx hb dX10_who_170 rfl (fun c_134 => ?_) (fun c_134 => ?_)
                                    · replace hF := hF.1 c_134
                                      rw [if_pos c_134] at hE
                                      refine lv_iload hx hb dX10_who_178 (lv_at hl 3 rfl) ?_
                                      refine lv_istore (lv' := [(5, .int w66xl5), (8, .int ((w66xm2 (((64 * (w35xl3 + 1)) + (w42xl4 ||| ((1 : Int32) <<< (w66xl6 &&& 31)))) : Int32).toNatClampNeg) + (w66xm1 (((6 * w35xl3) + w66xl6) : Int32).toNatClampNeg))), (7, .int (w66xm2 (((64 * (w35xl3 + 1)) + (w42xl4 ||| ((1 : Int32) <<< (w66xl6 &&& 31)))) : Int32).toNatClampNeg)), (6, .int w66xl6), (4, .int w42xl4), (3, .int w35xl3), (0, .ref h), (1, .int m_), (2, .int b_)]) hx hb dX10_who_180 hl (Nat.le_of_ble_eq_true rfl) rfl (fun ls hl => ?_)
                                      refine lv_iinc (v := (w66xl6 + 1)) (lv' := [(6, .int (w66xl6 + 1)), (5, .int w66xl5), (8, .int ((w66xm2 (((64 * (w35xl3 + 1)) + (w42xl4 ||| ((1 : Int32) <<< (w66xl6 &&& 31)))) : Int32).toNatClampNeg) + (w66xm1 (((6 * w35xl3) + w66xl6) : Int32).toNatClampNeg))), (7, .int (w66xm2 (((64 * (w35xl3 + 1)) + (w42xl4 ||| ((1 : Int32) <<< (w66xl6 &&& 31)))) : Int32).toNatClampNeg)), (4, .int w42xl4), (3, .int w35xl3), (0, .ref h), (1, .int m_), (2, .int b_)]) hx hb dX10_who_182 hl (k := 3) rfl rfl (Nat.le_of_ble_eq_true rfl) rfl (fun ls hl => ?_)
                                      refine lv_goto (tgt := 66) hx hb dX10_who_185 rfl ?_
                                      exact ih_w66x (w66xl6 + 1) w66xl5 w66xm0 w66xm1 w66xm2 _ _ ls hP hD hS (lv_sub hl [0, 1, 4, 5, 6, 7, 8] rfl) hF hE
                                    · replace hF := hF.2 c_134
                                      rw [if_neg c_134] at hE
                                      refine lv_iload hx hb dX10_who_173 (lv_at hl 0 rfl) ?_
                                      refine lv_goto (tgt := 180) hx hb dX10_who_175 rfl ?_
                                      refine lv_istore (lv' := [(5, .int ((w66xm2 (((64 * (w35xl3 + 1)) + (w42xl4 ||| ((1 : Int32) <<< (w66xl6 &&& 31)))) : Int32).toNatClampNeg) + (w66xm1 (((6 * w35xl3) + w66xl6) : Int32).toNatClampNeg))), (8, .int ((w66xm2 (((64 * (w35xl3 + 1)) + (w42xl4 ||| ((1 : Int32) <<< (w66xl6 &&& 31)))) : Int32).toNatClampNeg) + (w66xm1 (((6 * w35xl3) + w66xl6) : Int32).toNatClampNeg))), (7, .int (w66xm2 (((64 * (w35xl3 + 1)) + (w42xl4 ||| ((1 : Int32) <<< (w66xl6 &&& 31)))) : Int32).toNatClampNeg)), (6, .int w66xl6), (4, .int w42xl4), (3, .int w35xl3), (0, .ref h), (1, .int m_), (2, .int b_)]) hx hb dX10_who_180 hl (Nat.le_of_ble_eq_true rfl) rfl (fun ls hl => ?_)
                                      refine lv_iinc (v := (w66xl6 + 1)) (lv' := [(6, .int (w66xl6 + 1)), (5, .int ((w66xm2 (((64 * (w35xl3 + 1)) + (w42xl4 ||| ((1 : Int32) <<< (w66xl6 &&& 31)))) : Int32).toNatClampNeg) + (w66xm1 (((6 * w35xl3) + w66xl6) : Int32).toNatClampNeg))), (8, .int ((w66xm2 (((64 * (w35xl3 + 1)) + (w42xl4 ||| ((1 : Int32) <<< (w66xl6 &&& 31)))) : Int32).toNatClampNeg) + (w66xm1 (((6 * w35xl3) + w66xl6) : Int32).toNatClampNeg))), (7, .int (w66xm2 (((64 * (w35xl3 + 1)) + (w42xl4 ||| ((1 : Int32) <<< (w66xl6 &&& 31)))) : Int32).toNatClampNeg)), (4, .int w42xl4), (3, .int w35xl3), (0, .ref h), (1, .int m_), (2, .int b_)]) hx hb dX10_who_182 hl (k := 3) rfl rfl (Nat.le_of_ble_eq_true rfl) rfl (fun ls hl => ?_)
                                      refine lv_goto (tgt := 66) hx hb dX10_who_185 rfl ?_
                                      exact ih_w66x (w66xl6 + 1) ((w66xm2 (((64 * (w35xl3 + 1)) + (w42xl4 ||| ((1 : Int32) <<< (w66xl6 &&& 31)))) : Int32).toNatClampNeg) + (w66xm1 (((6 * w35xl3) + w66xl6) : Int32).toNatClampNeg)) w66xm0 w66xm1 w66xm2 _ _ ls hP hD hS (lv_sub hl [0, 1, 4, 5, 6, 7, 8] rfl) hF hE
                                  · replace hF := hF.1 c_132
                                    rw [if_pos c_132] at hE
                                    refine lv_ldcw (v := 1000000000) hx hb hown (hts _ wd_651) dX10_who_143 ?_
                                    refine lv_goto (tgt := 164) hx hb dX10_who_146 rfl ?_
                                    refine lv_istore (lv' := [(8, .int 1000000000), (7, .int (w66xm2 (((64 * (w35xl3 + 1)) + (w42xl4 ||| ((1 : Int32) <<< (w66xl6 &&& 31)))) : Int32).toNatClampNeg)), (6, .int w66xl6), (5, .int w66xl5), (4, .int w42xl4), (3, .int w35xl3), (0, .ref h), (1, .int m_), (2, .int b_)]) hx hb dX10_who_164 hl (Nat.le_of_ble_eq_true rfl) rfl (fun ls hl => ?_)
                                    refine lv_iload hx hb dX10_who_166 (lv_at hl 0 rfl) ?_
                                    refine lv_iload hx hb dX10_who_168 (lv_at hl 3 rfl) ?_
                                    refine lv_icmp_ge (tgt := 178) hx hb dX10_who_170 rfl (fun c_135 => ?_) (fun c_135 => ?_)
                                    · replace hF := hF.1 c_135
                                      rw [if_pos c_135] at hE
                                      refine lv_iload hx hb dX10_who_178 (lv_at hl 3 rfl) ?_
                                      refine lv_istore (lv' := [(5, .int w66xl5), (8, .int 1000000000), (7, .int (w66xm2 (((64 * (w35xl3 + 1)) + (w42xl4 ||| ((1 : Int32) <<< (w66xl6 &&& 31)))) : Int32).toNatClampNeg)), (6, .int w66xl6), (4, .int w42xl4), (3, .int w35xl3), (0, .ref h), (1, .int m_), (2, .int b_)]) hx hb dX10_who_180 hl (Nat.le_of_ble_eq_true rfl) rfl (fun ls hl => ?_)
                                      refine lv_iinc (v := (w66xl6 + 1)) (lv' := [(6, .int (w66xl6 + 1)), (5, .int w66xl5), (8, .int 1000000000), (7, .int (w66xm2 (((64 * (w35xl3 + 1)) + (w42xl4 ||| ((1 : Int32) <<< (w66xl6 &&& 31)))) : Int32).toNatClampNeg)), (4, .int w42xl4), (3, .int w35xl3), (0, .ref h), (1, .int m_), (2, .int b_)]) hx hb dX10_who_182 hl (k := 3) rfl rfl (Nat.le_of_ble_eq_true rfl) rfl (fun ls hl => ?_)
                                      refine lv_goto (tgt := 66) hx hb dX10_who_185 rfl ?_
                                      exact ih_w66x (w66xl6 + 1) w66xl5 w66xm0 w66xm1 w66xm2 _ _ ls hP hD hS (lv_sub hl [0, 1, 4, 5, 6, 7, 8] rfl) hF hE
                                    · replace hF := hF.2 c_135
                                      rw [if_neg c_135] at hE
                                      refine lv_iload hx hb dX10_who_173 (lv_at hl 0 rfl) ?_
                                      refine lv_goto (tgt := 180) hx hb dX10_who_175 rfl ?_
                                      refine lv_istore (lv' := [(5, .int 1000000000), (8, .int 1000000000), (7, .int (w66xm2 (((64 * (w35xl3 + 1)) + (w42xl4 ||| ((1 : Int32) <<< (w66xl6 &&& 31)))) : Int32).toNatClampNeg)), (6, .int w66xl6), (4, .int w42xl4), (3, .int w35xl3), (0, .ref h), (1, .int m_), (2, .int b_)]) hx hb dX10_who_180 hl (Nat.le_of_ble_eq_true rfl) rfl (fun ls hl => ?_)
                                      refine lv_iinc (v := (w66xl6 + 1)) (lv' := [(6, .int (w66xl6 + 1)), (5, .int 1000000000), (8, .int 1000000000), (7, .int (w66xm2 (((64 * (w35xl3 + 1)) + (w42xl4 ||| ((1 : Int32) <<< (w66xl6 &&& 31)))) : Int32).toNatClampNeg)), (4, .int w42xl4), (3, .int w35xl3), (0, .ref h), (1, .int m_), (2, .int b_)]) hx hb dX10_who_182 hl (k := 3) rfl rfl (Nat.le_of_ble_eq_true rfl) rfl (fun ls hl => ?_)
                                      refine lv_goto (tgt := 66) hx hb dX10_who_185 rfl ?_
                                      exact ih_w66x (w66xl6 + 1) 1000000000 w66xm0 w66xm1 w66xm2 _ _ ls hP hD hS (lv_sub hl [0, 1, 4, 5, 6, 7, 8] rfl) hF hE
                              · replace hF := hF.2 c_127
                                rw [if_neg c_127] at hE
                                refine lv_ldcw (v := 1000000000) hx hb hown (hts _ wd_651) dX10_who_90 ?_
                                refine lv_goto (tgt := 115) hx hb dX10_who_93 rfl ?_
                                refine lv_istore (lv' := [(7, .int 1000000000), (6, .int w66xl6), (5, .int w66xl5), (4, .int w42xl4), (3, .int w35xl3), (0, .ref h), (1, .int m_), (2, .int b_)]) hx hb dX10_who_115 hl (Nat.le_of_ble_eq_true rfl) rfl (fun ls hl => ?_)
                                refine lv_iload hx hb dX10_who_117 (lv_at hl 0 rfl) ?_
                                refine lv_ldcw (v := 1000000000) hx hb hown (hts _ wd_651) dX10_who_119 ?_
                                refine lv_icmp_eq (tgt := 143) hx hb dX10_who_122 rfl (fun c_136 => ?_) (fun c_136 => absurd (by decide +kernel) c_136)
                                refine lv_ldcw (v := 1000000000) hx hb hown (hts _ wd_651) dX10_who_143 ?_
                                refine lv_goto (tgt := 164) hx hb dX10_who_146 rfl ?_
                                refine lv_istore (lv' := [(8, .int 1000000000), (7, .int 1000000000), (6, .int w66xl6), (5, .int w66xl5), (4, .int w42xl4), (3, .int w35xl3), (0, .ref h), (1, .int m_), (2, .int b_)]) hx hb dX10_who_164 hl (Nat.le_of_ble_eq_true rfl) rfl (fun ls hl => ?_)
                                refine lv_iload hx hb dX10_who_166 (lv_at hl 0 rfl) ?_
                                refine lv_iload hx hb dX10_who_168 (lv_at hl 3 rfl) ?_
                                refine lv_icmp_ge (tgt := 178) hx hb dX10_who_170 rfl (fun c_137 => ?_) (fun c_137 => ?_)
                                · replace hF := hF.1 c_137
                                  rw [if_pos c_137] at hE
                                  refine lv_iload hx hb dX10_who_178 (lv_at hl 3 rfl) ?_
                                  refine lv_istore (lv' := [(5, .int w66xl5), (8, .int 1000000000), (7, .int 1000000000), (6, .int w66xl6), (4, .int w42xl4), (3, .int w35xl3), (0, .ref h), (1, .int m_), (2, .int b_)]) hx hb dX10_who_180 hl (Nat.le_of_ble_eq_true rfl) rfl (fun ls hl => ?_)
                                  refine lv_iinc (v := (w66xl6 + 1)) (lv' := [(6, .int (w66xl6 + 1)), (5, .int w66xl5), (8, .int 1000000000), (7, .int 1000000000), (4, .int w42xl4), (3, .int w35xl3), (0, .ref h), (1, .int m_), (2, .int b_)]) hx hb dX10_who_182 hl (k := 3) rfl rfl (Nat.le_of_ble_eq_true rfl) rfl (fun ls hl => ?_)
                                  refine lv_goto (tgt := 66) hx hb dX10_who_185 rfl ?_
                                  exact ih_w66x (w66xl6 + 1) w66xl5 w66xm0 w66xm1 w66xm2 _ _ ls hP hD hS (lv_sub hl [0, 1, 4, 5, 6, 7, 8] rfl) hF hE
                                · replace hF := hF.2 c_137
                                  rw [if_neg c_137] at hE
                                  refine lv_iload hx hb dX10_who_173 (lv_at hl 0 rfl) ?_
                                  refine lv_goto (tgt := 180) hx hb dX10_who_175 rfl ?_
                                  refine lv_istore (lv' := [(5, .int 1000000000), (8, .int 1000000000), (7, .int 1000000000), (6, .int w66xl6), (4, .int w42xl4), (3, .int w35xl3), (0, .ref h), (1, .int m_), (2, .int b_)]) hx hb dX10_who_180 hl (Nat.le_of_ble_eq_true rfl) rfl (fun ls hl => ?_)
                                  refine lv_iinc (v := (w66xl6 + 1)) (lv' := [(6, .int (w66xl6 + 1)), (5, .int 1000000000), (8, .int 1000000000), (7, .int 1000000000), (4, .int w42xl4), (3, .int w35xl3), (0, .ref h), (1, .int m_), (2, .int b_)]) hx hb dX10_who_182 hl (k := 3) rfl rfl (Nat.le_of_ble_eq_true rfl) rfl (fun ls hl => ?_)
                                  refine lv_goto (tgt := 66) hx hb dX10_who_185 rfl ?_
                                  exact ih_w66x (w66xl6 + 1) 1000000000 w66xm0 w66xm1 w66xm2 _ _ ls hP hD hS (lv_sub hl [0, 1, 4, 5, 6, 7, 8] rfl) hF hE
                      exact lp_66_w66x 10 0 0 w42xm0 w42xm1 w42xm2 _ _ ls hP hD hS hl hF hE
              exact lp_42_w42x (((64 : Int32).toInt - (0 : Int32).toInt).toNat + 1) 0 w35xm0 w35xm1 w35xm2 _ _ ls hP hD hS hl hF (Nat.lt_succ_self _) hE
        exact lp_35_w35x 10 (m_ + 1) o_77 o_78 f36 _ _ ls hP hD hS hl hF hE
      · replace hF := hF.1 c_73
        rw [if_pos c_73] at hE
        refine lv_ldc (v := (-1000000001)) hx hb hown (hts _ wd_580) dX10_who_24 ?_
        exact hret (-1000000001) (G, f37, f36) _ _ _ _ dX10_who_26 rfl hE (cutP (isC := [5, 0, 1, 2, 3, 4]) hP rfl) (cutD (isC := [5, 0, 1, 2, 3, 4]) hD rfl rfl) hS
end
