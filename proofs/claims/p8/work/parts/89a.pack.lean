section
def dLt_89 : List (Nat × Instr × Nat) := [(864, .aload_n 1, 1), (865, .aload_n 0, 1), (866, .iload_n 3, 1), (867, .iconst 1, 1), (868, .iadd, 1), (869, .iaload, 1), (870, .invokevirtual 114, 3), (873, .pop, 1), (874, .aload_n 2, 1), (875, .aload_n 0, 1), (876, .iload_n 3, 1), (877, .iconst 1, 1), (878, .iadd, 1), (879, .iaload, 1), (880, .invokevirtual 117, 3), (883, .pop, 1), (884, .goto 131, 3), (887, .aload_n 1, 1), (888, .aload_n 0, 1), (889, .iload_n 3, 1), (890, .iconst 1, 1), (891, .iadd, 1), (892, .iaload, 1), (893, .aload_n 0, 1), (894, .iload_n 3, 1), (895, .iconst 2, 1), (896, .iadd, 1), (897, .iaload, 1), (898, .invokevirtual 118, 3), (901, .pop, 1), (902, .aload_n 2, 1), (903, .aload_n 0, 1), (904, .iload_n 3, 1), (905, .iconst 1, 1), (906, .iadd, 1), (907, .iaload, 1), (908, .aload_n 0, 1), (909, .iload_n 3, 1), (910, .iconst 2, 1), (911, .iadd, 1), (912, .iaload, 1), (913, .invokevirtual 121, 3), (916, .pop, 1), (917, .goto 98, 3), (920, .aload_n 1, 1), (921, .invokevirtual 122, 3), (924, .pop, 1), (925, .aload_n 2, 1), (926, .invokevirtual 125, 3), (929, .pop, 1), (930, .goto 85, 3), (933, .aload_n 1, 1), (934, .invokevirtual 126, 3), (937, .pop, 1), (938, .aload_n 2, 1), (939, .invokevirtual 129, 3), (942, .pop, 1), (943, .goto 72, 3), (946, .aload_n 1, 1), (947, .aload_n 0, 1), (948, .iload_n 3, 1), (949, .iconst 1, 1), (950, .iadd, 1), (951, .iaload, 1), (952, .invokevirtual 130, 3), (955, .pop, 1), (956, .aload_n 2, 1), (957, .aload_n 0, 1), (958, .iload_n 3, 1), (959, .iconst 1, 1), (960, .iadd, 1), (961, .iaload, 1), (962, .invokevirtual 133, 3), (965, .pop, 1), (966, .goto 49, 3), (969, .aload_n 1, 1), (970, .aload_n 0, 1), (971, .iload_n 3, 1), (972, .iconst 1, 1), (973, .iadd, 1), (974, .iaload, 1), (975, .invokevirtual 134, 3), (978, .pop, 1), (979, .aload_n 2, 1), (980, .aload_n 0, 1), (981, .iload_n 3, 1), (982, .iconst 1, 1), (983, .iadd, 1), (984, .iaload, 1), (985, .invokevirtual 137, 3), (988, .pop, 1), (989, .goto 26, 3), (992, .aload_n 1, 1), (993, .aload_n 0, 1), (994, .iload_n 3, 1), (995, .iconst 1, 1), (996, .iadd, 1), (997, .iaload, 1), (998, .invokevirtual 138, 3), (1001, .pop, 1), (1002, .aload_n 2, 1), (1003, .aload_n 0, 1), (1004, .iload_n 3, 1), (1005, .iconst 1, 1), (1006, .iadd, 1), (1007, .iaload, 1), (1008, .invokevirtual 141, 3), (1011, .pop, 1), (1012, .goto 3, 3)]
theorem dLa_89 : dLt_89.all (fun q => decide (decode cL_law q.1 = .ok (q.2.1, q.2.2))) = true := by decide +kernel
theorem dLg_89 (c : ByteArray) (L : List (Nat × Instr × Nat)) (hA : L.all (fun q => decide (decode c q.1 = .ok (q.2.1, q.2.2))) = true) {k a n : Nat} {i : Instr} (h : L[k]? = some (a, i, n)) : decode c a = .ok (i, n) := by
  have hm := List.mem_of_getElem? h
  have h2 := List.all_eq_true.mp hA _ hm
  exact of_decide_eq_true h2
theorem dL_law_864 : decode cL_law 864 = .ok (.aload_n 1, 1) := dLg_89 cL_law dLt_89 dLa_89 (k := 0) rfl
theorem dL_law_865 : decode cL_law 865 = .ok (.aload_n 0, 1) := dLg_89 cL_law dLt_89 dLa_89 (k := 1) rfl
theorem dL_law_866 : decode cL_law 866 = .ok (.iload_n 3, 1) := dLg_89 cL_law dLt_89 dLa_89 (k := 2) rfl
theorem dL_law_867 : decode cL_law 867 = .ok (.iconst 1, 1) := dLg_89 cL_law dLt_89 dLa_89 (k := 3) rfl
theorem dL_law_868 : decode cL_law 868 = .ok (.iadd, 1) := dLg_89 cL_law dLt_89 dLa_89 (k := 4) rfl
theorem dL_law_869 : decode cL_law 869 = .ok (.iaload, 1) := dLg_89 cL_law dLt_89 dLa_89 (k := 5) rfl
theorem dL_law_870 : decode cL_law 870 = .ok (.invokevirtual 114, 3) := dLg_89 cL_law dLt_89 dLa_89 (k := 6) rfl
theorem wd_888 : Cond.methodLink RL 114 yX9_fleet ∈ BG := BG_at 726 (by decide +kernel) rfl
theorem wd_889 : Cond.code yX9_fleet cX9_fleet 7 (some .int) ∈ BG := BG_at 729 (by decide +kernel) rfl
theorem wd_890 : Cond.instanceMethod yX9_fleet ∈ BG := BG_at 727 (by decide +kernel) rfl
theorem wd_891 : Cond.selects RX9 yX9_fleet yX9_fleet ∈ BG := BG_at 728 (by decide +kernel) rfl
theorem okV_X9_fleet : okV yX9_fleet cX9_fleet 7 (some .int) 1 := ⟨⟨wd_889, wd_71, by decide +kernel⟩, wd_890, wd_891⟩
theorem dL_law_873 : decode cL_law 873 = .ok (.pop, 1) := dLg_89 cL_law dLt_89 dLa_89 (k := 7) rfl
theorem dL_law_874 : decode cL_law 874 = .ok (.aload_n 2, 1) := dLg_89 cL_law dLt_89 dLa_89 (k := 8) rfl
theorem dL_law_875 : decode cL_law 875 = .ok (.aload_n 0, 1) := dLg_89 cL_law dLt_89 dLa_89 (k := 9) rfl
theorem dL_law_876 : decode cL_law 876 = .ok (.iload_n 3, 1) := dLg_89 cL_law dLt_89 dLa_89 (k := 10) rfl
theorem dL_law_877 : decode cL_law 877 = .ok (.iconst 1, 1) := dLg_89 cL_law dLt_89 dLa_89 (k := 11) rfl
theorem dL_law_878 : decode cL_law 878 = .ok (.iadd, 1) := dLg_89 cL_law dLt_89 dLa_89 (k := 12) rfl
theorem dL_law_879 : decode cL_law 879 = .ok (.iaload, 1) := dLg_89 cL_law dLt_89 dLa_89 (k := 13) rfl
theorem dL_law_880 : decode cL_law 880 = .ok (.invokevirtual 117, 3) := dLg_89 cL_law dLt_89 dLa_89 (k := 14) rfl
theorem wd_892 : Cond.methodLink RL 117 yX10_fleet ∈ BG := BG_at 1165 (by decide +kernel) rfl
theorem wd_893 : Cond.code yX10_fleet cX10_fleet 6 (some .int) ∈ BG := BG_at 1168 (by decide +kernel) rfl
theorem wd_894 : Cond.instanceMethod yX10_fleet ∈ BG := BG_at 1166 (by decide +kernel) rfl
theorem wd_895 : Cond.selects RX10 yX10_fleet yX10_fleet ∈ BG := BG_at 1167 (by decide +kernel) rfl
theorem okV_X10_fleet : okV yX10_fleet cX10_fleet 6 (some .int) 1 := ⟨⟨wd_893, wd_497, by decide +kernel⟩, wd_894, wd_895⟩
theorem dL_law_883 : decode cL_law 883 = .ok (.pop, 1) := dLg_89 cL_law dLt_89 dLa_89 (k := 15) rfl
theorem dL_law_884 : decode cL_law 884 = .ok (.goto 131, 3) := dLg_89 cL_law dLt_89 dLa_89 (k := 16) rfl
theorem dL_law_887 : decode cL_law 887 = .ok (.aload_n 1, 1) := dLg_89 cL_law dLt_89 dLa_89 (k := 17) rfl
theorem dL_law_888 : decode cL_law 888 = .ok (.aload_n 0, 1) := dLg_89 cL_law dLt_89 dLa_89 (k := 18) rfl
theorem dL_law_889 : decode cL_law 889 = .ok (.iload_n 3, 1) := dLg_89 cL_law dLt_89 dLa_89 (k := 19) rfl
theorem dL_law_890 : decode cL_law 890 = .ok (.iconst 1, 1) := dLg_89 cL_law dLt_89 dLa_89 (k := 20) rfl
theorem dL_law_891 : decode cL_law 891 = .ok (.iadd, 1) := dLg_89 cL_law dLt_89 dLa_89 (k := 21) rfl
theorem dL_law_892 : decode cL_law 892 = .ok (.iaload, 1) := dLg_89 cL_law dLt_89 dLa_89 (k := 22) rfl
theorem dL_law_893 : decode cL_law 893 = .ok (.aload_n 0, 1) := dLg_89 cL_law dLt_89 dLa_89 (k := 23) rfl
theorem dL_law_894 : decode cL_law 894 = .ok (.iload_n 3, 1) := dLg_89 cL_law dLt_89 dLa_89 (k := 24) rfl
theorem dL_law_895 : decode cL_law 895 = .ok (.iconst 2, 1) := dLg_89 cL_law dLt_89 dLa_89 (k := 25) rfl
theorem dL_law_896 : decode cL_law 896 = .ok (.iadd, 1) := dLg_89 cL_law dLt_89 dLa_89 (k := 26) rfl
theorem dL_law_897 : decode cL_law 897 = .ok (.iaload, 1) := dLg_89 cL_law dLt_89 dLa_89 (k := 27) rfl
theorem dL_law_898 : decode cL_law 898 = .ok (.invokevirtual 118, 3) := dLg_89 cL_law dLt_89 dLa_89 (k := 28) rfl
theorem wd_896 : Cond.methodLink RL 118 yX9_write ∈ BG := BG_at 736 (by decide +kernel) rfl
theorem wd_897 : Cond.code yX9_write cX9_write 3 (some .int) ∈ BG := BG_at 739 (by decide +kernel) rfl
theorem wd_898 : Cond.instanceMethod yX9_write ∈ BG := BG_at 737 (by decide +kernel) rfl
theorem wd_899 : Cond.selects RX9 yX9_write yX9_write ∈ BG := BG_at 738 (by decide +kernel) rfl
theorem okV_X9_write : okV yX9_write cX9_write 3 (some .int) 2 := ⟨⟨wd_897, wd_71, by decide +kernel⟩, wd_898, wd_899⟩
theorem dL_law_901 : decode cL_law 901 = .ok (.pop, 1) := dLg_89 cL_law dLt_89 dLa_89 (k := 29) rfl
theorem dL_law_902 : decode cL_law 902 = .ok (.aload_n 2, 1) := dLg_89 cL_law dLt_89 dLa_89 (k := 30) rfl
theorem dL_law_903 : decode cL_law 903 = .ok (.aload_n 0, 1) := dLg_89 cL_law dLt_89 dLa_89 (k := 31) rfl
theorem dL_law_904 : decode cL_law 904 = .ok (.iload_n 3, 1) := dLg_89 cL_law dLt_89 dLa_89 (k := 32) rfl
theorem dL_law_905 : decode cL_law 905 = .ok (.iconst 1, 1) := dLg_89 cL_law dLt_89 dLa_89 (k := 33) rfl
theorem dL_law_906 : decode cL_law 906 = .ok (.iadd, 1) := dLg_89 cL_law dLt_89 dLa_89 (k := 34) rfl
theorem dL_law_907 : decode cL_law 907 = .ok (.iaload, 1) := dLg_89 cL_law dLt_89 dLa_89 (k := 35) rfl
theorem dL_law_908 : decode cL_law 908 = .ok (.aload_n 0, 1) := dLg_89 cL_law dLt_89 dLa_89 (k := 36) rfl
theorem dL_law_909 : decode cL_law 909 = .ok (.iload_n 3, 1) := dLg_89 cL_law dLt_89 dLa_89 (k := 37) rfl
theorem dL_law_910 : decode cL_law 910 = .ok (.iconst 2, 1) := dLg_89 cL_law dLt_89 dLa_89 (k := 38) rfl
theorem dL_law_911 : decode cL_law 911 = .ok (.iadd, 1) := dLg_89 cL_law dLt_89 dLa_89 (k := 39) rfl
theorem dL_law_912 : decode cL_law 912 = .ok (.iaload, 1) := dLg_89 cL_law dLt_89 dLa_89 (k := 40) rfl
theorem dL_law_913 : decode cL_law 913 = .ok (.invokevirtual 121, 3) := dLg_89 cL_law dLt_89 dLa_89 (k := 41) rfl
theorem wd_900 : Cond.methodLink RL 121 yX10_write ∈ BG := BG_at 1173 (by decide +kernel) rfl
theorem wd_901 : Cond.code yX10_write cX10_write 3 (some .int) ∈ BG := BG_at 1176 (by decide +kernel) rfl
theorem wd_902 : Cond.instanceMethod yX10_write ∈ BG := BG_at 1174 (by decide +kernel) rfl
theorem wd_903 : Cond.selects RX10 yX10_write yX10_write ∈ BG := BG_at 1175 (by decide +kernel) rfl
theorem okV_X10_write : okV yX10_write cX10_write 3 (some .int) 2 := ⟨⟨wd_901, wd_497, by decide +kernel⟩, wd_902, wd_903⟩
theorem dL_law_916 : decode cL_law 916 = .ok (.pop, 1) := dLg_89 cL_law dLt_89 dLa_89 (k := 42) rfl
theorem dL_law_917 : decode cL_law 917 = .ok (.goto 98, 3) := dLg_89 cL_law dLt_89 dLa_89 (k := 43) rfl
theorem dL_law_920 : decode cL_law 920 = .ok (.aload_n 1, 1) := dLg_89 cL_law dLt_89 dLa_89 (k := 44) rfl
theorem dL_law_921 : decode cL_law 921 = .ok (.invokevirtual 122, 3) := dLg_89 cL_law dLt_89 dLa_89 (k := 45) rfl
theorem wd_904 : Cond.methodLink RL 122 yX9_tear ∈ BG := BG_at 745 (by decide +kernel) rfl
theorem wd_905 : Cond.code yX9_tear cX9_tear 2 (some .int) ∈ BG := BG_at 748 (by decide +kernel) rfl
theorem wd_906 : Cond.instanceMethod yX9_tear ∈ BG := BG_at 746 (by decide +kernel) rfl
theorem wd_907 : Cond.selects RX9 yX9_tear yX9_tear ∈ BG := BG_at 747 (by decide +kernel) rfl
theorem okV_X9_tear : okV yX9_tear cX9_tear 2 (some .int) 0 := ⟨⟨wd_905, wd_71, by decide +kernel⟩, wd_906, wd_907⟩
theorem dL_law_924 : decode cL_law 924 = .ok (.pop, 1) := dLg_89 cL_law dLt_89 dLa_89 (k := 46) rfl
theorem dL_law_925 : decode cL_law 925 = .ok (.aload_n 2, 1) := dLg_89 cL_law dLt_89 dLa_89 (k := 47) rfl
theorem dL_law_926 : decode cL_law 926 = .ok (.invokevirtual 125, 3) := dLg_89 cL_law dLt_89 dLa_89 (k := 48) rfl
theorem wd_908 : Cond.methodLink RL 125 yX10_tear ∈ BG := BG_at 1177 (by decide +kernel) rfl
theorem wd_909 : Cond.code yX10_tear cX10_tear 2 (some .int) ∈ BG := BG_at 1180 (by decide +kernel) rfl
theorem wd_910 : Cond.instanceMethod yX10_tear ∈ BG := BG_at 1178 (by decide +kernel) rfl
theorem wd_911 : Cond.selects RX10 yX10_tear yX10_tear ∈ BG := BG_at 1179 (by decide +kernel) rfl
theorem okV_X10_tear : okV yX10_tear cX10_tear 2 (some .int) 0 := ⟨⟨wd_909, wd_497, by decide +kernel⟩, wd_910, wd_911⟩
theorem dL_law_929 : decode cL_law 929 = .ok (.pop, 1) := dLg_89 cL_law dLt_89 dLa_89 (k := 49) rfl
theorem dL_law_930 : decode cL_law 930 = .ok (.goto 85, 3) := dLg_89 cL_law dLt_89 dLa_89 (k := 50) rfl
theorem dL_law_933 : decode cL_law 933 = .ok (.aload_n 1, 1) := dLg_89 cL_law dLt_89 dLa_89 (k := 51) rfl
theorem dL_law_934 : decode cL_law 934 = .ok (.invokevirtual 126, 3) := dLg_89 cL_law dLt_89 dLa_89 (k := 52) rfl
theorem wd_912 : Cond.methodLink RL 126 yX9_judge ∈ BG := BG_at 749 (by decide +kernel) rfl
theorem wd_913 : Cond.code yX9_judge cX9_judge 1 (some .int) ∈ BG := BG_at 752 (by decide +kernel) rfl
theorem wd_914 : Cond.instanceMethod yX9_judge ∈ BG := BG_at 750 (by decide +kernel) rfl
theorem wd_915 : Cond.selects RX9 yX9_judge yX9_judge ∈ BG := BG_at 751 (by decide +kernel) rfl
theorem okV_X9_judge : okV yX9_judge cX9_judge 1 (some .int) 0 := ⟨⟨wd_913, wd_71, by decide +kernel⟩, wd_914, wd_915⟩
theorem dL_law_937 : decode cL_law 937 = .ok (.pop, 1) := dLg_89 cL_law dLt_89 dLa_89 (k := 53) rfl
theorem dL_law_938 : decode cL_law 938 = .ok (.aload_n 2, 1) := dLg_89 cL_law dLt_89 dLa_89 (k := 54) rfl
theorem dL_law_939 : decode cL_law 939 = .ok (.invokevirtual 129, 3) := dLg_89 cL_law dLt_89 dLa_89 (k := 55) rfl
theorem wd_916 : Cond.methodLink RL 129 yX10_judge ∈ BG := BG_at 1181 (by decide +kernel) rfl
theorem wd_917 : Cond.code yX10_judge cX10_judge 2 (some .int) ∈ BG := BG_at 1184 (by decide +kernel) rfl
theorem wd_918 : Cond.instanceMethod yX10_judge ∈ BG := BG_at 1182 (by decide +kernel) rfl
theorem wd_919 : Cond.selects RX10 yX10_judge yX10_judge ∈ BG := BG_at 1183 (by decide +kernel) rfl
theorem okV_X10_judge : okV yX10_judge cX10_judge 2 (some .int) 0 := ⟨⟨wd_917, wd_497, by decide +kernel⟩, wd_918, wd_919⟩
theorem dL_law_942 : decode cL_law 942 = .ok (.pop, 1) := dLg_89 cL_law dLt_89 dLa_89 (k := 56) rfl
theorem dL_law_943 : decode cL_law 943 = .ok (.goto 72, 3) := dLg_89 cL_law dLt_89 dLa_89 (k := 57) rfl
theorem dL_law_946 : decode cL_law 946 = .ok (.aload_n 1, 1) := dLg_89 cL_law dLt_89 dLa_89 (k := 58) rfl
theorem dL_law_947 : decode cL_law 947 = .ok (.aload_n 0, 1) := dLg_89 cL_law dLt_89 dLa_89 (k := 59) rfl
theorem dL_law_948 : decode cL_law 948 = .ok (.iload_n 3, 1) := dLg_89 cL_law dLt_89 dLa_89 (k := 60) rfl
theorem dL_law_949 : decode cL_law 949 = .ok (.iconst 1, 1) := dLg_89 cL_law dLt_89 dLa_89 (k := 61) rfl
theorem dL_law_950 : decode cL_law 950 = .ok (.iadd, 1) := dLg_89 cL_law dLt_89 dLa_89 (k := 62) rfl
theorem dL_law_951 : decode cL_law 951 = .ok (.iaload, 1) := dLg_89 cL_law dLt_89 dLa_89 (k := 63) rfl
theorem dL_law_952 : decode cL_law 952 = .ok (.invokevirtual 130, 3) := dLg_89 cL_law dLt_89 dLa_89 (k := 64) rfl
theorem wd_920 : Cond.methodLink RL 130 yX9_seed ∈ BG := BG_at 759 (by decide +kernel) rfl
theorem wd_921 : Cond.code yX9_seed cX9_seed 3 (some .int) ∈ BG := BG_at 762 (by decide +kernel) rfl
theorem wd_922 : Cond.instanceMethod yX9_seed ∈ BG := BG_at 760 (by decide +kernel) rfl
theorem wd_923 : Cond.selects RX9 yX9_seed yX9_seed ∈ BG := BG_at 761 (by decide +kernel) rfl
theorem okV_X9_seed : okV yX9_seed cX9_seed 3 (some .int) 1 := ⟨⟨wd_921, wd_71, by decide +kernel⟩, wd_922, wd_923⟩
theorem dL_law_955 : decode cL_law 955 = .ok (.pop, 1) := dLg_89 cL_law dLt_89 dLa_89 (k := 65) rfl
theorem dL_law_956 : decode cL_law 956 = .ok (.aload_n 2, 1) := dLg_89 cL_law dLt_89 dLa_89 (k := 66) rfl
theorem dL_law_957 : decode cL_law 957 = .ok (.aload_n 0, 1) := dLg_89 cL_law dLt_89 dLa_89 (k := 67) rfl
theorem dL_law_958 : decode cL_law 958 = .ok (.iload_n 3, 1) := dLg_89 cL_law dLt_89 dLa_89 (k := 68) rfl
theorem dL_law_959 : decode cL_law 959 = .ok (.iconst 1, 1) := dLg_89 cL_law dLt_89 dLa_89 (k := 69) rfl
theorem dL_law_960 : decode cL_law 960 = .ok (.iadd, 1) := dLg_89 cL_law dLt_89 dLa_89 (k := 70) rfl
theorem dL_law_961 : decode cL_law 961 = .ok (.iaload, 1) := dLg_89 cL_law dLt_89 dLa_89 (k := 71) rfl
theorem dL_law_962 : decode cL_law 962 = .ok (.invokevirtual 133, 3) := dLg_89 cL_law dLt_89 dLa_89 (k := 72) rfl
theorem wd_924 : Cond.methodLink RL 133 yX10_seed ∈ BG := BG_at 1185 (by decide +kernel) rfl
theorem wd_925 : Cond.code yX10_seed cX10_seed 3 (some .int) ∈ BG := BG_at 1188 (by decide +kernel) rfl
theorem wd_926 : Cond.instanceMethod yX10_seed ∈ BG := BG_at 1186 (by decide +kernel) rfl
theorem wd_927 : Cond.selects RX10 yX10_seed yX10_seed ∈ BG := BG_at 1187 (by decide +kernel) rfl
theorem okV_X10_seed : okV yX10_seed cX10_seed 3 (some .int) 1 := ⟨⟨wd_925, wd_497, by decide +kernel⟩, wd_926, wd_927⟩
theorem dL_law_965 : decode cL_law 965 = .ok (.pop, 1) := dLg_89 cL_law dLt_89 dLa_89 (k := 73) rfl
theorem dL_law_966 : decode cL_law 966 = .ok (.goto 49, 3) := dLg_89 cL_law dLt_89 dLa_89 (k := 74) rfl
theorem dL_law_969 : decode cL_law 969 = .ok (.aload_n 1, 1) := dLg_89 cL_law dLt_89 dLa_89 (k := 75) rfl
theorem dL_law_970 : decode cL_law 970 = .ok (.aload_n 0, 1) := dLg_89 cL_law dLt_89 dLa_89 (k := 76) rfl
theorem dL_law_971 : decode cL_law 971 = .ok (.iload_n 3, 1) := dLg_89 cL_law dLt_89 dLa_89 (k := 77) rfl
theorem dL_law_972 : decode cL_law 972 = .ok (.iconst 1, 1) := dLg_89 cL_law dLt_89 dLa_89 (k := 78) rfl
theorem dL_law_973 : decode cL_law 973 = .ok (.iadd, 1) := dLg_89 cL_law dLt_89 dLa_89 (k := 79) rfl
theorem dL_law_974 : decode cL_law 974 = .ok (.iaload, 1) := dLg_89 cL_law dLt_89 dLa_89 (k := 80) rfl
theorem dL_law_975 : decode cL_law 975 = .ok (.invokevirtual 134, 3) := dLg_89 cL_law dLt_89 dLa_89 (k := 81) rfl
theorem wd_928 : Cond.methodLink RL 134 yX9_keep ∈ BG := BG_at 763 (by decide +kernel) rfl
theorem wd_929 : Cond.code yX9_keep cX9_keep 2 (some .int) ∈ BG := BG_at 766 (by decide +kernel) rfl
theorem wd_930 : Cond.instanceMethod yX9_keep ∈ BG := BG_at 764 (by decide +kernel) rfl
theorem wd_931 : Cond.selects RX9 yX9_keep yX9_keep ∈ BG := BG_at 765 (by decide +kernel) rfl
theorem okV_X9_keep : okV yX9_keep cX9_keep 2 (some .int) 1 := ⟨⟨wd_929, wd_71, by decide +kernel⟩, wd_930, wd_931⟩
theorem dL_law_978 : decode cL_law 978 = .ok (.pop, 1) := dLg_89 cL_law dLt_89 dLa_89 (k := 82) rfl
theorem dL_law_979 : decode cL_law 979 = .ok (.aload_n 2, 1) := dLg_89 cL_law dLt_89 dLa_89 (k := 83) rfl
theorem dL_law_980 : decode cL_law 980 = .ok (.aload_n 0, 1) := dLg_89 cL_law dLt_89 dLa_89 (k := 84) rfl
theorem dL_law_981 : decode cL_law 981 = .ok (.iload_n 3, 1) := dLg_89 cL_law dLt_89 dLa_89 (k := 85) rfl
theorem dL_law_982 : decode cL_law 982 = .ok (.iconst 1, 1) := dLg_89 cL_law dLt_89 dLa_89 (k := 86) rfl
theorem dL_law_983 : decode cL_law 983 = .ok (.iadd, 1) := dLg_89 cL_law dLt_89 dLa_89 (k := 87) rfl
theorem dL_law_984 : decode cL_law 984 = .ok (.iaload, 1) := dLg_89 cL_law dLt_89 dLa_89 (k := 88) rfl
theorem dL_law_985 : decode cL_law 985 = .ok (.invokevirtual 137, 3) := dLg_89 cL_law dLt_89 dLa_89 (k := 89) rfl
theorem wd_932 : Cond.methodLink RL 137 yX10_keep ∈ BG := BG_at 1189 (by decide +kernel) rfl
theorem wd_933 : Cond.code yX10_keep cX10_keep 2 (some .int) ∈ BG := BG_at 1192 (by decide +kernel) rfl
theorem wd_934 : Cond.instanceMethod yX10_keep ∈ BG := BG_at 1190 (by decide +kernel) rfl
theorem wd_935 : Cond.selects RX10 yX10_keep yX10_keep ∈ BG := BG_at 1191 (by decide +kernel) rfl
theorem okV_X10_keep : okV yX10_keep cX10_keep 2 (some .int) 1 := ⟨⟨wd_933, wd_497, by decide +kernel⟩, wd_934, wd_935⟩
theorem dL_law_988 : decode cL_law 988 = .ok (.pop, 1) := dLg_89 cL_law dLt_89 dLa_89 (k := 90) rfl
theorem dL_law_989 : decode cL_law 989 = .ok (.goto 26, 3) := dLg_89 cL_law dLt_89 dLa_89 (k := 91) rfl
theorem dL_law_992 : decode cL_law 992 = .ok (.aload_n 1, 1) := dLg_89 cL_law dLt_89 dLa_89 (k := 92) rfl
theorem dL_law_993 : decode cL_law 993 = .ok (.aload_n 0, 1) := dLg_89 cL_law dLt_89 dLa_89 (k := 93) rfl
theorem dL_law_994 : decode cL_law 994 = .ok (.iload_n 3, 1) := dLg_89 cL_law dLt_89 dLa_89 (k := 94) rfl
theorem dL_law_995 : decode cL_law 995 = .ok (.iconst 1, 1) := dLg_89 cL_law dLt_89 dLa_89 (k := 95) rfl
theorem dL_law_996 : decode cL_law 996 = .ok (.iadd, 1) := dLg_89 cL_law dLt_89 dLa_89 (k := 96) rfl
theorem dL_law_997 : decode cL_law 997 = .ok (.iaload, 1) := dLg_89 cL_law dLt_89 dLa_89 (k := 97) rfl
theorem dL_law_998 : decode cL_law 998 = .ok (.invokevirtual 138, 3) := dLg_89 cL_law dLt_89 dLa_89 (k := 98) rfl
theorem wd_936 : Cond.methodLink RL 138 yX9_goBack ∈ BG := BG_at 768 (by decide +kernel) rfl
theorem wd_937 : Cond.code yX9_goBack cX9_goBack 2 (some .int) ∈ BG := BG_at 771 (by decide +kernel) rfl
theorem wd_938 : Cond.instanceMethod yX9_goBack ∈ BG := BG_at 769 (by decide +kernel) rfl
theorem wd_939 : Cond.selects RX9 yX9_goBack yX9_goBack ∈ BG := BG_at 770 (by decide +kernel) rfl
theorem okV_X9_goBack : okV yX9_goBack cX9_goBack 2 (some .int) 1 := ⟨⟨wd_937, wd_71, by decide +kernel⟩, wd_938, wd_939⟩
theorem dL_law_1001 : decode cL_law 1001 = .ok (.pop, 1) := dLg_89 cL_law dLt_89 dLa_89 (k := 99) rfl
theorem dL_law_1002 : decode cL_law 1002 = .ok (.aload_n 2, 1) := dLg_89 cL_law dLt_89 dLa_89 (k := 100) rfl
theorem dL_law_1003 : decode cL_law 1003 = .ok (.aload_n 0, 1) := dLg_89 cL_law dLt_89 dLa_89 (k := 101) rfl
theorem dL_law_1004 : decode cL_law 1004 = .ok (.iload_n 3, 1) := dLg_89 cL_law dLt_89 dLa_89 (k := 102) rfl
theorem dL_law_1005 : decode cL_law 1005 = .ok (.iconst 1, 1) := dLg_89 cL_law dLt_89 dLa_89 (k := 103) rfl
theorem dL_law_1006 : decode cL_law 1006 = .ok (.iadd, 1) := dLg_89 cL_law dLt_89 dLa_89 (k := 104) rfl
theorem dL_law_1007 : decode cL_law 1007 = .ok (.iaload, 1) := dLg_89 cL_law dLt_89 dLa_89 (k := 105) rfl
theorem dL_law_1008 : decode cL_law 1008 = .ok (.invokevirtual 141, 3) := dLg_89 cL_law dLt_89 dLa_89 (k := 106) rfl
theorem wd_940 : Cond.methodLink RL 141 yX10_goBack ∈ BG := BG_at 1193 (by decide +kernel) rfl
theorem wd_941 : Cond.code yX10_goBack cX10_goBack 2 (some .int) ∈ BG := BG_at 1196 (by decide +kernel) rfl
theorem wd_942 : Cond.instanceMethod yX10_goBack ∈ BG := BG_at 1194 (by decide +kernel) rfl
theorem wd_943 : Cond.selects RX10 yX10_goBack yX10_goBack ∈ BG := BG_at 1195 (by decide +kernel) rfl
theorem okV_X10_goBack : okV yX10_goBack cX10_goBack 2 (some .int) 1 := ⟨⟨wd_941, wd_497, by decide +kernel⟩, wd_942, wd_943⟩
theorem dL_law_1011 : decode cL_law 1011 = .ok (.pop, 1) := dLg_89 cL_law dLt_89 dLa_89 (k := 107) rfl
theorem dL_law_1012 : decode cL_law 1012 = .ok (.goto 3, 3) := dLg_89 cL_law dLt_89 dLa_89 (k := 108) rfl
end
section
def Wx_fleet (cI cZ : ClassId) (xh : Nat) (v_x : Nat) (v_q1 : Int32) (v_q2 : Int32) (v_rd : Nat) (v_t : Nat) (v_d : Nat) (v_nw : Nat) (v_ps : Nat) (v_im : Nat) (v_is_ : Nat) (v_q10 : Int32) (v_bk : Nat) (v_q12 : Int32) (v_qr : Nat) (v_pr : Nat) (v_cv : Nat) (v_ft : Nat) (v_t0 : Int32) (v_t1 : Int32) (v_t2 : Int32) (v_t3 : Int32) (v_t4 : Int32) (v_ta : Nat) (v_tb : Nat) (v_tc : Nat) (v_td : Nat) (v_te : Nat) (v_fta : Nat → Int32) (v_nwc : Nat) (v_fn : Nat → Int32) : va_W := [(xh, .inr (9, [.ref v_x, .int v_q1, .int v_q2, .ref v_rd, .ref v_t, .ref v_d, .ref v_nw, .ref v_ps, .ref v_im, .ref v_is_, .int v_q10, .ref v_bk, .int v_q12, .ref v_qr, .ref v_pr, .ref v_cv, .ref v_ft])), (v_t, .inr (8, [.int v_t0, .int v_t1, .int v_t2, .int v_t3, .int v_t4, .ref v_ta, .ref v_tb, .ref v_tc, .ref v_td, .ref v_te])), (v_ta, .inl (cI, 6, .inl v_fta)), (v_nw, .inr (7, [.ref v_nwc])), (v_nwc, .inl (cI, 41, .inl v_fn))]
def Wm_fleet (cI cZ : ClassId) (yh : Nat) (Rf : Nat → Nat) (G : Nat → Int32) (f0 : Nat → Int32) (f8 : Nat → Int32) : va_W := [(yh, .inr (10, ML G Rf)), ((Rf 0), .inl (cI, 1302, .inl f0)), ((Rf 8), .inl (cI, 6, .inl f8))]
set_option maxHeartbeats 4000000 in
set_option maxRecDepth 100000 in
theorem law_fleet {p : Program} {l : Launch} {e : Env} {s : State} {m : MethodId} {below : List Frame} {meth : Method} {c : Code} {D : va_G} {cI cZ : ClassId} {b : Nat} {xs : Nat → Int32} {L : Nat} (wr : va_W) (v_x : Nat) (v_q1 : Int32) (v_q2 : Int32) (v_rd : Nat) (v_t : Nat) (v_d : Nat) (v_nw : Nat) (v_ps : Nat) (v_im : Nat) (v_is_ : Nat) (v_q10 : Int32) (v_bk : Nat) (v_q12 : Int32) (v_qr : Nat) (v_pr : Nat) (v_cv : Nat) (v_ft : Nat) (v_t0 : Int32) (v_t1 : Int32) (v_t2 : Int32) (v_t3 : Int32) (v_t4 : Int32) (v_ta : Nat) (v_tb : Nat) (v_tc : Nat) (v_td : Nat) (v_te : Nat) (v_fta : Nat → Int32) (v_nwc : Nat) (v_fn : Nat → Int32) (Rf : Nat → Nat) (G : Nat → Int32) (f0 : Nat → Int32) (f8 : Nat → Int32) {xh yh : Nat} {iv : Int32} (C0 : lw_C p s m meth c b L xs) {H : Heap} {locs : List Loc} {ls : Array Slot} (hi1 : ¬ ((iv + 1) < 0 ∨ L ≤ (iv + 1 : Int32).toNatClampNeg)) (hi2 : ¬ ((iv + 2) < 0 ∨ L ≤ (iv + 2 : Int32).toNatClampNeg)) (hi3 : ¬ ((iv + 3) < 0 ∨ L ≤ (iv + 3 : Int32).toNatClampNeg)) (hi4 : ¬ ((iv + 4) < 0 ∨ L ≤ (iv + 4 : Int32).toNatClampNeg)) (hK : va_K D classes (TYS cI cZ) s) (hs : S_m_fleet G f0 f8 (xs ((iv + 1) : Int32).toNatClampNeg)) (hP : va_P D classes ((Wx_fleet cI cZ xh v_x v_q1 v_q2 v_rd v_t v_d v_nw v_ps v_im v_is_ v_q10 v_bk v_q12 v_qr v_pr v_cv v_ft v_t0 v_t1 v_t2 v_t3 v_t4 v_ta v_tb v_tc v_td v_te v_fta v_nwc v_fn) ++ ((Wm_fleet cI cZ yh Rf G f0 f8) ++ wr)) H) (hD : va_D (lw_A s) ((Wx_fleet cI cZ xh v_x v_q1 v_q2 v_rd v_t v_d v_nw v_ps v_im v_is_ v_q10 v_bk v_q12 v_qr v_pr v_cv v_ft v_t0 v_t1 v_t2 v_t3 v_t4 v_ta v_tb v_tc v_td v_te v_fta v_nwc v_fn) ++ ((Wm_fleet cI cZ yh Rf G f0 f8) ++ wr))) (hS : va_S (lw_A s) s.heap H locs) (hl : lv_has ls 4 [(0, .ref b), (1, .ref xh), (2, .ref yh), (3, .int iv)]) (hnext : ∀ (rx : Int32) (ry : Int32) (H : Heap) (locs : List Loc) (ls : Array Slot), rx = (f_e_fleet_x9 v_q1 v_q2 v_q10 v_q12 v_t0 v_t1 v_t2 v_t3 v_t4 v_fta v_fn (xs ((iv + 1) : Int32).toNatClampNeg)) → ry = (f_m_fleet G f0 f8 (xs ((iv + 1) : Int32).toNatClampNeg)) → va_P D classes ((Wx_fleet cI cZ xh v_x v_q1 v_q2 v_rd v_t v_d v_nw v_ps v_im v_is_ v_q10 v_bk v_q12 v_qr v_pr v_cv v_ft v_t0 v_t1 v_t2 v_t3 v_t4 v_ta v_tb v_tc v_td v_te v_fta v_nwc v_fn) ++ ((Wm_fleet cI cZ yh Rf G f0 f8) ++ wr)) H → va_D (lw_A s) ((Wx_fleet cI cZ xh v_x v_q1 v_q2 v_rd v_t v_d v_nw v_ps v_im v_is_ v_q10 v_bk v_q12 v_qr v_pr v_cv v_ft v_t0 v_t1 v_t2 v_t3 v_t4 v_ta v_tb v_tc v_td v_te v_fta v_nwc v_fn) ++ ((Wm_fleet cI cZ yh Rf G f0 f8) ++ wr)) → va_S (lw_A s) s.heap H locs → lv_has ls 4 [(0, .ref b), (1, .ref xh), (2, .ref yh), (3, .int iv)] → W p l e room_1 s m #[Value.ref b] below meth c H locs 60 4269 (lw_Z below #[Value.ref b] s) (F0 m 1015 ls [])) : W p l e room_1 s m #[Value.ref b] below meth c H locs 60 4269 (lw_Z below #[Value.ref b] s) (F0 m 864 ls []) := by
  obtain ⟨hx, hb, hr, hml, hown, hts, hX, hbl, hlocks, hN⟩ := C0
  have hA : ∀ q, s.heap.size ≤ q → lw_A s q := fun _ h => h
  have hbA : ¬ lw_A s b := Nat.not_le.mpr hbl
  refine lv_aload_n hx hb dL_law_864 rfl (lv_at hl 1 rfl) ?_
  refine lv_aload_n hx hb dL_law_865 rfl (lv_at hl 0 rfl) ?_
  refine lv_iload_n hx hb dL_law_866 rfl (lv_at hl 3 rfl) ?_
  refine lv_iconst (v := 1) hx hb dL_law_867 (by decide) ?_
  refine lv_iadd hx hb dL_law_868 ?_
  refine va_sld hx hb hX hbl hbA hS hi1 dL_law_869 ?_
  refine cVa (wc := (Wx_fleet cI cZ xh v_x v_q1 v_q2 v_rd v_t v_d v_nw v_ps v_im v_is_ v_q10 v_bk v_q12 v_qr v_pr v_cv v_ft v_t0 v_t1 v_t2 v_t3 v_t4 v_ta v_tb v_tc v_td v_te v_fta v_nwc v_fn)) (wr := ((Wm_fleet cI cZ yh Rf G f0 f8) ++ wr)) (rest := []) (e_fleet_x9 xh v_x v_rd v_t v_d v_nw v_ps v_im v_is_ v_bk v_qr v_pr v_cv v_ft v_ta v_tb v_tc v_td v_te v_nwc v_q1 v_q2 v_q10 v_q12 v_t0 v_t1 v_t2 v_t3 v_t4 v_fta v_fn (xs ((iv + 1) : Int32).toNatClampNeg)) okV_X9_fleet wd_888 hx hb hml hown hts hK hP hD hS hA hN hl.1 rfl rfl rfl (Nat.le_of_ble_eq_true rfl) (Nat.le_of_ble_eq_true rfl) (Nat.le_of_ble_eq_true rfl) (Nat.le_of_ble_eq_true rfl) (Nat.le_of_ble_eq_true rfl) dL_law_870 (fun rx u1 H locs ex hP hD hS => ?_)
  replace ex : rx = (f_e_fleet_x9 v_q1 v_q2 v_q10 v_q12 v_t0 v_t1 v_t2 v_t3 v_t4 v_fta v_fn (xs ((iv + 1) : Int32).toNatClampNeg)) := ex
  have hP : va_P D classes (((Wm_fleet cI cZ yh Rf G f0 f8) ++ wr) ++ (Wx_fleet cI cZ xh v_x v_q1 v_q2 v_rd v_t v_d v_nw v_ps v_im v_is_ v_q10 v_bk v_q12 v_qr v_pr v_cv v_ft v_t0 v_t1 v_t2 v_t3 v_t4 v_ta v_tb v_tc v_td v_te v_fta v_nwc v_fn)) H := hP
  have hD : va_D (lw_A s) (((Wm_fleet cI cZ yh Rf G f0 f8) ++ wr) ++ (Wx_fleet cI cZ xh v_x v_q1 v_q2 v_rd v_t v_d v_nw v_ps v_im v_is_ v_q10 v_bk v_q12 v_qr v_pr v_cv v_ft v_t0 v_t1 v_t2 v_t3 v_t4 v_ta v_tb v_tc v_td v_te v_fta v_nwc v_fn)) := hD
  rw [List.append_assoc] at hP hD
  refine lv_pop hx hb dL_law_873 rfl ?_
  refine lv_aload_n hx hb dL_law_874 rfl (lv_at hl 2 rfl) ?_
  refine lv_aload_n hx hb dL_law_875 rfl (lv_at hl 0 rfl) ?_
  refine lv_iload_n hx hb dL_law_876 rfl (lv_at hl 3 rfl) ?_
  refine lv_iconst (v := 1) hx hb dL_law_877 (by decide) ?_
  refine lv_iadd hx hb dL_law_878 ?_
  refine va_sld hx hb hX hbl hbA hS hi1 dL_law_879 ?_
  refine cVa (wc := (Wm_fleet cI cZ yh Rf G f0 f8)) (wr := (wr ++ (Wx_fleet cI cZ xh v_x v_q1 v_q2 v_rd v_t v_d v_nw v_ps v_im v_is_ v_q10 v_bk v_q12 v_qr v_pr v_cv v_ft v_t0 v_t1 v_t2 v_t3 v_t4 v_ta v_tb v_tc v_td v_te v_fta v_nwc v_fn))) (rest := []) (m_fleet Rf yh G f0 f8 (xs ((iv + 1) : Int32).toNatClampNeg) hs) okV_X10_fleet wd_892 hx hb hml hown hts hK hP hD hS hA hN hl.1 rfl rfl rfl (Nat.le_of_ble_eq_true rfl) (Nat.le_of_ble_eq_true rfl) (Nat.le_of_ble_eq_true rfl) (Nat.le_of_ble_eq_true rfl) (Nat.le_of_ble_eq_true rfl) dL_law_880 (fun ry u2 H locs em hP hD hS => ?_)
  replace em : ry = (f_m_fleet G f0 f8 (xs ((iv + 1) : Int32).toNatClampNeg)) := em
  have hP : va_P D classes ((wr ++ (Wx_fleet cI cZ xh v_x v_q1 v_q2 v_rd v_t v_d v_nw v_ps v_im v_is_ v_q10 v_bk v_q12 v_qr v_pr v_cv v_ft v_t0 v_t1 v_t2 v_t3 v_t4 v_ta v_tb v_tc v_td v_te v_fta v_nwc v_fn)) ++ (Wm_fleet cI cZ yh Rf G f0 f8)) H := hP
  have hD : va_D (lw_A s) ((wr ++ (Wx_fleet cI cZ xh v_x v_q1 v_q2 v_rd v_t v_d v_nw v_ps v_im v_is_ v_q10 v_bk v_q12 v_qr v_pr v_cv v_ft v_t0 v_t1 v_t2 v_t3 v_t4 v_ta v_tb v_tc v_td v_te v_fta v_nwc v_fn)) ++ (Wm_fleet cI cZ yh Rf G f0 f8)) := hD
  refine lv_pop hx hb dL_law_883 rfl ?_
  refine lv_goto (tgt := 1015) hx hb dL_law_884 (by decide) ?_
  exact hnext rx ry _ _ _ ex em (permP rot hP) (permD rot hD) hS hl
def Wx_write (cI cZ : ClassId) (xh : Nat) (v_x : Nat) (v_q1 : Int32) (v_q2 : Int32) (v_rd : Nat) (v_t : Nat) (v_d : Nat) (v_nw : Nat) (v_ps : Nat) (v_im : Nat) (v_is_ : Nat) (v_q10 : Int32) (v_bk : Nat) (v_q12 : Int32) (v_qr : Nat) (v_pr : Nat) (v_cv : Nat) (v_ft : Nat) (v_t0 : Int32) (v_t1 : Int32) (v_t2 : Int32) (v_t3 : Int32) (v_t4 : Int32) (v_ta : Nat) (v_tb : Nat) (v_tc : Nat) (v_td : Nat) (v_te : Nat) (v_b0 : Int32) (v_bka : Nat) (v_bkb : Nat) (v_fba : Nat → Int32) (v_fbb : Nat → Int32) : va_W := [(xh, .inr (9, [.ref v_x, .int v_q1, .int v_q2, .ref v_rd, .ref v_t, .ref v_d, .ref v_nw, .ref v_ps, .ref v_im, .ref v_is_, .int v_q10, .ref v_bk, .int v_q12, .ref v_qr, .ref v_pr, .ref v_cv, .ref v_ft])), (v_t, .inr (8, [.int v_t0, .int v_t1, .int v_t2, .int v_t3, .int v_t4, .ref v_ta, .ref v_tb, .ref v_tc, .ref v_td, .ref v_te])), (v_bk, .inr (0, [.int v_b0, .ref v_bka, .ref v_bkb])), (v_bka, .inl (cI, 15, .inl v_fba)), (v_bkb, .inl (cI, 15, .inl v_fbb))]
def Wm_write (cI cZ : ClassId) (yh : Nat) (Rf : Nat → Nat) (G : Nat → Int32) (f43 : Nat → Int32) (f44 : Nat → Int32) : va_W := [(yh, .inr (10, ML G Rf)), ((Rf 43), .inl (cI, 15, .inl f43)), ((Rf 44), .inl (cI, 15, .inl f44))]
set_option maxHeartbeats 4000000 in
set_option maxRecDepth 100000 in
theorem law_write {p : Program} {l : Launch} {e : Env} {s : State} {m : MethodId} {below : List Frame} {meth : Method} {c : Code} {D : va_G} {cI cZ : ClassId} {b : Nat} {xs : Nat → Int32} {L : Nat} (wr : va_W) (v_x : Nat) (v_q1 : Int32) (v_q2 : Int32) (v_rd : Nat) (v_t : Nat) (v_d : Nat) (v_nw : Nat) (v_ps : Nat) (v_im : Nat) (v_is_ : Nat) (v_q10 : Int32) (v_bk : Nat) (v_q12 : Int32) (v_qr : Nat) (v_pr : Nat) (v_cv : Nat) (v_ft : Nat) (v_t0 : Int32) (v_t1 : Int32) (v_t2 : Int32) (v_t3 : Int32) (v_t4 : Int32) (v_ta : Nat) (v_tb : Nat) (v_tc : Nat) (v_td : Nat) (v_te : Nat) (v_b0 : Int32) (v_bka : Nat) (v_bkb : Nat) (v_fba : Nat → Int32) (v_fbb : Nat → Int32) (Rf : Nat → Nat) (G : Nat → Int32) (f43 : Nat → Int32) (f44 : Nat → Int32) {xh yh : Nat} {iv : Int32} (C0 : lw_C p s m meth c b L xs) {H : Heap} {locs : List Loc} {ls : Array Slot} (hi1 : ¬ ((iv + 1) < 0 ∨ L ≤ (iv + 1 : Int32).toNatClampNeg)) (hi2 : ¬ ((iv + 2) < 0 ∨ L ≤ (iv + 2 : Int32).toNatClampNeg)) (hi3 : ¬ ((iv + 3) < 0 ∨ L ≤ (iv + 3 : Int32).toNatClampNeg)) (hi4 : ¬ ((iv + 4) < 0 ∨ L ≤ (iv + 4 : Int32).toNatClampNeg)) (hK : va_K D classes (TYS cI cZ) s) (hs : S_m_write G f43 f44 (xs ((iv + 1) : Int32).toNatClampNeg) (xs ((iv + 2) : Int32).toNatClampNeg)) (hP : va_P D classes ((Wx_write cI cZ xh v_x v_q1 v_q2 v_rd v_t v_d v_nw v_ps v_im v_is_ v_q10 v_bk v_q12 v_qr v_pr v_cv v_ft v_t0 v_t1 v_t2 v_t3 v_t4 v_ta v_tb v_tc v_td v_te v_b0 v_bka v_bkb v_fba v_fbb) ++ ((Wm_write cI cZ yh Rf G f43 f44) ++ wr)) H) (hD : va_D (lw_A s) ((Wx_write cI cZ xh v_x v_q1 v_q2 v_rd v_t v_d v_nw v_ps v_im v_is_ v_q10 v_bk v_q12 v_qr v_pr v_cv v_ft v_t0 v_t1 v_t2 v_t3 v_t4 v_ta v_tb v_tc v_td v_te v_b0 v_bka v_bkb v_fba v_fbb) ++ ((Wm_write cI cZ yh Rf G f43 f44) ++ wr))) (hS : va_S (lw_A s) s.heap H locs) (hl : lv_has ls 4 [(0, .ref b), (1, .ref xh), (2, .ref yh), (3, .int iv)]) (hnext : ∀ (rx : Int32) (x0 : Int32) (x1 : (Nat → Int32)) (x2 : (Nat → Int32)) (ry : Int32) (y0 : (Nat → Int32)) (y1 : (Nat → Int32)) (y2 : (Nat → Int32)) (H : Heap) (locs : List Loc) (ls : Array Slot), (rx, x0, x1, x2) = (f_e_write_x9 v_q1 v_q2 v_q10 v_q12 v_t0 v_t1 v_t2 v_t3 v_t4 v_b0 v_fba v_fbb (xs ((iv + 1) : Int32).toNatClampNeg) (xs ((iv + 2) : Int32).toNatClampNeg)) → (ry, y0, y1, y2) = (f_m_write G f43 f44 (xs ((iv + 1) : Int32).toNatClampNeg) (xs ((iv + 2) : Int32).toNatClampNeg)) → va_P D classes ((Wx_write cI cZ xh v_x v_q1 v_q2 v_rd v_t v_d v_nw v_ps v_im v_is_ v_q10 v_bk v_q12 v_qr v_pr v_cv v_ft v_t0 v_t1 v_t2 v_t3 v_t4 v_ta v_tb v_tc v_td v_te x0 v_bka v_bkb x1 x2) ++ ((Wm_write cI cZ yh Rf y0 y1 y2) ++ wr)) H → va_D (lw_A s) ((Wx_write cI cZ xh v_x v_q1 v_q2 v_rd v_t v_d v_nw v_ps v_im v_is_ v_q10 v_bk v_q12 v_qr v_pr v_cv v_ft v_t0 v_t1 v_t2 v_t3 v_t4 v_ta v_tb v_tc v_td v_te x0 v_bka v_bkb x1 x2) ++ ((Wm_write cI cZ yh Rf y0 y1 y2) ++ wr)) → va_S (lw_A s) s.heap H locs → lv_has ls 4 [(0, .ref b), (1, .ref xh), (2, .ref yh), (3, .int iv)] → W p l e room_1 s m #[Value.ref b] below meth c H locs 60 4269 (lw_Z below #[Value.ref b] s) (F0 m 1015 ls [])) : W p l e room_1 s m #[Value.ref b] below meth c H locs 60 4269 (lw_Z below #[Value.ref b] s) (F0 m 887 ls []) := by
  obtain ⟨hx, hb, hr, hml, hown, hts, hX, hbl, hlocks, hN⟩ := C0
  have hA : ∀ q, s.heap.size ≤ q → lw_A s q := fun _ h => h
  have hbA : ¬ lw_A s b := Nat.not_le.mpr hbl
  refine lv_aload_n hx hb dL_law_887 rfl (lv_at hl 1 rfl) ?_
  refine lv_aload_n hx hb dL_law_888 rfl (lv_at hl 0 rfl) ?_
  refine lv_iload_n hx hb dL_law_889 rfl (lv_at hl 3 rfl) ?_
  refine lv_iconst (v := 1) hx hb dL_law_890 (by decide) ?_
  refine lv_iadd hx hb dL_law_891 ?_
  refine va_sld hx hb hX hbl hbA hS hi1 dL_law_892 ?_
  refine lv_aload_n hx hb dL_law_893 rfl (lv_at hl 0 rfl) ?_
  refine lv_iload_n hx hb dL_law_894 rfl (lv_at hl 3 rfl) ?_
  refine lv_iconst (v := 2) hx hb dL_law_895 (by decide) ?_
  refine lv_iadd hx hb dL_law_896 ?_
  refine va_sld hx hb hX hbl hbA hS hi2 dL_law_897 ?_
  refine cVa (wc := (Wx_write cI cZ xh v_x v_q1 v_q2 v_rd v_t v_d v_nw v_ps v_im v_is_ v_q10 v_bk v_q12 v_qr v_pr v_cv v_ft v_t0 v_t1 v_t2 v_t3 v_t4 v_ta v_tb v_tc v_td v_te v_b0 v_bka v_bkb v_fba v_fbb)) (wr := ((Wm_write cI cZ yh Rf G f43 f44) ++ wr)) (rest := []) (e_write_x9 xh v_x v_rd v_t v_d v_nw v_ps v_im v_is_ v_bk v_qr v_pr v_cv v_ft v_ta v_tb v_tc v_td v_te v_bka v_bkb v_q1 v_q2 v_q10 v_q12 v_t0 v_t1 v_t2 v_t3 v_t4 v_b0 v_fba v_fbb (xs ((iv + 1) : Int32).toNatClampNeg) (xs ((iv + 2) : Int32).toNatClampNeg)) okV_X9_write wd_896 hx hb hml hown hts hK hP hD hS hA hN hl.1 rfl rfl rfl (Nat.le_of_ble_eq_true rfl) (Nat.le_of_ble_eq_true rfl) (Nat.le_of_ble_eq_true rfl) (Nat.le_of_ble_eq_true rfl) (Nat.le_of_ble_eq_true rfl) dL_law_898 (fun rx u1 H locs ex hP hD hS => ?_)
  obtain ⟨x0, x1, x2⟩ := u1
  replace ex : (rx, x0, x1, x2) = (f_e_write_x9 v_q1 v_q2 v_q10 v_q12 v_t0 v_t1 v_t2 v_t3 v_t4 v_b0 v_fba v_fbb (xs ((iv + 1) : Int32).toNatClampNeg) (xs ((iv + 2) : Int32).toNatClampNeg)) := ex
  have hP : va_P D classes (((Wm_write cI cZ yh Rf G f43 f44) ++ wr) ++ (Wx_write cI cZ xh v_x v_q1 v_q2 v_rd v_t v_d v_nw v_ps v_im v_is_ v_q10 v_bk v_q12 v_qr v_pr v_cv v_ft v_t0 v_t1 v_t2 v_t3 v_t4 v_ta v_tb v_tc v_td v_te x0 v_bka v_bkb x1 x2)) H := hP
  have hD : va_D (lw_A s) (((Wm_write cI cZ yh Rf G f43 f44) ++ wr) ++ (Wx_write cI cZ xh v_x v_q1 v_q2 v_rd v_t v_d v_nw v_ps v_im v_is_ v_q10 v_bk v_q12 v_qr v_pr v_cv v_ft v_t0 v_t1 v_t2 v_t3 v_t4 v_ta v_tb v_tc v_td v_te x0 v_bka v_bkb x1 x2)) := hD
  rw [List.append_assoc] at hP hD
  refine lv_pop hx hb dL_law_901 rfl ?_
  refine lv_aload_n hx hb dL_law_902 rfl (lv_at hl 2 rfl) ?_
  refine lv_aload_n hx hb dL_law_903 rfl (lv_at hl 0 rfl) ?_
  refine lv_iload_n hx hb dL_law_904 rfl (lv_at hl 3 rfl) ?_
  refine lv_iconst (v := 1) hx hb dL_law_905 (by decide) ?_
  refine lv_iadd hx hb dL_law_906 ?_
  refine va_sld hx hb hX hbl hbA hS hi1 dL_law_907 ?_
  refine lv_aload_n hx hb dL_law_908 rfl (lv_at hl 0 rfl) ?_
  refine lv_iload_n hx hb dL_law_909 rfl (lv_at hl 3 rfl) ?_
  refine lv_iconst (v := 2) hx hb dL_law_910 (by decide) ?_
  refine lv_iadd hx hb dL_law_911 ?_
  refine va_sld hx hb hX hbl hbA hS hi2 dL_law_912 ?_
  refine cVa (wc := (Wm_write cI cZ yh Rf G f43 f44)) (wr := (wr ++ (Wx_write cI cZ xh v_x v_q1 v_q2 v_rd v_t v_d v_nw v_ps v_im v_is_ v_q10 v_bk v_q12 v_qr v_pr v_cv v_ft v_t0 v_t1 v_t2 v_t3 v_t4 v_ta v_tb v_tc v_td v_te x0 v_bka v_bkb x1 x2))) (rest := []) (m_write Rf yh G f43 f44 (xs ((iv + 1) : Int32).toNatClampNeg) (xs ((iv + 2) : Int32).toNatClampNeg) hs) okV_X10_write wd_900 hx hb hml hown hts hK hP hD hS hA hN hl.1 rfl rfl rfl (Nat.le_of_ble_eq_true rfl) (Nat.le_of_ble_eq_true rfl) (Nat.le_of_ble_eq_true rfl) (Nat.le_of_ble_eq_true rfl) (Nat.le_of_ble_eq_true rfl) dL_law_913 (fun ry u2 H locs em hP hD hS => ?_)
  obtain ⟨y0, y1, y2⟩ := u2
  replace em : (ry, y0, y1, y2) = (f_m_write G f43 f44 (xs ((iv + 1) : Int32).toNatClampNeg) (xs ((iv + 2) : Int32).toNatClampNeg)) := em
  have hP : va_P D classes ((wr ++ (Wx_write cI cZ xh v_x v_q1 v_q2 v_rd v_t v_d v_nw v_ps v_im v_is_ v_q10 v_bk v_q12 v_qr v_pr v_cv v_ft v_t0 v_t1 v_t2 v_t3 v_t4 v_ta v_tb v_tc v_td v_te x0 v_bka v_bkb x1 x2)) ++ (Wm_write cI cZ yh Rf y0 y1 y2)) H := hP
  have hD : va_D (lw_A s) ((wr ++ (Wx_write cI cZ xh v_x v_q1 v_q2 v_rd v_t v_d v_nw v_ps v_im v_is_ v_q10 v_bk v_q12 v_qr v_pr v_cv v_ft v_t0 v_t1 v_t2 v_t3 v_t4 v_ta v_tb v_tc v_td v_te x0 v_bka v_bkb x1 x2)) ++ (Wm_write cI cZ yh Rf y0 y1 y2)) := hD
  refine lv_pop hx hb dL_law_916 rfl ?_
  refine lv_goto (tgt := 1015) hx hb dL_law_917 (by decide) ?_
  exact hnext rx x0 x1 x2 ry y0 y1 y2 _ _ _ ex em (permP rot hP) (permD rot hD) hS hl
def Wx_tear (cI cZ : ClassId) (xh : Nat) (v_x : Nat) (v_q1 : Int32) (v_q2 : Int32) (v_rd : Nat) (v_t : Nat) (v_d : Nat) (v_nw : Nat) (v_ps : Nat) (v_im : Nat) (v_is_ : Nat) (v_q10 : Int32) (v_bk : Nat) (v_q12 : Int32) (v_qr : Nat) (v_pr : Nat) (v_cv : Nat) (v_ft : Nat) (v_b0 : Int32) (v_bka : Nat) (v_bkb : Nat) : va_W := [(xh, .inr (9, [.ref v_x, .int v_q1, .int v_q2, .ref v_rd, .ref v_t, .ref v_d, .ref v_nw, .ref v_ps, .ref v_im, .ref v_is_, .int v_q10, .ref v_bk, .int v_q12, .ref v_qr, .ref v_pr, .ref v_cv, .ref v_ft])), (v_bk, .inr (0, [.int v_b0, .ref v_bka, .ref v_bkb]))]
def Wm_tear (cI cZ : ClassId) (yh : Nat) (Rf : Nat → Nat) (G : Nat → Int32) : va_W := [(yh, .inr (10, ML G Rf))]
set_option maxHeartbeats 4000000 in
set_option maxRecDepth 100000 in
theorem law_tear {p : Program} {l : Launch} {e : Env} {s : State} {m : MethodId} {below : List Frame} {meth : Method} {c : Code} {D : va_G} {cI cZ : ClassId} {b : Nat} {xs : Nat → Int32} {L : Nat} (wr : va_W) (v_x : Nat) (v_q1 : Int32) (v_q2 : Int32) (v_rd : Nat) (v_t : Nat) (v_d : Nat) (v_nw : Nat) (v_ps : Nat) (v_im : Nat) (v_is_ : Nat) (v_q10 : Int32) (v_bk : Nat) (v_q12 : Int32) (v_qr : Nat) (v_pr : Nat) (v_cv : Nat) (v_ft : Nat) (v_b0 : Int32) (v_bka : Nat) (v_bkb : Nat) (Rf : Nat → Nat) (G : Nat → Int32) {xh yh : Nat} {iv : Int32} (C0 : lw_C p s m meth c b L xs) {H : Heap} {locs : List Loc} {ls : Array Slot} (hi1 : ¬ ((iv + 1) < 0 ∨ L ≤ (iv + 1 : Int32).toNatClampNeg)) (hi2 : ¬ ((iv + 2) < 0 ∨ L ≤ (iv + 2 : Int32).toNatClampNeg)) (hi3 : ¬ ((iv + 3) < 0 ∨ L ≤ (iv + 3 : Int32).toNatClampNeg)) (hi4 : ¬ ((iv + 4) < 0 ∨ L ≤ (iv + 4 : Int32).toNatClampNeg)) (hK : va_K D classes (TYS cI cZ) s) (hs : S_m_tear G) (hP : va_P D classes ((Wx_tear cI cZ xh v_x v_q1 v_q2 v_rd v_t v_d v_nw v_ps v_im v_is_ v_q10 v_bk v_q12 v_qr v_pr v_cv v_ft v_b0 v_bka v_bkb) ++ ((Wm_tear cI cZ yh Rf G) ++ wr)) H) (hD : va_D (lw_A s) ((Wx_tear cI cZ xh v_x v_q1 v_q2 v_rd v_t v_d v_nw v_ps v_im v_is_ v_q10 v_bk v_q12 v_qr v_pr v_cv v_ft v_b0 v_bka v_bkb) ++ ((Wm_tear cI cZ yh Rf G) ++ wr))) (hS : va_S (lw_A s) s.heap H locs) (hl : lv_has ls 4 [(0, .ref b), (1, .ref xh), (2, .ref yh), (3, .int iv)]) (hnext : ∀ (rx : Int32) (x0 : Int32) (ry : Int32) (y0 : (Nat → Int32)) (H : Heap) (locs : List Loc) (ls : Array Slot), (rx, x0) = (f_e_tear_x9 v_q1 v_q2 v_q10 v_q12 v_b0) → (ry, y0) = (f_m_tear G) → va_P D classes ((Wx_tear cI cZ xh v_x v_q1 v_q2 v_rd v_t v_d v_nw v_ps v_im v_is_ v_q10 v_bk v_q12 v_qr v_pr v_cv v_ft x0 v_bka v_bkb) ++ ((Wm_tear cI cZ yh Rf y0) ++ wr)) H → va_D (lw_A s) ((Wx_tear cI cZ xh v_x v_q1 v_q2 v_rd v_t v_d v_nw v_ps v_im v_is_ v_q10 v_bk v_q12 v_qr v_pr v_cv v_ft x0 v_bka v_bkb) ++ ((Wm_tear cI cZ yh Rf y0) ++ wr)) → va_S (lw_A s) s.heap H locs → lv_has ls 4 [(0, .ref b), (1, .ref xh), (2, .ref yh), (3, .int iv)] → W p l e room_1 s m #[Value.ref b] below meth c H locs 60 4269 (lw_Z below #[Value.ref b] s) (F0 m 1015 ls [])) : W p l e room_1 s m #[Value.ref b] below meth c H locs 60 4269 (lw_Z below #[Value.ref b] s) (F0 m 920 ls []) := by
  obtain ⟨hx, hb, hr, hml, hown, hts, hX, hbl, hlocks, hN⟩ := C0
  have hA : ∀ q, s.heap.size ≤ q → lw_A s q := fun _ h => h
  have hbA : ¬ lw_A s b := Nat.not_le.mpr hbl
  refine lv_aload_n hx hb dL_law_920 rfl (lv_at hl 1 rfl) ?_
  refine cVa (wc := (Wx_tear cI cZ xh v_x v_q1 v_q2 v_rd v_t v_d v_nw v_ps v_im v_is_ v_q10 v_bk v_q12 v_qr v_pr v_cv v_ft v_b0 v_bka v_bkb)) (wr := ((Wm_tear cI cZ yh Rf G) ++ wr)) (rest := []) (e_tear_x9 xh v_x v_rd v_t v_d v_nw v_ps v_im v_is_ v_bk v_qr v_pr v_cv v_ft v_bka v_bkb v_q1 v_q2 v_q10 v_q12 v_b0) okV_X9_tear wd_904 hx hb hml hown hts hK hP hD hS hA hN hl.1 rfl rfl rfl (Nat.le_of_ble_eq_true rfl) (Nat.le_of_ble_eq_true rfl) (Nat.le_of_ble_eq_true rfl) (Nat.le_of_ble_eq_true rfl) (Nat.le_of_ble_eq_true rfl) dL_law_921 (fun rx u1 H locs ex hP hD hS => ?_)
  obtain ⟨x0, hx0⟩ : ∃ q, q = u1 := ⟨_, rfl⟩
  subst hx0
  replace ex : (rx, x0) = (f_e_tear_x9 v_q1 v_q2 v_q10 v_q12 v_b0) := ex
  have hP : va_P D classes (((Wm_tear cI cZ yh Rf G) ++ wr) ++ (Wx_tear cI cZ xh v_x v_q1 v_q2 v_rd v_t v_d v_nw v_ps v_im v_is_ v_q10 v_bk v_q12 v_qr v_pr v_cv v_ft x0 v_bka v_bkb)) H := hP
  have hD : va_D (lw_A s) (((Wm_tear cI cZ yh Rf G) ++ wr) ++ (Wx_tear cI cZ xh v_x v_q1 v_q2 v_rd v_t v_d v_nw v_ps v_im v_is_ v_q10 v_bk v_q12 v_qr v_pr v_cv v_ft x0 v_bka v_bkb)) := hD
  rw [List.append_assoc] at hP hD
  refine lv_pop hx hb dL_law_924 rfl ?_
  refine lv_aload_n hx hb dL_law_925 rfl (lv_at hl 2 rfl) ?_
  refine cVa (wc := (Wm_tear cI cZ yh Rf G)) (wr := (wr ++ (Wx_tear cI cZ xh v_x v_q1 v_q2 v_rd v_t v_d v_nw v_ps v_im v_is_ v_q10 v_bk v_q12 v_qr v_pr v_cv v_ft x0 v_bka v_bkb))) (rest := []) (m_tear Rf yh G hs) okV_X10_tear wd_908 hx hb hml hown hts hK hP hD hS hA hN hl.1 rfl rfl rfl (Nat.le_of_ble_eq_true rfl) (Nat.le_of_ble_eq_true rfl) (Nat.le_of_ble_eq_true rfl) (Nat.le_of_ble_eq_true rfl) (Nat.le_of_ble_eq_true rfl) dL_law_926 (fun ry u2 H locs em hP hD hS => ?_)
  obtain ⟨y0, hy0⟩ : ∃ q, q = u2 := ⟨_, rfl⟩
  subst hy0
  replace em : (ry, y0) = (f_m_tear G) := em
  have hP : va_P D classes ((wr ++ (Wx_tear cI cZ xh v_x v_q1 v_q2 v_rd v_t v_d v_nw v_ps v_im v_is_ v_q10 v_bk v_q12 v_qr v_pr v_cv v_ft x0 v_bka v_bkb)) ++ (Wm_tear cI cZ yh Rf y0)) H := hP
  have hD : va_D (lw_A s) ((wr ++ (Wx_tear cI cZ xh v_x v_q1 v_q2 v_rd v_t v_d v_nw v_ps v_im v_is_ v_q10 v_bk v_q12 v_qr v_pr v_cv v_ft x0 v_bka v_bkb)) ++ (Wm_tear cI cZ yh Rf y0)) := hD
  refine lv_pop hx hb dL_law_929 rfl ?_
  refine lv_goto (tgt := 1015) hx hb dL_law_930 (by decide) ?_
  exact hnext rx x0 ry y0 _ _ _ ex em (permP rot hP) (permD rot hD) hS hl
def Wx_judge (cI cZ : ClassId) (xh : Nat) (v_x : Nat) (v_q1 : Int32) (v_q2 : Int32) (v_rd : Nat) (v_t : Nat) (v_d : Nat) (v_nw : Nat) (v_ps : Nat) (v_im : Nat) (v_is_ : Nat) (v_q10 : Int32) (v_bk : Nat) (v_q12 : Int32) (v_qr : Nat) (v_pr : Nat) (v_cv : Nat) (v_ft : Nat) (v_nwc : Nat) (v_fn : Nat → Int32) (v_b0 : Int32) (v_bka : Nat) (v_bkb : Nat) (v_fba : Nat → Int32) (v_fbb : Nat → Int32) : va_W := [(xh, .inr (9, [.ref v_x, .int v_q1, .int v_q2, .ref v_rd, .ref v_t, .ref v_d, .ref v_nw, .ref v_ps, .ref v_im, .ref v_is_, .int v_q10, .ref v_bk, .int v_q12, .ref v_qr, .ref v_pr, .ref v_cv, .ref v_ft])), (v_bk, .inr (0, [.int v_b0, .ref v_bka, .ref v_bkb])), (v_bka, .inl (cI, 15, .inl v_fba)), (v_bkb, .inl (cI, 15, .inl v_fbb)), (v_nw, .inr (7, [.ref v_nwc])), (v_nwc, .inl (cI, 41, .inl v_fn))]
def Wm_judge (cI cZ : ClassId) (yh : Nat) (Rf : Nat → Nat) (G : Nat → Int32) (f0 : Nat → Int32) (f43 : Nat → Int32) (f44 : Nat → Int32) : va_W := [(yh, .inr (10, ML G Rf)), ((Rf 0), .inl (cI, 1302, .inl f0)), ((Rf 43), .inl (cI, 15, .inl f43)), ((Rf 44), .inl (cI, 15, .inl f44))]
set_option maxHeartbeats 4000000 in
set_option maxRecDepth 100000 in
theorem law_judge {p : Program} {l : Launch} {e : Env} {s : State} {m : MethodId} {below : List Frame} {meth : Method} {c : Code} {D : va_G} {cI cZ : ClassId} {b : Nat} {xs : Nat → Int32} {L : Nat} (wr : va_W) (v_x : Nat) (v_q1 : Int32) (v_q2 : Int32) (v_rd : Nat) (v_t : Nat) (v_d : Nat) (v_nw : Nat) (v_ps : Nat) (v_im : Nat) (v_is_ : Nat) (v_q10 : Int32) (v_bk : Nat) (v_q12 : Int32) (v_qr : Nat) (v_pr : Nat) (v_cv : Nat) (v_ft : Nat) (v_nwc : Nat) (v_fn : Nat → Int32) (v_b0 : Int32) (v_bka : Nat) (v_bkb : Nat) (v_fba : Nat → Int32) (v_fbb : Nat → Int32) (Rf : Nat → Nat) (G : Nat → Int32) (f0 : Nat → Int32) (f43 : Nat → Int32) (f44 : Nat → Int32) {xh yh : Nat} {iv : Int32} (C0 : lw_C p s m meth c b L xs) {H : Heap} {locs : List Loc} {ls : Array Slot} (hi1 : ¬ ((iv + 1) < 0 ∨ L ≤ (iv + 1 : Int32).toNatClampNeg)) (hi2 : ¬ ((iv + 2) < 0 ∨ L ≤ (iv + 2 : Int32).toNatClampNeg)) (hi3 : ¬ ((iv + 3) < 0 ∨ L ≤ (iv + 3 : Int32).toNatClampNeg)) (hi4 : ¬ ((iv + 4) < 0 ∨ L ≤ (iv + 4 : Int32).toNatClampNeg)) (hK : va_K D classes (TYS cI cZ) s) (hs : S_m_judge G f0 f43 f44) (hP : va_P D classes ((Wx_judge cI cZ xh v_x v_q1 v_q2 v_rd v_t v_d v_nw v_ps v_im v_is_ v_q10 v_bk v_q12 v_qr v_pr v_cv v_ft v_nwc v_fn v_b0 v_bka v_bkb v_fba v_fbb) ++ ((Wm_judge cI cZ yh Rf G f0 f43 f44) ++ wr)) H) (hD : va_D (lw_A s) ((Wx_judge cI cZ xh v_x v_q1 v_q2 v_rd v_t v_d v_nw v_ps v_im v_is_ v_q10 v_bk v_q12 v_qr v_pr v_cv v_ft v_nwc v_fn v_b0 v_bka v_bkb v_fba v_fbb) ++ ((Wm_judge cI cZ yh Rf G f0 f43 f44) ++ wr))) (hS : va_S (lw_A s) s.heap H locs) (hl : lv_has ls 4 [(0, .ref b), (1, .ref xh), (2, .ref yh), (3, .int iv)]) (hnext : ∀ (rx : Int32) (ry : Int32) (H : Heap) (locs : List Loc) (ls : Array Slot), rx = (f_e_judge_x9 v_q1 v_q2 v_q10 v_q12 v_b0 v_fba v_fbb v_fn) → ry = (f_m_judge G f0 f43 f44) → va_P D classes ((Wx_judge cI cZ xh v_x v_q1 v_q2 v_rd v_t v_d v_nw v_ps v_im v_is_ v_q10 v_bk v_q12 v_qr v_pr v_cv v_ft v_nwc v_fn v_b0 v_bka v_bkb v_fba v_fbb) ++ ((Wm_judge cI cZ yh Rf G f0 f43 f44) ++ wr)) H → va_D (lw_A s) ((Wx_judge cI cZ xh v_x v_q1 v_q2 v_rd v_t v_d v_nw v_ps v_im v_is_ v_q10 v_bk v_q12 v_qr v_pr v_cv v_ft v_nwc v_fn v_b0 v_bka v_bkb v_fba v_fbb) ++ ((Wm_judge cI cZ yh Rf G f0 f43 f44) ++ wr)) → va_S (lw_A s) s.heap H locs → lv_has ls 4 [(0, .ref b), (1, .ref xh), (2, .ref yh), (3, .int iv)] → W p l e room_1 s m #[Value.ref b] below meth c H locs 60 4269 (lw_Z below #[Value.ref b] s) (F0 m 1015 ls [])) : W p l e room_1 s m #[Value.ref b] below meth c H locs 60 4269 (lw_Z below #[Value.ref b] s) (F0 m 933 ls []) := by
  obtain ⟨hx, hb, hr, hml, hown, hts, hX, hbl, hlocks, hN⟩ := C0
  have hA : ∀ q, s.heap.size ≤ q → lw_A s q := fun _ h => h
  have hbA : ¬ lw_A s b := Nat.not_le.mpr hbl
  refine lv_aload_n hx hb dL_law_933 rfl (lv_at hl 1 rfl) ?_
  refine cVa (wc := (Wx_judge cI cZ xh v_x v_q1 v_q2 v_rd v_t v_d v_nw v_ps v_im v_is_ v_q10 v_bk v_q12 v_qr v_pr v_cv v_ft v_nwc v_fn v_b0 v_bka v_bkb v_fba v_fbb)) (wr := ((Wm_judge cI cZ yh Rf G f0 f43 f44) ++ wr)) (rest := []) (e_judge_x9 xh v_x v_rd v_t v_d v_nw v_ps v_im v_is_ v_bk v_qr v_pr v_cv v_ft v_bka v_bkb v_nwc v_q1 v_q2 v_q10 v_q12 v_b0 v_fba v_fbb v_fn) okV_X9_judge wd_912 hx hb hml hown hts hK hP hD hS hA hN hl.1 rfl rfl rfl (Nat.le_of_ble_eq_true rfl) (Nat.le_of_ble_eq_true rfl) (Nat.le_of_ble_eq_true rfl) (Nat.le_of_ble_eq_true rfl) (Nat.le_of_ble_eq_true rfl) dL_law_934 (fun rx u1 H locs ex hP hD hS => ?_)
  replace ex : rx = (f_e_judge_x9 v_q1 v_q2 v_q10 v_q12 v_b0 v_fba v_fbb v_fn) := ex
  have hP : va_P D classes (((Wm_judge cI cZ yh Rf G f0 f43 f44) ++ wr) ++ (Wx_judge cI cZ xh v_x v_q1 v_q2 v_rd v_t v_d v_nw v_ps v_im v_is_ v_q10 v_bk v_q12 v_qr v_pr v_cv v_ft v_nwc v_fn v_b0 v_bka v_bkb v_fba v_fbb)) H := hP
  have hD : va_D (lw_A s) (((Wm_judge cI cZ yh Rf G f0 f43 f44) ++ wr) ++ (Wx_judge cI cZ xh v_x v_q1 v_q2 v_rd v_t v_d v_nw v_ps v_im v_is_ v_q10 v_bk v_q12 v_qr v_pr v_cv v_ft v_nwc v_fn v_b0 v_bka v_bkb v_fba v_fbb)) := hD
  rw [List.append_assoc] at hP hD
  refine lv_pop hx hb dL_law_937 rfl ?_
  refine lv_aload_n hx hb dL_law_938 rfl (lv_at hl 2 rfl) ?_
  refine cVa (wc := (Wm_judge cI cZ yh Rf G f0 f43 f44)) (wr := (wr ++ (Wx_judge cI cZ xh v_x v_q1 v_q2 v_rd v_t v_d v_nw v_ps v_im v_is_ v_q10 v_bk v_q12 v_qr v_pr v_cv v_ft v_nwc v_fn v_b0 v_bka v_bkb v_fba v_fbb))) (rest := []) (m_judge Rf yh G f0 f43 f44 hs) okV_X10_judge wd_916 hx hb hml hown hts hK hP hD hS hA hN hl.1 rfl rfl rfl (Nat.le_of_ble_eq_true rfl) (Nat.le_of_ble_eq_true rfl) (Nat.le_of_ble_eq_true rfl) (Nat.le_of_ble_eq_true rfl) (Nat.le_of_ble_eq_true rfl) dL_law_939 (fun ry u2 H locs em hP hD hS => ?_)
  replace em : ry = (f_m_judge G f0 f43 f44) := em
  have hP : va_P D classes ((wr ++ (Wx_judge cI cZ xh v_x v_q1 v_q2 v_rd v_t v_d v_nw v_ps v_im v_is_ v_q10 v_bk v_q12 v_qr v_pr v_cv v_ft v_nwc v_fn v_b0 v_bka v_bkb v_fba v_fbb)) ++ (Wm_judge cI cZ yh Rf G f0 f43 f44)) H := hP
  have hD : va_D (lw_A s) ((wr ++ (Wx_judge cI cZ xh v_x v_q1 v_q2 v_rd v_t v_d v_nw v_ps v_im v_is_ v_q10 v_bk v_q12 v_qr v_pr v_cv v_ft v_nwc v_fn v_b0 v_bka v_bkb v_fba v_fbb)) ++ (Wm_judge cI cZ yh Rf G f0 f43 f44)) := hD
  refine lv_pop hx hb dL_law_942 rfl ?_
  refine lv_goto (tgt := 1015) hx hb dL_law_943 (by decide) ?_
  exact hnext rx ry _ _ _ ex em (permP rot hP) (permD rot hD) hS hl
def Wx_seed (cI cZ : ClassId) (xh : Nat) (v_x : Nat) (v_q1 : Int32) (v_q2 : Int32) (v_rd : Nat) (v_t : Nat) (v_d : Nat) (v_nw : Nat) (v_ps : Nat) (v_im : Nat) (v_is_ : Nat) (v_q10 : Int32) (v_bk : Nat) (v_q12 : Int32) (v_qr : Nat) (v_pr : Nat) (v_cv : Nat) (v_ft : Nat) : va_W := [(xh, .inr (9, [.ref v_x, .int v_q1, .int v_q2, .ref v_rd, .ref v_t, .ref v_d, .ref v_nw, .ref v_ps, .ref v_im, .ref v_is_, .int v_q10, .ref v_bk, .int v_q12, .ref v_qr, .ref v_pr, .ref v_cv, .ref v_ft]))]
def Wm_seed (cI cZ : ClassId) (yh : Nat) (Rf : Nat → Nat) (G : Nat → Int32) (f0 : Nat → Int32) : va_W := [(yh, .inr (10, ML G Rf)), ((Rf 0), .inl (cI, 1302, .inl f0))]
set_option maxHeartbeats 4000000 in
set_option maxRecDepth 100000 in
theorem law_seed {p : Program} {l : Launch} {e : Env} {s : State} {m : MethodId} {below : List Frame} {meth : Method} {c : Code} {D : va_G} {cI cZ : ClassId} {b : Nat} {xs : Nat → Int32} {L : Nat} (wr : va_W) (v_x : Nat) (v_q1 : Int32) (v_q2 : Int32) (v_rd : Nat) (v_t : Nat) (v_d : Nat) (v_nw : Nat) (v_ps : Nat) (v_im : Nat) (v_is_ : Nat) (v_q10 : Int32) (v_bk : Nat) (v_q12 : Int32) (v_qr : Nat) (v_pr : Nat) (v_cv : Nat) (v_ft : Nat) (Rf : Nat → Nat) (G : Nat → Int32) (f0 : Nat → Int32) {xh yh : Nat} {iv : Int32} (C0 : lw_C p s m meth c b L xs) {H : Heap} {locs : List Loc} {ls : Array Slot} (hi1 : ¬ ((iv + 1) < 0 ∨ L ≤ (iv + 1 : Int32).toNatClampNeg)) (hi2 : ¬ ((iv + 2) < 0 ∨ L ≤ (iv + 2 : Int32).toNatClampNeg)) (hi3 : ¬ ((iv + 3) < 0 ∨ L ≤ (iv + 3 : Int32).toNatClampNeg)) (hi4 : ¬ ((iv + 4) < 0 ∨ L ≤ (iv + 4 : Int32).toNatClampNeg)) (hK : va_K D classes (TYS cI cZ) s) (hs : S_m_seed f0 (xs ((iv + 1) : Int32).toNatClampNeg)) (hP : va_P D classes ((Wx_seed cI cZ xh v_x v_q1 v_q2 v_rd v_t v_d v_nw v_ps v_im v_is_ v_q10 v_bk v_q12 v_qr v_pr v_cv v_ft) ++ ((Wm_seed cI cZ yh Rf G f0) ++ wr)) H) (hD : va_D (lw_A s) ((Wx_seed cI cZ xh v_x v_q1 v_q2 v_rd v_t v_d v_nw v_ps v_im v_is_ v_q10 v_bk v_q12 v_qr v_pr v_cv v_ft) ++ ((Wm_seed cI cZ yh Rf G f0) ++ wr))) (hS : va_S (lw_A s) s.heap H locs) (hl : lv_has ls 4 [(0, .ref b), (1, .ref xh), (2, .ref yh), (3, .int iv)]) (hnext : ∀ (rx : Int32) (x0 : Int32) (ry : Int32) (y0 : (Nat → Int32)) (H : Heap) (locs : List Loc) (ls : Array Slot), (rx, x0) = (f_e_seed_x9 v_q1 v_q2 v_q10 v_q12 (xs ((iv + 1) : Int32).toNatClampNeg)) → (ry, y0) = (f_m_seed f0 (xs ((iv + 1) : Int32).toNatClampNeg)) → va_P D classes ((Wx_seed cI cZ xh v_x v_q1 v_q2 v_rd v_t v_d v_nw v_ps v_im v_is_ v_q10 v_bk x0 v_qr v_pr v_cv v_ft) ++ ((Wm_seed cI cZ yh Rf G y0) ++ wr)) H → va_D (lw_A s) ((Wx_seed cI cZ xh v_x v_q1 v_q2 v_rd v_t v_d v_nw v_ps v_im v_is_ v_q10 v_bk x0 v_qr v_pr v_cv v_ft) ++ ((Wm_seed cI cZ yh Rf G y0) ++ wr)) → va_S (lw_A s) s.heap H locs → lv_has ls 4 [(0, .ref b), (1, .ref xh), (2, .ref yh), (3, .int iv)] → W p l e room_1 s m #[Value.ref b] below meth c H locs 60 4269 (lw_Z below #[Value.ref b] s) (F0 m 1015 ls [])) : W p l e room_1 s m #[Value.ref b] below meth c H locs 60 4269 (lw_Z below #[Value.ref b] s) (F0 m 946 ls []) := by
  obtain ⟨hx, hb, hr, hml, hown, hts, hX, hbl, hlocks, hN⟩ := C0
  have hA : ∀ q, s.heap.size ≤ q → lw_A s q := fun _ h => h
  have hbA : ¬ lw_A s b := Nat.not_le.mpr hbl
  refine lv_aload_n hx hb dL_law_946 rfl (lv_at hl 1 rfl) ?_
  refine lv_aload_n hx hb dL_law_947 rfl (lv_at hl 0 rfl) ?_
  refine lv_iload_n hx hb dL_law_948 rfl (lv_at hl 3 rfl) ?_
  refine lv_iconst (v := 1) hx hb dL_law_949 (by decide) ?_
  refine lv_iadd hx hb dL_law_950 ?_
  refine va_sld hx hb hX hbl hbA hS hi1 dL_law_951 ?_
  refine cVa (wc := (Wx_seed cI cZ xh v_x v_q1 v_q2 v_rd v_t v_d v_nw v_ps v_im v_is_ v_q10 v_bk v_q12 v_qr v_pr v_cv v_ft)) (wr := ((Wm_seed cI cZ yh Rf G f0) ++ wr)) (rest := []) (e_seed_x9 xh v_x v_rd v_t v_d v_nw v_ps v_im v_is_ v_bk v_qr v_pr v_cv v_ft v_q1 v_q2 v_q10 v_q12 (xs ((iv + 1) : Int32).toNatClampNeg)) okV_X9_seed wd_920 hx hb hml hown hts hK hP hD hS hA hN hl.1 rfl rfl rfl (Nat.le_of_ble_eq_true rfl) (Nat.le_of_ble_eq_true rfl) (Nat.le_of_ble_eq_true rfl) (Nat.le_of_ble_eq_true rfl) (Nat.le_of_ble_eq_true rfl) dL_law_952 (fun rx u1 H locs ex hP hD hS => ?_)
  obtain ⟨x0, hx0⟩ : ∃ q, q = u1 := ⟨_, rfl⟩
  subst hx0
  replace ex : (rx, x0) = (f_e_seed_x9 v_q1 v_q2 v_q10 v_q12 (xs ((iv + 1) : Int32).toNatClampNeg)) := ex
  have hP : va_P D classes (((Wm_seed cI cZ yh Rf G f0) ++ wr) ++ (Wx_seed cI cZ xh v_x v_q1 v_q2 v_rd v_t v_d v_nw v_ps v_im v_is_ v_q10 v_bk x0 v_qr v_pr v_cv v_ft)) H := hP
  have hD : va_D (lw_A s) (((Wm_seed cI cZ yh Rf G f0) ++ wr) ++ (Wx_seed cI cZ xh v_x v_q1 v_q2 v_rd v_t v_d v_nw v_ps v_im v_is_ v_q10 v_bk x0 v_qr v_pr v_cv v_ft)) := hD
  rw [List.append_assoc] at hP hD
  refine lv_pop hx hb dL_law_955 rfl ?_
  refine lv_aload_n hx hb dL_law_956 rfl (lv_at hl 2 rfl) ?_
  refine lv_aload_n hx hb dL_law_957 rfl (lv_at hl 0 rfl) ?_
  refine lv_iload_n hx hb dL_law_958 rfl (lv_at hl 3 rfl) ?_
  refine lv_iconst (v := 1) hx hb dL_law_959 (by decide) ?_
  refine lv_iadd hx hb dL_law_960 ?_
  refine va_sld hx hb hX hbl hbA hS hi1 dL_law_961 ?_
  refine cVa (wc := (Wm_seed cI cZ yh Rf G f0)) (wr := (wr ++ (Wx_seed cI cZ xh v_x v_q1 v_q2 v_rd v_t v_d v_nw v_ps v_im v_is_ v_q10 v_bk x0 v_qr v_pr v_cv v_ft))) (rest := []) (m_seed Rf yh G f0 (xs ((iv + 1) : Int32).toNatClampNeg) hs) okV_X10_seed wd_924 hx hb hml hown hts hK hP hD hS hA hN hl.1 rfl rfl rfl (Nat.le_of_ble_eq_true rfl) (Nat.le_of_ble_eq_true rfl) (Nat.le_of_ble_eq_true rfl) (Nat.le_of_ble_eq_true rfl) (Nat.le_of_ble_eq_true rfl) dL_law_962 (fun ry u2 H locs em hP hD hS => ?_)
  obtain ⟨y0, hy0⟩ : ∃ q, q = u2 := ⟨_, rfl⟩
  subst hy0
  replace em : (ry, y0) = (f_m_seed f0 (xs ((iv + 1) : Int32).toNatClampNeg)) := em
  have hP : va_P D classes ((wr ++ (Wx_seed cI cZ xh v_x v_q1 v_q2 v_rd v_t v_d v_nw v_ps v_im v_is_ v_q10 v_bk x0 v_qr v_pr v_cv v_ft)) ++ (Wm_seed cI cZ yh Rf G y0)) H := hP
  have hD : va_D (lw_A s) ((wr ++ (Wx_seed cI cZ xh v_x v_q1 v_q2 v_rd v_t v_d v_nw v_ps v_im v_is_ v_q10 v_bk x0 v_qr v_pr v_cv v_ft)) ++ (Wm_seed cI cZ yh Rf G y0)) := hD
  refine lv_pop hx hb dL_law_965 rfl ?_
  refine lv_goto (tgt := 1015) hx hb dL_law_966 (by decide) ?_
  exact hnext rx x0 ry y0 _ _ _ ex em (permP rot hP) (permD rot hD) hS hl
def Wx_keep (cI cZ : ClassId) (xh : Nat) (v_x : Nat) (v_q1 : Int32) (v_q2 : Int32) (v_rd : Nat) (v_t : Nat) (v_d : Nat) (v_nw : Nat) (v_ps : Nat) (v_im : Nat) (v_is_ : Nat) (v_q10 : Int32) (v_bk : Nat) (v_q12 : Int32) (v_qr : Nat) (v_pr : Nat) (v_cv : Nat) (v_ft : Nat) (v_nwc : Nat) (v_fn : Nat → Int32) (v_sh : Nat) (v_p1 : Int32) (v_p2 : Int32) (v_imc : Nat) (v_fim : Nat → Int32) (v_fis : Nat → Int32) : va_W := [(xh, .inr (9, [.ref v_x, .int v_q1, .int v_q2, .ref v_rd, .ref v_t, .ref v_d, .ref v_nw, .ref v_ps, .ref v_im, .ref v_is_, .int v_q10, .ref v_bk, .int v_q12, .ref v_qr, .ref v_pr, .ref v_cv, .ref v_ft])), (v_im, .inr (6, [.int 2, .ref v_imc])), (v_imc, .inl (cI, 82, .inl v_fim)), (v_is_, .inl (cI, 2, .inl v_fis)), (v_nw, .inr (7, [.ref v_nwc])), (v_nwc, .inl (cI, 41, .inl v_fn)), (v_ps, .inr (2, [.ref v_sh, .int v_p1, .int v_p2]))]
def Wm_keep (cI cZ : ClassId) (yh : Nat) (Rf : Nat → Nat) (G : Nat → Int32) (f0 : Nat → Int32) (f1 : Nat → Int32) : va_W := [(yh, .inr (10, ML G Rf)), ((Rf 0), .inl (cI, 1302, .inl f0)), ((Rf 1), .inl (cZ, 2, .inl f1))]
set_option maxHeartbeats 4000000 in
set_option maxRecDepth 100000 in
theorem law_keep {p : Program} {l : Launch} {e : Env} {s : State} {m : MethodId} {below : List Frame} {meth : Method} {c : Code} {D : va_G} {cI cZ : ClassId} {b : Nat} {xs : Nat → Int32} {L : Nat} (wr : va_W) (v_x : Nat) (v_q1 : Int32) (v_q2 : Int32) (v_rd : Nat) (v_t : Nat) (v_d : Nat) (v_nw : Nat) (v_ps : Nat) (v_im : Nat) (v_is_ : Nat) (v_q10 : Int32) (v_bk : Nat) (v_q12 : Int32) (v_qr : Nat) (v_pr : Nat) (v_cv : Nat) (v_ft : Nat) (v_nwc : Nat) (v_fn : Nat → Int32) (v_sh : Nat) (v_p1 : Int32) (v_p2 : Int32) (v_imc : Nat) (v_fim : Nat → Int32) (v_fis : Nat → Int32) (Rf : Nat → Nat) (G : Nat → Int32) (f0 : Nat → Int32) (f1 : Nat → Int32) {xh yh : Nat} {iv : Int32} (C0 : lw_C p s m meth c b L xs) {H : Heap} {locs : List Loc} {ls : Array Slot} (hi1 : ¬ ((iv + 1) < 0 ∨ L ≤ (iv + 1 : Int32).toNatClampNeg)) (hi2 : ¬ ((iv + 2) < 0 ∨ L ≤ (iv + 2 : Int32).toNatClampNeg)) (hi3 : ¬ ((iv + 3) < 0 ∨ L ≤ (iv + 3 : Int32).toNatClampNeg)) (hi4 : ¬ ((iv + 4) < 0 ∨ L ≤ (iv + 4 : Int32).toNatClampNeg)) (hK : va_K D classes (TYS cI cZ) s) (hs : S_m_keep G f0 f1 (xs ((iv + 1) : Int32).toNatClampNeg)) (hP : va_P D classes ((Wx_keep cI cZ xh v_x v_q1 v_q2 v_rd v_t v_d v_nw v_ps v_im v_is_ v_q10 v_bk v_q12 v_qr v_pr v_cv v_ft v_nwc v_fn v_sh v_p1 v_p2 v_imc v_fim v_fis) ++ ((Wm_keep cI cZ yh Rf G f0 f1) ++ wr)) H) (hD : va_D (lw_A s) ((Wx_keep cI cZ xh v_x v_q1 v_q2 v_rd v_t v_d v_nw v_ps v_im v_is_ v_q10 v_bk v_q12 v_qr v_pr v_cv v_ft v_nwc v_fn v_sh v_p1 v_p2 v_imc v_fim v_fis) ++ ((Wm_keep cI cZ yh Rf G f0 f1) ++ wr))) (hS : va_S (lw_A s) s.heap H locs) (hl : lv_has ls 4 [(0, .ref b), (1, .ref xh), (2, .ref yh), (3, .int iv)]) (hnext : ∀ (rx : Int32) (x0 : Int32) (x1 : (Nat → Int32)) (x2 : (Nat → Int32)) (x3 : Int32) (ry : Int32) (y0 : (Nat → Int32)) (y1 : (Nat → Int32)) (y2 : (Nat → Int32)) (H : Heap) (locs : List Loc) (ls : Array Slot), (rx, x0, x1, x2, x3) = (f_e_keep_x9 v_q1 v_q2 v_q10 v_q12 v_fim v_fis v_fn v_p1 v_p2 (xs ((iv + 1) : Int32).toNatClampNeg)) → (ry, y0, y1, y2) = (f_m_keep G f0 f1 (xs ((iv + 1) : Int32).toNatClampNeg)) → va_P D classes ((Wx_keep cI cZ xh v_x v_q1 v_q2 v_rd v_t v_d v_nw v_ps v_im v_is_ x0 v_bk v_q12 v_qr v_pr v_cv v_ft v_nwc v_fn v_sh v_p1 x3 v_imc x1 x2) ++ ((Wm_keep cI cZ yh Rf y0 y1 y2) ++ wr)) H → va_D (lw_A s) ((Wx_keep cI cZ xh v_x v_q1 v_q2 v_rd v_t v_d v_nw v_ps v_im v_is_ x0 v_bk v_q12 v_qr v_pr v_cv v_ft v_nwc v_fn v_sh v_p1 x3 v_imc x1 x2) ++ ((Wm_keep cI cZ yh Rf y0 y1 y2) ++ wr)) → va_S (lw_A s) s.heap H locs → lv_has ls 4 [(0, .ref b), (1, .ref xh), (2, .ref yh), (3, .int iv)] → W p l e room_1 s m #[Value.ref b] below meth c H locs 60 4269 (lw_Z below #[Value.ref b] s) (F0 m 1015 ls [])) : W p l e room_1 s m #[Value.ref b] below meth c H locs 60 4269 (lw_Z below #[Value.ref b] s) (F0 m 969 ls []) := by
  obtain ⟨hx, hb, hr, hml, hown, hts, hX, hbl, hlocks, hN⟩ := C0
  have hA : ∀ q, s.heap.size ≤ q → lw_A s q := fun _ h => h
  have hbA : ¬ lw_A s b := Nat.not_le.mpr hbl
  refine lv_aload_n hx hb dL_law_969 rfl (lv_at hl 1 rfl) ?_
  refine lv_aload_n hx hb dL_law_970 rfl (lv_at hl 0 rfl) ?_
  refine lv_iload_n hx hb dL_law_971 rfl (lv_at hl 3 rfl) ?_
  refine lv_iconst (v := 1) hx hb dL_law_972 (by decide) ?_
  refine lv_iadd hx hb dL_law_973 ?_
  refine va_sld hx hb hX hbl hbA hS hi1 dL_law_974 ?_
  refine cVa (wc := (Wx_keep cI cZ xh v_x v_q1 v_q2 v_rd v_t v_d v_nw v_ps v_im v_is_ v_q10 v_bk v_q12 v_qr v_pr v_cv v_ft v_nwc v_fn v_sh v_p1 v_p2 v_imc v_fim v_fis)) (wr := ((Wm_keep cI cZ yh Rf G f0 f1) ++ wr)) (rest := []) (e_keep_x9 xh v_x v_rd v_t v_d v_nw v_ps v_im v_is_ v_bk v_qr v_pr v_cv v_ft v_imc v_nwc v_sh v_q1 v_q2 v_q10 v_q12 v_fim v_fis v_fn v_p1 v_p2 (xs ((iv + 1) : Int32).toNatClampNeg)) okV_X9_keep wd_928 hx hb hml hown hts hK hP hD hS hA hN hl.1 rfl rfl rfl (Nat.le_of_ble_eq_true rfl) (Nat.le_of_ble_eq_true rfl) (Nat.le_of_ble_eq_true rfl) (Nat.le_of_ble_eq_true rfl) (Nat.le_of_ble_eq_true rfl) dL_law_975 (fun rx u1 H locs ex hP hD hS => ?_)
  obtain ⟨x0, x1, x2, x3⟩ := u1
  replace ex : (rx, x0, x1, x2, x3) = (f_e_keep_x9 v_q1 v_q2 v_q10 v_q12 v_fim v_fis v_fn v_p1 v_p2 (xs ((iv + 1) : Int32).toNatClampNeg)) := ex
  have hP : va_P D classes (((Wm_keep cI cZ yh Rf G f0 f1) ++ wr) ++ (Wx_keep cI cZ xh v_x v_q1 v_q2 v_rd v_t v_d v_nw v_ps v_im v_is_ x0 v_bk v_q12 v_qr v_pr v_cv v_ft v_nwc v_fn v_sh v_p1 x3 v_imc x1 x2)) H := hP
  have hD : va_D (lw_A s) (((Wm_keep cI cZ yh Rf G f0 f1) ++ wr) ++ (Wx_keep cI cZ xh v_x v_q1 v_q2 v_rd v_t v_d v_nw v_ps v_im v_is_ x0 v_bk v_q12 v_qr v_pr v_cv v_ft v_nwc v_fn v_sh v_p1 x3 v_imc x1 x2)) := hD
  rw [List.append_assoc] at hP hD
  refine lv_pop hx hb dL_law_978 rfl ?_
  refine lv_aload_n hx hb dL_law_979 rfl (lv_at hl 2 rfl) ?_
  refine lv_aload_n hx hb dL_law_980 rfl (lv_at hl 0 rfl) ?_
  refine lv_iload_n hx hb dL_law_981 rfl (lv_at hl 3 rfl) ?_
  refine lv_iconst (v := 1) hx hb dL_law_982 (by decide) ?_
  refine lv_iadd hx hb dL_law_983 ?_
  refine va_sld hx hb hX hbl hbA hS hi1 dL_law_984 ?_
  refine cVa (wc := (Wm_keep cI cZ yh Rf G f0 f1)) (wr := (wr ++ (Wx_keep cI cZ xh v_x v_q1 v_q2 v_rd v_t v_d v_nw v_ps v_im v_is_ x0 v_bk v_q12 v_qr v_pr v_cv v_ft v_nwc v_fn v_sh v_p1 x3 v_imc x1 x2))) (rest := []) (m_keep Rf yh G f0 f1 (xs ((iv + 1) : Int32).toNatClampNeg) hs) okV_X10_keep wd_932 hx hb hml hown hts hK hP hD hS hA hN hl.1 rfl rfl rfl (Nat.le_of_ble_eq_true rfl) (Nat.le_of_ble_eq_true rfl) (Nat.le_of_ble_eq_true rfl) (Nat.le_of_ble_eq_true rfl) (Nat.le_of_ble_eq_true rfl) dL_law_985 (fun ry u2 H locs em hP hD hS => ?_)
  obtain ⟨y0, y1, y2⟩ := u2
  replace em : (ry, y0, y1, y2) = (f_m_keep G f0 f1 (xs ((iv + 1) : Int32).toNatClampNeg)) := em
  have hP : va_P D classes ((wr ++ (Wx_keep cI cZ xh v_x v_q1 v_q2 v_rd v_t v_d v_nw v_ps v_im v_is_ x0 v_bk v_q12 v_qr v_pr v_cv v_ft v_nwc v_fn v_sh v_p1 x3 v_imc x1 x2)) ++ (Wm_keep cI cZ yh Rf y0 y1 y2)) H := hP
  have hD : va_D (lw_A s) ((wr ++ (Wx_keep cI cZ xh v_x v_q1 v_q2 v_rd v_t v_d v_nw v_ps v_im v_is_ x0 v_bk v_q12 v_qr v_pr v_cv v_ft v_nwc v_fn v_sh v_p1 x3 v_imc x1 x2)) ++ (Wm_keep cI cZ yh Rf y0 y1 y2)) := hD
  refine lv_pop hx hb dL_law_988 rfl ?_
  refine lv_goto (tgt := 1015) hx hb dL_law_989 (by decide) ?_
  exact hnext rx x0 x1 x2 x3 ry y0 y1 y2 _ _ _ ex em (permP rot hP) (permD rot hD) hS hl
def Wx_goBack (cI cZ : ClassId) (xh : Nat) (v_x : Nat) (v_q1 : Int32) (v_q2 : Int32) (v_rd : Nat) (v_t : Nat) (v_d : Nat) (v_nw : Nat) (v_ps : Nat) (v_im : Nat) (v_is_ : Nat) (v_q10 : Int32) (v_bk : Nat) (v_q12 : Int32) (v_qr : Nat) (v_pr : Nat) (v_cv : Nat) (v_ft : Nat) (v_nwc : Nat) (v_fn : Nat → Int32) (v_sh : Nat) (v_p1 : Int32) (v_p2 : Int32) (v_imc : Nat) (v_fim : Nat → Int32) (v_fis : Nat → Int32) : va_W := [(xh, .inr (9, [.ref v_x, .int v_q1, .int v_q2, .ref v_rd, .ref v_t, .ref v_d, .ref v_nw, .ref v_ps, .ref v_im, .ref v_is_, .int v_q10, .ref v_bk, .int v_q12, .ref v_qr, .ref v_pr, .ref v_cv, .ref v_ft])), (v_im, .inr (6, [.int 2, .ref v_imc])), (v_imc, .inl (cI, 82, .inl v_fim)), (v_is_, .inl (cI, 2, .inl v_fis)), (v_nw, .inr (7, [.ref v_nwc])), (v_nwc, .inl (cI, 41, .inl v_fn)), (v_ps, .inr (2, [.ref v_sh, .int v_p1, .int v_p2]))]
def Wm_goBack (cI cZ : ClassId) (yh : Nat) (Rf : Nat → Nat) (G : Nat → Int32) (f0 : Nat → Int32) (f1 : Nat → Int32) : va_W := [(yh, .inr (10, ML G Rf)), ((Rf 0), .inl (cI, 1302, .inl f0)), ((Rf 1), .inl (cZ, 2, .inl f1))]
set_option maxHeartbeats 4000000 in
set_option maxRecDepth 100000 in
theorem law_goBack {p : Program} {l : Launch} {e : Env} {s : State} {m : MethodId} {below : List Frame} {meth : Method} {c : Code} {D : va_G} {cI cZ : ClassId} {b : Nat} {xs : Nat → Int32} {L : Nat} (wr : va_W) (v_x : Nat) (v_q1 : Int32) (v_q2 : Int32) (v_rd : Nat) (v_t : Nat) (v_d : Nat) (v_nw : Nat) (v_ps : Nat) (v_im : Nat) (v_is_ : Nat) (v_q10 : Int32) (v_bk : Nat) (v_q12 : Int32) (v_qr : Nat) (v_pr : Nat) (v_cv : Nat) (v_ft : Nat) (v_nwc : Nat) (v_fn : Nat → Int32) (v_sh : Nat) (v_p1 : Int32) (v_p2 : Int32) (v_imc : Nat) (v_fim : Nat → Int32) (v_fis : Nat → Int32) (Rf : Nat → Nat) (G : Nat → Int32) (f0 : Nat → Int32) (f1 : Nat → Int32) {xh yh : Nat} {iv : Int32} (C0 : lw_C p s m meth c b L xs) {H : Heap} {locs : List Loc} {ls : Array Slot} (hi1 : ¬ ((iv + 1) < 0 ∨ L ≤ (iv + 1 : Int32).toNatClampNeg)) (hi2 : ¬ ((iv + 2) < 0 ∨ L ≤ (iv + 2 : Int32).toNatClampNeg)) (hi3 : ¬ ((iv + 3) < 0 ∨ L ≤ (iv + 3 : Int32).toNatClampNeg)) (hi4 : ¬ ((iv + 4) < 0 ∨ L ≤ (iv + 4 : Int32).toNatClampNeg)) (hK : va_K D classes (TYS cI cZ) s) (hs : S_m_goBack G f0 f1 (xs ((iv + 1) : Int32).toNatClampNeg)) (hP : va_P D classes ((Wx_goBack cI cZ xh v_x v_q1 v_q2 v_rd v_t v_d v_nw v_ps v_im v_is_ v_q10 v_bk v_q12 v_qr v_pr v_cv v_ft v_nwc v_fn v_sh v_p1 v_p2 v_imc v_fim v_fis) ++ ((Wm_goBack cI cZ yh Rf G f0 f1) ++ wr)) H) (hD : va_D (lw_A s) ((Wx_goBack cI cZ xh v_x v_q1 v_q2 v_rd v_t v_d v_nw v_ps v_im v_is_ v_q10 v_bk v_q12 v_qr v_pr v_cv v_ft v_nwc v_fn v_sh v_p1 v_p2 v_imc v_fim v_fis) ++ ((Wm_goBack cI cZ yh Rf G f0 f1) ++ wr))) (hS : va_S (lw_A s) s.heap H locs) (hl : lv_has ls 4 [(0, .ref b), (1, .ref xh), (2, .ref yh), (3, .int iv)]) (hnext : ∀ (rx : Int32) (x0 : Int32) (x1 : (Nat → Int32)) (x2 : Int32) (ry : Int32) (y0 : (Nat → Int32)) (y1 : (Nat → Int32)) (H : Heap) (locs : List Loc) (ls : Array Slot), (rx, x0, x1, x2) = (f_e_goBack_x9 v_q1 v_q2 v_q10 v_q12 v_fim v_fis v_fn v_p1 v_p2 (xs ((iv + 1) : Int32).toNatClampNeg)) → (ry, y0, y1) = (f_m_goBack G f0 f1 (xs ((iv + 1) : Int32).toNatClampNeg)) → va_P D classes ((Wx_goBack cI cZ xh v_x v_q1 v_q2 v_rd v_t v_d v_nw v_ps v_im v_is_ v_q10 v_bk x0 v_qr v_pr v_cv v_ft v_nwc x1 v_sh v_p1 x2 v_imc v_fim v_fis) ++ ((Wm_goBack cI cZ yh Rf y0 y1 f1) ++ wr)) H → va_D (lw_A s) ((Wx_goBack cI cZ xh v_x v_q1 v_q2 v_rd v_t v_d v_nw v_ps v_im v_is_ v_q10 v_bk x0 v_qr v_pr v_cv v_ft v_nwc x1 v_sh v_p1 x2 v_imc v_fim v_fis) ++ ((Wm_goBack cI cZ yh Rf y0 y1 f1) ++ wr)) → va_S (lw_A s) s.heap H locs → lv_has ls 4 [(0, .ref b), (1, .ref xh), (2, .ref yh), (3, .int iv)] → W p l e room_1 s m #[Value.ref b] below meth c H locs 60 4269 (lw_Z below #[Value.ref b] s) (F0 m 1015 ls [])) : W p l e room_1 s m #[Value.ref b] below meth c H locs 60 4269 (lw_Z below #[Value.ref b] s) (F0 m 992 ls []) := by
  obtain ⟨hx, hb, hr, hml, hown, hts, hX, hbl, hlocks, hN⟩ := C0
  have hA : ∀ q, s.heap.size ≤ q → lw_A s q := fun _ h => h
  have hbA : ¬ lw_A s b := Nat.not_le.mpr hbl
  refine lv_aload_n hx hb dL_law_992 rfl (lv_at hl 1 rfl) ?_
  refine lv_aload_n hx hb dL_law_993 rfl (lv_at hl 0 rfl) ?_
  refine lv_iload_n hx hb dL_law_994 rfl (lv_at hl 3 rfl) ?_
  refine lv_iconst (v := 1) hx hb dL_law_995 (by decide) ?_
  refine lv_iadd hx hb dL_law_996 ?_
  refine va_sld hx hb hX hbl hbA hS hi1 dL_law_997 ?_
  refine cVa (wc := (Wx_goBack cI cZ xh v_x v_q1 v_q2 v_rd v_t v_d v_nw v_ps v_im v_is_ v_q10 v_bk v_q12 v_qr v_pr v_cv v_ft v_nwc v_fn v_sh v_p1 v_p2 v_imc v_fim v_fis)) (wr := ((Wm_goBack cI cZ yh Rf G f0 f1) ++ wr)) (rest := []) (e_goBack_x9 xh v_x v_rd v_t v_d v_nw v_ps v_im v_is_ v_bk v_qr v_pr v_cv v_ft v_imc v_nwc v_sh v_q1 v_q2 v_q10 v_q12 v_fim v_fis v_fn v_p1 v_p2 (xs ((iv + 1) : Int32).toNatClampNeg)) okV_X9_goBack wd_936 hx hb hml hown hts hK hP hD hS hA hN hl.1 rfl rfl rfl (Nat.le_of_ble_eq_true rfl) (Nat.le_of_ble_eq_true rfl) (Nat.le_of_ble_eq_true rfl) (Nat.le_of_ble_eq_true rfl) (Nat.le_of_ble_eq_true rfl) dL_law_998 (fun rx u1 H locs ex hP hD hS => ?_)
  obtain ⟨x0, x1, x2⟩ := u1
  replace ex : (rx, x0, x1, x2) = (f_e_goBack_x9 v_q1 v_q2 v_q10 v_q12 v_fim v_fis v_fn v_p1 v_p2 (xs ((iv + 1) : Int32).toNatClampNeg)) := ex
  have hP : va_P D classes (((Wm_goBack cI cZ yh Rf G f0 f1) ++ wr) ++ (Wx_goBack cI cZ xh v_x v_q1 v_q2 v_rd v_t v_d v_nw v_ps v_im v_is_ v_q10 v_bk x0 v_qr v_pr v_cv v_ft v_nwc x1 v_sh v_p1 x2 v_imc v_fim v_fis)) H := hP
  have hD : va_D (lw_A s) (((Wm_goBack cI cZ yh Rf G f0 f1) ++ wr) ++ (Wx_goBack cI cZ xh v_x v_q1 v_q2 v_rd v_t v_d v_nw v_ps v_im v_is_ v_q10 v_bk x0 v_qr v_pr v_cv v_ft v_nwc x1 v_sh v_p1 x2 v_imc v_fim v_fis)) := hD
  rw [List.append_assoc] at hP hD
  refine lv_pop hx hb dL_law_1001 rfl ?_
  refine lv_aload_n hx hb dL_law_1002 rfl (lv_at hl 2 rfl) ?_
  refine lv_aload_n hx hb dL_law_1003 rfl (lv_at hl 0 rfl) ?_
  refine lv_iload_n hx hb dL_law_1004 rfl (lv_at hl 3 rfl) ?_
  refine lv_iconst (v := 1) hx hb dL_law_1005 (by decide) ?_
  refine lv_iadd hx hb dL_law_1006 ?_
  refine va_sld hx hb hX hbl hbA hS hi1 dL_law_1007 ?_
  refine cVa (wc := (Wm_goBack cI cZ yh Rf G f0 f1)) (wr := (wr ++ (Wx_goBack cI cZ xh v_x v_q1 v_q2 v_rd v_t v_d v_nw v_ps v_im v_is_ v_q10 v_bk x0 v_qr v_pr v_cv v_ft v_nwc x1 v_sh v_p1 x2 v_imc v_fim v_fis))) (rest := []) (m_goBack Rf yh G f0 f1 (xs ((iv + 1) : Int32).toNatClampNeg) hs) okV_X10_goBack wd_940 hx hb hml hown hts hK hP hD hS hA hN hl.1 rfl rfl rfl (Nat.le_of_ble_eq_true rfl) (Nat.le_of_ble_eq_true rfl) (Nat.le_of_ble_eq_true rfl) (Nat.le_of_ble_eq_true rfl) (Nat.le_of_ble_eq_true rfl) dL_law_1008 (fun ry u2 H locs em hP hD hS => ?_)
  obtain ⟨y0, y1⟩ := u2
  replace em : (ry, y0, y1) = (f_m_goBack G f0 f1 (xs ((iv + 1) : Int32).toNatClampNeg)) := em
  have hP : va_P D classes ((wr ++ (Wx_goBack cI cZ xh v_x v_q1 v_q2 v_rd v_t v_d v_nw v_ps v_im v_is_ v_q10 v_bk x0 v_qr v_pr v_cv v_ft v_nwc x1 v_sh v_p1 x2 v_imc v_fim v_fis)) ++ (Wm_goBack cI cZ yh Rf y0 y1 f1)) H := hP
  have hD : va_D (lw_A s) ((wr ++ (Wx_goBack cI cZ xh v_x v_q1 v_q2 v_rd v_t v_d v_nw v_ps v_im v_is_ v_q10 v_bk x0 v_qr v_pr v_cv v_ft v_nwc x1 v_sh v_p1 x2 v_imc v_fim v_fis)) ++ (Wm_goBack cI cZ yh Rf y0 y1 f1)) := hD
  refine lv_pop hx hb dL_law_1011 rfl ?_
  refine lv_goto (tgt := 1015) hx hb dL_law_1012 (by decide) ?_
  exact hnext rx x0 x1 x2 ry y0 y1 _ _ _ ex em (permP rot hP) (permD rot hD) hS hl
end
