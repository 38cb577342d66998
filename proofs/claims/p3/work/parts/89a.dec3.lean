def dLt_89 : List (Nat × Instr × Nat) := [(864, .aload_n 1, 1), (865, .aload_n 0, 1), (866, .iload_n 3, 1), (867, .iconst 1, 1), (868, .iadd, 1), (869, .iaload, 1), (870, .invokevirtual 114, 3), (873, .pop, 1), (874, .aload_n 2, 1), (875, .aload_n 0, 1), (876, .iload_n 3, 1), (877, .iconst 1, 1), (878, .iadd, 1), (879, .iaload, 1), (880, .invokevirtual 117, 3), (883, .pop, 1), (884, .goto 131, 3), (887, .aload_n 1, 1), (888, .aload_n 0, 1), (889, .iload_n 3, 1), (890, .iconst 1, 1), (891, .iadd, 1), (892, .iaload, 1), (893, .aload_n 0, 1), (894, .iload_n 3, 1), (895, .iconst 2, 1), (896, .iadd, 1), (897, .iaload, 1), (898, .invokevirtual 118, 3), (901, .pop, 1), (902, .aload_n 2, 1), (903, .aload_n 0, 1), (904, .iload_n 3, 1), (905, .iconst 1, 1), (906, .iadd, 1), (907, .iaload, 1), (908, .aload_n 0, 1), (909, .iload_n 3, 1), (910, .iconst 2, 1), (911, .iadd, 1), (912, .iaload, 1), (913, .invokevirtual 121, 3), (916, .pop, 1), (917, .goto 98, 3), (920, .aload_n 1, 1), (921, .invokevirtual 122, 3), (924, .pop, 1), (925, .aload_n 2, 1), (926, .invokevirtual 125, 3), (929, .pop, 1), (930, .goto 85, 3), (933, .aload_n 1, 1), (934, .invokevirtual 126, 3), (937, .pop, 1), (938, .aload_n 2, 1), (939, .invokevirtual 129, 3), (942, .pop, 1), (943, .goto 72, 3), (946, .aload_n 1, 1), (947, .aload_n 0, 1), (948, .iload_n 3, 1), (949, .iconst 1, 1), (950, .iadd, 1), (951, .iaload, 1), (952, .invokevirtual 130, 3), (955, .pop, 1), (956, .aload_n 2, 1), (957, .aload_n 0, 1), (958, .iload_n 3, 1), (959, .iconst 1, 1), (960, .iadd, 1), (961, .iaload, 1), (962, .invokevirtual 133, 3), (965, .pop, 1), (966, .goto 49, 3), (969, .aload_n 1, 1), (970, .aload_n 0, 1), (971, .iload_n 3, 1), (972, .iconst 1, 1), (973, .iadd, 1), (974, .iaload, 1), (975, .invokevirtual 134, 3), (978, .pop, 1), (979, .aload_n 2, 1), (980, .aload_n 0, 1), (981, .iload_n 3, 1), (982, .iconst 1, 1), (983, .iadd, 1), (984, .iaload, 1), (985, .invokevirtual 137, 3), (988, .pop, 1), (989, .goto 26, 3), (992, .aload_n 1, 1), (993, .aload_n 0, 1), (994, .iload_n 3, 1), (995, .iconst 1, 1), (996, .iadd, 1), (997, .iaload, 1), (998, .invokevirtual 138, 3), (1001, .pop, 1), (1002, .aload_n 2, 1), (1003, .aload_n 0, 1), (1004, .iload_n 3, 1), (1005, .iconst 1, 1), (1006, .iadd, 1), (1007, .iaload, 1), (1008, .invokevirtual 141, 3), (1011, .pop, 1), (1012, .goto 3, 3)]
theorem dLa_89 : dLt_89.all (fun q => decide (decode cL_law q.1 = .ok (q.2.1, q.2.2))) = true := by decide +kernel
theorem dLg_89 (c : ByteArray) (L : List (Nat × Instr × Nat)) (hA : L.all (fun q => decide (decode c q.1 = .ok (q.2.1, q.2.2))) = true) {k a n : Nat} {i : Instr} (h : L[k]? = some (a, i, n)) : decode c a = .ok (i, n) := by
  have hm := List.mem_of_getElem? h
  have h2 := List.all_eq_true.mp hA _ hm
  exact of_decide_eq_true h2
theorem dL_law_864 : decode cL_law 864 = .ok (.aload_n 1, 1) := dLg_89 cL_law dLt_89 dLa_89 (k := 0) rfl
theorem dL_law_865 : decode cL_law 865 = .ok (.aload_n 0, 1) := dLg_89 cL_law dLt_89 dLa_89 (k := 1) rfl
theorem dL_law_866 : decode cL_law 866 = .ok (.iload_n 3, 1) := dLg_89 cL_law dLt_89 dLa_89 (k := 2) rfl
theorem dL_law_867 : decode cL_law 867 = .ok (.iconst 1, 1) := dLg_89 cL_law dLt_89 dLa_89 (k := 3) rfl
theorem dL_law_868 : decode cL_law 868 = .ok (.iadd, 1) := dLg_89 cL_law dLt_89 dLa_89 (k := 4) rfl
theorem dL_law_869 : decode cL_law 869 = .ok (.iaload, 1) := dLg_89 cL_law dLt_89 dLa_89 (k := 5) rfl
theorem dL_law_870 : decode cL_law 870 = .ok (.invokevirtual 114, 3) := dLg_89 cL_law dLt_89 dLa_89 (k := 6) rfl
theorem wd_888 : Cond.methodLink RL 114 yX9_fleet ∈ BG := BG_at 726 (by decide +kernel) rfl
theorem wd_889 : Cond.code yX9_fleet cX9_fleet 7 (some .int) ∈ BG := BG_at 729 (by decide +kernel) rfl
theorem wd_890 : Cond.instanceMethod yX9_fleet ∈ BG := BG_at 727 (by decide +kernel) rfl
theorem wd_891 : Cond.selects RX9 yX9_fleet yX9_fleet ∈ BG := BG_at 728 (by decide +kernel) rfl
theorem okV_X9_fleet : okV yX9_fleet cX9_fleet 7 (some .int) 1 := ⟨⟨wd_889, wd_71, by decide +kernel⟩, wd_890, wd_891⟩
theorem dL_law_873 : decode cL_law 873 = .ok (.pop, 1) := dLg_89 cL_law dLt_89 dLa_89 (k := 7) rfl
theorem dL_law_874 : decode cL_law 874 = .ok (.aload_n 2, 1) := dLg_89 cL_law dLt_89 dLa_89 (k := 8) rfl
theorem dL_law_875 : decode cL_law 875 = .ok (.aload_n 0, 1) := dLg_89 cL_law dLt_89 dLa_89 (k := 9) rfl
theorem dL_law_876 : decode cL_law 876 = .ok (.iload_n 3, 1) := dLg_89 cL_law dLt_89 dLa_89 (k := 10) rfl
theorem dL_law_877 : decode cL_law 877 = .ok (.iconst 1, 1) := dLg_89 cL_law dLt_89 dLa_89 (k := 11) rfl
theorem dL_law_878 : decode cL_law 878 = .ok (.iadd, 1) := dLg_89 cL_law dLt_89 dLa_89 (k := 12) rfl
theorem dL_law_879 : decode cL_law 879 = .ok (.iaload, 1) := dLg_89 cL_law dLt_89 dLa_89 (k := 13) rfl
theorem dL_law_880 : decode cL_law 880 = .ok (.invokevirtual 117, 3) := dLg_89 cL_law dLt_89 dLa_89 (k := 14) rfl
theorem wd_892 : Cond.methodLink RL 117 yX10_fleet ∈ BG := BG_at 1165 (by decide +kernel) rfl
theorem wd_893 : Cond.code yX10_fleet cX10_fleet 6 (some .int) ∈ BG := BG_at 1168 (by decide +kernel) rfl
theorem wd_894 : Cond.instanceMethod yX10_fleet ∈ BG := BG_at 1166 (by decide +kernel) rfl
theorem wd_895 : Cond.selects RX10 yX10_fleet yX10_fleet ∈ BG := BG_at 1167 (by decide +kernel) rfl
theorem okV_X10_fleet : okV yX10_fleet cX10_fleet 6 (some .int) 1 := ⟨⟨wd_893, wd_497, by decide +kernel⟩, wd_894, wd_895⟩
theorem dL_law_883 : decode cL_law 883 = .ok (.pop, 1) := dLg_89 cL_law dLt_89 dLa_89 (k := 15) rfl
theorem dL_law_884 : decode cL_law 884 = .ok (.goto 131, 3) := dLg_89 cL_law dLt_89 dLa_89 (k := 16) rfl
theorem dL_law_887 : decode cL_law 887 = .ok (.aload_n 1, 1) := dLg_89 cL_law dLt_89 dLa_89 (k := 17) rfl
theorem dL_law_888 : decode cL_law 888 = .ok (.aload_n 0, 1) := dLg_89 cL_law dLt_89 dLa_89 (k := 18) rfl
theorem dL_law_889 : decode cL_law 889 = .ok (.iload_n 3, 1) := dLg_89 cL_law dLt_89 dLa_89 (k := 19) rfl
theorem dL_law_890 : decode cL_law 890 = .ok (.iconst 1, 1) := dLg_89 cL_law dLt_89 dLa_89 (k := 20) rfl
theorem dL_law_891 : decode cL_law 891 = .ok (.iadd, 1) := dLg_89 cL_law dLt_89 dLa_89 (k := 21) rfl
theorem dL_law_892 : decode cL_law 892 = .ok (.iaload, 1) := dLg_89 cL_law dLt_89 dLa_89 (k := 22) rfl
theorem dL_law_893 : decode cL_law 893 = .ok (.aload_n 0, 1) := dLg_89 cL_law dLt_89 dLa_89 (k := 23) rfl
theorem dL_law_894 : decode cL_law 894 = .ok (.iload_n 3, 1) := dLg_89 cL_law dLt_89 dLa_89 (k := 24) rfl
theorem dL_law_895 : decode cL_law 895 = .ok (.iconst 2, 1) := dLg_89 cL_law dLt_89 dLa_89 (k := 25) rfl
theorem dL_law_896 : decode cL_law 896 = .ok (.iadd, 1) := dLg_89 cL_law dLt_89 dLa_89 (k := 26) rfl
theorem dL_law_897 : decode cL_law 897 = .ok (.iaload, 1) := dLg_89 cL_law dLt_89 dLa_89 (k := 27) rfl
theorem dL_law_898 : decode cL_law 898 = .ok (.invokevirtual 118, 3) := dLg_89 cL_law dLt_89 dLa_89 (k := 28) rfl
theorem wd_896 : Cond.methodLink RL 118 yX9_write ∈ BG := BG_at 736 (by decide +kernel) rfl
theorem wd_897 : Cond.code yX9_write cX9_write 3 (some .int) ∈ BG := BG_at 739 (by decide +kernel) rfl
theorem wd_898 : Cond.instanceMethod yX9_write ∈ BG := BG_at 737 (by decide +kernel) rfl
theorem wd_899 : Cond.selects RX9 yX9_write yX9_write ∈ BG := BG_at 738 (by decide +kernel) rfl
theorem okV_X9_write : okV yX9_write cX9_write 3 (some .int) 2 := ⟨⟨wd_897, wd_71, by decide +kernel⟩, wd_898, wd_899⟩
theorem dL_law_901 : decode cL_law 901 = .ok (.pop, 1) := dLg_89 cL_law dLt_89 dLa_89 (k := 29) rfl
theorem dL_law_902 : decode cL_law 902 = .ok (.aload_n 2, 1) := dLg_89 cL_law dLt_89 dLa_89 (k := 30) rfl
theorem dL_law_903 : decode cL_law 903 = .ok (.aload_n 0, 1) := dLg_89 cL_law dLt_89 dLa_89 (k := 31) rfl
theorem dL_law_904 : decode cL_law 904 = .ok (.iload_n 3, 1) := dLg_89 cL_law dLt_89 dLa_89 (k := 32) rfl
theorem dL_law_905 : decode cL_law 905 = .ok (.iconst 1, 1) := dLg_89 cL_law dLt_89 dLa_89 (k := 33) rfl
theorem dL_law_906 : decode cL_law 906 = .ok (.iadd, 1) := dLg_89 cL_law dLt_89 dLa_89 (k := 34) rfl
theorem dL_law_907 : decode cL_law 907 = .ok (.iaload, 1) := dLg_89 cL_law dLt_89 dLa_89 (k := 35) rfl
theorem dL_law_908 : decode cL_law 908 = .ok (.aload_n 0, 1) := dLg_89 cL_law dLt_89 dLa_89 (k := 36) rfl
theorem dL_law_909 : decode cL_law 909 = .ok (.iload_n 3, 1) := dLg_89 cL_law dLt_89 dLa_89 (k := 37) rfl
theorem dL_law_910 : decode cL_law 910 = .ok (.iconst 2, 1) := dLg_89 cL_law dLt_89 dLa_89 (k := 38) rfl
theorem dL_law_911 : decode cL_law 911 = .ok (.iadd, 1) := dLg_89 cL_law dLt_89 dLa_89 (k := 39) rfl
theorem dL_law_912 : decode cL_law 912 = .ok (.iaload, 1) := dLg_89 cL_law dLt_89 dLa_89 (k := 40) rfl
theorem dL_law_913 : decode cL_law 913 = .ok (.invokevirtual 121, 3) := dLg_89 cL_law dLt_89 dLa_89 (k := 41) rfl
theorem wd_900 : Cond.methodLink RL 121 yX10_write ∈ BG := BG_at 1173 (by decide +kernel) rfl
theorem wd_901 : Cond.code yX10_write cX10_write 3 (some .int) ∈ BG := BG_at 1176 (by decide +kernel) rfl
theorem wd_902 : Cond.instanceMethod yX10_write ∈ BG := BG_at 1174 (by decide +kernel) rfl
theorem wd_903 : Cond.selects RX10 yX10_write yX10_write ∈ BG := BG_at 1175 (by decide +kernel) rfl
theorem okV_X10_write : okV yX10_write cX10_write 3 (some .int) 2 := ⟨⟨wd_901, wd_497, by decide +kernel⟩, wd_902, wd_903⟩
theorem dL_law_916 : decode cL_law 916 = .ok (.pop, 1) := dLg_89 cL_law dLt_89 dLa_89 (k := 42) rfl
theorem dL_law_917 : decode cL_law 917 = .ok (.goto 98, 3) := dLg_89 cL_law dLt_89 dLa_89 (k := 43) rfl
theorem dL_law_920 : decode cL_law 920 = .ok (.aload_n 1, 1) := dLg_89 cL_law dLt_89 dLa_89 (k := 44) rfl
theorem dL_law_921 : decode cL_law 921 = .ok (.invokevirtual 122, 3) := dLg_89 cL_law dLt_89 dLa_89 (k := 45) rfl
theorem wd_904 : Cond.methodLink RL 122 yX9_tear ∈ BG := BG_at 745 (by decide +kernel) rfl
theorem wd_905 : Cond.code yX9_tear cX9_tear 2 (some .int) ∈ BG := BG_at 748 (by decide +kernel) rfl
theorem wd_906 : Cond.instanceMethod yX9_tear ∈ BG := BG_at 746 (by decide +kernel) rfl
theorem wd_907 : Cond.selects RX9 yX9_tear yX9_tear ∈ BG := BG_at 747 (by decide +kernel) rfl
theorem okV_X9_tear : okV yX9_tear cX9_tear 2 (some .int) 0 := ⟨⟨wd_905, wd_71, by decide +kernel⟩, wd_906, wd_907⟩
theorem dL_law_924 : decode cL_law 924 = .ok (.pop, 1) := dLg_89 cL_law dLt_89 dLa_89 (k := 46) rfl
theorem dL_law_925 : decode cL_law 925 = .ok (.aload_n 2, 1) := dLg_89 cL_law dLt_89 dLa_89 (k := 47) rfl
theorem dL_law_926 : decode cL_law 926 = .ok (.invokevirtual 125, 3) := dLg_89 cL_law dLt_89 dLa_89 (k := 48) rfl
theorem wd_908 : Cond.methodLink RL 125 yX10_tear ∈ BG := BG_at 1177 (by decide +kernel) rfl
theorem wd_909 : Cond.code yX10_tear cX10_tear 2 (some .int) ∈ BG := BG_at 1180 (by decide +kernel) rfl
theorem wd_910 : Cond.instanceMethod yX10_tear ∈ BG := BG_at 1178 (by decide +kernel) rfl
theorem wd_911 : Cond.selects RX10 yX10_tear yX10_tear ∈ BG := BG_at 1179 (by decide +kernel) rfl
theorem okV_X10_tear : okV yX10_tear cX10_tear 2 (some .int) 0 := ⟨⟨wd_909, wd_497, by decide +kernel⟩, wd_910, wd_911⟩
theorem dL_law_929 : decode cL_law 929 = .ok (.pop, 1) := dLg_89 cL_law dLt_89 dLa_89 (k := 49) rfl
theorem dL_law_930 : decode cL_law 930 = .ok (.goto 85, 3) := dLg_89 cL_law dLt_89 dLa_89 (k := 50) rfl
theorem dL_law_933 : decode cL_law 933 = .ok (.aload_n 1, 1) := dLg_89 cL_law dLt_89 dLa_89 (k := 51) rfl
theorem dL_law_934 : decode cL_law 934 = .ok (.invokevirtual 126, 3) := dLg_89 cL_law dLt_89 dLa_89 (k := 52) rfl
theorem wd_912 : Cond.methodLink RL 126 yX9_judge ∈ BG := BG_at 749 (by decide +kernel) rfl
theorem wd_913 : Cond.code yX9_judge cX9_judge 1 (some .int) ∈ BG := BG_at 752 (by decide +kernel) rfl
theorem wd_914 : Cond.instanceMethod yX9_judge ∈ BG := BG_at 750 (by decide +kernel) rfl
theorem wd_915 : Cond.selects RX9 yX9_judge yX9_judge ∈ BG := BG_at 751 (by decide +kernel) rfl
theorem okV_X9_judge : okV yX9_judge cX9_judge 1 (some .int) 0 := ⟨⟨wd_913, wd_71, by decide +kernel⟩, wd_914, wd_915⟩
theorem dL_law_937 : decode cL_law 937 = .ok (.pop, 1) := dLg_89 cL_law dLt_89 dLa_89 (k := 53) rfl
theorem dL_law_938 : decode cL_law 938 = .ok (.aload_n 2, 1) := dLg_89 cL_law dLt_89 dLa_89 (k := 54) rfl
theorem dL_law_939 : decode cL_law 939 = .ok (.invokevirtual 129, 3) := dLg_89 cL_law dLt_89 dLa_89 (k := 55) rfl
theorem wd_916 : Cond.methodLink RL 129 yX10_judge ∈ BG := BG_at 1181 (by decide +kernel) rfl
theorem wd_917 : Cond.code yX10_judge cX10_judge 2 (some .int) ∈ BG := BG_at 1184 (by decide +kernel) rfl
theorem wd_918 : Cond.instanceMethod yX10_judge ∈ BG := BG_at 1182 (by decide +kernel) rfl
theorem wd_919 : Cond.selects RX10 yX10_judge yX10_judge ∈ BG := BG_at 1183 (by decide +kernel) rfl
theorem okV_X10_judge : okV yX10_judge cX10_judge 2 (some .int) 0 := ⟨⟨wd_917, wd_497, by decide +kernel⟩, wd_918, wd_919⟩
theorem dL_law_942 : decode cL_law 942 = .ok (.pop, 1) := dLg_89 cL_law dLt_89 dLa_89 (k := 56) rfl
theorem dL_law_943 : decode cL_law 943 = .ok (.goto 72, 3) := dLg_89 cL_law dLt_89 dLa_89 (k := 57) rfl
theorem dL_law_946 : decode cL_law 946 = .ok (.aload_n 1, 1) := dLg_89 cL_law dLt_89 dLa_89 (k := 58) rfl
theorem dL_law_947 : decode cL_law 947 = .ok (.aload_n 0, 1) := dLg_89 cL_law dLt_89 dLa_89 (k := 59) rfl
theorem dL_law_948 : decode cL_law 948 = .ok (.iload_n 3, 1) := dLg_89 cL_law dLt_89 dLa_89 (k := 60) rfl
theorem dL_law_949 : decode cL_law 949 = .ok (.iconst 1, 1) := dLg_89 cL_law dLt_89 dLa_89 (k := 61) rfl
theorem dL_law_950 : decode cL_law 950 = .ok (.iadd, 1) := dLg_89 cL_law dLt_89 dLa_89 (k := 62) rfl
theorem dL_law_951 : decode cL_law 951 = .ok (.iaload, 1) := dLg_89 cL_law dLt_89 dLa_89 (k := 63) rfl
theorem dL_law_952 : decode cL_law 952 = .ok (.invokevirtual 130, 3) := dLg_89 cL_law dLt_89 dLa_89 (k := 64) rfl
theorem wd_920 : Cond.methodLink RL 130 yX9_seed ∈ BG := BG_at 759 (by decide +kernel) rfl
theorem wd_921 : Cond.code yX9_seed cX9_seed 3 (some .int) ∈ BG := BG_at 762 (by decide +kernel) rfl
theorem wd_922 : Cond.instanceMethod yX9_seed ∈ BG := BG_at 760 (by decide +kernel) rfl
theorem wd_923 : Cond.selects RX9 yX9_seed yX9_seed ∈ BG := BG_at 761 (by decide +kernel) rfl
theorem okV_X9_seed : okV yX9_seed cX9_seed 3 (some .int) 1 := ⟨⟨wd_921, wd_71, by decide +kernel⟩, wd_922, wd_923⟩
theorem dL_law_955 : decode cL_law 955 = .ok (.pop, 1) := dLg_89 cL_law dLt_89 dLa_89 (k := 65) rfl
theorem dL_law_956 : decode cL_law 956 = .ok (.aload_n 2, 1) := dLg_89 cL_law dLt_89 dLa_89 (k := 66) rfl
theorem dL_law_957 : decode cL_law 957 = .ok (.aload_n 0, 1) := dLg_89 cL_law dLt_89 dLa_89 (k := 67) rfl
theorem dL_law_958 : decode cL_law 958 = .ok (.iload_n 3, 1) := dLg_89 cL_law dLt_89 dLa_89 (k := 68) rfl
theorem dL_law_959 : decode cL_law 959 = .ok (.iconst 1, 1) := dLg_89 cL_law dLt_89 dLa_89 (k := 69) rfl
theorem dL_law_960 : decode cL_law 960 = .ok (.iadd, 1) := dLg_89 cL_law dLt_89 dLa_89 (k := 70) rfl
theorem dL_law_961 : decode cL_law 961 = .ok (.iaload, 1) := dLg_89 cL_law dLt_89 dLa_89 (k := 71) rfl
theorem dL_law_962 : decode cL_law 962 = .ok (.invokevirtual 133, 3) := dLg_89 cL_law dLt_89 dLa_89 (k := 72) rfl
theorem wd_924 : Cond.methodLink RL 133 yX10_seed ∈ BG := BG_at 1185 (by decide +kernel) rfl
theorem wd_925 : Cond.code yX10_seed cX10_seed 3 (some .int) ∈ BG := BG_at 1188 (by decide +kernel) rfl
theorem wd_926 : Cond.instanceMethod yX10_seed ∈ BG := BG_at 1186 (by decide +kernel) rfl
theorem wd_927 : Cond.selects RX10 yX10_seed yX10_seed ∈ BG := BG_at 1187 (by decide +kernel) rfl
theorem okV_X10_seed : okV yX10_seed cX10_seed 3 (some .int) 1 := ⟨⟨wd_925, wd_497, by decide +kernel⟩, wd_926, wd_927⟩
theorem dL_law_965 : decode cL_law 965 = .ok (.pop, 1) := dLg_89 cL_law dLt_89 dLa_89 (k := 73) rfl
theorem dL_law_966 : decode cL_law 966 = .ok (.goto 49, 3) := dLg_89 cL_law dLt_89 dLa_89 (k := 74) rfl
theorem dL_law_969 : decode cL_law 969 = .ok (.aload_n 1, 1) := dLg_89 cL_law dLt_89 dLa_89 (k := 75) rfl
theorem dL_law_970 : decode cL_law 970 = .ok (.aload_n 0, 1) := dLg_89 cL_law dLt_89 dLa_89 (k := 76) rfl
theorem dL_law_971 : decode cL_law 971 = .ok (.iload_n 3, 1) := dLg_89 cL_law dLt_89 dLa_89 (k := 77) rfl
theorem dL_law_972 : decode cL_law 972 = .ok (.iconst 1, 1) := dLg_89 cL_law dLt_89 dLa_89 (k := 78) rfl
theorem dL_law_973 : decode cL_law 973 = .ok (.iadd, 1) := dLg_89 cL_law dLt_89 dLa_89 (k := 79) rfl
theorem dL_law_974 : decode cL_law 974 = .ok (.iaload, 1) := dLg_89 cL_law dLt_89 dLa_89 (k := 80) rfl
theorem dL_law_975 : decode cL_law 975 = .ok (.invokevirtual 134, 3) := dLg_89 cL_law dLt_89 dLa_89 (k := 81) rfl
theorem wd_928 : Cond.methodLink RL 134 yX9_keep ∈ BG := BG_at 763 (by decide +kernel) rfl
theorem wd_929 : Cond.code yX9_keep cX9_keep 2 (some .int) ∈ BG := BG_at 766 (by decide +kernel) rfl
theorem wd_930 : Cond.instanceMethod yX9_keep ∈ BG := BG_at 764 (by decide +kernel) rfl
theorem wd_931 : Cond.selects RX9 yX9_keep yX9_keep ∈ BG := BG_at 765 (by decide +kernel) rfl
theorem okV_X9_keep : okV yX9_keep cX9_keep 2 (some .int) 1 := ⟨⟨wd_929, wd_71, by decide +kernel⟩, wd_930, wd_931⟩
theorem dL_law_978 : decode cL_law 978 = .ok (.pop, 1) := dLg_89 cL_law dLt_89 dLa_89 (k := 82) rfl
theorem dL_law_979 : decode cL_law 979 = .ok (.aload_n 2, 1) := dLg_89 cL_law dLt_89 dLa_89 (k := 83) rfl
theorem dL_law_980 : decode cL_law 980 = .ok (.aload_n 0, 1) := dLg_89 cL_law dLt_89 dLa_89 (k := 84) rfl
theorem dL_law_981 : decode cL_law 981 = .ok (.iload_n 3, 1) := dLg_89 cL_law dLt_89 dLa_89 (k := 85) rfl
theorem dL_law_982 : decode cL_law 982 = .ok (.iconst 1, 1) := dLg_89 cL_law dLt_89 dLa_89 (k := 86) rfl
theorem dL_law_983 : decode cL_law 983 = .ok (.iadd, 1) := dLg_89 cL_law dLt_89 dLa_89 (k := 87) rfl
theorem dL_law_984 : decode cL_law 984 = .ok (.iaload, 1) := dLg_89 cL_law dLt_89 dLa_89 (k := 88) rfl
theorem dL_law_985 : decode cL_law 985 = .ok (.invokevirtual 137, 3) := dLg_89 cL_law dLt_89 dLa_89 (k := 89) rfl
theorem wd_932 : Cond.methodLink RL 137 yX10_keep ∈ BG := BG_at 1189 (by decide +kernel) rfl
theorem wd_933 : Cond.code yX10_keep cX10_keep 2 (some .int) ∈ BG := BG_at 1192 (by decide +kernel) rfl
theorem wd_934 : Cond.instanceMethod yX10_keep ∈ BG := BG_at 1190 (by decide +kernel) rfl
theorem wd_935 : Cond.selects RX10 yX10_keep yX10_keep ∈ BG := BG_at 1191 (by decide +kernel) rfl
theorem okV_X10_keep : okV yX10_keep cX10_keep 2 (some .int) 1 := ⟨⟨wd_933, wd_497, by decide +kernel⟩, wd_934, wd_935⟩
theorem dL_law_988 : decode cL_law 988 = .ok (.pop, 1) := dLg_89 cL_law dLt_89 dLa_89 (k := 90) rfl
theorem dL_law_989 : decode cL_law 989 = .ok (.goto 26, 3) := dLg_89 cL_law dLt_89 dLa_89 (k := 91) rfl
theorem dL_law_992 : decode cL_law 992 = .ok (.aload_n 1, 1) := dLg_89 cL_law dLt_89 dLa_89 (k := 92) rfl
theorem dL_law_993 : decode cL_law 993 = .ok (.aload_n 0, 1) := dLg_89 cL_law dLt_89 dLa_89 (k := 93) rfl
theorem dL_law_994 : decode cL_law 994 = .ok (.iload_n 3, 1) := dLg_89 cL_law dLt_89 dLa_89 (k := 94) rfl
theorem dL_law_995 : decode cL_law 995 = .ok (.iconst 1, 1) := dLg_89 cL_law dLt_89 dLa_89 (k := 95) rfl
theorem dL_law_996 : decode cL_law 996 = .ok (.iadd, 1) := dLg_89 cL_law dLt_89 dLa_89 (k := 96) rfl
theorem dL_law_997 : decode cL_law 997 = .ok (.iaload, 1) := dLg_89 cL_law dLt_89 dLa_89 (k := 97) rfl
theorem dL_law_998 : decode cL_law 998 = .ok (.invokevirtual 138, 3) := dLg_89 cL_law dLt_89 dLa_89 (k := 98) rfl
theorem wd_936 : Cond.methodLink RL 138 yX9_goBack ∈ BG := BG_at 768 (by decide +kernel) rfl
theorem wd_937 : Cond.code yX9_goBack cX9_goBack 2 (some .int) ∈ BG := BG_at 771 (by decide +kernel) rfl
theorem wd_938 : Cond.instanceMethod yX9_goBack ∈ BG := BG_at 769 (by decide +kernel) rfl
theorem wd_939 : Cond.selects RX9 yX9_goBack yX9_goBack ∈ BG := BG_at 770 (by decide +kernel) rfl
theorem okV_X9_goBack : okV yX9_goBack cX9_goBack 2 (some .int) 1 := ⟨⟨wd_937, wd_71, by decide +kernel⟩, wd_938, wd_939⟩
theorem dL_law_1001 : decode cL_law 1001 = .ok (.pop, 1) := dLg_89 cL_law dLt_89 dLa_89 (k := 99) rfl
theorem dL_law_1002 : decode cL_law 1002 = .ok (.aload_n 2, 1) := dLg_89 cL_law dLt_89 dLa_89 (k := 100) rfl
theorem dL_law_1003 : decode cL_law 1003 = .ok (.aload_n 0, 1) := dLg_89 cL_law dLt_89 dLa_89 (k := 101) rfl
theorem dL_law_1004 : decode cL_law 1004 = .ok (.iload_n 3, 1) := dLg_89 cL_law dLt_89 dLa_89 (k := 102) rfl
theorem dL_law_1005 : decode cL_law 1005 = .ok (.iconst 1, 1) := dLg_89 cL_law dLt_89 dLa_89 (k := 103) rfl
theorem dL_law_1006 : decode cL_law 1006 = .ok (.iadd, 1) := dLg_89 cL_law dLt_89 dLa_89 (k := 104) rfl
theorem dL_law_1007 : decode cL_law 1007 = .ok (.iaload, 1) := dLg_89 cL_law dLt_89 dLa_89 (k := 105) rfl
theorem dL_law_1008 : decode cL_law 1008 = .ok (.invokevirtual 141, 3) := dLg_89 cL_law dLt_89 dLa_89 (k := 106) rfl
theorem wd_940 : Cond.methodLink RL 141 yX10_goBack ∈ BG := BG_at 1193 (by decide +kernel) rfl
theorem wd_941 : Cond.code yX10_goBack cX10_goBack 2 (some .int) ∈ BG := BG_at 1196 (by decide +kernel) rfl
theorem wd_942 : Cond.instanceMethod yX10_goBack ∈ BG := BG_at 1194 (by decide +kernel) rfl
theorem wd_943 : Cond.selects RX10 yX10_goBack yX10_goBack ∈ BG := BG_at 1195 (by decide +kernel) rfl
theorem okV_X10_goBack : okV yX10_goBack cX10_goBack 2 (some .int) 1 := ⟨⟨wd_941, wd_497, by decide +kernel⟩, wd_942, wd_943⟩
theorem dL_law_1011 : decode cL_law 1011 = .ok (.pop, 1) := dLg_89 cL_law dLt_89 dLa_89 (k := 107) rfl
theorem dL_law_1012 : decode cL_law 1012 = .ok (.goto 3, 3) := dLg_89 cL_law dLt_89 dLa_89 (k := 108) rfl
