theorem dL_law_864 : decode cL_law 864 = .ok (.aload_n 1, 1) := by decide +kernel
theorem dL_law_865 : decode cL_law 865 = .ok (.aload_n 0, 1) := by decide +kernel
theorem dL_law_866 : decode cL_law 866 = .ok (.iload_n 3, 1) := by decide +kernel
theorem dL_law_867 : decode cL_law 867 = .ok (.iconst 1, 1) := by decide +kernel
theorem dL_law_868 : decode cL_law 868 = .ok (.iadd, 1) := by decide +kernel
theorem dL_law_869 : decode cL_law 869 = .ok (.iaload, 1) := by decide +kernel
theorem dL_law_870 : decode cL_law 870 = .ok (.invokevirtual 114, 3) := by decide +kernel
theorem wd_888 : Cond.methodLink RL 114 yX9_fleet ∈ BG := BG_in (by decide +kernel) rfl
theorem wd_889 : Cond.code yX9_fleet cX9_fleet 7 (some .int) ∈ BG := BG_in (by decide +kernel) rfl
theorem wd_890 : Cond.instanceMethod yX9_fleet ∈ BG := BG_in (by decide +kernel) rfl
theorem wd_891 : Cond.selects RX9 yX9_fleet yX9_fleet ∈ BG := BG_in (by decide +kernel) rfl
theorem okV_X9_fleet : okV yX9_fleet cX9_fleet 7 (some .int) 1 := ⟨⟨wd_889, wd_71, by decide +kernel⟩, wd_890, wd_891⟩
theorem dL_law_873 : decode cL_law 873 = .ok (.pop, 1) := by decide +kernel
theorem dL_law_874 : decode cL_law 874 = .ok (.aload_n 2, 1) := by decide +kernel
theorem dL_law_875 : decode cL_law 875 = .ok (.aload_n 0, 1) := by decide +kernel
theorem dL_law_876 : decode cL_law 876 = .ok (.iload_n 3, 1) := by decide +kernel
theorem dL_law_877 : decode cL_law 877 = .ok (.iconst 1, 1) := by decide +kernel
theorem dL_law_878 : decode cL_law 878 = .ok (.iadd, 1) := by decide +kernel
theorem dL_law_879 : decode cL_law 879 = .ok (.iaload, 1) := by decide +kernel
theorem dL_law_880 : decode cL_law 880 = .ok (.invokevirtual 117, 3) := by decide +kernel
theorem wd_892 : Cond.methodLink RL 117 yX10_fleet ∈ BG := BG_in (by decide +kernel) rfl
theorem wd_893 : Cond.code yX10_fleet cX10_fleet 6 (some .int) ∈ BG := BG_in (by decide +kernel) rfl
theorem wd_894 : Cond.instanceMethod yX10_fleet ∈ BG := BG_in (by decide +kernel) rfl
theorem wd_895 : Cond.selects RX10 yX10_fleet yX10_fleet ∈ BG := BG_in (by decide +kernel) rfl
theorem okV_X10_fleet : okV yX10_fleet cX10_fleet 6 (some .int) 1 := ⟨⟨wd_893, wd_497, by decide +kernel⟩, wd_894, wd_895⟩
theorem dL_law_883 : decode cL_law 883 = .ok (.pop, 1) := by decide +kernel
theorem dL_law_884 : decode cL_law 884 = .ok (.goto 131, 3) := by decide +kernel
theorem dL_law_887 : decode cL_law 887 = .ok (.aload_n 1, 1) := by decide +kernel
theorem dL_law_888 : decode cL_law 888 = .ok (.aload_n 0, 1) := by decide +kernel
theorem dL_law_889 : decode cL_law 889 = .ok (.iload_n 3, 1) := by decide +kernel
theorem dL_law_890 : decode cL_law 890 = .ok (.iconst 1, 1) := by decide +kernel
theorem dL_law_891 : decode cL_law 891 = .ok (.iadd, 1) := by decide +kernel
theorem dL_law_892 : decode cL_law 892 = .ok (.iaload, 1) := by decide +kernel
theorem dL_law_893 : decode cL_law 893 = .ok (.aload_n 0, 1) := by decide +kernel
theorem dL_law_894 : decode cL_law 894 = .ok (.iload_n 3, 1) := by decide +kernel
theorem dL_law_895 : decode cL_law 895 = .ok (.iconst 2, 1) := by decide +kernel
theorem dL_law_896 : decode cL_law 896 = .ok (.iadd, 1) := by decide +kernel
theorem dL_law_897 : decode cL_law 897 = .ok (.iaload, 1) := by decide +kernel
theorem dL_law_898 : decode cL_law 898 = .ok (.invokevirtual 118, 3) := by decide +kernel
theorem wd_896 : Cond.methodLink RL 118 yX9_write ∈ BG := BG_in (by decide +kernel) rfl
theorem wd_897 : Cond.code yX9_write cX9_write 3 (some .int) ∈ BG := BG_in (by decide +kernel) rfl
theorem wd_898 : Cond.instanceMethod yX9_write ∈ BG := BG_in (by decide +kernel) rfl
theorem wd_899 : Cond.selects RX9 yX9_write yX9_write ∈ BG := BG_in (by decide +kernel) rfl
theorem okV_X9_write : okV yX9_write cX9_write 3 (some .int) 2 := ⟨⟨wd_897, wd_71, by decide +kernel⟩, wd_898, wd_899⟩
theorem dL_law_901 : decode cL_law 901 = .ok (.pop, 1) := by decide +kernel
theorem dL_law_902 : decode cL_law 902 = .ok (.aload_n 2, 1) := by decide +kernel
theorem dL_law_903 : decode cL_law 903 = .ok (.aload_n 0, 1) := by decide +kernel
theorem dL_law_904 : decode cL_law 904 = .ok (.iload_n 3, 1) := by decide +kernel
theorem dL_law_905 : decode cL_law 905 = .ok (.iconst 1, 1) := by decide +kernel
theorem dL_law_906 : decode cL_law 906 = .ok (.iadd, 1) := by decide +kernel
theorem dL_law_907 : decode cL_law 907 = .ok (.iaload, 1) := by decide +kernel
theorem dL_law_908 : decode cL_law 908 = .ok (.aload_n 0, 1) := by decide +kernel
theorem dL_law_909 : decode cL_law 909 = .ok (.iload_n 3, 1) := by decide +kernel
theorem dL_law_910 : decode cL_law 910 = .ok (.iconst 2, 1) := by decide +kernel
theorem dL_law_911 : decode cL_law 911 = .ok (.iadd, 1) := by decide +kernel
theorem dL_law_912 : decode cL_law 912 = .ok (.iaload, 1) := by decide +kernel
theorem dL_law_913 : decode cL_law 913 = .ok (.invokevirtual 121, 3) := by decide +kernel
theorem wd_900 : Cond.methodLink RL 121 yX10_write ∈ BG := BG_in (by decide +kernel) rfl
theorem wd_901 : Cond.code yX10_write cX10_write 3 (some .int) ∈ BG := BG_in (by decide +kernel) rfl
theorem wd_902 : Cond.instanceMethod yX10_write ∈ BG := BG_in (by decide +kernel) rfl
theorem wd_903 : Cond.selects RX10 yX10_write yX10_write ∈ BG := BG_in (by decide +kernel) rfl
theorem okV_X10_write : okV yX10_write cX10_write 3 (some .int) 2 := ⟨⟨wd_901, wd_497, by decide +kernel⟩, wd_902, wd_903⟩
theorem dL_law_916 : decode cL_law 916 = .ok (.pop, 1) := by decide +kernel
theorem dL_law_917 : decode cL_law 917 = .ok (.goto 98, 3) := by decide +kernel
theorem dL_law_920 : decode cL_law 920 = .ok (.aload_n 1, 1) := by decide +kernel
theorem dL_law_921 : decode cL_law 921 = .ok (.invokevirtual 122, 3) := by decide +kernel
theorem wd_904 : Cond.methodLink RL 122 yX9_tear ∈ BG := BG_in (by decide +kernel) rfl
theorem wd_905 : Cond.code yX9_tear cX9_tear 2 (some .int) ∈ BG := BG_in (by decide +kernel) rfl
theorem wd_906 : Cond.instanceMethod yX9_tear ∈ BG := BG_in (by decide +kernel) rfl
theorem wd_907 : Cond.selects RX9 yX9_tear yX9_tear ∈ BG := BG_in (by decide +kernel) rfl
theorem okV_X9_tear : okV yX9_tear cX9_tear 2 (some .int) 0 := ⟨⟨wd_905, wd_71, by decide +kernel⟩, wd_906, wd_907⟩
theorem dL_law_924 : decode cL_law 924 = .ok (.pop, 1) := by decide +kernel
theorem dL_law_925 : decode cL_law 925 = .ok (.aload_n 2, 1) := by decide +kernel
theorem dL_law_926 : decode cL_law 926 = .ok (.invokevirtual 125, 3) := by decide +kernel
theorem wd_908 : Cond.methodLink RL 125 yX10_tear ∈ BG := BG_in (by decide +kernel) rfl
theorem wd_909 : Cond.code yX10_tear cX10_tear 2 (some .int) ∈ BG := BG_in (by decide +kernel) rfl
theorem wd_910 : Cond.instanceMethod yX10_tear ∈ BG := BG_in (by decide +kernel) rfl
theorem wd_911 : Cond.selects RX10 yX10_tear yX10_tear ∈ BG := BG_in (by decide +kernel) rfl
theorem okV_X10_tear : okV yX10_tear cX10_tear 2 (some .int) 0 := ⟨⟨wd_909, wd_497, by decide +kernel⟩, wd_910, wd_911⟩
theorem dL_law_929 : decode cL_law 929 = .ok (.pop, 1) := by decide +kernel
theorem dL_law_930 : decode cL_law 930 = .ok (.goto 85, 3) := by decide +kernel
theorem dL_law_933 : decode cL_law 933 = .ok (.aload_n 1, 1) := by decide +kernel
theorem dL_law_934 : decode cL_law 934 = .ok (.invokevirtual 126, 3) := by decide +kernel
theorem wd_912 : Cond.methodLink RL 126 yX9_judge ∈ BG := BG_in (by decide +kernel) rfl
theorem wd_913 : Cond.code yX9_judge cX9_judge 1 (some .int) ∈ BG := BG_in (by decide +kernel) rfl
theorem wd_914 : Cond.instanceMethod yX9_judge ∈ BG := BG_in (by decide +kernel) rfl
theorem wd_915 : Cond.selects RX9 yX9_judge yX9_judge ∈ BG := BG_in (by decide +kernel) rfl
theorem okV_X9_judge : okV yX9_judge cX9_judge 1 (some .int) 0 := ⟨⟨wd_913, wd_71, by decide +kernel⟩, wd_914, wd_915⟩
theorem dL_law_937 : decode cL_law 937 = .ok (.pop, 1) := by decide +kernel
theorem dL_law_938 : decode cL_law 938 = .ok (.aload_n 2, 1) := by decide +kernel
theorem dL_law_939 : decode cL_law 939 = .ok (.invokevirtual 129, 3) := by decide +kernel
theorem wd_916 : Cond.methodLink RL 129 yX10_judge ∈ BG := BG_in (by decide +kernel) rfl
theorem wd_917 : Cond.code yX10_judge cX10_judge 2 (some .int) ∈ BG := BG_in (by decide +kernel) rfl
theorem wd_918 : Cond.instanceMethod yX10_judge ∈ BG := BG_in (by decide +kernel) rfl
theorem wd_919 : Cond.selects RX10 yX10_judge yX10_judge ∈ BG := BG_in (by decide +kernel) rfl
theorem okV_X10_judge : okV yX10_judge cX10_judge 2 (some .int) 0 := ⟨⟨wd_917, wd_497, by decide +kernel⟩, wd_918, wd_919⟩
theorem dL_law_942 : decode cL_law 942 = .ok (.pop, 1) := by decide +kernel
theorem dL_law_943 : decode cL_law 943 = .ok (.goto 72, 3) := by decide +kernel
theorem dL_law_946 : decode cL_law 946 = .ok (.aload_n 1, 1) := by decide +kernel
theorem dL_law_947 : decode cL_law 947 = .ok (.aload_n 0, 1) := by decide +kernel
theorem dL_law_948 : decode cL_law 948 = .ok (.iload_n 3, 1) := by decide +kernel
theorem dL_law_949 : decode cL_law 949 = .ok (.iconst 1, 1) := by decide +kernel
theorem dL_law_950 : decode cL_law 950 = .ok (.iadd, 1) := by decide +kernel
theorem dL_law_951 : decode cL_law 951 = .ok (.iaload, 1) := by decide +kernel
theorem dL_law_952 : decode cL_law 952 = .ok (.invokevirtual 130, 3) := by decide +kernel
theorem wd_920 : Cond.methodLink RL 130 yX9_seed ∈ BG := BG_in (by decide +kernel) rfl
theorem wd_921 : Cond.code yX9_seed cX9_seed 3 (some .int) ∈ BG := BG_in (by decide +kernel) rfl
theorem wd_922 : Cond.instanceMethod yX9_seed ∈ BG := BG_in (by decide +kernel) rfl
theorem wd_923 : Cond.selects RX9 yX9_seed yX9_seed ∈ BG := BG_in (by decide +kernel) rfl
theorem okV_X9_seed : okV yX9_seed cX9_seed 3 (some .int) 1 := ⟨⟨wd_921, wd_71, by decide +kernel⟩, wd_922, wd_923⟩
theorem dL_law_955 : decode cL_law 955 = .ok (.pop, 1) := by decide +kernel
theorem dL_law_956 : decode cL_law 956 = .ok (.aload_n 2, 1) := by decide +kernel
theorem dL_law_957 : decode cL_law 957 = .ok (.aload_n 0, 1) := by decide +kernel
theorem dL_law_958 : decode cL_law 958 = .ok (.iload_n 3, 1) := by decide +kernel
theorem dL_law_959 : decode cL_law 959 = .ok (.iconst 1, 1) := by decide +kernel
theorem dL_law_960 : decode cL_law 960 = .ok (.iadd, 1) := by decide +kernel
theorem dL_law_961 : decode cL_law 961 = .ok (.iaload, 1) := by decide +kernel
theorem dL_law_962 : decode cL_law 962 = .ok (.invokevirtual 133, 3) := by decide +kernel
theorem wd_924 : Cond.methodLink RL 133 yX10_seed ∈ BG := BG_in (by decide +kernel) rfl
theorem wd_925 : Cond.code yX10_seed cX10_seed 3 (some .int) ∈ BG := BG_in (by decide +kernel) rfl
theorem wd_926 : Cond.instanceMethod yX10_seed ∈ BG := BG_in (by decide +kernel) rfl
theorem wd_927 : Cond.selects RX10 yX10_seed yX10_seed ∈ BG := BG_in (by decide +kernel) rfl
theorem okV_X10_seed : okV yX10_seed cX10_seed 3 (some .int) 1 := ⟨⟨wd_925, wd_497, by decide +kernel⟩, wd_926, wd_927⟩
theorem dL_law_965 : decode cL_law 965 = .ok (.pop, 1) := by decide +kernel
theorem dL_law_966 : decode cL_law 966 = .ok (.goto 49, 3) := by decide +kernel
theorem dL_law_969 : decode cL_law 969 = .ok (.aload_n 1, 1) := by decide +kernel
theorem dL_law_970 : decode cL_law 970 = .ok (.aload_n 0, 1) := by decide +kernel
theorem dL_law_971 : decode cL_law 971 = .ok (.iload_n 3, 1) := by decide +kernel
theorem dL_law_972 : decode cL_law 972 = .ok (.iconst 1, 1) := by decide +kernel
theorem dL_law_973 : decode cL_law 973 = .ok (.iadd, 1) := by decide +kernel
theorem dL_law_974 : decode cL_law 974 = .ok (.iaload, 1) := by decide +kernel
theorem dL_law_975 : decode cL_law 975 = .ok (.invokevirtual 134, 3) := by decide +kernel
theorem wd_928 : Cond.methodLink RL 134 yX9_keep ∈ BG := BG_in (by decide +kernel) rfl
theorem wd_929 : Cond.code yX9_keep cX9_keep 2 (some .int) ∈ BG := BG_in (by decide +kernel) rfl
theorem wd_930 : Cond.instanceMethod yX9_keep ∈ BG := BG_in (by decide +kernel) rfl
theorem wd_931 : Cond.selects RX9 yX9_keep yX9_keep ∈ BG := BG_in (by decide +kernel) rfl
theorem okV_X9_keep : okV yX9_keep cX9_keep 2 (some .int) 1 := ⟨⟨wd_929, wd_71, by decide +kernel⟩, wd_930, wd_931⟩
theorem dL_law_978 : decode cL_law 978 = .ok (.aload_n 2, 1) := by decide +kernel
theorem dL_law_979 : decode cL_law 979 = .ok (.aload_n 0, 1) := by decide +kernel
theorem dL_law_980 : decode cL_law 980 = .ok (.iload_n 3, 1) := by decide +kernel
theorem dL_law_981 : decode cL_law 981 = .ok (.iconst 1, 1) := by decide +kernel
theorem dL_law_982 : decode cL_law 982 = .ok (.iadd, 1) := by decide +kernel
theorem dL_law_983 : decode cL_law 983 = .ok (.iaload, 1) := by decide +kernel
theorem dL_law_984 : decode cL_law 984 = .ok (.invokevirtual 137, 3) := by decide +kernel
theorem wd_932 : Cond.methodLink RL 137 yX10_keep ∈ BG := BG_in (by decide +kernel) rfl
theorem wd_933 : Cond.code yX10_keep cX10_keep 2 (some .int) ∈ BG := BG_in (by decide +kernel) rfl
theorem wd_934 : Cond.instanceMethod yX10_keep ∈ BG := BG_in (by decide +kernel) rfl
theorem wd_935 : Cond.selects RX10 yX10_keep yX10_keep ∈ BG := BG_in (by decide +kernel) rfl
theorem okV_X10_keep : okV yX10_keep cX10_keep 2 (some .int) 1 := ⟨⟨wd_933, wd_497, by decide +kernel⟩, wd_934, wd_935⟩
theorem dL_law_987 : decode cL_law 987 = .ok (.if_icmp .eq 28, 3) := by decide +kernel
theorem dL_law_992 : decode cL_law 992 = .ok (.aload_n 1, 1) := by decide +kernel
theorem dL_law_993 : decode cL_law 993 = .ok (.aload_n 0, 1) := by decide +kernel
theorem dL_law_994 : decode cL_law 994 = .ok (.iload_n 3, 1) := by decide +kernel
theorem dL_law_995 : decode cL_law 995 = .ok (.iconst 1, 1) := by decide +kernel
theorem dL_law_996 : decode cL_law 996 = .ok (.iadd, 1) := by decide +kernel
theorem dL_law_997 : decode cL_law 997 = .ok (.iaload, 1) := by decide +kernel
theorem dL_law_998 : decode cL_law 998 = .ok (.invokevirtual 138, 3) := by decide +kernel
theorem wd_936 : Cond.methodLink RL 138 yX9_goBack ∈ BG := BG_in (by decide +kernel) rfl
theorem wd_937 : Cond.code yX9_goBack cX9_goBack 2 (some .int) ∈ BG := BG_in (by decide +kernel) rfl
theorem wd_938 : Cond.instanceMethod yX9_goBack ∈ BG := BG_in (by decide +kernel) rfl
theorem wd_939 : Cond.selects RX9 yX9_goBack yX9_goBack ∈ BG := BG_in (by decide +kernel) rfl
theorem okV_X9_goBack : okV yX9_goBack cX9_goBack 2 (some .int) 1 := ⟨⟨wd_937, wd_71, by decide +kernel⟩, wd_938, wd_939⟩
theorem dL_law_1001 : decode cL_law 1001 = .ok (.pop, 1) := by decide +kernel
theorem dL_law_1002 : decode cL_law 1002 = .ok (.aload_n 2, 1) := by decide +kernel
theorem dL_law_1003 : decode cL_law 1003 = .ok (.aload_n 0, 1) := by decide +kernel
theorem dL_law_1004 : decode cL_law 1004 = .ok (.iload_n 3, 1) := by decide +kernel
theorem dL_law_1005 : decode cL_law 1005 = .ok (.iconst 1, 1) := by decide +kernel
theorem dL_law_1006 : decode cL_law 1006 = .ok (.iadd, 1) := by decide +kernel
theorem dL_law_1007 : decode cL_law 1007 = .ok (.iaload, 1) := by decide +kernel
theorem dL_law_1008 : decode cL_law 1008 = .ok (.invokevirtual 141, 3) := by decide +kernel
theorem wd_940 : Cond.methodLink RL 141 yX10_goBack ∈ BG := BG_in (by decide +kernel) rfl
theorem wd_941 : Cond.code yX10_goBack cX10_goBack 2 (some .int) ∈ BG := BG_in (by decide +kernel) rfl
theorem wd_942 : Cond.instanceMethod yX10_goBack ∈ BG := BG_in (by decide +kernel) rfl
theorem wd_943 : Cond.selects RX10 yX10_goBack yX10_goBack ∈ BG := BG_in (by decide +kernel) rfl
theorem okV_X10_goBack : okV yX10_goBack cX10_goBack 2 (some .int) 1 := ⟨⟨wd_941, wd_497, by decide +kernel⟩, wd_942, wd_943⟩
theorem dL_law_1011 : decode cL_law 1011 = .ok (.pop, 1) := by decide +kernel
theorem dL_law_1012 : decode cL_law 1012 = .ok (.goto 3, 3) := by decide +kernel
