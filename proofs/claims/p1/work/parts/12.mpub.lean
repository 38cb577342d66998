theorem dX10_isBridge_0 : decode cX10_isBridge 0 = .ok (.iload_n 1, 1) := by decide +kernel
theorem dX10_isBridge_1 : decode cX10_isBridge 1 = .ok (.i2l, 1) := by decide +kernel
theorem dX10_isBridge_2 : decode cX10_isBridge 2 = .ok (.lconst 0, 1) := by decide +kernel
theorem dX10_isBridge_3 : decode cX10_isBridge 3 = .ok (.aload_n 0, 1) := by decide +kernel
theorem wd_298 : Cond.fieldLink RX10 81 "QuarrelBridgesModel" "bridges" "I" ∈ BG := BG_in (by decide +kernel) rfl
theorem dX10_isBridge_4 : decode cX10_isBridge 4 = .ok (.getfield 81, 3) := by decide +kernel
theorem dX10_isBridge_7 : decode cX10_isBridge 7 = .ok (.iconst 1, 1) := by decide +kernel
theorem dX10_isBridge_8 : decode cX10_isBridge 8 = .ok (.isub, 1) := by decide +kernel
theorem dX10_isBridge_9 : decode cX10_isBridge 9 = .ok (.i2l, 1) := by decide +kernel
theorem dX10_isBridge_10 : decode cX10_isBridge 10 = .ok (.invokestatic 84, 3) := by decide +kernel
theorem wd_299 : Cond.methodLink RX10 84 yX10_in ∈ BG := BG_in (by decide +kernel) rfl
theorem wd_300 : Cond.code yX10_in cX10_in 6 (some .boolean) ∈ BG := BG_in (by decide +kernel) rfl
theorem wd_301 : Cond.static yX10_in ∈ BG := BG_in (by decide +kernel) rfl
theorem okS_X10_in : okS yX10_in cX10_in 6 (some .boolean) 3 := ⟨⟨wd_300, wd_295, by decide +kernel⟩, wd_301⟩
theorem dX10_isBridge_13 : decode cX10_isBridge 13 = .ok (.ireturn, 1) := by decide +kernel
theorem dX10_isCouple_0 : decode cX10_isCouple 0 = .ok (.iload_n 1, 1) := by decide +kernel
theorem dX10_isCouple_1 : decode cX10_isCouple 1 = .ok (.i2l, 1) := by decide +kernel
theorem dX10_isCouple_2 : decode cX10_isCouple 2 = .ok (.lconst 0, 1) := by decide +kernel
theorem dX10_isCouple_3 : decode cX10_isCouple 3 = .ok (.aload_n 0, 1) := by decide +kernel
theorem dX10_isCouple_4 : decode cX10_isCouple 4 = .ok (.getfield 78, 3) := by decide +kernel
theorem dX10_isCouple_7 : decode cX10_isCouple 7 = .ok (.iconst 1, 1) := by decide +kernel
theorem dX10_isCouple_8 : decode cX10_isCouple 8 = .ok (.isub, 1) := by decide +kernel
theorem dX10_isCouple_9 : decode cX10_isCouple 9 = .ok (.i2l, 1) := by decide +kernel
theorem dX10_isCouple_10 : decode cX10_isCouple 10 = .ok (.invokestatic 84, 3) := by decide +kernel
theorem dX10_isCouple_13 : decode cX10_isCouple 13 = .ok (.ireturn, 1) := by decide +kernel
theorem dX10_isBarge_0 : decode cX10_isBarge 0 = .ok (.iload_n 1, 1) := by decide +kernel
theorem dX10_isBarge_1 : decode cX10_isBarge 1 = .ok (.i2l, 1) := by decide +kernel
theorem dX10_isBarge_2 : decode cX10_isBarge 2 = .ok (.lconst 0, 1) := by decide +kernel
theorem dX10_isBarge_3 : decode cX10_isBarge 3 = .ok (.aload_n 0, 1) := by decide +kernel
theorem wd_302 : Cond.fieldLink RX10 88 "QuarrelBridgesModel" "barges" "I" ∈ BG := BG_in (by decide +kernel) rfl
theorem dX10_isBarge_4 : decode cX10_isBarge 4 = .ok (.getfield 88, 3) := by decide +kernel
theorem dX10_isBarge_7 : decode cX10_isBarge 7 = .ok (.iconst 1, 1) := by decide +kernel
theorem dX10_isBarge_8 : decode cX10_isBarge 8 = .ok (.isub, 1) := by decide +kernel
theorem dX10_isBarge_9 : decode cX10_isBarge 9 = .ok (.i2l, 1) := by decide +kernel
theorem dX10_isBarge_10 : decode cX10_isBarge 10 = .ok (.invokestatic 84, 3) := by decide +kernel
theorem dX10_isBarge_13 : decode cX10_isBarge 13 = .ok (.ireturn, 1) := by decide +kernel
theorem dX10_letterAt_0 : decode cX10_letterAt 0 = .ok (.iload_n 1, 1) := by decide +kernel
theorem dX10_letterAt_1 : decode cX10_letterAt 1 = .ok (.aload_n 0, 1) := by decide +kernel
theorem wd_303 : Cond.fieldLink RX10 94 "QuarrelBridgesModel" "texted" "I" ∈ BG := BG_in (by decide +kernel) rfl
theorem dX10_letterAt_2 : decode cX10_letterAt 2 = .ok (.getfield 94, 3) := by decide +kernel
theorem dX10_letterAt_5 : decode cX10_letterAt 5 = .ok (.if_icmp .ge 12, 3) := by decide +kernel
theorem dX10_letterAt_17 : decode cX10_letterAt 17 = .ok (.iconst (-1), 1) := by decide +kernel
theorem dX10_letterAt_18 : decode cX10_letterAt 18 = .ok (.ireturn, 1) := by decide +kernel
theorem dX10_here_0 : decode cX10_here 0 = .ok (.aload_n 0, 1) := by decide +kernel
theorem dX10_here_1 : decode cX10_here 1 = .ok (.aload_n 0, 1) := by decide +kernel
theorem wd_304 : Cond.fieldLink RX10 98 "QuarrelBridgesModel" "at" "I" ∈ BG := BG_in (by decide +kernel) rfl
theorem dX10_here_2 : decode cX10_here 2 = .ok (.getfield 98, 3) := by decide +kernel
theorem dX10_here_5 : decode cX10_here 5 = .ok (.invokevirtual 101, 3) := by decide +kernel
theorem wd_305 : Cond.methodLink RX10 101 yX10_letterAt ∈ BG := BG_in (by decide +kernel) rfl
theorem wd_306 : Cond.code yX10_letterAt cX10_letterAt 2 (some .int) ∈ BG := BG_in (by decide +kernel) rfl
theorem wd_307 : Cond.instanceMethod yX10_letterAt ∈ BG := BG_in (by decide +kernel) rfl
theorem wd_308 : Cond.selects RX10 yX10_letterAt yX10_letterAt ∈ BG := BG_in (by decide +kernel) rfl
theorem okV_X10_letterAt : okV yX10_letterAt cX10_letterAt 2 (some .int) 1 := ⟨⟨wd_306, wd_295, by decide +kernel⟩, wd_307, wd_308⟩
theorem dX10_here_8 : decode cX10_here 8 = .ok (.bipush 32, 2) := by decide +kernel
theorem dX10_here_10 : decode cX10_here 10 = .ok (.if_icmp .ne 16, 3) := by decide +kernel
theorem dX10_here_26 : decode cX10_here 26 = .ok (.aload_n 0, 1) := by decide +kernel
theorem dX10_here_27 : decode cX10_here 27 = .ok (.aload_n 0, 1) := by decide +kernel
theorem dX10_here_28 : decode cX10_here 28 = .ok (.getfield 98, 3) := by decide +kernel
theorem wd_309 : Cond.fieldLink RX10 105 "QuarrelBridgesModel" "start" "I" ∈ BG := BG_in (by decide +kernel) rfl
theorem dX10_here_31 : decode cX10_here 31 = .ok (.putfield 105, 3) := by decide +kernel
theorem dX10_here_34 : decode cX10_here 34 = .ok (.aload_n 0, 1) := by decide +kernel
theorem dX10_here_35 : decode cX10_here 35 = .ok (.aload_n 0, 1) := by decide +kernel
theorem dX10_here_36 : decode cX10_here 36 = .ok (.getfield 98, 3) := by decide +kernel
theorem dX10_here_39 : decode cX10_here 39 = .ok (.invokevirtual 101, 3) := by decide +kernel
theorem dX10_here_42 : decode cX10_here 42 = .ok (.ireturn, 1) := by decide +kernel
theorem dX10_bargesThat_0 : decode cX10_bargesThat 0 = .ok (.iconst 0, 1) := by decide +kernel
theorem dX10_bargesThat_1 : decode cX10_bargesThat 1 = .ok (.istore_n 2, 1) := by decide +kernel
theorem dX10_bargesThat_2 : decode cX10_bargesThat 2 = .ok (.iconst 0, 1) := by decide +kernel
theorem dX10_bargesThat_3 : decode cX10_bargesThat 3 = .ok (.istore_n 3, 1) := by decide +kernel
theorem dX10_bargesThat_4 : decode cX10_bargesThat 4 = .ok (.iload_n 3, 1) := by decide +kernel
theorem dX10_bargesThat_5 : decode cX10_bargesThat 5 = .ok (.aload_n 0, 1) := by decide +kernel
theorem dX10_bargesThat_6 : decode cX10_bargesThat 6 = .ok (.getfield 88, 3) := by decide +kernel
theorem dX10_bargesThat_9 : decode cX10_bargesThat 9 = .ok (.if_icmp .ge 32, 3) := by decide +kernel
theorem dX10_bargesThat_41 : decode cX10_bargesThat 41 = .ok (.iload_n 2, 1) := by decide +kernel
theorem dX10_bargesThat_42 : decode cX10_bargesThat 42 = .ok (.ireturn, 1) := by decide +kernel
theorem dX10_griefOf_0 : decode cX10_griefOf 0 = .ok (.iconst 0, 1) := by decide +kernel
theorem dX10_griefOf_1 : decode cX10_griefOf 1 = .ok (.istore_n 2, 1) := by decide +kernel
theorem dX10_griefOf_2 : decode cX10_griefOf 2 = .ok (.iconst 0, 1) := by decide +kernel
theorem dX10_griefOf_3 : decode cX10_griefOf 3 = .ok (.istore_n 3, 1) := by decide +kernel
theorem dX10_griefOf_4 : decode cX10_griefOf 4 = .ok (.iload_n 3, 1) := by decide +kernel
theorem dX10_griefOf_5 : decode cX10_griefOf 5 = .ok (.aload_n 0, 1) := by decide +kernel
theorem dX10_griefOf_6 : decode cX10_griefOf 6 = .ok (.getfield 78, 3) := by decide +kernel
theorem dX10_griefOf_9 : decode cX10_griefOf 9 = .ok (.if_icmp .ge 32, 3) := by decide +kernel
theorem dX10_griefOf_41 : decode cX10_griefOf 41 = .ok (.iload_n 2, 1) := by decide +kernel
theorem dX10_griefOf_42 : decode cX10_griefOf 42 = .ok (.ireturn, 1) := by decide +kernel
theorem dX10_whoIsAt_0 : decode cX10_whoIsAt 0 = .ok (.iconst (-1), 1) := by decide +kernel
theorem dX10_whoIsAt_1 : decode cX10_whoIsAt 1 = .ok (.istore_n 3, 1) := by decide +kernel
theorem dX10_whoIsAt_2 : decode cX10_whoIsAt 2 = .ok (.iconst 0, 1) := by decide +kernel
theorem dX10_whoIsAt_3 : decode cX10_whoIsAt 3 = .ok (.istore 4, 2) := by decide +kernel
theorem dX10_whoIsAt_5 : decode cX10_whoIsAt 5 = .ok (.iload 4, 2) := by decide +kernel
theorem dX10_whoIsAt_7 : decode cX10_whoIsAt 7 = .ok (.aload_n 0, 1) := by decide +kernel
theorem dX10_whoIsAt_8 : decode cX10_whoIsAt 8 = .ok (.getfield 78, 3) := by decide +kernel
theorem dX10_whoIsAt_11 : decode cX10_whoIsAt 11 = .ok (.if_icmp .ge 32, 3) := by decide +kernel
theorem dX10_whoIsAt_43 : decode cX10_whoIsAt 43 = .ok (.iload_n 3, 1) := by decide +kernel
theorem dX10_whoIsAt_44 : decode cX10_whoIsAt 44 = .ok (.ireturn, 1) := by decide +kernel
theorem dX10_copy_0 : decode cX10_copy 0 = .ok (.iconst 0, 1) := by decide +kernel
theorem dX10_copy_1 : decode cX10_copy 1 = .ok (.istore_n 3, 1) := by decide +kernel
theorem dX10_copy_2 : decode cX10_copy 2 = .ok (.iload_n 3, 1) := by decide +kernel
theorem dX10_copy_3 : decode cX10_copy 3 = .ok (.bipush 42, 2) := by decide +kernel
theorem dX10_copy_5 : decode cX10_copy 5 = .ok (.if_icmp .ge 25, 3) := by decide +kernel
theorem dX10_copy_30 : decode cX10_copy 30 = .ok (.return_, 1) := by decide +kernel
theorem dX10_copy_8 : decode cX10_copy 8 = .ok (.aload_n 0, 1) := by decide +kernel
theorem dX10_copy_9 : decode cX10_copy 9 = .ok (.getfield 7, 3) := by decide +kernel
theorem dX10_copy_12 : decode cX10_copy 12 = .ok (.iload_n 2, 1) := by decide +kernel
theorem dX10_copy_13 : decode cX10_copy 13 = .ok (.iload_n 3, 1) := by decide +kernel
theorem dX10_copy_14 : decode cX10_copy 14 = .ok (.iadd, 1) := by decide +kernel
theorem dX10_copy_15 : decode cX10_copy 15 = .ok (.aload_n 0, 1) := by decide +kernel
theorem dX10_copy_16 : decode cX10_copy 16 = .ok (.getfield 7, 3) := by decide +kernel
theorem dX10_copy_19 : decode cX10_copy 19 = .ok (.iload_n 1, 1) := by decide +kernel
theorem dX10_copy_20 : decode cX10_copy 20 = .ok (.iload_n 3, 1) := by decide +kernel
theorem dX10_copy_21 : decode cX10_copy 21 = .ok (.iadd, 1) := by decide +kernel
theorem dX10_copy_22 : decode cX10_copy 22 = .ok (.iaload, 1) := by decide +kernel
theorem dX10_copy_23 : decode cX10_copy 23 = .ok (.iastore, 1) := by decide +kernel
theorem dX10_copy_24 : decode cX10_copy 24 = .ok (.iinc 3 1, 3) := by decide +kernel
theorem dX10_copy_27 : decode cX10_copy 27 = .ok (.goto (-25), 3) := by decide +kernel
theorem dX10_findOrder_0 : decode cX10_findOrder 0 = .ok (.aload_n 0, 1) := by decide +kernel
theorem dX10_findOrder_1 : decode cX10_findOrder 1 = .ok (.iconst 0, 1) := by decide +kernel
theorem dX10_findOrder_2 : decode cX10_findOrder 2 = .ok (.bipush 42, 2) := by decide +kernel
theorem dX10_findOrder_4 : decode cX10_findOrder 4 = .ok (.invokevirtual 229, 3) := by decide +kernel
theorem wd_310 : Cond.methodLink RX10 229 yX10_copy ∈ BG := BG_in (by decide +kernel) rfl
theorem wd_311 : Cond.code yX10_copy cX10_copy 4 none ∈ BG := BG_in (by decide +kernel) rfl
theorem wd_312 : Cond.instanceMethod yX10_copy ∈ BG := BG_in (by decide +kernel) rfl
theorem wd_313 : Cond.selects RX10 yX10_copy yX10_copy ∈ BG := BG_in (by decide +kernel) rfl
theorem okV_X10_copy : okV yX10_copy cX10_copy 4 none 2 := ⟨⟨wd_311, wd_295, by decide +kernel⟩, wd_312, wd_313⟩
theorem dX10_findOrder_7 : decode cX10_findOrder 7 = .ok (.aload_n 0, 1) := by decide +kernel
theorem dX10_findOrder_8 : decode cX10_findOrder 8 = .ok (.iconst 0, 1) := by decide +kernel
theorem wd_314 : Cond.fieldLink RX10 274 "QuarrelBridgesModel" "bestLong" "I" ∈ BG := BG_in (by decide +kernel) rfl
theorem dX10_findOrder_9 : decode cX10_findOrder 9 = .ok (.putfield 274, 3) := by decide +kernel
theorem dX10_findOrder_12 : decode cX10_findOrder 12 = .ok (.aload_n 0, 1) := by decide +kernel
theorem dX10_findOrder_13 : decode cX10_findOrder 13 = .ok (.iconst 0, 1) := by decide +kernel
theorem wd_315 : Cond.fieldLink RX10 277 "QuarrelBridgesModel" "bestTimely" "I" ∈ BG := BG_in (by decide +kernel) rfl
theorem dX10_findOrder_14 : decode cX10_findOrder 14 = .ok (.putfield 277, 3) := by decide +kernel
theorem dX10_findOrder_17 : decode cX10_findOrder 17 = .ok (.iconst 0, 1) := by decide +kernel
theorem dX10_findOrder_18 : decode cX10_findOrder 18 = .ok (.istore_n 1, 1) := by decide +kernel
theorem dX10_findOrder_19 : decode cX10_findOrder 19 = .ok (.iconst 0, 1) := by decide +kernel
theorem dX10_findOrder_20 : decode cX10_findOrder 20 = .ok (.istore_n 2, 1) := by decide +kernel
theorem dX10_findOrder_21 : decode cX10_findOrder 21 = .ok (.aload_n 0, 1) := by decide +kernel
theorem dX10_findOrder_22 : decode cX10_findOrder 22 = .ok (.getfield 63, 3) := by decide +kernel
theorem dX10_findOrder_25 : decode cX10_findOrder 25 = .ok (.iconst 0, 1) := by decide +kernel
theorem dX10_findOrder_26 : decode cX10_findOrder 26 = .ok (.iconst (-1), 1) := by decide +kernel
theorem dX10_findOrder_27 : decode cX10_findOrder 27 = .ok (.iastore, 1) := by decide +kernel
theorem dX10_findOrder_28 : decode cX10_findOrder 28 = .ok (.iload_n 1, 1) := by decide +kernel
theorem dX10_findOrder_29 : decode cX10_findOrder 29 = .ok (.ifCond .lt 260, 3) := by decide +kernel
theorem dX10_findOrder_32 : decode cX10_findOrder 32 = .ok (.bipush 42, 2) := by decide +kernel
theorem dX10_findOrder_34 : decode cX10_findOrder 34 = .ok (.bipush 42, 2) := by decide +kernel
theorem dX10_findOrder_36 : decode cX10_findOrder 36 = .ok (.iload_n 1, 1) := by decide +kernel
theorem dX10_findOrder_37 : decode cX10_findOrder 37 = .ok (.imul, 1) := by decide +kernel
theorem dX10_findOrder_38 : decode cX10_findOrder 38 = .ok (.iadd, 1) := by decide +kernel
theorem dX10_findOrder_39 : decode cX10_findOrder 39 = .ok (.istore_n 3, 1) := by decide +kernel
theorem dX10_findOrder_40 : decode cX10_findOrder 40 = .ok (.aload_n 0, 1) := by decide +kernel
theorem dX10_findOrder_41 : decode cX10_findOrder 41 = .ok (.getfield 63, 3) := by decide +kernel
theorem dX10_findOrder_44 : decode cX10_findOrder 44 = .ok (.iload_n 1, 1) := by decide +kernel
theorem dX10_findOrder_45 : decode cX10_findOrder 45 = .ok (.dup2, 1) := by decide +kernel
theorem dX10_findOrder_46 : decode cX10_findOrder 46 = .ok (.iaload, 1) := by decide +kernel
theorem dX10_findOrder_47 : decode cX10_findOrder 47 = .ok (.iconst 1, 1) := by decide +kernel
theorem dX10_findOrder_48 : decode cX10_findOrder 48 = .ok (.iadd, 1) := by decide +kernel
theorem dX10_findOrder_49 : decode cX10_findOrder 49 = .ok (.iastore, 1) := by decide +kernel
theorem dX10_findOrder_50 : decode cX10_findOrder 50 = .ok (.aload_n 0, 1) := by decide +kernel
theorem dX10_findOrder_51 : decode cX10_findOrder 51 = .ok (.getfield 63, 3) := by decide +kernel
theorem dX10_findOrder_54 : decode cX10_findOrder 54 = .ok (.iload_n 1, 1) := by decide +kernel
theorem dX10_findOrder_55 : decode cX10_findOrder 55 = .ok (.iaload, 1) := by decide +kernel
theorem dX10_findOrder_56 : decode cX10_findOrder 56 = .ok (.aload_n 0, 1) := by decide +kernel
theorem dX10_findOrder_57 : decode cX10_findOrder 57 = .ok (.getfield 88, 3) := by decide +kernel
theorem dX10_findOrder_60 : decode cX10_findOrder 60 = .ok (.if_icmp .eq 9, 3) := by decide +kernel
theorem dX10_findOrder_69 : decode cX10_findOrder 69 = .ok (.iinc 1 (-1), 3) := by decide +kernel
theorem dX10_findOrder_72 : decode cX10_findOrder 72 = .ok (.iload_n 2, 1) := by decide +kernel
theorem dX10_findOrder_73 : decode cX10_findOrder 73 = .ok (.iload_n 1, 1) := by decide +kernel
theorem dX10_findOrder_74 : decode cX10_findOrder 74 = .ok (.ifCond .lt 35, 3) := by decide +kernel
theorem dX10_findOrder_109 : decode cX10_findOrder 109 = .ok (.iconst 0, 1) := by decide +kernel
theorem dX10_findOrder_110 : decode cX10_findOrder 110 = .ok (.isub, 1) := by decide +kernel
theorem dX10_findOrder_111 : decode cX10_findOrder 111 = .ok (.istore_n 2, 1) := by decide +kernel
theorem dX10_findOrder_112 : decode cX10_findOrder 112 = .ok (.goto 174, 3) := by decide +kernel
theorem dX10_findOrder_286 : decode cX10_findOrder 286 = .ok (.goto (-258), 3) := by decide +kernel
theorem dX10_findOrder_289 : decode cX10_findOrder 289 = .ok (.return_, 1) := by decide +kernel
theorem dX10_feed_0 : decode cX10_feed 0 = .ok (.iload_n 1, 1) := by decide +kernel
theorem dX10_feed_1 : decode cX10_feed 1 = .ok (.i2l, 1) := by decide +kernel
theorem dX10_feed_2 : decode cX10_feed 2 = .ok (.lconst 0, 1) := by decide +kernel
theorem wd_316 : Cond.constantLong RX10 91 (255) ∈ BG := BG_in (by decide +kernel) rfl
theorem dX10_feed_3 : decode cX10_feed 3 = .ok (.ldc2_w 91, 3) := by decide +kernel
theorem dX10_feed_6 : decode cX10_feed 6 = .ok (.invokestatic 84, 3) := by decide +kernel
theorem dX10_feed_9 : decode cX10_feed 9 = .ok (.ifCond .ne 6, 3) := by decide +kernel
theorem dX10_feed_15 : decode cX10_feed 15 = .ok (.aload_n 0, 1) := by decide +kernel
theorem dX10_feed_16 : decode cX10_feed 16 = .ok (.getfield 94, 3) := by decide +kernel
theorem dX10_feed_19 : decode cX10_feed 19 = .ok (.sipush 240, 3) := by decide +kernel
theorem dX10_feed_22 : decode cX10_feed 22 = .ok (.if_icmp .ne 6, 3) := by decide +kernel
theorem dX10_feed_28 : decode cX10_feed 28 = .ok (.aload_n 0, 1) := by decide +kernel
theorem dX10_feed_29 : decode cX10_feed 29 = .ok (.getfield 36, 3) := by decide +kernel
theorem dX10_feed_32 : decode cX10_feed 32 = .ok (.aload_n 0, 1) := by decide +kernel
theorem dX10_feed_33 : decode cX10_feed 33 = .ok (.getfield 94, 3) := by decide +kernel
theorem dX10_feed_36 : decode cX10_feed 36 = .ok (.iload_n 1, 1) := by decide +kernel
theorem dX10_feed_37 : decode cX10_feed 37 = .ok (.iastore, 1) := by decide +kernel
theorem dX10_feed_38 : decode cX10_feed 38 = .ok (.aload_n 0, 1) := by decide +kernel
theorem dX10_feed_39 : decode cX10_feed 39 = .ok (.dup, 1) := by decide +kernel
theorem dX10_feed_40 : decode cX10_feed 40 = .ok (.getfield 94, 3) := by decide +kernel
theorem dX10_feed_43 : decode cX10_feed 43 = .ok (.iconst 1, 1) := by decide +kernel
theorem dX10_feed_44 : decode cX10_feed 44 = .ok (.iadd, 1) := by decide +kernel
theorem dX10_feed_45 : decode cX10_feed 45 = .ok (.putfield 94, 3) := by decide +kernel
theorem dX10_feed_48 : decode cX10_feed 48 = .ok (.aload_n 0, 1) := by decide +kernel
theorem dX10_feed_49 : decode cX10_feed 49 = .ok (.getfield 94, 3) := by decide +kernel
theorem dX10_feed_52 : decode cX10_feed 52 = .ok (.ireturn, 1) := by decide +kernel
theorem wd_317 : Cond.constant RX10 93 (-1000000002) ∈ BG := BG_in (by decide +kernel) rfl
theorem dX10_feed_12 : decode cX10_feed 12 = .ok (.ldc 93, 2) := by decide +kernel
theorem dX10_feed_14 : decode cX10_feed 14 = .ok (.ireturn, 1) := by decide +kernel
theorem dX10_town_0 : decode cX10_town 0 = .ok (.aload_n 0, 1) := by decide +kernel
theorem dX10_town_1 : decode cX10_town 1 = .ok (.iconst 0, 1) := by decide +kernel
theorem dX10_town_2 : decode cX10_town 2 = .ok (.putfield 98, 3) := by decide +kernel
theorem dX10_town_5 : decode cX10_town 5 = .ok (.aload_n 0, 1) := by decide +kernel
theorem dX10_town_6 : decode cX10_town 6 = .ok (.iconst 0, 1) := by decide +kernel
theorem wd_318 : Cond.fieldLink RX10 108 "QuarrelBridgesModel" "faulty" "I" ∈ BG := BG_in (by decide +kernel) rfl
theorem dX10_town_7 : decode cX10_town 7 = .ok (.putfield 108, 3) := by decide +kernel
theorem dX10_town_10 : decode cX10_town 10 = .ok (.aload_n 0, 1) := by decide +kernel
theorem dX10_town_11 : decode cX10_town 11 = .ok (.iconst (-1), 1) := by decide +kernel
theorem dX10_town_12 : decode cX10_town 12 = .ok (.putfield 39, 3) := by decide +kernel
theorem dX10_town_15 : decode cX10_town 15 = .ok (.aload_n 0, 1) := by decide +kernel
theorem dX10_town_16 : decode cX10_town 16 = .ok (.iconst 0, 1) := by decide +kernel
theorem wd_319 : Cond.fieldLink RX10 126 "QuarrelBridgesModel" "readBridges" "I" ∈ BG := BG_in (by decide +kernel) rfl
theorem dX10_town_17 : decode cX10_town 17 = .ok (.putfield 126, 3) := by decide +kernel
theorem dX10_town_20 : decode cX10_town 20 = .ok (.aload_n 0, 1) := by decide +kernel
theorem dX10_town_21 : decode cX10_town 21 = .ok (.iconst 1, 1) := by decide +kernel
theorem wd_320 : Cond.fieldLink RX10 136 "QuarrelBridgesModel" "readThemes" "I" ∈ BG := BG_in (by decide +kernel) rfl
theorem dX10_town_22 : decode cX10_town 22 = .ok (.putfield 136, 3) := by decide +kernel
theorem dX10_town_25 : decode cX10_town 25 = .ok (.aload_n 0, 1) := by decide +kernel
theorem dX10_town_26 : decode cX10_town 26 = .ok (.iconst 0, 1) := by decide +kernel
theorem wd_321 : Cond.fieldLink RX10 132 "QuarrelBridgesModel" "hasThemes" "Z" ∈ BG := BG_in (by decide +kernel) rfl
theorem dX10_town_27 : decode cX10_town 27 = .ok (.putfield 132, 3) := by decide +kernel
theorem dX10_town_30 : decode cX10_town 30 = .ok (.aload_n 0, 1) := by decide +kernel
theorem dX10_town_31 : decode cX10_town 31 = .ok (.iconst 0, 1) := by decide +kernel
theorem wd_322 : Cond.fieldLink RX10 139 "QuarrelBridgesModel" "readCouples" "I" ∈ BG := BG_in (by decide +kernel) rfl
theorem dX10_town_32 : decode cX10_town 32 = .ok (.putfield 139, 3) := by decide +kernel
theorem dX10_town_35 : decode cX10_town 35 = .ok (.aload_n 0, 1) := by decide +kernel
theorem dX10_town_36 : decode cX10_town 36 = .ok (.iconst 0, 1) := by decide +kernel
theorem wd_323 : Cond.fieldLink RX10 146 "QuarrelBridgesModel" "readBarges" "I" ∈ BG := BG_in (by decide +kernel) rfl
theorem dX10_town_37 : decode cX10_town 37 = .ok (.putfield 146, 3) := by decide +kernel
theorem dX10_town_40 : decode cX10_town 40 = .ok (.aload_n 0, 1) := by decide +kernel
theorem dX10_town_41 : decode cX10_town 41 = .ok (.iconst 0, 1) := by decide +kernel
theorem wd_324 : Cond.fieldLink RX10 152 "QuarrelBridgesModel" "readSnow" "I" ∈ BG := BG_in (by decide +kernel) rfl
theorem dX10_town_42 : decode cX10_town 42 = .ok (.putfield 152, 3) := by decide +kernel
theorem dX10_town_45 : decode cX10_town 45 = .ok (.aload_n 0, 1) := by decide +kernel
theorem dX10_town_46 : decode cX10_town 46 = .ok (.iconst 0, 1) := by decide +kernel
theorem wd_325 : Cond.fieldLink RX10 149 "QuarrelBridgesModel" "hasSnow" "Z" ∈ BG := BG_in (by decide +kernel) rfl
theorem dX10_town_47 : decode cX10_town 47 = .ok (.putfield 149, 3) := by decide +kernel
theorem dX10_town_50 : decode cX10_town 50 = .ok (.iconst 1, 1) := by decide +kernel
theorem dX10_town_51 : decode cX10_town 51 = .ok (.istore_n 1, 1) := by decide +kernel
theorem dX10_town_52 : decode cX10_town 52 = .ok (.iload_n 1, 1) := by decide +kernel
theorem dX10_town_53 : decode cX10_town 53 = .ok (.ifCond .eq 19, 3) := by decide +kernel
theorem dX10_town_56 : decode cX10_town 56 = .ok (.aload_n 0, 1) := by decide +kernel
theorem dX10_town_57 : decode cX10_town 57 = .ok (.invokevirtual 111, 3) := by decide +kernel
theorem wd_326 : Cond.methodLink RX10 111 yX10_here ∈ BG := BG_in (by decide +kernel) rfl
theorem wd_327 : Cond.code yX10_here cX10_here 1 (some .int) ∈ BG := BG_in (by decide +kernel) rfl
theorem wd_328 : Cond.instanceMethod yX10_here ∈ BG := BG_in (by decide +kernel) rfl
theorem wd_329 : Cond.selects RX10 yX10_here yX10_here ∈ BG := BG_in (by decide +kernel) rfl
theorem okV_X10_here : okV yX10_here cX10_here 1 (some .int) 0 := ⟨⟨wd_327, wd_295, by decide +kernel⟩, wd_328, wd_329⟩
theorem dX10_town_60 : decode cX10_town 60 = .ok (.iconst (-1), 1) := by decide +kernel
theorem dX10_town_61 : decode cX10_town 61 = .ok (.if_icmp .eq 11, 3) := by decide +kernel
theorem dX10_town_72 : decode cX10_town 72 = .ok (.aload_n 0, 1) := by decide +kernel
theorem dX10_town_73 : decode cX10_town 73 = .ok (.iconst 0, 1) := by decide +kernel
theorem dX10_town_74 : decode cX10_town 74 = .ok (.putfield 94, 3) := by decide +kernel
theorem dX10_town_77 : decode cX10_town 77 = .ok (.iload_n 1, 1) := by decide +kernel
theorem dX10_town_78 : decode cX10_town 78 = .ok (.ifCond .ne 11, 3) := by decide +kernel
theorem dX10_town_89 : decode cX10_town 89 = .ok (.aload_n 0, 1) := by decide +kernel
theorem dX10_town_90 : decode cX10_town 90 = .ok (.aload_n 0, 1) := by decide +kernel
theorem dX10_town_91 : decode cX10_town 91 = .ok (.getfield 126, 3) := by decide +kernel
theorem dX10_town_94 : decode cX10_town 94 = .ok (.putfield 81, 3) := by decide +kernel
theorem dX10_town_97 : decode cX10_town 97 = .ok (.aload_n 0, 1) := by decide +kernel
theorem dX10_town_98 : decode cX10_town 98 = .ok (.aload_n 0, 1) := by decide +kernel
theorem dX10_town_99 : decode cX10_town 99 = .ok (.getfield 136, 3) := by decide +kernel
theorem dX10_town_102 : decode cX10_town 102 = .ok (.putfield 17, 3) := by decide +kernel
theorem dX10_town_105 : decode cX10_town 105 = .ok (.aload_n 0, 1) := by decide +kernel
theorem dX10_town_106 : decode cX10_town 106 = .ok (.aload_n 0, 1) := by decide +kernel
theorem dX10_town_107 : decode cX10_town 107 = .ok (.getfield 139, 3) := by decide +kernel
theorem dX10_town_110 : decode cX10_town 110 = .ok (.putfield 78, 3) := by decide +kernel
theorem dX10_town_113 : decode cX10_town 113 = .ok (.aload_n 0, 1) := by decide +kernel
theorem dX10_town_114 : decode cX10_town 114 = .ok (.aload_n 0, 1) := by decide +kernel
theorem dX10_town_115 : decode cX10_town 115 = .ok (.getfield 146, 3) := by decide +kernel
theorem dX10_town_118 : decode cX10_town 118 = .ok (.putfield 88, 3) := by decide +kernel
theorem dX10_town_121 : decode cX10_town 121 = .ok (.aload_n 0, 1) := by decide +kernel
theorem dX10_town_122 : decode cX10_town 122 = .ok (.aload_n 0, 1) := by decide +kernel
theorem dX10_town_123 : decode cX10_town 123 = .ok (.getfield 152, 3) := by decide +kernel
theorem wd_330 : Cond.fieldLink RX10 174 "QuarrelBridgesModel" "snow" "I" ∈ BG := BG_in (by decide +kernel) rfl
theorem dX10_town_126 : decode cX10_town 126 = .ok (.putfield 174, 3) := by decide +kernel
theorem dX10_town_129 : decode cX10_town 129 = .ok (.iconst 0, 1) := by decide +kernel
theorem dX10_town_130 : decode cX10_town 130 = .ok (.istore_n 2, 1) := by decide +kernel
theorem dX10_town_131 : decode cX10_town 131 = .ok (.iload_n 2, 1) := by decide +kernel
theorem dX10_town_132 : decode cX10_town 132 = .ok (.bipush 6, 2) := by decide +kernel
theorem dX10_town_134 : decode cX10_town 134 = .ok (.if_icmp .ge 33, 3) := by decide +kernel
theorem dX10_town_167 : decode cX10_town 167 = .ok (.iconst 0, 1) := by decide +kernel
theorem dX10_town_168 : decode cX10_town 168 = .ok (.istore_n 2, 1) := by decide +kernel
theorem dX10_town_169 : decode cX10_town 169 = .ok (.iload_n 2, 1) := by decide +kernel
theorem dX10_town_170 : decode cX10_town 170 = .ok (.bipush 30, 2) := by decide +kernel
theorem dX10_town_172 : decode cX10_town 172 = .ok (.if_icmp .ge 21, 3) := by decide +kernel
theorem dX10_town_193 : decode cX10_town 193 = .ok (.iconst 0, 1) := by decide +kernel
theorem dX10_town_194 : decode cX10_town 194 = .ok (.istore_n 2, 1) := by decide +kernel
theorem dX10_town_195 : decode cX10_town 195 = .ok (.iload_n 2, 1) := by decide +kernel
theorem dX10_town_196 : decode cX10_town 196 = .ok (.bipush 7, 2) := by decide +kernel
theorem dX10_town_198 : decode cX10_town 198 = .ok (.if_icmp .ge 33, 3) := by decide +kernel
theorem dX10_town_231 : decode cX10_town 231 = .ok (.aload_n 0, 1) := by decide +kernel
theorem dX10_town_232 : decode cX10_town 232 = .ok (.invokevirtual 75, 3) := by decide +kernel
theorem dX10_town_235 : decode cX10_town 235 = .ok (.aload_n 0, 1) := by decide +kernel
theorem dX10_town_236 : decode cX10_town 236 = .ok (.iconst 0, 1) := by decide +kernel
theorem wd_331 : Cond.fieldLink RX10 177 "QuarrelBridgesModel" "booked" "I" ∈ BG := BG_in (by decide +kernel) rfl
theorem dX10_town_237 : decode cX10_town 237 = .ok (.putfield 177, 3) := by decide +kernel
theorem dX10_town_240 : decode cX10_town 240 = .ok (.aload_n 0, 1) := by decide +kernel
theorem dX10_town_241 : decode cX10_town 241 = .ok (.iconst 0, 1) := by decide +kernel
theorem wd_332 : Cond.fieldLink RX10 180 "QuarrelBridgesModel" "undoes" "I" ∈ BG := BG_in (by decide +kernel) rfl
theorem dX10_town_242 : decode cX10_town 242 = .ok (.putfield 180, 3) := by decide +kernel
theorem dX10_town_245 : decode cX10_town 245 = .ok (.aload_n 0, 1) := by decide +kernel
theorem dX10_town_246 : decode cX10_town 246 = .ok (.getfield 13, 3) := by decide +kernel
theorem dX10_town_249 : decode cX10_town 249 = .ok (.iconst 0, 1) := by decide +kernel
theorem dX10_town_250 : decode cX10_town 250 = .ok (.iconst 0, 1) := by decide +kernel
theorem dX10_town_251 : decode cX10_town 251 = .ok (.bastore, 1) := by decide +kernel
theorem dX10_town_252 : decode cX10_town 252 = .ok (.aload_n 0, 1) := by decide +kernel
theorem dX10_town_253 : decode cX10_town 253 = .ok (.getfield 13, 3) := by decide +kernel
theorem dX10_town_256 : decode cX10_town 256 = .ok (.iconst 1, 1) := by decide +kernel
theorem dX10_town_257 : decode cX10_town 257 = .ok (.iconst 0, 1) := by decide +kernel
theorem dX10_town_258 : decode cX10_town 258 = .ok (.bastore, 1) := by decide +kernel
theorem dX10_town_259 : decode cX10_town 259 = .ok (.aload_n 0, 1) := by decide +kernel
theorem dX10_town_260 : decode cX10_town 260 = .ok (.getfield 81, 3) := by decide +kernel
theorem dX10_town_263 : decode cX10_town 263 = .ok (.ireturn, 1) := by decide +kernel
theorem dX10_town_201 : decode cX10_town 201 = .ok (.aload_n 0, 1) := by decide +kernel
theorem dX10_town_202 : decode cX10_town 202 = .ok (.getfield 30, 3) := by decide +kernel
theorem dX10_town_205 : decode cX10_town 205 = .ok (.iload_n 2, 1) := by decide +kernel
theorem dX10_town_206 : decode cX10_town 206 = .ok (.aload_n 0, 1) := by decide +kernel
theorem dX10_town_207 : decode cX10_town 207 = .ok (.getfield 51, 3) := by decide +kernel
theorem dX10_town_210 : decode cX10_town 210 = .ok (.iload_n 2, 1) := by decide +kernel
theorem dX10_town_211 : decode cX10_town 211 = .ok (.iaload, 1) := by decide +kernel
theorem dX10_town_212 : decode cX10_town 212 = .ok (.iastore, 1) := by decide +kernel
theorem dX10_town_213 : decode cX10_town 213 = .ok (.aload_n 0, 1) := by decide +kernel
theorem dX10_town_214 : decode cX10_town 214 = .ok (.getfield 33, 3) := by decide +kernel
theorem dX10_town_217 : decode cX10_town 217 = .ok (.iload_n 2, 1) := by decide +kernel
theorem dX10_town_218 : decode cX10_town 218 = .ok (.aload_n 0, 1) := by decide +kernel
theorem dX10_town_219 : decode cX10_town 219 = .ok (.getfield 54, 3) := by decide +kernel
theorem dX10_town_222 : decode cX10_town 222 = .ok (.iload_n 2, 1) := by decide +kernel
theorem dX10_town_223 : decode cX10_town 223 = .ok (.iaload, 1) := by decide +kernel
theorem dX10_town_224 : decode cX10_town 224 = .ok (.iastore, 1) := by decide +kernel
theorem dX10_town_225 : decode cX10_town 225 = .ok (.iinc 2 1, 3) := by decide +kernel
theorem dX10_town_228 : decode cX10_town 228 = .ok (.goto (-33), 3) := by decide +kernel
theorem dX10_town_175 : decode cX10_town 175 = .ok (.aload_n 0, 1) := by decide +kernel
theorem dX10_town_176 : decode cX10_town 176 = .ok (.getfield 27, 3) := by decide +kernel
theorem dX10_town_179 : decode cX10_town 179 = .ok (.iload_n 2, 1) := by decide +kernel
theorem dX10_town_180 : decode cX10_town 180 = .ok (.aload_n 0, 1) := by decide +kernel
theorem dX10_town_181 : decode cX10_town 181 = .ok (.getfield 48, 3) := by decide +kernel
theorem dX10_town_184 : decode cX10_town 184 = .ok (.iload_n 2, 1) := by decide +kernel
theorem dX10_town_185 : decode cX10_town 185 = .ok (.iaload, 1) := by decide +kernel
theorem dX10_town_186 : decode cX10_town 186 = .ok (.iastore, 1) := by decide +kernel
theorem dX10_town_187 : decode cX10_town 187 = .ok (.iinc 2 1, 3) := by decide +kernel
theorem dX10_town_190 : decode cX10_town 190 = .ok (.goto (-21), 3) := by decide +kernel
theorem dX10_town_137 : decode cX10_town 137 = .ok (.aload_n 0, 1) := by decide +kernel
theorem dX10_town_138 : decode cX10_town 138 = .ok (.getfield 21, 3) := by decide +kernel
theorem dX10_town_141 : decode cX10_town 141 = .ok (.iload_n 2, 1) := by decide +kernel
theorem dX10_town_142 : decode cX10_town 142 = .ok (.aload_n 0, 1) := by decide +kernel
theorem dX10_town_143 : decode cX10_town 143 = .ok (.getfield 42, 3) := by decide +kernel
theorem dX10_town_146 : decode cX10_town 146 = .ok (.iload_n 2, 1) := by decide +kernel
theorem dX10_town_147 : decode cX10_town 147 = .ok (.iaload, 1) := by decide +kernel
theorem dX10_town_148 : decode cX10_town 148 = .ok (.iastore, 1) := by decide +kernel
theorem dX10_town_149 : decode cX10_town 149 = .ok (.aload_n 0, 1) := by decide +kernel
theorem dX10_town_150 : decode cX10_town 150 = .ok (.getfield 24, 3) := by decide +kernel
theorem dX10_town_153 : decode cX10_town 153 = .ok (.iload_n 2, 1) := by decide +kernel
theorem dX10_town_154 : decode cX10_town 154 = .ok (.aload_n 0, 1) := by decide +kernel
theorem dX10_town_155 : decode cX10_town 155 = .ok (.getfield 45, 3) := by decide +kernel
theorem dX10_town_158 : decode cX10_town 158 = .ok (.iload_n 2, 1) := by decide +kernel
theorem dX10_town_159 : decode cX10_town 159 = .ok (.iaload, 1) := by decide +kernel
theorem dX10_town_160 : decode cX10_town 160 = .ok (.iastore, 1) := by decide +kernel
theorem dX10_town_161 : decode cX10_town 161 = .ok (.iinc 2 1, 3) := by decide +kernel
theorem dX10_town_164 : decode cX10_town 164 = .ok (.goto (-33), 3) := by decide +kernel
theorem dX10_fault_0 : decode cX10_fault 0 = .ok (.aload_n 0, 1) := by decide +kernel
theorem dX10_fault_1 : decode cX10_fault 1 = .ok (.getfield 39, 3) := by decide +kernel
theorem dX10_fault_4 : decode cX10_fault 4 = .ok (.ireturn, 1) := by decide +kernel
theorem dX10_told_0 : decode cX10_told 0 = .ok (.iload_n 1, 1) := by decide +kernel
theorem dX10_told_1 : decode cX10_told 1 = .ok (.tableswitch 134 0 13 #[71, 76, 81, 86, 91, 96, 101, 109, 134, 134, 134, 117, 124, 129], 71) := by decide +kernel
theorem dX10_told_135 : decode cX10_told 135 = .ok (.iload_n 1, 1) := by decide +kernel
theorem dX10_told_136 : decode cX10_told 136 = .ok (.i2l, 1) := by decide +kernel
theorem wd_333 : Cond.constantLong RX10 189 (8) ∈ BG := BG_in (by decide +kernel) rfl
theorem dX10_told_137 : decode cX10_told 137 = .ok (.ldc2_w 189, 3) := by decide +kernel
theorem wd_334 : Cond.constantLong RX10 191 (10) ∈ BG := BG_in (by decide +kernel) rfl
theorem dX10_told_140 : decode cX10_told 140 = .ok (.ldc2_w 191, 3) := by decide +kernel
theorem dX10_told_143 : decode cX10_told 143 = .ok (.invokestatic 84, 3) := by decide +kernel
theorem dX10_told_146 : decode cX10_told 146 = .ok (.ifCond .eq 14, 3) := by decide +kernel
theorem dX10_told_160 : decode cX10_told 160 = .ok (.ldc 93, 2) := by decide +kernel
theorem dX10_told_162 : decode cX10_told 162 = .ok (.ireturn, 1) := by decide +kernel
theorem dX10_told_72 : decode cX10_told 72 = .ok (.aload_n 0, 1) := by decide +kernel
theorem dX10_told_73 : decode cX10_told 73 = .ok (.getfield 81, 3) := by decide +kernel
theorem dX10_told_76 : decode cX10_told 76 = .ok (.ireturn, 1) := by decide +kernel
theorem dX10_told_77 : decode cX10_told 77 = .ok (.aload_n 0, 1) := by decide +kernel
theorem dX10_told_78 : decode cX10_told 78 = .ok (.getfield 17, 3) := by decide +kernel
theorem dX10_told_81 : decode cX10_told 81 = .ok (.ireturn, 1) := by decide +kernel
theorem dX10_told_82 : decode cX10_told 82 = .ok (.aload_n 0, 1) := by decide +kernel
theorem dX10_told_83 : decode cX10_told 83 = .ok (.getfield 78, 3) := by decide +kernel
theorem dX10_told_86 : decode cX10_told 86 = .ok (.ireturn, 1) := by decide +kernel
theorem dX10_told_87 : decode cX10_told 87 = .ok (.aload_n 0, 1) := by decide +kernel
theorem dX10_told_88 : decode cX10_told 88 = .ok (.getfield 88, 3) := by decide +kernel
theorem dX10_told_91 : decode cX10_told 91 = .ok (.ireturn, 1) := by decide +kernel
theorem dX10_told_92 : decode cX10_told 92 = .ok (.aload_n 0, 1) := by decide +kernel
theorem dX10_told_93 : decode cX10_told 93 = .ok (.getfield 174, 3) := by decide +kernel
theorem dX10_told_96 : decode cX10_told 96 = .ok (.ireturn, 1) := by decide +kernel
theorem dX10_told_97 : decode cX10_told 97 = .ok (.aload_n 0, 1) := by decide +kernel
theorem dX10_told_98 : decode cX10_told 98 = .ok (.getfield 94, 3) := by decide +kernel
theorem dX10_told_101 : decode cX10_told 101 = .ok (.ireturn, 1) := by decide +kernel
theorem dX10_told_102 : decode cX10_told 102 = .ok (.aload_n 0, 1) := by decide +kernel
theorem dX10_told_103 : decode cX10_told 103 = .ok (.getfield 7, 3) := by decide +kernel
theorem dX10_told_106 : decode cX10_told 106 = .ok (.bipush 19, 2) := by decide +kernel
theorem dX10_told_108 : decode cX10_told 108 = .ok (.iaload, 1) := by decide +kernel
theorem dX10_told_109 : decode cX10_told 109 = .ok (.ireturn, 1) := by decide +kernel
theorem dX10_told_110 : decode cX10_told 110 = .ok (.aload_n 0, 1) := by decide +kernel
theorem dX10_told_111 : decode cX10_told 111 = .ok (.getfield 7, 3) := by decide +kernel
theorem dX10_told_114 : decode cX10_told 114 = .ok (.bipush 18, 2) := by decide +kernel
theorem dX10_told_116 : decode cX10_told 116 = .ok (.iaload, 1) := by decide +kernel
theorem dX10_told_117 : decode cX10_told 117 = .ok (.ireturn, 1) := by decide +kernel
theorem dX10_told_149 : decode cX10_told 149 = .ok (.aload_n 0, 1) := by decide +kernel
theorem dX10_told_150 : decode cX10_told 150 = .ok (.iload_n 1, 1) := by decide +kernel
theorem dX10_told_151 : decode cX10_told 151 = .ok (.bipush 7, 2) := by decide +kernel
theorem dX10_told_153 : decode cX10_told 153 = .ok (.isub, 1) := by decide +kernel
theorem dX10_told_154 : decode cX10_told 154 = .ok (.invokevirtual 193, 3) := by decide +kernel
theorem wd_335 : Cond.methodLink RX10 193 yX10_bargesThat ∈ BG := BG_in (by decide +kernel) rfl
theorem wd_336 : Cond.code yX10_bargesThat cX10_bargesThat 4 (some .int) ∈ BG := BG_in (by decide +kernel) rfl
theorem wd_337 : Cond.instanceMethod yX10_bargesThat ∈ BG := BG_in (by decide +kernel) rfl
theorem wd_338 : Cond.selects RX10 yX10_bargesThat yX10_bargesThat ∈ BG := BG_in (by decide +kernel) rfl
theorem okV_X10_bargesThat : okV yX10_bargesThat cX10_bargesThat 4 (some .int) 1 := ⟨⟨wd_336, wd_295, by decide +kernel⟩, wd_337, wd_338⟩
theorem dX10_told_157 : decode cX10_told 157 = .ok (.goto 5, 3) := by decide +kernel
theorem dX10_told_118 : decode cX10_told 118 = .ok (.aload_n 0, 1) := by decide +kernel
theorem dX10_told_119 : decode cX10_told 119 = .ok (.bipush 63, 2) := by decide +kernel
theorem dX10_told_121 : decode cX10_told 121 = .ok (.invokevirtual 186, 3) := by decide +kernel
theorem wd_339 : Cond.methodLink RX10 186 yX10_griefOf ∈ BG := BG_in (by decide +kernel) rfl
theorem wd_340 : Cond.code yX10_griefOf cX10_griefOf 4 (some .int) ∈ BG := BG_in (by decide +kernel) rfl
theorem wd_341 : Cond.instanceMethod yX10_griefOf ∈ BG := BG_in (by decide +kernel) rfl
theorem wd_342 : Cond.selects RX10 yX10_griefOf yX10_griefOf ∈ BG := BG_in (by decide +kernel) rfl
theorem okV_X10_griefOf : okV yX10_griefOf cX10_griefOf 4 (some .int) 1 := ⟨⟨wd_340, wd_295, by decide +kernel⟩, wd_341, wd_342⟩
theorem dX10_told_124 : decode cX10_told 124 = .ok (.ireturn, 1) := by decide +kernel
theorem dX10_told_125 : decode cX10_told 125 = .ok (.aload_n 0, 1) := by decide +kernel
theorem dX10_told_126 : decode cX10_told 126 = .ok (.getfield 177, 3) := by decide +kernel
theorem dX10_told_129 : decode cX10_told 129 = .ok (.ireturn, 1) := by decide +kernel
theorem dX10_told_130 : decode cX10_told 130 = .ok (.aload_n 0, 1) := by decide +kernel
theorem dX10_told_131 : decode cX10_told 131 = .ok (.getfield 180, 3) := by decide +kernel
theorem dX10_told_134 : decode cX10_told 134 = .ok (.ireturn, 1) := by decide +kernel
theorem dX10_bridge_0 : decode cX10_bridge 0 = .ok (.aload_n 0, 1) := by decide +kernel
theorem dX10_bridge_1 : decode cX10_bridge 1 = .ok (.iload_n 1, 1) := by decide +kernel
theorem dX10_bridge_2 : decode cX10_bridge 2 = .ok (.invokevirtual 196, 3) := by decide +kernel
theorem wd_343 : Cond.methodLink RX10 196 yX10_isBridge ∈ BG := BG_in (by decide +kernel) rfl
theorem wd_344 : Cond.code yX10_isBridge cX10_isBridge 2 (some .boolean) ∈ BG := BG_in (by decide +kernel) rfl
theorem wd_345 : Cond.instanceMethod yX10_isBridge ∈ BG := BG_in (by decide +kernel) rfl
theorem wd_346 : Cond.selects RX10 yX10_isBridge yX10_isBridge ∈ BG := BG_in (by decide +kernel) rfl
theorem okV_X10_isBridge : okV yX10_isBridge cX10_isBridge 2 (some .boolean) 1 := ⟨⟨wd_344, wd_295, by decide +kernel⟩, wd_345, wd_346⟩
theorem dX10_bridge_5 : decode cX10_bridge 5 = .ok (.ifCond .ne 6, 3) := by decide +kernel
theorem wd_347 : Cond.constant RX10 199 (-1000000001) ∈ BG := BG_in (by decide +kernel) rfl
theorem dX10_bridge_8 : decode cX10_bridge 8 = .ok (.ldc 199, 2) := by decide +kernel
theorem dX10_bridge_10 : decode cX10_bridge 10 = .ok (.ireturn, 1) := by decide +kernel
theorem dX10_couple_0 : decode cX10_couple 0 = .ok (.aload_n 0, 1) := by decide +kernel
theorem dX10_couple_1 : decode cX10_couple 1 = .ok (.iload_n 1, 1) := by decide +kernel
theorem dX10_couple_2 : decode cX10_couple 2 = .ok (.invokevirtual 204, 3) := by decide +kernel
theorem wd_348 : Cond.methodLink RX10 204 yX10_isCouple ∈ BG := BG_in (by decide +kernel) rfl
theorem wd_349 : Cond.code yX10_isCouple cX10_isCouple 2 (some .boolean) ∈ BG := BG_in (by decide +kernel) rfl
theorem wd_350 : Cond.instanceMethod yX10_isCouple ∈ BG := BG_in (by decide +kernel) rfl
theorem wd_351 : Cond.selects RX10 yX10_isCouple yX10_isCouple ∈ BG := BG_in (by decide +kernel) rfl
theorem okV_X10_isCouple : okV yX10_isCouple cX10_isCouple 2 (some .boolean) 1 := ⟨⟨wd_349, wd_295, by decide +kernel⟩, wd_350, wd_351⟩
theorem dX10_couple_5 : decode cX10_couple 5 = .ok (.ifCond .ne 6, 3) := by decide +kernel
theorem dX10_couple_8 : decode cX10_couple 8 = .ok (.ldc 199, 2) := by decide +kernel
theorem dX10_couple_10 : decode cX10_couple 10 = .ok (.ireturn, 1) := by decide +kernel
theorem dX10_force_0 : decode cX10_force 0 = .ok (.aload_n 0, 1) := by decide +kernel
theorem dX10_force_1 : decode cX10_force 1 = .ok (.iload_n 1, 1) := by decide +kernel
theorem dX10_force_2 : decode cX10_force 2 = .ok (.invokevirtual 204, 3) := by decide +kernel
theorem dX10_force_5 : decode cX10_force 5 = .ok (.ifCond .eq 24, 3) := by decide +kernel
theorem dX10_force_29 : decode cX10_force 29 = .ok (.ldc 199, 2) := by decide +kernel
theorem dX10_force_31 : decode cX10_force 31 = .ok (.ireturn, 1) := by decide +kernel
theorem dX10_barge_0 : decode cX10_barge 0 = .ok (.aload_n 0, 1) := by decide +kernel
theorem dX10_barge_1 : decode cX10_barge 1 = .ok (.iload_n 1, 1) := by decide +kernel
theorem dX10_barge_2 : decode cX10_barge 2 = .ok (.invokevirtual 213, 3) := by decide +kernel
theorem wd_352 : Cond.methodLink RX10 213 yX10_isBarge ∈ BG := BG_in (by decide +kernel) rfl
theorem wd_353 : Cond.code yX10_isBarge cX10_isBarge 2 (some .boolean) ∈ BG := BG_in (by decide +kernel) rfl
theorem wd_354 : Cond.instanceMethod yX10_isBarge ∈ BG := BG_in (by decide +kernel) rfl
theorem wd_355 : Cond.selects RX10 yX10_isBarge yX10_isBarge ∈ BG := BG_in (by decide +kernel) rfl
theorem okV_X10_isBarge : okV yX10_isBarge cX10_isBarge 2 (some .boolean) 1 := ⟨⟨wd_353, wd_295, by decide +kernel⟩, wd_354, wd_355⟩
theorem dX10_barge_5 : decode cX10_barge 5 = .ok (.ifCond .ne 6, 3) := by decide +kernel
theorem dX10_barge_8 : decode cX10_barge 8 = .ok (.ldc 199, 2) := by decide +kernel
theorem dX10_barge_10 : decode cX10_barge 10 = .ok (.ireturn, 1) := by decide +kernel
theorem dX10_send_0 : decode cX10_send 0 = .ok (.aload_n 0, 1) := by decide +kernel
theorem dX10_send_1 : decode cX10_send 1 = .ok (.iload_n 1, 1) := by decide +kernel
theorem dX10_send_2 : decode cX10_send 2 = .ok (.invokevirtual 204, 3) := by decide +kernel
theorem dX10_send_5 : decode cX10_send 5 = .ok (.ifCond .eq 19, 3) := by decide +kernel
theorem dX10_send_24 : decode cX10_send 24 = .ok (.ldc 199, 2) := by decide +kernel
theorem dX10_send_26 : decode cX10_send 26 = .ok (.ireturn, 1) := by decide +kernel
theorem dX10_home_0 : decode cX10_home 0 = .ok (.aload_n 0, 1) := by decide +kernel
theorem dX10_home_1 : decode cX10_home 1 = .ok (.iload_n 1, 1) := by decide +kernel
theorem dX10_home_2 : decode cX10_home 2 = .ok (.invokevirtual 204, 3) := by decide +kernel
theorem dX10_home_5 : decode cX10_home 5 = .ok (.ifCond .ne 6, 3) := by decide +kernel
theorem dX10_home_8 : decode cX10_home 8 = .ok (.ldc 199, 2) := by decide +kernel
theorem dX10_home_10 : decode cX10_home 10 = .ok (.ireturn, 1) := by decide +kernel
theorem dX10_pass_0 : decode cX10_pass 0 = .ok (.aload_n 0, 1) := by decide +kernel
theorem dX10_pass_1 : decode cX10_pass 1 = .ok (.iload_n 1, 1) := by decide +kernel
theorem dX10_pass_2 : decode cX10_pass 2 = .ok (.invokevirtual 213, 3) := by decide +kernel
theorem dX10_pass_5 : decode cX10_pass 5 = .ok (.ifCond .ne 6, 3) := by decide +kernel
theorem dX10_pass_8 : decode cX10_pass 8 = .ok (.ldc 199, 2) := by decide +kernel
theorem dX10_pass_10 : decode cX10_pass 10 = .ok (.ireturn, 1) := by decide +kernel
theorem dX10_grieve_0 : decode cX10_grieve 0 = .ok (.aload_n 0, 1) := by decide +kernel
theorem dX10_grieve_1 : decode cX10_grieve 1 = .ok (.iload_n 1, 1) := by decide +kernel
theorem dX10_grieve_2 : decode cX10_grieve 2 = .ok (.invokevirtual 204, 3) := by decide +kernel
theorem dX10_grieve_5 : decode cX10_grieve 5 = .ok (.ifCond .ne 6, 3) := by decide +kernel
theorem dX10_grieve_8 : decode cX10_grieve 8 = .ok (.ldc 199, 2) := by decide +kernel
theorem dX10_grieve_10 : decode cX10_grieve 10 = .ok (.ireturn, 1) := by decide +kernel
theorem dX10_could_0 : decode cX10_could 0 = .ok (.aload_n 0, 1) := by decide +kernel
theorem dX10_could_1 : decode cX10_could 1 = .ok (.iload_n 1, 1) := by decide +kernel
theorem dX10_could_2 : decode cX10_could 2 = .ok (.invokevirtual 204, 3) := by decide +kernel
theorem dX10_could_5 : decode cX10_could 5 = .ok (.ifCond .eq 19, 3) := by decide +kernel
theorem dX10_could_24 : decode cX10_could 24 = .ok (.ldc 199, 2) := by decide +kernel
theorem dX10_could_26 : decode cX10_could 26 = .ok (.ireturn, 1) := by decide +kernel
theorem dX10_bestTheme_0 : decode cX10_bestTheme 0 = .ok (.aload_n 0, 1) := by decide +kernel
theorem dX10_bestTheme_1 : decode cX10_bestTheme 1 = .ok (.iload_n 1, 1) := by decide +kernel
theorem dX10_bestTheme_2 : decode cX10_bestTheme 2 = .ok (.invokevirtual 204, 3) := by decide +kernel
theorem dX10_bestTheme_5 : decode cX10_bestTheme 5 = .ok (.ifCond .eq 20, 3) := by decide +kernel
theorem dX10_bestTheme_25 : decode cX10_bestTheme 25 = .ok (.ldc 199, 2) := by decide +kernel
theorem dX10_bestTheme_27 : decode cX10_bestTheme 27 = .ok (.ireturn, 1) := by decide +kernel
theorem dX10_who_0 : decode cX10_who 0 = .ok (.aload_n 0, 1) := by decide +kernel
theorem dX10_who_1 : decode cX10_who 1 = .ok (.iload_n 1, 1) := by decide +kernel
theorem dX10_who_2 : decode cX10_who 2 = .ok (.invokevirtual 196, 3) := by decide +kernel
theorem dX10_who_5 : decode cX10_who 5 = .ok (.ifCond .eq 19, 3) := by decide +kernel
theorem dX10_who_24 : decode cX10_who 24 = .ok (.ldc 199, 2) := by decide +kernel
theorem dX10_who_26 : decode cX10_who 26 = .ok (.ireturn, 1) := by decide +kernel
theorem dX10_toldHer_0 : decode cX10_toldHer 0 = .ok (.aload_n 0, 1) := by decide +kernel
theorem dX10_toldHer_1 : decode cX10_toldHer 1 = .ok (.iload_n 1, 1) := by decide +kernel
theorem dX10_toldHer_2 : decode cX10_toldHer 2 = .ok (.invokevirtual 196, 3) := by decide +kernel
theorem dX10_toldHer_5 : decode cX10_toldHer 5 = .ok (.ifCond .ne 6, 3) := by decide +kernel
theorem dX10_toldHer_8 : decode cX10_toldHer 8 = .ok (.ldc 199, 2) := by decide +kernel
theorem dX10_toldHer_10 : decode cX10_toldHer 10 = .ok (.ireturn, 1) := by decide +kernel
theorem dX10_lasts_0 : decode cX10_lasts 0 = .ok (.aload_n 0, 1) := by decide +kernel
theorem dX10_lasts_1 : decode cX10_lasts 1 = .ok (.iload_n 1, 1) := by decide +kernel
theorem dX10_lasts_2 : decode cX10_lasts 2 = .ok (.invokevirtual 204, 3) := by decide +kernel
theorem dX10_lasts_5 : decode cX10_lasts 5 = .ok (.ifCond .eq 11, 3) := by decide +kernel
theorem dX10_lasts_16 : decode cX10_lasts 16 = .ok (.ldc 199, 2) := by decide +kernel
theorem dX10_lasts_18 : decode cX10_lasts 18 = .ok (.ireturn, 1) := by decide +kernel
theorem dX10_hire_0 : decode cX10_hire 0 = .ok (.aload_n 0, 1) := by decide +kernel
theorem dX10_hire_1 : decode cX10_hire 1 = .ok (.iload_n 1, 1) := by decide +kernel
theorem dX10_hire_2 : decode cX10_hire 2 = .ok (.invokevirtual 196, 3) := by decide +kernel
theorem dX10_hire_5 : decode cX10_hire 5 = .ok (.ifCond .ne 6, 3) := by decide +kernel
theorem dX10_hire_8 : decode cX10_hire 8 = .ok (.ldc 199, 2) := by decide +kernel
theorem dX10_hire_10 : decode cX10_hire 10 = .ok (.ireturn, 1) := by decide +kernel
theorem dX10_midstream_0 : decode cX10_midstream 0 = .ok (.aload_n 0, 1) := by decide +kernel
theorem dX10_midstream_1 : decode cX10_midstream 1 = .ok (.iload_n 1, 1) := by decide +kernel
theorem dX10_midstream_2 : decode cX10_midstream 2 = .ok (.invokevirtual 204, 3) := by decide +kernel
theorem dX10_midstream_5 : decode cX10_midstream 5 = .ok (.ifCond .ne 6, 3) := by decide +kernel
theorem dX10_midstream_8 : decode cX10_midstream 8 = .ok (.ldc 199, 2) := by decide +kernel
theorem dX10_midstream_10 : decode cX10_midstream 10 = .ok (.ireturn, 1) := by decide +kernel
theorem dX10_write_0 : decode cX10_write 0 = .ok (.aload_n 0, 1) := by decide +kernel
theorem dX10_write_1 : decode cX10_write 1 = .ok (.iload_n 1, 1) := by decide +kernel
theorem dX10_write_2 : decode cX10_write 2 = .ok (.invokevirtual 204, 3) := by decide +kernel
theorem dX10_write_5 : decode cX10_write 5 = .ok (.ifCond .ne 6, 3) := by decide +kernel
theorem dX10_write_8 : decode cX10_write 8 = .ok (.ldc 199, 2) := by decide +kernel
theorem dX10_write_10 : decode cX10_write 10 = .ok (.ireturn, 1) := by decide +kernel
theorem dX10_drift_0 : decode cX10_drift 0 = .ok (.iload_n 1, 1) := by decide +kernel
theorem dX10_drift_1 : decode cX10_drift 1 = .ok (.i2l, 1) := by decide +kernel
theorem dX10_drift_2 : decode cX10_drift 2 = .ok (.lconst 1, 1) := by decide +kernel
theorem wd_356 : Cond.constantLong RX10 245 (99) ∈ BG := BG_in (by decide +kernel) rfl
theorem dX10_drift_3 : decode cX10_drift 3 = .ok (.ldc2_w 245, 3) := by decide +kernel
theorem dX10_drift_6 : decode cX10_drift 6 = .ok (.invokestatic 84, 3) := by decide +kernel
theorem dX10_drift_9 : decode cX10_drift 9 = .ok (.ifCond .ne 6, 3) := by decide +kernel
theorem dX10_drift_15 : decode cX10_drift 15 = .ok (.aload_n 0, 1) := by decide +kernel
theorem dX10_drift_16 : decode cX10_drift 16 = .ok (.getfield 78, 3) := by decide +kernel
theorem dX10_drift_19 : decode cX10_drift 19 = .ok (.ifCond .ne 6, 3) := by decide +kernel
theorem wd_357 : Cond.constant RX10 233 (-1000000003) ∈ BG := BG_in (by decide +kernel) rfl
theorem dX10_drift_22 : decode cX10_drift 22 = .ok (.ldc 233, 2) := by decide +kernel
theorem dX10_drift_24 : decode cX10_drift 24 = .ok (.ireturn, 1) := by decide +kernel
theorem dX10_drift_12 : decode cX10_drift 12 = .ok (.ldc 93, 2) := by decide +kernel
theorem dX10_drift_14 : decode cX10_drift 14 = .ok (.ireturn, 1) := by decide +kernel
theorem dX10_undo_0 : decode cX10_undo 0 = .ok (.aload_n 0, 1) := by decide +kernel
theorem dX10_undo_1 : decode cX10_undo 1 = .ok (.getfield 180, 3) := by decide +kernel
theorem dX10_undo_4 : decode cX10_undo 4 = .ok (.ifCond .ne 6, 3) := by decide +kernel
theorem dX10_undo_7 : decode cX10_undo 7 = .ok (.ldc 233, 2) := by decide +kernel
theorem dX10_undo_9 : decode cX10_undo 9 = .ok (.ireturn, 1) := by decide +kernel
theorem dX10_order_0 : decode cX10_order 0 = .ok (.aload_n 0, 1) := by decide +kernel
theorem dX10_order_1 : decode cX10_order 1 = .ok (.invokevirtual 280, 3) := by decide +kernel
theorem wd_358 : Cond.methodLink RX10 280 yX10_findOrder ∈ BG := BG_in (by decide +kernel) rfl
theorem wd_359 : Cond.code yX10_findOrder cX10_findOrder 6 none ∈ BG := BG_in (by decide +kernel) rfl
theorem wd_360 : Cond.instanceMethod yX10_findOrder ∈ BG := BG_in (by decide +kernel) rfl
theorem wd_361 : Cond.selects RX10 yX10_findOrder yX10_findOrder ∈ BG := BG_in (by decide +kernel) rfl
theorem okV_X10_findOrder : okV yX10_findOrder cX10_findOrder 6 none 0 := ⟨⟨wd_359, wd_295, by decide +kernel⟩, wd_360, wd_361⟩
theorem dX10_order_4 : decode cX10_order 4 = .ok (.iload_n 1, 1) := by decide +kernel
theorem dX10_order_5 : decode cX10_order 5 = .ok (.iconst (-1), 1) := by decide +kernel
theorem dX10_order_6 : decode cX10_order 6 = .ok (.if_icmp .ne 10, 3) := by decide +kernel
theorem dX10_order_16 : decode cX10_order 16 = .ok (.iload_n 1, 1) := by decide +kernel
theorem dX10_order_17 : decode cX10_order 17 = .ok (.i2l, 1) := by decide +kernel
theorem dX10_order_18 : decode cX10_order 18 = .ok (.lconst 0, 1) := by decide +kernel
theorem dX10_order_19 : decode cX10_order 19 = .ok (.aload_n 0, 1) := by decide +kernel
theorem dX10_order_20 : decode cX10_order 20 = .ok (.getfield 274, 3) := by decide +kernel
theorem dX10_order_23 : decode cX10_order 23 = .ok (.iconst 1, 1) := by decide +kernel
theorem dX10_order_24 : decode cX10_order 24 = .ok (.isub, 1) := by decide +kernel
theorem dX10_order_25 : decode cX10_order 25 = .ok (.i2l, 1) := by decide +kernel
theorem dX10_order_26 : decode cX10_order 26 = .ok (.invokestatic 84, 3) := by decide +kernel
theorem dX10_order_29 : decode cX10_order 29 = .ok (.ifCond .eq 12, 3) := by decide +kernel
theorem dX10_order_41 : decode cX10_order 41 = .ok (.iconst (-1), 1) := by decide +kernel
theorem dX10_order_42 : decode cX10_order 42 = .ok (.ireturn, 1) := by decide +kernel
theorem dX10_order_9 : decode cX10_order 9 = .ok (.aload_n 0, 1) := by decide +kernel
theorem dX10_order_10 : decode cX10_order 10 = .ok (.getfield 277, 3) := by decide +kernel
theorem dX10_order_13 : decode cX10_order 13 = .ok (.goto 29, 3) := by decide +kernel
theorem dX10_wornOut_0 : decode cX10_wornOut 0 = .ok (.iconst (-1), 1) := by decide +kernel
theorem dX10_wornOut_1 : decode cX10_wornOut 1 = .ok (.istore_n 1, 1) := by decide +kernel
theorem wd_362 : Cond.constant RX10 270 (1000000000) ∈ BG := BG_in (by decide +kernel) rfl
theorem dX10_wornOut_2 : decode cX10_wornOut 2 = .ok (.ldc_w 270, 3) := by decide +kernel
theorem dX10_wornOut_5 : decode cX10_wornOut 5 = .ok (.istore_n 2, 1) := by decide +kernel
theorem dX10_wornOut_6 : decode cX10_wornOut 6 = .ok (.iconst 0, 1) := by decide +kernel
theorem dX10_wornOut_7 : decode cX10_wornOut 7 = .ok (.istore_n 3, 1) := by decide +kernel
theorem dX10_wornOut_8 : decode cX10_wornOut 8 = .ok (.iload_n 3, 1) := by decide +kernel
theorem dX10_wornOut_9 : decode cX10_wornOut 9 = .ok (.aload_n 0, 1) := by decide +kernel
theorem dX10_wornOut_10 : decode cX10_wornOut 10 = .ok (.getfield 78, 3) := by decide +kernel
theorem dX10_wornOut_13 : decode cX10_wornOut 13 = .ok (.if_icmp .ge 99, 3) := by decide +kernel
theorem dX10_wornOut_112 : decode cX10_wornOut 112 = .ok (.iload_n 1, 1) := by decide +kernel
theorem dX10_wornOut_113 : decode cX10_wornOut 113 = .ok (.ireturn, 1) := by decide +kernel
theorem dX10_carried_0 : decode cX10_carried 0 = .ok (.iload_n 1, 1) := by decide +kernel
theorem dX10_carried_1 : decode cX10_carried 1 = .ok (.iconst (-1), 1) := by decide +kernel
theorem dX10_carried_2 : decode cX10_carried 2 = .ok (.if_icmp .eq 14, 3) := by decide +kernel
theorem dX10_carried_16 : decode cX10_carried 16 = .ok (.aload_n 0, 1) := by decide +kernel
theorem dX10_carried_17 : decode cX10_carried 17 = .ok (.iconst 0, 1) := by decide +kernel
theorem dX10_carried_18 : decode cX10_carried 18 = .ok (.iconst 0, 1) := by decide +kernel
theorem dX10_carried_19 : decode cX10_carried 19 = .ok (.invokevirtual 200, 3) := by decide +kernel
theorem wd_363 : Cond.methodLink RX10 200 yX10_whoIsAt ∈ BG := BG_in (by decide +kernel) rfl
theorem wd_364 : Cond.code yX10_whoIsAt cX10_whoIsAt 5 (some .int) ∈ BG := BG_in (by decide +kernel) rfl
theorem wd_365 : Cond.instanceMethod yX10_whoIsAt ∈ BG := BG_in (by decide +kernel) rfl
theorem wd_366 : Cond.selects RX10 yX10_whoIsAt yX10_whoIsAt ∈ BG := BG_in (by decide +kernel) rfl
theorem okV_X10_whoIsAt : okV yX10_whoIsAt cX10_whoIsAt 5 (some .int) 2 := ⟨⟨wd_364, wd_295, by decide +kernel⟩, wd_365, wd_366⟩
theorem dX10_carried_22 : decode cX10_carried 22 = .ok (.istore_n 2, 1) := by decide +kernel
theorem dX10_carried_23 : decode cX10_carried 23 = .ok (.iload_n 2, 1) := by decide +kernel
theorem dX10_carried_24 : decode cX10_carried 24 = .ok (.iconst (-1), 1) := by decide +kernel
theorem dX10_carried_25 : decode cX10_carried 25 = .ok (.if_icmp .ne 6, 3) := by decide +kernel
theorem dX10_carried_28 : decode cX10_carried 28 = .ok (.ldc 233, 2) := by decide +kernel
theorem dX10_carried_30 : decode cX10_carried 30 = .ok (.ireturn, 1) := by decide +kernel
theorem dX10_carried_5 : decode cX10_carried 5 = .ok (.aload_n 0, 1) := by decide +kernel
theorem dX10_carried_6 : decode cX10_carried 6 = .ok (.iload_n 1, 1) := by decide +kernel
theorem dX10_carried_7 : decode cX10_carried 7 = .ok (.invokevirtual 196, 3) := by decide +kernel
theorem dX10_carried_10 : decode cX10_carried 10 = .ok (.ifCond .ne 6, 3) := by decide +kernel
theorem dX10_carried_13 : decode cX10_carried 13 = .ok (.ldc 199, 2) := by decide +kernel
theorem dX10_carried_15 : decode cX10_carried 15 = .ok (.ireturn, 1) := by decide +kernel
theorem dX10_fleet_0 : decode cX10_fleet 0 = .ok (.iload_n 1, 1) := by decide +kernel
theorem dX10_fleet_1 : decode cX10_fleet 1 = .ok (.i2l, 1) := by decide +kernel
theorem dX10_fleet_2 : decode cX10_fleet 2 = .ok (.lconst 1, 1) := by decide +kernel
theorem wd_367 : Cond.constantLong RX10 292 (9) ∈ BG := BG_in (by decide +kernel) rfl
theorem dX10_fleet_3 : decode cX10_fleet 3 = .ok (.ldc2_w 292, 3) := by decide +kernel
theorem dX10_fleet_6 : decode cX10_fleet 6 = .ok (.invokestatic 84, 3) := by decide +kernel
theorem dX10_fleet_9 : decode cX10_fleet 9 = .ok (.ifCond .ne 6, 3) := by decide +kernel
theorem dX10_fleet_15 : decode cX10_fleet 15 = .ok (.iconst 0, 1) := by decide +kernel
theorem dX10_fleet_16 : decode cX10_fleet 16 = .ok (.istore_n 2, 1) := by decide +kernel
theorem dX10_fleet_17 : decode cX10_fleet 17 = .ok (.iconst 0, 1) := by decide +kernel
theorem dX10_fleet_18 : decode cX10_fleet 18 = .ok (.istore_n 3, 1) := by decide +kernel
theorem dX10_fleet_19 : decode cX10_fleet 19 = .ok (.iload_n 3, 1) := by decide +kernel
theorem dX10_fleet_20 : decode cX10_fleet 20 = .ok (.aload_n 0, 1) := by decide +kernel
theorem dX10_fleet_21 : decode cX10_fleet 21 = .ok (.getfield 81, 3) := by decide +kernel
theorem dX10_fleet_24 : decode cX10_fleet 24 = .ok (.if_icmp .ge 20, 3) := by decide +kernel
theorem dX10_fleet_44 : decode cX10_fleet 44 = .ok (.iconst (-1), 1) := by decide +kernel
theorem dX10_fleet_45 : decode cX10_fleet 45 = .ok (.istore_n 3, 1) := by decide +kernel
theorem dX10_fleet_46 : decode cX10_fleet 46 = .ok (.iconst 0, 1) := by decide +kernel
theorem dX10_fleet_47 : decode cX10_fleet 47 = .ok (.istore 4, 2) := by decide +kernel
theorem dX10_fleet_49 : decode cX10_fleet 49 = .ok (.iload 4, 2) := by decide +kernel
theorem dX10_fleet_51 : decode cX10_fleet 51 = .ok (.iconst 1, 1) := by decide +kernel
theorem dX10_fleet_52 : decode cX10_fleet 52 = .ok (.aload_n 0, 1) := by decide +kernel
theorem dX10_fleet_53 : decode cX10_fleet 53 = .ok (.getfield 78, 3) := by decide +kernel
theorem dX10_fleet_56 : decode cX10_fleet 56 = .ok (.ishl, 1) := by decide +kernel
theorem dX10_fleet_57 : decode cX10_fleet 57 = .ok (.if_icmp .ge 68, 3) := by decide +kernel
theorem dX10_fleet_60 : decode cX10_fleet 60 = .ok (.iload 4, 2) := by decide +kernel
theorem dX10_fleet_62 : decode cX10_fleet 62 = .ok (.aload_n 0, 1) := by decide +kernel
theorem dX10_fleet_63 : decode cX10_fleet 63 = .ok (.getfield 7, 3) := by decide +kernel
theorem dX10_fleet_66 : decode cX10_fleet 66 = .ok (.bipush 18, 2) := by decide +kernel
theorem dX10_fleet_68 : decode cX10_fleet 68 = .ok (.iaload, 1) := by decide +kernel
theorem dX10_fleet_69 : decode cX10_fleet 69 = .ok (.iand, 1) := by decide +kernel
theorem dX10_fleet_70 : decode cX10_fleet 70 = .ok (.ifCond .ne 17, 3) := by decide +kernel
theorem dX10_fleet_73 : decode cX10_fleet 73 = .ok (.aload_n 0, 1) := by decide +kernel
theorem dX10_fleet_74 : decode cX10_fleet 74 = .ok (.iload 4, 2) := by decide +kernel
theorem dX10_fleet_76 : decode cX10_fleet 76 = .ok (.invokevirtual 186, 3) := by decide +kernel
theorem dX10_fleet_79 : decode cX10_fleet 79 = .ok (.iload_n 2, 1) := by decide +kernel
theorem dX10_fleet_80 : decode cX10_fleet 80 = .ok (.if_icmp .lt 7, 3) := by decide +kernel
theorem dX10_fleet_83 : decode cX10_fleet 83 = .ok (.iconst 1, 1) := by decide +kernel
theorem dX10_fleet_84 : decode cX10_fleet 84 = .ok (.goto 4, 3) := by decide +kernel
theorem dX10_fleet_88 : decode cX10_fleet 88 = .ok (.istore 5, 2) := by decide +kernel
theorem dX10_fleet_90 : decode cX10_fleet 90 = .ok (.iload 5, 2) := by decide +kernel
theorem dX10_fleet_92 : decode cX10_fleet 92 = .ok (.ifCond .eq 25, 3) := by decide +kernel
theorem dX10_fleet_95 : decode cX10_fleet 95 = .ok (.iload_n 3, 1) := by decide +kernel
theorem dX10_fleet_96 : decode cX10_fleet 96 = .ok (.iconst (-1), 1) := by decide +kernel
theorem dX10_fleet_97 : decode cX10_fleet 97 = .ok (.if_icmp .eq 15, 3) := by decide +kernel
theorem dX10_fleet_112 : decode cX10_fleet 112 = .ok (.iload 4, 2) := by decide +kernel
theorem dX10_fleet_114 : decode cX10_fleet 114 = .ok (.goto 4, 3) := by decide +kernel
theorem dX10_fleet_118 : decode cX10_fleet 118 = .ok (.istore_n 3, 1) := by decide +kernel
theorem dX10_fleet_119 : decode cX10_fleet 119 = .ok (.iinc 4 1, 3) := by decide +kernel
theorem dX10_fleet_122 : decode cX10_fleet 122 = .ok (.goto (-73), 3) := by decide +kernel
theorem dX10_fleet_125 : decode cX10_fleet 125 = .ok (.iload_n 3, 1) := by decide +kernel
theorem dX10_fleet_126 : decode cX10_fleet 126 = .ok (.ireturn, 1) := by decide +kernel
theorem dX10_fleet_12 : decode cX10_fleet 12 = .ok (.ldc 93, 2) := by decide +kernel
theorem dX10_fleet_14 : decode cX10_fleet 14 = .ok (.ireturn, 1) := by decide +kernel
theorem dX10_tear_0 : decode cX10_tear 0 = .ok (.aload_n 0, 1) := by decide +kernel
theorem dX10_tear_1 : decode cX10_tear 1 = .ok (.getfield 177, 3) := by decide +kernel
theorem dX10_tear_4 : decode cX10_tear 4 = .ok (.istore_n 1, 1) := by decide +kernel
theorem dX10_tear_5 : decode cX10_tear 5 = .ok (.aload_n 0, 1) := by decide +kernel
theorem dX10_tear_6 : decode cX10_tear 6 = .ok (.iconst 0, 1) := by decide +kernel
theorem dX10_tear_7 : decode cX10_tear 7 = .ok (.putfield 177, 3) := by decide +kernel
theorem dX10_tear_10 : decode cX10_tear 10 = .ok (.iload_n 1, 1) := by decide +kernel
theorem dX10_tear_11 : decode cX10_tear 11 = .ok (.ireturn, 1) := by decide +kernel
theorem dX10_judge_0 : decode cX10_judge 0 = .ok (.iconst 0, 1) := by decide +kernel
theorem dX10_judge_1 : decode cX10_judge 1 = .ok (.istore_n 1, 1) := by decide +kernel
theorem dX10_judge_2 : decode cX10_judge 2 = .ok (.iload_n 1, 1) := by decide +kernel
theorem dX10_judge_3 : decode cX10_judge 3 = .ok (.aload_n 0, 1) := by decide +kernel
theorem dX10_judge_4 : decode cX10_judge 4 = .ok (.getfield 177, 3) := by decide +kernel
theorem dX10_judge_7 : decode cX10_judge 7 = .ok (.if_icmp .ge 33, 3) := by decide +kernel
theorem dX10_judge_40 : decode cX10_judge 40 = .ok (.iconst (-1), 1) := by decide +kernel
theorem dX10_judge_41 : decode cX10_judge 41 = .ok (.ireturn, 1) := by decide +kernel
theorem dX10_seed_0 : decode cX10_seed 0 = .ok (.iload_n 1, 1) := by decide +kernel
theorem dX10_seed_1 : decode cX10_seed 1 = .ok (.ifCond .ge 6, 3) := by decide +kernel
theorem dX10_seed_7 : decode cX10_seed 7 = .ok (.aload_n 0, 1) := by decide +kernel
theorem dX10_seed_8 : decode cX10_seed 8 = .ok (.getfield 7, 3) := by decide +kernel
theorem dX10_seed_11 : decode cX10_seed 11 = .ok (.bipush 41, 2) := by decide +kernel
theorem dX10_seed_13 : decode cX10_seed 13 = .ok (.iaload, 1) := by decide +kernel
theorem dX10_seed_14 : decode cX10_seed 14 = .ok (.istore_n 2, 1) := by decide +kernel
theorem dX10_seed_15 : decode cX10_seed 15 = .ok (.aload_n 0, 1) := by decide +kernel
theorem dX10_seed_16 : decode cX10_seed 16 = .ok (.getfield 7, 3) := by decide +kernel
theorem dX10_seed_19 : decode cX10_seed 19 = .ok (.bipush 41, 2) := by decide +kernel
theorem dX10_seed_21 : decode cX10_seed 21 = .ok (.iload_n 1, 1) := by decide +kernel
theorem dX10_seed_22 : decode cX10_seed 22 = .ok (.iastore, 1) := by decide +kernel
theorem dX10_seed_23 : decode cX10_seed 23 = .ok (.iload_n 2, 1) := by decide +kernel
theorem dX10_seed_24 : decode cX10_seed 24 = .ok (.ireturn, 1) := by decide +kernel
theorem dX10_seed_4 : decode cX10_seed 4 = .ok (.ldc 93, 2) := by decide +kernel
theorem dX10_seed_6 : decode cX10_seed 6 = .ok (.ireturn, 1) := by decide +kernel
theorem dX10_keep_0 : decode cX10_keep 0 = .ok (.iload_n 1, 1) := by decide +kernel
theorem dX10_keep_1 : decode cX10_keep 1 = .ok (.i2l, 1) := by decide +kernel
theorem dX10_keep_2 : decode cX10_keep 2 = .ok (.lconst 0, 1) := by decide +kernel
theorem dX10_keep_3 : decode cX10_keep 3 = .ok (.lconst 1, 1) := by decide +kernel
theorem dX10_keep_4 : decode cX10_keep 4 = .ok (.invokestatic 84, 3) := by decide +kernel
theorem dX10_keep_7 : decode cX10_keep 7 = .ok (.ifCond .ne 6, 3) := by decide +kernel
theorem dX10_keep_13 : decode cX10_keep 13 = .ok (.aload_n 0, 1) := by decide +kernel
theorem dX10_keep_14 : decode cX10_keep 14 = .ok (.iconst 0, 1) := by decide +kernel
theorem dX10_keep_15 : decode cX10_keep 15 = .ok (.sipush 378, 3) := by decide +kernel
theorem dX10_keep_18 : decode cX10_keep 18 = .ok (.bipush 42, 2) := by decide +kernel
theorem dX10_keep_20 : decode cX10_keep 20 = .ok (.iload_n 1, 1) := by decide +kernel
theorem dX10_keep_21 : decode cX10_keep 21 = .ok (.imul, 1) := by decide +kernel
theorem dX10_keep_22 : decode cX10_keep 22 = .ok (.iadd, 1) := by decide +kernel
theorem dX10_keep_23 : decode cX10_keep 23 = .ok (.invokevirtual 229, 3) := by decide +kernel
theorem dX10_keep_26 : decode cX10_keep 26 = .ok (.aload_n 0, 1) := by decide +kernel
theorem dX10_keep_27 : decode cX10_keep 27 = .ok (.getfield 13, 3) := by decide +kernel
theorem dX10_keep_30 : decode cX10_keep 30 = .ok (.iload_n 1, 1) := by decide +kernel
theorem dX10_keep_31 : decode cX10_keep 31 = .ok (.iconst 1, 1) := by decide +kernel
theorem dX10_keep_32 : decode cX10_keep 32 = .ok (.bastore, 1) := by decide +kernel
theorem dX10_keep_33 : decode cX10_keep 33 = .ok (.aload_n 0, 1) := by decide +kernel
theorem dX10_keep_34 : decode cX10_keep 34 = .ok (.iconst 0, 1) := by decide +kernel
theorem dX10_keep_35 : decode cX10_keep 35 = .ok (.putfield 180, 3) := by decide +kernel
theorem dX10_keep_38 : decode cX10_keep 38 = .ok (.iconst 1, 1) := by decide +kernel
theorem dX10_keep_39 : decode cX10_keep 39 = .ok (.ireturn, 1) := by decide +kernel
theorem dX10_keep_10 : decode cX10_keep 10 = .ok (.ldc 199, 2) := by decide +kernel
theorem dX10_keep_12 : decode cX10_keep 12 = .ok (.ireturn, 1) := by decide +kernel
theorem dX10_goBack_0 : decode cX10_goBack 0 = .ok (.iload_n 1, 1) := by decide +kernel
theorem dX10_goBack_1 : decode cX10_goBack 1 = .ok (.i2l, 1) := by decide +kernel
theorem dX10_goBack_2 : decode cX10_goBack 2 = .ok (.lconst 0, 1) := by decide +kernel
theorem dX10_goBack_3 : decode cX10_goBack 3 = .ok (.lconst 1, 1) := by decide +kernel
theorem dX10_goBack_4 : decode cX10_goBack 4 = .ok (.invokestatic 84, 3) := by decide +kernel
theorem dX10_goBack_7 : decode cX10_goBack 7 = .ok (.ifCond .ne 6, 3) := by decide +kernel
theorem dX10_goBack_13 : decode cX10_goBack 13 = .ok (.aload_n 0, 1) := by decide +kernel
theorem dX10_goBack_14 : decode cX10_goBack 14 = .ok (.getfield 13, 3) := by decide +kernel
theorem dX10_goBack_17 : decode cX10_goBack 17 = .ok (.iload_n 1, 1) := by decide +kernel
theorem dX10_goBack_18 : decode cX10_goBack 18 = .ok (.baload, 1) := by decide +kernel
theorem dX10_goBack_19 : decode cX10_goBack 19 = .ok (.ifCond .ne 6, 3) := by decide +kernel
theorem dX10_goBack_22 : decode cX10_goBack 22 = .ok (.ldc 233, 2) := by decide +kernel
theorem dX10_goBack_24 : decode cX10_goBack 24 = .ok (.ireturn, 1) := by decide +kernel
theorem dX10_goBack_10 : decode cX10_goBack 10 = .ok (.ldc 199, 2) := by decide +kernel
theorem dX10_goBack_12 : decode cX10_goBack 12 = .ok (.ireturn, 1) := by decide +kernel
def rm_k_isBridge : Room := { frames := 1, cells := 0, slots := 0, locals := 25 }
set_option maxHeartbeats 4000000 in
set_option maxRecDepth 100000 in
theorem k_isBridge {l : Launch} {D : va_G} {cI cZ : ClassId} {sz : Nat} (yh yq1 yq2 yq3 yq4 yq5 yq6 yq7 yq8 yq9 yq10 yq11 yq12 yq13 yq14 yq15 yq16 yq17 yq18 yq19 : Nat) (v : Int32) : KI l yX10_isBridge cX10_isBridge 2 (some .boolean) rm_k_isBridge D cI cZ [.ref yh, .int v] sz [(yh, .inr (10, [.ref yq1, .ref yq2, .int 0, .int 0, .int 1, .int 0, .int 0, .int 0, .ref yq3, .ref yq4, .ref yq5, .ref yq6, .ref yq7, .ref yq8, .int 0, .int 0, .int 0, .int 0, .int 0, .int (-1), .int 0, .int 0, .int 0, .int 0, .int 0, .int 0, .int 0, .ref yq9, .ref yq10, .ref yq11, .ref yq12, .ref yq13, .int 0, .int 0, .int 0, .int 0, .ref yq14, .ref yq15, .ref yq16, .ref yq17, .int 0, .int 0, .int 0, .ref yq18, .ref yq19]))] (fun (r : Int32) (_ : Unit) => r = 0) (fun (_ : Unit) => [(yh, .inr (10, [.ref yq1, .ref yq2, .int 0, .int 0, .int 1, .int 0, .int 0, .int 0, .ref yq3, .ref yq4, .ref yq5, .ref yq6, .ref yq7, .ref yq8, .int 0, .int 0, .int 0, .int 0, .int 0, .int (-1), .int 0, .int 0, .int 0, .int 0, .int 0, .int 0, .int 0, .ref yq9, .ref yq10, .ref yq11, .ref yq12, .ref yq13, .int 0, .int 0, .int 0, .int 0, .ref yq14, .ref yq15, .ref yq16, .ref yq17, .int 0, .int 0, .int 0, .ref yq18, .ref yq19]))]) := by
  refine KI.go rfl (Nat.le_of_ble_eq_true rfl) ?_
  intro p e s m args below meth c ls A Q hx hb hml hts hown hin hP hK hD hS hA hN hl hret
  have hl : lv_has ls 2 [(0, .ref yh), (1, .int v)] := hl
  refine lv_iload_n hx hb dX10_isBridge_0 rfl (lv_at hl 1 rfl) ?_
  refine lv_i2l (v := v.toInt64) hx hb dX10_isBridge_1 rfl ?_
  refine lv_lconst (v := 0) hx hb dX10_isBridge_2 (by decide) ?_
  refine lv_aload_n hx hb dX10_isBridge_3 rfl (lv_at hl 0 rfl) ?_
  refine va_get (D := D) (ci := 10) (v := .int 0) (C := RX10) (T := TX10) (N := 45) hx hb hts iX10 hown hK hP 0 rfl rfl 3 (by decide) (hts _ wd_298) (fun _ h9 => h9) rfl dX10_isBridge_4 ?_
  refine lv_iconst (v := 1) hx hb dX10_isBridge_7 (by decide) ?_
  refine lv_isub hx hb dX10_isBridge_8 ?_
  refine lv_topi (fun z_1 ez_1 => ?_)
  obtain rfl : z_1 = (-1) := ez_1.trans (by decide +kernel)
  refine lv_i2l (v := (-1)) hx hb dX10_isBridge_9 (by decide +kernel) ?_
  refine cSi (wr := [(yh, .inr (10, [.ref yq1, .ref yq2, .int 0, .int 0, .int 1, .int 0, .int 0, .int 0, .ref yq3, .ref yq4, .ref yq5, .ref yq6, .ref yq7, .ref yq8, .int 0, .int 0, .int 0, .int 0, .int 0, .int (-1), .int 0, .int 0, .int 0, .int 0, .int 0, .int 0, .int 0, .ref yq9, .ref yq10, .ref yq11, .ref yq12, .ref yq13, .int 0, .int 0, .int 0, .int 0, .ref yq14, .ref yq15, .ref yq16, .ref yq17, .int 0, .int 0, .int 0, .ref yq18, .ref yq19]))]) (rest := []) (k_in v.toInt64 0 (-1)) okS_X10_in wd_299 hx hb hml hown hts hK hP hD hS hA hN hl.1 [] [0] rfl rfl rfl rfl (by decide) rfl (Nat.le_of_ble_eq_true rfl) (Nat.le_of_ble_eq_true rfl) (Nat.le_of_ble_eq_true rfl) (Nat.le_of_ble_eq_true rfl) (Nat.le_of_ble_eq_true rfl) dX10_isBridge_10 (fun r_3 u_2 H locs hw_u_2 hP hD hS => ?_)
  obtain rfl := hw_u_2
  have hP : va_P D classes [(yh, .inr (10, [.ref yq1, .ref yq2, .int 0, .int 0, .int 1, .int 0, .int 0, .int 0, .ref yq3, .ref yq4, .ref yq5, .ref yq6, .ref yq7, .ref yq8, .int 0, .int 0, .int 0, .int 0, .int 0, .int (-1), .int 0, .int 0, .int 0, .int 0, .int 0, .int 0, .int 0, .ref yq9, .ref yq10, .ref yq11, .ref yq12, .ref yq13, .int 0, .int 0, .int 0, .int 0, .ref yq14, .ref yq15, .ref yq16, .ref yq17, .int 0, .int 0, .int 0, .ref yq18, .ref yq19]))] H := hP
  have hD : va_D A [(yh, .inr (10, [.ref yq1, .ref yq2, .int 0, .int 0, .int 1, .int 0, .int 0, .int 0, .ref yq3, .ref yq4, .ref yq5, .ref yq6, .ref yq7, .ref yq8, .int 0, .int 0, .int 0, .int 0, .int 0, .int (-1), .int 0, .int 0, .int 0, .int 0, .int 0, .int 0, .int 0, .ref yq9, .ref yq10, .ref yq11, .ref yq12, .ref yq13, .int 0, .int 0, .int 0, .int 0, .ref yq14, .ref yq15, .ref yq16, .ref yq17, .int 0, .int 0, .int 0, .ref yq18, .ref yq19]))] := hD
  refine lv_topi (fun z_4 ez_4 => ?_)
  obtain rfl : z_4 = 0 := ez_4.trans (inF_m1 _)
  exact hret 0 () _ _ _ _ dX10_isBridge_13 rfl rfl hP hD hS
def rm_k_isCouple : Room := { frames := 1, cells := 0, slots := 0, locals := 25 }
set_option maxHeartbeats 4000000 in
set_option maxRecDepth 100000 in
theorem k_isCouple {l : Launch} {D : va_G} {cI cZ : ClassId} {sz : Nat} (yh yq1 yq2 yq3 yq4 yq5 yq6 yq7 yq8 yq9 yq10 yq11 yq12 yq13 yq14 yq15 yq16 yq17 yq18 yq19 : Nat) (v : Int32) : KI l yX10_isCouple cX10_isCouple 2 (some .boolean) rm_k_isCouple D cI cZ [.ref yh, .int v] sz [(yh, .inr (10, [.ref yq1, .ref yq2, .int 0, .int 0, .int 1, .int 0, .int 0, .int 0, .ref yq3, .ref yq4, .ref yq5, .ref yq6, .ref yq7, .ref yq8, .int 0, .int 0, .int 0, .int 0, .int 0, .int (-1), .int 0, .int 0, .int 0, .int 0, .int 0, .int 0, .int 0, .ref yq9, .ref yq10, .ref yq11, .ref yq12, .ref yq13, .int 0, .int 0, .int 0, .int 0, .ref yq14, .ref yq15, .ref yq16, .ref yq17, .int 0, .int 0, .int 0, .ref yq18, .ref yq19]))] (fun (r : Int32) (_ : Unit) => r = 0) (fun (_ : Unit) => [(yh, .inr (10, [.ref yq1, .ref yq2, .int 0, .int 0, .int 1, .int 0, .int 0, .int 0, .ref yq3, .ref yq4, .ref yq5, .ref yq6, .ref yq7, .ref yq8, .int 0, .int 0, .int 0, .int 0, .int 0, .int (-1), .int 0, .int 0, .int 0, .int 0, .int 0, .int 0, .int 0, .ref yq9, .ref yq10, .ref yq11, .ref yq12, .ref yq13, .int 0, .int 0, .int 0, .int 0, .ref yq14, .ref yq15, .ref yq16, .ref yq17, .int 0, .int 0, .int 0, .ref yq18, .ref yq19]))]) := by
  refine KI.go rfl (Nat.le_of_ble_eq_true rfl) ?_
  intro p e s m args below meth c ls A Q hx hb hml hts hown hin hP hK hD hS hA hN hl hret
  have hl : lv_has ls 2 [(0, .ref yh), (1, .int v)] := hl
  refine lv_iload_n hx hb dX10_isCouple_0 rfl (lv_at hl 1 rfl) ?_
  refine lv_i2l (v := v.toInt64) hx hb dX10_isCouple_1 rfl ?_
  refine lv_lconst (v := 0) hx hb dX10_isCouple_2 (by decide) ?_
  refine lv_aload_n hx hb dX10_isCouple_3 rfl (lv_at hl 0 rfl) ?_
  refine va_get (D := D) (ci := 10) (v := .int 0) (C := RX10) (T := TX10) (N := 45) hx hb hts iX10 hown hK hP 0 rfl rfl 5 (by decide) (hts _ wd_270) (fun _ h9 => h9) rfl dX10_isCouple_4 ?_
  refine lv_iconst (v := 1) hx hb dX10_isCouple_7 (by decide) ?_
  refine lv_isub hx hb dX10_isCouple_8 ?_
  refine lv_topi (fun z_1 ez_1 => ?_)
  obtain rfl : z_1 = (-1) := ez_1.trans (by decide +kernel)
  refine lv_i2l (v := (-1)) hx hb dX10_isCouple_9 (by decide +kernel) ?_
  refine cSi (wr := [(yh, .inr (10, [.ref yq1, .ref yq2, .int 0, .int 0, .int 1, .int 0, .int 0, .int 0, .ref yq3, .ref yq4, .ref yq5, .ref yq6, .ref yq7, .ref yq8, .int 0, .int 0, .int 0, .int 0, .int 0, .int (-1), .int 0, .int 0, .int 0, .int 0, .int 0, .int 0, .int 0, .ref yq9, .ref yq10, .ref yq11, .ref yq12, .ref yq13, .int 0, .int 0, .int 0, .int 0, .ref yq14, .ref yq15, .ref yq16, .ref yq17, .int 0, .int 0, .int 0, .ref yq18, .ref yq19]))]) (rest := []) (k_in v.toInt64 0 (-1)) okS_X10_in wd_299 hx hb hml hown hts hK hP hD hS hA hN hl.1 [] [0] rfl rfl rfl rfl (by decide) rfl (Nat.le_of_ble_eq_true rfl) (Nat.le_of_ble_eq_true rfl) (Nat.le_of_ble_eq_true rfl) (Nat.le_of_ble_eq_true rfl) (Nat.le_of_ble_eq_true rfl) dX10_isCouple_10 (fun r_3 u_2 H locs hw_u_2 hP hD hS => ?_)
  obtain rfl := hw_u_2
  have hP : va_P D classes [(yh, .inr (10, [.ref yq1, .ref yq2, .int 0, .int 0, .int 1, .int 0, .int 0, .int 0, .ref yq3, .ref yq4, .ref yq5, .ref yq6, .ref yq7, .ref yq8, .int 0, .int 0, .int 0, .int 0, .int 0, .int (-1), .int 0, .int 0, .int 0, .int 0, .int 0, .int 0, .int 0, .ref yq9, .ref yq10, .ref yq11, .ref yq12, .ref yq13, .int 0, .int 0, .int 0, .int 0, .ref yq14, .ref yq15, .ref yq16, .ref yq17, .int 0, .int 0, .int 0, .ref yq18, .ref yq19]))] H := hP
  have hD : va_D A [(yh, .inr (10, [.ref yq1, .ref yq2, .int 0, .int 0, .int 1, .int 0, .int 0, .int 0, .ref yq3, .ref yq4, .ref yq5, .ref yq6, .ref yq7, .ref yq8, .int 0, .int 0, .int 0, .int 0, .int 0, .int (-1), .int 0, .int 0, .int 0, .int 0, .int 0, .int 0, .int 0, .ref yq9, .ref yq10, .ref yq11, .ref yq12, .ref yq13, .int 0, .int 0, .int 0, .int 0, .ref yq14, .ref yq15, .ref yq16, .ref yq17, .int 0, .int 0, .int 0, .ref yq18, .ref yq19]))] := hD
  refine lv_topi (fun z_4 ez_4 => ?_)
  obtain rfl : z_4 = 0 := ez_4.trans (inF_m1 _)
  exact hret 0 () _ _ _ _ dX10_isCouple_13 rfl rfl hP hD hS
def rm_k_isBarge : Room := { frames := 1, cells := 0, slots := 0, locals := 25 }
set_option maxHeartbeats 4000000 in
set_option maxRecDepth 100000 in
theorem k_isBarge {l : Launch} {D : va_G} {cI cZ : ClassId} {sz : Nat} (yh yq1 yq2 yq3 yq4 yq5 yq6 yq7 yq8 yq9 yq10 yq11 yq12 yq13 yq14 yq15 yq16 yq17 yq18 yq19 : Nat) (v : Int32) : KI l yX10_isBarge cX10_isBarge 2 (some .boolean) rm_k_isBarge D cI cZ [.ref yh, .int v] sz [(yh, .inr (10, [.ref yq1, .ref yq2, .int 0, .int 0, .int 1, .int 0, .int 0, .int 0, .ref yq3, .ref yq4, .ref yq5, .ref yq6, .ref yq7, .ref yq8, .int 0, .int 0, .int 0, .int 0, .int 0, .int (-1), .int 0, .int 0, .int 0, .int 0, .int 0, .int 0, .int 0, .ref yq9, .ref yq10, .ref yq11, .ref yq12, .ref yq13, .int 0, .int 0, .int 0, .int 0, .ref yq14, .ref yq15, .ref yq16, .ref yq17, .int 0, .int 0, .int 0, .ref yq18, .ref yq19]))] (fun (r : Int32) (_ : Unit) => r = 0) (fun (_ : Unit) => [(yh, .inr (10, [.ref yq1, .ref yq2, .int 0, .int 0, .int 1, .int 0, .int 0, .int 0, .ref yq3, .ref yq4, .ref yq5, .ref yq6, .ref yq7, .ref yq8, .int 0, .int 0, .int 0, .int 0, .int 0, .int (-1), .int 0, .int 0, .int 0, .int 0, .int 0, .int 0, .int 0, .ref yq9, .ref yq10, .ref yq11, .ref yq12, .ref yq13, .int 0, .int 0, .int 0, .int 0, .ref yq14, .ref yq15, .ref yq16, .ref yq17, .int 0, .int 0, .int 0, .ref yq18, .ref yq19]))]) := by
  refine KI.go rfl (Nat.le_of_ble_eq_true rfl) ?_
  intro p e s m args below meth c ls A Q hx hb hml hts hown hin hP hK hD hS hA hN hl hret
  have hl : lv_has ls 2 [(0, .ref yh), (1, .int v)] := hl
  refine lv_iload_n hx hb dX10_isBarge_0 rfl (lv_at hl 1 rfl) ?_
  refine lv_i2l (v := v.toInt64) hx hb dX10_isBarge_1 rfl ?_
  refine lv_lconst (v := 0) hx hb dX10_isBarge_2 (by decide) ?_
  refine lv_aload_n hx hb dX10_isBarge_3 rfl (lv_at hl 0 rfl) ?_
  refine va_get (D := D) (ci := 10) (v := .int 0) (C := RX10) (T := TX10) (N := 45) hx hb hts iX10 hown hK hP 0 rfl rfl 6 (by decide) (hts _ wd_302) (fun _ h9 => h9) rfl dX10_isBarge_4 ?_
  refine lv_iconst (v := 1) hx hb dX10_isBarge_7 (by decide) ?_
  refine lv_isub hx hb dX10_isBarge_8 ?_
  refine lv_topi (fun z_1 ez_1 => ?_)
  obtain rfl : z_1 = (-1) := ez_1.trans (by decide +kernel)
  refine lv_i2l (v := (-1)) hx hb dX10_isBarge_9 (by decide +kernel) ?_
  refine cSi (wr := [(yh, .inr (10, [.ref yq1, .ref yq2, .int 0, .int 0, .int 1, .int 0, .int 0, .int 0, .ref yq3, .ref yq4, .ref yq5, .ref yq6, .ref yq7, .ref yq8, .int 0, .int 0, .int 0, .int 0, .int 0, .int (-1), .int 0, .int 0, .int 0, .int 0, .int 0, .int 0, .int 0, .ref yq9, .ref yq10, .ref yq11, .ref yq12, .ref yq13, .int 0, .int 0, .int 0, .int 0, .ref yq14, .ref yq15, .ref yq16, .ref yq17, .int 0, .int 0, .int 0, .ref yq18, .ref yq19]))]) (rest := []) (k_in v.toInt64 0 (-1)) okS_X10_in wd_299 hx hb hml hown hts hK hP hD hS hA hN hl.1 [] [0] rfl rfl rfl rfl (by decide) rfl (Nat.le_of_ble_eq_true rfl) (Nat.le_of_ble_eq_true rfl) (Nat.le_of_ble_eq_true rfl) (Nat.le_of_ble_eq_true rfl) (Nat.le_of_ble_eq_true rfl) dX10_isBarge_10 (fun r_3 u_2 H locs hw_u_2 hP hD hS => ?_)
  obtain rfl := hw_u_2
  have hP : va_P D classes [(yh, .inr (10, [.ref yq1, .ref yq2, .int 0, .int 0, .int 1, .int 0, .int 0, .int 0, .ref yq3, .ref yq4, .ref yq5, .ref yq6, .ref yq7, .ref yq8, .int 0, .int 0, .int 0, .int 0, .int 0, .int (-1), .int 0, .int 0, .int 0, .int 0, .int 0, .int 0, .int 0, .ref yq9, .ref yq10, .ref yq11, .ref yq12, .ref yq13, .int 0, .int 0, .int 0, .int 0, .ref yq14, .ref yq15, .ref yq16, .ref yq17, .int 0, .int 0, .int 0, .ref yq18, .ref yq19]))] H := hP
  have hD : va_D A [(yh, .inr (10, [.ref yq1, .ref yq2, .int 0, .int 0, .int 1, .int 0, .int 0, .int 0, .ref yq3, .ref yq4, .ref yq5, .ref yq6, .ref yq7, .ref yq8, .int 0, .int 0, .int 0, .int 0, .int 0, .int (-1), .int 0, .int 0, .int 0, .int 0, .int 0, .int 0, .int 0, .ref yq9, .ref yq10, .ref yq11, .ref yq12, .ref yq13, .int 0, .int 0, .int 0, .int 0, .ref yq14, .ref yq15, .ref yq16, .ref yq17, .int 0, .int 0, .int 0, .ref yq18, .ref yq19]))] := hD
  refine lv_topi (fun z_4 ez_4 => ?_)
  obtain rfl : z_4 = 0 := ez_4.trans (inF_m1 _)
  exact hret 0 () _ _ _ _ dX10_isBarge_13 rfl rfl hP hD hS
def rm_k_letterAt : Room := { frames := 0, cells := 0, slots := 0, locals := 0 }
set_option maxHeartbeats 4000000 in
set_option maxRecDepth 100000 in
theorem k_letterAt {l : Launch} {D : va_G} {cI cZ : ClassId} {sz : Nat} (yh yq1 yq2 yq3 yq4 yq5 yq6 yq7 yq8 yq9 yq10 yq11 yq12 yq13 yq14 yq15 yq16 yq17 yq18 yq19 : Nat) : KI l yX10_letterAt cX10_letterAt 2 (some .int) rm_k_letterAt D cI cZ [.ref yh, .int 0] sz [(yh, .inr (10, [.ref yq1, .ref yq2, .int 0, .int 0, .int 1, .int 0, .int 0, .int 0, .ref yq3, .ref yq4, .ref yq5, .ref yq6, .ref yq7, .ref yq8, .int 0, .int 0, .int 0, .int 0, .int 0, .int (-1), .int 0, .int 0, .int 0, .int 0, .int 0, .int 0, .int 0, .ref yq9, .ref yq10, .ref yq11, .ref yq12, .ref yq13, .int 0, .int 0, .int 0, .int 0, .ref yq14, .ref yq15, .ref yq16, .ref yq17, .int 0, .int 0, .int 0, .ref yq18, .ref yq19]))] (fun (r : Int32) (_ : Unit) => r = (-1)) (fun (_ : Unit) => [(yh, .inr (10, [.ref yq1, .ref yq2, .int 0, .int 0, .int 1, .int 0, .int 0, .int 0, .ref yq3, .ref yq4, .ref yq5, .ref yq6, .ref yq7, .ref yq8, .int 0, .int 0, .int 0, .int 0, .int 0, .int (-1), .int 0, .int 0, .int 0, .int 0, .int 0, .int 0, .int 0, .ref yq9, .ref yq10, .ref yq11, .ref yq12, .ref yq13, .int 0, .int 0, .int 0, .int 0, .ref yq14, .ref yq15, .ref yq16, .ref yq17, .int 0, .int 0, .int 0, .ref yq18, .ref yq19]))]) := by
  refine KI.go rfl (Nat.le_of_ble_eq_true rfl) ?_
  intro p e s m args below meth c ls A Q hx hb hml hts hown hin hP hK hD hS hA hN hl hret
  have hl : lv_has ls 2 [(0, .ref yh), (1, .int 0)] := hl
  refine lv_iload_n hx hb dX10_letterAt_0 rfl (lv_at hl 1 rfl) ?_
  refine lv_aload_n hx hb dX10_letterAt_1 rfl (lv_at hl 0 rfl) ?_
  refine va_get (D := D) (ci := 10) (v := .int 0) (C := RX10) (T := TX10) (N := 45) hx hb hts iX10 hown hK hP 0 rfl rfl 14 (by decide) (hts _ wd_303) (fun _ h9 => h9) rfl dX10_letterAt_2 ?_
  refine lv_icmp_ge (tgt := 17) hx hb dX10_letterAt_5 (by decide) (fun c_1 => ?_) (fun c_1 => absurd (by decide +kernel) c_1)
  refine lv_iconst (v := (-1)) hx hb dX10_letterAt_17 (by decide) ?_
  exact hret (-1) () _ _ _ _ dX10_letterAt_18 rfl rfl hP hD hS
def rm_k_letterAtT : Room := { frames := 0, cells := 0, slots := 0, locals := 0 }
set_option maxHeartbeats 4000000 in
set_option maxRecDepth 100000 in
theorem k_letterAtT {l : Launch} {D : va_G} {cI cZ : ClassId} {sz : Nat} (yh yq1 yq2 yq3 yq4 yq5 yq6 yq7 yq8 yq9 yq10 yq11 yq12 yq13 yq14 yq15 yq16 yq17 yq18 yq19 : Nat) : KI l yX10_letterAt cX10_letterAt 2 (some .int) rm_k_letterAtT D cI cZ [.ref yh, .int 0] sz [(yh, .inr (10, [.ref yq1, .ref yq2, .int 0, .int 0, .int 1, .int 0, .int 0, .int 0, .ref yq3, .ref yq4, .ref yq5, .ref yq6, .ref yq7, .ref yq8, .int 0, .int 0, .int 0, .int 0, .int 0, .int (-1), .int 0, .int 1, .int 0, .int 0, .int 0, .int 0, .int 0, .ref yq9, .ref yq10, .ref yq11, .ref yq12, .ref yq13, .int 0, .int 0, .int 0, .int 0, .ref yq14, .ref yq15, .ref yq16, .ref yq17, .int 0, .int 0, .int 0, .ref yq18, .ref yq19]))] (fun (r : Int32) (_ : Unit) => r = (-1)) (fun (_ : Unit) => [(yh, .inr (10, [.ref yq1, .ref yq2, .int 0, .int 0, .int 1, .int 0, .int 0, .int 0, .ref yq3, .ref yq4, .ref yq5, .ref yq6, .ref yq7, .ref yq8, .int 0, .int 0, .int 0, .int 0, .int 0, .int (-1), .int 0, .int 1, .int 0, .int 0, .int 0, .int 0, .int 0, .ref yq9, .ref yq10, .ref yq11, .ref yq12, .ref yq13, .int 0, .int 0, .int 0, .int 0, .ref yq14, .ref yq15, .ref yq16, .ref yq17, .int 0, .int 0, .int 0, .ref yq18, .ref yq19]))]) := by
  refine KI.go rfl (Nat.le_of_ble_eq_true rfl) ?_
  intro p e s m args below meth c ls A Q hx hb hml hts hown hin hP hK hD hS hA hN hl hret
  have hl : lv_has ls 2 [(0, .ref yh), (1, .int 0)] := hl
  refine lv_iload_n hx hb dX10_letterAt_0 rfl (lv_at hl 1 rfl) ?_
  refine lv_aload_n hx hb dX10_letterAt_1 rfl (lv_at hl 0 rfl) ?_
  refine va_get (D := D) (ci := 10) (v := .int 0) (C := RX10) (T := TX10) (N := 45) hx hb hts iX10 hown hK hP 0 rfl rfl 14 (by decide) (hts _ wd_303) (fun _ h9 => h9) rfl dX10_letterAt_2 ?_
  refine lv_icmp_ge (tgt := 17) hx hb dX10_letterAt_5 (by decide) (fun c_1 => ?_) (fun c_1 => absurd (by decide +kernel) c_1)
  refine lv_iconst (v := (-1)) hx hb dX10_letterAt_17 (by decide) ?_
  exact hret (-1) () _ _ _ _ dX10_letterAt_18 rfl rfl hP hD hS
def rm_k_here : Room := { frames := 1, cells := 0, slots := 0, locals := 21 }
set_option maxHeartbeats 4000000 in
set_option maxRecDepth 100000 in
theorem k_here {l : Launch} {D : va_G} {cI cZ : ClassId} {sz : Nat} (yh yq1 yq2 yq3 yq4 yq5 yq6 yq7 yq8 yq9 yq10 yq11 yq12 yq13 yq14 yq15 yq16 yq17 yq18 yq19 : Nat) : KI l yX10_here cX10_here 1 (some .int) rm_k_here D cI cZ [.ref yh] sz [(yh, .inr (10, [.ref yq1, .ref yq2, .int 0, .int 0, .int 1, .int 0, .int 0, .int 0, .ref yq3, .ref yq4, .ref yq5, .ref yq6, .ref yq7, .ref yq8, .int 0, .int 0, .int 0, .int 0, .int 0, .int (-1), .int 0, .int 1, .int 0, .int 0, .int 0, .int 0, .int 0, .ref yq9, .ref yq10, .ref yq11, .ref yq12, .ref yq13, .int 0, .int 0, .int 0, .int 0, .ref yq14, .ref yq15, .ref yq16, .ref yq17, .int 0, .int 0, .int 0, .ref yq18, .ref yq19]))] (fun (r : Int32) (_ : Unit) => r = (-1)) (fun (_ : Unit) => [(yh, .inr (10, [.ref yq1, .ref yq2, .int 0, .int 0, .int 1, .int 0, .int 0, .int 0, .ref yq3, .ref yq4, .ref yq5, .ref yq6, .ref yq7, .ref yq8, .int 0, .int 0, .int 0, .int 0, .int 0, .int (-1), .int 0, .int 1, .int 0, .int 0, .int 0, .int 0, .int 0, .ref yq9, .ref yq10, .ref yq11, .ref yq12, .ref yq13, .int 0, .int 0, .int 0, .int 0, .ref yq14, .ref yq15, .ref yq16, .ref yq17, .int 0, .int 0, .int 0, .ref yq18, .ref yq19]))]) := by
  refine KI.go rfl (Nat.le_of_ble_eq_true rfl) ?_
  intro p e s m args below meth c ls A Q hx hb hml hts hown hin hP hK hD hS hA hN hl hret
  have hl : lv_has ls 1 [(0, .ref yh)] := hl
  refine lv_aload_n hx hb dX10_here_0 rfl (lv_at hl 0 rfl) ?_
  refine lv_aload_n hx hb dX10_here_1 rfl (lv_at hl 0 rfl) ?_
  refine va_get (D := D) (ci := 10) (v := .int 0) (C := RX10) (T := TX10) (N := 45) hx hb hts iX10 hown hK hP 0 rfl rfl 15 (by decide) (hts _ wd_304) (fun _ h9 => h9) rfl dX10_here_2 ?_
  refine cVi (wr := []) (rest := []) (k_letterAtT yh yq1 yq2 yq3 yq4 yq5 yq6 yq7 yq8 yq9 yq10 yq11 yq12 yq13 yq14 yq15 yq16 yq17 yq18 yq19) okV_X10_letterAt wd_305 hx hb hml hown hts hK hP hD hS hA hN hl.1 [0] [] rfl rfl rfl rfl (by decide) rfl rfl rfl (Nat.le_of_ble_eq_true rfl) (Nat.le_of_ble_eq_true rfl) (Nat.le_of_ble_eq_true rfl) (Nat.le_of_ble_eq_true rfl) (Nat.le_of_ble_eq_true rfl) dX10_here_5 (fun r_2 u_1 H locs hw_u_1 hP hD hS => ?_)
  obtain rfl := hw_u_1
  have hP : va_P D classes [(yh, .inr (10, [.ref yq1, .ref yq2, .int 0, .int 0, .int 1, .int 0, .int 0, .int 0, .ref yq3, .ref yq4, .ref yq5, .ref yq6, .ref yq7, .ref yq8, .int 0, .int 0, .int 0, .int 0, .int 0, .int (-1), .int 0, .int 1, .int 0, .int 0, .int 0, .int 0, .int 0, .ref yq9, .ref yq10, .ref yq11, .ref yq12, .ref yq13, .int 0, .int 0, .int 0, .int 0, .ref yq14, .ref yq15, .ref yq16, .ref yq17, .int 0, .int 0, .int 0, .ref yq18, .ref yq19]))] H := hP
  have hD : va_D A [(yh, .inr (10, [.ref yq1, .ref yq2, .int 0, .int 0, .int 1, .int 0, .int 0, .int 0, .ref yq3, .ref yq4, .ref yq5, .ref yq6, .ref yq7, .ref yq8, .int 0, .int 0, .int 0, .int 0, .int 0, .int (-1), .int 0, .int 1, .int 0, .int 0, .int 0, .int 0, .int 0, .ref yq9, .ref yq10, .ref yq11, .ref yq12, .ref yq13, .int 0, .int 0, .int 0, .int 0, .ref yq14, .ref yq15, .ref yq16, .ref yq17, .int 0, .int 0, .int 0, .ref yq18, .ref yq19]))] := hD
  refine lv_bipush (v := 32) hx hb dX10_here_8 (by decide) ?_
  refine lv_icmp_ne (tgt := 26) hx hb dX10_here_10 (by decide) (fun c_3 => ?_) (fun c_3 => absurd c_3 (by decide +kernel))
  refine lv_aload_n hx hb dX10_here_26 rfl (lv_at hl 0 rfl) ?_
  refine lv_aload_n hx hb dX10_here_27 rfl (lv_at hl 0 rfl) ?_
  refine va_get (D := D) (ci := 10) (v := .int 0) (C := RX10) (T := TX10) (N := 45) hx hb hts iX10 hown hK hP 0 rfl rfl 15 (by decide) (hts _ wd_304) (fun _ h9 => h9) rfl dX10_here_28 ?_
  refine va_put (D := D) (ci := 10) (v := .int 0) (ty := .int) (C := RX10) (T := TX10) (N := 45) hx hb hts iX10 tyX10 tyX10_ok nmX10 hown hK hP hD hS 0 rfl rfl 16 (by decide) (hts _ wd_309) (fun _ h9 => h9) rfl (by decide +kernel) rfl rfl (Nat.le_of_ble_eq_true rfl) dX10_here_31 (fun H locs hP hD hS => ?_)
  have hP : va_P D classes [(yh, .inr (10, [.ref yq1, .ref yq2, .int 0, .int 0, .int 1, .int 0, .int 0, .int 0, .ref yq3, .ref yq4, .ref yq5, .ref yq6, .ref yq7, .ref yq8, .int 0, .int 0, .int 0, .int 0, .int 0, .int (-1), .int 0, .int 1, .int 0, .int 0, .int 0, .int 0, .int 0, .ref yq9, .ref yq10, .ref yq11, .ref yq12, .ref yq13, .int 0, .int 0, .int 0, .int 0, .ref yq14, .ref yq15, .ref yq16, .ref yq17, .int 0, .int 0, .int 0, .ref yq18, .ref yq19]))] H := hP
  have hD : va_D A [(yh, .inr (10, [.ref yq1, .ref yq2, .int 0, .int 0, .int 1, .int 0, .int 0, .int 0, .ref yq3, .ref yq4, .ref yq5, .ref yq6, .ref yq7, .ref yq8, .int 0, .int 0, .int 0, .int 0, .int 0, .int (-1), .int 0, .int 1, .int 0, .int 0, .int 0, .int 0, .int 0, .ref yq9, .ref yq10, .ref yq11, .ref yq12, .ref yq13, .int 0, .int 0, .int 0, .int 0, .ref yq14, .ref yq15, .ref yq16, .ref yq17, .int 0, .int 0, .int 0, .ref yq18, .ref yq19]))] := hD
  refine lv_aload_n hx hb dX10_here_34 rfl (lv_at hl 0 rfl) ?_
  refine lv_aload_n hx hb dX10_here_35 rfl (lv_at hl 0 rfl) ?_
  refine va_get (D := D) (ci := 10) (v := .int 0) (C := RX10) (T := TX10) (N := 45) hx hb hts iX10 hown hK hP 0 rfl rfl 15 (by decide) (hts _ wd_304) (fun _ h9 => h9) rfl dX10_here_36 ?_
  refine cVi (wr := []) (rest := []) (k_letterAtT yh yq1 yq2 yq3 yq4 yq5 yq6 yq7 yq8 yq9 yq10 yq11 yq12 yq13 yq14 yq15 yq16 yq17 yq18 yq19) okV_X10_letterAt wd_305 hx hb hml hown hts hK hP hD hS hA hN hl.1 [0] [] rfl rfl rfl rfl (by decide) rfl rfl rfl (Nat.le_of_ble_eq_true rfl) (Nat.le_of_ble_eq_true rfl) (Nat.le_of_ble_eq_true rfl) (Nat.le_of_ble_eq_true rfl) (Nat.le_of_ble_eq_true rfl) dX10_here_39 (fun r_5 u_4 H locs hw_u_4 hP hD hS => ?_)
  obtain rfl := hw_u_4
  have hP : va_P D classes [(yh, .inr (10, [.ref yq1, .ref yq2, .int 0, .int 0, .int 1, .int 0, .int 0, .int 0, .ref yq3, .ref yq4, .ref yq5, .ref yq6, .ref yq7, .ref yq8, .int 0, .int 0, .int 0, .int 0, .int 0, .int (-1), .int 0, .int 1, .int 0, .int 0, .int 0, .int 0, .int 0, .ref yq9, .ref yq10, .ref yq11, .ref yq12, .ref yq13, .int 0, .int 0, .int 0, .int 0, .ref yq14, .ref yq15, .ref yq16, .ref yq17, .int 0, .int 0, .int 0, .ref yq18, .ref yq19]))] H := hP
  have hD : va_D A [(yh, .inr (10, [.ref yq1, .ref yq2, .int 0, .int 0, .int 1, .int 0, .int 0, .int 0, .ref yq3, .ref yq4, .ref yq5, .ref yq6, .ref yq7, .ref yq8, .int 0, .int 0, .int 0, .int 0, .int 0, .int (-1), .int 0, .int 1, .int 0, .int 0, .int 0, .int 0, .int 0, .ref yq9, .ref yq10, .ref yq11, .ref yq12, .ref yq13, .int 0, .int 0, .int 0, .int 0, .ref yq14, .ref yq15, .ref yq16, .ref yq17, .int 0, .int 0, .int 0, .ref yq18, .ref yq19]))] := hD
  exact hret (-1) () _ _ _ _ dX10_here_42 rfl rfl hP hD hS
def rm_k_bargesThat1 : Room := { frames := 0, cells := 0, slots := 0, locals := 0 }
set_option maxHeartbeats 4000000 in
set_option maxRecDepth 100000 in
theorem k_bargesThat1 {l : Launch} {D : va_G} {cI cZ : ClassId} {sz : Nat} (yh yq1 yq2 yq3 yq4 yq5 yq6 yq7 yq8 yq9 yq10 yq11 yq12 yq13 yq14 yq15 yq16 yq17 yq18 yq19 : Nat) : KI l yX10_bargesThat cX10_bargesThat 4 (some .int) rm_k_bargesThat1 D cI cZ [.ref yh, .int 1] sz [(yh, .inr (10, [.ref yq1, .ref yq2, .int 0, .int 0, .int 1, .int 0, .int 0, .int 0, .ref yq3, .ref yq4, .ref yq5, .ref yq6, .ref yq7, .ref yq8, .int 0, .int 0, .int 0, .int 0, .int 0, .int (-1), .int 0, .int 0, .int 0, .int 0, .int 0, .int 0, .int 0, .ref yq9, .ref yq10, .ref yq11, .ref yq12, .ref yq13, .int 0, .int 0, .int 0, .int 0, .ref yq14, .ref yq15, .ref yq16, .ref yq17, .int 0, .int 0, .int 0, .ref yq18, .ref yq19]))] (fun (r : Int32) (_ : Unit) => r = 0) (fun (_ : Unit) => [(yh, .inr (10, [.ref yq1, .ref yq2, .int 0, .int 0, .int 1, .int 0, .int 0, .int 0, .ref yq3, .ref yq4, .ref yq5, .ref yq6, .ref yq7, .ref yq8, .int 0, .int 0, .int 0, .int 0, .int 0, .int (-1), .int 0, .int 0, .int 0, .int 0, .int 0, .int 0, .int 0, .ref yq9, .ref yq10, .ref yq11, .ref yq12, .ref yq13, .int 0, .int 0, .int 0, .int 0, .ref yq14, .ref yq15, .ref yq16, .ref yq17, .int 0, .int 0, .int 0, .ref yq18, .ref yq19]))]) := by
  refine KI.go rfl (Nat.le_of_ble_eq_true rfl) ?_
  intro p e s m args below meth c ls A Q hx hb hml hts hown hin hP hK hD hS hA hN hl hret
  have hl : lv_has ls 4 [(0, .ref yh), (1, .int 1)] := hl
  refine lv_iconst (v := 0) hx hb dX10_bargesThat_0 (by decide) ?_
  refine lv_istore_n (lv' := [(2, .int 0), (0, .ref yh), (1, .int 1)]) hx hb dX10_bargesThat_1 rfl hl (by decide) rfl (fun ls hl => ?_)
  refine lv_iconst (v := 0) hx hb dX10_bargesThat_2 (by decide) ?_
  refine lv_istore_n (lv' := [(3, .int 0), (2, .int 0), (0, .ref yh), (1, .int 1)]) hx hb dX10_bargesThat_3 rfl hl (by decide) rfl (fun ls hl => ?_)
  refine lv_iload_n hx hb dX10_bargesThat_4 rfl (lv_at hl 0 rfl) ?_
  refine lv_aload_n hx hb dX10_bargesThat_5 rfl (lv_at hl 2 rfl) ?_
  refine va_get (D := D) (ci := 10) (v := .int 0) (C := RX10) (T := TX10) (N := 45) hx hb hts iX10 hown hK hP 0 rfl rfl 6 (by decide) (hts _ wd_302) (fun _ h9 => h9) rfl dX10_bargesThat_6 ?_
  refine lv_icmp_ge (tgt := 41) hx hb dX10_bargesThat_9 (by decide) (fun c_1 => ?_) (fun c_1 => absurd (by decide +kernel) c_1)
  refine lv_iload_n hx hb dX10_bargesThat_41 rfl (lv_at hl 1 rfl) ?_
  exact hret 0 () _ _ _ _ dX10_bargesThat_42 rfl rfl hP hD hS
def rm_k_bargesThat2 : Room := { frames := 0, cells := 0, slots := 0, locals := 0 }
set_option maxHeartbeats 4000000 in
set_option maxRecDepth 100000 in
theorem k_bargesThat2 {l : Launch} {D : va_G} {cI cZ : ClassId} {sz : Nat} (yh yq1 yq2 yq3 yq4 yq5 yq6 yq7 yq8 yq9 yq10 yq11 yq12 yq13 yq14 yq15 yq16 yq17 yq18 yq19 : Nat) : KI l yX10_bargesThat cX10_bargesThat 4 (some .int) rm_k_bargesThat2 D cI cZ [.ref yh, .int 2] sz [(yh, .inr (10, [.ref yq1, .ref yq2, .int 0, .int 0, .int 1, .int 0, .int 0, .int 0, .ref yq3, .ref yq4, .ref yq5, .ref yq6, .ref yq7, .ref yq8, .int 0, .int 0, .int 0, .int 0, .int 0, .int (-1), .int 0, .int 0, .int 0, .int 0, .int 0, .int 0, .int 0, .ref yq9, .ref yq10, .ref yq11, .ref yq12, .ref yq13, .int 0, .int 0, .int 0, .int 0, .ref yq14, .ref yq15, .ref yq16, .ref yq17, .int 0, .int 0, .int 0, .ref yq18, .ref yq19]))] (fun (r : Int32) (_ : Unit) => r = 0) (fun (_ : Unit) => [(yh, .inr (10, [.ref yq1, .ref yq2, .int 0, .int 0, .int 1, .int 0, .int 0, .int 0, .ref yq3, .ref yq4, .ref yq5, .ref yq6, .ref yq7, .ref yq8, .int 0, .int 0, .int 0, .int 0, .int 0, .int (-1), .int 0, .int 0, .int 0, .int 0, .int 0, .int 0, .int 0, .ref yq9, .ref yq10, .ref yq11, .ref yq12, .ref yq13, .int 0, .int 0, .int 0, .int 0, .ref yq14, .ref yq15, .ref yq16, .ref yq17, .int 0, .int 0, .int 0, .ref yq18, .ref yq19]))]) := by
  refine KI.go rfl (Nat.le_of_ble_eq_true rfl) ?_
  intro p e s m args below meth c ls A Q hx hb hml hts hown hin hP hK hD hS hA hN hl hret
  have hl : lv_has ls 4 [(0, .ref yh), (1, .int 2)] := hl
  refine lv_iconst (v := 0) hx hb dX10_bargesThat_0 (by decide) ?_
  refine lv_istore_n (lv' := [(2, .int 0), (0, .ref yh), (1, .int 2)]) hx hb dX10_bargesThat_1 rfl hl (by decide) rfl (fun ls hl => ?_)
  refine lv_iconst (v := 0) hx hb dX10_bargesThat_2 (by decide) ?_
  refine lv_istore_n (lv' := [(3, .int 0), (2, .int 0), (0, .ref yh), (1, .int 2)]) hx hb dX10_bargesThat_3 rfl hl (by decide) rfl (fun ls hl => ?_)
  refine lv_iload_n hx hb dX10_bargesThat_4 rfl (lv_at hl 0 rfl) ?_
  refine lv_aload_n hx hb dX10_bargesThat_5 rfl (lv_at hl 2 rfl) ?_
  refine va_get (D := D) (ci := 10) (v := .int 0) (C := RX10) (T := TX10) (N := 45) hx hb hts iX10 hown hK hP 0 rfl rfl 6 (by decide) (hts _ wd_302) (fun _ h9 => h9) rfl dX10_bargesThat_6 ?_
  refine lv_icmp_ge (tgt := 41) hx hb dX10_bargesThat_9 (by decide) (fun c_1 => ?_) (fun c_1 => absurd (by decide +kernel) c_1)
  refine lv_iload_n hx hb dX10_bargesThat_41 rfl (lv_at hl 1 rfl) ?_
  exact hret 0 () _ _ _ _ dX10_bargesThat_42 rfl rfl hP hD hS
def rm_k_bargesThat3 : Room := { frames := 0, cells := 0, slots := 0, locals := 0 }
set_option maxHeartbeats 4000000 in
set_option maxRecDepth 100000 in
theorem k_bargesThat3 {l : Launch} {D : va_G} {cI cZ : ClassId} {sz : Nat} (yh yq1 yq2 yq3 yq4 yq5 yq6 yq7 yq8 yq9 yq10 yq11 yq12 yq13 yq14 yq15 yq16 yq17 yq18 yq19 : Nat) : KI l yX10_bargesThat cX10_bargesThat 4 (some .int) rm_k_bargesThat3 D cI cZ [.ref yh, .int 3] sz [(yh, .inr (10, [.ref yq1, .ref yq2, .int 0, .int 0, .int 1, .int 0, .int 0, .int 0, .ref yq3, .ref yq4, .ref yq5, .ref yq6, .ref yq7, .ref yq8, .int 0, .int 0, .int 0, .int 0, .int 0, .int (-1), .int 0, .int 0, .int 0, .int 0, .int 0, .int 0, .int 0, .ref yq9, .ref yq10, .ref yq11, .ref yq12, .ref yq13, .int 0, .int 0, .int 0, .int 0, .ref yq14, .ref yq15, .ref yq16, .ref yq17, .int 0, .int 0, .int 0, .ref yq18, .ref yq19]))] (fun (r : Int32) (_ : Unit) => r = 0) (fun (_ : Unit) => [(yh, .inr (10, [.ref yq1, .ref yq2, .int 0, .int 0, .int 1, .int 0, .int 0, .int 0, .ref yq3, .ref yq4, .ref yq5, .ref yq6, .ref yq7, .ref yq8, .int 0, .int 0, .int 0, .int 0, .int 0, .int (-1), .int 0, .int 0, .int 0, .int 0, .int 0, .int 0, .int 0, .ref yq9, .ref yq10, .ref yq11, .ref yq12, .ref yq13, .int 0, .int 0, .int 0, .int 0, .ref yq14, .ref yq15, .ref yq16, .ref yq17, .int 0, .int 0, .int 0, .ref yq18, .ref yq19]))]) := by
  refine KI.go rfl (Nat.le_of_ble_eq_true rfl) ?_
  intro p e s m args below meth c ls A Q hx hb hml hts hown hin hP hK hD hS hA hN hl hret
  have hl : lv_has ls 4 [(0, .ref yh), (1, .int 3)] := hl
  refine lv_iconst (v := 0) hx hb dX10_bargesThat_0 (by decide) ?_
  refine lv_istore_n (lv' := [(2, .int 0), (0, .ref yh), (1, .int 3)]) hx hb dX10_bargesThat_1 rfl hl (by decide) rfl (fun ls hl => ?_)
  refine lv_iconst (v := 0) hx hb dX10_bargesThat_2 (by decide) ?_
  refine lv_istore_n (lv' := [(3, .int 0), (2, .int 0), (0, .ref yh), (1, .int 3)]) hx hb dX10_bargesThat_3 rfl hl (by decide) rfl (fun ls hl => ?_)
  refine lv_iload_n hx hb dX10_bargesThat_4 rfl (lv_at hl 0 rfl) ?_
  refine lv_aload_n hx hb dX10_bargesThat_5 rfl (lv_at hl 2 rfl) ?_
  refine va_get (D := D) (ci := 10) (v := .int 0) (C := RX10) (T := TX10) (N := 45) hx hb hts iX10 hown hK hP 0 rfl rfl 6 (by decide) (hts _ wd_302) (fun _ h9 => h9) rfl dX10_bargesThat_6 ?_
  refine lv_icmp_ge (tgt := 41) hx hb dX10_bargesThat_9 (by decide) (fun c_1 => ?_) (fun c_1 => absurd (by decide +kernel) c_1)
  refine lv_iload_n hx hb dX10_bargesThat_41 rfl (lv_at hl 1 rfl) ?_
  exact hret 0 () _ _ _ _ dX10_bargesThat_42 rfl rfl hP hD hS
def rm_k_griefOf63 : Room := { frames := 0, cells := 0, slots := 0, locals := 0 }
set_option maxHeartbeats 4000000 in
set_option maxRecDepth 100000 in
theorem k_griefOf63 {l : Launch} {D : va_G} {cI cZ : ClassId} {sz : Nat} (yh yq1 yq2 yq3 yq4 yq5 yq6 yq7 yq8 yq9 yq10 yq11 yq12 yq13 yq14 yq15 yq16 yq17 yq18 yq19 : Nat) : KI l yX10_griefOf cX10_griefOf 4 (some .int) rm_k_griefOf63 D cI cZ [.ref yh, .int 63] sz [(yh, .inr (10, [.ref yq1, .ref yq2, .int 0, .int 0, .int 1, .int 0, .int 0, .int 0, .ref yq3, .ref yq4, .ref yq5, .ref yq6, .ref yq7, .ref yq8, .int 0, .int 0, .int 0, .int 0, .int 0, .int (-1), .int 0, .int 0, .int 0, .int 0, .int 0, .int 0, .int 0, .ref yq9, .ref yq10, .ref yq11, .ref yq12, .ref yq13, .int 0, .int 0, .int 0, .int 0, .ref yq14, .ref yq15, .ref yq16, .ref yq17, .int 0, .int 0, .int 0, .ref yq18, .ref yq19]))] (fun (r : Int32) (_ : Unit) => r = 0) (fun (_ : Unit) => [(yh, .inr (10, [.ref yq1, .ref yq2, .int 0, .int 0, .int 1, .int 0, .int 0, .int 0, .ref yq3, .ref yq4, .ref yq5, .ref yq6, .ref yq7, .ref yq8, .int 0, .int 0, .int 0, .int 0, .int 0, .int (-1), .int 0, .int 0, .int 0, .int 0, .int 0, .int 0, .int 0, .ref yq9, .ref yq10, .ref yq11, .ref yq12, .ref yq13, .int 0, .int 0, .int 0, .int 0, .ref yq14, .ref yq15, .ref yq16, .ref yq17, .int 0, .int 0, .int 0, .ref yq18, .ref yq19]))]) := by
  refine KI.go rfl (Nat.le_of_ble_eq_true rfl) ?_
  intro p e s m args below meth c ls A Q hx hb hml hts hown hin hP hK hD hS hA hN hl hret
  have hl : lv_has ls 4 [(0, .ref yh), (1, .int 63)] := hl
  refine lv_iconst (v := 0) hx hb dX10_griefOf_0 (by decide) ?_
  refine lv_istore_n (lv' := [(2, .int 0), (0, .ref yh), (1, .int 63)]) hx hb dX10_griefOf_1 rfl hl (by decide) rfl (fun ls hl => ?_)
  refine lv_iconst (v := 0) hx hb dX10_griefOf_2 (by decide) ?_
  refine lv_istore_n (lv' := [(3, .int 0), (2, .int 0), (0, .ref yh), (1, .int 63)]) hx hb dX10_griefOf_3 rfl hl (by decide) rfl (fun ls hl => ?_)
  refine lv_iload_n hx hb dX10_griefOf_4 rfl (lv_at hl 0 rfl) ?_
  refine lv_aload_n hx hb dX10_griefOf_5 rfl (lv_at hl 2 rfl) ?_
  refine va_get (D := D) (ci := 10) (v := .int 0) (C := RX10) (T := TX10) (N := 45) hx hb hts iX10 hown hK hP 0 rfl rfl 5 (by decide) (hts _ wd_270) (fun _ h9 => h9) rfl dX10_griefOf_6 ?_
  refine lv_icmp_ge (tgt := 41) hx hb dX10_griefOf_9 (by decide) (fun c_1 => ?_) (fun c_1 => absurd (by decide +kernel) c_1)
  refine lv_iload_n hx hb dX10_griefOf_41 rfl (lv_at hl 1 rfl) ?_
  exact hret 0 () _ _ _ _ dX10_griefOf_42 rfl rfl hP hD hS
def rm_k_griefOf0 : Room := { frames := 0, cells := 0, slots := 0, locals := 0 }
set_option maxHeartbeats 4000000 in
set_option maxRecDepth 100000 in
theorem k_griefOf0 {l : Launch} {D : va_G} {cI cZ : ClassId} {sz : Nat} (yh yq1 yq2 yq3 yq4 yq5 yq6 yq7 yq8 yq9 yq10 yq11 yq12 yq13 yq14 yq15 yq16 yq17 yq18 yq19 : Nat) : KI l yX10_griefOf cX10_griefOf 4 (some .int) rm_k_griefOf0 D cI cZ [.ref yh, .int 0] sz [(yh, .inr (10, [.ref yq1, .ref yq2, .int 0, .int 0, .int 1, .int 0, .int 0, .int 0, .ref yq3, .ref yq4, .ref yq5, .ref yq6, .ref yq7, .ref yq8, .int 0, .int 0, .int 0, .int 0, .int 0, .int (-1), .int 0, .int 0, .int 0, .int 0, .int 0, .int 0, .int 0, .ref yq9, .ref yq10, .ref yq11, .ref yq12, .ref yq13, .int 0, .int 0, .int 0, .int 0, .ref yq14, .ref yq15, .ref yq16, .ref yq17, .int 0, .int 0, .int 0, .ref yq18, .ref yq19]))] (fun (r : Int32) (_ : Unit) => r = 0) (fun (_ : Unit) => [(yh, .inr (10, [.ref yq1, .ref yq2, .int 0, .int 0, .int 1, .int 0, .int 0, .int 0, .ref yq3, .ref yq4, .ref yq5, .ref yq6, .ref yq7, .ref yq8, .int 0, .int 0, .int 0, .int 0, .int 0, .int (-1), .int 0, .int 0, .int 0, .int 0, .int 0, .int 0, .int 0, .ref yq9, .ref yq10, .ref yq11, .ref yq12, .ref yq13, .int 0, .int 0, .int 0, .int 0, .ref yq14, .ref yq15, .ref yq16, .ref yq17, .int 0, .int 0, .int 0, .ref yq18, .ref yq19]))]) := by
  refine KI.go rfl (Nat.le_of_ble_eq_true rfl) ?_
  intro p e s m args below meth c ls A Q hx hb hml hts hown hin hP hK hD hS hA hN hl hret
  have hl : lv_has ls 4 [(0, .ref yh), (1, .int 0)] := hl
  refine lv_iconst (v := 0) hx hb dX10_griefOf_0 (by decide) ?_
  refine lv_istore_n (lv' := [(2, .int 0), (0, .ref yh), (1, .int 0)]) hx hb dX10_griefOf_1 rfl hl (by decide) rfl (fun ls hl => ?_)
  refine lv_iconst (v := 0) hx hb dX10_griefOf_2 (by decide) ?_
  refine lv_istore_n (lv' := [(3, .int 0), (2, .int 0), (0, .ref yh), (1, .int 0)]) hx hb dX10_griefOf_3 rfl hl (by decide) rfl (fun ls hl => ?_)
  refine lv_iload_n hx hb dX10_griefOf_4 rfl (lv_at hl 0 rfl) ?_
  refine lv_aload_n hx hb dX10_griefOf_5 rfl (lv_at hl 2 rfl) ?_
  refine va_get (D := D) (ci := 10) (v := .int 0) (C := RX10) (T := TX10) (N := 45) hx hb hts iX10 hown hK hP 0 rfl rfl 5 (by decide) (hts _ wd_270) (fun _ h9 => h9) rfl dX10_griefOf_6 ?_
  refine lv_icmp_ge (tgt := 41) hx hb dX10_griefOf_9 (by decide) (fun c_1 => ?_) (fun c_1 => absurd (by decide +kernel) c_1)
  refine lv_iload_n hx hb dX10_griefOf_41 rfl (lv_at hl 1 rfl) ?_
  exact hret 0 () _ _ _ _ dX10_griefOf_42 rfl rfl hP hD hS
def rm_k_whoIsAt : Room := { frames := 0, cells := 0, slots := 0, locals := 0 }
set_option maxHeartbeats 4000000 in
set_option maxRecDepth 100000 in
theorem k_whoIsAt {l : Launch} {D : va_G} {cI cZ : ClassId} {sz : Nat} (yh yq1 yq2 yq3 yq4 yq5 yq6 yq7 yq8 yq9 yq10 yq11 yq12 yq13 yq14 yq15 yq16 yq17 yq18 yq19 : Nat) : KI l yX10_whoIsAt cX10_whoIsAt 5 (some .int) rm_k_whoIsAt D cI cZ [.ref yh, .int 0, .int 0] sz [(yh, .inr (10, [.ref yq1, .ref yq2, .int 0, .int 0, .int 1, .int 0, .int 0, .int 0, .ref yq3, .ref yq4, .ref yq5, .ref yq6, .ref yq7, .ref yq8, .int 0, .int 0, .int 0, .int 0, .int 0, .int (-1), .int 0, .int 0, .int 0, .int 0, .int 0, .int 0, .int 0, .ref yq9, .ref yq10, .ref yq11, .ref yq12, .ref yq13, .int 0, .int 0, .int 0, .int 0, .ref yq14, .ref yq15, .ref yq16, .ref yq17, .int 0, .int 0, .int 0, .ref yq18, .ref yq19]))] (fun (r : Int32) (_ : Unit) => r = (-1)) (fun (_ : Unit) => [(yh, .inr (10, [.ref yq1, .ref yq2, .int 0, .int 0, .int 1, .int 0, .int 0, .int 0, .ref yq3, .ref yq4, .ref yq5, .ref yq6, .ref yq7, .ref yq8, .int 0, .int 0, .int 0, .int 0, .int 0, .int (-1), .int 0, .int 0, .int 0, .int 0, .int 0, .int 0, .int 0, .ref yq9, .ref yq10, .ref yq11, .ref yq12, .ref yq13, .int 0, .int 0, .int 0, .int 0, .ref yq14, .ref yq15, .ref yq16, .ref yq17, .int 0, .int 0, .int 0, .ref yq18, .ref yq19]))]) := by
  refine KI.go rfl (Nat.le_of_ble_eq_true rfl) ?_
  intro p e s m args below meth c ls A Q hx hb hml hts hown hin hP hK hD hS hA hN hl hret
  have hl : lv_has ls 5 [(0, .ref yh), (1, .int 0), (2, .int 0)] := hl
  refine lv_iconst (v := (-1)) hx hb dX10_whoIsAt_0 (by decide) ?_
  refine lv_istore_n (lv' := [(3, .int (-1)), (0, .ref yh), (1, .int 0), (2, .int 0)]) hx hb dX10_whoIsAt_1 rfl hl (by decide) rfl (fun ls hl => ?_)
  refine lv_iconst (v := 0) hx hb dX10_whoIsAt_2 (by decide) ?_
  refine lv_istore (lv' := [(4, .int 0), (3, .int (-1)), (0, .ref yh), (1, .int 0), (2, .int 0)]) hx hb dX10_whoIsAt_3 hl (by decide) rfl (fun ls hl => ?_)
  refine lv_iload hx hb dX10_whoIsAt_5 (lv_at hl 0 rfl) ?_
  refine lv_aload_n hx hb dX10_whoIsAt_7 rfl (lv_at hl 2 rfl) ?_
  refine va_get (D := D) (ci := 10) (v := .int 0) (C := RX10) (T := TX10) (N := 45) hx hb hts iX10 hown hK hP 0 rfl rfl 5 (by decide) (hts _ wd_270) (fun _ h9 => h9) rfl dX10_whoIsAt_8 ?_
  refine lv_icmp_ge (tgt := 43) hx hb dX10_whoIsAt_11 (by decide) (fun c_1 => ?_) (fun c_1 => absurd (by decide +kernel) c_1)
  refine lv_iload_n hx hb dX10_whoIsAt_43 rfl (lv_at hl 1 rfl) ?_
  exact hret (-1) () _ _ _ _ dX10_whoIsAt_44 rfl rfl hP hD hS
def rm_k_copy42 : Room := { frames := 0, cells := 0, slots := 0, locals := 0 }
set_option maxHeartbeats 4000000 in
set_option maxRecDepth 100000 in
theorem k_copy42 {l : Launch} {D : va_G} {cI cZ : ClassId} {sz : Nat} (yh yq1 yq2 yq3 yq4 yq5 yq6 yq7 yq8 yq9 yq10 yq11 yq12 yq13 yq14 yq15 yq16 yq17 yq18 yq19 : Nat) : KV l yX10_copy cX10_copy 4 rm_k_copy42 D cI cZ [.ref yh, .int 0, .int 42] sz [(yh, .inr (10, [.ref yq1, .ref yq2, .int 0, .int 0, .int 1, .int 0, .int 0, .int 0, .ref yq3, .ref yq4, .ref yq5, .ref yq6, .ref yq7, .ref yq8, .int 0, .int 0, .int 0, .int 0, .int 0, .int (-1), .int 0, .int 0, .int 0, .int 0, .int 0, .int 0, .int 0, .ref yq9, .ref yq10, .ref yq11, .ref yq12, .ref yq13, .int 0, .int 0, .int 0, .int 0, .ref yq14, .ref yq15, .ref yq16, .ref yq17, .int 0, .int 0, .int 0, .ref yq18, .ref yq19])), (yq1, .inl (cI, 1302, .inl (upd (wC z0 7) (41 : Int32).toNatClampNeg (z0 (41 : Int32).toNatClampNeg))))] (fun (_ : Unit) => True) (fun (_ : Unit) => [(yh, .inr (10, [.ref yq1, .ref yq2, .int 0, .int 0, .int 1, .int 0, .int 0, .int 0, .ref yq3, .ref yq4, .ref yq5, .ref yq6, .ref yq7, .ref yq8, .int 0, .int 0, .int 0, .int 0, .int 0, .int (-1), .int 0, .int 0, .int 0, .int 0, .int 0, .int 0, .int 0, .ref yq9, .ref yq10, .ref yq11, .ref yq12, .ref yq13, .int 0, .int 0, .int 0, .int 0, .ref yq14, .ref yq15, .ref yq16, .ref yq17, .int 0, .int 0, .int 0, .ref yq18, .ref yq19])), (yq1, .inl (cI, 1302, .inl (wP 42 (upd (wC z0 7) (41 : Int32).toNatClampNeg (z0 (41 : Int32).toNatClampNeg)) 42)))]) := by
  refine KV.go rfl (Nat.le_of_ble_eq_true rfl) ?_
  intro p e s m args below meth c ls A Q hx hb hml hts hown hin hP hK hD hS hA hN hl hret
  have hl : lv_has ls 4 [(0, .ref yh), (1, .int 0), (2, .int 42)] := hl
  refine lv_iconst (v := 0) hx hb dX10_copy_0 (by decide) ?_
  refine lv_istore_n (lv' := [(3, .int 0), (0, .ref yh), (1, .int 0), (2, .int 42)]) hx hb dX10_copy_1 rfl hl (by decide) rfl (fun ls hl => ?_)
  have lp_1 : ∀ (n k : Nat), k + n = 42 → ∀ (H : Heap) (locs : List Loc) (ls : Array Slot), va_P D classes [(yh, .inr (10, [.ref yq1, .ref yq2, .int 0, .int 0, .int 1, .int 0, .int 0, .int 0, .ref yq3, .ref yq4, .ref yq5, .ref yq6, .ref yq7, .ref yq8, .int 0, .int 0, .int 0, .int 0, .int 0, .int (-1), .int 0, .int 0, .int 0, .int 0, .int 0, .int 0, .int 0, .ref yq9, .ref yq10, .ref yq11, .ref yq12, .ref yq13, .int 0, .int 0, .int 0, .int 0, .ref yq14, .ref yq15, .ref yq16, .ref yq17, .int 0, .int 0, .int 0, .ref yq18, .ref yq19])), (yq1, .inl (cI, 1302, .inl (wP 42 (upd (wC z0 7) (41 : Int32).toNatClampNeg (z0 (41 : Int32).toNatClampNeg)) k)))] H → va_D A [(yh, .inr (10, [.ref yq1, .ref yq2, .int 0, .int 0, .int 1, .int 0, .int 0, .int 0, .ref yq3, .ref yq4, .ref yq5, .ref yq6, .ref yq7, .ref yq8, .int 0, .int 0, .int 0, .int 0, .int 0, .int (-1), .int 0, .int 0, .int 0, .int 0, .int 0, .int 0, .int 0, .ref yq9, .ref yq10, .ref yq11, .ref yq12, .ref yq13, .int 0, .int 0, .int 0, .int 0, .ref yq14, .ref yq15, .ref yq16, .ref yq17, .int 0, .int 0, .int 0, .ref yq18, .ref yq19])), (yq1, .inl (cI, 1302, .inl (wP 42 (upd (wC z0 7) (41 : Int32).toNatClampNeg (z0 (41 : Int32).toNatClampNeg)) k)))] → va_S A s.heap H locs → lv_has ls 4 [(3, .int (nI k)), (0, .ref yh), (1, .int 0), (2, .int 42)] → W p l e rm_k_copy42 s m args below meth c H locs 0 0 Q (F0 m 2 ls []) := by
    intro n
    induction n with
    | zero =>
      intro k hk H locs ls hP hD hS hl
      obtain rfl : k = 42 := by omega
      refine lv_iload_n hx hb dX10_copy_2 rfl (lv_at hl 0 rfl) ?_
      refine lv_bipush (v := 42) hx hb dX10_copy_3 (by decide) ?_
      refine lv_icmp_ge (tgt := 30) hx hb dX10_copy_5 (by decide) (fun c_2 => ?_) (fun c_2 => absurd (by decide +kernel) c_2)
      exact hret () _ _ _ _ dX10_copy_30 trivial (cutP (isC := [0, 1]) hP rfl) (cutD (isC := [0, 1]) hD rfl rfl) hS
    | succ n ih_lp_1 =>
      intro k hk H locs ls hP hD hS hl
      have hkN_lp_1 : k < 42 := by omega
      refine lv_iload_n hx hb dX10_copy_2 rfl (lv_at hl 0 rfl) ?_
      refine lv_bipush (v := 42) hx hb dX10_copy_3 (by decide) ?_
      refine lv_icmp_ge (tgt := 30) hx hb dX10_copy_5 (by decide) (fun c_3 => absurd c_3 (nI_ge hkN_lp_1 (by decide))) (fun c_3 => ?_)
      refine lv_aload_n hx hb dX10_copy_8 rfl (lv_at hl 1 rfl) ?_
      refine va_get (D := D) (ci := 10) (v := .ref yq1) (C := RX10) (T := TX10) (N := 45) hx hb hts iX10 hown hK hP 0 rfl rfl 0 (by decide) (hts _ wd_269) (fun _ h9 => h9) rfl dX10_copy_9 ?_
      refine lv_iload_n hx hb dX10_copy_12 rfl (lv_at hl 3 rfl) ?_
      refine lv_iload_n hx hb dX10_copy_13 rfl (lv_at hl 0 rfl) ?_
      refine lv_iadd hx hb dX10_copy_14 ?_
      refine lv_aload_n hx hb dX10_copy_15 rfl (lv_at hl 1 rfl) ?_
      refine va_get (D := D) (ci := 10) (v := .ref yq1) (C := RX10) (T := TX10) (N := 45) hx hb hts iX10 hown hK hP 0 rfl rfl 0 (by decide) (hts _ wd_269) (fun _ h9 => h9) rfl dX10_copy_16 ?_
      refine lv_iload_n hx hb dX10_copy_19 rfl (lv_at hl 2 rfl) ?_
      refine lv_iload_n hx hb dX10_copy_20 rfl (lv_at hl 0 rfl) ?_
      refine lv_iadd hx hb dX10_copy_21 ?_
      refine va_iald hx hb hK hP 1 0 rfl rfl (inadd 0 (show 0 + k < 1302 by omega) (by decide)) dX10_copy_22 ?_
      refine va_iast hx hb hK hP hD hS 1 0 rfl rfl (inadd 42 (show 42 + k < 1302 by omega) (by decide)) dX10_copy_23 (fun H locs hP hD hS => ?_)
      have hP : va_P D classes [(yh, .inr (10, [.ref yq1, .ref yq2, .int 0, .int 0, .int 1, .int 0, .int 0, .int 0, .ref yq3, .ref yq4, .ref yq5, .ref yq6, .ref yq7, .ref yq8, .int 0, .int 0, .int 0, .int 0, .int 0, .int (-1), .int 0, .int 0, .int 0, .int 0, .int 0, .int 0, .int 0, .ref yq9, .ref yq10, .ref yq11, .ref yq12, .ref yq13, .int 0, .int 0, .int 0, .int 0, .ref yq14, .ref yq15, .ref yq16, .ref yq17, .int 0, .int 0, .int 0, .ref yq18, .ref yq19])), (yq1, .inl (cI, 1302, .inl (upd (wP 42 (upd (wC z0 7) (41 : Int32).toNatClampNeg (z0 (41 : Int32).toNatClampNeg)) k) ((42 + (nI k)) : Int32).toNatClampNeg ((wP 42 (upd (wC z0 7) (41 : Int32).toNatClampNeg (z0 (41 : Int32).toNatClampNeg)) k) ((0 + (nI k)) : Int32).toNatClampNeg))))] H := hP
      have hD : va_D A [(yh, .inr (10, [.ref yq1, .ref yq2, .int 0, .int 0, .int 1, .int 0, .int 0, .int 0, .ref yq3, .ref yq4, .ref yq5, .ref yq6, .ref yq7, .ref yq8, .int 0, .int 0, .int 0, .int 0, .int 0, .int (-1), .int 0, .int 0, .int 0, .int 0, .int 0, .int 0, .int 0, .ref yq9, .ref yq10, .ref yq11, .ref yq12, .ref yq13, .int 0, .int 0, .int 0, .int 0, .ref yq14, .ref yq15, .ref yq16, .ref yq17, .int 0, .int 0, .int 0, .ref yq18, .ref yq19])), (yq1, .inl (cI, 1302, .inl (upd (wP 42 (upd (wC z0 7) (41 : Int32).toNatClampNeg (z0 (41 : Int32).toNatClampNeg)) k) ((42 + (nI k)) : Int32).toNatClampNeg ((wP 42 (upd (wC z0 7) (41 : Int32).toNatClampNeg (z0 (41 : Int32).toNatClampNeg)) k) ((0 + (nI k)) : Int32).toNatClampNeg))))] := hD
      refine lv_iinc (v := (nI (k + 1))) (lv' := [(3, .int (nI (k + 1))), (0, .ref yh), (1, .int 0), (2, .int 42)]) hx hb dX10_copy_24 hl (k := 0) rfl (nI_1 k) (by decide) rfl (fun ls hl => ?_)
      refine lv_goto (tgt := 2) hx hb dX10_copy_27 (by decide) ?_
      exact ih_lp_1 (k + 1) (by omega) _ _ ls hP hD hS (lv_sub hl [0, 1, 2, 3] rfl)
  exact lp_1 42 0 (by omega) _ _ ls hP hD hS hl
def rm_k_copy378 : Room := { frames := 0, cells := 0, slots := 0, locals := 0 }
set_option maxHeartbeats 4000000 in
set_option maxRecDepth 100000 in
theorem k_copy378 {l : Launch} {D : va_G} {cI cZ : ClassId} {sz : Nat} (yh yq1 yq2 yq3 yq4 yq5 yq6 yq7 yq8 yq9 yq10 yq11 yq12 yq13 yq14 yq15 yq16 yq17 yq18 yq19 : Nat) : KV l yX10_copy cX10_copy 4 rm_k_copy378 D cI cZ [.ref yh, .int 0, .int 378] sz [(yh, .inr (10, [.ref yq1, .ref yq2, .int 0, .int 0, .int 1, .int 0, .int 0, .int 0, .ref yq3, .ref yq4, .ref yq5, .ref yq6, .ref yq7, .ref yq8, .int 0, .int 0, .int 0, .int 0, .int 0, .int (-1), .int 0, .int 0, .int 0, .int 0, .int 0, .int 0, .int 0, .ref yq9, .ref yq10, .ref yq11, .ref yq12, .ref yq13, .int 0, .int 0, .int 0, .int 0, .ref yq14, .ref yq15, .ref yq16, .ref yq17, .int 0, .int 0, .int 0, .ref yq18, .ref yq19])), (yq1, .inl (cI, 1302, .inl (upd (wC z0 7) (41 : Int32).toNatClampNeg (z0 (41 : Int32).toNatClampNeg))))] (fun (_ : Unit) => True) (fun (_ : Unit) => [(yh, .inr (10, [.ref yq1, .ref yq2, .int 0, .int 0, .int 1, .int 0, .int 0, .int 0, .ref yq3, .ref yq4, .ref yq5, .ref yq6, .ref yq7, .ref yq8, .int 0, .int 0, .int 0, .int 0, .int 0, .int (-1), .int 0, .int 0, .int 0, .int 0, .int 0, .int 0, .int 0, .ref yq9, .ref yq10, .ref yq11, .ref yq12, .ref yq13, .int 0, .int 0, .int 0, .int 0, .ref yq14, .ref yq15, .ref yq16, .ref yq17, .int 0, .int 0, .int 0, .ref yq18, .ref yq19])), (yq1, .inl (cI, 1302, .inl (wP 378 (upd (wC z0 7) (41 : Int32).toNatClampNeg (z0 (41 : Int32).toNatClampNeg)) 42)))]) := by
  refine KV.go rfl (Nat.le_of_ble_eq_true rfl) ?_
  intro p e s m args below meth c ls A Q hx hb hml hts hown hin hP hK hD hS hA hN hl hret
  have hl : lv_has ls 4 [(0, .ref yh), (1, .int 0), (2, .int 378)] := hl
  refine lv_iconst (v := 0) hx hb dX10_copy_0 (by decide) ?_
  refine lv_istore_n (lv' := [(3, .int 0), (0, .ref yh), (1, .int 0), (2, .int 378)]) hx hb dX10_copy_1 rfl hl (by decide) rfl (fun ls hl => ?_)
  have lp_1 : ∀ (n k : Nat), k + n = 42 → ∀ (H : Heap) (locs : List Loc) (ls : Array Slot), va_P D classes [(yh, .inr (10, [.ref yq1, .ref yq2, .int 0, .int 0, .int 1, .int 0, .int 0, .int 0, .ref yq3, .ref yq4, .ref yq5, .ref yq6, .ref yq7, .ref yq8, .int 0, .int 0, .int 0, .int 0, .int 0, .int (-1), .int 0, .int 0, .int 0, .int 0, .int 0, .int 0, .int 0, .ref yq9, .ref yq10, .ref yq11, .ref yq12, .ref yq13, .int 0, .int 0, .int 0, .int 0, .ref yq14, .ref yq15, .ref yq16, .ref yq17, .int 0, .int 0, .int 0, .ref yq18, .ref yq19])), (yq1, .inl (cI, 1302, .inl (wP 378 (upd (wC z0 7) (41 : Int32).toNatClampNeg (z0 (41 : Int32).toNatClampNeg)) k)))] H → va_D A [(yh, .inr (10, [.ref yq1, .ref yq2, .int 0, .int 0, .int 1, .int 0, .int 0, .int 0, .ref yq3, .ref yq4, .ref yq5, .ref yq6, .ref yq7, .ref yq8, .int 0, .int 0, .int 0, .int 0, .int 0, .int (-1), .int 0, .int 0, .int 0, .int 0, .int 0, .int 0, .int 0, .ref yq9, .ref yq10, .ref yq11, .ref yq12, .ref yq13, .int 0, .int 0, .int 0, .int 0, .ref yq14, .ref yq15, .ref yq16, .ref yq17, .int 0, .int 0, .int 0, .ref yq18, .ref yq19])), (yq1, .inl (cI, 1302, .inl (wP 378 (upd (wC z0 7) (41 : Int32).toNatClampNeg (z0 (41 : Int32).toNatClampNeg)) k)))] → va_S A s.heap H locs → lv_has ls 4 [(3, .int (nI k)), (0, .ref yh), (1, .int 0), (2, .int 378)] → W p l e rm_k_copy378 s m args below meth c H locs 0 0 Q (F0 m 2 ls []) := by
    intro n
    induction n with
    | zero =>
      intro k hk H locs ls hP hD hS hl
      obtain rfl : k = 42 := by omega
      refine lv_iload_n hx hb dX10_copy_2 rfl (lv_at hl 0 rfl) ?_
      refine lv_bipush (v := 42) hx hb dX10_copy_3 (by decide) ?_
      refine lv_icmp_ge (tgt := 30) hx hb dX10_copy_5 (by decide) (fun c_2 => ?_) (fun c_2 => absurd (by decide +kernel) c_2)
      exact hret () _ _ _ _ dX10_copy_30 trivial (cutP (isC := [0, 1]) hP rfl) (cutD (isC := [0, 1]) hD rfl rfl) hS
    | succ n ih_lp_1 =>
      intro k hk H locs ls hP hD hS hl
      have hkN_lp_1 : k < 42 := by omega
      refine lv_iload_n hx hb dX10_copy_2 rfl (lv_at hl 0 rfl) ?_
      refine lv_bipush (v := 42) hx hb dX10_copy_3 (by decide) ?_
      refine lv_icmp_ge (tgt := 30) hx hb dX10_copy_5 (by decide) (fun c_3 => absurd c_3 (nI_ge hkN_lp_1 (by decide))) (fun c_3 => ?_)
      refine lv_aload_n hx hb dX10_copy_8 rfl (lv_at hl 1 rfl) ?_
      refine va_get (D := D) (ci := 10) (v := .ref yq1) (C := RX10) (T := TX10) (N := 45) hx hb hts iX10 hown hK hP 0 rfl rfl 0 (by decide) (hts _ wd_269) (fun _ h9 => h9) rfl dX10_copy_9 ?_
      refine lv_iload_n hx hb dX10_copy_12 rfl (lv_at hl 3 rfl) ?_
      refine lv_iload_n hx hb dX10_copy_13 rfl (lv_at hl 0 rfl) ?_
      refine lv_iadd hx hb dX10_copy_14 ?_
      refine lv_aload_n hx hb dX10_copy_15 rfl (lv_at hl 1 rfl) ?_
      refine va_get (D := D) (ci := 10) (v := .ref yq1) (C := RX10) (T := TX10) (N := 45) hx hb hts iX10 hown hK hP 0 rfl rfl 0 (by decide) (hts _ wd_269) (fun _ h9 => h9) rfl dX10_copy_16 ?_
      refine lv_iload_n hx hb dX10_copy_19 rfl (lv_at hl 2 rfl) ?_
      refine lv_iload_n hx hb dX10_copy_20 rfl (lv_at hl 0 rfl) ?_
      refine lv_iadd hx hb dX10_copy_21 ?_
      refine va_iald hx hb hK hP 1 0 rfl rfl (inadd 0 (show 0 + k < 1302 by omega) (by decide)) dX10_copy_22 ?_
      refine va_iast hx hb hK hP hD hS 1 0 rfl rfl (inadd 378 (show 378 + k < 1302 by omega) (by decide)) dX10_copy_23 (fun H locs hP hD hS => ?_)
      have hP : va_P D classes [(yh, .inr (10, [.ref yq1, .ref yq2, .int 0, .int 0, .int 1, .int 0, .int 0, .int 0, .ref yq3, .ref yq4, .ref yq5, .ref yq6, .ref yq7, .ref yq8, .int 0, .int 0, .int 0, .int 0, .int 0, .int (-1), .int 0, .int 0, .int 0, .int 0, .int 0, .int 0, .int 0, .ref yq9, .ref yq10, .ref yq11, .ref yq12, .ref yq13, .int 0, .int 0, .int 0, .int 0, .ref yq14, .ref yq15, .ref yq16, .ref yq17, .int 0, .int 0, .int 0, .ref yq18, .ref yq19])), (yq1, .inl (cI, 1302, .inl (upd (wP 378 (upd (wC z0 7) (41 : Int32).toNatClampNeg (z0 (41 : Int32).toNatClampNeg)) k) ((378 + (nI k)) : Int32).toNatClampNeg ((wP 378 (upd (wC z0 7) (41 : Int32).toNatClampNeg (z0 (41 : Int32).toNatClampNeg)) k) ((0 + (nI k)) : Int32).toNatClampNeg))))] H := hP
      have hD : va_D A [(yh, .inr (10, [.ref yq1, .ref yq2, .int 0, .int 0, .int 1, .int 0, .int 0, .int 0, .ref yq3, .ref yq4, .ref yq5, .ref yq6, .ref yq7, .ref yq8, .int 0, .int 0, .int 0, .int 0, .int 0, .int (-1), .int 0, .int 0, .int 0, .int 0, .int 0, .int 0, .int 0, .ref yq9, .ref yq10, .ref yq11, .ref yq12, .ref yq13, .int 0, .int 0, .int 0, .int 0, .ref yq14, .ref yq15, .ref yq16, .ref yq17, .int 0, .int 0, .int 0, .ref yq18, .ref yq19])), (yq1, .inl (cI, 1302, .inl (upd (wP 378 (upd (wC z0 7) (41 : Int32).toNatClampNeg (z0 (41 : Int32).toNatClampNeg)) k) ((378 + (nI k)) : Int32).toNatClampNeg ((wP 378 (upd (wC z0 7) (41 : Int32).toNatClampNeg (z0 (41 : Int32).toNatClampNeg)) k) ((0 + (nI k)) : Int32).toNatClampNeg))))] := hD
      refine lv_iinc (v := (nI (k + 1))) (lv' := [(3, .int (nI (k + 1))), (0, .ref yh), (1, .int 0), (2, .int 378)]) hx hb dX10_copy_24 hl (k := 0) rfl (nI_1 k) (by decide) rfl (fun ls hl => ?_)
      refine lv_goto (tgt := 2) hx hb dX10_copy_27 (by decide) ?_
      exact ih_lp_1 (k + 1) (by omega) _ _ ls hP hD hS (lv_sub hl [0, 1, 2, 3] rfl)
  exact lp_1 42 0 (by omega) _ _ ls hP hD hS hl
def rm_k_copy420 : Room := { frames := 0, cells := 0, slots := 0, locals := 0 }
set_option maxHeartbeats 4000000 in
set_option maxRecDepth 100000 in
theorem k_copy420 {l : Launch} {D : va_G} {cI cZ : ClassId} {sz : Nat} (yh yq1 yq2 yq3 yq4 yq5 yq6 yq7 yq8 yq9 yq10 yq11 yq12 yq13 yq14 yq15 yq16 yq17 yq18 yq19 : Nat) : KV l yX10_copy cX10_copy 4 rm_k_copy420 D cI cZ [.ref yh, .int 0, .int 420] sz [(yh, .inr (10, [.ref yq1, .ref yq2, .int 0, .int 0, .int 1, .int 0, .int 0, .int 0, .ref yq3, .ref yq4, .ref yq5, .ref yq6, .ref yq7, .ref yq8, .int 0, .int 0, .int 0, .int 0, .int 0, .int (-1), .int 0, .int 0, .int 0, .int 0, .int 0, .int 0, .int 0, .ref yq9, .ref yq10, .ref yq11, .ref yq12, .ref yq13, .int 0, .int 0, .int 0, .int 0, .ref yq14, .ref yq15, .ref yq16, .ref yq17, .int 0, .int 0, .int 0, .ref yq18, .ref yq19])), (yq1, .inl (cI, 1302, .inl (upd (wC z0 7) (41 : Int32).toNatClampNeg (z0 (41 : Int32).toNatClampNeg))))] (fun (_ : Unit) => True) (fun (_ : Unit) => [(yh, .inr (10, [.ref yq1, .ref yq2, .int 0, .int 0, .int 1, .int 0, .int 0, .int 0, .ref yq3, .ref yq4, .ref yq5, .ref yq6, .ref yq7, .ref yq8, .int 0, .int 0, .int 0, .int 0, .int 0, .int (-1), .int 0, .int 0, .int 0, .int 0, .int 0, .int 0, .int 0, .ref yq9, .ref yq10, .ref yq11, .ref yq12, .ref yq13, .int 0, .int 0, .int 0, .int 0, .ref yq14, .ref yq15, .ref yq16, .ref yq17, .int 0, .int 0, .int 0, .ref yq18, .ref yq19])), (yq1, .inl (cI, 1302, .inl (wP 420 (upd (wC z0 7) (41 : Int32).toNatClampNeg (z0 (41 : Int32).toNatClampNeg)) 42)))]) := by
  refine KV.go rfl (Nat.le_of_ble_eq_true rfl) ?_
  intro p e s m args below meth c ls A Q hx hb hml hts hown hin hP hK hD hS hA hN hl hret
  have hl : lv_has ls 4 [(0, .ref yh), (1, .int 0), (2, .int 420)] := hl
  refine lv_iconst (v := 0) hx hb dX10_copy_0 (by decide) ?_
  refine lv_istore_n (lv' := [(3, .int 0), (0, .ref yh), (1, .int 0), (2, .int 420)]) hx hb dX10_copy_1 rfl hl (by decide) rfl (fun ls hl => ?_)
  have lp_1 : ∀ (n k : Nat), k + n = 42 → ∀ (H : Heap) (locs : List Loc) (ls : Array Slot), va_P D classes [(yh, .inr (10, [.ref yq1, .ref yq2, .int 0, .int 0, .int 1, .int 0, .int 0, .int 0, .ref yq3, .ref yq4, .ref yq5, .ref yq6, .ref yq7, .ref yq8, .int 0, .int 0, .int 0, .int 0, .int 0, .int (-1), .int 0, .int 0, .int 0, .int 0, .int 0, .int 0, .int 0, .ref yq9, .ref yq10, .ref yq11, .ref yq12, .ref yq13, .int 0, .int 0, .int 0, .int 0, .ref yq14, .ref yq15, .ref yq16, .ref yq17, .int 0, .int 0, .int 0, .ref yq18, .ref yq19])), (yq1, .inl (cI, 1302, .inl (wP 420 (upd (wC z0 7) (41 : Int32).toNatClampNeg (z0 (41 : Int32).toNatClampNeg)) k)))] H → va_D A [(yh, .inr (10, [.ref yq1, .ref yq2, .int 0, .int 0, .int 1, .int 0, .int 0, .int 0, .ref yq3, .ref yq4, .ref yq5, .ref yq6, .ref yq7, .ref yq8, .int 0, .int 0, .int 0, .int 0, .int 0, .int (-1), .int 0, .int 0, .int 0, .int 0, .int 0, .int 0, .int 0, .ref yq9, .ref yq10, .ref yq11, .ref yq12, .ref yq13, .int 0, .int 0, .int 0, .int 0, .ref yq14, .ref yq15, .ref yq16, .ref yq17, .int 0, .int 0, .int 0, .ref yq18, .ref yq19])), (yq1, .inl (cI, 1302, .inl (wP 420 (upd (wC z0 7) (41 : Int32).toNatClampNeg (z0 (41 : Int32).toNatClampNeg)) k)))] → va_S A s.heap H locs → lv_has ls 4 [(3, .int (nI k)), (0, .ref yh), (1, .int 0), (2, .int 420)] → W p l e rm_k_copy420 s m args below meth c H locs 0 0 Q (F0 m 2 ls []) := by
    intro n
    induction n with
    | zero =>
      intro k hk H locs ls hP hD hS hl
      obtain rfl : k = 42 := by omega
      refine lv_iload_n hx hb dX10_copy_2 rfl (lv_at hl 0 rfl) ?_
      refine lv_bipush (v := 42) hx hb dX10_copy_3 (by decide) ?_
      refine lv_icmp_ge (tgt := 30) hx hb dX10_copy_5 (by decide) (fun c_2 => ?_) (fun c_2 => absurd (by decide +kernel) c_2)
      exact hret () _ _ _ _ dX10_copy_30 trivial (cutP (isC := [0, 1]) hP rfl) (cutD (isC := [0, 1]) hD rfl rfl) hS
    | succ n ih_lp_1 =>
      intro k hk H locs ls hP hD hS hl
      have hkN_lp_1 : k < 42 := by omega
      refine lv_iload_n hx hb dX10_copy_2 rfl (lv_at hl 0 rfl) ?_
      refine lv_bipush (v := 42) hx hb dX10_copy_3 (by decide) ?_
      refine lv_icmp_ge (tgt := 30) hx hb dX10_copy_5 (by decide) (fun c_3 => absurd c_3 (nI_ge hkN_lp_1 (by decide))) (fun c_3 => ?_)
      refine lv_aload_n hx hb dX10_copy_8 rfl (lv_at hl 1 rfl) ?_
      refine va_get (D := D) (ci := 10) (v := .ref yq1) (C := RX10) (T := TX10) (N := 45) hx hb hts iX10 hown hK hP 0 rfl rfl 0 (by decide) (hts _ wd_269) (fun _ h9 => h9) rfl dX10_copy_9 ?_
      refine lv_iload_n hx hb dX10_copy_12 rfl (lv_at hl 3 rfl) ?_
      refine lv_iload_n hx hb dX10_copy_13 rfl (lv_at hl 0 rfl) ?_
      refine lv_iadd hx hb dX10_copy_14 ?_
      refine lv_aload_n hx hb dX10_copy_15 rfl (lv_at hl 1 rfl) ?_
      refine va_get (D := D) (ci := 10) (v := .ref yq1) (C := RX10) (T := TX10) (N := 45) hx hb hts iX10 hown hK hP 0 rfl rfl 0 (by decide) (hts _ wd_269) (fun _ h9 => h9) rfl dX10_copy_16 ?_
      refine lv_iload_n hx hb dX10_copy_19 rfl (lv_at hl 2 rfl) ?_
      refine lv_iload_n hx hb dX10_copy_20 rfl (lv_at hl 0 rfl) ?_
      refine lv_iadd hx hb dX10_copy_21 ?_
      refine va_iald hx hb hK hP 1 0 rfl rfl (inadd 0 (show 0 + k < 1302 by omega) (by decide)) dX10_copy_22 ?_
      refine va_iast hx hb hK hP hD hS 1 0 rfl rfl (inadd 420 (show 420 + k < 1302 by omega) (by decide)) dX10_copy_23 (fun H locs hP hD hS => ?_)
      have hP : va_P D classes [(yh, .inr (10, [.ref yq1, .ref yq2, .int 0, .int 0, .int 1, .int 0, .int 0, .int 0, .ref yq3, .ref yq4, .ref yq5, .ref yq6, .ref yq7, .ref yq8, .int 0, .int 0, .int 0, .int 0, .int 0, .int (-1), .int 0, .int 0, .int 0, .int 0, .int 0, .int 0, .int 0, .ref yq9, .ref yq10, .ref yq11, .ref yq12, .ref yq13, .int 0, .int 0, .int 0, .int 0, .ref yq14, .ref yq15, .ref yq16, .ref yq17, .int 0, .int 0, .int 0, .ref yq18, .ref yq19])), (yq1, .inl (cI, 1302, .inl (upd (wP 420 (upd (wC z0 7) (41 : Int32).toNatClampNeg (z0 (41 : Int32).toNatClampNeg)) k) ((420 + (nI k)) : Int32).toNatClampNeg ((wP 420 (upd (wC z0 7) (41 : Int32).toNatClampNeg (z0 (41 : Int32).toNatClampNeg)) k) ((0 + (nI k)) : Int32).toNatClampNeg))))] H := hP
      have hD : va_D A [(yh, .inr (10, [.ref yq1, .ref yq2, .int 0, .int 0, .int 1, .int 0, .int 0, .int 0, .ref yq3, .ref yq4, .ref yq5, .ref yq6, .ref yq7, .ref yq8, .int 0, .int 0, .int 0, .int 0, .int 0, .int (-1), .int 0, .int 0, .int 0, .int 0, .int 0, .int 0, .int 0, .ref yq9, .ref yq10, .ref yq11, .ref yq12, .ref yq13, .int 0, .int 0, .int 0, .int 0, .ref yq14, .ref yq15, .ref yq16, .ref yq17, .int 0, .int 0, .int 0, .ref yq18, .ref yq19])), (yq1, .inl (cI, 1302, .inl (upd (wP 420 (upd (wC z0 7) (41 : Int32).toNatClampNeg (z0 (41 : Int32).toNatClampNeg)) k) ((420 + (nI k)) : Int32).toNatClampNeg ((wP 420 (upd (wC z0 7) (41 : Int32).toNatClampNeg (z0 (41 : Int32).toNatClampNeg)) k) ((0 + (nI k)) : Int32).toNatClampNeg))))] := hD
      refine lv_iinc (v := (nI (k + 1))) (lv' := [(3, .int (nI (k + 1))), (0, .ref yh), (1, .int 0), (2, .int 420)]) hx hb dX10_copy_24 hl (k := 0) rfl (nI_1 k) (by decide) rfl (fun ls hl => ?_)
      refine lv_goto (tgt := 2) hx hb dX10_copy_27 (by decide) ?_
      exact ih_lp_1 (k + 1) (by omega) _ _ ls hP hD hS (lv_sub hl [0, 1, 2, 3] rfl)
  exact lp_1 42 0 (by omega) _ _ ls hP hD hS hl
def rm_k_findOrder : Room := { frames := 1, cells := 0, slots := 0, locals := 23 }
set_option maxHeartbeats 4000000 in
set_option maxRecDepth 100000 in
theorem k_findOrder {l : Launch} {D : va_G} {cI cZ : ClassId} {sz : Nat} (yh yq1 yq2 yq3 yq4 yq5 yq6 yq7 yq8 yq9 yq10 yq11 yq12 yq13 yq14 yq15 yq16 yq17 yq18 yq19 : Nat) : KV l yX10_findOrder cX10_findOrder 6 rm_k_findOrder D cI cZ [.ref yh] sz [(yh, .inr (10, [.ref yq1, .ref yq2, .int 0, .int 0, .int 1, .int 0, .int 0, .int 0, .ref yq3, .ref yq4, .ref yq5, .ref yq6, .ref yq7, .ref yq8, .int 0, .int 0, .int 0, .int 0, .int 0, .int (-1), .int 0, .int 0, .int 0, .int 0, .int 0, .int 0, .int 0, .ref yq9, .ref yq10, .ref yq11, .ref yq12, .ref yq13, .int 0, .int 0, .int 0, .int 0, .ref yq14, .ref yq15, .ref yq16, .ref yq17, .int 0, .int 0, .int 0, .ref yq18, .ref yq19])), (yq1, .inl (cI, 1302, .inl (upd (wC z0 7) (41 : Int32).toNatClampNeg (z0 (41 : Int32).toNatClampNeg)))), (yq16, .inl (cI, 8, .inl z0))] (fun (_ : Unit) => True) (fun (_ : Unit) => [(yh, .inr (10, [.ref yq1, .ref yq2, .int 0, .int 0, .int 1, .int 0, .int 0, .int 0, .ref yq3, .ref yq4, .ref yq5, .ref yq6, .ref yq7, .ref yq8, .int 0, .int 0, .int 0, .int 0, .int 0, .int (-1), .int 0, .int 0, .int 0, .int 0, .int 0, .int 0, .int 0, .ref yq9, .ref yq10, .ref yq11, .ref yq12, .ref yq13, .int 0, .int 0, .int 0, .int 0, .ref yq14, .ref yq15, .ref yq16, .ref yq17, .int 0, .int 0, .int 0, .ref yq18, .ref yq19]))]) := by
  refine KV.go rfl (Nat.le_of_ble_eq_true rfl) ?_
  intro p e s m args below meth c ls A Q hx hb hml hts hown hin hP hK hD hS hA hN hl hret
  have hl : lv_has ls 6 [(0, .ref yh)] := hl
  refine lv_aload_n hx hb dX10_findOrder_0 rfl (lv_at hl 0 rfl) ?_
  refine lv_iconst (v := 0) hx hb dX10_findOrder_1 (by decide) ?_
  refine lv_bipush (v := 42) hx hb dX10_findOrder_2 (by decide) ?_
  refine cVv (wr := [(yq16, .inl (cI, 8, .inl z0))]) (rest := []) (k_copy42 yh yq1 yq2 yq3 yq4 yq5 yq6 yq7 yq8 yq9 yq10 yq11 yq12 yq13 yq14 yq15 yq16 yq17 yq18 yq19) okV_X10_copy wd_310 hx hb hml hown hts hK hP hD hS hA hN hl.1 [0, 1] [2] rfl rfl rfl rfl (by decide) rfl rfl rfl (Nat.le_of_ble_eq_true rfl) (Nat.le_of_ble_eq_true rfl) (Nat.le_of_ble_eq_true rfl) (Nat.le_of_ble_eq_true rfl) (Nat.le_of_ble_eq_true rfl) dX10_findOrder_4 (fun u_1 H locs hw_u_1 hP hD hS => ?_)
  have hP : va_P D classes [(yq16, .inl (cI, 8, .inl z0)), (yh, .inr (10, [.ref yq1, .ref yq2, .int 0, .int 0, .int 1, .int 0, .int 0, .int 0, .ref yq3, .ref yq4, .ref yq5, .ref yq6, .ref yq7, .ref yq8, .int 0, .int 0, .int 0, .int 0, .int 0, .int (-1), .int 0, .int 0, .int 0, .int 0, .int 0, .int 0, .int 0, .ref yq9, .ref yq10, .ref yq11, .ref yq12, .ref yq13, .int 0, .int 0, .int 0, .int 0, .ref yq14, .ref yq15, .ref yq16, .ref yq17, .int 0, .int 0, .int 0, .ref yq18, .ref yq19])), (yq1, .inl (cI, 1302, .inl (wP 42 (upd (wC z0 7) (41 : Int32).toNatClampNeg (z0 (41 : Int32).toNatClampNeg)) 42)))] H := hP
  have hD : va_D A [(yq16, .inl (cI, 8, .inl z0)), (yh, .inr (10, [.ref yq1, .ref yq2, .int 0, .int 0, .int 1, .int 0, .int 0, .int 0, .ref yq3, .ref yq4, .ref yq5, .ref yq6, .ref yq7, .ref yq8, .int 0, .int 0, .int 0, .int 0, .int 0, .int (-1), .int 0, .int 0, .int 0, .int 0, .int 0, .int 0, .int 0, .ref yq9, .ref yq10, .ref yq11, .ref yq12, .ref yq13, .int 0, .int 0, .int 0, .int 0, .ref yq14, .ref yq15, .ref yq16, .ref yq17, .int 0, .int 0, .int 0, .ref yq18, .ref yq19])), (yq1, .inl (cI, 1302, .inl (wP 42 (upd (wC z0 7) (41 : Int32).toNatClampNeg (z0 (41 : Int32).toNatClampNeg)) 42)))] := hD
  refine lv_aload_n hx hb dX10_findOrder_7 rfl (lv_at hl 0 rfl) ?_
  refine lv_iconst (v := 0) hx hb dX10_findOrder_8 (by decide) ?_
  refine va_put (D := D) (ci := 10) (v := .int 0) (ty := .int) (C := RX10) (T := TX10) (N := 45) hx hb hts iX10 tyX10 tyX10_ok nmX10 hown hK hP hD hS 1 rfl rfl 40 (by decide) (hts _ wd_314) (fun _ h9 => h9) rfl (by decide +kernel) rfl rfl (Nat.le_of_ble_eq_true rfl) dX10_findOrder_9 (fun H locs hP hD hS => ?_)
  have hP : va_P D classes [(yq16, .inl (cI, 8, .inl z0)), (yh, .inr (10, [.ref yq1, .ref yq2, .int 0, .int 0, .int 1, .int 0, .int 0, .int 0, .ref yq3, .ref yq4, .ref yq5, .ref yq6, .ref yq7, .ref yq8, .int 0, .int 0, .int 0, .int 0, .int 0, .int (-1), .int 0, .int 0, .int 0, .int 0, .int 0, .int 0, .int 0, .ref yq9, .ref yq10, .ref yq11, .ref yq12, .ref yq13, .int 0, .int 0, .int 0, .int 0, .ref yq14, .ref yq15, .ref yq16, .ref yq17, .int 0, .int 0, .int 0, .ref yq18, .ref yq19])), (yq1, .inl (cI, 1302, .inl (wP 42 (upd (wC z0 7) (41 : Int32).toNatClampNeg (z0 (41 : Int32).toNatClampNeg)) 42)))] H := hP
  have hD : va_D A [(yq16, .inl (cI, 8, .inl z0)), (yh, .inr (10, [.ref yq1, .ref yq2, .int 0, .int 0, .int 1, .int 0, .int 0, .int 0, .ref yq3, .ref yq4, .ref yq5, .ref yq6, .ref yq7, .ref yq8, .int 0, .int 0, .int 0, .int 0, .int 0, .int (-1), .int 0, .int 0, .int 0, .int 0, .int 0, .int 0, .int 0, .ref yq9, .ref yq10, .ref yq11, .ref yq12, .ref yq13, .int 0, .int 0, .int 0, .int 0, .ref yq14, .ref yq15, .ref yq16, .ref yq17, .int 0, .int 0, .int 0, .ref yq18, .ref yq19])), (yq1, .inl (cI, 1302, .inl (wP 42 (upd (wC z0 7) (41 : Int32).toNatClampNeg (z0 (41 : Int32).toNatClampNeg)) 42)))] := hD
  refine lv_aload_n hx hb dX10_findOrder_12 rfl (lv_at hl 0 rfl) ?_
  refine lv_iconst (v := 0) hx hb dX10_findOrder_13 (by decide) ?_
  refine va_put (D := D) (ci := 10) (v := .int 0) (ty := .int) (C := RX10) (T := TX10) (N := 45) hx hb hts iX10 tyX10 tyX10_ok nmX10 hown hK hP hD hS 1 rfl rfl 41 (by decide) (hts _ wd_315) (fun _ h9 => h9) rfl (by decide +kernel) rfl rfl (Nat.le_of_ble_eq_true rfl) dX10_findOrder_14 (fun H locs hP hD hS => ?_)
  have hP : va_P D classes [(yq16, .inl (cI, 8, .inl z0)), (yh, .inr (10, [.ref yq1, .ref yq2, .int 0, .int 0, .int 1, .int 0, .int 0, .int 0, .ref yq3, .ref yq4, .ref yq5, .ref yq6, .ref yq7, .ref yq8, .int 0, .int 0, .int 0, .int 0, .int 0, .int (-1), .int 0, .int 0, .int 0, .int 0, .int 0, .int 0, .int 0, .ref yq9, .ref yq10, .ref yq11, .ref yq12, .ref yq13, .int 0, .int 0, .int 0, .int 0, .ref yq14, .ref yq15, .ref yq16, .ref yq17, .int 0, .int 0, .int 0, .ref yq18, .ref yq19])), (yq1, .inl (cI, 1302, .inl (wP 42 (upd (wC z0 7) (41 : Int32).toNatClampNeg (z0 (41 : Int32).toNatClampNeg)) 42)))] H := hP
  have hD : va_D A [(yq16, .inl (cI, 8, .inl z0)), (yh, .inr (10, [.ref yq1, .ref yq2, .int 0, .int 0, .int 1, .int 0, .int 0, .int 0, .ref yq3, .ref yq4, .ref yq5, .ref yq6, .ref yq7, .ref yq8, .int 0, .int 0, .int 0, .int 0, .int 0, .int (-1), .int 0, .int 0, .int 0, .int 0, .int 0, .int 0, .int 0, .ref yq9, .ref yq10, .ref yq11, .ref yq12, .ref yq13, .int 0, .int 0, .int 0, .int 0, .ref yq14, .ref yq15, .ref yq16, .ref yq17, .int 0, .int 0, .int 0, .ref yq18, .ref yq19])), (yq1, .inl (cI, 1302, .inl (wP 42 (upd (wC z0 7) (41 : Int32).toNatClampNeg (z0 (41 : Int32).toNatClampNeg)) 42)))] := hD
  refine lv_iconst (v := 0) hx hb dX10_findOrder_17 (by decide) ?_
  refine lv_istore_n (lv' := [(1, .int 0), (0, .ref yh)]) hx hb dX10_findOrder_18 rfl hl (by decide) rfl (fun ls hl => ?_)
  refine lv_iconst (v := 0) hx hb dX10_findOrder_19 (by decide) ?_
  refine lv_istore_n (lv' := [(2, .int 0), (1, .int 0), (0, .ref yh)]) hx hb dX10_findOrder_20 rfl hl (by decide) rfl (fun ls hl => ?_)
  refine lv_aload_n hx hb dX10_findOrder_21 rfl (lv_at hl 2 rfl) ?_
  refine va_get (D := D) (ci := 10) (v := .ref yq16) (C := RX10) (T := TX10) (N := 45) hx hb hts iX10 hown hK hP 1 rfl rfl 38 (by decide) (hts _ wd_289) (fun _ h9 => h9) rfl dX10_findOrder_22 ?_
  refine lv_iconst (v := 0) hx hb dX10_findOrder_25 (by decide) ?_
  refine lv_iconst (v := (-1)) hx hb dX10_findOrder_26 (by decide) ?_
  refine va_iast hx hb hK hP hD hS 0 0 rfl rfl (show ¬ ((0 : Int32) < 0 ∨ 8 ≤ (0 : Int32).toNatClampNeg) by decide +kernel) dX10_findOrder_27 (fun H locs hP hD hS => ?_)
  have hP : va_P D classes [(yq16, .inl (cI, 8, .inl (upd z0 (0 : Int32).toNatClampNeg (-1)))), (yh, .inr (10, [.ref yq1, .ref yq2, .int 0, .int 0, .int 1, .int 0, .int 0, .int 0, .ref yq3, .ref yq4, .ref yq5, .ref yq6, .ref yq7, .ref yq8, .int 0, .int 0, .int 0, .int 0, .int 0, .int (-1), .int 0, .int 0, .int 0, .int 0, .int 0, .int 0, .int 0, .ref yq9, .ref yq10, .ref yq11, .ref yq12, .ref yq13, .int 0, .int 0, .int 0, .int 0, .ref yq14, .ref yq15, .ref yq16, .ref yq17, .int 0, .int 0, .int 0, .ref yq18, .ref yq19])), (yq1, .inl (cI, 1302, .inl (wP 42 (upd (wC z0 7) (41 : Int32).toNatClampNeg (z0 (41 : Int32).toNatClampNeg)) 42)))] H := hP
  have hD : va_D A [(yq16, .inl (cI, 8, .inl (upd z0 (0 : Int32).toNatClampNeg (-1)))), (yh, .inr (10, [.ref yq1, .ref yq2, .int 0, .int 0, .int 1, .int 0, .int 0, .int 0, .ref yq3, .ref yq4, .ref yq5, .ref yq6, .ref yq7, .ref yq8, .int 0, .int 0, .int 0, .int 0, .int 0, .int (-1), .int 0, .int 0, .int 0, .int 0, .int 0, .int 0, .int 0, .ref yq9, .ref yq10, .ref yq11, .ref yq12, .ref yq13, .int 0, .int 0, .int 0, .int 0, .ref yq14, .ref yq15, .ref yq16, .ref yq17, .int 0, .int 0, .int 0, .ref yq18, .ref yq19])), (yq1, .inl (cI, 1302, .inl (wP 42 (upd (wC z0 7) (41 : Int32).toNatClampNeg (z0 (41 : Int32).toNatClampNeg)) 42)))] := hD
  refine lv_iload_n hx hb dX10_findOrder_28 rfl (lv_at hl 1 rfl) ?_
  refine lv_if_lt (tgt := 289) hx hb dX10_findOrder_29 (by decide) (fun c_3 => absurd c_3 (by decide +kernel)) (fun c_3 => ?_)
  refine lv_bipush (v := 42) hx hb dX10_findOrder_32 (by decide) ?_
  refine lv_bipush (v := 42) hx hb dX10_findOrder_34 (by decide) ?_
  refine lv_iload_n hx hb dX10_findOrder_36 rfl (lv_at hl 1 rfl) ?_
  refine lv_imul hx hb dX10_findOrder_37 ?_
  refine lv_topi (fun z_4 ez_4 => ?_)
  obtain rfl : z_4 = 0 := ez_4.trans (by decide +kernel)
  refine lv_iadd hx hb dX10_findOrder_38 ?_
  refine lv_topi (fun z_5 ez_5 => ?_)
  obtain rfl : z_5 = 42 := ez_5.trans (by decide +kernel)
  refine lv_istore_n (lv' := [(3, .int 42), (2, .int 0), (1, .int 0), (0, .ref yh)]) hx hb dX10_findOrder_39 rfl hl (by decide) rfl (fun ls hl => ?_)
  refine lv_aload_n hx hb dX10_findOrder_40 rfl (lv_at hl 3 rfl) ?_
  refine va_get (D := D) (ci := 10) (v := .ref yq16) (C := RX10) (T := TX10) (N := 45) hx hb hts iX10 hown hK hP 1 rfl rfl 38 (by decide) (hts _ wd_289) (fun _ h9 => h9) rfl dX10_findOrder_41 ?_
  refine lv_iload_n hx hb dX10_findOrder_44 rfl (lv_at hl 2 rfl) ?_
  refine lv_dup2_11 hx hb dX10_findOrder_45 rfl rfl ?_
  refine va_iald hx hb hK hP 0 0 rfl rfl (show ¬ ((0 : Int32) < 0 ∨ 8 ≤ (0 : Int32).toNatClampNeg) by decide +kernel) dX10_findOrder_46 ?_
  refine lv_topi (fun z_6 ez_6 => ?_)
  obtain rfl : z_6 = (-1) := ez_6.trans (by decide +kernel)
  refine lv_iconst (v := 1) hx hb dX10_findOrder_47 (by decide) ?_
  refine lv_iadd hx hb dX10_findOrder_48 ?_
  refine lv_topi (fun z_7 ez_7 => ?_)
  obtain rfl : z_7 = 0 := ez_7.trans (by decide +kernel)
  refine va_iast hx hb hK hP hD hS 0 0 rfl rfl (show ¬ ((0 : Int32) < 0 ∨ 8 ≤ (0 : Int32).toNatClampNeg) by decide +kernel) dX10_findOrder_49 (fun H locs hP hD hS => ?_)
  have hP : va_P D classes [(yq16, .inl (cI, 8, .inl (upd (upd z0 (0 : Int32).toNatClampNeg (-1)) (0 : Int32).toNatClampNeg 0))), (yh, .inr (10, [.ref yq1, .ref yq2, .int 0, .int 0, .int 1, .int 0, .int 0, .int 0, .ref yq3, .ref yq4, .ref yq5, .ref yq6, .ref yq7, .ref yq8, .int 0, .int 0, .int 0, .int 0, .int 0, .int (-1), .int 0, .int 0, .int 0, .int 0, .int 0, .int 0, .int 0, .ref yq9, .ref yq10, .ref yq11, .ref yq12, .ref yq13, .int 0, .int 0, .int 0, .int 0, .ref yq14, .ref yq15, .ref yq16, .ref yq17, .int 0, .int 0, .int 0, .ref yq18, .ref yq19])), (yq1, .inl (cI, 1302, .inl (wP 42 (upd (wC z0 7) (41 : Int32).toNatClampNeg (z0 (41 : Int32).toNatClampNeg)) 42)))] H := hP
  have hD : va_D A [(yq16, .inl (cI, 8, .inl (upd (upd z0 (0 : Int32).toNatClampNeg (-1)) (0 : Int32).toNatClampNeg 0))), (yh, .inr (10, [.ref yq1, .ref yq2, .int 0, .int 0, .int 1, .int 0, .int 0, .int 0, .ref yq3, .ref yq4, .ref yq5, .ref yq6, .ref yq7, .ref yq8, .int 0, .int 0, .int 0, .int 0, .int 0, .int (-1), .int 0, .int 0, .int 0, .int 0, .int 0, .int 0, .int 0, .ref yq9, .ref yq10, .ref yq11, .ref yq12, .ref yq13, .int 0, .int 0, .int 0, .int 0, .ref yq14, .ref yq15, .ref yq16, .ref yq17, .int 0, .int 0, .int 0, .ref yq18, .ref yq19])), (yq1, .inl (cI, 1302, .inl (wP 42 (upd (wC z0 7) (41 : Int32).toNatClampNeg (z0 (41 : Int32).toNatClampNeg)) 42)))] := hD
  refine lv_aload_n hx hb dX10_findOrder_50 rfl (lv_at hl 3 rfl) ?_
  refine va_get (D := D) (ci := 10) (v := .ref yq16) (C := RX10) (T := TX10) (N := 45) hx hb hts iX10 hown hK hP 1 rfl rfl 38 (by decide) (hts _ wd_289) (fun _ h9 => h9) rfl dX10_findOrder_51 ?_
  refine lv_iload_n hx hb dX10_findOrder_54 rfl (lv_at hl 2 rfl) ?_
  refine va_iald hx hb hK hP 0 0 rfl rfl (show ¬ ((0 : Int32) < 0 ∨ 8 ≤ (0 : Int32).toNatClampNeg) by decide +kernel) dX10_findOrder_55 ?_
  refine lv_topi (fun z_8 ez_8 => ?_)
  obtain rfl : z_8 = 0 := ez_8.trans (by decide +kernel)
  refine lv_aload_n hx hb dX10_findOrder_56 rfl (lv_at hl 3 rfl) ?_
  refine va_get (D := D) (ci := 10) (v := .int 0) (C := RX10) (T := TX10) (N := 45) hx hb hts iX10 hown hK hP 1 rfl rfl 6 (by decide) (hts _ wd_302) (fun _ h9 => h9) rfl dX10_findOrder_57 ?_
  refine lv_icmp_eq (tgt := 69) hx hb dX10_findOrder_60 (by decide) (fun c_9 => ?_) (fun c_9 => absurd (by decide +kernel) c_9)
  refine lv_iinc (v := (-1)) (lv' := [(1, .int (-1)), (3, .int 42), (2, .int 0), (0, .ref yh)]) hx hb dX10_findOrder_69 hl (k := 2) rfl (by decide +kernel) (by decide) rfl (fun ls hl => ?_)
  refine lv_iload_n hx hb dX10_findOrder_72 rfl (lv_at hl 2 rfl) ?_
  refine lv_iload_n hx hb dX10_findOrder_73 rfl (lv_at hl 0 rfl) ?_
  refine lv_if_lt (tgt := 109) hx hb dX10_findOrder_74 (by decide) (fun c_10 => ?_) (fun c_10 => absurd (by decide +kernel) c_10)
  refine lv_iconst (v := 0) hx hb dX10_findOrder_109 (by decide) ?_
  refine lv_isub hx hb dX10_findOrder_110 ?_
  refine lv_topi (fun z_11 ez_11 => ?_)
  obtain rfl : z_11 = 0 := ez_11.trans (by decide +kernel)
  refine lv_istore_n (lv' := [(2, .int 0), (1, .int (-1)), (3, .int 42), (0, .ref yh)]) hx hb dX10_findOrder_111 rfl hl (by decide) rfl (fun ls hl => ?_)
  refine lv_goto (tgt := 286) hx hb dX10_findOrder_112 (by decide) ?_
  refine lv_goto (tgt := 28) hx hb dX10_findOrder_286 (by decide) ?_
  refine lv_iload_n hx hb dX10_findOrder_28 rfl (lv_at hl 1 rfl) ?_
  refine lv_if_lt (tgt := 289) hx hb dX10_findOrder_29 (by decide) (fun c_12 => ?_) (fun c_12 => absurd (by decide +kernel) c_12)
  exact hret () _ _ _ _ dX10_findOrder_289 trivial (cutP (isC := [1]) hP rfl) (cutD (isC := [1]) hD rfl rfl) hS
def rm_k_m_feed : Room := { frames := 1, cells := 0, slots := 0, locals := 25 }
set_option maxHeartbeats 4000000 in
set_option maxRecDepth 100000 in
theorem k_m_feed {l : Launch} {D : va_G} {cI cZ : ClassId} {sz : Nat} (yh yq1 yq2 yq3 yq4 yq5 yq6 yq7 yq8 yq9 yq10 yq11 yq12 yq13 yq14 yq15 yq16 yq17 yq18 yq19 : Nat) (v : Int32) : KI l yX10_feed cX10_feed 2 (some .int) rm_k_m_feed D cI cZ [.ref yh, .int v] sz [(yh, .inr (10, [.ref yq1, .ref yq2, .int 0, .int 0, .int 1, .int 0, .int 0, .int 0, .ref yq3, .ref yq4, .ref yq5, .ref yq6, .ref yq7, .ref yq8, .int 0, .int 0, .int 0, .int 0, .int 0, .int (-1), .int 0, .int 0, .int 0, .int 0, .int 0, .int 0, .int 0, .ref yq9, .ref yq10, .ref yq11, .ref yq12, .ref yq13, .int 0, .int 0, .int 0, .int 0, .ref yq14, .ref yq15, .ref yq16, .ref yq17, .int 0, .int 0, .int 0, .ref yq18, .ref yq19])), (yq8, .inl (cI, 240, .inl z0))] (fun (r : Int32) (_ : Unit) => r = rg 0 255 v (-1000000002) 1) (fun (_ : Unit) => []) := by
  refine KI.go rfl (Nat.le_of_ble_eq_true rfl) ?_
  intro p e s m args below meth c ls A Q hx hb hml hts hown hin hP hK hD hS hA hN hl hret
  have hl : lv_has ls 2 [(0, .ref yh), (1, .int v)] := hl
  refine lv_iload_n hx hb dX10_feed_0 rfl (lv_at hl 1 rfl) ?_
  refine lv_i2l (v := v.toInt64) hx hb dX10_feed_1 rfl ?_
  refine lv_lconst (v := 0) hx hb dX10_feed_2 (by decide) ?_
  refine lv_ldc2 (v := 255) hx hb hown (hts _ wd_316) dX10_feed_3 ?_
  refine cSi (wr := [(yh, .inr (10, [.ref yq1, .ref yq2, .int 0, .int 0, .int 1, .int 0, .int 0, .int 0, .ref yq3, .ref yq4, .ref yq5, .ref yq6, .ref yq7, .ref yq8, .int 0, .int 0, .int 0, .int 0, .int 0, .int (-1), .int 0, .int 0, .int 0, .int 0, .int 0, .int 0, .int 0, .ref yq9, .ref yq10, .ref yq11, .ref yq12, .ref yq13, .int 0, .int 0, .int 0, .int 0, .ref yq14, .ref yq15, .ref yq16, .ref yq17, .int 0, .int 0, .int 0, .ref yq18, .ref yq19])), (yq8, .inl (cI, 240, .inl z0))]) (rest := []) (k_in v.toInt64 0 255) okS_X10_in wd_299 hx hb hml hown hts hK hP hD hS hA hN hl.1 [] [0, 1] rfl rfl rfl rfl (by decide) rfl (Nat.le_of_ble_eq_true rfl) (Nat.le_of_ble_eq_true rfl) (Nat.le_of_ble_eq_true rfl) (Nat.le_of_ble_eq_true rfl) (Nat.le_of_ble_eq_true rfl) dX10_feed_6 (fun r_2 u_1 H locs hw_u_1 hP hD hS => ?_)
  obtain rfl := hw_u_1
  have hP : va_P D classes [(yh, .inr (10, [.ref yq1, .ref yq2, .int 0, .int 0, .int 1, .int 0, .int 0, .int 0, .ref yq3, .ref yq4, .ref yq5, .ref yq6, .ref yq7, .ref yq8, .int 0, .int 0, .int 0, .int 0, .int 0, .int (-1), .int 0, .int 0, .int 0, .int 0, .int 0, .int 0, .int 0, .ref yq9, .ref yq10, .ref yq11, .ref yq12, .ref yq13, .int 0, .int 0, .int 0, .int 0, .ref yq14, .ref yq15, .ref yq16, .ref yq17, .int 0, .int 0, .int 0, .ref yq18, .ref yq19])), (yq8, .inl (cI, 240, .inl z0))] H := hP
  have hD : va_D A [(yh, .inr (10, [.ref yq1, .ref yq2, .int 0, .int 0, .int 1, .int 0, .int 0, .int 0, .ref yq3, .ref yq4, .ref yq5, .ref yq6, .ref yq7, .ref yq8, .int 0, .int 0, .int 0, .int 0, .int 0, .int (-1), .int 0, .int 0, .int 0, .int 0, .int 0, .int 0, .int 0, .ref yq9, .ref yq10, .ref yq11, .ref yq12, .ref yq13, .int 0, .int 0, .int 0, .int 0, .ref yq14, .ref yq15, .ref yq16, .ref yq17, .int 0, .int 0, .int 0, .ref yq18, .ref yq19])), (yq8, .inl (cI, 240, .inl z0))] := hD
  refine lv_if_ne (tgt := 15) hx hb dX10_feed_9 (by decide) (fun c_3 => ?_) (fun c_3 => ?_)
  · refine lv_aload_n hx hb dX10_feed_15 rfl (lv_at hl 0 rfl) ?_
    refine va_get (D := D) (ci := 10) (v := .int 0) (C := RX10) (T := TX10) (N := 45) hx hb hts iX10 hown hK hP 0 rfl rfl 14 (by decide) (hts _ wd_303) (fun _ h9 => h9) rfl dX10_feed_16 ?_
    refine lv_sipush (v := 240) hx hb dX10_feed_19 (by decide) ?_
    refine lv_icmp_ne (tgt := 28) hx hb dX10_feed_22 (by decide) (fun c_4 => ?_) (fun c_4 => absurd c_4 (by decide +kernel))
    refine lv_aload_n hx hb dX10_feed_28 rfl (lv_at hl 0 rfl) ?_
    refine va_get (D := D) (ci := 10) (v := .ref yq8) (C := RX10) (T := TX10) (N := 45) hx hb hts iX10 hown hK hP 0 rfl rfl 13 (by decide) (hts _ wd_280) (fun _ h9 => h9) rfl dX10_feed_29 ?_
    refine lv_aload_n hx hb dX10_feed_32 rfl (lv_at hl 0 rfl) ?_
    refine va_get (D := D) (ci := 10) (v := .int 0) (C := RX10) (T := TX10) (N := 45) hx hb hts iX10 hown hK hP 0 rfl rfl 14 (by decide) (hts _ wd_303) (fun _ h9 => h9) rfl dX10_feed_33 ?_
    refine lv_iload_n hx hb dX10_feed_36 rfl (lv_at hl 1 rfl) ?_
    refine va_iast hx hb hK hP hD hS 1 0 rfl rfl (show ¬ ((0 : Int32) < 0 ∨ 240 ≤ (0 : Int32).toNatClampNeg) by decide +kernel) dX10_feed_37 (fun H locs hP hD hS => ?_)
    have hP : va_P D classes [(yh, .inr (10, [.ref yq1, .ref yq2, .int 0, .int 0, .int 1, .int 0, .int 0, .int 0, .ref yq3, .ref yq4, .ref yq5, .ref yq6, .ref yq7, .ref yq8, .int 0, .int 0, .int 0, .int 0, .int 0, .int (-1), .int 0, .int 0, .int 0, .int 0, .int 0, .int 0, .int 0, .ref yq9, .ref yq10, .ref yq11, .ref yq12, .ref yq13, .int 0, .int 0, .int 0, .int 0, .ref yq14, .ref yq15, .ref yq16, .ref yq17, .int 0, .int 0, .int 0, .ref yq18, .ref yq19])), (yq8, .inl (cI, 240, .inl (upd z0 (0 : Int32).toNatClampNeg v)))] H := hP
    have hD : va_D A [(yh, .inr (10, [.ref yq1, .ref yq2, .int 0, .int 0, .int 1, .int 0, .int 0, .int 0, .ref yq3, .ref yq4, .ref yq5, .ref yq6, .ref yq7, .ref yq8, .int 0, .int 0, .int 0, .int 0, .int 0, .int (-1), .int 0, .int 0, .int 0, .int 0, .int 0, .int 0, .int 0, .ref yq9, .ref yq10, .ref yq11, .ref yq12, .ref yq13, .int 0, .int 0, .int 0, .int 0, .ref yq14, .ref yq15, .ref yq16, .ref yq17, .int 0, .int 0, .int 0, .ref yq18, .ref yq19])), (yq8, .inl (cI, 240, .inl (upd z0 (0 : Int32).toNatClampNeg v)))] := hD
    refine lv_aload_n hx hb dX10_feed_38 rfl (lv_at hl 0 rfl) ?_
    refine lv_dup hx hb dX10_feed_39 rfl ?_
    refine va_get (D := D) (ci := 10) (v := .int 0) (C := RX10) (T := TX10) (N := 45) hx hb hts iX10 hown hK hP 0 rfl rfl 14 (by decide) (hts _ wd_303) (fun _ h9 => h9) rfl dX10_feed_40 ?_
    refine lv_iconst (v := 1) hx hb dX10_feed_43 (by decide) ?_
    refine lv_iadd hx hb dX10_feed_44 ?_
    refine lv_topi (fun z_5 ez_5 => ?_)
    obtain rfl : z_5 = 1 := ez_5.trans (by decide +kernel)
    refine va_put (D := D) (ci := 10) (v := .int 1) (ty := .int) (C := RX10) (T := TX10) (N := 45) hx hb hts iX10 tyX10 tyX10_ok nmX10 hown hK hP hD hS 0 rfl rfl 14 (by decide) (hts _ wd_303) (fun _ h9 => h9) rfl (by decide +kernel) rfl rfl (Nat.le_of_ble_eq_true rfl) dX10_feed_45 (fun H locs hP hD hS => ?_)
    have hP : va_P D classes [(yh, .inr (10, [.ref yq1, .ref yq2, .int 0, .int 0, .int 1, .int 0, .int 0, .int 0, .ref yq3, .ref yq4, .ref yq5, .ref yq6, .ref yq7, .ref yq8, .int 1, .int 0, .int 0, .int 0, .int 0, .int (-1), .int 0, .int 0, .int 0, .int 0, .int 0, .int 0, .int 0, .ref yq9, .ref yq10, .ref yq11, .ref yq12, .ref yq13, .int 0, .int 0, .int 0, .int 0, .ref yq14, .ref yq15, .ref yq16, .ref yq17, .int 0, .int 0, .int 0, .ref yq18, .ref yq19])), (yq8, .inl (cI, 240, .inl (upd z0 (0 : Int32).toNatClampNeg v)))] H := hP
    have hD : va_D A [(yh, .inr (10, [.ref yq1, .ref yq2, .int 0, .int 0, .int 1, .int 0, .int 0, .int 0, .ref yq3, .ref yq4, .ref yq5, .ref yq6, .ref yq7, .ref yq8, .int 1, .int 0, .int 0, .int 0, .int 0, .int (-1), .int 0, .int 0, .int 0, .int 0, .int 0, .int 0, .int 0, .ref yq9, .ref yq10, .ref yq11, .ref yq12, .ref yq13, .int 0, .int 0, .int 0, .int 0, .ref yq14, .ref yq15, .ref yq16, .ref yq17, .int 0, .int 0, .int 0, .ref yq18, .ref yq19])), (yq8, .inl (cI, 240, .inl (upd z0 (0 : Int32).toNatClampNeg v)))] := hD
    refine lv_aload_n hx hb dX10_feed_48 rfl (lv_at hl 0 rfl) ?_
    refine va_get (D := D) (ci := 10) (v := .int 1) (C := RX10) (T := TX10) (N := 45) hx hb hts iX10 hown hK hP 0 rfl rfl 14 (by decide) (hts _ wd_303) (fun _ h9 => h9) rfl dX10_feed_49 ?_
    exact hret 1 () _ _ _ _ dX10_feed_52 rfl (rg_nz (by decide +kernel) (by decide +kernel) c_3) (cutP (isC := []) hP rfl) (cutD (isC := []) hD rfl rfl) hS
  · refine lv_ldc (v := (-1000000002)) hx hb hown (hts _ wd_317) dX10_feed_12 ?_
    exact hret (-1000000002) () _ _ _ _ dX10_feed_14 rfl (rg_z (by decide +kernel) (by decide +kernel) c_3) (cutP (isC := []) hP rfl) (cutD (isC := []) hD rfl rfl) hS
def rm_k_m_town : Room := { frames := 2, cells := 0, slots := 0, locals := 41 }
set_option maxHeartbeats 4000000 in
set_option maxRecDepth 100000 in
theorem k_m_town {l : Launch} {D : va_G} {cI cZ : ClassId} {sz : Nat} (yh yq1 yq2 yq3 yq4 yq5 yq6 yq7 yq8 yq9 yq10 yq11 yq12 yq13 yq14 yq15 yq16 yq17 yq18 yq19 : Nat) : KI l yX10_town cX10_town 3 (some .int) rm_k_m_town D cI cZ [.ref yh] sz [(yh, .inr (10, [.ref yq1, .ref yq2, .int 0, .int 0, .int 1, .int 0, .int 0, .int 0, .ref yq3, .ref yq4, .ref yq5, .ref yq6, .ref yq7, .ref yq8, .int 0, .int 0, .int 0, .int 0, .int 0, .int (-1), .int 0, .int 0, .int 0, .int 0, .int 0, .int 0, .int 0, .ref yq9, .ref yq10, .ref yq11, .ref yq12, .ref yq13, .int 0, .int 0, .int 0, .int 0, .ref yq14, .ref yq15, .ref yq16, .ref yq17, .int 0, .int 0, .int 0, .ref yq18, .ref yq19])), (yq1, .inl (cI, 1302, .inl (upd (wC z0 7) (41 : Int32).toNatClampNeg (z0 (41 : Int32).toNatClampNeg)))), (yq2, .inl (cZ, 2, .inl z0)), (yq3, .inl (cI, 6, .inl z0)), (yq4, .inl (cI, 6, .inl z0)), (yq5, .inl (cI, 30, .inl z0)), (yq6, .inl (cI, 7, .inl z0)), (yq7, .inl (cI, 7, .inl z0)), (yq9, .inl (cI, 6, .inl z0)), (yq10, .inl (cI, 6, .inl z0)), (yq11, .inl (cI, 30, .inl z0)), (yq12, .inl (cI, 7, .inl z0)), (yq13, .inl (cI, 7, .inl z0))] (fun (r : Int32) (_ : Unit) => r = 0) (fun (_ : Unit) => []) := by
  refine KI.go rfl (Nat.le_of_ble_eq_true rfl) ?_
  intro p e s m args below meth c ls A Q hx hb hml hts hown hin hP hK hD hS hA hN hl hret
  have hl : lv_has ls 3 [(0, .ref yh)] := hl
  refine lv_aload_n hx hb dX10_town_0 rfl (lv_at hl 0 rfl) ?_
  refine lv_iconst (v := 0) hx hb dX10_town_1 (by decide) ?_
  refine va_put (D := D) (ci := 10) (v := .int 0) (ty := .int) (C := RX10) (T := TX10) (N := 45) hx hb hts iX10 tyX10 tyX10_ok nmX10 hown hK hP hD hS 0 rfl rfl 15 (by decide) (hts _ wd_304) (fun _ h9 => h9) rfl (by decide +kernel) rfl rfl (Nat.le_of_ble_eq_true rfl) dX10_town_2 (fun H locs hP hD hS => ?_)
  have hP : va_P D classes [(yh, .inr (10, [.ref yq1, .ref yq2, .int 0, .int 0, .int 1, .int 0, .int 0, .int 0, .ref yq3, .ref yq4, .ref yq5, .ref yq6, .ref yq7, .ref yq8, .int 0, .int 0, .int 0, .int 0, .int 0, .int (-1), .int 0, .int 0, .int 0, .int 0, .int 0, .int 0, .int 0, .ref yq9, .ref yq10, .ref yq11, .ref yq12, .ref yq13, .int 0, .int 0, .int 0, .int 0, .ref yq14, .ref yq15, .ref yq16, .ref yq17, .int 0, .int 0, .int 0, .ref yq18, .ref yq19])), (yq1, .inl (cI, 1302, .inl (upd (wC z0 7) (41 : Int32).toNatClampNeg (z0 (41 : Int32).toNatClampNeg)))), (yq2, .inl (cZ, 2, .inl z0)), (yq3, .inl (cI, 6, .inl z0)), (yq4, .inl (cI, 6, .inl z0)), (yq5, .inl (cI, 30, .inl z0)), (yq6, .inl (cI, 7, .inl z0)), (yq7, .inl (cI, 7, .inl z0)), (yq9, .inl (cI, 6, .inl z0)), (yq10, .inl (cI, 6, .inl z0)), (yq11, .inl (cI, 30, .inl z0)), (yq12, .inl (cI, 7, .inl z0)), (yq13, .inl (cI, 7, .inl z0))] H := hP
  have hD : va_D A [(yh, .inr (10, [.ref yq1, .ref yq2, .int 0, .int 0, .int 1, .int 0, .int 0, .int 0, .ref yq3, .ref yq4, .ref yq5, .ref yq6, .ref yq7, .ref yq8, .int 0, .int 0, .int 0, .int 0, .int 0, .int (-1), .int 0, .int 0, .int 0, .int 0, .int 0, .int 0, .int 0, .ref yq9, .ref yq10, .ref yq11, .ref yq12, .ref yq13, .int 0, .int 0, .int 0, .int 0, .ref yq14, .ref yq15, .ref yq16, .ref yq17, .int 0, .int 0, .int 0, .ref yq18, .ref yq19])), (yq1, .inl (cI, 1302, .inl (upd (wC z0 7) (41 : Int32).toNatClampNeg (z0 (41 : Int32).toNatClampNeg)))), (yq2, .inl (cZ, 2, .inl z0)), (yq3, .inl (cI, 6, .inl z0)), (yq4, .inl (cI, 6, .inl z0)), (yq5, .inl (cI, 30, .inl z0)), (yq6, .inl (cI, 7, .inl z0)), (yq7, .inl (cI, 7, .inl z0)), (yq9, .inl (cI, 6, .inl z0)), (yq10, .inl (cI, 6, .inl z0)), (yq11, .inl (cI, 30, .inl z0)), (yq12, .inl (cI, 7, .inl z0)), (yq13, .inl (cI, 7, .inl z0))] := hD
  refine lv_aload_n hx hb dX10_town_5 rfl (lv_at hl 0 rfl) ?_
  refine lv_iconst (v := 0) hx hb dX10_town_6 (by decide) ?_
  refine va_put (D := D) (ci := 10) (v := .int 0) (ty := .int) (C := RX10) (T := TX10) (N := 45) hx hb hts iX10 tyX10 tyX10_ok nmX10 hown hK hP hD hS 0 rfl rfl 18 (by decide) (hts _ wd_318) (fun _ h9 => h9) rfl (by decide +kernel) rfl rfl (Nat.le_of_ble_eq_true rfl) dX10_town_7 (fun H locs hP hD hS => ?_)
  have hP : va_P D classes [(yh, .inr (10, [.ref yq1, .ref yq2, .int 0, .int 0, .int 1, .int 0, .int 0, .int 0, .ref yq3, .ref yq4, .ref yq5, .ref yq6, .ref yq7, .ref yq8, .int 0, .int 0, .int 0, .int 0, .int 0, .int (-1), .int 0, .int 0, .int 0, .int 0, .int 0, .int 0, .int 0, .ref yq9, .ref yq10, .ref yq11, .ref yq12, .ref yq13, .int 0, .int 0, .int 0, .int 0, .ref yq14, .ref yq15, .ref yq16, .ref yq17, .int 0, .int 0, .int 0, .ref yq18, .ref yq19])), (yq1, .inl (cI, 1302, .inl (upd (wC z0 7) (41 : Int32).toNatClampNeg (z0 (41 : Int32).toNatClampNeg)))), (yq2, .inl (cZ, 2, .inl z0)), (yq3, .inl (cI, 6, .inl z0)), (yq4, .inl (cI, 6, .inl z0)), (yq5, .inl (cI, 30, .inl z0)), (yq6, .inl (cI, 7, .inl z0)), (yq7, .inl (cI, 7, .inl z0)), (yq9, .inl (cI, 6, .inl z0)), (yq10, .inl (cI, 6, .inl z0)), (yq11, .inl (cI, 30, .inl z0)), (yq12, .inl (cI, 7, .inl z0)), (yq13, .inl (cI, 7, .inl z0))] H := hP
  have hD : va_D A [(yh, .inr (10, [.ref yq1, .ref yq2, .int 0, .int 0, .int 1, .int 0, .int 0, .int 0, .ref yq3, .ref yq4, .ref yq5, .ref yq6, .ref yq7, .ref yq8, .int 0, .int 0, .int 0, .int 0, .int 0, .int (-1), .int 0, .int 0, .int 0, .int 0, .int 0, .int 0, .int 0, .ref yq9, .ref yq10, .ref yq11, .ref yq12, .ref yq13, .int 0, .int 0, .int 0, .int 0, .ref yq14, .ref yq15, .ref yq16, .ref yq17, .int 0, .int 0, .int 0, .ref yq18, .ref yq19])), (yq1, .inl (cI, 1302, .inl (upd (wC z0 7) (41 : Int32).toNatClampNeg (z0 (41 : Int32).toNatClampNeg)))), (yq2, .inl (cZ, 2, .inl z0)), (yq3, .inl (cI, 6, .inl z0)), (yq4, .inl (cI, 6, .inl z0)), (yq5, .inl (cI, 30, .inl z0)), (yq6, .inl (cI, 7, .inl z0)), (yq7, .inl (cI, 7, .inl z0)), (yq9, .inl (cI, 6, .inl z0)), (yq10, .inl (cI, 6, .inl z0)), (yq11, .inl (cI, 30, .inl z0)), (yq12, .inl (cI, 7, .inl z0)), (yq13, .inl (cI, 7, .inl z0))] := hD
  refine lv_aload_n hx hb dX10_town_10 rfl (lv_at hl 0 rfl) ?_
  refine lv_iconst (v := (-1)) hx hb dX10_town_11 (by decide) ?_
  refine va_put (D := D) (ci := 10) (v := .int (-1)) (ty := .int) (C := RX10) (T := TX10) (N := 45) hx hb hts iX10 tyX10 tyX10_ok nmX10 hown hK hP hD hS 0 rfl rfl 19 (by decide) (hts _ wd_281) (fun _ h9 => h9) rfl (by decide +kernel) rfl rfl (Nat.le_of_ble_eq_true rfl) dX10_town_12 (fun H locs hP hD hS => ?_)
  have hP : va_P D classes [(yh, .inr (10, [.ref yq1, .ref yq2, .int 0, .int 0, .int 1, .int 0, .int 0, .int 0, .ref yq3, .ref yq4, .ref yq5, .ref yq6, .ref yq7, .ref yq8, .int 0, .int 0, .int 0, .int 0, .int 0, .int (-1), .int 0, .int 0, .int 0, .int 0, .int 0, .int 0, .int 0, .ref yq9, .ref yq10, .ref yq11, .ref yq12, .ref yq13, .int 0, .int 0, .int 0, .int 0, .ref yq14, .ref yq15, .ref yq16, .ref yq17, .int 0, .int 0, .int 0, .ref yq18, .ref yq19])), (yq1, .inl (cI, 1302, .inl (upd (wC z0 7) (41 : Int32).toNatClampNeg (z0 (41 : Int32).toNatClampNeg)))), (yq2, .inl (cZ, 2, .inl z0)), (yq3, .inl (cI, 6, .inl z0)), (yq4, .inl (cI, 6, .inl z0)), (yq5, .inl (cI, 30, .inl z0)), (yq6, .inl (cI, 7, .inl z0)), (yq7, .inl (cI, 7, .inl z0)), (yq9, .inl (cI, 6, .inl z0)), (yq10, .inl (cI, 6, .inl z0)), (yq11, .inl (cI, 30, .inl z0)), (yq12, .inl (cI, 7, .inl z0)), (yq13, .inl (cI, 7, .inl z0))] H := hP
  have hD : va_D A [(yh, .inr (10, [.ref yq1, .ref yq2, .int 0, .int 0, .int 1, .int 0, .int 0, .int 0, .ref yq3, .ref yq4, .ref yq5, .ref yq6, .ref yq7, .ref yq8, .int 0, .int 0, .int 0, .int 0, .int 0, .int (-1), .int 0, .int 0, .int 0, .int 0, .int 0, .int 0, .int 0, .ref yq9, .ref yq10, .ref yq11, .ref yq12, .ref yq13, .int 0, .int 0, .int 0, .int 0, .ref yq14, .ref yq15, .ref yq16, .ref yq17, .int 0, .int 0, .int 0, .ref yq18, .ref yq19])), (yq1, .inl (cI, 1302, .inl (upd (wC z0 7) (41 : Int32).toNatClampNeg (z0 (41 : Int32).toNatClampNeg)))), (yq2, .inl (cZ, 2, .inl z0)), (yq3, .inl (cI, 6, .inl z0)), (yq4, .inl (cI, 6, .inl z0)), (yq5, .inl (cI, 30, .inl z0)), (yq6, .inl (cI, 7, .inl z0)), (yq7, .inl (cI, 7, .inl z0)), (yq9, .inl (cI, 6, .inl z0)), (yq10, .inl (cI, 6, .inl z0)), (yq11, .inl (cI, 30, .inl z0)), (yq12, .inl (cI, 7, .inl z0)), (yq13, .inl (cI, 7, .inl z0))] := hD
  refine lv_aload_n hx hb dX10_town_15 rfl (lv_at hl 0 rfl) ?_
  refine lv_iconst (v := 0) hx hb dX10_town_16 (by decide) ?_
  refine va_put (D := D) (ci := 10) (v := .int 0) (ty := .int) (C := RX10) (T := TX10) (N := 45) hx hb hts iX10 tyX10 tyX10_ok nmX10 hown hK hP hD hS 0 rfl rfl 20 (by decide) (hts _ wd_319) (fun _ h9 => h9) rfl (by decide +kernel) rfl rfl (Nat.le_of_ble_eq_true rfl) dX10_town_17 (fun H locs hP hD hS => ?_)
  have hP : va_P D classes [(yh, .inr (10, [.ref yq1, .ref yq2, .int 0, .int 0, .int 1, .int 0, .int 0, .int 0, .ref yq3, .ref yq4, .ref yq5, .ref yq6, .ref yq7, .ref yq8, .int 0, .int 0, .int 0, .int 0, .int 0, .int (-1), .int 0, .int 0, .int 0, .int 0, .int 0, .int 0, .int 0, .ref yq9, .ref yq10, .ref yq11, .ref yq12, .ref yq13, .int 0, .int 0, .int 0, .int 0, .ref yq14, .ref yq15, .ref yq16, .ref yq17, .int 0, .int 0, .int 0, .ref yq18, .ref yq19])), (yq1, .inl (cI, 1302, .inl (upd (wC z0 7) (41 : Int32).toNatClampNeg (z0 (41 : Int32).toNatClampNeg)))), (yq2, .inl (cZ, 2, .inl z0)), (yq3, .inl (cI, 6, .inl z0)), (yq4, .inl (cI, 6, .inl z0)), (yq5, .inl (cI, 30, .inl z0)), (yq6, .inl (cI, 7, .inl z0)), (yq7, .inl (cI, 7, .inl z0)), (yq9, .inl (cI, 6, .inl z0)), (yq10, .inl (cI, 6, .inl z0)), (yq11, .inl (cI, 30, .inl z0)), (yq12, .inl (cI, 7, .inl z0)), (yq13, .inl (cI, 7, .inl z0))] H := hP
  have hD : va_D A [(yh, .inr (10, [.ref yq1, .ref yq2, .int 0, .int 0, .int 1, .int 0, .int 0, .int 0, .ref yq3, .ref yq4, .ref yq5, .ref yq6, .ref yq7, .ref yq8, .int 0, .int 0, .int 0, .int 0, .int 0, .int (-1), .int 0, .int 0, .int 0, .int 0, .int 0, .int 0, .int 0, .ref yq9, .ref yq10, .ref yq11, .ref yq12, .ref yq13, .int 0, .int 0, .int 0, .int 0, .ref yq14, .ref yq15, .ref yq16, .ref yq17, .int 0, .int 0, .int 0, .ref yq18, .ref yq19])), (yq1, .inl (cI, 1302, .inl (upd (wC z0 7) (41 : Int32).toNatClampNeg (z0 (41 : Int32).toNatClampNeg)))), (yq2, .inl (cZ, 2, .inl z0)), (yq3, .inl (cI, 6, .inl z0)), (yq4, .inl (cI, 6, .inl z0)), (yq5, .inl (cI, 30, .inl z0)), (yq6, .inl (cI, 7, .inl z0)), (yq7, .inl (cI, 7, .inl z0)), (yq9, .inl (cI, 6, .inl z0)), (yq10, .inl (cI, 6, .inl z0)), (yq11, .inl (cI, 30, .inl z0)), (yq12, .inl (cI, 7, .inl z0)), (yq13, .inl (cI, 7, .inl z0))] := hD
  refine lv_aload_n hx hb dX10_town_20 rfl (lv_at hl 0 rfl) ?_
  refine lv_iconst (v := 1) hx hb dX10_town_21 (by decide) ?_
  refine va_put (D := D) (ci := 10) (v := .int 1) (ty := .int) (C := RX10) (T := TX10) (N := 45) hx hb hts iX10 tyX10 tyX10_ok nmX10 hown hK hP hD hS 0 rfl rfl 21 (by decide) (hts _ wd_320) (fun _ h9 => h9) rfl (by decide +kernel) rfl rfl (Nat.le_of_ble_eq_true rfl) dX10_town_22 (fun H locs hP hD hS => ?_)
  have hP : va_P D classes [(yh, .inr (10, [.ref yq1, .ref yq2, .int 0, .int 0, .int 1, .int 0, .int 0, .int 0, .ref yq3, .ref yq4, .ref yq5, .ref yq6, .ref yq7, .ref yq8, .int 0, .int 0, .int 0, .int 0, .int 0, .int (-1), .int 0, .int 1, .int 0, .int 0, .int 0, .int 0, .int 0, .ref yq9, .ref yq10, .ref yq11, .ref yq12, .ref yq13, .int 0, .int 0, .int 0, .int 0, .ref yq14, .ref yq15, .ref yq16, .ref yq17, .int 0, .int 0, .int 0, .ref yq18, .ref yq19])), (yq1, .inl (cI, 1302, .inl (upd (wC z0 7) (41 : Int32).toNatClampNeg (z0 (41 : Int32).toNatClampNeg)))), (yq2, .inl (cZ, 2, .inl z0)), (yq3, .inl (cI, 6, .inl z0)), (yq4, .inl (cI, 6, .inl z0)), (yq5, .inl (cI, 30, .inl z0)), (yq6, .inl (cI, 7, .inl z0)), (yq7, .inl (cI, 7, .inl z0)), (yq9, .inl (cI, 6, .inl z0)), (yq10, .inl (cI, 6, .inl z0)), (yq11, .inl (cI, 30, .inl z0)), (yq12, .inl (cI, 7, .inl z0)), (yq13, .inl (cI, 7, .inl z0))] H := hP
  have hD : va_D A [(yh, .inr (10, [.ref yq1, .ref yq2, .int 0, .int 0, .int 1, .int 0, .int 0, .int 0, .ref yq3, .ref yq4, .ref yq5, .ref yq6, .ref yq7, .ref yq8, .int 0, .int 0, .int 0, .int 0, .int 0, .int (-1), .int 0, .int 1, .int 0, .int 0, .int 0, .int 0, .int 0, .ref yq9, .ref yq10, .ref yq11, .ref yq12, .ref yq13, .int 0, .int 0, .int 0, .int 0, .ref yq14, .ref yq15, .ref yq16, .ref yq17, .int 0, .int 0, .int 0, .ref yq18, .ref yq19])), (yq1, .inl (cI, 1302, .inl (upd (wC z0 7) (41 : Int32).toNatClampNeg (z0 (41 : Int32).toNatClampNeg)))), (yq2, .inl (cZ, 2, .inl z0)), (yq3, .inl (cI, 6, .inl z0)), (yq4, .inl (cI, 6, .inl z0)), (yq5, .inl (cI, 30, .inl z0)), (yq6, .inl (cI, 7, .inl z0)), (yq7, .inl (cI, 7, .inl z0)), (yq9, .inl (cI, 6, .inl z0)), (yq10, .inl (cI, 6, .inl z0)), (yq11, .inl (cI, 30, .inl z0)), (yq12, .inl (cI, 7, .inl z0)), (yq13, .inl (cI, 7, .inl z0))] := hD
  refine lv_aload_n hx hb dX10_town_25 rfl (lv_at hl 0 rfl) ?_
  refine lv_iconst (v := 0) hx hb dX10_town_26 (by decide) ?_
  refine va_put (D := D) (ci := 10) (v := .int 0) (ty := .boolean) (C := RX10) (T := TX10) (N := 45) hx hb hts iX10 tyX10 tyX10_ok nmX10 hown hK hP hD hS 0 rfl rfl 22 (by decide) (hts _ wd_321) (fun _ h9 => h9) rfl (by decide +kernel) rfl rfl (Nat.le_of_ble_eq_true rfl) dX10_town_27 (fun H locs hP hD hS => ?_)
  have hP : va_P D classes [(yh, .inr (10, [.ref yq1, .ref yq2, .int 0, .int 0, .int 1, .int 0, .int 0, .int 0, .ref yq3, .ref yq4, .ref yq5, .ref yq6, .ref yq7, .ref yq8, .int 0, .int 0, .int 0, .int 0, .int 0, .int (-1), .int 0, .int 1, .int 0, .int 0, .int 0, .int 0, .int 0, .ref yq9, .ref yq10, .ref yq11, .ref yq12, .ref yq13, .int 0, .int 0, .int 0, .int 0, .ref yq14, .ref yq15, .ref yq16, .ref yq17, .int 0, .int 0, .int 0, .ref yq18, .ref yq19])), (yq1, .inl (cI, 1302, .inl (upd (wC z0 7) (41 : Int32).toNatClampNeg (z0 (41 : Int32).toNatClampNeg)))), (yq2, .inl (cZ, 2, .inl z0)), (yq3, .inl (cI, 6, .inl z0)), (yq4, .inl (cI, 6, .inl z0)), (yq5, .inl (cI, 30, .inl z0)), (yq6, .inl (cI, 7, .inl z0)), (yq7, .inl (cI, 7, .inl z0)), (yq9, .inl (cI, 6, .inl z0)), (yq10, .inl (cI, 6, .inl z0)), (yq11, .inl (cI, 30, .inl z0)), (yq12, .inl (cI, 7, .inl z0)), (yq13, .inl (cI, 7, .inl z0))] H := hP
  have hD : va_D A [(yh, .inr (10, [.ref yq1, .ref yq2, .int 0, .int 0, .int 1, .int 0, .int 0, .int 0, .ref yq3, .ref yq4, .ref yq5, .ref yq6, .ref yq7, .ref yq8, .int 0, .int 0, .int 0, .int 0, .int 0, .int (-1), .int 0, .int 1, .int 0, .int 0, .int 0, .int 0, .int 0, .ref yq9, .ref yq10, .ref yq11, .ref yq12, .ref yq13, .int 0, .int 0, .int 0, .int 0, .ref yq14, .ref yq15, .ref yq16, .ref yq17, .int 0, .int 0, .int 0, .ref yq18, .ref yq19])), (yq1, .inl (cI, 1302, .inl (upd (wC z0 7) (41 : Int32).toNatClampNeg (z0 (41 : Int32).toNatClampNeg)))), (yq2, .inl (cZ, 2, .inl z0)), (yq3, .inl (cI, 6, .inl z0)), (yq4, .inl (cI, 6, .inl z0)), (yq5, .inl (cI, 30, .inl z0)), (yq6, .inl (cI, 7, .inl z0)), (yq7, .inl (cI, 7, .inl z0)), (yq9, .inl (cI, 6, .inl z0)), (yq10, .inl (cI, 6, .inl z0)), (yq11, .inl (cI, 30, .inl z0)), (yq12, .inl (cI, 7, .inl z0)), (yq13, .inl (cI, 7, .inl z0))] := hD
  refine lv_aload_n hx hb dX10_town_30 rfl (lv_at hl 0 rfl) ?_
  refine lv_iconst (v := 0) hx hb dX10_town_31 (by decide) ?_
  refine va_put (D := D) (ci := 10) (v := .int 0) (ty := .int) (C := RX10) (T := TX10) (N := 45) hx hb hts iX10 tyX10 tyX10_ok nmX10 hown hK hP hD hS 0 rfl rfl 23 (by decide) (hts _ wd_322) (fun _ h9 => h9) rfl (by decide +kernel) rfl rfl (Nat.le_of_ble_eq_true rfl) dX10_town_32 (fun H locs hP hD hS => ?_)
  have hP : va_P D classes [(yh, .inr (10, [.ref yq1, .ref yq2, .int 0, .int 0, .int 1, .int 0, .int 0, .int 0, .ref yq3, .ref yq4, .ref yq5, .ref yq6, .ref yq7, .ref yq8, .int 0, .int 0, .int 0, .int 0, .int 0, .int (-1), .int 0, .int 1, .int 0, .int 0, .int 0, .int 0, .int 0, .ref yq9, .ref yq10, .ref yq11, .ref yq12, .ref yq13, .int 0, .int 0, .int 0, .int 0, .ref yq14, .ref yq15, .ref yq16, .ref yq17, .int 0, .int 0, .int 0, .ref yq18, .ref yq19])), (yq1, .inl (cI, 1302, .inl (upd (wC z0 7) (41 : Int32).toNatClampNeg (z0 (41 : Int32).toNatClampNeg)))), (yq2, .inl (cZ, 2, .inl z0)), (yq3, .inl (cI, 6, .inl z0)), (yq4, .inl (cI, 6, .inl z0)), (yq5, .inl (cI, 30, .inl z0)), (yq6, .inl (cI, 7, .inl z0)), (yq7, .inl (cI, 7, .inl z0)), (yq9, .inl (cI, 6, .inl z0)), (yq10, .inl (cI, 6, .inl z0)), (yq11, .inl (cI, 30, .inl z0)), (yq12, .inl (cI, 7, .inl z0)), (yq13, .inl (cI, 7, .inl z0))] H := hP
  have hD : va_D A [(yh, .inr (10, [.ref yq1, .ref yq2, .int 0, .int 0, .int 1, .int 0, .int 0, .int 0, .ref yq3, .ref yq4, .ref yq5, .ref yq6, .ref yq7, .ref yq8, .int 0, .int 0, .int 0, .int 0, .int 0, .int (-1), .int 0, .int 1, .int 0, .int 0, .int 0, .int 0, .int 0, .ref yq9, .ref yq10, .ref yq11, .ref yq12, .ref yq13, .int 0, .int 0, .int 0, .int 0, .ref yq14, .ref yq15, .ref yq16, .ref yq17, .int 0, .int 0, .int 0, .ref yq18, .ref yq19])), (yq1, .inl (cI, 1302, .inl (upd (wC z0 7) (41 : Int32).toNatClampNeg (z0 (41 : Int32).toNatClampNeg)))), (yq2, .inl (cZ, 2, .inl z0)), (yq3, .inl (cI, 6, .inl z0)), (yq4, .inl (cI, 6, .inl z0)), (yq5, .inl (cI, 30, .inl z0)), (yq6, .inl (cI, 7, .inl z0)), (yq7, .inl (cI, 7, .inl z0)), (yq9, .inl (cI, 6, .inl z0)), (yq10, .inl (cI, 6, .inl z0)), (yq11, .inl (cI, 30, .inl z0)), (yq12, .inl (cI, 7, .inl z0)), (yq13, .inl (cI, 7, .inl z0))] := hD
  refine lv_aload_n hx hb dX10_town_35 rfl (lv_at hl 0 rfl) ?_
  refine lv_iconst (v := 0) hx hb dX10_town_36 (by decide) ?_
  refine va_put (D := D) (ci := 10) (v := .int 0) (ty := .int) (C := RX10) (T := TX10) (N := 45) hx hb hts iX10 tyX10 tyX10_ok nmX10 hown hK hP hD hS 0 rfl rfl 24 (by decide) (hts _ wd_323) (fun _ h9 => h9) rfl (by decide +kernel) rfl rfl (Nat.le_of_ble_eq_true rfl) dX10_town_37 (fun H locs hP hD hS => ?_)
  have hP : va_P D classes [(yh, .inr (10, [.ref yq1, .ref yq2, .int 0, .int 0, .int 1, .int 0, .int 0, .int 0, .ref yq3, .ref yq4, .ref yq5, .ref yq6, .ref yq7, .ref yq8, .int 0, .int 0, .int 0, .int 0, .int 0, .int (-1), .int 0, .int 1, .int 0, .int 0, .int 0, .int 0, .int 0, .ref yq9, .ref yq10, .ref yq11, .ref yq12, .ref yq13, .int 0, .int 0, .int 0, .int 0, .ref yq14, .ref yq15, .ref yq16, .ref yq17, .int 0, .int 0, .int 0, .ref yq18, .ref yq19])), (yq1, .inl (cI, 1302, .inl (upd (wC z0 7) (41 : Int32).toNatClampNeg (z0 (41 : Int32).toNatClampNeg)))), (yq2, .inl (cZ, 2, .inl z0)), (yq3, .inl (cI, 6, .inl z0)), (yq4, .inl (cI, 6, .inl z0)), (yq5, .inl (cI, 30, .inl z0)), (yq6, .inl (cI, 7, .inl z0)), (yq7, .inl (cI, 7, .inl z0)), (yq9, .inl (cI, 6, .inl z0)), (yq10, .inl (cI, 6, .inl z0)), (yq11, .inl (cI, 30, .inl z0)), (yq12, .inl (cI, 7, .inl z0)), (yq13, .inl (cI, 7, .inl z0))] H := hP
  have hD : va_D A [(yh, .inr (10, [.ref yq1, .ref yq2, .int 0, .int 0, .int 1, .int 0, .int 0, .int 0, .ref yq3, .ref yq4, .ref yq5, .ref yq6, .ref yq7, .ref yq8, .int 0, .int 0, .int 0, .int 0, .int 0, .int (-1), .int 0, .int 1, .int 0, .int 0, .int 0, .int 0, .int 0, .ref yq9, .ref yq10, .ref yq11, .ref yq12, .ref yq13, .int 0, .int 0, .int 0, .int 0, .ref yq14, .ref yq15, .ref yq16, .ref yq17, .int 0, .int 0, .int 0, .ref yq18, .ref yq19])), (yq1, .inl (cI, 1302, .inl (upd (wC z0 7) (41 : Int32).toNatClampNeg (z0 (41 : Int32).toNatClampNeg)))), (yq2, .inl (cZ, 2, .inl z0)), (yq3, .inl (cI, 6, .inl z0)), (yq4, .inl (cI, 6, .inl z0)), (yq5, .inl (cI, 30, .inl z0)), (yq6, .inl (cI, 7, .inl z0)), (yq7, .inl (cI, 7, .inl z0)), (yq9, .inl (cI, 6, .inl z0)), (yq10, .inl (cI, 6, .inl z0)), (yq11, .inl (cI, 30, .inl z0)), (yq12, .inl (cI, 7, .inl z0)), (yq13, .inl (cI, 7, .inl z0))] := hD
  refine lv_aload_n hx hb dX10_town_40 rfl (lv_at hl 0 rfl) ?_
  refine lv_iconst (v := 0) hx hb dX10_town_41 (by decide) ?_
  refine va_put (D := D) (ci := 10) (v := .int 0) (ty := .int) (C := RX10) (T := TX10) (N := 45) hx hb hts iX10 tyX10 tyX10_ok nmX10 hown hK hP hD hS 0 rfl rfl 25 (by decide) (hts _ wd_324) (fun _ h9 => h9) rfl (by decide +kernel) rfl rfl (Nat.le_of_ble_eq_true rfl) dX10_town_42 (fun H locs hP hD hS => ?_)
  have hP : va_P D classes [(yh, .inr (10, [.ref yq1, .ref yq2, .int 0, .int 0, .int 1, .int 0, .int 0, .int 0, .ref yq3, .ref yq4, .ref yq5, .ref yq6, .ref yq7, .ref yq8, .int 0, .int 0, .int 0, .int 0, .int 0, .int (-1), .int 0, .int 1, .int 0, .int 0, .int 0, .int 0, .int 0, .ref yq9, .ref yq10, .ref yq11, .ref yq12, .ref yq13, .int 0, .int 0, .int 0, .int 0, .ref yq14, .ref yq15, .ref yq16, .ref yq17, .int 0, .int 0, .int 0, .ref yq18, .ref yq19])), (yq1, .inl (cI, 1302, .inl (upd (wC z0 7) (41 : Int32).toNatClampNeg (z0 (41 : Int32).toNatClampNeg)))), (yq2, .inl (cZ, 2, .inl z0)), (yq3, .inl (cI, 6, .inl z0)), (yq4, .inl (cI, 6, .inl z0)), (yq5, .inl (cI, 30, .inl z0)), (yq6, .inl (cI, 7, .inl z0)), (yq7, .inl (cI, 7, .inl z0)), (yq9, .inl (cI, 6, .inl z0)), (yq10, .inl (cI, 6, .inl z0)), (yq11, .inl (cI, 30, .inl z0)), (yq12, .inl (cI, 7, .inl z0)), (yq13, .inl (cI, 7, .inl z0))] H := hP
  have hD : va_D A [(yh, .inr (10, [.ref yq1, .ref yq2, .int 0, .int 0, .int 1, .int 0, .int 0, .int 0, .ref yq3, .ref yq4, .ref yq5, .ref yq6, .ref yq7, .ref yq8, .int 0, .int 0, .int 0, .int 0, .int 0, .int (-1), .int 0, .int 1, .int 0, .int 0, .int 0, .int 0, .int 0, .ref yq9, .ref yq10, .ref yq11, .ref yq12, .ref yq13, .int 0, .int 0, .int 0, .int 0, .ref yq14, .ref yq15, .ref yq16, .ref yq17, .int 0, .int 0, .int 0, .ref yq18, .ref yq19])), (yq1, .inl (cI, 1302, .inl (upd (wC z0 7) (41 : Int32).toNatClampNeg (z0 (41 : Int32).toNatClampNeg)))), (yq2, .inl (cZ, 2, .inl z0)), (yq3, .inl (cI, 6, .inl z0)), (yq4, .inl (cI, 6, .inl z0)), (yq5, .inl (cI, 30, .inl z0)), (yq6, .inl (cI, 7, .inl z0)), (yq7, .inl (cI, 7, .inl z0)), (yq9, .inl (cI, 6, .inl z0)), (yq10, .inl (cI, 6, .inl z0)), (yq11, .inl (cI, 30, .inl z0)), (yq12, .inl (cI, 7, .inl z0)), (yq13, .inl (cI, 7, .inl z0))] := hD
  refine lv_aload_n hx hb dX10_town_45 rfl (lv_at hl 0 rfl) ?_
  refine lv_iconst (v := 0) hx hb dX10_town_46 (by decide) ?_
  refine va_put (D := D) (ci := 10) (v := .int 0) (ty := .boolean) (C := RX10) (T := TX10) (N := 45) hx hb hts iX10 tyX10 tyX10_ok nmX10 hown hK hP hD hS 0 rfl rfl 26 (by decide) (hts _ wd_325) (fun _ h9 => h9) rfl (by decide +kernel) rfl rfl (Nat.le_of_ble_eq_true rfl) dX10_town_47 (fun H locs hP hD hS => ?_)
  have hP : va_P D classes [(yh, .inr (10, [.ref yq1, .ref yq2, .int 0, .int 0, .int 1, .int 0, .int 0, .int 0, .ref yq3, .ref yq4, .ref yq5, .ref yq6, .ref yq7, .ref yq8, .int 0, .int 0, .int 0, .int 0, .int 0, .int (-1), .int 0, .int 1, .int 0, .int 0, .int 0, .int 0, .int 0, .ref yq9, .ref yq10, .ref yq11, .ref yq12, .ref yq13, .int 0, .int 0, .int 0, .int 0, .ref yq14, .ref yq15, .ref yq16, .ref yq17, .int 0, .int 0, .int 0, .ref yq18, .ref yq19])), (yq1, .inl (cI, 1302, .inl (upd (wC z0 7) (41 : Int32).toNatClampNeg (z0 (41 : Int32).toNatClampNeg)))), (yq2, .inl (cZ, 2, .inl z0)), (yq3, .inl (cI, 6, .inl z0)), (yq4, .inl (cI, 6, .inl z0)), (yq5, .inl (cI, 30, .inl z0)), (yq6, .inl (cI, 7, .inl z0)), (yq7, .inl (cI, 7, .inl z0)), (yq9, .inl (cI, 6, .inl z0)), (yq10, .inl (cI, 6, .inl z0)), (yq11, .inl (cI, 30, .inl z0)), (yq12, .inl (cI, 7, .inl z0)), (yq13, .inl (cI, 7, .inl z0))] H := hP
  have hD : va_D A [(yh, .inr (10, [.ref yq1, .ref yq2, .int 0, .int 0, .int 1, .int 0, .int 0, .int 0, .ref yq3, .ref yq4, .ref yq5, .ref yq6, .ref yq7, .ref yq8, .int 0, .int 0, .int 0, .int 0, .int 0, .int (-1), .int 0, .int 1, .int 0, .int 0, .int 0, .int 0, .int 0, .ref yq9, .ref yq10, .ref yq11, .ref yq12, .ref yq13, .int 0, .int 0, .int 0, .int 0, .ref yq14, .ref yq15, .ref yq16, .ref yq17, .int 0, .int 0, .int 0, .ref yq18, .ref yq19])), (yq1, .inl (cI, 1302, .inl (upd (wC z0 7) (41 : Int32).toNatClampNeg (z0 (41 : Int32).toNatClampNeg)))), (yq2, .inl (cZ, 2, .inl z0)), (yq3, .inl (cI, 6, .inl z0)), (yq4, .inl (cI, 6, .inl z0)), (yq5, .inl (cI, 30, .inl z0)), (yq6, .inl (cI, 7, .inl z0)), (yq7, .inl (cI, 7, .inl z0)), (yq9, .inl (cI, 6, .inl z0)), (yq10, .inl (cI, 6, .inl z0)), (yq11, .inl (cI, 30, .inl z0)), (yq12, .inl (cI, 7, .inl z0)), (yq13, .inl (cI, 7, .inl z0))] := hD
  refine lv_iconst (v := 1) hx hb dX10_town_50 (by decide) ?_
  refine lv_istore_n (lv' := [(1, .int 1), (0, .ref yh)]) hx hb dX10_town_51 rfl hl (by decide) rfl (fun ls hl => ?_)
  refine lv_iload_n hx hb dX10_town_52 rfl (lv_at hl 0 rfl) ?_
  refine lv_if_eq (tgt := 72) hx hb dX10_town_53 (by decide) (fun c_1 => absurd c_1 (by decide +kernel)) (fun c_1 => ?_)
  refine lv_aload_n hx hb dX10_town_56 rfl (lv_at hl 1 rfl) ?_
  refine cVi (wr := [(yq1, .inl (cI, 1302, .inl (upd (wC z0 7) (41 : Int32).toNatClampNeg (z0 (41 : Int32).toNatClampNeg)))), (yq2, .inl (cZ, 2, .inl z0)), (yq3, .inl (cI, 6, .inl z0)), (yq4, .inl (cI, 6, .inl z0)), (yq5, .inl (cI, 30, .inl z0)), (yq6, .inl (cI, 7, .inl z0)), (yq7, .inl (cI, 7, .inl z0)), (yq9, .inl (cI, 6, .inl z0)), (yq10, .inl (cI, 6, .inl z0)), (yq11, .inl (cI, 30, .inl z0)), (yq12, .inl (cI, 7, .inl z0)), (yq13, .inl (cI, 7, .inl z0))]) (rest := []) (k_here yh yq1 yq2 yq3 yq4 yq5 yq6 yq7 yq8 yq9 yq10 yq11 yq12 yq13 yq14 yq15 yq16 yq17 yq18 yq19) okV_X10_here wd_326 hx hb hml hown hts hK hP hD hS hA hN hl.1 [0] [1, 2, 3, 4, 5, 6, 7, 8, 9, 10, 11, 12] rfl rfl rfl rfl (by decide) rfl rfl rfl (Nat.le_of_ble_eq_true rfl) (Nat.le_of_ble_eq_true rfl) (Nat.le_of_ble_eq_true rfl) (Nat.le_of_ble_eq_true rfl) (Nat.le_of_ble_eq_true rfl) dX10_town_57 (fun r_3 u_2 H locs hw_u_2 hP hD hS => ?_)
  obtain rfl := hw_u_2
  have hP : va_P D classes [(yq1, .inl (cI, 1302, .inl (upd (wC z0 7) (41 : Int32).toNatClampNeg (z0 (41 : Int32).toNatClampNeg)))), (yq2, .inl (cZ, 2, .inl z0)), (yq3, .inl (cI, 6, .inl z0)), (yq4, .inl (cI, 6, .inl z0)), (yq5, .inl (cI, 30, .inl z0)), (yq6, .inl (cI, 7, .inl z0)), (yq7, .inl (cI, 7, .inl z0)), (yq9, .inl (cI, 6, .inl z0)), (yq10, .inl (cI, 6, .inl z0)), (yq11, .inl (cI, 30, .inl z0)), (yq12, .inl (cI, 7, .inl z0)), (yq13, .inl (cI, 7, .inl z0)), (yh, .inr (10, [.ref yq1, .ref yq2, .int 0, .int 0, .int 1, .int 0, .int 0, .int 0, .ref yq3, .ref yq4, .ref yq5, .ref yq6, .ref yq7, .ref yq8, .int 0, .int 0, .int 0, .int 0, .int 0, .int (-1), .int 0, .int 1, .int 0, .int 0, .int 0, .int 0, .int 0, .ref yq9, .ref yq10, .ref yq11, .ref yq12, .ref yq13, .int 0, .int 0, .int 0, .int 0, .ref yq14, .ref yq15, .ref yq16, .ref yq17, .int 0, .int 0, .int 0, .ref yq18, .ref yq19]))] H := hP
  have hD : va_D A [(yq1, .inl (cI, 1302, .inl (upd (wC z0 7) (41 : Int32).toNatClampNeg (z0 (41 : Int32).toNatClampNeg)))), (yq2, .inl (cZ, 2, .inl z0)), (yq3, .inl (cI, 6, .inl z0)), (yq4, .inl (cI, 6, .inl z0)), (yq5, .inl (cI, 30, .inl z0)), (yq6, .inl (cI, 7, .inl z0)), (yq7, .inl (cI, 7, .inl z0)), (yq9, .inl (cI, 6, .inl z0)), (yq10, .inl (cI, 6, .inl z0)), (yq11, .inl (cI, 30, .inl z0)), (yq12, .inl (cI, 7, .inl z0)), (yq13, .inl (cI, 7, .inl z0)), (yh, .inr (10, [.ref yq1, .ref yq2, .int 0, .int 0, .int 1, .int 0, .int 0, .int 0, .ref yq3, .ref yq4, .ref yq5, .ref yq6, .ref yq7, .ref yq8, .int 0, .int 0, .int 0, .int 0, .int 0, .int (-1), .int 0, .int 1, .int 0, .int 0, .int 0, .int 0, .int 0, .ref yq9, .ref yq10, .ref yq11, .ref yq12, .ref yq13, .int 0, .int 0, .int 0, .int 0, .ref yq14, .ref yq15, .ref yq16, .ref yq17, .int 0, .int 0, .int 0, .ref yq18, .ref yq19]))] := hD
  refine lv_iconst (v := (-1)) hx hb dX10_town_60 (by decide) ?_
  refine lv_icmp_eq (tgt := 72) hx hb dX10_town_61 (by decide) (fun c_4 => ?_) (fun c_4 => absurd (by decide +kernel) c_4)
  refine lv_aload_n hx hb dX10_town_72 rfl (lv_at hl 1 rfl) ?_
  refine lv_iconst (v := 0) hx hb dX10_town_73 (by decide) ?_
  refine va_put (D := D) (ci := 10) (v := .int 0) (ty := .int) (C := RX10) (T := TX10) (N := 45) hx hb hts iX10 tyX10 tyX10_ok nmX10 hown hK hP hD hS 12 rfl rfl 14 (by decide) (hts _ wd_303) (fun _ h9 => h9) rfl (by decide +kernel) rfl rfl (Nat.le_of_ble_eq_true rfl) dX10_town_74 (fun H locs hP hD hS => ?_)
  have hP : va_P D classes [(yq1, .inl (cI, 1302, .inl (upd (wC z0 7) (41 : Int32).toNatClampNeg (z0 (41 : Int32).toNatClampNeg)))), (yq2, .inl (cZ, 2, .inl z0)), (yq3, .inl (cI, 6, .inl z0)), (yq4, .inl (cI, 6, .inl z0)), (yq5, .inl (cI, 30, .inl z0)), (yq6, .inl (cI, 7, .inl z0)), (yq7, .inl (cI, 7, .inl z0)), (yq9, .inl (cI, 6, .inl z0)), (yq10, .inl (cI, 6, .inl z0)), (yq11, .inl (cI, 30, .inl z0)), (yq12, .inl (cI, 7, .inl z0)), (yq13, .inl (cI, 7, .inl z0)), (yh, .inr (10, [.ref yq1, .ref yq2, .int 0, .int 0, .int 1, .int 0, .int 0, .int 0, .ref yq3, .ref yq4, .ref yq5, .ref yq6, .ref yq7, .ref yq8, .int 0, .int 0, .int 0, .int 0, .int 0, .int (-1), .int 0, .int 1, .int 0, .int 0, .int 0, .int 0, .int 0, .ref yq9, .ref yq10, .ref yq11, .ref yq12, .ref yq13, .int 0, .int 0, .int 0, .int 0, .ref yq14, .ref yq15, .ref yq16, .ref yq17, .int 0, .int 0, .int 0, .ref yq18, .ref yq19]))] H := hP
  have hD : va_D A [(yq1, .inl (cI, 1302, .inl (upd (wC z0 7) (41 : Int32).toNatClampNeg (z0 (41 : Int32).toNatClampNeg)))), (yq2, .inl (cZ, 2, .inl z0)), (yq3, .inl (cI, 6, .inl z0)), (yq4, .inl (cI, 6, .inl z0)), (yq5, .inl (cI, 30, .inl z0)), (yq6, .inl (cI, 7, .inl z0)), (yq7, .inl (cI, 7, .inl z0)), (yq9, .inl (cI, 6, .inl z0)), (yq10, .inl (cI, 6, .inl z0)), (yq11, .inl (cI, 30, .inl z0)), (yq12, .inl (cI, 7, .inl z0)), (yq13, .inl (cI, 7, .inl z0)), (yh, .inr (10, [.ref yq1, .ref yq2, .int 0, .int 0, .int 1, .int 0, .int 0, .int 0, .ref yq3, .ref yq4, .ref yq5, .ref yq6, .ref yq7, .ref yq8, .int 0, .int 0, .int 0, .int 0, .int 0, .int (-1), .int 0, .int 1, .int 0, .int 0, .int 0, .int 0, .int 0, .ref yq9, .ref yq10, .ref yq11, .ref yq12, .ref yq13, .int 0, .int 0, .int 0, .int 0, .ref yq14, .ref yq15, .ref yq16, .ref yq17, .int 0, .int 0, .int 0, .ref yq18, .ref yq19]))] := hD
  refine lv_iload_n hx hb dX10_town_77 rfl (lv_at hl 0 rfl) ?_
  refine lv_if_ne (tgt := 89) hx hb dX10_town_78 (by decide) (fun c_5 => ?_) (fun c_5 => absurd c_5 (by decide +kernel))
  refine lv_aload_n hx hb dX10_town_89 rfl (lv_at hl 1 rfl) ?_
  refine lv_aload_n hx hb dX10_town_90 rfl (lv_at hl 1 rfl) ?_
  refine va_get (D := D) (ci := 10) (v := .int 0) (C := RX10) (T := TX10) (N := 45) hx hb hts iX10 hown hK hP 12 rfl rfl 20 (by decide) (hts _ wd_319) (fun _ h9 => h9) rfl dX10_town_91 ?_
  refine va_put (D := D) (ci := 10) (v := .int 0) (ty := .int) (C := RX10) (T := TX10) (N := 45) hx hb hts iX10 tyX10 tyX10_ok nmX10 hown hK hP hD hS 12 rfl rfl 3 (by decide) (hts _ wd_298) (fun _ h9 => h9) rfl (by decide +kernel) rfl rfl (Nat.le_of_ble_eq_true rfl) dX10_town_94 (fun H locs hP hD hS => ?_)
  have hP : va_P D classes [(yq1, .inl (cI, 1302, .inl (upd (wC z0 7) (41 : Int32).toNatClampNeg (z0 (41 : Int32).toNatClampNeg)))), (yq2, .inl (cZ, 2, .inl z0)), (yq3, .inl (cI, 6, .inl z0)), (yq4, .inl (cI, 6, .inl z0)), (yq5, .inl (cI, 30, .inl z0)), (yq6, .inl (cI, 7, .inl z0)), (yq7, .inl (cI, 7, .inl z0)), (yq9, .inl (cI, 6, .inl z0)), (yq10, .inl (cI, 6, .inl z0)), (yq11, .inl (cI, 30, .inl z0)), (yq12, .inl (cI, 7, .inl z0)), (yq13, .inl (cI, 7, .inl z0)), (yh, .inr (10, [.ref yq1, .ref yq2, .int 0, .int 0, .int 1, .int 0, .int 0, .int 0, .ref yq3, .ref yq4, .ref yq5, .ref yq6, .ref yq7, .ref yq8, .int 0, .int 0, .int 0, .int 0, .int 0, .int (-1), .int 0, .int 1, .int 0, .int 0, .int 0, .int 0, .int 0, .ref yq9, .ref yq10, .ref yq11, .ref yq12, .ref yq13, .int 0, .int 0, .int 0, .int 0, .ref yq14, .ref yq15, .ref yq16, .ref yq17, .int 0, .int 0, .int 0, .ref yq18, .ref yq19]))] H := hP
  have hD : va_D A [(yq1, .inl (cI, 1302, .inl (upd (wC z0 7) (41 : Int32).toNatClampNeg (z0 (41 : Int32).toNatClampNeg)))), (yq2, .inl (cZ, 2, .inl z0)), (yq3, .inl (cI, 6, .inl z0)), (yq4, .inl (cI, 6, .inl z0)), (yq5, .inl (cI, 30, .inl z0)), (yq6, .inl (cI, 7, .inl z0)), (yq7, .inl (cI, 7, .inl z0)), (yq9, .inl (cI, 6, .inl z0)), (yq10, .inl (cI, 6, .inl z0)), (yq11, .inl (cI, 30, .inl z0)), (yq12, .inl (cI, 7, .inl z0)), (yq13, .inl (cI, 7, .inl z0)), (yh, .inr (10, [.ref yq1, .ref yq2, .int 0, .int 0, .int 1, .int 0, .int 0, .int 0, .ref yq3, .ref yq4, .ref yq5, .ref yq6, .ref yq7, .ref yq8, .int 0, .int 0, .int 0, .int 0, .int 0, .int (-1), .int 0, .int 1, .int 0, .int 0, .int 0, .int 0, .int 0, .ref yq9, .ref yq10, .ref yq11, .ref yq12, .ref yq13, .int 0, .int 0, .int 0, .int 0, .ref yq14, .ref yq15, .ref yq16, .ref yq17, .int 0, .int 0, .int 0, .ref yq18, .ref yq19]))] := hD
  refine lv_aload_n hx hb dX10_town_97 rfl (lv_at hl 1 rfl) ?_
  refine lv_aload_n hx hb dX10_town_98 rfl (lv_at hl 1 rfl) ?_
  refine va_get (D := D) (ci := 10) (v := .int 1) (C := RX10) (T := TX10) (N := 45) hx hb hts iX10 hown hK hP 12 rfl rfl 21 (by decide) (hts _ wd_320) (fun _ h9 => h9) rfl dX10_town_99 ?_
  refine va_put (D := D) (ci := 10) (v := .int 1) (ty := .int) (C := RX10) (T := TX10) (N := 45) hx hb hts iX10 tyX10 tyX10_ok nmX10 hown hK hP hD hS 12 rfl rfl 4 (by decide) (hts _ wd_274) (fun _ h9 => h9) rfl (by decide +kernel) rfl rfl (Nat.le_of_ble_eq_true rfl) dX10_town_102 (fun H locs hP hD hS => ?_)
  have hP : va_P D classes [(yq1, .inl (cI, 1302, .inl (upd (wC z0 7) (41 : Int32).toNatClampNeg (z0 (41 : Int32).toNatClampNeg)))), (yq2, .inl (cZ, 2, .inl z0)), (yq3, .inl (cI, 6, .inl z0)), (yq4, .inl (cI, 6, .inl z0)), (yq5, .inl (cI, 30, .inl z0)), (yq6, .inl (cI, 7, .inl z0)), (yq7, .inl (cI, 7, .inl z0)), (yq9, .inl (cI, 6, .inl z0)), (yq10, .inl (cI, 6, .inl z0)), (yq11, .inl (cI, 30, .inl z0)), (yq12, .inl (cI, 7, .inl z0)), (yq13, .inl (cI, 7, .inl z0)), (yh, .inr (10, [.ref yq1, .ref yq2, .int 0, .int 0, .int 1, .int 0, .int 0, .int 0, .ref yq3, .ref yq4, .ref yq5, .ref yq6, .ref yq7, .ref yq8, .int 0, .int 0, .int 0, .int 0, .int 0, .int (-1), .int 0, .int 1, .int 0, .int 0, .int 0, .int 0, .int 0, .ref yq9, .ref yq10, .ref yq11, .ref yq12, .ref yq13, .int 0, .int 0, .int 0, .int 0, .ref yq14, .ref yq15, .ref yq16, .ref yq17, .int 0, .int 0, .int 0, .ref yq18, .ref yq19]))] H := hP
  have hD : va_D A [(yq1, .inl (cI, 1302, .inl (upd (wC z0 7) (41 : Int32).toNatClampNeg (z0 (41 : Int32).toNatClampNeg)))), (yq2, .inl (cZ, 2, .inl z0)), (yq3, .inl (cI, 6, .inl z0)), (yq4, .inl (cI, 6, .inl z0)), (yq5, .inl (cI, 30, .inl z0)), (yq6, .inl (cI, 7, .inl z0)), (yq7, .inl (cI, 7, .inl z0)), (yq9, .inl (cI, 6, .inl z0)), (yq10, .inl (cI, 6, .inl z0)), (yq11, .inl (cI, 30, .inl z0)), (yq12, .inl (cI, 7, .inl z0)), (yq13, .inl (cI, 7, .inl z0)), (yh, .inr (10, [.ref yq1, .ref yq2, .int 0, .int 0, .int 1, .int 0, .int 0, .int 0, .ref yq3, .ref yq4, .ref yq5, .ref yq6, .ref yq7, .ref yq8, .int 0, .int 0, .int 0, .int 0, .int 0, .int (-1), .int 0, .int 1, .int 0, .int 0, .int 0, .int 0, .int 0, .ref yq9, .ref yq10, .ref yq11, .ref yq12, .ref yq13, .int 0, .int 0, .int 0, .int 0, .ref yq14, .ref yq15, .ref yq16, .ref yq17, .int 0, .int 0, .int 0, .ref yq18, .ref yq19]))] := hD
  refine lv_aload_n hx hb dX10_town_105 rfl (lv_at hl 1 rfl) ?_
  refine lv_aload_n hx hb dX10_town_106 rfl (lv_at hl 1 rfl) ?_
  refine va_get (D := D) (ci := 10) (v := .int 0) (C := RX10) (T := TX10) (N := 45) hx hb hts iX10 hown hK hP 12 rfl rfl 23 (by decide) (hts _ wd_322) (fun _ h9 => h9) rfl dX10_town_107 ?_
  refine va_put (D := D) (ci := 10) (v := .int 0) (ty := .int) (C := RX10) (T := TX10) (N := 45) hx hb hts iX10 tyX10 tyX10_ok nmX10 hown hK hP hD hS 12 rfl rfl 5 (by decide) (hts _ wd_270) (fun _ h9 => h9) rfl (by decide +kernel) rfl rfl (Nat.le_of_ble_eq_true rfl) dX10_town_110 (fun H locs hP hD hS => ?_)
  have hP : va_P D classes [(yq1, .inl (cI, 1302, .inl (upd (wC z0 7) (41 : Int32).toNatClampNeg (z0 (41 : Int32).toNatClampNeg)))), (yq2, .inl (cZ, 2, .inl z0)), (yq3, .inl (cI, 6, .inl z0)), (yq4, .inl (cI, 6, .inl z0)), (yq5, .inl (cI, 30, .inl z0)), (yq6, .inl (cI, 7, .inl z0)), (yq7, .inl (cI, 7, .inl z0)), (yq9, .inl (cI, 6, .inl z0)), (yq10, .inl (cI, 6, .inl z0)), (yq11, .inl (cI, 30, .inl z0)), (yq12, .inl (cI, 7, .inl z0)), (yq13, .inl (cI, 7, .inl z0)), (yh, .inr (10, [.ref yq1, .ref yq2, .int 0, .int 0, .int 1, .int 0, .int 0, .int 0, .ref yq3, .ref yq4, .ref yq5, .ref yq6, .ref yq7, .ref yq8, .int 0, .int 0, .int 0, .int 0, .int 0, .int (-1), .int 0, .int 1, .int 0, .int 0, .int 0, .int 0, .int 0, .ref yq9, .ref yq10, .ref yq11, .ref yq12, .ref yq13, .int 0, .int 0, .int 0, .int 0, .ref yq14, .ref yq15, .ref yq16, .ref yq17, .int 0, .int 0, .int 0, .ref yq18, .ref yq19]))] H := hP
  have hD : va_D A [(yq1, .inl (cI, 1302, .inl (upd (wC z0 7) (41 : Int32).toNatClampNeg (z0 (41 : Int32).toNatClampNeg)))), (yq2, .inl (cZ, 2, .inl z0)), (yq3, .inl (cI, 6, .inl z0)), (yq4, .inl (cI, 6, .inl z0)), (yq5, .inl (cI, 30, .inl z0)), (yq6, .inl (cI, 7, .inl z0)), (yq7, .inl (cI, 7, .inl z0)), (yq9, .inl (cI, 6, .inl z0)), (yq10, .inl (cI, 6, .inl z0)), (yq11, .inl (cI, 30, .inl z0)), (yq12, .inl (cI, 7, .inl z0)), (yq13, .inl (cI, 7, .inl z0)), (yh, .inr (10, [.ref yq1, .ref yq2, .int 0, .int 0, .int 1, .int 0, .int 0, .int 0, .ref yq3, .ref yq4, .ref yq5, .ref yq6, .ref yq7, .ref yq8, .int 0, .int 0, .int 0, .int 0, .int 0, .int (-1), .int 0, .int 1, .int 0, .int 0, .int 0, .int 0, .int 0, .ref yq9, .ref yq10, .ref yq11, .ref yq12, .ref yq13, .int 0, .int 0, .int 0, .int 0, .ref yq14, .ref yq15, .ref yq16, .ref yq17, .int 0, .int 0, .int 0, .ref yq18, .ref yq19]))] := hD
  refine lv_aload_n hx hb dX10_town_113 rfl (lv_at hl 1 rfl) ?_
  refine lv_aload_n hx hb dX10_town_114 rfl (lv_at hl 1 rfl) ?_
  refine va_get (D := D) (ci := 10) (v := .int 0) (C := RX10) (T := TX10) (N := 45) hx hb hts iX10 hown hK hP 12 rfl rfl 24 (by decide) (hts _ wd_323) (fun _ h9 => h9) rfl dX10_town_115 ?_
  refine va_put (D := D) (ci := 10) (v := .int 0) (ty := .int) (C := RX10) (T := TX10) (N := 45) hx hb hts iX10 tyX10 tyX10_ok nmX10 hown hK hP hD hS 12 rfl rfl 6 (by decide) (hts _ wd_302) (fun _ h9 => h9) rfl (by decide +kernel) rfl rfl (Nat.le_of_ble_eq_true rfl) dX10_town_118 (fun H locs hP hD hS => ?_)
  have hP : va_P D classes [(yq1, .inl (cI, 1302, .inl (upd (wC z0 7) (41 : Int32).toNatClampNeg (z0 (41 : Int32).toNatClampNeg)))), (yq2, .inl (cZ, 2, .inl z0)), (yq3, .inl (cI, 6, .inl z0)), (yq4, .inl (cI, 6, .inl z0)), (yq5, .inl (cI, 30, .inl z0)), (yq6, .inl (cI, 7, .inl z0)), (yq7, .inl (cI, 7, .inl z0)), (yq9, .inl (cI, 6, .inl z0)), (yq10, .inl (cI, 6, .inl z0)), (yq11, .inl (cI, 30, .inl z0)), (yq12, .inl (cI, 7, .inl z0)), (yq13, .inl (cI, 7, .inl z0)), (yh, .inr (10, [.ref yq1, .ref yq2, .int 0, .int 0, .int 1, .int 0, .int 0, .int 0, .ref yq3, .ref yq4, .ref yq5, .ref yq6, .ref yq7, .ref yq8, .int 0, .int 0, .int 0, .int 0, .int 0, .int (-1), .int 0, .int 1, .int 0, .int 0, .int 0, .int 0, .int 0, .ref yq9, .ref yq10, .ref yq11, .ref yq12, .ref yq13, .int 0, .int 0, .int 0, .int 0, .ref yq14, .ref yq15, .ref yq16, .ref yq17, .int 0, .int 0, .int 0, .ref yq18, .ref yq19]))] H := hP
  have hD : va_D A [(yq1, .inl (cI, 1302, .inl (upd (wC z0 7) (41 : Int32).toNatClampNeg (z0 (41 : Int32).toNatClampNeg)))), (yq2, .inl (cZ, 2, .inl z0)), (yq3, .inl (cI, 6, .inl z0)), (yq4, .inl (cI, 6, .inl z0)), (yq5, .inl (cI, 30, .inl z0)), (yq6, .inl (cI, 7, .inl z0)), (yq7, .inl (cI, 7, .inl z0)), (yq9, .inl (cI, 6, .inl z0)), (yq10, .inl (cI, 6, .inl z0)), (yq11, .inl (cI, 30, .inl z0)), (yq12, .inl (cI, 7, .inl z0)), (yq13, .inl (cI, 7, .inl z0)), (yh, .inr (10, [.ref yq1, .ref yq2, .int 0, .int 0, .int 1, .int 0, .int 0, .int 0, .ref yq3, .ref yq4, .ref yq5, .ref yq6, .ref yq7, .ref yq8, .int 0, .int 0, .int 0, .int 0, .int 0, .int (-1), .int 0, .int 1, .int 0, .int 0, .int 0, .int 0, .int 0, .ref yq9, .ref yq10, .ref yq11, .ref yq12, .ref yq13, .int 0, .int 0, .int 0, .int 0, .ref yq14, .ref yq15, .ref yq16, .ref yq17, .int 0, .int 0, .int 0, .ref yq18, .ref yq19]))] := hD
  refine lv_aload_n hx hb dX10_town_121 rfl (lv_at hl 1 rfl) ?_
  refine lv_aload_n hx hb dX10_town_122 rfl (lv_at hl 1 rfl) ?_
  refine va_get (D := D) (ci := 10) (v := .int 0) (C := RX10) (T := TX10) (N := 45) hx hb hts iX10 hown hK hP 12 rfl rfl 25 (by decide) (hts _ wd_324) (fun _ h9 => h9) rfl dX10_town_123 ?_
  refine va_put (D := D) (ci := 10) (v := .int 0) (ty := .int) (C := RX10) (T := TX10) (N := 45) hx hb hts iX10 tyX10 tyX10_ok nmX10 hown hK hP hD hS 12 rfl rfl 7 (by decide) (hts _ wd_330) (fun _ h9 => h9) rfl (by decide +kernel) rfl rfl (Nat.le_of_ble_eq_true rfl) dX10_town_126 (fun H locs hP hD hS => ?_)
  have hP : va_P D classes [(yq1, .inl (cI, 1302, .inl (upd (wC z0 7) (41 : Int32).toNatClampNeg (z0 (41 : Int32).toNatClampNeg)))), (yq2, .inl (cZ, 2, .inl z0)), (yq3, .inl (cI, 6, .inl z0)), (yq4, .inl (cI, 6, .inl z0)), (yq5, .inl (cI, 30, .inl z0)), (yq6, .inl (cI, 7, .inl z0)), (yq7, .inl (cI, 7, .inl z0)), (yq9, .inl (cI, 6, .inl z0)), (yq10, .inl (cI, 6, .inl z0)), (yq11, .inl (cI, 30, .inl z0)), (yq12, .inl (cI, 7, .inl z0)), (yq13, .inl (cI, 7, .inl z0)), (yh, .inr (10, [.ref yq1, .ref yq2, .int 0, .int 0, .int 1, .int 0, .int 0, .int 0, .ref yq3, .ref yq4, .ref yq5, .ref yq6, .ref yq7, .ref yq8, .int 0, .int 0, .int 0, .int 0, .int 0, .int (-1), .int 0, .int 1, .int 0, .int 0, .int 0, .int 0, .int 0, .ref yq9, .ref yq10, .ref yq11, .ref yq12, .ref yq13, .int 0, .int 0, .int 0, .int 0, .ref yq14, .ref yq15, .ref yq16, .ref yq17, .int 0, .int 0, .int 0, .ref yq18, .ref yq19]))] H := hP
  have hD : va_D A [(yq1, .inl (cI, 1302, .inl (upd (wC z0 7) (41 : Int32).toNatClampNeg (z0 (41 : Int32).toNatClampNeg)))), (yq2, .inl (cZ, 2, .inl z0)), (yq3, .inl (cI, 6, .inl z0)), (yq4, .inl (cI, 6, .inl z0)), (yq5, .inl (cI, 30, .inl z0)), (yq6, .inl (cI, 7, .inl z0)), (yq7, .inl (cI, 7, .inl z0)), (yq9, .inl (cI, 6, .inl z0)), (yq10, .inl (cI, 6, .inl z0)), (yq11, .inl (cI, 30, .inl z0)), (yq12, .inl (cI, 7, .inl z0)), (yq13, .inl (cI, 7, .inl z0)), (yh, .inr (10, [.ref yq1, .ref yq2, .int 0, .int 0, .int 1, .int 0, .int 0, .int 0, .ref yq3, .ref yq4, .ref yq5, .ref yq6, .ref yq7, .ref yq8, .int 0, .int 0, .int 0, .int 0, .int 0, .int (-1), .int 0, .int 1, .int 0, .int 0, .int 0, .int 0, .int 0, .ref yq9, .ref yq10, .ref yq11, .ref yq12, .ref yq13, .int 0, .int 0, .int 0, .int 0, .ref yq14, .ref yq15, .ref yq16, .ref yq17, .int 0, .int 0, .int 0, .ref yq18, .ref yq19]))] := hD
  refine lv_iconst (v := 0) hx hb dX10_town_129 (by decide) ?_
  refine lv_istore_n (lv' := [(2, .int 0), (1, .int 1), (0, .ref yh)]) hx hb dX10_town_130 rfl hl (by decide) rfl (fun ls hl => ?_)
  have lp_6 : ∀ (n k : Nat), k + n = 6 → ∀ (H : Heap) (locs : List Loc) (ls : Array Slot), va_P D classes [(yq1, .inl (cI, 1302, .inl (upd (wC z0 7) (41 : Int32).toNatClampNeg (z0 (41 : Int32).toNatClampNeg)))), (yq2, .inl (cZ, 2, .inl z0)), (yq3, .inl (cI, 6, .inl (cpZ z0 z0 k))), (yq4, .inl (cI, 6, .inl (cpZ z0 z0 k))), (yq5, .inl (cI, 30, .inl z0)), (yq6, .inl (cI, 7, .inl z0)), (yq7, .inl (cI, 7, .inl z0)), (yq9, .inl (cI, 6, .inl z0)), (yq10, .inl (cI, 6, .inl z0)), (yq11, .inl (cI, 30, .inl z0)), (yq12, .inl (cI, 7, .inl z0)), (yq13, .inl (cI, 7, .inl z0)), (yh, .inr (10, [.ref yq1, .ref yq2, .int 0, .int 0, .int 1, .int 0, .int 0, .int 0, .ref yq3, .ref yq4, .ref yq5, .ref yq6, .ref yq7, .ref yq8, .int 0, .int 0, .int 0, .int 0, .int 0, .int (-1), .int 0, .int 1, .int 0, .int 0, .int 0, .int 0, .int 0, .ref yq9, .ref yq10, .ref yq11, .ref yq12, .ref yq13, .int 0, .int 0, .int 0, .int 0, .ref yq14, .ref yq15, .ref yq16, .ref yq17, .int 0, .int 0, .int 0, .ref yq18, .ref yq19]))] H → va_D A [(yq1, .inl (cI, 1302, .inl (upd (wC z0 7) (41 : Int32).toNatClampNeg (z0 (41 : Int32).toNatClampNeg)))), (yq2, .inl (cZ, 2, .inl z0)), (yq3, .inl (cI, 6, .inl (cpZ z0 z0 k))), (yq4, .inl (cI, 6, .inl (cpZ z0 z0 k))), (yq5, .inl (cI, 30, .inl z0)), (yq6, .inl (cI, 7, .inl z0)), (yq7, .inl (cI, 7, .inl z0)), (yq9, .inl (cI, 6, .inl z0)), (yq10, .inl (cI, 6, .inl z0)), (yq11, .inl (cI, 30, .inl z0)), (yq12, .inl (cI, 7, .inl z0)), (yq13, .inl (cI, 7, .inl z0)), (yh, .inr (10, [.ref yq1, .ref yq2, .int 0, .int 0, .int 1, .int 0, .int 0, .int 0, .ref yq3, .ref yq4, .ref yq5, .ref yq6, .ref yq7, .ref yq8, .int 0, .int 0, .int 0, .int 0, .int 0, .int (-1), .int 0, .int 1, .int 0, .int 0, .int 0, .int 0, .int 0, .ref yq9, .ref yq10, .ref yq11, .ref yq12, .ref yq13, .int 0, .int 0, .int 0, .int 0, .ref yq14, .ref yq15, .ref yq16, .ref yq17, .int 0, .int 0, .int 0, .ref yq18, .ref yq19]))] → va_S A s.heap H locs → lv_has ls 3 [(2, .int (nI k)), (1, .int 1), (0, .ref yh)] → W p l e rm_k_m_town s m args below meth c H locs 0 0 Q (F0 m 131 ls []) := by
    intro n
    induction n with
    | zero =>
      intro k hk H locs ls hP hD hS hl
      obtain rfl : k = 6 := by omega
      refine lv_iload_n hx hb dX10_town_131 rfl (lv_at hl 0 rfl) ?_
      refine lv_bipush (v := 6) hx hb dX10_town_132 (by decide) ?_
      refine lv_icmp_ge (tgt := 167) hx hb dX10_town_134 (by decide) (fun c_7 => ?_) (fun c_7 => absurd (by decide +kernel) c_7)
      refine lv_iconst (v := 0) hx hb dX10_town_167 (by decide) ?_
      refine lv_istore_n (lv' := [(2, .int 0), (1, .int 1), (0, .ref yh)]) hx hb dX10_town_168 rfl hl (by decide) rfl (fun ls hl => ?_)
      have lp_8 : ∀ (n j : Nat), j + n = 30 → ∀ (H : Heap) (locs : List Loc) (ls : Array Slot), va_P D classes [(yq1, .inl (cI, 1302, .inl (upd (wC z0 7) (41 : Int32).toNatClampNeg (z0 (41 : Int32).toNatClampNeg)))), (yq2, .inl (cZ, 2, .inl z0)), (yq3, .inl (cI, 6, .inl (cpZ z0 z0 6))), (yq4, .inl (cI, 6, .inl (cpZ z0 z0 6))), (yq5, .inl (cI, 30, .inl (cpZ z0 z0 j))), (yq6, .inl (cI, 7, .inl z0)), (yq7, .inl (cI, 7, .inl z0)), (yq9, .inl (cI, 6, .inl z0)), (yq10, .inl (cI, 6, .inl z0)), (yq11, .inl (cI, 30, .inl z0)), (yq12, .inl (cI, 7, .inl z0)), (yq13, .inl (cI, 7, .inl z0)), (yh, .inr (10, [.ref yq1, .ref yq2, .int 0, .int 0, .int 1, .int 0, .int 0, .int 0, .ref yq3, .ref yq4, .ref yq5, .ref yq6, .ref yq7, .ref yq8, .int 0, .int 0, .int 0, .int 0, .int 0, .int (-1), .int 0, .int 1, .int 0, .int 0, .int 0, .int 0, .int 0, .ref yq9, .ref yq10, .ref yq11, .ref yq12, .ref yq13, .int 0, .int 0, .int 0, .int 0, .ref yq14, .ref yq15, .ref yq16, .ref yq17, .int 0, .int 0, .int 0, .ref yq18, .ref yq19]))] H → va_D A [(yq1, .inl (cI, 1302, .inl (upd (wC z0 7) (41 : Int32).toNatClampNeg (z0 (41 : Int32).toNatClampNeg)))), (yq2, .inl (cZ, 2, .inl z0)), (yq3, .inl (cI, 6, .inl (cpZ z0 z0 6))), (yq4, .inl (cI, 6, .inl (cpZ z0 z0 6))), (yq5, .inl (cI, 30, .inl (cpZ z0 z0 j))), (yq6, .inl (cI, 7, .inl z0)), (yq7, .inl (cI, 7, .inl z0)), (yq9, .inl (cI, 6, .inl z0)), (yq10, .inl (cI, 6, .inl z0)), (yq11, .inl (cI, 30, .inl z0)), (yq12, .inl (cI, 7, .inl z0)), (yq13, .inl (cI, 7, .inl z0)), (yh, .inr (10, [.ref yq1, .ref yq2, .int 0, .int 0, .int 1, .int 0, .int 0, .int 0, .ref yq3, .ref yq4, .ref yq5, .ref yq6, .ref yq7, .ref yq8, .int 0, .int 0, .int 0, .int 0, .int 0, .int (-1), .int 0, .int 1, .int 0, .int 0, .int 0, .int 0, .int 0, .ref yq9, .ref yq10, .ref yq11, .ref yq12, .ref yq13, .int 0, .int 0, .int 0, .int 0, .ref yq14, .ref yq15, .ref yq16, .ref yq17, .int 0, .int 0, .int 0, .ref yq18, .ref yq19]))] → va_S A s.heap H locs → lv_has ls 3 [(2, .int (nI j)), (1, .int 1), (0, .ref yh)] → W p l e rm_k_m_town s m args below meth c H locs 0 0 Q (F0 m 169 ls []) := by
        intro n
        induction n with
        | zero =>
          intro j hk H locs ls hP hD hS hl
          obtain rfl : j = 30 := by omega
          refine lv_iload_n hx hb dX10_town_169 rfl (lv_at hl 0 rfl) ?_
          refine lv_bipush (v := 30) hx hb dX10_town_170 (by decide) ?_
          refine lv_icmp_ge (tgt := 193) hx hb dX10_town_172 (by decide) (fun c_9 => ?_) (fun c_9 => absurd (by decide +kernel) c_9)
          refine lv_iconst (v := 0) hx hb dX10_town_193 (by decide) ?_
          refine lv_istore_n (lv' := [(2, .int 0), (1, .int 1), (0, .ref yh)]) hx hb dX10_town_194 rfl hl (by decide) rfl (fun ls hl => ?_)
          have lp_10 : ∀ (n i : Nat), i + n = 7 → ∀ (H : Heap) (locs : List Loc) (ls : Array Slot), va_P D classes [(yq1, .inl (cI, 1302, .inl (upd (wC z0 7) (41 : Int32).toNatClampNeg (z0 (41 : Int32).toNatClampNeg)))), (yq2, .inl (cZ, 2, .inl z0)), (yq3, .inl (cI, 6, .inl (cpZ z0 z0 6))), (yq4, .inl (cI, 6, .inl (cpZ z0 z0 6))), (yq5, .inl (cI, 30, .inl (cpZ z0 z0 30))), (yq6, .inl (cI, 7, .inl (cpZ z0 z0 i))), (yq7, .inl (cI, 7, .inl (cpZ z0 z0 i))), (yq9, .inl (cI, 6, .inl z0)), (yq10, .inl (cI, 6, .inl z0)), (yq11, .inl (cI, 30, .inl z0)), (yq12, .inl (cI, 7, .inl z0)), (yq13, .inl (cI, 7, .inl z0)), (yh, .inr (10, [.ref yq1, .ref yq2, .int 0, .int 0, .int 1, .int 0, .int 0, .int 0, .ref yq3, .ref yq4, .ref yq5, .ref yq6, .ref yq7, .ref yq8, .int 0, .int 0, .int 0, .int 0, .int 0, .int (-1), .int 0, .int 1, .int 0, .int 0, .int 0, .int 0, .int 0, .ref yq9, .ref yq10, .ref yq11, .ref yq12, .ref yq13, .int 0, .int 0, .int 0, .int 0, .ref yq14, .ref yq15, .ref yq16, .ref yq17, .int 0, .int 0, .int 0, .ref yq18, .ref yq19]))] H → va_D A [(yq1, .inl (cI, 1302, .inl (upd (wC z0 7) (41 : Int32).toNatClampNeg (z0 (41 : Int32).toNatClampNeg)))), (yq2, .inl (cZ, 2, .inl z0)), (yq3, .inl (cI, 6, .inl (cpZ z0 z0 6))), (yq4, .inl (cI, 6, .inl (cpZ z0 z0 6))), (yq5, .inl (cI, 30, .inl (cpZ z0 z0 30))), (yq6, .inl (cI, 7, .inl (cpZ z0 z0 i))), (yq7, .inl (cI, 7, .inl (cpZ z0 z0 i))), (yq9, .inl (cI, 6, .inl z0)), (yq10, .inl (cI, 6, .inl z0)), (yq11, .inl (cI, 30, .inl z0)), (yq12, .inl (cI, 7, .inl z0)), (yq13, .inl (cI, 7, .inl z0)), (yh, .inr (10, [.ref yq1, .ref yq2, .int 0, .int 0, .int 1, .int 0, .int 0, .int 0, .ref yq3, .ref yq4, .ref yq5, .ref yq6, .ref yq7, .ref yq8, .int 0, .int 0, .int 0, .int 0, .int 0, .int (-1), .int 0, .int 1, .int 0, .int 0, .int 0, .int 0, .int 0, .ref yq9, .ref yq10, .ref yq11, .ref yq12, .ref yq13, .int 0, .int 0, .int 0, .int 0, .ref yq14, .ref yq15, .ref yq16, .ref yq17, .int 0, .int 0, .int 0, .ref yq18, .ref yq19]))] → va_S A s.heap H locs → lv_has ls 3 [(2, .int (nI i)), (1, .int 1), (0, .ref yh)] → W p l e rm_k_m_town s m args below meth c H locs 0 0 Q (F0 m 195 ls []) := by
            intro n
            induction n with
            | zero =>
              intro i hk H locs ls hP hD hS hl
              obtain rfl : i = 7 := by omega
              refine lv_iload_n hx hb dX10_town_195 rfl (lv_at hl 0 rfl) ?_
              refine lv_bipush (v := 7) hx hb dX10_town_196 (by decide) ?_
              refine lv_icmp_ge (tgt := 231) hx hb dX10_town_198 (by decide) (fun c_11 => ?_) (fun c_11 => absurd (by decide +kernel) c_11)
              refine lv_aload_n hx hb dX10_town_231 rfl (lv_at hl 2 rfl) ?_
              refine cVv (wr := [(yq2, .inl (cZ, 2, .inl z0)), (yq3, .inl (cI, 6, .inl (cpZ z0 z0 6))), (yq4, .inl (cI, 6, .inl (cpZ z0 z0 6))), (yq5, .inl (cI, 30, .inl (cpZ z0 z0 30))), (yq6, .inl (cI, 7, .inl (cpZ z0 z0 7))), (yq7, .inl (cI, 7, .inl (cpZ z0 z0 7))), (yq9, .inl (cI, 6, .inl z0)), (yq10, .inl (cI, 6, .inl z0)), (yq11, .inl (cI, 30, .inl z0)), (yq12, .inl (cI, 7, .inl z0)), (yq13, .inl (cI, 7, .inl z0))]) (rest := []) (k_begins yh yq1 yq2 yq3 yq4 yq5 yq6 yq7 yq8 yq9 yq10 yq11 yq12 yq13 yq14 yq15 yq16 yq17 yq18 yq19 0 0 1 0 0 0 0 0 0 0 (-1) 0 1 0 0 0 0 0 0 0 0 0 0 0 0 (upd (wC z0 7) (41 : Int32).toNatClampNeg (z0 (41 : Int32).toNatClampNeg))) okV_X10_begins wd_293 hx hb hml hown hts hK hP hD hS hA hN hl.1 [12, 0] [1, 2, 3, 4, 5, 6, 7, 8, 9, 10, 11] rfl rfl rfl rfl (by decide) rfl rfl rfl (Nat.le_of_ble_eq_true rfl) (Nat.le_of_ble_eq_true rfl) (Nat.le_of_ble_eq_true rfl) (Nat.le_of_ble_eq_true rfl) (Nat.le_of_ble_eq_true rfl) dX10_town_232 (fun u_12 H locs hw_u_12 hP hD hS => ?_)
              have hP : va_P D classes [(yq2, .inl (cZ, 2, .inl z0)), (yq3, .inl (cI, 6, .inl (cpZ z0 z0 6))), (yq4, .inl (cI, 6, .inl (cpZ z0 z0 6))), (yq5, .inl (cI, 30, .inl (cpZ z0 z0 30))), (yq6, .inl (cI, 7, .inl (cpZ z0 z0 7))), (yq7, .inl (cI, 7, .inl (cpZ z0 z0 7))), (yq9, .inl (cI, 6, .inl z0)), (yq10, .inl (cI, 6, .inl z0)), (yq11, .inl (cI, 30, .inl z0)), (yq12, .inl (cI, 7, .inl z0)), (yq13, .inl (cI, 7, .inl z0)), (yh, .inr (10, [.ref yq1, .ref yq2, .int 0, .int 0, .int 1, .int 0, .int 0, .int 0, .ref yq3, .ref yq4, .ref yq5, .ref yq6, .ref yq7, .ref yq8, .int 0, .int 0, .int 0, .int 0, .int 0, .int (-1), .int 0, .int 1, .int 0, .int 0, .int 0, .int 0, .int 0, .ref yq9, .ref yq10, .ref yq11, .ref yq12, .ref yq13, .int 0, .int 0, .int 0, .int 0, .ref yq14, .ref yq15, .ref yq16, .ref yq17, .int 0, .int 0, .int 0, .ref yq18, .ref yq19])), (yq1, .inl (cI, 1302, .inl (upd (wC (upd (wC z0 7) (41 : Int32).toNatClampNeg (z0 (41 : Int32).toNatClampNeg)) 7) (41 : Int32).toNatClampNeg ((upd (wC z0 7) (41 : Int32).toNatClampNeg (z0 (41 : Int32).toNatClampNeg)) (41 : Int32).toNatClampNeg))))] H := hP
              have hD : va_D A [(yq2, .inl (cZ, 2, .inl z0)), (yq3, .inl (cI, 6, .inl (cpZ z0 z0 6))), (yq4, .inl (cI, 6, .inl (cpZ z0 z0 6))), (yq5, .inl (cI, 30, .inl (cpZ z0 z0 30))), (yq6, .inl (cI, 7, .inl (cpZ z0 z0 7))), (yq7, .inl (cI, 7, .inl (cpZ z0 z0 7))), (yq9, .inl (cI, 6, .inl z0)), (yq10, .inl (cI, 6, .inl z0)), (yq11, .inl (cI, 30, .inl z0)), (yq12, .inl (cI, 7, .inl z0)), (yq13, .inl (cI, 7, .inl z0)), (yh, .inr (10, [.ref yq1, .ref yq2, .int 0, .int 0, .int 1, .int 0, .int 0, .int 0, .ref yq3, .ref yq4, .ref yq5, .ref yq6, .ref yq7, .ref yq8, .int 0, .int 0, .int 0, .int 0, .int 0, .int (-1), .int 0, .int 1, .int 0, .int 0, .int 0, .int 0, .int 0, .ref yq9, .ref yq10, .ref yq11, .ref yq12, .ref yq13, .int 0, .int 0, .int 0, .int 0, .ref yq14, .ref yq15, .ref yq16, .ref yq17, .int 0, .int 0, .int 0, .ref yq18, .ref yq19])), (yq1, .inl (cI, 1302, .inl (upd (wC (upd (wC z0 7) (41 : Int32).toNatClampNeg (z0 (41 : Int32).toNatClampNeg)) 7) (41 : Int32).toNatClampNeg ((upd (wC z0 7) (41 : Int32).toNatClampNeg (z0 (41 : Int32).toNatClampNeg)) (41 : Int32).toNatClampNeg))))] := hD
              refine lv_aload_n hx hb dX10_town_235 rfl (lv_at hl 2 rfl) ?_
              refine lv_iconst (v := 0) hx hb dX10_town_236 (by decide) ?_
              refine va_put (D := D) (ci := 10) (v := .int 0) (ty := .int) (C := RX10) (T := TX10) (N := 45) hx hb hts iX10 tyX10 tyX10_ok nmX10 hown hK hP hD hS 11 rfl rfl 42 (by decide) (hts _ wd_331) (fun _ h9 => h9) rfl (by decide +kernel) rfl rfl (Nat.le_of_ble_eq_true rfl) dX10_town_237 (fun H locs hP hD hS => ?_)
              have hP : va_P D classes [(yq2, .inl (cZ, 2, .inl z0)), (yq3, .inl (cI, 6, .inl (cpZ z0 z0 6))), (yq4, .inl (cI, 6, .inl (cpZ z0 z0 6))), (yq5, .inl (cI, 30, .inl (cpZ z0 z0 30))), (yq6, .inl (cI, 7, .inl (cpZ z0 z0 7))), (yq7, .inl (cI, 7, .inl (cpZ z0 z0 7))), (yq9, .inl (cI, 6, .inl z0)), (yq10, .inl (cI, 6, .inl z0)), (yq11, .inl (cI, 30, .inl z0)), (yq12, .inl (cI, 7, .inl z0)), (yq13, .inl (cI, 7, .inl z0)), (yh, .inr (10, [.ref yq1, .ref yq2, .int 0, .int 0, .int 1, .int 0, .int 0, .int 0, .ref yq3, .ref yq4, .ref yq5, .ref yq6, .ref yq7, .ref yq8, .int 0, .int 0, .int 0, .int 0, .int 0, .int (-1), .int 0, .int 1, .int 0, .int 0, .int 0, .int 0, .int 0, .ref yq9, .ref yq10, .ref yq11, .ref yq12, .ref yq13, .int 0, .int 0, .int 0, .int 0, .ref yq14, .ref yq15, .ref yq16, .ref yq17, .int 0, .int 0, .int 0, .ref yq18, .ref yq19])), (yq1, .inl (cI, 1302, .inl (upd (wC (upd (wC z0 7) (41 : Int32).toNatClampNeg (z0 (41 : Int32).toNatClampNeg)) 7) (41 : Int32).toNatClampNeg ((upd (wC z0 7) (41 : Int32).toNatClampNeg (z0 (41 : Int32).toNatClampNeg)) (41 : Int32).toNatClampNeg))))] H := hP
              have hD : va_D A [(yq2, .inl (cZ, 2, .inl z0)), (yq3, .inl (cI, 6, .inl (cpZ z0 z0 6))), (yq4, .inl (cI, 6, .inl (cpZ z0 z0 6))), (yq5, .inl (cI, 30, .inl (cpZ z0 z0 30))), (yq6, .inl (cI, 7, .inl (cpZ z0 z0 7))), (yq7, .inl (cI, 7, .inl (cpZ z0 z0 7))), (yq9, .inl (cI, 6, .inl z0)), (yq10, .inl (cI, 6, .inl z0)), (yq11, .inl (cI, 30, .inl z0)), (yq12, .inl (cI, 7, .inl z0)), (yq13, .inl (cI, 7, .inl z0)), (yh, .inr (10, [.ref yq1, .ref yq2, .int 0, .int 0, .int 1, .int 0, .int 0, .int 0, .ref yq3, .ref yq4, .ref yq5, .ref yq6, .ref yq7, .ref yq8, .int 0, .int 0, .int 0, .int 0, .int 0, .int (-1), .int 0, .int 1, .int 0, .int 0, .int 0, .int 0, .int 0, .ref yq9, .ref yq10, .ref yq11, .ref yq12, .ref yq13, .int 0, .int 0, .int 0, .int 0, .ref yq14, .ref yq15, .ref yq16, .ref yq17, .int 0, .int 0, .int 0, .ref yq18, .ref yq19])), (yq1, .inl (cI, 1302, .inl (upd (wC (upd (wC z0 7) (41 : Int32).toNatClampNeg (z0 (41 : Int32).toNatClampNeg)) 7) (41 : Int32).toNatClampNeg ((upd (wC z0 7) (41 : Int32).toNatClampNeg (z0 (41 : Int32).toNatClampNeg)) (41 : Int32).toNatClampNeg))))] := hD
              refine lv_aload_n hx hb dX10_town_240 rfl (lv_at hl 2 rfl) ?_
              refine lv_iconst (v := 0) hx hb dX10_town_241 (by decide) ?_
              refine va_put (D := D) (ci := 10) (v := .int 0) (ty := .int) (C := RX10) (T := TX10) (N := 45) hx hb hts iX10 tyX10 tyX10_ok nmX10 hown hK hP hD hS 11 rfl rfl 2 (by decide) (hts _ wd_332) (fun _ h9 => h9) rfl (by decide +kernel) rfl rfl (Nat.le_of_ble_eq_true rfl) dX10_town_242 (fun H locs hP hD hS => ?_)
              have hP : va_P D classes [(yq2, .inl (cZ, 2, .inl z0)), (yq3, .inl (cI, 6, .inl (cpZ z0 z0 6))), (yq4, .inl (cI, 6, .inl (cpZ z0 z0 6))), (yq5, .inl (cI, 30, .inl (cpZ z0 z0 30))), (yq6, .inl (cI, 7, .inl (cpZ z0 z0 7))), (yq7, .inl (cI, 7, .inl (cpZ z0 z0 7))), (yq9, .inl (cI, 6, .inl z0)), (yq10, .inl (cI, 6, .inl z0)), (yq11, .inl (cI, 30, .inl z0)), (yq12, .inl (cI, 7, .inl z0)), (yq13, .inl (cI, 7, .inl z0)), (yh, .inr (10, [.ref yq1, .ref yq2, .int 0, .int 0, .int 1, .int 0, .int 0, .int 0, .ref yq3, .ref yq4, .ref yq5, .ref yq6, .ref yq7, .ref yq8, .int 0, .int 0, .int 0, .int 0, .int 0, .int (-1), .int 0, .int 1, .int 0, .int 0, .int 0, .int 0, .int 0, .ref yq9, .ref yq10, .ref yq11, .ref yq12, .ref yq13, .int 0, .int 0, .int 0, .int 0, .ref yq14, .ref yq15, .ref yq16, .ref yq17, .int 0, .int 0, .int 0, .ref yq18, .ref yq19])), (yq1, .inl (cI, 1302, .inl (upd (wC (upd (wC z0 7) (41 : Int32).toNatClampNeg (z0 (41 : Int32).toNatClampNeg)) 7) (41 : Int32).toNatClampNeg ((upd (wC z0 7) (41 : Int32).toNatClampNeg (z0 (41 : Int32).toNatClampNeg)) (41 : Int32).toNatClampNeg))))] H := hP
              have hD : va_D A [(yq2, .inl (cZ, 2, .inl z0)), (yq3, .inl (cI, 6, .inl (cpZ z0 z0 6))), (yq4, .inl (cI, 6, .inl (cpZ z0 z0 6))), (yq5, .inl (cI, 30, .inl (cpZ z0 z0 30))), (yq6, .inl (cI, 7, .inl (cpZ z0 z0 7))), (yq7, .inl (cI, 7, .inl (cpZ z0 z0 7))), (yq9, .inl (cI, 6, .inl z0)), (yq10, .inl (cI, 6, .inl z0)), (yq11, .inl (cI, 30, .inl z0)), (yq12, .inl (cI, 7, .inl z0)), (yq13, .inl (cI, 7, .inl z0)), (yh, .inr (10, [.ref yq1, .ref yq2, .int 0, .int 0, .int 1, .int 0, .int 0, .int 0, .ref yq3, .ref yq4, .ref yq5, .ref yq6, .ref yq7, .ref yq8, .int 0, .int 0, .int 0, .int 0, .int 0, .int (-1), .int 0, .int 1, .int 0, .int 0, .int 0, .int 0, .int 0, .ref yq9, .ref yq10, .ref yq11, .ref yq12, .ref yq13, .int 0, .int 0, .int 0, .int 0, .ref yq14, .ref yq15, .ref yq16, .ref yq17, .int 0, .int 0, .int 0, .ref yq18, .ref yq19])), (yq1, .inl (cI, 1302, .inl (upd (wC (upd (wC z0 7) (41 : Int32).toNatClampNeg (z0 (41 : Int32).toNatClampNeg)) 7) (41 : Int32).toNatClampNeg ((upd (wC z0 7) (41 : Int32).toNatClampNeg (z0 (41 : Int32).toNatClampNeg)) (41 : Int32).toNatClampNeg))))] := hD
              refine lv_aload_n hx hb dX10_town_245 rfl (lv_at hl 2 rfl) ?_
              refine va_get (D := D) (ci := 10) (v := .ref yq2) (C := RX10) (T := TX10) (N := 45) hx hb hts iX10 hown hK hP 11 rfl rfl 1 (by decide) (hts _ wd_273) (fun _ h9 => h9) rfl dX10_town_246 ?_
              refine lv_iconst (v := 0) hx hb dX10_town_249 (by decide) ?_
              refine lv_iconst (v := 0) hx hb dX10_town_250 (by decide) ?_
              refine va_zast hx hb hK hP hD hS 0 1 rfl rfl (show ¬ ((0 : Int32) < 0 ∨ 2 ≤ (0 : Int32).toNatClampNeg) by decide +kernel) dX10_town_251 (fun H locs hP hD hS => ?_)
              have hP : va_P D classes [(yq2, .inl (cZ, 2, .inl (upd z0 (0 : Int32).toNatClampNeg (vp_nar .boolean 0)))), (yq3, .inl (cI, 6, .inl (cpZ z0 z0 6))), (yq4, .inl (cI, 6, .inl (cpZ z0 z0 6))), (yq5, .inl (cI, 30, .inl (cpZ z0 z0 30))), (yq6, .inl (cI, 7, .inl (cpZ z0 z0 7))), (yq7, .inl (cI, 7, .inl (cpZ z0 z0 7))), (yq9, .inl (cI, 6, .inl z0)), (yq10, .inl (cI, 6, .inl z0)), (yq11, .inl (cI, 30, .inl z0)), (yq12, .inl (cI, 7, .inl z0)), (yq13, .inl (cI, 7, .inl z0)), (yh, .inr (10, [.ref yq1, .ref yq2, .int 0, .int 0, .int 1, .int 0, .int 0, .int 0, .ref yq3, .ref yq4, .ref yq5, .ref yq6, .ref yq7, .ref yq8, .int 0, .int 0, .int 0, .int 0, .int 0, .int (-1), .int 0, .int 1, .int 0, .int 0, .int 0, .int 0, .int 0, .ref yq9, .ref yq10, .ref yq11, .ref yq12, .ref yq13, .int 0, .int 0, .int 0, .int 0, .ref yq14, .ref yq15, .ref yq16, .ref yq17, .int 0, .int 0, .int 0, .ref yq18, .ref yq19])), (yq1, .inl (cI, 1302, .inl (upd (wC (upd (wC z0 7) (41 : Int32).toNatClampNeg (z0 (41 : Int32).toNatClampNeg)) 7) (41 : Int32).toNatClampNeg ((upd (wC z0 7) (41 : Int32).toNatClampNeg (z0 (41 : Int32).toNatClampNeg)) (41 : Int32).toNatClampNeg))))] H := hP
              have hD : va_D A [(yq2, .inl (cZ, 2, .inl (upd z0 (0 : Int32).toNatClampNeg (vp_nar .boolean 0)))), (yq3, .inl (cI, 6, .inl (cpZ z0 z0 6))), (yq4, .inl (cI, 6, .inl (cpZ z0 z0 6))), (yq5, .inl (cI, 30, .inl (cpZ z0 z0 30))), (yq6, .inl (cI, 7, .inl (cpZ z0 z0 7))), (yq7, .inl (cI, 7, .inl (cpZ z0 z0 7))), (yq9, .inl (cI, 6, .inl z0)), (yq10, .inl (cI, 6, .inl z0)), (yq11, .inl (cI, 30, .inl z0)), (yq12, .inl (cI, 7, .inl z0)), (yq13, .inl (cI, 7, .inl z0)), (yh, .inr (10, [.ref yq1, .ref yq2, .int 0, .int 0, .int 1, .int 0, .int 0, .int 0, .ref yq3, .ref yq4, .ref yq5, .ref yq6, .ref yq7, .ref yq8, .int 0, .int 0, .int 0, .int 0, .int 0, .int (-1), .int 0, .int 1, .int 0, .int 0, .int 0, .int 0, .int 0, .ref yq9, .ref yq10, .ref yq11, .ref yq12, .ref yq13, .int 0, .int 0, .int 0, .int 0, .ref yq14, .ref yq15, .ref yq16, .ref yq17, .int 0, .int 0, .int 0, .ref yq18, .ref yq19])), (yq1, .inl (cI, 1302, .inl (upd (wC (upd (wC z0 7) (41 : Int32).toNatClampNeg (z0 (41 : Int32).toNatClampNeg)) 7) (41 : Int32).toNatClampNeg ((upd (wC z0 7) (41 : Int32).toNatClampNeg (z0 (41 : Int32).toNatClampNeg)) (41 : Int32).toNatClampNeg))))] := hD
              refine lv_aload_n hx hb dX10_town_252 rfl (lv_at hl 2 rfl) ?_
              refine va_get (D := D) (ci := 10) (v := .ref yq2) (C := RX10) (T := TX10) (N := 45) hx hb hts iX10 hown hK hP 11 rfl rfl 1 (by decide) (hts _ wd_273) (fun _ h9 => h9) rfl dX10_town_253 ?_
              refine lv_iconst (v := 1) hx hb dX10_town_256 (by decide) ?_
              refine lv_iconst (v := 0) hx hb dX10_town_257 (by decide) ?_
              refine va_zast hx hb hK hP hD hS 0 1 rfl rfl (show ¬ ((1 : Int32) < 0 ∨ 2 ≤ (1 : Int32).toNatClampNeg) by decide +kernel) dX10_town_258 (fun H locs hP hD hS => ?_)
              have hP : va_P D classes [(yq2, .inl (cZ, 2, .inl (upd (upd z0 (0 : Int32).toNatClampNeg (vp_nar .boolean 0)) (1 : Int32).toNatClampNeg (vp_nar .boolean 0)))), (yq3, .inl (cI, 6, .inl (cpZ z0 z0 6))), (yq4, .inl (cI, 6, .inl (cpZ z0 z0 6))), (yq5, .inl (cI, 30, .inl (cpZ z0 z0 30))), (yq6, .inl (cI, 7, .inl (cpZ z0 z0 7))), (yq7, .inl (cI, 7, .inl (cpZ z0 z0 7))), (yq9, .inl (cI, 6, .inl z0)), (yq10, .inl (cI, 6, .inl z0)), (yq11, .inl (cI, 30, .inl z0)), (yq12, .inl (cI, 7, .inl z0)), (yq13, .inl (cI, 7, .inl z0)), (yh, .inr (10, [.ref yq1, .ref yq2, .int 0, .int 0, .int 1, .int 0, .int 0, .int 0, .ref yq3, .ref yq4, .ref yq5, .ref yq6, .ref yq7, .ref yq8, .int 0, .int 0, .int 0, .int 0, .int 0, .int (-1), .int 0, .int 1, .int 0, .int 0, .int 0, .int 0, .int 0, .ref yq9, .ref yq10, .ref yq11, .ref yq12, .ref yq13, .int 0, .int 0, .int 0, .int 0, .ref yq14, .ref yq15, .ref yq16, .ref yq17, .int 0, .int 0, .int 0, .ref yq18, .ref yq19])), (yq1, .inl (cI, 1302, .inl (upd (wC (upd (wC z0 7) (41 : Int32).toNatClampNeg (z0 (41 : Int32).toNatClampNeg)) 7) (41 : Int32).toNatClampNeg ((upd (wC z0 7) (41 : Int32).toNatClampNeg (z0 (41 : Int32).toNatClampNeg)) (41 : Int32).toNatClampNeg))))] H := hP
              have hD : va_D A [(yq2, .inl (cZ, 2, .inl (upd (upd z0 (0 : Int32).toNatClampNeg (vp_nar .boolean 0)) (1 : Int32).toNatClampNeg (vp_nar .boolean 0)))), (yq3, .inl (cI, 6, .inl (cpZ z0 z0 6))), (yq4, .inl (cI, 6, .inl (cpZ z0 z0 6))), (yq5, .inl (cI, 30, .inl (cpZ z0 z0 30))), (yq6, .inl (cI, 7, .inl (cpZ z0 z0 7))), (yq7, .inl (cI, 7, .inl (cpZ z0 z0 7))), (yq9, .inl (cI, 6, .inl z0)), (yq10, .inl (cI, 6, .inl z0)), (yq11, .inl (cI, 30, .inl z0)), (yq12, .inl (cI, 7, .inl z0)), (yq13, .inl (cI, 7, .inl z0)), (yh, .inr (10, [.ref yq1, .ref yq2, .int 0, .int 0, .int 1, .int 0, .int 0, .int 0, .ref yq3, .ref yq4, .ref yq5, .ref yq6, .ref yq7, .ref yq8, .int 0, .int 0, .int 0, .int 0, .int 0, .int (-1), .int 0, .int 1, .int 0, .int 0, .int 0, .int 0, .int 0, .ref yq9, .ref yq10, .ref yq11, .ref yq12, .ref yq13, .int 0, .int 0, .int 0, .int 0, .ref yq14, .ref yq15, .ref yq16, .ref yq17, .int 0, .int 0, .int 0, .ref yq18, .ref yq19])), (yq1, .inl (cI, 1302, .inl (upd (wC (upd (wC z0 7) (41 : Int32).toNatClampNeg (z0 (41 : Int32).toNatClampNeg)) 7) (41 : Int32).toNatClampNeg ((upd (wC z0 7) (41 : Int32).toNatClampNeg (z0 (41 : Int32).toNatClampNeg)) (41 : Int32).toNatClampNeg))))] := hD
              refine lv_aload_n hx hb dX10_town_259 rfl (lv_at hl 2 rfl) ?_
              refine va_get (D := D) (ci := 10) (v := .int 0) (C := RX10) (T := TX10) (N := 45) hx hb hts iX10 hown hK hP 11 rfl rfl 3 (by decide) (hts _ wd_298) (fun _ h9 => h9) rfl dX10_town_260 ?_
              exact hret 0 () _ _ _ _ dX10_town_263 rfl rfl (cutP (isC := []) hP rfl) (cutD (isC := []) hD rfl rfl) hS
            | succ n ih_lp_10 =>
              intro i hk H locs ls hP hD hS hl
              have hkN_lp_10 : i < 7 := by omega
              refine lv_iload_n hx hb dX10_town_195 rfl (lv_at hl 0 rfl) ?_
              refine lv_bipush (v := 7) hx hb dX10_town_196 (by decide) ?_
              refine lv_icmp_ge (tgt := 231) hx hb dX10_town_198 (by decide) (fun c_14 => absurd c_14 (nI_ge hkN_lp_10 (by decide))) (fun c_14 => ?_)
              refine lv_aload_n hx hb dX10_town_201 rfl (lv_at hl 2 rfl) ?_
              refine va_get (D := D) (ci := 10) (v := .ref yq6) (C := RX10) (T := TX10) (N := 45) hx hb hts iX10 hown hK hP 12 rfl rfl 11 (by decide) (hts _ wd_278) (fun _ h9 => h9) rfl dX10_town_202 ?_
              refine lv_iload_n hx hb dX10_town_205 rfl (lv_at hl 0 rfl) ?_
              refine lv_aload_n hx hb dX10_town_206 rfl (lv_at hl 2 rfl) ?_
              refine va_get (D := D) (ci := 10) (v := .ref yq12) (C := RX10) (T := TX10) (N := 45) hx hb hts iX10 hown hK hP 12 rfl rfl 30 (by decide) (hts _ wd_285) (fun _ h9 => h9) rfl dX10_town_207 ?_
              refine lv_iload_n hx hb dX10_town_210 rfl (lv_at hl 0 rfl) ?_
              refine va_iald hx hb hK hP 10 0 rfl rfl (nI_in hkN_lp_10 (by decide)) dX10_town_211 ?_
              refine va_iast hx hb hK hP hD hS 5 0 rfl rfl (nI_in hkN_lp_10 (by decide)) dX10_town_212 (fun H locs hP hD hS => ?_)
              have hP : va_P D classes [(yq1, .inl (cI, 1302, .inl (upd (wC z0 7) (41 : Int32).toNatClampNeg (z0 (41 : Int32).toNatClampNeg)))), (yq2, .inl (cZ, 2, .inl z0)), (yq3, .inl (cI, 6, .inl (cpZ z0 z0 6))), (yq4, .inl (cI, 6, .inl (cpZ z0 z0 6))), (yq5, .inl (cI, 30, .inl (cpZ z0 z0 30))), (yq6, .inl (cI, 7, .inl (upd (cpZ z0 z0 i) ((nI i) : Int32).toNatClampNeg (z0 ((nI i) : Int32).toNatClampNeg)))), (yq7, .inl (cI, 7, .inl (cpZ z0 z0 i))), (yq9, .inl (cI, 6, .inl z0)), (yq10, .inl (cI, 6, .inl z0)), (yq11, .inl (cI, 30, .inl z0)), (yq12, .inl (cI, 7, .inl z0)), (yq13, .inl (cI, 7, .inl z0)), (yh, .inr (10, [.ref yq1, .ref yq2, .int 0, .int 0, .int 1, .int 0, .int 0, .int 0, .ref yq3, .ref yq4, .ref yq5, .ref yq6, .ref yq7, .ref yq8, .int 0, .int 0, .int 0, .int 0, .int 0, .int (-1), .int 0, .int 1, .int 0, .int 0, .int 0, .int 0, .int 0, .ref yq9, .ref yq10, .ref yq11, .ref yq12, .ref yq13, .int 0, .int 0, .int 0, .int 0, .ref yq14, .ref yq15, .ref yq16, .ref yq17, .int 0, .int 0, .int 0, .ref yq18, .ref yq19]))] H := hP
              have hD : va_D A [(yq1, .inl (cI, 1302, .inl (upd (wC z0 7) (41 : Int32).toNatClampNeg (z0 (41 : Int32).toNatClampNeg)))), (yq2, .inl (cZ, 2, .inl z0)), (yq3, .inl (cI, 6, .inl (cpZ z0 z0 6))), (yq4, .inl (cI, 6, .inl (cpZ z0 z0 6))), (yq5, .inl (cI, 30, .inl (cpZ z0 z0 30))), (yq6, .inl (cI, 7, .inl (upd (cpZ z0 z0 i) ((nI i) : Int32).toNatClampNeg (z0 ((nI i) : Int32).toNatClampNeg)))), (yq7, .inl (cI, 7, .inl (cpZ z0 z0 i))), (yq9, .inl (cI, 6, .inl z0)), (yq10, .inl (cI, 6, .inl z0)), (yq11, .inl (cI, 30, .inl z0)), (yq12, .inl (cI, 7, .inl z0)), (yq13, .inl (cI, 7, .inl z0)), (yh, .inr (10, [.ref yq1, .ref yq2, .int 0, .int 0, .int 1, .int 0, .int 0, .int 0, .ref yq3, .ref yq4, .ref yq5, .ref yq6, .ref yq7, .ref yq8, .int 0, .int 0, .int 0, .int 0, .int 0, .int (-1), .int 0, .int 1, .int 0, .int 0, .int 0, .int 0, .int 0, .ref yq9, .ref yq10, .ref yq11, .ref yq12, .ref yq13, .int 0, .int 0, .int 0, .int 0, .ref yq14, .ref yq15, .ref yq16, .ref yq17, .int 0, .int 0, .int 0, .ref yq18, .ref yq19]))] := hD
              refine lv_aload_n hx hb dX10_town_213 rfl (lv_at hl 2 rfl) ?_
              refine va_get (D := D) (ci := 10) (v := .ref yq7) (C := RX10) (T := TX10) (N := 45) hx hb hts iX10 hown hK hP 12 rfl rfl 12 (by decide) (hts _ wd_279) (fun _ h9 => h9) rfl dX10_town_214 ?_
              refine lv_iload_n hx hb dX10_town_217 rfl (lv_at hl 0 rfl) ?_
              refine lv_aload_n hx hb dX10_town_218 rfl (lv_at hl 2 rfl) ?_
              refine va_get (D := D) (ci := 10) (v := .ref yq13) (C := RX10) (T := TX10) (N := 45) hx hb hts iX10 hown hK hP 12 rfl rfl 31 (by decide) (hts _ wd_286) (fun _ h9 => h9) rfl dX10_town_219 ?_
              refine lv_iload_n hx hb dX10_town_222 rfl (lv_at hl 0 rfl) ?_
              refine va_iald hx hb hK hP 11 0 rfl rfl (nI_in hkN_lp_10 (by decide)) dX10_town_223 ?_
              refine va_iast hx hb hK hP hD hS 6 0 rfl rfl (nI_in hkN_lp_10 (by decide)) dX10_town_224 (fun H locs hP hD hS => ?_)
              have hP : va_P D classes [(yq1, .inl (cI, 1302, .inl (upd (wC z0 7) (41 : Int32).toNatClampNeg (z0 (41 : Int32).toNatClampNeg)))), (yq2, .inl (cZ, 2, .inl z0)), (yq3, .inl (cI, 6, .inl (cpZ z0 z0 6))), (yq4, .inl (cI, 6, .inl (cpZ z0 z0 6))), (yq5, .inl (cI, 30, .inl (cpZ z0 z0 30))), (yq6, .inl (cI, 7, .inl (upd (cpZ z0 z0 i) ((nI i) : Int32).toNatClampNeg (z0 ((nI i) : Int32).toNatClampNeg)))), (yq7, .inl (cI, 7, .inl (upd (cpZ z0 z0 i) ((nI i) : Int32).toNatClampNeg (z0 ((nI i) : Int32).toNatClampNeg)))), (yq9, .inl (cI, 6, .inl z0)), (yq10, .inl (cI, 6, .inl z0)), (yq11, .inl (cI, 30, .inl z0)), (yq12, .inl (cI, 7, .inl z0)), (yq13, .inl (cI, 7, .inl z0)), (yh, .inr (10, [.ref yq1, .ref yq2, .int 0, .int 0, .int 1, .int 0, .int 0, .int 0, .ref yq3, .ref yq4, .ref yq5, .ref yq6, .ref yq7, .ref yq8, .int 0, .int 0, .int 0, .int 0, .int 0, .int (-1), .int 0, .int 1, .int 0, .int 0, .int 0, .int 0, .int 0, .ref yq9, .ref yq10, .ref yq11, .ref yq12, .ref yq13, .int 0, .int 0, .int 0, .int 0, .ref yq14, .ref yq15, .ref yq16, .ref yq17, .int 0, .int 0, .int 0, .ref yq18, .ref yq19]))] H := hP
              have hD : va_D A [(yq1, .inl (cI, 1302, .inl (upd (wC z0 7) (41 : Int32).toNatClampNeg (z0 (41 : Int32).toNatClampNeg)))), (yq2, .inl (cZ, 2, .inl z0)), (yq3, .inl (cI, 6, .inl (cpZ z0 z0 6))), (yq4, .inl (cI, 6, .inl (cpZ z0 z0 6))), (yq5, .inl (cI, 30, .inl (cpZ z0 z0 30))), (yq6, .inl (cI, 7, .inl (upd (cpZ z0 z0 i) ((nI i) : Int32).toNatClampNeg (z0 ((nI i) : Int32).toNatClampNeg)))), (yq7, .inl (cI, 7, .inl (upd (cpZ z0 z0 i) ((nI i) : Int32).toNatClampNeg (z0 ((nI i) : Int32).toNatClampNeg)))), (yq9, .inl (cI, 6, .inl z0)), (yq10, .inl (cI, 6, .inl z0)), (yq11, .inl (cI, 30, .inl z0)), (yq12, .inl (cI, 7, .inl z0)), (yq13, .inl (cI, 7, .inl z0)), (yh, .inr (10, [.ref yq1, .ref yq2, .int 0, .int 0, .int 1, .int 0, .int 0, .int 0, .ref yq3, .ref yq4, .ref yq5, .ref yq6, .ref yq7, .ref yq8, .int 0, .int 0, .int 0, .int 0, .int 0, .int (-1), .int 0, .int 1, .int 0, .int 0, .int 0, .int 0, .int 0, .ref yq9, .ref yq10, .ref yq11, .ref yq12, .ref yq13, .int 0, .int 0, .int 0, .int 0, .ref yq14, .ref yq15, .ref yq16, .ref yq17, .int 0, .int 0, .int 0, .ref yq18, .ref yq19]))] := hD
              refine lv_iinc (v := (nI (i + 1))) (lv' := [(2, .int (nI (i + 1))), (1, .int 1), (0, .ref yh)]) hx hb dX10_town_225 hl (k := 0) rfl (nI_1 i) (by decide) rfl (fun ls hl => ?_)
              refine lv_goto (tgt := 195) hx hb dX10_town_228 (by decide) ?_
              exact ih_lp_10 (i + 1) (by omega) _ _ ls hP hD hS (lv_sub hl [0, 1, 2] rfl)
          exact lp_10 7 0 (by omega) _ _ ls hP hD hS hl
        | succ n ih_lp_8 =>
          intro j hk H locs ls hP hD hS hl
          have hkN_lp_8 : j < 30 := by omega
          refine lv_iload_n hx hb dX10_town_169 rfl (lv_at hl 0 rfl) ?_
          refine lv_bipush (v := 30) hx hb dX10_town_170 (by decide) ?_
          refine lv_icmp_ge (tgt := 193) hx hb dX10_town_172 (by decide) (fun c_15 => absurd c_15 (nI_ge hkN_lp_8 (by decide))) (fun c_15 => ?_)
          refine lv_aload_n hx hb dX10_town_175 rfl (lv_at hl 2 rfl) ?_
          refine va_get (D := D) (ci := 10) (v := .ref yq5) (C := RX10) (T := TX10) (N := 45) hx hb hts iX10 hown hK hP 12 rfl rfl 10 (by decide) (hts _ wd_277) (fun _ h9 => h9) rfl dX10_town_176 ?_
          refine lv_iload_n hx hb dX10_town_179 rfl (lv_at hl 0 rfl) ?_
          refine lv_aload_n hx hb dX10_town_180 rfl (lv_at hl 2 rfl) ?_
          refine va_get (D := D) (ci := 10) (v := .ref yq11) (C := RX10) (T := TX10) (N := 45) hx hb hts iX10 hown hK hP 12 rfl rfl 29 (by decide) (hts _ wd_284) (fun _ h9 => h9) rfl dX10_town_181 ?_
          refine lv_iload_n hx hb dX10_town_184 rfl (lv_at hl 0 rfl) ?_
          refine va_iald hx hb hK hP 9 0 rfl rfl (nI_in hkN_lp_8 (by decide)) dX10_town_185 ?_
          refine va_iast hx hb hK hP hD hS 4 0 rfl rfl (nI_in hkN_lp_8 (by decide)) dX10_town_186 (fun H locs hP hD hS => ?_)
          have hP : va_P D classes [(yq1, .inl (cI, 1302, .inl (upd (wC z0 7) (41 : Int32).toNatClampNeg (z0 (41 : Int32).toNatClampNeg)))), (yq2, .inl (cZ, 2, .inl z0)), (yq3, .inl (cI, 6, .inl (cpZ z0 z0 6))), (yq4, .inl (cI, 6, .inl (cpZ z0 z0 6))), (yq5, .inl (cI, 30, .inl (upd (cpZ z0 z0 j) ((nI j) : Int32).toNatClampNeg (z0 ((nI j) : Int32).toNatClampNeg)))), (yq6, .inl (cI, 7, .inl z0)), (yq7, .inl (cI, 7, .inl z0)), (yq9, .inl (cI, 6, .inl z0)), (yq10, .inl (cI, 6, .inl z0)), (yq11, .inl (cI, 30, .inl z0)), (yq12, .inl (cI, 7, .inl z0)), (yq13, .inl (cI, 7, .inl z0)), (yh, .inr (10, [.ref yq1, .ref yq2, .int 0, .int 0, .int 1, .int 0, .int 0, .int 0, .ref yq3, .ref yq4, .ref yq5, .ref yq6, .ref yq7, .ref yq8, .int 0, .int 0, .int 0, .int 0, .int 0, .int (-1), .int 0, .int 1, .int 0, .int 0, .int 0, .int 0, .int 0, .ref yq9, .ref yq10, .ref yq11, .ref yq12, .ref yq13, .int 0, .int 0, .int 0, .int 0, .ref yq14, .ref yq15, .ref yq16, .ref yq17, .int 0, .int 0, .int 0, .ref yq18, .ref yq19]))] H := hP
          have hD : va_D A [(yq1, .inl (cI, 1302, .inl (upd (wC z0 7) (41 : Int32).toNatClampNeg (z0 (41 : Int32).toNatClampNeg)))), (yq2, .inl (cZ, 2, .inl z0)), (yq3, .inl (cI, 6, .inl (cpZ z0 z0 6))), (yq4, .inl (cI, 6, .inl (cpZ z0 z0 6))), (yq5, .inl (cI, 30, .inl (upd (cpZ z0 z0 j) ((nI j) : Int32).toNatClampNeg (z0 ((nI j) : Int32).toNatClampNeg)))), (yq6, .inl (cI, 7, .inl z0)), (yq7, .inl (cI, 7, .inl z0)), (yq9, .inl (cI, 6, .inl z0)), (yq10, .inl (cI, 6, .inl z0)), (yq11, .inl (cI, 30, .inl z0)), (yq12, .inl (cI, 7, .inl z0)), (yq13, .inl (cI, 7, .inl z0)), (yh, .inr (10, [.ref yq1, .ref yq2, .int 0, .int 0, .int 1, .int 0, .int 0, .int 0, .ref yq3, .ref yq4, .ref yq5, .ref yq6, .ref yq7, .ref yq8, .int 0, .int 0, .int 0, .int 0, .int 0, .int (-1), .int 0, .int 1, .int 0, .int 0, .int 0, .int 0, .int 0, .ref yq9, .ref yq10, .ref yq11, .ref yq12, .ref yq13, .int 0, .int 0, .int 0, .int 0, .ref yq14, .ref yq15, .ref yq16, .ref yq17, .int 0, .int 0, .int 0, .ref yq18, .ref yq19]))] := hD
          refine lv_iinc (v := (nI (j + 1))) (lv' := [(2, .int (nI (j + 1))), (1, .int 1), (0, .ref yh)]) hx hb dX10_town_187 hl (k := 0) rfl (nI_1 j) (by decide) rfl (fun ls hl => ?_)
          refine lv_goto (tgt := 169) hx hb dX10_town_190 (by decide) ?_
          exact ih_lp_8 (j + 1) (by omega) _ _ ls hP hD hS (lv_sub hl [0, 1, 2] rfl)
      exact lp_8 30 0 (by omega) _ _ ls hP hD hS hl
    | succ n ih_lp_6 =>
      intro k hk H locs ls hP hD hS hl
      have hkN_lp_6 : k < 6 := by omega
      refine lv_iload_n hx hb dX10_town_131 rfl (lv_at hl 0 rfl) ?_
      refine lv_bipush (v := 6) hx hb dX10_town_132 (by decide) ?_
      refine lv_icmp_ge (tgt := 167) hx hb dX10_town_134 (by decide) (fun c_16 => absurd c_16 (nI_ge hkN_lp_6 (by decide))) (fun c_16 => ?_)
      refine lv_aload_n hx hb dX10_town_137 rfl (lv_at hl 2 rfl) ?_
      refine va_get (D := D) (ci := 10) (v := .ref yq3) (C := RX10) (T := TX10) (N := 45) hx hb hts iX10 hown hK hP 12 rfl rfl 8 (by decide) (hts _ wd_275) (fun _ h9 => h9) rfl dX10_town_138 ?_
      refine lv_iload_n hx hb dX10_town_141 rfl (lv_at hl 0 rfl) ?_
      refine lv_aload_n hx hb dX10_town_142 rfl (lv_at hl 2 rfl) ?_
      refine va_get (D := D) (ci := 10) (v := .ref yq9) (C := RX10) (T := TX10) (N := 45) hx hb hts iX10 hown hK hP 12 rfl rfl 27 (by decide) (hts _ wd_282) (fun _ h9 => h9) rfl dX10_town_143 ?_
      refine lv_iload_n hx hb dX10_town_146 rfl (lv_at hl 0 rfl) ?_
      refine va_iald hx hb hK hP 7 0 rfl rfl (nI_in hkN_lp_6 (by decide)) dX10_town_147 ?_
      refine va_iast hx hb hK hP hD hS 2 0 rfl rfl (nI_in hkN_lp_6 (by decide)) dX10_town_148 (fun H locs hP hD hS => ?_)
      have hP : va_P D classes [(yq1, .inl (cI, 1302, .inl (upd (wC z0 7) (41 : Int32).toNatClampNeg (z0 (41 : Int32).toNatClampNeg)))), (yq2, .inl (cZ, 2, .inl z0)), (yq3, .inl (cI, 6, .inl (upd (cpZ z0 z0 k) ((nI k) : Int32).toNatClampNeg (z0 ((nI k) : Int32).toNatClampNeg)))), (yq4, .inl (cI, 6, .inl (cpZ z0 z0 k))), (yq5, .inl (cI, 30, .inl z0)), (yq6, .inl (cI, 7, .inl z0)), (yq7, .inl (cI, 7, .inl z0)), (yq9, .inl (cI, 6, .inl z0)), (yq10, .inl (cI, 6, .inl z0)), (yq11, .inl (cI, 30, .inl z0)), (yq12, .inl (cI, 7, .inl z0)), (yq13, .inl (cI, 7, .inl z0)), (yh, .inr (10, [.ref yq1, .ref yq2, .int 0, .int 0, .int 1, .int 0, .int 0, .int 0, .ref yq3, .ref yq4, .ref yq5, .ref yq6, .ref yq7, .ref yq8, .int 0, .int 0, .int 0, .int 0, .int 0, .int (-1), .int 0, .int 1, .int 0, .int 0, .int 0, .int 0, .int 0, .ref yq9, .ref yq10, .ref yq11, .ref yq12, .ref yq13, .int 0, .int 0, .int 0, .int 0, .ref yq14, .ref yq15, .ref yq16, .ref yq17, .int 0, .int 0, .int 0, .ref yq18, .ref yq19]))] H := hP
      have hD : va_D A [(yq1, .inl (cI, 1302, .inl (upd (wC z0 7) (41 : Int32).toNatClampNeg (z0 (41 : Int32).toNatClampNeg)))), (yq2, .inl (cZ, 2, .inl z0)), (yq3, .inl (cI, 6, .inl (upd (cpZ z0 z0 k) ((nI k) : Int32).toNatClampNeg (z0 ((nI k) : Int32).toNatClampNeg)))), (yq4, .inl (cI, 6, .inl (cpZ z0 z0 k))), (yq5, .inl (cI, 30, .inl z0)), (yq6, .inl (cI, 7, .inl z0)), (yq7, .inl (cI, 7, .inl z0)), (yq9, .inl (cI, 6, .inl z0)), (yq10, .inl (cI, 6, .inl z0)), (yq11, .inl (cI, 30, .inl z0)), (yq12, .inl (cI, 7, .inl z0)), (yq13, .inl (cI, 7, .inl z0)), (yh, .inr (10, [.ref yq1, .ref yq2, .int 0, .int 0, .int 1, .int 0, .int 0, .int 0, .ref yq3, .ref yq4, .ref yq5, .ref yq6, .ref yq7, .ref yq8, .int 0, .int 0, .int 0, .int 0, .int 0, .int (-1), .int 0, .int 1, .int 0, .int 0, .int 0, .int 0, .int 0, .ref yq9, .ref yq10, .ref yq11, .ref yq12, .ref yq13, .int 0, .int 0, .int 0, .int 0, .ref yq14, .ref yq15, .ref yq16, .ref yq17, .int 0, .int 0, .int 0, .ref yq18, .ref yq19]))] := hD
      refine lv_aload_n hx hb dX10_town_149 rfl (lv_at hl 2 rfl) ?_
      refine va_get (D := D) (ci := 10) (v := .ref yq4) (C := RX10) (T := TX10) (N := 45) hx hb hts iX10 hown hK hP 12 rfl rfl 9 (by decide) (hts _ wd_276) (fun _ h9 => h9) rfl dX10_town_150 ?_
      refine lv_iload_n hx hb dX10_town_153 rfl (lv_at hl 0 rfl) ?_
      refine lv_aload_n hx hb dX10_town_154 rfl (lv_at hl 2 rfl) ?_
      refine va_get (D := D) (ci := 10) (v := .ref yq10) (C := RX10) (T := TX10) (N := 45) hx hb hts iX10 hown hK hP 12 rfl rfl 28 (by decide) (hts _ wd_283) (fun _ h9 => h9) rfl dX10_town_155 ?_
      refine lv_iload_n hx hb dX10_town_158 rfl (lv_at hl 0 rfl) ?_
      refine va_iald hx hb hK hP 8 0 rfl rfl (nI_in hkN_lp_6 (by decide)) dX10_town_159 ?_
      refine va_iast hx hb hK hP hD hS 3 0 rfl rfl (nI_in hkN_lp_6 (by decide)) dX10_town_160 (fun H locs hP hD hS => ?_)
      have hP : va_P D classes [(yq1, .inl (cI, 1302, .inl (upd (wC z0 7) (41 : Int32).toNatClampNeg (z0 (41 : Int32).toNatClampNeg)))), (yq2, .inl (cZ, 2, .inl z0)), (yq3, .inl (cI, 6, .inl (upd (cpZ z0 z0 k) ((nI k) : Int32).toNatClampNeg (z0 ((nI k) : Int32).toNatClampNeg)))), (yq4, .inl (cI, 6, .inl (upd (cpZ z0 z0 k) ((nI k) : Int32).toNatClampNeg (z0 ((nI k) : Int32).toNatClampNeg)))), (yq5, .inl (cI, 30, .inl z0)), (yq6, .inl (cI, 7, .inl z0)), (yq7, .inl (cI, 7, .inl z0)), (yq9, .inl (cI, 6, .inl z0)), (yq10, .inl (cI, 6, .inl z0)), (yq11, .inl (cI, 30, .inl z0)), (yq12, .inl (cI, 7, .inl z0)), (yq13, .inl (cI, 7, .inl z0)), (yh, .inr (10, [.ref yq1, .ref yq2, .int 0, .int 0, .int 1, .int 0, .int 0, .int 0, .ref yq3, .ref yq4, .ref yq5, .ref yq6, .ref yq7, .ref yq8, .int 0, .int 0, .int 0, .int 0, .int 0, .int (-1), .int 0, .int 1, .int 0, .int 0, .int 0, .int 0, .int 0, .ref yq9, .ref yq10, .ref yq11, .ref yq12, .ref yq13, .int 0, .int 0, .int 0, .int 0, .ref yq14, .ref yq15, .ref yq16, .ref yq17, .int 0, .int 0, .int 0, .ref yq18, .ref yq19]))] H := hP
      have hD : va_D A [(yq1, .inl (cI, 1302, .inl (upd (wC z0 7) (41 : Int32).toNatClampNeg (z0 (41 : Int32).toNatClampNeg)))), (yq2, .inl (cZ, 2, .inl z0)), (yq3, .inl (cI, 6, .inl (upd (cpZ z0 z0 k) ((nI k) : Int32).toNatClampNeg (z0 ((nI k) : Int32).toNatClampNeg)))), (yq4, .inl (cI, 6, .inl (upd (cpZ z0 z0 k) ((nI k) : Int32).toNatClampNeg (z0 ((nI k) : Int32).toNatClampNeg)))), (yq5, .inl (cI, 30, .inl z0)), (yq6, .inl (cI, 7, .inl z0)), (yq7, .inl (cI, 7, .inl z0)), (yq9, .inl (cI, 6, .inl z0)), (yq10, .inl (cI, 6, .inl z0)), (yq11, .inl (cI, 30, .inl z0)), (yq12, .inl (cI, 7, .inl z0)), (yq13, .inl (cI, 7, .inl z0)), (yh, .inr (10, [.ref yq1, .ref yq2, .int 0, .int 0, .int 1, .int 0, .int 0, .int 0, .ref yq3, .ref yq4, .ref yq5, .ref yq6, .ref yq7, .ref yq8, .int 0, .int 0, .int 0, .int 0, .int 0, .int (-1), .int 0, .int 1, .int 0, .int 0, .int 0, .int 0, .int 0, .ref yq9, .ref yq10, .ref yq11, .ref yq12, .ref yq13, .int 0, .int 0, .int 0, .int 0, .ref yq14, .ref yq15, .ref yq16, .ref yq17, .int 0, .int 0, .int 0, .ref yq18, .ref yq19]))] := hD
      refine lv_iinc (v := (nI (k + 1))) (lv' := [(2, .int (nI (k + 1))), (1, .int 1), (0, .ref yh)]) hx hb dX10_town_161 hl (k := 0) rfl (nI_1 k) (by decide) rfl (fun ls hl => ?_)
      refine lv_goto (tgt := 131) hx hb dX10_town_164 (by decide) ?_
      exact ih_lp_6 (k + 1) (by omega) _ _ ls hP hD hS (lv_sub hl [0, 1, 2] rfl)
  exact lp_6 6 0 (by omega) _ _ ls hP hD hS hl
def rm_k_m_fault : Room := { frames := 0, cells := 0, slots := 0, locals := 0 }
set_option maxHeartbeats 4000000 in
set_option maxRecDepth 100000 in
theorem k_m_fault {l : Launch} {D : va_G} {cI cZ : ClassId} {sz : Nat} (yh yq1 yq2 yq3 yq4 yq5 yq6 yq7 yq8 yq9 yq10 yq11 yq12 yq13 yq14 yq15 yq16 yq17 yq18 yq19 : Nat) : KI l yX10_fault cX10_fault 1 (some .int) rm_k_m_fault D cI cZ [.ref yh] sz [(yh, .inr (10, [.ref yq1, .ref yq2, .int 0, .int 0, .int 1, .int 0, .int 0, .int 0, .ref yq3, .ref yq4, .ref yq5, .ref yq6, .ref yq7, .ref yq8, .int 0, .int 0, .int 0, .int 0, .int 0, .int (-1), .int 0, .int 0, .int 0, .int 0, .int 0, .int 0, .int 0, .ref yq9, .ref yq10, .ref yq11, .ref yq12, .ref yq13, .int 0, .int 0, .int 0, .int 0, .ref yq14, .ref yq15, .ref yq16, .ref yq17, .int 0, .int 0, .int 0, .ref yq18, .ref yq19]))] (fun (r : Int32) (_ : Unit) => r = (-1)) (fun (_ : Unit) => []) := by
  refine KI.go rfl (Nat.le_of_ble_eq_true rfl) ?_
  intro p e s m args below meth c ls A Q hx hb hml hts hown hin hP hK hD hS hA hN hl hret
  have hl : lv_has ls 1 [(0, .ref yh)] := hl
  refine lv_aload_n hx hb dX10_fault_0 rfl (lv_at hl 0 rfl) ?_
  refine va_get (D := D) (ci := 10) (v := .int (-1)) (C := RX10) (T := TX10) (N := 45) hx hb hts iX10 hown hK hP 0 rfl rfl 19 (by decide) (hts _ wd_281) (fun _ h9 => h9) rfl dX10_fault_1 ?_
  exact hret (-1) () _ _ _ _ dX10_fault_4 rfl rfl (cutP (isC := []) hP rfl) (cutD (isC := []) hD rfl rfl) hS
def rm_k_m_told : Room := { frames := 1, cells := 0, slots := 0, locals := 25 }
set_option maxHeartbeats 4000000 in
set_option maxRecDepth 100000 in
theorem k_m_told {l : Launch} {D : va_G} {cI cZ : ClassId} {sz : Nat} (yh yq1 yq2 yq3 yq4 yq5 yq6 yq7 yq8 yq9 yq10 yq11 yq12 yq13 yq14 yq15 yq16 yq17 yq18 yq19 : Nat) (v : Int32) : KI l yX10_told cX10_told 2 (some .int) rm_k_m_told D cI cZ [.ref yh, .int v] sz [(yh, .inr (10, [.ref yq1, .ref yq2, .int 0, .int 0, .int 1, .int 0, .int 0, .int 0, .ref yq3, .ref yq4, .ref yq5, .ref yq6, .ref yq7, .ref yq8, .int 0, .int 0, .int 0, .int 0, .int 0, .int (-1), .int 0, .int 0, .int 0, .int 0, .int 0, .int 0, .int 0, .ref yq9, .ref yq10, .ref yq11, .ref yq12, .ref yq13, .int 0, .int 0, .int 0, .int 0, .ref yq14, .ref yq15, .ref yq16, .ref yq17, .int 0, .int 0, .int 0, .ref yq18, .ref yq19])), (yq1, .inl (cI, 1302, .inl (upd (wC z0 7) (41 : Int32).toNatClampNeg (z0 (41 : Int32).toNatClampNeg))))] (fun (r : Int32) (_ : Unit) => r = toldS v) (fun (_ : Unit) => []) := by
  refine KI.go rfl (Nat.le_of_ble_eq_true rfl) ?_
  intro p e s m args below meth c ls A Q hx hb hml hts hown hin hP hK hD hS hA hN hl hret
  have hl : lv_has ls 2 [(0, .ref yh), (1, .int v)] := hl
  refine lv_iload_n hx hb dX10_told_0 rfl (lv_at hl 1 rfl) ?_
  by_cases c_1 : v.toInt < 0 ∨ 13 < v.toInt
  · refine lv_tableOut (tgt := 135) hx hb dX10_told_1 c_1 (by decide) ?_
    refine lv_iload_n hx hb dX10_told_135 rfl (lv_at hl 1 rfl) ?_
    refine lv_i2l (v := v.toInt64) hx hb dX10_told_136 rfl ?_
    refine lv_ldc2 (v := 8) hx hb hown (hts _ wd_333) dX10_told_137 ?_
    refine lv_ldc2 (v := 10) hx hb hown (hts _ wd_334) dX10_told_140 ?_
    refine cSi (wr := [(yh, .inr (10, [.ref yq1, .ref yq2, .int 0, .int 0, .int 1, .int 0, .int 0, .int 0, .ref yq3, .ref yq4, .ref yq5, .ref yq6, .ref yq7, .ref yq8, .int 0, .int 0, .int 0, .int 0, .int 0, .int (-1), .int 0, .int 0, .int 0, .int 0, .int 0, .int 0, .int 0, .ref yq9, .ref yq10, .ref yq11, .ref yq12, .ref yq13, .int 0, .int 0, .int 0, .int 0, .ref yq14, .ref yq15, .ref yq16, .ref yq17, .int 0, .int 0, .int 0, .ref yq18, .ref yq19])), (yq1, .inl (cI, 1302, .inl (upd (wC z0 7) (41 : Int32).toNatClampNeg (z0 (41 : Int32).toNatClampNeg))))]) (rest := []) (k_in v.toInt64 8 10) okS_X10_in wd_299 hx hb hml hown hts hK hP hD hS hA hN hl.1 [] [0, 1] rfl rfl rfl rfl (by decide) rfl (Nat.le_of_ble_eq_true rfl) (Nat.le_of_ble_eq_true rfl) (Nat.le_of_ble_eq_true rfl) (Nat.le_of_ble_eq_true rfl) (Nat.le_of_ble_eq_true rfl) dX10_told_143 (fun r_3 u_2 H locs hw_u_2 hP hD hS => ?_)
    obtain rfl := hw_u_2
    have hP : va_P D classes [(yh, .inr (10, [.ref yq1, .ref yq2, .int 0, .int 0, .int 1, .int 0, .int 0, .int 0, .ref yq3, .ref yq4, .ref yq5, .ref yq6, .ref yq7, .ref yq8, .int 0, .int 0, .int 0, .int 0, .int 0, .int (-1), .int 0, .int 0, .int 0, .int 0, .int 0, .int 0, .int 0, .ref yq9, .ref yq10, .ref yq11, .ref yq12, .ref yq13, .int 0, .int 0, .int 0, .int 0, .ref yq14, .ref yq15, .ref yq16, .ref yq17, .int 0, .int 0, .int 0, .ref yq18, .ref yq19])), (yq1, .inl (cI, 1302, .inl (upd (wC z0 7) (41 : Int32).toNatClampNeg (z0 (41 : Int32).toNatClampNeg))))] H := hP
    have hD : va_D A [(yh, .inr (10, [.ref yq1, .ref yq2, .int 0, .int 0, .int 1, .int 0, .int 0, .int 0, .ref yq3, .ref yq4, .ref yq5, .ref yq6, .ref yq7, .ref yq8, .int 0, .int 0, .int 0, .int 0, .int 0, .int (-1), .int 0, .int 0, .int 0, .int 0, .int 0, .int 0, .int 0, .ref yq9, .ref yq10, .ref yq11, .ref yq12, .ref yq13, .int 0, .int 0, .int 0, .int 0, .ref yq14, .ref yq15, .ref yq16, .ref yq17, .int 0, .int 0, .int 0, .ref yq18, .ref yq19])), (yq1, .inl (cI, 1302, .inl (upd (wC z0 7) (41 : Int32).toNatClampNeg (z0 (41 : Int32).toNatClampNeg))))] := hD
    refine lv_topi (fun z_4 ez_4 => ?_)
    obtain rfl : z_4 = 0 := ez_4.trans (told_out c_1)
    refine lv_if_eq (tgt := 160) hx hb dX10_told_146 (by decide) (fun c_5 => ?_) (fun c_5 => absurd (by decide +kernel) c_5)
    refine lv_ldc (v := (-1000000002)) hx hb hown (hts _ wd_317) dX10_told_160 ?_
    exact hret (-1000000002) () _ _ _ _ dX10_told_162 rfl (if_pos c_1).symm (cutP (isC := []) hP rfl) (cutD (isC := []) hD rfl rfl) hS
  · rcases swc_0_13 c_1 with rfl | rfl | rfl | rfl | rfl | rfl | rfl | rfl | rfl | rfl | rfl | rfl | rfl | rfl
    · have hl : lv_has ls 2 [(0, .ref yh), (1, .int 0)] := hl
      refine lv_tableIn (off := 71) (tgt := 72) hx hb dX10_told_1 (by decide +kernel) (by decide +kernel) (by decide +kernel) (by decide) ?_
      refine lv_aload_n hx hb dX10_told_72 rfl (lv_at hl 0 rfl) ?_
      refine va_get (D := D) (ci := 10) (v := .int 0) (C := RX10) (T := TX10) (N := 45) hx hb hts iX10 hown hK hP 0 rfl rfl 3 (by decide) (hts _ wd_298) (fun _ h9 => h9) rfl dX10_told_73 ?_
      exact hret 0 () _ _ _ _ dX10_told_76 rfl (by decide +kernel) (cutP (isC := []) hP rfl) (cutD (isC := []) hD rfl rfl) hS
    · have hl : lv_has ls 2 [(0, .ref yh), (1, .int 1)] := hl
      refine lv_tableIn (off := 76) (tgt := 77) hx hb dX10_told_1 (by decide +kernel) (by decide +kernel) (by decide +kernel) (by decide) ?_
      refine lv_aload_n hx hb dX10_told_77 rfl (lv_at hl 0 rfl) ?_
      refine va_get (D := D) (ci := 10) (v := .int 1) (C := RX10) (T := TX10) (N := 45) hx hb hts iX10 hown hK hP 0 rfl rfl 4 (by decide) (hts _ wd_274) (fun _ h9 => h9) rfl dX10_told_78 ?_
      exact hret 1 () _ _ _ _ dX10_told_81 rfl (by decide +kernel) (cutP (isC := []) hP rfl) (cutD (isC := []) hD rfl rfl) hS
    · have hl : lv_has ls 2 [(0, .ref yh), (1, .int 2)] := hl
      refine lv_tableIn (off := 81) (tgt := 82) hx hb dX10_told_1 (by decide +kernel) (by decide +kernel) (by decide +kernel) (by decide) ?_
      refine lv_aload_n hx hb dX10_told_82 rfl (lv_at hl 0 rfl) ?_
      refine va_get (D := D) (ci := 10) (v := .int 0) (C := RX10) (T := TX10) (N := 45) hx hb hts iX10 hown hK hP 0 rfl rfl 5 (by decide) (hts _ wd_270) (fun _ h9 => h9) rfl dX10_told_83 ?_
      exact hret 0 () _ _ _ _ dX10_told_86 rfl (by decide +kernel) (cutP (isC := []) hP rfl) (cutD (isC := []) hD rfl rfl) hS
    · have hl : lv_has ls 2 [(0, .ref yh), (1, .int 3)] := hl
      refine lv_tableIn (off := 86) (tgt := 87) hx hb dX10_told_1 (by decide +kernel) (by decide +kernel) (by decide +kernel) (by decide) ?_
      refine lv_aload_n hx hb dX10_told_87 rfl (lv_at hl 0 rfl) ?_
      refine va_get (D := D) (ci := 10) (v := .int 0) (C := RX10) (T := TX10) (N := 45) hx hb hts iX10 hown hK hP 0 rfl rfl 6 (by decide) (hts _ wd_302) (fun _ h9 => h9) rfl dX10_told_88 ?_
      exact hret 0 () _ _ _ _ dX10_told_91 rfl (by decide +kernel) (cutP (isC := []) hP rfl) (cutD (isC := []) hD rfl rfl) hS
    · have hl : lv_has ls 2 [(0, .ref yh), (1, .int 4)] := hl
      refine lv_tableIn (off := 91) (tgt := 92) hx hb dX10_told_1 (by decide +kernel) (by decide +kernel) (by decide +kernel) (by decide) ?_
      refine lv_aload_n hx hb dX10_told_92 rfl (lv_at hl 0 rfl) ?_
      refine va_get (D := D) (ci := 10) (v := .int 0) (C := RX10) (T := TX10) (N := 45) hx hb hts iX10 hown hK hP 0 rfl rfl 7 (by decide) (hts _ wd_330) (fun _ h9 => h9) rfl dX10_told_93 ?_
      exact hret 0 () _ _ _ _ dX10_told_96 rfl (by decide +kernel) (cutP (isC := []) hP rfl) (cutD (isC := []) hD rfl rfl) hS
    · have hl : lv_has ls 2 [(0, .ref yh), (1, .int 5)] := hl
      refine lv_tableIn (off := 96) (tgt := 97) hx hb dX10_told_1 (by decide +kernel) (by decide +kernel) (by decide +kernel) (by decide) ?_
      refine lv_aload_n hx hb dX10_told_97 rfl (lv_at hl 0 rfl) ?_
      refine va_get (D := D) (ci := 10) (v := .int 0) (C := RX10) (T := TX10) (N := 45) hx hb hts iX10 hown hK hP 0 rfl rfl 14 (by decide) (hts _ wd_303) (fun _ h9 => h9) rfl dX10_told_98 ?_
      exact hret 0 () _ _ _ _ dX10_told_101 rfl (by decide +kernel) (cutP (isC := []) hP rfl) (cutD (isC := []) hD rfl rfl) hS
    · have hl : lv_has ls 2 [(0, .ref yh), (1, .int 6)] := hl
      refine lv_tableIn (off := 101) (tgt := 102) hx hb dX10_told_1 (by decide +kernel) (by decide +kernel) (by decide +kernel) (by decide) ?_
      refine lv_aload_n hx hb dX10_told_102 rfl (lv_at hl 0 rfl) ?_
      refine va_get (D := D) (ci := 10) (v := .ref yq1) (C := RX10) (T := TX10) (N := 45) hx hb hts iX10 hown hK hP 0 rfl rfl 0 (by decide) (hts _ wd_269) (fun _ h9 => h9) rfl dX10_told_103 ?_
      refine lv_bipush (v := 19) hx hb dX10_told_106 (by decide) ?_
      refine va_iald hx hb hK hP 1 0 rfl rfl (show ¬ ((19 : Int32) < 0 ∨ 1302 ≤ (19 : Int32).toNatClampNeg) by decide +kernel) dX10_told_108 ?_
      refine lv_topi (fun z_6 ez_6 => ?_)
      obtain rfl : z_6 = 0 := ez_6.trans (by decide +kernel)
      exact hret 0 () _ _ _ _ dX10_told_109 rfl (by decide +kernel) (cutP (isC := []) hP rfl) (cutD (isC := []) hD rfl rfl) hS
    · have hl : lv_has ls 2 [(0, .ref yh), (1, .int 7)] := hl
      refine lv_tableIn (off := 109) (tgt := 110) hx hb dX10_told_1 (by decide +kernel) (by decide +kernel) (by decide +kernel) (by decide) ?_
      refine lv_aload_n hx hb dX10_told_110 rfl (lv_at hl 0 rfl) ?_
      refine va_get (D := D) (ci := 10) (v := .ref yq1) (C := RX10) (T := TX10) (N := 45) hx hb hts iX10 hown hK hP 0 rfl rfl 0 (by decide) (hts _ wd_269) (fun _ h9 => h9) rfl dX10_told_111 ?_
      refine lv_bipush (v := 18) hx hb dX10_told_114 (by decide) ?_
      refine va_iald hx hb hK hP 1 0 rfl rfl (show ¬ ((18 : Int32) < 0 ∨ 1302 ≤ (18 : Int32).toNatClampNeg) by decide +kernel) dX10_told_116 ?_
      refine lv_topi (fun z_7 ez_7 => ?_)
      obtain rfl : z_7 = 0 := ez_7.trans (by decide +kernel)
      exact hret 0 () _ _ _ _ dX10_told_117 rfl (by decide +kernel) (cutP (isC := []) hP rfl) (cutD (isC := []) hD rfl rfl) hS
    · have hl : lv_has ls 2 [(0, .ref yh), (1, .int 8)] := hl
      refine lv_tableIn (off := 134) (tgt := 135) hx hb dX10_told_1 (by decide +kernel) (by decide +kernel) (by decide +kernel) (by decide) ?_
      refine lv_iload_n hx hb dX10_told_135 rfl (lv_at hl 1 rfl) ?_
      refine lv_i2l (v := 8) hx hb dX10_told_136 (by decide +kernel) ?_
      refine lv_ldc2 (v := 8) hx hb hown (hts _ wd_333) dX10_told_137 ?_
      refine lv_ldc2 (v := 10) hx hb hown (hts _ wd_334) dX10_told_140 ?_
      refine cSi (wr := [(yh, .inr (10, [.ref yq1, .ref yq2, .int 0, .int 0, .int 1, .int 0, .int 0, .int 0, .ref yq3, .ref yq4, .ref yq5, .ref yq6, .ref yq7, .ref yq8, .int 0, .int 0, .int 0, .int 0, .int 0, .int (-1), .int 0, .int 0, .int 0, .int 0, .int 0, .int 0, .int 0, .ref yq9, .ref yq10, .ref yq11, .ref yq12, .ref yq13, .int 0, .int 0, .int 0, .int 0, .ref yq14, .ref yq15, .ref yq16, .ref yq17, .int 0, .int 0, .int 0, .ref yq18, .ref yq19])), (yq1, .inl (cI, 1302, .inl (upd (wC z0 7) (41 : Int32).toNatClampNeg (z0 (41 : Int32).toNatClampNeg))))]) (rest := []) (k_in 8 8 10) okS_X10_in wd_299 hx hb hml hown hts hK hP hD hS hA hN hl.1 [] [0, 1] rfl rfl rfl rfl (by decide) rfl (Nat.le_of_ble_eq_true rfl) (Nat.le_of_ble_eq_true rfl) (Nat.le_of_ble_eq_true rfl) (Nat.le_of_ble_eq_true rfl) (Nat.le_of_ble_eq_true rfl) dX10_told_143 (fun r_9 u_8 H locs hw_u_8 hP hD hS => ?_)
      obtain rfl := hw_u_8
      have hP : va_P D classes [(yh, .inr (10, [.ref yq1, .ref yq2, .int 0, .int 0, .int 1, .int 0, .int 0, .int 0, .ref yq3, .ref yq4, .ref yq5, .ref yq6, .ref yq7, .ref yq8, .int 0, .int 0, .int 0, .int 0, .int 0, .int (-1), .int 0, .int 0, .int 0, .int 0, .int 0, .int 0, .int 0, .ref yq9, .ref yq10, .ref yq11, .ref yq12, .ref yq13, .int 0, .int 0, .int 0, .int 0, .ref yq14, .ref yq15, .ref yq16, .ref yq17, .int 0, .int 0, .int 0, .ref yq18, .ref yq19])), (yq1, .inl (cI, 1302, .inl (upd (wC z0 7) (41 : Int32).toNatClampNeg (z0 (41 : Int32).toNatClampNeg))))] H := hP
      have hD : va_D A [(yh, .inr (10, [.ref yq1, .ref yq2, .int 0, .int 0, .int 1, .int 0, .int 0, .int 0, .ref yq3, .ref yq4, .ref yq5, .ref yq6, .ref yq7, .ref yq8, .int 0, .int 0, .int 0, .int 0, .int 0, .int (-1), .int 0, .int 0, .int 0, .int 0, .int 0, .int 0, .int 0, .ref yq9, .ref yq10, .ref yq11, .ref yq12, .ref yq13, .int 0, .int 0, .int 0, .int 0, .ref yq14, .ref yq15, .ref yq16, .ref yq17, .int 0, .int 0, .int 0, .ref yq18, .ref yq19])), (yq1, .inl (cI, 1302, .inl (upd (wC z0 7) (41 : Int32).toNatClampNeg (z0 (41 : Int32).toNatClampNeg))))] := hD
      refine lv_topi (fun z_10 ez_10 => ?_)
      obtain rfl : z_10 = 1 := ez_10.trans (by decide +kernel)
      refine lv_if_eq (tgt := 160) hx hb dX10_told_146 (by decide) (fun c_11 => absurd c_11 (by decide +kernel)) (fun c_11 => ?_)
      refine lv_aload_n hx hb dX10_told_149 rfl (lv_at hl 0 rfl) ?_
      refine lv_iload_n hx hb dX10_told_150 rfl (lv_at hl 1 rfl) ?_
      refine lv_bipush (v := 7) hx hb dX10_told_151 (by decide) ?_
      refine lv_isub hx hb dX10_told_153 ?_
      refine lv_topi (fun z_12 ez_12 => ?_)
      obtain rfl : z_12 = 1 := ez_12.trans (by decide +kernel)
      refine cVi (wr := [(yq1, .inl (cI, 1302, .inl (upd (wC z0 7) (41 : Int32).toNatClampNeg (z0 (41 : Int32).toNatClampNeg))))]) (rest := []) (k_bargesThat1 yh yq1 yq2 yq3 yq4 yq5 yq6 yq7 yq8 yq9 yq10 yq11 yq12 yq13 yq14 yq15 yq16 yq17 yq18 yq19) okV_X10_bargesThat wd_335 hx hb hml hown hts hK hP hD hS hA hN hl.1 [0] [1] rfl rfl rfl rfl (by decide) rfl rfl rfl (Nat.le_of_ble_eq_true rfl) (Nat.le_of_ble_eq_true rfl) (Nat.le_of_ble_eq_true rfl) (Nat.le_of_ble_eq_true rfl) (Nat.le_of_ble_eq_true rfl) dX10_told_154 (fun r_14 u_13 H locs hw_u_13 hP hD hS => ?_)
      obtain rfl := hw_u_13
      have hP : va_P D classes [(yq1, .inl (cI, 1302, .inl (upd (wC z0 7) (41 : Int32).toNatClampNeg (z0 (41 : Int32).toNatClampNeg)))), (yh, .inr (10, [.ref yq1, .ref yq2, .int 0, .int 0, .int 1, .int 0, .int 0, .int 0, .ref yq3, .ref yq4, .ref yq5, .ref yq6, .ref yq7, .ref yq8, .int 0, .int 0, .int 0, .int 0, .int 0, .int (-1), .int 0, .int 0, .int 0, .int 0, .int 0, .int 0, .int 0, .ref yq9, .ref yq10, .ref yq11, .ref yq12, .ref yq13, .int 0, .int 0, .int 0, .int 0, .ref yq14, .ref yq15, .ref yq16, .ref yq17, .int 0, .int 0, .int 0, .ref yq18, .ref yq19]))] H := hP
      have hD : va_D A [(yq1, .inl (cI, 1302, .inl (upd (wC z0 7) (41 : Int32).toNatClampNeg (z0 (41 : Int32).toNatClampNeg)))), (yh, .inr (10, [.ref yq1, .ref yq2, .int 0, .int 0, .int 1, .int 0, .int 0, .int 0, .ref yq3, .ref yq4, .ref yq5, .ref yq6, .ref yq7, .ref yq8, .int 0, .int 0, .int 0, .int 0, .int 0, .int (-1), .int 0, .int 0, .int 0, .int 0, .int 0, .int 0, .int 0, .ref yq9, .ref yq10, .ref yq11, .ref yq12, .ref yq13, .int 0, .int 0, .int 0, .int 0, .ref yq14, .ref yq15, .ref yq16, .ref yq17, .int 0, .int 0, .int 0, .ref yq18, .ref yq19]))] := hD
      refine lv_goto (tgt := 162) hx hb dX10_told_157 (by decide) ?_
      exact hret 0 () _ _ _ _ dX10_told_162 rfl (by decide +kernel) (cutP (isC := []) hP rfl) (cutD (isC := []) hD rfl rfl) hS
    · have hl : lv_has ls 2 [(0, .ref yh), (1, .int 9)] := hl
      refine lv_tableIn (off := 134) (tgt := 135) hx hb dX10_told_1 (by decide +kernel) (by decide +kernel) (by decide +kernel) (by decide) ?_
      refine lv_iload_n hx hb dX10_told_135 rfl (lv_at hl 1 rfl) ?_
      refine lv_i2l (v := 9) hx hb dX10_told_136 (by decide +kernel) ?_
      refine lv_ldc2 (v := 8) hx hb hown (hts _ wd_333) dX10_told_137 ?_
      refine lv_ldc2 (v := 10) hx hb hown (hts _ wd_334) dX10_told_140 ?_
      refine cSi (wr := [(yh, .inr (10, [.ref yq1, .ref yq2, .int 0, .int 0, .int 1, .int 0, .int 0, .int 0, .ref yq3, .ref yq4, .ref yq5, .ref yq6, .ref yq7, .ref yq8, .int 0, .int 0, .int 0, .int 0, .int 0, .int (-1), .int 0, .int 0, .int 0, .int 0, .int 0, .int 0, .int 0, .ref yq9, .ref yq10, .ref yq11, .ref yq12, .ref yq13, .int 0, .int 0, .int 0, .int 0, .ref yq14, .ref yq15, .ref yq16, .ref yq17, .int 0, .int 0, .int 0, .ref yq18, .ref yq19])), (yq1, .inl (cI, 1302, .inl (upd (wC z0 7) (41 : Int32).toNatClampNeg (z0 (41 : Int32).toNatClampNeg))))]) (rest := []) (k_in 9 8 10) okS_X10_in wd_299 hx hb hml hown hts hK hP hD hS hA hN hl.1 [] [0, 1] rfl rfl rfl rfl (by decide) rfl (Nat.le_of_ble_eq_true rfl) (Nat.le_of_ble_eq_true rfl) (Nat.le_of_ble_eq_true rfl) (Nat.le_of_ble_eq_true rfl) (Nat.le_of_ble_eq_true rfl) dX10_told_143 (fun r_16 u_15 H locs hw_u_15 hP hD hS => ?_)
      obtain rfl := hw_u_15
      have hP : va_P D classes [(yh, .inr (10, [.ref yq1, .ref yq2, .int 0, .int 0, .int 1, .int 0, .int 0, .int 0, .ref yq3, .ref yq4, .ref yq5, .ref yq6, .ref yq7, .ref yq8, .int 0, .int 0, .int 0, .int 0, .int 0, .int (-1), .int 0, .int 0, .int 0, .int 0, .int 0, .int 0, .int 0, .ref yq9, .ref yq10, .ref yq11, .ref yq12, .ref yq13, .int 0, .int 0, .int 0, .int 0, .ref yq14, .ref yq15, .ref yq16, .ref yq17, .int 0, .int 0, .int 0, .ref yq18, .ref yq19])), (yq1, .inl (cI, 1302, .inl (upd (wC z0 7) (41 : Int32).toNatClampNeg (z0 (41 : Int32).toNatClampNeg))))] H := hP
      have hD : va_D A [(yh, .inr (10, [.ref yq1, .ref yq2, .int 0, .int 0, .int 1, .int 0, .int 0, .int 0, .ref yq3, .ref yq4, .ref yq5, .ref yq6, .ref yq7, .ref yq8, .int 0, .int 0, .int 0, .int 0, .int 0, .int (-1), .int 0, .int 0, .int 0, .int 0, .int 0, .int 0, .int 0, .ref yq9, .ref yq10, .ref yq11, .ref yq12, .ref yq13, .int 0, .int 0, .int 0, .int 0, .ref yq14, .ref yq15, .ref yq16, .ref yq17, .int 0, .int 0, .int 0, .ref yq18, .ref yq19])), (yq1, .inl (cI, 1302, .inl (upd (wC z0 7) (41 : Int32).toNatClampNeg (z0 (41 : Int32).toNatClampNeg))))] := hD
      refine lv_topi (fun z_17 ez_17 => ?_)
      obtain rfl : z_17 = 1 := ez_17.trans (by decide +kernel)
      refine lv_if_eq (tgt := 160) hx hb dX10_told_146 (by decide) (fun c_18 => absurd c_18 (by decide +kernel)) (fun c_18 => ?_)
      refine lv_aload_n hx hb dX10_told_149 rfl (lv_at hl 0 rfl) ?_
      refine lv_iload_n hx hb dX10_told_150 rfl (lv_at hl 1 rfl) ?_
      refine lv_bipush (v := 7) hx hb dX10_told_151 (by decide) ?_
      refine lv_isub hx hb dX10_told_153 ?_
      refine lv_topi (fun z_19 ez_19 => ?_)
      obtain rfl : z_19 = 2 := ez_19.trans (by decide +kernel)
      refine cVi (wr := [(yq1, .inl (cI, 1302, .inl (upd (wC z0 7) (41 : Int32).toNatClampNeg (z0 (41 : Int32).toNatClampNeg))))]) (rest := []) (k_bargesThat2 yh yq1 yq2 yq3 yq4 yq5 yq6 yq7 yq8 yq9 yq10 yq11 yq12 yq13 yq14 yq15 yq16 yq17 yq18 yq19) okV_X10_bargesThat wd_335 hx hb hml hown hts hK hP hD hS hA hN hl.1 [0] [1] rfl rfl rfl rfl (by decide) rfl rfl rfl (Nat.le_of_ble_eq_true rfl) (Nat.le_of_ble_eq_true rfl) (Nat.le_of_ble_eq_true rfl) (Nat.le_of_ble_eq_true rfl) (Nat.le_of_ble_eq_true rfl) dX10_told_154 (fun r_21 u_20 H locs hw_u_20 hP hD hS => ?_)
      obtain rfl := hw_u_20
      have hP : va_P D classes [(yq1, .inl (cI, 1302, .inl (upd (wC z0 7) (41 : Int32).toNatClampNeg (z0 (41 : Int32).toNatClampNeg)))), (yh, .inr (10, [.ref yq1, .ref yq2, .int 0, .int 0, .int 1, .int 0, .int 0, .int 0, .ref yq3, .ref yq4, .ref yq5, .ref yq6, .ref yq7, .ref yq8, .int 0, .int 0, .int 0, .int 0, .int 0, .int (-1), .int 0, .int 0, .int 0, .int 0, .int 0, .int 0, .int 0, .ref yq9, .ref yq10, .ref yq11, .ref yq12, .ref yq13, .int 0, .int 0, .int 0, .int 0, .ref yq14, .ref yq15, .ref yq16, .ref yq17, .int 0, .int 0, .int 0, .ref yq18, .ref yq19]))] H := hP
      have hD : va_D A [(yq1, .inl (cI, 1302, .inl (upd (wC z0 7) (41 : Int32).toNatClampNeg (z0 (41 : Int32).toNatClampNeg)))), (yh, .inr (10, [.ref yq1, .ref yq2, .int 0, .int 0, .int 1, .int 0, .int 0, .int 0, .ref yq3, .ref yq4, .ref yq5, .ref yq6, .ref yq7, .ref yq8, .int 0, .int 0, .int 0, .int 0, .int 0, .int (-1), .int 0, .int 0, .int 0, .int 0, .int 0, .int 0, .int 0, .ref yq9, .ref yq10, .ref yq11, .ref yq12, .ref yq13, .int 0, .int 0, .int 0, .int 0, .ref yq14, .ref yq15, .ref yq16, .ref yq17, .int 0, .int 0, .int 0, .ref yq18, .ref yq19]))] := hD
      refine lv_goto (tgt := 162) hx hb dX10_told_157 (by decide) ?_
      exact hret 0 () _ _ _ _ dX10_told_162 rfl (by decide +kernel) (cutP (isC := []) hP rfl) (cutD (isC := []) hD rfl rfl) hS
    · have hl : lv_has ls 2 [(0, .ref yh), (1, .int 10)] := hl
      refine lv_tableIn (off := 134) (tgt := 135) hx hb dX10_told_1 (by decide +kernel) (by decide +kernel) (by decide +kernel) (by decide) ?_
      refine lv_iload_n hx hb dX10_told_135 rfl (lv_at hl 1 rfl) ?_
      refine lv_i2l (v := 10) hx hb dX10_told_136 (by decide +kernel) ?_
      refine lv_ldc2 (v := 8) hx hb hown (hts _ wd_333) dX10_told_137 ?_
      refine lv_ldc2 (v := 10) hx hb hown (hts _ wd_334) dX10_told_140 ?_
      refine cSi (wr := [(yh, .inr (10, [.ref yq1, .ref yq2, .int 0, .int 0, .int 1, .int 0, .int 0, .int 0, .ref yq3, .ref yq4, .ref yq5, .ref yq6, .ref yq7, .ref yq8, .int 0, .int 0, .int 0, .int 0, .int 0, .int (-1), .int 0, .int 0, .int 0, .int 0, .int 0, .int 0, .int 0, .ref yq9, .ref yq10, .ref yq11, .ref yq12, .ref yq13, .int 0, .int 0, .int 0, .int 0, .ref yq14, .ref yq15, .ref yq16, .ref yq17, .int 0, .int 0, .int 0, .ref yq18, .ref yq19])), (yq1, .inl (cI, 1302, .inl (upd (wC z0 7) (41 : Int32).toNatClampNeg (z0 (41 : Int32).toNatClampNeg))))]) (rest := []) (k_in 10 8 10) okS_X10_in wd_299 hx hb hml hown hts hK hP hD hS hA hN hl.1 [] [0, 1] rfl rfl rfl rfl (by decide) rfl (Nat.le_of_ble_eq_true rfl) (Nat.le_of_ble_eq_true rfl) (Nat.le_of_ble_eq_true rfl) (Nat.le_of_ble_eq_true rfl) (Nat.le_of_ble_eq_true rfl) dX10_told_143 (fun r_23 u_22 H locs hw_u_22 hP hD hS => ?_)
      obtain rfl := hw_u_22
      have hP : va_P D classes [(yh, .inr (10, [.ref yq1, .ref yq2, .int 0, .int 0, .int 1, .int 0, .int 0, .int 0, .ref yq3, .ref yq4, .ref yq5, .ref yq6, .ref yq7, .ref yq8, .int 0, .int 0, .int 0, .int 0, .int 0, .int (-1), .int 0, .int 0, .int 0, .int 0, .int 0, .int 0, .int 0, .ref yq9, .ref yq10, .ref yq11, .ref yq12, .ref yq13, .int 0, .int 0, .int 0, .int 0, .ref yq14, .ref yq15, .ref yq16, .ref yq17, .int 0, .int 0, .int 0, .ref yq18, .ref yq19])), (yq1, .inl (cI, 1302, .inl (upd (wC z0 7) (41 : Int32).toNatClampNeg (z0 (41 : Int32).toNatClampNeg))))] H := hP
      have hD : va_D A [(yh, .inr (10, [.ref yq1, .ref yq2, .int 0, .int 0, .int 1, .int 0, .int 0, .int 0, .ref yq3, .ref yq4, .ref yq5, .ref yq6, .ref yq7, .ref yq8, .int 0, .int 0, .int 0, .int 0, .int 0, .int (-1), .int 0, .int 0, .int 0, .int 0, .int 0, .int 0, .int 0, .ref yq9, .ref yq10, .ref yq11, .ref yq12, .ref yq13, .int 0, .int 0, .int 0, .int 0, .ref yq14, .ref yq15, .ref yq16, .ref yq17, .int 0, .int 0, .int 0, .ref yq18, .ref yq19])), (yq1, .inl (cI, 1302, .inl (upd (wC z0 7) (41 : Int32).toNatClampNeg (z0 (41 : Int32).toNatClampNeg))))] := hD
      refine lv_topi (fun z_24 ez_24 => ?_)
      obtain rfl : z_24 = 1 := ez_24.trans (by decide +kernel)
      refine lv_if_eq (tgt := 160) hx hb dX10_told_146 (by decide) (fun c_25 => absurd c_25 (by decide +kernel)) (fun c_25 => ?_)
      refine lv_aload_n hx hb dX10_told_149 rfl (lv_at hl 0 rfl) ?_
      refine lv_iload_n hx hb dX10_told_150 rfl (lv_at hl 1 rfl) ?_
      refine lv_bipush (v := 7) hx hb dX10_told_151 (by decide) ?_
      refine lv_isub hx hb dX10_told_153 ?_
      refine lv_topi (fun z_26 ez_26 => ?_)
      obtain rfl : z_26 = 3 := ez_26.trans (by decide +kernel)
      refine cVi (wr := [(yq1, .inl (cI, 1302, .inl (upd (wC z0 7) (41 : Int32).toNatClampNeg (z0 (41 : Int32).toNatClampNeg))))]) (rest := []) (k_bargesThat3 yh yq1 yq2 yq3 yq4 yq5 yq6 yq7 yq8 yq9 yq10 yq11 yq12 yq13 yq14 yq15 yq16 yq17 yq18 yq19) okV_X10_bargesThat wd_335 hx hb hml hown hts hK hP hD hS hA hN hl.1 [0] [1] rfl rfl rfl rfl (by decide) rfl rfl rfl (Nat.le_of_ble_eq_true rfl) (Nat.le_of_ble_eq_true rfl) (Nat.le_of_ble_eq_true rfl) (Nat.le_of_ble_eq_true rfl) (Nat.le_of_ble_eq_true rfl) dX10_told_154 (fun r_28 u_27 H locs hw_u_27 hP hD hS => ?_)
      obtain rfl := hw_u_27
      have hP : va_P D classes [(yq1, .inl (cI, 1302, .inl (upd (wC z0 7) (41 : Int32).toNatClampNeg (z0 (41 : Int32).toNatClampNeg)))), (yh, .inr (10, [.ref yq1, .ref yq2, .int 0, .int 0, .int 1, .int 0, .int 0, .int 0, .ref yq3, .ref yq4, .ref yq5, .ref yq6, .ref yq7, .ref yq8, .int 0, .int 0, .int 0, .int 0, .int 0, .int (-1), .int 0, .int 0, .int 0, .int 0, .int 0, .int 0, .int 0, .ref yq9, .ref yq10, .ref yq11, .ref yq12, .ref yq13, .int 0, .int 0, .int 0, .int 0, .ref yq14, .ref yq15, .ref yq16, .ref yq17, .int 0, .int 0, .int 0, .ref yq18, .ref yq19]))] H := hP
      have hD : va_D A [(yq1, .inl (cI, 1302, .inl (upd (wC z0 7) (41 : Int32).toNatClampNeg (z0 (41 : Int32).toNatClampNeg)))), (yh, .inr (10, [.ref yq1, .ref yq2, .int 0, .int 0, .int 1, .int 0, .int 0, .int 0, .ref yq3, .ref yq4, .ref yq5, .ref yq6, .ref yq7, .ref yq8, .int 0, .int 0, .int 0, .int 0, .int 0, .int (-1), .int 0, .int 0, .int 0, .int 0, .int 0, .int 0, .int 0, .ref yq9, .ref yq10, .ref yq11, .ref yq12, .ref yq13, .int 0, .int 0, .int 0, .int 0, .ref yq14, .ref yq15, .ref yq16, .ref yq17, .int 0, .int 0, .int 0, .ref yq18, .ref yq19]))] := hD
      refine lv_goto (tgt := 162) hx hb dX10_told_157 (by decide) ?_
      exact hret 0 () _ _ _ _ dX10_told_162 rfl (by decide +kernel) (cutP (isC := []) hP rfl) (cutD (isC := []) hD rfl rfl) hS
    · have hl : lv_has ls 2 [(0, .ref yh), (1, .int 11)] := hl
      refine lv_tableIn (off := 117) (tgt := 118) hx hb dX10_told_1 (by decide +kernel) (by decide +kernel) (by decide +kernel) (by decide) ?_
      refine lv_aload_n hx hb dX10_told_118 rfl (lv_at hl 0 rfl) ?_
      refine lv_bipush (v := 63) hx hb dX10_told_119 (by decide) ?_
      refine cVi (wr := [(yq1, .inl (cI, 1302, .inl (upd (wC z0 7) (41 : Int32).toNatClampNeg (z0 (41 : Int32).toNatClampNeg))))]) (rest := []) (k_griefOf63 yh yq1 yq2 yq3 yq4 yq5 yq6 yq7 yq8 yq9 yq10 yq11 yq12 yq13 yq14 yq15 yq16 yq17 yq18 yq19) okV_X10_griefOf wd_339 hx hb hml hown hts hK hP hD hS hA hN hl.1 [0] [1] rfl rfl rfl rfl (by decide) rfl rfl rfl (Nat.le_of_ble_eq_true rfl) (Nat.le_of_ble_eq_true rfl) (Nat.le_of_ble_eq_true rfl) (Nat.le_of_ble_eq_true rfl) (Nat.le_of_ble_eq_true rfl) dX10_told_121 (fun r_30 u_29 H locs hw_u_29 hP hD hS => ?_)
      obtain rfl := hw_u_29
      have hP : va_P D classes [(yq1, .inl (cI, 1302, .inl (upd (wC z0 7) (41 : Int32).toNatClampNeg (z0 (41 : Int32).toNatClampNeg)))), (yh, .inr (10, [.ref yq1, .ref yq2, .int 0, .int 0, .int 1, .int 0, .int 0, .int 0, .ref yq3, .ref yq4, .ref yq5, .ref yq6, .ref yq7, .ref yq8, .int 0, .int 0, .int 0, .int 0, .int 0, .int (-1), .int 0, .int 0, .int 0, .int 0, .int 0, .int 0, .int 0, .ref yq9, .ref yq10, .ref yq11, .ref yq12, .ref yq13, .int 0, .int 0, .int 0, .int 0, .ref yq14, .ref yq15, .ref yq16, .ref yq17, .int 0, .int 0, .int 0, .ref yq18, .ref yq19]))] H := hP
      have hD : va_D A [(yq1, .inl (cI, 1302, .inl (upd (wC z0 7) (41 : Int32).toNatClampNeg (z0 (41 : Int32).toNatClampNeg)))), (yh, .inr (10, [.ref yq1, .ref yq2, .int 0, .int 0, .int 1, .int 0, .int 0, .int 0, .ref yq3, .ref yq4, .ref yq5, .ref yq6, .ref yq7, .ref yq8, .int 0, .int 0, .int 0, .int 0, .int 0, .int (-1), .int 0, .int 0, .int 0, .int 0, .int 0, .int 0, .int 0, .ref yq9, .ref yq10, .ref yq11, .ref yq12, .ref yq13, .int 0, .int 0, .int 0, .int 0, .ref yq14, .ref yq15, .ref yq16, .ref yq17, .int 0, .int 0, .int 0, .ref yq18, .ref yq19]))] := hD
      exact hret 0 () _ _ _ _ dX10_told_124 rfl (by decide +kernel) (cutP (isC := []) hP rfl) (cutD (isC := []) hD rfl rfl) hS
    · have hl : lv_has ls 2 [(0, .ref yh), (1, .int 12)] := hl
      refine lv_tableIn (off := 124) (tgt := 125) hx hb dX10_told_1 (by decide +kernel) (by decide +kernel) (by decide +kernel) (by decide) ?_
      refine lv_aload_n hx hb dX10_told_125 rfl (lv_at hl 0 rfl) ?_
      refine va_get (D := D) (ci := 10) (v := .int 0) (C := RX10) (T := TX10) (N := 45) hx hb hts iX10 hown hK hP 0 rfl rfl 42 (by decide) (hts _ wd_331) (fun _ h9 => h9) rfl dX10_told_126 ?_
      exact hret 0 () _ _ _ _ dX10_told_129 rfl (by decide +kernel) (cutP (isC := []) hP rfl) (cutD (isC := []) hD rfl rfl) hS
    · have hl : lv_has ls 2 [(0, .ref yh), (1, .int 13)] := hl
      refine lv_tableIn (off := 129) (tgt := 130) hx hb dX10_told_1 (by decide +kernel) (by decide +kernel) (by decide +kernel) (by decide) ?_
      refine lv_aload_n hx hb dX10_told_130 rfl (lv_at hl 0 rfl) ?_
      refine va_get (D := D) (ci := 10) (v := .int 0) (C := RX10) (T := TX10) (N := 45) hx hb hts iX10 hown hK hP 0 rfl rfl 2 (by decide) (hts _ wd_332) (fun _ h9 => h9) rfl dX10_told_131 ?_
      exact hret 0 () _ _ _ _ dX10_told_134 rfl (by decide +kernel) (cutP (isC := []) hP rfl) (cutD (isC := []) hD rfl rfl) hS
def rm_k_m_bridge : Room := { frames := 2, cells := 0, slots := 0, locals := 46 }
set_option maxHeartbeats 4000000 in
set_option maxRecDepth 100000 in
theorem k_m_bridge {l : Launch} {D : va_G} {cI cZ : ClassId} {sz : Nat} (yh yq1 yq2 yq3 yq4 yq5 yq6 yq7 yq8 yq9 yq10 yq11 yq12 yq13 yq14 yq15 yq16 yq17 yq18 yq19 : Nat) (v1 v2 : Int32) : KI l yX10_bridge cX10_bridge 3 (some .int) rm_k_m_bridge D cI cZ [.ref yh, .int v1, .int v2] sz [(yh, .inr (10, [.ref yq1, .ref yq2, .int 0, .int 0, .int 1, .int 0, .int 0, .int 0, .ref yq3, .ref yq4, .ref yq5, .ref yq6, .ref yq7, .ref yq8, .int 0, .int 0, .int 0, .int 0, .int 0, .int (-1), .int 0, .int 0, .int 0, .int 0, .int 0, .int 0, .int 0, .ref yq9, .ref yq10, .ref yq11, .ref yq12, .ref yq13, .int 0, .int 0, .int 0, .int 0, .ref yq14, .ref yq15, .ref yq16, .ref yq17, .int 0, .int 0, .int 0, .ref yq18, .ref yq19]))] (fun (r : Int32) (_ : Unit) => r = (-1000000001)) (fun (_ : Unit) => []) := by
  refine KI.go rfl (Nat.le_of_ble_eq_true rfl) ?_
  intro p e s m args below meth c ls A Q hx hb hml hts hown hin hP hK hD hS hA hN hl hret
  have hl : lv_has ls 3 [(0, .ref yh), (1, .int v1), (2, .int v2)] := hl
  refine lv_aload_n hx hb dX10_bridge_0 rfl (lv_at hl 0 rfl) ?_
  refine lv_iload_n hx hb dX10_bridge_1 rfl (lv_at hl 1 rfl) ?_
  refine cVi (wr := []) (rest := []) (k_isBridge yh yq1 yq2 yq3 yq4 yq5 yq6 yq7 yq8 yq9 yq10 yq11 yq12 yq13 yq14 yq15 yq16 yq17 yq18 yq19 v1) okV_X10_isBridge wd_343 hx hb hml hown hts hK hP hD hS hA hN hl.1 [0] [] rfl rfl rfl rfl (by decide) rfl rfl rfl (Nat.le_of_ble_eq_true rfl) (Nat.le_of_ble_eq_true rfl) (Nat.le_of_ble_eq_true rfl) (Nat.le_of_ble_eq_true rfl) (Nat.le_of_ble_eq_true rfl) dX10_bridge_2 (fun r_2 u_1 H locs hw_u_1 hP hD hS => ?_)
  obtain rfl := hw_u_1
  have hP : va_P D classes [(yh, .inr (10, [.ref yq1, .ref yq2, .int 0, .int 0, .int 1, .int 0, .int 0, .int 0, .ref yq3, .ref yq4, .ref yq5, .ref yq6, .ref yq7, .ref yq8, .int 0, .int 0, .int 0, .int 0, .int 0, .int (-1), .int 0, .int 0, .int 0, .int 0, .int 0, .int 0, .int 0, .ref yq9, .ref yq10, .ref yq11, .ref yq12, .ref yq13, .int 0, .int 0, .int 0, .int 0, .ref yq14, .ref yq15, .ref yq16, .ref yq17, .int 0, .int 0, .int 0, .ref yq18, .ref yq19]))] H := hP
  have hD : va_D A [(yh, .inr (10, [.ref yq1, .ref yq2, .int 0, .int 0, .int 1, .int 0, .int 0, .int 0, .ref yq3, .ref yq4, .ref yq5, .ref yq6, .ref yq7, .ref yq8, .int 0, .int 0, .int 0, .int 0, .int 0, .int (-1), .int 0, .int 0, .int 0, .int 0, .int 0, .int 0, .int 0, .ref yq9, .ref yq10, .ref yq11, .ref yq12, .ref yq13, .int 0, .int 0, .int 0, .int 0, .ref yq14, .ref yq15, .ref yq16, .ref yq17, .int 0, .int 0, .int 0, .ref yq18, .ref yq19]))] := hD
  refine lv_if_ne (tgt := 11) hx hb dX10_bridge_5 (by decide) (fun c_3 => absurd (by decide +kernel) c_3) (fun c_3 => ?_)
  refine lv_ldc (v := (-1000000001)) hx hb hown (hts _ wd_347) dX10_bridge_8 ?_
  exact hret (-1000000001) () _ _ _ _ dX10_bridge_10 rfl rfl (cutP (isC := []) hP rfl) (cutD (isC := []) hD rfl rfl) hS
def rm_k_m_couple : Room := { frames := 2, cells := 0, slots := 0, locals := 46 }
set_option maxHeartbeats 4000000 in
set_option maxRecDepth 100000 in
theorem k_m_couple {l : Launch} {D : va_G} {cI cZ : ClassId} {sz : Nat} (yh yq1 yq2 yq3 yq4 yq5 yq6 yq7 yq8 yq9 yq10 yq11 yq12 yq13 yq14 yq15 yq16 yq17 yq18 yq19 : Nat) (v1 v2 : Int32) : KI l yX10_couple cX10_couple 3 (some .int) rm_k_m_couple D cI cZ [.ref yh, .int v1, .int v2] sz [(yh, .inr (10, [.ref yq1, .ref yq2, .int 0, .int 0, .int 1, .int 0, .int 0, .int 0, .ref yq3, .ref yq4, .ref yq5, .ref yq6, .ref yq7, .ref yq8, .int 0, .int 0, .int 0, .int 0, .int 0, .int (-1), .int 0, .int 0, .int 0, .int 0, .int 0, .int 0, .int 0, .ref yq9, .ref yq10, .ref yq11, .ref yq12, .ref yq13, .int 0, .int 0, .int 0, .int 0, .ref yq14, .ref yq15, .ref yq16, .ref yq17, .int 0, .int 0, .int 0, .ref yq18, .ref yq19]))] (fun (r : Int32) (_ : Unit) => r = (-1000000001)) (fun (_ : Unit) => []) := by
  refine KI.go rfl (Nat.le_of_ble_eq_true rfl) ?_
  intro p e s m args below meth c ls A Q hx hb hml hts hown hin hP hK hD hS hA hN hl hret
  have hl : lv_has ls 3 [(0, .ref yh), (1, .int v1), (2, .int v2)] := hl
  refine lv_aload_n hx hb dX10_couple_0 rfl (lv_at hl 0 rfl) ?_
  refine lv_iload_n hx hb dX10_couple_1 rfl (lv_at hl 1 rfl) ?_
  refine cVi (wr := []) (rest := []) (k_isCouple yh yq1 yq2 yq3 yq4 yq5 yq6 yq7 yq8 yq9 yq10 yq11 yq12 yq13 yq14 yq15 yq16 yq17 yq18 yq19 v1) okV_X10_isCouple wd_348 hx hb hml hown hts hK hP hD hS hA hN hl.1 [0] [] rfl rfl rfl rfl (by decide) rfl rfl rfl (Nat.le_of_ble_eq_true rfl) (Nat.le_of_ble_eq_true rfl) (Nat.le_of_ble_eq_true rfl) (Nat.le_of_ble_eq_true rfl) (Nat.le_of_ble_eq_true rfl) dX10_couple_2 (fun r_2 u_1 H locs hw_u_1 hP hD hS => ?_)
  obtain rfl := hw_u_1
  have hP : va_P D classes [(yh, .inr (10, [.ref yq1, .ref yq2, .int 0, .int 0, .int 1, .int 0, .int 0, .int 0, .ref yq3, .ref yq4, .ref yq5, .ref yq6, .ref yq7, .ref yq8, .int 0, .int 0, .int 0, .int 0, .int 0, .int (-1), .int 0, .int 0, .int 0, .int 0, .int 0, .int 0, .int 0, .ref yq9, .ref yq10, .ref yq11, .ref yq12, .ref yq13, .int 0, .int 0, .int 0, .int 0, .ref yq14, .ref yq15, .ref yq16, .ref yq17, .int 0, .int 0, .int 0, .ref yq18, .ref yq19]))] H := hP
  have hD : va_D A [(yh, .inr (10, [.ref yq1, .ref yq2, .int 0, .int 0, .int 1, .int 0, .int 0, .int 0, .ref yq3, .ref yq4, .ref yq5, .ref yq6, .ref yq7, .ref yq8, .int 0, .int 0, .int 0, .int 0, .int 0, .int (-1), .int 0, .int 0, .int 0, .int 0, .int 0, .int 0, .int 0, .ref yq9, .ref yq10, .ref yq11, .ref yq12, .ref yq13, .int 0, .int 0, .int 0, .int 0, .ref yq14, .ref yq15, .ref yq16, .ref yq17, .int 0, .int 0, .int 0, .ref yq18, .ref yq19]))] := hD
  refine lv_if_ne (tgt := 11) hx hb dX10_couple_5 (by decide) (fun c_3 => absurd (by decide +kernel) c_3) (fun c_3 => ?_)
  refine lv_ldc (v := (-1000000001)) hx hb hown (hts _ wd_347) dX10_couple_8 ?_
  exact hret (-1000000001) () _ _ _ _ dX10_couple_10 rfl rfl (cutP (isC := []) hP rfl) (cutD (isC := []) hD rfl rfl) hS
def rm_k_m_force : Room := { frames := 2, cells := 0, slots := 0, locals := 46 }
set_option maxHeartbeats 4000000 in
set_option maxRecDepth 100000 in
theorem k_m_force {l : Launch} {D : va_G} {cI cZ : ClassId} {sz : Nat} (yh yq1 yq2 yq3 yq4 yq5 yq6 yq7 yq8 yq9 yq10 yq11 yq12 yq13 yq14 yq15 yq16 yq17 yq18 yq19 : Nat) (v1 v2 : Int32) : KI l yX10_force cX10_force 3 (some .int) rm_k_m_force D cI cZ [.ref yh, .int v1, .int v2] sz [(yh, .inr (10, [.ref yq1, .ref yq2, .int 0, .int 0, .int 1, .int 0, .int 0, .int 0, .ref yq3, .ref yq4, .ref yq5, .ref yq6, .ref yq7, .ref yq8, .int 0, .int 0, .int 0, .int 0, .int 0, .int (-1), .int 0, .int 0, .int 0, .int 0, .int 0, .int 0, .int 0, .ref yq9, .ref yq10, .ref yq11, .ref yq12, .ref yq13, .int 0, .int 0, .int 0, .int 0, .ref yq14, .ref yq15, .ref yq16, .ref yq17, .int 0, .int 0, .int 0, .ref yq18, .ref yq19]))] (fun (r : Int32) (_ : Unit) => r = (-1000000001)) (fun (_ : Unit) => []) := by
  refine KI.go rfl (Nat.le_of_ble_eq_true rfl) ?_
  intro p e s m args below meth c ls A Q hx hb hml hts hown hin hP hK hD hS hA hN hl hret
  have hl : lv_has ls 3 [(0, .ref yh), (1, .int v1), (2, .int v2)] := hl
  refine lv_aload_n hx hb dX10_force_0 rfl (lv_at hl 0 rfl) ?_
  refine lv_iload_n hx hb dX10_force_1 rfl (lv_at hl 1 rfl) ?_
  refine cVi (wr := []) (rest := []) (k_isCouple yh yq1 yq2 yq3 yq4 yq5 yq6 yq7 yq8 yq9 yq10 yq11 yq12 yq13 yq14 yq15 yq16 yq17 yq18 yq19 v1) okV_X10_isCouple wd_348 hx hb hml hown hts hK hP hD hS hA hN hl.1 [0] [] rfl rfl rfl rfl (by decide) rfl rfl rfl (Nat.le_of_ble_eq_true rfl) (Nat.le_of_ble_eq_true rfl) (Nat.le_of_ble_eq_true rfl) (Nat.le_of_ble_eq_true rfl) (Nat.le_of_ble_eq_true rfl) dX10_force_2 (fun r_2 u_1 H locs hw_u_1 hP hD hS => ?_)
  obtain rfl := hw_u_1
  have hP : va_P D classes [(yh, .inr (10, [.ref yq1, .ref yq2, .int 0, .int 0, .int 1, .int 0, .int 0, .int 0, .ref yq3, .ref yq4, .ref yq5, .ref yq6, .ref yq7, .ref yq8, .int 0, .int 0, .int 0, .int 0, .int 0, .int (-1), .int 0, .int 0, .int 0, .int 0, .int 0, .int 0, .int 0, .ref yq9, .ref yq10, .ref yq11, .ref yq12, .ref yq13, .int 0, .int 0, .int 0, .int 0, .ref yq14, .ref yq15, .ref yq16, .ref yq17, .int 0, .int 0, .int 0, .ref yq18, .ref yq19]))] H := hP
  have hD : va_D A [(yh, .inr (10, [.ref yq1, .ref yq2, .int 0, .int 0, .int 1, .int 0, .int 0, .int 0, .ref yq3, .ref yq4, .ref yq5, .ref yq6, .ref yq7, .ref yq8, .int 0, .int 0, .int 0, .int 0, .int 0, .int (-1), .int 0, .int 0, .int 0, .int 0, .int 0, .int 0, .int 0, .ref yq9, .ref yq10, .ref yq11, .ref yq12, .ref yq13, .int 0, .int 0, .int 0, .int 0, .ref yq14, .ref yq15, .ref yq16, .ref yq17, .int 0, .int 0, .int 0, .ref yq18, .ref yq19]))] := hD
  refine lv_if_eq (tgt := 29) hx hb dX10_force_5 (by decide) (fun c_3 => ?_) (fun c_3 => absurd (by decide +kernel) c_3)
  refine lv_ldc (v := (-1000000001)) hx hb hown (hts _ wd_347) dX10_force_29 ?_
  exact hret (-1000000001) () _ _ _ _ dX10_force_31 rfl rfl (cutP (isC := []) hP rfl) (cutD (isC := []) hD rfl rfl) hS
def rm_k_m_barge : Room := { frames := 2, cells := 0, slots := 0, locals := 46 }
set_option maxHeartbeats 4000000 in
set_option maxRecDepth 100000 in
theorem k_m_barge {l : Launch} {D : va_G} {cI cZ : ClassId} {sz : Nat} (yh yq1 yq2 yq3 yq4 yq5 yq6 yq7 yq8 yq9 yq10 yq11 yq12 yq13 yq14 yq15 yq16 yq17 yq18 yq19 : Nat) (v1 v2 : Int32) : KI l yX10_barge cX10_barge 3 (some .int) rm_k_m_barge D cI cZ [.ref yh, .int v1, .int v2] sz [(yh, .inr (10, [.ref yq1, .ref yq2, .int 0, .int 0, .int 1, .int 0, .int 0, .int 0, .ref yq3, .ref yq4, .ref yq5, .ref yq6, .ref yq7, .ref yq8, .int 0, .int 0, .int 0, .int 0, .int 0, .int (-1), .int 0, .int 0, .int 0, .int 0, .int 0, .int 0, .int 0, .ref yq9, .ref yq10, .ref yq11, .ref yq12, .ref yq13, .int 0, .int 0, .int 0, .int 0, .ref yq14, .ref yq15, .ref yq16, .ref yq17, .int 0, .int 0, .int 0, .ref yq18, .ref yq19]))] (fun (r : Int32) (_ : Unit) => r = (-1000000001)) (fun (_ : Unit) => []) := by
  refine KI.go rfl (Nat.le_of_ble_eq_true rfl) ?_
  intro p e s m args below meth c ls A Q hx hb hml hts hown hin hP hK hD hS hA hN hl hret
  have hl : lv_has ls 3 [(0, .ref yh), (1, .int v1), (2, .int v2)] := hl
  refine lv_aload_n hx hb dX10_barge_0 rfl (lv_at hl 0 rfl) ?_
  refine lv_iload_n hx hb dX10_barge_1 rfl (lv_at hl 1 rfl) ?_
  refine cVi (wr := []) (rest := []) (k_isBarge yh yq1 yq2 yq3 yq4 yq5 yq6 yq7 yq8 yq9 yq10 yq11 yq12 yq13 yq14 yq15 yq16 yq17 yq18 yq19 v1) okV_X10_isBarge wd_352 hx hb hml hown hts hK hP hD hS hA hN hl.1 [0] [] rfl rfl rfl rfl (by decide) rfl rfl rfl (Nat.le_of_ble_eq_true rfl) (Nat.le_of_ble_eq_true rfl) (Nat.le_of_ble_eq_true rfl) (Nat.le_of_ble_eq_true rfl) (Nat.le_of_ble_eq_true rfl) dX10_barge_2 (fun r_2 u_1 H locs hw_u_1 hP hD hS => ?_)
  obtain rfl := hw_u_1
  have hP : va_P D classes [(yh, .inr (10, [.ref yq1, .ref yq2, .int 0, .int 0, .int 1, .int 0, .int 0, .int 0, .ref yq3, .ref yq4, .ref yq5, .ref yq6, .ref yq7, .ref yq8, .int 0, .int 0, .int 0, .int 0, .int 0, .int (-1), .int 0, .int 0, .int 0, .int 0, .int 0, .int 0, .int 0, .ref yq9, .ref yq10, .ref yq11, .ref yq12, .ref yq13, .int 0, .int 0, .int 0, .int 0, .ref yq14, .ref yq15, .ref yq16, .ref yq17, .int 0, .int 0, .int 0, .ref yq18, .ref yq19]))] H := hP
  have hD : va_D A [(yh, .inr (10, [.ref yq1, .ref yq2, .int 0, .int 0, .int 1, .int 0, .int 0, .int 0, .ref yq3, .ref yq4, .ref yq5, .ref yq6, .ref yq7, .ref yq8, .int 0, .int 0, .int 0, .int 0, .int 0, .int (-1), .int 0, .int 0, .int 0, .int 0, .int 0, .int 0, .int 0, .ref yq9, .ref yq10, .ref yq11, .ref yq12, .ref yq13, .int 0, .int 0, .int 0, .int 0, .ref yq14, .ref yq15, .ref yq16, .ref yq17, .int 0, .int 0, .int 0, .ref yq18, .ref yq19]))] := hD
  refine lv_if_ne (tgt := 11) hx hb dX10_barge_5 (by decide) (fun c_3 => absurd (by decide +kernel) c_3) (fun c_3 => ?_)
  refine lv_ldc (v := (-1000000001)) hx hb hown (hts _ wd_347) dX10_barge_8 ?_
  exact hret (-1000000001) () _ _ _ _ dX10_barge_10 rfl rfl (cutP (isC := []) hP rfl) (cutD (isC := []) hD rfl rfl) hS
def rm_k_m_send : Room := { frames := 2, cells := 0, slots := 0, locals := 46 }
set_option maxHeartbeats 4000000 in
set_option maxRecDepth 100000 in
theorem k_m_send {l : Launch} {D : va_G} {cI cZ : ClassId} {sz : Nat} (yh yq1 yq2 yq3 yq4 yq5 yq6 yq7 yq8 yq9 yq10 yq11 yq12 yq13 yq14 yq15 yq16 yq17 yq18 yq19 : Nat) (v1 v2 v3 : Int32) : KI l yX10_send cX10_send 6 (some .int) rm_k_m_send D cI cZ [.ref yh, .int v1, .int v2, .int v3] sz [(yh, .inr (10, [.ref yq1, .ref yq2, .int 0, .int 0, .int 1, .int 0, .int 0, .int 0, .ref yq3, .ref yq4, .ref yq5, .ref yq6, .ref yq7, .ref yq8, .int 0, .int 0, .int 0, .int 0, .int 0, .int (-1), .int 0, .int 0, .int 0, .int 0, .int 0, .int 0, .int 0, .ref yq9, .ref yq10, .ref yq11, .ref yq12, .ref yq13, .int 0, .int 0, .int 0, .int 0, .ref yq14, .ref yq15, .ref yq16, .ref yq17, .int 0, .int 0, .int 0, .ref yq18, .ref yq19]))] (fun (r : Int32) (_ : Unit) => r = (-1000000001)) (fun (_ : Unit) => []) := by
  refine KI.go rfl (Nat.le_of_ble_eq_true rfl) ?_
  intro p e s m args below meth c ls A Q hx hb hml hts hown hin hP hK hD hS hA hN hl hret
  have hl : lv_has ls 6 [(0, .ref yh), (1, .int v1), (2, .int v2), (3, .int v3)] := hl
  refine lv_aload_n hx hb dX10_send_0 rfl (lv_at hl 0 rfl) ?_
  refine lv_iload_n hx hb dX10_send_1 rfl (lv_at hl 1 rfl) ?_
  refine cVi (wr := []) (rest := []) (k_isCouple yh yq1 yq2 yq3 yq4 yq5 yq6 yq7 yq8 yq9 yq10 yq11 yq12 yq13 yq14 yq15 yq16 yq17 yq18 yq19 v1) okV_X10_isCouple wd_348 hx hb hml hown hts hK hP hD hS hA hN hl.1 [0] [] rfl rfl rfl rfl (by decide) rfl rfl rfl (Nat.le_of_ble_eq_true rfl) (Nat.le_of_ble_eq_true rfl) (Nat.le_of_ble_eq_true rfl) (Nat.le_of_ble_eq_true rfl) (Nat.le_of_ble_eq_true rfl) dX10_send_2 (fun r_2 u_1 H locs hw_u_1 hP hD hS => ?_)
  obtain rfl := hw_u_1
  have hP : va_P D classes [(yh, .inr (10, [.ref yq1, .ref yq2, .int 0, .int 0, .int 1, .int 0, .int 0, .int 0, .ref yq3, .ref yq4, .ref yq5, .ref yq6, .ref yq7, .ref yq8, .int 0, .int 0, .int 0, .int 0, .int 0, .int (-1), .int 0, .int 0, .int 0, .int 0, .int 0, .int 0, .int 0, .ref yq9, .ref yq10, .ref yq11, .ref yq12, .ref yq13, .int 0, .int 0, .int 0, .int 0, .ref yq14, .ref yq15, .ref yq16, .ref yq17, .int 0, .int 0, .int 0, .ref yq18, .ref yq19]))] H := hP
  have hD : va_D A [(yh, .inr (10, [.ref yq1, .ref yq2, .int 0, .int 0, .int 1, .int 0, .int 0, .int 0, .ref yq3, .ref yq4, .ref yq5, .ref yq6, .ref yq7, .ref yq8, .int 0, .int 0, .int 0, .int 0, .int 0, .int (-1), .int 0, .int 0, .int 0, .int 0, .int 0, .int 0, .int 0, .ref yq9, .ref yq10, .ref yq11, .ref yq12, .ref yq13, .int 0, .int 0, .int 0, .int 0, .ref yq14, .ref yq15, .ref yq16, .ref yq17, .int 0, .int 0, .int 0, .ref yq18, .ref yq19]))] := hD
  refine lv_if_eq (tgt := 24) hx hb dX10_send_5 (by decide) (fun c_3 => ?_) (fun c_3 => absurd (by decide +kernel) c_3)
  refine lv_ldc (v := (-1000000001)) hx hb hown (hts _ wd_347) dX10_send_24 ?_
  exact hret (-1000000001) () _ _ _ _ dX10_send_26 rfl rfl (cutP (isC := []) hP rfl) (cutD (isC := []) hD rfl rfl) hS
def rm_k_m_home : Room := { frames := 2, cells := 0, slots := 0, locals := 46 }
set_option maxHeartbeats 4000000 in
set_option maxRecDepth 100000 in
theorem k_m_home {l : Launch} {D : va_G} {cI cZ : ClassId} {sz : Nat} (yh yq1 yq2 yq3 yq4 yq5 yq6 yq7 yq8 yq9 yq10 yq11 yq12 yq13 yq14 yq15 yq16 yq17 yq18 yq19 : Nat) (v1 : Int32) : KI l yX10_home cX10_home 3 (some .int) rm_k_m_home D cI cZ [.ref yh, .int v1] sz [(yh, .inr (10, [.ref yq1, .ref yq2, .int 0, .int 0, .int 1, .int 0, .int 0, .int 0, .ref yq3, .ref yq4, .ref yq5, .ref yq6, .ref yq7, .ref yq8, .int 0, .int 0, .int 0, .int 0, .int 0, .int (-1), .int 0, .int 0, .int 0, .int 0, .int 0, .int 0, .int 0, .ref yq9, .ref yq10, .ref yq11, .ref yq12, .ref yq13, .int 0, .int 0, .int 0, .int 0, .ref yq14, .ref yq15, .ref yq16, .ref yq17, .int 0, .int 0, .int 0, .ref yq18, .ref yq19]))] (fun (r : Int32) (_ : Unit) => r = (-1000000001)) (fun (_ : Unit) => []) := by
  refine KI.go rfl (Nat.le_of_ble_eq_true rfl) ?_
  intro p e s m args below meth c ls A Q hx hb hml hts hown hin hP hK hD hS hA hN hl hret
  have hl : lv_has ls 3 [(0, .ref yh), (1, .int v1)] := hl
  refine lv_aload_n hx hb dX10_home_0 rfl (lv_at hl 0 rfl) ?_
  refine lv_iload_n hx hb dX10_home_1 rfl (lv_at hl 1 rfl) ?_
  refine cVi (wr := []) (rest := []) (k_isCouple yh yq1 yq2 yq3 yq4 yq5 yq6 yq7 yq8 yq9 yq10 yq11 yq12 yq13 yq14 yq15 yq16 yq17 yq18 yq19 v1) okV_X10_isCouple wd_348 hx hb hml hown hts hK hP hD hS hA hN hl.1 [0] [] rfl rfl rfl rfl (by decide) rfl rfl rfl (Nat.le_of_ble_eq_true rfl) (Nat.le_of_ble_eq_true rfl) (Nat.le_of_ble_eq_true rfl) (Nat.le_of_ble_eq_true rfl) (Nat.le_of_ble_eq_true rfl) dX10_home_2 (fun r_2 u_1 H locs hw_u_1 hP hD hS => ?_)
  obtain rfl := hw_u_1
  have hP : va_P D classes [(yh, .inr (10, [.ref yq1, .ref yq2, .int 0, .int 0, .int 1, .int 0, .int 0, .int 0, .ref yq3, .ref yq4, .ref yq5, .ref yq6, .ref yq7, .ref yq8, .int 0, .int 0, .int 0, .int 0, .int 0, .int (-1), .int 0, .int 0, .int 0, .int 0, .int 0, .int 0, .int 0, .ref yq9, .ref yq10, .ref yq11, .ref yq12, .ref yq13, .int 0, .int 0, .int 0, .int 0, .ref yq14, .ref yq15, .ref yq16, .ref yq17, .int 0, .int 0, .int 0, .ref yq18, .ref yq19]))] H := hP
  have hD : va_D A [(yh, .inr (10, [.ref yq1, .ref yq2, .int 0, .int 0, .int 1, .int 0, .int 0, .int 0, .ref yq3, .ref yq4, .ref yq5, .ref yq6, .ref yq7, .ref yq8, .int 0, .int 0, .int 0, .int 0, .int 0, .int (-1), .int 0, .int 0, .int 0, .int 0, .int 0, .int 0, .int 0, .ref yq9, .ref yq10, .ref yq11, .ref yq12, .ref yq13, .int 0, .int 0, .int 0, .int 0, .ref yq14, .ref yq15, .ref yq16, .ref yq17, .int 0, .int 0, .int 0, .ref yq18, .ref yq19]))] := hD
  refine lv_if_ne (tgt := 11) hx hb dX10_home_5 (by decide) (fun c_3 => absurd (by decide +kernel) c_3) (fun c_3 => ?_)
  refine lv_ldc (v := (-1000000001)) hx hb hown (hts _ wd_347) dX10_home_8 ?_
  exact hret (-1000000001) () _ _ _ _ dX10_home_10 rfl rfl (cutP (isC := []) hP rfl) (cutD (isC := []) hD rfl rfl) hS
def rm_k_m_pass : Room := { frames := 2, cells := 0, slots := 0, locals := 46 }
set_option maxHeartbeats 4000000 in
set_option maxRecDepth 100000 in
theorem k_m_pass {l : Launch} {D : va_G} {cI cZ : ClassId} {sz : Nat} (yh yq1 yq2 yq3 yq4 yq5 yq6 yq7 yq8 yq9 yq10 yq11 yq12 yq13 yq14 yq15 yq16 yq17 yq18 yq19 : Nat) (v1 : Int32) : KI l yX10_pass cX10_pass 2 (some .int) rm_k_m_pass D cI cZ [.ref yh, .int v1] sz [(yh, .inr (10, [.ref yq1, .ref yq2, .int 0, .int 0, .int 1, .int 0, .int 0, .int 0, .ref yq3, .ref yq4, .ref yq5, .ref yq6, .ref yq7, .ref yq8, .int 0, .int 0, .int 0, .int 0, .int 0, .int (-1), .int 0, .int 0, .int 0, .int 0, .int 0, .int 0, .int 0, .ref yq9, .ref yq10, .ref yq11, .ref yq12, .ref yq13, .int 0, .int 0, .int 0, .int 0, .ref yq14, .ref yq15, .ref yq16, .ref yq17, .int 0, .int 0, .int 0, .ref yq18, .ref yq19]))] (fun (r : Int32) (_ : Unit) => r = (-1000000001)) (fun (_ : Unit) => []) := by
  refine KI.go rfl (Nat.le_of_ble_eq_true rfl) ?_
  intro p e s m args below meth c ls A Q hx hb hml hts hown hin hP hK hD hS hA hN hl hret
  have hl : lv_has ls 2 [(0, .ref yh), (1, .int v1)] := hl
  refine lv_aload_n hx hb dX10_pass_0 rfl (lv_at hl 0 rfl) ?_
  refine lv_iload_n hx hb dX10_pass_1 rfl (lv_at hl 1 rfl) ?_
  refine cVi (wr := []) (rest := []) (k_isBarge yh yq1 yq2 yq3 yq4 yq5 yq6 yq7 yq8 yq9 yq10 yq11 yq12 yq13 yq14 yq15 yq16 yq17 yq18 yq19 v1) okV_X10_isBarge wd_352 hx hb hml hown hts hK hP hD hS hA hN hl.1 [0] [] rfl rfl rfl rfl (by decide) rfl rfl rfl (Nat.le_of_ble_eq_true rfl) (Nat.le_of_ble_eq_true rfl) (Nat.le_of_ble_eq_true rfl) (Nat.le_of_ble_eq_true rfl) (Nat.le_of_ble_eq_true rfl) dX10_pass_2 (fun r_2 u_1 H locs hw_u_1 hP hD hS => ?_)
  obtain rfl := hw_u_1
  have hP : va_P D classes [(yh, .inr (10, [.ref yq1, .ref yq2, .int 0, .int 0, .int 1, .int 0, .int 0, .int 0, .ref yq3, .ref yq4, .ref yq5, .ref yq6, .ref yq7, .ref yq8, .int 0, .int 0, .int 0, .int 0, .int 0, .int (-1), .int 0, .int 0, .int 0, .int 0, .int 0, .int 0, .int 0, .ref yq9, .ref yq10, .ref yq11, .ref yq12, .ref yq13, .int 0, .int 0, .int 0, .int 0, .ref yq14, .ref yq15, .ref yq16, .ref yq17, .int 0, .int 0, .int 0, .ref yq18, .ref yq19]))] H := hP
  have hD : va_D A [(yh, .inr (10, [.ref yq1, .ref yq2, .int 0, .int 0, .int 1, .int 0, .int 0, .int 0, .ref yq3, .ref yq4, .ref yq5, .ref yq6, .ref yq7, .ref yq8, .int 0, .int 0, .int 0, .int 0, .int 0, .int (-1), .int 0, .int 0, .int 0, .int 0, .int 0, .int 0, .int 0, .ref yq9, .ref yq10, .ref yq11, .ref yq12, .ref yq13, .int 0, .int 0, .int 0, .int 0, .ref yq14, .ref yq15, .ref yq16, .ref yq17, .int 0, .int 0, .int 0, .ref yq18, .ref yq19]))] := hD
  refine lv_if_ne (tgt := 11) hx hb dX10_pass_5 (by decide) (fun c_3 => absurd (by decide +kernel) c_3) (fun c_3 => ?_)
  refine lv_ldc (v := (-1000000001)) hx hb hown (hts _ wd_347) dX10_pass_8 ?_
  exact hret (-1000000001) () _ _ _ _ dX10_pass_10 rfl rfl (cutP (isC := []) hP rfl) (cutD (isC := []) hD rfl rfl) hS
def rm_k_m_grieve : Room := { frames := 2, cells := 0, slots := 0, locals := 46 }
set_option maxHeartbeats 4000000 in
set_option maxRecDepth 100000 in
theorem k_m_grieve {l : Launch} {D : va_G} {cI cZ : ClassId} {sz : Nat} (yh yq1 yq2 yq3 yq4 yq5 yq6 yq7 yq8 yq9 yq10 yq11 yq12 yq13 yq14 yq15 yq16 yq17 yq18 yq19 : Nat) (v1 v2 : Int32) : KI l yX10_grieve cX10_grieve 3 (some .int) rm_k_m_grieve D cI cZ [.ref yh, .int v1, .int v2] sz [(yh, .inr (10, [.ref yq1, .ref yq2, .int 0, .int 0, .int 1, .int 0, .int 0, .int 0, .ref yq3, .ref yq4, .ref yq5, .ref yq6, .ref yq7, .ref yq8, .int 0, .int 0, .int 0, .int 0, .int 0, .int (-1), .int 0, .int 0, .int 0, .int 0, .int 0, .int 0, .int 0, .ref yq9, .ref yq10, .ref yq11, .ref yq12, .ref yq13, .int 0, .int 0, .int 0, .int 0, .ref yq14, .ref yq15, .ref yq16, .ref yq17, .int 0, .int 0, .int 0, .ref yq18, .ref yq19]))] (fun (r : Int32) (_ : Unit) => r = (-1000000001)) (fun (_ : Unit) => []) := by
  refine KI.go rfl (Nat.le_of_ble_eq_true rfl) ?_
  intro p e s m args below meth c ls A Q hx hb hml hts hown hin hP hK hD hS hA hN hl hret
  have hl : lv_has ls 3 [(0, .ref yh), (1, .int v1), (2, .int v2)] := hl
  refine lv_aload_n hx hb dX10_grieve_0 rfl (lv_at hl 0 rfl) ?_
  refine lv_iload_n hx hb dX10_grieve_1 rfl (lv_at hl 1 rfl) ?_
  refine cVi (wr := []) (rest := []) (k_isCouple yh yq1 yq2 yq3 yq4 yq5 yq6 yq7 yq8 yq9 yq10 yq11 yq12 yq13 yq14 yq15 yq16 yq17 yq18 yq19 v1) okV_X10_isCouple wd_348 hx hb hml hown hts hK hP hD hS hA hN hl.1 [0] [] rfl rfl rfl rfl (by decide) rfl rfl rfl (Nat.le_of_ble_eq_true rfl) (Nat.le_of_ble_eq_true rfl) (Nat.le_of_ble_eq_true rfl) (Nat.le_of_ble_eq_true rfl) (Nat.le_of_ble_eq_true rfl) dX10_grieve_2 (fun r_2 u_1 H locs hw_u_1 hP hD hS => ?_)
  obtain rfl := hw_u_1
  have hP : va_P D classes [(yh, .inr (10, [.ref yq1, .ref yq2, .int 0, .int 0, .int 1, .int 0, .int 0, .int 0, .ref yq3, .ref yq4, .ref yq5, .ref yq6, .ref yq7, .ref yq8, .int 0, .int 0, .int 0, .int 0, .int 0, .int (-1), .int 0, .int 0, .int 0, .int 0, .int 0, .int 0, .int 0, .ref yq9, .ref yq10, .ref yq11, .ref yq12, .ref yq13, .int 0, .int 0, .int 0, .int 0, .ref yq14, .ref yq15, .ref yq16, .ref yq17, .int 0, .int 0, .int 0, .ref yq18, .ref yq19]))] H := hP
  have hD : va_D A [(yh, .inr (10, [.ref yq1, .ref yq2, .int 0, .int 0, .int 1, .int 0, .int 0, .int 0, .ref yq3, .ref yq4, .ref yq5, .ref yq6, .ref yq7, .ref yq8, .int 0, .int 0, .int 0, .int 0, .int 0, .int (-1), .int 0, .int 0, .int 0, .int 0, .int 0, .int 0, .int 0, .ref yq9, .ref yq10, .ref yq11, .ref yq12, .ref yq13, .int 0, .int 0, .int 0, .int 0, .ref yq14, .ref yq15, .ref yq16, .ref yq17, .int 0, .int 0, .int 0, .ref yq18, .ref yq19]))] := hD
  refine lv_if_ne (tgt := 11) hx hb dX10_grieve_5 (by decide) (fun c_3 => absurd (by decide +kernel) c_3) (fun c_3 => ?_)
  refine lv_ldc (v := (-1000000001)) hx hb hown (hts _ wd_347) dX10_grieve_8 ?_
  exact hret (-1000000001) () _ _ _ _ dX10_grieve_10 rfl rfl (cutP (isC := []) hP rfl) (cutD (isC := []) hD rfl rfl) hS
def rm_k_m_could : Room := { frames := 2, cells := 0, slots := 0, locals := 46 }
set_option maxHeartbeats 4000000 in
set_option maxRecDepth 100000 in
theorem k_m_could {l : Launch} {D : va_G} {cI cZ : ClassId} {sz : Nat} (yh yq1 yq2 yq3 yq4 yq5 yq6 yq7 yq8 yq9 yq10 yq11 yq12 yq13 yq14 yq15 yq16 yq17 yq18 yq19 : Nat) (v1 v2 v3 v4 : Int32) : KI l yX10_could cX10_could 5 (some .int) rm_k_m_could D cI cZ [.ref yh, .int v1, .int v2, .int v3, .int v4] sz [(yh, .inr (10, [.ref yq1, .ref yq2, .int 0, .int 0, .int 1, .int 0, .int 0, .int 0, .ref yq3, .ref yq4, .ref yq5, .ref yq6, .ref yq7, .ref yq8, .int 0, .int 0, .int 0, .int 0, .int 0, .int (-1), .int 0, .int 0, .int 0, .int 0, .int 0, .int 0, .int 0, .ref yq9, .ref yq10, .ref yq11, .ref yq12, .ref yq13, .int 0, .int 0, .int 0, .int 0, .ref yq14, .ref yq15, .ref yq16, .ref yq17, .int 0, .int 0, .int 0, .ref yq18, .ref yq19]))] (fun (r : Int32) (_ : Unit) => r = (-1000000001)) (fun (_ : Unit) => []) := by
  refine KI.go rfl (Nat.le_of_ble_eq_true rfl) ?_
  intro p e s m args below meth c ls A Q hx hb hml hts hown hin hP hK hD hS hA hN hl hret
  have hl : lv_has ls 5 [(0, .ref yh), (1, .int v1), (2, .int v2), (3, .int v3), (4, .int v4)] := hl
  refine lv_aload_n hx hb dX10_could_0 rfl (lv_at hl 0 rfl) ?_
  refine lv_iload_n hx hb dX10_could_1 rfl (lv_at hl 1 rfl) ?_
  refine cVi (wr := []) (rest := []) (k_isCouple yh yq1 yq2 yq3 yq4 yq5 yq6 yq7 yq8 yq9 yq10 yq11 yq12 yq13 yq14 yq15 yq16 yq17 yq18 yq19 v1) okV_X10_isCouple wd_348 hx hb hml hown hts hK hP hD hS hA hN hl.1 [0] [] rfl rfl rfl rfl (by decide) rfl rfl rfl (Nat.le_of_ble_eq_true rfl) (Nat.le_of_ble_eq_true rfl) (Nat.le_of_ble_eq_true rfl) (Nat.le_of_ble_eq_true rfl) (Nat.le_of_ble_eq_true rfl) dX10_could_2 (fun r_2 u_1 H locs hw_u_1 hP hD hS => ?_)
  obtain rfl := hw_u_1
  have hP : va_P D classes [(yh, .inr (10, [.ref yq1, .ref yq2, .int 0, .int 0, .int 1, .int 0, .int 0, .int 0, .ref yq3, .ref yq4, .ref yq5, .ref yq6, .ref yq7, .ref yq8, .int 0, .int 0, .int 0, .int 0, .int 0, .int (-1), .int 0, .int 0, .int 0, .int 0, .int 0, .int 0, .int 0, .ref yq9, .ref yq10, .ref yq11, .ref yq12, .ref yq13, .int 0, .int 0, .int 0, .int 0, .ref yq14, .ref yq15, .ref yq16, .ref yq17, .int 0, .int 0, .int 0, .ref yq18, .ref yq19]))] H := hP
  have hD : va_D A [(yh, .inr (10, [.ref yq1, .ref yq2, .int 0, .int 0, .int 1, .int 0, .int 0, .int 0, .ref yq3, .ref yq4, .ref yq5, .ref yq6, .ref yq7, .ref yq8, .int 0, .int 0, .int 0, .int 0, .int 0, .int (-1), .int 0, .int 0, .int 0, .int 0, .int 0, .int 0, .int 0, .ref yq9, .ref yq10, .ref yq11, .ref yq12, .ref yq13, .int 0, .int 0, .int 0, .int 0, .ref yq14, .ref yq15, .ref yq16, .ref yq17, .int 0, .int 0, .int 0, .ref yq18, .ref yq19]))] := hD
  refine lv_if_eq (tgt := 24) hx hb dX10_could_5 (by decide) (fun c_3 => ?_) (fun c_3 => absurd (by decide +kernel) c_3)
  refine lv_ldc (v := (-1000000001)) hx hb hown (hts _ wd_347) dX10_could_24 ?_
  exact hret (-1000000001) () _ _ _ _ dX10_could_26 rfl rfl (cutP (isC := []) hP rfl) (cutD (isC := []) hD rfl rfl) hS
def rm_k_m_bestTheme : Room := { frames := 2, cells := 0, slots := 0, locals := 46 }
set_option maxHeartbeats 4000000 in
set_option maxRecDepth 100000 in
theorem k_m_bestTheme {l : Launch} {D : va_G} {cI cZ : ClassId} {sz : Nat} (yh yq1 yq2 yq3 yq4 yq5 yq6 yq7 yq8 yq9 yq10 yq11 yq12 yq13 yq14 yq15 yq16 yq17 yq18 yq19 : Nat) (v1 v2 : Int32) : KI l yX10_bestTheme cX10_bestTheme 3 (some .int) rm_k_m_bestTheme D cI cZ [.ref yh, .int v1, .int v2] sz [(yh, .inr (10, [.ref yq1, .ref yq2, .int 0, .int 0, .int 1, .int 0, .int 0, .int 0, .ref yq3, .ref yq4, .ref yq5, .ref yq6, .ref yq7, .ref yq8, .int 0, .int 0, .int 0, .int 0, .int 0, .int (-1), .int 0, .int 0, .int 0, .int 0, .int 0, .int 0, .int 0, .ref yq9, .ref yq10, .ref yq11, .ref yq12, .ref yq13, .int 0, .int 0, .int 0, .int 0, .ref yq14, .ref yq15, .ref yq16, .ref yq17, .int 0, .int 0, .int 0, .ref yq18, .ref yq19]))] (fun (r : Int32) (_ : Unit) => r = (-1000000001)) (fun (_ : Unit) => []) := by
  refine KI.go rfl (Nat.le_of_ble_eq_true rfl) ?_
  intro p e s m args below meth c ls A Q hx hb hml hts hown hin hP hK hD hS hA hN hl hret
  have hl : lv_has ls 3 [(0, .ref yh), (1, .int v1), (2, .int v2)] := hl
  refine lv_aload_n hx hb dX10_bestTheme_0 rfl (lv_at hl 0 rfl) ?_
  refine lv_iload_n hx hb dX10_bestTheme_1 rfl (lv_at hl 1 rfl) ?_
  refine cVi (wr := []) (rest := []) (k_isCouple yh yq1 yq2 yq3 yq4 yq5 yq6 yq7 yq8 yq9 yq10 yq11 yq12 yq13 yq14 yq15 yq16 yq17 yq18 yq19 v1) okV_X10_isCouple wd_348 hx hb hml hown hts hK hP hD hS hA hN hl.1 [0] [] rfl rfl rfl rfl (by decide) rfl rfl rfl (Nat.le_of_ble_eq_true rfl) (Nat.le_of_ble_eq_true rfl) (Nat.le_of_ble_eq_true rfl) (Nat.le_of_ble_eq_true rfl) (Nat.le_of_ble_eq_true rfl) dX10_bestTheme_2 (fun r_2 u_1 H locs hw_u_1 hP hD hS => ?_)
  obtain rfl := hw_u_1
  have hP : va_P D classes [(yh, .inr (10, [.ref yq1, .ref yq2, .int 0, .int 0, .int 1, .int 0, .int 0, .int 0, .ref yq3, .ref yq4, .ref yq5, .ref yq6, .ref yq7, .ref yq8, .int 0, .int 0, .int 0, .int 0, .int 0, .int (-1), .int 0, .int 0, .int 0, .int 0, .int 0, .int 0, .int 0, .ref yq9, .ref yq10, .ref yq11, .ref yq12, .ref yq13, .int 0, .int 0, .int 0, .int 0, .ref yq14, .ref yq15, .ref yq16, .ref yq17, .int 0, .int 0, .int 0, .ref yq18, .ref yq19]))] H := hP
  have hD : va_D A [(yh, .inr (10, [.ref yq1, .ref yq2, .int 0, .int 0, .int 1, .int 0, .int 0, .int 0, .ref yq3, .ref yq4, .ref yq5, .ref yq6, .ref yq7, .ref yq8, .int 0, .int 0, .int 0, .int 0, .int 0, .int (-1), .int 0, .int 0, .int 0, .int 0, .int 0, .int 0, .int 0, .ref yq9, .ref yq10, .ref yq11, .ref yq12, .ref yq13, .int 0, .int 0, .int 0, .int 0, .ref yq14, .ref yq15, .ref yq16, .ref yq17, .int 0, .int 0, .int 0, .ref yq18, .ref yq19]))] := hD
  refine lv_if_eq (tgt := 25) hx hb dX10_bestTheme_5 (by decide) (fun c_3 => ?_) (fun c_3 => absurd (by decide +kernel) c_3)
  refine lv_ldc (v := (-1000000001)) hx hb hown (hts _ wd_347) dX10_bestTheme_25 ?_
  exact hret (-1000000001) () _ _ _ _ dX10_bestTheme_27 rfl rfl (cutP (isC := []) hP rfl) (cutD (isC := []) hD rfl rfl) hS
def rm_k_m_who : Room := { frames := 2, cells := 0, slots := 0, locals := 46 }
set_option maxHeartbeats 4000000 in
set_option maxRecDepth 100000 in
theorem k_m_who {l : Launch} {D : va_G} {cI cZ : ClassId} {sz : Nat} (yh yq1 yq2 yq3 yq4 yq5 yq6 yq7 yq8 yq9 yq10 yq11 yq12 yq13 yq14 yq15 yq16 yq17 yq18 yq19 : Nat) (v1 v2 : Int32) : KI l yX10_who cX10_who 9 (some .int) rm_k_m_who D cI cZ [.ref yh, .int v1, .int v2] sz [(yh, .inr (10, [.ref yq1, .ref yq2, .int 0, .int 0, .int 1, .int 0, .int 0, .int 0, .ref yq3, .ref yq4, .ref yq5, .ref yq6, .ref yq7, .ref yq8, .int 0, .int 0, .int 0, .int 0, .int 0, .int (-1), .int 0, .int 0, .int 0, .int 0, .int 0, .int 0, .int 0, .ref yq9, .ref yq10, .ref yq11, .ref yq12, .ref yq13, .int 0, .int 0, .int 0, .int 0, .ref yq14, .ref yq15, .ref yq16, .ref yq17, .int 0, .int 0, .int 0, .ref yq18, .ref yq19]))] (fun (r : Int32) (_ : Unit) => r = (-1000000001)) (fun (_ : Unit) => []) := by
  refine KI.go rfl (Nat.le_of_ble_eq_true rfl) ?_
  intro p e s m args below meth c ls A Q hx hb hml hts hown hin hP hK hD hS hA hN hl hret
  have hl : lv_has ls 9 [(0, .ref yh), (1, .int v1), (2, .int v2)] := hl
  refine lv_aload_n hx hb dX10_who_0 rfl (lv_at hl 0 rfl) ?_
  refine lv_iload_n hx hb dX10_who_1 rfl (lv_at hl 1 rfl) ?_
  refine cVi (wr := []) (rest := []) (k_isBridge yh yq1 yq2 yq3 yq4 yq5 yq6 yq7 yq8 yq9 yq10 yq11 yq12 yq13 yq14 yq15 yq16 yq17 yq18 yq19 v1) okV_X10_isBridge wd_343 hx hb hml hown hts hK hP hD hS hA hN hl.1 [0] [] rfl rfl rfl rfl (by decide) rfl rfl rfl (Nat.le_of_ble_eq_true rfl) (Nat.le_of_ble_eq_true rfl) (Nat.le_of_ble_eq_true rfl) (Nat.le_of_ble_eq_true rfl) (Nat.le_of_ble_eq_true rfl) dX10_who_2 (fun r_2 u_1 H locs hw_u_1 hP hD hS => ?_)
  obtain rfl := hw_u_1
  have hP : va_P D classes [(yh, .inr (10, [.ref yq1, .ref yq2, .int 0, .int 0, .int 1, .int 0, .int 0, .int 0, .ref yq3, .ref yq4, .ref yq5, .ref yq6, .ref yq7, .ref yq8, .int 0, .int 0, .int 0, .int 0, .int 0, .int (-1), .int 0, .int 0, .int 0, .int 0, .int 0, .int 0, .int 0, .ref yq9, .ref yq10, .ref yq11, .ref yq12, .ref yq13, .int 0, .int 0, .int 0, .int 0, .ref yq14, .ref yq15, .ref yq16, .ref yq17, .int 0, .int 0, .int 0, .ref yq18, .ref yq19]))] H := hP
  have hD : va_D A [(yh, .inr (10, [.ref yq1, .ref yq2, .int 0, .int 0, .int 1, .int 0, .int 0, .int 0, .ref yq3, .ref yq4, .ref yq5, .ref yq6, .ref yq7, .ref yq8, .int 0, .int 0, .int 0, .int 0, .int 0, .int (-1), .int 0, .int 0, .int 0, .int 0, .int 0, .int 0, .int 0, .ref yq9, .ref yq10, .ref yq11, .ref yq12, .ref yq13, .int 0, .int 0, .int 0, .int 0, .ref yq14, .ref yq15, .ref yq16, .ref yq17, .int 0, .int 0, .int 0, .ref yq18, .ref yq19]))] := hD
  refine lv_if_eq (tgt := 24) hx hb dX10_who_5 (by decide) (fun c_3 => ?_) (fun c_3 => absurd (by decide +kernel) c_3)
  refine lv_ldc (v := (-1000000001)) hx hb hown (hts _ wd_347) dX10_who_24 ?_
  exact hret (-1000000001) () _ _ _ _ dX10_who_26 rfl rfl (cutP (isC := []) hP rfl) (cutD (isC := []) hD rfl rfl) hS
def rm_k_m_toldHer : Room := { frames := 2, cells := 0, slots := 0, locals := 46 }
set_option maxHeartbeats 4000000 in
set_option maxRecDepth 100000 in
theorem k_m_toldHer {l : Launch} {D : va_G} {cI cZ : ClassId} {sz : Nat} (yh yq1 yq2 yq3 yq4 yq5 yq6 yq7 yq8 yq9 yq10 yq11 yq12 yq13 yq14 yq15 yq16 yq17 yq18 yq19 : Nat) (v1 v2 v3 : Int32) : KI l yX10_toldHer cX10_toldHer 9 (some .int) rm_k_m_toldHer D cI cZ [.ref yh, .int v1, .int v2, .int v3] sz [(yh, .inr (10, [.ref yq1, .ref yq2, .int 0, .int 0, .int 1, .int 0, .int 0, .int 0, .ref yq3, .ref yq4, .ref yq5, .ref yq6, .ref yq7, .ref yq8, .int 0, .int 0, .int 0, .int 0, .int 0, .int (-1), .int 0, .int 0, .int 0, .int 0, .int 0, .int 0, .int 0, .ref yq9, .ref yq10, .ref yq11, .ref yq12, .ref yq13, .int 0, .int 0, .int 0, .int 0, .ref yq14, .ref yq15, .ref yq16, .ref yq17, .int 0, .int 0, .int 0, .ref yq18, .ref yq19]))] (fun (r : Int32) (_ : Unit) => r = (-1000000001)) (fun (_ : Unit) => []) := by
  refine KI.go rfl (Nat.le_of_ble_eq_true rfl) ?_
  intro p e s m args below meth c ls A Q hx hb hml hts hown hin hP hK hD hS hA hN hl hret
  have hl : lv_has ls 9 [(0, .ref yh), (1, .int v1), (2, .int v2), (3, .int v3)] := hl
  refine lv_aload_n hx hb dX10_toldHer_0 rfl (lv_at hl 0 rfl) ?_
  refine lv_iload_n hx hb dX10_toldHer_1 rfl (lv_at hl 1 rfl) ?_
  refine cVi (wr := []) (rest := []) (k_isBridge yh yq1 yq2 yq3 yq4 yq5 yq6 yq7 yq8 yq9 yq10 yq11 yq12 yq13 yq14 yq15 yq16 yq17 yq18 yq19 v1) okV_X10_isBridge wd_343 hx hb hml hown hts hK hP hD hS hA hN hl.1 [0] [] rfl rfl rfl rfl (by decide) rfl rfl rfl (Nat.le_of_ble_eq_true rfl) (Nat.le_of_ble_eq_true rfl) (Nat.le_of_ble_eq_true rfl) (Nat.le_of_ble_eq_true rfl) (Nat.le_of_ble_eq_true rfl) dX10_toldHer_2 (fun r_2 u_1 H locs hw_u_1 hP hD hS => ?_)
  obtain rfl := hw_u_1
  have hP : va_P D classes [(yh, .inr (10, [.ref yq1, .ref yq2, .int 0, .int 0, .int 1, .int 0, .int 0, .int 0, .ref yq3, .ref yq4, .ref yq5, .ref yq6, .ref yq7, .ref yq8, .int 0, .int 0, .int 0, .int 0, .int 0, .int (-1), .int 0, .int 0, .int 0, .int 0, .int 0, .int 0, .int 0, .ref yq9, .ref yq10, .ref yq11, .ref yq12, .ref yq13, .int 0, .int 0, .int 0, .int 0, .ref yq14, .ref yq15, .ref yq16, .ref yq17, .int 0, .int 0, .int 0, .ref yq18, .ref yq19]))] H := hP
  have hD : va_D A [(yh, .inr (10, [.ref yq1, .ref yq2, .int 0, .int 0, .int 1, .int 0, .int 0, .int 0, .ref yq3, .ref yq4, .ref yq5, .ref yq6, .ref yq7, .ref yq8, .int 0, .int 0, .int 0, .int 0, .int 0, .int (-1), .int 0, .int 0, .int 0, .int 0, .int 0, .int 0, .int 0, .ref yq9, .ref yq10, .ref yq11, .ref yq12, .ref yq13, .int 0, .int 0, .int 0, .int 0, .ref yq14, .ref yq15, .ref yq16, .ref yq17, .int 0, .int 0, .int 0, .ref yq18, .ref yq19]))] := hD
  refine lv_if_ne (tgt := 11) hx hb dX10_toldHer_5 (by decide) (fun c_3 => absurd (by decide +kernel) c_3) (fun c_3 => ?_)
  refine lv_ldc (v := (-1000000001)) hx hb hown (hts _ wd_347) dX10_toldHer_8 ?_
  exact hret (-1000000001) () _ _ _ _ dX10_toldHer_10 rfl rfl (cutP (isC := []) hP rfl) (cutD (isC := []) hD rfl rfl) hS
def rm_k_m_lasts : Room := { frames := 2, cells := 0, slots := 0, locals := 46 }
set_option maxHeartbeats 4000000 in
set_option maxRecDepth 100000 in
theorem k_m_lasts {l : Launch} {D : va_G} {cI cZ : ClassId} {sz : Nat} (yh yq1 yq2 yq3 yq4 yq5 yq6 yq7 yq8 yq9 yq10 yq11 yq12 yq13 yq14 yq15 yq16 yq17 yq18 yq19 : Nat) (v1 v2 : Int32) : KI l yX10_lasts cX10_lasts 3 (some .int) rm_k_m_lasts D cI cZ [.ref yh, .int v1, .int v2] sz [(yh, .inr (10, [.ref yq1, .ref yq2, .int 0, .int 0, .int 1, .int 0, .int 0, .int 0, .ref yq3, .ref yq4, .ref yq5, .ref yq6, .ref yq7, .ref yq8, .int 0, .int 0, .int 0, .int 0, .int 0, .int (-1), .int 0, .int 0, .int 0, .int 0, .int 0, .int 0, .int 0, .ref yq9, .ref yq10, .ref yq11, .ref yq12, .ref yq13, .int 0, .int 0, .int 0, .int 0, .ref yq14, .ref yq15, .ref yq16, .ref yq17, .int 0, .int 0, .int 0, .ref yq18, .ref yq19]))] (fun (r : Int32) (_ : Unit) => r = (-1000000001)) (fun (_ : Unit) => []) := by
  refine KI.go rfl (Nat.le_of_ble_eq_true rfl) ?_
  intro p e s m args below meth c ls A Q hx hb hml hts hown hin hP hK hD hS hA hN hl hret
  have hl : lv_has ls 3 [(0, .ref yh), (1, .int v1), (2, .int v2)] := hl
  refine lv_aload_n hx hb dX10_lasts_0 rfl (lv_at hl 0 rfl) ?_
  refine lv_iload_n hx hb dX10_lasts_1 rfl (lv_at hl 1 rfl) ?_
  refine cVi (wr := []) (rest := []) (k_isCouple yh yq1 yq2 yq3 yq4 yq5 yq6 yq7 yq8 yq9 yq10 yq11 yq12 yq13 yq14 yq15 yq16 yq17 yq18 yq19 v1) okV_X10_isCouple wd_348 hx hb hml hown hts hK hP hD hS hA hN hl.1 [0] [] rfl rfl rfl rfl (by decide) rfl rfl rfl (Nat.le_of_ble_eq_true rfl) (Nat.le_of_ble_eq_true rfl) (Nat.le_of_ble_eq_true rfl) (Nat.le_of_ble_eq_true rfl) (Nat.le_of_ble_eq_true rfl) dX10_lasts_2 (fun r_2 u_1 H locs hw_u_1 hP hD hS => ?_)
  obtain rfl := hw_u_1
  have hP : va_P D classes [(yh, .inr (10, [.ref yq1, .ref yq2, .int 0, .int 0, .int 1, .int 0, .int 0, .int 0, .ref yq3, .ref yq4, .ref yq5, .ref yq6, .ref yq7, .ref yq8, .int 0, .int 0, .int 0, .int 0, .int 0, .int (-1), .int 0, .int 0, .int 0, .int 0, .int 0, .int 0, .int 0, .ref yq9, .ref yq10, .ref yq11, .ref yq12, .ref yq13, .int 0, .int 0, .int 0, .int 0, .ref yq14, .ref yq15, .ref yq16, .ref yq17, .int 0, .int 0, .int 0, .ref yq18, .ref yq19]))] H := hP
  have hD : va_D A [(yh, .inr (10, [.ref yq1, .ref yq2, .int 0, .int 0, .int 1, .int 0, .int 0, .int 0, .ref yq3, .ref yq4, .ref yq5, .ref yq6, .ref yq7, .ref yq8, .int 0, .int 0, .int 0, .int 0, .int 0, .int (-1), .int 0, .int 0, .int 0, .int 0, .int 0, .int 0, .int 0, .ref yq9, .ref yq10, .ref yq11, .ref yq12, .ref yq13, .int 0, .int 0, .int 0, .int 0, .ref yq14, .ref yq15, .ref yq16, .ref yq17, .int 0, .int 0, .int 0, .ref yq18, .ref yq19]))] := hD
  refine lv_if_eq (tgt := 16) hx hb dX10_lasts_5 (by decide) (fun c_3 => ?_) (fun c_3 => absurd (by decide +kernel) c_3)
  refine lv_ldc (v := (-1000000001)) hx hb hown (hts _ wd_347) dX10_lasts_16 ?_
  exact hret (-1000000001) () _ _ _ _ dX10_lasts_18 rfl rfl (cutP (isC := []) hP rfl) (cutD (isC := []) hD rfl rfl) hS
def rm_k_m_hire : Room := { frames := 2, cells := 0, slots := 0, locals := 46 }
set_option maxHeartbeats 4000000 in
set_option maxRecDepth 100000 in
theorem k_m_hire {l : Launch} {D : va_G} {cI cZ : ClassId} {sz : Nat} (yh yq1 yq2 yq3 yq4 yq5 yq6 yq7 yq8 yq9 yq10 yq11 yq12 yq13 yq14 yq15 yq16 yq17 yq18 yq19 : Nat) (v1 v2 : Int32) : KI l yX10_hire cX10_hire 8 (some .int) rm_k_m_hire D cI cZ [.ref yh, .int v1, .int v2] sz [(yh, .inr (10, [.ref yq1, .ref yq2, .int 0, .int 0, .int 1, .int 0, .int 0, .int 0, .ref yq3, .ref yq4, .ref yq5, .ref yq6, .ref yq7, .ref yq8, .int 0, .int 0, .int 0, .int 0, .int 0, .int (-1), .int 0, .int 0, .int 0, .int 0, .int 0, .int 0, .int 0, .ref yq9, .ref yq10, .ref yq11, .ref yq12, .ref yq13, .int 0, .int 0, .int 0, .int 0, .ref yq14, .ref yq15, .ref yq16, .ref yq17, .int 0, .int 0, .int 0, .ref yq18, .ref yq19]))] (fun (r : Int32) (_ : Unit) => r = (-1000000001)) (fun (_ : Unit) => []) := by
  refine KI.go rfl (Nat.le_of_ble_eq_true rfl) ?_
  intro p e s m args below meth c ls A Q hx hb hml hts hown hin hP hK hD hS hA hN hl hret
  have hl : lv_has ls 8 [(0, .ref yh), (1, .int v1), (2, .int v2)] := hl
  refine lv_aload_n hx hb dX10_hire_0 rfl (lv_at hl 0 rfl) ?_
  refine lv_iload_n hx hb dX10_hire_1 rfl (lv_at hl 1 rfl) ?_
  refine cVi (wr := []) (rest := []) (k_isBridge yh yq1 yq2 yq3 yq4 yq5 yq6 yq7 yq8 yq9 yq10 yq11 yq12 yq13 yq14 yq15 yq16 yq17 yq18 yq19 v1) okV_X10_isBridge wd_343 hx hb hml hown hts hK hP hD hS hA hN hl.1 [0] [] rfl rfl rfl rfl (by decide) rfl rfl rfl (Nat.le_of_ble_eq_true rfl) (Nat.le_of_ble_eq_true rfl) (Nat.le_of_ble_eq_true rfl) (Nat.le_of_ble_eq_true rfl) (Nat.le_of_ble_eq_true rfl) dX10_hire_2 (fun r_2 u_1 H locs hw_u_1 hP hD hS => ?_)
  obtain rfl := hw_u_1
  have hP : va_P D classes [(yh, .inr (10, [.ref yq1, .ref yq2, .int 0, .int 0, .int 1, .int 0, .int 0, .int 0, .ref yq3, .ref yq4, .ref yq5, .ref yq6, .ref yq7, .ref yq8, .int 0, .int 0, .int 0, .int 0, .int 0, .int (-1), .int 0, .int 0, .int 0, .int 0, .int 0, .int 0, .int 0, .ref yq9, .ref yq10, .ref yq11, .ref yq12, .ref yq13, .int 0, .int 0, .int 0, .int 0, .ref yq14, .ref yq15, .ref yq16, .ref yq17, .int 0, .int 0, .int 0, .ref yq18, .ref yq19]))] H := hP
  have hD : va_D A [(yh, .inr (10, [.ref yq1, .ref yq2, .int 0, .int 0, .int 1, .int 0, .int 0, .int 0, .ref yq3, .ref yq4, .ref yq5, .ref yq6, .ref yq7, .ref yq8, .int 0, .int 0, .int 0, .int 0, .int 0, .int (-1), .int 0, .int 0, .int 0, .int 0, .int 0, .int 0, .int 0, .ref yq9, .ref yq10, .ref yq11, .ref yq12, .ref yq13, .int 0, .int 0, .int 0, .int 0, .ref yq14, .ref yq15, .ref yq16, .ref yq17, .int 0, .int 0, .int 0, .ref yq18, .ref yq19]))] := hD
  refine lv_if_ne (tgt := 11) hx hb dX10_hire_5 (by decide) (fun c_3 => absurd (by decide +kernel) c_3) (fun c_3 => ?_)
  refine lv_ldc (v := (-1000000001)) hx hb hown (hts _ wd_347) dX10_hire_8 ?_
  exact hret (-1000000001) () _ _ _ _ dX10_hire_10 rfl rfl (cutP (isC := []) hP rfl) (cutD (isC := []) hD rfl rfl) hS
def rm_k_m_midstream : Room := { frames := 2, cells := 0, slots := 0, locals := 46 }
set_option maxHeartbeats 4000000 in
set_option maxRecDepth 100000 in
theorem k_m_midstream {l : Launch} {D : va_G} {cI cZ : ClassId} {sz : Nat} (yh yq1 yq2 yq3 yq4 yq5 yq6 yq7 yq8 yq9 yq10 yq11 yq12 yq13 yq14 yq15 yq16 yq17 yq18 yq19 : Nat) (v1 v2 v3 : Int32) : KI l yX10_midstream cX10_midstream 8 (some .int) rm_k_m_midstream D cI cZ [.ref yh, .int v1, .int v2, .int v3] sz [(yh, .inr (10, [.ref yq1, .ref yq2, .int 0, .int 0, .int 1, .int 0, .int 0, .int 0, .ref yq3, .ref yq4, .ref yq5, .ref yq6, .ref yq7, .ref yq8, .int 0, .int 0, .int 0, .int 0, .int 0, .int (-1), .int 0, .int 0, .int 0, .int 0, .int 0, .int 0, .int 0, .ref yq9, .ref yq10, .ref yq11, .ref yq12, .ref yq13, .int 0, .int 0, .int 0, .int 0, .ref yq14, .ref yq15, .ref yq16, .ref yq17, .int 0, .int 0, .int 0, .ref yq18, .ref yq19]))] (fun (r : Int32) (_ : Unit) => r = (-1000000001)) (fun (_ : Unit) => []) := by
  refine KI.go rfl (Nat.le_of_ble_eq_true rfl) ?_
  intro p e s m args below meth c ls A Q hx hb hml hts hown hin hP hK hD hS hA hN hl hret
  have hl : lv_has ls 8 [(0, .ref yh), (1, .int v1), (2, .int v2), (3, .int v3)] := hl
  refine lv_aload_n hx hb dX10_midstream_0 rfl (lv_at hl 0 rfl) ?_
  refine lv_iload_n hx hb dX10_midstream_1 rfl (lv_at hl 1 rfl) ?_
  refine cVi (wr := []) (rest := []) (k_isCouple yh yq1 yq2 yq3 yq4 yq5 yq6 yq7 yq8 yq9 yq10 yq11 yq12 yq13 yq14 yq15 yq16 yq17 yq18 yq19 v1) okV_X10_isCouple wd_348 hx hb hml hown hts hK hP hD hS hA hN hl.1 [0] [] rfl rfl rfl rfl (by decide) rfl rfl rfl (Nat.le_of_ble_eq_true rfl) (Nat.le_of_ble_eq_true rfl) (Nat.le_of_ble_eq_true rfl) (Nat.le_of_ble_eq_true rfl) (Nat.le_of_ble_eq_true rfl) dX10_midstream_2 (fun r_2 u_1 H locs hw_u_1 hP hD hS => ?_)
  obtain rfl := hw_u_1
  have hP : va_P D classes [(yh, .inr (10, [.ref yq1, .ref yq2, .int 0, .int 0, .int 1, .int 0, .int 0, .int 0, .ref yq3, .ref yq4, .ref yq5, .ref yq6, .ref yq7, .ref yq8, .int 0, .int 0, .int 0, .int 0, .int 0, .int (-1), .int 0, .int 0, .int 0, .int 0, .int 0, .int 0, .int 0, .ref yq9, .ref yq10, .ref yq11, .ref yq12, .ref yq13, .int 0, .int 0, .int 0, .int 0, .ref yq14, .ref yq15, .ref yq16, .ref yq17, .int 0, .int 0, .int 0, .ref yq18, .ref yq19]))] H := hP
  have hD : va_D A [(yh, .inr (10, [.ref yq1, .ref yq2, .int 0, .int 0, .int 1, .int 0, .int 0, .int 0, .ref yq3, .ref yq4, .ref yq5, .ref yq6, .ref yq7, .ref yq8, .int 0, .int 0, .int 0, .int 0, .int 0, .int (-1), .int 0, .int 0, .int 0, .int 0, .int 0, .int 0, .int 0, .ref yq9, .ref yq10, .ref yq11, .ref yq12, .ref yq13, .int 0, .int 0, .int 0, .int 0, .ref yq14, .ref yq15, .ref yq16, .ref yq17, .int 0, .int 0, .int 0, .ref yq18, .ref yq19]))] := hD
  refine lv_if_ne (tgt := 11) hx hb dX10_midstream_5 (by decide) (fun c_3 => absurd (by decide +kernel) c_3) (fun c_3 => ?_)
  refine lv_ldc (v := (-1000000001)) hx hb hown (hts _ wd_347) dX10_midstream_8 ?_
  exact hret (-1000000001) () _ _ _ _ dX10_midstream_10 rfl rfl (cutP (isC := []) hP rfl) (cutD (isC := []) hD rfl rfl) hS
def rm_k_m_write : Room := { frames := 2, cells := 0, slots := 0, locals := 46 }
set_option maxHeartbeats 4000000 in
set_option maxRecDepth 100000 in
theorem k_m_write {l : Launch} {D : va_G} {cI cZ : ClassId} {sz : Nat} (yh yq1 yq2 yq3 yq4 yq5 yq6 yq7 yq8 yq9 yq10 yq11 yq12 yq13 yq14 yq15 yq16 yq17 yq18 yq19 : Nat) (v1 v2 : Int32) : KI l yX10_write cX10_write 3 (some .int) rm_k_m_write D cI cZ [.ref yh, .int v1, .int v2] sz [(yh, .inr (10, [.ref yq1, .ref yq2, .int 0, .int 0, .int 1, .int 0, .int 0, .int 0, .ref yq3, .ref yq4, .ref yq5, .ref yq6, .ref yq7, .ref yq8, .int 0, .int 0, .int 0, .int 0, .int 0, .int (-1), .int 0, .int 0, .int 0, .int 0, .int 0, .int 0, .int 0, .ref yq9, .ref yq10, .ref yq11, .ref yq12, .ref yq13, .int 0, .int 0, .int 0, .int 0, .ref yq14, .ref yq15, .ref yq16, .ref yq17, .int 0, .int 0, .int 0, .ref yq18, .ref yq19]))] (fun (r : Int32) (_ : Unit) => r = (-1000000001)) (fun (_ : Unit) => []) := by
  refine KI.go rfl (Nat.le_of_ble_eq_true rfl) ?_
  intro p e s m args below meth c ls A Q hx hb hml hts hown hin hP hK hD hS hA hN hl hret
  have hl : lv_has ls 3 [(0, .ref yh), (1, .int v1), (2, .int v2)] := hl
  refine lv_aload_n hx hb dX10_write_0 rfl (lv_at hl 0 rfl) ?_
  refine lv_iload_n hx hb dX10_write_1 rfl (lv_at hl 1 rfl) ?_
  refine cVi (wr := []) (rest := []) (k_isCouple yh yq1 yq2 yq3 yq4 yq5 yq6 yq7 yq8 yq9 yq10 yq11 yq12 yq13 yq14 yq15 yq16 yq17 yq18 yq19 v1) okV_X10_isCouple wd_348 hx hb hml hown hts hK hP hD hS hA hN hl.1 [0] [] rfl rfl rfl rfl (by decide) rfl rfl rfl (Nat.le_of_ble_eq_true rfl) (Nat.le_of_ble_eq_true rfl) (Nat.le_of_ble_eq_true rfl) (Nat.le_of_ble_eq_true rfl) (Nat.le_of_ble_eq_true rfl) dX10_write_2 (fun r_2 u_1 H locs hw_u_1 hP hD hS => ?_)
  obtain rfl := hw_u_1
  have hP : va_P D classes [(yh, .inr (10, [.ref yq1, .ref yq2, .int 0, .int 0, .int 1, .int 0, .int 0, .int 0, .ref yq3, .ref yq4, .ref yq5, .ref yq6, .ref yq7, .ref yq8, .int 0, .int 0, .int 0, .int 0, .int 0, .int (-1), .int 0, .int 0, .int 0, .int 0, .int 0, .int 0, .int 0, .ref yq9, .ref yq10, .ref yq11, .ref yq12, .ref yq13, .int 0, .int 0, .int 0, .int 0, .ref yq14, .ref yq15, .ref yq16, .ref yq17, .int 0, .int 0, .int 0, .ref yq18, .ref yq19]))] H := hP
  have hD : va_D A [(yh, .inr (10, [.ref yq1, .ref yq2, .int 0, .int 0, .int 1, .int 0, .int 0, .int 0, .ref yq3, .ref yq4, .ref yq5, .ref yq6, .ref yq7, .ref yq8, .int 0, .int 0, .int 0, .int 0, .int 0, .int (-1), .int 0, .int 0, .int 0, .int 0, .int 0, .int 0, .int 0, .ref yq9, .ref yq10, .ref yq11, .ref yq12, .ref yq13, .int 0, .int 0, .int 0, .int 0, .ref yq14, .ref yq15, .ref yq16, .ref yq17, .int 0, .int 0, .int 0, .ref yq18, .ref yq19]))] := hD
  refine lv_if_ne (tgt := 11) hx hb dX10_write_5 (by decide) (fun c_3 => absurd (by decide +kernel) c_3) (fun c_3 => ?_)
  refine lv_ldc (v := (-1000000001)) hx hb hown (hts _ wd_347) dX10_write_8 ?_
  exact hret (-1000000001) () _ _ _ _ dX10_write_10 rfl rfl (cutP (isC := []) hP rfl) (cutD (isC := []) hD rfl rfl) hS
def rm_k_m_drift : Room := { frames := 1, cells := 0, slots := 0, locals := 25 }
set_option maxHeartbeats 4000000 in
set_option maxRecDepth 100000 in
theorem k_m_drift {l : Launch} {D : va_G} {cI cZ : ClassId} {sz : Nat} (yh yq1 yq2 yq3 yq4 yq5 yq6 yq7 yq8 yq9 yq10 yq11 yq12 yq13 yq14 yq15 yq16 yq17 yq18 yq19 : Nat) (v : Int32) : KI l yX10_drift cX10_drift 4 (some .int) rm_k_m_drift D cI cZ [.ref yh, .int v] sz [(yh, .inr (10, [.ref yq1, .ref yq2, .int 0, .int 0, .int 1, .int 0, .int 0, .int 0, .ref yq3, .ref yq4, .ref yq5, .ref yq6, .ref yq7, .ref yq8, .int 0, .int 0, .int 0, .int 0, .int 0, .int (-1), .int 0, .int 0, .int 0, .int 0, .int 0, .int 0, .int 0, .ref yq9, .ref yq10, .ref yq11, .ref yq12, .ref yq13, .int 0, .int 0, .int 0, .int 0, .ref yq14, .ref yq15, .ref yq16, .ref yq17, .int 0, .int 0, .int 0, .ref yq18, .ref yq19]))] (fun (r : Int32) (_ : Unit) => r = rg 1 99 v (-1000000002) (-1000000003)) (fun (_ : Unit) => []) := by
  refine KI.go rfl (Nat.le_of_ble_eq_true rfl) ?_
  intro p e s m args below meth c ls A Q hx hb hml hts hown hin hP hK hD hS hA hN hl hret
  have hl : lv_has ls 4 [(0, .ref yh), (1, .int v)] := hl
  refine lv_iload_n hx hb dX10_drift_0 rfl (lv_at hl 1 rfl) ?_
  refine lv_i2l (v := v.toInt64) hx hb dX10_drift_1 rfl ?_
  refine lv_lconst (v := 1) hx hb dX10_drift_2 (by decide) ?_
  refine lv_ldc2 (v := 99) hx hb hown (hts _ wd_356) dX10_drift_3 ?_
  refine cSi (wr := [(yh, .inr (10, [.ref yq1, .ref yq2, .int 0, .int 0, .int 1, .int 0, .int 0, .int 0, .ref yq3, .ref yq4, .ref yq5, .ref yq6, .ref yq7, .ref yq8, .int 0, .int 0, .int 0, .int 0, .int 0, .int (-1), .int 0, .int 0, .int 0, .int 0, .int 0, .int 0, .int 0, .ref yq9, .ref yq10, .ref yq11, .ref yq12, .ref yq13, .int 0, .int 0, .int 0, .int 0, .ref yq14, .ref yq15, .ref yq16, .ref yq17, .int 0, .int 0, .int 0, .ref yq18, .ref yq19]))]) (rest := []) (k_in v.toInt64 1 99) okS_X10_in wd_299 hx hb hml hown hts hK hP hD hS hA hN hl.1 [] [0] rfl rfl rfl rfl (by decide) rfl (Nat.le_of_ble_eq_true rfl) (Nat.le_of_ble_eq_true rfl) (Nat.le_of_ble_eq_true rfl) (Nat.le_of_ble_eq_true rfl) (Nat.le_of_ble_eq_true rfl) dX10_drift_6 (fun r_2 u_1 H locs hw_u_1 hP hD hS => ?_)
  obtain rfl := hw_u_1
  have hP : va_P D classes [(yh, .inr (10, [.ref yq1, .ref yq2, .int 0, .int 0, .int 1, .int 0, .int 0, .int 0, .ref yq3, .ref yq4, .ref yq5, .ref yq6, .ref yq7, .ref yq8, .int 0, .int 0, .int 0, .int 0, .int 0, .int (-1), .int 0, .int 0, .int 0, .int 0, .int 0, .int 0, .int 0, .ref yq9, .ref yq10, .ref yq11, .ref yq12, .ref yq13, .int 0, .int 0, .int 0, .int 0, .ref yq14, .ref yq15, .ref yq16, .ref yq17, .int 0, .int 0, .int 0, .ref yq18, .ref yq19]))] H := hP
  have hD : va_D A [(yh, .inr (10, [.ref yq1, .ref yq2, .int 0, .int 0, .int 1, .int 0, .int 0, .int 0, .ref yq3, .ref yq4, .ref yq5, .ref yq6, .ref yq7, .ref yq8, .int 0, .int 0, .int 0, .int 0, .int 0, .int (-1), .int 0, .int 0, .int 0, .int 0, .int 0, .int 0, .int 0, .ref yq9, .ref yq10, .ref yq11, .ref yq12, .ref yq13, .int 0, .int 0, .int 0, .int 0, .ref yq14, .ref yq15, .ref yq16, .ref yq17, .int 0, .int 0, .int 0, .ref yq18, .ref yq19]))] := hD
  refine lv_if_ne (tgt := 15) hx hb dX10_drift_9 (by decide) (fun c_3 => ?_) (fun c_3 => ?_)
  · refine lv_aload_n hx hb dX10_drift_15 rfl (lv_at hl 0 rfl) ?_
    refine va_get (D := D) (ci := 10) (v := .int 0) (C := RX10) (T := TX10) (N := 45) hx hb hts iX10 hown hK hP 0 rfl rfl 5 (by decide) (hts _ wd_270) (fun _ h9 => h9) rfl dX10_drift_16 ?_
    refine lv_if_ne (tgt := 25) hx hb dX10_drift_19 (by decide) (fun c_4 => absurd (by decide +kernel) c_4) (fun c_4 => ?_)
    refine lv_ldc (v := (-1000000003)) hx hb hown (hts _ wd_357) dX10_drift_22 ?_
    exact hret (-1000000003) () _ _ _ _ dX10_drift_24 rfl (rg_nz (by decide +kernel) (by decide +kernel) c_3) (cutP (isC := []) hP rfl) (cutD (isC := []) hD rfl rfl) hS
  · refine lv_ldc (v := (-1000000002)) hx hb hown (hts _ wd_317) dX10_drift_12 ?_
    exact hret (-1000000002) () _ _ _ _ dX10_drift_14 rfl (rg_z (by decide +kernel) (by decide +kernel) c_3) (cutP (isC := []) hP rfl) (cutD (isC := []) hD rfl rfl) hS
def rm_k_m_undo : Room := { frames := 0, cells := 0, slots := 0, locals := 0 }
set_option maxHeartbeats 4000000 in
set_option maxRecDepth 100000 in
theorem k_m_undo {l : Launch} {D : va_G} {cI cZ : ClassId} {sz : Nat} (yh yq1 yq2 yq3 yq4 yq5 yq6 yq7 yq8 yq9 yq10 yq11 yq12 yq13 yq14 yq15 yq16 yq17 yq18 yq19 : Nat) : KI l yX10_undo cX10_undo 2 (some .int) rm_k_m_undo D cI cZ [.ref yh] sz [(yh, .inr (10, [.ref yq1, .ref yq2, .int 0, .int 0, .int 1, .int 0, .int 0, .int 0, .ref yq3, .ref yq4, .ref yq5, .ref yq6, .ref yq7, .ref yq8, .int 0, .int 0, .int 0, .int 0, .int 0, .int (-1), .int 0, .int 0, .int 0, .int 0, .int 0, .int 0, .int 0, .ref yq9, .ref yq10, .ref yq11, .ref yq12, .ref yq13, .int 0, .int 0, .int 0, .int 0, .ref yq14, .ref yq15, .ref yq16, .ref yq17, .int 0, .int 0, .int 0, .ref yq18, .ref yq19]))] (fun (r : Int32) (_ : Unit) => r = (-1000000003)) (fun (_ : Unit) => []) := by
  refine KI.go rfl (Nat.le_of_ble_eq_true rfl) ?_
  intro p e s m args below meth c ls A Q hx hb hml hts hown hin hP hK hD hS hA hN hl hret
  have hl : lv_has ls 2 [(0, .ref yh)] := hl
  refine lv_aload_n hx hb dX10_undo_0 rfl (lv_at hl 0 rfl) ?_
  refine va_get (D := D) (ci := 10) (v := .int 0) (C := RX10) (T := TX10) (N := 45) hx hb hts iX10 hown hK hP 0 rfl rfl 2 (by decide) (hts _ wd_332) (fun _ h9 => h9) rfl dX10_undo_1 ?_
  refine lv_if_ne (tgt := 10) hx hb dX10_undo_4 (by decide) (fun c_1 => absurd (by decide +kernel) c_1) (fun c_1 => ?_)
  refine lv_ldc (v := (-1000000003)) hx hb hown (hts _ wd_357) dX10_undo_7 ?_
  exact hret (-1000000003) () _ _ _ _ dX10_undo_9 rfl rfl (cutP (isC := []) hP rfl) (cutD (isC := []) hD rfl rfl) hS
def rm_k_m_order : Room := { frames := 2, cells := 0, slots := 0, locals := 48 }
set_option maxHeartbeats 4000000 in
set_option maxRecDepth 100000 in
theorem k_m_order {l : Launch} {D : va_G} {cI cZ : ClassId} {sz : Nat} (yh yq1 yq2 yq3 yq4 yq5 yq6 yq7 yq8 yq9 yq10 yq11 yq12 yq13 yq14 yq15 yq16 yq17 yq18 yq19 : Nat) (v : Int32) : KI l yX10_order cX10_order 2 (some .int) rm_k_m_order D cI cZ [.ref yh, .int v] sz [(yh, .inr (10, [.ref yq1, .ref yq2, .int 0, .int 0, .int 1, .int 0, .int 0, .int 0, .ref yq3, .ref yq4, .ref yq5, .ref yq6, .ref yq7, .ref yq8, .int 0, .int 0, .int 0, .int 0, .int 0, .int (-1), .int 0, .int 0, .int 0, .int 0, .int 0, .int 0, .int 0, .ref yq9, .ref yq10, .ref yq11, .ref yq12, .ref yq13, .int 0, .int 0, .int 0, .int 0, .ref yq14, .ref yq15, .ref yq16, .ref yq17, .int 0, .int 0, .int 0, .ref yq18, .ref yq19])), (yq1, .inl (cI, 1302, .inl (upd (wC z0 7) (41 : Int32).toNatClampNeg (z0 (41 : Int32).toNatClampNeg)))), (yq16, .inl (cI, 8, .inl z0))] (fun (r : Int32) (_ : Unit) => r = orderS v) (fun (_ : Unit) => []) := by
  refine KI.go rfl (Nat.le_of_ble_eq_true rfl) ?_
  intro p e s m args below meth c ls A Q hx hb hml hts hown hin hP hK hD hS hA hN hl hret
  have hl : lv_has ls 2 [(0, .ref yh), (1, .int v)] := hl
  refine lv_aload_n hx hb dX10_order_0 rfl (lv_at hl 0 rfl) ?_
  refine cVv (wr := []) (rest := []) (k_findOrder yh yq1 yq2 yq3 yq4 yq5 yq6 yq7 yq8 yq9 yq10 yq11 yq12 yq13 yq14 yq15 yq16 yq17 yq18 yq19) okV_X10_findOrder wd_358 hx hb hml hown hts hK hP hD hS hA hN hl.1 [0, 1, 2] [] rfl rfl rfl rfl (by decide) rfl rfl rfl (Nat.le_of_ble_eq_true rfl) (Nat.le_of_ble_eq_true rfl) (Nat.le_of_ble_eq_true rfl) (Nat.le_of_ble_eq_true rfl) (Nat.le_of_ble_eq_true rfl) dX10_order_1 (fun u_1 H locs hw_u_1 hP hD hS => ?_)
  have hP : va_P D classes [(yh, .inr (10, [.ref yq1, .ref yq2, .int 0, .int 0, .int 1, .int 0, .int 0, .int 0, .ref yq3, .ref yq4, .ref yq5, .ref yq6, .ref yq7, .ref yq8, .int 0, .int 0, .int 0, .int 0, .int 0, .int (-1), .int 0, .int 0, .int 0, .int 0, .int 0, .int 0, .int 0, .ref yq9, .ref yq10, .ref yq11, .ref yq12, .ref yq13, .int 0, .int 0, .int 0, .int 0, .ref yq14, .ref yq15, .ref yq16, .ref yq17, .int 0, .int 0, .int 0, .ref yq18, .ref yq19]))] H := hP
  have hD : va_D A [(yh, .inr (10, [.ref yq1, .ref yq2, .int 0, .int 0, .int 1, .int 0, .int 0, .int 0, .ref yq3, .ref yq4, .ref yq5, .ref yq6, .ref yq7, .ref yq8, .int 0, .int 0, .int 0, .int 0, .int 0, .int (-1), .int 0, .int 0, .int 0, .int 0, .int 0, .int 0, .int 0, .ref yq9, .ref yq10, .ref yq11, .ref yq12, .ref yq13, .int 0, .int 0, .int 0, .int 0, .ref yq14, .ref yq15, .ref yq16, .ref yq17, .int 0, .int 0, .int 0, .ref yq18, .ref yq19]))] := hD
  refine lv_iload_n hx hb dX10_order_4 rfl (lv_at hl 1 rfl) ?_
  refine lv_iconst (v := (-1)) hx hb dX10_order_5 (by decide) ?_
  refine lv_icmp_ne (tgt := 16) hx hb dX10_order_6 (by decide) (fun c_3 => ?_) (fun c_3 => ?_)
  · refine lv_iload_n hx hb dX10_order_16 rfl (lv_at hl 1 rfl) ?_
    refine lv_i2l (v := v.toInt64) hx hb dX10_order_17 rfl ?_
    refine lv_lconst (v := 0) hx hb dX10_order_18 (by decide) ?_
    refine lv_aload_n hx hb dX10_order_19 rfl (lv_at hl 0 rfl) ?_
    refine va_get (D := D) (ci := 10) (v := .int 0) (C := RX10) (T := TX10) (N := 45) hx hb hts iX10 hown hK hP 0 rfl rfl 40 (by decide) (hts _ wd_314) (fun _ h9 => h9) rfl dX10_order_20 ?_
    refine lv_iconst (v := 1) hx hb dX10_order_23 (by decide) ?_
    refine lv_isub hx hb dX10_order_24 ?_
    refine lv_topi (fun z_4 ez_4 => ?_)
    obtain rfl : z_4 = (-1) := ez_4.trans (by decide +kernel)
    refine lv_i2l (v := (-1)) hx hb dX10_order_25 (by decide +kernel) ?_
    refine cSi (wr := [(yh, .inr (10, [.ref yq1, .ref yq2, .int 0, .int 0, .int 1, .int 0, .int 0, .int 0, .ref yq3, .ref yq4, .ref yq5, .ref yq6, .ref yq7, .ref yq8, .int 0, .int 0, .int 0, .int 0, .int 0, .int (-1), .int 0, .int 0, .int 0, .int 0, .int 0, .int 0, .int 0, .ref yq9, .ref yq10, .ref yq11, .ref yq12, .ref yq13, .int 0, .int 0, .int 0, .int 0, .ref yq14, .ref yq15, .ref yq16, .ref yq17, .int 0, .int 0, .int 0, .ref yq18, .ref yq19]))]) (rest := []) (k_in v.toInt64 0 (-1)) okS_X10_in wd_299 hx hb hml hown hts hK hP hD hS hA hN hl.1 [] [0] rfl rfl rfl rfl (by decide) rfl (Nat.le_of_ble_eq_true rfl) (Nat.le_of_ble_eq_true rfl) (Nat.le_of_ble_eq_true rfl) (Nat.le_of_ble_eq_true rfl) (Nat.le_of_ble_eq_true rfl) dX10_order_26 (fun r_6 u_5 H locs hw_u_5 hP hD hS => ?_)
    obtain rfl := hw_u_5
    have hP : va_P D classes [(yh, .inr (10, [.ref yq1, .ref yq2, .int 0, .int 0, .int 1, .int 0, .int 0, .int 0, .ref yq3, .ref yq4, .ref yq5, .ref yq6, .ref yq7, .ref yq8, .int 0, .int 0, .int 0, .int 0, .int 0, .int (-1), .int 0, .int 0, .int 0, .int 0, .int 0, .int 0, .int 0, .ref yq9, .ref yq10, .ref yq11, .ref yq12, .ref yq13, .int 0, .int 0, .int 0, .int 0, .ref yq14, .ref yq15, .ref yq16, .ref yq17, .int 0, .int 0, .int 0, .ref yq18, .ref yq19]))] H := hP
    have hD : va_D A [(yh, .inr (10, [.ref yq1, .ref yq2, .int 0, .int 0, .int 1, .int 0, .int 0, .int 0, .ref yq3, .ref yq4, .ref yq5, .ref yq6, .ref yq7, .ref yq8, .int 0, .int 0, .int 0, .int 0, .int 0, .int (-1), .int 0, .int 0, .int 0, .int 0, .int 0, .int 0, .int 0, .ref yq9, .ref yq10, .ref yq11, .ref yq12, .ref yq13, .int 0, .int 0, .int 0, .int 0, .ref yq14, .ref yq15, .ref yq16, .ref yq17, .int 0, .int 0, .int 0, .ref yq18, .ref yq19]))] := hD
    refine lv_topi (fun z_7 ez_7 => ?_)
    obtain rfl : z_7 = 0 := ez_7.trans (inF_m1 _)
    refine lv_if_eq (tgt := 41) hx hb dX10_order_29 (by decide) (fun c_8 => ?_) (fun c_8 => absurd (by decide +kernel) c_8)
    refine lv_iconst (v := (-1)) hx hb dX10_order_41 (by decide) ?_
    exact hret (-1) () _ _ _ _ dX10_order_42 rfl (if_neg c_3).symm (cutP (isC := []) hP rfl) (cutD (isC := []) hD rfl rfl) hS
  · refine lv_aload_n hx hb dX10_order_9 rfl (lv_at hl 0 rfl) ?_
    refine va_get (D := D) (ci := 10) (v := .int 0) (C := RX10) (T := TX10) (N := 45) hx hb hts iX10 hown hK hP 0 rfl rfl 41 (by decide) (hts _ wd_315) (fun _ h9 => h9) rfl dX10_order_10 ?_
    refine lv_goto (tgt := 42) hx hb dX10_order_13 (by decide) ?_
    exact hret 0 () _ _ _ _ dX10_order_42 rfl (if_pos c_3).symm (cutP (isC := []) hP rfl) (cutD (isC := []) hD rfl rfl) hS
def rm_k_m_wornOut : Room := { frames := 0, cells := 0, slots := 0, locals := 0 }
set_option maxHeartbeats 4000000 in
set_option maxRecDepth 100000 in
theorem k_m_wornOut {l : Launch} {D : va_G} {cI cZ : ClassId} {sz : Nat} (yh yq1 yq2 yq3 yq4 yq5 yq6 yq7 yq8 yq9 yq10 yq11 yq12 yq13 yq14 yq15 yq16 yq17 yq18 yq19 : Nat) : KI l yX10_wornOut cX10_wornOut 7 (some .int) rm_k_m_wornOut D cI cZ [.ref yh] sz [(yh, .inr (10, [.ref yq1, .ref yq2, .int 0, .int 0, .int 1, .int 0, .int 0, .int 0, .ref yq3, .ref yq4, .ref yq5, .ref yq6, .ref yq7, .ref yq8, .int 0, .int 0, .int 0, .int 0, .int 0, .int (-1), .int 0, .int 0, .int 0, .int 0, .int 0, .int 0, .int 0, .ref yq9, .ref yq10, .ref yq11, .ref yq12, .ref yq13, .int 0, .int 0, .int 0, .int 0, .ref yq14, .ref yq15, .ref yq16, .ref yq17, .int 0, .int 0, .int 0, .ref yq18, .ref yq19]))] (fun (r : Int32) (_ : Unit) => r = (-1)) (fun (_ : Unit) => []) := by
  refine KI.go rfl (Nat.le_of_ble_eq_true rfl) ?_
  intro p e s m args below meth c ls A Q hx hb hml hts hown hin hP hK hD hS hA hN hl hret
  have hl : lv_has ls 7 [(0, .ref yh)] := hl
  refine lv_iconst (v := (-1)) hx hb dX10_wornOut_0 (by decide) ?_
  refine lv_istore_n (lv' := [(1, .int (-1)), (0, .ref yh)]) hx hb dX10_wornOut_1 rfl hl (by decide) rfl (fun ls hl => ?_)
  refine lv_ldcw (v := 1000000000) hx hb hown (hts _ wd_362) dX10_wornOut_2 ?_
  refine lv_istore_n (lv' := [(2, .int 1000000000), (1, .int (-1)), (0, .ref yh)]) hx hb dX10_wornOut_5 rfl hl (by decide) rfl (fun ls hl => ?_)
  refine lv_iconst (v := 0) hx hb dX10_wornOut_6 (by decide) ?_
  refine lv_istore_n (lv' := [(3, .int 0), (2, .int 1000000000), (1, .int (-1)), (0, .ref yh)]) hx hb dX10_wornOut_7 rfl hl (by decide) rfl (fun ls hl => ?_)
  refine lv_iload_n hx hb dX10_wornOut_8 rfl (lv_at hl 0 rfl) ?_
  refine lv_aload_n hx hb dX10_wornOut_9 rfl (lv_at hl 3 rfl) ?_
  refine va_get (D := D) (ci := 10) (v := .int 0) (C := RX10) (T := TX10) (N := 45) hx hb hts iX10 hown hK hP 0 rfl rfl 5 (by decide) (hts _ wd_270) (fun _ h9 => h9) rfl dX10_wornOut_10 ?_
  refine lv_icmp_ge (tgt := 112) hx hb dX10_wornOut_13 (by decide) (fun c_1 => ?_) (fun c_1 => absurd (by decide +kernel) c_1)
  refine lv_iload_n hx hb dX10_wornOut_112 rfl (lv_at hl 2 rfl) ?_
  exact hret (-1) () _ _ _ _ dX10_wornOut_113 rfl rfl (cutP (isC := []) hP rfl) (cutD (isC := []) hD rfl rfl) hS
def rm_k_m_carried : Room := { frames := 2, cells := 0, slots := 0, locals := 46 }
set_option maxHeartbeats 4000000 in
set_option maxRecDepth 100000 in
theorem k_m_carried {l : Launch} {D : va_G} {cI cZ : ClassId} {sz : Nat} (yh yq1 yq2 yq3 yq4 yq5 yq6 yq7 yq8 yq9 yq10 yq11 yq12 yq13 yq14 yq15 yq16 yq17 yq18 yq19 : Nat) (v : Int32) : KI l yX10_carried cX10_carried 7 (some .int) rm_k_m_carried D cI cZ [.ref yh, .int v] sz [(yh, .inr (10, [.ref yq1, .ref yq2, .int 0, .int 0, .int 1, .int 0, .int 0, .int 0, .ref yq3, .ref yq4, .ref yq5, .ref yq6, .ref yq7, .ref yq8, .int 0, .int 0, .int 0, .int 0, .int 0, .int (-1), .int 0, .int 0, .int 0, .int 0, .int 0, .int 0, .int 0, .ref yq9, .ref yq10, .ref yq11, .ref yq12, .ref yq13, .int 0, .int 0, .int 0, .int 0, .ref yq14, .ref yq15, .ref yq16, .ref yq17, .int 0, .int 0, .int 0, .ref yq18, .ref yq19]))] (fun (r : Int32) (_ : Unit) => r = carriedS v) (fun (_ : Unit) => []) := by
  refine KI.go rfl (Nat.le_of_ble_eq_true rfl) ?_
  intro p e s m args below meth c ls A Q hx hb hml hts hown hin hP hK hD hS hA hN hl hret
  have hl : lv_has ls 7 [(0, .ref yh), (1, .int v)] := hl
  refine lv_iload_n hx hb dX10_carried_0 rfl (lv_at hl 1 rfl) ?_
  refine lv_iconst (v := (-1)) hx hb dX10_carried_1 (by decide) ?_
  refine lv_icmp_eq (tgt := 16) hx hb dX10_carried_2 (by decide) (fun c_1 => ?_) (fun c_1 => ?_)
  · refine lv_aload_n hx hb dX10_carried_16 rfl (lv_at hl 0 rfl) ?_
    refine lv_iconst (v := 0) hx hb dX10_carried_17 (by decide) ?_
    refine lv_iconst (v := 0) hx hb dX10_carried_18 (by decide) ?_
    refine cVi (wr := []) (rest := []) (k_whoIsAt yh yq1 yq2 yq3 yq4 yq5 yq6 yq7 yq8 yq9 yq10 yq11 yq12 yq13 yq14 yq15 yq16 yq17 yq18 yq19) okV_X10_whoIsAt wd_363 hx hb hml hown hts hK hP hD hS hA hN hl.1 [0] [] rfl rfl rfl rfl (by decide) rfl rfl rfl (Nat.le_of_ble_eq_true rfl) (Nat.le_of_ble_eq_true rfl) (Nat.le_of_ble_eq_true rfl) (Nat.le_of_ble_eq_true rfl) (Nat.le_of_ble_eq_true rfl) dX10_carried_19 (fun r_3 u_2 H locs hw_u_2 hP hD hS => ?_)
    obtain rfl := hw_u_2
    have hP : va_P D classes [(yh, .inr (10, [.ref yq1, .ref yq2, .int 0, .int 0, .int 1, .int 0, .int 0, .int 0, .ref yq3, .ref yq4, .ref yq5, .ref yq6, .ref yq7, .ref yq8, .int 0, .int 0, .int 0, .int 0, .int 0, .int (-1), .int 0, .int 0, .int 0, .int 0, .int 0, .int 0, .int 0, .ref yq9, .ref yq10, .ref yq11, .ref yq12, .ref yq13, .int 0, .int 0, .int 0, .int 0, .ref yq14, .ref yq15, .ref yq16, .ref yq17, .int 0, .int 0, .int 0, .ref yq18, .ref yq19]))] H := hP
    have hD : va_D A [(yh, .inr (10, [.ref yq1, .ref yq2, .int 0, .int 0, .int 1, .int 0, .int 0, .int 0, .ref yq3, .ref yq4, .ref yq5, .ref yq6, .ref yq7, .ref yq8, .int 0, .int 0, .int 0, .int 0, .int 0, .int (-1), .int 0, .int 0, .int 0, .int 0, .int 0, .int 0, .int 0, .ref yq9, .ref yq10, .ref yq11, .ref yq12, .ref yq13, .int 0, .int 0, .int 0, .int 0, .ref yq14, .ref yq15, .ref yq16, .ref yq17, .int 0, .int 0, .int 0, .ref yq18, .ref yq19]))] := hD
    refine lv_istore_n (lv' := [(2, .int (-1)), (0, .ref yh), (1, .int v)]) hx hb dX10_carried_22 rfl hl (by decide) rfl (fun ls hl => ?_)
    refine lv_iload_n hx hb dX10_carried_23 rfl (lv_at hl 0 rfl) ?_
    refine lv_iconst (v := (-1)) hx hb dX10_carried_24 (by decide) ?_
    refine lv_icmp_ne (tgt := 31) hx hb dX10_carried_25 (by decide) (fun c_4 => absurd (by decide +kernel) c_4) (fun c_4 => ?_)
    refine lv_ldc (v := (-1000000003)) hx hb hown (hts _ wd_357) dX10_carried_28 ?_
    exact hret (-1000000003) () _ _ _ _ dX10_carried_30 rfl (if_pos c_1).symm (cutP (isC := []) hP rfl) (cutD (isC := []) hD rfl rfl) hS
  · refine lv_aload_n hx hb dX10_carried_5 rfl (lv_at hl 0 rfl) ?_
    refine lv_iload_n hx hb dX10_carried_6 rfl (lv_at hl 1 rfl) ?_
    refine cVi (wr := []) (rest := []) (k_isBridge yh yq1 yq2 yq3 yq4 yq5 yq6 yq7 yq8 yq9 yq10 yq11 yq12 yq13 yq14 yq15 yq16 yq17 yq18 yq19 v) okV_X10_isBridge wd_343 hx hb hml hown hts hK hP hD hS hA hN hl.1 [0] [] rfl rfl rfl rfl (by decide) rfl rfl rfl (Nat.le_of_ble_eq_true rfl) (Nat.le_of_ble_eq_true rfl) (Nat.le_of_ble_eq_true rfl) (Nat.le_of_ble_eq_true rfl) (Nat.le_of_ble_eq_true rfl) dX10_carried_7 (fun r_6 u_5 H locs hw_u_5 hP hD hS => ?_)
    obtain rfl := hw_u_5
    have hP : va_P D classes [(yh, .inr (10, [.ref yq1, .ref yq2, .int 0, .int 0, .int 1, .int 0, .int 0, .int 0, .ref yq3, .ref yq4, .ref yq5, .ref yq6, .ref yq7, .ref yq8, .int 0, .int 0, .int 0, .int 0, .int 0, .int (-1), .int 0, .int 0, .int 0, .int 0, .int 0, .int 0, .int 0, .ref yq9, .ref yq10, .ref yq11, .ref yq12, .ref yq13, .int 0, .int 0, .int 0, .int 0, .ref yq14, .ref yq15, .ref yq16, .ref yq17, .int 0, .int 0, .int 0, .ref yq18, .ref yq19]))] H := hP
    have hD : va_D A [(yh, .inr (10, [.ref yq1, .ref yq2, .int 0, .int 0, .int 1, .int 0, .int 0, .int 0, .ref yq3, .ref yq4, .ref yq5, .ref yq6, .ref yq7, .ref yq8, .int 0, .int 0, .int 0, .int 0, .int 0, .int (-1), .int 0, .int 0, .int 0, .int 0, .int 0, .int 0, .int 0, .ref yq9, .ref yq10, .ref yq11, .ref yq12, .ref yq13, .int 0, .int 0, .int 0, .int 0, .ref yq14, .ref yq15, .ref yq16, .ref yq17, .int 0, .int 0, .int 0, .ref yq18, .ref yq19]))] := hD
    refine lv_if_ne (tgt := 16) hx hb dX10_carried_10 (by decide) (fun c_7 => absurd (by decide +kernel) c_7) (fun c_7 => ?_)
    refine lv_ldc (v := (-1000000001)) hx hb hown (hts _ wd_347) dX10_carried_13 ?_
    exact hret (-1000000001) () _ _ _ _ dX10_carried_15 rfl (if_neg c_1).symm (cutP (isC := []) hP rfl) (cutD (isC := []) hD rfl rfl) hS
def rm_k_m_fleet : Room := { frames := 1, cells := 0, slots := 0, locals := 25 }
set_option maxHeartbeats 4000000 in
set_option maxRecDepth 100000 in
theorem k_m_fleet {l : Launch} {D : va_G} {cI cZ : ClassId} {sz : Nat} (yh yq1 yq2 yq3 yq4 yq5 yq6 yq7 yq8 yq9 yq10 yq11 yq12 yq13 yq14 yq15 yq16 yq17 yq18 yq19 : Nat) (v : Int32) : KI l yX10_fleet cX10_fleet 6 (some .int) rm_k_m_fleet D cI cZ [.ref yh, .int v] sz [(yh, .inr (10, [.ref yq1, .ref yq2, .int 0, .int 0, .int 1, .int 0, .int 0, .int 0, .ref yq3, .ref yq4, .ref yq5, .ref yq6, .ref yq7, .ref yq8, .int 0, .int 0, .int 0, .int 0, .int 0, .int (-1), .int 0, .int 0, .int 0, .int 0, .int 0, .int 0, .int 0, .ref yq9, .ref yq10, .ref yq11, .ref yq12, .ref yq13, .int 0, .int 0, .int 0, .int 0, .ref yq14, .ref yq15, .ref yq16, .ref yq17, .int 0, .int 0, .int 0, .ref yq18, .ref yq19])), (yq1, .inl (cI, 1302, .inl (upd (wC z0 7) (41 : Int32).toNatClampNeg (z0 (41 : Int32).toNatClampNeg))))] (fun (r : Int32) (_ : Unit) => r = rg 1 9 v (-1000000002) 0) (fun (_ : Unit) => []) := by
  refine KI.go rfl (Nat.le_of_ble_eq_true rfl) ?_
  intro p e s m args below meth c ls A Q hx hb hml hts hown hin hP hK hD hS hA hN hl hret
  have hl : lv_has ls 6 [(0, .ref yh), (1, .int v)] := hl
  refine lv_iload_n hx hb dX10_fleet_0 rfl (lv_at hl 1 rfl) ?_
  refine lv_i2l (v := v.toInt64) hx hb dX10_fleet_1 rfl ?_
  refine lv_lconst (v := 1) hx hb dX10_fleet_2 (by decide) ?_
  refine lv_ldc2 (v := 9) hx hb hown (hts _ wd_367) dX10_fleet_3 ?_
  refine cSi (wr := [(yh, .inr (10, [.ref yq1, .ref yq2, .int 0, .int 0, .int 1, .int 0, .int 0, .int 0, .ref yq3, .ref yq4, .ref yq5, .ref yq6, .ref yq7, .ref yq8, .int 0, .int 0, .int 0, .int 0, .int 0, .int (-1), .int 0, .int 0, .int 0, .int 0, .int 0, .int 0, .int 0, .ref yq9, .ref yq10, .ref yq11, .ref yq12, .ref yq13, .int 0, .int 0, .int 0, .int 0, .ref yq14, .ref yq15, .ref yq16, .ref yq17, .int 0, .int 0, .int 0, .ref yq18, .ref yq19])), (yq1, .inl (cI, 1302, .inl (upd (wC z0 7) (41 : Int32).toNatClampNeg (z0 (41 : Int32).toNatClampNeg))))]) (rest := []) (k_in v.toInt64 1 9) okS_X10_in wd_299 hx hb hml hown hts hK hP hD hS hA hN hl.1 [] [0, 1] rfl rfl rfl rfl (by decide) rfl (Nat.le_of_ble_eq_true rfl) (Nat.le_of_ble_eq_true rfl) (Nat.le_of_ble_eq_true rfl) (Nat.le_of_ble_eq_true rfl) (Nat.le_of_ble_eq_true rfl) dX10_fleet_6 (fun r_2 u_1 H locs hw_u_1 hP hD hS => ?_)
  obtain rfl := hw_u_1
  have hP : va_P D classes [(yh, .inr (10, [.ref yq1, .ref yq2, .int 0, .int 0, .int 1, .int 0, .int 0, .int 0, .ref yq3, .ref yq4, .ref yq5, .ref yq6, .ref yq7, .ref yq8, .int 0, .int 0, .int 0, .int 0, .int 0, .int (-1), .int 0, .int 0, .int 0, .int 0, .int 0, .int 0, .int 0, .ref yq9, .ref yq10, .ref yq11, .ref yq12, .ref yq13, .int 0, .int 0, .int 0, .int 0, .ref yq14, .ref yq15, .ref yq16, .ref yq17, .int 0, .int 0, .int 0, .ref yq18, .ref yq19])), (yq1, .inl (cI, 1302, .inl (upd (wC z0 7) (41 : Int32).toNatClampNeg (z0 (41 : Int32).toNatClampNeg))))] H := hP
  have hD : va_D A [(yh, .inr (10, [.ref yq1, .ref yq2, .int 0, .int 0, .int 1, .int 0, .int 0, .int 0, .ref yq3, .ref yq4, .ref yq5, .ref yq6, .ref yq7, .ref yq8, .int 0, .int 0, .int 0, .int 0, .int 0, .int (-1), .int 0, .int 0, .int 0, .int 0, .int 0, .int 0, .int 0, .ref yq9, .ref yq10, .ref yq11, .ref yq12, .ref yq13, .int 0, .int 0, .int 0, .int 0, .ref yq14, .ref yq15, .ref yq16, .ref yq17, .int 0, .int 0, .int 0, .ref yq18, .ref yq19])), (yq1, .inl (cI, 1302, .inl (upd (wC z0 7) (41 : Int32).toNatClampNeg (z0 (41 : Int32).toNatClampNeg))))] := hD
  refine lv_if_ne (tgt := 15) hx hb dX10_fleet_9 (by decide) (fun c_3 => ?_) (fun c_3 => ?_)
  · refine lv_iconst (v := 0) hx hb dX10_fleet_15 (by decide) ?_
    refine lv_istore_n (lv' := [(2, .int 0), (0, .ref yh), (1, .int v)]) hx hb dX10_fleet_16 rfl hl (by decide) rfl (fun ls hl => ?_)
    refine lv_iconst (v := 0) hx hb dX10_fleet_17 (by decide) ?_
    refine lv_istore_n (lv' := [(3, .int 0), (2, .int 0), (0, .ref yh), (1, .int v)]) hx hb dX10_fleet_18 rfl hl (by decide) rfl (fun ls hl => ?_)
    refine lv_iload_n hx hb dX10_fleet_19 rfl (lv_at hl 0 rfl) ?_
    refine lv_aload_n hx hb dX10_fleet_20 rfl (lv_at hl 2 rfl) ?_
    refine va_get (D := D) (ci := 10) (v := .int 0) (C := RX10) (T := TX10) (N := 45) hx hb hts iX10 hown hK hP 0 rfl rfl 3 (by decide) (hts _ wd_298) (fun _ h9 => h9) rfl dX10_fleet_21 ?_
    refine lv_icmp_ge (tgt := 44) hx hb dX10_fleet_24 (by decide) (fun c_4 => ?_) (fun c_4 => absurd (by decide +kernel) c_4)
    refine lv_iconst (v := (-1)) hx hb dX10_fleet_44 (by decide) ?_
    refine lv_istore_n (lv' := [(3, .int (-1)), (2, .int 0), (0, .ref yh), (1, .int v)]) hx hb dX10_fleet_45 rfl hl (by decide) rfl (fun ls hl => ?_)
    refine lv_iconst (v := 0) hx hb dX10_fleet_46 (by decide) ?_
    refine lv_istore (lv' := [(4, .int 0), (3, .int (-1)), (2, .int 0), (0, .ref yh), (1, .int v)]) hx hb dX10_fleet_47 hl (by decide) rfl (fun ls hl => ?_)
    refine lv_iload hx hb dX10_fleet_49 (lv_at hl 0 rfl) ?_
    refine lv_iconst (v := 1) hx hb dX10_fleet_51 (by decide) ?_
    refine lv_aload_n hx hb dX10_fleet_52 rfl (lv_at hl 3 rfl) ?_
    refine va_get (D := D) (ci := 10) (v := .int 0) (C := RX10) (T := TX10) (N := 45) hx hb hts iX10 hown hK hP 0 rfl rfl 5 (by decide) (hts _ wd_270) (fun _ h9 => h9) rfl dX10_fleet_53 ?_
    refine lv_ishl hx hb dX10_fleet_56 ?_
    refine lv_topi (fun z_5 ez_5 => ?_)
    obtain rfl : z_5 = 1 := ez_5.trans (by decide +kernel)
    refine lv_icmp_ge (tgt := 125) hx hb dX10_fleet_57 (by decide) (fun c_6 => absurd c_6 (by decide +kernel)) (fun c_6 => ?_)
    refine lv_iload hx hb dX10_fleet_60 (lv_at hl 0 rfl) ?_
    refine lv_aload_n hx hb dX10_fleet_62 rfl (lv_at hl 3 rfl) ?_
    refine va_get (D := D) (ci := 10) (v := .ref yq1) (C := RX10) (T := TX10) (N := 45) hx hb hts iX10 hown hK hP 0 rfl rfl 0 (by decide) (hts _ wd_269) (fun _ h9 => h9) rfl dX10_fleet_63 ?_
    refine lv_bipush (v := 18) hx hb dX10_fleet_66 (by decide) ?_
    refine va_iald hx hb hK hP 1 0 rfl rfl (show ¬ ((18 : Int32) < 0 ∨ 1302 ≤ (18 : Int32).toNatClampNeg) by decide +kernel) dX10_fleet_68 ?_
    refine lv_topi (fun z_7 ez_7 => ?_)
    obtain rfl : z_7 = 0 := ez_7.trans (by decide +kernel)
    refine lv_iand hx hb dX10_fleet_69 ?_
    refine lv_topi (fun z_8 ez_8 => ?_)
    obtain rfl : z_8 = 0 := ez_8.trans (by decide +kernel)
    refine lv_if_ne (tgt := 87) hx hb dX10_fleet_70 (by decide) (fun c_9 => absurd (by decide +kernel) c_9) (fun c_9 => ?_)
    refine lv_aload_n hx hb dX10_fleet_73 rfl (lv_at hl 3 rfl) ?_
    refine lv_iload hx hb dX10_fleet_74 (lv_at hl 0 rfl) ?_
    refine cVi (wr := [(yq1, .inl (cI, 1302, .inl (upd (wC z0 7) (41 : Int32).toNatClampNeg (z0 (41 : Int32).toNatClampNeg))))]) (rest := []) (k_griefOf0 yh yq1 yq2 yq3 yq4 yq5 yq6 yq7 yq8 yq9 yq10 yq11 yq12 yq13 yq14 yq15 yq16 yq17 yq18 yq19) okV_X10_griefOf wd_339 hx hb hml hown hts hK hP hD hS hA hN hl.1 [0] [1] rfl rfl rfl rfl (by decide) rfl rfl rfl (Nat.le_of_ble_eq_true rfl) (Nat.le_of_ble_eq_true rfl) (Nat.le_of_ble_eq_true rfl) (Nat.le_of_ble_eq_true rfl) (Nat.le_of_ble_eq_true rfl) dX10_fleet_76 (fun r_11 u_10 H locs hw_u_10 hP hD hS => ?_)
    obtain rfl := hw_u_10
    have hP : va_P D classes [(yq1, .inl (cI, 1302, .inl (upd (wC z0 7) (41 : Int32).toNatClampNeg (z0 (41 : Int32).toNatClampNeg)))), (yh, .inr (10, [.ref yq1, .ref yq2, .int 0, .int 0, .int 1, .int 0, .int 0, .int 0, .ref yq3, .ref yq4, .ref yq5, .ref yq6, .ref yq7, .ref yq8, .int 0, .int 0, .int 0, .int 0, .int 0, .int (-1), .int 0, .int 0, .int 0, .int 0, .int 0, .int 0, .int 0, .ref yq9, .ref yq10, .ref yq11, .ref yq12, .ref yq13, .int 0, .int 0, .int 0, .int 0, .ref yq14, .ref yq15, .ref yq16, .ref yq17, .int 0, .int 0, .int 0, .ref yq18, .ref yq19]))] H := hP
    have hD : va_D A [(yq1, .inl (cI, 1302, .inl (upd (wC z0 7) (41 : Int32).toNatClampNeg (z0 (41 : Int32).toNatClampNeg)))), (yh, .inr (10, [.ref yq1, .ref yq2, .int 0, .int 0, .int 1, .int 0, .int 0, .int 0, .ref yq3, .ref yq4, .ref yq5, .ref yq6, .ref yq7, .ref yq8, .int 0, .int 0, .int 0, .int 0, .int 0, .int (-1), .int 0, .int 0, .int 0, .int 0, .int 0, .int 0, .int 0, .ref yq9, .ref yq10, .ref yq11, .ref yq12, .ref yq13, .int 0, .int 0, .int 0, .int 0, .ref yq14, .ref yq15, .ref yq16, .ref yq17, .int 0, .int 0, .int 0, .ref yq18, .ref yq19]))] := hD
    refine lv_iload_n hx hb dX10_fleet_79 rfl (lv_at hl 2 rfl) ?_
    refine lv_icmp_lt (tgt := 87) hx hb dX10_fleet_80 (by decide) (fun c_12 => absurd c_12 (by decide +kernel)) (fun c_12 => ?_)
    refine lv_iconst (v := 1) hx hb dX10_fleet_83 (by decide) ?_
    refine lv_goto (tgt := 88) hx hb dX10_fleet_84 (by decide) ?_
    refine lv_istore (lv' := [(5, .int 1), (4, .int 0), (3, .int (-1)), (2, .int 0), (0, .ref yh), (1, .int v)]) hx hb dX10_fleet_88 hl (by decide) rfl (fun ls hl => ?_)
    refine lv_iload hx hb dX10_fleet_90 (lv_at hl 0 rfl) ?_
    refine lv_if_eq (tgt := 117) hx hb dX10_fleet_92 (by decide) (fun c_13 => absurd c_13 (by decide +kernel)) (fun c_13 => ?_)
    refine lv_iload_n hx hb dX10_fleet_95 rfl (lv_at hl 2 rfl) ?_
    refine lv_iconst (v := (-1)) hx hb dX10_fleet_96 (by decide) ?_
    refine lv_icmp_eq (tgt := 112) hx hb dX10_fleet_97 (by decide) (fun c_14 => ?_) (fun c_14 => absurd (by decide +kernel) c_14)
    refine lv_iload hx hb dX10_fleet_112 (lv_at hl 1 rfl) ?_
    refine lv_goto (tgt := 118) hx hb dX10_fleet_114 (by decide) ?_
    refine lv_istore_n (lv' := [(3, .int 0), (5, .int 1), (4, .int 0), (2, .int 0), (0, .ref yh), (1, .int v)]) hx hb dX10_fleet_118 rfl hl (by decide) rfl (fun ls hl => ?_)
    refine lv_iinc (v := 1) (lv' := [(4, .int 1), (3, .int 0), (5, .int 1), (2, .int 0), (0, .ref yh), (1, .int v)]) hx hb dX10_fleet_119 hl (k := 2) rfl (by decide +kernel) (by decide) rfl (fun ls hl => ?_)
    refine lv_goto (tgt := 49) hx hb dX10_fleet_122 (by decide) ?_
    refine lv_iload hx hb dX10_fleet_49 (lv_at hl 0 rfl) ?_
    refine lv_iconst (v := 1) hx hb dX10_fleet_51 (by decide) ?_
    refine lv_aload_n hx hb dX10_fleet_52 rfl (lv_at hl 4 rfl) ?_
    refine va_get (D := D) (ci := 10) (v := .int 0) (C := RX10) (T := TX10) (N := 45) hx hb hts iX10 hown hK hP 1 rfl rfl 5 (by decide) (hts _ wd_270) (fun _ h9 => h9) rfl dX10_fleet_53 ?_
    refine lv_ishl hx hb dX10_fleet_56 ?_
    refine lv_topi (fun z_15 ez_15 => ?_)
    obtain rfl : z_15 = 1 := ez_15.trans (by decide +kernel)
    refine lv_icmp_ge (tgt := 125) hx hb dX10_fleet_57 (by decide) (fun c_16 => ?_) (fun c_16 => absurd (by decide +kernel) c_16)
    refine lv_iload_n hx hb dX10_fleet_125 rfl (lv_at hl 1 rfl) ?_
    exact hret 0 () _ _ _ _ dX10_fleet_126 rfl (rg_nz (by decide +kernel) (by decide +kernel) c_3) (cutP (isC := []) hP rfl) (cutD (isC := []) hD rfl rfl) hS
  · refine lv_ldc (v := (-1000000002)) hx hb hown (hts _ wd_317) dX10_fleet_12 ?_
    exact hret (-1000000002) () _ _ _ _ dX10_fleet_14 rfl (rg_z (by decide +kernel) (by decide +kernel) c_3) (cutP (isC := []) hP rfl) (cutD (isC := []) hD rfl rfl) hS
def rm_k_m_tear : Room := { frames := 0, cells := 0, slots := 0, locals := 0 }
set_option maxHeartbeats 4000000 in
set_option maxRecDepth 100000 in
theorem k_m_tear {l : Launch} {D : va_G} {cI cZ : ClassId} {sz : Nat} (yh yq1 yq2 yq3 yq4 yq5 yq6 yq7 yq8 yq9 yq10 yq11 yq12 yq13 yq14 yq15 yq16 yq17 yq18 yq19 : Nat) : KI l yX10_tear cX10_tear 2 (some .int) rm_k_m_tear D cI cZ [.ref yh] sz [(yh, .inr (10, [.ref yq1, .ref yq2, .int 0, .int 0, .int 1, .int 0, .int 0, .int 0, .ref yq3, .ref yq4, .ref yq5, .ref yq6, .ref yq7, .ref yq8, .int 0, .int 0, .int 0, .int 0, .int 0, .int (-1), .int 0, .int 0, .int 0, .int 0, .int 0, .int 0, .int 0, .ref yq9, .ref yq10, .ref yq11, .ref yq12, .ref yq13, .int 0, .int 0, .int 0, .int 0, .ref yq14, .ref yq15, .ref yq16, .ref yq17, .int 0, .int 0, .int 0, .ref yq18, .ref yq19]))] (fun (r : Int32) (_ : Unit) => r = 0) (fun (_ : Unit) => []) := by
  refine KI.go rfl (Nat.le_of_ble_eq_true rfl) ?_
  intro p e s m args below meth c ls A Q hx hb hml hts hown hin hP hK hD hS hA hN hl hret
  have hl : lv_has ls 2 [(0, .ref yh)] := hl
  refine lv_aload_n hx hb dX10_tear_0 rfl (lv_at hl 0 rfl) ?_
  refine va_get (D := D) (ci := 10) (v := .int 0) (C := RX10) (T := TX10) (N := 45) hx hb hts iX10 hown hK hP 0 rfl rfl 42 (by decide) (hts _ wd_331) (fun _ h9 => h9) rfl dX10_tear_1 ?_
  refine lv_istore_n (lv' := [(1, .int 0), (0, .ref yh)]) hx hb dX10_tear_4 rfl hl (by decide) rfl (fun ls hl => ?_)
  refine lv_aload_n hx hb dX10_tear_5 rfl (lv_at hl 1 rfl) ?_
  refine lv_iconst (v := 0) hx hb dX10_tear_6 (by decide) ?_
  refine va_put (D := D) (ci := 10) (v := .int 0) (ty := .int) (C := RX10) (T := TX10) (N := 45) hx hb hts iX10 tyX10 tyX10_ok nmX10 hown hK hP hD hS 0 rfl rfl 42 (by decide) (hts _ wd_331) (fun _ h9 => h9) rfl (by decide +kernel) rfl rfl (Nat.le_of_ble_eq_true rfl) dX10_tear_7 (fun H locs hP hD hS => ?_)
  have hP : va_P D classes [(yh, .inr (10, [.ref yq1, .ref yq2, .int 0, .int 0, .int 1, .int 0, .int 0, .int 0, .ref yq3, .ref yq4, .ref yq5, .ref yq6, .ref yq7, .ref yq8, .int 0, .int 0, .int 0, .int 0, .int 0, .int (-1), .int 0, .int 0, .int 0, .int 0, .int 0, .int 0, .int 0, .ref yq9, .ref yq10, .ref yq11, .ref yq12, .ref yq13, .int 0, .int 0, .int 0, .int 0, .ref yq14, .ref yq15, .ref yq16, .ref yq17, .int 0, .int 0, .int 0, .ref yq18, .ref yq19]))] H := hP
  have hD : va_D A [(yh, .inr (10, [.ref yq1, .ref yq2, .int 0, .int 0, .int 1, .int 0, .int 0, .int 0, .ref yq3, .ref yq4, .ref yq5, .ref yq6, .ref yq7, .ref yq8, .int 0, .int 0, .int 0, .int 0, .int 0, .int (-1), .int 0, .int 0, .int 0, .int 0, .int 0, .int 0, .int 0, .ref yq9, .ref yq10, .ref yq11, .ref yq12, .ref yq13, .int 0, .int 0, .int 0, .int 0, .ref yq14, .ref yq15, .ref yq16, .ref yq17, .int 0, .int 0, .int 0, .ref yq18, .ref yq19]))] := hD
  refine lv_iload_n hx hb dX10_tear_10 rfl (lv_at hl 0 rfl) ?_
  exact hret 0 () _ _ _ _ dX10_tear_11 rfl rfl (cutP (isC := []) hP rfl) (cutD (isC := []) hD rfl rfl) hS
def rm_k_m_judge : Room := { frames := 0, cells := 0, slots := 0, locals := 0 }
set_option maxHeartbeats 4000000 in
set_option maxRecDepth 100000 in
theorem k_m_judge {l : Launch} {D : va_G} {cI cZ : ClassId} {sz : Nat} (yh yq1 yq2 yq3 yq4 yq5 yq6 yq7 yq8 yq9 yq10 yq11 yq12 yq13 yq14 yq15 yq16 yq17 yq18 yq19 : Nat) : KI l yX10_judge cX10_judge 2 (some .int) rm_k_m_judge D cI cZ [.ref yh] sz [(yh, .inr (10, [.ref yq1, .ref yq2, .int 0, .int 0, .int 1, .int 0, .int 0, .int 0, .ref yq3, .ref yq4, .ref yq5, .ref yq6, .ref yq7, .ref yq8, .int 0, .int 0, .int 0, .int 0, .int 0, .int (-1), .int 0, .int 0, .int 0, .int 0, .int 0, .int 0, .int 0, .ref yq9, .ref yq10, .ref yq11, .ref yq12, .ref yq13, .int 0, .int 0, .int 0, .int 0, .ref yq14, .ref yq15, .ref yq16, .ref yq17, .int 0, .int 0, .int 0, .ref yq18, .ref yq19]))] (fun (r : Int32) (_ : Unit) => r = (-1)) (fun (_ : Unit) => []) := by
  refine KI.go rfl (Nat.le_of_ble_eq_true rfl) ?_
  intro p e s m args below meth c ls A Q hx hb hml hts hown hin hP hK hD hS hA hN hl hret
  have hl : lv_has ls 2 [(0, .ref yh)] := hl
  refine lv_iconst (v := 0) hx hb dX10_judge_0 (by decide) ?_
  refine lv_istore_n (lv' := [(1, .int 0), (0, .ref yh)]) hx hb dX10_judge_1 rfl hl (by decide) rfl (fun ls hl => ?_)
  refine lv_iload_n hx hb dX10_judge_2 rfl (lv_at hl 0 rfl) ?_
  refine lv_aload_n hx hb dX10_judge_3 rfl (lv_at hl 1 rfl) ?_
  refine va_get (D := D) (ci := 10) (v := .int 0) (C := RX10) (T := TX10) (N := 45) hx hb hts iX10 hown hK hP 0 rfl rfl 42 (by decide) (hts _ wd_331) (fun _ h9 => h9) rfl dX10_judge_4 ?_
  refine lv_icmp_ge (tgt := 40) hx hb dX10_judge_7 (by decide) (fun c_1 => ?_) (fun c_1 => absurd (by decide +kernel) c_1)
  refine lv_iconst (v := (-1)) hx hb dX10_judge_40 (by decide) ?_
  exact hret (-1) () _ _ _ _ dX10_judge_41 rfl rfl (cutP (isC := []) hP rfl) (cutD (isC := []) hD rfl rfl) hS
def rm_k_m_seed : Room := { frames := 0, cells := 0, slots := 0, locals := 0 }
set_option maxHeartbeats 4000000 in
set_option maxRecDepth 100000 in
theorem k_m_seed {l : Launch} {D : va_G} {cI cZ : ClassId} {sz : Nat} (yh yq1 yq2 yq3 yq4 yq5 yq6 yq7 yq8 yq9 yq10 yq11 yq12 yq13 yq14 yq15 yq16 yq17 yq18 yq19 : Nat) (v : Int32) : KI l yX10_seed cX10_seed 3 (some .int) rm_k_m_seed D cI cZ [.ref yh, .int v] sz [(yh, .inr (10, [.ref yq1, .ref yq2, .int 0, .int 0, .int 1, .int 0, .int 0, .int 0, .ref yq3, .ref yq4, .ref yq5, .ref yq6, .ref yq7, .ref yq8, .int 0, .int 0, .int 0, .int 0, .int 0, .int (-1), .int 0, .int 0, .int 0, .int 0, .int 0, .int 0, .int 0, .ref yq9, .ref yq10, .ref yq11, .ref yq12, .ref yq13, .int 0, .int 0, .int 0, .int 0, .ref yq14, .ref yq15, .ref yq16, .ref yq17, .int 0, .int 0, .int 0, .ref yq18, .ref yq19])), (yq1, .inl (cI, 1302, .inl (upd (wC z0 7) (41 : Int32).toNatClampNeg (z0 (41 : Int32).toNatClampNeg))))] (fun (r : Int32) (_ : Unit) => r = seedS v) (fun (_ : Unit) => []) := by
  refine KI.go rfl (Nat.le_of_ble_eq_true rfl) ?_
  intro p e s m args below meth c ls A Q hx hb hml hts hown hin hP hK hD hS hA hN hl hret
  have hl : lv_has ls 3 [(0, .ref yh), (1, .int v)] := hl
  refine lv_iload_n hx hb dX10_seed_0 rfl (lv_at hl 1 rfl) ?_
  refine lv_if_ge (tgt := 7) hx hb dX10_seed_1 (by decide) (fun c_1 => ?_) (fun c_1 => ?_)
  · refine lv_aload_n hx hb dX10_seed_7 rfl (lv_at hl 0 rfl) ?_
    refine va_get (D := D) (ci := 10) (v := .ref yq1) (C := RX10) (T := TX10) (N := 45) hx hb hts iX10 hown hK hP 0 rfl rfl 0 (by decide) (hts _ wd_269) (fun _ h9 => h9) rfl dX10_seed_8 ?_
    refine lv_bipush (v := 41) hx hb dX10_seed_11 (by decide) ?_
    refine va_iald hx hb hK hP 1 0 rfl rfl (show ¬ ((41 : Int32) < 0 ∨ 1302 ≤ (41 : Int32).toNatClampNeg) by decide +kernel) dX10_seed_13 ?_
    refine lv_topi (fun z_2 ez_2 => ?_)
    obtain rfl : z_2 = 0 := ez_2.trans (by decide +kernel)
    refine lv_istore_n (lv' := [(2, .int 0), (0, .ref yh), (1, .int v)]) hx hb dX10_seed_14 rfl hl (by decide) rfl (fun ls hl => ?_)
    refine lv_aload_n hx hb dX10_seed_15 rfl (lv_at hl 1 rfl) ?_
    refine va_get (D := D) (ci := 10) (v := .ref yq1) (C := RX10) (T := TX10) (N := 45) hx hb hts iX10 hown hK hP 0 rfl rfl 0 (by decide) (hts _ wd_269) (fun _ h9 => h9) rfl dX10_seed_16 ?_
    refine lv_bipush (v := 41) hx hb dX10_seed_19 (by decide) ?_
    refine lv_iload_n hx hb dX10_seed_21 rfl (lv_at hl 2 rfl) ?_
    refine va_iast hx hb hK hP hD hS 1 0 rfl rfl (show ¬ ((41 : Int32) < 0 ∨ 1302 ≤ (41 : Int32).toNatClampNeg) by decide +kernel) dX10_seed_22 (fun H locs hP hD hS => ?_)
    have hP : va_P D classes [(yh, .inr (10, [.ref yq1, .ref yq2, .int 0, .int 0, .int 1, .int 0, .int 0, .int 0, .ref yq3, .ref yq4, .ref yq5, .ref yq6, .ref yq7, .ref yq8, .int 0, .int 0, .int 0, .int 0, .int 0, .int (-1), .int 0, .int 0, .int 0, .int 0, .int 0, .int 0, .int 0, .ref yq9, .ref yq10, .ref yq11, .ref yq12, .ref yq13, .int 0, .int 0, .int 0, .int 0, .ref yq14, .ref yq15, .ref yq16, .ref yq17, .int 0, .int 0, .int 0, .ref yq18, .ref yq19])), (yq1, .inl (cI, 1302, .inl (upd (upd (wC z0 7) (41 : Int32).toNatClampNeg (z0 (41 : Int32).toNatClampNeg)) (41 : Int32).toNatClampNeg v)))] H := hP
    have hD : va_D A [(yh, .inr (10, [.ref yq1, .ref yq2, .int 0, .int 0, .int 1, .int 0, .int 0, .int 0, .ref yq3, .ref yq4, .ref yq5, .ref yq6, .ref yq7, .ref yq8, .int 0, .int 0, .int 0, .int 0, .int 0, .int (-1), .int 0, .int 0, .int 0, .int 0, .int 0, .int 0, .int 0, .ref yq9, .ref yq10, .ref yq11, .ref yq12, .ref yq13, .int 0, .int 0, .int 0, .int 0, .ref yq14, .ref yq15, .ref yq16, .ref yq17, .int 0, .int 0, .int 0, .ref yq18, .ref yq19])), (yq1, .inl (cI, 1302, .inl (upd (upd (wC z0 7) (41 : Int32).toNatClampNeg (z0 (41 : Int32).toNatClampNeg)) (41 : Int32).toNatClampNeg v)))] := hD
    refine lv_iload_n hx hb dX10_seed_23 rfl (lv_at hl 0 rfl) ?_
    exact hret 0 () _ _ _ _ dX10_seed_24 rfl (if_neg (Int32.not_lt.mpr c_1)).symm (cutP (isC := []) hP rfl) (cutD (isC := []) hD rfl rfl) hS
  · refine lv_ldc (v := (-1000000002)) hx hb hown (hts _ wd_317) dX10_seed_4 ?_
    exact hret (-1000000002) () _ _ _ _ dX10_seed_6 rfl (if_pos (Int32.not_le.mp c_1)).symm (cutP (isC := []) hP rfl) (cutD (isC := []) hD rfl rfl) hS
def rm_k_m_keep : Room := { frames := 1, cells := 0, slots := 0, locals := 25 }
set_option maxHeartbeats 4000000 in
set_option maxRecDepth 100000 in
theorem k_m_keep {l : Launch} {D : va_G} {cI cZ : ClassId} {sz : Nat} (yh yq1 yq2 yq3 yq4 yq5 yq6 yq7 yq8 yq9 yq10 yq11 yq12 yq13 yq14 yq15 yq16 yq17 yq18 yq19 : Nat) (v : Int32) : KI l yX10_keep cX10_keep 2 (some .int) rm_k_m_keep D cI cZ [.ref yh, .int v] sz [(yh, .inr (10, [.ref yq1, .ref yq2, .int 0, .int 0, .int 1, .int 0, .int 0, .int 0, .ref yq3, .ref yq4, .ref yq5, .ref yq6, .ref yq7, .ref yq8, .int 0, .int 0, .int 0, .int 0, .int 0, .int (-1), .int 0, .int 0, .int 0, .int 0, .int 0, .int 0, .int 0, .ref yq9, .ref yq10, .ref yq11, .ref yq12, .ref yq13, .int 0, .int 0, .int 0, .int 0, .ref yq14, .ref yq15, .ref yq16, .ref yq17, .int 0, .int 0, .int 0, .ref yq18, .ref yq19])), (yq1, .inl (cI, 1302, .inl (upd (wC z0 7) (41 : Int32).toNatClampNeg (z0 (41 : Int32).toNatClampNeg)))), (yq2, .inl (cZ, 2, .inl z0))] (fun (r : Int32) (_ : Unit) => r = rg 0 1 v (-1000000001) 1) (fun (_ : Unit) => []) := by
  refine KI.go rfl (Nat.le_of_ble_eq_true rfl) ?_
  intro p e s m args below meth c ls A Q hx hb hml hts hown hin hP hK hD hS hA hN hl hret
  have hl : lv_has ls 2 [(0, .ref yh), (1, .int v)] := hl
  refine lv_iload_n hx hb dX10_keep_0 rfl (lv_at hl 1 rfl) ?_
  refine lv_i2l (v := v.toInt64) hx hb dX10_keep_1 rfl ?_
  refine lv_lconst (v := 0) hx hb dX10_keep_2 (by decide) ?_
  refine lv_lconst (v := 1) hx hb dX10_keep_3 (by decide) ?_
  refine cSi (wr := [(yh, .inr (10, [.ref yq1, .ref yq2, .int 0, .int 0, .int 1, .int 0, .int 0, .int 0, .ref yq3, .ref yq4, .ref yq5, .ref yq6, .ref yq7, .ref yq8, .int 0, .int 0, .int 0, .int 0, .int 0, .int (-1), .int 0, .int 0, .int 0, .int 0, .int 0, .int 0, .int 0, .ref yq9, .ref yq10, .ref yq11, .ref yq12, .ref yq13, .int 0, .int 0, .int 0, .int 0, .ref yq14, .ref yq15, .ref yq16, .ref yq17, .int 0, .int 0, .int 0, .ref yq18, .ref yq19])), (yq1, .inl (cI, 1302, .inl (upd (wC z0 7) (41 : Int32).toNatClampNeg (z0 (41 : Int32).toNatClampNeg)))), (yq2, .inl (cZ, 2, .inl z0))]) (rest := []) (k_in v.toInt64 0 1) okS_X10_in wd_299 hx hb hml hown hts hK hP hD hS hA hN hl.1 [] [0, 1, 2] rfl rfl rfl rfl (by decide) rfl (Nat.le_of_ble_eq_true rfl) (Nat.le_of_ble_eq_true rfl) (Nat.le_of_ble_eq_true rfl) (Nat.le_of_ble_eq_true rfl) (Nat.le_of_ble_eq_true rfl) dX10_keep_4 (fun r_2 u_1 H locs hw_u_1 hP hD hS => ?_)
  obtain rfl := hw_u_1
  have hP : va_P D classes [(yh, .inr (10, [.ref yq1, .ref yq2, .int 0, .int 0, .int 1, .int 0, .int 0, .int 0, .ref yq3, .ref yq4, .ref yq5, .ref yq6, .ref yq7, .ref yq8, .int 0, .int 0, .int 0, .int 0, .int 0, .int (-1), .int 0, .int 0, .int 0, .int 0, .int 0, .int 0, .int 0, .ref yq9, .ref yq10, .ref yq11, .ref yq12, .ref yq13, .int 0, .int 0, .int 0, .int 0, .ref yq14, .ref yq15, .ref yq16, .ref yq17, .int 0, .int 0, .int 0, .ref yq18, .ref yq19])), (yq1, .inl (cI, 1302, .inl (upd (wC z0 7) (41 : Int32).toNatClampNeg (z0 (41 : Int32).toNatClampNeg)))), (yq2, .inl (cZ, 2, .inl z0))] H := hP
  have hD : va_D A [(yh, .inr (10, [.ref yq1, .ref yq2, .int 0, .int 0, .int 1, .int 0, .int 0, .int 0, .ref yq3, .ref yq4, .ref yq5, .ref yq6, .ref yq7, .ref yq8, .int 0, .int 0, .int 0, .int 0, .int 0, .int (-1), .int 0, .int 0, .int 0, .int 0, .int 0, .int 0, .int 0, .ref yq9, .ref yq10, .ref yq11, .ref yq12, .ref yq13, .int 0, .int 0, .int 0, .int 0, .ref yq14, .ref yq15, .ref yq16, .ref yq17, .int 0, .int 0, .int 0, .ref yq18, .ref yq19])), (yq1, .inl (cI, 1302, .inl (upd (wC z0 7) (41 : Int32).toNatClampNeg (z0 (41 : Int32).toNatClampNeg)))), (yq2, .inl (cZ, 2, .inl z0))] := hD
  refine lv_if_ne (tgt := 13) hx hb dX10_keep_7 (by decide) (fun c_3 => ?_) (fun c_3 => ?_)
  · rcases two_in c_3 with rfl | rfl
    · have hl : lv_has ls 2 [(0, .ref yh), (1, .int 0)] := hl
      refine lv_aload_n hx hb dX10_keep_13 rfl (lv_at hl 0 rfl) ?_
      refine lv_iconst (v := 0) hx hb dX10_keep_14 (by decide) ?_
      refine lv_sipush (v := 378) hx hb dX10_keep_15 (by decide) ?_
      refine lv_bipush (v := 42) hx hb dX10_keep_18 (by decide) ?_
      refine lv_iload_n hx hb dX10_keep_20 rfl (lv_at hl 1 rfl) ?_
      refine lv_imul hx hb dX10_keep_21 ?_
      refine lv_topi (fun z_4 ez_4 => ?_)
      obtain rfl : z_4 = 0 := ez_4.trans (by decide +kernel)
      refine lv_iadd hx hb dX10_keep_22 ?_
      refine lv_topi (fun z_5 ez_5 => ?_)
      obtain rfl : z_5 = 378 := ez_5.trans (by decide +kernel)
      refine cVv (wr := [(yq2, .inl (cZ, 2, .inl z0))]) (rest := []) (k_copy378 yh yq1 yq2 yq3 yq4 yq5 yq6 yq7 yq8 yq9 yq10 yq11 yq12 yq13 yq14 yq15 yq16 yq17 yq18 yq19) okV_X10_copy wd_310 hx hb hml hown hts hK hP hD hS hA hN hl.1 [0, 1] [2] rfl rfl rfl rfl (by decide) rfl rfl rfl (Nat.le_of_ble_eq_true rfl) (Nat.le_of_ble_eq_true rfl) (Nat.le_of_ble_eq_true rfl) (Nat.le_of_ble_eq_true rfl) (Nat.le_of_ble_eq_true rfl) dX10_keep_23 (fun u_6 H locs hw_u_6 hP hD hS => ?_)
      have hP : va_P D classes [(yq2, .inl (cZ, 2, .inl z0)), (yh, .inr (10, [.ref yq1, .ref yq2, .int 0, .int 0, .int 1, .int 0, .int 0, .int 0, .ref yq3, .ref yq4, .ref yq5, .ref yq6, .ref yq7, .ref yq8, .int 0, .int 0, .int 0, .int 0, .int 0, .int (-1), .int 0, .int 0, .int 0, .int 0, .int 0, .int 0, .int 0, .ref yq9, .ref yq10, .ref yq11, .ref yq12, .ref yq13, .int 0, .int 0, .int 0, .int 0, .ref yq14, .ref yq15, .ref yq16, .ref yq17, .int 0, .int 0, .int 0, .ref yq18, .ref yq19])), (yq1, .inl (cI, 1302, .inl (wP 378 (upd (wC z0 7) (41 : Int32).toNatClampNeg (z0 (41 : Int32).toNatClampNeg)) 42)))] H := hP
      have hD : va_D A [(yq2, .inl (cZ, 2, .inl z0)), (yh, .inr (10, [.ref yq1, .ref yq2, .int 0, .int 0, .int 1, .int 0, .int 0, .int 0, .ref yq3, .ref yq4, .ref yq5, .ref yq6, .ref yq7, .ref yq8, .int 0, .int 0, .int 0, .int 0, .int 0, .int (-1), .int 0, .int 0, .int 0, .int 0, .int 0, .int 0, .int 0, .ref yq9, .ref yq10, .ref yq11, .ref yq12, .ref yq13, .int 0, .int 0, .int 0, .int 0, .ref yq14, .ref yq15, .ref yq16, .ref yq17, .int 0, .int 0, .int 0, .ref yq18, .ref yq19])), (yq1, .inl (cI, 1302, .inl (wP 378 (upd (wC z0 7) (41 : Int32).toNatClampNeg (z0 (41 : Int32).toNatClampNeg)) 42)))] := hD
      refine lv_aload_n hx hb dX10_keep_26 rfl (lv_at hl 0 rfl) ?_
      refine va_get (D := D) (ci := 10) (v := .ref yq2) (C := RX10) (T := TX10) (N := 45) hx hb hts iX10 hown hK hP 1 rfl rfl 1 (by decide) (hts _ wd_273) (fun _ h9 => h9) rfl dX10_keep_27 ?_
      refine lv_iload_n hx hb dX10_keep_30 rfl (lv_at hl 1 rfl) ?_
      refine lv_iconst (v := 1) hx hb dX10_keep_31 (by decide) ?_
      refine va_zast hx hb hK hP hD hS 0 1 rfl rfl (show ¬ ((0 : Int32) < 0 ∨ 2 ≤ (0 : Int32).toNatClampNeg) by decide +kernel) dX10_keep_32 (fun H locs hP hD hS => ?_)
      have hP : va_P D classes [(yq2, .inl (cZ, 2, .inl (upd z0 (0 : Int32).toNatClampNeg (vp_nar .boolean 1)))), (yh, .inr (10, [.ref yq1, .ref yq2, .int 0, .int 0, .int 1, .int 0, .int 0, .int 0, .ref yq3, .ref yq4, .ref yq5, .ref yq6, .ref yq7, .ref yq8, .int 0, .int 0, .int 0, .int 0, .int 0, .int (-1), .int 0, .int 0, .int 0, .int 0, .int 0, .int 0, .int 0, .ref yq9, .ref yq10, .ref yq11, .ref yq12, .ref yq13, .int 0, .int 0, .int 0, .int 0, .ref yq14, .ref yq15, .ref yq16, .ref yq17, .int 0, .int 0, .int 0, .ref yq18, .ref yq19])), (yq1, .inl (cI, 1302, .inl (wP 378 (upd (wC z0 7) (41 : Int32).toNatClampNeg (z0 (41 : Int32).toNatClampNeg)) 42)))] H := hP
      have hD : va_D A [(yq2, .inl (cZ, 2, .inl (upd z0 (0 : Int32).toNatClampNeg (vp_nar .boolean 1)))), (yh, .inr (10, [.ref yq1, .ref yq2, .int 0, .int 0, .int 1, .int 0, .int 0, .int 0, .ref yq3, .ref yq4, .ref yq5, .ref yq6, .ref yq7, .ref yq8, .int 0, .int 0, .int 0, .int 0, .int 0, .int (-1), .int 0, .int 0, .int 0, .int 0, .int 0, .int 0, .int 0, .ref yq9, .ref yq10, .ref yq11, .ref yq12, .ref yq13, .int 0, .int 0, .int 0, .int 0, .ref yq14, .ref yq15, .ref yq16, .ref yq17, .int 0, .int 0, .int 0, .ref yq18, .ref yq19])), (yq1, .inl (cI, 1302, .inl (wP 378 (upd (wC z0 7) (41 : Int32).toNatClampNeg (z0 (41 : Int32).toNatClampNeg)) 42)))] := hD
      refine lv_aload_n hx hb dX10_keep_33 rfl (lv_at hl 0 rfl) ?_
      refine lv_iconst (v := 0) hx hb dX10_keep_34 (by decide) ?_
      refine va_put (D := D) (ci := 10) (v := .int 0) (ty := .int) (C := RX10) (T := TX10) (N := 45) hx hb hts iX10 tyX10 tyX10_ok nmX10 hown hK hP hD hS 1 rfl rfl 2 (by decide) (hts _ wd_332) (fun _ h9 => h9) rfl (by decide +kernel) rfl rfl (Nat.le_of_ble_eq_true rfl) dX10_keep_35 (fun H locs hP hD hS => ?_)
      have hP : va_P D classes [(yq2, .inl (cZ, 2, .inl (upd z0 (0 : Int32).toNatClampNeg (vp_nar .boolean 1)))), (yh, .inr (10, [.ref yq1, .ref yq2, .int 0, .int 0, .int 1, .int 0, .int 0, .int 0, .ref yq3, .ref yq4, .ref yq5, .ref yq6, .ref yq7, .ref yq8, .int 0, .int 0, .int 0, .int 0, .int 0, .int (-1), .int 0, .int 0, .int 0, .int 0, .int 0, .int 0, .int 0, .ref yq9, .ref yq10, .ref yq11, .ref yq12, .ref yq13, .int 0, .int 0, .int 0, .int 0, .ref yq14, .ref yq15, .ref yq16, .ref yq17, .int 0, .int 0, .int 0, .ref yq18, .ref yq19])), (yq1, .inl (cI, 1302, .inl (wP 378 (upd (wC z0 7) (41 : Int32).toNatClampNeg (z0 (41 : Int32).toNatClampNeg)) 42)))] H := hP
      have hD : va_D A [(yq2, .inl (cZ, 2, .inl (upd z0 (0 : Int32).toNatClampNeg (vp_nar .boolean 1)))), (yh, .inr (10, [.ref yq1, .ref yq2, .int 0, .int 0, .int 1, .int 0, .int 0, .int 0, .ref yq3, .ref yq4, .ref yq5, .ref yq6, .ref yq7, .ref yq8, .int 0, .int 0, .int 0, .int 0, .int 0, .int (-1), .int 0, .int 0, .int 0, .int 0, .int 0, .int 0, .int 0, .ref yq9, .ref yq10, .ref yq11, .ref yq12, .ref yq13, .int 0, .int 0, .int 0, .int 0, .ref yq14, .ref yq15, .ref yq16, .ref yq17, .int 0, .int 0, .int 0, .ref yq18, .ref yq19])), (yq1, .inl (cI, 1302, .inl (wP 378 (upd (wC z0 7) (41 : Int32).toNatClampNeg (z0 (41 : Int32).toNatClampNeg)) 42)))] := hD
      refine lv_iconst (v := 1) hx hb dX10_keep_38 (by decide) ?_
      exact hret 1 () _ _ _ _ dX10_keep_39 rfl (by decide +kernel) (cutP (isC := []) hP rfl) (cutD (isC := []) hD rfl rfl) hS
    · have hl : lv_has ls 2 [(0, .ref yh), (1, .int 1)] := hl
      refine lv_aload_n hx hb dX10_keep_13 rfl (lv_at hl 0 rfl) ?_
      refine lv_iconst (v := 0) hx hb dX10_keep_14 (by decide) ?_
      refine lv_sipush (v := 378) hx hb dX10_keep_15 (by decide) ?_
      refine lv_bipush (v := 42) hx hb dX10_keep_18 (by decide) ?_
      refine lv_iload_n hx hb dX10_keep_20 rfl (lv_at hl 1 rfl) ?_
      refine lv_imul hx hb dX10_keep_21 ?_
      refine lv_topi (fun z_8 ez_8 => ?_)
      obtain rfl : z_8 = 42 := ez_8.trans (by decide +kernel)
      refine lv_iadd hx hb dX10_keep_22 ?_
      refine lv_topi (fun z_9 ez_9 => ?_)
      obtain rfl : z_9 = 420 := ez_9.trans (by decide +kernel)
      refine cVv (wr := [(yq2, .inl (cZ, 2, .inl z0))]) (rest := []) (k_copy420 yh yq1 yq2 yq3 yq4 yq5 yq6 yq7 yq8 yq9 yq10 yq11 yq12 yq13 yq14 yq15 yq16 yq17 yq18 yq19) okV_X10_copy wd_310 hx hb hml hown hts hK hP hD hS hA hN hl.1 [0, 1] [2] rfl rfl rfl rfl (by decide) rfl rfl rfl (Nat.le_of_ble_eq_true rfl) (Nat.le_of_ble_eq_true rfl) (Nat.le_of_ble_eq_true rfl) (Nat.le_of_ble_eq_true rfl) (Nat.le_of_ble_eq_true rfl) dX10_keep_23 (fun u_10 H locs hw_u_10 hP hD hS => ?_)
      have hP : va_P D classes [(yq2, .inl (cZ, 2, .inl z0)), (yh, .inr (10, [.ref yq1, .ref yq2, .int 0, .int 0, .int 1, .int 0, .int 0, .int 0, .ref yq3, .ref yq4, .ref yq5, .ref yq6, .ref yq7, .ref yq8, .int 0, .int 0, .int 0, .int 0, .int 0, .int (-1), .int 0, .int 0, .int 0, .int 0, .int 0, .int 0, .int 0, .ref yq9, .ref yq10, .ref yq11, .ref yq12, .ref yq13, .int 0, .int 0, .int 0, .int 0, .ref yq14, .ref yq15, .ref yq16, .ref yq17, .int 0, .int 0, .int 0, .ref yq18, .ref yq19])), (yq1, .inl (cI, 1302, .inl (wP 420 (upd (wC z0 7) (41 : Int32).toNatClampNeg (z0 (41 : Int32).toNatClampNeg)) 42)))] H := hP
      have hD : va_D A [(yq2, .inl (cZ, 2, .inl z0)), (yh, .inr (10, [.ref yq1, .ref yq2, .int 0, .int 0, .int 1, .int 0, .int 0, .int 0, .ref yq3, .ref yq4, .ref yq5, .ref yq6, .ref yq7, .ref yq8, .int 0, .int 0, .int 0, .int 0, .int 0, .int (-1), .int 0, .int 0, .int 0, .int 0, .int 0, .int 0, .int 0, .ref yq9, .ref yq10, .ref yq11, .ref yq12, .ref yq13, .int 0, .int 0, .int 0, .int 0, .ref yq14, .ref yq15, .ref yq16, .ref yq17, .int 0, .int 0, .int 0, .ref yq18, .ref yq19])), (yq1, .inl (cI, 1302, .inl (wP 420 (upd (wC z0 7) (41 : Int32).toNatClampNeg (z0 (41 : Int32).toNatClampNeg)) 42)))] := hD
      refine lv_aload_n hx hb dX10_keep_26 rfl (lv_at hl 0 rfl) ?_
      refine va_get (D := D) (ci := 10) (v := .ref yq2) (C := RX10) (T := TX10) (N := 45) hx hb hts iX10 hown hK hP 1 rfl rfl 1 (by decide) (hts _ wd_273) (fun _ h9 => h9) rfl dX10_keep_27 ?_
      refine lv_iload_n hx hb dX10_keep_30 rfl (lv_at hl 1 rfl) ?_
      refine lv_iconst (v := 1) hx hb dX10_keep_31 (by decide) ?_
      refine va_zast hx hb hK hP hD hS 0 1 rfl rfl (show ¬ ((1 : Int32) < 0 ∨ 2 ≤ (1 : Int32).toNatClampNeg) by decide +kernel) dX10_keep_32 (fun H locs hP hD hS => ?_)
      have hP : va_P D classes [(yq2, .inl (cZ, 2, .inl (upd z0 (1 : Int32).toNatClampNeg (vp_nar .boolean 1)))), (yh, .inr (10, [.ref yq1, .ref yq2, .int 0, .int 0, .int 1, .int 0, .int 0, .int 0, .ref yq3, .ref yq4, .ref yq5, .ref yq6, .ref yq7, .ref yq8, .int 0, .int 0, .int 0, .int 0, .int 0, .int (-1), .int 0, .int 0, .int 0, .int 0, .int 0, .int 0, .int 0, .ref yq9, .ref yq10, .ref yq11, .ref yq12, .ref yq13, .int 0, .int 0, .int 0, .int 0, .ref yq14, .ref yq15, .ref yq16, .ref yq17, .int 0, .int 0, .int 0, .ref yq18, .ref yq19])), (yq1, .inl (cI, 1302, .inl (wP 420 (upd (wC z0 7) (41 : Int32).toNatClampNeg (z0 (41 : Int32).toNatClampNeg)) 42)))] H := hP
      have hD : va_D A [(yq2, .inl (cZ, 2, .inl (upd z0 (1 : Int32).toNatClampNeg (vp_nar .boolean 1)))), (yh, .inr (10, [.ref yq1, .ref yq2, .int 0, .int 0, .int 1, .int 0, .int 0, .int 0, .ref yq3, .ref yq4, .ref yq5, .ref yq6, .ref yq7, .ref yq8, .int 0, .int 0, .int 0, .int 0, .int 0, .int (-1), .int 0, .int 0, .int 0, .int 0, .int 0, .int 0, .int 0, .ref yq9, .ref yq10, .ref yq11, .ref yq12, .ref yq13, .int 0, .int 0, .int 0, .int 0, .ref yq14, .ref yq15, .ref yq16, .ref yq17, .int 0, .int 0, .int 0, .ref yq18, .ref yq19])), (yq1, .inl (cI, 1302, .inl (wP 420 (upd (wC z0 7) (41 : Int32).toNatClampNeg (z0 (41 : Int32).toNatClampNeg)) 42)))] := hD
      refine lv_aload_n hx hb dX10_keep_33 rfl (lv_at hl 0 rfl) ?_
      refine lv_iconst (v := 0) hx hb dX10_keep_34 (by decide) ?_
      refine va_put (D := D) (ci := 10) (v := .int 0) (ty := .int) (C := RX10) (T := TX10) (N := 45) hx hb hts iX10 tyX10 tyX10_ok nmX10 hown hK hP hD hS 1 rfl rfl 2 (by decide) (hts _ wd_332) (fun _ h9 => h9) rfl (by decide +kernel) rfl rfl (Nat.le_of_ble_eq_true rfl) dX10_keep_35 (fun H locs hP hD hS => ?_)
      have hP : va_P D classes [(yq2, .inl (cZ, 2, .inl (upd z0 (1 : Int32).toNatClampNeg (vp_nar .boolean 1)))), (yh, .inr (10, [.ref yq1, .ref yq2, .int 0, .int 0, .int 1, .int 0, .int 0, .int 0, .ref yq3, .ref yq4, .ref yq5, .ref yq6, .ref yq7, .ref yq8, .int 0, .int 0, .int 0, .int 0, .int 0, .int (-1), .int 0, .int 0, .int 0, .int 0, .int 0, .int 0, .int 0, .ref yq9, .ref yq10, .ref yq11, .ref yq12, .ref yq13, .int 0, .int 0, .int 0, .int 0, .ref yq14, .ref yq15, .ref yq16, .ref yq17, .int 0, .int 0, .int 0, .ref yq18, .ref yq19])), (yq1, .inl (cI, 1302, .inl (wP 420 (upd (wC z0 7) (41 : Int32).toNatClampNeg (z0 (41 : Int32).toNatClampNeg)) 42)))] H := hP
      have hD : va_D A [(yq2, .inl (cZ, 2, .inl (upd z0 (1 : Int32).toNatClampNeg (vp_nar .boolean 1)))), (yh, .inr (10, [.ref yq1, .ref yq2, .int 0, .int 0, .int 1, .int 0, .int 0, .int 0, .ref yq3, .ref yq4, .ref yq5, .ref yq6, .ref yq7, .ref yq8, .int 0, .int 0, .int 0, .int 0, .int 0, .int (-1), .int 0, .int 0, .int 0, .int 0, .int 0, .int 0, .int 0, .ref yq9, .ref yq10, .ref yq11, .ref yq12, .ref yq13, .int 0, .int 0, .int 0, .int 0, .ref yq14, .ref yq15, .ref yq16, .ref yq17, .int 0, .int 0, .int 0, .ref yq18, .ref yq19])), (yq1, .inl (cI, 1302, .inl (wP 420 (upd (wC z0 7) (41 : Int32).toNatClampNeg (z0 (41 : Int32).toNatClampNeg)) 42)))] := hD
      refine lv_iconst (v := 1) hx hb dX10_keep_38 (by decide) ?_
      exact hret 1 () _ _ _ _ dX10_keep_39 rfl (by decide +kernel) (cutP (isC := []) hP rfl) (cutD (isC := []) hD rfl rfl) hS
  · refine lv_ldc (v := (-1000000001)) hx hb hown (hts _ wd_347) dX10_keep_10 ?_
    exact hret (-1000000001) () _ _ _ _ dX10_keep_12 rfl (rg_z (by decide +kernel) (by decide +kernel) c_3) (cutP (isC := []) hP rfl) (cutD (isC := []) hD rfl rfl) hS
def rm_k_m_goBack : Room := { frames := 1, cells := 0, slots := 0, locals := 25 }
set_option maxHeartbeats 4000000 in
set_option maxRecDepth 100000 in
theorem k_m_goBack {l : Launch} {D : va_G} {cI cZ : ClassId} {sz : Nat} (yh yq1 yq2 yq3 yq4 yq5 yq6 yq7 yq8 yq9 yq10 yq11 yq12 yq13 yq14 yq15 yq16 yq17 yq18 yq19 : Nat) (v : Int32) : KI l yX10_goBack cX10_goBack 2 (some .int) rm_k_m_goBack D cI cZ [.ref yh, .int v] sz [(yh, .inr (10, [.ref yq1, .ref yq2, .int 0, .int 0, .int 1, .int 0, .int 0, .int 0, .ref yq3, .ref yq4, .ref yq5, .ref yq6, .ref yq7, .ref yq8, .int 0, .int 0, .int 0, .int 0, .int 0, .int (-1), .int 0, .int 0, .int 0, .int 0, .int 0, .int 0, .int 0, .ref yq9, .ref yq10, .ref yq11, .ref yq12, .ref yq13, .int 0, .int 0, .int 0, .int 0, .ref yq14, .ref yq15, .ref yq16, .ref yq17, .int 0, .int 0, .int 0, .ref yq18, .ref yq19])), (yq2, .inl (cZ, 2, .inl z0))] (fun (r : Int32) (_ : Unit) => r = rg 0 1 v (-1000000001) (-1000000003)) (fun (_ : Unit) => []) := by
  refine KI.go rfl (Nat.le_of_ble_eq_true rfl) ?_
  intro p e s m args below meth c ls A Q hx hb hml hts hown hin hP hK hD hS hA hN hl hret
  have hl : lv_has ls 2 [(0, .ref yh), (1, .int v)] := hl
  refine lv_iload_n hx hb dX10_goBack_0 rfl (lv_at hl 1 rfl) ?_
  refine lv_i2l (v := v.toInt64) hx hb dX10_goBack_1 rfl ?_
  refine lv_lconst (v := 0) hx hb dX10_goBack_2 (by decide) ?_
  refine lv_lconst (v := 1) hx hb dX10_goBack_3 (by decide) ?_
  refine cSi (wr := [(yh, .inr (10, [.ref yq1, .ref yq2, .int 0, .int 0, .int 1, .int 0, .int 0, .int 0, .ref yq3, .ref yq4, .ref yq5, .ref yq6, .ref yq7, .ref yq8, .int 0, .int 0, .int 0, .int 0, .int 0, .int (-1), .int 0, .int 0, .int 0, .int 0, .int 0, .int 0, .int 0, .ref yq9, .ref yq10, .ref yq11, .ref yq12, .ref yq13, .int 0, .int 0, .int 0, .int 0, .ref yq14, .ref yq15, .ref yq16, .ref yq17, .int 0, .int 0, .int 0, .ref yq18, .ref yq19])), (yq2, .inl (cZ, 2, .inl z0))]) (rest := []) (k_in v.toInt64 0 1) okS_X10_in wd_299 hx hb hml hown hts hK hP hD hS hA hN hl.1 [] [0, 1] rfl rfl rfl rfl (by decide) rfl (Nat.le_of_ble_eq_true rfl) (Nat.le_of_ble_eq_true rfl) (Nat.le_of_ble_eq_true rfl) (Nat.le_of_ble_eq_true rfl) (Nat.le_of_ble_eq_true rfl) dX10_goBack_4 (fun r_2 u_1 H locs hw_u_1 hP hD hS => ?_)
  obtain rfl := hw_u_1
  have hP : va_P D classes [(yh, .inr (10, [.ref yq1, .ref yq2, .int 0, .int 0, .int 1, .int 0, .int 0, .int 0, .ref yq3, .ref yq4, .ref yq5, .ref yq6, .ref yq7, .ref yq8, .int 0, .int 0, .int 0, .int 0, .int 0, .int (-1), .int 0, .int 0, .int 0, .int 0, .int 0, .int 0, .int 0, .ref yq9, .ref yq10, .ref yq11, .ref yq12, .ref yq13, .int 0, .int 0, .int 0, .int 0, .ref yq14, .ref yq15, .ref yq16, .ref yq17, .int 0, .int 0, .int 0, .ref yq18, .ref yq19])), (yq2, .inl (cZ, 2, .inl z0))] H := hP
  have hD : va_D A [(yh, .inr (10, [.ref yq1, .ref yq2, .int 0, .int 0, .int 1, .int 0, .int 0, .int 0, .ref yq3, .ref yq4, .ref yq5, .ref yq6, .ref yq7, .ref yq8, .int 0, .int 0, .int 0, .int 0, .int 0, .int (-1), .int 0, .int 0, .int 0, .int 0, .int 0, .int 0, .int 0, .ref yq9, .ref yq10, .ref yq11, .ref yq12, .ref yq13, .int 0, .int 0, .int 0, .int 0, .ref yq14, .ref yq15, .ref yq16, .ref yq17, .int 0, .int 0, .int 0, .ref yq18, .ref yq19])), (yq2, .inl (cZ, 2, .inl z0))] := hD
  refine lv_if_ne (tgt := 13) hx hb dX10_goBack_7 (by decide) (fun c_3 => ?_) (fun c_3 => ?_)
  · rcases two_in c_3 with rfl | rfl
    · have hl : lv_has ls 2 [(0, .ref yh), (1, .int 0)] := hl
      refine lv_aload_n hx hb dX10_goBack_13 rfl (lv_at hl 0 rfl) ?_
      refine va_get (D := D) (ci := 10) (v := .ref yq2) (C := RX10) (T := TX10) (N := 45) hx hb hts iX10 hown hK hP 0 rfl rfl 1 (by decide) (hts _ wd_273) (fun _ h9 => h9) rfl dX10_goBack_14 ?_
      refine lv_iload_n hx hb dX10_goBack_17 rfl (lv_at hl 1 rfl) ?_
      refine va_zald hx hb hK hP 1 1 rfl rfl (show ¬ ((0 : Int32) < 0 ∨ 2 ≤ (0 : Int32).toNatClampNeg) by decide +kernel) dX10_goBack_18 ?_
      refine lv_topi (fun z_4 ez_4 => ?_)
      obtain rfl : z_4 = 0 := ez_4.trans (by decide +kernel)
      refine lv_if_ne (tgt := 25) hx hb dX10_goBack_19 (by decide) (fun c_5 => absurd (by decide +kernel) c_5) (fun c_5 => ?_)
      refine lv_ldc (v := (-1000000003)) hx hb hown (hts _ wd_357) dX10_goBack_22 ?_
      exact hret (-1000000003) () _ _ _ _ dX10_goBack_24 rfl (by decide +kernel) (cutP (isC := []) hP rfl) (cutD (isC := []) hD rfl rfl) hS
    · have hl : lv_has ls 2 [(0, .ref yh), (1, .int 1)] := hl
      refine lv_aload_n hx hb dX10_goBack_13 rfl (lv_at hl 0 rfl) ?_
      refine va_get (D := D) (ci := 10) (v := .ref yq2) (C := RX10) (T := TX10) (N := 45) hx hb hts iX10 hown hK hP 0 rfl rfl 1 (by decide) (hts _ wd_273) (fun _ h9 => h9) rfl dX10_goBack_14 ?_
      refine lv_iload_n hx hb dX10_goBack_17 rfl (lv_at hl 1 rfl) ?_
      refine va_zald hx hb hK hP 1 1 rfl rfl (show ¬ ((1 : Int32) < 0 ∨ 2 ≤ (1 : Int32).toNatClampNeg) by decide +kernel) dX10_goBack_18 ?_
      refine lv_topi (fun z_6 ez_6 => ?_)
      obtain rfl : z_6 = 0 := ez_6.trans (by decide +kernel)
      refine lv_if_ne (tgt := 25) hx hb dX10_goBack_19 (by decide) (fun c_7 => absurd (by decide +kernel) c_7) (fun c_7 => ?_)
      refine lv_ldc (v := (-1000000003)) hx hb hown (hts _ wd_357) dX10_goBack_22 ?_
      exact hret (-1000000003) () _ _ _ _ dX10_goBack_24 rfl (by decide +kernel) (cutP (isC := []) hP rfl) (cutD (isC := []) hD rfl rfl) hS
  · refine lv_ldc (v := (-1000000001)) hx hb hown (hts _ wd_347) dX10_goBack_10 ?_
    exact hret (-1000000001) () _ _ _ _ dX10_goBack_12 rfl (rg_z (by decide +kernel) (by decide +kernel) c_3) (cutP (isC := []) hP rfl) (cutD (isC := []) hD rfl rfl) hS
