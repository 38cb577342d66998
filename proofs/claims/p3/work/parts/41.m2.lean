theorem dX10_isBridge_0 : decode cX10_isBridge 0 = .ok (.iload_n 1, 1) := by decide +kernel
theorem dX10_isBridge_1 : decode cX10_isBridge 1 = .ok (.i2l, 1) := by decide +kernel
theorem dX10_isBridge_2 : decode cX10_isBridge 2 = .ok (.lconst 0, 1) := by decide +kernel
theorem dX10_isBridge_3 : decode cX10_isBridge 3 = .ok (.aload_n 0, 1) := by decide +kernel
theorem wd_494 : Cond.fieldLink RX10 81 "QuarrelBridgesModel" "bridges" "I" ∈ BG := BG_at 786 (by decide +kernel) rfl
theorem dX10_isBridge_4 : decode cX10_isBridge 4 = .ok (.getfield 81, 3) := by decide +kernel
theorem dX10_isBridge_7 : decode cX10_isBridge 7 = .ok (.iconst 1, 1) := by decide +kernel
theorem dX10_isBridge_8 : decode cX10_isBridge 8 = .ok (.isub, 1) := by decide +kernel
theorem dX10_isBridge_9 : decode cX10_isBridge 9 = .ok (.i2l, 1) := by decide +kernel
theorem dX10_isBridge_10 : decode cX10_isBridge 10 = .ok (.invokestatic 84, 3) := by decide +kernel
theorem wd_495 : Cond.methodLink RX10 84 yX10_in ∈ BG := BG_at 925 (by decide +kernel) rfl
theorem wd_496 : Cond.code yX10_in cX10_in 6 (some .boolean) ∈ BG := BG_at 927 (by decide +kernel) rfl
theorem wd_497 : Cond.initialized RX10 ∈ BG := BG_at 13 (by decide +kernel) rfl
theorem wd_498 : Cond.static yX10_in ∈ BG := BG_at 926 (by decide +kernel) rfl
theorem okS_X10_in : okS yX10_in cX10_in 6 (some .boolean) 3 := ⟨⟨wd_496, wd_497, by decide +kernel⟩, wd_498⟩
theorem dX10_isBridge_13 : decode cX10_isBridge 13 = .ok (.ireturn, 1) := by decide +kernel
theorem dX10_isCouple_0 : decode cX10_isCouple 0 = .ok (.iload_n 1, 1) := by decide +kernel
theorem dX10_isCouple_1 : decode cX10_isCouple 1 = .ok (.i2l, 1) := by decide +kernel
theorem dX10_isCouple_2 : decode cX10_isCouple 2 = .ok (.lconst 0, 1) := by decide +kernel
theorem dX10_isCouple_3 : decode cX10_isCouple 3 = .ok (.aload_n 0, 1) := by decide +kernel
theorem wd_499 : Cond.fieldLink RX10 78 "QuarrelBridgesModel" "couples" "I" ∈ BG := BG_at 788 (by decide +kernel) rfl
theorem dX10_isCouple_4 : decode cX10_isCouple 4 = .ok (.getfield 78, 3) := by decide +kernel
theorem dX10_isCouple_7 : decode cX10_isCouple 7 = .ok (.iconst 1, 1) := by decide +kernel
theorem dX10_isCouple_8 : decode cX10_isCouple 8 = .ok (.isub, 1) := by decide +kernel
theorem dX10_isCouple_9 : decode cX10_isCouple 9 = .ok (.i2l, 1) := by decide +kernel
theorem dX10_isCouple_10 : decode cX10_isCouple 10 = .ok (.invokestatic 84, 3) := by decide +kernel
theorem dX10_isCouple_13 : decode cX10_isCouple 13 = .ok (.ireturn, 1) := by decide +kernel
theorem dX10_isTheme_0 : decode cX10_isTheme 0 = .ok (.iload_n 1, 1) := by decide +kernel
theorem dX10_isTheme_1 : decode cX10_isTheme 1 = .ok (.i2l, 1) := by decide +kernel
theorem dX10_isTheme_2 : decode cX10_isTheme 2 = .ok (.lconst 0, 1) := by decide +kernel
theorem dX10_isTheme_3 : decode cX10_isTheme 3 = .ok (.aload_n 0, 1) := by decide +kernel
theorem wd_500 : Cond.fieldLink RX10 17 "QuarrelBridgesModel" "themes" "I" ∈ BG := BG_at 787 (by decide +kernel) rfl
theorem dX10_isTheme_4 : decode cX10_isTheme 4 = .ok (.getfield 17, 3) := by decide +kernel
theorem dX10_isTheme_7 : decode cX10_isTheme 7 = .ok (.iconst 1, 1) := by decide +kernel
theorem dX10_isTheme_8 : decode cX10_isTheme 8 = .ok (.isub, 1) := by decide +kernel
theorem dX10_isTheme_9 : decode cX10_isTheme 9 = .ok (.i2l, 1) := by decide +kernel
theorem dX10_isTheme_10 : decode cX10_isTheme 10 = .ok (.invokestatic 84, 3) := by decide +kernel
theorem dX10_isTheme_13 : decode cX10_isTheme 13 = .ok (.ireturn, 1) := by decide +kernel
theorem dX10_isBarge_0 : decode cX10_isBarge 0 = .ok (.iload_n 1, 1) := by decide +kernel
theorem dX10_isBarge_1 : decode cX10_isBarge 1 = .ok (.i2l, 1) := by decide +kernel
theorem dX10_isBarge_2 : decode cX10_isBarge 2 = .ok (.lconst 0, 1) := by decide +kernel
theorem dX10_isBarge_3 : decode cX10_isBarge 3 = .ok (.aload_n 0, 1) := by decide +kernel
theorem wd_501 : Cond.fieldLink RX10 88 "QuarrelBridgesModel" "barges" "I" ∈ BG := BG_at 789 (by decide +kernel) rfl
theorem dX10_isBarge_4 : decode cX10_isBarge 4 = .ok (.getfield 88, 3) := by decide +kernel
theorem dX10_isBarge_7 : decode cX10_isBarge 7 = .ok (.iconst 1, 1) := by decide +kernel
theorem dX10_isBarge_8 : decode cX10_isBarge 8 = .ok (.isub, 1) := by decide +kernel
theorem dX10_isBarge_9 : decode cX10_isBarge 9 = .ok (.i2l, 1) := by decide +kernel
theorem dX10_isBarge_10 : decode cX10_isBarge 10 = .ok (.invokestatic 84, 3) := by decide +kernel
theorem dX10_isBarge_13 : decode cX10_isBarge 13 = .ok (.ireturn, 1) := by decide +kernel
theorem dX10_isDone_0 : decode cX10_isDone 0 = .ok (.aload_n 0, 1) := by decide +kernel
theorem dX10_isDone_1 : decode cX10_isDone 1 = .ok (.getfield 7, 3) := by decide +kernel
theorem dX10_isDone_4 : decode cX10_isDone 4 = .ok (.bipush 18, 2) := by decide +kernel
theorem dX10_isDone_6 : decode cX10_isDone 6 = .ok (.iaload, 1) := by decide +kernel
theorem dX10_isDone_7 : decode cX10_isDone 7 = .ok (.iload_n 1, 1) := by decide +kernel
theorem dX10_isDone_8 : decode cX10_isDone 8 = .ok (.invokestatic 183, 3) := by decide +kernel
theorem wd_502 : Cond.methodLink RX10 183 yX10_has ∈ BG := BG_at 992 (by decide +kernel) rfl
theorem wd_503 : Cond.code yX10_has cX10_has 2 (some .boolean) ∈ BG := BG_at 994 (by decide +kernel) rfl
theorem wd_504 : Cond.static yX10_has ∈ BG := BG_at 993 (by decide +kernel) rfl
theorem okS_X10_has : okS yX10_has cX10_has 2 (some .boolean) 2 := ⟨⟨wd_503, wd_497, by decide +kernel⟩, wd_504⟩
theorem dX10_isDone_11 : decode cX10_isDone 11 = .ok (.ireturn, 1) := by decide +kernel
theorem dX10_feed_0 : decode cX10_feed 0 = .ok (.iload_n 1, 1) := by decide +kernel
theorem dX10_feed_1 : decode cX10_feed 1 = .ok (.i2l, 1) := by decide +kernel
theorem dX10_feed_2 : decode cX10_feed 2 = .ok (.lconst 0, 1) := by decide +kernel
theorem wd_505 : Cond.constantLong RX10 91 (255) ∈ BG := BG_at 924 (by decide +kernel) rfl
theorem dX10_feed_3 : decode cX10_feed 3 = .ok (.ldc2_w 91, 3) := by decide +kernel
theorem dX10_feed_6 : decode cX10_feed 6 = .ok (.invokestatic 84, 3) := by decide +kernel
theorem dX10_feed_9 : decode cX10_feed 9 = .ok (.ifCond .ne 6, 3) := by decide +kernel
theorem dX10_feed_15 : decode cX10_feed 15 = .ok (.aload_n 0, 1) := by decide +kernel
theorem dX10_feed_16 : decode cX10_feed 16 = .ok (.getfield 94, 3) := by decide +kernel
theorem dX10_feed_19 : decode cX10_feed 19 = .ok (.sipush 240, 3) := by decide +kernel
theorem dX10_feed_22 : decode cX10_feed 22 = .ok (.if_icmp .ne 6, 3) := by decide +kernel
theorem dX10_feed_28 : decode cX10_feed 28 = .ok (.aload_n 0, 1) := by decide +kernel
theorem dX10_feed_29 : decode cX10_feed 29 = .ok (.getfield 36, 3) := by decide +kernel
theorem dX10_feed_32 : decode cX10_feed 32 = .ok (.aload_n 0, 1) := by decide +kernel
theorem dX10_feed_33 : decode cX10_feed 33 = .ok (.getfield 94, 3) := by decide +kernel
theorem dX10_feed_36 : decode cX10_feed 36 = .ok (.iload_n 1, 1) := by decide +kernel
theorem dX10_feed_37 : decode cX10_feed 37 = .ok (.iastore, 1) := by decide +kernel
theorem dX10_feed_38 : decode cX10_feed 38 = .ok (.aload_n 0, 1) := by decide +kernel
theorem dX10_feed_39 : decode cX10_feed 39 = .ok (.dup, 1) := by decide +kernel
theorem dX10_feed_40 : decode cX10_feed 40 = .ok (.getfield 94, 3) := by decide +kernel
theorem dX10_feed_43 : decode cX10_feed 43 = .ok (.iconst 1, 1) := by decide +kernel
theorem dX10_feed_44 : decode cX10_feed 44 = .ok (.iadd, 1) := by decide +kernel
theorem dX10_feed_45 : decode cX10_feed 45 = .ok (.putfield 94, 3) := by decide +kernel
theorem dX10_feed_48 : decode cX10_feed 48 = .ok (.aload_n 0, 1) := by decide +kernel
theorem dX10_feed_49 : decode cX10_feed 49 = .ok (.getfield 94, 3) := by decide +kernel
theorem dX10_feed_52 : decode cX10_feed 52 = .ok (.ireturn, 1) := by decide +kernel
theorem wd_506 : Cond.constant RX10 97 (-1000000004) ∈ BG := BG_at 929 (by decide +kernel) rfl
theorem dX10_feed_25 : decode cX10_feed 25 = .ok (.ldc 97, 2) := by decide +kernel
theorem dX10_feed_27 : decode cX10_feed 27 = .ok (.ireturn, 1) := by decide +kernel
theorem wd_507 : Cond.constant RX10 93 (-1000000002) ∈ BG := BG_at 928 (by decide +kernel) rfl
theorem dX10_feed_12 : decode cX10_feed 12 = .ok (.ldc 93, 2) := by decide +kernel
theorem dX10_feed_14 : decode cX10_feed 14 = .ok (.ireturn, 1) := by decide +kernel
theorem dX10_here_26 : decode cX10_here 26 = .ok (.aload_n 0, 1) := by decide +kernel
theorem dX10_here_27 : decode cX10_here 27 = .ok (.aload_n 0, 1) := by decide +kernel
theorem wd_508 : Cond.fieldLink RX10 98 "QuarrelBridgesModel" "at" "I" ∈ BG := BG_at 798 (by decide +kernel) rfl
theorem dX10_here_28 : decode cX10_here 28 = .ok (.getfield 98, 3) := by decide +kernel
theorem wd_509 : Cond.fieldLink RX10 105 "QuarrelBridgesModel" "start" "I" ∈ BG := BG_at 799 (by decide +kernel) rfl
theorem dX10_here_31 : decode cX10_here 31 = .ok (.putfield 105, 3) := by decide +kernel
theorem dX10_here_34 : decode cX10_here 34 = .ok (.aload_n 0, 1) := by decide +kernel
theorem dX10_here_35 : decode cX10_here 35 = .ok (.aload_n 0, 1) := by decide +kernel
theorem dX10_here_36 : decode cX10_here 36 = .ok (.getfield 98, 3) := by decide +kernel
theorem dX10_here_39 : decode cX10_here 39 = .ok (.invokevirtual 101, 3) := by decide +kernel
theorem wd_510 : Cond.methodLink RX10 101 yX10_letterAt ∈ BG := BG_at 938 (by decide +kernel) rfl
theorem wd_511 : Cond.code yX10_letterAt cX10_letterAt 2 (some .int) ∈ BG := BG_at 941 (by decide +kernel) rfl
theorem wd_512 : Cond.instanceMethod yX10_letterAt ∈ BG := BG_at 940 (by decide +kernel) rfl
theorem wd_513 : Cond.selects RX10 yX10_letterAt yX10_letterAt ∈ BG := BG_in (by decide +kernel) rfl
theorem okV_X10_letterAt : okV yX10_letterAt cX10_letterAt 2 (some .int) 1 := ⟨⟨wd_511, wd_497, by decide +kernel⟩, wd_512, wd_513⟩
theorem dX10_here_42 : decode cX10_here 42 = .ok (.ireturn, 1) := by decide +kernel
theorem dX10_here_0 : decode cX10_here 0 = .ok (.aload_n 0, 1) := by decide +kernel
theorem dX10_here_1 : decode cX10_here 1 = .ok (.aload_n 0, 1) := by decide +kernel
theorem dX10_here_2 : decode cX10_here 2 = .ok (.getfield 98, 3) := by decide +kernel
theorem dX10_here_5 : decode cX10_here 5 = .ok (.invokevirtual 101, 3) := by decide +kernel
theorem dX10_here_8 : decode cX10_here 8 = .ok (.bipush 32, 2) := by decide +kernel
theorem dX10_here_10 : decode cX10_here 10 = .ok (.if_icmp .ne 16, 3) := by decide +kernel
theorem dX10_here_13 : decode cX10_here 13 = .ok (.aload_n 0, 1) := by decide +kernel
theorem dX10_here_14 : decode cX10_here 14 = .ok (.dup, 1) := by decide +kernel
theorem dX10_here_15 : decode cX10_here 15 = .ok (.getfield 98, 3) := by decide +kernel
theorem dX10_here_18 : decode cX10_here 18 = .ok (.iconst 1, 1) := by decide +kernel
theorem dX10_here_19 : decode cX10_here 19 = .ok (.iadd, 1) := by decide +kernel
theorem dX10_here_20 : decode cX10_here 20 = .ok (.putfield 98, 3) := by decide +kernel
theorem dX10_here_23 : decode cX10_here 23 = .ok (.goto (-23), 3) := by decide +kernel
theorem dX10_fails_0 : decode cX10_fails 0 = .ok (.aload_n 0, 1) := by decide +kernel
theorem dX10_fails_1 : decode cX10_fails 1 = .ok (.iload_n 1, 1) := by decide +kernel
theorem wd_514 : Cond.fieldLink RX10 108 "QuarrelBridgesModel" "faulty" "I" ∈ BG := BG_at 801 (by decide +kernel) rfl
theorem dX10_fails_2 : decode cX10_fails 2 = .ok (.putfield 108, 3) := by decide +kernel
theorem dX10_fails_5 : decode cX10_fails 5 = .ok (.aload_n 0, 1) := by decide +kernel
theorem dX10_fails_6 : decode cX10_fails 6 = .ok (.iload_n 2, 1) := by decide +kernel
theorem wd_515 : Cond.fieldLink RX10 39 "QuarrelBridgesModel" "faultAt" "I" ∈ BG := BG_at 802 (by decide +kernel) rfl
theorem dX10_fails_7 : decode cX10_fails 7 = .ok (.putfield 39, 3) := by decide +kernel
theorem dX10_fails_10 : decode cX10_fails 10 = .ok (.iconst 0, 1) := by decide +kernel
theorem dX10_fails_11 : decode cX10_fails 11 = .ok (.ireturn, 1) := by decide +kernel
theorem dX10_takes_0 : decode cX10_takes 0 = .ok (.aload_n 0, 1) := by decide +kernel
theorem dX10_takes_1 : decode cX10_takes 1 = .ok (.invokevirtual 111, 3) := by decide +kernel
theorem wd_516 : Cond.methodLink RX10 111 yX10_here ∈ BG := BG_at 934 (by decide +kernel) rfl
theorem wd_517 : Cond.code yX10_here cX10_here 1 (some .int) ∈ BG := BG_at 937 (by decide +kernel) rfl
theorem wd_518 : Cond.instanceMethod yX10_here ∈ BG := BG_at 936 (by decide +kernel) rfl
theorem wd_519 : Cond.selects RX10 yX10_here yX10_here ∈ BG := BG_in (by decide +kernel) rfl
theorem okV_X10_here : okV yX10_here cX10_here 1 (some .int) 0 := ⟨⟨wd_517, wd_497, by decide +kernel⟩, wd_518, wd_519⟩
theorem dX10_takes_4 : decode cX10_takes 4 = .ok (.iload_n 1, 1) := by decide +kernel
theorem dX10_takes_5 : decode cX10_takes 5 = .ok (.if_icmp .eq 13, 3) := by decide +kernel
theorem dX10_takes_18 : decode cX10_takes 18 = .ok (.aload_n 0, 1) := by decide +kernel
theorem dX10_takes_19 : decode cX10_takes 19 = .ok (.dup, 1) := by decide +kernel
theorem dX10_takes_20 : decode cX10_takes 20 = .ok (.getfield 98, 3) := by decide +kernel
theorem dX10_takes_23 : decode cX10_takes 23 = .ok (.iconst 1, 1) := by decide +kernel
theorem dX10_takes_24 : decode cX10_takes 24 = .ok (.iadd, 1) := by decide +kernel
theorem dX10_takes_25 : decode cX10_takes 25 = .ok (.putfield 98, 3) := by decide +kernel
theorem dX10_takes_28 : decode cX10_takes 28 = .ok (.iconst 1, 1) := by decide +kernel
theorem dX10_takes_29 : decode cX10_takes 29 = .ok (.ireturn, 1) := by decide +kernel
theorem dX10_takes_8 : decode cX10_takes 8 = .ok (.aload_n 0, 1) := by decide +kernel
theorem dX10_takes_9 : decode cX10_takes 9 = .ok (.iconst 1, 1) := by decide +kernel
theorem dX10_takes_10 : decode cX10_takes 10 = .ok (.aload_n 0, 1) := by decide +kernel
theorem dX10_takes_11 : decode cX10_takes 11 = .ok (.getfield 105, 3) := by decide +kernel
theorem dX10_takes_14 : decode cX10_takes 14 = .ok (.invokevirtual 115, 3) := by decide +kernel
theorem wd_520 : Cond.methodLink RX10 115 yX10_fails ∈ BG := BG_at 946 (by decide +kernel) rfl
theorem wd_521 : Cond.code yX10_fails cX10_fails 3 (some .boolean) ∈ BG := BG_at 949 (by decide +kernel) rfl
theorem wd_522 : Cond.instanceMethod yX10_fails ∈ BG := BG_at 948 (by decide +kernel) rfl
theorem wd_523 : Cond.selects RX10 yX10_fails yX10_fails ∈ BG := BG_in (by decide +kernel) rfl
theorem okV_X10_fails : okV yX10_fails cX10_fails 3 (some .boolean) 2 := ⟨⟨wd_521, wd_497, by decide +kernel⟩, wd_522, wd_523⟩
theorem dX10_takes_17 : decode cX10_takes 17 = .ok (.ireturn, 1) := by decide +kernel
theorem m_in01 (x y z : Int64) : f_m_in x y z = 0 ∨ f_m_in x y z = 1 := by
  unfold f_m_in
  repeat' split
  all_goals first | exact Or.inl rfl | exact Or.inr rfl
theorem m_has01 (x y : Int32) : f_m_has x y = 0 ∨ f_m_has x y = 1 := by
  unfold f_m_has
  repeat' split
  all_goals first | exact Or.inl rfl | exact Or.inr rfl
noncomputable def f_m_isBridge (G : Nat → Int32) (v_ : Int32) : Int32 := (f_m_in v_.toInt64 0 ((((G 3) - 1)).toInt64))
def S_m_isBridge (G : Nat → Int32) (v_ : Int32) : Prop := ((S_m_in v_.toInt64 0 ((((G 3) - 1)).toInt64)) ∧ True)
def rm_m_isBridge : Room := { frames := 1, cells := 0, slots := 0, locals := 25 }
set_option maxHeartbeats 4000000 in
set_option maxRecDepth 100000 in
theorem m_isBridge {l : Launch} {D : va_G} {cI cZ : ClassId} {sz : Nat} (Rf : Nat → Nat) (h : Nat) (G : Nat → Int32) (v_ : Int32) (hF : S_m_isBridge G v_) : KI l yX10_isBridge cX10_isBridge 2 (some .boolean) rm_m_isBridge D cI cZ [.ref h, .int v_] sz [(h, .inr (10, ML G Rf))] (fun (r : Int32) (_ : Unit) => r = f_m_isBridge G v_) (fun (_ : Unit) => [(h, .inr (10, ML G Rf))]) := by
  refine KI.go rfl (Nat.le_of_ble_eq_true rfl) ?_
  intro p e s m args below meth c ls A Q hx hb hml hts hown hin hP hK hD hS hA hN hl hret
  have hl : lv_has ls 2 [(0, .ref h), (1, .int v_)] := hl
  rw [S_m_isBridge] at hF
  obtain ⟨RES, hE⟩ : ∃ xRES, f_m_isBridge G v_ = xRES := ⟨_, rfl⟩
  rw [hE] at hret
  rw [f_m_isBridge] at hE
  refine lv_iload_n hx hb dX10_isBridge_0 rfl (lv_at hl 1 rfl) ?_
  refine lv_i2l (v := v_.toInt64) hx hb dX10_isBridge_1 rfl ?_
  refine lv_lconst (v := 0) hx hb dX10_isBridge_2 (by decide) ?_
  refine lv_aload_n hx hb dX10_isBridge_3 rfl (lv_at hl 0 rfl) ?_
  refine va_get (D := D) (ci := 10) (v := .int (G 3)) (C := RX10) (T := TX10) (N := 45) hx hb hts iX10 hown hK hP 0 rfl rfl 3 (by decide) (hts _ wd_494) (fun _ h9 => h9) rfl dX10_isBridge_4 ?_
  refine lv_iconst (v := 1) hx hb dX10_isBridge_7 (by decide) ?_
  refine lv_isub hx hb dX10_isBridge_8 ?_
  refine lv_i2l (v := (((G 3) - 1)).toInt64) hx hb dX10_isBridge_9 rfl ?_
  obtain ⟨hs_1, hF⟩ := hF
  refine cSi (wr := [(h, .inr (10, ML G Rf))]) (rest := []) (m_in v_.toInt64 0 ((((G 3) - 1)).toInt64) hs_1) okS_X10_in wd_495 hx hb hml hown hts hK hP hD hS hA hN hl.1 [] [0] rfl rfl rfl rfl (by decide) rfl (Nat.le_of_ble_eq_true rfl) (Nat.le_of_ble_eq_true rfl) (Nat.le_of_ble_eq_true rfl) (Nat.le_of_ble_eq_true rfl) (Nat.le_of_ble_eq_true rfl) dX10_isBridge_10 (fun r_3 u_2 H locs hw_u_2 hP hD hS => ?_)
  replace hw_u_2 : r_3 = (f_m_in v_.toInt64 0 ((((G 3) - 1)).toInt64)) := hw_u_2
  rw [hw_u_2]
  clear hw_u_2
  have hP : va_P D classes [(h, .inr (10, ML G Rf))] H := hP
  have hD : va_D A [(h, .inr (10, ML G Rf))] := hD
  exact hret (f_m_in v_.toInt64 0 ((((G 3) - 1)).toInt64)) () _ _ _ _ dX10_isBridge_13 (narrow_b01 (m_in01 _ _ _)) hE hP hD hS
noncomputable def f_m_isCouple (G : Nat → Int32) (v_ : Int32) : Int32 := (f_m_in v_.toInt64 0 ((((G 5) - 1)).toInt64))
def S_m_isCouple (G : Nat → Int32) (v_ : Int32) : Prop := ((S_m_in v_.toInt64 0 ((((G 5) - 1)).toInt64)) ∧ True)
def rm_m_isCouple : Room := { frames := 1, cells := 0, slots := 0, locals := 25 }
set_option maxHeartbeats 4000000 in
set_option maxRecDepth 100000 in
theorem m_isCouple {l : Launch} {D : va_G} {cI cZ : ClassId} {sz : Nat} (Rf : Nat → Nat) (h : Nat) (G : Nat → Int32) (v_ : Int32) (hF : S_m_isCouple G v_) : KI l yX10_isCouple cX10_isCouple 2 (some .boolean) rm_m_isCouple D cI cZ [.ref h, .int v_] sz [(h, .inr (10, ML G Rf))] (fun (r : Int32) (_ : Unit) => r = f_m_isCouple G v_) (fun (_ : Unit) => [(h, .inr (10, ML G Rf))]) := by
  refine KI.go rfl (Nat.le_of_ble_eq_true rfl) ?_
  intro p e s m args below meth c ls A Q hx hb hml hts hown hin hP hK hD hS hA hN hl hret
  have hl : lv_has ls 2 [(0, .ref h), (1, .int v_)] := hl
  rw [S_m_isCouple] at hF
  obtain ⟨RES, hE⟩ : ∃ xRES, f_m_isCouple G v_ = xRES := ⟨_, rfl⟩
  rw [hE] at hret
  rw [f_m_isCouple] at hE
  refine lv_iload_n hx hb dX10_isCouple_0 rfl (lv_at hl 1 rfl) ?_
  refine lv_i2l (v := v_.toInt64) hx hb dX10_isCouple_1 rfl ?_
  refine lv_lconst (v := 0) hx hb dX10_isCouple_2 (by decide) ?_
  refine lv_aload_n hx hb dX10_isCouple_3 rfl (lv_at hl 0 rfl) ?_
  refine va_get (D := D) (ci := 10) (v := .int (G 5)) (C := RX10) (T := TX10) (N := 45) hx hb hts iX10 hown hK hP 0 rfl rfl 5 (by decide) (hts _ wd_499) (fun _ h9 => h9) rfl dX10_isCouple_4 ?_
  refine lv_iconst (v := 1) hx hb dX10_isCouple_7 (by decide) ?_
  refine lv_isub hx hb dX10_isCouple_8 ?_
  refine lv_i2l (v := (((G 5) - 1)).toInt64) hx hb dX10_isCouple_9 rfl ?_
  obtain ⟨hs_1, hF⟩ := hF
  refine cSi (wr := [(h, .inr (10, ML G Rf))]) (rest := []) (m_in v_.toInt64 0 ((((G 5) - 1)).toInt64) hs_1) okS_X10_in wd_495 hx hb hml hown hts hK hP hD hS hA hN hl.1 [] [0] rfl rfl rfl rfl (by decide) rfl (Nat.le_of_ble_eq_true rfl) (Nat.le_of_ble_eq_true rfl) (Nat.le_of_ble_eq_true rfl) (Nat.le_of_ble_eq_true rfl) (Nat.le_of_ble_eq_true rfl) dX10_isCouple_10 (fun r_3 u_2 H locs hw_u_2 hP hD hS => ?_)
  replace hw_u_2 : r_3 = (f_m_in v_.toInt64 0 ((((G 5) - 1)).toInt64)) := hw_u_2
  rw [hw_u_2]
  clear hw_u_2
  have hP : va_P D classes [(h, .inr (10, ML G Rf))] H := hP
  have hD : va_D A [(h, .inr (10, ML G Rf))] := hD
  exact hret (f_m_in v_.toInt64 0 ((((G 5) - 1)).toInt64)) () _ _ _ _ dX10_isCouple_13 (narrow_b01 (m_in01 _ _ _)) hE hP hD hS
noncomputable def f_m_isTheme (G : Nat → Int32) (v_ : Int32) : Int32 := (f_m_in v_.toInt64 0 ((((G 4) - 1)).toInt64))
def S_m_isTheme (G : Nat → Int32) (v_ : Int32) : Prop := ((S_m_in v_.toInt64 0 ((((G 4) - 1)).toInt64)) ∧ True)
def rm_m_isTheme : Room := { frames := 1, cells := 0, slots := 0, locals := 25 }
set_option maxHeartbeats 4000000 in
set_option maxRecDepth 100000 in
theorem m_isTheme {l : Launch} {D : va_G} {cI cZ : ClassId} {sz : Nat} (Rf : Nat → Nat) (h : Nat) (G : Nat → Int32) (v_ : Int32) (hF : S_m_isTheme G v_) : KI l yX10_isTheme cX10_isTheme 2 (some .boolean) rm_m_isTheme D cI cZ [.ref h, .int v_] sz [(h, .inr (10, ML G Rf))] (fun (r : Int32) (_ : Unit) => r = f_m_isTheme G v_) (fun (_ : Unit) => [(h, .inr (10, ML G Rf))]) := by
  refine KI.go rfl (Nat.le_of_ble_eq_true rfl) ?_
  intro p e s m args below meth c ls A Q hx hb hml hts hown hin hP hK hD hS hA hN hl hret
  have hl : lv_has ls 2 [(0, .ref h), (1, .int v_)] := hl
  rw [S_m_isTheme] at hF
  obtain ⟨RES, hE⟩ : ∃ xRES, f_m_isTheme G v_ = xRES := ⟨_, rfl⟩
  rw [hE] at hret
  rw [f_m_isTheme] at hE
  refine lv_iload_n hx hb dX10_isTheme_0 rfl (lv_at hl 1 rfl) ?_
  refine lv_i2l (v := v_.toInt64) hx hb dX10_isTheme_1 rfl ?_
  refine lv_lconst (v := 0) hx hb dX10_isTheme_2 (by decide) ?_
  refine lv_aload_n hx hb dX10_isTheme_3 rfl (lv_at hl 0 rfl) ?_
  refine va_get (D := D) (ci := 10) (v := .int (G 4)) (C := RX10) (T := TX10) (N := 45) hx hb hts iX10 hown hK hP 0 rfl rfl 4 (by decide) (hts _ wd_500) (fun _ h9 => h9) rfl dX10_isTheme_4 ?_
  refine lv_iconst (v := 1) hx hb dX10_isTheme_7 (by decide) ?_
  refine lv_isub hx hb dX10_isTheme_8 ?_
  refine lv_i2l (v := (((G 4) - 1)).toInt64) hx hb dX10_isTheme_9 rfl ?_
  obtain ⟨hs_1, hF⟩ := hF
  refine cSi (wr := [(h, .inr (10, ML G Rf))]) (rest := []) (m_in v_.toInt64 0 ((((G 4) - 1)).toInt64) hs_1) okS_X10_in wd_495 hx hb hml hown hts hK hP hD hS hA hN hl.1 [] [0] rfl rfl rfl rfl (by decide) rfl (Nat.le_of_ble_eq_true rfl) (Nat.le_of_ble_eq_true rfl) (Nat.le_of_ble_eq_true rfl) (Nat.le_of_ble_eq_true rfl) (Nat.le_of_ble_eq_true rfl) dX10_isTheme_10 (fun r_3 u_2 H locs hw_u_2 hP hD hS => ?_)
  replace hw_u_2 : r_3 = (f_m_in v_.toInt64 0 ((((G 4) - 1)).toInt64)) := hw_u_2
  rw [hw_u_2]
  clear hw_u_2
  have hP : va_P D classes [(h, .inr (10, ML G Rf))] H := hP
  have hD : va_D A [(h, .inr (10, ML G Rf))] := hD
  exact hret (f_m_in v_.toInt64 0 ((((G 4) - 1)).toInt64)) () _ _ _ _ dX10_isTheme_13 (narrow_b01 (m_in01 _ _ _)) hE hP hD hS
noncomputable def f_m_isBarge (G : Nat → Int32) (v_ : Int32) : Int32 := (f_m_in v_.toInt64 0 ((((G 6) - 1)).toInt64))
def S_m_isBarge (G : Nat → Int32) (v_ : Int32) : Prop := ((S_m_in v_.toInt64 0 ((((G 6) - 1)).toInt64)) ∧ True)
def rm_m_isBarge : Room := { frames := 1, cells := 0, slots := 0, locals := 25 }
set_option maxHeartbeats 4000000 in
set_option maxRecDepth 100000 in
theorem m_isBarge {l : Launch} {D : va_G} {cI cZ : ClassId} {sz : Nat} (Rf : Nat → Nat) (h : Nat) (G : Nat → Int32) (v_ : Int32) (hF : S_m_isBarge G v_) : KI l yX10_isBarge cX10_isBarge 2 (some .boolean) rm_m_isBarge D cI cZ [.ref h, .int v_] sz [(h, .inr (10, ML G Rf))] (fun (r : Int32) (_ : Unit) => r = f_m_isBarge G v_) (fun (_ : Unit) => [(h, .inr (10, ML G Rf))]) := by
  refine KI.go rfl (Nat.le_of_ble_eq_true rfl) ?_
  intro p e s m args below meth c ls A Q hx hb hml hts hown hin hP hK hD hS hA hN hl hret
  have hl : lv_has ls 2 [(0, .ref h), (1, .int v_)] := hl
  rw [S_m_isBarge] at hF
  obtain ⟨RES, hE⟩ : ∃ xRES, f_m_isBarge G v_ = xRES := ⟨_, rfl⟩
  rw [hE] at hret
  rw [f_m_isBarge] at hE
  refine lv_iload_n hx hb dX10_isBarge_0 rfl (lv_at hl 1 rfl) ?_
  refine lv_i2l (v := v_.toInt64) hx hb dX10_isBarge_1 rfl ?_
  refine lv_lconst (v := 0) hx hb dX10_isBarge_2 (by decide) ?_
  refine lv_aload_n hx hb dX10_isBarge_3 rfl (lv_at hl 0 rfl) ?_
  refine va_get (D := D) (ci := 10) (v := .int (G 6)) (C := RX10) (T := TX10) (N := 45) hx hb hts iX10 hown hK hP 0 rfl rfl 6 (by decide) (hts _ wd_501) (fun _ h9 => h9) rfl dX10_isBarge_4 ?_
  refine lv_iconst (v := 1) hx hb dX10_isBarge_7 (by decide) ?_
  refine lv_isub hx hb dX10_isBarge_8 ?_
  refine lv_i2l (v := (((G 6) - 1)).toInt64) hx hb dX10_isBarge_9 rfl ?_
  obtain ⟨hs_1, hF⟩ := hF
  refine cSi (wr := [(h, .inr (10, ML G Rf))]) (rest := []) (m_in v_.toInt64 0 ((((G 6) - 1)).toInt64) hs_1) okS_X10_in wd_495 hx hb hml hown hts hK hP hD hS hA hN hl.1 [] [0] rfl rfl rfl rfl (by decide) rfl (Nat.le_of_ble_eq_true rfl) (Nat.le_of_ble_eq_true rfl) (Nat.le_of_ble_eq_true rfl) (Nat.le_of_ble_eq_true rfl) (Nat.le_of_ble_eq_true rfl) dX10_isBarge_10 (fun r_3 u_2 H locs hw_u_2 hP hD hS => ?_)
  replace hw_u_2 : r_3 = (f_m_in v_.toInt64 0 ((((G 6) - 1)).toInt64)) := hw_u_2
  rw [hw_u_2]
  clear hw_u_2
  have hP : va_P D classes [(h, .inr (10, ML G Rf))] H := hP
  have hD : va_D A [(h, .inr (10, ML G Rf))] := hD
  exact hret (f_m_in v_.toInt64 0 ((((G 6) - 1)).toInt64)) () _ _ _ _ dX10_isBarge_13 (narrow_b01 (m_in01 _ _ _)) hE hP hD hS
noncomputable def f_m_isDone (f0 : Nat → Int32) (c_ : Int32) : Int32 := (f_m_has (f0 (18 : Int32).toNatClampNeg) c_)
def S_m_isDone (f0 : Nat → Int32) (c_ : Int32) : Prop := ((S_m_has (f0 (18 : Int32).toNatClampNeg) c_) ∧ True)
def rm_m_isDone : Room := { frames := 1, cells := 0, slots := 0, locals := 21 }
set_option maxHeartbeats 4000000 in
set_option maxRecDepth 100000 in
theorem m_isDone {l : Launch} {D : va_G} {cI cZ : ClassId} {sz : Nat} (Rf : Nat → Nat) (h : Nat) (G : Nat → Int32) (f0 : Nat → Int32) (c_ : Int32) (hF : S_m_isDone f0 c_) : KI l yX10_isDone cX10_isDone 2 (some .boolean) rm_m_isDone D cI cZ [.ref h, .int c_] sz [(h, .inr (10, ML G Rf)), ((Rf 0), .inl (cI, 1302, .inl f0))] (fun (r : Int32) (_ : Unit) => r = f_m_isDone f0 c_) (fun (_ : Unit) => [(h, .inr (10, ML G Rf)), ((Rf 0), .inl (cI, 1302, .inl f0))]) := by
  refine KI.go rfl (Nat.le_of_ble_eq_true rfl) ?_
  intro p e s m args below meth c ls A Q hx hb hml hts hown hin hP hK hD hS hA hN hl hret
  have hl : lv_has ls 2 [(0, .ref h), (1, .int c_)] := hl
  rw [S_m_isDone] at hF
  obtain ⟨RES, hE⟩ : ∃ xRES, f_m_isDone f0 c_ = xRES := ⟨_, rfl⟩
  rw [hE] at hret
  rw [f_m_isDone] at hE
  refine lv_aload_n hx hb dX10_isDone_0 rfl (lv_at hl 0 rfl) ?_
  refine va_get (D := D) (ci := 10) (v := .ref (Rf 0)) (C := RX10) (T := TX10) (N := 45) hx hb hts iX10 hown hK hP 0 rfl rfl 0 (by decide) (hts _ wd_491) (fun _ h9 => h9) rfl dX10_isDone_1 ?_
  refine lv_bipush (v := 18) hx hb dX10_isDone_4 (by decide) ?_
  refine va_iald hx hb hK hP 1 0 rfl rfl (show ¬ ((18 : Int32) < 0 ∨ 1302 ≤ (18 : Int32).toNatClampNeg) by decide +kernel) dX10_isDone_6 ?_
  refine lv_iload_n hx hb dX10_isDone_7 rfl (lv_at hl 1 rfl) ?_
  obtain ⟨hs_1, hF⟩ := hF
  refine cSi (wr := [(h, .inr (10, ML G Rf)), ((Rf 0), .inl (cI, 1302, .inl f0))]) (rest := []) (m_has (f0 (18 : Int32).toNatClampNeg) c_ hs_1) okS_X10_has wd_502 hx hb hml hown hts hK hP hD hS hA hN hl.1 [] [0, 1] rfl rfl rfl rfl (by decide) rfl (Nat.le_of_ble_eq_true rfl) (Nat.le_of_ble_eq_true rfl) (Nat.le_of_ble_eq_true rfl) (Nat.le_of_ble_eq_true rfl) (Nat.le_of_ble_eq_true rfl) dX10_isDone_8 (fun r_3 u_2 H locs hw_u_2 hP hD hS => ?_)
  replace hw_u_2 : r_3 = (f_m_has (f0 (18 : Int32).toNatClampNeg) c_) := hw_u_2
  rw [hw_u_2]
  clear hw_u_2
  have hP : va_P D classes [(h, .inr (10, ML G Rf)), ((Rf 0), .inl (cI, 1302, .inl f0))] H := hP
  have hD : va_D A [(h, .inr (10, ML G Rf)), ((Rf 0), .inl (cI, 1302, .inl f0))] := hD
  exact hret (f_m_has (f0 (18 : Int32).toNatClampNeg) c_) () _ _ _ _ dX10_isDone_11 (narrow_b01 (m_has01 _ _)) hE hP hD hS
noncomputable def f_m_feed (G : Nat → Int32) (f13 : Nat → Int32) (c_ : Int32) : Int32 × (Nat → Int32) × (Nat → Int32) := (if (f_m_in c_.toInt64 0 255) = 0 then ((-1000000002), G, f13) else (if (G 14) = 240 then ((-1000000004), G, f13) else (((G 14) + 1), (upd G 14 ((G 14) + 1)), (upd f13 ((G 14) : Int32).toNatClampNeg c_))))
def S_m_feed (G : Nat → Int32) (f13 : Nat → Int32) (c_ : Int32) : Prop := ((S_m_in c_.toInt64 0 255) ∧ (((f_m_in c_.toInt64 0 255) = 0 → True) ∧ (¬ (f_m_in c_.toInt64 0 255) = 0 → (((G 14) = 240 → True) ∧ (¬ (G 14) = 240 → (vp_in (G 14) 240 ∧ True))))))
def rm_m_feed : Room := { frames := 1, cells := 0, slots := 0, locals := 25 }
set_option maxHeartbeats 4000000 in
set_option maxRecDepth 100000 in
theorem m_feed {l : Launch} {D : va_G} {cI cZ : ClassId} {sz : Nat} (Rf : Nat → Nat) (h : Nat) (G : Nat → Int32) (f13 : Nat → Int32) (c_ : Int32) (hF : S_m_feed G f13 c_) : KI l yX10_feed cX10_feed 2 (some .int) rm_m_feed D cI cZ [.ref h, .int c_] sz [(h, .inr (10, ML G Rf)), ((Rf 13), .inl (cI, 240, .inl f13))] (fun (r : Int32) (u : (Nat → Int32) × (Nat → Int32)) => (r, u) = f_m_feed G f13 c_) (fun (u : (Nat → Int32) × (Nat → Int32)) => [(h, .inr (10, ML u.1 Rf)), ((Rf 13), .inl (cI, 240, .inl u.2))]) := by
  refine KI.go rfl (Nat.le_of_ble_eq_true rfl) ?_
  intro p e s m args below meth c ls A Q hx hb hml hts hown hin hP hK hD hS hA hN hl hret
  have hl : lv_has ls 2 [(0, .ref h), (1, .int c_)] := hl
  rw [S_m_feed] at hF
  obtain ⟨RES, hE⟩ : ∃ xRES, f_m_feed G f13 c_ = xRES := ⟨_, rfl⟩
  rw [hE] at hret
  rw [f_m_feed] at hE
  refine lv_iload_n hx hb dX10_feed_0 rfl (lv_at hl 1 rfl) ?_
  refine lv_i2l (v := c_.toInt64) hx hb dX10_feed_1 rfl ?_
  refine lv_lconst (v := 0) hx hb dX10_feed_2 (by decide) ?_
  refine lv_ldc2 (v := 255) hx hb hown (hts _ wd_505) dX10_feed_3 ?_
  obtain ⟨hs_1, hF⟩ := hF
  refine cSi (wr := [(h, .inr (10, ML G Rf)), ((Rf 13), .inl (cI, 240, .inl f13))]) (rest := []) (m_in c_.toInt64 0 255 hs_1) okS_X10_in wd_495 hx hb hml hown hts hK hP hD hS hA hN hl.1 [] [0, 1] rfl rfl rfl rfl (by decide) rfl (Nat.le_of_ble_eq_true rfl) (Nat.le_of_ble_eq_true rfl) (Nat.le_of_ble_eq_true rfl) (Nat.le_of_ble_eq_true rfl) (Nat.le_of_ble_eq_true rfl) dX10_feed_6 (fun r_3 u_2 H locs hw_u_2 hP hD hS => ?_)
  replace hw_u_2 : r_3 = (f_m_in c_.toInt64 0 255) := hw_u_2
  rw [hw_u_2]
  clear hw_u_2
  have hP : va_P D classes [(h, .inr (10, ML G Rf)), ((Rf 13), .inl (cI, 240, .inl f13))] H := hP
  have hD : va_D A [(h, .inr (10, ML G Rf)), ((Rf 13), .inl (cI, 240, .inl f13))] := hD
  refine lv_if_ne (tgt := 15) hx hb dX10_feed_9 (by decide) (fun c_4 => ?_) (fun c_4 => ?_)
  · replace hF := hF.2 c_4
    rw [if_neg c_4] at hE
    refine lv_aload_n hx hb dX10_feed_15 rfl (lv_at hl 0 rfl) ?_
    refine va_get (D := D) (ci := 10) (v := .int (G 14)) (C := RX10) (T := TX10) (N := 45) hx hb hts iX10 hown hK hP 0 rfl rfl 14 (by decide) (hts _ wd_492) (fun _ h9 => h9) rfl dX10_feed_16 ?_
    refine lv_sipush (v := 240) hx hb dX10_feed_19 (by decide) ?_
    refine lv_icmp_ne (tgt := 28) hx hb dX10_feed_22 (by decide) (fun c_5 => ?_) (fun c_5 => ?_)
    · replace hF := hF.2 c_5
      rw [if_neg c_5] at hE
      refine lv_aload_n hx hb dX10_feed_28 rfl (lv_at hl 0 rfl) ?_
      refine va_get (D := D) (ci := 10) (v := .ref (Rf 13)) (C := RX10) (T := TX10) (N := 45) hx hb hts iX10 hown hK hP 0 rfl rfl 13 (by decide) (hts _ wd_493) (fun _ h9 => h9) rfl dX10_feed_29 ?_
      refine lv_aload_n hx hb dX10_feed_32 rfl (lv_at hl 0 rfl) ?_
      refine va_get (D := D) (ci := 10) (v := .int (G 14)) (C := RX10) (T := TX10) (N := 45) hx hb hts iX10 hown hK hP 0 rfl rfl 14 (by decide) (hts _ wd_492) (fun _ h9 => h9) rfl dX10_feed_33 ?_
      refine lv_iload_n hx hb dX10_feed_36 rfl (lv_at hl 1 rfl) ?_
      obtain ⟨hv_6, hF⟩ := hF
      refine va_iast hx hb hK hP hD hS 1 0 rfl rfl hv_6 dX10_feed_37 (fun H locs hP hD hS => ?_)
      have hP : va_P D classes [(h, .inr (10, ML G Rf)), ((Rf 13), .inl (cI, 240, .inl (upd f13 ((G 14) : Int32).toNatClampNeg c_)))] H := hP
      have hD : va_D A [(h, .inr (10, ML G Rf)), ((Rf 13), .inl (cI, 240, .inl (upd f13 ((G 14) : Int32).toNatClampNeg c_)))] := hD
      refine lv_aload_n hx hb dX10_feed_38 rfl (lv_at hl 0 rfl) ?_
      refine lv_dup hx hb dX10_feed_39 rfl ?_
      refine va_get (D := D) (ci := 10) (v := .int (G 14)) (C := RX10) (T := TX10) (N := 45) hx hb hts iX10 hown hK hP 0 rfl rfl 14 (by decide) (hts _ wd_492) (fun _ h9 => h9) rfl dX10_feed_40 ?_
      refine lv_iconst (v := 1) hx hb dX10_feed_43 (by decide) ?_
      refine lv_iadd hx hb dX10_feed_44 ?_
      refine va_put (D := D) (ci := 10) (v := .int ((G 14) + 1)) (ty := .int) (C := RX10) (T := TX10) (N := 45) hx hb hts iX10 tyX10 tyX10_ok nmX10 hown hK hP hD hS 0 rfl rfl 14 (by decide) (hts _ wd_492) (fun _ h9 => h9) rfl (by decide +kernel) rfl rfl (Nat.le_of_ble_eq_true rfl) dX10_feed_45 (fun H locs hP hD hS => ?_)
      have hP : va_P D classes [(h, .inr (10, ML (upd G 14 ((G 14) + 1)) Rf)), ((Rf 13), .inl (cI, 240, .inl (upd f13 ((G 14) : Int32).toNatClampNeg c_)))] H := hP
      have hD : va_D A [(h, .inr (10, ML (upd G 14 ((G 14) + 1)) Rf)), ((Rf 13), .inl (cI, 240, .inl (upd f13 ((G 14) : Int32).toNatClampNeg c_)))] := hD
      refine lv_aload_n hx hb dX10_feed_48 rfl (lv_at hl 0 rfl) ?_
      refine va_get (D := D) (ci := 10) (v := .int ((G 14) + 1)) (C := RX10) (T := TX10) (N := 45) hx hb hts iX10 hown hK hP 0 rfl rfl 14 (by decide) (hts _ wd_492) (fun _ h9 => h9) rfl dX10_feed_49 ?_
      exact hret ((G 14) + 1) ((upd G 14 ((G 14) + 1)), (upd f13 ((G 14) : Int32).toNatClampNeg c_)) _ _ _ _ dX10_feed_52 rfl hE hP hD hS
    · replace hF := hF.1 c_5
      rw [if_pos c_5] at hE
      refine lv_ldc (v := (-1000000004)) hx hb hown (hts _ wd_506) dX10_feed_25 ?_
      exact hret (-1000000004) (G, f13) _ _ _ _ dX10_feed_27 rfl hE hP hD hS
  · replace hF := hF.1 c_4
    rw [if_pos c_4] at hE
    refine lv_ldc (v := (-1000000002)) hx hb hown (hts _ wd_507) dX10_feed_12 ?_
    exact hret (-1000000002) (G, f13) _ _ _ _ dX10_feed_14 rfl hE hP hD hS
noncomputable def f_m_here_0 (f13 : Nat → Int32) (n : Nat) : (Nat → Int32) → (Nat → Int32) := Nat.rec (motive := fun _ => (Nat → Int32) → (Nat → Int32)) (fun w_1m0 => w_1m0) (fun n ih w_1m0 => (if (f_m_letterAt w_1m0 f13 (w_1m0 15)) = 32 then (ih (upd w_1m0 15 ((w_1m0 15) + 1))) else w_1m0)) n
theorem f_m_here_0_s (f13 : Nat → Int32) (n : Nat) (w_1m0 : (Nat → Int32)) : f_m_here_0 f13 (n + 1) w_1m0 = (if (f_m_letterAt w_1m0 f13 (w_1m0 15)) = 32 then (f_m_here_0 f13 n (upd w_1m0 15 ((w_1m0 15) + 1))) else w_1m0) := rfl
def S_m_here_0 (f13 : Nat → Int32) (K : (Nat → Int32) → Prop) (n : Nat) : (Nat → Int32) → Prop := Nat.rec (motive := fun _ => (Nat → Int32) → Prop) (fun _ => False) (fun n ih w_1m0 => ((S_m_letterAt w_1m0 f13 (w_1m0 15)) ∧ (((f_m_letterAt w_1m0 f13 (w_1m0 15)) = 32 → (ih (upd w_1m0 15 ((w_1m0 15) + 1)))) ∧ (¬ (f_m_letterAt w_1m0 f13 (w_1m0 15)) = 32 → (K w_1m0))))) n
theorem S_m_here_0_s (f13 : Nat → Int32) (K : (Nat → Int32) → Prop) (n : Nat) (w_1m0 : (Nat → Int32)) : S_m_here_0 f13 K (n + 1) w_1m0 = (((S_m_letterAt w_1m0 f13 (w_1m0 15)) ∧ (((f_m_letterAt w_1m0 f13 (w_1m0 15)) = 32 → (S_m_here_0 f13 K n (upd w_1m0 15 ((w_1m0 15) + 1)))) ∧ (¬ (f_m_letterAt w_1m0 f13 (w_1m0 15)) = 32 → (K w_1m0))))) := rfl
noncomputable def f_m_here (G : Nat → Int32) (f13 : Nat → Int32) : Int32 × (Nat → Int32) := (match ((f_m_here_0 f13 300 G) : (Nat → Int32)) with | w_1m0 => ((f_m_letterAt (upd w_1m0 16 (w_1m0 15)) f13 (w_1m0 15)), (upd w_1m0 16 (w_1m0 15))))
def S_m_here (G : Nat → Int32) (f13 : Nat → Int32) : Prop := (S_m_here_0 f13 (fun (w_1m0 : (Nat → Int32)) => ((S_m_letterAt (upd w_1m0 16 (w_1m0 15)) f13 (w_1m0 15)) ∧ True)) 300 G)
def rm_m_here : Room := { frames := 1, cells := 0, slots := 0, locals := 21 }
set_option maxHeartbeats 4000000 in
set_option maxRecDepth 100000 in
theorem m_here {l : Launch} {D : va_G} {cI cZ : ClassId} {sz : Nat} (Rf : Nat → Nat) (h : Nat) (G : Nat → Int32) (f13 : Nat → Int32) (hF : S_m_here G f13) : KI l yX10_here cX10_here 1 (some .int) rm_m_here D cI cZ [.ref h] sz [(h, .inr (10, ML G Rf)), ((Rf 13), .inl (cI, 240, .inl f13))] (fun (r : Int32) (u : (Nat → Int32)) => (r, u) = f_m_here G f13) (fun (u : (Nat → Int32)) => [(h, .inr (10, ML u Rf)), ((Rf 13), .inl (cI, 240, .inl f13))]) := by
  refine KI.go rfl (Nat.le_of_ble_eq_true rfl) ?_
  intro p e s m args below meth c ls A Q hx hb hml hts hown hin hP hK hD hS hA hN hl hret
  have hl : lv_has ls 1 [(0, .ref h)] := hl
  rw [S_m_here] at hF
  obtain ⟨RES, hE⟩ : ∃ xRES, f_m_here G f13 = xRES := ⟨_, rfl⟩
  rw [hE] at hret
  rw [f_m_here] at hE
  have ex_0_w_1 : ∀ (w_1m0 : (Nat → Int32)) (H : Heap) (locs : List Loc) (ls : Array Slot), va_P D classes [(h, .inr (10, ML w_1m0 Rf)), ((Rf 13), .inl (cI, 240, .inl f13))] H → va_D A [(h, .inr (10, ML w_1m0 Rf)), ((Rf 13), .inl (cI, 240, .inl f13))] → va_S A s.heap H locs → lv_has ls 1 [(0, .ref h)] → (((S_m_letterAt (upd w_1m0 16 (w_1m0 15)) f13 (w_1m0 15)) ∧ True)) → ((((f_m_letterAt (upd w_1m0 16 (w_1m0 15)) f13 (w_1m0 15)), (upd w_1m0 16 (w_1m0 15)))) : Int32 × (Nat → Int32)) = RES → W p l e rm_m_here s m args below meth c H locs 0 0 Q (F0 m 26 ls []) := by
    intro w_1m0 H locs ls hP hD hS hl hF hE
    refine lv_aload_n hx hb dX10_here_26 rfl (lv_at hl 0 rfl) ?_
    refine lv_aload_n hx hb dX10_here_27 rfl (lv_at hl 0 rfl) ?_
    refine va_get (D := D) (ci := 10) (v := .int (w_1m0 15)) (C := RX10) (T := TX10) (N := 45) hx hb hts iX10 hown hK hP 0 rfl rfl 15 (by decide) (hts _ wd_508) (fun _ h9 => h9) rfl dX10_here_28 ?_
    refine va_put (D := D) (ci := 10) (v := .int (w_1m0 15)) (ty := .int) (C := RX10) (T := TX10) (N := 45) hx hb hts iX10 tyX10 tyX10_ok nmX10 hown hK hP hD hS 0 rfl rfl 16 (by decide) (hts _ wd_509) (fun _ h9 => h9) rfl (by decide +kernel) rfl rfl (Nat.le_of_ble_eq_true rfl) dX10_here_31 (fun H locs hP hD hS => ?_)
    have hP : va_P D classes [(h, .inr (10, ML (upd w_1m0 16 (w_1m0 15)) Rf)), ((Rf 13), .inl (cI, 240, .inl f13))] H := hP
    have hD : va_D A [(h, .inr (10, ML (upd w_1m0 16 (w_1m0 15)) Rf)), ((Rf 13), .inl (cI, 240, .inl f13))] := hD
    refine lv_aload_n hx hb dX10_here_34 rfl (lv_at hl 0 rfl) ?_
    refine lv_aload_n hx hb dX10_here_35 rfl (lv_at hl 0 rfl) ?_
    refine va_get (D := D) (ci := 10) (v := .int (w_1m0 15)) (C := RX10) (T := TX10) (N := 45) hx hb hts iX10 hown hK hP 0 rfl rfl 15 (by decide) (hts _ wd_508) (fun _ h9 => h9) rfl dX10_here_36 ?_
    obtain ⟨hs_2, hF⟩ := hF
    refine cVi (wr := []) (rest := []) (m_letterAt Rf h (upd w_1m0 16 (w_1m0 15)) f13 (w_1m0 15) hs_2) okV_X10_letterAt wd_510 hx hb hml hown hts hK hP hD hS hA hN hl.1 [0, 1] [] rfl rfl rfl rfl (by decide) rfl rfl rfl (Nat.le_of_ble_eq_true rfl) (Nat.le_of_ble_eq_true rfl) (Nat.le_of_ble_eq_true rfl) (Nat.le_of_ble_eq_true rfl) (Nat.le_of_ble_eq_true rfl) dX10_here_39 (fun r_4 u_3 H locs hw_u_3 hP hD hS => ?_)
    replace hw_u_3 : r_4 = (f_m_letterAt (upd w_1m0 16 (w_1m0 15)) f13 (w_1m0 15)) := hw_u_3
    rw [hw_u_3]
    clear hw_u_3
    have hP : va_P D classes [(h, .inr (10, ML (upd w_1m0 16 (w_1m0 15)) Rf)), ((Rf 13), .inl (cI, 240, .inl f13))] H := hP
    have hD : va_D A [(h, .inr (10, ML (upd w_1m0 16 (w_1m0 15)) Rf)), ((Rf 13), .inl (cI, 240, .inl f13))] := hD
    exact hret (f_m_letterAt (upd w_1m0 16 (w_1m0 15)) f13 (w_1m0 15)) (upd w_1m0 16 (w_1m0 15)) _ _ _ _ dX10_here_42 rfl hE hP hD hS
  have lp_0_w_1 : ∀ (n_w_1 : Nat) (w_1m0 : (Nat → Int32)) (H : Heap) (locs : List Loc) (ls : Array Slot), va_P D classes [(h, .inr (10, ML w_1m0 Rf)), ((Rf 13), .inl (cI, 240, .inl f13))] H → va_D A [(h, .inr (10, ML w_1m0 Rf)), ((Rf 13), .inl (cI, 240, .inl f13))] → va_S A s.heap H locs → lv_has ls 1 [(0, .ref h)] → (S_m_here_0 f13 (fun (w_1m0 : (Nat → Int32)) => ((S_m_letterAt (upd w_1m0 16 (w_1m0 15)) f13 (w_1m0 15)) ∧ True)) n_w_1 w_1m0) → ((match ((f_m_here_0 f13 n_w_1 w_1m0) : (Nat → Int32)) with | w_1m0 => ((f_m_letterAt (upd w_1m0 16 (w_1m0 15)) f13 (w_1m0 15)), (upd w_1m0 16 (w_1m0 15)))) : Int32 × (Nat → Int32)) = RES → W p l e rm_m_here s m args below meth c H locs 0 0 Q (F0 m 0 ls []) := by
    intro n_w_1
    induction n_w_1 with
    | zero => intro w_1m0 H locs ls hP hD hS hl hF hE; exact False.elim hF
    | succ n_w_1 ih_w_1 =>
      intro w_1m0 H locs ls hP hD hS hl hF hE
      rw [S_m_here_0_s] at hF
      rw [f_m_here_0_s] at hE
      refine lv_aload_n hx hb dX10_here_0 rfl (lv_at hl 0 rfl) ?_
      refine lv_aload_n hx hb dX10_here_1 rfl (lv_at hl 0 rfl) ?_
      refine va_get (D := D) (ci := 10) (v := .int (w_1m0 15)) (C := RX10) (T := TX10) (N := 45) hx hb hts iX10 hown hK hP 0 rfl rfl 15 (by decide) (hts _ wd_508) (fun _ h9 => h9) rfl dX10_here_2 ?_
      obtain ⟨hs_5, hF⟩ := hF
      refine cVi (wr := []) (rest := []) (m_letterAt Rf h w_1m0 f13 (w_1m0 15) hs_5) okV_X10_letterAt wd_510 hx hb hml hown hts hK hP hD hS hA hN hl.1 [0, 1] [] rfl rfl rfl rfl (by decide) rfl rfl rfl (Nat.le_of_ble_eq_true rfl) (Nat.le_of_ble_eq_true rfl) (Nat.le_of_ble_eq_true rfl) (Nat.le_of_ble_eq_true rfl) (Nat.le_of_ble_eq_true rfl) dX10_here_5 (fun r_7 u_6 H locs hw_u_6 hP hD hS => ?_)
      replace hw_u_6 : r_7 = (f_m_letterAt w_1m0 f13 (w_1m0 15)) := hw_u_6
      rw [hw_u_6]
      clear hw_u_6
      have hP : va_P D classes [(h, .inr (10, ML w_1m0 Rf)), ((Rf 13), .inl (cI, 240, .inl f13))] H := hP
      have hD : va_D A [(h, .inr (10, ML w_1m0 Rf)), ((Rf 13), .inl (cI, 240, .inl f13))] := hD
      refine lv_bipush (v := 32) hx hb dX10_here_8 (by decide) ?_
      refine lv_icmp_ne (tgt := 26) hx hb dX10_here_10 (by decide) (fun c_8 => ?_) (fun c_8 => ?_)
      · replace hF := hF.2 c_8
        rw [if_neg c_8] at hE
        exact ex_0_w_1 w_1m0 _ _ ls hP hD hS (lv_sub hl [0] rfl) hF hE
      · replace hF := hF.1 c_8
        rw [if_pos c_8] at hE
        refine lv_aload_n hx hb dX10_here_13 rfl (lv_at hl 0 rfl) ?_
        refine lv_dup hx hb dX10_here_14 rfl ?_
        refine va_get (D := D) (ci := 10) (v := .int (w_1m0 15)) (C := RX10) (T := TX10) (N := 45) hx hb hts iX10 hown hK hP 0 rfl rfl 15 (by decide) (hts _ wd_508) (fun _ h9 => h9) rfl dX10_here_15 ?_
        refine lv_iconst (v := 1) hx hb dX10_here_18 (by decide) ?_
        refine lv_iadd hx hb dX10_here_19 ?_
        refine va_put (D := D) (ci := 10) (v := .int ((w_1m0 15) + 1)) (ty := .int) (C := RX10) (T := TX10) (N := 45) hx hb hts iX10 tyX10 tyX10_ok nmX10 hown hK hP hD hS 0 rfl rfl 15 (by decide) (hts _ wd_508) (fun _ h9 => h9) rfl (by decide +kernel) rfl rfl (Nat.le_of_ble_eq_true rfl) dX10_here_20 (fun H locs hP hD hS => ?_)
        have hP : va_P D classes [(h, .inr (10, ML (upd w_1m0 15 ((w_1m0 15) + 1)) Rf)), ((Rf 13), .inl (cI, 240, .inl f13))] H := hP
        have hD : va_D A [(h, .inr (10, ML (upd w_1m0 15 ((w_1m0 15) + 1)) Rf)), ((Rf 13), .inl (cI, 240, .inl f13))] := hD
        refine lv_goto (tgt := 0) hx hb dX10_here_23 (by decide) ?_
        exact ih_w_1 (upd w_1m0 15 ((w_1m0 15) + 1)) _ _ ls hP hD hS (lv_sub hl [0] rfl) hF hE
  exact lp_0_w_1 300 G _ _ ls hP hD hS hl hF hE
noncomputable def f_m_fails (G : Nat → Int32) (k_ : Int32) (p_ : Int32) : Int32 × (Nat → Int32) := (0, (upd (upd G 18 k_) 19 p_))
def S_m_fails (G : Nat → Int32) (k_ : Int32) (p_ : Int32) : Prop := True
def rm_m_fails : Room := { frames := 0, cells := 0, slots := 0, locals := 0 }
set_option maxHeartbeats 4000000 in
set_option maxRecDepth 100000 in
theorem m_fails {l : Launch} {D : va_G} {cI cZ : ClassId} {sz : Nat} (Rf : Nat → Nat) (h : Nat) (G : Nat → Int32) (k_ : Int32) (p_ : Int32) (hF : S_m_fails G k_ p_) : KI l yX10_fails cX10_fails 3 (some .boolean) rm_m_fails D cI cZ [.ref h, .int k_, .int p_] sz [(h, .inr (10, ML G Rf))] (fun (r : Int32) (u : (Nat → Int32)) => (r, u) = f_m_fails G k_ p_) (fun (u : (Nat → Int32)) => [(h, .inr (10, ML u Rf))]) := by
  refine KI.go rfl (Nat.le_of_ble_eq_true rfl) ?_
  intro p e s m args below meth c ls A Q hx hb hml hts hown hin hP hK hD hS hA hN hl hret
  have hl : lv_has ls 3 [(0, .ref h), (1, .int k_), (2, .int p_)] := hl
  rw [S_m_fails] at hF
  obtain ⟨RES, hE⟩ : ∃ xRES, f_m_fails G k_ p_ = xRES := ⟨_, rfl⟩
  rw [hE] at hret
  rw [f_m_fails] at hE
  refine lv_aload_n hx hb dX10_fails_0 rfl (lv_at hl 0 rfl) ?_
  refine lv_iload_n hx hb dX10_fails_1 rfl (lv_at hl 1 rfl) ?_
  refine va_put (D := D) (ci := 10) (v := .int k_) (ty := .int) (C := RX10) (T := TX10) (N := 45) hx hb hts iX10 tyX10 tyX10_ok nmX10 hown hK hP hD hS 0 rfl rfl 18 (by decide) (hts _ wd_514) (fun _ h9 => h9) rfl (by decide +kernel) rfl rfl (Nat.le_of_ble_eq_true rfl) dX10_fails_2 (fun H locs hP hD hS => ?_)
  have hP : va_P D classes [(h, .inr (10, ML (upd G 18 k_) Rf))] H := hP
  have hD : va_D A [(h, .inr (10, ML (upd G 18 k_) Rf))] := hD
  refine lv_aload_n hx hb dX10_fails_5 rfl (lv_at hl 0 rfl) ?_
  refine lv_iload_n hx hb dX10_fails_6 rfl (lv_at hl 2 rfl) ?_
  refine va_put (D := D) (ci := 10) (v := .int p_) (ty := .int) (C := RX10) (T := TX10) (N := 45) hx hb hts iX10 tyX10 tyX10_ok nmX10 hown hK hP hD hS 0 rfl rfl 19 (by decide) (hts _ wd_515) (fun _ h9 => h9) rfl (by decide +kernel) rfl rfl (Nat.le_of_ble_eq_true rfl) dX10_fails_7 (fun H locs hP hD hS => ?_)
  have hP : va_P D classes [(h, .inr (10, ML (upd (upd G 18 k_) 19 p_) Rf))] H := hP
  have hD : va_D A [(h, .inr (10, ML (upd (upd G 18 k_) 19 p_) Rf))] := hD
  refine lv_iconst (v := 0) hx hb dX10_fails_10 (by decide) ?_
  exact hret 0 (upd (upd G 18 k_) 19 p_) _ _ _ _ dX10_fails_11 rfl hE hP hD hS
noncomputable def f_m_takes (G : Nat → Int32) (f13 : Nat → Int32) (c_ : Int32) : Int32 × (Nat → Int32) := (match (f_m_here G f13) with | (r_3, u_2) => (if r_3 = c_ then (1, (upd u_2 15 ((u_2 15) + 1))) else (match (f_m_fails u_2 1 (u_2 16)) with | (r_7, u_6) => (r_7, u_6))))
def S_m_takes (G : Nat → Int32) (f13 : Nat → Int32) (c_ : Int32) : Prop := ((S_m_here G f13) ∧ (∀ (r_3 : Int32) (u_2 : (Nat → Int32)), (r_3, u_2) = (f_m_here G f13) → ((r_3 = c_ → True) ∧ (¬ r_3 = c_ → ((S_m_fails u_2 1 (u_2 16)) ∧ (∀ (r_7 : Int32) (u_6 : (Nat → Int32)), (r_7, u_6) = (f_m_fails u_2 1 (u_2 16)) → True))))))
def rm_m_takes : Room := { frames := 2, cells := 0, slots := 0, locals := 41 }
set_option maxHeartbeats 4000000 in
set_option maxRecDepth 100000 in
theorem m_takes {l : Launch} {D : va_G} {cI cZ : ClassId} {sz : Nat} (Rf : Nat → Nat) (h : Nat) (G : Nat → Int32) (f13 : Nat → Int32) (c_ : Int32) (hF : S_m_takes G f13 c_) : KI l yX10_takes cX10_takes 2 (some .boolean) rm_m_takes D cI cZ [.ref h, .int c_] sz [(h, .inr (10, ML G Rf)), ((Rf 13), .inl (cI, 240, .inl f13))] (fun (r : Int32) (u : (Nat → Int32)) => (r, u) = f_m_takes G f13 c_) (fun (u : (Nat → Int32)) => [(h, .inr (10, ML u Rf)), ((Rf 13), .inl (cI, 240, .inl f13))]) := by
  refine KI.go rfl (Nat.le_of_ble_eq_true rfl) ?_
  intro p e s m args below meth c ls A Q hx hb hml hts hown hin hP hK hD hS hA hN hl hret
  have hl : lv_has ls 2 [(0, .ref h), (1, .int c_)] := hl
  rw [S_m_takes] at hF
  obtain ⟨RES, hE⟩ : ∃ xRES, f_m_takes G f13 c_ = xRES := ⟨_, rfl⟩
  rw [hE] at hret
  rw [f_m_takes] at hE
  refine lv_aload_n hx hb dX10_takes_0 rfl (lv_at hl 0 rfl) ?_
  obtain ⟨hs_1, hF⟩ := hF
  refine cVi (wr := []) (rest := []) (m_here Rf h G f13 hs_1) okV_X10_here wd_516 hx hb hml hown hts hK hP hD hS hA hN hl.1 [0, 1] [] rfl rfl rfl rfl (by decide) rfl rfl rfl (Nat.le_of_ble_eq_true rfl) (Nat.le_of_ble_eq_true rfl) (Nat.le_of_ble_eq_true rfl) (Nat.le_of_ble_eq_true rfl) (Nat.le_of_ble_eq_true rfl) dX10_takes_1 (fun r_3 u_2 H locs hw_u_2 hP hD hS => ?_)
  replace hw_u_2 : (r_3, u_2) = (f_m_here G f13) := hw_u_2
  replace hF := hF r_3 u_2 hw_u_2
  rw [← hw_u_2] at hE
  replace hE : ((if r_3 = c_ then (1, (upd u_2 15 ((u_2 15) + 1))) else (match (f_m_fails u_2 1 (u_2 16)) with | (r_7, u_6) => (r_7, u_6))) : Int32 × (Nat → Int32)) = RES := hE
  have hP : va_P D classes [(h, .inr (10, ML u_2 Rf)), ((Rf 13), .inl (cI, 240, .inl f13))] H := hP
  have hD : va_D A [(h, .inr (10, ML u_2 Rf)), ((Rf 13), .inl (cI, 240, .inl f13))] := hD
  refine lv_iload_n hx hb dX10_takes_4 rfl (lv_at hl 1 rfl) ?_
  refine lv_icmp_eq (tgt := 18) hx hb dX10_takes_5 (by decide) (fun c_4 => ?_) (fun c_4 => ?_)
  · replace hF := hF.1 c_4
    rw [if_pos c_4] at hE
    refine lv_aload_n hx hb dX10_takes_18 rfl (lv_at hl 0 rfl) ?_
    refine lv_dup hx hb dX10_takes_19 rfl ?_
    refine va_get (D := D) (ci := 10) (v := .int (u_2 15)) (C := RX10) (T := TX10) (N := 45) hx hb hts iX10 hown hK hP 0 rfl rfl 15 (by decide) (hts _ wd_508) (fun _ h9 => h9) rfl dX10_takes_20 ?_
    refine lv_iconst (v := 1) hx hb dX10_takes_23 (by decide) ?_
    refine lv_iadd hx hb dX10_takes_24 ?_
    refine va_put (D := D) (ci := 10) (v := .int ((u_2 15) + 1)) (ty := .int) (C := RX10) (T := TX10) (N := 45) hx hb hts iX10 tyX10 tyX10_ok nmX10 hown hK hP hD hS 0 rfl rfl 15 (by decide) (hts _ wd_508) (fun _ h9 => h9) rfl (by decide +kernel) rfl rfl (Nat.le_of_ble_eq_true rfl) dX10_takes_25 (fun H locs hP hD hS => ?_)
    have hP : va_P D classes [(h, .inr (10, ML (upd u_2 15 ((u_2 15) + 1)) Rf)), ((Rf 13), .inl (cI, 240, .inl f13))] H := hP
    have hD : va_D A [(h, .inr (10, ML (upd u_2 15 ((u_2 15) + 1)) Rf)), ((Rf 13), .inl (cI, 240, .inl f13))] := hD
    refine lv_iconst (v := 1) hx hb dX10_takes_28 (by decide) ?_
    exact hret 1 (upd u_2 15 ((u_2 15) + 1)) _ _ _ _ dX10_takes_29 rfl hE hP hD hS
  · replace hF := hF.2 c_4
    rw [if_neg c_4] at hE
    refine lv_aload_n hx hb dX10_takes_8 rfl (lv_at hl 0 rfl) ?_
    refine lv_iconst (v := 1) hx hb dX10_takes_9 (by decide) ?_
    refine lv_aload_n hx hb dX10_takes_10 rfl (lv_at hl 0 rfl) ?_
    refine va_get (D := D) (ci := 10) (v := .int (u_2 16)) (C := RX10) (T := TX10) (N := 45) hx hb hts iX10 hown hK hP 0 rfl rfl 16 (by decide) (hts _ wd_509) (fun _ h9 => h9) rfl dX10_takes_11 ?_
    obtain ⟨hs_5, hF⟩ := hF
    refine cVi (wr := [((Rf 13), .inl (cI, 240, .inl f13))]) (rest := []) (m_fails Rf h u_2 1 (u_2 16) hs_5) okV_X10_fails wd_520 hx hb hml hown hts hK hP hD hS hA hN hl.1 [0] [1] rfl rfl rfl rfl (by decide) rfl rfl rfl (Nat.le_of_ble_eq_true rfl) (Nat.le_of_ble_eq_true rfl) (Nat.le_of_ble_eq_true rfl) (Nat.le_of_ble_eq_true rfl) (Nat.le_of_ble_eq_true rfl) dX10_takes_14 (fun r_7 u_6 H locs hw_u_6 hP hD hS => ?_)
    replace hw_u_6 : (r_7, u_6) = (f_m_fails u_2 1 (u_2 16)) := hw_u_6
    replace hF := hF r_7 u_6 hw_u_6
    rw [← hw_u_6] at hE
    replace hE : ((r_7, u_6) : Int32 × (Nat → Int32)) = RES := hE
    have hP : va_P D classes [((Rf 13), .inl (cI, 240, .inl f13)), (h, .inr (10, ML u_6 Rf))] H := hP
    have hD : va_D A [((Rf 13), .inl (cI, 240, .inl f13)), (h, .inr (10, ML u_6 Rf))] := hD
    exact hret r_7 u_6 _ _ _ _ dX10_takes_17 (narrow_b01 (Or.inl (congrArg Prod.fst hw_u_6))) hE (cutP (isC := [1, 0]) hP rfl) (cutD (isC := [1, 0]) hD rfl rfl) hS
