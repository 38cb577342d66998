theorem dX10_bargesThat_0 : decode cX10_bargesThat 0 = .ok (.iconst 0, 1) := by decide +kernel
theorem dX10_bargesThat_1 : decode cX10_bargesThat 1 = .ok (.istore_n 2, 1) := by decide +kernel
theorem dX10_bargesThat_2 : decode cX10_bargesThat 2 = .ok (.iconst 0, 1) := by decide +kernel
theorem dX10_bargesThat_3 : decode cX10_bargesThat 3 = .ok (.istore_n 3, 1) := by decide +kernel
theorem dX10_bargesThat_41 : decode cX10_bargesThat 41 = .ok (.iload_n 2, 1) := by decide +kernel
theorem dX10_bargesThat_42 : decode cX10_bargesThat 42 = .ok (.ireturn, 1) := by decide +kernel
theorem dX10_bargesThat_4 : decode cX10_bargesThat 4 = .ok (.iload_n 3, 1) := by decide +kernel
theorem dX10_bargesThat_5 : decode cX10_bargesThat 5 = .ok (.aload_n 0, 1) := by decide +kernel
theorem dX10_bargesThat_6 : decode cX10_bargesThat 6 = .ok (.getfield 88, 3) := by decide +kernel
theorem dX10_bargesThat_9 : decode cX10_bargesThat 9 = .ok (.if_icmp .ge 32, 3) := by decide +kernel
theorem dX10_bargesThat_12 : decode cX10_bargesThat 12 = .ok (.iload_n 2, 1) := by decide +kernel
theorem dX10_bargesThat_13 : decode cX10_bargesThat 13 = .ok (.aload_n 0, 1) := by decide +kernel
theorem dX10_bargesThat_14 : decode cX10_bargesThat 14 = .ok (.getfield 7, 3) := by decide +kernel
theorem dX10_bargesThat_17 : decode cX10_bargesThat 17 = .ok (.bipush 20, 2) := by decide +kernel
theorem dX10_bargesThat_19 : decode cX10_bargesThat 19 = .ok (.iload_n 3, 1) := by decide +kernel
theorem dX10_bargesThat_20 : decode cX10_bargesThat 20 = .ok (.iadd, 1) := by decide +kernel
theorem dX10_bargesThat_21 : decode cX10_bargesThat 21 = .ok (.iaload, 1) := by decide +kernel
theorem dX10_bargesThat_22 : decode cX10_bargesThat 22 = .ok (.iload_n 1, 1) := by decide +kernel
theorem dX10_bargesThat_23 : decode cX10_bargesThat 23 = .ok (.if_icmp .ne 9, 3) := by decide +kernel
theorem dX10_bargesThat_32 : decode cX10_bargesThat 32 = .ok (.iconst 0, 1) := by decide +kernel
theorem dX10_bargesThat_33 : decode cX10_bargesThat 33 = .ok (.ior, 1) := by decide +kernel
theorem dX10_bargesThat_34 : decode cX10_bargesThat 34 = .ok (.istore_n 2, 1) := by decide +kernel
theorem dX10_bargesThat_35 : decode cX10_bargesThat 35 = .ok (.iinc 3 1, 3) := by decide +kernel
theorem dX10_bargesThat_38 : decode cX10_bargesThat 38 = .ok (.goto (-34), 3) := by decide +kernel
theorem dX10_bargesThat_26 : decode cX10_bargesThat 26 = .ok (.iconst 1, 1) := by decide +kernel
theorem dX10_bargesThat_27 : decode cX10_bargesThat 27 = .ok (.iload_n 3, 1) := by decide +kernel
theorem dX10_bargesThat_28 : decode cX10_bargesThat 28 = .ok (.ishl, 1) := by decide +kernel
theorem dX10_bargesThat_29 : decode cX10_bargesThat 29 = .ok (.goto 4, 3) := by decide +kernel
theorem dX10_griefOf_0 : decode cX10_griefOf 0 = .ok (.iconst 0, 1) := by decide +kernel
theorem dX10_griefOf_1 : decode cX10_griefOf 1 = .ok (.istore_n 2, 1) := by decide +kernel
theorem dX10_griefOf_2 : decode cX10_griefOf 2 = .ok (.iconst 0, 1) := by decide +kernel
theorem dX10_griefOf_3 : decode cX10_griefOf 3 = .ok (.istore_n 3, 1) := by decide +kernel
theorem dX10_griefOf_41 : decode cX10_griefOf 41 = .ok (.iload_n 2, 1) := by decide +kernel
theorem dX10_griefOf_42 : decode cX10_griefOf 42 = .ok (.ireturn, 1) := by decide +kernel
theorem dX10_griefOf_4 : decode cX10_griefOf 4 = .ok (.iload_n 3, 1) := by decide +kernel
theorem dX10_griefOf_5 : decode cX10_griefOf 5 = .ok (.aload_n 0, 1) := by decide +kernel
theorem dX10_griefOf_6 : decode cX10_griefOf 6 = .ok (.getfield 78, 3) := by decide +kernel
theorem dX10_griefOf_9 : decode cX10_griefOf 9 = .ok (.if_icmp .ge 32, 3) := by decide +kernel
theorem dX10_griefOf_12 : decode cX10_griefOf 12 = .ok (.iload_n 2, 1) := by decide +kernel
theorem dX10_griefOf_13 : decode cX10_griefOf 13 = .ok (.iload_n 1, 1) := by decide +kernel
theorem dX10_griefOf_14 : decode cX10_griefOf 14 = .ok (.iload_n 3, 1) := by decide +kernel
theorem dX10_griefOf_15 : decode cX10_griefOf 15 = .ok (.invokestatic 183, 3) := by decide +kernel
theorem dX10_griefOf_18 : decode cX10_griefOf 18 = .ok (.ifCond .eq 14, 3) := by decide +kernel
theorem dX10_griefOf_32 : decode cX10_griefOf 32 = .ok (.iconst 0, 1) := by decide +kernel
theorem dX10_griefOf_33 : decode cX10_griefOf 33 = .ok (.iadd, 1) := by decide +kernel
theorem dX10_griefOf_34 : decode cX10_griefOf 34 = .ok (.istore_n 2, 1) := by decide +kernel
theorem dX10_griefOf_35 : decode cX10_griefOf 35 = .ok (.iinc 3 1, 3) := by decide +kernel
theorem dX10_griefOf_38 : decode cX10_griefOf 38 = .ok (.goto (-34), 3) := by decide +kernel
theorem dX10_griefOf_21 : decode cX10_griefOf 21 = .ok (.aload_n 0, 1) := by decide +kernel
theorem dX10_griefOf_22 : decode cX10_griefOf 22 = .ok (.getfield 7, 3) := by decide +kernel
theorem dX10_griefOf_25 : decode cX10_griefOf 25 = .ok (.iconst 0, 1) := by decide +kernel
theorem dX10_griefOf_26 : decode cX10_griefOf 26 = .ok (.iload_n 3, 1) := by decide +kernel
theorem dX10_griefOf_27 : decode cX10_griefOf 27 = .ok (.iadd, 1) := by decide +kernel
theorem dX10_griefOf_28 : decode cX10_griefOf 28 = .ok (.iaload, 1) := by decide +kernel
theorem dX10_griefOf_29 : decode cX10_griefOf 29 = .ok (.goto 4, 3) := by decide +kernel
theorem dX10_whoIsAt_0 : decode cX10_whoIsAt 0 = .ok (.iconst (-1), 1) := by decide +kernel
theorem dX10_whoIsAt_1 : decode cX10_whoIsAt 1 = .ok (.istore_n 3, 1) := by decide +kernel
theorem dX10_whoIsAt_2 : decode cX10_whoIsAt 2 = .ok (.iconst 0, 1) := by decide +kernel
theorem dX10_whoIsAt_3 : decode cX10_whoIsAt 3 = .ok (.istore 4, 2) := by decide +kernel
theorem dX10_whoIsAt_43 : decode cX10_whoIsAt 43 = .ok (.iload_n 3, 1) := by decide +kernel
theorem dX10_whoIsAt_44 : decode cX10_whoIsAt 44 = .ok (.ireturn, 1) := by decide +kernel
theorem dX10_whoIsAt_5 : decode cX10_whoIsAt 5 = .ok (.iload 4, 2) := by decide +kernel
theorem dX10_whoIsAt_7 : decode cX10_whoIsAt 7 = .ok (.aload_n 0, 1) := by decide +kernel
theorem dX10_whoIsAt_8 : decode cX10_whoIsAt 8 = .ok (.getfield 78, 3) := by decide +kernel
theorem dX10_whoIsAt_11 : decode cX10_whoIsAt 11 = .ok (.if_icmp .ge 32, 3) := by decide +kernel
theorem dX10_whoIsAt_14 : decode cX10_whoIsAt 14 = .ok (.aload_n 0, 1) := by decide +kernel
theorem dX10_whoIsAt_15 : decode cX10_whoIsAt 15 = .ok (.getfield 7, 3) := by decide +kernel
theorem dX10_whoIsAt_18 : decode cX10_whoIsAt 18 = .ok (.iload_n 1, 1) := by decide +kernel
theorem dX10_whoIsAt_19 : decode cX10_whoIsAt 19 = .ok (.bipush 6, 2) := by decide +kernel
theorem dX10_whoIsAt_21 : decode cX10_whoIsAt 21 = .ok (.iadd, 1) := by decide +kernel
theorem dX10_whoIsAt_22 : decode cX10_whoIsAt 22 = .ok (.iload 4, 2) := by decide +kernel
theorem dX10_whoIsAt_24 : decode cX10_whoIsAt 24 = .ok (.iadd, 1) := by decide +kernel
theorem dX10_whoIsAt_25 : decode cX10_whoIsAt 25 = .ok (.iaload, 1) := by decide +kernel
theorem dX10_whoIsAt_26 : decode cX10_whoIsAt 26 = .ok (.iload_n 2, 1) := by decide +kernel
theorem dX10_whoIsAt_27 : decode cX10_whoIsAt 27 = .ok (.if_icmp .ne 8, 3) := by decide +kernel
theorem dX10_whoIsAt_35 : decode cX10_whoIsAt 35 = .ok (.iload_n 3, 1) := by decide +kernel
theorem dX10_whoIsAt_36 : decode cX10_whoIsAt 36 = .ok (.istore_n 3, 1) := by decide +kernel
theorem dX10_whoIsAt_37 : decode cX10_whoIsAt 37 = .ok (.iinc 4 1, 3) := by decide +kernel
theorem dX10_whoIsAt_40 : decode cX10_whoIsAt 40 = .ok (.goto (-35), 3) := by decide +kernel
theorem dX10_whoIsAt_30 : decode cX10_whoIsAt 30 = .ok (.iload 4, 2) := by decide +kernel
theorem dX10_whoIsAt_32 : decode cX10_whoIsAt 32 = .ok (.goto 4, 3) := by decide +kernel
theorem dX10_stampOf_0 : decode cX10_stampOf 0 = .ok (.aload_n 0, 1) := by decide +kernel
theorem wd_547 : Cond.fieldLink RX10 27 "QuarrelBridgesModel" "forces" "[I" ∈ BG := BG_at 793 (by decide +kernel) rfl
theorem dX10_stampOf_1 : decode cX10_stampOf 1 = .ok (.getfield 27, 3) := by decide +kernel
theorem dX10_stampOf_4 : decode cX10_stampOf 4 = .ok (.iconst 5, 1) := by decide +kernel
theorem dX10_stampOf_5 : decode cX10_stampOf 5 = .ok (.iload_n 1, 1) := by decide +kernel
theorem dX10_stampOf_6 : decode cX10_stampOf 6 = .ok (.imul, 1) := by decide +kernel
theorem dX10_stampOf_7 : decode cX10_stampOf 7 = .ok (.iload_n 2, 1) := by decide +kernel
theorem dX10_stampOf_8 : decode cX10_stampOf 8 = .ok (.iadd, 1) := by decide +kernel
theorem dX10_stampOf_9 : decode cX10_stampOf 9 = .ok (.iaload, 1) := by decide +kernel
theorem dX10_stampOf_10 : decode cX10_stampOf 10 = .ok (.iload_n 3, 1) := by decide +kernel
theorem dX10_stampOf_11 : decode cX10_stampOf 11 = .ok (.bipush 10, 2) := by decide +kernel
theorem dX10_stampOf_13 : decode cX10_stampOf 13 = .ok (.idiv, 1) := by decide +kernel
theorem dX10_stampOf_14 : decode cX10_stampOf 14 = .ok (.iadd, 1) := by decide +kernel
theorem dX10_stampOf_15 : decode cX10_stampOf 15 = .ok (.istore 4, 2) := by decide +kernel
theorem dX10_stampOf_17 : decode cX10_stampOf 17 = .ok (.aload_n 0, 1) := by decide +kernel
theorem wd_548 : Cond.fieldLink RX10 174 "QuarrelBridgesModel" "snow" "I" ∈ BG := BG_at 790 (by decide +kernel) rfl
theorem dX10_stampOf_18 : decode cX10_stampOf 18 = .ok (.getfield 174, 3) := by decide +kernel
theorem dX10_stampOf_21 : decode cX10_stampOf 21 = .ok (.iconst 1, 1) := by decide +kernel
theorem dX10_stampOf_22 : decode cX10_stampOf 22 = .ok (.if_icmp .ne 10, 3) := by decide +kernel
theorem dX10_stampOf_32 : decode cX10_stampOf 32 = .ok (.iload 4, 2) := by decide +kernel
theorem dX10_stampOf_34 : decode cX10_stampOf 34 = .ok (.istore 4, 2) := by decide +kernel
theorem dX10_stampOf_36 : decode cX10_stampOf 36 = .ok (.iload 4, 2) := by decide +kernel
theorem dX10_stampOf_38 : decode cX10_stampOf 38 = .ok (.iload_n 3, 1) := by decide +kernel
theorem dX10_stampOf_39 : decode cX10_stampOf 39 = .ok (.if_icmp .ge 8, 3) := by decide +kernel
theorem dX10_stampOf_47 : decode cX10_stampOf 47 = .ok (.iload_n 3, 1) := by decide +kernel
theorem dX10_stampOf_48 : decode cX10_stampOf 48 = .ok (.ireturn, 1) := by decide +kernel
theorem dX10_stampOf_42 : decode cX10_stampOf 42 = .ok (.iload 4, 2) := by decide +kernel
theorem dX10_stampOf_44 : decode cX10_stampOf 44 = .ok (.goto 4, 3) := by decide +kernel
theorem dX10_stampOf_25 : decode cX10_stampOf 25 = .ok (.iload 4, 2) := by decide +kernel
theorem dX10_stampOf_27 : decode cX10_stampOf 27 = .ok (.iconst 2, 1) := by decide +kernel
theorem dX10_stampOf_28 : decode cX10_stampOf 28 = .ok (.idiv, 1) := by decide +kernel
theorem dX10_stampOf_29 : decode cX10_stampOf 29 = .ok (.goto 5, 3) := by decide +kernel
theorem dX10_quarrels_0 : decode cX10_quarrels 0 = .ok (.iconst 0, 1) := by decide +kernel
theorem dX10_quarrels_1 : decode cX10_quarrels 1 = .ok (.istore 5, 2) := by decide +kernel
theorem dX10_quarrels_3 : decode cX10_quarrels 3 = .ok (.aload_n 0, 1) := by decide +kernel
theorem dX10_quarrels_4 : decode cX10_quarrels 4 = .ok (.iconst 0, 1) := by decide +kernel
theorem wd_549 : Cond.fieldLink RX10 216 "QuarrelBridgesModel" "minutes" "I" ∈ BG := BG_at 815 (by decide +kernel) rfl
theorem dX10_quarrels_5 : decode cX10_quarrels 5 = .ok (.putfield 216, 3) := by decide +kernel
theorem dX10_quarrels_8 : decode cX10_quarrels 8 = .ok (.aload_n 0, 1) := by decide +kernel
theorem dX10_quarrels_9 : decode cX10_quarrels 9 = .ok (.iload_n 3, 1) := by decide +kernel
theorem wd_550 : Cond.fieldLink RX10 219 "QuarrelBridgesModel" "left" "I" ∈ BG := BG_at 816 (by decide +kernel) rfl
theorem dX10_quarrels_10 : decode cX10_quarrels 10 = .ok (.putfield 219, 3) := by decide +kernel
theorem dX10_quarrels_13 : decode cX10_quarrels 13 = .ok (.aload_n 0, 1) := by decide +kernel
theorem dX10_quarrels_14 : decode cX10_quarrels 14 = .ok (.iload_n 1, 1) := by decide +kernel
theorem dX10_quarrels_15 : decode cX10_quarrels 15 = .ok (.iload_n 2, 1) := by decide +kernel
theorem dX10_quarrels_16 : decode cX10_quarrels 16 = .ok (.aload_n 0, 1) := by decide +kernel
theorem dX10_quarrels_17 : decode cX10_quarrels 17 = .ok (.getfield 219, 3) := by decide +kernel
theorem dX10_quarrels_20 : decode cX10_quarrels 20 = .ok (.invokevirtual 222, 3) := by decide +kernel
theorem wd_551 : Cond.methodLink RX10 222 yX10_stampOf ∈ BG := BG_at 1076 (by decide +kernel) rfl
theorem wd_552 : Cond.code yX10_stampOf cX10_stampOf 5 (some .int) ∈ BG := BG_at 1079 (by decide +kernel) rfl
theorem wd_553 : Cond.instanceMethod yX10_stampOf ∈ BG := BG_at 1078 (by decide +kernel) rfl
theorem wd_554 : Cond.selects RX10 yX10_stampOf yX10_stampOf ∈ BG := BG_in (by decide +kernel) rfl
theorem okV_X10_stampOf : okV yX10_stampOf cX10_stampOf 5 (some .int) 3 := ⟨⟨wd_552, wd_497, by decide +kernel⟩, wd_553, wd_554⟩
theorem dX10_quarrels_23 : decode cX10_quarrels 23 = .ok (.istore 6, 2) := by decide +kernel
theorem dX10_quarrels_80 : decode cX10_quarrels 80 = .ok (.aload_n 0, 1) := by decide +kernel
theorem dX10_quarrels_81 : decode cX10_quarrels 81 = .ok (.iload 5, 2) := by decide +kernel
theorem dX10_quarrels_83 : decode cX10_quarrels 83 = .ok (.iload 4, 2) := by decide +kernel
theorem dX10_quarrels_85 : decode cX10_quarrels 85 = .ok (.if_icmp .lt 7, 3) := by decide +kernel
theorem dX10_quarrels_92 : decode cX10_quarrels 92 = .ok (.iconst 0, 1) := by decide +kernel
theorem wd_555 : Cond.fieldLink RX10 226 "QuarrelBridgesModel" "opened" "Z" ∈ BG := BG_at 817 (by decide +kernel) rfl
theorem dX10_quarrels_93 : decode cX10_quarrels 93 = .ok (.putfield 226, 3) := by decide +kernel
theorem dX10_quarrels_96 : decode cX10_quarrels 96 = .ok (.return_, 1) := by decide +kernel
theorem dX10_quarrels_88 : decode cX10_quarrels 88 = .ok (.iconst 1, 1) := by decide +kernel
theorem dX10_quarrels_89 : decode cX10_quarrels 89 = .ok (.goto 4, 3) := by decide +kernel
theorem dX10_quarrels_25 : decode cX10_quarrels 25 = .ok (.iload 6, 2) := by decide +kernel
theorem dX10_quarrels_27 : decode cX10_quarrels 27 = .ok (.ifCond .le 53, 3) := by decide +kernel
theorem dX10_quarrels_30 : decode cX10_quarrels 30 = .ok (.iload 5, 2) := by decide +kernel
theorem dX10_quarrels_32 : decode cX10_quarrels 32 = .ok (.iload 4, 2) := by decide +kernel
theorem dX10_quarrels_34 : decode cX10_quarrels 34 = .ok (.if_icmp .ge 46, 3) := by decide +kernel
theorem dX10_quarrels_37 : decode cX10_quarrels 37 = .ok (.aload_n 0, 1) := by decide +kernel
theorem dX10_quarrels_38 : decode cX10_quarrels 38 = .ok (.dup, 1) := by decide +kernel
theorem dX10_quarrels_39 : decode cX10_quarrels 39 = .ok (.getfield 216, 3) := by decide +kernel
theorem dX10_quarrels_42 : decode cX10_quarrels 42 = .ok (.iconst 1, 1) := by decide +kernel
theorem dX10_quarrels_43 : decode cX10_quarrels 43 = .ok (.iadd, 1) := by decide +kernel
theorem dX10_quarrels_44 : decode cX10_quarrels 44 = .ok (.putfield 216, 3) := by decide +kernel
theorem dX10_quarrels_47 : decode cX10_quarrels 47 = .ok (.iload 5, 2) := by decide +kernel
theorem dX10_quarrels_49 : decode cX10_quarrels 49 = .ok (.iload 6, 2) := by decide +kernel
theorem dX10_quarrels_51 : decode cX10_quarrels 51 = .ok (.iadd, 1) := by decide +kernel
theorem dX10_quarrels_52 : decode cX10_quarrels 52 = .ok (.istore 5, 2) := by decide +kernel
theorem dX10_quarrels_54 : decode cX10_quarrels 54 = .ok (.aload_n 0, 1) := by decide +kernel
theorem dX10_quarrels_55 : decode cX10_quarrels 55 = .ok (.dup, 1) := by decide +kernel
theorem dX10_quarrels_56 : decode cX10_quarrels 56 = .ok (.getfield 219, 3) := by decide +kernel
theorem dX10_quarrels_59 : decode cX10_quarrels 59 = .ok (.iload 6, 2) := by decide +kernel
theorem dX10_quarrels_61 : decode cX10_quarrels 61 = .ok (.isub, 1) := by decide +kernel
theorem dX10_quarrels_62 : decode cX10_quarrels 62 = .ok (.putfield 219, 3) := by decide +kernel
theorem dX10_quarrels_65 : decode cX10_quarrels 65 = .ok (.aload_n 0, 1) := by decide +kernel
theorem dX10_quarrels_66 : decode cX10_quarrels 66 = .ok (.iload_n 1, 1) := by decide +kernel
theorem dX10_quarrels_67 : decode cX10_quarrels 67 = .ok (.iload_n 2, 1) := by decide +kernel
theorem dX10_quarrels_68 : decode cX10_quarrels 68 = .ok (.aload_n 0, 1) := by decide +kernel
theorem dX10_quarrels_69 : decode cX10_quarrels 69 = .ok (.getfield 219, 3) := by decide +kernel
theorem dX10_quarrels_72 : decode cX10_quarrels 72 = .ok (.invokevirtual 222, 3) := by decide +kernel
theorem dX10_quarrels_75 : decode cX10_quarrels 75 = .ok (.istore 6, 2) := by decide +kernel
theorem dX10_quarrels_77 : decode cX10_quarrels 77 = .ok (.goto (-52), 3) := by decide +kernel
noncomputable def f_m_bargesThat_4 (G : Nat → Int32) (f0 : Nat → Int32) (i_ : Int32) (n : Nat) : Int32 → Int32 → Int32 × Int32 := Nat.rec (motive := fun _ => Int32 → Int32 → Int32 × Int32) (fun w_1l3 w_1l2 => (w_1l3, w_1l2)) (fun n ih w_1l3 w_1l2 => (if (G 6) ≤ w_1l3 then (w_1l3, w_1l2) else (if (f0 ((20 + w_1l3) : Int32).toNatClampNeg) = i_ then (ih (w_1l3 + 1) (w_1l2 ||| (1 <<< (w_1l3 &&& 31)))) else (ih (w_1l3 + 1) (w_1l2 ||| 0))))) n
theorem f_m_bargesThat_4_s (G : Nat → Int32) (f0 : Nat → Int32) (i_ : Int32) (n : Nat) (w_1l3 : Int32) (w_1l2 : Int32) : f_m_bargesThat_4 G f0 i_ (n + 1) w_1l3 w_1l2 = (if (G 6) ≤ w_1l3 then (w_1l3, w_1l2) else (if (f0 ((20 + w_1l3) : Int32).toNatClampNeg) = i_ then (f_m_bargesThat_4 G f0 i_ n (w_1l3 + 1) (w_1l2 ||| (1 <<< (w_1l3 &&& 31)))) else (f_m_bargesThat_4 G f0 i_ n (w_1l3 + 1) (w_1l2 ||| 0)))) := rfl
def S_m_bargesThat_4 (G : Nat → Int32) (f0 : Nat → Int32) (i_ : Int32) (K : Int32 → Int32 → Prop) (n : Nat) : Int32 → Int32 → Prop := Nat.rec (motive := fun _ => Int32 → Int32 → Prop) (fun _ _ => True) (fun n ih w_1l3 w_1l2 => (((G 6) ≤ w_1l3 → (K w_1l3 w_1l2)) ∧ (¬ (G 6) ≤ w_1l3 → (vp_in (20 + w_1l3) 1302 ∧ (((f0 ((20 + w_1l3) : Int32).toNatClampNeg) = i_ → (ih (w_1l3 + 1) (w_1l2 ||| (1 <<< (w_1l3 &&& 31))))) ∧ (¬ (f0 ((20 + w_1l3) : Int32).toNatClampNeg) = i_ → (ih (w_1l3 + 1) (w_1l2 ||| 0)))))))) n
theorem S_m_bargesThat_4_s (G : Nat → Int32) (f0 : Nat → Int32) (i_ : Int32) (K : Int32 → Int32 → Prop) (n : Nat) (w_1l3 : Int32) (w_1l2 : Int32) : S_m_bargesThat_4 G f0 i_ K (n + 1) w_1l3 w_1l2 = ((((G 6) ≤ w_1l3 → (K w_1l3 w_1l2)) ∧ (¬ (G 6) ≤ w_1l3 → (vp_in (20 + w_1l3) 1302 ∧ (((f0 ((20 + w_1l3) : Int32).toNatClampNeg) = i_ → (S_m_bargesThat_4 G f0 i_ K n (w_1l3 + 1) (w_1l2 ||| (1 <<< (w_1l3 &&& 31))))) ∧ (¬ (f0 ((20 + w_1l3) : Int32).toNatClampNeg) = i_ → (S_m_bargesThat_4 G f0 i_ K n (w_1l3 + 1) (w_1l2 ||| 0)))))))) := rfl
noncomputable def f_m_bargesThat (G : Nat → Int32) (f0 : Nat → Int32) (i_ : Int32) : Int32 := (match ((f_m_bargesThat_4 G f0 i_ ((((G 6) : Int32).toInt - (0 : Int32).toInt).toNat + 1) 0 0) : Int32 × Int32) with | (w_1l3, w_1l2) => w_1l2)
def S_m_bargesThat (G : Nat → Int32) (f0 : Nat → Int32) (i_ : Int32) : Prop := (S_m_bargesThat_4 G f0 i_ (fun (w_1l3 : Int32) (w_1l2 : Int32) => True) ((((G 6) : Int32).toInt - (0 : Int32).toInt).toNat + 1) 0 0)
def rm_m_bargesThat : Room := { frames := 0, cells := 0, slots := 0, locals := 0 }
set_option maxHeartbeats 4000000 in
set_option maxRecDepth 100000 in
theorem m_bargesThat {l : Launch} {D : va_G} {cI cZ : ClassId} {sz : Nat} (Rf : Nat → Nat) (h : Nat) (G : Nat → Int32) (f0 : Nat → Int32) (i_ : Int32) (hF : S_m_bargesThat G f0 i_) : KI l yX10_bargesThat cX10_bargesThat 4 (some .int) rm_m_bargesThat D cI cZ [.ref h, .int i_] sz [(h, .inr (10, ML G Rf)), ((Rf 0), .inl (cI, 1302, .inl f0))] (fun (r : Int32) (_ : Unit) => r = f_m_bargesThat G f0 i_) (fun (_ : Unit) => [(h, .inr (10, ML G Rf)), ((Rf 0), .inl (cI, 1302, .inl f0))]) := by
  refine KI.go rfl (Nat.le_of_ble_eq_true rfl) ?_
  intro p e s m args below meth c ls A Q hx hb hml hts hown hin hP hK hD hS hA hN hl hret
  have hl : lv_has ls 4 [(0, .ref h), (1, .int i_)] := hl
  rw [S_m_bargesThat] at hF
  obtain ⟨RES, hE⟩ : ∃ xRES, f_m_bargesThat G f0 i_ = xRES := ⟨_, rfl⟩
  rw [hE] at hret
  rw [f_m_bargesThat] at hE
  refine lv_iconst (v := 0) hx hb dX10_bargesThat_0 (by decide) ?_
  refine lv_istore_n (lv' := [(2, .int 0), (0, .ref h), (1, .int i_)]) hx hb dX10_bargesThat_1 rfl hl (by decide) rfl (fun ls hl => ?_)
  refine lv_iconst (v := 0) hx hb dX10_bargesThat_2 (by decide) ?_
  refine lv_istore_n (lv' := [(3, .int 0), (2, .int 0), (0, .ref h), (1, .int i_)]) hx hb dX10_bargesThat_3 rfl hl (by decide) rfl (fun ls hl => ?_)
  have ex_4_w_1 : ∀ (w_1l3 : Int32) (w_1l2 : Int32) (H : Heap) (locs : List Loc) (ls : Array Slot), va_P D classes [(h, .inr (10, ML G Rf)), ((Rf 0), .inl (cI, 1302, .inl f0))] H → va_D A [(h, .inr (10, ML G Rf)), ((Rf 0), .inl (cI, 1302, .inl f0))] → va_S A s.heap H locs → lv_has ls 4 [(3, .int w_1l3), (2, .int w_1l2), (0, .ref h), (1, .int i_)] → (True) → ((w_1l2) : Int32) = RES → W p l e rm_m_bargesThat s m args below meth c H locs 0 0 Q (F0 m 41 ls []) := by
    intro w_1l3 w_1l2 H locs ls hP hD hS hl hF hE
    refine lv_iload_n hx hb dX10_bargesThat_41 rfl (lv_at hl 1 rfl) ?_
    exact hret w_1l2 () _ _ _ _ dX10_bargesThat_42 rfl hE hP hD hS
  have lp_4_w_1 : ∀ (n_w_1 : Nat) (w_1l3 : Int32) (w_1l2 : Int32) (H : Heap) (locs : List Loc) (ls : Array Slot), va_P D classes [(h, .inr (10, ML G Rf)), ((Rf 0), .inl (cI, 1302, .inl f0))] H → va_D A [(h, .inr (10, ML G Rf)), ((Rf 0), .inl (cI, 1302, .inl f0))] → va_S A s.heap H locs → lv_has ls 4 [(3, .int w_1l3), (2, .int w_1l2), (0, .ref h), (1, .int i_)] → (S_m_bargesThat_4 G f0 i_ (fun (w_1l3 : Int32) (w_1l2 : Int32) => True) n_w_1 w_1l3 w_1l2) → (((G 6) : Int32).toInt - (w_1l3 : Int32).toInt).toNat < n_w_1 → ((match ((f_m_bargesThat_4 G f0 i_ n_w_1 w_1l3 w_1l2) : Int32 × Int32) with | (w_1l3, w_1l2) => w_1l2) : Int32) = RES → W p l e rm_m_bargesThat s m args below meth c H locs 0 0 Q (F0 m 4 ls []) := by
    intro n_w_1
    induction n_w_1 with
    | zero => intro w_1l3 w_1l2 H locs ls hP hD hS hl hF hm; exact absurd hm (Nat.not_lt_zero _)
    | succ n_w_1 ih_w_1 =>
      intro w_1l3 w_1l2 H locs ls hP hD hS hl hF hm hE
      rw [S_m_bargesThat_4_s] at hF
      rw [f_m_bargesThat_4_s] at hE
      refine lv_iload_n hx hb dX10_bargesThat_4 rfl (lv_at hl 0 rfl) ?_
      refine lv_aload_n hx hb dX10_bargesThat_5 rfl (lv_at hl 2 rfl) ?_
      refine va_get (D := D) (ci := 10) (v := .int (G 6)) (C := RX10) (T := TX10) (N := 45) hx hb hts iX10 hown hK hP 0 rfl rfl 6 (by decide) (hts _ wd_501) (fun _ h9 => h9) rfl dX10_bargesThat_6 ?_
      refine lv_icmp_ge (tgt := 41) hx hb dX10_bargesThat_9 (by decide) (fun c_2 => ?_) (fun c_2 => ?_)
      · replace hF := hF.1 c_2
        rw [if_pos c_2] at hE
        exact ex_4_w_1 w_1l3 w_1l2 _ _ ls hP hD hS (lv_sub hl [0, 1, 2, 3] rfl) hF hE
      · replace hF := hF.2 c_2
        rw [if_neg c_2] at hE
        refine lv_iload_n hx hb dX10_bargesThat_12 rfl (lv_at hl 1 rfl) ?_
        refine lv_aload_n hx hb dX10_bargesThat_13 rfl (lv_at hl 2 rfl) ?_
        refine va_get (D := D) (ci := 10) (v := .ref (Rf 0)) (C := RX10) (T := TX10) (N := 45) hx hb hts iX10 hown hK hP 0 rfl rfl 0 (by decide) (hts _ wd_491) (fun _ h9 => h9) rfl dX10_bargesThat_14 ?_
        refine lv_bipush (v := 20) hx hb dX10_bargesThat_17 (by decide) ?_
        refine lv_iload_n hx hb dX10_bargesThat_19 rfl (lv_at hl 0 rfl) ?_
        refine lv_iadd hx hb dX10_bargesThat_20 ?_
        obtain ⟨hv_3, hF⟩ := hF
        refine va_iald hx hb hK hP 1 0 rfl rfl hv_3 dX10_bargesThat_21 ?_
        refine lv_iload_n hx hb dX10_bargesThat_22 rfl (lv_at hl 3 rfl) ?_
        refine lv_icmp_ne (tgt := 32) hx hb dX10_bargesThat_23 (by decide) (fun c_4 => ?_) (fun c_4 => ?_)
        · replace hF := hF.2 c_4
          rw [if_neg c_4] at hE
          refine lv_iconst (v := 0) hx hb dX10_bargesThat_32 (by decide) ?_
          refine lv_ior hx hb dX10_bargesThat_33 ?_
          refine lv_istore_n (lv' := [(2, .int (w_1l2 ||| 0)), (3, .int w_1l3), (0, .ref h), (1, .int i_)]) hx hb dX10_bargesThat_34 rfl hl (by decide) rfl (fun ls hl => ?_)
          refine lv_iinc (v := (w_1l3 + 1)) (lv' := [(3, .int (w_1l3 + 1)), (2, .int (w_1l2 ||| 0)), (0, .ref h), (1, .int i_)]) hx hb dX10_bargesThat_35 hl (k := 1) rfl rfl (by decide) rfl (fun ls hl => ?_)
          refine lv_goto (tgt := 4) hx hb dX10_bargesThat_38 (by decide) ?_
          exact ih_w_1 (w_1l3 + 1) (w_1l2 ||| 0) _ _ ls hP hD hS (lv_sub hl [0, 1, 2, 3] rfl) hF (up_step c_2 hm) hE
        · replace hF := hF.1 c_4
          rw [if_pos c_4] at hE
          refine lv_iconst (v := 1) hx hb dX10_bargesThat_26 (by decide) ?_
          refine lv_iload_n hx hb dX10_bargesThat_27 rfl (lv_at hl 0 rfl) ?_
          refine lv_ishl hx hb dX10_bargesThat_28 ?_
          refine lv_goto (tgt := 33) hx hb dX10_bargesThat_29 (by decide) ?_
          refine lv_ior hx hb dX10_bargesThat_33 ?_
          refine lv_istore_n (lv' := [(2, .int (w_1l2 ||| (1 <<< (w_1l3 &&& 31)))), (3, .int w_1l3), (0, .ref h), (1, .int i_)]) hx hb dX10_bargesThat_34 rfl hl (by decide) rfl (fun ls hl => ?_)
          refine lv_iinc (v := (w_1l3 + 1)) (lv' := [(3, .int (w_1l3 + 1)), (2, .int (w_1l2 ||| (1 <<< (w_1l3 &&& 31)))), (0, .ref h), (1, .int i_)]) hx hb dX10_bargesThat_35 hl (k := 1) rfl rfl (by decide) rfl (fun ls hl => ?_)
          refine lv_goto (tgt := 4) hx hb dX10_bargesThat_38 (by decide) ?_
          exact ih_w_1 (w_1l3 + 1) (w_1l2 ||| (1 <<< (w_1l3 &&& 31))) _ _ ls hP hD hS (lv_sub hl [0, 1, 2, 3] rfl) hF (up_step c_2 hm) hE
  exact lp_4_w_1 ((((G 6) : Int32).toInt - (0 : Int32).toInt).toNat + 1) 0 0 _ _ ls hP hD hS hl hF (Nat.lt_succ_self _) hE
noncomputable def f_m_griefOf_4 (G : Nat → Int32) (f0 : Nat → Int32) (s_ : Int32) (n : Nat) : Int32 → Int32 → Int32 × Int32 := Nat.rec (motive := fun _ => Int32 → Int32 → Int32 × Int32) (fun w_1l3 w_1l2 => (w_1l3, w_1l2)) (fun n ih w_1l3 w_1l2 => (if (G 5) ≤ w_1l3 then (w_1l3, w_1l2) else (if (f_m_has s_ w_1l3) = 0 then (ih (w_1l3 + 1) (w_1l2 + 0)) else (ih (w_1l3 + 1) (w_1l2 + (f0 ((0 + w_1l3) : Int32).toNatClampNeg)))))) n
theorem f_m_griefOf_4_s (G : Nat → Int32) (f0 : Nat → Int32) (s_ : Int32) (n : Nat) (w_1l3 : Int32) (w_1l2 : Int32) : f_m_griefOf_4 G f0 s_ (n + 1) w_1l3 w_1l2 = (if (G 5) ≤ w_1l3 then (w_1l3, w_1l2) else (if (f_m_has s_ w_1l3) = 0 then (f_m_griefOf_4 G f0 s_ n (w_1l3 + 1) (w_1l2 + 0)) else (f_m_griefOf_4 G f0 s_ n (w_1l3 + 1) (w_1l2 + (f0 ((0 + w_1l3) : Int32).toNatClampNeg))))) := rfl
def S_m_griefOf_4 (G : Nat → Int32) (f0 : Nat → Int32) (s_ : Int32) (K : Int32 → Int32 → Prop) (n : Nat) : Int32 → Int32 → Prop := Nat.rec (motive := fun _ => Int32 → Int32 → Prop) (fun _ _ => True) (fun n ih w_1l3 w_1l2 => (((G 5) ≤ w_1l3 → (K w_1l3 w_1l2)) ∧ (¬ (G 5) ≤ w_1l3 → ((S_m_has s_ w_1l3) ∧ (((f_m_has s_ w_1l3) = 0 → (ih (w_1l3 + 1) (w_1l2 + 0))) ∧ (¬ (f_m_has s_ w_1l3) = 0 → (vp_in (0 + w_1l3) 1302 ∧ (ih (w_1l3 + 1) (w_1l2 + (f0 ((0 + w_1l3) : Int32).toNatClampNeg)))))))))) n
theorem S_m_griefOf_4_s (G : Nat → Int32) (f0 : Nat → Int32) (s_ : Int32) (K : Int32 → Int32 → Prop) (n : Nat) (w_1l3 : Int32) (w_1l2 : Int32) : S_m_griefOf_4 G f0 s_ K (n + 1) w_1l3 w_1l2 = ((((G 5) ≤ w_1l3 → (K w_1l3 w_1l2)) ∧ (¬ (G 5) ≤ w_1l3 → ((S_m_has s_ w_1l3) ∧ (((f_m_has s_ w_1l3) = 0 → (S_m_griefOf_4 G f0 s_ K n (w_1l3 + 1) (w_1l2 + 0))) ∧ (¬ (f_m_has s_ w_1l3) = 0 → (vp_in (0 + w_1l3) 1302 ∧ (S_m_griefOf_4 G f0 s_ K n (w_1l3 + 1) (w_1l2 + (f0 ((0 + w_1l3) : Int32).toNatClampNeg)))))))))) := rfl
noncomputable def f_m_griefOf (G : Nat → Int32) (f0 : Nat → Int32) (s_ : Int32) : Int32 := (match ((f_m_griefOf_4 G f0 s_ ((((G 5) : Int32).toInt - (0 : Int32).toInt).toNat + 1) 0 0) : Int32 × Int32) with | (w_1l3, w_1l2) => w_1l2)
def S_m_griefOf (G : Nat → Int32) (f0 : Nat → Int32) (s_ : Int32) : Prop := (S_m_griefOf_4 G f0 s_ (fun (w_1l3 : Int32) (w_1l2 : Int32) => True) ((((G 5) : Int32).toInt - (0 : Int32).toInt).toNat + 1) 0 0)
def rm_m_griefOf : Room := { frames := 1, cells := 0, slots := 0, locals := 21 }
set_option maxHeartbeats 4000000 in
set_option maxRecDepth 100000 in
theorem m_griefOf {l : Launch} {D : va_G} {cI cZ : ClassId} {sz : Nat} (Rf : Nat → Nat) (h : Nat) (G : Nat → Int32) (f0 : Nat → Int32) (s_ : Int32) (hF : S_m_griefOf G f0 s_) : KI l yX10_griefOf cX10_griefOf 4 (some .int) rm_m_griefOf D cI cZ [.ref h, .int s_] sz [(h, .inr (10, ML G Rf)), ((Rf 0), .inl (cI, 1302, .inl f0))] (fun (r : Int32) (_ : Unit) => r = f_m_griefOf G f0 s_) (fun (_ : Unit) => [(h, .inr (10, ML G Rf)), ((Rf 0), .inl (cI, 1302, .inl f0))]) := by
  refine KI.go rfl (Nat.le_of_ble_eq_true rfl) ?_
  intro p e s m args below meth c ls A Q hx hb hml hts hown hin hP hK hD hS hA hN hl hret
  have hl : lv_has ls 4 [(0, .ref h), (1, .int s_)] := hl
  rw [S_m_griefOf] at hF
  obtain ⟨RES, hE⟩ : ∃ xRES, f_m_griefOf G f0 s_ = xRES := ⟨_, rfl⟩
  rw [hE] at hret
  rw [f_m_griefOf] at hE
  refine lv_iconst (v := 0) hx hb dX10_griefOf_0 (by decide) ?_
  refine lv_istore_n (lv' := [(2, .int 0), (0, .ref h), (1, .int s_)]) hx hb dX10_griefOf_1 rfl hl (by decide) rfl (fun ls hl => ?_)
  refine lv_iconst (v := 0) hx hb dX10_griefOf_2 (by decide) ?_
  refine lv_istore_n (lv' := [(3, .int 0), (2, .int 0), (0, .ref h), (1, .int s_)]) hx hb dX10_griefOf_3 rfl hl (by decide) rfl (fun ls hl => ?_)
  have ex_4_w_1 : ∀ (w_1l3 : Int32) (w_1l2 : Int32) (H : Heap) (locs : List Loc) (ls : Array Slot), va_P D classes [(h, .inr (10, ML G Rf)), ((Rf 0), .inl (cI, 1302, .inl f0))] H → va_D A [(h, .inr (10, ML G Rf)), ((Rf 0), .inl (cI, 1302, .inl f0))] → va_S A s.heap H locs → lv_has ls 4 [(3, .int w_1l3), (2, .int w_1l2), (0, .ref h), (1, .int s_)] → (True) → ((w_1l2) : Int32) = RES → W p l e rm_m_griefOf s m args below meth c H locs 0 0 Q (F0 m 41 ls []) := by
    intro w_1l3 w_1l2 H locs ls hP hD hS hl hF hE
    refine lv_iload_n hx hb dX10_griefOf_41 rfl (lv_at hl 1 rfl) ?_
    exact hret w_1l2 () _ _ _ _ dX10_griefOf_42 rfl hE hP hD hS
  have lp_4_w_1 : ∀ (n_w_1 : Nat) (w_1l3 : Int32) (w_1l2 : Int32) (H : Heap) (locs : List Loc) (ls : Array Slot), va_P D classes [(h, .inr (10, ML G Rf)), ((Rf 0), .inl (cI, 1302, .inl f0))] H → va_D A [(h, .inr (10, ML G Rf)), ((Rf 0), .inl (cI, 1302, .inl f0))] → va_S A s.heap H locs → lv_has ls 4 [(3, .int w_1l3), (2, .int w_1l2), (0, .ref h), (1, .int s_)] → (S_m_griefOf_4 G f0 s_ (fun (w_1l3 : Int32) (w_1l2 : Int32) => True) n_w_1 w_1l3 w_1l2) → (((G 5) : Int32).toInt - (w_1l3 : Int32).toInt).toNat < n_w_1 → ((match ((f_m_griefOf_4 G f0 s_ n_w_1 w_1l3 w_1l2) : Int32 × Int32) with | (w_1l3, w_1l2) => w_1l2) : Int32) = RES → W p l e rm_m_griefOf s m args below meth c H locs 0 0 Q (F0 m 4 ls []) := by
    intro n_w_1
    induction n_w_1 with
    | zero => intro w_1l3 w_1l2 H locs ls hP hD hS hl hF hm; exact absurd hm (Nat.not_lt_zero _)
    | succ n_w_1 ih_w_1 =>
      intro w_1l3 w_1l2 H locs ls hP hD hS hl hF hm hE
      rw [S_m_griefOf_4_s] at hF
      rw [f_m_griefOf_4_s] at hE
      refine lv_iload_n hx hb dX10_griefOf_4 rfl (lv_at hl 0 rfl) ?_
      refine lv_aload_n hx hb dX10_griefOf_5 rfl (lv_at hl 2 rfl) ?_
      refine va_get (D := D) (ci := 10) (v := .int (G 5)) (C := RX10) (T := TX10) (N := 45) hx hb hts iX10 hown hK hP 0 rfl rfl 5 (by decide) (hts _ wd_499) (fun _ h9 => h9) rfl dX10_griefOf_6 ?_
      refine lv_icmp_ge (tgt := 41) hx hb dX10_griefOf_9 (by decide) (fun c_2 => ?_) (fun c_2 => ?_)
      · replace hF := hF.1 c_2
        rw [if_pos c_2] at hE
        exact ex_4_w_1 w_1l3 w_1l2 _ _ ls hP hD hS (lv_sub hl [0, 1, 2, 3] rfl) hF hE
      · replace hF := hF.2 c_2
        rw [if_neg c_2] at hE
        refine lv_iload_n hx hb dX10_griefOf_12 rfl (lv_at hl 1 rfl) ?_
        refine lv_iload_n hx hb dX10_griefOf_13 rfl (lv_at hl 3 rfl) ?_
        refine lv_iload_n hx hb dX10_griefOf_14 rfl (lv_at hl 0 rfl) ?_
        obtain ⟨hs_3, hF⟩ := hF
        refine cSi (wr := [(h, .inr (10, ML G Rf)), ((Rf 0), .inl (cI, 1302, .inl f0))]) (rest := [.int w_1l2]) (m_has s_ w_1l3 hs_3) okS_X10_has wd_502 hx hb hml hown hts hK hP hD hS hA hN hl.1 [] [0, 1] rfl rfl rfl rfl (by decide) rfl (Nat.le_of_ble_eq_true rfl) (Nat.le_of_ble_eq_true rfl) (Nat.le_of_ble_eq_true rfl) (Nat.le_of_ble_eq_true rfl) (Nat.le_of_ble_eq_true rfl) dX10_griefOf_15 (fun r_5 u_4 H locs hw_u_4 hP hD hS => ?_)
        replace hw_u_4 : r_5 = (f_m_has s_ w_1l3) := hw_u_4
        rw [hw_u_4]
        clear hw_u_4
        have hP : va_P D classes [(h, .inr (10, ML G Rf)), ((Rf 0), .inl (cI, 1302, .inl f0))] H := hP
        have hD : va_D A [(h, .inr (10, ML G Rf)), ((Rf 0), .inl (cI, 1302, .inl f0))] := hD
        refine lv_if_eq (tgt := 32) hx hb dX10_griefOf_18 (by decide) (fun c_6 => ?_) (fun c_6 => ?_)
        · replace hF := hF.1 c_6
          rw [if_pos c_6] at hE
          refine lv_iconst (v := 0) hx hb dX10_griefOf_32 (by decide) ?_
          refine lv_iadd hx hb dX10_griefOf_33 ?_
          refine lv_istore_n (lv' := [(2, .int (w_1l2 + 0)), (3, .int w_1l3), (0, .ref h), (1, .int s_)]) hx hb dX10_griefOf_34 rfl hl (by decide) rfl (fun ls hl => ?_)
          refine lv_iinc (v := (w_1l3 + 1)) (lv' := [(3, .int (w_1l3 + 1)), (2, .int (w_1l2 + 0)), (0, .ref h), (1, .int s_)]) hx hb dX10_griefOf_35 hl (k := 1) rfl rfl (by decide) rfl (fun ls hl => ?_)
          refine lv_goto (tgt := 4) hx hb dX10_griefOf_38 (by decide) ?_
          exact ih_w_1 (w_1l3 + 1) (w_1l2 + 0) _ _ ls hP hD hS (lv_sub hl [0, 1, 2, 3] rfl) hF (up_step c_2 hm) hE
        · replace hF := hF.2 c_6
          rw [if_neg c_6] at hE
          refine lv_aload_n hx hb dX10_griefOf_21 rfl (lv_at hl 2 rfl) ?_
          refine va_get (D := D) (ci := 10) (v := .ref (Rf 0)) (C := RX10) (T := TX10) (N := 45) hx hb hts iX10 hown hK hP 0 rfl rfl 0 (by decide) (hts _ wd_491) (fun _ h9 => h9) rfl dX10_griefOf_22 ?_
          refine lv_iconst (v := 0) hx hb dX10_griefOf_25 (by decide) ?_
          refine lv_iload_n hx hb dX10_griefOf_26 rfl (lv_at hl 0 rfl) ?_
          refine lv_iadd hx hb dX10_griefOf_27 ?_
          obtain ⟨hv_7, hF⟩ := hF
          refine va_iald hx hb hK hP 1 0 rfl rfl hv_7 dX10_griefOf_28 ?_
          refine lv_goto (tgt := 33) hx hb dX10_griefOf_29 (by decide) ?_
          refine lv_iadd hx hb dX10_griefOf_33 ?_
          refine lv_istore_n (lv' := [(2, .int (w_1l2 + (f0 ((0 + w_1l3) : Int32).toNatClampNeg))), (3, .int w_1l3), (0, .ref h), (1, .int s_)]) hx hb dX10_griefOf_34 rfl hl (by decide) rfl (fun ls hl => ?_)
          refine lv_iinc (v := (w_1l3 + 1)) (lv' := [(3, .int (w_1l3 + 1)), (2, .int (w_1l2 + (f0 ((0 + w_1l3) : Int32).toNatClampNeg))), (0, .ref h), (1, .int s_)]) hx hb dX10_griefOf_35 hl (k := 1) rfl rfl (by decide) rfl (fun ls hl => ?_)
          refine lv_goto (tgt := 4) hx hb dX10_griefOf_38 (by decide) ?_
          exact ih_w_1 (w_1l3 + 1) (w_1l2 + (f0 ((0 + w_1l3) : Int32).toNatClampNeg)) _ _ ls hP hD hS (lv_sub hl [0, 1, 2, 3] rfl) hF (up_step c_2 hm) hE
  exact lp_4_w_1 ((((G 5) : Int32).toInt - (0 : Int32).toInt).toNat + 1) 0 0 _ _ ls hP hD hS hl hF (Nat.lt_succ_self _) hE
noncomputable def f_m_whoIsAt_5 (G : Nat → Int32) (f0 : Nat → Int32) (h_ : Int32) (b_ : Int32) (n : Nat) : Int32 → Int32 → Int32 × Int32 := Nat.rec (motive := fun _ => Int32 → Int32 → Int32 × Int32) (fun w_1l4 w_1l3 => (w_1l4, w_1l3)) (fun n ih w_1l4 w_1l3 => (if (G 5) ≤ w_1l4 then (w_1l4, w_1l3) else (if (f0 (((h_ + 6) + w_1l4) : Int32).toNatClampNeg) = b_ then (ih (w_1l4 + 1) w_1l4) else (ih (w_1l4 + 1) w_1l3)))) n
theorem f_m_whoIsAt_5_s (G : Nat → Int32) (f0 : Nat → Int32) (h_ : Int32) (b_ : Int32) (n : Nat) (w_1l4 : Int32) (w_1l3 : Int32) : f_m_whoIsAt_5 G f0 h_ b_ (n + 1) w_1l4 w_1l3 = (if (G 5) ≤ w_1l4 then (w_1l4, w_1l3) else (if (f0 (((h_ + 6) + w_1l4) : Int32).toNatClampNeg) = b_ then (f_m_whoIsAt_5 G f0 h_ b_ n (w_1l4 + 1) w_1l4) else (f_m_whoIsAt_5 G f0 h_ b_ n (w_1l4 + 1) w_1l3))) := rfl
def S_m_whoIsAt_5 (G : Nat → Int32) (f0 : Nat → Int32) (h_ : Int32) (b_ : Int32) (K : Int32 → Int32 → Prop) (n : Nat) : Int32 → Int32 → Prop := Nat.rec (motive := fun _ => Int32 → Int32 → Prop) (fun _ _ => True) (fun n ih w_1l4 w_1l3 => (((G 5) ≤ w_1l4 → (K w_1l4 w_1l3)) ∧ (¬ (G 5) ≤ w_1l4 → (vp_in ((h_ + 6) + w_1l4) 1302 ∧ (((f0 (((h_ + 6) + w_1l4) : Int32).toNatClampNeg) = b_ → (ih (w_1l4 + 1) w_1l4)) ∧ (¬ (f0 (((h_ + 6) + w_1l4) : Int32).toNatClampNeg) = b_ → (ih (w_1l4 + 1) w_1l3))))))) n
theorem S_m_whoIsAt_5_s (G : Nat → Int32) (f0 : Nat → Int32) (h_ : Int32) (b_ : Int32) (K : Int32 → Int32 → Prop) (n : Nat) (w_1l4 : Int32) (w_1l3 : Int32) : S_m_whoIsAt_5 G f0 h_ b_ K (n + 1) w_1l4 w_1l3 = ((((G 5) ≤ w_1l4 → (K w_1l4 w_1l3)) ∧ (¬ (G 5) ≤ w_1l4 → (vp_in ((h_ + 6) + w_1l4) 1302 ∧ (((f0 (((h_ + 6) + w_1l4) : Int32).toNatClampNeg) = b_ → (S_m_whoIsAt_5 G f0 h_ b_ K n (w_1l4 + 1) w_1l4)) ∧ (¬ (f0 (((h_ + 6) + w_1l4) : Int32).toNatClampNeg) = b_ → (S_m_whoIsAt_5 G f0 h_ b_ K n (w_1l4 + 1) w_1l3))))))) := rfl
noncomputable def f_m_whoIsAt (G : Nat → Int32) (f0 : Nat → Int32) (h_ : Int32) (b_ : Int32) : Int32 := (match ((f_m_whoIsAt_5 G f0 h_ b_ ((((G 5) : Int32).toInt - (0 : Int32).toInt).toNat + 1) 0 (-1)) : Int32 × Int32) with | (w_1l4, w_1l3) => w_1l3)
def S_m_whoIsAt (G : Nat → Int32) (f0 : Nat → Int32) (h_ : Int32) (b_ : Int32) : Prop := (S_m_whoIsAt_5 G f0 h_ b_ (fun (w_1l4 : Int32) (w_1l3 : Int32) => True) ((((G 5) : Int32).toInt - (0 : Int32).toInt).toNat + 1) 0 (-1))
def rm_m_whoIsAt : Room := { frames := 0, cells := 0, slots := 0, locals := 0 }
set_option maxHeartbeats 4000000 in
set_option maxRecDepth 100000 in
theorem m_whoIsAt {l : Launch} {D : va_G} {cI cZ : ClassId} {sz : Nat} (Rf : Nat → Nat) (h : Nat) (G : Nat → Int32) (f0 : Nat → Int32) (h_ : Int32) (b_ : Int32) (hF : S_m_whoIsAt G f0 h_ b_) : KI l yX10_whoIsAt cX10_whoIsAt 5 (some .int) rm_m_whoIsAt D cI cZ [.ref h, .int h_, .int b_] sz [(h, .inr (10, ML G Rf)), ((Rf 0), .inl (cI, 1302, .inl f0))] (fun (r : Int32) (_ : Unit) => r = f_m_whoIsAt G f0 h_ b_) (fun (_ : Unit) => [(h, .inr (10, ML G Rf)), ((Rf 0), .inl (cI, 1302, .inl f0))]) := by
  refine KI.go rfl (Nat.le_of_ble_eq_true rfl) ?_
  intro p e s m args below meth c ls A Q hx hb hml hts hown hin hP hK hD hS hA hN hl hret
  have hl : lv_has ls 5 [(0, .ref h), (1, .int h_), (2, .int b_)] := hl
  rw [S_m_whoIsAt] at hF
  obtain ⟨RES, hE⟩ : ∃ xRES, f_m_whoIsAt G f0 h_ b_ = xRES := ⟨_, rfl⟩
  rw [hE] at hret
  rw [f_m_whoIsAt] at hE
  refine lv_iconst (v := (-1)) hx hb dX10_whoIsAt_0 (by decide) ?_
  refine lv_istore_n (lv' := [(3, .int (-1)), (0, .ref h), (1, .int h_), (2, .int b_)]) hx hb dX10_whoIsAt_1 rfl hl (by decide) rfl (fun ls hl => ?_)
  refine lv_iconst (v := 0) hx hb dX10_whoIsAt_2 (by decide) ?_
  refine lv_istore (lv' := [(4, .int 0), (3, .int (-1)), (0, .ref h), (1, .int h_), (2, .int b_)]) hx hb dX10_whoIsAt_3 hl (by decide) rfl (fun ls hl => ?_)
  have ex_5_w_1 : ∀ (w_1l4 : Int32) (w_1l3 : Int32) (H : Heap) (locs : List Loc) (ls : Array Slot), va_P D classes [(h, .inr (10, ML G Rf)), ((Rf 0), .inl (cI, 1302, .inl f0))] H → va_D A [(h, .inr (10, ML G Rf)), ((Rf 0), .inl (cI, 1302, .inl f0))] → va_S A s.heap H locs → lv_has ls 5 [(4, .int w_1l4), (3, .int w_1l3), (0, .ref h), (1, .int h_), (2, .int b_)] → (True) → ((w_1l3) : Int32) = RES → W p l e rm_m_whoIsAt s m args below meth c H locs 0 0 Q (F0 m 43 ls []) := by
    intro w_1l4 w_1l3 H locs ls hP hD hS hl hF hE
    refine lv_iload_n hx hb dX10_whoIsAt_43 rfl (lv_at hl 1 rfl) ?_
    exact hret w_1l3 () _ _ _ _ dX10_whoIsAt_44 rfl hE hP hD hS
  have lp_5_w_1 : ∀ (n_w_1 : Nat) (w_1l4 : Int32) (w_1l3 : Int32) (H : Heap) (locs : List Loc) (ls : Array Slot), va_P D classes [(h, .inr (10, ML G Rf)), ((Rf 0), .inl (cI, 1302, .inl f0))] H → va_D A [(h, .inr (10, ML G Rf)), ((Rf 0), .inl (cI, 1302, .inl f0))] → va_S A s.heap H locs → lv_has ls 5 [(4, .int w_1l4), (3, .int w_1l3), (0, .ref h), (1, .int h_), (2, .int b_)] → (S_m_whoIsAt_5 G f0 h_ b_ (fun (w_1l4 : Int32) (w_1l3 : Int32) => True) n_w_1 w_1l4 w_1l3) → (((G 5) : Int32).toInt - (w_1l4 : Int32).toInt).toNat < n_w_1 → ((match ((f_m_whoIsAt_5 G f0 h_ b_ n_w_1 w_1l4 w_1l3) : Int32 × Int32) with | (w_1l4, w_1l3) => w_1l3) : Int32) = RES → W p l e rm_m_whoIsAt s m args below meth c H locs 0 0 Q (F0 m 5 ls []) := by
    intro n_w_1
    induction n_w_1 with
    | zero => intro w_1l4 w_1l3 H locs ls hP hD hS hl hF hm; exact absurd hm (Nat.not_lt_zero _)
    | succ n_w_1 ih_w_1 =>
      intro w_1l4 w_1l3 H locs ls hP hD hS hl hF hm hE
      rw [S_m_whoIsAt_5_s] at hF
      rw [f_m_whoIsAt_5_s] at hE
      refine lv_iload hx hb dX10_whoIsAt_5 (lv_at hl 0 rfl) ?_
      refine lv_aload_n hx hb dX10_whoIsAt_7 rfl (lv_at hl 2 rfl) ?_
      refine va_get (D := D) (ci := 10) (v := .int (G 5)) (C := RX10) (T := TX10) (N := 45) hx hb hts iX10 hown hK hP 0 rfl rfl 5 (by decide) (hts _ wd_499) (fun _ h9 => h9) rfl dX10_whoIsAt_8 ?_
      refine lv_icmp_ge (tgt := 43) hx hb dX10_whoIsAt_11 (by decide) (fun c_2 => ?_) (fun c_2 => ?_)
      · replace hF := hF.1 c_2
        rw [if_pos c_2] at hE
        exact ex_5_w_1 w_1l4 w_1l3 _ _ ls hP hD hS (lv_sub hl [0, 1, 2, 3, 4] rfl) hF hE
      · replace hF := hF.2 c_2
        rw [if_neg c_2] at hE
        refine lv_aload_n hx hb dX10_whoIsAt_14 rfl (lv_at hl 2 rfl) ?_
        refine va_get (D := D) (ci := 10) (v := .ref (Rf 0)) (C := RX10) (T := TX10) (N := 45) hx hb hts iX10 hown hK hP 0 rfl rfl 0 (by decide) (hts _ wd_491) (fun _ h9 => h9) rfl dX10_whoIsAt_15 ?_
        refine lv_iload_n hx hb dX10_whoIsAt_18 rfl (lv_at hl 3 rfl) ?_
        refine lv_bipush (v := 6) hx hb dX10_whoIsAt_19 (by decide) ?_
        refine lv_iadd hx hb dX10_whoIsAt_21 ?_
        refine lv_iload hx hb dX10_whoIsAt_22 (lv_at hl 0 rfl) ?_
        refine lv_iadd hx hb dX10_whoIsAt_24 ?_
        obtain ⟨hv_3, hF⟩ := hF
        refine va_iald hx hb hK hP 1 0 rfl rfl hv_3 dX10_whoIsAt_25 ?_
        refine lv_iload_n hx hb dX10_whoIsAt_26 rfl (lv_at hl 4 rfl) ?_
        refine lv_icmp_ne (tgt := 35) hx hb dX10_whoIsAt_27 (by decide) (fun c_4 => ?_) (fun c_4 => ?_)
        · replace hF := hF.2 c_4
          rw [if_neg c_4] at hE
          refine lv_iload_n hx hb dX10_whoIsAt_35 rfl (lv_at hl 1 rfl) ?_
          refine lv_istore_n (lv' := [(3, .int w_1l3), (4, .int w_1l4), (0, .ref h), (1, .int h_), (2, .int b_)]) hx hb dX10_whoIsAt_36 rfl hl (by decide) rfl (fun ls hl => ?_)
          refine lv_iinc (v := (w_1l4 + 1)) (lv' := [(4, .int (w_1l4 + 1)), (3, .int w_1l3), (0, .ref h), (1, .int h_), (2, .int b_)]) hx hb dX10_whoIsAt_37 hl (k := 1) rfl rfl (by decide) rfl (fun ls hl => ?_)
          refine lv_goto (tgt := 5) hx hb dX10_whoIsAt_40 (by decide) ?_
          exact ih_w_1 (w_1l4 + 1) w_1l3 _ _ ls hP hD hS (lv_sub hl [0, 1, 2, 3, 4] rfl) hF (up_step c_2 hm) hE
        · replace hF := hF.1 c_4
          rw [if_pos c_4] at hE
          refine lv_iload hx hb dX10_whoIsAt_30 (lv_at hl 0 rfl) ?_
          refine lv_goto (tgt := 36) hx hb dX10_whoIsAt_32 (by decide) ?_
          refine lv_istore_n (lv' := [(3, .int w_1l4), (4, .int w_1l4), (0, .ref h), (1, .int h_), (2, .int b_)]) hx hb dX10_whoIsAt_36 rfl hl (by decide) rfl (fun ls hl => ?_)
          refine lv_iinc (v := (w_1l4 + 1)) (lv' := [(4, .int (w_1l4 + 1)), (3, .int w_1l4), (0, .ref h), (1, .int h_), (2, .int b_)]) hx hb dX10_whoIsAt_37 hl (k := 1) rfl rfl (by decide) rfl (fun ls hl => ?_)
          refine lv_goto (tgt := 5) hx hb dX10_whoIsAt_40 (by decide) ?_
          exact ih_w_1 (w_1l4 + 1) w_1l4 _ _ ls hP hD hS (lv_sub hl [0, 1, 2, 3, 4] rfl) hF (up_step c_2 hm) hE
  exact lp_5_w_1 ((((G 5) : Int32).toInt - (0 : Int32).toInt).toNat + 1) 0 (-1) _ _ ls hP hD hS hl hF (Nat.lt_succ_self _) hE
noncomputable def f_m_stampOf (G : Nat → Int32) (f10 : Nat → Int32) (c_ : Int32) (t_ : Int32) (from_ : Int32) : Int32 := (if (G 7) = 1 then (if from_ ≤ (((f10 (((5 * c_) + t_) : Int32).toNatClampNeg) + (from_ / 10)) / 2) then from_ else (((f10 (((5 * c_) + t_) : Int32).toNatClampNeg) + (from_ / 10)) / 2)) else (if from_ ≤ ((f10 (((5 * c_) + t_) : Int32).toNatClampNeg) + (from_ / 10)) then from_ else ((f10 (((5 * c_) + t_) : Int32).toNatClampNeg) + (from_ / 10))))
def S_m_stampOf (G : Nat → Int32) (f10 : Nat → Int32) (c_ : Int32) (t_ : Int32) (from_ : Int32) : Prop := (vp_in ((5 * c_) + t_) 30 ∧ (((G 7) = 1 → ((from_ ≤ (((f10 (((5 * c_) + t_) : Int32).toNatClampNeg) + (from_ / 10)) / 2) → True) ∧ (¬ from_ ≤ (((f10 (((5 * c_) + t_) : Int32).toNatClampNeg) + (from_ / 10)) / 2) → True))) ∧ (¬ (G 7) = 1 → ((from_ ≤ ((f10 (((5 * c_) + t_) : Int32).toNatClampNeg) + (from_ / 10)) → True) ∧ (¬ from_ ≤ ((f10 (((5 * c_) + t_) : Int32).toNatClampNeg) + (from_ / 10)) → True)))))
def rm_m_stampOf : Room := { frames := 0, cells := 0, slots := 0, locals := 0 }
set_option maxHeartbeats 4000000 in
set_option maxRecDepth 100000 in
theorem m_stampOf {l : Launch} {D : va_G} {cI cZ : ClassId} {sz : Nat} (Rf : Nat → Nat) (h : Nat) (G : Nat → Int32) (f10 : Nat → Int32) (c_ : Int32) (t_ : Int32) (from_ : Int32) (hF : S_m_stampOf G f10 c_ t_ from_) : KI l yX10_stampOf cX10_stampOf 5 (some .int) rm_m_stampOf D cI cZ [.ref h, .int c_, .int t_, .int from_] sz [(h, .inr (10, ML G Rf)), ((Rf 10), .inl (cI, 30, .inl f10))] (fun (r : Int32) (_ : Unit) => r = f_m_stampOf G f10 c_ t_ from_) (fun (_ : Unit) => [(h, .inr (10, ML G Rf)), ((Rf 10), .inl (cI, 30, .inl f10))]) := by
  refine KI.go rfl (Nat.le_of_ble_eq_true rfl) ?_
  intro p e s m args below meth c ls A Q hx hb hml hts hown hin hP hK hD hS hA hN hl hret
  have hl : lv_has ls 5 [(0, .ref h), (1, .int c_), (2, .int t_), (3, .int from_)] := hl
  rw [S_m_stampOf] at hF
  obtain ⟨RES, hE⟩ : ∃ xRES, f_m_stampOf G f10 c_ t_ from_ = xRES := ⟨_, rfl⟩
  rw [hE] at hret
  rw [f_m_stampOf] at hE
  refine lv_aload_n hx hb dX10_stampOf_0 rfl (lv_at hl 0 rfl) ?_
  refine va_get (D := D) (ci := 10) (v := .ref (Rf 10)) (C := RX10) (T := TX10) (N := 45) hx hb hts iX10 hown hK hP 0 rfl rfl 10 (by decide) (hts _ wd_547) (fun _ h9 => h9) rfl dX10_stampOf_1 ?_
  refine lv_iconst (v := 5) hx hb dX10_stampOf_4 (by decide) ?_
  refine lv_iload_n hx hb dX10_stampOf_5 rfl (lv_at hl 1 rfl) ?_
  refine lv_imul hx hb dX10_stampOf_6 ?_
  refine lv_iload_n hx hb dX10_stampOf_7 rfl (lv_at hl 2 rfl) ?_
  refine lv_iadd hx hb dX10_stampOf_8 ?_
  obtain ⟨hv_1, hF⟩ := hF
  refine va_iald hx hb hK hP 1 0 rfl rfl hv_1 dX10_stampOf_9 ?_
  refine lv_iload_n hx hb dX10_stampOf_10 rfl (lv_at hl 3 rfl) ?_
  refine lv_bipush (v := 10) hx hb dX10_stampOf_11 (by decide) ?_
  refine lv_idiv hx hb dX10_stampOf_13 (by decide) ?_
  refine lv_iadd hx hb dX10_stampOf_14 ?_
  refine lv_istore (lv' := [(4, .int ((f10 (((5 * c_) + t_) : Int32).toNatClampNeg) + (from_ / 10))), (0, .ref h), (1, .int c_), (2, .int t_), (3, .int from_)]) hx hb dX10_stampOf_15 hl (by decide) rfl (fun ls hl => ?_)
  refine lv_aload_n hx hb dX10_stampOf_17 rfl (lv_at hl 1 rfl) ?_
  refine va_get (D := D) (ci := 10) (v := .int (G 7)) (C := RX10) (T := TX10) (N := 45) hx hb hts iX10 hown hK hP 0 rfl rfl 7 (by decide) (hts _ wd_548) (fun _ h9 => h9) rfl dX10_stampOf_18 ?_
  refine lv_iconst (v := 1) hx hb dX10_stampOf_21 (by decide) ?_
  refine lv_icmp_ne (tgt := 32) hx hb dX10_stampOf_22 (by decide) (fun c_2 => ?_) (fun c_2 => ?_)
  · replace hF := hF.2 c_2
    rw [if_neg c_2] at hE
    refine lv_iload hx hb dX10_stampOf_32 (lv_at hl 0 rfl) ?_
    refine lv_istore (lv' := [(4, .int ((f10 (((5 * c_) + t_) : Int32).toNatClampNeg) + (from_ / 10))), (0, .ref h), (1, .int c_), (2, .int t_), (3, .int from_)]) hx hb dX10_stampOf_34 hl (by decide) rfl (fun ls hl => ?_)
    refine lv_iload hx hb dX10_stampOf_36 (lv_at hl 0 rfl) ?_
    refine lv_iload_n hx hb dX10_stampOf_38 rfl (lv_at hl 4 rfl) ?_
    refine lv_icmp_ge (tgt := 47) hx hb dX10_stampOf_39 (by decide) (fun c_3 => ?_) (fun c_3 => ?_)
    · replace hF := hF.1 c_3
      rw [if_pos c_3] at hE
      refine lv_iload_n hx hb dX10_stampOf_47 rfl (lv_at hl 4 rfl) ?_
      exact hret from_ () _ _ _ _ dX10_stampOf_48 rfl hE hP hD hS
    · replace hF := hF.2 c_3
      rw [if_neg c_3] at hE
      refine lv_iload hx hb dX10_stampOf_42 (lv_at hl 0 rfl) ?_
      refine lv_goto (tgt := 48) hx hb dX10_stampOf_44 (by decide) ?_
      exact hret ((f10 (((5 * c_) + t_) : Int32).toNatClampNeg) + (from_ / 10)) () _ _ _ _ dX10_stampOf_48 rfl hE hP hD hS
  · replace hF := hF.1 c_2
    rw [if_pos c_2] at hE
    refine lv_iload hx hb dX10_stampOf_25 (lv_at hl 0 rfl) ?_
    refine lv_iconst (v := 2) hx hb dX10_stampOf_27 (by decide) ?_
    refine lv_idiv hx hb dX10_stampOf_28 (by decide) ?_
    refine lv_goto (tgt := 34) hx hb dX10_stampOf_29 (by decide) ?_
    refine lv_istore (lv' := [(4, .int (((f10 (((5 * c_) + t_) : Int32).toNatClampNeg) + (from_ / 10)) / 2)), (0, .ref h), (1, .int c_), (2, .int t_), (3, .int from_)]) hx hb dX10_stampOf_34 hl (by decide) rfl (fun ls hl => ?_)
    refine lv_iload hx hb dX10_stampOf_36 (lv_at hl 0 rfl) ?_
    refine lv_iload_n hx hb dX10_stampOf_38 rfl (lv_at hl 4 rfl) ?_
    refine lv_icmp_ge (tgt := 47) hx hb dX10_stampOf_39 (by decide) (fun c_4 => ?_) (fun c_4 => ?_)
    · replace hF := hF.1 c_4
      rw [if_pos c_4] at hE
      refine lv_iload_n hx hb dX10_stampOf_47 rfl (lv_at hl 4 rfl) ?_
      exact hret from_ () _ _ _ _ dX10_stampOf_48 rfl hE hP hD hS
    · replace hF := hF.2 c_4
      rw [if_neg c_4] at hE
      refine lv_iload hx hb dX10_stampOf_42 (lv_at hl 0 rfl) ?_
      refine lv_goto (tgt := 48) hx hb dX10_stampOf_44 (by decide) ?_
      exact hret (((f10 (((5 * c_) + t_) : Int32).toNatClampNeg) + (from_ / 10)) / 2) () _ _ _ _ dX10_stampOf_48 rfl hE hP hD hS
noncomputable def f_m_quarrels_25 (f10 : Nat → Int32) (c_ : Int32) (t_ : Int32) (need_ : Int32) (n : Nat) : Int32 → Int32 → (Nat → Int32) → Int32 × Int32 × (Nat → Int32) := Nat.rec (motive := fun _ => Int32 → Int32 → (Nat → Int32) → Int32 × Int32 × (Nat → Int32)) (fun w_4l6 w_4l5 w_4m0 => (w_4l6, w_4l5, w_4m0)) (fun n ih w_4l6 w_4l5 w_4m0 => (if w_4l6 ≤ 0 then (w_4l6, w_4l5, w_4m0) else (if need_ ≤ w_4l5 then (w_4l6, w_4l5, w_4m0) else (ih (f_m_stampOf (upd (upd w_4m0 32 ((w_4m0 32) + 1)) 33 ((w_4m0 33) - w_4l6)) f10 c_ t_ ((w_4m0 33) - w_4l6)) (w_4l5 + w_4l6) (upd (upd w_4m0 32 ((w_4m0 32) + 1)) 33 ((w_4m0 33) - w_4l6)))))) n
theorem f_m_quarrels_25_s (f10 : Nat → Int32) (c_ : Int32) (t_ : Int32) (need_ : Int32) (n : Nat) (w_4l6 : Int32) (w_4l5 : Int32) (w_4m0 : (Nat → Int32)) : f_m_quarrels_25 f10 c_ t_ need_ (n + 1) w_4l6 w_4l5 w_4m0 = (if w_4l6 ≤ 0 then (w_4l6, w_4l5, w_4m0) else (if need_ ≤ w_4l5 then (w_4l6, w_4l5, w_4m0) else (f_m_quarrels_25 f10 c_ t_ need_ n (f_m_stampOf (upd (upd w_4m0 32 ((w_4m0 32) + 1)) 33 ((w_4m0 33) - w_4l6)) f10 c_ t_ ((w_4m0 33) - w_4l6)) (w_4l5 + w_4l6) (upd (upd w_4m0 32 ((w_4m0 32) + 1)) 33 ((w_4m0 33) - w_4l6))))) := rfl
def S_m_quarrels_25 (f10 : Nat → Int32) (c_ : Int32) (t_ : Int32) (need_ : Int32) (K : Int32 → Int32 → (Nat → Int32) → Prop) (n : Nat) : Int32 → Int32 → (Nat → Int32) → Prop := Nat.rec (motive := fun _ => Int32 → Int32 → (Nat → Int32) → Prop) (fun _ _ _ => False) (fun n ih w_4l6 w_4l5 w_4m0 => ((w_4l6 ≤ 0 → (K w_4l6 w_4l5 w_4m0)) ∧ (¬ w_4l6 ≤ 0 → ((need_ ≤ w_4l5 → (K w_4l6 w_4l5 w_4m0)) ∧ (¬ need_ ≤ w_4l5 → ((S_m_stampOf (upd (upd w_4m0 32 ((w_4m0 32) + 1)) 33 ((w_4m0 33) - w_4l6)) f10 c_ t_ ((w_4m0 33) - w_4l6)) ∧ (ih (f_m_stampOf (upd (upd w_4m0 32 ((w_4m0 32) + 1)) 33 ((w_4m0 33) - w_4l6)) f10 c_ t_ ((w_4m0 33) - w_4l6)) (w_4l5 + w_4l6) (upd (upd w_4m0 32 ((w_4m0 32) + 1)) 33 ((w_4m0 33) - w_4l6))))))))) n
theorem S_m_quarrels_25_s (f10 : Nat → Int32) (c_ : Int32) (t_ : Int32) (need_ : Int32) (K : Int32 → Int32 → (Nat → Int32) → Prop) (n : Nat) (w_4l6 : Int32) (w_4l5 : Int32) (w_4m0 : (Nat → Int32)) : S_m_quarrels_25 f10 c_ t_ need_ K (n + 1) w_4l6 w_4l5 w_4m0 = (((w_4l6 ≤ 0 → (K w_4l6 w_4l5 w_4m0)) ∧ (¬ w_4l6 ≤ 0 → ((need_ ≤ w_4l5 → (K w_4l6 w_4l5 w_4m0)) ∧ (¬ need_ ≤ w_4l5 → ((S_m_stampOf (upd (upd w_4m0 32 ((w_4m0 32) + 1)) 33 ((w_4m0 33) - w_4l6)) f10 c_ t_ ((w_4m0 33) - w_4l6)) ∧ (S_m_quarrels_25 f10 c_ t_ need_ K n (f_m_stampOf (upd (upd w_4m0 32 ((w_4m0 32) + 1)) 33 ((w_4m0 33) - w_4l6)) f10 c_ t_ ((w_4m0 33) - w_4l6)) (w_4l5 + w_4l6) (upd (upd w_4m0 32 ((w_4m0 32) + 1)) 33 ((w_4m0 33) - w_4l6))))))))) := rfl
noncomputable def f_m_quarrels (G : Nat → Int32) (f10 : Nat → Int32) (c_ : Int32) (t_ : Int32) (from_ : Int32) (need_ : Int32) : (Nat → Int32) := (match ((f_m_quarrels_25 f10 c_ t_ need_ ((from_ : Int32).toInt.toNat + 2) (f_m_stampOf (upd (upd G 32 0) 33 from_) f10 c_ t_ from_) 0 (upd (upd G 32 0) 33 from_)) : Int32 × Int32 × (Nat → Int32)) with | (w_4l6, w_4l5, w_4m0) => (if w_4l5 < need_ then (upd w_4m0 34 0) else (upd w_4m0 34 1)))
def S_m_quarrels (G : Nat → Int32) (f10 : Nat → Int32) (c_ : Int32) (t_ : Int32) (from_ : Int32) (need_ : Int32) : Prop := ((S_m_stampOf (upd (upd G 32 0) 33 from_) f10 c_ t_ from_) ∧ (S_m_quarrels_25 f10 c_ t_ need_ (fun (w_4l6 : Int32) (w_4l5 : Int32) (w_4m0 : (Nat → Int32)) => ((w_4l5 < need_ → True) ∧ (¬ w_4l5 < need_ → True))) ((from_ : Int32).toInt.toNat + 2) (f_m_stampOf (upd (upd G 32 0) 33 from_) f10 c_ t_ from_) 0 (upd (upd G 32 0) 33 from_)))
def rm_m_quarrels : Room := { frames := 1, cells := 0, slots := 0, locals := 24 }
set_option maxHeartbeats 4000000 in
set_option maxRecDepth 100000 in
theorem m_quarrels {l : Launch} {D : va_G} {cI cZ : ClassId} {sz : Nat} (Rf : Nat → Nat) (h : Nat) (G : Nat → Int32) (f10 : Nat → Int32) (c_ : Int32) (t_ : Int32) (from_ : Int32) (need_ : Int32) (hF : S_m_quarrels G f10 c_ t_ from_ need_) : KV l yX10_quarrels cX10_quarrels 7 rm_m_quarrels D cI cZ [.ref h, .int c_, .int t_, .int from_, .int need_] sz [(h, .inr (10, ML G Rf)), ((Rf 10), .inl (cI, 30, .inl f10))] (fun (u : (Nat → Int32)) => u = f_m_quarrels G f10 c_ t_ from_ need_) (fun (u : (Nat → Int32)) => [(h, .inr (10, ML u Rf)), ((Rf 10), .inl (cI, 30, .inl f10))]) := by
  refine KV.go rfl (Nat.le_of_ble_eq_true rfl) ?_
  intro p e s m args below meth c ls A Q hx hb hml hts hown hin hP hK hD hS hA hN hl hret
  have hl : lv_has ls 7 [(0, .ref h), (1, .int c_), (2, .int t_), (3, .int from_), (4, .int need_)] := hl
  rw [S_m_quarrels] at hF
  obtain ⟨RES, hE⟩ : ∃ xRES, f_m_quarrels G f10 c_ t_ from_ need_ = xRES := ⟨_, rfl⟩
  rw [hE] at hret
  rw [f_m_quarrels] at hE
  refine lv_iconst (v := 0) hx hb dX10_quarrels_0 (by decide) ?_
  refine lv_istore (lv' := [(5, .int 0), (0, .ref h), (1, .int c_), (2, .int t_), (3, .int from_), (4, .int need_)]) hx hb dX10_quarrels_1 hl (by decide) rfl (fun ls hl => ?_)
  refine lv_aload_n hx hb dX10_quarrels_3 rfl (lv_at hl 1 rfl) ?_
  refine lv_iconst (v := 0) hx hb dX10_quarrels_4 (by decide) ?_
  refine va_put (D := D) (ci := 10) (v := .int 0) (ty := .int) (C := RX10) (T := TX10) (N := 45) hx hb hts iX10 tyX10 tyX10_ok nmX10 hown hK hP hD hS 0 rfl rfl 32 (by decide) (hts _ wd_549) (fun _ h9 => h9) rfl (by decide +kernel) rfl rfl (Nat.le_of_ble_eq_true rfl) dX10_quarrels_5 (fun H locs hP hD hS => ?_)
  have hP : va_P D classes [(h, .inr (10, ML (upd G 32 0) Rf)), ((Rf 10), .inl (cI, 30, .inl f10))] H := hP
  have hD : va_D A [(h, .inr (10, ML (upd G 32 0) Rf)), ((Rf 10), .inl (cI, 30, .inl f10))] := hD
  refine lv_aload_n hx hb dX10_quarrels_8 rfl (lv_at hl 1 rfl) ?_
  refine lv_iload_n hx hb dX10_quarrels_9 rfl (lv_at hl 4 rfl) ?_
  refine va_put (D := D) (ci := 10) (v := .int from_) (ty := .int) (C := RX10) (T := TX10) (N := 45) hx hb hts iX10 tyX10 tyX10_ok nmX10 hown hK hP hD hS 0 rfl rfl 33 (by decide) (hts _ wd_550) (fun _ h9 => h9) rfl (by decide +kernel) rfl rfl (Nat.le_of_ble_eq_true rfl) dX10_quarrels_10 (fun H locs hP hD hS => ?_)
  have hP : va_P D classes [(h, .inr (10, ML (upd (upd G 32 0) 33 from_) Rf)), ((Rf 10), .inl (cI, 30, .inl f10))] H := hP
  have hD : va_D A [(h, .inr (10, ML (upd (upd G 32 0) 33 from_) Rf)), ((Rf 10), .inl (cI, 30, .inl f10))] := hD
  refine lv_aload_n hx hb dX10_quarrels_13 rfl (lv_at hl 1 rfl) ?_
  refine lv_iload_n hx hb dX10_quarrels_14 rfl (lv_at hl 2 rfl) ?_
  refine lv_iload_n hx hb dX10_quarrels_15 rfl (lv_at hl 3 rfl) ?_
  refine lv_aload_n hx hb dX10_quarrels_16 rfl (lv_at hl 1 rfl) ?_
  refine va_get (D := D) (ci := 10) (v := .int from_) (C := RX10) (T := TX10) (N := 45) hx hb hts iX10 hown hK hP 0 rfl rfl 33 (by decide) (hts _ wd_550) (fun _ h9 => h9) rfl dX10_quarrels_17 ?_
  obtain ⟨hs_1, hF⟩ := hF
  refine cVi (wr := []) (rest := []) (m_stampOf Rf h (upd (upd G 32 0) 33 from_) f10 c_ t_ from_ hs_1) okV_X10_stampOf wd_551 hx hb hml hown hts hK hP hD hS hA hN hl.1 [0, 1] [] rfl rfl rfl rfl (by decide) rfl rfl rfl (Nat.le_of_ble_eq_true rfl) (Nat.le_of_ble_eq_true rfl) (Nat.le_of_ble_eq_true rfl) (Nat.le_of_ble_eq_true rfl) (Nat.le_of_ble_eq_true rfl) dX10_quarrels_20 (fun r_3 u_2 H locs hw_u_2 hP hD hS => ?_)
  replace hw_u_2 : r_3 = (f_m_stampOf (upd (upd G 32 0) 33 from_) f10 c_ t_ from_) := hw_u_2
  rw [hw_u_2]
  clear hw_u_2
  have hP : va_P D classes [(h, .inr (10, ML (upd (upd G 32 0) 33 from_) Rf)), ((Rf 10), .inl (cI, 30, .inl f10))] H := hP
  have hD : va_D A [(h, .inr (10, ML (upd (upd G 32 0) 33 from_) Rf)), ((Rf 10), .inl (cI, 30, .inl f10))] := hD
  refine lv_istore (lv' := [(6, .int (f_m_stampOf (upd (upd G 32 0) 33 from_) f10 c_ t_ from_)), (5, .int 0), (0, .ref h), (1, .int c_), (2, .int t_), (3, .int from_), (4, .int need_)]) hx hb dX10_quarrels_23 hl (by decide) rfl (fun ls hl => ?_)
  have ex_25_w_4 : ∀ (w_4l6 : Int32) (w_4l5 : Int32) (w_4m0 : (Nat → Int32)) (H : Heap) (locs : List Loc) (ls : Array Slot), va_P D classes [(h, .inr (10, ML w_4m0 Rf)), ((Rf 10), .inl (cI, 30, .inl f10))] H → va_D A [(h, .inr (10, ML w_4m0 Rf)), ((Rf 10), .inl (cI, 30, .inl f10))] → va_S A s.heap H locs → lv_has ls 7 [(6, .int w_4l6), (5, .int w_4l5), (0, .ref h), (1, .int c_), (2, .int t_), (3, .int from_), (4, .int need_)] → (((w_4l5 < need_ → True) ∧ (¬ w_4l5 < need_ → True))) → (((if w_4l5 < need_ then (upd w_4m0 34 0) else (upd w_4m0 34 1))) : (Nat → Int32)) = RES → W p l e rm_m_quarrels s m args below meth c H locs 0 0 Q (F0 m 80 ls []) := by
    intro w_4l6 w_4l5 w_4m0 H locs ls hP hD hS hl hF hE
    refine lv_aload_n hx hb dX10_quarrels_80 rfl (lv_at hl 2 rfl) ?_
    refine lv_iload hx hb dX10_quarrels_81 (lv_at hl 1 rfl) ?_
    refine lv_iload hx hb dX10_quarrels_83 (lv_at hl 6 rfl) ?_
    refine lv_icmp_lt (tgt := 92) hx hb dX10_quarrels_85 (by decide) (fun c_5 => ?_) (fun c_5 => ?_)
    · replace hF := hF.1 c_5
      rw [if_pos c_5] at hE
      refine lv_iconst (v := 0) hx hb dX10_quarrels_92 (by decide) ?_
      refine va_put (D := D) (ci := 10) (v := .int 0) (ty := .boolean) (C := RX10) (T := TX10) (N := 45) hx hb hts iX10 tyX10 tyX10_ok nmX10 hown hK hP hD hS 0 rfl rfl 34 (by decide) (hts _ wd_555) (fun _ h9 => h9) rfl (by decide +kernel) rfl rfl (Nat.le_of_ble_eq_true rfl) dX10_quarrels_93 (fun H locs hP hD hS => ?_)
      have hP : va_P D classes [(h, .inr (10, ML (upd w_4m0 34 0) Rf)), ((Rf 10), .inl (cI, 30, .inl f10))] H := hP
      have hD : va_D A [(h, .inr (10, ML (upd w_4m0 34 0) Rf)), ((Rf 10), .inl (cI, 30, .inl f10))] := hD
      exact hret (upd w_4m0 34 0) _ _ _ _ dX10_quarrels_96 hE hP hD hS
    · replace hF := hF.2 c_5
      rw [if_neg c_5] at hE
      refine lv_iconst (v := 1) hx hb dX10_quarrels_88 (by decide) ?_
      refine lv_goto (tgt := 93) hx hb dX10_quarrels_89 (by decide) ?_
      refine va_put (D := D) (ci := 10) (v := .int 1) (ty := .boolean) (C := RX10) (T := TX10) (N := 45) hx hb hts iX10 tyX10 tyX10_ok nmX10 hown hK hP hD hS 0 rfl rfl 34 (by decide) (hts _ wd_555) (fun _ h9 => h9) rfl (by decide +kernel) rfl rfl (Nat.le_of_ble_eq_true rfl) dX10_quarrels_93 (fun H locs hP hD hS => ?_)
      have hP : va_P D classes [(h, .inr (10, ML (upd w_4m0 34 1) Rf)), ((Rf 10), .inl (cI, 30, .inl f10))] H := hP
      have hD : va_D A [(h, .inr (10, ML (upd w_4m0 34 1) Rf)), ((Rf 10), .inl (cI, 30, .inl f10))] := hD
      exact hret (upd w_4m0 34 1) _ _ _ _ dX10_quarrels_96 hE hP hD hS
  have lp_25_w_4 : ∀ (n_w_4 : Nat) (w_4l6 : Int32) (w_4l5 : Int32) (w_4m0 : (Nat → Int32)) (H : Heap) (locs : List Loc) (ls : Array Slot), va_P D classes [(h, .inr (10, ML w_4m0 Rf)), ((Rf 10), .inl (cI, 30, .inl f10))] H → va_D A [(h, .inr (10, ML w_4m0 Rf)), ((Rf 10), .inl (cI, 30, .inl f10))] → va_S A s.heap H locs → lv_has ls 7 [(6, .int w_4l6), (5, .int w_4l5), (0, .ref h), (1, .int c_), (2, .int t_), (3, .int from_), (4, .int need_)] → (S_m_quarrels_25 f10 c_ t_ need_ (fun (w_4l6 : Int32) (w_4l5 : Int32) (w_4m0 : (Nat → Int32)) => ((w_4l5 < need_ → True) ∧ (¬ w_4l5 < need_ → True))) n_w_4 w_4l6 w_4l5 w_4m0) → ((match ((f_m_quarrels_25 f10 c_ t_ need_ n_w_4 w_4l6 w_4l5 w_4m0) : Int32 × Int32 × (Nat → Int32)) with | (w_4l6, w_4l5, w_4m0) => (if w_4l5 < need_ then (upd w_4m0 34 0) else (upd w_4m0 34 1))) : (Nat → Int32)) = RES → W p l e rm_m_quarrels s m args below meth c H locs 0 0 Q (F0 m 25 ls []) := by
    intro n_w_4
    induction n_w_4 with
    | zero => intro w_4l6 w_4l5 w_4m0 H locs ls hP hD hS hl hF hE; exact False.elim hF
    | succ n_w_4 ih_w_4 =>
      intro w_4l6 w_4l5 w_4m0 H locs ls hP hD hS hl hF hE
      rw [S_m_quarrels_25_s] at hF
      rw [f_m_quarrels_25_s] at hE
      refine lv_iload hx hb dX10_quarrels_25 (lv_at hl 0 rfl) ?_
      refine lv_if_le (tgt := 80) hx hb dX10_quarrels_27 (by decide) (fun c_6 => ?_) (fun c_6 => ?_)
      · replace hF := hF.1 c_6
        rw [if_pos c_6] at hE
        exact ex_25_w_4 w_4l6 w_4l5 w_4m0 _ _ ls hP hD hS (lv_sub hl [0, 1, 2, 3, 4, 5, 6] rfl) hF hE
      · replace hF := hF.2 c_6
        rw [if_neg c_6] at hE
        refine lv_iload hx hb dX10_quarrels_30 (lv_at hl 1 rfl) ?_
        refine lv_iload hx hb dX10_quarrels_32 (lv_at hl 6 rfl) ?_
        refine lv_icmp_ge (tgt := 80) hx hb dX10_quarrels_34 (by decide) (fun c_7 => ?_) (fun c_7 => ?_)
        · replace hF := hF.1 c_7
          rw [if_pos c_7] at hE
          exact ex_25_w_4 w_4l6 w_4l5 w_4m0 _ _ ls hP hD hS (lv_sub hl [0, 1, 2, 3, 4, 5, 6] rfl) hF hE
        · replace hF := hF.2 c_7
          rw [if_neg c_7] at hE
          refine lv_aload_n hx hb dX10_quarrels_37 rfl (lv_at hl 2 rfl) ?_
          refine lv_dup hx hb dX10_quarrels_38 rfl ?_
          refine va_get (D := D) (ci := 10) (v := .int (w_4m0 32)) (C := RX10) (T := TX10) (N := 45) hx hb hts iX10 hown hK hP 0 rfl rfl 32 (by decide) (hts _ wd_549) (fun _ h9 => h9) rfl dX10_quarrels_39 ?_
          refine lv_iconst (v := 1) hx hb dX10_quarrels_42 (by decide) ?_
          refine lv_iadd hx hb dX10_quarrels_43 ?_
          refine va_put (D := D) (ci := 10) (v := .int ((w_4m0 32) + 1)) (ty := .int) (C := RX10) (T := TX10) (N := 45) hx hb hts iX10 tyX10 tyX10_ok nmX10 hown hK hP hD hS 0 rfl rfl 32 (by decide) (hts _ wd_549) (fun _ h9 => h9) rfl (by decide +kernel) rfl rfl (Nat.le_of_ble_eq_true rfl) dX10_quarrels_44 (fun H locs hP hD hS => ?_)
          have hP : va_P D classes [(h, .inr (10, ML (upd w_4m0 32 ((w_4m0 32) + 1)) Rf)), ((Rf 10), .inl (cI, 30, .inl f10))] H := hP
          have hD : va_D A [(h, .inr (10, ML (upd w_4m0 32 ((w_4m0 32) + 1)) Rf)), ((Rf 10), .inl (cI, 30, .inl f10))] := hD
          refine lv_iload hx hb dX10_quarrels_47 (lv_at hl 1 rfl) ?_
          refine lv_iload hx hb dX10_quarrels_49 (lv_at hl 0 rfl) ?_
          refine lv_iadd hx hb dX10_quarrels_51 ?_
          refine lv_istore (lv' := [(5, .int (w_4l5 + w_4l6)), (6, .int w_4l6), (0, .ref h), (1, .int c_), (2, .int t_), (3, .int from_), (4, .int need_)]) hx hb dX10_quarrels_52 hl (by decide) rfl (fun ls hl => ?_)
          refine lv_aload_n hx hb dX10_quarrels_54 rfl (lv_at hl 2 rfl) ?_
          refine lv_dup hx hb dX10_quarrels_55 rfl ?_
          refine va_get (D := D) (ci := 10) (v := .int (w_4m0 33)) (C := RX10) (T := TX10) (N := 45) hx hb hts iX10 hown hK hP 0 rfl rfl 33 (by decide) (hts _ wd_550) (fun _ h9 => h9) rfl dX10_quarrels_56 ?_
          refine lv_iload hx hb dX10_quarrels_59 (lv_at hl 1 rfl) ?_
          refine lv_isub hx hb dX10_quarrels_61 ?_
          refine va_put (D := D) (ci := 10) (v := .int ((w_4m0 33) - w_4l6)) (ty := .int) (C := RX10) (T := TX10) (N := 45) hx hb hts iX10 tyX10 tyX10_ok nmX10 hown hK hP hD hS 0 rfl rfl 33 (by decide) (hts _ wd_550) (fun _ h9 => h9) rfl (by decide +kernel) rfl rfl (Nat.le_of_ble_eq_true rfl) dX10_quarrels_62 (fun H locs hP hD hS => ?_)
          have hP : va_P D classes [(h, .inr (10, ML (upd (upd w_4m0 32 ((w_4m0 32) + 1)) 33 ((w_4m0 33) - w_4l6)) Rf)), ((Rf 10), .inl (cI, 30, .inl f10))] H := hP
          have hD : va_D A [(h, .inr (10, ML (upd (upd w_4m0 32 ((w_4m0 32) + 1)) 33 ((w_4m0 33) - w_4l6)) Rf)), ((Rf 10), .inl (cI, 30, .inl f10))] := hD
          refine lv_aload_n hx hb dX10_quarrels_65 rfl (lv_at hl 2 rfl) ?_
          refine lv_iload_n hx hb dX10_quarrels_66 rfl (lv_at hl 3 rfl) ?_
          refine lv_iload_n hx hb dX10_quarrels_67 rfl (lv_at hl 4 rfl) ?_
          refine lv_aload_n hx hb dX10_quarrels_68 rfl (lv_at hl 2 rfl) ?_
          refine va_get (D := D) (ci := 10) (v := .int ((w_4m0 33) - w_4l6)) (C := RX10) (T := TX10) (N := 45) hx hb hts iX10 hown hK hP 0 rfl rfl 33 (by decide) (hts _ wd_550) (fun _ h9 => h9) rfl dX10_quarrels_69 ?_
          obtain ⟨hs_8, hF⟩ := hF
          refine cVi (wr := []) (rest := []) (m_stampOf Rf h (upd (upd w_4m0 32 ((w_4m0 32) + 1)) 33 ((w_4m0 33) - w_4l6)) f10 c_ t_ ((w_4m0 33) - w_4l6) hs_8) okV_X10_stampOf wd_551 hx hb hml hown hts hK hP hD hS hA hN hl.1 [0, 1] [] rfl rfl rfl rfl (by decide) rfl rfl rfl (Nat.le_of_ble_eq_true rfl) (Nat.le_of_ble_eq_true rfl) (Nat.le_of_ble_eq_true rfl) (Nat.le_of_ble_eq_true rfl) (Nat.le_of_ble_eq_true rfl) dX10_quarrels_72 (fun r_10 u_9 H locs hw_u_9 hP hD hS => ?_)
          replace hw_u_9 : r_10 = (f_m_stampOf (upd (upd w_4m0 32 ((w_4m0 32) + 1)) 33 ((w_4m0 33) - w_4l6)) f10 c_ t_ ((w_4m0 33) - w_4l6)) := hw_u_9
          rw [hw_u_9]
          clear hw_u_9
          have hP : va_P D classes [(h, .inr (10, ML (upd (upd w_4m0 32 ((w_4m0 32) + 1)) 33 ((w_4m0 33) - w_4l6)) Rf)), ((Rf 10), .inl (cI, 30, .inl f10))] H := hP
          have hD : va_D A [(h, .inr (10, ML (upd (upd w_4m0 32 ((w_4m0 32) + 1)) 33 ((w_4m0 33) - w_4l6)) Rf)), ((Rf 10), .inl (cI, 30, .inl f10))] := hD
          refine lv_istore (lv' := [(6, .int (f_m_stampOf (upd (upd w_4m0 32 ((w_4m0 32) + 1)) 33 ((w_4m0 33) - w_4l6)) f10 c_ t_ ((w_4m0 33) - w_4l6))), (5, .int (w_4l5 + w_4l6)), (0, .ref h), (1, .int c_), (2, .int t_), (3, .int from_), (4, .int need_)]) hx hb dX10_quarrels_75 hl (by decide) rfl (fun ls hl => ?_)
          refine lv_goto (tgt := 25) hx hb dX10_quarrels_77 (by decide) ?_
          exact ih_w_4 (f_m_stampOf (upd (upd w_4m0 32 ((w_4m0 32) + 1)) 33 ((w_4m0 33) - w_4l6)) f10 c_ t_ ((w_4m0 33) - w_4l6)) (w_4l5 + w_4l6) (upd (upd w_4m0 32 ((w_4m0 32) + 1)) 33 ((w_4m0 33) - w_4l6)) _ _ ls hP hD hS (lv_sub hl [0, 1, 2, 3, 4, 5, 6] rfl) hF hE
  exact lp_25_w_4 ((from_ : Int32).toInt.toNat + 2) (f_m_stampOf (upd (upd G 32 0) 33 from_) f10 c_ t_ from_) 0 (upd (upd G 32 0) 33 from_) _ _ ls hP hD hS hl hF hE
