theorem dX5_readBridges_0 : decode cX5_readBridges 0 = .ok (.aload_n 1, 1) := by decide +kernel
theorem wd_212 : Cond.fieldLink RX5 88 "QuarrelBridges$Town" "needs" "[I" ∈ BG := BG_at 80 (by decide +kernel) rfl
theorem dX5_readBridges_1 : decode cX5_readBridges 1 = .ok (.getfield 88, 3) := by decide +kernel
theorem dX5_readBridges_4 : decode cX5_readBridges 4 = .ok (.iconst 0, 1) := by decide +kernel
theorem dX5_readBridges_5 : decode cX5_readBridges 5 = .ok (.aload_n 0, 1) := by decide +kernel
theorem dX5_readBridges_6 : decode cX5_readBridges 6 = .ok (.iconst 1, 1) := by decide +kernel
theorem dX5_readBridges_7 : decode cX5_readBridges 7 = .ok (.bipush 60, 2) := by decide +kernel
theorem dX5_readBridges_9 : decode cX5_readBridges 9 = .ok (.invokevirtual 62, 3) := by decide +kernel
theorem wd_213 : Cond.methodLink RX5 62 yX5_number ∈ BG := BG_at 370 (by decide +kernel) rfl
theorem wd_214 : Cond.code yX5_number cX5_number 6 (some .int) ∈ BG := BG_at 373 (by decide +kernel) rfl
theorem wd_215 : Cond.instanceMethod yX5_number ∈ BG := BG_at 372 (by decide +kernel) rfl
theorem wd_216 : Cond.selects RX5 yX5_number yX5_number ∈ BG := BG_in (by decide +kernel) rfl
theorem okV_X5_number : okV yX5_number cX5_number 6 (some .int) 2 := ⟨⟨wd_214, wd_80, by decide +kernel⟩, wd_215, wd_216⟩
theorem dX5_readBridges_12 : decode cX5_readBridges 12 = .ok (.invokestatic 91, 3) := by decide +kernel
theorem dX5_readBridges_15 : decode cX5_readBridges 15 = .ok (.aload_n 1, 1) := by decide +kernel
theorem dX5_readBridges_16 : decode cX5_readBridges 16 = .ok (.iconst 1, 1) := by decide +kernel
theorem dX5_readBridges_17 : decode cX5_readBridges 17 = .ok (.putfield 48, 3) := by decide +kernel
theorem dX5_readBridges_20 : decode cX5_readBridges 20 = .ok (.iconst 1, 1) := by decide +kernel
theorem dX5_readBridges_21 : decode cX5_readBridges 21 = .ok (.istore_n 2, 1) := by decide +kernel
theorem dX5_readBridges_82 : decode cX5_readBridges 82 = .ok (.return_, 1) := by decide +kernel
theorem dX5_readBridges_22 : decode cX5_readBridges 22 = .ok (.iload_n 2, 1) := by decide +kernel
theorem dX5_readBridges_23 : decode cX5_readBridges 23 = .ok (.bipush 6, 2) := by decide +kernel
theorem dX5_readBridges_25 : decode cX5_readBridges 25 = .ok (.if_icmp .ge 57, 3) := by decide +kernel
theorem dX5_readBridges_28 : decode cX5_readBridges 28 = .ok (.aload_n 0, 1) := by decide +kernel
theorem dX5_readBridges_29 : decode cX5_readBridges 29 = .ok (.getfield 9, 3) := by decide +kernel
theorem dX5_readBridges_32 : decode cX5_readBridges 32 = .ok (.ifCond .ne 50, 3) := by decide +kernel
theorem dX5_readBridges_35 : decode cX5_readBridges 35 = .ok (.aload_n 0, 1) := by decide +kernel
theorem dX5_readBridges_36 : decode cX5_readBridges 36 = .ok (.invokevirtual 40, 3) := by decide +kernel
theorem dX5_readBridges_39 : decode cX5_readBridges 39 = .ok (.bipush 44, 2) := by decide +kernel
theorem dX5_readBridges_41 : decode cX5_readBridges 41 = .ok (.if_icmp .ne 41, 3) := by decide +kernel
theorem dX5_readBridges_44 : decode cX5_readBridges 44 = .ok (.aload_n 0, 1) := by decide +kernel
theorem dX5_readBridges_45 : decode cX5_readBridges 45 = .ok (.dup, 1) := by decide +kernel
theorem dX5_readBridges_46 : decode cX5_readBridges 46 = .ok (.getfield 25, 3) := by decide +kernel
theorem dX5_readBridges_49 : decode cX5_readBridges 49 = .ok (.iconst 1, 1) := by decide +kernel
theorem dX5_readBridges_50 : decode cX5_readBridges 50 = .ok (.iadd, 1) := by decide +kernel
theorem dX5_readBridges_51 : decode cX5_readBridges 51 = .ok (.putfield 25, 3) := by decide +kernel
theorem dX5_readBridges_54 : decode cX5_readBridges 54 = .ok (.aload_n 1, 1) := by decide +kernel
theorem dX5_readBridges_55 : decode cX5_readBridges 55 = .ok (.getfield 88, 3) := by decide +kernel
theorem dX5_readBridges_58 : decode cX5_readBridges 58 = .ok (.iload_n 2, 1) := by decide +kernel
theorem dX5_readBridges_59 : decode cX5_readBridges 59 = .ok (.aload_n 0, 1) := by decide +kernel
theorem dX5_readBridges_60 : decode cX5_readBridges 60 = .ok (.iconst 1, 1) := by decide +kernel
theorem dX5_readBridges_61 : decode cX5_readBridges 61 = .ok (.bipush 60, 2) := by decide +kernel
theorem dX5_readBridges_63 : decode cX5_readBridges 63 = .ok (.invokevirtual 62, 3) := by decide +kernel
theorem dX5_readBridges_66 : decode cX5_readBridges 66 = .ok (.invokestatic 91, 3) := by decide +kernel
theorem dX5_readBridges_69 : decode cX5_readBridges 69 = .ok (.aload_n 1, 1) := by decide +kernel
theorem dX5_readBridges_70 : decode cX5_readBridges 70 = .ok (.iload_n 2, 1) := by decide +kernel
theorem dX5_readBridges_71 : decode cX5_readBridges 71 = .ok (.iconst 1, 1) := by decide +kernel
theorem dX5_readBridges_72 : decode cX5_readBridges 72 = .ok (.iadd, 1) := by decide +kernel
theorem dX5_readBridges_73 : decode cX5_readBridges 73 = .ok (.putfield 48, 3) := by decide +kernel
theorem dX5_readBridges_76 : decode cX5_readBridges 76 = .ok (.iinc 2 1, 3) := by decide +kernel
theorem dX5_readBridges_79 : decode cX5_readBridges 79 = .ok (.goto (-57), 3) := by decide +kernel
theorem dX5_readCouple_0 : decode cX5_readCouple 0 = .ok (.aload_n 1, 1) := by decide +kernel
theorem dX5_readCouple_1 : decode cX5_readCouple 1 = .ok (.getfield 82, 3) := by decide +kernel
theorem dX5_readCouple_4 : decode cX5_readCouple 4 = .ok (.istore_n 2, 1) := by decide +kernel
theorem dX5_readCouple_5 : decode cX5_readCouple 5 = .ok (.aload_n 1, 1) := by decide +kernel
theorem wd_217 : Cond.fieldLink RX5 95 "QuarrelBridges$Town" "grievances" "[I" ∈ BG := BG_at 84 (by decide +kernel) rfl
theorem dX5_readCouple_6 : decode cX5_readCouple 6 = .ok (.getfield 95, 3) := by decide +kernel
theorem dX5_readCouple_9 : decode cX5_readCouple 9 = .ok (.iload_n 2, 1) := by decide +kernel
theorem dX5_readCouple_10 : decode cX5_readCouple 10 = .ok (.aload_n 0, 1) := by decide +kernel
theorem dX5_readCouple_11 : decode cX5_readCouple 11 = .ok (.iconst 0, 1) := by decide +kernel
theorem dX5_readCouple_12 : decode cX5_readCouple 12 = .ok (.bipush 99, 2) := by decide +kernel
theorem dX5_readCouple_14 : decode cX5_readCouple 14 = .ok (.invokevirtual 62, 3) := by decide +kernel
theorem dX5_readCouple_17 : decode cX5_readCouple 17 = .ok (.invokestatic 91, 3) := by decide +kernel
theorem dX5_readCouple_20 : decode cX5_readCouple 20 = .ok (.iconst 0, 1) := by decide +kernel
theorem dX5_readCouple_21 : decode cX5_readCouple 21 = .ok (.istore_n 3, 1) := by decide +kernel
theorem dX5_readCouple_65 : decode cX5_readCouple 65 = .ok (.aload_n 1, 1) := by decide +kernel
theorem dX5_readCouple_66 : decode cX5_readCouple 66 = .ok (.iload_n 2, 1) := by decide +kernel
theorem dX5_readCouple_67 : decode cX5_readCouple 67 = .ok (.iconst 1, 1) := by decide +kernel
theorem dX5_readCouple_68 : decode cX5_readCouple 68 = .ok (.iadd, 1) := by decide +kernel
theorem dX5_readCouple_69 : decode cX5_readCouple 69 = .ok (.putfield 82, 3) := by decide +kernel
theorem dX5_readCouple_72 : decode cX5_readCouple 72 = .ok (.return_, 1) := by decide +kernel
theorem dX5_readCouple_22 : decode cX5_readCouple 22 = .ok (.iload_n 3, 1) := by decide +kernel
theorem dX5_readCouple_23 : decode cX5_readCouple 23 = .ok (.aload_n 1, 1) := by decide +kernel
theorem wd_218 : Cond.fieldLink RX5 66 "QuarrelBridges$Town" "themes" "I" ∈ BG := BG_at 66 (by decide +kernel) rfl
theorem dX5_readCouple_24 : decode cX5_readCouple 24 = .ok (.getfield 66, 3) := by decide +kernel
theorem dX5_readCouple_27 : decode cX5_readCouple 27 = .ok (.if_icmp .ge 38, 3) := by decide +kernel
theorem dX5_readCouple_30 : decode cX5_readCouple 30 = .ok (.iload_n 3, 1) := by decide +kernel
theorem dX5_readCouple_31 : decode cX5_readCouple 31 = .ok (.ifCond .le 9, 3) := by decide +kernel
theorem dX5_readCouple_40 : decode cX5_readCouple 40 = .ok (.aload_n 1, 1) := by decide +kernel
theorem wd_219 : Cond.fieldLink RX5 98 "QuarrelBridges$Town" "forces" "[I" ∈ BG := BG_at 87 (by decide +kernel) rfl
theorem dX5_readCouple_41 : decode cX5_readCouple 41 = .ok (.getfield 98, 3) := by decide +kernel
theorem dX5_readCouple_44 : decode cX5_readCouple 44 = .ok (.iload_n 2, 1) := by decide +kernel
theorem dX5_readCouple_45 : decode cX5_readCouple 45 = .ok (.iconst 5, 1) := by decide +kernel
theorem dX5_readCouple_46 : decode cX5_readCouple 46 = .ok (.imul, 1) := by decide +kernel
theorem dX5_readCouple_47 : decode cX5_readCouple 47 = .ok (.iload_n 3, 1) := by decide +kernel
theorem dX5_readCouple_48 : decode cX5_readCouple 48 = .ok (.iadd, 1) := by decide +kernel
theorem dX5_readCouple_49 : decode cX5_readCouple 49 = .ok (.aload_n 0, 1) := by decide +kernel
theorem dX5_readCouple_50 : decode cX5_readCouple 50 = .ok (.iconst 0, 1) := by decide +kernel
theorem dX5_readCouple_51 : decode cX5_readCouple 51 = .ok (.bipush 9, 2) := by decide +kernel
theorem dX5_readCouple_53 : decode cX5_readCouple 53 = .ok (.invokevirtual 62, 3) := by decide +kernel
theorem dX5_readCouple_56 : decode cX5_readCouple 56 = .ok (.invokestatic 91, 3) := by decide +kernel
theorem dX5_readCouple_59 : decode cX5_readCouple 59 = .ok (.iinc 3 1, 3) := by decide +kernel
theorem dX5_readCouple_62 : decode cX5_readCouple 62 = .ok (.goto (-40), 3) := by decide +kernel
theorem dX5_readCouple_34 : decode cX5_readCouple 34 = .ok (.aload_n 0, 1) := by decide +kernel
theorem dX5_readCouple_35 : decode cX5_readCouple 35 = .ok (.bipush 44, 2) := by decide +kernel
theorem dX5_readCouple_37 : decode cX5_readCouple 37 = .ok (.invokevirtual 78, 3) := by decide +kernel
theorem wd_220 : Cond.methodLink RX5 78 yX5_expect ∈ BG := BG_at 383 (by decide +kernel) rfl
theorem wd_221 : Cond.code yX5_expect cX5_expect 2 none ∈ BG := BG_at 386 (by decide +kernel) rfl
theorem wd_222 : Cond.instanceMethod yX5_expect ∈ BG := BG_at 385 (by decide +kernel) rfl
theorem wd_223 : Cond.selects RX5 yX5_expect yX5_expect ∈ BG := BG_in (by decide +kernel) rfl
theorem okV_X5_expect : okV yX5_expect cX5_expect 2 none 1 := ⟨⟨wd_221, wd_80, by decide +kernel⟩, wd_222, wd_223⟩
theorem dX5_readBarge_0 : decode cX5_readBarge 0 = .ok (.aload_n 1, 1) := by decide +kernel
theorem dX5_readBarge_1 : decode cX5_readBarge 1 = .ok (.getfield 85, 3) := by decide +kernel
theorem dX5_readBarge_4 : decode cX5_readBarge 4 = .ok (.istore_n 2, 1) := by decide +kernel
theorem dX5_readBarge_5 : decode cX5_readBarge 5 = .ok (.aload_n 1, 1) := by decide +kernel
theorem wd_224 : Cond.fieldLink RX5 101 "QuarrelBridges$Town" "upTo" "[I" ∈ BG := BG_at 90 (by decide +kernel) rfl
theorem dX5_readBarge_6 : decode cX5_readBarge 6 = .ok (.getfield 101, 3) := by decide +kernel
theorem dX5_readBarge_9 : decode cX5_readBarge 9 = .ok (.iload_n 2, 1) := by decide +kernel
theorem dX5_readBarge_10 : decode cX5_readBarge 10 = .ok (.aload_n 0, 1) := by decide +kernel
theorem dX5_readBarge_11 : decode cX5_readBarge 11 = .ok (.iconst 0, 1) := by decide +kernel
theorem dX5_readBarge_12 : decode cX5_readBarge 12 = .ok (.aload_n 1, 1) := by decide +kernel
theorem dX5_readBarge_13 : decode cX5_readBarge 13 = .ok (.getfield 48, 3) := by decide +kernel
theorem dX5_readBarge_16 : decode cX5_readBarge 16 = .ok (.iconst 1, 1) := by decide +kernel
theorem dX5_readBarge_17 : decode cX5_readBarge 17 = .ok (.isub, 1) := by decide +kernel
theorem dX5_readBarge_18 : decode cX5_readBarge 18 = .ok (.invokevirtual 62, 3) := by decide +kernel
theorem dX5_readBarge_21 : decode cX5_readBarge 21 = .ok (.invokestatic 91, 3) := by decide +kernel
theorem dX5_readBarge_24 : decode cX5_readBarge 24 = .ok (.aload_n 1, 1) := by decide +kernel
theorem wd_225 : Cond.fieldLink RX5 104 "QuarrelBridges$Town" "tides" "[I" ∈ BG := BG_at 94 (by decide +kernel) rfl
theorem dX5_readBarge_25 : decode cX5_readBarge 25 = .ok (.getfield 104, 3) := by decide +kernel
theorem dX5_readBarge_28 : decode cX5_readBarge 28 = .ok (.iload_n 2, 1) := by decide +kernel
theorem dX5_readBarge_29 : decode cX5_readBarge 29 = .ok (.aload_n 0, 1) := by decide +kernel
theorem dX5_readBarge_30 : decode cX5_readBarge 30 = .ok (.iconst 1, 1) := by decide +kernel
theorem dX5_readBarge_31 : decode cX5_readBarge 31 = .ok (.sipush 300, 3) := by decide +kernel
theorem dX5_readBarge_34 : decode cX5_readBarge 34 = .ok (.invokevirtual 62, 3) := by decide +kernel
theorem dX5_readBarge_37 : decode cX5_readBarge 37 = .ok (.invokestatic 91, 3) := by decide +kernel
theorem dX5_readBarge_40 : decode cX5_readBarge 40 = .ok (.aload_n 1, 1) := by decide +kernel
theorem dX5_readBarge_41 : decode cX5_readBarge 41 = .ok (.iload_n 2, 1) := by decide +kernel
theorem dX5_readBarge_42 : decode cX5_readBarge 42 = .ok (.iconst 1, 1) := by decide +kernel
theorem dX5_readBarge_43 : decode cX5_readBarge 43 = .ok (.iadd, 1) := by decide +kernel
theorem dX5_readBarge_44 : decode cX5_readBarge 44 = .ok (.putfield 85, 3) := by decide +kernel
theorem dX5_readBarge_47 : decode cX5_readBarge 47 = .ok (.return_, 1) := by decide +kernel
noncomputable def f_e_readBridges_x5_22 (r0 : Int32) (r1 : Int32) (r3 : Int32) (r4 : Int32) (r5 : Int32) (r6 : Int32) (ftx : Nat → Int32) (t0 : Int32) (t1 : Int32) (t2 : Int32) (t3 : Int32) (t4 : Int32) (fta : Nat → Int32) (n : Nat) : Int32 → Int32 → Int32 → Int32 → Int32 → (Nat → Int32) → Int32 × Int32 × Int32 × Int32 × Int32 × (Nat → Int32) := Nat.rec (motive := fun _ => Int32 → Int32 → Int32 → Int32 → Int32 → (Nat → Int32) → Int32 × Int32 × Int32 × Int32 × Int32 × (Nat → Int32)) (fun w_8l2 w_8m0 w_8m1 w_8m2 w_8m3 w_8m4 => (w_8l2, w_8m0, w_8m1, w_8m2, w_8m3, w_8m4)) (fun n ih w_8l2 w_8m0 w_8m1 w_8m2 w_8m3 w_8m4 => (if 6 ≤ w_8l2 then (w_8l2, w_8m0, w_8m1, w_8m2, w_8m3, w_8m4) else (if w_8m0 = 0 then (match (f_e_next_x5 w_8m0 w_8m1 r3 w_8m2 r5 r6 ftx) with | (r_12, u_11) => (if r_12 = 44 then (match (f_e_number_x5 w_8m0 w_8m1 r3 (u_11 + 1) r5 r6 ftx 1 60) with | (r_15, o_16, o_17, o_18) => (ih (w_8l2 + 1) o_16 o_17 o_18 (w_8l2 + 1) (putF 6 w_8m4 w_8l2 r_15))) else (w_8l2, w_8m0, w_8m1, u_11, w_8m3, w_8m4))) else (w_8l2, w_8m0, w_8m1, w_8m2, w_8m3, w_8m4)))) n
theorem f_e_readBridges_x5_22_s (r0 : Int32) (r1 : Int32) (r3 : Int32) (r4 : Int32) (r5 : Int32) (r6 : Int32) (ftx : Nat → Int32) (t0 : Int32) (t1 : Int32) (t2 : Int32) (t3 : Int32) (t4 : Int32) (fta : Nat → Int32) (n : Nat) (w_8l2 : Int32) (w_8m0 : Int32) (w_8m1 : Int32) (w_8m2 : Int32) (w_8m3 : Int32) (w_8m4 : (Nat → Int32)) : f_e_readBridges_x5_22 r0 r1 r3 r4 r5 r6 ftx t0 t1 t2 t3 t4 fta (n + 1) w_8l2 w_8m0 w_8m1 w_8m2 w_8m3 w_8m4 = (if 6 ≤ w_8l2 then (w_8l2, w_8m0, w_8m1, w_8m2, w_8m3, w_8m4) else (if w_8m0 = 0 then (match (f_e_next_x5 w_8m0 w_8m1 r3 w_8m2 r5 r6 ftx) with | (r_12, u_11) => (if r_12 = 44 then (match (f_e_number_x5 w_8m0 w_8m1 r3 (u_11 + 1) r5 r6 ftx 1 60) with | (r_15, o_16, o_17, o_18) => (f_e_readBridges_x5_22 r0 r1 r3 r4 r5 r6 ftx t0 t1 t2 t3 t4 fta n (w_8l2 + 1) o_16 o_17 o_18 (w_8l2 + 1) (putF 6 w_8m4 w_8l2 r_15))) else (w_8l2, w_8m0, w_8m1, u_11, w_8m3, w_8m4))) else (w_8l2, w_8m0, w_8m1, w_8m2, w_8m3, w_8m4))) := rfl
noncomputable def f_e_readBridges_x5 (r0 : Int32) (r1 : Int32) (r3 : Int32) (r4 : Int32) (r5 : Int32) (r6 : Int32) (ftx : Nat → Int32) (t0 : Int32) (t1 : Int32) (t2 : Int32) (t3 : Int32) (t4 : Int32) (fta : Nat → Int32) : Int32 × Int32 × Int32 × Int32 × (Nat → Int32) := (match (f_e_number_x5 r0 r1 r3 r4 r5 r6 ftx 1 60) with | (r_2, o_3, o_4, o_5) => (match (f_e_readBridges_x5_22 r0 r1 r3 r4 r5 r6 ftx t0 t1 t2 t3 t4 fta (((6 : Int32).toInt - (1 : Int32).toInt).toNat + 1) 1 o_3 o_4 o_5 1 (putF 6 fta 0 r_2)) with | (w_8l2, w_8m0, w_8m1, w_8m2, w_8m3, w_8m4) => (w_8m0, w_8m1, w_8m2, w_8m3, w_8m4)))
def rm_e_readBridges_x5 : Room := { frames := 3, cells := 0, slots := 0, locals := 66 }
set_option maxHeartbeats 4000000 in
set_option maxRecDepth 100000 in
theorem e_readBridges_x5 {l : Launch} {D : va_G} {cI cZ : ClassId} {sz : Nat} (rd x t ta tb tc td te : Nat) (r0 : Int32) (r1 : Int32) (r3 : Int32) (r4 : Int32) (r5 : Int32) (r6 : Int32) (ftx : Nat → Int32) (t0 : Int32) (t1 : Int32) (t2 : Int32) (t3 : Int32) (t4 : Int32) (fta : Nat → Int32) : KV l yX5_readBridges cX5_readBridges 3 rm_e_readBridges_x5 D cI cZ [.ref rd, .ref t] sz [(rd, .inr (5, [.int r0, .int r1, .ref x, .int r3, .int r4, .int r5, .int r6])), (x, .inl (cI, 240, .inl ftx)), (t, .inr (8, [.int t0, .int t1, .int t2, .int t3, .int t4, .ref ta, .ref tb, .ref tc, .ref td, .ref te])), (ta, .inl (cI, 6, .inl fta))] (fun (u : Int32 × Int32 × Int32 × Int32 × (Nat → Int32)) => u = f_e_readBridges_x5 r0 r1 r3 r4 r5 r6 ftx t0 t1 t2 t3 t4 fta) (fun (u : Int32 × Int32 × Int32 × Int32 × (Nat → Int32)) => [(rd, .inr (5, [.int (u.1), .int (u.2.1), .ref x, .int r3, .int (u.2.2.1), .int r5, .int r6])), (x, .inl (cI, 240, .inl ftx)), (t, .inr (8, [.int (u.2.2.2.1), .int t1, .int t2, .int t3, .int t4, .ref ta, .ref tb, .ref tc, .ref td, .ref te])), (ta, .inl (cI, 6, .inl u.2.2.2.2))]) := by
  refine KV.go rfl (Nat.le_of_ble_eq_true rfl) ?_
  intro p e s m args below meth c ls A Q hx hb hml hts hown hin hP hK hD hS hA hN hl hret
  have hl : lv_has ls 3 [(0, .ref rd), (1, .ref t)] := hl
  obtain ⟨RES, hE⟩ : ∃ xRES, f_e_readBridges_x5 r0 r1 r3 r4 r5 r6 ftx t0 t1 t2 t3 t4 fta = xRES := ⟨_, rfl⟩
  rw [hE] at hret
  rw [f_e_readBridges_x5] at hE
  refine lv_aload_n hx hb dX5_readBridges_0 rfl (lv_at hl 1 rfl) ?_
  refine va_get (D := D) (ci := 8) (v := .ref ta) (C := RX8) (T := TX8) (N := 10) hx hb hts iX8 hown hK hP 2 rfl rfl 5 (by decide) (hts _ wd_212) (fun _ h9 => h9) rfl dX5_readBridges_1 ?_
  refine lv_iconst (v := 0) hx hb dX5_readBridges_4 (by decide) ?_
  refine lv_aload_n hx hb dX5_readBridges_5 rfl (lv_at hl 0 rfl) ?_
  refine lv_iconst (v := 1) hx hb dX5_readBridges_6 (by decide) ?_
  refine lv_bipush (v := 60) hx hb dX5_readBridges_7 (by decide) ?_
  refine cVi (wr := [(t, .inr (8, [.int t0, .int t1, .int t2, .int t3, .int t4, .ref ta, .ref tb, .ref tc, .ref td, .ref te])), (ta, .inl (cI, 6, .inl fta))]) (rest := [.int 0, .ref ta]) (e_number_x5 rd x r0 r1 r3 r4 r5 r6 ftx 1 60) okV_X5_number wd_213 hx hb hml hown hts hK hP hD hS hA hN hl.1 [0, 1] [2, 3] rfl rfl rfl rfl (by decide) rfl rfl rfl (Nat.le_of_ble_eq_true rfl) (Nat.le_of_ble_eq_true rfl) (Nat.le_of_ble_eq_true rfl) (Nat.le_of_ble_eq_true rfl) (Nat.le_of_ble_eq_true rfl) dX5_readBridges_9 (fun r_2 u_1 H locs hw_u_1 hP hD hS => ?_)
  obtain ⟨o_3, o_4, o_5⟩ := u_1
  replace hw_u_1 : (r_2, o_3, o_4, o_5) = (f_e_number_x5 r0 r1 r3 r4 r5 r6 ftx 1 60) := hw_u_1
  rw [← hw_u_1] at hE
  replace hE : (match (f_e_readBridges_x5_22 r0 r1 r3 r4 r5 r6 ftx t0 t1 t2 t3 t4 fta (((6 : Int32).toInt - (1 : Int32).toInt).toNat + 1) 1 o_3 o_4 o_5 1 (putF 6 fta 0 r_2)) with | (w_8l2, w_8m0, w_8m1, w_8m2, w_8m3, w_8m4) => (w_8m0, w_8m1, w_8m2, w_8m3, w_8m4)) = RES := hE
  have hP : va_P D classes [(t, .inr (8, [.int t0, .int t1, .int t2, .int t3, .int t4, .ref ta, .ref tb, .ref tc, .ref td, .ref te])), (ta, .inl (cI, 6, .inl fta)), (rd, .inr (5, [.int o_3, .int o_4, .ref x, .int r3, .int o_5, .int r5, .int r6])), (x, .inl (cI, 240, .inl ftx))] H := hP
  have hD : va_D A [(t, .inr (8, [.int t0, .int t1, .int t2, .int t3, .int t4, .ref ta, .ref tb, .ref tc, .ref td, .ref te])), (ta, .inl (cI, 6, .inl fta)), (rd, .inr (5, [.int o_3, .int o_4, .ref x, .int r3, .int o_5, .int r5, .int r6])), (x, .inl (cI, 240, .inl ftx))] := hD
  refine cNv (wr := [(t, .inr (8, [.int t0, .int t1, .int t2, .int t3, .int t4, .ref ta, .ref tb, .ref tc, .ref td, .ref te])), (rd, .inr (5, [.int o_3, .int o_4, .ref x, .int r3, .int o_5, .int r5, .int r6])), (x, .inl (cI, 240, .inl ftx))]) (rest := []) (k_put ta 6 fta 0 r_2 (by decide)) okS_X9_put 15 rfl hx hb hml hown hts hK hP hD hS hA hN hl.1 [1] [0, 2, 3] rfl rfl rfl rfl (by decide) rfl (Nat.le_of_ble_eq_true rfl) (Nat.le_of_ble_eq_true rfl) (Nat.le_of_ble_eq_true rfl) (Nat.le_of_ble_eq_true rfl) (Nat.le_of_ble_eq_true rfl) dX5_readBridges_12 (fun u_6 H locs hw_u_6 hP hD hS => ?_)
  have hP : va_P D classes [(t, .inr (8, [.int t0, .int t1, .int t2, .int t3, .int t4, .ref ta, .ref tb, .ref tc, .ref td, .ref te])), (rd, .inr (5, [.int o_3, .int o_4, .ref x, .int r3, .int o_5, .int r5, .int r6])), (x, .inl (cI, 240, .inl ftx)), (ta, .inl (cI, 6, .inl (putF 6 fta 0 r_2)))] H := hP
  have hD : va_D A [(t, .inr (8, [.int t0, .int t1, .int t2, .int t3, .int t4, .ref ta, .ref tb, .ref tc, .ref td, .ref te])), (rd, .inr (5, [.int o_3, .int o_4, .ref x, .int r3, .int o_5, .int r5, .int r6])), (x, .inl (cI, 240, .inl ftx)), (ta, .inl (cI, 6, .inl (putF 6 fta 0 r_2)))] := hD
  refine lv_aload_n hx hb dX5_readBridges_15 rfl (lv_at hl 1 rfl) ?_
  refine lv_iconst (v := 1) hx hb dX5_readBridges_16 (by decide) ?_
  refine va_put (D := D) (ci := 8) (v := .int 1) (ty := .int) (C := RX8) (T := TX8) (N := 10) hx hb hts iX8 tyX8 tyX8_ok nmX8 hown hK hP hD hS 0 rfl rfl 0 (by decide) (hts _ wd_209) (fun _ h9 => h9) rfl (by decide +kernel) rfl rfl (Nat.le_of_ble_eq_true rfl) dX5_readBridges_17 (fun H locs hP hD hS => ?_)
  have hP : va_P D classes [(t, .inr (8, [.int 1, .int t1, .int t2, .int t3, .int t4, .ref ta, .ref tb, .ref tc, .ref td, .ref te])), (rd, .inr (5, [.int o_3, .int o_4, .ref x, .int r3, .int o_5, .int r5, .int r6])), (x, .inl (cI, 240, .inl ftx)), (ta, .inl (cI, 6, .inl (putF 6 fta 0 r_2)))] H := hP
  have hD : va_D A [(t, .inr (8, [.int 1, .int t1, .int t2, .int t3, .int t4, .ref ta, .ref tb, .ref tc, .ref td, .ref te])), (rd, .inr (5, [.int o_3, .int o_4, .ref x, .int r3, .int o_5, .int r5, .int r6])), (x, .inl (cI, 240, .inl ftx)), (ta, .inl (cI, 6, .inl (putF 6 fta 0 r_2)))] := hD
  refine lv_iconst (v := 1) hx hb dX5_readBridges_20 (by decide) ?_
  refine lv_istore_n (lv' := [(2, .int 1), (0, .ref rd), (1, .ref t)]) hx hb dX5_readBridges_21 rfl hl (by decide) rfl (fun ls hl => ?_)
  have ex_22_w_8 : ∀ (w_8l2 : Int32) (w_8m0 : Int32) (w_8m1 : Int32) (w_8m2 : Int32) (w_8m3 : Int32) (w_8m4 : (Nat → Int32)) (H : Heap) (locs : List Loc) (ls : Array Slot), va_P D classes [(t, .inr (8, [.int w_8m3, .int t1, .int t2, .int t3, .int t4, .ref ta, .ref tb, .ref tc, .ref td, .ref te])), (rd, .inr (5, [.int w_8m0, .int w_8m1, .ref x, .int r3, .int w_8m2, .int r5, .int r6])), (x, .inl (cI, 240, .inl ftx)), (ta, .inl (cI, 6, .inl w_8m4))] H → va_D A [(t, .inr (8, [.int w_8m3, .int t1, .int t2, .int t3, .int t4, .ref ta, .ref tb, .ref tc, .ref td, .ref te])), (rd, .inr (5, [.int w_8m0, .int w_8m1, .ref x, .int r3, .int w_8m2, .int r5, .int r6])), (x, .inl (cI, 240, .inl ftx)), (ta, .inl (cI, 6, .inl w_8m4))] → va_S A s.heap H locs → lv_has ls 3 [(2, .int w_8l2), (0, .ref rd), (1, .ref t)] → ((w_8m0, w_8m1, w_8m2, w_8m3, w_8m4)) = RES → W p l e rm_e_readBridges_x5 s m args below meth c H locs 0 0 Q (F0 m 82 ls []) := by
    intro w_8l2 w_8m0 w_8m1 w_8m2 w_8m3 w_8m4 H locs ls hP hD hS hl hE
    exact hret (w_8m0, w_8m1, w_8m2, w_8m3, w_8m4) _ _ _ _ dX5_readBridges_82 hE (cutP (isC := [1, 2, 0, 3]) hP rfl) (cutD (isC := [1, 2, 0, 3]) hD rfl rfl) hS
  have lp_22_w_8 : ∀ (n_w_8 : Nat) (w_8l2 : Int32) (w_8m0 : Int32) (w_8m1 : Int32) (w_8m2 : Int32) (w_8m3 : Int32) (w_8m4 : (Nat → Int32)) (H : Heap) (locs : List Loc) (ls : Array Slot), va_P D classes [(t, .inr (8, [.int w_8m3, .int t1, .int t2, .int t3, .int t4, .ref ta, .ref tb, .ref tc, .ref td, .ref te])), (rd, .inr (5, [.int w_8m0, .int w_8m1, .ref x, .int r3, .int w_8m2, .int r5, .int r6])), (x, .inl (cI, 240, .inl ftx)), (ta, .inl (cI, 6, .inl w_8m4))] H → va_D A [(t, .inr (8, [.int w_8m3, .int t1, .int t2, .int t3, .int t4, .ref ta, .ref tb, .ref tc, .ref td, .ref te])), (rd, .inr (5, [.int w_8m0, .int w_8m1, .ref x, .int r3, .int w_8m2, .int r5, .int r6])), (x, .inl (cI, 240, .inl ftx)), (ta, .inl (cI, 6, .inl w_8m4))] → va_S A s.heap H locs → lv_has ls 3 [(2, .int w_8l2), (0, .ref rd), (1, .ref t)] → ((6 : Int32).toInt - (w_8l2 : Int32).toInt).toNat < n_w_8 → (match (f_e_readBridges_x5_22 r0 r1 r3 r4 r5 r6 ftx t0 t1 t2 t3 t4 fta n_w_8 w_8l2 w_8m0 w_8m1 w_8m2 w_8m3 w_8m4) with | (w_8l2, w_8m0, w_8m1, w_8m2, w_8m3, w_8m4) => (w_8m0, w_8m1, w_8m2, w_8m3, w_8m4)) = RES → W p l e rm_e_readBridges_x5 s m args below meth c H locs 0 0 Q (F0 m 22 ls []) := by
    intro n_w_8
    induction n_w_8 with
    | zero => intro w_8l2 w_8m0 w_8m1 w_8m2 w_8m3 w_8m4 H locs ls hP hD hS hl hm; exact absurd hm (Nat.not_lt_zero _)
    | succ n_w_8 ih_w_8 =>
      intro w_8l2 w_8m0 w_8m1 w_8m2 w_8m3 w_8m4 H locs ls hP hD hS hl hm hE
      rw [f_e_readBridges_x5_22_s] at hE
      refine lv_iload_n hx hb dX5_readBridges_22 rfl (lv_at hl 0 rfl) ?_
      refine lv_bipush (v := 6) hx hb dX5_readBridges_23 (by decide) ?_
      refine lv_icmp_ge (tgt := 82) hx hb dX5_readBridges_25 (by decide) (fun c_9 => ?_) (fun c_9 => ?_)
      · rw [if_pos c_9] at hE
        exact ex_22_w_8 w_8l2 w_8m0 w_8m1 w_8m2 w_8m3 w_8m4 _ _ ls hP hD hS (lv_sub hl [0, 1, 2] rfl) hE
      · rw [if_neg c_9] at hE
        refine lv_aload_n hx hb dX5_readBridges_28 rfl (lv_at hl 1 rfl) ?_
        refine va_get (D := D) (ci := 5) (v := .int w_8m0) (C := RX5) (T := TX5) (N := 7) hx hb hts iX5 hown hK hP 1 rfl rfl 0 (by decide) (hts _ wd_42) (fun _ h9 => h9) rfl dX5_readBridges_29 ?_
        refine lv_if_ne (tgt := 82) hx hb dX5_readBridges_32 (by decide) (fun c_10 => ?_) (fun c_10 => ?_)
        · rw [if_neg c_10] at hE
          exact ex_22_w_8 w_8l2 w_8m0 w_8m1 w_8m2 w_8m3 w_8m4 _ _ ls hP hD hS (lv_sub hl [0, 1, 2] rfl) hE
        · rw [if_pos c_10] at hE
          refine lv_aload_n hx hb dX5_readBridges_35 rfl (lv_at hl 1 rfl) ?_
          refine cVi (wr := [(t, .inr (8, [.int w_8m3, .int t1, .int t2, .int t3, .int t4, .ref ta, .ref tb, .ref tc, .ref td, .ref te])), (ta, .inl (cI, 6, .inl w_8m4))]) (rest := []) (e_next_x5 rd x w_8m0 w_8m1 r3 w_8m2 r5 r6 ftx) okV_X5_next wd_197 hx hb hml hown hts hK hP hD hS hA hN hl.1 [1, 2] [0, 3] rfl rfl rfl rfl (by decide) rfl rfl rfl (Nat.le_of_ble_eq_true rfl) (Nat.le_of_ble_eq_true rfl) (Nat.le_of_ble_eq_true rfl) (Nat.le_of_ble_eq_true rfl) (Nat.le_of_ble_eq_true rfl) dX5_readBridges_36 (fun r_12 u_11 H locs hw_u_11 hP hD hS => ?_)
          replace hw_u_11 : (r_12, u_11) = (f_e_next_x5 w_8m0 w_8m1 r3 w_8m2 r5 r6 ftx) := hw_u_11
          rw [← hw_u_11] at hE
          replace hE : (match (if r_12 = 44 then (match (f_e_number_x5 w_8m0 w_8m1 r3 (u_11 + 1) r5 r6 ftx 1 60) with | (r_15, o_16, o_17, o_18) => (f_e_readBridges_x5_22 r0 r1 r3 r4 r5 r6 ftx t0 t1 t2 t3 t4 fta n_w_8 (w_8l2 + 1) o_16 o_17 o_18 (w_8l2 + 1) (putF 6 w_8m4 w_8l2 r_15))) else (w_8l2, w_8m0, w_8m1, u_11, w_8m3, w_8m4)) with | (w_8l2, w_8m0, w_8m1, w_8m2, w_8m3, w_8m4) => (w_8m0, w_8m1, w_8m2, w_8m3, w_8m4)) = RES := hE
          have hP : va_P D classes [(t, .inr (8, [.int w_8m3, .int t1, .int t2, .int t3, .int t4, .ref ta, .ref tb, .ref tc, .ref td, .ref te])), (ta, .inl (cI, 6, .inl w_8m4)), (rd, .inr (5, [.int w_8m0, .int w_8m1, .ref x, .int r3, .int u_11, .int r5, .int r6])), (x, .inl (cI, 240, .inl ftx))] H := hP
          have hD : va_D A [(t, .inr (8, [.int w_8m3, .int t1, .int t2, .int t3, .int t4, .ref ta, .ref tb, .ref tc, .ref td, .ref te])), (ta, .inl (cI, 6, .inl w_8m4)), (rd, .inr (5, [.int w_8m0, .int w_8m1, .ref x, .int r3, .int u_11, .int r5, .int r6])), (x, .inl (cI, 240, .inl ftx))] := hD
          refine lv_bipush (v := 44) hx hb dX5_readBridges_39 (by decide) ?_
          refine lv_icmp_ne (tgt := 82) hx hb dX5_readBridges_41 (by decide) (fun c_13 => ?_) (fun c_13 => ?_)
          · rw [if_neg c_13] at hE
            exact ex_22_w_8 w_8l2 w_8m0 w_8m1 u_11 w_8m3 w_8m4 _ _ ls (cutP (isC := [0, 2, 3, 1]) hP rfl) (cutD (isC := [0, 2, 3, 1]) hD rfl rfl) hS (lv_sub hl [0, 1, 2] rfl) hE
          · rw [if_pos c_13] at hE
            subst c_13
            refine lv_aload_n hx hb dX5_readBridges_44 rfl (lv_at hl 1 rfl) ?_
            refine lv_dup hx hb dX5_readBridges_45 rfl ?_
            refine va_get (D := D) (ci := 5) (v := .int u_11) (C := RX5) (T := TX5) (N := 7) hx hb hts iX5 hown hK hP 2 rfl rfl 4 (by decide) (hts _ wd_46) (fun _ h9 => h9) rfl dX5_readBridges_46 ?_
            refine lv_iconst (v := 1) hx hb dX5_readBridges_49 (by decide) ?_
            refine lv_iadd hx hb dX5_readBridges_50 ?_
            refine va_put (D := D) (ci := 5) (v := .int (u_11 + 1)) (ty := .int) (C := RX5) (T := TX5) (N := 7) hx hb hts iX5 tyX5 tyX5_ok nmX5 hown hK hP hD hS 2 rfl rfl 4 (by decide) (hts _ wd_46) (fun _ h9 => h9) rfl (by decide +kernel) rfl rfl (Nat.le_of_ble_eq_true rfl) dX5_readBridges_51 (fun H locs hP hD hS => ?_)
            have hP : va_P D classes [(t, .inr (8, [.int w_8m3, .int t1, .int t2, .int t3, .int t4, .ref ta, .ref tb, .ref tc, .ref td, .ref te])), (ta, .inl (cI, 6, .inl w_8m4)), (rd, .inr (5, [.int w_8m0, .int w_8m1, .ref x, .int r3, .int (u_11 + 1), .int r5, .int r6])), (x, .inl (cI, 240, .inl ftx))] H := hP
            have hD : va_D A [(t, .inr (8, [.int w_8m3, .int t1, .int t2, .int t3, .int t4, .ref ta, .ref tb, .ref tc, .ref td, .ref te])), (ta, .inl (cI, 6, .inl w_8m4)), (rd, .inr (5, [.int w_8m0, .int w_8m1, .ref x, .int r3, .int (u_11 + 1), .int r5, .int r6])), (x, .inl (cI, 240, .inl ftx))] := hD
            refine lv_aload_n hx hb dX5_readBridges_54 rfl (lv_at hl 2 rfl) ?_
            refine va_get (D := D) (ci := 8) (v := .ref ta) (C := RX8) (T := TX8) (N := 10) hx hb hts iX8 hown hK hP 0 rfl rfl 5 (by decide) (hts _ wd_212) (fun _ h9 => h9) rfl dX5_readBridges_55 ?_
            refine lv_iload_n hx hb dX5_readBridges_58 rfl (lv_at hl 0 rfl) ?_
            refine lv_aload_n hx hb dX5_readBridges_59 rfl (lv_at hl 1 rfl) ?_
            refine lv_iconst (v := 1) hx hb dX5_readBridges_60 (by decide) ?_
            refine lv_bipush (v := 60) hx hb dX5_readBridges_61 (by decide) ?_
            refine cVi (wr := [(t, .inr (8, [.int w_8m3, .int t1, .int t2, .int t3, .int t4, .ref ta, .ref tb, .ref tc, .ref td, .ref te])), (ta, .inl (cI, 6, .inl w_8m4))]) (rest := [.int w_8l2, .ref ta]) (e_number_x5 rd x w_8m0 w_8m1 r3 (u_11 + 1) r5 r6 ftx 1 60) okV_X5_number wd_213 hx hb hml hown hts hK hP hD hS hA hN hl.1 [2, 3] [0, 1] rfl rfl rfl rfl (by decide) rfl rfl rfl (Nat.le_of_ble_eq_true rfl) (Nat.le_of_ble_eq_true rfl) (Nat.le_of_ble_eq_true rfl) (Nat.le_of_ble_eq_true rfl) (Nat.le_of_ble_eq_true rfl) dX5_readBridges_63 (fun r_15 u_14 H locs hw_u_14 hP hD hS => ?_)
            obtain ⟨o_16, o_17, o_18⟩ := u_14
            replace hw_u_14 : (r_15, o_16, o_17, o_18) = (f_e_number_x5 w_8m0 w_8m1 r3 (u_11 + 1) r5 r6 ftx 1 60) := hw_u_14
            rw [← hw_u_14] at hE
            replace hE : (match (f_e_readBridges_x5_22 r0 r1 r3 r4 r5 r6 ftx t0 t1 t2 t3 t4 fta n_w_8 (w_8l2 + 1) o_16 o_17 o_18 (w_8l2 + 1) (putF 6 w_8m4 w_8l2 r_15)) with | (w_8l2, w_8m0, w_8m1, w_8m2, w_8m3, w_8m4) => (w_8m0, w_8m1, w_8m2, w_8m3, w_8m4)) = RES := hE
            have hP : va_P D classes [(t, .inr (8, [.int w_8m3, .int t1, .int t2, .int t3, .int t4, .ref ta, .ref tb, .ref tc, .ref td, .ref te])), (ta, .inl (cI, 6, .inl w_8m4)), (rd, .inr (5, [.int o_16, .int o_17, .ref x, .int r3, .int o_18, .int r5, .int r6])), (x, .inl (cI, 240, .inl ftx))] H := hP
            have hD : va_D A [(t, .inr (8, [.int w_8m3, .int t1, .int t2, .int t3, .int t4, .ref ta, .ref tb, .ref tc, .ref td, .ref te])), (ta, .inl (cI, 6, .inl w_8m4)), (rd, .inr (5, [.int o_16, .int o_17, .ref x, .int r3, .int o_18, .int r5, .int r6])), (x, .inl (cI, 240, .inl ftx))] := hD
            refine cNv (wr := [(t, .inr (8, [.int w_8m3, .int t1, .int t2, .int t3, .int t4, .ref ta, .ref tb, .ref tc, .ref td, .ref te])), (rd, .inr (5, [.int o_16, .int o_17, .ref x, .int r3, .int o_18, .int r5, .int r6])), (x, .inl (cI, 240, .inl ftx))]) (rest := []) (k_put ta 6 w_8m4 w_8l2 r_15 (by decide)) okS_X9_put 15 rfl hx hb hml hown hts hK hP hD hS hA hN hl.1 [1] [0, 2, 3] rfl rfl rfl rfl (by decide) rfl (Nat.le_of_ble_eq_true rfl) (Nat.le_of_ble_eq_true rfl) (Nat.le_of_ble_eq_true rfl) (Nat.le_of_ble_eq_true rfl) (Nat.le_of_ble_eq_true rfl) dX5_readBridges_66 (fun u_19 H locs hw_u_19 hP hD hS => ?_)
            have hP : va_P D classes [(t, .inr (8, [.int w_8m3, .int t1, .int t2, .int t3, .int t4, .ref ta, .ref tb, .ref tc, .ref td, .ref te])), (rd, .inr (5, [.int o_16, .int o_17, .ref x, .int r3, .int o_18, .int r5, .int r6])), (x, .inl (cI, 240, .inl ftx)), (ta, .inl (cI, 6, .inl (putF 6 w_8m4 w_8l2 r_15)))] H := hP
            have hD : va_D A [(t, .inr (8, [.int w_8m3, .int t1, .int t2, .int t3, .int t4, .ref ta, .ref tb, .ref tc, .ref td, .ref te])), (rd, .inr (5, [.int o_16, .int o_17, .ref x, .int r3, .int o_18, .int r5, .int r6])), (x, .inl (cI, 240, .inl ftx)), (ta, .inl (cI, 6, .inl (putF 6 w_8m4 w_8l2 r_15)))] := hD
            refine lv_aload_n hx hb dX5_readBridges_69 rfl (lv_at hl 2 rfl) ?_
            refine lv_iload_n hx hb dX5_readBridges_70 rfl (lv_at hl 0 rfl) ?_
            refine lv_iconst (v := 1) hx hb dX5_readBridges_71 (by decide) ?_
            refine lv_iadd hx hb dX5_readBridges_72 ?_
            refine va_put (D := D) (ci := 8) (v := .int (w_8l2 + 1)) (ty := .int) (C := RX8) (T := TX8) (N := 10) hx hb hts iX8 tyX8 tyX8_ok nmX8 hown hK hP hD hS 0 rfl rfl 0 (by decide) (hts _ wd_209) (fun _ h9 => h9) rfl (by decide +kernel) rfl rfl (Nat.le_of_ble_eq_true rfl) dX5_readBridges_73 (fun H locs hP hD hS => ?_)
            have hP : va_P D classes [(t, .inr (8, [.int (w_8l2 + 1), .int t1, .int t2, .int t3, .int t4, .ref ta, .ref tb, .ref tc, .ref td, .ref te])), (rd, .inr (5, [.int o_16, .int o_17, .ref x, .int r3, .int o_18, .int r5, .int r6])), (x, .inl (cI, 240, .inl ftx)), (ta, .inl (cI, 6, .inl (putF 6 w_8m4 w_8l2 r_15)))] H := hP
            have hD : va_D A [(t, .inr (8, [.int (w_8l2 + 1), .int t1, .int t2, .int t3, .int t4, .ref ta, .ref tb, .ref tc, .ref td, .ref te])), (rd, .inr (5, [.int o_16, .int o_17, .ref x, .int r3, .int o_18, .int r5, .int r6])), (x, .inl (cI, 240, .inl ftx)), (ta, .inl (cI, 6, .inl (putF 6 w_8m4 w_8l2 r_15)))] := hD
            refine lv_iinc (v := (w_8l2 + 1)) (lv' := [(2, .int (w_8l2 + 1)), (0, .ref rd), (1, .ref t)]) hx hb dX5_readBridges_76 hl (k := 0) rfl rfl (by decide) rfl (fun ls hl => ?_)
            refine lv_goto (tgt := 22) hx hb dX5_readBridges_79 (by decide) ?_
            exact ih_w_8 (w_8l2 + 1) o_16 o_17 o_18 (w_8l2 + 1) (putF 6 w_8m4 w_8l2 r_15) _ _ ls hP hD hS (lv_sub hl [0, 1, 2] rfl) (up_step c_9 hm) hE
  exact lp_22_w_8 (((6 : Int32).toInt - (1 : Int32).toInt).toNat + 1) 1 o_3 o_4 o_5 1 (putF 6 fta 0 r_2) _ _ ls hP hD hS hl (Nat.lt_succ_self _) hE
noncomputable def f_e_readCouple_x5_22 (r0 : Int32) (r1 : Int32) (r3 : Int32) (r4 : Int32) (r5 : Int32) (r6 : Int32) (ftx : Nat → Int32) (t0 : Int32) (t1 : Int32) (t2 : Int32) (t3 : Int32) (t4 : Int32) (ftb : Nat → Int32) (ftc : Nat → Int32) (n : Nat) : Int32 → Int32 → Int32 → Int32 → Int32 → (Nat → Int32) → (Nat → Int32) → Int32 × Int32 × Int32 × Int32 × Int32 × (Nat → Int32) × (Nat → Int32) := Nat.rec (motive := fun _ => Int32 → Int32 → Int32 → Int32 → Int32 → (Nat → Int32) → (Nat → Int32) → Int32 × Int32 × Int32 × Int32 × Int32 × (Nat → Int32) × (Nat → Int32)) (fun w_8l3 w_8m0 w_8m1 w_8m2 w_8m3 w_8m4 w_8m5 => (w_8l3, w_8m0, w_8m1, w_8m2, w_8m3, w_8m4, w_8m5)) (fun n ih w_8l3 w_8m0 w_8m1 w_8m2 w_8m3 w_8m4 w_8m5 => (if t1 ≤ w_8l3 then (w_8l3, w_8m0, w_8m1, w_8m2, w_8m3, w_8m4, w_8m5) else (if w_8l3 ≤ 0 then (match (f_e_number_x5 w_8m0 w_8m1 r3 w_8m2 r5 r6 ftx 0 9) with | (r_12, o_13, o_14, o_15) => (ih (w_8l3 + 1) o_13 o_14 o_15 w_8m3 w_8m4 (putF 30 w_8m5 ((t2 * 5) + w_8l3) r_12))) else (match (f_e_expect_x5 w_8m0 w_8m1 r3 w_8m2 r5 r6 ftx 44) with | (o_20, o_21, o_22) => (match (f_e_number_x5 o_20 o_21 r3 o_22 r5 r6 ftx 0 9) with | (r_24, o_25, o_26, o_27) => (ih (w_8l3 + 1) o_25 o_26 o_27 w_8m3 w_8m4 (putF 30 w_8m5 ((t2 * 5) + w_8l3) r_24))))))) n
theorem f_e_readCouple_x5_22_s (r0 : Int32) (r1 : Int32) (r3 : Int32) (r4 : Int32) (r5 : Int32) (r6 : Int32) (ftx : Nat → Int32) (t0 : Int32) (t1 : Int32) (t2 : Int32) (t3 : Int32) (t4 : Int32) (ftb : Nat → Int32) (ftc : Nat → Int32) (n : Nat) (w_8l3 : Int32) (w_8m0 : Int32) (w_8m1 : Int32) (w_8m2 : Int32) (w_8m3 : Int32) (w_8m4 : (Nat → Int32)) (w_8m5 : (Nat → Int32)) : f_e_readCouple_x5_22 r0 r1 r3 r4 r5 r6 ftx t0 t1 t2 t3 t4 ftb ftc (n + 1) w_8l3 w_8m0 w_8m1 w_8m2 w_8m3 w_8m4 w_8m5 = (if t1 ≤ w_8l3 then (w_8l3, w_8m0, w_8m1, w_8m2, w_8m3, w_8m4, w_8m5) else (if w_8l3 ≤ 0 then (match (f_e_number_x5 w_8m0 w_8m1 r3 w_8m2 r5 r6 ftx 0 9) with | (r_12, o_13, o_14, o_15) => (f_e_readCouple_x5_22 r0 r1 r3 r4 r5 r6 ftx t0 t1 t2 t3 t4 ftb ftc n (w_8l3 + 1) o_13 o_14 o_15 w_8m3 w_8m4 (putF 30 w_8m5 ((t2 * 5) + w_8l3) r_12))) else (match (f_e_expect_x5 w_8m0 w_8m1 r3 w_8m2 r5 r6 ftx 44) with | (o_20, o_21, o_22) => (match (f_e_number_x5 o_20 o_21 r3 o_22 r5 r6 ftx 0 9) with | (r_24, o_25, o_26, o_27) => (f_e_readCouple_x5_22 r0 r1 r3 r4 r5 r6 ftx t0 t1 t2 t3 t4 ftb ftc n (w_8l3 + 1) o_25 o_26 o_27 w_8m3 w_8m4 (putF 30 w_8m5 ((t2 * 5) + w_8l3) r_24)))))) := rfl
noncomputable def f_e_readCouple_x5 (r0 : Int32) (r1 : Int32) (r3 : Int32) (r4 : Int32) (r5 : Int32) (r6 : Int32) (ftx : Nat → Int32) (t0 : Int32) (t1 : Int32) (t2 : Int32) (t3 : Int32) (t4 : Int32) (ftb : Nat → Int32) (ftc : Nat → Int32) : Int32 × Int32 × Int32 × Int32 × (Nat → Int32) × (Nat → Int32) := (match (f_e_number_x5 r0 r1 r3 r4 r5 r6 ftx 0 99) with | (r_2, o_3, o_4, o_5) => (match (f_e_readCouple_x5_22 r0 r1 r3 r4 r5 r6 ftx t0 t1 t2 t3 t4 ftb ftc (((t1 : Int32).toInt - (0 : Int32).toInt).toNat + 1) 0 o_3 o_4 o_5 t2 (putF 6 ftb t2 r_2) ftc) with | (w_8l3, w_8m0, w_8m1, w_8m2, w_8m3, w_8m4, w_8m5) => (w_8m0, w_8m1, w_8m2, (t2 + 1), w_8m4, w_8m5)))
def rm_e_readCouple_x5 : Room := { frames := 3, cells := 0, slots := 0, locals := 66 }
set_option maxHeartbeats 4000000 in
set_option maxRecDepth 100000 in
theorem e_readCouple_x5 {l : Launch} {D : va_G} {cI cZ : ClassId} {sz : Nat} (rd x t ta tb tc td te : Nat) (r0 : Int32) (r1 : Int32) (r3 : Int32) (r4 : Int32) (r5 : Int32) (r6 : Int32) (ftx : Nat → Int32) (t0 : Int32) (t1 : Int32) (t2 : Int32) (t3 : Int32) (t4 : Int32) (ftb : Nat → Int32) (ftc : Nat → Int32) : KV l yX5_readCouple cX5_readCouple 4 rm_e_readCouple_x5 D cI cZ [.ref rd, .ref t] sz [(rd, .inr (5, [.int r0, .int r1, .ref x, .int r3, .int r4, .int r5, .int r6])), (x, .inl (cI, 240, .inl ftx)), (t, .inr (8, [.int t0, .int t1, .int t2, .int t3, .int t4, .ref ta, .ref tb, .ref tc, .ref td, .ref te])), (tb, .inl (cI, 6, .inl ftb)), (tc, .inl (cI, 30, .inl ftc))] (fun (u : Int32 × Int32 × Int32 × Int32 × (Nat → Int32) × (Nat → Int32)) => u = f_e_readCouple_x5 r0 r1 r3 r4 r5 r6 ftx t0 t1 t2 t3 t4 ftb ftc) (fun (u : Int32 × Int32 × Int32 × Int32 × (Nat → Int32) × (Nat → Int32)) => [(rd, .inr (5, [.int (u.1), .int (u.2.1), .ref x, .int r3, .int (u.2.2.1), .int r5, .int r6])), (x, .inl (cI, 240, .inl ftx)), (t, .inr (8, [.int t0, .int t1, .int (u.2.2.2.1), .int t3, .int t4, .ref ta, .ref tb, .ref tc, .ref td, .ref te])), (tb, .inl (cI, 6, .inl u.2.2.2.2.1)), (tc, .inl (cI, 30, .inl u.2.2.2.2.2))]) := by
  refine KV.go rfl (Nat.le_of_ble_eq_true rfl) ?_
  intro p e s m args below meth c ls A Q hx hb hml hts hown hin hP hK hD hS hA hN hl hret
  have hl : lv_has ls 4 [(0, .ref rd), (1, .ref t)] := hl
  obtain ⟨RES, hE⟩ : ∃ xRES, f_e_readCouple_x5 r0 r1 r3 r4 r5 r6 ftx t0 t1 t2 t3 t4 ftb ftc = xRES := ⟨_, rfl⟩
  rw [hE] at hret
  rw [f_e_readCouple_x5] at hE
  refine lv_aload_n hx hb dX5_readCouple_0 rfl (lv_at hl 1 rfl) ?_
  refine va_get (D := D) (ci := 8) (v := .int t2) (C := RX8) (T := TX8) (N := 10) hx hb hts iX8 hown hK hP 2 rfl rfl 2 (by decide) (hts _ wd_210) (fun _ h9 => h9) rfl dX5_readCouple_1 ?_
  refine lv_istore_n (lv' := [(2, .int t2), (0, .ref rd), (1, .ref t)]) hx hb dX5_readCouple_4 rfl hl (by decide) rfl (fun ls hl => ?_)
  refine lv_aload_n hx hb dX5_readCouple_5 rfl (lv_at hl 2 rfl) ?_
  refine va_get (D := D) (ci := 8) (v := .ref tb) (C := RX8) (T := TX8) (N := 10) hx hb hts iX8 hown hK hP 2 rfl rfl 6 (by decide) (hts _ wd_217) (fun _ h9 => h9) rfl dX5_readCouple_6 ?_
  refine lv_iload_n hx hb dX5_readCouple_9 rfl (lv_at hl 0 rfl) ?_
  refine lv_aload_n hx hb dX5_readCouple_10 rfl (lv_at hl 1 rfl) ?_
  refine lv_iconst (v := 0) hx hb dX5_readCouple_11 (by decide) ?_
  refine lv_bipush (v := 99) hx hb dX5_readCouple_12 (by decide) ?_
  refine cVi (wr := [(t, .inr (8, [.int t0, .int t1, .int t2, .int t3, .int t4, .ref ta, .ref tb, .ref tc, .ref td, .ref te])), (tb, .inl (cI, 6, .inl ftb)), (tc, .inl (cI, 30, .inl ftc))]) (rest := [.int t2, .ref tb]) (e_number_x5 rd x r0 r1 r3 r4 r5 r6 ftx 0 99) okV_X5_number wd_213 hx hb hml hown hts hK hP hD hS hA hN hl.1 [0, 1] [2, 3, 4] rfl rfl rfl rfl (by decide) rfl rfl rfl (Nat.le_of_ble_eq_true rfl) (Nat.le_of_ble_eq_true rfl) (Nat.le_of_ble_eq_true rfl) (Nat.le_of_ble_eq_true rfl) (Nat.le_of_ble_eq_true rfl) dX5_readCouple_14 (fun r_2 u_1 H locs hw_u_1 hP hD hS => ?_)
  obtain ⟨o_3, o_4, o_5⟩ := u_1
  replace hw_u_1 : (r_2, o_3, o_4, o_5) = (f_e_number_x5 r0 r1 r3 r4 r5 r6 ftx 0 99) := hw_u_1
  rw [← hw_u_1] at hE
  replace hE : (match (f_e_readCouple_x5_22 r0 r1 r3 r4 r5 r6 ftx t0 t1 t2 t3 t4 ftb ftc (((t1 : Int32).toInt - (0 : Int32).toInt).toNat + 1) 0 o_3 o_4 o_5 t2 (putF 6 ftb t2 r_2) ftc) with | (w_8l3, w_8m0, w_8m1, w_8m2, w_8m3, w_8m4, w_8m5) => (w_8m0, w_8m1, w_8m2, (t2 + 1), w_8m4, w_8m5)) = RES := hE
  have hP : va_P D classes [(t, .inr (8, [.int t0, .int t1, .int t2, .int t3, .int t4, .ref ta, .ref tb, .ref tc, .ref td, .ref te])), (tb, .inl (cI, 6, .inl ftb)), (tc, .inl (cI, 30, .inl ftc)), (rd, .inr (5, [.int o_3, .int o_4, .ref x, .int r3, .int o_5, .int r5, .int r6])), (x, .inl (cI, 240, .inl ftx))] H := hP
  have hD : va_D A [(t, .inr (8, [.int t0, .int t1, .int t2, .int t3, .int t4, .ref ta, .ref tb, .ref tc, .ref td, .ref te])), (tb, .inl (cI, 6, .inl ftb)), (tc, .inl (cI, 30, .inl ftc)), (rd, .inr (5, [.int o_3, .int o_4, .ref x, .int r3, .int o_5, .int r5, .int r6])), (x, .inl (cI, 240, .inl ftx))] := hD
  refine cNv (wr := [(t, .inr (8, [.int t0, .int t1, .int t2, .int t3, .int t4, .ref ta, .ref tb, .ref tc, .ref td, .ref te])), (tc, .inl (cI, 30, .inl ftc)), (rd, .inr (5, [.int o_3, .int o_4, .ref x, .int r3, .int o_5, .int r5, .int r6])), (x, .inl (cI, 240, .inl ftx))]) (rest := []) (k_put tb 6 ftb t2 r_2 (by decide)) okS_X9_put 15 rfl hx hb hml hown hts hK hP hD hS hA hN hl.1 [1] [0, 2, 3, 4] rfl rfl rfl rfl (by decide) rfl (Nat.le_of_ble_eq_true rfl) (Nat.le_of_ble_eq_true rfl) (Nat.le_of_ble_eq_true rfl) (Nat.le_of_ble_eq_true rfl) (Nat.le_of_ble_eq_true rfl) dX5_readCouple_17 (fun u_6 H locs hw_u_6 hP hD hS => ?_)
  have hP : va_P D classes [(t, .inr (8, [.int t0, .int t1, .int t2, .int t3, .int t4, .ref ta, .ref tb, .ref tc, .ref td, .ref te])), (tc, .inl (cI, 30, .inl ftc)), (rd, .inr (5, [.int o_3, .int o_4, .ref x, .int r3, .int o_5, .int r5, .int r6])), (x, .inl (cI, 240, .inl ftx)), (tb, .inl (cI, 6, .inl (putF 6 ftb t2 r_2)))] H := hP
  have hD : va_D A [(t, .inr (8, [.int t0, .int t1, .int t2, .int t3, .int t4, .ref ta, .ref tb, .ref tc, .ref td, .ref te])), (tc, .inl (cI, 30, .inl ftc)), (rd, .inr (5, [.int o_3, .int o_4, .ref x, .int r3, .int o_5, .int r5, .int r6])), (x, .inl (cI, 240, .inl ftx)), (tb, .inl (cI, 6, .inl (putF 6 ftb t2 r_2)))] := hD
  refine lv_iconst (v := 0) hx hb dX5_readCouple_20 (by decide) ?_
  refine lv_istore_n (lv' := [(3, .int 0), (2, .int t2), (0, .ref rd), (1, .ref t)]) hx hb dX5_readCouple_21 rfl hl (by decide) rfl (fun ls hl => ?_)
  have ex_22_w_8 : ∀ (w_8l3 : Int32) (w_8m0 : Int32) (w_8m1 : Int32) (w_8m2 : Int32) (w_8m3 : Int32) (w_8m4 : (Nat → Int32)) (w_8m5 : (Nat → Int32)) (H : Heap) (locs : List Loc) (ls : Array Slot), va_P D classes [(t, .inr (8, [.int t0, .int t1, .int w_8m3, .int t3, .int t4, .ref ta, .ref tb, .ref tc, .ref td, .ref te])), (tc, .inl (cI, 30, .inl w_8m5)), (rd, .inr (5, [.int w_8m0, .int w_8m1, .ref x, .int r3, .int w_8m2, .int r5, .int r6])), (x, .inl (cI, 240, .inl ftx)), (tb, .inl (cI, 6, .inl w_8m4))] H → va_D A [(t, .inr (8, [.int t0, .int t1, .int w_8m3, .int t3, .int t4, .ref ta, .ref tb, .ref tc, .ref td, .ref te])), (tc, .inl (cI, 30, .inl w_8m5)), (rd, .inr (5, [.int w_8m0, .int w_8m1, .ref x, .int r3, .int w_8m2, .int r5, .int r6])), (x, .inl (cI, 240, .inl ftx)), (tb, .inl (cI, 6, .inl w_8m4))] → va_S A s.heap H locs → lv_has ls 4 [(3, .int w_8l3), (2, .int t2), (0, .ref rd), (1, .ref t)] → ((w_8m0, w_8m1, w_8m2, (t2 + 1), w_8m4, w_8m5)) = RES → W p l e rm_e_readCouple_x5 s m args below meth c H locs 0 0 Q (F0 m 65 ls []) := by
    intro w_8l3 w_8m0 w_8m1 w_8m2 w_8m3 w_8m4 w_8m5 H locs ls hP hD hS hl hE
    refine lv_aload_n hx hb dX5_readCouple_65 rfl (lv_at hl 3 rfl) ?_
    refine lv_iload_n hx hb dX5_readCouple_66 rfl (lv_at hl 1 rfl) ?_
    refine lv_iconst (v := 1) hx hb dX5_readCouple_67 (by decide) ?_
    refine lv_iadd hx hb dX5_readCouple_68 ?_
    refine va_put (D := D) (ci := 8) (v := .int (t2 + 1)) (ty := .int) (C := RX8) (T := TX8) (N := 10) hx hb hts iX8 tyX8 tyX8_ok nmX8 hown hK hP hD hS 0 rfl rfl 2 (by decide) (hts _ wd_210) (fun _ h9 => h9) rfl (by decide +kernel) rfl rfl (Nat.le_of_ble_eq_true rfl) dX5_readCouple_69 (fun H locs hP hD hS => ?_)
    have hP : va_P D classes [(t, .inr (8, [.int t0, .int t1, .int (t2 + 1), .int t3, .int t4, .ref ta, .ref tb, .ref tc, .ref td, .ref te])), (tc, .inl (cI, 30, .inl w_8m5)), (rd, .inr (5, [.int w_8m0, .int w_8m1, .ref x, .int r3, .int w_8m2, .int r5, .int r6])), (x, .inl (cI, 240, .inl ftx)), (tb, .inl (cI, 6, .inl w_8m4))] H := hP
    have hD : va_D A [(t, .inr (8, [.int t0, .int t1, .int (t2 + 1), .int t3, .int t4, .ref ta, .ref tb, .ref tc, .ref td, .ref te])), (tc, .inl (cI, 30, .inl w_8m5)), (rd, .inr (5, [.int w_8m0, .int w_8m1, .ref x, .int r3, .int w_8m2, .int r5, .int r6])), (x, .inl (cI, 240, .inl ftx)), (tb, .inl (cI, 6, .inl w_8m4))] := hD
    exact hret (w_8m0, w_8m1, w_8m2, (t2 + 1), w_8m4, w_8m5) _ _ _ _ dX5_readCouple_72 hE (cutP (isC := [2, 3, 0, 4, 1]) hP rfl) (cutD (isC := [2, 3, 0, 4, 1]) hD rfl rfl) hS
  have lp_22_w_8 : ∀ (n_w_8 : Nat) (w_8l3 : Int32) (w_8m0 : Int32) (w_8m1 : Int32) (w_8m2 : Int32) (w_8m3 : Int32) (w_8m4 : (Nat → Int32)) (w_8m5 : (Nat → Int32)) (H : Heap) (locs : List Loc) (ls : Array Slot), va_P D classes [(t, .inr (8, [.int t0, .int t1, .int w_8m3, .int t3, .int t4, .ref ta, .ref tb, .ref tc, .ref td, .ref te])), (tc, .inl (cI, 30, .inl w_8m5)), (rd, .inr (5, [.int w_8m0, .int w_8m1, .ref x, .int r3, .int w_8m2, .int r5, .int r6])), (x, .inl (cI, 240, .inl ftx)), (tb, .inl (cI, 6, .inl w_8m4))] H → va_D A [(t, .inr (8, [.int t0, .int t1, .int w_8m3, .int t3, .int t4, .ref ta, .ref tb, .ref tc, .ref td, .ref te])), (tc, .inl (cI, 30, .inl w_8m5)), (rd, .inr (5, [.int w_8m0, .int w_8m1, .ref x, .int r3, .int w_8m2, .int r5, .int r6])), (x, .inl (cI, 240, .inl ftx)), (tb, .inl (cI, 6, .inl w_8m4))] → va_S A s.heap H locs → lv_has ls 4 [(3, .int w_8l3), (2, .int t2), (0, .ref rd), (1, .ref t)] → ((t1 : Int32).toInt - (w_8l3 : Int32).toInt).toNat < n_w_8 → (match (f_e_readCouple_x5_22 r0 r1 r3 r4 r5 r6 ftx t0 t1 t2 t3 t4 ftb ftc n_w_8 w_8l3 w_8m0 w_8m1 w_8m2 w_8m3 w_8m4 w_8m5) with | (w_8l3, w_8m0, w_8m1, w_8m2, w_8m3, w_8m4, w_8m5) => (w_8m0, w_8m1, w_8m2, (t2 + 1), w_8m4, w_8m5)) = RES → W p l e rm_e_readCouple_x5 s m args below meth c H locs 0 0 Q (F0 m 22 ls []) := by
    intro n_w_8
    induction n_w_8 with
    | zero => intro w_8l3 w_8m0 w_8m1 w_8m2 w_8m3 w_8m4 w_8m5 H locs ls hP hD hS hl hm; exact absurd hm (Nat.not_lt_zero _)
    | succ n_w_8 ih_w_8 =>
      intro w_8l3 w_8m0 w_8m1 w_8m2 w_8m3 w_8m4 w_8m5 H locs ls hP hD hS hl hm hE
      rw [f_e_readCouple_x5_22_s] at hE
      refine lv_iload_n hx hb dX5_readCouple_22 rfl (lv_at hl 0 rfl) ?_
      refine lv_aload_n hx hb dX5_readCouple_23 rfl (lv_at hl 3 rfl) ?_
      refine va_get (D := D) (ci := 8) (v := .int t1) (C := RX8) (T := TX8) (N := 10) hx hb hts iX8 hown hK hP 0 rfl rfl 1 (by decide) (hts _ wd_218) (fun _ h9 => h9) rfl dX5_readCouple_24 ?_
      refine lv_icmp_ge (tgt := 65) hx hb dX5_readCouple_27 (by decide) (fun c_9 => ?_) (fun c_9 => ?_)
      · rw [if_pos c_9] at hE
        exact ex_22_w_8 w_8l3 w_8m0 w_8m1 w_8m2 w_8m3 w_8m4 w_8m5 _ _ ls hP hD hS (lv_sub hl [0, 1, 2, 3] rfl) hE
      · rw [if_neg c_9] at hE
        refine lv_iload_n hx hb dX5_readCouple_30 rfl (lv_at hl 0 rfl) ?_
        refine lv_if_le (tgt := 40) hx hb dX5_readCouple_31 (by decide) (fun c_10 => ?_) (fun c_10 => ?_)
        · rw [if_pos c_10] at hE
          refine lv_aload_n hx hb dX5_readCouple_40 rfl (lv_at hl 3 rfl) ?_
          refine va_get (D := D) (ci := 8) (v := .ref tc) (C := RX8) (T := TX8) (N := 10) hx hb hts iX8 hown hK hP 0 rfl rfl 7 (by decide) (hts _ wd_219) (fun _ h9 => h9) rfl dX5_readCouple_41 ?_
          refine lv_iload_n hx hb dX5_readCouple_44 rfl (lv_at hl 1 rfl) ?_
          refine lv_iconst (v := 5) hx hb dX5_readCouple_45 (by decide) ?_
          refine lv_imul hx hb dX5_readCouple_46 ?_
          refine lv_iload_n hx hb dX5_readCouple_47 rfl (lv_at hl 0 rfl) ?_
          refine lv_iadd hx hb dX5_readCouple_48 ?_
          refine lv_aload_n hx hb dX5_readCouple_49 rfl (lv_at hl 2 rfl) ?_
          refine lv_iconst (v := 0) hx hb dX5_readCouple_50 (by decide) ?_
          refine lv_bipush (v := 9) hx hb dX5_readCouple_51 (by decide) ?_
          refine cVi (wr := [(t, .inr (8, [.int t0, .int t1, .int w_8m3, .int t3, .int t4, .ref ta, .ref tb, .ref tc, .ref td, .ref te])), (tc, .inl (cI, 30, .inl w_8m5)), (tb, .inl (cI, 6, .inl w_8m4))]) (rest := [.int ((t2 * 5) + w_8l3), .ref tc]) (e_number_x5 rd x w_8m0 w_8m1 r3 w_8m2 r5 r6 ftx 0 9) okV_X5_number wd_213 hx hb hml hown hts hK hP hD hS hA hN hl.1 [2, 3] [0, 1, 4] rfl rfl rfl rfl (by decide) rfl rfl rfl (Nat.le_of_ble_eq_true rfl) (Nat.le_of_ble_eq_true rfl) (Nat.le_of_ble_eq_true rfl) (Nat.le_of_ble_eq_true rfl) (Nat.le_of_ble_eq_true rfl) dX5_readCouple_53 (fun r_12 u_11 H locs hw_u_11 hP hD hS => ?_)
          obtain ⟨o_13, o_14, o_15⟩ := u_11
          replace hw_u_11 : (r_12, o_13, o_14, o_15) = (f_e_number_x5 w_8m0 w_8m1 r3 w_8m2 r5 r6 ftx 0 9) := hw_u_11
          rw [← hw_u_11] at hE
          replace hE : (match (f_e_readCouple_x5_22 r0 r1 r3 r4 r5 r6 ftx t0 t1 t2 t3 t4 ftb ftc n_w_8 (w_8l3 + 1) o_13 o_14 o_15 w_8m3 w_8m4 (putF 30 w_8m5 ((t2 * 5) + w_8l3) r_12)) with | (w_8l3, w_8m0, w_8m1, w_8m2, w_8m3, w_8m4, w_8m5) => (w_8m0, w_8m1, w_8m2, (t2 + 1), w_8m4, w_8m5)) = RES := hE
          have hP : va_P D classes [(t, .inr (8, [.int t0, .int t1, .int w_8m3, .int t3, .int t4, .ref ta, .ref tb, .ref tc, .ref td, .ref te])), (tc, .inl (cI, 30, .inl w_8m5)), (tb, .inl (cI, 6, .inl w_8m4)), (rd, .inr (5, [.int o_13, .int o_14, .ref x, .int r3, .int o_15, .int r5, .int r6])), (x, .inl (cI, 240, .inl ftx))] H := hP
          have hD : va_D A [(t, .inr (8, [.int t0, .int t1, .int w_8m3, .int t3, .int t4, .ref ta, .ref tb, .ref tc, .ref td, .ref te])), (tc, .inl (cI, 30, .inl w_8m5)), (tb, .inl (cI, 6, .inl w_8m4)), (rd, .inr (5, [.int o_13, .int o_14, .ref x, .int r3, .int o_15, .int r5, .int r6])), (x, .inl (cI, 240, .inl ftx))] := hD
          refine cNv (wr := [(t, .inr (8, [.int t0, .int t1, .int w_8m3, .int t3, .int t4, .ref ta, .ref tb, .ref tc, .ref td, .ref te])), (tb, .inl (cI, 6, .inl w_8m4)), (rd, .inr (5, [.int o_13, .int o_14, .ref x, .int r3, .int o_15, .int r5, .int r6])), (x, .inl (cI, 240, .inl ftx))]) (rest := []) (k_put tc 30 w_8m5 ((t2 * 5) + w_8l3) r_12 (by decide)) okS_X9_put 15 rfl hx hb hml hown hts hK hP hD hS hA hN hl.1 [1] [0, 2, 3, 4] rfl rfl rfl rfl (by decide) rfl (Nat.le_of_ble_eq_true rfl) (Nat.le_of_ble_eq_true rfl) (Nat.le_of_ble_eq_true rfl) (Nat.le_of_ble_eq_true rfl) (Nat.le_of_ble_eq_true rfl) dX5_readCouple_56 (fun u_16 H locs hw_u_16 hP hD hS => ?_)
          have hP : va_P D classes [(t, .inr (8, [.int t0, .int t1, .int w_8m3, .int t3, .int t4, .ref ta, .ref tb, .ref tc, .ref td, .ref te])), (tb, .inl (cI, 6, .inl w_8m4)), (rd, .inr (5, [.int o_13, .int o_14, .ref x, .int r3, .int o_15, .int r5, .int r6])), (x, .inl (cI, 240, .inl ftx)), (tc, .inl (cI, 30, .inl (putF 30 w_8m5 ((t2 * 5) + w_8l3) r_12)))] H := hP
          have hD : va_D A [(t, .inr (8, [.int t0, .int t1, .int w_8m3, .int t3, .int t4, .ref ta, .ref tb, .ref tc, .ref td, .ref te])), (tb, .inl (cI, 6, .inl w_8m4)), (rd, .inr (5, [.int o_13, .int o_14, .ref x, .int r3, .int o_15, .int r5, .int r6])), (x, .inl (cI, 240, .inl ftx)), (tc, .inl (cI, 30, .inl (putF 30 w_8m5 ((t2 * 5) + w_8l3) r_12)))] := hD
          refine lv_iinc (v := (w_8l3 + 1)) (lv' := [(3, .int (w_8l3 + 1)), (2, .int t2), (0, .ref rd), (1, .ref t)]) hx hb dX5_readCouple_59 hl (k := 0) rfl rfl (by decide) rfl (fun ls hl => ?_)
          refine lv_goto (tgt := 22) hx hb dX5_readCouple_62 (by decide) ?_
          exact ih_w_8 (w_8l3 + 1) o_13 o_14 o_15 w_8m3 w_8m4 (putF 30 w_8m5 ((t2 * 5) + w_8l3) r_12) _ _ ls (cutP (isC := [0, 4, 2, 3, 1]) hP rfl) (cutD (isC := [0, 4, 2, 3, 1]) hD rfl rfl) hS (lv_sub hl [0, 1, 2, 3] rfl) (up_step c_9 hm) hE
        · rw [if_neg c_10] at hE
          refine lv_aload_n hx hb dX5_readCouple_34 rfl (lv_at hl 2 rfl) ?_
          refine lv_bipush (v := 44) hx hb dX5_readCouple_35 (by decide) ?_
          refine cVv (wr := [(t, .inr (8, [.int t0, .int t1, .int w_8m3, .int t3, .int t4, .ref ta, .ref tb, .ref tc, .ref td, .ref te])), (tc, .inl (cI, 30, .inl w_8m5)), (tb, .inl (cI, 6, .inl w_8m4))]) (rest := []) (e_expect_x5 rd x w_8m0 w_8m1 r3 w_8m2 r5 r6 ftx 44) okV_X5_expect wd_220 hx hb hml hown hts hK hP hD hS hA hN hl.1 [2, 3] [0, 1, 4] rfl rfl rfl rfl (by decide) rfl rfl rfl (Nat.le_of_ble_eq_true rfl) (Nat.le_of_ble_eq_true rfl) (Nat.le_of_ble_eq_true rfl) (Nat.le_of_ble_eq_true rfl) (Nat.le_of_ble_eq_true rfl) dX5_readCouple_37 (fun u_18 H locs hw_u_18 hP hD hS => ?_)
          obtain ⟨o_20, o_21, o_22⟩ := u_18
          replace hw_u_18 : (o_20, o_21, o_22) = (f_e_expect_x5 w_8m0 w_8m1 r3 w_8m2 r5 r6 ftx 44) := hw_u_18
          rw [← hw_u_18] at hE
          replace hE : (match (match (f_e_number_x5 o_20 o_21 r3 o_22 r5 r6 ftx 0 9) with | (r_24, o_25, o_26, o_27) => (f_e_readCouple_x5_22 r0 r1 r3 r4 r5 r6 ftx t0 t1 t2 t3 t4 ftb ftc n_w_8 (w_8l3 + 1) o_25 o_26 o_27 w_8m3 w_8m4 (putF 30 w_8m5 ((t2 * 5) + w_8l3) r_24))) with | (w_8l3, w_8m0, w_8m1, w_8m2, w_8m3, w_8m4, w_8m5) => (w_8m0, w_8m1, w_8m2, (t2 + 1), w_8m4, w_8m5)) = RES := hE
          have hP : va_P D classes [(t, .inr (8, [.int t0, .int t1, .int w_8m3, .int t3, .int t4, .ref ta, .ref tb, .ref tc, .ref td, .ref te])), (tc, .inl (cI, 30, .inl w_8m5)), (tb, .inl (cI, 6, .inl w_8m4)), (rd, .inr (5, [.int o_20, .int o_21, .ref x, .int r3, .int o_22, .int r5, .int r6])), (x, .inl (cI, 240, .inl ftx))] H := hP
          have hD : va_D A [(t, .inr (8, [.int t0, .int t1, .int w_8m3, .int t3, .int t4, .ref ta, .ref tb, .ref tc, .ref td, .ref te])), (tc, .inl (cI, 30, .inl w_8m5)), (tb, .inl (cI, 6, .inl w_8m4)), (rd, .inr (5, [.int o_20, .int o_21, .ref x, .int r3, .int o_22, .int r5, .int r6])), (x, .inl (cI, 240, .inl ftx))] := hD
          refine lv_aload_n hx hb dX5_readCouple_40 rfl (lv_at hl 3 rfl) ?_
          refine va_get (D := D) (ci := 8) (v := .ref tc) (C := RX8) (T := TX8) (N := 10) hx hb hts iX8 hown hK hP 0 rfl rfl 7 (by decide) (hts _ wd_219) (fun _ h9 => h9) rfl dX5_readCouple_41 ?_
          refine lv_iload_n hx hb dX5_readCouple_44 rfl (lv_at hl 1 rfl) ?_
          refine lv_iconst (v := 5) hx hb dX5_readCouple_45 (by decide) ?_
          refine lv_imul hx hb dX5_readCouple_46 ?_
          refine lv_iload_n hx hb dX5_readCouple_47 rfl (lv_at hl 0 rfl) ?_
          refine lv_iadd hx hb dX5_readCouple_48 ?_
          refine lv_aload_n hx hb dX5_readCouple_49 rfl (lv_at hl 2 rfl) ?_
          refine lv_iconst (v := 0) hx hb dX5_readCouple_50 (by decide) ?_
          refine lv_bipush (v := 9) hx hb dX5_readCouple_51 (by decide) ?_
          refine cVi (wr := [(t, .inr (8, [.int t0, .int t1, .int w_8m3, .int t3, .int t4, .ref ta, .ref tb, .ref tc, .ref td, .ref te])), (tc, .inl (cI, 30, .inl w_8m5)), (tb, .inl (cI, 6, .inl w_8m4))]) (rest := [.int ((t2 * 5) + w_8l3), .ref tc]) (e_number_x5 rd x o_20 o_21 r3 o_22 r5 r6 ftx 0 9) okV_X5_number wd_213 hx hb hml hown hts hK hP hD hS hA hN hl.1 [3, 4] [0, 1, 2] rfl rfl rfl rfl (by decide) rfl rfl rfl (Nat.le_of_ble_eq_true rfl) (Nat.le_of_ble_eq_true rfl) (Nat.le_of_ble_eq_true rfl) (Nat.le_of_ble_eq_true rfl) (Nat.le_of_ble_eq_true rfl) dX5_readCouple_53 (fun r_24 u_23 H locs hw_u_23 hP hD hS => ?_)
          obtain ⟨o_25, o_26, o_27⟩ := u_23
          replace hw_u_23 : (r_24, o_25, o_26, o_27) = (f_e_number_x5 o_20 o_21 r3 o_22 r5 r6 ftx 0 9) := hw_u_23
          rw [← hw_u_23] at hE
          replace hE : (match (f_e_readCouple_x5_22 r0 r1 r3 r4 r5 r6 ftx t0 t1 t2 t3 t4 ftb ftc n_w_8 (w_8l3 + 1) o_25 o_26 o_27 w_8m3 w_8m4 (putF 30 w_8m5 ((t2 * 5) + w_8l3) r_24)) with | (w_8l3, w_8m0, w_8m1, w_8m2, w_8m3, w_8m4, w_8m5) => (w_8m0, w_8m1, w_8m2, (t2 + 1), w_8m4, w_8m5)) = RES := hE
          have hP : va_P D classes [(t, .inr (8, [.int t0, .int t1, .int w_8m3, .int t3, .int t4, .ref ta, .ref tb, .ref tc, .ref td, .ref te])), (tc, .inl (cI, 30, .inl w_8m5)), (tb, .inl (cI, 6, .inl w_8m4)), (rd, .inr (5, [.int o_25, .int o_26, .ref x, .int r3, .int o_27, .int r5, .int r6])), (x, .inl (cI, 240, .inl ftx))] H := hP
          have hD : va_D A [(t, .inr (8, [.int t0, .int t1, .int w_8m3, .int t3, .int t4, .ref ta, .ref tb, .ref tc, .ref td, .ref te])), (tc, .inl (cI, 30, .inl w_8m5)), (tb, .inl (cI, 6, .inl w_8m4)), (rd, .inr (5, [.int o_25, .int o_26, .ref x, .int r3, .int o_27, .int r5, .int r6])), (x, .inl (cI, 240, .inl ftx))] := hD
          refine cNv (wr := [(t, .inr (8, [.int t0, .int t1, .int w_8m3, .int t3, .int t4, .ref ta, .ref tb, .ref tc, .ref td, .ref te])), (tb, .inl (cI, 6, .inl w_8m4)), (rd, .inr (5, [.int o_25, .int o_26, .ref x, .int r3, .int o_27, .int r5, .int r6])), (x, .inl (cI, 240, .inl ftx))]) (rest := []) (k_put tc 30 w_8m5 ((t2 * 5) + w_8l3) r_24 (by decide)) okS_X9_put 15 rfl hx hb hml hown hts hK hP hD hS hA hN hl.1 [1] [0, 2, 3, 4] rfl rfl rfl rfl (by decide) rfl (Nat.le_of_ble_eq_true rfl) (Nat.le_of_ble_eq_true rfl) (Nat.le_of_ble_eq_true rfl) (Nat.le_of_ble_eq_true rfl) (Nat.le_of_ble_eq_true rfl) dX5_readCouple_56 (fun u_28 H locs hw_u_28 hP hD hS => ?_)
          have hP : va_P D classes [(t, .inr (8, [.int t0, .int t1, .int w_8m3, .int t3, .int t4, .ref ta, .ref tb, .ref tc, .ref td, .ref te])), (tb, .inl (cI, 6, .inl w_8m4)), (rd, .inr (5, [.int o_25, .int o_26, .ref x, .int r3, .int o_27, .int r5, .int r6])), (x, .inl (cI, 240, .inl ftx)), (tc, .inl (cI, 30, .inl (putF 30 w_8m5 ((t2 * 5) + w_8l3) r_24)))] H := hP
          have hD : va_D A [(t, .inr (8, [.int t0, .int t1, .int w_8m3, .int t3, .int t4, .ref ta, .ref tb, .ref tc, .ref td, .ref te])), (tb, .inl (cI, 6, .inl w_8m4)), (rd, .inr (5, [.int o_25, .int o_26, .ref x, .int r3, .int o_27, .int r5, .int r6])), (x, .inl (cI, 240, .inl ftx)), (tc, .inl (cI, 30, .inl (putF 30 w_8m5 ((t2 * 5) + w_8l3) r_24)))] := hD
          refine lv_iinc (v := (w_8l3 + 1)) (lv' := [(3, .int (w_8l3 + 1)), (2, .int t2), (0, .ref rd), (1, .ref t)]) hx hb dX5_readCouple_59 hl (k := 0) rfl rfl (by decide) rfl (fun ls hl => ?_)
          refine lv_goto (tgt := 22) hx hb dX5_readCouple_62 (by decide) ?_
          exact ih_w_8 (w_8l3 + 1) o_25 o_26 o_27 w_8m3 w_8m4 (putF 30 w_8m5 ((t2 * 5) + w_8l3) r_24) _ _ ls (cutP (isC := [0, 4, 2, 3, 1]) hP rfl) (cutD (isC := [0, 4, 2, 3, 1]) hD rfl rfl) hS (lv_sub hl [0, 1, 2, 3] rfl) (up_step c_9 hm) hE
  exact lp_22_w_8 (((t1 : Int32).toInt - (0 : Int32).toInt).toNat + 1) 0 o_3 o_4 o_5 t2 (putF 6 ftb t2 r_2) ftc _ _ ls hP hD hS hl (Nat.lt_succ_self _) hE
noncomputable def f_e_readBarge_x5 (r0 : Int32) (r1 : Int32) (r3 : Int32) (r4 : Int32) (r5 : Int32) (r6 : Int32) (ftx : Nat → Int32) (t0 : Int32) (t1 : Int32) (t2 : Int32) (t3 : Int32) (t4 : Int32) (ftd : Nat → Int32) (fte : Nat → Int32) : Int32 × Int32 × Int32 × Int32 × (Nat → Int32) × (Nat → Int32) := (match (f_e_number_x5 r0 r1 r3 r4 r5 r6 ftx 0 (t0 - 1)) with | (r_2, o_3, o_4, o_5) => (match (f_e_number_x5 o_3 o_4 r3 o_5 r5 r6 ftx 1 300) with | (r_9, o_10, o_11, o_12) => (o_10, o_11, o_12, (t3 + 1), (putF 7 ftd t3 r_2), (putF 7 fte t3 r_9))))
def rm_e_readBarge_x5 : Room := { frames := 3, cells := 0, slots := 0, locals := 66 }
set_option maxHeartbeats 4000000 in
set_option maxRecDepth 100000 in
theorem e_readBarge_x5 {l : Launch} {D : va_G} {cI cZ : ClassId} {sz : Nat} (rd x t ta tb tc td te : Nat) (r0 : Int32) (r1 : Int32) (r3 : Int32) (r4 : Int32) (r5 : Int32) (r6 : Int32) (ftx : Nat → Int32) (t0 : Int32) (t1 : Int32) (t2 : Int32) (t3 : Int32) (t4 : Int32) (ftd : Nat → Int32) (fte : Nat → Int32) : KV l yX5_readBarge cX5_readBarge 3 rm_e_readBarge_x5 D cI cZ [.ref rd, .ref t] sz [(rd, .inr (5, [.int r0, .int r1, .ref x, .int r3, .int r4, .int r5, .int r6])), (x, .inl (cI, 240, .inl ftx)), (t, .inr (8, [.int t0, .int t1, .int t2, .int t3, .int t4, .ref ta, .ref tb, .ref tc, .ref td, .ref te])), (td, .inl (cI, 7, .inl ftd)), (te, .inl (cI, 7, .inl fte))] (fun (u : Int32 × Int32 × Int32 × Int32 × (Nat → Int32) × (Nat → Int32)) => u = f_e_readBarge_x5 r0 r1 r3 r4 r5 r6 ftx t0 t1 t2 t3 t4 ftd fte) (fun (u : Int32 × Int32 × Int32 × Int32 × (Nat → Int32) × (Nat → Int32)) => [(rd, .inr (5, [.int (u.1), .int (u.2.1), .ref x, .int r3, .int (u.2.2.1), .int r5, .int r6])), (x, .inl (cI, 240, .inl ftx)), (t, .inr (8, [.int t0, .int t1, .int t2, .int (u.2.2.2.1), .int t4, .ref ta, .ref tb, .ref tc, .ref td, .ref te])), (td, .inl (cI, 7, .inl u.2.2.2.2.1)), (te, .inl (cI, 7, .inl u.2.2.2.2.2))]) := by
  refine KV.go rfl (Nat.le_of_ble_eq_true rfl) ?_
  intro p e s m args below meth c ls A Q hx hb hml hts hown hin hP hK hD hS hA hN hl hret
  have hl : lv_has ls 3 [(0, .ref rd), (1, .ref t)] := hl
  obtain ⟨RES, hE⟩ : ∃ xRES, f_e_readBarge_x5 r0 r1 r3 r4 r5 r6 ftx t0 t1 t2 t3 t4 ftd fte = xRES := ⟨_, rfl⟩
  rw [hE] at hret
  rw [f_e_readBarge_x5] at hE
  refine lv_aload_n hx hb dX5_readBarge_0 rfl (lv_at hl 1 rfl) ?_
  refine va_get (D := D) (ci := 8) (v := .int t3) (C := RX8) (T := TX8) (N := 10) hx hb hts iX8 hown hK hP 2 rfl rfl 3 (by decide) (hts _ wd_211) (fun _ h9 => h9) rfl dX5_readBarge_1 ?_
  refine lv_istore_n (lv' := [(2, .int t3), (0, .ref rd), (1, .ref t)]) hx hb dX5_readBarge_4 rfl hl (by decide) rfl (fun ls hl => ?_)
  refine lv_aload_n hx hb dX5_readBarge_5 rfl (lv_at hl 2 rfl) ?_
  refine va_get (D := D) (ci := 8) (v := .ref td) (C := RX8) (T := TX8) (N := 10) hx hb hts iX8 hown hK hP 2 rfl rfl 8 (by decide) (hts _ wd_224) (fun _ h9 => h9) rfl dX5_readBarge_6 ?_
  refine lv_iload_n hx hb dX5_readBarge_9 rfl (lv_at hl 0 rfl) ?_
  refine lv_aload_n hx hb dX5_readBarge_10 rfl (lv_at hl 1 rfl) ?_
  refine lv_iconst (v := 0) hx hb dX5_readBarge_11 (by decide) ?_
  refine lv_aload_n hx hb dX5_readBarge_12 rfl (lv_at hl 2 rfl) ?_
  refine va_get (D := D) (ci := 8) (v := .int t0) (C := RX8) (T := TX8) (N := 10) hx hb hts iX8 hown hK hP 2 rfl rfl 0 (by decide) (hts _ wd_209) (fun _ h9 => h9) rfl dX5_readBarge_13 ?_
  refine lv_iconst (v := 1) hx hb dX5_readBarge_16 (by decide) ?_
  refine lv_isub hx hb dX5_readBarge_17 ?_
  refine cVi (wr := [(t, .inr (8, [.int t0, .int t1, .int t2, .int t3, .int t4, .ref ta, .ref tb, .ref tc, .ref td, .ref te])), (td, .inl (cI, 7, .inl ftd)), (te, .inl (cI, 7, .inl fte))]) (rest := [.int t3, .ref td]) (e_number_x5 rd x r0 r1 r3 r4 r5 r6 ftx 0 (t0 - 1)) okV_X5_number wd_213 hx hb hml hown hts hK hP hD hS hA hN hl.1 [0, 1] [2, 3, 4] rfl rfl rfl rfl (by decide) rfl rfl rfl (Nat.le_of_ble_eq_true rfl) (Nat.le_of_ble_eq_true rfl) (Nat.le_of_ble_eq_true rfl) (Nat.le_of_ble_eq_true rfl) (Nat.le_of_ble_eq_true rfl) dX5_readBarge_18 (fun r_2 u_1 H locs hw_u_1 hP hD hS => ?_)
  obtain ⟨o_3, o_4, o_5⟩ := u_1
  replace hw_u_1 : (r_2, o_3, o_4, o_5) = (f_e_number_x5 r0 r1 r3 r4 r5 r6 ftx 0 (t0 - 1)) := hw_u_1
  rw [← hw_u_1] at hE
  replace hE : (match (f_e_number_x5 o_3 o_4 r3 o_5 r5 r6 ftx 1 300) with | (r_9, o_10, o_11, o_12) => (o_10, o_11, o_12, (t3 + 1), (putF 7 ftd t3 r_2), (putF 7 fte t3 r_9))) = RES := hE
  have hP : va_P D classes [(t, .inr (8, [.int t0, .int t1, .int t2, .int t3, .int t4, .ref ta, .ref tb, .ref tc, .ref td, .ref te])), (td, .inl (cI, 7, .inl ftd)), (te, .inl (cI, 7, .inl fte)), (rd, .inr (5, [.int o_3, .int o_4, .ref x, .int r3, .int o_5, .int r5, .int r6])), (x, .inl (cI, 240, .inl ftx))] H := hP
  have hD : va_D A [(t, .inr (8, [.int t0, .int t1, .int t2, .int t3, .int t4, .ref ta, .ref tb, .ref tc, .ref td, .ref te])), (td, .inl (cI, 7, .inl ftd)), (te, .inl (cI, 7, .inl fte)), (rd, .inr (5, [.int o_3, .int o_4, .ref x, .int r3, .int o_5, .int r5, .int r6])), (x, .inl (cI, 240, .inl ftx))] := hD
  refine cNv (wr := [(t, .inr (8, [.int t0, .int t1, .int t2, .int t3, .int t4, .ref ta, .ref tb, .ref tc, .ref td, .ref te])), (te, .inl (cI, 7, .inl fte)), (rd, .inr (5, [.int o_3, .int o_4, .ref x, .int r3, .int o_5, .int r5, .int r6])), (x, .inl (cI, 240, .inl ftx))]) (rest := []) (k_put td 7 ftd t3 r_2 (by decide)) okS_X9_put 15 rfl hx hb hml hown hts hK hP hD hS hA hN hl.1 [1] [0, 2, 3, 4] rfl rfl rfl rfl (by decide) rfl (Nat.le_of_ble_eq_true rfl) (Nat.le_of_ble_eq_true rfl) (Nat.le_of_ble_eq_true rfl) (Nat.le_of_ble_eq_true rfl) (Nat.le_of_ble_eq_true rfl) dX5_readBarge_21 (fun u_6 H locs hw_u_6 hP hD hS => ?_)
  have hP : va_P D classes [(t, .inr (8, [.int t0, .int t1, .int t2, .int t3, .int t4, .ref ta, .ref tb, .ref tc, .ref td, .ref te])), (te, .inl (cI, 7, .inl fte)), (rd, .inr (5, [.int o_3, .int o_4, .ref x, .int r3, .int o_5, .int r5, .int r6])), (x, .inl (cI, 240, .inl ftx)), (td, .inl (cI, 7, .inl (putF 7 ftd t3 r_2)))] H := hP
  have hD : va_D A [(t, .inr (8, [.int t0, .int t1, .int t2, .int t3, .int t4, .ref ta, .ref tb, .ref tc, .ref td, .ref te])), (te, .inl (cI, 7, .inl fte)), (rd, .inr (5, [.int o_3, .int o_4, .ref x, .int r3, .int o_5, .int r5, .int r6])), (x, .inl (cI, 240, .inl ftx)), (td, .inl (cI, 7, .inl (putF 7 ftd t3 r_2)))] := hD
  refine lv_aload_n hx hb dX5_readBarge_24 rfl (lv_at hl 2 rfl) ?_
  refine va_get (D := D) (ci := 8) (v := .ref te) (C := RX8) (T := TX8) (N := 10) hx hb hts iX8 hown hK hP 0 rfl rfl 9 (by decide) (hts _ wd_225) (fun _ h9 => h9) rfl dX5_readBarge_25 ?_
  refine lv_iload_n hx hb dX5_readBarge_28 rfl (lv_at hl 0 rfl) ?_
  refine lv_aload_n hx hb dX5_readBarge_29 rfl (lv_at hl 1 rfl) ?_
  refine lv_iconst (v := 1) hx hb dX5_readBarge_30 (by decide) ?_
  refine lv_sipush (v := 300) hx hb dX5_readBarge_31 (by decide) ?_
  refine cVi (wr := [(t, .inr (8, [.int t0, .int t1, .int t2, .int t3, .int t4, .ref ta, .ref tb, .ref tc, .ref td, .ref te])), (te, .inl (cI, 7, .inl fte)), (td, .inl (cI, 7, .inl (putF 7 ftd t3 r_2)))]) (rest := [.int t3, .ref te]) (e_number_x5 rd x o_3 o_4 r3 o_5 r5 r6 ftx 1 300) okV_X5_number wd_213 hx hb hml hown hts hK hP hD hS hA hN hl.1 [2, 3] [0, 1, 4] rfl rfl rfl rfl (by decide) rfl rfl rfl (Nat.le_of_ble_eq_true rfl) (Nat.le_of_ble_eq_true rfl) (Nat.le_of_ble_eq_true rfl) (Nat.le_of_ble_eq_true rfl) (Nat.le_of_ble_eq_true rfl) dX5_readBarge_34 (fun r_9 u_8 H locs hw_u_8 hP hD hS => ?_)
  obtain ⟨o_10, o_11, o_12⟩ := u_8
  replace hw_u_8 : (r_9, o_10, o_11, o_12) = (f_e_number_x5 o_3 o_4 r3 o_5 r5 r6 ftx 1 300) := hw_u_8
  rw [← hw_u_8] at hE
  replace hE : (o_10, o_11, o_12, (t3 + 1), (putF 7 ftd t3 r_2), (putF 7 fte t3 r_9)) = RES := hE
  have hP : va_P D classes [(t, .inr (8, [.int t0, .int t1, .int t2, .int t3, .int t4, .ref ta, .ref tb, .ref tc, .ref td, .ref te])), (te, .inl (cI, 7, .inl fte)), (td, .inl (cI, 7, .inl (putF 7 ftd t3 r_2))), (rd, .inr (5, [.int o_10, .int o_11, .ref x, .int r3, .int o_12, .int r5, .int r6])), (x, .inl (cI, 240, .inl ftx))] H := hP
  have hD : va_D A [(t, .inr (8, [.int t0, .int t1, .int t2, .int t3, .int t4, .ref ta, .ref tb, .ref tc, .ref td, .ref te])), (te, .inl (cI, 7, .inl fte)), (td, .inl (cI, 7, .inl (putF 7 ftd t3 r_2))), (rd, .inr (5, [.int o_10, .int o_11, .ref x, .int r3, .int o_12, .int r5, .int r6])), (x, .inl (cI, 240, .inl ftx))] := hD
  refine cNv (wr := [(t, .inr (8, [.int t0, .int t1, .int t2, .int t3, .int t4, .ref ta, .ref tb, .ref tc, .ref td, .ref te])), (td, .inl (cI, 7, .inl (putF 7 ftd t3 r_2))), (rd, .inr (5, [.int o_10, .int o_11, .ref x, .int r3, .int o_12, .int r5, .int r6])), (x, .inl (cI, 240, .inl ftx))]) (rest := []) (k_put te 7 fte t3 r_9 (by decide)) okS_X9_put 15 rfl hx hb hml hown hts hK hP hD hS hA hN hl.1 [1] [0, 2, 3, 4] rfl rfl rfl rfl (by decide) rfl (Nat.le_of_ble_eq_true rfl) (Nat.le_of_ble_eq_true rfl) (Nat.le_of_ble_eq_true rfl) (Nat.le_of_ble_eq_true rfl) (Nat.le_of_ble_eq_true rfl) dX5_readBarge_37 (fun u_13 H locs hw_u_13 hP hD hS => ?_)
  have hP : va_P D classes [(t, .inr (8, [.int t0, .int t1, .int t2, .int t3, .int t4, .ref ta, .ref tb, .ref tc, .ref td, .ref te])), (td, .inl (cI, 7, .inl (putF 7 ftd t3 r_2))), (rd, .inr (5, [.int o_10, .int o_11, .ref x, .int r3, .int o_12, .int r5, .int r6])), (x, .inl (cI, 240, .inl ftx)), (te, .inl (cI, 7, .inl (putF 7 fte t3 r_9)))] H := hP
  have hD : va_D A [(t, .inr (8, [.int t0, .int t1, .int t2, .int t3, .int t4, .ref ta, .ref tb, .ref tc, .ref td, .ref te])), (td, .inl (cI, 7, .inl (putF 7 ftd t3 r_2))), (rd, .inr (5, [.int o_10, .int o_11, .ref x, .int r3, .int o_12, .int r5, .int r6])), (x, .inl (cI, 240, .inl ftx)), (te, .inl (cI, 7, .inl (putF 7 fte t3 r_9)))] := hD
  refine lv_aload_n hx hb dX5_readBarge_40 rfl (lv_at hl 2 rfl) ?_
  refine lv_iload_n hx hb dX5_readBarge_41 rfl (lv_at hl 0 rfl) ?_
  refine lv_iconst (v := 1) hx hb dX5_readBarge_42 (by decide) ?_
  refine lv_iadd hx hb dX5_readBarge_43 ?_
  refine va_put (D := D) (ci := 8) (v := .int (t3 + 1)) (ty := .int) (C := RX8) (T := TX8) (N := 10) hx hb hts iX8 tyX8 tyX8_ok nmX8 hown hK hP hD hS 0 rfl rfl 3 (by decide) (hts _ wd_211) (fun _ h9 => h9) rfl (by decide +kernel) rfl rfl (Nat.le_of_ble_eq_true rfl) dX5_readBarge_44 (fun H locs hP hD hS => ?_)
  have hP : va_P D classes [(t, .inr (8, [.int t0, .int t1, .int t2, .int (t3 + 1), .int t4, .ref ta, .ref tb, .ref tc, .ref td, .ref te])), (td, .inl (cI, 7, .inl (putF 7 ftd t3 r_2))), (rd, .inr (5, [.int o_10, .int o_11, .ref x, .int r3, .int o_12, .int r5, .int r6])), (x, .inl (cI, 240, .inl ftx)), (te, .inl (cI, 7, .inl (putF 7 fte t3 r_9)))] H := hP
  have hD : va_D A [(t, .inr (8, [.int t0, .int t1, .int t2, .int (t3 + 1), .int t4, .ref ta, .ref tb, .ref tc, .ref td, .ref te])), (td, .inl (cI, 7, .inl (putF 7 ftd t3 r_2))), (rd, .inr (5, [.int o_10, .int o_11, .ref x, .int r3, .int o_12, .int r5, .int r6])), (x, .inl (cI, 240, .inl ftx)), (te, .inl (cI, 7, .inl (putF 7 fte t3 r_9)))] := hD
  exact hret (o_10, o_11, o_12, (t3 + 1), (putF 7 ftd t3 r_2), (putF 7 fte t3 r_9)) _ _ _ _ dX5_readBarge_47 hE (cutP (isC := [2, 3, 0, 1, 4]) hP rfl) (cutD (isC := [2, 3, 0, 1, 4]) hD rfl rfl) hS
