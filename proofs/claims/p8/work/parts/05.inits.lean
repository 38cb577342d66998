theorem dX8_init_0 : decode cX8_init 0 = .ok (.aload_n 0, 1) := by decide +kernel
theorem dX8_init_1 : decode cX8_init 1 = .ok (.invokespecial 3, 3) := by decide +kernel
theorem wd_0 : Cond.methodLink RX8 3 objectInit ∈ BG := BG_in (by decide +kernel) rfl
theorem wd_1 : Cond.instanceMethod objectInit ∈ BG := BG_in (by decide +kernel) rfl
theorem wd_2 : Cond.code objectInit ⟨#[0xb1]⟩ 1 none ∈ BG := BG_in (by decide +kernel) rfl
theorem dX8_init_4 : decode cX8_init 4 = .ok (.aload_n 0, 1) := by decide +kernel
theorem dX8_init_5 : decode cX8_init 5 = .ok (.iconst 0, 1) := by decide +kernel
theorem iX8_t : ∀ w ∈ wsX80, w ∈ lw_tbl ∧ goodWord w = true := by decide +kernel
theorem iX8 : ∀ w ∈ wsX80, w ∈ BG := fun w h => BG_in (iX8_t w h).1 (iX8_t w h).2
theorem wd_3 : Cond.fieldLink RX8 9 "QuarrelBridges$Town" "bridges" "I" ∈ BG := BG_at 61 (by decide +kernel) rfl
theorem dX8_init_6 : decode cX8_init 6 = .ok (.putfield 9, 3) := by decide +kernel
theorem dX8_init_9 : decode cX8_init 9 = .ok (.aload_n 0, 1) := by decide +kernel
theorem dX8_init_10 : decode cX8_init 10 = .ok (.iconst 1, 1) := by decide +kernel
theorem wd_4 : Cond.fieldLink RX8 15 "QuarrelBridges$Town" "themes" "I" ∈ BG := BG_at 65 (by decide +kernel) rfl
theorem dX8_init_11 : decode cX8_init 11 = .ok (.putfield 15, 3) := by decide +kernel
theorem dX8_init_14 : decode cX8_init 14 = .ok (.aload_n 0, 1) := by decide +kernel
theorem dX8_init_15 : decode cX8_init 15 = .ok (.iconst 0, 1) := by decide +kernel
theorem wd_5 : Cond.fieldLink RX8 18 "QuarrelBridges$Town" "couples" "I" ∈ BG := BG_at 68 (by decide +kernel) rfl
theorem dX8_init_16 : decode cX8_init 16 = .ok (.putfield 18, 3) := by decide +kernel
theorem dX8_init_19 : decode cX8_init 19 = .ok (.aload_n 0, 1) := by decide +kernel
theorem dX8_init_20 : decode cX8_init 20 = .ok (.iconst 0, 1) := by decide +kernel
theorem wd_6 : Cond.fieldLink RX8 21 "QuarrelBridges$Town" "barges" "I" ∈ BG := BG_at 72 (by decide +kernel) rfl
theorem dX8_init_21 : decode cX8_init 21 = .ok (.putfield 21, 3) := by decide +kernel
theorem dX8_init_24 : decode cX8_init 24 = .ok (.aload_n 0, 1) := by decide +kernel
theorem dX8_init_25 : decode cX8_init 25 = .ok (.iconst 0, 1) := by decide +kernel
theorem wd_7 : Cond.fieldLink RX8 24 "QuarrelBridges$Town" "snow" "I" ∈ BG := BG_at 76 (by decide +kernel) rfl
theorem dX8_init_26 : decode cX8_init 26 = .ok (.putfield 24, 3) := by decide +kernel
theorem dX8_init_29 : decode cX8_init 29 = .ok (.aload_n 0, 1) := by decide +kernel
theorem dX8_init_30 : decode cX8_init 30 = .ok (.bipush 6, 2) := by decide +kernel
theorem wd_8 : Cond.arrayClass .int ∈ BG := BG_in (by decide +kernel) rfl
theorem dX8_init_32 : decode cX8_init 32 = .ok (.newarray .int, 2) := by decide +kernel
theorem wd_9 : Cond.fieldLink RX8 27 "QuarrelBridges$Town" "needs" "[I" ∈ BG := BG_at 79 (by decide +kernel) rfl
theorem dX8_init_34 : decode cX8_init 34 = .ok (.putfield 27, 3) := by decide +kernel
theorem dX8_init_37 : decode cX8_init 37 = .ok (.aload_n 0, 1) := by decide +kernel
theorem dX8_init_38 : decode cX8_init 38 = .ok (.bipush 6, 2) := by decide +kernel
theorem dX8_init_40 : decode cX8_init 40 = .ok (.newarray .int, 2) := by decide +kernel
theorem wd_10 : Cond.fieldLink RX8 31 "QuarrelBridges$Town" "grievances" "[I" ∈ BG := BG_at 82 (by decide +kernel) rfl
theorem dX8_init_42 : decode cX8_init 42 = .ok (.putfield 31, 3) := by decide +kernel
theorem dX8_init_45 : decode cX8_init 45 = .ok (.aload_n 0, 1) := by decide +kernel
theorem dX8_init_46 : decode cX8_init 46 = .ok (.bipush 30, 2) := by decide +kernel
theorem dX8_init_48 : decode cX8_init 48 = .ok (.newarray .int, 2) := by decide +kernel
theorem wd_11 : Cond.fieldLink RX8 34 "QuarrelBridges$Town" "forces" "[I" ∈ BG := BG_at 86 (by decide +kernel) rfl
theorem dX8_init_50 : decode cX8_init 50 = .ok (.putfield 34, 3) := by decide +kernel
theorem dX8_init_53 : decode cX8_init 53 = .ok (.aload_n 0, 1) := by decide +kernel
theorem dX8_init_54 : decode cX8_init 54 = .ok (.bipush 7, 2) := by decide +kernel
theorem dX8_init_56 : decode cX8_init 56 = .ok (.newarray .int, 2) := by decide +kernel
theorem wd_12 : Cond.fieldLink RX8 37 "QuarrelBridges$Town" "upTo" "[I" ∈ BG := BG_at 88 (by decide +kernel) rfl
theorem dX8_init_58 : decode cX8_init 58 = .ok (.putfield 37, 3) := by decide +kernel
theorem dX8_init_61 : decode cX8_init 61 = .ok (.aload_n 0, 1) := by decide +kernel
theorem dX8_init_62 : decode cX8_init 62 = .ok (.bipush 7, 2) := by decide +kernel
theorem dX8_init_64 : decode cX8_init 64 = .ok (.newarray .int, 2) := by decide +kernel
theorem wd_13 : Cond.fieldLink RX8 40 "QuarrelBridges$Town" "tides" "[I" ∈ BG := BG_at 92 (by decide +kernel) rfl
theorem dX8_init_66 : decode cX8_init 66 = .ok (.putfield 40, 3) := by decide +kernel
theorem dX8_init_69 : decode cX8_init 69 = .ok (.return_, 1) := by decide +kernel
theorem dX7_init_0 : decode cX7_init 0 = .ok (.aload_n 0, 1) := by decide +kernel
theorem dX7_init_1 : decode cX7_init 1 = .ok (.invokespecial 5, 3) := by decide +kernel
theorem wd_14 : Cond.methodLink RX7 5 objectInit ∈ BG := BG_in (by decide +kernel) rfl
theorem dX7_init_4 : decode cX7_init 4 = .ok (.aload_n 0, 1) := by decide +kernel
theorem dX7_init_5 : decode cX7_init 5 = .ok (.bipush 41, 2) := by decide +kernel
theorem dX7_init_7 : decode cX7_init 7 = .ok (.newarray .int, 2) := by decide +kernel
theorem iX7_t : ∀ w ∈ wsX70, w ∈ lw_tbl ∧ goodWord w = true := by decide +kernel
theorem iX7 : ∀ w ∈ wsX70, w ∈ BG := fun w h => BG_in (iX7_t w h).1 (iX7_t w h).2
theorem wd_15 : Cond.fieldLink RX7 11 "QuarrelBridges$State" "cells" "[I" ∈ BG := BG_at 123 (by decide +kernel) rfl
theorem dX7_init_9 : decode cX7_init 9 = .ok (.putfield 11, 3) := by decide +kernel
theorem dX7_init_12 : decode cX7_init 12 = .ok (.return_, 1) := by decide +kernel
theorem dX0_init_0 : decode cX0_init 0 = .ok (.aload_n 0, 1) := by decide +kernel
theorem dX0_init_1 : decode cX0_init 1 = .ok (.invokespecial 3, 3) := by decide +kernel
theorem wd_16 : Cond.methodLink RX0 3 objectInit ∈ BG := BG_in (by decide +kernel) rfl
theorem dX0_init_4 : decode cX0_init 4 = .ok (.aload_n 0, 1) := by decide +kernel
theorem dX0_init_5 : decode cX0_init 5 = .ok (.iconst 0, 1) := by decide +kernel
theorem iX0_t : ∀ w ∈ wsX00, w ∈ lw_tbl ∧ goodWord w = true := by decide +kernel
theorem iX0 : ∀ w ∈ wsX00, w ∈ BG := fun w h => BG_in (iX0_t w h).1 (iX0_t w h).2
theorem wd_17 : Cond.fieldLink RX0 9 "QuarrelBridges$Book" "entries" "I" ∈ BG := BG_at 169 (by decide +kernel) rfl
theorem dX0_init_6 : decode cX0_init 6 = .ok (.putfield 9, 3) := by decide +kernel
theorem dX0_init_9 : decode cX0_init 9 = .ok (.aload_n 0, 1) := by decide +kernel
theorem dX0_init_10 : decode cX0_init 10 = .ok (.bipush 15, 2) := by decide +kernel
theorem dX0_init_12 : decode cX0_init 12 = .ok (.newarray .int, 2) := by decide +kernel
theorem wd_18 : Cond.fieldLink RX0 15 "QuarrelBridges$Book" "couples" "[I" ∈ BG := BG_at 171 (by decide +kernel) rfl
theorem dX0_init_14 : decode cX0_init 14 = .ok (.putfield 15, 3) := by decide +kernel
theorem dX0_init_17 : decode cX0_init 17 = .ok (.aload_n 0, 1) := by decide +kernel
theorem dX0_init_18 : decode cX0_init 18 = .ok (.bipush 15, 2) := by decide +kernel
theorem dX0_init_20 : decode cX0_init 20 = .ok (.newarray .int, 2) := by decide +kernel
theorem wd_19 : Cond.fieldLink RX0 19 "QuarrelBridges$Book" "grievances" "[I" ∈ BG := BG_at 172 (by decide +kernel) rfl
theorem dX0_init_22 : decode cX0_init 22 = .ok (.putfield 19, 3) := by decide +kernel
theorem dX0_init_25 : decode cX0_init 25 = .ok (.return_, 1) := by decide +kernel
theorem dX4_init_0 : decode cX4_init 0 = .ok (.aload_n 0, 1) := by decide +kernel
theorem dX4_init_1 : decode cX4_init 1 = .ok (.invokespecial 1, 3) := by decide +kernel
theorem wd_20 : Cond.methodLink RX4 1 objectInit ∈ BG := BG_in (by decide +kernel) rfl
theorem dX4_init_4 : decode cX4_init 4 = .ok (.aload_n 0, 1) := by decide +kernel
theorem dX4_init_5 : decode cX4_init 5 = .ok (.iconst 0, 1) := by decide +kernel
theorem iX4_t : ∀ w ∈ wsX40, w ∈ lw_tbl ∧ goodWord w = true := by decide +kernel
theorem iX4 : ∀ w ∈ wsX40, w ∈ BG := fun w h => BG_in (iX4_t w h).1 (iX4_t w h).2
theorem wd_21 : Cond.fieldLink RX4 7 "QuarrelBridges$Quarrel" "minutes" "I" ∈ BG := BG_at 186 (by decide +kernel) rfl
theorem dX4_init_6 : decode cX4_init 6 = .ok (.putfield 7, 3) := by decide +kernel
theorem dX4_init_9 : decode cX4_init 9 = .ok (.aload_n 0, 1) := by decide +kernel
theorem dX4_init_10 : decode cX4_init 10 = .ok (.iconst 0, 1) := by decide +kernel
theorem wd_22 : Cond.fieldLink RX4 13 "QuarrelBridges$Quarrel" "cost" "I" ∈ BG := BG_at 188 (by decide +kernel) rfl
theorem dX4_init_11 : decode cX4_init 11 = .ok (.putfield 13, 3) := by decide +kernel
theorem dX4_init_14 : decode cX4_init 14 = .ok (.aload_n 0, 1) := by decide +kernel
theorem dX4_init_15 : decode cX4_init 15 = .ok (.iconst 0, 1) := by decide +kernel
theorem wd_23 : Cond.fieldLink RX4 16 "QuarrelBridges$Quarrel" "left" "I" ∈ BG := BG_at 190 (by decide +kernel) rfl
theorem dX4_init_16 : decode cX4_init 16 = .ok (.putfield 16, 3) := by decide +kernel
theorem dX4_init_19 : decode cX4_init 19 = .ok (.aload_n 0, 1) := by decide +kernel
theorem dX4_init_20 : decode cX4_init 20 = .ok (.iconst 0, 1) := by decide +kernel
theorem wd_24 : Cond.fieldLink RX4 19 "QuarrelBridges$Quarrel" "opened" "Z" ∈ BG := BG_at 192 (by decide +kernel) rfl
theorem dX4_init_21 : decode cX4_init 21 = .ok (.putfield 19, 3) := by decide +kernel
theorem dX4_init_24 : decode cX4_init 24 = .ok (.aload_n 0, 1) := by decide +kernel
theorem dX4_init_25 : decode cX4_init 25 = .ok (.iconst 0, 1) := by decide +kernel
theorem wd_25 : Cond.fieldLink RX4 23 "QuarrelBridges$Quarrel" "reconciled" "Z" ∈ BG := BG_at 194 (by decide +kernel) rfl
theorem dX4_init_26 : decode cX4_init 26 = .ok (.putfield 23, 3) := by decide +kernel
theorem dX4_init_29 : decode cX4_init 29 = .ok (.return_, 1) := by decide +kernel
theorem dX3_init_0 : decode cX3_init 0 = .ok (.aload_n 0, 1) := by decide +kernel
theorem dX3_init_1 : decode cX3_init 1 = .ok (.invokespecial 3, 3) := by decide +kernel
theorem wd_26 : Cond.methodLink RX3 3 objectInit ∈ BG := BG_in (by decide +kernel) rfl
theorem dX3_init_4 : decode cX3_init 4 = .ok (.aload_n 0, 1) := by decide +kernel
theorem dX3_init_5 : decode cX3_init 5 = .ok (.bipush 36, 2) := by decide +kernel
theorem dX3_init_7 : decode cX3_init 7 = .ok (.newarray .int, 2) := by decide +kernel
theorem iX3_t : ∀ w ∈ wsX30, w ∈ lw_tbl ∧ goodWord w = true := by decide +kernel
theorem iX3 : ∀ w ∈ wsX30, w ∈ BG := fun w h => BG_in (iX3_t w h).1 (iX3_t w h).2
theorem wd_27 : Cond.fieldLink RX3 9 "QuarrelBridges$Pairing" "asked" "[I" ∈ BG := BG_at 213 (by decide +kernel) rfl
theorem dX3_init_9 : decode cX3_init 9 = .ok (.putfield 9, 3) := by decide +kernel
theorem dX3_init_12 : decode cX3_init 12 = .ok (.aload_n 0, 1) := by decide +kernel
theorem dX3_init_13 : decode cX3_init 13 = .ok (.bipush 64, 2) := by decide +kernel
theorem dX3_init_15 : decode cX3_init 15 = .ok (.newarray .int, 2) := by decide +kernel
theorem wd_28 : Cond.fieldLink RX3 15 "QuarrelBridges$Pairing" "least" "[I" ∈ BG := BG_at 214 (by decide +kernel) rfl
theorem dX3_init_17 : decode cX3_init 17 = .ok (.putfield 15, 3) := by decide +kernel
theorem dX3_init_20 : decode cX3_init 20 = .ok (.aload_n 0, 1) := by decide +kernel
theorem dX3_init_21 : decode cX3_init 21 = .ok (.bipush 64, 2) := by decide +kernel
theorem dX3_init_23 : decode cX3_init 23 = .ok (.newarray .int, 2) := by decide +kernel
theorem wd_29 : Cond.fieldLink RX3 18 "QuarrelBridges$Pairing" "choice" "[I" ∈ BG := BG_at 215 (by decide +kernel) rfl
theorem dX3_init_25 : decode cX3_init 25 = .ok (.putfield 18, 3) := by decide +kernel
theorem dX3_init_28 : decode cX3_init 28 = .ok (.return_, 1) := by decide +kernel
theorem dX1_init_0 : decode cX1_init 0 = .ok (.aload_n 0, 1) := by decide +kernel
theorem dX1_init_1 : decode cX1_init 1 = .ok (.invokespecial 3, 3) := by decide +kernel
theorem wd_30 : Cond.methodLink RX1 3 objectInit ∈ BG := BG_in (by decide +kernel) rfl
theorem dX1_init_4 : decode cX1_init 4 = .ok (.aload_n 0, 1) := by decide +kernel
theorem dX1_init_5 : decode cX1_init 5 = .ok (.iconst 0, 1) := by decide +kernel
theorem iX1_t : ∀ w ∈ wsX10, w ∈ lw_tbl ∧ goodWord w = true := by decide +kernel
theorem iX1 : ∀ w ∈ wsX10, w ∈ BG := fun w h => BG_in (iX1_t w h).1 (iX1_t w h).2
theorem wd_31 : Cond.fieldLink RX1 9 "QuarrelBridges$Convoy" "length" "I" ∈ BG := BG_at 229 (by decide +kernel) rfl
theorem dX1_init_6 : decode cX1_init 6 = .ok (.putfield 9, 3) := by decide +kernel
theorem dX1_init_9 : decode cX1_init 9 = .ok (.aload_n 0, 1) := by decide +kernel
theorem dX1_init_10 : decode cX1_init 10 = .ok (.bipush 7, 2) := by decide +kernel
theorem dX1_init_12 : decode cX1_init 12 = .ok (.newarray .int, 2) := by decide +kernel
theorem wd_32 : Cond.fieldLink RX1 15 "QuarrelBridges$Convoy" "row" "[I" ∈ BG := BG_at 231 (by decide +kernel) rfl
theorem dX1_init_14 : decode cX1_init 14 = .ok (.putfield 15, 3) := by decide +kernel
theorem dX1_init_17 : decode cX1_init 17 = .ok (.aload_n 0, 1) := by decide +kernel
theorem dX1_init_18 : decode cX1_init 18 = .ok (.bipush 6, 2) := by decide +kernel
theorem dX1_init_20 : decode cX1_init 20 = .ok (.newarray .int, 2) := by decide +kernel
theorem wd_33 : Cond.fieldLink RX1 19 "QuarrelBridges$Convoy" "openings" "[I" ∈ BG := BG_at 233 (by decide +kernel) rfl
theorem dX1_init_22 : decode cX1_init 22 = .ok (.putfield 19, 3) := by decide +kernel
theorem dX1_init_25 : decode cX1_init 25 = .ok (.aload_n 0, 1) := by decide +kernel
theorem dX1_init_26 : decode cX1_init 26 = .ok (.bipush 48, 2) := by decide +kernel
theorem dX1_init_28 : decode cX1_init 28 = .ok (.newarray .int, 2) := by decide +kernel
theorem wd_34 : Cond.fieldLink RX1 22 "QuarrelBridges$Convoy" "spent" "[I" ∈ BG := BG_at 234 (by decide +kernel) rfl
theorem dX1_init_30 : decode cX1_init 30 = .ok (.putfield 22, 3) := by decide +kernel
theorem dX1_init_33 : decode cX1_init 33 = .ok (.aload_n 0, 1) := by decide +kernel
theorem dX1_init_34 : decode cX1_init 34 = .ok (.sipush 128, 3) := by decide +kernel
theorem dX1_init_37 : decode cX1_init 37 = .ok (.newarray .int, 2) := by decide +kernel
theorem wd_35 : Cond.fieldLink RX1 25 "QuarrelBridges$Convoy" "behind" "[I" ∈ BG := BG_at 235 (by decide +kernel) rfl
theorem dX1_init_39 : decode cX1_init 39 = .ok (.putfield 25, 3) := by decide +kernel
theorem dX1_init_42 : decode cX1_init 42 = .ok (.aload_n 0, 1) := by decide +kernel
theorem dX1_init_43 : decode cX1_init 43 = .ok (.sipush 128, 3) := by decide +kernel
theorem dX1_init_46 : decode cX1_init 46 = .ok (.newarray .int, 2) := by decide +kernel
theorem wd_36 : Cond.fieldLink RX1 28 "QuarrelBridges$Convoy" "most" "[I" ∈ BG := BG_at 236 (by decide +kernel) rfl
theorem dX1_init_48 : decode cX1_init 48 = .ok (.putfield 28, 3) := by decide +kernel
theorem dX1_init_51 : decode cX1_init 51 = .ok (.aload_n 0, 1) := by decide +kernel
theorem dX1_init_52 : decode cX1_init 52 = .ok (.sipush 128, 3) := by decide +kernel
theorem dX1_init_55 : decode cX1_init 55 = .ok (.newarray .int, 2) := by decide +kernel
theorem wd_37 : Cond.fieldLink RX1 31 "QuarrelBridges$Convoy" "choice" "[I" ∈ BG := BG_at 237 (by decide +kernel) rfl
theorem dX1_init_57 : decode cX1_init 57 = .ok (.putfield 31, 3) := by decide +kernel
theorem dX1_init_60 : decode cX1_init 60 = .ok (.aload_n 0, 1) := by decide +kernel
theorem dX1_init_61 : decode cX1_init 61 = .ok (.iconst 0, 1) := by decide +kernel
theorem wd_38 : Cond.fieldLink RX1 34 "QuarrelBridges$Convoy" "waiting" "I" ∈ BG := BG_at 238 (by decide +kernel) rfl
theorem dX1_init_62 : decode cX1_init 62 = .ok (.putfield 34, 3) := by decide +kernel
theorem dX1_init_65 : decode cX1_init 65 = .ok (.aload_n 0, 1) := by decide +kernel
theorem dX1_init_66 : decode cX1_init 66 = .ok (.iconst 0, 1) := by decide +kernel
theorem wd_39 : Cond.fieldLink RX1 37 "QuarrelBridges$Convoy" "start" "I" ∈ BG := BG_at 239 (by decide +kernel) rfl
theorem dX1_init_67 : decode cX1_init 67 = .ok (.putfield 37, 3) := by decide +kernel
theorem dX1_init_70 : decode cX1_init 70 = .ok (.aload_n 0, 1) := by decide +kernel
theorem dX1_init_71 : decode cX1_init 71 = .ok (.aconst_null, 1) := by decide +kernel
theorem wd_40 : Cond.fieldLink RX1 40 "QuarrelBridges$Convoy" "town" "LQuarrelBridges$Town;" ∈ BG := BG_at 240 (by decide +kernel) rfl
theorem dX1_init_72 : decode cX1_init 72 = .ok (.putfield 40, 3) := by decide +kernel
theorem dX1_init_75 : decode cX1_init 75 = .ok (.return_, 1) := by decide +kernel
theorem dX5_init_0 : decode cX5_init 0 = .ok (.aload_n 0, 1) := by decide +kernel
theorem dX5_init_1 : decode cX5_init 1 = .ok (.invokespecial 3, 3) := by decide +kernel
theorem wd_41 : Cond.methodLink RX5 3 objectInit ∈ BG := BG_in (by decide +kernel) rfl
theorem dX5_init_4 : decode cX5_init 4 = .ok (.aload_n 0, 1) := by decide +kernel
theorem dX5_init_5 : decode cX5_init 5 = .ok (.iconst 0, 1) := by decide +kernel
theorem iX5_t : ∀ w ∈ wsX50, w ∈ lw_tbl ∧ goodWord w = true := by decide +kernel
theorem iX5 : ∀ w ∈ wsX50, w ∈ BG := fun w h => BG_in (iX5_t w h).1 (iX5_t w h).2
theorem wd_42 : Cond.fieldLink RX5 9 "QuarrelBridges$Reader" "fault" "I" ∈ BG := BG_at 30 (by decide +kernel) rfl
theorem dX5_init_6 : decode cX5_init 6 = .ok (.putfield 9, 3) := by decide +kernel
theorem dX5_init_9 : decode cX5_init 9 = .ok (.aload_n 0, 1) := by decide +kernel
theorem dX5_init_10 : decode cX5_init 10 = .ok (.iconst (-1), 1) := by decide +kernel
theorem wd_43 : Cond.fieldLink RX5 15 "QuarrelBridges$Reader" "faultAt" "I" ∈ BG := BG_at 32 (by decide +kernel) rfl
theorem dX5_init_11 : decode cX5_init 11 = .ok (.putfield 15, 3) := by decide +kernel
theorem dX5_init_14 : decode cX5_init 14 = .ok (.aload_n 0, 1) := by decide +kernel
theorem dX5_init_15 : decode cX5_init 15 = .ok (.iconst 0, 1) := by decide +kernel
theorem dX5_init_16 : decode cX5_init 16 = .ok (.newarray .int, 2) := by decide +kernel
theorem wd_44 : Cond.fieldLink RX5 18 "QuarrelBridges$Reader" "text" "[I" ∈ BG := BG_at 34 (by decide +kernel) rfl
theorem dX5_init_18 : decode cX5_init 18 = .ok (.putfield 18, 3) := by decide +kernel
theorem dX5_init_21 : decode cX5_init 21 = .ok (.aload_n 0, 1) := by decide +kernel
theorem dX5_init_22 : decode cX5_init 22 = .ok (.iconst 0, 1) := by decide +kernel
theorem wd_45 : Cond.fieldLink RX5 22 "QuarrelBridges$Reader" "length" "I" ∈ BG := BG_at 35 (by decide +kernel) rfl
theorem dX5_init_23 : decode cX5_init 23 = .ok (.putfield 22, 3) := by decide +kernel
theorem dX5_init_26 : decode cX5_init 26 = .ok (.aload_n 0, 1) := by decide +kernel
theorem dX5_init_27 : decode cX5_init 27 = .ok (.iconst 0, 1) := by decide +kernel
theorem wd_46 : Cond.fieldLink RX5 25 "QuarrelBridges$Reader" "place" "I" ∈ BG := BG_at 36 (by decide +kernel) rfl
theorem dX5_init_28 : decode cX5_init 28 = .ok (.putfield 25, 3) := by decide +kernel
theorem dX5_init_31 : decode cX5_init 31 = .ok (.aload_n 0, 1) := by decide +kernel
theorem dX5_init_32 : decode cX5_init 32 = .ok (.iconst 0, 1) := by decide +kernel
theorem wd_47 : Cond.fieldLink RX5 28 "QuarrelBridges$Reader" "themesTold" "Z" ∈ BG := BG_at 37 (by decide +kernel) rfl
theorem dX5_init_33 : decode cX5_init 33 = .ok (.putfield 28, 3) := by decide +kernel
theorem dX5_init_36 : decode cX5_init 36 = .ok (.aload_n 0, 1) := by decide +kernel
theorem dX5_init_37 : decode cX5_init 37 = .ok (.iconst 0, 1) := by decide +kernel
theorem wd_48 : Cond.fieldLink RX5 32 "QuarrelBridges$Reader" "snowTold" "Z" ∈ BG := BG_at 38 (by decide +kernel) rfl
theorem dX5_init_38 : decode cX5_init 38 = .ok (.putfield 32, 3) := by decide +kernel
theorem dX5_init_41 : decode cX5_init 41 = .ok (.return_, 1) := by decide +kernel
theorem dX6_init_0 : decode cX6_init 0 = .ok (.aload_n 0, 1) := by decide +kernel
theorem dX6_init_1 : decode cX6_init 1 = .ok (.invokespecial 1, 3) := by decide +kernel
theorem wd_49 : Cond.methodLink RX6 1 objectInit ∈ BG := BG_in (by decide +kernel) rfl
theorem dX6_init_4 : decode cX6_init 4 = .ok (.aload_n 0, 1) := by decide +kernel
theorem dX6_init_5 : decode cX6_init 5 = .ok (.iconst 0, 1) := by decide +kernel
theorem dX6_init_6 : decode cX6_init 6 = .ok (.iload_n 1, 1) := by decide +kernel
theorem dX6_init_7 : decode cX6_init 7 = .ok (.invokestatic 7, 3) := by decide +kernel
theorem wd_50 : Cond.methodLink RX6 7 Lib.Math.max.name ∈ BG := BG_in (by decide +kernel) rfl
theorem wd_51 : Cond.static Lib.Math.max.name ∈ BG := BG_in (by decide +kernel) rfl
theorem wd_52 : Cond.initialized "java/lang/Math" ∈ BG := BG_at 7 (by decide +kernel) rfl
theorem wd_53 : Cond.code Lib.Math.max.name Lib.Math.max.code 2 (some .int) ∈ BG := BG_in (by decide +kernel) rfl
theorem iX6_t : ∀ w ∈ wsX60, w ∈ lw_tbl ∧ goodWord w = true := by decide +kernel
theorem iX6 : ∀ w ∈ wsX60, w ∈ BG := fun w h => BG_in (iX6_t w h).1 (iX6_t w h).2
theorem wd_54 : Cond.fieldLink RX6 13 "QuarrelBridges$Shelf" "slots" "I" ∈ BG := BG_at 143 (by decide +kernel) rfl
theorem dX6_init_10 : decode cX6_init 10 = .ok (.putfield 13, 3) := by decide +kernel
theorem dX6_init_13 : decode cX6_init 13 = .ok (.aload_n 0, 1) := by decide +kernel
theorem dX6_init_14 : decode cX6_init 14 = .ok (.aload_n 0, 1) := by decide +kernel
theorem dX6_init_15 : decode cX6_init 15 = .ok (.getfield 13, 3) := by decide +kernel
theorem dX6_init_18 : decode cX6_init 18 = .ok (.bipush 41, 2) := by decide +kernel
theorem dX6_init_20 : decode cX6_init 20 = .ok (.imul, 1) := by decide +kernel
theorem dX6_init_21 : decode cX6_init 21 = .ok (.newarray .int, 2) := by decide +kernel
theorem wd_55 : Cond.fieldLink RX6 21 "QuarrelBridges$Shelf" "cells" "[I" ∈ BG := BG_at 144 (by decide +kernel) rfl
theorem dX6_init_23 : decode cX6_init 23 = .ok (.putfield 21, 3) := by decide +kernel
theorem dX6_init_26 : decode cX6_init 26 = .ok (.return_, 1) := by decide +kernel
theorem dX2_init_0 : decode cX2_init 0 = .ok (.aload_n 0, 1) := by decide +kernel
theorem dX2_init_1 : decode cX2_init 1 = .ok (.invokespecial 3, 3) := by decide +kernel
theorem wd_56 : Cond.methodLink RX2 3 objectInit ∈ BG := BG_in (by decide +kernel) rfl
theorem dX2_init_4 : decode cX2_init 4 = .ok (.aload_n 0, 1) := by decide +kernel
theorem wd_57 : Cond.classLink RX2 9 RX6 ∈ BG := BG_at 134 (by decide +kernel) rfl
theorem wd_58 : Cond.instantiable RX6 2 ∈ BG := BG_at 135 (by decide +kernel) rfl
theorem wd_59 : Cond.initialized RX6 ∈ BG := BG_at 6 (by decide +kernel) rfl
theorem dX2_init_5 : decode cX2_init 5 = .ok (.new 9, 3) := by decide +kernel
theorem dX2_init_8 : decode cX2_init 8 = .ok (.dup, 1) := by decide +kernel
theorem dX2_init_9 : decode cX2_init 9 = .ok (.bipush 20, 2) := by decide +kernel
theorem dX2_init_11 : decode cX2_init 11 = .ok (.invokespecial 11, 3) := by decide +kernel
theorem wd_60 : Cond.methodLink RX2 11 yX6_init ∈ BG := BG_at 136 (by decide +kernel) rfl
theorem wd_61 : Cond.code yX6_init cX6_init 2 none ∈ BG := BG_at 138 (by decide +kernel) rfl
theorem wd_62 : Cond.instanceMethod yX6_init ∈ BG := BG_at 137 (by decide +kernel) rfl
theorem okI_X6_init : okI yX6_init cX6_init 2 1 := ⟨⟨wd_61, wd_59, by decide +kernel⟩, wd_62, rfl⟩
theorem iX2_t : ∀ w ∈ wsX20, w ∈ lw_tbl ∧ goodWord w = true := by decide +kernel
theorem iX2 : ∀ w ∈ wsX20, w ∈ BG := fun w h => BG_in (iX2_t w h).1 (iX2_t w h).2
theorem wd_63 : Cond.fieldLink RX2 14 "QuarrelBridges$History" "shelf" "LQuarrelBridges$Shelf;" ∈ BG := BG_at 150 (by decide +kernel) rfl
theorem dX2_init_14 : decode cX2_init 14 = .ok (.putfield 14, 3) := by decide +kernel
theorem dX2_init_17 : decode cX2_init 17 = .ok (.aload_n 0, 1) := by decide +kernel
theorem dX2_init_18 : decode cX2_init 18 = .ok (.iconst 0, 1) := by decide +kernel
theorem wd_64 : Cond.fieldLink RX2 20 "QuarrelBridges$History" "first" "I" ∈ BG := BG_at 151 (by decide +kernel) rfl
theorem dX2_init_19 : decode cX2_init 19 = .ok (.putfield 20, 3) := by decide +kernel
theorem dX2_init_22 : decode cX2_init 22 = .ok (.aload_n 0, 1) := by decide +kernel
theorem dX2_init_23 : decode cX2_init 23 = .ok (.iconst 0, 1) := by decide +kernel
theorem wd_65 : Cond.fieldLink RX2 24 "QuarrelBridges$History" "count" "I" ∈ BG := BG_at 152 (by decide +kernel) rfl
theorem dX2_init_24 : decode cX2_init 24 = .ok (.putfield 24, 3) := by decide +kernel
theorem dX2_init_27 : decode cX2_init 27 = .ok (.return_, 1) := by decide +kernel
def rm_k_town_init : Room := { frames := 1, cells := 5, slots := 56, locals := 16 }
set_option maxHeartbeats 4000000 in
set_option maxRecDepth 100000 in
theorem k_town_init {l : Launch} {D : va_G} {cI cZ : ClassId} {sz : Nat} (h : Nat) : KV l yX8_init cX8_init 1 rm_k_town_init D cI cZ [.ref h] sz [(h, .inr (8, [.int 0, .int 0, .int 0, .int 0, .int 0, .null, .null, .null, .null, .null]))] (fun (_ : Nat × Nat × Nat × Nat × Nat) => True) (fun (u : Nat × Nat × Nat × Nat × Nat) => [(h, .inr (8, [.int 0, .int 1, .int 0, .int 0, .int 0, .ref u.1, .ref u.2.1, .ref u.2.2.1, .ref u.2.2.2.1, .ref u.2.2.2.2])), (u.1, .inl (cI, 6, .inl z0)), (u.2.1, .inl (cI, 6, .inl z0)), (u.2.2.1, .inl (cI, 30, .inl z0)), (u.2.2.2.1, .inl (cI, 7, .inl z0)), (u.2.2.2.2, .inl (cI, 7, .inl z0))]) := by
  refine KV.go rfl (Nat.le_of_ble_eq_true rfl) ?_
  intro p e s m args below meth c ls A Q hx hb hml hts hown hin hP hK hD hS hA hN hl hret
  have hl : lv_has ls 1 [(0, .ref h)] := hl
  refine lv_aload_n hx hb dX8_init_0 rfl (lv_at hl 0 rfl) ?_
  refine W.objInit hx hb hown (hts _ wd_0) (hts _ wd_1) (hts _ wd_2) rfl (by rw [hml]; exact hl.1) rfl dX8_init_1 (Nat.le_of_ble_eq_true rfl) (Nat.le_of_ble_eq_true rfl) ?_
  refine W.eq (g2 := F0 m 4 ls []) rfl ?_
  refine lv_aload_n hx hb dX8_init_4 rfl (lv_at hl 0 rfl) ?_
  refine lv_iconst (v := 0) hx hb dX8_init_5 (by decide) ?_
  refine va_put (D := D) (ci := 8) (v := .int 0) (ty := .int) (C := RX8) (T := TX8) (N := 10) hx hb hts iX8 tyX8 tyX8_ok nmX8 hown hK hP hD hS 0 rfl rfl 0 (by decide) (hts _ wd_3) (fun _ h9 => h9) rfl (by decide +kernel) rfl rfl (Nat.le_of_ble_eq_true rfl) dX8_init_6 (fun H locs hP hD hS => ?_)
  have hP : va_P D classes [(h, .inr (8, [.int 0, .int 0, .int 0, .int 0, .int 0, .null, .null, .null, .null, .null]))] H := hP
  have hD : va_D A [(h, .inr (8, [.int 0, .int 0, .int 0, .int 0, .int 0, .null, .null, .null, .null, .null]))] := hD
  refine lv_aload_n hx hb dX8_init_9 rfl (lv_at hl 0 rfl) ?_
  refine lv_iconst (v := 1) hx hb dX8_init_10 (by decide) ?_
  refine va_put (D := D) (ci := 8) (v := .int 1) (ty := .int) (C := RX8) (T := TX8) (N := 10) hx hb hts iX8 tyX8 tyX8_ok nmX8 hown hK hP hD hS 0 rfl rfl 1 (by decide) (hts _ wd_4) (fun _ h9 => h9) rfl (by decide +kernel) rfl rfl (Nat.le_of_ble_eq_true rfl) dX8_init_11 (fun H locs hP hD hS => ?_)
  have hP : va_P D classes [(h, .inr (8, [.int 0, .int 1, .int 0, .int 0, .int 0, .null, .null, .null, .null, .null]))] H := hP
  have hD : va_D A [(h, .inr (8, [.int 0, .int 1, .int 0, .int 0, .int 0, .null, .null, .null, .null, .null]))] := hD
  refine lv_aload_n hx hb dX8_init_14 rfl (lv_at hl 0 rfl) ?_
  refine lv_iconst (v := 0) hx hb dX8_init_15 (by decide) ?_
  refine va_put (D := D) (ci := 8) (v := .int 0) (ty := .int) (C := RX8) (T := TX8) (N := 10) hx hb hts iX8 tyX8 tyX8_ok nmX8 hown hK hP hD hS 0 rfl rfl 2 (by decide) (hts _ wd_5) (fun _ h9 => h9) rfl (by decide +kernel) rfl rfl (Nat.le_of_ble_eq_true rfl) dX8_init_16 (fun H locs hP hD hS => ?_)
  have hP : va_P D classes [(h, .inr (8, [.int 0, .int 1, .int 0, .int 0, .int 0, .null, .null, .null, .null, .null]))] H := hP
  have hD : va_D A [(h, .inr (8, [.int 0, .int 1, .int 0, .int 0, .int 0, .null, .null, .null, .null, .null]))] := hD
  refine lv_aload_n hx hb dX8_init_19 rfl (lv_at hl 0 rfl) ?_
  refine lv_iconst (v := 0) hx hb dX8_init_20 (by decide) ?_
  refine va_put (D := D) (ci := 8) (v := .int 0) (ty := .int) (C := RX8) (T := TX8) (N := 10) hx hb hts iX8 tyX8 tyX8_ok nmX8 hown hK hP hD hS 0 rfl rfl 3 (by decide) (hts _ wd_6) (fun _ h9 => h9) rfl (by decide +kernel) rfl rfl (Nat.le_of_ble_eq_true rfl) dX8_init_21 (fun H locs hP hD hS => ?_)
  have hP : va_P D classes [(h, .inr (8, [.int 0, .int 1, .int 0, .int 0, .int 0, .null, .null, .null, .null, .null]))] H := hP
  have hD : va_D A [(h, .inr (8, [.int 0, .int 1, .int 0, .int 0, .int 0, .null, .null, .null, .null, .null]))] := hD
  refine lv_aload_n hx hb dX8_init_24 rfl (lv_at hl 0 rfl) ?_
  refine lv_iconst (v := 0) hx hb dX8_init_25 (by decide) ?_
  refine va_put (D := D) (ci := 8) (v := .int 0) (ty := .int) (C := RX8) (T := TX8) (N := 10) hx hb hts iX8 tyX8 tyX8_ok nmX8 hown hK hP hD hS 0 rfl rfl 4 (by decide) (hts _ wd_7) (fun _ h9 => h9) rfl (by decide +kernel) rfl rfl (Nat.le_of_ble_eq_true rfl) dX8_init_26 (fun H locs hP hD hS => ?_)
  have hP : va_P D classes [(h, .inr (8, [.int 0, .int 1, .int 0, .int 0, .int 0, .null, .null, .null, .null, .null]))] H := hP
  have hD : va_D A [(h, .inr (8, [.int 0, .int 1, .int 0, .int 0, .int 0, .null, .null, .null, .null, .null]))] := hD
  refine lv_aload_n hx hb dX8_init_29 rfl (lv_at hl 0 rfl) ?_
  refine lv_bipush (v := 6) hx hb dX8_init_30 (by decide) ?_
  refine va_newa (atype := .int) (a0 := (6, .inl z0)) (N' := 6) (ty := .int) hx hb (hts _ wd_8) rfl hK hP hD hS hA (fun cA => z0_int 6 cA) (by decide +kernel) (by decide +kernel) (by decide +kernel) (Nat.le_of_ble_eq_true rfl) (Nat.le_of_ble_eq_true rfl) dX8_init_32 (fun q_1 cA_q_1 H hKn hP hD hS => ?_)
  obtain rfl := (K_int hKn).symm
  have hP : va_P D classes [(h, .inr (8, [.int 0, .int 1, .int 0, .int 0, .int 0, .null, .null, .null, .null, .null])), (q_1, .inl (cI, 6, .inl z0))] H := hP
  have hD : va_D A [(h, .inr (8, [.int 0, .int 1, .int 0, .int 0, .int 0, .null, .null, .null, .null, .null])), (q_1, .inl (cI, 6, .inl z0))] := hD
  refine W.widen (k := 1) (n := 6) (Nat.le_of_ble_eq_true rfl) (Nat.le_of_ble_eq_true rfl) ?_
  refine va_putF (D := D) (ci := 8) (v := .ref q_1) (ty := (.array .int)) (C := RX8) (T := TX8) (N := 10) hx hb hts iX8 tyX8 tyX8_ok nmX8 hown hK hP hD hS 0 rfl rfl 5 (by decide) (hts _ wd_9) (fun _ h9 => h9) rfl hin rfl (by decide +kernel) rfl rfl (Nat.le_of_ble_eq_true rfl) dX8_init_34 (fun H locs hP hD hS => ?_)
  have hP : va_P D classes [(h, .inr (8, [.int 0, .int 1, .int 0, .int 0, .int 0, .ref q_1, .null, .null, .null, .null])), (q_1, .inl (cI, 6, .inl z0))] H := hP
  have hD : va_D A [(h, .inr (8, [.int 0, .int 1, .int 0, .int 0, .int 0, .ref q_1, .null, .null, .null, .null])), (q_1, .inl (cI, 6, .inl z0))] := hD
  refine lv_aload_n hx hb dX8_init_37 rfl (lv_at hl 0 rfl) ?_
  refine lv_bipush (v := 6) hx hb dX8_init_38 (by decide) ?_
  refine va_newa (atype := .int) (a0 := (6, .inl z0)) (N' := 6) (ty := .int) hx hb (hts _ wd_8) rfl hK hP hD hS hA (fun cA => z0_int 6 cA) (by decide +kernel) (by decide +kernel) (by decide +kernel) (Nat.le_of_ble_eq_true rfl) (Nat.le_of_ble_eq_true rfl) dX8_init_40 (fun q_2 cA_q_2 H hKn hP hD hS => ?_)
  obtain rfl := (K_int hKn).symm
  have hP : va_P D classes [(h, .inr (8, [.int 0, .int 1, .int 0, .int 0, .int 0, .ref q_1, .null, .null, .null, .null])), (q_1, .inl (cI, 6, .inl z0)), (q_2, .inl (cI, 6, .inl z0))] H := hP
  have hD : va_D A [(h, .inr (8, [.int 0, .int 1, .int 0, .int 0, .int 0, .ref q_1, .null, .null, .null, .null])), (q_1, .inl (cI, 6, .inl z0)), (q_2, .inl (cI, 6, .inl z0))] := hD
  refine W.widen (k := 2) (n := 12) (Nat.le_of_ble_eq_true rfl) (Nat.le_of_ble_eq_true rfl) ?_
  refine va_putF (D := D) (ci := 8) (v := .ref q_2) (ty := (.array .int)) (C := RX8) (T := TX8) (N := 10) hx hb hts iX8 tyX8 tyX8_ok nmX8 hown hK hP hD hS 0 rfl rfl 6 (by decide) (hts _ wd_10) (fun _ h9 => h9) rfl hin rfl (by decide +kernel) rfl rfl (Nat.le_of_ble_eq_true rfl) dX8_init_42 (fun H locs hP hD hS => ?_)
  have hP : va_P D classes [(h, .inr (8, [.int 0, .int 1, .int 0, .int 0, .int 0, .ref q_1, .ref q_2, .null, .null, .null])), (q_1, .inl (cI, 6, .inl z0)), (q_2, .inl (cI, 6, .inl z0))] H := hP
  have hD : va_D A [(h, .inr (8, [.int 0, .int 1, .int 0, .int 0, .int 0, .ref q_1, .ref q_2, .null, .null, .null])), (q_1, .inl (cI, 6, .inl z0)), (q_2, .inl (cI, 6, .inl z0))] := hD
  refine lv_aload_n hx hb dX8_init_45 rfl (lv_at hl 0 rfl) ?_
  refine lv_bipush (v := 30) hx hb dX8_init_46 (by decide) ?_
  refine va_newa (atype := .int) (a0 := (30, .inl z0)) (N' := 30) (ty := .int) hx hb (hts _ wd_8) rfl hK hP hD hS hA (fun cA => z0_int 30 cA) (by decide +kernel) (by decide +kernel) (by decide +kernel) (Nat.le_of_ble_eq_true rfl) (Nat.le_of_ble_eq_true rfl) dX8_init_48 (fun q_3 cA_q_3 H hKn hP hD hS => ?_)
  obtain rfl := (K_int hKn).symm
  have hP : va_P D classes [(h, .inr (8, [.int 0, .int 1, .int 0, .int 0, .int 0, .ref q_1, .ref q_2, .null, .null, .null])), (q_1, .inl (cI, 6, .inl z0)), (q_2, .inl (cI, 6, .inl z0)), (q_3, .inl (cI, 30, .inl z0))] H := hP
  have hD : va_D A [(h, .inr (8, [.int 0, .int 1, .int 0, .int 0, .int 0, .ref q_1, .ref q_2, .null, .null, .null])), (q_1, .inl (cI, 6, .inl z0)), (q_2, .inl (cI, 6, .inl z0)), (q_3, .inl (cI, 30, .inl z0))] := hD
  refine W.widen (k := 3) (n := 42) (Nat.le_of_ble_eq_true rfl) (Nat.le_of_ble_eq_true rfl) ?_
  refine va_putF (D := D) (ci := 8) (v := .ref q_3) (ty := (.array .int)) (C := RX8) (T := TX8) (N := 10) hx hb hts iX8 tyX8 tyX8_ok nmX8 hown hK hP hD hS 0 rfl rfl 7 (by decide) (hts _ wd_11) (fun _ h9 => h9) rfl hin rfl (by decide +kernel) rfl rfl (Nat.le_of_ble_eq_true rfl) dX8_init_50 (fun H locs hP hD hS => ?_)
  have hP : va_P D classes [(h, .inr (8, [.int 0, .int 1, .int 0, .int 0, .int 0, .ref q_1, .ref q_2, .ref q_3, .null, .null])), (q_1, .inl (cI, 6, .inl z0)), (q_2, .inl (cI, 6, .inl z0)), (q_3, .inl (cI, 30, .inl z0))] H := hP
  have hD : va_D A [(h, .inr (8, [.int 0, .int 1, .int 0, .int 0, .int 0, .ref q_1, .ref q_2, .ref q_3, .null, .null])), (q_1, .inl (cI, 6, .inl z0)), (q_2, .inl (cI, 6, .inl z0)), (q_3, .inl (cI, 30, .inl z0))] := hD
  refine lv_aload_n hx hb dX8_init_53 rfl (lv_at hl 0 rfl) ?_
  refine lv_bipush (v := 7) hx hb dX8_init_54 (by decide) ?_
  refine va_newa (atype := .int) (a0 := (7, .inl z0)) (N' := 7) (ty := .int) hx hb (hts _ wd_8) rfl hK hP hD hS hA (fun cA => z0_int 7 cA) (by decide +kernel) (by decide +kernel) (by decide +kernel) (Nat.le_of_ble_eq_true rfl) (Nat.le_of_ble_eq_true rfl) dX8_init_56 (fun q_4 cA_q_4 H hKn hP hD hS => ?_)
  obtain rfl := (K_int hKn).symm
  have hP : va_P D classes [(h, .inr (8, [.int 0, .int 1, .int 0, .int 0, .int 0, .ref q_1, .ref q_2, .ref q_3, .null, .null])), (q_1, .inl (cI, 6, .inl z0)), (q_2, .inl (cI, 6, .inl z0)), (q_3, .inl (cI, 30, .inl z0)), (q_4, .inl (cI, 7, .inl z0))] H := hP
  have hD : va_D A [(h, .inr (8, [.int 0, .int 1, .int 0, .int 0, .int 0, .ref q_1, .ref q_2, .ref q_3, .null, .null])), (q_1, .inl (cI, 6, .inl z0)), (q_2, .inl (cI, 6, .inl z0)), (q_3, .inl (cI, 30, .inl z0)), (q_4, .inl (cI, 7, .inl z0))] := hD
  refine W.widen (k := 4) (n := 49) (Nat.le_of_ble_eq_true rfl) (Nat.le_of_ble_eq_true rfl) ?_
  refine va_putF (D := D) (ci := 8) (v := .ref q_4) (ty := (.array .int)) (C := RX8) (T := TX8) (N := 10) hx hb hts iX8 tyX8 tyX8_ok nmX8 hown hK hP hD hS 0 rfl rfl 8 (by decide) (hts _ wd_12) (fun _ h9 => h9) rfl hin rfl (by decide +kernel) rfl rfl (Nat.le_of_ble_eq_true rfl) dX8_init_58 (fun H locs hP hD hS => ?_)
  have hP : va_P D classes [(h, .inr (8, [.int 0, .int 1, .int 0, .int 0, .int 0, .ref q_1, .ref q_2, .ref q_3, .ref q_4, .null])), (q_1, .inl (cI, 6, .inl z0)), (q_2, .inl (cI, 6, .inl z0)), (q_3, .inl (cI, 30, .inl z0)), (q_4, .inl (cI, 7, .inl z0))] H := hP
  have hD : va_D A [(h, .inr (8, [.int 0, .int 1, .int 0, .int 0, .int 0, .ref q_1, .ref q_2, .ref q_3, .ref q_4, .null])), (q_1, .inl (cI, 6, .inl z0)), (q_2, .inl (cI, 6, .inl z0)), (q_3, .inl (cI, 30, .inl z0)), (q_4, .inl (cI, 7, .inl z0))] := hD
  refine lv_aload_n hx hb dX8_init_61 rfl (lv_at hl 0 rfl) ?_
  refine lv_bipush (v := 7) hx hb dX8_init_62 (by decide) ?_
  refine va_newa (atype := .int) (a0 := (7, .inl z0)) (N' := 7) (ty := .int) hx hb (hts _ wd_8) rfl hK hP hD hS hA (fun cA => z0_int 7 cA) (by decide +kernel) (by decide +kernel) (by decide +kernel) (Nat.le_of_ble_eq_true rfl) (Nat.le_of_ble_eq_true rfl) dX8_init_64 (fun q_5 cA_q_5 H hKn hP hD hS => ?_)
  obtain rfl := (K_int hKn).symm
  have hP : va_P D classes [(h, .inr (8, [.int 0, .int 1, .int 0, .int 0, .int 0, .ref q_1, .ref q_2, .ref q_3, .ref q_4, .null])), (q_1, .inl (cI, 6, .inl z0)), (q_2, .inl (cI, 6, .inl z0)), (q_3, .inl (cI, 30, .inl z0)), (q_4, .inl (cI, 7, .inl z0)), (q_5, .inl (cI, 7, .inl z0))] H := hP
  have hD : va_D A [(h, .inr (8, [.int 0, .int 1, .int 0, .int 0, .int 0, .ref q_1, .ref q_2, .ref q_3, .ref q_4, .null])), (q_1, .inl (cI, 6, .inl z0)), (q_2, .inl (cI, 6, .inl z0)), (q_3, .inl (cI, 30, .inl z0)), (q_4, .inl (cI, 7, .inl z0)), (q_5, .inl (cI, 7, .inl z0))] := hD
  refine W.widen (k := 5) (n := 56) (Nat.le_of_ble_eq_true rfl) (Nat.le_of_ble_eq_true rfl) ?_
  refine va_putF (D := D) (ci := 8) (v := .ref q_5) (ty := (.array .int)) (C := RX8) (T := TX8) (N := 10) hx hb hts iX8 tyX8 tyX8_ok nmX8 hown hK hP hD hS 0 rfl rfl 9 (by decide) (hts _ wd_13) (fun _ h9 => h9) rfl hin rfl (by decide +kernel) rfl rfl (Nat.le_of_ble_eq_true rfl) dX8_init_66 (fun H locs hP hD hS => ?_)
  have hP : va_P D classes [(h, .inr (8, [.int 0, .int 1, .int 0, .int 0, .int 0, .ref q_1, .ref q_2, .ref q_3, .ref q_4, .ref q_5])), (q_1, .inl (cI, 6, .inl z0)), (q_2, .inl (cI, 6, .inl z0)), (q_3, .inl (cI, 30, .inl z0)), (q_4, .inl (cI, 7, .inl z0)), (q_5, .inl (cI, 7, .inl z0))] H := hP
  have hD : va_D A [(h, .inr (8, [.int 0, .int 1, .int 0, .int 0, .int 0, .ref q_1, .ref q_2, .ref q_3, .ref q_4, .ref q_5])), (q_1, .inl (cI, 6, .inl z0)), (q_2, .inl (cI, 6, .inl z0)), (q_3, .inl (cI, 30, .inl z0)), (q_4, .inl (cI, 7, .inl z0)), (q_5, .inl (cI, 7, .inl z0))] := hD
  refine W.widen (k := rm_k_town_init.cells) (n := rm_k_town_init.slots) (Nat.le_of_ble_eq_true rfl) (Nat.le_of_ble_eq_true rfl) ?_
  exact hret ⟨q_1, q_2, q_3, q_4, q_5⟩ _ _ _ _ dX8_init_69 trivial hP hD hS
def rm_k_state_init : Room := { frames := 1, cells := 1, slots := 41, locals := 16 }
set_option maxHeartbeats 4000000 in
set_option maxRecDepth 100000 in
theorem k_state_init {l : Launch} {D : va_G} {cI cZ : ClassId} {sz : Nat} (h : Nat) : KV l yX7_init cX7_init 1 rm_k_state_init D cI cZ [.ref h] sz [(h, .inr (7, [.null]))] (fun (_ : Nat) => True) (fun (u : Nat) => [(h, .inr (7, [.ref u])), (u, .inl (cI, 41, .inl z0))]) := by
  refine KV.go rfl (Nat.le_of_ble_eq_true rfl) ?_
  intro p e s m args below meth c ls A Q hx hb hml hts hown hin hP hK hD hS hA hN hl hret
  have hl : lv_has ls 1 [(0, .ref h)] := hl
  refine lv_aload_n hx hb dX7_init_0 rfl (lv_at hl 0 rfl) ?_
  refine W.objInit hx hb hown (hts _ wd_14) (hts _ wd_1) (hts _ wd_2) rfl (by rw [hml]; exact hl.1) rfl dX7_init_1 (Nat.le_of_ble_eq_true rfl) (Nat.le_of_ble_eq_true rfl) ?_
  refine W.eq (g2 := F0 m 4 ls []) rfl ?_
  refine lv_aload_n hx hb dX7_init_4 rfl (lv_at hl 0 rfl) ?_
  refine lv_bipush (v := 41) hx hb dX7_init_5 (by decide) ?_
  refine va_newa (atype := .int) (a0 := (41, .inl z0)) (N' := 41) (ty := .int) hx hb (hts _ wd_8) rfl hK hP hD hS hA (fun cA => z0_int 41 cA) (by decide +kernel) (by decide +kernel) (by decide +kernel) (Nat.le_of_ble_eq_true rfl) (Nat.le_of_ble_eq_true rfl) dX7_init_7 (fun q_1 cA_q_1 H hKn hP hD hS => ?_)
  obtain rfl := (K_int hKn).symm
  have hP : va_P D classes [(h, .inr (7, [.null])), (q_1, .inl (cI, 41, .inl z0))] H := hP
  have hD : va_D A [(h, .inr (7, [.null])), (q_1, .inl (cI, 41, .inl z0))] := hD
  refine W.widen (k := 1) (n := 41) (Nat.le_of_ble_eq_true rfl) (Nat.le_of_ble_eq_true rfl) ?_
  refine va_putF (D := D) (ci := 7) (v := .ref q_1) (ty := (.array .int)) (C := RX7) (T := TX7) (N := 1) hx hb hts iX7 tyX7 tyX7_ok nmX7 hown hK hP hD hS 0 rfl rfl 0 (by decide) (hts _ wd_15) (fun _ h9 => h9) rfl hin rfl (by decide +kernel) rfl rfl (Nat.le_of_ble_eq_true rfl) dX7_init_9 (fun H locs hP hD hS => ?_)
  have hP : va_P D classes [(h, .inr (7, [.ref q_1])), (q_1, .inl (cI, 41, .inl z0))] H := hP
  have hD : va_D A [(h, .inr (7, [.ref q_1])), (q_1, .inl (cI, 41, .inl z0))] := hD
  refine W.widen (k := rm_k_state_init.cells) (n := rm_k_state_init.slots) (Nat.le_of_ble_eq_true rfl) (Nat.le_of_ble_eq_true rfl) ?_
  exact hret q_1 _ _ _ _ dX7_init_12 trivial hP hD hS
def rm_k_book_init : Room := { frames := 1, cells := 2, slots := 30, locals := 16 }
set_option maxHeartbeats 4000000 in
set_option maxRecDepth 100000 in
theorem k_book_init {l : Launch} {D : va_G} {cI cZ : ClassId} {sz : Nat} (h : Nat) : KV l yX0_init cX0_init 1 rm_k_book_init D cI cZ [.ref h] sz [(h, .inr (0, [.int 0, .null, .null]))] (fun (_ : Nat × Nat) => True) (fun (u : Nat × Nat) => [(h, .inr (0, [.int 0, .ref u.1, .ref u.2])), (u.1, .inl (cI, 15, .inl z0)), (u.2, .inl (cI, 15, .inl z0))]) := by
  refine KV.go rfl (Nat.le_of_ble_eq_true rfl) ?_
  intro p e s m args below meth c ls A Q hx hb hml hts hown hin hP hK hD hS hA hN hl hret
  have hl : lv_has ls 1 [(0, .ref h)] := hl
  refine lv_aload_n hx hb dX0_init_0 rfl (lv_at hl 0 rfl) ?_
  refine W.objInit hx hb hown (hts _ wd_16) (hts _ wd_1) (hts _ wd_2) rfl (by rw [hml]; exact hl.1) rfl dX0_init_1 (Nat.le_of_ble_eq_true rfl) (Nat.le_of_ble_eq_true rfl) ?_
  refine W.eq (g2 := F0 m 4 ls []) rfl ?_
  refine lv_aload_n hx hb dX0_init_4 rfl (lv_at hl 0 rfl) ?_
  refine lv_iconst (v := 0) hx hb dX0_init_5 (by decide) ?_
  refine va_put (D := D) (ci := 0) (v := .int 0) (ty := .int) (C := RX0) (T := TX0) (N := 3) hx hb hts iX0 tyX0 tyX0_ok nmX0 hown hK hP hD hS 0 rfl rfl 0 (by decide) (hts _ wd_17) (fun _ h9 => h9) rfl (by decide +kernel) rfl rfl (Nat.le_of_ble_eq_true rfl) dX0_init_6 (fun H locs hP hD hS => ?_)
  have hP : va_P D classes [(h, .inr (0, [.int 0, .null, .null]))] H := hP
  have hD : va_D A [(h, .inr (0, [.int 0, .null, .null]))] := hD
  refine lv_aload_n hx hb dX0_init_9 rfl (lv_at hl 0 rfl) ?_
  refine lv_bipush (v := 15) hx hb dX0_init_10 (by decide) ?_
  refine va_newa (atype := .int) (a0 := (15, .inl z0)) (N' := 15) (ty := .int) hx hb (hts _ wd_8) rfl hK hP hD hS hA (fun cA => z0_int 15 cA) (by decide +kernel) (by decide +kernel) (by decide +kernel) (Nat.le_of_ble_eq_true rfl) (Nat.le_of_ble_eq_true rfl) dX0_init_12 (fun q_1 cA_q_1 H hKn hP hD hS => ?_)
  obtain rfl := (K_int hKn).symm
  have hP : va_P D classes [(h, .inr (0, [.int 0, .null, .null])), (q_1, .inl (cI, 15, .inl z0))] H := hP
  have hD : va_D A [(h, .inr (0, [.int 0, .null, .null])), (q_1, .inl (cI, 15, .inl z0))] := hD
  refine W.widen (k := 1) (n := 15) (Nat.le_of_ble_eq_true rfl) (Nat.le_of_ble_eq_true rfl) ?_
  refine va_putF (D := D) (ci := 0) (v := .ref q_1) (ty := (.array .int)) (C := RX0) (T := TX0) (N := 3) hx hb hts iX0 tyX0 tyX0_ok nmX0 hown hK hP hD hS 0 rfl rfl 1 (by decide) (hts _ wd_18) (fun _ h9 => h9) rfl hin rfl (by decide +kernel) rfl rfl (Nat.le_of_ble_eq_true rfl) dX0_init_14 (fun H locs hP hD hS => ?_)
  have hP : va_P D classes [(h, .inr (0, [.int 0, .ref q_1, .null])), (q_1, .inl (cI, 15, .inl z0))] H := hP
  have hD : va_D A [(h, .inr (0, [.int 0, .ref q_1, .null])), (q_1, .inl (cI, 15, .inl z0))] := hD
  refine lv_aload_n hx hb dX0_init_17 rfl (lv_at hl 0 rfl) ?_
  refine lv_bipush (v := 15) hx hb dX0_init_18 (by decide) ?_
  refine va_newa (atype := .int) (a0 := (15, .inl z0)) (N' := 15) (ty := .int) hx hb (hts _ wd_8) rfl hK hP hD hS hA (fun cA => z0_int 15 cA) (by decide +kernel) (by decide +kernel) (by decide +kernel) (Nat.le_of_ble_eq_true rfl) (Nat.le_of_ble_eq_true rfl) dX0_init_20 (fun q_2 cA_q_2 H hKn hP hD hS => ?_)
  obtain rfl := (K_int hKn).symm
  have hP : va_P D classes [(h, .inr (0, [.int 0, .ref q_1, .null])), (q_1, .inl (cI, 15, .inl z0)), (q_2, .inl (cI, 15, .inl z0))] H := hP
  have hD : va_D A [(h, .inr (0, [.int 0, .ref q_1, .null])), (q_1, .inl (cI, 15, .inl z0)), (q_2, .inl (cI, 15, .inl z0))] := hD
  refine W.widen (k := 2) (n := 30) (Nat.le_of_ble_eq_true rfl) (Nat.le_of_ble_eq_true rfl) ?_
  refine va_putF (D := D) (ci := 0) (v := .ref q_2) (ty := (.array .int)) (C := RX0) (T := TX0) (N := 3) hx hb hts iX0 tyX0 tyX0_ok nmX0 hown hK hP hD hS 0 rfl rfl 2 (by decide) (hts _ wd_19) (fun _ h9 => h9) rfl hin rfl (by decide +kernel) rfl rfl (Nat.le_of_ble_eq_true rfl) dX0_init_22 (fun H locs hP hD hS => ?_)
  have hP : va_P D classes [(h, .inr (0, [.int 0, .ref q_1, .ref q_2])), (q_1, .inl (cI, 15, .inl z0)), (q_2, .inl (cI, 15, .inl z0))] H := hP
  have hD : va_D A [(h, .inr (0, [.int 0, .ref q_1, .ref q_2])), (q_1, .inl (cI, 15, .inl z0)), (q_2, .inl (cI, 15, .inl z0))] := hD
  refine W.widen (k := rm_k_book_init.cells) (n := rm_k_book_init.slots) (Nat.le_of_ble_eq_true rfl) (Nat.le_of_ble_eq_true rfl) ?_
  exact hret ⟨q_1, q_2⟩ _ _ _ _ dX0_init_25 trivial hP hD hS
def rm_k_quarrel_init : Room := { frames := 1, cells := 0, slots := 0, locals := 16 }
set_option maxHeartbeats 4000000 in
set_option maxRecDepth 100000 in
theorem k_quarrel_init {l : Launch} {D : va_G} {cI cZ : ClassId} {sz : Nat} (h : Nat) : KV l yX4_init cX4_init 1 rm_k_quarrel_init D cI cZ [.ref h] sz [(h, .inr (4, [.int 0, .int 0, .int 0, .int 0, .int 0]))] (fun (_ : Unit) => True) (fun (_ : Unit) => [(h, .inr (4, [.int 0, .int 0, .int 0, .int 0, .int 0]))]) := by
  refine KV.go rfl (Nat.le_of_ble_eq_true rfl) ?_
  intro p e s m args below meth c ls A Q hx hb hml hts hown hin hP hK hD hS hA hN hl hret
  have hl : lv_has ls 1 [(0, .ref h)] := hl
  refine lv_aload_n hx hb dX4_init_0 rfl (lv_at hl 0 rfl) ?_
  refine W.objInit hx hb hown (hts _ wd_20) (hts _ wd_1) (hts _ wd_2) rfl (by rw [hml]; exact hl.1) rfl dX4_init_1 (Nat.le_of_ble_eq_true rfl) (Nat.le_of_ble_eq_true rfl) ?_
  refine W.eq (g2 := F0 m 4 ls []) rfl ?_
  refine lv_aload_n hx hb dX4_init_4 rfl (lv_at hl 0 rfl) ?_
  refine lv_iconst (v := 0) hx hb dX4_init_5 (by decide) ?_
  refine va_put (D := D) (ci := 4) (v := .int 0) (ty := .int) (C := RX4) (T := TX4) (N := 5) hx hb hts iX4 tyX4 tyX4_ok nmX4 hown hK hP hD hS 0 rfl rfl 0 (by decide) (hts _ wd_21) (fun _ h9 => h9) rfl (by decide +kernel) rfl rfl (Nat.le_of_ble_eq_true rfl) dX4_init_6 (fun H locs hP hD hS => ?_)
  have hP : va_P D classes [(h, .inr (4, [.int 0, .int 0, .int 0, .int 0, .int 0]))] H := hP
  have hD : va_D A [(h, .inr (4, [.int 0, .int 0, .int 0, .int 0, .int 0]))] := hD
  refine lv_aload_n hx hb dX4_init_9 rfl (lv_at hl 0 rfl) ?_
  refine lv_iconst (v := 0) hx hb dX4_init_10 (by decide) ?_
  refine va_put (D := D) (ci := 4) (v := .int 0) (ty := .int) (C := RX4) (T := TX4) (N := 5) hx hb hts iX4 tyX4 tyX4_ok nmX4 hown hK hP hD hS 0 rfl rfl 1 (by decide) (hts _ wd_22) (fun _ h9 => h9) rfl (by decide +kernel) rfl rfl (Nat.le_of_ble_eq_true rfl) dX4_init_11 (fun H locs hP hD hS => ?_)
  have hP : va_P D classes [(h, .inr (4, [.int 0, .int 0, .int 0, .int 0, .int 0]))] H := hP
  have hD : va_D A [(h, .inr (4, [.int 0, .int 0, .int 0, .int 0, .int 0]))] := hD
  refine lv_aload_n hx hb dX4_init_14 rfl (lv_at hl 0 rfl) ?_
  refine lv_iconst (v := 0) hx hb dX4_init_15 (by decide) ?_
  refine va_put (D := D) (ci := 4) (v := .int 0) (ty := .int) (C := RX4) (T := TX4) (N := 5) hx hb hts iX4 tyX4 tyX4_ok nmX4 hown hK hP hD hS 0 rfl rfl 2 (by decide) (hts _ wd_23) (fun _ h9 => h9) rfl (by decide +kernel) rfl rfl (Nat.le_of_ble_eq_true rfl) dX4_init_16 (fun H locs hP hD hS => ?_)
  have hP : va_P D classes [(h, .inr (4, [.int 0, .int 0, .int 0, .int 0, .int 0]))] H := hP
  have hD : va_D A [(h, .inr (4, [.int 0, .int 0, .int 0, .int 0, .int 0]))] := hD
  refine lv_aload_n hx hb dX4_init_19 rfl (lv_at hl 0 rfl) ?_
  refine lv_iconst (v := 0) hx hb dX4_init_20 (by decide) ?_
  refine va_put (D := D) (ci := 4) (v := .int 0) (ty := .boolean) (C := RX4) (T := TX4) (N := 5) hx hb hts iX4 tyX4 tyX4_ok nmX4 hown hK hP hD hS 0 rfl rfl 3 (by decide) (hts _ wd_24) (fun _ h9 => h9) rfl (by decide +kernel) rfl rfl (Nat.le_of_ble_eq_true rfl) dX4_init_21 (fun H locs hP hD hS => ?_)
  have hP : va_P D classes [(h, .inr (4, [.int 0, .int 0, .int 0, .int 0, .int 0]))] H := hP
  have hD : va_D A [(h, .inr (4, [.int 0, .int 0, .int 0, .int 0, .int 0]))] := hD
  refine lv_aload_n hx hb dX4_init_24 rfl (lv_at hl 0 rfl) ?_
  refine lv_iconst (v := 0) hx hb dX4_init_25 (by decide) ?_
  refine va_put (D := D) (ci := 4) (v := .int 0) (ty := .boolean) (C := RX4) (T := TX4) (N := 5) hx hb hts iX4 tyX4 tyX4_ok nmX4 hown hK hP hD hS 0 rfl rfl 4 (by decide) (hts _ wd_25) (fun _ h9 => h9) rfl (by decide +kernel) rfl rfl (Nat.le_of_ble_eq_true rfl) dX4_init_26 (fun H locs hP hD hS => ?_)
  have hP : va_P D classes [(h, .inr (4, [.int 0, .int 0, .int 0, .int 0, .int 0]))] H := hP
  have hD : va_D A [(h, .inr (4, [.int 0, .int 0, .int 0, .int 0, .int 0]))] := hD
  exact hret () _ _ _ _ dX4_init_29 trivial hP hD hS
def rm_k_pairing_init : Room := { frames := 1, cells := 3, slots := 164, locals := 16 }
set_option maxHeartbeats 4000000 in
set_option maxRecDepth 100000 in
theorem k_pairing_init {l : Launch} {D : va_G} {cI cZ : ClassId} {sz : Nat} (h : Nat) : KV l yX3_init cX3_init 1 rm_k_pairing_init D cI cZ [.ref h] sz [(h, .inr (3, [.null, .null, .null]))] (fun (_ : Nat × Nat × Nat) => True) (fun (u : Nat × Nat × Nat) => [(h, .inr (3, [.ref u.1, .ref u.2.1, .ref u.2.2])), (u.1, .inl (cI, 36, .inl z0)), (u.2.1, .inl (cI, 64, .inl z0)), (u.2.2, .inl (cI, 64, .inl z0))]) := by
  refine KV.go rfl (Nat.le_of_ble_eq_true rfl) ?_
  intro p e s m args below meth c ls A Q hx hb hml hts hown hin hP hK hD hS hA hN hl hret
  have hl : lv_has ls 1 [(0, .ref h)] := hl
  refine lv_aload_n hx hb dX3_init_0 rfl (lv_at hl 0 rfl) ?_
  refine W.objInit hx hb hown (hts _ wd_26) (hts _ wd_1) (hts _ wd_2) rfl (by rw [hml]; exact hl.1) rfl dX3_init_1 (Nat.le_of_ble_eq_true rfl) (Nat.le_of_ble_eq_true rfl) ?_
  refine W.eq (g2 := F0 m 4 ls []) rfl ?_
  refine lv_aload_n hx hb dX3_init_4 rfl (lv_at hl 0 rfl) ?_
  refine lv_bipush (v := 36) hx hb dX3_init_5 (by decide) ?_
  refine va_newa (atype := .int) (a0 := (36, .inl z0)) (N' := 36) (ty := .int) hx hb (hts _ wd_8) rfl hK hP hD hS hA (fun cA => z0_int 36 cA) (by decide +kernel) (by decide +kernel) (by decide +kernel) (Nat.le_of_ble_eq_true rfl) (Nat.le_of_ble_eq_true rfl) dX3_init_7 (fun q_1 cA_q_1 H hKn hP hD hS => ?_)
  obtain rfl := (K_int hKn).symm
  have hP : va_P D classes [(h, .inr (3, [.null, .null, .null])), (q_1, .inl (cI, 36, .inl z0))] H := hP
  have hD : va_D A [(h, .inr (3, [.null, .null, .null])), (q_1, .inl (cI, 36, .inl z0))] := hD
  refine W.widen (k := 1) (n := 36) (Nat.le_of_ble_eq_true rfl) (Nat.le_of_ble_eq_true rfl) ?_
  refine va_putF (D := D) (ci := 3) (v := .ref q_1) (ty := (.array .int)) (C := RX3) (T := TX3) (N := 3) hx hb hts iX3 tyX3 tyX3_ok nmX3 hown hK hP hD hS 0 rfl rfl 0 (by decide) (hts _ wd_27) (fun _ h9 => h9) rfl hin rfl (by decide +kernel) rfl rfl (Nat.le_of_ble_eq_true rfl) dX3_init_9 (fun H locs hP hD hS => ?_)
  have hP : va_P D classes [(h, .inr (3, [.ref q_1, .null, .null])), (q_1, .inl (cI, 36, .inl z0))] H := hP
  have hD : va_D A [(h, .inr (3, [.ref q_1, .null, .null])), (q_1, .inl (cI, 36, .inl z0))] := hD
  refine lv_aload_n hx hb dX3_init_12 rfl (lv_at hl 0 rfl) ?_
  refine lv_bipush (v := 64) hx hb dX3_init_13 (by decide) ?_
  refine va_newa (atype := .int) (a0 := (64, .inl z0)) (N' := 64) (ty := .int) hx hb (hts _ wd_8) rfl hK hP hD hS hA (fun cA => z0_int 64 cA) (by decide +kernel) (by decide +kernel) (by decide +kernel) (Nat.le_of_ble_eq_true rfl) (Nat.le_of_ble_eq_true rfl) dX3_init_15 (fun q_2 cA_q_2 H hKn hP hD hS => ?_)
  obtain rfl := (K_int hKn).symm
  have hP : va_P D classes [(h, .inr (3, [.ref q_1, .null, .null])), (q_1, .inl (cI, 36, .inl z0)), (q_2, .inl (cI, 64, .inl z0))] H := hP
  have hD : va_D A [(h, .inr (3, [.ref q_1, .null, .null])), (q_1, .inl (cI, 36, .inl z0)), (q_2, .inl (cI, 64, .inl z0))] := hD
  refine W.widen (k := 2) (n := 100) (Nat.le_of_ble_eq_true rfl) (Nat.le_of_ble_eq_true rfl) ?_
  refine va_putF (D := D) (ci := 3) (v := .ref q_2) (ty := (.array .int)) (C := RX3) (T := TX3) (N := 3) hx hb hts iX3 tyX3 tyX3_ok nmX3 hown hK hP hD hS 0 rfl rfl 1 (by decide) (hts _ wd_28) (fun _ h9 => h9) rfl hin rfl (by decide +kernel) rfl rfl (Nat.le_of_ble_eq_true rfl) dX3_init_17 (fun H locs hP hD hS => ?_)
  have hP : va_P D classes [(h, .inr (3, [.ref q_1, .ref q_2, .null])), (q_1, .inl (cI, 36, .inl z0)), (q_2, .inl (cI, 64, .inl z0))] H := hP
  have hD : va_D A [(h, .inr (3, [.ref q_1, .ref q_2, .null])), (q_1, .inl (cI, 36, .inl z0)), (q_2, .inl (cI, 64, .inl z0))] := hD
  refine lv_aload_n hx hb dX3_init_20 rfl (lv_at hl 0 rfl) ?_
  refine lv_bipush (v := 64) hx hb dX3_init_21 (by decide) ?_
  refine va_newa (atype := .int) (a0 := (64, .inl z0)) (N' := 64) (ty := .int) hx hb (hts _ wd_8) rfl hK hP hD hS hA (fun cA => z0_int 64 cA) (by decide +kernel) (by decide +kernel) (by decide +kernel) (Nat.le_of_ble_eq_true rfl) (Nat.le_of_ble_eq_true rfl) dX3_init_23 (fun q_3 cA_q_3 H hKn hP hD hS => ?_)
  obtain rfl := (K_int hKn).symm
  have hP : va_P D classes [(h, .inr (3, [.ref q_1, .ref q_2, .null])), (q_1, .inl (cI, 36, .inl z0)), (q_2, .inl (cI, 64, .inl z0)), (q_3, .inl (cI, 64, .inl z0))] H := hP
  have hD : va_D A [(h, .inr (3, [.ref q_1, .ref q_2, .null])), (q_1, .inl (cI, 36, .inl z0)), (q_2, .inl (cI, 64, .inl z0)), (q_3, .inl (cI, 64, .inl z0))] := hD
  refine W.widen (k := 3) (n := 164) (Nat.le_of_ble_eq_true rfl) (Nat.le_of_ble_eq_true rfl) ?_
  refine va_putF (D := D) (ci := 3) (v := .ref q_3) (ty := (.array .int)) (C := RX3) (T := TX3) (N := 3) hx hb hts iX3 tyX3 tyX3_ok nmX3 hown hK hP hD hS 0 rfl rfl 2 (by decide) (hts _ wd_29) (fun _ h9 => h9) rfl hin rfl (by decide +kernel) rfl rfl (Nat.le_of_ble_eq_true rfl) dX3_init_25 (fun H locs hP hD hS => ?_)
  have hP : va_P D classes [(h, .inr (3, [.ref q_1, .ref q_2, .ref q_3])), (q_1, .inl (cI, 36, .inl z0)), (q_2, .inl (cI, 64, .inl z0)), (q_3, .inl (cI, 64, .inl z0))] H := hP
  have hD : va_D A [(h, .inr (3, [.ref q_1, .ref q_2, .ref q_3])), (q_1, .inl (cI, 36, .inl z0)), (q_2, .inl (cI, 64, .inl z0)), (q_3, .inl (cI, 64, .inl z0))] := hD
  refine W.widen (k := rm_k_pairing_init.cells) (n := rm_k_pairing_init.slots) (Nat.le_of_ble_eq_true rfl) (Nat.le_of_ble_eq_true rfl) ?_
  exact hret ⟨q_1, q_2, q_3⟩ _ _ _ _ dX3_init_28 trivial hP hD hS
def rm_k_convoy_init : Room := { frames := 1, cells := 6, slots := 445, locals := 16 }
set_option maxHeartbeats 4000000 in
set_option maxRecDepth 100000 in
theorem k_convoy_init {l : Launch} {D : va_G} {cI cZ : ClassId} {sz : Nat} (h : Nat) : KV l yX1_init cX1_init 1 rm_k_convoy_init D cI cZ [.ref h] sz [(h, .inr (1, [.int 0, .null, .null, .null, .null, .null, .null, .int 0, .int 0, .null]))] (fun (_ : Nat × Nat × Nat × Nat × Nat × Nat) => True) (fun (u : Nat × Nat × Nat × Nat × Nat × Nat) => [(h, .inr (1, [.int 0, .ref u.1, .ref u.2.1, .ref u.2.2.1, .ref u.2.2.2.1, .ref u.2.2.2.2.1, .ref u.2.2.2.2.2, .int 0, .int 0, .null])), (u.1, .inl (cI, 7, .inl z0)), (u.2.1, .inl (cI, 6, .inl z0)), (u.2.2.1, .inl (cI, 48, .inl z0)), (u.2.2.2.1, .inl (cI, 128, .inl z0)), (u.2.2.2.2.1, .inl (cI, 128, .inl z0)), (u.2.2.2.2.2, .inl (cI, 128, .inl z0))]) := by
  refine KV.go rfl (Nat.le_of_ble_eq_true rfl) ?_
  intro p e s m args below meth c ls A Q hx hb hml hts hown hin hP hK hD hS hA hN hl hret
  have hl : lv_has ls 1 [(0, .ref h)] := hl
  refine lv_aload_n hx hb dX1_init_0 rfl (lv_at hl 0 rfl) ?_
  refine W.objInit hx hb hown (hts _ wd_30) (hts _ wd_1) (hts _ wd_2) rfl (by rw [hml]; exact hl.1) rfl dX1_init_1 (Nat.le_of_ble_eq_true rfl) (Nat.le_of_ble_eq_true rfl) ?_
  refine W.eq (g2 := F0 m 4 ls []) rfl ?_
  refine lv_aload_n hx hb dX1_init_4 rfl (lv_at hl 0 rfl) ?_
  refine lv_iconst (v := 0) hx hb dX1_init_5 (by decide) ?_
  refine va_put (D := D) (ci := 1) (v := .int 0) (ty := .int) (C := RX1) (T := TX1) (N := 10) hx hb hts iX1 tyX1 tyX1_ok nmX1 hown hK hP hD hS 0 rfl rfl 0 (by decide) (hts _ wd_31) (fun _ h9 => h9) rfl (by decide +kernel) rfl rfl (Nat.le_of_ble_eq_true rfl) dX1_init_6 (fun H locs hP hD hS => ?_)
  have hP : va_P D classes [(h, .inr (1, [.int 0, .null, .null, .null, .null, .null, .null, .int 0, .int 0, .null]))] H := hP
  have hD : va_D A [(h, .inr (1, [.int 0, .null, .null, .null, .null, .null, .null, .int 0, .int 0, .null]))] := hD
  refine lv_aload_n hx hb dX1_init_9 rfl (lv_at hl 0 rfl) ?_
  refine lv_bipush (v := 7) hx hb dX1_init_10 (by decide) ?_
  refine va_newa (atype := .int) (a0 := (7, .inl z0)) (N' := 7) (ty := .int) hx hb (hts _ wd_8) rfl hK hP hD hS hA (fun cA => z0_int 7 cA) (by decide +kernel) (by decide +kernel) (by decide +kernel) (Nat.le_of_ble_eq_true rfl) (Nat.le_of_ble_eq_true rfl) dX1_init_12 (fun q_1 cA_q_1 H hKn hP hD hS => ?_)
  obtain rfl := (K_int hKn).symm
  have hP : va_P D classes [(h, .inr (1, [.int 0, .null, .null, .null, .null, .null, .null, .int 0, .int 0, .null])), (q_1, .inl (cI, 7, .inl z0))] H := hP
  have hD : va_D A [(h, .inr (1, [.int 0, .null, .null, .null, .null, .null, .null, .int 0, .int 0, .null])), (q_1, .inl (cI, 7, .inl z0))] := hD
  refine W.widen (k := 1) (n := 7) (Nat.le_of_ble_eq_true rfl) (Nat.le_of_ble_eq_true rfl) ?_
  refine va_putF (D := D) (ci := 1) (v := .ref q_1) (ty := (.array .int)) (C := RX1) (T := TX1) (N := 10) hx hb hts iX1 tyX1 tyX1_ok nmX1 hown hK hP hD hS 0 rfl rfl 1 (by decide) (hts _ wd_32) (fun _ h9 => h9) rfl hin rfl (by decide +kernel) rfl rfl (Nat.le_of_ble_eq_true rfl) dX1_init_14 (fun H locs hP hD hS => ?_)
  have hP : va_P D classes [(h, .inr (1, [.int 0, .ref q_1, .null, .null, .null, .null, .null, .int 0, .int 0, .null])), (q_1, .inl (cI, 7, .inl z0))] H := hP
  have hD : va_D A [(h, .inr (1, [.int 0, .ref q_1, .null, .null, .null, .null, .null, .int 0, .int 0, .null])), (q_1, .inl (cI, 7, .inl z0))] := hD
  refine lv_aload_n hx hb dX1_init_17 rfl (lv_at hl 0 rfl) ?_
  refine lv_bipush (v := 6) hx hb dX1_init_18 (by decide) ?_
  refine va_newa (atype := .int) (a0 := (6, .inl z0)) (N' := 6) (ty := .int) hx hb (hts _ wd_8) rfl hK hP hD hS hA (fun cA => z0_int 6 cA) (by decide +kernel) (by decide +kernel) (by decide +kernel) (Nat.le_of_ble_eq_true rfl) (Nat.le_of_ble_eq_true rfl) dX1_init_20 (fun q_2 cA_q_2 H hKn hP hD hS => ?_)
  obtain rfl := (K_int hKn).symm
  have hP : va_P D classes [(h, .inr (1, [.int 0, .ref q_1, .null, .null, .null, .null, .null, .int 0, .int 0, .null])), (q_1, .inl (cI, 7, .inl z0)), (q_2, .inl (cI, 6, .inl z0))] H := hP
  have hD : va_D A [(h, .inr (1, [.int 0, .ref q_1, .null, .null, .null, .null, .null, .int 0, .int 0, .null])), (q_1, .inl (cI, 7, .inl z0)), (q_2, .inl (cI, 6, .inl z0))] := hD
  refine W.widen (k := 2) (n := 13) (Nat.le_of_ble_eq_true rfl) (Nat.le_of_ble_eq_true rfl) ?_
  refine va_putF (D := D) (ci := 1) (v := .ref q_2) (ty := (.array .int)) (C := RX1) (T := TX1) (N := 10) hx hb hts iX1 tyX1 tyX1_ok nmX1 hown hK hP hD hS 0 rfl rfl 2 (by decide) (hts _ wd_33) (fun _ h9 => h9) rfl hin rfl (by decide +kernel) rfl rfl (Nat.le_of_ble_eq_true rfl) dX1_init_22 (fun H locs hP hD hS => ?_)
  have hP : va_P D classes [(h, .inr (1, [.int 0, .ref q_1, .ref q_2, .null, .null, .null, .null, .int 0, .int 0, .null])), (q_1, .inl (cI, 7, .inl z0)), (q_2, .inl (cI, 6, .inl z0))] H := hP
  have hD : va_D A [(h, .inr (1, [.int 0, .ref q_1, .ref q_2, .null, .null, .null, .null, .int 0, .int 0, .null])), (q_1, .inl (cI, 7, .inl z0)), (q_2, .inl (cI, 6, .inl z0))] := hD
  refine lv_aload_n hx hb dX1_init_25 rfl (lv_at hl 0 rfl) ?_
  refine lv_bipush (v := 48) hx hb dX1_init_26 (by decide) ?_
  refine va_newa (atype := .int) (a0 := (48, .inl z0)) (N' := 48) (ty := .int) hx hb (hts _ wd_8) rfl hK hP hD hS hA (fun cA => z0_int 48 cA) (by decide +kernel) (by decide +kernel) (by decide +kernel) (Nat.le_of_ble_eq_true rfl) (Nat.le_of_ble_eq_true rfl) dX1_init_28 (fun q_3 cA_q_3 H hKn hP hD hS => ?_)
  obtain rfl := (K_int hKn).symm
  have hP : va_P D classes [(h, .inr (1, [.int 0, .ref q_1, .ref q_2, .null, .null, .null, .null, .int 0, .int 0, .null])), (q_1, .inl (cI, 7, .inl z0)), (q_2, .inl (cI, 6, .inl z0)), (q_3, .inl (cI, 48, .inl z0))] H := hP
  have hD : va_D A [(h, .inr (1, [.int 0, .ref q_1, .ref q_2, .null, .null, .null, .null, .int 0, .int 0, .null])), (q_1, .inl (cI, 7, .inl z0)), (q_2, .inl (cI, 6, .inl z0)), (q_3, .inl (cI, 48, .inl z0))] := hD
  refine W.widen (k := 3) (n := 61) (Nat.le_of_ble_eq_true rfl) (Nat.le_of_ble_eq_true rfl) ?_
  refine va_putF (D := D) (ci := 1) (v := .ref q_3) (ty := (.array .int)) (C := RX1) (T := TX1) (N := 10) hx hb hts iX1 tyX1 tyX1_ok nmX1 hown hK hP hD hS 0 rfl rfl 3 (by decide) (hts _ wd_34) (fun _ h9 => h9) rfl hin rfl (by decide +kernel) rfl rfl (Nat.le_of_ble_eq_true rfl) dX1_init_30 (fun H locs hP hD hS => ?_)
  have hP : va_P D classes [(h, .inr (1, [.int 0, .ref q_1, .ref q_2, .ref q_3, .null, .null, .null, .int 0, .int 0, .null])), (q_1, .inl (cI, 7, .inl z0)), (q_2, .inl (cI, 6, .inl z0)), (q_3, .inl (cI, 48, .inl z0))] H := hP
  have hD : va_D A [(h, .inr (1, [.int 0, .ref q_1, .ref q_2, .ref q_3, .null, .null, .null, .int 0, .int 0, .null])), (q_1, .inl (cI, 7, .inl z0)), (q_2, .inl (cI, 6, .inl z0)), (q_3, .inl (cI, 48, .inl z0))] := hD
  refine lv_aload_n hx hb dX1_init_33 rfl (lv_at hl 0 rfl) ?_
  refine lv_sipush (v := 128) hx hb dX1_init_34 (by decide) ?_
  refine va_newa (atype := .int) (a0 := (128, .inl z0)) (N' := 128) (ty := .int) hx hb (hts _ wd_8) rfl hK hP hD hS hA (fun cA => z0_int 128 cA) (by decide +kernel) (by decide +kernel) (by decide +kernel) (Nat.le_of_ble_eq_true rfl) (Nat.le_of_ble_eq_true rfl) dX1_init_37 (fun q_4 cA_q_4 H hKn hP hD hS => ?_)
  obtain rfl := (K_int hKn).symm
  have hP : va_P D classes [(h, .inr (1, [.int 0, .ref q_1, .ref q_2, .ref q_3, .null, .null, .null, .int 0, .int 0, .null])), (q_1, .inl (cI, 7, .inl z0)), (q_2, .inl (cI, 6, .inl z0)), (q_3, .inl (cI, 48, .inl z0)), (q_4, .inl (cI, 128, .inl z0))] H := hP
  have hD : va_D A [(h, .inr (1, [.int 0, .ref q_1, .ref q_2, .ref q_3, .null, .null, .null, .int 0, .int 0, .null])), (q_1, .inl (cI, 7, .inl z0)), (q_2, .inl (cI, 6, .inl z0)), (q_3, .inl (cI, 48, .inl z0)), (q_4, .inl (cI, 128, .inl z0))] := hD
  refine W.widen (k := 4) (n := 189) (Nat.le_of_ble_eq_true rfl) (Nat.le_of_ble_eq_true rfl) ?_
  refine va_putF (D := D) (ci := 1) (v := .ref q_4) (ty := (.array .int)) (C := RX1) (T := TX1) (N := 10) hx hb hts iX1 tyX1 tyX1_ok nmX1 hown hK hP hD hS 0 rfl rfl 4 (by decide) (hts _ wd_35) (fun _ h9 => h9) rfl hin rfl (by decide +kernel) rfl rfl (Nat.le_of_ble_eq_true rfl) dX1_init_39 (fun H locs hP hD hS => ?_)
  have hP : va_P D classes [(h, .inr (1, [.int 0, .ref q_1, .ref q_2, .ref q_3, .ref q_4, .null, .null, .int 0, .int 0, .null])), (q_1, .inl (cI, 7, .inl z0)), (q_2, .inl (cI, 6, .inl z0)), (q_3, .inl (cI, 48, .inl z0)), (q_4, .inl (cI, 128, .inl z0))] H := hP
  have hD : va_D A [(h, .inr (1, [.int 0, .ref q_1, .ref q_2, .ref q_3, .ref q_4, .null, .null, .int 0, .int 0, .null])), (q_1, .inl (cI, 7, .inl z0)), (q_2, .inl (cI, 6, .inl z0)), (q_3, .inl (cI, 48, .inl z0)), (q_4, .inl (cI, 128, .inl z0))] := hD
  refine lv_aload_n hx hb dX1_init_42 rfl (lv_at hl 0 rfl) ?_
  refine lv_sipush (v := 128) hx hb dX1_init_43 (by decide) ?_
  refine va_newa (atype := .int) (a0 := (128, .inl z0)) (N' := 128) (ty := .int) hx hb (hts _ wd_8) rfl hK hP hD hS hA (fun cA => z0_int 128 cA) (by decide +kernel) (by decide +kernel) (by decide +kernel) (Nat.le_of_ble_eq_true rfl) (Nat.le_of_ble_eq_true rfl) dX1_init_46 (fun q_5 cA_q_5 H hKn hP hD hS => ?_)
  obtain rfl := (K_int hKn).symm
  have hP : va_P D classes [(h, .inr (1, [.int 0, .ref q_1, .ref q_2, .ref q_3, .ref q_4, .null, .null, .int 0, .int 0, .null])), (q_1, .inl (cI, 7, .inl z0)), (q_2, .inl (cI, 6, .inl z0)), (q_3, .inl (cI, 48, .inl z0)), (q_4, .inl (cI, 128, .inl z0)), (q_5, .inl (cI, 128, .inl z0))] H := hP
  have hD : va_D A [(h, .inr (1, [.int 0, .ref q_1, .ref q_2, .ref q_3, .ref q_4, .null, .null, .int 0, .int 0, .null])), (q_1, .inl (cI, 7, .inl z0)), (q_2, .inl (cI, 6, .inl z0)), (q_3, .inl (cI, 48, .inl z0)), (q_4, .inl (cI, 128, .inl z0)), (q_5, .inl (cI, 128, .inl z0))] := hD
  refine W.widen (k := 5) (n := 317) (Nat.le_of_ble_eq_true rfl) (Nat.le_of_ble_eq_true rfl) ?_
  refine va_putF (D := D) (ci := 1) (v := .ref q_5) (ty := (.array .int)) (C := RX1) (T := TX1) (N := 10) hx hb hts iX1 tyX1 tyX1_ok nmX1 hown hK hP hD hS 0 rfl rfl 5 (by decide) (hts _ wd_36) (fun _ h9 => h9) rfl hin rfl (by decide +kernel) rfl rfl (Nat.le_of_ble_eq_true rfl) dX1_init_48 (fun H locs hP hD hS => ?_)
  have hP : va_P D classes [(h, .inr (1, [.int 0, .ref q_1, .ref q_2, .ref q_3, .ref q_4, .ref q_5, .null, .int 0, .int 0, .null])), (q_1, .inl (cI, 7, .inl z0)), (q_2, .inl (cI, 6, .inl z0)), (q_3, .inl (cI, 48, .inl z0)), (q_4, .inl (cI, 128, .inl z0)), (q_5, .inl (cI, 128, .inl z0))] H := hP
  have hD : va_D A [(h, .inr (1, [.int 0, .ref q_1, .ref q_2, .ref q_3, .ref q_4, .ref q_5, .null, .int 0, .int 0, .null])), (q_1, .inl (cI, 7, .inl z0)), (q_2, .inl (cI, 6, .inl z0)), (q_3, .inl (cI, 48, .inl z0)), (q_4, .inl (cI, 128, .inl z0)), (q_5, .inl (cI, 128, .inl z0))] := hD
  refine lv_aload_n hx hb dX1_init_51 rfl (lv_at hl 0 rfl) ?_
  refine lv_sipush (v := 128) hx hb dX1_init_52 (by decide) ?_
  refine va_newa (atype := .int) (a0 := (128, .inl z0)) (N' := 128) (ty := .int) hx hb (hts _ wd_8) rfl hK hP hD hS hA (fun cA => z0_int 128 cA) (by decide +kernel) (by decide +kernel) (by decide +kernel) (Nat.le_of_ble_eq_true rfl) (Nat.le_of_ble_eq_true rfl) dX1_init_55 (fun q_6 cA_q_6 H hKn hP hD hS => ?_)
  obtain rfl := (K_int hKn).symm
  have hP : va_P D classes [(h, .inr (1, [.int 0, .ref q_1, .ref q_2, .ref q_3, .ref q_4, .ref q_5, .null, .int 0, .int 0, .null])), (q_1, .inl (cI, 7, .inl z0)), (q_2, .inl (cI, 6, .inl z0)), (q_3, .inl (cI, 48, .inl z0)), (q_4, .inl (cI, 128, .inl z0)), (q_5, .inl (cI, 128, .inl z0)), (q_6, .inl (cI, 128, .inl z0))] H := hP
  have hD : va_D A [(h, .inr (1, [.int 0, .ref q_1, .ref q_2, .ref q_3, .ref q_4, .ref q_5, .null, .int 0, .int 0, .null])), (q_1, .inl (cI, 7, .inl z0)), (q_2, .inl (cI, 6, .inl z0)), (q_3, .inl (cI, 48, .inl z0)), (q_4, .inl (cI, 128, .inl z0)), (q_5, .inl (cI, 128, .inl z0)), (q_6, .inl (cI, 128, .inl z0))] := hD
  refine W.widen (k := 6) (n := 445) (Nat.le_of_ble_eq_true rfl) (Nat.le_of_ble_eq_true rfl) ?_
  refine va_putF (D := D) (ci := 1) (v := .ref q_6) (ty := (.array .int)) (C := RX1) (T := TX1) (N := 10) hx hb hts iX1 tyX1 tyX1_ok nmX1 hown hK hP hD hS 0 rfl rfl 6 (by decide) (hts _ wd_37) (fun _ h9 => h9) rfl hin rfl (by decide +kernel) rfl rfl (Nat.le_of_ble_eq_true rfl) dX1_init_57 (fun H locs hP hD hS => ?_)
  have hP : va_P D classes [(h, .inr (1, [.int 0, .ref q_1, .ref q_2, .ref q_3, .ref q_4, .ref q_5, .ref q_6, .int 0, .int 0, .null])), (q_1, .inl (cI, 7, .inl z0)), (q_2, .inl (cI, 6, .inl z0)), (q_3, .inl (cI, 48, .inl z0)), (q_4, .inl (cI, 128, .inl z0)), (q_5, .inl (cI, 128, .inl z0)), (q_6, .inl (cI, 128, .inl z0))] H := hP
  have hD : va_D A [(h, .inr (1, [.int 0, .ref q_1, .ref q_2, .ref q_3, .ref q_4, .ref q_5, .ref q_6, .int 0, .int 0, .null])), (q_1, .inl (cI, 7, .inl z0)), (q_2, .inl (cI, 6, .inl z0)), (q_3, .inl (cI, 48, .inl z0)), (q_4, .inl (cI, 128, .inl z0)), (q_5, .inl (cI, 128, .inl z0)), (q_6, .inl (cI, 128, .inl z0))] := hD
  refine lv_aload_n hx hb dX1_init_60 rfl (lv_at hl 0 rfl) ?_
  refine lv_iconst (v := 0) hx hb dX1_init_61 (by decide) ?_
  refine va_put (D := D) (ci := 1) (v := .int 0) (ty := .int) (C := RX1) (T := TX1) (N := 10) hx hb hts iX1 tyX1 tyX1_ok nmX1 hown hK hP hD hS 0 rfl rfl 7 (by decide) (hts _ wd_38) (fun _ h9 => h9) rfl (by decide +kernel) rfl rfl (Nat.le_of_ble_eq_true rfl) dX1_init_62 (fun H locs hP hD hS => ?_)
  have hP : va_P D classes [(h, .inr (1, [.int 0, .ref q_1, .ref q_2, .ref q_3, .ref q_4, .ref q_5, .ref q_6, .int 0, .int 0, .null])), (q_1, .inl (cI, 7, .inl z0)), (q_2, .inl (cI, 6, .inl z0)), (q_3, .inl (cI, 48, .inl z0)), (q_4, .inl (cI, 128, .inl z0)), (q_5, .inl (cI, 128, .inl z0)), (q_6, .inl (cI, 128, .inl z0))] H := hP
  have hD : va_D A [(h, .inr (1, [.int 0, .ref q_1, .ref q_2, .ref q_3, .ref q_4, .ref q_5, .ref q_6, .int 0, .int 0, .null])), (q_1, .inl (cI, 7, .inl z0)), (q_2, .inl (cI, 6, .inl z0)), (q_3, .inl (cI, 48, .inl z0)), (q_4, .inl (cI, 128, .inl z0)), (q_5, .inl (cI, 128, .inl z0)), (q_6, .inl (cI, 128, .inl z0))] := hD
  refine lv_aload_n hx hb dX1_init_65 rfl (lv_at hl 0 rfl) ?_
  refine lv_iconst (v := 0) hx hb dX1_init_66 (by decide) ?_
  refine va_put (D := D) (ci := 1) (v := .int 0) (ty := .int) (C := RX1) (T := TX1) (N := 10) hx hb hts iX1 tyX1 tyX1_ok nmX1 hown hK hP hD hS 0 rfl rfl 8 (by decide) (hts _ wd_39) (fun _ h9 => h9) rfl (by decide +kernel) rfl rfl (Nat.le_of_ble_eq_true rfl) dX1_init_67 (fun H locs hP hD hS => ?_)
  have hP : va_P D classes [(h, .inr (1, [.int 0, .ref q_1, .ref q_2, .ref q_3, .ref q_4, .ref q_5, .ref q_6, .int 0, .int 0, .null])), (q_1, .inl (cI, 7, .inl z0)), (q_2, .inl (cI, 6, .inl z0)), (q_3, .inl (cI, 48, .inl z0)), (q_4, .inl (cI, 128, .inl z0)), (q_5, .inl (cI, 128, .inl z0)), (q_6, .inl (cI, 128, .inl z0))] H := hP
  have hD : va_D A [(h, .inr (1, [.int 0, .ref q_1, .ref q_2, .ref q_3, .ref q_4, .ref q_5, .ref q_6, .int 0, .int 0, .null])), (q_1, .inl (cI, 7, .inl z0)), (q_2, .inl (cI, 6, .inl z0)), (q_3, .inl (cI, 48, .inl z0)), (q_4, .inl (cI, 128, .inl z0)), (q_5, .inl (cI, 128, .inl z0)), (q_6, .inl (cI, 128, .inl z0))] := hD
  refine lv_aload_n hx hb dX1_init_70 rfl (lv_at hl 0 rfl) ?_
  refine lv_null hx hb dX1_init_71 ?_
  refine va_put (D := D) (ci := 1) (v := .null) (ty := (.object "QuarrelBridges$Town")) (C := RX1) (T := TX1) (N := 10) hx hb hts iX1 tyX1 tyX1_ok nmX1 hown hK hP hD hS 0 rfl rfl 9 (by decide) (hts _ wd_40) (fun _ h9 => h9) rfl (by decide +kernel) rfl rfl (Nat.le_of_ble_eq_true rfl) dX1_init_72 (fun H locs hP hD hS => ?_)
  have hP : va_P D classes [(h, .inr (1, [.int 0, .ref q_1, .ref q_2, .ref q_3, .ref q_4, .ref q_5, .ref q_6, .int 0, .int 0, .null])), (q_1, .inl (cI, 7, .inl z0)), (q_2, .inl (cI, 6, .inl z0)), (q_3, .inl (cI, 48, .inl z0)), (q_4, .inl (cI, 128, .inl z0)), (q_5, .inl (cI, 128, .inl z0)), (q_6, .inl (cI, 128, .inl z0))] H := hP
  have hD : va_D A [(h, .inr (1, [.int 0, .ref q_1, .ref q_2, .ref q_3, .ref q_4, .ref q_5, .ref q_6, .int 0, .int 0, .null])), (q_1, .inl (cI, 7, .inl z0)), (q_2, .inl (cI, 6, .inl z0)), (q_3, .inl (cI, 48, .inl z0)), (q_4, .inl (cI, 128, .inl z0)), (q_5, .inl (cI, 128, .inl z0)), (q_6, .inl (cI, 128, .inl z0))] := hD
  refine W.widen (k := rm_k_convoy_init.cells) (n := rm_k_convoy_init.slots) (Nat.le_of_ble_eq_true rfl) (Nat.le_of_ble_eq_true rfl) ?_
  exact hret ⟨q_1, q_2, q_3, q_4, q_5, q_6⟩ _ _ _ _ dX1_init_75 trivial hP hD hS
def rm_k_reader_init : Room := { frames := 1, cells := 1, slots := 0, locals := 16 }
set_option maxHeartbeats 4000000 in
set_option maxRecDepth 100000 in
theorem k_reader_init {l : Launch} {D : va_G} {cI cZ : ClassId} {sz : Nat} (h : Nat) : KV l yX5_init cX5_init 1 rm_k_reader_init D cI cZ [.ref h] sz [(h, .inr (5, [.int 0, .int 0, .null, .int 0, .int 0, .int 0, .int 0]))] (fun (_ : Nat) => True) (fun (u : Nat) => [(h, .inr (5, [.int 0, .int (-1), .ref u, .int 0, .int 0, .int 0, .int 0])), (u, .inl (cI, 0, .inl z0))]) := by
  refine KV.go rfl (Nat.le_of_ble_eq_true rfl) ?_
  intro p e s m args below meth c ls A Q hx hb hml hts hown hin hP hK hD hS hA hN hl hret
  have hl : lv_has ls 1 [(0, .ref h)] := hl
  refine lv_aload_n hx hb dX5_init_0 rfl (lv_at hl 0 rfl) ?_
  refine W.objInit hx hb hown (hts _ wd_41) (hts _ wd_1) (hts _ wd_2) rfl (by rw [hml]; exact hl.1) rfl dX5_init_1 (Nat.le_of_ble_eq_true rfl) (Nat.le_of_ble_eq_true rfl) ?_
  refine W.eq (g2 := F0 m 4 ls []) rfl ?_
  refine lv_aload_n hx hb dX5_init_4 rfl (lv_at hl 0 rfl) ?_
  refine lv_iconst (v := 0) hx hb dX5_init_5 (by decide) ?_
  refine va_put (D := D) (ci := 5) (v := .int 0) (ty := .int) (C := RX5) (T := TX5) (N := 7) hx hb hts iX5 tyX5 tyX5_ok nmX5 hown hK hP hD hS 0 rfl rfl 0 (by decide) (hts _ wd_42) (fun _ h9 => h9) rfl (by decide +kernel) rfl rfl (Nat.le_of_ble_eq_true rfl) dX5_init_6 (fun H locs hP hD hS => ?_)
  have hP : va_P D classes [(h, .inr (5, [.int 0, .int 0, .null, .int 0, .int 0, .int 0, .int 0]))] H := hP
  have hD : va_D A [(h, .inr (5, [.int 0, .int 0, .null, .int 0, .int 0, .int 0, .int 0]))] := hD
  refine lv_aload_n hx hb dX5_init_9 rfl (lv_at hl 0 rfl) ?_
  refine lv_iconst (v := (-1)) hx hb dX5_init_10 (by decide) ?_
  refine va_put (D := D) (ci := 5) (v := .int (-1)) (ty := .int) (C := RX5) (T := TX5) (N := 7) hx hb hts iX5 tyX5 tyX5_ok nmX5 hown hK hP hD hS 0 rfl rfl 1 (by decide) (hts _ wd_43) (fun _ h9 => h9) rfl (by decide +kernel) rfl rfl (Nat.le_of_ble_eq_true rfl) dX5_init_11 (fun H locs hP hD hS => ?_)
  have hP : va_P D classes [(h, .inr (5, [.int 0, .int (-1), .null, .int 0, .int 0, .int 0, .int 0]))] H := hP
  have hD : va_D A [(h, .inr (5, [.int 0, .int (-1), .null, .int 0, .int 0, .int 0, .int 0]))] := hD
  refine lv_aload_n hx hb dX5_init_14 rfl (lv_at hl 0 rfl) ?_
  refine lv_iconst (v := 0) hx hb dX5_init_15 (by decide) ?_
  refine va_newa (atype := .int) (a0 := (0, .inl z0)) (N' := 0) (ty := .int) hx hb (hts _ wd_8) rfl hK hP hD hS hA (fun cA => z0_int 0 cA) (by decide +kernel) (by decide +kernel) (by decide +kernel) (Nat.le_of_ble_eq_true rfl) (Nat.le_of_ble_eq_true rfl) dX5_init_16 (fun q_1 cA_q_1 H hKn hP hD hS => ?_)
  obtain rfl := (K_int hKn).symm
  have hP : va_P D classes [(h, .inr (5, [.int 0, .int (-1), .null, .int 0, .int 0, .int 0, .int 0])), (q_1, .inl (cI, 0, .inl z0))] H := hP
  have hD : va_D A [(h, .inr (5, [.int 0, .int (-1), .null, .int 0, .int 0, .int 0, .int 0])), (q_1, .inl (cI, 0, .inl z0))] := hD
  refine W.widen (k := 1) (n := 0) (Nat.le_of_ble_eq_true rfl) (Nat.le_of_ble_eq_true rfl) ?_
  refine va_put (D := D) (ci := 5) (v := .ref q_1) (ty := (.array .int)) (C := RX5) (T := TX5) (N := 7) hx hb hts iX5 tyX5 tyX5_ok nmX5 hown hK hP hD hS 0 rfl rfl 2 (by decide) (hts _ wd_44) (fun _ h9 => h9) rfl (by decide +kernel) rfl rfl (Nat.le_of_ble_eq_true rfl) dX5_init_18 (fun H locs hP hD hS => ?_)
  have hP : va_P D classes [(h, .inr (5, [.int 0, .int (-1), .ref q_1, .int 0, .int 0, .int 0, .int 0])), (q_1, .inl (cI, 0, .inl z0))] H := hP
  have hD : va_D A [(h, .inr (5, [.int 0, .int (-1), .ref q_1, .int 0, .int 0, .int 0, .int 0])), (q_1, .inl (cI, 0, .inl z0))] := hD
  refine lv_aload_n hx hb dX5_init_21 rfl (lv_at hl 0 rfl) ?_
  refine lv_iconst (v := 0) hx hb dX5_init_22 (by decide) ?_
  refine va_put (D := D) (ci := 5) (v := .int 0) (ty := .int) (C := RX5) (T := TX5) (N := 7) hx hb hts iX5 tyX5 tyX5_ok nmX5 hown hK hP hD hS 0 rfl rfl 3 (by decide) (hts _ wd_45) (fun _ h9 => h9) rfl (by decide +kernel) rfl rfl (Nat.le_of_ble_eq_true rfl) dX5_init_23 (fun H locs hP hD hS => ?_)
  have hP : va_P D classes [(h, .inr (5, [.int 0, .int (-1), .ref q_1, .int 0, .int 0, .int 0, .int 0])), (q_1, .inl (cI, 0, .inl z0))] H := hP
  have hD : va_D A [(h, .inr (5, [.int 0, .int (-1), .ref q_1, .int 0, .int 0, .int 0, .int 0])), (q_1, .inl (cI, 0, .inl z0))] := hD
  refine lv_aload_n hx hb dX5_init_26 rfl (lv_at hl 0 rfl) ?_
  refine lv_iconst (v := 0) hx hb dX5_init_27 (by decide) ?_
  refine va_put (D := D) (ci := 5) (v := .int 0) (ty := .int) (C := RX5) (T := TX5) (N := 7) hx hb hts iX5 tyX5 tyX5_ok nmX5 hown hK hP hD hS 0 rfl rfl 4 (by decide) (hts _ wd_46) (fun _ h9 => h9) rfl (by decide +kernel) rfl rfl (Nat.le_of_ble_eq_true rfl) dX5_init_28 (fun H locs hP hD hS => ?_)
  have hP : va_P D classes [(h, .inr (5, [.int 0, .int (-1), .ref q_1, .int 0, .int 0, .int 0, .int 0])), (q_1, .inl (cI, 0, .inl z0))] H := hP
  have hD : va_D A [(h, .inr (5, [.int 0, .int (-1), .ref q_1, .int 0, .int 0, .int 0, .int 0])), (q_1, .inl (cI, 0, .inl z0))] := hD
  refine lv_aload_n hx hb dX5_init_31 rfl (lv_at hl 0 rfl) ?_
  refine lv_iconst (v := 0) hx hb dX5_init_32 (by decide) ?_
  refine va_put (D := D) (ci := 5) (v := .int 0) (ty := .boolean) (C := RX5) (T := TX5) (N := 7) hx hb hts iX5 tyX5 tyX5_ok nmX5 hown hK hP hD hS 0 rfl rfl 5 (by decide) (hts _ wd_47) (fun _ h9 => h9) rfl (by decide +kernel) rfl rfl (Nat.le_of_ble_eq_true rfl) dX5_init_33 (fun H locs hP hD hS => ?_)
  have hP : va_P D classes [(h, .inr (5, [.int 0, .int (-1), .ref q_1, .int 0, .int 0, .int 0, .int 0])), (q_1, .inl (cI, 0, .inl z0))] H := hP
  have hD : va_D A [(h, .inr (5, [.int 0, .int (-1), .ref q_1, .int 0, .int 0, .int 0, .int 0])), (q_1, .inl (cI, 0, .inl z0))] := hD
  refine lv_aload_n hx hb dX5_init_36 rfl (lv_at hl 0 rfl) ?_
  refine lv_iconst (v := 0) hx hb dX5_init_37 (by decide) ?_
  refine va_put (D := D) (ci := 5) (v := .int 0) (ty := .boolean) (C := RX5) (T := TX5) (N := 7) hx hb hts iX5 tyX5 tyX5_ok nmX5 hown hK hP hD hS 0 rfl rfl 6 (by decide) (hts _ wd_48) (fun _ h9 => h9) rfl (by decide +kernel) rfl rfl (Nat.le_of_ble_eq_true rfl) dX5_init_38 (fun H locs hP hD hS => ?_)
  have hP : va_P D classes [(h, .inr (5, [.int 0, .int (-1), .ref q_1, .int 0, .int 0, .int 0, .int 0])), (q_1, .inl (cI, 0, .inl z0))] H := hP
  have hD : va_D A [(h, .inr (5, [.int 0, .int (-1), .ref q_1, .int 0, .int 0, .int 0, .int 0])), (q_1, .inl (cI, 0, .inl z0))] := hD
  refine W.widen (k := rm_k_reader_init.cells) (n := rm_k_reader_init.slots) (Nat.le_of_ble_eq_true rfl) (Nat.le_of_ble_eq_true rfl) ?_
  exact hret q_1 _ _ _ _ dX5_init_41 trivial hP hD hS
def rm_k_shelf_init20 : Room := { frames := 1, cells := 1, slots := 820, locals := 30 }
set_option maxHeartbeats 4000000 in
set_option maxRecDepth 100000 in
theorem k_shelf_init20 {l : Launch} {D : va_G} {cI cZ : ClassId} {sz : Nat} (h : Nat) : KV l yX6_init cX6_init 2 rm_k_shelf_init20 D cI cZ [.ref h, .int 20] sz [(h, .inr (6, [.int 0, .null]))] (fun (_ : Nat) => True) (fun (u : Nat) => [(h, .inr (6, [.int 20, .ref u])), (u, .inl (cI, 820, .inl z0))]) := by
  refine KV.go rfl (Nat.le_of_ble_eq_true rfl) ?_
  intro p e s m args below meth c ls A Q hx hb hml hts hown hin hP hK hD hS hA hN hl hret
  have hl : lv_has ls 2 [(0, .ref h), (1, .int 20)] := hl
  refine lv_aload_n hx hb dX6_init_0 rfl (lv_at hl 0 rfl) ?_
  refine W.objInit hx hb hown (hts _ wd_49) (hts _ wd_1) (hts _ wd_2) rfl (by rw [hml]; exact hl.1) rfl dX6_init_1 (Nat.le_of_ble_eq_true rfl) (Nat.le_of_ble_eq_true rfl) ?_
  refine W.eq (g2 := F0 m 4 ls []) rfl ?_
  refine lv_aload_n hx hb dX6_init_4 rfl (lv_at hl 0 rfl) ?_
  refine lv_iconst (v := 0) hx hb dX6_init_5 (by decide) ?_
  refine lv_iload_n hx hb dX6_init_6 rfl (lv_at hl 1 rfl) ?_
  refine va_mmax hx hb (by rw [hml]; exact hl.1.symm) hown (hts _ wd_50) (hts _ wd_51) (hts _ wd_52) (hts _ wd_53) (Nat.le_of_ble_eq_true rfl) (Nat.le_of_ble_eq_true rfl) (Nat.le_of_ble_eq_true rfl) (Nat.le_of_ble_eq_true rfl) dX6_init_7 ?_
  refine lv_topi (fun z_1 ez_1 => ?_)
  obtain rfl : z_1 = 20 := ez_1.trans (by decide +kernel)
  refine va_putF (D := D) (ci := 6) (v := .int 20) (ty := .int) (C := RX6) (T := TX6) (N := 2) hx hb hts iX6 tyX6 tyX6_ok nmX6 hown hK hP hD hS 0 rfl rfl 0 (by decide) (hts _ wd_54) (fun _ h9 => h9) rfl hin rfl (by decide +kernel) rfl rfl (Nat.le_of_ble_eq_true rfl) dX6_init_10 (fun H locs hP hD hS => ?_)
  have hP : va_P D classes [(h, .inr (6, [.int 20, .null]))] H := hP
  have hD : va_D A [(h, .inr (6, [.int 20, .null]))] := hD
  refine lv_aload_n hx hb dX6_init_13 rfl (lv_at hl 0 rfl) ?_
  refine lv_aload_n hx hb dX6_init_14 rfl (lv_at hl 0 rfl) ?_
  refine va_get (D := D) (ci := 6) (v := .int 20) (C := RX6) (T := TX6) (N := 2) hx hb hts iX6 hown hK hP 0 rfl rfl 0 (by decide) (hts _ wd_54) (fun _ h9 => h9) rfl dX6_init_15 ?_
  refine lv_bipush (v := 41) hx hb dX6_init_18 (by decide) ?_
  refine lv_imul hx hb dX6_init_20 ?_
  refine lv_topi (fun z_2 ez_2 => ?_)
  obtain rfl : z_2 = 820 := ez_2.trans (by decide +kernel)
  refine va_newa (atype := .int) (a0 := (820, .inl z0)) (N' := 820) (ty := .int) hx hb (hts _ wd_8) rfl hK hP hD hS hA (fun cA => z0_int 820 cA) (by decide +kernel) (by decide +kernel) (by decide +kernel) (Nat.le_of_ble_eq_true rfl) (Nat.le_of_ble_eq_true rfl) dX6_init_21 (fun q_3 cA_q_3 H hKn hP hD hS => ?_)
  obtain rfl := (K_int hKn).symm
  have hP : va_P D classes [(h, .inr (6, [.int 20, .null])), (q_3, .inl (cI, 820, .inl z0))] H := hP
  have hD : va_D A [(h, .inr (6, [.int 20, .null])), (q_3, .inl (cI, 820, .inl z0))] := hD
  refine W.widen (k := 1) (n := 820) (Nat.le_of_ble_eq_true rfl) (Nat.le_of_ble_eq_true rfl) ?_
  refine va_putF (D := D) (ci := 6) (v := .ref q_3) (ty := (.array .int)) (C := RX6) (T := TX6) (N := 2) hx hb hts iX6 tyX6 tyX6_ok nmX6 hown hK hP hD hS 0 rfl rfl 1 (by decide) (hts _ wd_55) (fun _ h9 => h9) rfl hin rfl (by decide +kernel) rfl rfl (Nat.le_of_ble_eq_true rfl) dX6_init_23 (fun H locs hP hD hS => ?_)
  have hP : va_P D classes [(h, .inr (6, [.int 20, .ref q_3])), (q_3, .inl (cI, 820, .inl z0))] H := hP
  have hD : va_D A [(h, .inr (6, [.int 20, .ref q_3])), (q_3, .inl (cI, 820, .inl z0))] := hD
  refine W.widen (k := rm_k_shelf_init20.cells) (n := rm_k_shelf_init20.slots) (Nat.le_of_ble_eq_true rfl) (Nat.le_of_ble_eq_true rfl) ?_
  exact hret q_3 _ _ _ _ dX6_init_26 trivial hP hD hS
def rm_k_shelf_init2 : Room := { frames := 1, cells := 1, slots := 82, locals := 30 }
set_option maxHeartbeats 4000000 in
set_option maxRecDepth 100000 in
theorem k_shelf_init2 {l : Launch} {D : va_G} {cI cZ : ClassId} {sz : Nat} (h : Nat) : KV l yX6_init cX6_init 2 rm_k_shelf_init2 D cI cZ [.ref h, .int 2] sz [(h, .inr (6, [.int 0, .null]))] (fun (_ : Nat) => True) (fun (u : Nat) => [(h, .inr (6, [.int 2, .ref u])), (u, .inl (cI, 82, .inl z0))]) := by
  refine KV.go rfl (Nat.le_of_ble_eq_true rfl) ?_
  intro p e s m args below meth c ls A Q hx hb hml hts hown hin hP hK hD hS hA hN hl hret
  have hl : lv_has ls 2 [(0, .ref h), (1, .int 2)] := hl
  refine lv_aload_n hx hb dX6_init_0 rfl (lv_at hl 0 rfl) ?_
  refine W.objInit hx hb hown (hts _ wd_49) (hts _ wd_1) (hts _ wd_2) rfl (by rw [hml]; exact hl.1) rfl dX6_init_1 (Nat.le_of_ble_eq_true rfl) (Nat.le_of_ble_eq_true rfl) ?_
  refine W.eq (g2 := F0 m 4 ls []) rfl ?_
  refine lv_aload_n hx hb dX6_init_4 rfl (lv_at hl 0 rfl) ?_
  refine lv_iconst (v := 0) hx hb dX6_init_5 (by decide) ?_
  refine lv_iload_n hx hb dX6_init_6 rfl (lv_at hl 1 rfl) ?_
  refine va_mmax hx hb (by rw [hml]; exact hl.1.symm) hown (hts _ wd_50) (hts _ wd_51) (hts _ wd_52) (hts _ wd_53) (Nat.le_of_ble_eq_true rfl) (Nat.le_of_ble_eq_true rfl) (Nat.le_of_ble_eq_true rfl) (Nat.le_of_ble_eq_true rfl) dX6_init_7 ?_
  refine lv_topi (fun z_1 ez_1 => ?_)
  obtain rfl : z_1 = 2 := ez_1.trans (by decide +kernel)
  refine va_putF (D := D) (ci := 6) (v := .int 2) (ty := .int) (C := RX6) (T := TX6) (N := 2) hx hb hts iX6 tyX6 tyX6_ok nmX6 hown hK hP hD hS 0 rfl rfl 0 (by decide) (hts _ wd_54) (fun _ h9 => h9) rfl hin rfl (by decide +kernel) rfl rfl (Nat.le_of_ble_eq_true rfl) dX6_init_10 (fun H locs hP hD hS => ?_)
  have hP : va_P D classes [(h, .inr (6, [.int 2, .null]))] H := hP
  have hD : va_D A [(h, .inr (6, [.int 2, .null]))] := hD
  refine lv_aload_n hx hb dX6_init_13 rfl (lv_at hl 0 rfl) ?_
  refine lv_aload_n hx hb dX6_init_14 rfl (lv_at hl 0 rfl) ?_
  refine va_get (D := D) (ci := 6) (v := .int 2) (C := RX6) (T := TX6) (N := 2) hx hb hts iX6 hown hK hP 0 rfl rfl 0 (by decide) (hts _ wd_54) (fun _ h9 => h9) rfl dX6_init_15 ?_
  refine lv_bipush (v := 41) hx hb dX6_init_18 (by decide) ?_
  refine lv_imul hx hb dX6_init_20 ?_
  refine lv_topi (fun z_2 ez_2 => ?_)
  obtain rfl : z_2 = 82 := ez_2.trans (by decide +kernel)
  refine va_newa (atype := .int) (a0 := (82, .inl z0)) (N' := 82) (ty := .int) hx hb (hts _ wd_8) rfl hK hP hD hS hA (fun cA => z0_int 82 cA) (by decide +kernel) (by decide +kernel) (by decide +kernel) (Nat.le_of_ble_eq_true rfl) (Nat.le_of_ble_eq_true rfl) dX6_init_21 (fun q_3 cA_q_3 H hKn hP hD hS => ?_)
  obtain rfl := (K_int hKn).symm
  have hP : va_P D classes [(h, .inr (6, [.int 2, .null])), (q_3, .inl (cI, 82, .inl z0))] H := hP
  have hD : va_D A [(h, .inr (6, [.int 2, .null])), (q_3, .inl (cI, 82, .inl z0))] := hD
  refine W.widen (k := 1) (n := 82) (Nat.le_of_ble_eq_true rfl) (Nat.le_of_ble_eq_true rfl) ?_
  refine va_putF (D := D) (ci := 6) (v := .ref q_3) (ty := (.array .int)) (C := RX6) (T := TX6) (N := 2) hx hb hts iX6 tyX6 tyX6_ok nmX6 hown hK hP hD hS 0 rfl rfl 1 (by decide) (hts _ wd_55) (fun _ h9 => h9) rfl hin rfl (by decide +kernel) rfl rfl (Nat.le_of_ble_eq_true rfl) dX6_init_23 (fun H locs hP hD hS => ?_)
  have hP : va_P D classes [(h, .inr (6, [.int 2, .ref q_3])), (q_3, .inl (cI, 82, .inl z0))] H := hP
  have hD : va_D A [(h, .inr (6, [.int 2, .ref q_3])), (q_3, .inl (cI, 82, .inl z0))] := hD
  refine W.widen (k := rm_k_shelf_init2.cells) (n := rm_k_shelf_init2.slots) (Nat.le_of_ble_eq_true rfl) (Nat.le_of_ble_eq_true rfl) ?_
  exact hret q_3 _ _ _ _ dX6_init_26 trivial hP hD hS
def rm_k_history_init : Room := { frames := 2, cells := 2, slots := 822, locals := 51 }
set_option maxHeartbeats 4000000 in
set_option maxRecDepth 100000 in
theorem k_history_init {l : Launch} {D : va_G} {cI cZ : ClassId} {sz : Nat} (h : Nat) : KV l yX2_init cX2_init 1 rm_k_history_init D cI cZ [.ref h] sz [(h, .inr (2, [.null, .int 0, .int 0]))] (fun (_ : Nat × Nat) => True) (fun (u : Nat × Nat) => [(h, .inr (2, [.ref u.1, .int 0, .int 0])), (u.1, .inr (6, [.int 20, .ref u.2])), (u.2, .inl (cI, 820, .inl z0))]) := by
  refine KV.go rfl (Nat.le_of_ble_eq_true rfl) ?_
  intro p e s m args below meth c ls A Q hx hb hml hts hown hin hP hK hD hS hA hN hl hret
  have hl : lv_has ls 1 [(0, .ref h)] := hl
  refine lv_aload_n hx hb dX2_init_0 rfl (lv_at hl 0 rfl) ?_
  refine W.objInit hx hb hown (hts _ wd_56) (hts _ wd_1) (hts _ wd_2) rfl (by rw [hml]; exact hl.1) rfl dX2_init_1 (Nat.le_of_ble_eq_true rfl) (Nat.le_of_ble_eq_true rfl) ?_
  refine W.eq (g2 := F0 m 4 ls []) rfl ?_
  refine lv_aload_n hx hb dX2_init_4 rfl (lv_at hl 0 rfl) ?_
  refine va_new (ci := 6) (fs := [.int 0, .null]) (C := RX6) (T := TX6) (N := 2) hx hb hts iX6 tyX6 tyX6_ok hown (hts _ wd_57) (hts _ wd_58) (hts _ wd_59) hK hP hD hS hA rfl (by decide +kernel) (Nat.le_of_ble_eq_true rfl) (Nat.le_of_ble_eq_true rfl) dX2_init_5 (fun q_1 H hP hD hS => ?_)
  have hP : va_P D classes [(h, .inr (2, [.null, .int 0, .int 0])), (q_1, .inr (6, [.int 0, .null]))] H := hP
  have hD : va_D A [(h, .inr (2, [.null, .int 0, .int 0])), (q_1, .inr (6, [.int 0, .null]))] := hD
  refine W.widen (k := 1) (n := 2) (Nat.le_of_ble_eq_true rfl) (Nat.le_of_ble_eq_true rfl) ?_
  refine lv_dup hx hb dX2_init_8 rfl ?_
  refine lv_bipush (v := 20) hx hb dX2_init_9 (by decide) ?_
  refine cIv (wr := [(h, .inr (2, [.null, .int 0, .int 0]))]) (rest := [.ref q_1, .ref h]) (k_shelf_init20 q_1) okI_X6_init wd_60 hx hb hml hown hts hK hP hD hS hA hN hl.1 [1] [0] rfl rfl rfl rfl (by decide) rfl (Nat.le_of_ble_eq_true rfl) (Nat.le_of_ble_eq_true rfl) (Nat.le_of_ble_eq_true rfl) (Nat.le_of_ble_eq_true rfl) (Nat.le_of_ble_eq_true rfl) dX2_init_11 (fun u_2 H locs hw_u_2 hP hD hS => ?_)
  refine W.widen (k := 2) (n := 822) (Nat.le_of_ble_eq_true rfl) (Nat.le_of_ble_eq_true rfl) ?_
  have hP : va_P D classes [(h, .inr (2, [.null, .int 0, .int 0])), (q_1, .inr (6, [.int 20, .ref u_2])), (u_2, .inl (cI, 820, .inl z0))] H := hP
  have hD : va_D A [(h, .inr (2, [.null, .int 0, .int 0])), (q_1, .inr (6, [.int 20, .ref u_2])), (u_2, .inl (cI, 820, .inl z0))] := hD
  refine va_putF (D := D) (ci := 2) (v := .ref q_1) (ty := (.object "QuarrelBridges$Shelf")) (C := RX2) (T := TX2) (N := 3) hx hb hts iX2 tyX2 tyX2_ok nmX2 hown hK hP hD hS 0 rfl rfl 0 (by decide) (hts _ wd_63) (fun _ h9 => h9) rfl hin rfl (by decide +kernel) rfl rfl (Nat.le_of_ble_eq_true rfl) dX2_init_14 (fun H locs hP hD hS => ?_)
  have hP : va_P D classes [(h, .inr (2, [.ref q_1, .int 0, .int 0])), (q_1, .inr (6, [.int 20, .ref u_2])), (u_2, .inl (cI, 820, .inl z0))] H := hP
  have hD : va_D A [(h, .inr (2, [.ref q_1, .int 0, .int 0])), (q_1, .inr (6, [.int 20, .ref u_2])), (u_2, .inl (cI, 820, .inl z0))] := hD
  refine lv_aload_n hx hb dX2_init_17 rfl (lv_at hl 0 rfl) ?_
  refine lv_iconst (v := 0) hx hb dX2_init_18 (by decide) ?_
  refine va_put (D := D) (ci := 2) (v := .int 0) (ty := .int) (C := RX2) (T := TX2) (N := 3) hx hb hts iX2 tyX2 tyX2_ok nmX2 hown hK hP hD hS 0 rfl rfl 1 (by decide) (hts _ wd_64) (fun _ h9 => h9) rfl (by decide +kernel) rfl rfl (Nat.le_of_ble_eq_true rfl) dX2_init_19 (fun H locs hP hD hS => ?_)
  have hP : va_P D classes [(h, .inr (2, [.ref q_1, .int 0, .int 0])), (q_1, .inr (6, [.int 20, .ref u_2])), (u_2, .inl (cI, 820, .inl z0))] H := hP
  have hD : va_D A [(h, .inr (2, [.ref q_1, .int 0, .int 0])), (q_1, .inr (6, [.int 20, .ref u_2])), (u_2, .inl (cI, 820, .inl z0))] := hD
  refine lv_aload_n hx hb dX2_init_22 rfl (lv_at hl 0 rfl) ?_
  refine lv_iconst (v := 0) hx hb dX2_init_23 (by decide) ?_
  refine va_put (D := D) (ci := 2) (v := .int 0) (ty := .int) (C := RX2) (T := TX2) (N := 3) hx hb hts iX2 tyX2 tyX2_ok nmX2 hown hK hP hD hS 0 rfl rfl 2 (by decide) (hts _ wd_65) (fun _ h9 => h9) rfl (by decide +kernel) rfl rfl (Nat.le_of_ble_eq_true rfl) dX2_init_24 (fun H locs hP hD hS => ?_)
  have hP : va_P D classes [(h, .inr (2, [.ref q_1, .int 0, .int 0])), (q_1, .inr (6, [.int 20, .ref u_2])), (u_2, .inl (cI, 820, .inl z0))] H := hP
  have hD : va_D A [(h, .inr (2, [.ref q_1, .int 0, .int 0])), (q_1, .inr (6, [.int 20, .ref u_2])), (u_2, .inl (cI, 820, .inl z0))] := hD
  refine W.widen (k := rm_k_history_init.cells) (n := rm_k_history_init.slots) (Nat.le_of_ble_eq_true rfl) (Nat.le_of_ble_eq_true rfl) ?_
  exact hret ⟨q_1, u_2⟩ _ _ _ _ dX2_init_27 trivial hP hD hS
