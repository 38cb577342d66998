theorem dX10_takesThemes_0 : decode cX10_takesThemes 0 = .ok (.aload_n 0, 1) := by decide +kernel
theorem dX10_takesThemes_1 : decode cX10_takesThemes 1 = .ok (.iconst 1, 1) := by decide +kernel
theorem wd_533 : Cond.fieldLink RX10 132 "QuarrelBridgesModel" "hasThemes" "Z" ∈ BG := BG_at 805 (by decide +kernel) rfl
theorem dX10_takesThemes_2 : decode cX10_takesThemes 2 = .ok (.putfield 132, 3) := by decide +kernel
theorem dX10_takesThemes_5 : decode cX10_takesThemes 5 = .ok (.aload_n 0, 1) := by decide +kernel
theorem dX10_takesThemes_6 : decode cX10_takesThemes 6 = .ok (.iconst 1, 1) := by decide +kernel
theorem dX10_takesThemes_7 : decode cX10_takesThemes 7 = .ok (.iconst 5, 1) := by decide +kernel
theorem dX10_takesThemes_8 : decode cX10_takesThemes 8 = .ok (.invokevirtual 129, 3) := by decide +kernel
theorem dX10_takesThemes_11 : decode cX10_takesThemes 11 = .ok (.ifCond .ne 5, 3) := by decide +kernel
theorem dX10_takesThemes_16 : decode cX10_takesThemes 16 = .ok (.aload_n 0, 1) := by decide +kernel
theorem dX10_takesThemes_17 : decode cX10_takesThemes 17 = .ok (.aload_n 0, 1) := by decide +kernel
theorem dX10_takesThemes_18 : decode cX10_takesThemes 18 = .ok (.getfield 123, 3) := by decide +kernel
theorem wd_534 : Cond.fieldLink RX10 136 "QuarrelBridgesModel" "readThemes" "I" ∈ BG := BG_at 804 (by decide +kernel) rfl
theorem dX10_takesThemes_21 : decode cX10_takesThemes 21 = .ok (.putfield 136, 3) := by decide +kernel
theorem dX10_takesThemes_24 : decode cX10_takesThemes 24 = .ok (.iconst 1, 1) := by decide +kernel
theorem dX10_takesThemes_25 : decode cX10_takesThemes 25 = .ok (.ireturn, 1) := by decide +kernel
theorem dX10_takesThemes_14 : decode cX10_takesThemes 14 = .ok (.iconst 0, 1) := by decide +kernel
theorem dX10_takesThemes_15 : decode cX10_takesThemes 15 = .ok (.ireturn, 1) := by decide +kernel
theorem dX10_takesCouple_0 : decode cX10_takesCouple 0 = .ok (.aload_n 0, 1) := by decide +kernel
theorem dX10_takesCouple_1 : decode cX10_takesCouple 1 = .ok (.iconst 0, 1) := by decide +kernel
theorem dX10_takesCouple_2 : decode cX10_takesCouple 2 = .ok (.bipush 99, 2) := by decide +kernel
theorem dX10_takesCouple_4 : decode cX10_takesCouple 4 = .ok (.invokevirtual 129, 3) := by decide +kernel
theorem dX10_takesCouple_7 : decode cX10_takesCouple 7 = .ok (.ifCond .ne 5, 3) := by decide +kernel
theorem dX10_takesCouple_12 : decode cX10_takesCouple 12 = .ok (.aload_n 0, 1) := by decide +kernel
theorem wd_535 : Cond.fieldLink RX10 45 "QuarrelBridgesModel" "readGrief" "[I" ∈ BG := BG_at 811 (by decide +kernel) rfl
theorem dX10_takesCouple_13 : decode cX10_takesCouple 13 = .ok (.getfield 45, 3) := by decide +kernel
theorem dX10_takesCouple_16 : decode cX10_takesCouple 16 = .ok (.aload_n 0, 1) := by decide +kernel
theorem wd_536 : Cond.fieldLink RX10 139 "QuarrelBridgesModel" "readCouples" "I" ∈ BG := BG_at 806 (by decide +kernel) rfl
theorem dX10_takesCouple_17 : decode cX10_takesCouple 17 = .ok (.getfield 139, 3) := by decide +kernel
theorem dX10_takesCouple_20 : decode cX10_takesCouple 20 = .ok (.aload_n 0, 1) := by decide +kernel
theorem dX10_takesCouple_21 : decode cX10_takesCouple 21 = .ok (.getfield 123, 3) := by decide +kernel
theorem dX10_takesCouple_24 : decode cX10_takesCouple 24 = .ok (.iastore, 1) := by decide +kernel
theorem dX10_takesCouple_25 : decode cX10_takesCouple 25 = .ok (.iconst 0, 1) := by decide +kernel
theorem dX10_takesCouple_26 : decode cX10_takesCouple 26 = .ok (.istore_n 1, 1) := by decide +kernel
theorem dX10_takesCouple_83 : decode cX10_takesCouple 83 = .ok (.aload_n 0, 1) := by decide +kernel
theorem dX10_takesCouple_84 : decode cX10_takesCouple 84 = .ok (.dup, 1) := by decide +kernel
theorem dX10_takesCouple_85 : decode cX10_takesCouple 85 = .ok (.getfield 139, 3) := by decide +kernel
theorem dX10_takesCouple_88 : decode cX10_takesCouple 88 = .ok (.iconst 1, 1) := by decide +kernel
theorem dX10_takesCouple_89 : decode cX10_takesCouple 89 = .ok (.iadd, 1) := by decide +kernel
theorem dX10_takesCouple_90 : decode cX10_takesCouple 90 = .ok (.putfield 139, 3) := by decide +kernel
theorem dX10_takesCouple_93 : decode cX10_takesCouple 93 = .ok (.iconst 1, 1) := by decide +kernel
theorem dX10_takesCouple_94 : decode cX10_takesCouple 94 = .ok (.ireturn, 1) := by decide +kernel
theorem dX10_takesCouple_27 : decode cX10_takesCouple 27 = .ok (.iload_n 1, 1) := by decide +kernel
theorem dX10_takesCouple_28 : decode cX10_takesCouple 28 = .ok (.aload_n 0, 1) := by decide +kernel
theorem dX10_takesCouple_29 : decode cX10_takesCouple 29 = .ok (.getfield 136, 3) := by decide +kernel
theorem dX10_takesCouple_32 : decode cX10_takesCouple 32 = .ok (.if_icmp .ge 51, 3) := by decide +kernel
theorem dX10_takesCouple_35 : decode cX10_takesCouple 35 = .ok (.iload_n 1, 1) := by decide +kernel
theorem dX10_takesCouple_36 : decode cX10_takesCouple 36 = .ok (.ifCond .le 12, 3) := by decide +kernel
theorem dX10_takesCouple_48 : decode cX10_takesCouple 48 = .ok (.aload_n 0, 1) := by decide +kernel
theorem dX10_takesCouple_49 : decode cX10_takesCouple 49 = .ok (.iconst 0, 1) := by decide +kernel
theorem dX10_takesCouple_50 : decode cX10_takesCouple 50 = .ok (.bipush 9, 2) := by decide +kernel
theorem dX10_takesCouple_52 : decode cX10_takesCouple 52 = .ok (.invokevirtual 129, 3) := by decide +kernel
theorem dX10_takesCouple_55 : decode cX10_takesCouple 55 = .ok (.ifCond .ne 5, 3) := by decide +kernel
theorem dX10_takesCouple_60 : decode cX10_takesCouple 60 = .ok (.aload_n 0, 1) := by decide +kernel
theorem wd_537 : Cond.fieldLink RX10 48 "QuarrelBridgesModel" "readForces" "[I" ∈ BG := BG_at 812 (by decide +kernel) rfl
theorem dX10_takesCouple_61 : decode cX10_takesCouple 61 = .ok (.getfield 48, 3) := by decide +kernel
theorem dX10_takesCouple_64 : decode cX10_takesCouple 64 = .ok (.iconst 5, 1) := by decide +kernel
theorem dX10_takesCouple_65 : decode cX10_takesCouple 65 = .ok (.aload_n 0, 1) := by decide +kernel
theorem dX10_takesCouple_66 : decode cX10_takesCouple 66 = .ok (.getfield 139, 3) := by decide +kernel
theorem dX10_takesCouple_69 : decode cX10_takesCouple 69 = .ok (.imul, 1) := by decide +kernel
theorem dX10_takesCouple_70 : decode cX10_takesCouple 70 = .ok (.iload_n 1, 1) := by decide +kernel
theorem dX10_takesCouple_71 : decode cX10_takesCouple 71 = .ok (.iadd, 1) := by decide +kernel
theorem dX10_takesCouple_72 : decode cX10_takesCouple 72 = .ok (.aload_n 0, 1) := by decide +kernel
theorem dX10_takesCouple_73 : decode cX10_takesCouple 73 = .ok (.getfield 123, 3) := by decide +kernel
theorem dX10_takesCouple_76 : decode cX10_takesCouple 76 = .ok (.iastore, 1) := by decide +kernel
theorem dX10_takesCouple_77 : decode cX10_takesCouple 77 = .ok (.iinc 1 1, 3) := by decide +kernel
theorem dX10_takesCouple_80 : decode cX10_takesCouple 80 = .ok (.goto (-53), 3) := by decide +kernel
theorem dX10_takesCouple_58 : decode cX10_takesCouple 58 = .ok (.iconst 0, 1) := by decide +kernel
theorem dX10_takesCouple_59 : decode cX10_takesCouple 59 = .ok (.ireturn, 1) := by decide +kernel
theorem dX10_takesCouple_39 : decode cX10_takesCouple 39 = .ok (.aload_n 0, 1) := by decide +kernel
theorem dX10_takesCouple_40 : decode cX10_takesCouple 40 = .ok (.bipush 44, 2) := by decide +kernel
theorem dX10_takesCouple_42 : decode cX10_takesCouple 42 = .ok (.invokevirtual 142, 3) := by decide +kernel
theorem wd_538 : Cond.methodLink RX10 142 yX10_takes ∈ BG := BG_at 968 (by decide +kernel) rfl
theorem wd_539 : Cond.code yX10_takes cX10_takes 2 (some .boolean) ∈ BG := BG_at 971 (by decide +kernel) rfl
theorem wd_540 : Cond.instanceMethod yX10_takes ∈ BG := BG_at 970 (by decide +kernel) rfl
theorem wd_541 : Cond.selects RX10 yX10_takes yX10_takes ∈ BG := BG_in (by decide +kernel) rfl
theorem okV_X10_takes : okV yX10_takes cX10_takes 2 (some .boolean) 1 := ⟨⟨wd_539, wd_497, by decide +kernel⟩, wd_540, wd_541⟩
theorem dX10_takesCouple_45 : decode cX10_takesCouple 45 = .ok (.ifCond .eq 13, 3) := by decide +kernel
theorem dX10_takesCouple_10 : decode cX10_takesCouple 10 = .ok (.iconst 0, 1) := by decide +kernel
theorem dX10_takesCouple_11 : decode cX10_takesCouple 11 = .ok (.ireturn, 1) := by decide +kernel
theorem dX10_takesBarge_0 : decode cX10_takesBarge 0 = .ok (.aload_n 0, 1) := by decide +kernel
theorem dX10_takesBarge_1 : decode cX10_takesBarge 1 = .ok (.iconst 0, 1) := by decide +kernel
theorem dX10_takesBarge_2 : decode cX10_takesBarge 2 = .ok (.aload_n 0, 1) := by decide +kernel
theorem dX10_takesBarge_3 : decode cX10_takesBarge 3 = .ok (.getfield 126, 3) := by decide +kernel
theorem dX10_takesBarge_6 : decode cX10_takesBarge 6 = .ok (.iconst 1, 1) := by decide +kernel
theorem dX10_takesBarge_7 : decode cX10_takesBarge 7 = .ok (.isub, 1) := by decide +kernel
theorem dX10_takesBarge_8 : decode cX10_takesBarge 8 = .ok (.invokevirtual 129, 3) := by decide +kernel
theorem dX10_takesBarge_11 : decode cX10_takesBarge 11 = .ok (.ifCond .ne 5, 3) := by decide +kernel
theorem dX10_takesBarge_16 : decode cX10_takesBarge 16 = .ok (.aload_n 0, 1) := by decide +kernel
theorem wd_542 : Cond.fieldLink RX10 51 "QuarrelBridgesModel" "readFar" "[I" ∈ BG := BG_at 813 (by decide +kernel) rfl
theorem dX10_takesBarge_17 : decode cX10_takesBarge 17 = .ok (.getfield 51, 3) := by decide +kernel
theorem dX10_takesBarge_20 : decode cX10_takesBarge 20 = .ok (.aload_n 0, 1) := by decide +kernel
theorem wd_543 : Cond.fieldLink RX10 146 "QuarrelBridgesModel" "readBarges" "I" ∈ BG := BG_at 807 (by decide +kernel) rfl
theorem dX10_takesBarge_21 : decode cX10_takesBarge 21 = .ok (.getfield 146, 3) := by decide +kernel
theorem dX10_takesBarge_24 : decode cX10_takesBarge 24 = .ok (.aload_n 0, 1) := by decide +kernel
theorem dX10_takesBarge_25 : decode cX10_takesBarge 25 = .ok (.getfield 123, 3) := by decide +kernel
theorem dX10_takesBarge_28 : decode cX10_takesBarge 28 = .ok (.iastore, 1) := by decide +kernel
theorem dX10_takesBarge_29 : decode cX10_takesBarge 29 = .ok (.aload_n 0, 1) := by decide +kernel
theorem dX10_takesBarge_30 : decode cX10_takesBarge 30 = .ok (.iconst 1, 1) := by decide +kernel
theorem dX10_takesBarge_31 : decode cX10_takesBarge 31 = .ok (.sipush 300, 3) := by decide +kernel
theorem dX10_takesBarge_34 : decode cX10_takesBarge 34 = .ok (.invokevirtual 129, 3) := by decide +kernel
theorem dX10_takesBarge_37 : decode cX10_takesBarge 37 = .ok (.ifCond .ne 5, 3) := by decide +kernel
theorem dX10_takesBarge_42 : decode cX10_takesBarge 42 = .ok (.aload_n 0, 1) := by decide +kernel
theorem wd_544 : Cond.fieldLink RX10 54 "QuarrelBridgesModel" "readDue" "[I" ∈ BG := BG_at 814 (by decide +kernel) rfl
theorem dX10_takesBarge_43 : decode cX10_takesBarge 43 = .ok (.getfield 54, 3) := by decide +kernel
theorem dX10_takesBarge_46 : decode cX10_takesBarge 46 = .ok (.aload_n 0, 1) := by decide +kernel
theorem dX10_takesBarge_47 : decode cX10_takesBarge 47 = .ok (.getfield 146, 3) := by decide +kernel
theorem dX10_takesBarge_50 : decode cX10_takesBarge 50 = .ok (.aload_n 0, 1) := by decide +kernel
theorem dX10_takesBarge_51 : decode cX10_takesBarge 51 = .ok (.getfield 123, 3) := by decide +kernel
theorem dX10_takesBarge_54 : decode cX10_takesBarge 54 = .ok (.iastore, 1) := by decide +kernel
theorem dX10_takesBarge_55 : decode cX10_takesBarge 55 = .ok (.aload_n 0, 1) := by decide +kernel
theorem dX10_takesBarge_56 : decode cX10_takesBarge 56 = .ok (.dup, 1) := by decide +kernel
theorem dX10_takesBarge_57 : decode cX10_takesBarge 57 = .ok (.getfield 146, 3) := by decide +kernel
theorem dX10_takesBarge_60 : decode cX10_takesBarge 60 = .ok (.iconst 1, 1) := by decide +kernel
theorem dX10_takesBarge_61 : decode cX10_takesBarge 61 = .ok (.iadd, 1) := by decide +kernel
theorem dX10_takesBarge_62 : decode cX10_takesBarge 62 = .ok (.putfield 146, 3) := by decide +kernel
theorem dX10_takesBarge_65 : decode cX10_takesBarge 65 = .ok (.iconst 1, 1) := by decide +kernel
theorem dX10_takesBarge_66 : decode cX10_takesBarge 66 = .ok (.ireturn, 1) := by decide +kernel
theorem dX10_takesBarge_40 : decode cX10_takesBarge 40 = .ok (.iconst 0, 1) := by decide +kernel
theorem dX10_takesBarge_41 : decode cX10_takesBarge 41 = .ok (.ireturn, 1) := by decide +kernel
theorem dX10_takesBarge_14 : decode cX10_takesBarge 14 = .ok (.iconst 0, 1) := by decide +kernel
theorem dX10_takesBarge_15 : decode cX10_takesBarge 15 = .ok (.ireturn, 1) := by decide +kernel
theorem dX10_takesSnow_0 : decode cX10_takesSnow 0 = .ok (.aload_n 0, 1) := by decide +kernel
theorem dX10_takesSnow_1 : decode cX10_takesSnow 1 = .ok (.iconst 1, 1) := by decide +kernel
theorem wd_545 : Cond.fieldLink RX10 149 "QuarrelBridgesModel" "hasSnow" "Z" ∈ BG := BG_at 809 (by decide +kernel) rfl
theorem dX10_takesSnow_2 : decode cX10_takesSnow 2 = .ok (.putfield 149, 3) := by decide +kernel
theorem dX10_takesSnow_5 : decode cX10_takesSnow 5 = .ok (.aload_n 0, 1) := by decide +kernel
theorem dX10_takesSnow_6 : decode cX10_takesSnow 6 = .ok (.iconst 0, 1) := by decide +kernel
theorem dX10_takesSnow_7 : decode cX10_takesSnow 7 = .ok (.iconst 1, 1) := by decide +kernel
theorem dX10_takesSnow_8 : decode cX10_takesSnow 8 = .ok (.invokevirtual 129, 3) := by decide +kernel
theorem dX10_takesSnow_11 : decode cX10_takesSnow 11 = .ok (.ifCond .ne 5, 3) := by decide +kernel
theorem dX10_takesSnow_16 : decode cX10_takesSnow 16 = .ok (.aload_n 0, 1) := by decide +kernel
theorem dX10_takesSnow_17 : decode cX10_takesSnow 17 = .ok (.aload_n 0, 1) := by decide +kernel
theorem dX10_takesSnow_18 : decode cX10_takesSnow 18 = .ok (.getfield 123, 3) := by decide +kernel
theorem wd_546 : Cond.fieldLink RX10 152 "QuarrelBridgesModel" "readSnow" "I" ∈ BG := BG_at 808 (by decide +kernel) rfl
theorem dX10_takesSnow_21 : decode cX10_takesSnow 21 = .ok (.putfield 152, 3) := by decide +kernel
theorem dX10_takesSnow_24 : decode cX10_takesSnow 24 = .ok (.iconst 1, 1) := by decide +kernel
theorem dX10_takesSnow_25 : decode cX10_takesSnow 25 = .ok (.ireturn, 1) := by decide +kernel
theorem dX10_takesSnow_14 : decode cX10_takesSnow 14 = .ok (.iconst 0, 1) := by decide +kernel
theorem dX10_takesSnow_15 : decode cX10_takesSnow 15 = .ok (.ireturn, 1) := by decide +kernel
noncomputable def f_m_takesThemes (G : Nat → Int32) (f13 : Nat → Int32) : Int32 × (Nat → Int32) := (match (f_m_takesNumber (upd G 22 1) f13 1 5) with | (r_3, u_2) => (if r_3 = 0 then (0, u_2) else (1, (upd u_2 21 (u_2 17)))))
def S_m_takesThemes (G : Nat → Int32) (f13 : Nat → Int32) : Prop := ((S_m_takesNumber (upd G 22 1) f13 1 5) ∧ (∀ (r_3 : Int32) (u_2 : (Nat → Int32)), (r_3, u_2) = (f_m_takesNumber (upd G 22 1) f13 1 5) → ((r_3 = 0 → True) ∧ (¬ r_3 = 0 → True))))
def rm_m_takesThemes : Room := { frames := 3, cells := 0, slots := 0, locals := 63 }
set_option maxHeartbeats 4000000 in
set_option maxRecDepth 100000 in
theorem m_takesThemes {l : Launch} {D : va_G} {cI cZ : ClassId} {sz : Nat} (Rf : Nat → Nat) (h : Nat) (G : Nat → Int32) (f13 : Nat → Int32) (hF : S_m_takesThemes G f13) : KI l yX10_takesThemes cX10_takesThemes 1 (some .boolean) rm_m_takesThemes D cI cZ [.ref h] sz [(h, .inr (10, ML G Rf)), ((Rf 13), .inl (cI, 240, .inl f13))] (fun (r : Int32) (u : (Nat → Int32)) => (r, u) = f_m_takesThemes G f13) (fun (u : (Nat → Int32)) => [(h, .inr (10, ML u Rf)), ((Rf 13), .inl (cI, 240, .inl f13))]) := by
  refine KI.go rfl (Nat.le_of_ble_eq_true rfl) ?_
  intro p e s m args below meth c ls A Q hx hb hml hts hown hin hP hK hD hS hA hN hl hret
  have hl : lv_has ls 1 [(0, .ref h)] := hl
  rw [S_m_takesThemes] at hF
  obtain ⟨RES, hE⟩ : ∃ xRES, f_m_takesThemes G f13 = xRES := ⟨_, rfl⟩
  rw [hE] at hret
  rw [f_m_takesThemes] at hE
  refine lv_aload_n hx hb dX10_takesThemes_0 rfl (lv_at hl 0 rfl) ?_
  refine lv_iconst (v := 1) hx hb dX10_takesThemes_1 (by decide) ?_
  refine va_put (D := D) (ci := 10) (v := .int 1) (ty := .boolean) (C := RX10) (T := TX10) (N := 45) hx hb hts iX10 tyX10 tyX10_ok nmX10 hown hK hP hD hS 0 rfl rfl 22 (by decide) (hts _ wd_533) (fun _ h9 => h9) rfl (by decide +kernel) rfl rfl (Nat.le_of_ble_eq_true rfl) dX10_takesThemes_2 (fun H locs hP hD hS => ?_)
  have hP : va_P D classes [(h, .inr (10, ML (upd G 22 1) Rf)), ((Rf 13), .inl (cI, 240, .inl f13))] H := hP
  have hD : va_D A [(h, .inr (10, ML (upd G 22 1) Rf)), ((Rf 13), .inl (cI, 240, .inl f13))] := hD
  refine lv_aload_n hx hb dX10_takesThemes_5 rfl (lv_at hl 0 rfl) ?_
  refine lv_iconst (v := 1) hx hb dX10_takesThemes_6 (by decide) ?_
  refine lv_iconst (v := 5) hx hb dX10_takesThemes_7 (by decide) ?_
  obtain ⟨hs_1, hF⟩ := hF
  refine cVi (wr := []) (rest := []) (m_takesNumber Rf h (upd G 22 1) f13 1 5 hs_1) okV_X10_takesNumber wd_528 hx hb hml hown hts hK hP hD hS hA hN hl.1 [0, 1] [] rfl rfl rfl rfl (by decide) rfl rfl rfl (Nat.le_of_ble_eq_true rfl) (Nat.le_of_ble_eq_true rfl) (Nat.le_of_ble_eq_true rfl) (Nat.le_of_ble_eq_true rfl) (Nat.le_of_ble_eq_true rfl) dX10_takesThemes_8 (fun r_3 u_2 H locs hw_u_2 hP hD hS => ?_)
  replace hw_u_2 : (r_3, u_2) = (f_m_takesNumber (upd G 22 1) f13 1 5) := hw_u_2
  replace hF := hF r_3 u_2 hw_u_2
  rw [← hw_u_2] at hE
  replace hE : ((if r_3 = 0 then (0, u_2) else (1, (upd u_2 21 (u_2 17)))) : Int32 × (Nat → Int32)) = RES := hE
  have hP : va_P D classes [(h, .inr (10, ML u_2 Rf)), ((Rf 13), .inl (cI, 240, .inl f13))] H := hP
  have hD : va_D A [(h, .inr (10, ML u_2 Rf)), ((Rf 13), .inl (cI, 240, .inl f13))] := hD
  refine lv_if_ne (tgt := 16) hx hb dX10_takesThemes_11 (by decide) (fun c_4 => ?_) (fun c_4 => ?_)
  · replace hF := hF.2 c_4
    rw [if_neg c_4] at hE
    refine lv_aload_n hx hb dX10_takesThemes_16 rfl (lv_at hl 0 rfl) ?_
    refine lv_aload_n hx hb dX10_takesThemes_17 rfl (lv_at hl 0 rfl) ?_
    refine va_get (D := D) (ci := 10) (v := .int (u_2 17)) (C := RX10) (T := TX10) (N := 45) hx hb hts iX10 hown hK hP 0 rfl rfl 17 (by decide) (hts _ wd_526) (fun _ h9 => h9) rfl dX10_takesThemes_18 ?_
    refine va_put (D := D) (ci := 10) (v := .int (u_2 17)) (ty := .int) (C := RX10) (T := TX10) (N := 45) hx hb hts iX10 tyX10 tyX10_ok nmX10 hown hK hP hD hS 0 rfl rfl 21 (by decide) (hts _ wd_534) (fun _ h9 => h9) rfl (by decide +kernel) rfl rfl (Nat.le_of_ble_eq_true rfl) dX10_takesThemes_21 (fun H locs hP hD hS => ?_)
    have hP : va_P D classes [(h, .inr (10, ML (upd u_2 21 (u_2 17)) Rf)), ((Rf 13), .inl (cI, 240, .inl f13))] H := hP
    have hD : va_D A [(h, .inr (10, ML (upd u_2 21 (u_2 17)) Rf)), ((Rf 13), .inl (cI, 240, .inl f13))] := hD
    refine lv_iconst (v := 1) hx hb dX10_takesThemes_24 (by decide) ?_
    exact hret 1 (upd u_2 21 (u_2 17)) _ _ _ _ dX10_takesThemes_25 rfl hE hP hD hS
  · replace hF := hF.1 c_4
    rw [if_pos c_4] at hE
    subst c_4
    refine lv_iconst (v := 0) hx hb dX10_takesThemes_14 (by decide) ?_
    exact hret 0 u_2 _ _ _ _ dX10_takesThemes_15 rfl hE hP hD hS
noncomputable def f_m_takesCouple_27 (f13 : Nat → Int32) (n : Nat) : Int32 → (Nat → Int32) → (Nat → Int32) → (Nat → Int32) → (Int32 × (Nat → Int32) × (Nat → Int32) × (Nat → Int32)) ⊕ (Int32 × (Nat → Int32) × (Nat → Int32) × (Nat → Int32)) := Nat.rec (motive := fun _ => Int32 → (Nat → Int32) → (Nat → Int32) → (Nat → Int32) → (Int32 × (Nat → Int32) × (Nat → Int32) × (Nat → Int32)) ⊕ (Int32 × (Nat → Int32) × (Nat → Int32) × (Nat → Int32))) (fun w_6l1 w_6m0 w_6m1 w_6m2 => Sum.inl (w_6l1, w_6m0, w_6m1, w_6m2)) (fun n ih w_6l1 w_6m0 w_6m1 w_6m2 => (if (w_6m0 21) ≤ w_6l1 then (Sum.inl (w_6l1, w_6m0, w_6m1, w_6m2)) else (if w_6l1 ≤ 0 then (match (f_m_takesNumber w_6m0 f13 0 9) with | (r_11, u_10) => (if r_11 = 0 then (Sum.inr (0, u_10, w_6m1, w_6m2)) else (ih (w_6l1 + 1) u_10 w_6m1 (upd w_6m2 (((5 * (u_10 23)) + w_6l1) : Int32).toNatClampNeg (u_10 17))))) else (match (f_m_takes w_6m0 f13 44) with | (r_16, u_15) => (if r_16 = 0 then (Sum.inr (0, u_15, w_6m1, w_6m2)) else (match (f_m_takesNumber u_15 f13 0 9) with | (r_20, u_19) => (if r_20 = 0 then (Sum.inr (0, u_19, w_6m1, w_6m2)) else (ih (w_6l1 + 1) u_19 w_6m1 (upd w_6m2 (((5 * (u_19 23)) + w_6l1) : Int32).toNatClampNeg (u_19 17)))))))))) n
theorem f_m_takesCouple_27_s (f13 : Nat → Int32) (n : Nat) (w_6l1 : Int32) (w_6m0 : (Nat → Int32)) (w_6m1 : (Nat → Int32)) (w_6m2 : (Nat → Int32)) : f_m_takesCouple_27 f13 (n + 1) w_6l1 w_6m0 w_6m1 w_6m2 = (if (w_6m0 21) ≤ w_6l1 then (Sum.inl (w_6l1, w_6m0, w_6m1, w_6m2)) else (if w_6l1 ≤ 0 then (match (f_m_takesNumber w_6m0 f13 0 9) with | (r_11, u_10) => (if r_11 = 0 then (Sum.inr (0, u_10, w_6m1, w_6m2)) else (f_m_takesCouple_27 f13 n (w_6l1 + 1) u_10 w_6m1 (upd w_6m2 (((5 * (u_10 23)) + w_6l1) : Int32).toNatClampNeg (u_10 17))))) else (match (f_m_takes w_6m0 f13 44) with | (r_16, u_15) => (if r_16 = 0 then (Sum.inr (0, u_15, w_6m1, w_6m2)) else (match (f_m_takesNumber u_15 f13 0 9) with | (r_20, u_19) => (if r_20 = 0 then (Sum.inr (0, u_19, w_6m1, w_6m2)) else (f_m_takesCouple_27 f13 n (w_6l1 + 1) u_19 w_6m1 (upd w_6m2 (((5 * (u_19 23)) + w_6l1) : Int32).toNatClampNeg (u_19 17))))))))) := rfl
def S_m_takesCouple_27 (f13 : Nat → Int32) (K : Int32 → (Nat → Int32) → (Nat → Int32) → (Nat → Int32) → Prop) (n : Nat) : Int32 → (Nat → Int32) → (Nat → Int32) → (Nat → Int32) → Prop := Nat.rec (motive := fun _ => Int32 → (Nat → Int32) → (Nat → Int32) → (Nat → Int32) → Prop) (fun _ _ _ _ => False) (fun n ih w_6l1 w_6m0 w_6m1 w_6m2 => (((w_6m0 21) ≤ w_6l1 → (K w_6l1 w_6m0 w_6m1 w_6m2)) ∧ (¬ (w_6m0 21) ≤ w_6l1 → ((w_6l1 ≤ 0 → ((S_m_takesNumber w_6m0 f13 0 9) ∧ (∀ (r_11 : Int32) (u_10 : (Nat → Int32)), (r_11, u_10) = (f_m_takesNumber w_6m0 f13 0 9) → ((r_11 = 0 → True) ∧ (¬ r_11 = 0 → (vp_in ((5 * (u_10 23)) + w_6l1) 30 ∧ (ih (w_6l1 + 1) u_10 w_6m1 (upd w_6m2 (((5 * (u_10 23)) + w_6l1) : Int32).toNatClampNeg (u_10 17))))))))) ∧ (¬ w_6l1 ≤ 0 → ((S_m_takes w_6m0 f13 44) ∧ (∀ (r_16 : Int32) (u_15 : (Nat → Int32)), (r_16, u_15) = (f_m_takes w_6m0 f13 44) → ((r_16 = 0 → True) ∧ (¬ r_16 = 0 → ((S_m_takesNumber u_15 f13 0 9) ∧ (∀ (r_20 : Int32) (u_19 : (Nat → Int32)), (r_20, u_19) = (f_m_takesNumber u_15 f13 0 9) → ((r_20 = 0 → True) ∧ (¬ r_20 = 0 → (vp_in ((5 * (u_19 23)) + w_6l1) 30 ∧ (ih (w_6l1 + 1) u_19 w_6m1 (upd w_6m2 (((5 * (u_19 23)) + w_6l1) : Int32).toNatClampNeg (u_19 17))))))))))))))))) n
theorem S_m_takesCouple_27_s (f13 : Nat → Int32) (K : Int32 → (Nat → Int32) → (Nat → Int32) → (Nat → Int32) → Prop) (n : Nat) (w_6l1 : Int32) (w_6m0 : (Nat → Int32)) (w_6m1 : (Nat → Int32)) (w_6m2 : (Nat → Int32)) : S_m_takesCouple_27 f13 K (n + 1) w_6l1 w_6m0 w_6m1 w_6m2 = ((((w_6m0 21) ≤ w_6l1 → (K w_6l1 w_6m0 w_6m1 w_6m2)) ∧ (¬ (w_6m0 21) ≤ w_6l1 → ((w_6l1 ≤ 0 → ((S_m_takesNumber w_6m0 f13 0 9) ∧ (∀ (r_11 : Int32) (u_10 : (Nat → Int32)), (r_11, u_10) = (f_m_takesNumber w_6m0 f13 0 9) → ((r_11 = 0 → True) ∧ (¬ r_11 = 0 → (vp_in ((5 * (u_10 23)) + w_6l1) 30 ∧ (S_m_takesCouple_27 f13 K n (w_6l1 + 1) u_10 w_6m1 (upd w_6m2 (((5 * (u_10 23)) + w_6l1) : Int32).toNatClampNeg (u_10 17))))))))) ∧ (¬ w_6l1 ≤ 0 → ((S_m_takes w_6m0 f13 44) ∧ (∀ (r_16 : Int32) (u_15 : (Nat → Int32)), (r_16, u_15) = (f_m_takes w_6m0 f13 44) → ((r_16 = 0 → True) ∧ (¬ r_16 = 0 → ((S_m_takesNumber u_15 f13 0 9) ∧ (∀ (r_20 : Int32) (u_19 : (Nat → Int32)), (r_20, u_19) = (f_m_takesNumber u_15 f13 0 9) → ((r_20 = 0 → True) ∧ (¬ r_20 = 0 → (vp_in ((5 * (u_19 23)) + w_6l1) 30 ∧ (S_m_takesCouple_27 f13 K n (w_6l1 + 1) u_19 w_6m1 (upd w_6m2 (((5 * (u_19 23)) + w_6l1) : Int32).toNatClampNeg (u_19 17))))))))))))))))) := rfl
noncomputable def f_m_takesCouple (G : Nat → Int32) (f13 : Nat → Int32) (f28 : Nat → Int32) (f29 : Nat → Int32) : Int32 × (Nat → Int32) × (Nat → Int32) × (Nat → Int32) := (match (f_m_takesNumber G f13 0 99) with | (r_3, u_2) => (if r_3 = 0 then (0, u_2, f28, f29) else (match ((f_m_takesCouple_27 f13 10 0 u_2 (upd f28 ((u_2 23) : Int32).toNatClampNeg (u_2 17)) f29) : (Int32 × (Nat → Int32) × (Nat → Int32) × (Nat → Int32)) ⊕ (Int32 × (Nat → Int32) × (Nat → Int32) × (Nat → Int32))) with | Sum.inl (w_6l1, w_6m0, w_6m1, w_6m2) => (1, (upd w_6m0 23 ((w_6m0 23) + 1)), w_6m1, w_6m2) | Sum.inr o => o)))
def S_m_takesCouple (G : Nat → Int32) (f13 : Nat → Int32) (f28 : Nat → Int32) (f29 : Nat → Int32) : Prop := ((S_m_takesNumber G f13 0 99) ∧ (∀ (r_3 : Int32) (u_2 : (Nat → Int32)), (r_3, u_2) = (f_m_takesNumber G f13 0 99) → ((r_3 = 0 → True) ∧ (¬ r_3 = 0 → (vp_in (u_2 23) 6 ∧ (S_m_takesCouple_27 f13 (fun (w_6l1 : Int32) (w_6m0 : (Nat → Int32)) (w_6m1 : (Nat → Int32)) (w_6m2 : (Nat → Int32)) => True) 10 0 u_2 (upd f28 ((u_2 23) : Int32).toNatClampNeg (u_2 17)) f29))))))
def rm_m_takesCouple : Room := { frames := 3, cells := 0, slots := 0, locals := 63 }
set_option maxHeartbeats 4000000 in
set_option maxRecDepth 100000 in
theorem m_takesCouple {l : Launch} {D : va_G} {cI cZ : ClassId} {sz : Nat} (Rf : Nat → Nat) (h : Nat) (G : Nat → Int32) (f13 : Nat → Int32) (f28 : Nat → Int32) (f29 : Nat → Int32) (hF : S_m_takesCouple G f13 f28 f29) : KI l yX10_takesCouple cX10_takesCouple 2 (some .boolean) rm_m_takesCouple D cI cZ [.ref h] sz [(h, .inr (10, ML G Rf)), ((Rf 13), .inl (cI, 240, .inl f13)), ((Rf 28), .inl (cI, 6, .inl f28)), ((Rf 29), .inl (cI, 30, .inl f29))] (fun (r : Int32) (u : (Nat → Int32) × (Nat → Int32) × (Nat → Int32)) => (r, u) = f_m_takesCouple G f13 f28 f29) (fun (u : (Nat → Int32) × (Nat → Int32) × (Nat → Int32)) => [(h, .inr (10, ML u.1 Rf)), ((Rf 13), .inl (cI, 240, .inl f13)), ((Rf 28), .inl (cI, 6, .inl u.2.1)), ((Rf 29), .inl (cI, 30, .inl u.2.2))]) := by
  refine KI.go rfl (Nat.le_of_ble_eq_true rfl) ?_
  intro p e s m args below meth c ls A Q hx hb hml hts hown hin hP hK hD hS hA hN hl hret
  have hl : lv_has ls 2 [(0, .ref h)] := hl
  rw [S_m_takesCouple] at hF
  obtain ⟨RES, hE⟩ : ∃ xRES, f_m_takesCouple G f13 f28 f29 = xRES := ⟨_, rfl⟩
  rw [hE] at hret
  rw [f_m_takesCouple] at hE
  refine lv_aload_n hx hb dX10_takesCouple_0 rfl (lv_at hl 0 rfl) ?_
  refine lv_iconst (v := 0) hx hb dX10_takesCouple_1 (by decide) ?_
  refine lv_bipush (v := 99) hx hb dX10_takesCouple_2 (by decide) ?_
  obtain ⟨hs_1, hF⟩ := hF
  refine cVi (wr := [((Rf 28), .inl (cI, 6, .inl f28)), ((Rf 29), .inl (cI, 30, .inl f29))]) (rest := []) (m_takesNumber Rf h G f13 0 99 hs_1) okV_X10_takesNumber wd_528 hx hb hml hown hts hK hP hD hS hA hN hl.1 [0, 1] [2, 3] rfl rfl rfl rfl (by decide) rfl rfl rfl (Nat.le_of_ble_eq_true rfl) (Nat.le_of_ble_eq_true rfl) (Nat.le_of_ble_eq_true rfl) (Nat.le_of_ble_eq_true rfl) (Nat.le_of_ble_eq_true rfl) dX10_takesCouple_4 (fun r_3 u_2 H locs hw_u_2 hP hD hS => ?_)
  replace hw_u_2 : (r_3, u_2) = (f_m_takesNumber G f13 0 99) := hw_u_2
  replace hF := hF r_3 u_2 hw_u_2
  rw [← hw_u_2] at hE
  replace hE : ((if r_3 = 0 then (0, u_2, f28, f29) else (match ((f_m_takesCouple_27 f13 10 0 u_2 (upd f28 ((u_2 23) : Int32).toNatClampNeg (u_2 17)) f29) : (Int32 × (Nat → Int32) × (Nat → Int32) × (Nat → Int32)) ⊕ (Int32 × (Nat → Int32) × (Nat → Int32) × (Nat → Int32))) with | Sum.inl (w_6l1, w_6m0, w_6m1, w_6m2) => (1, (upd w_6m0 23 ((w_6m0 23) + 1)), w_6m1, w_6m2) | Sum.inr o => o)) : Int32 × (Nat → Int32) × (Nat → Int32) × (Nat → Int32)) = RES := hE
  have hP : va_P D classes [((Rf 28), .inl (cI, 6, .inl f28)), ((Rf 29), .inl (cI, 30, .inl f29)), (h, .inr (10, ML u_2 Rf)), ((Rf 13), .inl (cI, 240, .inl f13))] H := hP
  have hD : va_D A [((Rf 28), .inl (cI, 6, .inl f28)), ((Rf 29), .inl (cI, 30, .inl f29)), (h, .inr (10, ML u_2 Rf)), ((Rf 13), .inl (cI, 240, .inl f13))] := hD
  refine lv_if_ne (tgt := 12) hx hb dX10_takesCouple_7 (by decide) (fun c_4 => ?_) (fun c_4 => ?_)
  · replace hF := hF.2 c_4
    rw [if_neg c_4] at hE
    refine lv_aload_n hx hb dX10_takesCouple_12 rfl (lv_at hl 0 rfl) ?_
    refine va_get (D := D) (ci := 10) (v := .ref (Rf 28)) (C := RX10) (T := TX10) (N := 45) hx hb hts iX10 hown hK hP 2 rfl rfl 28 (by decide) (hts _ wd_535) (fun _ h9 => h9) rfl dX10_takesCouple_13 ?_
    refine lv_aload_n hx hb dX10_takesCouple_16 rfl (lv_at hl 0 rfl) ?_
    refine va_get (D := D) (ci := 10) (v := .int (u_2 23)) (C := RX10) (T := TX10) (N := 45) hx hb hts iX10 hown hK hP 2 rfl rfl 23 (by decide) (hts _ wd_536) (fun _ h9 => h9) rfl dX10_takesCouple_17 ?_
    refine lv_aload_n hx hb dX10_takesCouple_20 rfl (lv_at hl 0 rfl) ?_
    refine va_get (D := D) (ci := 10) (v := .int (u_2 17)) (C := RX10) (T := TX10) (N := 45) hx hb hts iX10 hown hK hP 2 rfl rfl 17 (by decide) (hts _ wd_526) (fun _ h9 => h9) rfl dX10_takesCouple_21 ?_
    obtain ⟨hv_5, hF⟩ := hF
    refine va_iast hx hb hK hP hD hS 0 0 rfl rfl hv_5 dX10_takesCouple_24 (fun H locs hP hD hS => ?_)
    have hP : va_P D classes [((Rf 28), .inl (cI, 6, .inl (upd f28 ((u_2 23) : Int32).toNatClampNeg (u_2 17)))), ((Rf 29), .inl (cI, 30, .inl f29)), (h, .inr (10, ML u_2 Rf)), ((Rf 13), .inl (cI, 240, .inl f13))] H := hP
    have hD : va_D A [((Rf 28), .inl (cI, 6, .inl (upd f28 ((u_2 23) : Int32).toNatClampNeg (u_2 17)))), ((Rf 29), .inl (cI, 30, .inl f29)), (h, .inr (10, ML u_2 Rf)), ((Rf 13), .inl (cI, 240, .inl f13))] := hD
    refine lv_iconst (v := 0) hx hb dX10_takesCouple_25 (by decide) ?_
    refine lv_istore_n (lv' := [(1, .int 0), (0, .ref h)]) hx hb dX10_takesCouple_26 rfl hl (by decide) rfl (fun ls hl => ?_)
    have ex_27_w_6 : ∀ (w_6l1 : Int32) (w_6m0 : (Nat → Int32)) (w_6m1 : (Nat → Int32)) (w_6m2 : (Nat → Int32)) (H : Heap) (locs : List Loc) (ls : Array Slot), va_P D classes [((Rf 28), .inl (cI, 6, .inl w_6m1)), ((Rf 29), .inl (cI, 30, .inl w_6m2)), (h, .inr (10, ML w_6m0 Rf)), ((Rf 13), .inl (cI, 240, .inl f13))] H → va_D A [((Rf 28), .inl (cI, 6, .inl w_6m1)), ((Rf 29), .inl (cI, 30, .inl w_6m2)), (h, .inr (10, ML w_6m0 Rf)), ((Rf 13), .inl (cI, 240, .inl f13))] → va_S A s.heap H locs → lv_has ls 2 [(1, .int w_6l1), (0, .ref h)] → (True) → (((1, (upd w_6m0 23 ((w_6m0 23) + 1)), w_6m1, w_6m2)) : Int32 × (Nat → Int32) × (Nat → Int32) × (Nat → Int32)) = RES → W p l e rm_m_takesCouple s m args below meth c H locs 0 0 Q (F0 m 83 ls []) := by
      intro w_6l1 w_6m0 w_6m1 w_6m2 H locs ls hP hD hS hl hF hE
      refine lv_aload_n hx hb dX10_takesCouple_83 rfl (lv_at hl 1 rfl) ?_
      refine lv_dup hx hb dX10_takesCouple_84 rfl ?_
      refine va_get (D := D) (ci := 10) (v := .int (w_6m0 23)) (C := RX10) (T := TX10) (N := 45) hx hb hts iX10 hown hK hP 2 rfl rfl 23 (by decide) (hts _ wd_536) (fun _ h9 => h9) rfl dX10_takesCouple_85 ?_
      refine lv_iconst (v := 1) hx hb dX10_takesCouple_88 (by decide) ?_
      refine lv_iadd hx hb dX10_takesCouple_89 ?_
      refine va_put (D := D) (ci := 10) (v := .int ((w_6m0 23) + 1)) (ty := .int) (C := RX10) (T := TX10) (N := 45) hx hb hts iX10 tyX10 tyX10_ok nmX10 hown hK hP hD hS 2 rfl rfl 23 (by decide) (hts _ wd_536) (fun _ h9 => h9) rfl (by decide +kernel) rfl rfl (Nat.le_of_ble_eq_true rfl) dX10_takesCouple_90 (fun H locs hP hD hS => ?_)
      have hP : va_P D classes [((Rf 28), .inl (cI, 6, .inl w_6m1)), ((Rf 29), .inl (cI, 30, .inl w_6m2)), (h, .inr (10, ML (upd w_6m0 23 ((w_6m0 23) + 1)) Rf)), ((Rf 13), .inl (cI, 240, .inl f13))] H := hP
      have hD : va_D A [((Rf 28), .inl (cI, 6, .inl w_6m1)), ((Rf 29), .inl (cI, 30, .inl w_6m2)), (h, .inr (10, ML (upd w_6m0 23 ((w_6m0 23) + 1)) Rf)), ((Rf 13), .inl (cI, 240, .inl f13))] := hD
      refine lv_iconst (v := 1) hx hb dX10_takesCouple_93 (by decide) ?_
      exact hret 1 ((upd w_6m0 23 ((w_6m0 23) + 1)), w_6m1, w_6m2) _ _ _ _ dX10_takesCouple_94 rfl hE (cutP (isC := [2, 3, 0, 1]) hP rfl) (cutD (isC := [2, 3, 0, 1]) hD rfl rfl) hS
    have lp_27_w_6 : ∀ (n_w_6 : Nat) (w_6l1 : Int32) (w_6m0 : (Nat → Int32)) (w_6m1 : (Nat → Int32)) (w_6m2 : (Nat → Int32)) (H : Heap) (locs : List Loc) (ls : Array Slot), va_P D classes [((Rf 28), .inl (cI, 6, .inl w_6m1)), ((Rf 29), .inl (cI, 30, .inl w_6m2)), (h, .inr (10, ML w_6m0 Rf)), ((Rf 13), .inl (cI, 240, .inl f13))] H → va_D A [((Rf 28), .inl (cI, 6, .inl w_6m1)), ((Rf 29), .inl (cI, 30, .inl w_6m2)), (h, .inr (10, ML w_6m0 Rf)), ((Rf 13), .inl (cI, 240, .inl f13))] → va_S A s.heap H locs → lv_has ls 2 [(1, .int w_6l1), (0, .ref h)] → (S_m_takesCouple_27 f13 (fun (w_6l1 : Int32) (w_6m0 : (Nat → Int32)) (w_6m1 : (Nat → Int32)) (w_6m2 : (Nat → Int32)) => True) n_w_6 w_6l1 w_6m0 w_6m1 w_6m2) → ((match ((f_m_takesCouple_27 f13 n_w_6 w_6l1 w_6m0 w_6m1 w_6m2) : (Int32 × (Nat → Int32) × (Nat → Int32) × (Nat → Int32)) ⊕ (Int32 × (Nat → Int32) × (Nat → Int32) × (Nat → Int32))) with | Sum.inl (w_6l1, w_6m0, w_6m1, w_6m2) => (1, (upd w_6m0 23 ((w_6m0 23) + 1)), w_6m1, w_6m2) | Sum.inr o => o) : Int32 × (Nat → Int32) × (Nat → Int32) × (Nat → Int32)) = RES → W p l e rm_m_takesCouple s m args below meth c H locs 0 0 Q (F0 m 27 ls []) := by
      intro n_w_6
      induction n_w_6 with
      | zero => intro w_6l1 w_6m0 w_6m1 w_6m2 H locs ls hP hD hS hl hF hE; exact False.elim hF
      | succ n_w_6 ih_w_6 =>
        intro w_6l1 w_6m0 w_6m1 w_6m2 H locs ls hP hD hS hl hF hE
        rw [S_m_takesCouple_27_s] at hF
        rw [f_m_takesCouple_27_s] at hE
        refine lv_iload_n hx hb dX10_takesCouple_27 rfl (lv_at hl 0 rfl) ?_
        refine lv_aload_n hx hb dX10_takesCouple_28 rfl (lv_at hl 1 rfl) ?_
        refine va_get (D := D) (ci := 10) (v := .int (w_6m0 21)) (C := RX10) (T := TX10) (N := 45) hx hb hts iX10 hown hK hP 2 rfl rfl 21 (by decide) (hts _ wd_534) (fun _ h9 => h9) rfl dX10_takesCouple_29 ?_
        refine lv_icmp_ge (tgt := 83) hx hb dX10_takesCouple_32 (by decide) (fun c_7 => ?_) (fun c_7 => ?_)
        · replace hF := hF.1 c_7
          rw [if_pos c_7] at hE
          exact ex_27_w_6 w_6l1 w_6m0 w_6m1 w_6m2 _ _ ls hP hD hS (lv_sub hl [0, 1] rfl) hF hE
        · replace hF := hF.2 c_7
          rw [if_neg c_7] at hE
          refine lv_iload_n hx hb dX10_takesCouple_35 rfl (lv_at hl 0 rfl) ?_
          refine lv_if_le (tgt := 48) hx hb dX10_takesCouple_36 (by decide) (fun c_8 => ?_) (fun c_8 => ?_)
          · replace hF := hF.1 c_8
            rw [if_pos c_8] at hE
            refine lv_aload_n hx hb dX10_takesCouple_48 rfl (lv_at hl 1 rfl) ?_
            refine lv_iconst (v := 0) hx hb dX10_takesCouple_49 (by decide) ?_
            refine lv_bipush (v := 9) hx hb dX10_takesCouple_50 (by decide) ?_
            obtain ⟨hs_9, hF⟩ := hF
            refine cVi (wr := [((Rf 28), .inl (cI, 6, .inl w_6m1)), ((Rf 29), .inl (cI, 30, .inl w_6m2))]) (rest := []) (m_takesNumber Rf h w_6m0 f13 0 9 hs_9) okV_X10_takesNumber wd_528 hx hb hml hown hts hK hP hD hS hA hN hl.1 [2, 3] [0, 1] rfl rfl rfl rfl (by decide) rfl rfl rfl (Nat.le_of_ble_eq_true rfl) (Nat.le_of_ble_eq_true rfl) (Nat.le_of_ble_eq_true rfl) (Nat.le_of_ble_eq_true rfl) (Nat.le_of_ble_eq_true rfl) dX10_takesCouple_52 (fun r_11 u_10 H locs hw_u_10 hP hD hS => ?_)
            replace hw_u_10 : (r_11, u_10) = (f_m_takesNumber w_6m0 f13 0 9) := hw_u_10
            replace hF := hF r_11 u_10 hw_u_10
            rw [← hw_u_10] at hE
            replace hE : ((match ((if r_11 = 0 then (Sum.inr (0, u_10, w_6m1, w_6m2)) else (f_m_takesCouple_27 f13 n_w_6 (w_6l1 + 1) u_10 w_6m1 (upd w_6m2 (((5 * (u_10 23)) + w_6l1) : Int32).toNatClampNeg (u_10 17)))) : (Int32 × (Nat → Int32) × (Nat → Int32) × (Nat → Int32)) ⊕ (Int32 × (Nat → Int32) × (Nat → Int32) × (Nat → Int32))) with | Sum.inl (w_6l1, w_6m0, w_6m1, w_6m2) => (1, (upd w_6m0 23 ((w_6m0 23) + 1)), w_6m1, w_6m2) | Sum.inr o => o) : Int32 × (Nat → Int32) × (Nat → Int32) × (Nat → Int32)) = RES := hE
            have hP : va_P D classes [((Rf 28), .inl (cI, 6, .inl w_6m1)), ((Rf 29), .inl (cI, 30, .inl w_6m2)), (h, .inr (10, ML u_10 Rf)), ((Rf 13), .inl (cI, 240, .inl f13))] H := hP
            have hD : va_D A [((Rf 28), .inl (cI, 6, .inl w_6m1)), ((Rf 29), .inl (cI, 30, .inl w_6m2)), (h, .inr (10, ML u_10 Rf)), ((Rf 13), .inl (cI, 240, .inl f13))] := hD
            refine lv_if_ne (tgt := 60) hx hb dX10_takesCouple_55 (by decide) (fun c_12 => ?_) (fun c_12 => ?_)
            · replace hF := hF.2 c_12
              rw [if_neg c_12] at hE
              refine lv_aload_n hx hb dX10_takesCouple_60 rfl (lv_at hl 1 rfl) ?_
              refine va_get (D := D) (ci := 10) (v := .ref (Rf 29)) (C := RX10) (T := TX10) (N := 45) hx hb hts iX10 hown hK hP 2 rfl rfl 29 (by decide) (hts _ wd_537) (fun _ h9 => h9) rfl dX10_takesCouple_61 ?_
              refine lv_iconst (v := 5) hx hb dX10_takesCouple_64 (by decide) ?_
              refine lv_aload_n hx hb dX10_takesCouple_65 rfl (lv_at hl 1 rfl) ?_
              refine va_get (D := D) (ci := 10) (v := .int (u_10 23)) (C := RX10) (T := TX10) (N := 45) hx hb hts iX10 hown hK hP 2 rfl rfl 23 (by decide) (hts _ wd_536) (fun _ h9 => h9) rfl dX10_takesCouple_66 ?_
              refine lv_imul hx hb dX10_takesCouple_69 ?_
              refine lv_iload_n hx hb dX10_takesCouple_70 rfl (lv_at hl 0 rfl) ?_
              refine lv_iadd hx hb dX10_takesCouple_71 ?_
              refine lv_aload_n hx hb dX10_takesCouple_72 rfl (lv_at hl 1 rfl) ?_
              refine va_get (D := D) (ci := 10) (v := .int (u_10 17)) (C := RX10) (T := TX10) (N := 45) hx hb hts iX10 hown hK hP 2 rfl rfl 17 (by decide) (hts _ wd_526) (fun _ h9 => h9) rfl dX10_takesCouple_73 ?_
              obtain ⟨hv_13, hF⟩ := hF
              refine va_iast hx hb hK hP hD hS 1 0 rfl rfl hv_13 dX10_takesCouple_76 (fun H locs hP hD hS => ?_)
              have hP : va_P D classes [((Rf 28), .inl (cI, 6, .inl w_6m1)), ((Rf 29), .inl (cI, 30, .inl (upd w_6m2 (((5 * (u_10 23)) + w_6l1) : Int32).toNatClampNeg (u_10 17)))), (h, .inr (10, ML u_10 Rf)), ((Rf 13), .inl (cI, 240, .inl f13))] H := hP
              have hD : va_D A [((Rf 28), .inl (cI, 6, .inl w_6m1)), ((Rf 29), .inl (cI, 30, .inl (upd w_6m2 (((5 * (u_10 23)) + w_6l1) : Int32).toNatClampNeg (u_10 17)))), (h, .inr (10, ML u_10 Rf)), ((Rf 13), .inl (cI, 240, .inl f13))] := hD
              refine lv_iinc (v := (w_6l1 + 1)) (lv' := [(1, .int (w_6l1 + 1)), (0, .ref h)]) hx hb dX10_takesCouple_77 hl (k := 0) rfl rfl (by decide) rfl (fun ls hl => ?_)
              refine lv_goto (tgt := 27) hx hb dX10_takesCouple_80 (by decide) ?_
              exact ih_w_6 (w_6l1 + 1) u_10 w_6m1 (upd w_6m2 (((5 * (u_10 23)) + w_6l1) : Int32).toNatClampNeg (u_10 17)) _ _ ls hP hD hS (lv_sub hl [0, 1] rfl) hF hE
            · replace hF := hF.1 c_12
              rw [if_pos c_12] at hE
              subst c_12
              refine lv_iconst (v := 0) hx hb dX10_takesCouple_58 (by decide) ?_
              exact hret 0 (u_10, w_6m1, w_6m2) _ _ _ _ dX10_takesCouple_59 rfl hE (cutP (isC := [2, 3, 0, 1]) hP rfl) (cutD (isC := [2, 3, 0, 1]) hD rfl rfl) hS
          · replace hF := hF.2 c_8
            rw [if_neg c_8] at hE
            refine lv_aload_n hx hb dX10_takesCouple_39 rfl (lv_at hl 1 rfl) ?_
            refine lv_bipush (v := 44) hx hb dX10_takesCouple_40 (by decide) ?_
            obtain ⟨hs_14, hF⟩ := hF
            refine cVi (wr := [((Rf 28), .inl (cI, 6, .inl w_6m1)), ((Rf 29), .inl (cI, 30, .inl w_6m2))]) (rest := []) (m_takes Rf h w_6m0 f13 44 hs_14) okV_X10_takes wd_538 hx hb hml hown hts hK hP hD hS hA hN hl.1 [2, 3] [0, 1] rfl rfl rfl rfl (by decide) rfl rfl rfl (Nat.le_of_ble_eq_true rfl) (Nat.le_of_ble_eq_true rfl) (Nat.le_of_ble_eq_true rfl) (Nat.le_of_ble_eq_true rfl) (Nat.le_of_ble_eq_true rfl) dX10_takesCouple_42 (fun r_16 u_15 H locs hw_u_15 hP hD hS => ?_)
            replace hw_u_15 : (r_16, u_15) = (f_m_takes w_6m0 f13 44) := hw_u_15
            replace hF := hF r_16 u_15 hw_u_15
            rw [← hw_u_15] at hE
            replace hE : ((match ((if r_16 = 0 then (Sum.inr (0, u_15, w_6m1, w_6m2)) else (match (f_m_takesNumber u_15 f13 0 9) with | (r_20, u_19) => (if r_20 = 0 then (Sum.inr (0, u_19, w_6m1, w_6m2)) else (f_m_takesCouple_27 f13 n_w_6 (w_6l1 + 1) u_19 w_6m1 (upd w_6m2 (((5 * (u_19 23)) + w_6l1) : Int32).toNatClampNeg (u_19 17)))))) : (Int32 × (Nat → Int32) × (Nat → Int32) × (Nat → Int32)) ⊕ (Int32 × (Nat → Int32) × (Nat → Int32) × (Nat → Int32))) with | Sum.inl (w_6l1, w_6m0, w_6m1, w_6m2) => (1, (upd w_6m0 23 ((w_6m0 23) + 1)), w_6m1, w_6m2) | Sum.inr o => o) : Int32 × (Nat → Int32) × (Nat → Int32) × (Nat → Int32)) = RES := hE
            have hP : va_P D classes [((Rf 28), .inl (cI, 6, .inl w_6m1)), ((Rf 29), .inl (cI, 30, .inl w_6m2)), (h, .inr (10, ML u_15 Rf)), ((Rf 13), .inl (cI, 240, .inl f13))] H := hP
            have hD : va_D A [((Rf 28), .inl (cI, 6, .inl w_6m1)), ((Rf 29), .inl (cI, 30, .inl w_6m2)), (h, .inr (10, ML u_15 Rf)), ((Rf 13), .inl (cI, 240, .inl f13))] := hD
            refine lv_if_eq (tgt := 58) hx hb dX10_takesCouple_45 (by decide) (fun c_17 => ?_) (fun c_17 => ?_)
            · replace hF := hF.1 c_17
              rw [if_pos c_17] at hE
              subst c_17
              refine lv_iconst (v := 0) hx hb dX10_takesCouple_58 (by decide) ?_
              exact hret 0 (u_15, w_6m1, w_6m2) _ _ _ _ dX10_takesCouple_59 rfl hE (cutP (isC := [2, 3, 0, 1]) hP rfl) (cutD (isC := [2, 3, 0, 1]) hD rfl rfl) hS
            · replace hF := hF.2 c_17
              rw [if_neg c_17] at hE
              refine lv_aload_n hx hb dX10_takesCouple_48 rfl (lv_at hl 1 rfl) ?_
              refine lv_iconst (v := 0) hx hb dX10_takesCouple_49 (by decide) ?_
              refine lv_bipush (v := 9) hx hb dX10_takesCouple_50 (by decide) ?_
              obtain ⟨hs_18, hF⟩ := hF
              refine cVi (wr := [((Rf 28), .inl (cI, 6, .inl w_6m1)), ((Rf 29), .inl (cI, 30, .inl w_6m2))]) (rest := []) (m_takesNumber Rf h u_15 f13 0 9 hs_18) okV_X10_takesNumber wd_528 hx hb hml hown hts hK hP hD hS hA hN hl.1 [2, 3] [0, 1] rfl rfl rfl rfl (by decide) rfl rfl rfl (Nat.le_of_ble_eq_true rfl) (Nat.le_of_ble_eq_true rfl) (Nat.le_of_ble_eq_true rfl) (Nat.le_of_ble_eq_true rfl) (Nat.le_of_ble_eq_true rfl) dX10_takesCouple_52 (fun r_20 u_19 H locs hw_u_19 hP hD hS => ?_)
              replace hw_u_19 : (r_20, u_19) = (f_m_takesNumber u_15 f13 0 9) := hw_u_19
              replace hF := hF r_20 u_19 hw_u_19
              rw [← hw_u_19] at hE
              replace hE : ((match ((if r_20 = 0 then (Sum.inr (0, u_19, w_6m1, w_6m2)) else (f_m_takesCouple_27 f13 n_w_6 (w_6l1 + 1) u_19 w_6m1 (upd w_6m2 (((5 * (u_19 23)) + w_6l1) : Int32).toNatClampNeg (u_19 17)))) : (Int32 × (Nat → Int32) × (Nat → Int32) × (Nat → Int32)) ⊕ (Int32 × (Nat → Int32) × (Nat → Int32) × (Nat → Int32))) with | Sum.inl (w_6l1, w_6m0, w_6m1, w_6m2) => (1, (upd w_6m0 23 ((w_6m0 23) + 1)), w_6m1, w_6m2) | Sum.inr o => o) : Int32 × (Nat → Int32) × (Nat → Int32) × (Nat → Int32)) = RES := hE
              have hP : va_P D classes [((Rf 28), .inl (cI, 6, .inl w_6m1)), ((Rf 29), .inl (cI, 30, .inl w_6m2)), (h, .inr (10, ML u_19 Rf)), ((Rf 13), .inl (cI, 240, .inl f13))] H := hP
              have hD : va_D A [((Rf 28), .inl (cI, 6, .inl w_6m1)), ((Rf 29), .inl (cI, 30, .inl w_6m2)), (h, .inr (10, ML u_19 Rf)), ((Rf 13), .inl (cI, 240, .inl f13))] := hD
              refine lv_if_ne (tgt := 60) hx hb dX10_takesCouple_55 (by decide) (fun c_21 => ?_) (fun c_21 => ?_)
              · replace hF := hF.2 c_21
                rw [if_neg c_21] at hE
                refine lv_aload_n hx hb dX10_takesCouple_60 rfl (lv_at hl 1 rfl) ?_
                refine va_get (D := D) (ci := 10) (v := .ref (Rf 29)) (C := RX10) (T := TX10) (N := 45) hx hb hts iX10 hown hK hP 2 rfl rfl 29 (by decide) (hts _ wd_537) (fun _ h9 => h9) rfl dX10_takesCouple_61 ?_
                refine lv_iconst (v := 5) hx hb dX10_takesCouple_64 (by decide) ?_
                refine lv_aload_n hx hb dX10_takesCouple_65 rfl (lv_at hl 1 rfl) ?_
                refine va_get (D := D) (ci := 10) (v := .int (u_19 23)) (C := RX10) (T := TX10) (N := 45) hx hb hts iX10 hown hK hP 2 rfl rfl 23 (by decide) (hts _ wd_536) (fun _ h9 => h9) rfl dX10_takesCouple_66 ?_
                refine lv_imul hx hb dX10_takesCouple_69 ?_
                refine lv_iload_n hx hb dX10_takesCouple_70 rfl (lv_at hl 0 rfl) ?_
                refine lv_iadd hx hb dX10_takesCouple_71 ?_
                refine lv_aload_n hx hb dX10_takesCouple_72 rfl (lv_at hl 1 rfl) ?_
                refine va_get (D := D) (ci := 10) (v := .int (u_19 17)) (C := RX10) (T := TX10) (N := 45) hx hb hts iX10 hown hK hP 2 rfl rfl 17 (by decide) (hts _ wd_526) (fun _ h9 => h9) rfl dX10_takesCouple_73 ?_
                obtain ⟨hv_22, hF⟩ := hF
                refine va_iast hx hb hK hP hD hS 1 0 rfl rfl hv_22 dX10_takesCouple_76 (fun H locs hP hD hS => ?_)
                have hP : va_P D classes [((Rf 28), .inl (cI, 6, .inl w_6m1)), ((Rf 29), .inl (cI, 30, .inl (upd w_6m2 (((5 * (u_19 23)) + w_6l1) : Int32).toNatClampNeg (u_19 17)))), (h, .inr (10, ML u_19 Rf)), ((Rf 13), .inl (cI, 240, .inl f13))] H := hP
                have hD : va_D A [((Rf 28), .inl (cI, 6, .inl w_6m1)), ((Rf 29), .inl (cI, 30, .inl (upd w_6m2 (((5 * (u_19 23)) + w_6l1) : Int32).toNatClampNeg (u_19 17)))), (h, .inr (10, ML u_19 Rf)), ((Rf 13), .inl (cI, 240, .inl f13))] := hD
                refine lv_iinc (v := (w_6l1 + 1)) (lv' := [(1, .int (w_6l1 + 1)), (0, .ref h)]) hx hb dX10_takesCouple_77 hl (k := 0) rfl rfl (by decide) rfl (fun ls hl => ?_)
                refine lv_goto (tgt := 27) hx hb dX10_takesCouple_80 (by decide) ?_
                exact ih_w_6 (w_6l1 + 1) u_19 w_6m1 (upd w_6m2 (((5 * (u_19 23)) + w_6l1) : Int32).toNatClampNeg (u_19 17)) _ _ ls hP hD hS (lv_sub hl [0, 1] rfl) hF hE
              · replace hF := hF.1 c_21
                rw [if_pos c_21] at hE
                subst c_21
                refine lv_iconst (v := 0) hx hb dX10_takesCouple_58 (by decide) ?_
                exact hret 0 (u_19, w_6m1, w_6m2) _ _ _ _ dX10_takesCouple_59 rfl hE (cutP (isC := [2, 3, 0, 1]) hP rfl) (cutD (isC := [2, 3, 0, 1]) hD rfl rfl) hS
    exact lp_27_w_6 10 0 u_2 (upd f28 ((u_2 23) : Int32).toNatClampNeg (u_2 17)) f29 _ _ ls hP hD hS hl hF hE
  · replace hF := hF.1 c_4
    rw [if_pos c_4] at hE
    subst c_4
    refine lv_iconst (v := 0) hx hb dX10_takesCouple_10 (by decide) ?_
    exact hret 0 (u_2, f28, f29) _ _ _ _ dX10_takesCouple_11 rfl hE (cutP (isC := [2, 3, 0, 1]) hP rfl) (cutD (isC := [2, 3, 0, 1]) hD rfl rfl) hS
noncomputable def f_m_takesBarge (G : Nat → Int32) (f13 : Nat → Int32) (f30 : Nat → Int32) (f31 : Nat → Int32) : Int32 × (Nat → Int32) × (Nat → Int32) × (Nat → Int32) := (match (f_m_takesNumber G f13 0 ((G 20) - 1)) with | (r_3, u_2) => (if r_3 = 0 then (0, u_2, f30, f31) else (match (f_m_takesNumber u_2 f13 1 300) with | (r_8, u_7) => (if r_8 = 0 then (0, u_7, (upd f30 ((u_2 24) : Int32).toNatClampNeg (u_2 17)), f31) else (1, (upd u_7 24 ((u_7 24) + 1)), (upd f30 ((u_2 24) : Int32).toNatClampNeg (u_2 17)), (upd f31 ((u_7 24) : Int32).toNatClampNeg (u_7 17)))))))
def S_m_takesBarge (G : Nat → Int32) (f13 : Nat → Int32) (f30 : Nat → Int32) (f31 : Nat → Int32) : Prop := ((S_m_takesNumber G f13 0 ((G 20) - 1)) ∧ (∀ (r_3 : Int32) (u_2 : (Nat → Int32)), (r_3, u_2) = (f_m_takesNumber G f13 0 ((G 20) - 1)) → ((r_3 = 0 → True) ∧ (¬ r_3 = 0 → (vp_in (u_2 24) 7 ∧ ((S_m_takesNumber u_2 f13 1 300) ∧ (∀ (r_8 : Int32) (u_7 : (Nat → Int32)), (r_8, u_7) = (f_m_takesNumber u_2 f13 1 300) → ((r_8 = 0 → True) ∧ (¬ r_8 = 0 → (vp_in (u_7 24) 7 ∧ True))))))))))
def rm_m_takesBarge : Room := { frames := 3, cells := 0, slots := 0, locals := 63 }
set_option maxHeartbeats 4000000 in
set_option maxRecDepth 100000 in
theorem m_takesBarge {l : Launch} {D : va_G} {cI cZ : ClassId} {sz : Nat} (Rf : Nat → Nat) (h : Nat) (G : Nat → Int32) (f13 : Nat → Int32) (f30 : Nat → Int32) (f31 : Nat → Int32) (hF : S_m_takesBarge G f13 f30 f31) : KI l yX10_takesBarge cX10_takesBarge 1 (some .boolean) rm_m_takesBarge D cI cZ [.ref h] sz [(h, .inr (10, ML G Rf)), ((Rf 13), .inl (cI, 240, .inl f13)), ((Rf 30), .inl (cI, 7, .inl f30)), ((Rf 31), .inl (cI, 7, .inl f31))] (fun (r : Int32) (u : (Nat → Int32) × (Nat → Int32) × (Nat → Int32)) => (r, u) = f_m_takesBarge G f13 f30 f31) (fun (u : (Nat → Int32) × (Nat → Int32) × (Nat → Int32)) => [(h, .inr (10, ML u.1 Rf)), ((Rf 13), .inl (cI, 240, .inl f13)), ((Rf 30), .inl (cI, 7, .inl u.2.1)), ((Rf 31), .inl (cI, 7, .inl u.2.2))]) := by
  refine KI.go rfl (Nat.le_of_ble_eq_true rfl) ?_
  intro p e s m args below meth c ls A Q hx hb hml hts hown hin hP hK hD hS hA hN hl hret
  have hl : lv_has ls 1 [(0, .ref h)] := hl
  rw [S_m_takesBarge] at hF
  obtain ⟨RES, hE⟩ : ∃ xRES, f_m_takesBarge G f13 f30 f31 = xRES := ⟨_, rfl⟩
  rw [hE] at hret
  rw [f_m_takesBarge] at hE
  refine lv_aload_n hx hb dX10_takesBarge_0 rfl (lv_at hl 0 rfl) ?_
  refine lv_iconst (v := 0) hx hb dX10_takesBarge_1 (by decide) ?_
  refine lv_aload_n hx hb dX10_takesBarge_2 rfl (lv_at hl 0 rfl) ?_
  refine va_get (D := D) (ci := 10) (v := .int (G 20)) (C := RX10) (T := TX10) (N := 45) hx hb hts iX10 hown hK hP 0 rfl rfl 20 (by decide) (hts _ wd_527) (fun _ h9 => h9) rfl dX10_takesBarge_3 ?_
  refine lv_iconst (v := 1) hx hb dX10_takesBarge_6 (by decide) ?_
  refine lv_isub hx hb dX10_takesBarge_7 ?_
  obtain ⟨hs_1, hF⟩ := hF
  refine cVi (wr := [((Rf 30), .inl (cI, 7, .inl f30)), ((Rf 31), .inl (cI, 7, .inl f31))]) (rest := []) (m_takesNumber Rf h G f13 0 ((G 20) - 1) hs_1) okV_X10_takesNumber wd_528 hx hb hml hown hts hK hP hD hS hA hN hl.1 [0, 1] [2, 3] rfl rfl rfl rfl (by decide) rfl rfl rfl (Nat.le_of_ble_eq_true rfl) (Nat.le_of_ble_eq_true rfl) (Nat.le_of_ble_eq_true rfl) (Nat.le_of_ble_eq_true rfl) (Nat.le_of_ble_eq_true rfl) dX10_takesBarge_8 (fun r_3 u_2 H locs hw_u_2 hP hD hS => ?_)
  replace hw_u_2 : (r_3, u_2) = (f_m_takesNumber G f13 0 ((G 20) - 1)) := hw_u_2
  replace hF := hF r_3 u_2 hw_u_2
  rw [← hw_u_2] at hE
  replace hE : ((if r_3 = 0 then (0, u_2, f30, f31) else (match (f_m_takesNumber u_2 f13 1 300) with | (r_8, u_7) => (if r_8 = 0 then (0, u_7, (upd f30 ((u_2 24) : Int32).toNatClampNeg (u_2 17)), f31) else (1, (upd u_7 24 ((u_7 24) + 1)), (upd f30 ((u_2 24) : Int32).toNatClampNeg (u_2 17)), (upd f31 ((u_7 24) : Int32).toNatClampNeg (u_7 17)))))) : Int32 × (Nat → Int32) × (Nat → Int32) × (Nat → Int32)) = RES := hE
  have hP : va_P D classes [((Rf 30), .inl (cI, 7, .inl f30)), ((Rf 31), .inl (cI, 7, .inl f31)), (h, .inr (10, ML u_2 Rf)), ((Rf 13), .inl (cI, 240, .inl f13))] H := hP
  have hD : va_D A [((Rf 30), .inl (cI, 7, .inl f30)), ((Rf 31), .inl (cI, 7, .inl f31)), (h, .inr (10, ML u_2 Rf)), ((Rf 13), .inl (cI, 240, .inl f13))] := hD
  refine lv_if_ne (tgt := 16) hx hb dX10_takesBarge_11 (by decide) (fun c_4 => ?_) (fun c_4 => ?_)
  · replace hF := hF.2 c_4
    rw [if_neg c_4] at hE
    refine lv_aload_n hx hb dX10_takesBarge_16 rfl (lv_at hl 0 rfl) ?_
    refine va_get (D := D) (ci := 10) (v := .ref (Rf 30)) (C := RX10) (T := TX10) (N := 45) hx hb hts iX10 hown hK hP 2 rfl rfl 30 (by decide) (hts _ wd_542) (fun _ h9 => h9) rfl dX10_takesBarge_17 ?_
    refine lv_aload_n hx hb dX10_takesBarge_20 rfl (lv_at hl 0 rfl) ?_
    refine va_get (D := D) (ci := 10) (v := .int (u_2 24)) (C := RX10) (T := TX10) (N := 45) hx hb hts iX10 hown hK hP 2 rfl rfl 24 (by decide) (hts _ wd_543) (fun _ h9 => h9) rfl dX10_takesBarge_21 ?_
    refine lv_aload_n hx hb dX10_takesBarge_24 rfl (lv_at hl 0 rfl) ?_
    refine va_get (D := D) (ci := 10) (v := .int (u_2 17)) (C := RX10) (T := TX10) (N := 45) hx hb hts iX10 hown hK hP 2 rfl rfl 17 (by decide) (hts _ wd_526) (fun _ h9 => h9) rfl dX10_takesBarge_25 ?_
    obtain ⟨hv_5, hF⟩ := hF
    refine va_iast hx hb hK hP hD hS 0 0 rfl rfl hv_5 dX10_takesBarge_28 (fun H locs hP hD hS => ?_)
    have hP : va_P D classes [((Rf 30), .inl (cI, 7, .inl (upd f30 ((u_2 24) : Int32).toNatClampNeg (u_2 17)))), ((Rf 31), .inl (cI, 7, .inl f31)), (h, .inr (10, ML u_2 Rf)), ((Rf 13), .inl (cI, 240, .inl f13))] H := hP
    have hD : va_D A [((Rf 30), .inl (cI, 7, .inl (upd f30 ((u_2 24) : Int32).toNatClampNeg (u_2 17)))), ((Rf 31), .inl (cI, 7, .inl f31)), (h, .inr (10, ML u_2 Rf)), ((Rf 13), .inl (cI, 240, .inl f13))] := hD
    refine lv_aload_n hx hb dX10_takesBarge_29 rfl (lv_at hl 0 rfl) ?_
    refine lv_iconst (v := 1) hx hb dX10_takesBarge_30 (by decide) ?_
    refine lv_sipush (v := 300) hx hb dX10_takesBarge_31 (by decide) ?_
    obtain ⟨hs_6, hF⟩ := hF
    refine cVi (wr := [((Rf 30), .inl (cI, 7, .inl (upd f30 ((u_2 24) : Int32).toNatClampNeg (u_2 17)))), ((Rf 31), .inl (cI, 7, .inl f31))]) (rest := []) (m_takesNumber Rf h u_2 f13 1 300 hs_6) okV_X10_takesNumber wd_528 hx hb hml hown hts hK hP hD hS hA hN hl.1 [2, 3] [0, 1] rfl rfl rfl rfl (by decide) rfl rfl rfl (Nat.le_of_ble_eq_true rfl) (Nat.le_of_ble_eq_true rfl) (Nat.le_of_ble_eq_true rfl) (Nat.le_of_ble_eq_true rfl) (Nat.le_of_ble_eq_true rfl) dX10_takesBarge_34 (fun r_8 u_7 H locs hw_u_7 hP hD hS => ?_)
    replace hw_u_7 : (r_8, u_7) = (f_m_takesNumber u_2 f13 1 300) := hw_u_7
    replace hF := hF r_8 u_7 hw_u_7
    rw [← hw_u_7] at hE
    replace hE : ((if r_8 = 0 then (0, u_7, (upd f30 ((u_2 24) : Int32).toNatClampNeg (u_2 17)), f31) else (1, (upd u_7 24 ((u_7 24) + 1)), (upd f30 ((u_2 24) : Int32).toNatClampNeg (u_2 17)), (upd f31 ((u_7 24) : Int32).toNatClampNeg (u_7 17)))) : Int32 × (Nat → Int32) × (Nat → Int32) × (Nat → Int32)) = RES := hE
    have hP : va_P D classes [((Rf 30), .inl (cI, 7, .inl (upd f30 ((u_2 24) : Int32).toNatClampNeg (u_2 17)))), ((Rf 31), .inl (cI, 7, .inl f31)), (h, .inr (10, ML u_7 Rf)), ((Rf 13), .inl (cI, 240, .inl f13))] H := hP
    have hD : va_D A [((Rf 30), .inl (cI, 7, .inl (upd f30 ((u_2 24) : Int32).toNatClampNeg (u_2 17)))), ((Rf 31), .inl (cI, 7, .inl f31)), (h, .inr (10, ML u_7 Rf)), ((Rf 13), .inl (cI, 240, .inl f13))] := hD
    refine lv_if_ne (tgt := 42) hx hb dX10_takesBarge_37 (by decide) (fun c_9 => ?_) (fun c_9 => ?_)
    · replace hF := hF.2 c_9
      rw [if_neg c_9] at hE
      refine lv_aload_n hx hb dX10_takesBarge_42 rfl (lv_at hl 0 rfl) ?_
      refine va_get (D := D) (ci := 10) (v := .ref (Rf 31)) (C := RX10) (T := TX10) (N := 45) hx hb hts iX10 hown hK hP 2 rfl rfl 31 (by decide) (hts _ wd_544) (fun _ h9 => h9) rfl dX10_takesBarge_43 ?_
      refine lv_aload_n hx hb dX10_takesBarge_46 rfl (lv_at hl 0 rfl) ?_
      refine va_get (D := D) (ci := 10) (v := .int (u_7 24)) (C := RX10) (T := TX10) (N := 45) hx hb hts iX10 hown hK hP 2 rfl rfl 24 (by decide) (hts _ wd_543) (fun _ h9 => h9) rfl dX10_takesBarge_47 ?_
      refine lv_aload_n hx hb dX10_takesBarge_50 rfl (lv_at hl 0 rfl) ?_
      refine va_get (D := D) (ci := 10) (v := .int (u_7 17)) (C := RX10) (T := TX10) (N := 45) hx hb hts iX10 hown hK hP 2 rfl rfl 17 (by decide) (hts _ wd_526) (fun _ h9 => h9) rfl dX10_takesBarge_51 ?_
      obtain ⟨hv_10, hF⟩ := hF
      refine va_iast hx hb hK hP hD hS 1 0 rfl rfl hv_10 dX10_takesBarge_54 (fun H locs hP hD hS => ?_)
      have hP : va_P D classes [((Rf 30), .inl (cI, 7, .inl (upd f30 ((u_2 24) : Int32).toNatClampNeg (u_2 17)))), ((Rf 31), .inl (cI, 7, .inl (upd f31 ((u_7 24) : Int32).toNatClampNeg (u_7 17)))), (h, .inr (10, ML u_7 Rf)), ((Rf 13), .inl (cI, 240, .inl f13))] H := hP
      have hD : va_D A [((Rf 30), .inl (cI, 7, .inl (upd f30 ((u_2 24) : Int32).toNatClampNeg (u_2 17)))), ((Rf 31), .inl (cI, 7, .inl (upd f31 ((u_7 24) : Int32).toNatClampNeg (u_7 17)))), (h, .inr (10, ML u_7 Rf)), ((Rf 13), .inl (cI, 240, .inl f13))] := hD
      refine lv_aload_n hx hb dX10_takesBarge_55 rfl (lv_at hl 0 rfl) ?_
      refine lv_dup hx hb dX10_takesBarge_56 rfl ?_
      refine va_get (D := D) (ci := 10) (v := .int (u_7 24)) (C := RX10) (T := TX10) (N := 45) hx hb hts iX10 hown hK hP 2 rfl rfl 24 (by decide) (hts _ wd_543) (fun _ h9 => h9) rfl dX10_takesBarge_57 ?_
      refine lv_iconst (v := 1) hx hb dX10_takesBarge_60 (by decide) ?_
      refine lv_iadd hx hb dX10_takesBarge_61 ?_
      refine va_put (D := D) (ci := 10) (v := .int ((u_7 24) + 1)) (ty := .int) (C := RX10) (T := TX10) (N := 45) hx hb hts iX10 tyX10 tyX10_ok nmX10 hown hK hP hD hS 2 rfl rfl 24 (by decide) (hts _ wd_543) (fun _ h9 => h9) rfl (by decide +kernel) rfl rfl (Nat.le_of_ble_eq_true rfl) dX10_takesBarge_62 (fun H locs hP hD hS => ?_)
      have hP : va_P D classes [((Rf 30), .inl (cI, 7, .inl (upd f30 ((u_2 24) : Int32).toNatClampNeg (u_2 17)))), ((Rf 31), .inl (cI, 7, .inl (upd f31 ((u_7 24) : Int32).toNatClampNeg (u_7 17)))), (h, .inr (10, ML (upd u_7 24 ((u_7 24) + 1)) Rf)), ((Rf 13), .inl (cI, 240, .inl f13))] H := hP
      have hD : va_D A [((Rf 30), .inl (cI, 7, .inl (upd f30 ((u_2 24) : Int32).toNatClampNeg (u_2 17)))), ((Rf 31), .inl (cI, 7, .inl (upd f31 ((u_7 24) : Int32).toNatClampNeg (u_7 17)))), (h, .inr (10, ML (upd u_7 24 ((u_7 24) + 1)) Rf)), ((Rf 13), .inl (cI, 240, .inl f13))] := hD
      refine lv_iconst (v := 1) hx hb dX10_takesBarge_65 (by decide) ?_
      exact hret 1 ((upd u_7 24 ((u_7 24) + 1)), (upd f30 ((u_2 24) : Int32).toNatClampNeg (u_2 17)), (upd f31 ((u_7 24) : Int32).toNatClampNeg (u_7 17))) _ _ _ _ dX10_takesBarge_66 rfl hE (cutP (isC := [2, 3, 0, 1]) hP rfl) (cutD (isC := [2, 3, 0, 1]) hD rfl rfl) hS
    · replace hF := hF.1 c_9
      rw [if_pos c_9] at hE
      subst c_9
      refine lv_iconst (v := 0) hx hb dX10_takesBarge_40 (by decide) ?_
      exact hret 0 (u_7, (upd f30 ((u_2 24) : Int32).toNatClampNeg (u_2 17)), f31) _ _ _ _ dX10_takesBarge_41 rfl hE (cutP (isC := [2, 3, 0, 1]) hP rfl) (cutD (isC := [2, 3, 0, 1]) hD rfl rfl) hS
  · replace hF := hF.1 c_4
    rw [if_pos c_4] at hE
    subst c_4
    refine lv_iconst (v := 0) hx hb dX10_takesBarge_14 (by decide) ?_
    exact hret 0 (u_2, f30, f31) _ _ _ _ dX10_takesBarge_15 rfl hE (cutP (isC := [2, 3, 0, 1]) hP rfl) (cutD (isC := [2, 3, 0, 1]) hD rfl rfl) hS
noncomputable def f_m_takesSnow (G : Nat → Int32) (f13 : Nat → Int32) : Int32 × (Nat → Int32) := (match (f_m_takesNumber (upd G 26 1) f13 0 1) with | (r_3, u_2) => (if r_3 = 0 then (0, u_2) else (1, (upd u_2 25 (u_2 17)))))
def S_m_takesSnow (G : Nat → Int32) (f13 : Nat → Int32) : Prop := ((S_m_takesNumber (upd G 26 1) f13 0 1) ∧ (∀ (r_3 : Int32) (u_2 : (Nat → Int32)), (r_3, u_2) = (f_m_takesNumber (upd G 26 1) f13 0 1) → ((r_3 = 0 → True) ∧ (¬ r_3 = 0 → True))))
def rm_m_takesSnow : Room := { frames := 3, cells := 0, slots := 0, locals := 63 }
set_option maxHeartbeats 4000000 in
set_option maxRecDepth 100000 in
theorem m_takesSnow {l : Launch} {D : va_G} {cI cZ : ClassId} {sz : Nat} (Rf : Nat → Nat) (h : Nat) (G : Nat → Int32) (f13 : Nat → Int32) (hF : S_m_takesSnow G f13) : KI l yX10_takesSnow cX10_takesSnow 1 (some .boolean) rm_m_takesSnow D cI cZ [.ref h] sz [(h, .inr (10, ML G Rf)), ((Rf 13), .inl (cI, 240, .inl f13))] (fun (r : Int32) (u : (Nat → Int32)) => (r, u) = f_m_takesSnow G f13) (fun (u : (Nat → Int32)) => [(h, .inr (10, ML u Rf)), ((Rf 13), .inl (cI, 240, .inl f13))]) := by
  refine KI.go rfl (Nat.le_of_ble_eq_true rfl) ?_
  intro p e s m args below meth c ls A Q hx hb hml hts hown hin hP hK hD hS hA hN hl hret
  have hl : lv_has ls 1 [(0, .ref h)] := hl
  rw [S_m_takesSnow] at hF
  obtain ⟨RES, hE⟩ : ∃ xRES, f_m_takesSnow G f13 = xRES := ⟨_, rfl⟩
  rw [hE] at hret
  rw [f_m_takesSnow] at hE
  refine lv_aload_n hx hb dX10_takesSnow_0 rfl (lv_at hl 0 rfl) ?_
  refine lv_iconst (v := 1) hx hb dX10_takesSnow_1 (by decide) ?_
  refine va_put (D := D) (ci := 10) (v := .int 1) (ty := .boolean) (C := RX10) (T := TX10) (N := 45) hx hb hts iX10 tyX10 tyX10_ok nmX10 hown hK hP hD hS 0 rfl rfl 26 (by decide) (hts _ wd_545) (fun _ h9 => h9) rfl (by decide +kernel) rfl rfl (Nat.le_of_ble_eq_true rfl) dX10_takesSnow_2 (fun H locs hP hD hS => ?_)
  have hP : va_P D classes [(h, .inr (10, ML (upd G 26 1) Rf)), ((Rf 13), .inl (cI, 240, .inl f13))] H := hP
  have hD : va_D A [(h, .inr (10, ML (upd G 26 1) Rf)), ((Rf 13), .inl (cI, 240, .inl f13))] := hD
  refine lv_aload_n hx hb dX10_takesSnow_5 rfl (lv_at hl 0 rfl) ?_
  refine lv_iconst (v := 0) hx hb dX10_takesSnow_6 (by decide) ?_
  refine lv_iconst (v := 1) hx hb dX10_takesSnow_7 (by decide) ?_
  obtain ⟨hs_1, hF⟩ := hF
  refine cVi (wr := []) (rest := []) (m_takesNumber Rf h (upd G 26 1) f13 0 1 hs_1) okV_X10_takesNumber wd_528 hx hb hml hown hts hK hP hD hS hA hN hl.1 [0, 1] [] rfl rfl rfl rfl (by decide) rfl rfl rfl (Nat.le_of_ble_eq_true rfl) (Nat.le_of_ble_eq_true rfl) (Nat.le_of_ble_eq_true rfl) (Nat.le_of_ble_eq_true rfl) (Nat.le_of_ble_eq_true rfl) dX10_takesSnow_8 (fun r_3 u_2 H locs hw_u_2 hP hD hS => ?_)
  replace hw_u_2 : (r_3, u_2) = (f_m_takesNumber (upd G 26 1) f13 0 1) := hw_u_2
  replace hF := hF r_3 u_2 hw_u_2
  rw [← hw_u_2] at hE
  replace hE : ((if r_3 = 0 then (0, u_2) else (1, (upd u_2 25 (u_2 17)))) : Int32 × (Nat → Int32)) = RES := hE
  have hP : va_P D classes [(h, .inr (10, ML u_2 Rf)), ((Rf 13), .inl (cI, 240, .inl f13))] H := hP
  have hD : va_D A [(h, .inr (10, ML u_2 Rf)), ((Rf 13), .inl (cI, 240, .inl f13))] := hD
  refine lv_if_ne (tgt := 16) hx hb dX10_takesSnow_11 (by decide) (fun c_4 => ?_) (fun c_4 => ?_)
  · replace hF := hF.2 c_4
    rw [if_neg c_4] at hE
    refine lv_aload_n hx hb dX10_takesSnow_16 rfl (lv_at hl 0 rfl) ?_
    refine lv_aload_n hx hb dX10_takesSnow_17 rfl (lv_at hl 0 rfl) ?_
    refine va_get (D := D) (ci := 10) (v := .int (u_2 17)) (C := RX10) (T := TX10) (N := 45) hx hb hts iX10 hown hK hP 0 rfl rfl 17 (by decide) (hts _ wd_526) (fun _ h9 => h9) rfl dX10_takesSnow_18 ?_
    refine va_put (D := D) (ci := 10) (v := .int (u_2 17)) (ty := .int) (C := RX10) (T := TX10) (N := 45) hx hb hts iX10 tyX10 tyX10_ok nmX10 hown hK hP hD hS 0 rfl rfl 25 (by decide) (hts _ wd_546) (fun _ h9 => h9) rfl (by decide +kernel) rfl rfl (Nat.le_of_ble_eq_true rfl) dX10_takesSnow_21 (fun H locs hP hD hS => ?_)
    have hP : va_P D classes [(h, .inr (10, ML (upd u_2 25 (u_2 17)) Rf)), ((Rf 13), .inl (cI, 240, .inl f13))] H := hP
    have hD : va_D A [(h, .inr (10, ML (upd u_2 25 (u_2 17)) Rf)), ((Rf 13), .inl (cI, 240, .inl f13))] := hD
    refine lv_iconst (v := 1) hx hb dX10_takesSnow_24 (by decide) ?_
    exact hret 1 (upd u_2 25 (u_2 17)) _ _ _ _ dX10_takesSnow_25 rfl hE hP hD hS
  · replace hF := hF.1 c_4
    rw [if_pos c_4] at hE
    subst c_4
    refine lv_iconst (v := 0) hx hb dX10_takesSnow_14 (by decide) ?_
    exact hret 0 u_2 _ _ _ _ dX10_takesSnow_15 rfl hE hP hD hS
