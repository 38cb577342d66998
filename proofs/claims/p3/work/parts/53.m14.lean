theorem dX10_tear_0 : decode cX10_tear 0 = .ok (.aload_n 0, 1) := by decide +kernel
theorem wd_609 : Cond.fieldLink RX10 177 "QuarrelBridgesModel" "booked" "I" ∈ BG := BG_at 825 (by decide +kernel) rfl
theorem dX10_tear_1 : decode cX10_tear 1 = .ok (.getfield 177, 3) := by decide +kernel
theorem dX10_tear_4 : decode cX10_tear 4 = .ok (.istore_n 1, 1) := by decide +kernel
theorem dX10_tear_5 : decode cX10_tear 5 = .ok (.aload_n 0, 1) := by decide +kernel
theorem dX10_tear_6 : decode cX10_tear 6 = .ok (.iconst 0, 1) := by decide +kernel
theorem dX10_tear_7 : decode cX10_tear 7 = .ok (.putfield 177, 3) := by decide +kernel
theorem dX10_tear_10 : decode cX10_tear 10 = .ok (.iload_n 1, 1) := by decide +kernel
theorem dX10_tear_11 : decode cX10_tear 11 = .ok (.ireturn, 1) := by decide +kernel
theorem dX10_seed_0 : decode cX10_seed 0 = .ok (.iload_n 1, 1) := by decide +kernel
theorem dX10_seed_1 : decode cX10_seed 1 = .ok (.ifCond .ge 6, 3) := by decide +kernel
theorem dX10_seed_7 : decode cX10_seed 7 = .ok (.aload_n 0, 1) := by decide +kernel
theorem dX10_seed_8 : decode cX10_seed 8 = .ok (.getfield 7, 3) := by decide +kernel
theorem dX10_seed_11 : decode cX10_seed 11 = .ok (.bipush 41, 2) := by decide +kernel
theorem dX10_seed_13 : decode cX10_seed 13 = .ok (.iaload, 1) := by decide +kernel
theorem dX10_seed_14 : decode cX10_seed 14 = .ok (.istore_n 2, 1) := by decide +kernel
theorem dX10_seed_15 : decode cX10_seed 15 = .ok (.aload_n 0, 1) := by decide +kernel
theorem dX10_seed_16 : decode cX10_seed 16 = .ok (.getfield 7, 3) := by decide +kernel
theorem dX10_seed_19 : decode cX10_seed 19 = .ok (.bipush 41, 2) := by decide +kernel
theorem dX10_seed_21 : decode cX10_seed 21 = .ok (.iload_n 1, 1) := by decide +kernel
theorem dX10_seed_22 : decode cX10_seed 22 = .ok (.iastore, 1) := by decide +kernel
theorem dX10_seed_23 : decode cX10_seed 23 = .ok (.iload_n 2, 1) := by decide +kernel
theorem dX10_seed_24 : decode cX10_seed 24 = .ok (.ireturn, 1) := by decide +kernel
theorem dX10_seed_4 : decode cX10_seed 4 = .ok (.ldc 93, 2) := by decide +kernel
theorem dX10_seed_6 : decode cX10_seed 6 = .ok (.ireturn, 1) := by decide +kernel
theorem dX10_write_0 : decode cX10_write 0 = .ok (.aload_n 0, 1) := by decide +kernel
theorem dX10_write_1 : decode cX10_write 1 = .ok (.iload_n 1, 1) := by decide +kernel
theorem dX10_write_2 : decode cX10_write 2 = .ok (.invokevirtual 204, 3) := by decide +kernel
theorem dX10_write_5 : decode cX10_write 5 = .ok (.ifCond .ne 6, 3) := by decide +kernel
theorem dX10_write_11 : decode cX10_write 11 = .ok (.iload_n 2, 1) := by decide +kernel
theorem dX10_write_12 : decode cX10_write 12 = .ok (.i2l, 1) := by decide +kernel
theorem dX10_write_13 : decode cX10_write 13 = .ok (.lconst 0, 1) := by decide +kernel
theorem dX10_write_14 : decode cX10_write 14 = .ok (.ldc2_w 245, 3) := by decide +kernel
theorem dX10_write_17 : decode cX10_write 17 = .ok (.invokestatic 84, 3) := by decide +kernel
theorem dX10_write_20 : decode cX10_write 20 = .ok (.ifCond .ne 6, 3) := by decide +kernel
theorem dX10_write_26 : decode cX10_write 26 = .ok (.aload_n 0, 1) := by decide +kernel
theorem dX10_write_27 : decode cX10_write 27 = .ok (.getfield 177, 3) := by decide +kernel
theorem dX10_write_30 : decode cX10_write 30 = .ok (.bipush 15, 2) := by decide +kernel
theorem dX10_write_32 : decode cX10_write 32 = .ok (.if_icmp .ne 6, 3) := by decide +kernel
theorem dX10_write_38 : decode cX10_write 38 = .ok (.aload_n 0, 1) := by decide +kernel
theorem wd_610 : Cond.fieldLink RX10 69 "QuarrelBridgesModel" "bookCouple" "[I" ∈ BG := BG_at 826 (by decide +kernel) rfl
theorem dX10_write_39 : decode cX10_write 39 = .ok (.getfield 69, 3) := by decide +kernel
theorem dX10_write_42 : decode cX10_write 42 = .ok (.aload_n 0, 1) := by decide +kernel
theorem dX10_write_43 : decode cX10_write 43 = .ok (.getfield 177, 3) := by decide +kernel
theorem dX10_write_46 : decode cX10_write 46 = .ok (.iload_n 1, 1) := by decide +kernel
theorem dX10_write_47 : decode cX10_write 47 = .ok (.iastore, 1) := by decide +kernel
theorem dX10_write_48 : decode cX10_write 48 = .ok (.aload_n 0, 1) := by decide +kernel
theorem wd_611 : Cond.fieldLink RX10 72 "QuarrelBridgesModel" "bookGrief" "[I" ∈ BG := BG_at 827 (by decide +kernel) rfl
theorem dX10_write_49 : decode cX10_write 49 = .ok (.getfield 72, 3) := by decide +kernel
theorem dX10_write_52 : decode cX10_write 52 = .ok (.aload_n 0, 1) := by decide +kernel
theorem dX10_write_53 : decode cX10_write 53 = .ok (.getfield 177, 3) := by decide +kernel
theorem dX10_write_56 : decode cX10_write 56 = .ok (.iload_n 2, 1) := by decide +kernel
theorem dX10_write_57 : decode cX10_write 57 = .ok (.iastore, 1) := by decide +kernel
theorem dX10_write_58 : decode cX10_write 58 = .ok (.aload_n 0, 1) := by decide +kernel
theorem dX10_write_59 : decode cX10_write 59 = .ok (.dup, 1) := by decide +kernel
theorem dX10_write_60 : decode cX10_write 60 = .ok (.getfield 177, 3) := by decide +kernel
theorem dX10_write_63 : decode cX10_write 63 = .ok (.iconst 1, 1) := by decide +kernel
theorem dX10_write_64 : decode cX10_write 64 = .ok (.iadd, 1) := by decide +kernel
theorem dX10_write_65 : decode cX10_write 65 = .ok (.putfield 177, 3) := by decide +kernel
theorem dX10_write_68 : decode cX10_write 68 = .ok (.aload_n 0, 1) := by decide +kernel
theorem dX10_write_69 : decode cX10_write 69 = .ok (.getfield 177, 3) := by decide +kernel
theorem dX10_write_72 : decode cX10_write 72 = .ok (.ireturn, 1) := by decide +kernel
theorem dX10_write_35 : decode cX10_write 35 = .ok (.ldc 97, 2) := by decide +kernel
theorem dX10_write_37 : decode cX10_write 37 = .ok (.ireturn, 1) := by decide +kernel
theorem dX10_write_23 : decode cX10_write 23 = .ok (.ldc 93, 2) := by decide +kernel
theorem dX10_write_25 : decode cX10_write 25 = .ok (.ireturn, 1) := by decide +kernel
theorem dX10_write_8 : decode cX10_write 8 = .ok (.ldc 199, 2) := by decide +kernel
theorem dX10_write_10 : decode cX10_write 10 = .ok (.ireturn, 1) := by decide +kernel
theorem dX10_keep_0 : decode cX10_keep 0 = .ok (.iload_n 1, 1) := by decide +kernel
theorem dX10_keep_1 : decode cX10_keep 1 = .ok (.i2l, 1) := by decide +kernel
theorem dX10_keep_2 : decode cX10_keep 2 = .ok (.lconst 0, 1) := by decide +kernel
theorem dX10_keep_3 : decode cX10_keep 3 = .ok (.lconst 1, 1) := by decide +kernel
theorem dX10_keep_4 : decode cX10_keep 4 = .ok (.invokestatic 84, 3) := by decide +kernel
theorem dX10_keep_7 : decode cX10_keep 7 = .ok (.ifCond .ne 6, 3) := by decide +kernel
theorem dX10_keep_13 : decode cX10_keep 13 = .ok (.aload_n 0, 1) := by decide +kernel
theorem dX10_keep_14 : decode cX10_keep 14 = .ok (.iconst 0, 1) := by decide +kernel
theorem dX10_keep_15 : decode cX10_keep 15 = .ok (.sipush 378, 3) := by decide +kernel
theorem dX10_keep_18 : decode cX10_keep 18 = .ok (.bipush 42, 2) := by decide +kernel
theorem dX10_keep_20 : decode cX10_keep 20 = .ok (.iload_n 1, 1) := by decide +kernel
theorem dX10_keep_21 : decode cX10_keep 21 = .ok (.imul, 1) := by decide +kernel
theorem dX10_keep_22 : decode cX10_keep 22 = .ok (.iadd, 1) := by decide +kernel
theorem dX10_keep_23 : decode cX10_keep 23 = .ok (.invokevirtual 229, 3) := by decide +kernel
theorem dX10_keep_26 : decode cX10_keep 26 = .ok (.aload_n 0, 1) := by decide +kernel
theorem wd_612 : Cond.fieldLink RX10 13 "QuarrelBridgesModel" "isKept" "[Z" ∈ BG := BG_at 784 (by decide +kernel) rfl
theorem dX10_keep_27 : decode cX10_keep 27 = .ok (.getfield 13, 3) := by decide +kernel
theorem dX10_keep_30 : decode cX10_keep 30 = .ok (.iload_n 1, 1) := by decide +kernel
theorem dX10_keep_31 : decode cX10_keep 31 = .ok (.iconst 1, 1) := by decide +kernel
theorem dX10_keep_32 : decode cX10_keep 32 = .ok (.bastore, 1) := by decide +kernel
theorem dX10_keep_33 : decode cX10_keep 33 = .ok (.aload_n 0, 1) := by decide +kernel
theorem dX10_keep_34 : decode cX10_keep 34 = .ok (.iconst 0, 1) := by decide +kernel
theorem dX10_keep_35 : decode cX10_keep 35 = .ok (.putfield 180, 3) := by decide +kernel
theorem dX10_keep_38 : decode cX10_keep 38 = .ok (.iconst 1, 1) := by decide +kernel
theorem dX10_keep_39 : decode cX10_keep 39 = .ok (.ireturn, 1) := by decide +kernel
theorem dX10_keep_10 : decode cX10_keep 10 = .ok (.ldc 199, 2) := by decide +kernel
theorem dX10_keep_12 : decode cX10_keep 12 = .ok (.ireturn, 1) := by decide +kernel
theorem dX10_goBack_0 : decode cX10_goBack 0 = .ok (.iload_n 1, 1) := by decide +kernel
theorem dX10_goBack_1 : decode cX10_goBack 1 = .ok (.i2l, 1) := by decide +kernel
theorem dX10_goBack_2 : decode cX10_goBack 2 = .ok (.lconst 0, 1) := by decide +kernel
theorem dX10_goBack_3 : decode cX10_goBack 3 = .ok (.lconst 1, 1) := by decide +kernel
theorem dX10_goBack_4 : decode cX10_goBack 4 = .ok (.invokestatic 84, 3) := by decide +kernel
theorem dX10_goBack_7 : decode cX10_goBack 7 = .ok (.ifCond .ne 6, 3) := by decide +kernel
theorem dX10_goBack_13 : decode cX10_goBack 13 = .ok (.aload_n 0, 1) := by decide +kernel
theorem dX10_goBack_14 : decode cX10_goBack 14 = .ok (.getfield 13, 3) := by decide +kernel
theorem dX10_goBack_17 : decode cX10_goBack 17 = .ok (.iload_n 1, 1) := by decide +kernel
theorem dX10_goBack_18 : decode cX10_goBack 18 = .ok (.baload, 1) := by decide +kernel
theorem dX10_goBack_19 : decode cX10_goBack 19 = .ok (.ifCond .ne 6, 3) := by decide +kernel
theorem dX10_goBack_25 : decode cX10_goBack 25 = .ok (.aload_n 0, 1) := by decide +kernel
theorem dX10_goBack_26 : decode cX10_goBack 26 = .ok (.sipush 378, 3) := by decide +kernel
theorem dX10_goBack_29 : decode cX10_goBack 29 = .ok (.bipush 42, 2) := by decide +kernel
theorem dX10_goBack_31 : decode cX10_goBack 31 = .ok (.iload_n 1, 1) := by decide +kernel
theorem dX10_goBack_32 : decode cX10_goBack 32 = .ok (.imul, 1) := by decide +kernel
theorem dX10_goBack_33 : decode cX10_goBack 33 = .ok (.iadd, 1) := by decide +kernel
theorem dX10_goBack_34 : decode cX10_goBack 34 = .ok (.iconst 0, 1) := by decide +kernel
theorem dX10_goBack_35 : decode cX10_goBack 35 = .ok (.invokevirtual 229, 3) := by decide +kernel
theorem dX10_goBack_38 : decode cX10_goBack 38 = .ok (.aload_n 0, 1) := by decide +kernel
theorem dX10_goBack_39 : decode cX10_goBack 39 = .ok (.iconst 0, 1) := by decide +kernel
theorem dX10_goBack_40 : decode cX10_goBack 40 = .ok (.putfield 180, 3) := by decide +kernel
theorem dX10_goBack_43 : decode cX10_goBack 43 = .ok (.iconst 1, 1) := by decide +kernel
theorem dX10_goBack_44 : decode cX10_goBack 44 = .ok (.ireturn, 1) := by decide +kernel
theorem dX10_goBack_22 : decode cX10_goBack 22 = .ok (.ldc 233, 2) := by decide +kernel
theorem dX10_goBack_24 : decode cX10_goBack 24 = .ok (.ireturn, 1) := by decide +kernel
theorem dX10_goBack_10 : decode cX10_goBack 10 = .ok (.ldc 199, 2) := by decide +kernel
theorem dX10_goBack_12 : decode cX10_goBack 12 = .ok (.ireturn, 1) := by decide +kernel
noncomputable def f_m_tear (G : Nat → Int32) : Int32 × (Nat → Int32) := ((G 42), (upd G 42 0))
def S_m_tear (G : Nat → Int32) : Prop := True
def rm_m_tear : Room := { frames := 0, cells := 0, slots := 0, locals := 0 }
set_option maxHeartbeats 4000000 in
set_option maxRecDepth 100000 in
theorem m_tear {l : Launch} {D : va_G} {cI cZ : ClassId} {sz : Nat} (Rf : Nat → Nat) (h : Nat) (G : Nat → Int32) (hF : S_m_tear G) : KI l yX10_tear cX10_tear 2 (some .int) rm_m_tear D cI cZ [.ref h] sz [(h, .inr (10, ML G Rf))] (fun (r : Int32) (u : (Nat → Int32)) => (r, u) = f_m_tear G) (fun (u : (Nat → Int32)) => [(h, .inr (10, ML u Rf))]) := by
  refine KI.go rfl (Nat.le_of_ble_eq_true rfl) ?_
  intro p e s m args below meth c ls A Q hx hb hml hts hown hin hP hK hD hS hA hN hl hret
  have hl : lv_has ls 2 [(0, .ref h)] := hl
  rw [S_m_tear] at hF
  obtain ⟨RES, hE⟩ : ∃ xRES, f_m_tear G = xRES := ⟨_, rfl⟩
  rw [hE] at hret
  rw [f_m_tear] at hE
  refine lv_aload_n hx hb dX10_tear_0 rfl (lv_at hl 0 rfl) ?_
  refine va_get (D := D) (ci := 10) (v := .int (G 42)) (C := RX10) (T := TX10) (N := 45) hx hb hts iX10 hown hK hP 0 rfl rfl 42 (by decide) (hts _ wd_609) (fun _ h9 => h9) rfl dX10_tear_1 ?_
  refine lv_istore_n (lv' := [(1, .int (G 42)), (0, .ref h)]) hx hb dX10_tear_4 rfl hl (by decide) rfl (fun ls hl => ?_)
  refine lv_aload_n hx hb dX10_tear_5 rfl (lv_at hl 1 rfl) ?_
  refine lv_iconst (v := 0) hx hb dX10_tear_6 (by decide) ?_
  refine va_put (D := D) (ci := 10) (v := .int 0) (ty := .int) (C := RX10) (T := TX10) (N := 45) hx hb hts iX10 tyX10 tyX10_ok nmX10 hown hK hP hD hS 0 rfl rfl 42 (by decide) (hts _ wd_609) (fun _ h9 => h9) rfl (by decide +kernel) rfl rfl (Nat.le_of_ble_eq_true rfl) dX10_tear_7 (fun H locs hP hD hS => ?_)
  have hP : va_P D classes [(h, .inr (10, ML (upd G 42 0) Rf))] H := hP
  have hD : va_D A [(h, .inr (10, ML (upd G 42 0) Rf))] := hD
  refine lv_iload_n hx hb dX10_tear_10 rfl (lv_at hl 0 rfl) ?_
  exact hret (G 42) (upd G 42 0) _ _ _ _ dX10_tear_11 rfl hE hP hD hS
noncomputable def f_m_seed (f0 : Nat → Int32) (v_ : Int32) : Int32 × (Nat → Int32) := (if 0 ≤ v_ then ((f0 (41 : Int32).toNatClampNeg), (upd f0 (41 : Int32).toNatClampNeg v_)) else ((-1000000002), f0))
def S_m_seed (f0 : Nat → Int32) (v_ : Int32) : Prop := ((0 ≤ v_ → True) ∧ (¬ 0 ≤ v_ → True))
def rm_m_seed : Room := { frames := 0, cells := 0, slots := 0, locals := 0 }
set_option maxHeartbeats 4000000 in
set_option maxRecDepth 100000 in
theorem m_seed {l : Launch} {D : va_G} {cI cZ : ClassId} {sz : Nat} (Rf : Nat → Nat) (h : Nat) (G : Nat → Int32) (f0 : Nat → Int32) (v_ : Int32) (hF : S_m_seed f0 v_) : KI l yX10_seed cX10_seed 3 (some .int) rm_m_seed D cI cZ [.ref h, .int v_] sz [(h, .inr (10, ML G Rf)), ((Rf 0), .inl (cI, 1302, .inl f0))] (fun (r : Int32) (u : (Nat → Int32)) => (r, u) = f_m_seed f0 v_) (fun (u : (Nat → Int32)) => [(h, .inr (10, ML G Rf)), ((Rf 0), .inl (cI, 1302, .inl u))]) := by
  refine KI.go rfl (Nat.le_of_ble_eq_true rfl) ?_
  intro p e s m args below meth c ls A Q hx hb hml hts hown hin hP hK hD hS hA hN hl hret
  have hl : lv_has ls 3 [(0, .ref h), (1, .int v_)] := hl
  rw [S_m_seed] at hF
  obtain ⟨RES, hE⟩ : ∃ xRES, f_m_seed f0 v_ = xRES := ⟨_, rfl⟩
  rw [hE] at hret
  rw [f_m_seed] at hE
  refine lv_iload_n hx hb dX10_seed_0 rfl (lv_at hl 1 rfl) ?_
  refine lv_if_ge (tgt := 7) hx hb dX10_seed_1 (by decide) (fun c_1 => ?_) (fun c_1 => ?_)
  · replace hF := hF.1 c_1
    rw [if_pos c_1] at hE
    refine lv_aload_n hx hb dX10_seed_7 rfl (lv_at hl 0 rfl) ?_
    refine va_get (D := D) (ci := 10) (v := .ref (Rf 0)) (C := RX10) (T := TX10) (N := 45) hx hb hts iX10 hown hK hP 0 rfl rfl 0 (by decide) (hts _ wd_491) (fun _ h9 => h9) rfl dX10_seed_8 ?_
    refine lv_bipush (v := 41) hx hb dX10_seed_11 (by decide) ?_
    refine va_iald hx hb hK hP 1 0 rfl rfl (show ¬ ((41 : Int32) < 0 ∨ 1302 ≤ (41 : Int32).toNatClampNeg) by decide +kernel) dX10_seed_13 ?_
    refine lv_istore_n (lv' := [(2, .int (f0 (41 : Int32).toNatClampNeg)), (0, .ref h), (1, .int v_)]) hx hb dX10_seed_14 rfl hl (by decide) rfl (fun ls hl => ?_)
    refine lv_aload_n hx hb dX10_seed_15 rfl (lv_at hl 1 rfl) ?_
    refine va_get (D := D) (ci := 10) (v := .ref (Rf 0)) (C := RX10) (T := TX10) (N := 45) hx hb hts iX10 hown hK hP 0 rfl rfl 0 (by decide) (hts _ wd_491) (fun _ h9 => h9) rfl dX10_seed_16 ?_
    refine lv_bipush (v := 41) hx hb dX10_seed_19 (by decide) ?_
    refine lv_iload_n hx hb dX10_seed_21 rfl (lv_at hl 2 rfl) ?_
    refine va_iast hx hb hK hP hD hS 1 0 rfl rfl (show ¬ ((41 : Int32) < 0 ∨ 1302 ≤ (41 : Int32).toNatClampNeg) by decide +kernel) dX10_seed_22 (fun H locs hP hD hS => ?_)
    have hP : va_P D classes [(h, .inr (10, ML G Rf)), ((Rf 0), .inl (cI, 1302, .inl (upd f0 (41 : Int32).toNatClampNeg v_)))] H := hP
    have hD : va_D A [(h, .inr (10, ML G Rf)), ((Rf 0), .inl (cI, 1302, .inl (upd f0 (41 : Int32).toNatClampNeg v_)))] := hD
    refine lv_iload_n hx hb dX10_seed_23 rfl (lv_at hl 0 rfl) ?_
    exact hret (f0 (41 : Int32).toNatClampNeg) (upd f0 (41 : Int32).toNatClampNeg v_) _ _ _ _ dX10_seed_24 rfl hE hP hD hS
  · replace hF := hF.2 c_1
    rw [if_neg c_1] at hE
    refine lv_ldc (v := (-1000000002)) hx hb hown (hts _ wd_507) dX10_seed_4 ?_
    exact hret (-1000000002) f0 _ _ _ _ dX10_seed_6 rfl hE hP hD hS
noncomputable def f_m_write (G : Nat → Int32) (f43 : Nat → Int32) (f44 : Nat → Int32) (c_ : Int32) (g_ : Int32) : Int32 × (Nat → Int32) × (Nat → Int32) × (Nat → Int32) := (if (f_m_isCouple G c_) = 0 then ((-1000000001), G, f43, f44) else (if (f_m_in g_.toInt64 0 99) = 0 then ((-1000000002), G, f43, f44) else (if (G 42) = 15 then ((-1000000004), G, f43, f44) else (((G 42) + 1), (upd G 42 ((G 42) + 1)), (upd f43 ((G 42) : Int32).toNatClampNeg c_), (upd f44 ((G 42) : Int32).toNatClampNeg g_)))))
def S_m_write (G : Nat → Int32) (f43 : Nat → Int32) (f44 : Nat → Int32) (c_ : Int32) (g_ : Int32) : Prop := ((S_m_isCouple G c_) ∧ (((f_m_isCouple G c_) = 0 → True) ∧ (¬ (f_m_isCouple G c_) = 0 → ((S_m_in g_.toInt64 0 99) ∧ (((f_m_in g_.toInt64 0 99) = 0 → True) ∧ (¬ (f_m_in g_.toInt64 0 99) = 0 → (((G 42) = 15 → True) ∧ (¬ (G 42) = 15 → (vp_in (G 42) 15 ∧ (vp_in (G 42) 15 ∧ True))))))))))
def rm_m_write : Room := { frames := 2, cells := 0, slots := 0, locals := 46 }
set_option maxHeartbeats 4000000 in
set_option maxRecDepth 100000 in
theorem m_write {l : Launch} {D : va_G} {cI cZ : ClassId} {sz : Nat} (Rf : Nat → Nat) (h : Nat) (G : Nat → Int32) (f43 : Nat → Int32) (f44 : Nat → Int32) (c_ : Int32) (g_ : Int32) (hF : S_m_write G f43 f44 c_ g_) : KI l yX10_write cX10_write 3 (some .int) rm_m_write D cI cZ [.ref h, .int c_, .int g_] sz [(h, .inr (10, ML G Rf)), ((Rf 43), .inl (cI, 15, .inl f43)), ((Rf 44), .inl (cI, 15, .inl f44))] (fun (r : Int32) (u : (Nat → Int32) × (Nat → Int32) × (Nat → Int32)) => (r, u) = f_m_write G f43 f44 c_ g_) (fun (u : (Nat → Int32) × (Nat → Int32) × (Nat → Int32)) => [(h, .inr (10, ML u.1 Rf)), ((Rf 43), .inl (cI, 15, .inl u.2.1)), ((Rf 44), .inl (cI, 15, .inl u.2.2))]) := by
  refine KI.go rfl (Nat.le_of_ble_eq_true rfl) ?_
  intro p e s m args below meth c ls A Q hx hb hml hts hown hin hP hK hD hS hA hN hl hret
  have hl : lv_has ls 3 [(0, .ref h), (1, .int c_), (2, .int g_)] := hl
  rw [S_m_write] at hF
  obtain ⟨RES, hE⟩ : ∃ xRES, f_m_write G f43 f44 c_ g_ = xRES := ⟨_, rfl⟩
  rw [hE] at hret
  rw [f_m_write] at hE
  refine lv_aload_n hx hb dX10_write_0 rfl (lv_at hl 0 rfl) ?_
  refine lv_iload_n hx hb dX10_write_1 rfl (lv_at hl 1 rfl) ?_
  obtain ⟨hs_1, hF⟩ := hF
  refine cVi (wr := [((Rf 43), .inl (cI, 15, .inl f43)), ((Rf 44), .inl (cI, 15, .inl f44))]) (rest := []) (m_isCouple Rf h G c_ hs_1) okV_X10_isCouple wd_581 hx hb hml hown hts hK hP hD hS hA hN hl.1 [0] [1, 2] rfl rfl rfl rfl (by decide) rfl rfl rfl (Nat.le_of_ble_eq_true rfl) (Nat.le_of_ble_eq_true rfl) (Nat.le_of_ble_eq_true rfl) (Nat.le_of_ble_eq_true rfl) (Nat.le_of_ble_eq_true rfl) dX10_write_2 (fun r_3 u_2 H locs hw_u_2 hP hD hS => ?_)
  replace hw_u_2 : r_3 = (f_m_isCouple G c_) := hw_u_2
  rw [hw_u_2]
  clear hw_u_2
  have hP : va_P D classes [((Rf 43), .inl (cI, 15, .inl f43)), ((Rf 44), .inl (cI, 15, .inl f44)), (h, .inr (10, ML G Rf))] H := hP
  have hD : va_D A [((Rf 43), .inl (cI, 15, .inl f43)), ((Rf 44), .inl (cI, 15, .inl f44)), (h, .inr (10, ML G Rf))] := hD
  refine lv_if_ne (tgt := 11) hx hb dX10_write_5 (by decide) (fun c_4 => ?_) (fun c_4 => ?_)
  · replace hF := hF.2 c_4
    rw [if_neg c_4] at hE
    refine lv_iload_n hx hb dX10_write_11 rfl (lv_at hl 2 rfl) ?_
    refine lv_i2l (v := g_.toInt64) hx hb dX10_write_12 rfl ?_
    refine lv_lconst (v := 0) hx hb dX10_write_13 (by decide) ?_
    refine lv_ldc2 (v := 99) hx hb hown (hts _ wd_599) dX10_write_14 ?_
    obtain ⟨hs_5, hF⟩ := hF
    refine cSi (wr := [((Rf 43), .inl (cI, 15, .inl f43)), ((Rf 44), .inl (cI, 15, .inl f44)), (h, .inr (10, ML G Rf))]) (rest := []) (m_in g_.toInt64 0 99 hs_5) okS_X10_in wd_495 hx hb hml hown hts hK hP hD hS hA hN hl.1 [] [0, 1, 2] rfl rfl rfl rfl (by decide) rfl (Nat.le_of_ble_eq_true rfl) (Nat.le_of_ble_eq_true rfl) (Nat.le_of_ble_eq_true rfl) (Nat.le_of_ble_eq_true rfl) (Nat.le_of_ble_eq_true rfl) dX10_write_17 (fun r_7 u_6 H locs hw_u_6 hP hD hS => ?_)
    replace hw_u_6 : r_7 = (f_m_in g_.toInt64 0 99) := hw_u_6
    rw [hw_u_6]
    clear hw_u_6
    have hP : va_P D classes [((Rf 43), .inl (cI, 15, .inl f43)), ((Rf 44), .inl (cI, 15, .inl f44)), (h, .inr (10, ML G Rf))] H := hP
    have hD : va_D A [((Rf 43), .inl (cI, 15, .inl f43)), ((Rf 44), .inl (cI, 15, .inl f44)), (h, .inr (10, ML G Rf))] := hD
    refine lv_if_ne (tgt := 26) hx hb dX10_write_20 (by decide) (fun c_8 => ?_) (fun c_8 => ?_)
    · replace hF := hF.2 c_8
      rw [if_neg c_8] at hE
      refine lv_aload_n hx hb dX10_write_26 rfl (lv_at hl 0 rfl) ?_
      refine va_get (D := D) (ci := 10) (v := .int (G 42)) (C := RX10) (T := TX10) (N := 45) hx hb hts iX10 hown hK hP 2 rfl rfl 42 (by decide) (hts _ wd_609) (fun _ h9 => h9) rfl dX10_write_27 ?_
      refine lv_bipush (v := 15) hx hb dX10_write_30 (by decide) ?_
      refine lv_icmp_ne (tgt := 38) hx hb dX10_write_32 (by decide) (fun c_9 => ?_) (fun c_9 => ?_)
      · replace hF := hF.2 c_9
        rw [if_neg c_9] at hE
        refine lv_aload_n hx hb dX10_write_38 rfl (lv_at hl 0 rfl) ?_
        refine va_get (D := D) (ci := 10) (v := .ref (Rf 43)) (C := RX10) (T := TX10) (N := 45) hx hb hts iX10 hown hK hP 2 rfl rfl 43 (by decide) (hts _ wd_610) (fun _ h9 => h9) rfl dX10_write_39 ?_
        refine lv_aload_n hx hb dX10_write_42 rfl (lv_at hl 0 rfl) ?_
        refine va_get (D := D) (ci := 10) (v := .int (G 42)) (C := RX10) (T := TX10) (N := 45) hx hb hts iX10 hown hK hP 2 rfl rfl 42 (by decide) (hts _ wd_609) (fun _ h9 => h9) rfl dX10_write_43 ?_
        refine lv_iload_n hx hb dX10_write_46 rfl (lv_at hl 1 rfl) ?_
        obtain ⟨hv_10, hF⟩ := hF
        refine va_iast hx hb hK hP hD hS 0 0 rfl rfl hv_10 dX10_write_47 (fun H locs hP hD hS => ?_)
        have hP : va_P D classes [((Rf 43), .inl (cI, 15, .inl (upd f43 ((G 42) : Int32).toNatClampNeg c_))), ((Rf 44), .inl (cI, 15, .inl f44)), (h, .inr (10, ML G Rf))] H := hP
        have hD : va_D A [((Rf 43), .inl (cI, 15, .inl (upd f43 ((G 42) : Int32).toNatClampNeg c_))), ((Rf 44), .inl (cI, 15, .inl f44)), (h, .inr (10, ML G Rf))] := hD
        refine lv_aload_n hx hb dX10_write_48 rfl (lv_at hl 0 rfl) ?_
        refine va_get (D := D) (ci := 10) (v := .ref (Rf 44)) (C := RX10) (T := TX10) (N := 45) hx hb hts iX10 hown hK hP 2 rfl rfl 44 (by decide) (hts _ wd_611) (fun _ h9 => h9) rfl dX10_write_49 ?_
        refine lv_aload_n hx hb dX10_write_52 rfl (lv_at hl 0 rfl) ?_
        refine va_get (D := D) (ci := 10) (v := .int (G 42)) (C := RX10) (T := TX10) (N := 45) hx hb hts iX10 hown hK hP 2 rfl rfl 42 (by decide) (hts _ wd_609) (fun _ h9 => h9) rfl dX10_write_53 ?_
        refine lv_iload_n hx hb dX10_write_56 rfl (lv_at hl 2 rfl) ?_
        obtain ⟨hv_11, hF⟩ := hF
        refine va_iast hx hb hK hP hD hS 1 0 rfl rfl hv_11 dX10_write_57 (fun H locs hP hD hS => ?_)
        have hP : va_P D classes [((Rf 43), .inl (cI, 15, .inl (upd f43 ((G 42) : Int32).toNatClampNeg c_))), ((Rf 44), .inl (cI, 15, .inl (upd f44 ((G 42) : Int32).toNatClampNeg g_))), (h, .inr (10, ML G Rf))] H := hP
        have hD : va_D A [((Rf 43), .inl (cI, 15, .inl (upd f43 ((G 42) : Int32).toNatClampNeg c_))), ((Rf 44), .inl (cI, 15, .inl (upd f44 ((G 42) : Int32).toNatClampNeg g_))), (h, .inr (10, ML G Rf))] := hD
        refine lv_aload_n hx hb dX10_write_58 rfl (lv_at hl 0 rfl) ?_
        refine lv_dup hx hb dX10_write_59 rfl ?_
        refine va_get (D := D) (ci := 10) (v := .int (G 42)) (C := RX10) (T := TX10) (N := 45) hx hb hts iX10 hown hK hP 2 rfl rfl 42 (by decide) (hts _ wd_609) (fun _ h9 => h9) rfl dX10_write_60 ?_
        refine lv_iconst (v := 1) hx hb dX10_write_63 (by decide) ?_
        refine lv_iadd hx hb dX10_write_64 ?_
        refine va_put (D := D) (ci := 10) (v := .int ((G 42) + 1)) (ty := .int) (C := RX10) (T := TX10) (N := 45) hx hb hts iX10 tyX10 tyX10_ok nmX10 hown hK hP hD hS 2 rfl rfl 42 (by decide) (hts _ wd_609) (fun _ h9 => h9) rfl (by decide +kernel) rfl rfl (Nat.le_of_ble_eq_true rfl) dX10_write_65 (fun H locs hP hD hS => ?_)
        have hP : va_P D classes [((Rf 43), .inl (cI, 15, .inl (upd f43 ((G 42) : Int32).toNatClampNeg c_))), ((Rf 44), .inl (cI, 15, .inl (upd f44 ((G 42) : Int32).toNatClampNeg g_))), (h, .inr (10, ML (upd G 42 ((G 42) + 1)) Rf))] H := hP
        have hD : va_D A [((Rf 43), .inl (cI, 15, .inl (upd f43 ((G 42) : Int32).toNatClampNeg c_))), ((Rf 44), .inl (cI, 15, .inl (upd f44 ((G 42) : Int32).toNatClampNeg g_))), (h, .inr (10, ML (upd G 42 ((G 42) + 1)) Rf))] := hD
        refine lv_aload_n hx hb dX10_write_68 rfl (lv_at hl 0 rfl) ?_
        refine va_get (D := D) (ci := 10) (v := .int ((G 42) + 1)) (C := RX10) (T := TX10) (N := 45) hx hb hts iX10 hown hK hP 2 rfl rfl 42 (by decide) (hts _ wd_609) (fun _ h9 => h9) rfl dX10_write_69 ?_
        exact hret ((G 42) + 1) ((upd G 42 ((G 42) + 1)), (upd f43 ((G 42) : Int32).toNatClampNeg c_), (upd f44 ((G 42) : Int32).toNatClampNeg g_)) _ _ _ _ dX10_write_72 rfl hE (cutP (isC := [2, 0, 1]) hP rfl) (cutD (isC := [2, 0, 1]) hD rfl rfl) hS
      · replace hF := hF.1 c_9
        rw [if_pos c_9] at hE
        refine lv_ldc (v := (-1000000004)) hx hb hown (hts _ wd_506) dX10_write_35 ?_
        exact hret (-1000000004) (G, f43, f44) _ _ _ _ dX10_write_37 rfl hE (cutP (isC := [2, 0, 1]) hP rfl) (cutD (isC := [2, 0, 1]) hD rfl rfl) hS
    · replace hF := hF.1 c_8
      rw [if_pos c_8] at hE
      refine lv_ldc (v := (-1000000002)) hx hb hown (hts _ wd_507) dX10_write_23 ?_
      exact hret (-1000000002) (G, f43, f44) _ _ _ _ dX10_write_25 rfl hE (cutP (isC := [2, 0, 1]) hP rfl) (cutD (isC := [2, 0, 1]) hD rfl rfl) hS
  · replace hF := hF.1 c_4
    rw [if_pos c_4] at hE
    refine lv_ldc (v := (-1000000001)) hx hb hown (hts _ wd_580) dX10_write_8 ?_
    exact hret (-1000000001) (G, f43, f44) _ _ _ _ dX10_write_10 rfl hE (cutP (isC := [2, 0, 1]) hP rfl) (cutD (isC := [2, 0, 1]) hD rfl rfl) hS
noncomputable def f_m_keep (G : Nat → Int32) (f0 : Nat → Int32) (f1 : Nat → Int32) (i_ : Int32) : Int32 × (Nat → Int32) × (Nat → Int32) × (Nat → Int32) := (if (f_m_in i_.toInt64 0 1) = 0 then ((-1000000001), G, f0, f1) else (1, (upd G 2 0), (f_m_copy f0 0 (378 + (42 * i_))), (upd f1 (i_ : Int32).toNatClampNeg (vp_nar .boolean 1))))
def S_m_keep (G : Nat → Int32) (f0 : Nat → Int32) (f1 : Nat → Int32) (i_ : Int32) : Prop := ((S_m_in i_.toInt64 0 1) ∧ (((f_m_in i_.toInt64 0 1) = 0 → True) ∧ (¬ (f_m_in i_.toInt64 0 1) = 0 → ((S_m_copy f0 0 (378 + (42 * i_))) ∧ (vp_in i_ 2 ∧ True)))))
def rm_m_keep : Room := { frames := 1, cells := 0, slots := 0, locals := 25 }
set_option maxHeartbeats 4000000 in
set_option maxRecDepth 100000 in
theorem m_keep {l : Launch} {D : va_G} {cI cZ : ClassId} {sz : Nat} (Rf : Nat → Nat) (h : Nat) (G : Nat → Int32) (f0 : Nat → Int32) (f1 : Nat → Int32) (i_ : Int32) (hF : S_m_keep G f0 f1 i_) : KI l yX10_keep cX10_keep 2 (some .int) rm_m_keep D cI cZ [.ref h, .int i_] sz [(h, .inr (10, ML G Rf)), ((Rf 0), .inl (cI, 1302, .inl f0)), ((Rf 1), .inl (cZ, 2, .inl f1))] (fun (r : Int32) (u : (Nat → Int32) × (Nat → Int32) × (Nat → Int32)) => (r, u) = f_m_keep G f0 f1 i_) (fun (u : (Nat → Int32) × (Nat → Int32) × (Nat → Int32)) => [(h, .inr (10, ML u.1 Rf)), ((Rf 0), .inl (cI, 1302, .inl u.2.1)), ((Rf 1), .inl (cZ, 2, .inl u.2.2))]) := by
  refine KI.go rfl (Nat.le_of_ble_eq_true rfl) ?_
  intro p e s m args below meth c ls A Q hx hb hml hts hown hin hP hK hD hS hA hN hl hret
  have hl : lv_has ls 2 [(0, .ref h), (1, .int i_)] := hl
  rw [S_m_keep] at hF
  obtain ⟨RES, hE⟩ : ∃ xRES, f_m_keep G f0 f1 i_ = xRES := ⟨_, rfl⟩
  rw [hE] at hret
  rw [f_m_keep] at hE
  refine lv_iload_n hx hb dX10_keep_0 rfl (lv_at hl 1 rfl) ?_
  refine lv_i2l (v := i_.toInt64) hx hb dX10_keep_1 rfl ?_
  refine lv_lconst (v := 0) hx hb dX10_keep_2 (by decide) ?_
  refine lv_lconst (v := 1) hx hb dX10_keep_3 (by decide) ?_
  obtain ⟨hs_1, hF⟩ := hF
  refine cSi (wr := [(h, .inr (10, ML G Rf)), ((Rf 0), .inl (cI, 1302, .inl f0)), ((Rf 1), .inl (cZ, 2, .inl f1))]) (rest := []) (m_in i_.toInt64 0 1 hs_1) okS_X10_in wd_495 hx hb hml hown hts hK hP hD hS hA hN hl.1 [] [0, 1, 2] rfl rfl rfl rfl (by decide) rfl (Nat.le_of_ble_eq_true rfl) (Nat.le_of_ble_eq_true rfl) (Nat.le_of_ble_eq_true rfl) (Nat.le_of_ble_eq_true rfl) (Nat.le_of_ble_eq_true rfl) dX10_keep_4 (fun r_3 u_2 H locs hw_u_2 hP hD hS => ?_)
  replace hw_u_2 : r_3 = (f_m_in i_.toInt64 0 1) := hw_u_2
  rw [hw_u_2]
  clear hw_u_2
  have hP : va_P D classes [(h, .inr (10, ML G Rf)), ((Rf 0), .inl (cI, 1302, .inl f0)), ((Rf 1), .inl (cZ, 2, .inl f1))] H := hP
  have hD : va_D A [(h, .inr (10, ML G Rf)), ((Rf 0), .inl (cI, 1302, .inl f0)), ((Rf 1), .inl (cZ, 2, .inl f1))] := hD
  refine lv_if_ne (tgt := 13) hx hb dX10_keep_7 (by decide) (fun c_4 => ?_) (fun c_4 => ?_)
  · replace hF := hF.2 c_4
    rw [if_neg c_4] at hE
    refine lv_aload_n hx hb dX10_keep_13 rfl (lv_at hl 0 rfl) ?_
    refine lv_iconst (v := 0) hx hb dX10_keep_14 (by decide) ?_
    refine lv_sipush (v := 378) hx hb dX10_keep_15 (by decide) ?_
    refine lv_bipush (v := 42) hx hb dX10_keep_18 (by decide) ?_
    refine lv_iload_n hx hb dX10_keep_20 rfl (lv_at hl 1 rfl) ?_
    refine lv_imul hx hb dX10_keep_21 ?_
    refine lv_iadd hx hb dX10_keep_22 ?_
    obtain ⟨hs_5, hF⟩ := hF
    refine cVv (wr := [((Rf 1), .inl (cZ, 2, .inl f1))]) (rest := []) (m_copy Rf h G f0 0 (378 + (42 * i_)) hs_5) okV_X10_copy wd_557 hx hb hml hown hts hK hP hD hS hA hN hl.1 [0, 1] [2] rfl rfl rfl rfl (by decide) rfl rfl rfl (Nat.le_of_ble_eq_true rfl) (Nat.le_of_ble_eq_true rfl) (Nat.le_of_ble_eq_true rfl) (Nat.le_of_ble_eq_true rfl) (Nat.le_of_ble_eq_true rfl) dX10_keep_23 (fun u_6 H locs hw_u_6 hP hD hS => ?_)
    replace hw_u_6 : u_6 = (f_m_copy f0 0 (378 + (42 * i_))) := hw_u_6
    subst hw_u_6
    have hP : va_P D classes [((Rf 1), .inl (cZ, 2, .inl f1)), (h, .inr (10, ML G Rf)), ((Rf 0), .inl (cI, 1302, .inl (f_m_copy f0 0 (378 + (42 * i_)))))] H := hP
    have hD : va_D A [((Rf 1), .inl (cZ, 2, .inl f1)), (h, .inr (10, ML G Rf)), ((Rf 0), .inl (cI, 1302, .inl (f_m_copy f0 0 (378 + (42 * i_)))))] := hD
    refine lv_aload_n hx hb dX10_keep_26 rfl (lv_at hl 0 rfl) ?_
    refine va_get (D := D) (ci := 10) (v := .ref (Rf 1)) (C := RX10) (T := TX10) (N := 45) hx hb hts iX10 hown hK hP 1 rfl rfl 1 (by decide) (hts _ wd_612) (fun _ h9 => h9) rfl dX10_keep_27 ?_
    refine lv_iload_n hx hb dX10_keep_30 rfl (lv_at hl 1 rfl) ?_
    refine lv_iconst (v := 1) hx hb dX10_keep_31 (by decide) ?_
    obtain ⟨hv_8, hF⟩ := hF
    refine va_zast hx hb hK hP hD hS 0 1 rfl rfl hv_8 dX10_keep_32 (fun H locs hP hD hS => ?_)
    have hP : va_P D classes [((Rf 1), .inl (cZ, 2, .inl (upd f1 (i_ : Int32).toNatClampNeg (vp_nar .boolean 1)))), (h, .inr (10, ML G Rf)), ((Rf 0), .inl (cI, 1302, .inl (f_m_copy f0 0 (378 + (42 * i_)))))] H := hP
    have hD : va_D A [((Rf 1), .inl (cZ, 2, .inl (upd f1 (i_ : Int32).toNatClampNeg (vp_nar .boolean 1)))), (h, .inr (10, ML G Rf)), ((Rf 0), .inl (cI, 1302, .inl (f_m_copy f0 0 (378 + (42 * i_)))))] := hD
    refine lv_aload_n hx hb dX10_keep_33 rfl (lv_at hl 0 rfl) ?_
    refine lv_iconst (v := 0) hx hb dX10_keep_34 (by decide) ?_
    refine va_put (D := D) (ci := 10) (v := .int 0) (ty := .int) (C := RX10) (T := TX10) (N := 45) hx hb hts iX10 tyX10 tyX10_ok nmX10 hown hK hP hD hS 1 rfl rfl 2 (by decide) (hts _ wd_556) (fun _ h9 => h9) rfl (by decide +kernel) rfl rfl (Nat.le_of_ble_eq_true rfl) dX10_keep_35 (fun H locs hP hD hS => ?_)
    have hP : va_P D classes [((Rf 1), .inl (cZ, 2, .inl (upd f1 (i_ : Int32).toNatClampNeg (vp_nar .boolean 1)))), (h, .inr (10, ML (upd G 2 0) Rf)), ((Rf 0), .inl (cI, 1302, .inl (f_m_copy f0 0 (378 + (42 * i_)))))] H := hP
    have hD : va_D A [((Rf 1), .inl (cZ, 2, .inl (upd f1 (i_ : Int32).toNatClampNeg (vp_nar .boolean 1)))), (h, .inr (10, ML (upd G 2 0) Rf)), ((Rf 0), .inl (cI, 1302, .inl (f_m_copy f0 0 (378 + (42 * i_)))))] := hD
    refine lv_iconst (v := 1) hx hb dX10_keep_38 (by decide) ?_
    exact hret 1 ((upd G 2 0), (f_m_copy f0 0 (378 + (42 * i_))), (upd f1 (i_ : Int32).toNatClampNeg (vp_nar .boolean 1))) _ _ _ _ dX10_keep_39 rfl hE (cutP (isC := [1, 2, 0]) hP rfl) (cutD (isC := [1, 2, 0]) hD rfl rfl) hS
  · replace hF := hF.1 c_4
    rw [if_pos c_4] at hE
    refine lv_ldc (v := (-1000000001)) hx hb hown (hts _ wd_580) dX10_keep_10 ?_
    exact hret (-1000000001) (G, f0, f1) _ _ _ _ dX10_keep_12 rfl hE hP hD hS
noncomputable def f_m_goBack (G : Nat → Int32) (f0 : Nat → Int32) (f1 : Nat → Int32) (i_ : Int32) : Int32 × (Nat → Int32) × (Nat → Int32) := (if (f_m_in i_.toInt64 0 1) = 0 then ((-1000000001), G, f0) else (if (f1 (i_ : Int32).toNatClampNeg) = 0 then ((-1000000003), G, f0) else (1, (upd G 2 0), (f_m_copy f0 (378 + (42 * i_)) 0))))
def S_m_goBack (G : Nat → Int32) (f0 : Nat → Int32) (f1 : Nat → Int32) (i_ : Int32) : Prop := ((S_m_in i_.toInt64 0 1) ∧ (((f_m_in i_.toInt64 0 1) = 0 → True) ∧ (¬ (f_m_in i_.toInt64 0 1) = 0 → (vp_in i_ 2 ∧ (((f1 (i_ : Int32).toNatClampNeg) = 0 → True) ∧ (¬ (f1 (i_ : Int32).toNatClampNeg) = 0 → ((S_m_copy f0 (378 + (42 * i_)) 0) ∧ True)))))))
def rm_m_goBack : Room := { frames := 1, cells := 0, slots := 0, locals := 25 }
set_option maxHeartbeats 4000000 in
set_option maxRecDepth 100000 in
theorem m_goBack {l : Launch} {D : va_G} {cI cZ : ClassId} {sz : Nat} (Rf : Nat → Nat) (h : Nat) (G : Nat → Int32) (f0 : Nat → Int32) (f1 : Nat → Int32) (i_ : Int32) (hF : S_m_goBack G f0 f1 i_) : KI l yX10_goBack cX10_goBack 2 (some .int) rm_m_goBack D cI cZ [.ref h, .int i_] sz [(h, .inr (10, ML G Rf)), ((Rf 0), .inl (cI, 1302, .inl f0)), ((Rf 1), .inl (cZ, 2, .inl f1))] (fun (r : Int32) (u : (Nat → Int32) × (Nat → Int32)) => (r, u) = f_m_goBack G f0 f1 i_) (fun (u : (Nat → Int32) × (Nat → Int32)) => [(h, .inr (10, ML u.1 Rf)), ((Rf 0), .inl (cI, 1302, .inl u.2)), ((Rf 1), .inl (cZ, 2, .inl f1))]) := by
  refine KI.go rfl (Nat.le_of_ble_eq_true rfl) ?_
  intro p e s m args below meth c ls A Q hx hb hml hts hown hin hP hK hD hS hA hN hl hret
  have hl : lv_has ls 2 [(0, .ref h), (1, .int i_)] := hl
  rw [S_m_goBack] at hF
  obtain ⟨RES, hE⟩ : ∃ xRES, f_m_goBack G f0 f1 i_ = xRES := ⟨_, rfl⟩
  rw [hE] at hret
  rw [f_m_goBack] at hE
  refine lv_iload_n hx hb dX10_goBack_0 rfl (lv_at hl 1 rfl) ?_
  refine lv_i2l (v := i_.toInt64) hx hb dX10_goBack_1 rfl ?_
  refine lv_lconst (v := 0) hx hb dX10_goBack_2 (by decide) ?_
  refine lv_lconst (v := 1) hx hb dX10_goBack_3 (by decide) ?_
  obtain ⟨hs_1, hF⟩ := hF
  refine cSi (wr := [(h, .inr (10, ML G Rf)), ((Rf 0), .inl (cI, 1302, .inl f0)), ((Rf 1), .inl (cZ, 2, .inl f1))]) (rest := []) (m_in i_.toInt64 0 1 hs_1) okS_X10_in wd_495 hx hb hml hown hts hK hP hD hS hA hN hl.1 [] [0, 1, 2] rfl rfl rfl rfl (by decide) rfl (Nat.le_of_ble_eq_true rfl) (Nat.le_of_ble_eq_true rfl) (Nat.le_of_ble_eq_true rfl) (Nat.le_of_ble_eq_true rfl) (Nat.le_of_ble_eq_true rfl) dX10_goBack_4 (fun r_3 u_2 H locs hw_u_2 hP hD hS => ?_)
  replace hw_u_2 : r_3 = (f_m_in i_.toInt64 0 1) := hw_u_2
  rw [hw_u_2]
  clear hw_u_2
  have hP : va_P D classes [(h, .inr (10, ML G Rf)), ((Rf 0), .inl (cI, 1302, .inl f0)), ((Rf 1), .inl (cZ, 2, .inl f1))] H := hP
  have hD : va_D A [(h, .inr (10, ML G Rf)), ((Rf 0), .inl (cI, 1302, .inl f0)), ((Rf 1), .inl (cZ, 2, .inl f1))] := hD
  refine lv_if_ne (tgt := 13) hx hb dX10_goBack_7 (by decide) (fun c_4 => ?_) (fun c_4 => ?_)
  · replace hF := hF.2 c_4
    rw [if_neg c_4] at hE
    refine lv_aload_n hx hb dX10_goBack_13 rfl (lv_at hl 0 rfl) ?_
    refine va_get (D := D) (ci := 10) (v := .ref (Rf 1)) (C := RX10) (T := TX10) (N := 45) hx hb hts iX10 hown hK hP 0 rfl rfl 1 (by decide) (hts _ wd_612) (fun _ h9 => h9) rfl dX10_goBack_14 ?_
    refine lv_iload_n hx hb dX10_goBack_17 rfl (lv_at hl 1 rfl) ?_
    obtain ⟨hv_5, hF⟩ := hF
    refine va_zald hx hb hK hP 2 1 rfl rfl hv_5 dX10_goBack_18 ?_
    refine lv_if_ne (tgt := 25) hx hb dX10_goBack_19 (by decide) (fun c_6 => ?_) (fun c_6 => ?_)
    · replace hF := hF.2 c_6
      rw [if_neg c_6] at hE
      refine lv_aload_n hx hb dX10_goBack_25 rfl (lv_at hl 0 rfl) ?_
      refine lv_sipush (v := 378) hx hb dX10_goBack_26 (by decide) ?_
      refine lv_bipush (v := 42) hx hb dX10_goBack_29 (by decide) ?_
      refine lv_iload_n hx hb dX10_goBack_31 rfl (lv_at hl 1 rfl) ?_
      refine lv_imul hx hb dX10_goBack_32 ?_
      refine lv_iadd hx hb dX10_goBack_33 ?_
      refine lv_iconst (v := 0) hx hb dX10_goBack_34 (by decide) ?_
      obtain ⟨hs_7, hF⟩ := hF
      refine cVv (wr := [((Rf 1), .inl (cZ, 2, .inl f1))]) (rest := []) (m_copy Rf h G f0 (378 + (42 * i_)) 0 hs_7) okV_X10_copy wd_557 hx hb hml hown hts hK hP hD hS hA hN hl.1 [0, 1] [2] rfl rfl rfl rfl (by decide) rfl rfl rfl (Nat.le_of_ble_eq_true rfl) (Nat.le_of_ble_eq_true rfl) (Nat.le_of_ble_eq_true rfl) (Nat.le_of_ble_eq_true rfl) (Nat.le_of_ble_eq_true rfl) dX10_goBack_35 (fun u_8 H locs hw_u_8 hP hD hS => ?_)
      replace hw_u_8 : u_8 = (f_m_copy f0 (378 + (42 * i_)) 0) := hw_u_8
      subst hw_u_8
      have hP : va_P D classes [((Rf 1), .inl (cZ, 2, .inl f1)), (h, .inr (10, ML G Rf)), ((Rf 0), .inl (cI, 1302, .inl (f_m_copy f0 (378 + (42 * i_)) 0)))] H := hP
      have hD : va_D A [((Rf 1), .inl (cZ, 2, .inl f1)), (h, .inr (10, ML G Rf)), ((Rf 0), .inl (cI, 1302, .inl (f_m_copy f0 (378 + (42 * i_)) 0)))] := hD
      refine lv_aload_n hx hb dX10_goBack_38 rfl (lv_at hl 0 rfl) ?_
      refine lv_iconst (v := 0) hx hb dX10_goBack_39 (by decide) ?_
      refine va_put (D := D) (ci := 10) (v := .int 0) (ty := .int) (C := RX10) (T := TX10) (N := 45) hx hb hts iX10 tyX10 tyX10_ok nmX10 hown hK hP hD hS 1 rfl rfl 2 (by decide) (hts _ wd_556) (fun _ h9 => h9) rfl (by decide +kernel) rfl rfl (Nat.le_of_ble_eq_true rfl) dX10_goBack_40 (fun H locs hP hD hS => ?_)
      have hP : va_P D classes [((Rf 1), .inl (cZ, 2, .inl f1)), (h, .inr (10, ML (upd G 2 0) Rf)), ((Rf 0), .inl (cI, 1302, .inl (f_m_copy f0 (378 + (42 * i_)) 0)))] H := hP
      have hD : va_D A [((Rf 1), .inl (cZ, 2, .inl f1)), (h, .inr (10, ML (upd G 2 0) Rf)), ((Rf 0), .inl (cI, 1302, .inl (f_m_copy f0 (378 + (42 * i_)) 0)))] := hD
      refine lv_iconst (v := 1) hx hb dX10_goBack_43 (by decide) ?_
      exact hret 1 ((upd G 2 0), (f_m_copy f0 (378 + (42 * i_)) 0)) _ _ _ _ dX10_goBack_44 rfl hE (cutP (isC := [1, 2, 0]) hP rfl) (cutD (isC := [1, 2, 0]) hD rfl rfl) hS
    · replace hF := hF.1 c_6
      rw [if_pos c_6] at hE
      refine lv_ldc (v := (-1000000003)) hx hb hown (hts _ wd_562) dX10_goBack_22 ?_
      exact hret (-1000000003) (G, f0) _ _ _ _ dX10_goBack_24 rfl hE hP hD hS
  · replace hF := hF.1 c_4
    rw [if_pos c_4] at hE
    refine lv_ldc (v := (-1000000001)) hx hb hown (hts _ wd_580) dX10_goBack_10 ?_
    exact hret (-1000000001) (G, f0) _ _ _ _ dX10_goBack_12 rfl hE hP hD hS
