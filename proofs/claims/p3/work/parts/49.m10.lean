theorem dX10_undo_0 : decode cX10_undo 0 = .ok (.aload_n 0, 1) := by decide +kernel
theorem dX10_undo_1 : decode cX10_undo 1 = .ok (.getfield 180, 3) := by decide +kernel
theorem dX10_undo_4 : decode cX10_undo 4 = .ok (.ifCond .ne 6, 3) := by decide +kernel
theorem dX10_undo_10 : decode cX10_undo 10 = .ok (.aload_n 0, 1) := by decide +kernel
theorem dX10_undo_11 : decode cX10_undo 11 = .ok (.getfield 7, 3) := by decide +kernel
theorem dX10_undo_14 : decode cX10_undo 14 = .ok (.bipush 41, 2) := by decide +kernel
theorem dX10_undo_16 : decode cX10_undo 16 = .ok (.iaload, 1) := by decide +kernel
theorem dX10_undo_17 : decode cX10_undo 17 = .ok (.istore_n 1, 1) := by decide +kernel
theorem dX10_undo_18 : decode cX10_undo 18 = .ok (.aload_n 0, 1) := by decide +kernel
theorem dX10_undo_19 : decode cX10_undo 19 = .ok (.dup, 1) := by decide +kernel
theorem dX10_undo_20 : decode cX10_undo 20 = .ok (.getfield 180, 3) := by decide +kernel
theorem dX10_undo_23 : decode cX10_undo 23 = .ok (.iconst 1, 1) := by decide +kernel
theorem dX10_undo_24 : decode cX10_undo 24 = .ok (.isub, 1) := by decide +kernel
theorem dX10_undo_25 : decode cX10_undo 25 = .ok (.putfield 180, 3) := by decide +kernel
theorem dX10_undo_28 : decode cX10_undo 28 = .ok (.aload_n 0, 1) := by decide +kernel
theorem dX10_undo_29 : decode cX10_undo 29 = .ok (.sipush 462, 3) := by decide +kernel
theorem dX10_undo_32 : decode cX10_undo 32 = .ok (.bipush 42, 2) := by decide +kernel
theorem dX10_undo_34 : decode cX10_undo 34 = .ok (.aload_n 0, 1) := by decide +kernel
theorem dX10_undo_35 : decode cX10_undo 35 = .ok (.getfield 180, 3) := by decide +kernel
theorem dX10_undo_38 : decode cX10_undo 38 = .ok (.imul, 1) := by decide +kernel
theorem dX10_undo_39 : decode cX10_undo 39 = .ok (.iadd, 1) := by decide +kernel
theorem dX10_undo_40 : decode cX10_undo 40 = .ok (.iconst 0, 1) := by decide +kernel
theorem dX10_undo_41 : decode cX10_undo 41 = .ok (.invokevirtual 229, 3) := by decide +kernel
theorem dX10_undo_44 : decode cX10_undo 44 = .ok (.aload_n 0, 1) := by decide +kernel
theorem dX10_undo_45 : decode cX10_undo 45 = .ok (.getfield 7, 3) := by decide +kernel
theorem dX10_undo_48 : decode cX10_undo 48 = .ok (.bipush 41, 2) := by decide +kernel
theorem dX10_undo_50 : decode cX10_undo 50 = .ok (.iload_n 1, 1) := by decide +kernel
theorem dX10_undo_51 : decode cX10_undo 51 = .ok (.iastore, 1) := by decide +kernel
theorem dX10_undo_52 : decode cX10_undo 52 = .ok (.aload_n 0, 1) := by decide +kernel
theorem dX10_undo_53 : decode cX10_undo 53 = .ok (.getfield 180, 3) := by decide +kernel
theorem dX10_undo_56 : decode cX10_undo 56 = .ok (.ireturn, 1) := by decide +kernel
theorem wd_562 : Cond.constant RX10 233 (-1000000003) ∈ BG := BG_at 1046 (by decide +kernel) rfl
theorem dX10_undo_7 : decode cX10_undo 7 = .ok (.ldc 233, 2) := by decide +kernel
theorem dX10_undo_9 : decode cX10_undo 9 = .ok (.ireturn, 1) := by decide +kernel
theorem dX10_draw_0 : decode cX10_draw 0 = .ok (.aload_n 0, 1) := by decide +kernel
theorem dX10_draw_1 : decode cX10_draw 1 = .ok (.getfield 7, 3) := by decide +kernel
theorem dX10_draw_4 : decode cX10_draw 4 = .ok (.bipush 41, 2) := by decide +kernel
theorem dX10_draw_6 : decode cX10_draw 6 = .ok (.aload_n 0, 1) := by decide +kernel
theorem dX10_draw_7 : decode cX10_draw 7 = .ok (.getfield 7, 3) := by decide +kernel
theorem dX10_draw_10 : decode cX10_draw 10 = .ok (.bipush 41, 2) := by decide +kernel
theorem dX10_draw_12 : decode cX10_draw 12 = .ok (.iaload, 1) := by decide +kernel
theorem dX10_draw_13 : decode cX10_draw 13 = .ok (.i2l, 1) := by decide +kernel
theorem wd_563 : Cond.constantLong RX10 250 (1103515245) ∈ BG := BG_at 1097 (by decide +kernel) rfl
theorem dX10_draw_14 : decode cX10_draw 14 = .ok (.ldc2_w 250, 3) := by decide +kernel
theorem dX10_draw_17 : decode cX10_draw 17 = .ok (.lmul, 1) := by decide +kernel
theorem wd_564 : Cond.constantLong RX10 252 (12345) ∈ BG := BG_at 1098 (by decide +kernel) rfl
theorem dX10_draw_18 : decode cX10_draw 18 = .ok (.ldc2_w 252, 3) := by decide +kernel
theorem dX10_draw_21 : decode cX10_draw 21 = .ok (.ladd, 1) := by decide +kernel
theorem wd_565 : Cond.constantLong RX10 254 (2147483648) ∈ BG := BG_at 1099 (by decide +kernel) rfl
theorem dX10_draw_22 : decode cX10_draw 22 = .ok (.ldc2_w 254, 3) := by decide +kernel
theorem dX10_draw_25 : decode cX10_draw 25 = .ok (.lrem, 1) := by decide +kernel
theorem dX10_draw_26 : decode cX10_draw 26 = .ok (.l2i, 1) := by decide +kernel
theorem dX10_draw_27 : decode cX10_draw 27 = .ok (.iastore, 1) := by decide +kernel
theorem dX10_draw_28 : decode cX10_draw 28 = .ok (.aload_n 0, 1) := by decide +kernel
theorem dX10_draw_29 : decode cX10_draw 29 = .ok (.getfield 7, 3) := by decide +kernel
theorem dX10_draw_32 : decode cX10_draw 32 = .ok (.bipush 41, 2) := by decide +kernel
theorem dX10_draw_34 : decode cX10_draw 34 = .ok (.iaload, 1) := by decide +kernel
theorem wd_566 : Cond.constant RX10 256 (65536) ∈ BG := BG_at 1100 (by decide +kernel) rfl
theorem dX10_draw_35 : decode cX10_draw 35 = .ok (.ldc_w 256, 3) := by decide +kernel
theorem dX10_draw_38 : decode cX10_draw 38 = .ok (.idiv, 1) := by decide +kernel
theorem dX10_draw_39 : decode cX10_draw 39 = .ok (.iload_n 1, 1) := by decide +kernel
theorem dX10_draw_40 : decode cX10_draw 40 = .ok (.irem, 1) := by decide +kernel
theorem dX10_draw_41 : decode cX10_draw 41 = .ok (.ireturn, 1) := by decide +kernel
theorem dX10_grieves_0 : decode cX10_grieves 0 = .ok (.aload_n 0, 1) := by decide +kernel
theorem dX10_grieves_1 : decode cX10_grieves 1 = .ok (.getfield 7, 3) := by decide +kernel
theorem dX10_grieves_4 : decode cX10_grieves 4 = .ok (.iconst 0, 1) := by decide +kernel
theorem dX10_grieves_5 : decode cX10_grieves 5 = .ok (.iload_n 1, 1) := by decide +kernel
theorem dX10_grieves_6 : decode cX10_grieves 6 = .ok (.iadd, 1) := by decide +kernel
theorem dX10_grieves_7 : decode cX10_grieves 7 = .ok (.iaload, 1) := by decide +kernel
theorem dX10_grieves_8 : decode cX10_grieves 8 = .ok (.iload_n 2, 1) := by decide +kernel
theorem dX10_grieves_9 : decode cX10_grieves 9 = .ok (.iadd, 1) := by decide +kernel
theorem dX10_grieves_10 : decode cX10_grieves 10 = .ok (.istore_n 3, 1) := by decide +kernel
theorem dX10_grieves_11 : decode cX10_grieves 11 = .ok (.aload_n 0, 1) := by decide +kernel
theorem dX10_grieves_12 : decode cX10_grieves 12 = .ok (.getfield 7, 3) := by decide +kernel
theorem dX10_grieves_15 : decode cX10_grieves 15 = .ok (.iconst 0, 1) := by decide +kernel
theorem dX10_grieves_16 : decode cX10_grieves 16 = .ok (.iload_n 1, 1) := by decide +kernel
theorem dX10_grieves_17 : decode cX10_grieves 17 = .ok (.iadd, 1) := by decide +kernel
theorem dX10_grieves_18 : decode cX10_grieves 18 = .ok (.aload_n 0, 1) := by decide +kernel
theorem dX10_grieves_19 : decode cX10_grieves 19 = .ok (.iload_n 1, 1) := by decide +kernel
theorem dX10_grieves_20 : decode cX10_grieves 20 = .ok (.invokevirtual 207, 3) := by decide +kernel
theorem wd_567 : Cond.methodLink RX10 207 yX10_isDone ∈ BG := BG_at 1022 (by decide +kernel) rfl
theorem wd_568 : Cond.code yX10_isDone cX10_isDone 2 (some .boolean) ∈ BG := BG_at 1025 (by decide +kernel) rfl
theorem wd_569 : Cond.instanceMethod yX10_isDone ∈ BG := BG_at 1024 (by decide +kernel) rfl
theorem wd_570 : Cond.selects RX10 yX10_isDone yX10_isDone ∈ BG := BG_in (by decide +kernel) rfl
theorem okV_X10_isDone : okV yX10_isDone cX10_isDone 2 (some .boolean) 1 := ⟨⟨wd_568, wd_497, by decide +kernel⟩, wd_569, wd_570⟩
theorem dX10_grieves_23 : decode cX10_grieves 23 = .ok (.ifCond .eq 7, 3) := by decide +kernel
theorem dX10_grieves_30 : decode cX10_grieves 30 = .ok (.iload_n 3, 1) := by decide +kernel
theorem dX10_grieves_31 : decode cX10_grieves 31 = .ok (.bipush 99, 2) := by decide +kernel
theorem dX10_grieves_33 : decode cX10_grieves 33 = .ok (.if_icmp .le 8, 3) := by decide +kernel
theorem dX10_grieves_41 : decode cX10_grieves 41 = .ok (.iload_n 3, 1) := by decide +kernel
theorem dX10_grieves_42 : decode cX10_grieves 42 = .ok (.iastore, 1) := by decide +kernel
theorem dX10_grieves_43 : decode cX10_grieves 43 = .ok (.return_, 1) := by decide +kernel
theorem dX10_grieves_36 : decode cX10_grieves 36 = .ok (.bipush 99, 2) := by decide +kernel
theorem dX10_grieves_38 : decode cX10_grieves 38 = .ok (.goto 4, 3) := by decide +kernel
theorem dX10_grieves_26 : decode cX10_grieves 26 = .ok (.iconst 0, 1) := by decide +kernel
theorem dX10_grieves_27 : decode cX10_grieves 27 = .ok (.goto 15, 3) := by decide +kernel
noncomputable def f_m_undo (G : Nat → Int32) (f0 : Nat → Int32) : Int32 × (Nat → Int32) × (Nat → Int32) := (if (G 2) = 0 then ((-1000000003), G, f0) else (((upd G 2 ((G 2) - 1)) 2), (upd G 2 ((G 2) - 1)), (upd (f_m_copy f0 (462 + (42 * ((G 2) - 1))) 0) (41 : Int32).toNatClampNeg (f0 (41 : Int32).toNatClampNeg))))
def S_m_undo (G : Nat → Int32) (f0 : Nat → Int32) : Prop := (((G 2) = 0 → True) ∧ (¬ (G 2) = 0 → ((S_m_copy f0 (462 + (42 * ((G 2) - 1))) 0) ∧ True)))
def rm_m_undo : Room := { frames := 1, cells := 0, slots := 0, locals := 23 }
set_option maxHeartbeats 4000000 in
set_option maxRecDepth 100000 in
theorem m_undo {l : Launch} {D : va_G} {cI cZ : ClassId} {sz : Nat} (Rf : Nat → Nat) (h : Nat) (G : Nat → Int32) (f0 : Nat → Int32) (hF : S_m_undo G f0) : KI l yX10_undo cX10_undo 2 (some .int) rm_m_undo D cI cZ [.ref h] sz [(h, .inr (10, ML G Rf)), ((Rf 0), .inl (cI, 1302, .inl f0))] (fun (r : Int32) (u : (Nat → Int32) × (Nat → Int32)) => (r, u) = f_m_undo G f0) (fun (u : (Nat → Int32) × (Nat → Int32)) => [(h, .inr (10, ML u.1 Rf)), ((Rf 0), .inl (cI, 1302, .inl u.2))]) := by
  refine KI.go rfl (Nat.le_of_ble_eq_true rfl) ?_
  intro p e s m args below meth c ls A Q hx hb hml hts hown hin hP hK hD hS hA hN hl hret
  have hl : lv_has ls 2 [(0, .ref h)] := hl
  rw [S_m_undo] at hF
  obtain ⟨RES, hE⟩ : ∃ xRES, f_m_undo G f0 = xRES := ⟨_, rfl⟩
  rw [hE] at hret
  rw [f_m_undo] at hE
  refine lv_aload_n hx hb dX10_undo_0 rfl (lv_at hl 0 rfl) ?_
  refine va_get (D := D) (ci := 10) (v := .int (G 2)) (C := RX10) (T := TX10) (N := 45) hx hb hts iX10 hown hK hP 0 rfl rfl 2 (by decide) (hts _ wd_556) (fun _ h9 => h9) rfl dX10_undo_1 ?_
  refine lv_if_ne (tgt := 10) hx hb dX10_undo_4 (by decide) (fun c_1 => ?_) (fun c_1 => ?_)
  · replace hF := hF.2 c_1
    rw [if_neg c_1] at hE
    refine lv_aload_n hx hb dX10_undo_10 rfl (lv_at hl 0 rfl) ?_
    refine va_get (D := D) (ci := 10) (v := .ref (Rf 0)) (C := RX10) (T := TX10) (N := 45) hx hb hts iX10 hown hK hP 0 rfl rfl 0 (by decide) (hts _ wd_491) (fun _ h9 => h9) rfl dX10_undo_11 ?_
    refine lv_bipush (v := 41) hx hb dX10_undo_14 (by decide) ?_
    refine va_iald hx hb hK hP 1 0 rfl rfl (show ¬ ((41 : Int32) < 0 ∨ 1302 ≤ (41 : Int32).toNatClampNeg) by decide +kernel) dX10_undo_16 ?_
    refine lv_istore_n (lv' := [(1, .int (f0 (41 : Int32).toNatClampNeg)), (0, .ref h)]) hx hb dX10_undo_17 rfl hl (by decide) rfl (fun ls hl => ?_)
    refine lv_aload_n hx hb dX10_undo_18 rfl (lv_at hl 1 rfl) ?_
    refine lv_dup hx hb dX10_undo_19 rfl ?_
    refine va_get (D := D) (ci := 10) (v := .int (G 2)) (C := RX10) (T := TX10) (N := 45) hx hb hts iX10 hown hK hP 0 rfl rfl 2 (by decide) (hts _ wd_556) (fun _ h9 => h9) rfl dX10_undo_20 ?_
    refine lv_iconst (v := 1) hx hb dX10_undo_23 (by decide) ?_
    refine lv_isub hx hb dX10_undo_24 ?_
    refine va_put (D := D) (ci := 10) (v := .int ((G 2) - 1)) (ty := .int) (C := RX10) (T := TX10) (N := 45) hx hb hts iX10 tyX10 tyX10_ok nmX10 hown hK hP hD hS 0 rfl rfl 2 (by decide) (hts _ wd_556) (fun _ h9 => h9) rfl (by decide +kernel) rfl rfl (Nat.le_of_ble_eq_true rfl) dX10_undo_25 (fun H locs hP hD hS => ?_)
    have hP : va_P D classes [(h, .inr (10, ML (upd G 2 ((G 2) - 1)) Rf)), ((Rf 0), .inl (cI, 1302, .inl f0))] H := hP
    have hD : va_D A [(h, .inr (10, ML (upd G 2 ((G 2) - 1)) Rf)), ((Rf 0), .inl (cI, 1302, .inl f0))] := hD
    refine lv_aload_n hx hb dX10_undo_28 rfl (lv_at hl 1 rfl) ?_
    refine lv_sipush (v := 462) hx hb dX10_undo_29 (by decide) ?_
    refine lv_bipush (v := 42) hx hb dX10_undo_32 (by decide) ?_
    refine lv_aload_n hx hb dX10_undo_34 rfl (lv_at hl 1 rfl) ?_
    refine va_get (D := D) (ci := 10) (v := .int ((G 2) - 1)) (C := RX10) (T := TX10) (N := 45) hx hb hts iX10 hown hK hP 0 rfl rfl 2 (by decide) (hts _ wd_556) (fun _ h9 => h9) rfl dX10_undo_35 ?_
    refine lv_imul hx hb dX10_undo_38 ?_
    refine lv_iadd hx hb dX10_undo_39 ?_
    refine lv_iconst (v := 0) hx hb dX10_undo_40 (by decide) ?_
    obtain ⟨hs_2, hF⟩ := hF
    refine cVv (wr := []) (rest := []) (m_copy Rf h (upd G 2 ((G 2) - 1)) f0 (462 + (42 * ((G 2) - 1))) 0 hs_2) okV_X10_copy wd_557 hx hb hml hown hts hK hP hD hS hA hN hl.1 [0, 1] [] rfl rfl rfl rfl (by decide) rfl rfl rfl (Nat.le_of_ble_eq_true rfl) (Nat.le_of_ble_eq_true rfl) (Nat.le_of_ble_eq_true rfl) (Nat.le_of_ble_eq_true rfl) (Nat.le_of_ble_eq_true rfl) dX10_undo_41 (fun u_3 H locs hw_u_3 hP hD hS => ?_)
    replace hw_u_3 : u_3 = (f_m_copy f0 (462 + (42 * ((G 2) - 1))) 0) := hw_u_3
    subst hw_u_3
    have hP : va_P D classes [(h, .inr (10, ML (upd G 2 ((G 2) - 1)) Rf)), ((Rf 0), .inl (cI, 1302, .inl (f_m_copy f0 (462 + (42 * ((G 2) - 1))) 0)))] H := hP
    have hD : va_D A [(h, .inr (10, ML (upd G 2 ((G 2) - 1)) Rf)), ((Rf 0), .inl (cI, 1302, .inl (f_m_copy f0 (462 + (42 * ((G 2) - 1))) 0)))] := hD
    refine lv_aload_n hx hb dX10_undo_44 rfl (lv_at hl 1 rfl) ?_
    refine va_get (D := D) (ci := 10) (v := .ref (Rf 0)) (C := RX10) (T := TX10) (N := 45) hx hb hts iX10 hown hK hP 0 rfl rfl 0 (by decide) (hts _ wd_491) (fun _ h9 => h9) rfl dX10_undo_45 ?_
    refine lv_bipush (v := 41) hx hb dX10_undo_48 (by decide) ?_
    refine lv_iload_n hx hb dX10_undo_50 rfl (lv_at hl 0 rfl) ?_
    refine va_iast hx hb hK hP hD hS 1 0 rfl rfl (show ¬ ((41 : Int32) < 0 ∨ 1302 ≤ (41 : Int32).toNatClampNeg) by decide +kernel) dX10_undo_51 (fun H locs hP hD hS => ?_)
    have hP : va_P D classes [(h, .inr (10, ML (upd G 2 ((G 2) - 1)) Rf)), ((Rf 0), .inl (cI, 1302, .inl (upd (f_m_copy f0 (462 + (42 * ((G 2) - 1))) 0) (41 : Int32).toNatClampNeg (f0 (41 : Int32).toNatClampNeg))))] H := hP
    have hD : va_D A [(h, .inr (10, ML (upd G 2 ((G 2) - 1)) Rf)), ((Rf 0), .inl (cI, 1302, .inl (upd (f_m_copy f0 (462 + (42 * ((G 2) - 1))) 0) (41 : Int32).toNatClampNeg (f0 (41 : Int32).toNatClampNeg))))] := hD
    refine lv_aload_n hx hb dX10_undo_52 rfl (lv_at hl 1 rfl) ?_
    refine va_get (D := D) (ci := 10) (v := .int ((upd G 2 ((G 2) - 1)) 2)) (C := RX10) (T := TX10) (N := 45) hx hb hts iX10 hown hK hP 0 rfl rfl 2 (by decide) (hts _ wd_556) (fun _ h9 => h9) rfl dX10_undo_53 ?_
    exact hret ((upd G 2 ((G 2) - 1)) 2) ((upd G 2 ((G 2) - 1)), (upd (f_m_copy f0 (462 + (42 * ((G 2) - 1))) 0) (41 : Int32).toNatClampNeg (f0 (41 : Int32).toNatClampNeg))) _ _ _ _ dX10_undo_56 rfl hE hP hD hS
  · replace hF := hF.1 c_1
    rw [if_pos c_1] at hE
    refine lv_ldc (v := (-1000000003)) hx hb hown (hts _ wd_562) dX10_undo_7 ?_
    exact hret (-1000000003) (G, f0) _ _ _ _ dX10_undo_9 rfl hE hP hD hS
noncomputable def f_m_draw (f0 : Nat → Int32) (n_ : Int32) : Int32 × (Nat → Int32) := (((((upd f0 (41 : Int32).toNatClampNeg (((((((f0 (41 : Int32).toNatClampNeg)).toInt64 * 1103515245) + 12345) - ((((f0 (41 : Int32).toNatClampNeg)).toInt64 * 1103515245) + 12345) / 2147483648 * 2147483648)).toInt32)) (41 : Int32).toNatClampNeg) / 65536) - (((upd f0 (41 : Int32).toNatClampNeg (((((((f0 (41 : Int32).toNatClampNeg)).toInt64 * 1103515245) + 12345) - ((((f0 (41 : Int32).toNatClampNeg)).toInt64 * 1103515245) + 12345) / 2147483648 * 2147483648)).toInt32)) (41 : Int32).toNatClampNeg) / 65536) / n_ * n_), (upd f0 (41 : Int32).toNatClampNeg (((((((f0 (41 : Int32).toNatClampNeg)).toInt64 * 1103515245) + 12345) - ((((f0 (41 : Int32).toNatClampNeg)).toInt64 * 1103515245) + 12345) / 2147483648 * 2147483648)).toInt32)))
def S_m_draw (f0 : Nat → Int32) (n_ : Int32) : Prop := (¬ n_ = 0 ∧ True)
def rm_m_draw : Room := { frames := 0, cells := 0, slots := 0, locals := 0 }
set_option maxHeartbeats 4000000 in
set_option maxRecDepth 100000 in
theorem m_draw {l : Launch} {D : va_G} {cI cZ : ClassId} {sz : Nat} (Rf : Nat → Nat) (h : Nat) (G : Nat → Int32) (f0 : Nat → Int32) (n_ : Int32) (hF : S_m_draw f0 n_) : KI l yX10_draw cX10_draw 2 (some .int) rm_m_draw D cI cZ [.ref h, .int n_] sz [(h, .inr (10, ML G Rf)), ((Rf 0), .inl (cI, 1302, .inl f0))] (fun (r : Int32) (u : (Nat → Int32)) => (r, u) = f_m_draw f0 n_) (fun (u : (Nat → Int32)) => [(h, .inr (10, ML G Rf)), ((Rf 0), .inl (cI, 1302, .inl u))]) := by
  refine KI.go rfl (Nat.le_of_ble_eq_true rfl) ?_
  intro p e s m args below meth c ls A Q hx hb hml hts hown hin hP hK hD hS hA hN hl hret
  have hl : lv_has ls 2 [(0, .ref h), (1, .int n_)] := hl
  rw [S_m_draw] at hF
  obtain ⟨RES, hE⟩ : ∃ xRES, f_m_draw f0 n_ = xRES := ⟨_, rfl⟩
  rw [hE] at hret
  rw [f_m_draw] at hE
  refine lv_aload_n hx hb dX10_draw_0 rfl (lv_at hl 0 rfl) ?_
  refine va_get (D := D) (ci := 10) (v := .ref (Rf 0)) (C := RX10) (T := TX10) (N := 45) hx hb hts iX10 hown hK hP 0 rfl rfl 0 (by decide) (hts _ wd_491) (fun _ h9 => h9) rfl dX10_draw_1 ?_
  refine lv_bipush (v := 41) hx hb dX10_draw_4 (by decide) ?_
  refine lv_aload_n hx hb dX10_draw_6 rfl (lv_at hl 0 rfl) ?_
  refine va_get (D := D) (ci := 10) (v := .ref (Rf 0)) (C := RX10) (T := TX10) (N := 45) hx hb hts iX10 hown hK hP 0 rfl rfl 0 (by decide) (hts _ wd_491) (fun _ h9 => h9) rfl dX10_draw_7 ?_
  refine lv_bipush (v := 41) hx hb dX10_draw_10 (by decide) ?_
  refine va_iald hx hb hK hP 1 0 rfl rfl (show ¬ ((41 : Int32) < 0 ∨ 1302 ≤ (41 : Int32).toNatClampNeg) by decide +kernel) dX10_draw_12 ?_
  refine lv_i2l (v := ((f0 (41 : Int32).toNatClampNeg)).toInt64) hx hb dX10_draw_13 rfl ?_
  refine lv_ldc2 (v := 1103515245) hx hb hown (hts _ wd_563) dX10_draw_14 ?_
  refine lv_lmul hx hb dX10_draw_17 ?_
  refine lv_ldc2 (v := 12345) hx hb hown (hts _ wd_564) dX10_draw_18 ?_
  refine lv_ladd hx hb dX10_draw_21 ?_
  refine lv_ldc2 (v := 2147483648) hx hb hown (hts _ wd_565) dX10_draw_22 ?_
  refine lv_lrem hx hb dX10_draw_25 (by decide) ?_
  refine lv_l2i (v := ((((((f0 (41 : Int32).toNatClampNeg)).toInt64 * 1103515245) + 12345) - ((((f0 (41 : Int32).toNatClampNeg)).toInt64 * 1103515245) + 12345) / 2147483648 * 2147483648)).toInt32) hx hb dX10_draw_26 rfl ?_
  refine va_iast hx hb hK hP hD hS 1 0 rfl rfl (show ¬ ((41 : Int32) < 0 ∨ 1302 ≤ (41 : Int32).toNatClampNeg) by decide +kernel) dX10_draw_27 (fun H locs hP hD hS => ?_)
  have hP : va_P D classes [(h, .inr (10, ML G Rf)), ((Rf 0), .inl (cI, 1302, .inl (upd f0 (41 : Int32).toNatClampNeg (((((((f0 (41 : Int32).toNatClampNeg)).toInt64 * 1103515245) + 12345) - ((((f0 (41 : Int32).toNatClampNeg)).toInt64 * 1103515245) + 12345) / 2147483648 * 2147483648)).toInt32))))] H := hP
  have hD : va_D A [(h, .inr (10, ML G Rf)), ((Rf 0), .inl (cI, 1302, .inl (upd f0 (41 : Int32).toNatClampNeg (((((((f0 (41 : Int32).toNatClampNeg)).toInt64 * 1103515245) + 12345) - ((((f0 (41 : Int32).toNatClampNeg)).toInt64 * 1103515245) + 12345) / 2147483648 * 2147483648)).toInt32))))] := hD
  refine lv_aload_n hx hb dX10_draw_28 rfl (lv_at hl 0 rfl) ?_
  refine va_get (D := D) (ci := 10) (v := .ref (Rf 0)) (C := RX10) (T := TX10) (N := 45) hx hb hts iX10 hown hK hP 0 rfl rfl 0 (by decide) (hts _ wd_491) (fun _ h9 => h9) rfl dX10_draw_29 ?_
  refine lv_bipush (v := 41) hx hb dX10_draw_32 (by decide) ?_
  refine va_iald hx hb hK hP 1 0 rfl rfl (show ¬ ((41 : Int32) < 0 ∨ 1302 ≤ (41 : Int32).toNatClampNeg) by decide +kernel) dX10_draw_34 ?_
  refine lv_ldcw (v := 65536) hx hb hown (hts _ wd_566) dX10_draw_35 ?_
  refine lv_idiv hx hb dX10_draw_38 (by decide) ?_
  refine lv_iload_n hx hb dX10_draw_39 rfl (lv_at hl 1 rfl) ?_
  obtain ⟨hv_1, hF⟩ := hF
  refine lv_irem hx hb dX10_draw_40 hv_1 ?_
  exact hret ((((upd f0 (41 : Int32).toNatClampNeg (((((((f0 (41 : Int32).toNatClampNeg)).toInt64 * 1103515245) + 12345) - ((((f0 (41 : Int32).toNatClampNeg)).toInt64 * 1103515245) + 12345) / 2147483648 * 2147483648)).toInt32)) (41 : Int32).toNatClampNeg) / 65536) - (((upd f0 (41 : Int32).toNatClampNeg (((((((f0 (41 : Int32).toNatClampNeg)).toInt64 * 1103515245) + 12345) - ((((f0 (41 : Int32).toNatClampNeg)).toInt64 * 1103515245) + 12345) / 2147483648 * 2147483648)).toInt32)) (41 : Int32).toNatClampNeg) / 65536) / n_ * n_) (upd f0 (41 : Int32).toNatClampNeg (((((((f0 (41 : Int32).toNatClampNeg)).toInt64 * 1103515245) + 12345) - ((((f0 (41 : Int32).toNatClampNeg)).toInt64 * 1103515245) + 12345) / 2147483648 * 2147483648)).toInt32)) _ _ _ _ dX10_draw_41 rfl hE hP hD hS
noncomputable def f_m_grieves (f0 : Nat → Int32) (c_ : Int32) (m_ : Int32) : (Nat → Int32) := (if (f_m_isDone f0 c_) = 0 then (if ((f0 ((0 + c_) : Int32).toNatClampNeg) + m_) ≤ 99 then (upd f0 ((0 + c_) : Int32).toNatClampNeg ((f0 ((0 + c_) : Int32).toNatClampNeg) + m_)) else (upd f0 ((0 + c_) : Int32).toNatClampNeg 99)) else (upd f0 ((0 + c_) : Int32).toNatClampNeg 0))
def S_m_grieves (f0 : Nat → Int32) (c_ : Int32) (m_ : Int32) : Prop := (vp_in (0 + c_) 1302 ∧ ((S_m_isDone f0 c_) ∧ (((f_m_isDone f0 c_) = 0 → ((((f0 ((0 + c_) : Int32).toNatClampNeg) + m_) ≤ 99 → (vp_in (0 + c_) 1302 ∧ True)) ∧ (¬ ((f0 ((0 + c_) : Int32).toNatClampNeg) + m_) ≤ 99 → (vp_in (0 + c_) 1302 ∧ True)))) ∧ (¬ (f_m_isDone f0 c_) = 0 → (vp_in (0 + c_) 1302 ∧ True)))))
def rm_m_grieves : Room := { frames := 2, cells := 0, slots := 0, locals := 42 }
set_option maxHeartbeats 4000000 in
set_option maxRecDepth 100000 in
theorem m_grieves {l : Launch} {D : va_G} {cI cZ : ClassId} {sz : Nat} (Rf : Nat → Nat) (h : Nat) (G : Nat → Int32) (f0 : Nat → Int32) (c_ : Int32) (m_ : Int32) (hF : S_m_grieves f0 c_ m_) : KV l yX10_grieves cX10_grieves 4 rm_m_grieves D cI cZ [.ref h, .int c_, .int m_] sz [(h, .inr (10, ML G Rf)), ((Rf 0), .inl (cI, 1302, .inl f0))] (fun (u : (Nat → Int32)) => u = f_m_grieves f0 c_ m_) (fun (u : (Nat → Int32)) => [(h, .inr (10, ML G Rf)), ((Rf 0), .inl (cI, 1302, .inl u))]) := by
  refine KV.go rfl (Nat.le_of_ble_eq_true rfl) ?_
  intro p e s m args below meth c ls A Q hx hb hml hts hown hin hP hK hD hS hA hN hl hret
  have hl : lv_has ls 4 [(0, .ref h), (1, .int c_), (2, .int m_)] := hl
  rw [S_m_grieves] at hF
  obtain ⟨RES, hE⟩ : ∃ xRES, f_m_grieves f0 c_ m_ = xRES := ⟨_, rfl⟩
  rw [hE] at hret
  rw [f_m_grieves] at hE
  refine lv_aload_n hx hb dX10_grieves_0 rfl (lv_at hl 0 rfl) ?_
  refine va_get (D := D) (ci := 10) (v := .ref (Rf 0)) (C := RX10) (T := TX10) (N := 45) hx hb hts iX10 hown hK hP 0 rfl rfl 0 (by decide) (hts _ wd_491) (fun _ h9 => h9) rfl dX10_grieves_1 ?_
  refine lv_iconst (v := 0) hx hb dX10_grieves_4 (by decide) ?_
  refine lv_iload_n hx hb dX10_grieves_5 rfl (lv_at hl 1 rfl) ?_
  refine lv_iadd hx hb dX10_grieves_6 ?_
  obtain ⟨hv_1, hF⟩ := hF
  refine va_iald hx hb hK hP 1 0 rfl rfl hv_1 dX10_grieves_7 ?_
  refine lv_iload_n hx hb dX10_grieves_8 rfl (lv_at hl 2 rfl) ?_
  refine lv_iadd hx hb dX10_grieves_9 ?_
  refine lv_istore_n (lv' := [(3, .int ((f0 ((0 + c_) : Int32).toNatClampNeg) + m_)), (0, .ref h), (1, .int c_), (2, .int m_)]) hx hb dX10_grieves_10 rfl hl (by decide) rfl (fun ls hl => ?_)
  refine lv_aload_n hx hb dX10_grieves_11 rfl (lv_at hl 1 rfl) ?_
  refine va_get (D := D) (ci := 10) (v := .ref (Rf 0)) (C := RX10) (T := TX10) (N := 45) hx hb hts iX10 hown hK hP 0 rfl rfl 0 (by decide) (hts _ wd_491) (fun _ h9 => h9) rfl dX10_grieves_12 ?_
  refine lv_iconst (v := 0) hx hb dX10_grieves_15 (by decide) ?_
  refine lv_iload_n hx hb dX10_grieves_16 rfl (lv_at hl 2 rfl) ?_
  refine lv_iadd hx hb dX10_grieves_17 ?_
  refine lv_aload_n hx hb dX10_grieves_18 rfl (lv_at hl 1 rfl) ?_
  refine lv_iload_n hx hb dX10_grieves_19 rfl (lv_at hl 2 rfl) ?_
  obtain ⟨hs_2, hF⟩ := hF
  refine cVi (wr := []) (rest := [.int (0 + c_), .ref (Rf 0)]) (m_isDone Rf h G f0 c_ hs_2) okV_X10_isDone wd_567 hx hb hml hown hts hK hP hD hS hA hN hl.1 [0, 1] [] rfl rfl rfl rfl (by decide) rfl rfl rfl (Nat.le_of_ble_eq_true rfl) (Nat.le_of_ble_eq_true rfl) (Nat.le_of_ble_eq_true rfl) (Nat.le_of_ble_eq_true rfl) (Nat.le_of_ble_eq_true rfl) dX10_grieves_20 (fun r_4 u_3 H locs hw_u_3 hP hD hS => ?_)
  replace hw_u_3 : r_4 = (f_m_isDone f0 c_) := hw_u_3
  rw [hw_u_3]
  clear hw_u_3
  have hP : va_P D classes [(h, .inr (10, ML G Rf)), ((Rf 0), .inl (cI, 1302, .inl f0))] H := hP
  have hD : va_D A [(h, .inr (10, ML G Rf)), ((Rf 0), .inl (cI, 1302, .inl f0))] := hD
  refine lv_if_eq (tgt := 30) hx hb dX10_grieves_23 (by decide) (fun c_5 => ?_) (fun c_5 => ?_)
  · replace hF := hF.1 c_5
    rw [if_pos c_5] at hE
    refine lv_iload_n hx hb dX10_grieves_30 rfl (lv_at hl 0 rfl) ?_
    refine lv_bipush (v := 99) hx hb dX10_grieves_31 (by decide) ?_
    refine lv_icmp_le (tgt := 41) hx hb dX10_grieves_33 (by decide) (fun c_6 => ?_) (fun c_6 => ?_)
    · replace hF := hF.1 c_6
      rw [if_pos c_6] at hE
      refine lv_iload_n hx hb dX10_grieves_41 rfl (lv_at hl 0 rfl) ?_
      obtain ⟨hv_7, hF⟩ := hF
      refine va_iast hx hb hK hP hD hS 1 0 rfl rfl hv_7 dX10_grieves_42 (fun H locs hP hD hS => ?_)
      have hP : va_P D classes [(h, .inr (10, ML G Rf)), ((Rf 0), .inl (cI, 1302, .inl (upd f0 ((0 + c_) : Int32).toNatClampNeg ((f0 ((0 + c_) : Int32).toNatClampNeg) + m_))))] H := hP
      have hD : va_D A [(h, .inr (10, ML G Rf)), ((Rf 0), .inl (cI, 1302, .inl (upd f0 ((0 + c_) : Int32).toNatClampNeg ((f0 ((0 + c_) : Int32).toNatClampNeg) + m_))))] := hD
      exact hret (upd f0 ((0 + c_) : Int32).toNatClampNeg ((f0 ((0 + c_) : Int32).toNatClampNeg) + m_)) _ _ _ _ dX10_grieves_43 hE hP hD hS
    · replace hF := hF.2 c_6
      rw [if_neg c_6] at hE
      refine lv_bipush (v := 99) hx hb dX10_grieves_36 (by decide) ?_
      refine lv_goto (tgt := 42) hx hb dX10_grieves_38 (by decide) ?_
      obtain ⟨hv_8, hF⟩ := hF
      refine va_iast hx hb hK hP hD hS 1 0 rfl rfl hv_8 dX10_grieves_42 (fun H locs hP hD hS => ?_)
      have hP : va_P D classes [(h, .inr (10, ML G Rf)), ((Rf 0), .inl (cI, 1302, .inl (upd f0 ((0 + c_) : Int32).toNatClampNeg 99)))] H := hP
      have hD : va_D A [(h, .inr (10, ML G Rf)), ((Rf 0), .inl (cI, 1302, .inl (upd f0 ((0 + c_) : Int32).toNatClampNeg 99)))] := hD
      exact hret (upd f0 ((0 + c_) : Int32).toNatClampNeg 99) _ _ _ _ dX10_grieves_43 hE hP hD hS
  · replace hF := hF.2 c_5
    rw [if_neg c_5] at hE
    refine lv_iconst (v := 0) hx hb dX10_grieves_26 (by decide) ?_
    refine lv_goto (tgt := 42) hx hb dX10_grieves_27 (by decide) ?_
    obtain ⟨hv_9, hF⟩ := hF
    refine va_iast hx hb hK hP hD hS 1 0 rfl rfl hv_9 dX10_grieves_42 (fun H locs hP hD hS => ?_)
    have hP : va_P D classes [(h, .inr (10, ML G Rf)), ((Rf 0), .inl (cI, 1302, .inl (upd f0 ((0 + c_) : Int32).toNatClampNeg 0)))] H := hP
    have hD : va_D A [(h, .inr (10, ML G Rf)), ((Rf 0), .inl (cI, 1302, .inl (upd f0 ((0 + c_) : Int32).toNatClampNeg 0)))] := hD
    exact hret (upd f0 ((0 + c_) : Int32).toNatClampNeg 0) _ _ _ _ dX10_grieves_43 hE hP hD hS
