theorem dX10_home_0 : decode cX10_home 0 = .ok (.aload_n 0, 1) := by decide +kernel
theorem dX10_home_1 : decode cX10_home 1 = .ok (.iload_n 1, 1) := by decide +kernel
theorem dX10_home_2 : decode cX10_home 2 = .ok (.invokevirtual 204, 3) := by decide +kernel
theorem dX10_home_5 : decode cX10_home 5 = .ok (.ifCond .ne 6, 3) := by decide +kernel
theorem dX10_home_11 : decode cX10_home 11 = .ok (.aload_n 0, 1) := by decide +kernel
theorem dX10_home_12 : decode cX10_home 12 = .ok (.getfield 7, 3) := by decide +kernel
theorem dX10_home_15 : decode cX10_home 15 = .ok (.bipush 6, 2) := by decide +kernel
theorem dX10_home_17 : decode cX10_home 17 = .ok (.iload_n 1, 1) := by decide +kernel
theorem dX10_home_18 : decode cX10_home 18 = .ok (.iadd, 1) := by decide +kernel
theorem dX10_home_19 : decode cX10_home 19 = .ok (.iaload, 1) := by decide +kernel
theorem dX10_home_20 : decode cX10_home 20 = .ok (.istore_n 2, 1) := by decide +kernel
theorem dX10_home_21 : decode cX10_home 21 = .ok (.iload_n 2, 1) := by decide +kernel
theorem dX10_home_22 : decode cX10_home 22 = .ok (.iconst (-1), 1) := by decide +kernel
theorem dX10_home_23 : decode cX10_home 23 = .ok (.if_icmp .ne 6, 3) := by decide +kernel
theorem dX10_home_29 : decode cX10_home 29 = .ok (.aload_n 0, 1) := by decide +kernel
theorem dX10_home_30 : decode cX10_home 30 = .ok (.invokevirtual 234, 3) := by decide +kernel
theorem wd_595 : Cond.methodLink RX10 234 yX10_minds ∈ BG := BG_in (by decide +kernel) rfl
theorem wd_596 : Cond.code yX10_minds cX10_minds 2 none ∈ BG := BG_in (by decide +kernel) rfl
theorem wd_597 : Cond.instanceMethod yX10_minds ∈ BG := BG_in (by decide +kernel) rfl
theorem wd_598 : Cond.selects RX10 yX10_minds yX10_minds ∈ BG := BG_in (by decide +kernel) rfl
theorem okV_X10_minds : okV yX10_minds cX10_minds 2 none 0 := ⟨⟨wd_596, wd_497, by decide +kernel⟩, wd_597, wd_598⟩
theorem dX10_home_33 : decode cX10_home 33 = .ok (.aload_n 0, 1) := by decide +kernel
theorem dX10_home_34 : decode cX10_home 34 = .ok (.getfield 7, 3) := by decide +kernel
theorem dX10_home_37 : decode cX10_home 37 = .ok (.bipush 6, 2) := by decide +kernel
theorem dX10_home_39 : decode cX10_home 39 = .ok (.iload_n 1, 1) := by decide +kernel
theorem dX10_home_40 : decode cX10_home 40 = .ok (.iadd, 1) := by decide +kernel
theorem dX10_home_41 : decode cX10_home 41 = .ok (.iconst (-1), 1) := by decide +kernel
theorem dX10_home_42 : decode cX10_home 42 = .ok (.iastore, 1) := by decide +kernel
theorem dX10_home_43 : decode cX10_home 43 = .ok (.iload_n 2, 1) := by decide +kernel
theorem dX10_home_44 : decode cX10_home 44 = .ok (.ireturn, 1) := by decide +kernel
theorem dX10_home_26 : decode cX10_home 26 = .ok (.ldc 233, 2) := by decide +kernel
theorem dX10_home_28 : decode cX10_home 28 = .ok (.ireturn, 1) := by decide +kernel
theorem dX10_home_8 : decode cX10_home 8 = .ok (.ldc 199, 2) := by decide +kernel
theorem dX10_home_10 : decode cX10_home 10 = .ok (.ireturn, 1) := by decide +kernel
theorem dX10_grieve_0 : decode cX10_grieve 0 = .ok (.aload_n 0, 1) := by decide +kernel
theorem dX10_grieve_1 : decode cX10_grieve 1 = .ok (.iload_n 1, 1) := by decide +kernel
theorem dX10_grieve_2 : decode cX10_grieve 2 = .ok (.invokevirtual 204, 3) := by decide +kernel
theorem dX10_grieve_5 : decode cX10_grieve 5 = .ok (.ifCond .ne 6, 3) := by decide +kernel
theorem dX10_grieve_11 : decode cX10_grieve 11 = .ok (.iload_n 2, 1) := by decide +kernel
theorem dX10_grieve_12 : decode cX10_grieve 12 = .ok (.i2l, 1) := by decide +kernel
theorem dX10_grieve_13 : decode cX10_grieve 13 = .ok (.lconst 1, 1) := by decide +kernel
theorem wd_599 : Cond.constantLong RX10 245 (99) ∈ BG := BG_in (by decide +kernel) rfl
theorem dX10_grieve_14 : decode cX10_grieve 14 = .ok (.ldc2_w 245, 3) := by decide +kernel
theorem dX10_grieve_17 : decode cX10_grieve 17 = .ok (.invokestatic 84, 3) := by decide +kernel
theorem dX10_grieve_20 : decode cX10_grieve 20 = .ok (.ifCond .ne 6, 3) := by decide +kernel
theorem dX10_grieve_26 : decode cX10_grieve 26 = .ok (.aload_n 0, 1) := by decide +kernel
theorem dX10_grieve_27 : decode cX10_grieve 27 = .ok (.iload_n 1, 1) := by decide +kernel
theorem dX10_grieve_28 : decode cX10_grieve 28 = .ok (.invokevirtual 207, 3) := by decide +kernel
theorem dX10_grieve_31 : decode cX10_grieve 31 = .ok (.ifCond .eq 6, 3) := by decide +kernel
theorem dX10_grieve_37 : decode cX10_grieve 37 = .ok (.aload_n 0, 1) := by decide +kernel
theorem dX10_grieve_38 : decode cX10_grieve 38 = .ok (.invokevirtual 234, 3) := by decide +kernel
theorem dX10_grieve_41 : decode cX10_grieve 41 = .ok (.aload_n 0, 1) := by decide +kernel
theorem dX10_grieve_42 : decode cX10_grieve 42 = .ok (.iload_n 1, 1) := by decide +kernel
theorem dX10_grieve_43 : decode cX10_grieve 43 = .ok (.iload_n 2, 1) := by decide +kernel
theorem dX10_grieve_44 : decode cX10_grieve 44 = .ok (.invokevirtual 247, 3) := by decide +kernel
theorem wd_600 : Cond.methodLink RX10 247 yX10_grieves ∈ BG := BG_in (by decide +kernel) rfl
theorem wd_601 : Cond.code yX10_grieves cX10_grieves 4 none ∈ BG := BG_in (by decide +kernel) rfl
theorem wd_602 : Cond.instanceMethod yX10_grieves ∈ BG := BG_in (by decide +kernel) rfl
theorem wd_603 : Cond.selects RX10 yX10_grieves yX10_grieves ∈ BG := BG_in (by decide +kernel) rfl
theorem okV_X10_grieves : okV yX10_grieves cX10_grieves 4 none 2 := ⟨⟨wd_601, wd_497, by decide +kernel⟩, wd_602, wd_603⟩
theorem dX10_grieve_47 : decode cX10_grieve 47 = .ok (.aload_n 0, 1) := by decide +kernel
theorem dX10_grieve_48 : decode cX10_grieve 48 = .ok (.getfield 7, 3) := by decide +kernel
theorem dX10_grieve_51 : decode cX10_grieve 51 = .ok (.iconst 0, 1) := by decide +kernel
theorem dX10_grieve_52 : decode cX10_grieve 52 = .ok (.iload_n 1, 1) := by decide +kernel
theorem dX10_grieve_53 : decode cX10_grieve 53 = .ok (.iadd, 1) := by decide +kernel
theorem dX10_grieve_54 : decode cX10_grieve 54 = .ok (.iaload, 1) := by decide +kernel
theorem dX10_grieve_55 : decode cX10_grieve 55 = .ok (.ireturn, 1) := by decide +kernel
theorem dX10_grieve_34 : decode cX10_grieve 34 = .ok (.ldc 233, 2) := by decide +kernel
theorem dX10_grieve_36 : decode cX10_grieve 36 = .ok (.ireturn, 1) := by decide +kernel
theorem dX10_grieve_23 : decode cX10_grieve 23 = .ok (.ldc 93, 2) := by decide +kernel
theorem dX10_grieve_25 : decode cX10_grieve 25 = .ok (.ireturn, 1) := by decide +kernel
theorem dX10_grieve_8 : decode cX10_grieve 8 = .ok (.ldc 199, 2) := by decide +kernel
theorem dX10_grieve_10 : decode cX10_grieve 10 = .ok (.ireturn, 1) := by decide +kernel
noncomputable def f_m_home (g2 : Int32) (g5 : Int32) (f0 : Nat → Int32) (c_ : Int32) : Int32 × Int32 × (Nat → Int32) := (if (f_m_isCouple g5 c_) = 0 then ((-1000000001), g2, f0) else (if (f0 ((6 + c_) : Int32).toNatClampNeg) = (-1) then ((-1000000003), g2, f0) else (match (f_m_minds g2 f0) with | (o_10, o_11) => ((f0 ((6 + c_) : Int32).toNatClampNeg), o_10, (upd o_11 ((6 + c_) : Int32).toNatClampNeg (-1))))))
def S_m_home (g2 : Int32) (g5 : Int32) (f0 : Nat → Int32) (c_ : Int32) : Prop := ((S_m_isCouple g5 c_) ∧ (((f_m_isCouple g5 c_) = 0 → True) ∧ (¬ (f_m_isCouple g5 c_) = 0 → (vp_in (6 + c_) 1302 ∧ (((f0 ((6 + c_) : Int32).toNatClampNeg) = (-1) → True) ∧ (¬ (f0 ((6 + c_) : Int32).toNatClampNeg) = (-1) → ((S_m_minds g2 f0) ∧ (match (f_m_minds g2 f0) with | (o_10, o_11) => (vp_in (6 + c_) 1302 ∧ True)))))))))
def rm_m_home : Room := { frames := 2, cells := 0, slots := 0, locals := 46 }
set_option maxHeartbeats 300000 in
set_option maxRecDepth 100000 in
theorem m_home {l : Launch} {D : va_G} {cI cZ : ClassId} {sz : Nat} (h a0 a1 a8 a9 a10 a11 a12 a13 a27 a28 a29 a30 a31 a36 a37 a38 a39 a43 a44 : Nat) (g2 : Int32) (g3 : Int32) (g4 : Int32) (g5 : Int32) (g6 : Int32) (g7 : Int32) (g14 : Int32) (g15 : Int32) (g16 : Int32) (g17 : Int32) (g18 : Int32) (g19 : Int32) (g20 : Int32) (g21 : Int32) (g22 : Int32) (g23 : Int32) (g24 : Int32) (g25 : Int32) (g26 : Int32) (g32 : Int32) (g33 : Int32) (g34 : Int32) (g35 : Int32) (g40 : Int32) (g41 : Int32) (g42 : Int32) (f0 : Nat → Int32) (c_ : Int32) (hF : S_m_home g2 g5 f0 c_) : KI l yX10_home cX10_home 3 (some .int) rm_m_home D cI cZ [.ref h, .int c_] sz [(h, .inr (10, [.ref a0, .ref a1, .int g2, .int g3, .int g4, .int g5, .int g6, .int g7, .ref a8, .ref a9, .ref a10, .ref a11, .ref a12, .ref a13, .int g14, .int g15, .int g16, .int g17, .int g18, .int g19, .int g20, .int g21, .int g22, .int g23, .int g24, .int g25, .int g26, .ref a27, .ref a28, .ref a29, .ref a30, .ref a31, .int g32, .int g33, .int g34, .int g35, .ref a36, .ref a37, .ref a38, .ref a39, .int g40, .int g41, .int g42, .ref a43, .ref a44])), (a0, .inl (cI, 1302, .inl f0))] (fun (r : Int32) (u : Int32 × (Nat → Int32)) => (r, u) = f_m_home g2 g5 f0 c_) (fun (u : Int32 × (Nat → Int32)) => [(h, .inr (10, [.ref a0, .ref a1, .int (u.1), .int g3, .int g4, .int g5, .int g6, .int g7, .ref a8, .ref a9, .ref a10, .ref a11, .ref a12, .ref a13, .int g14, .int g15, .int g16, .int g17, .int g18, .int g19, .int g20, .int g21, .int g22, .int g23, .int g24, .int g25, .int g26, .ref a27, .ref a28, .ref a29, .ref a30, .ref a31, .int g32, .int g33, .int g34, .int g35, .ref a36, .ref a37, .ref a38, .ref a39, .int g40, .int g41, .int g42, .ref a43, .ref a44])), (a0, .inl (cI, 1302, .inl u.2))]) := by
  refine KI.go rfl (Nat.le_of_ble_eq_true rfl) ?_
  intro p e s m args below meth c ls A Q hx hb hml hts hown hin hP hK hD hS hA hN hl hret
  have hl : lv_has ls 3 [(0, .ref h), (1, .int c_)] := hl
  rw [S_m_home] at hF
  obtain ⟨RES, hE⟩ : ∃ xRES, f_m_home g2 g5 f0 c_ = xRES := ⟨_, rfl⟩
  rw [hE] at hret
  rw [f_m_home] at hE
  refine lv_aload_n hx hb dX10_home_0 rfl (lv_at hl 0 rfl) ?_
  refine lv_iload_n hx hb dX10_home_1 rfl (lv_at hl 1 rfl) ?_
  obtain ⟨hs_1, hF⟩ := hF
  refine cVi (wr := [(a0, .inl (cI, 1302, .inl f0))]) (rest := []) (m_isCouple h a0 a1 a8 a9 a10 a11 a12 a13 a27 a28 a29 a30 a31 a36 a37 a38 a39 a43 a44 g2 g3 g4 g5 g6 g7 g14 g15 g16 g17 g18 g19 g20 g21 g22 g23 g24 g25 g26 g32 g33 g34 g35 g40 g41 g42 c_ hs_1) okV_X10_isCouple wd_581 hx hb hml hown hts hK hP hD hS hA hN hl.1 [0] [1] rfl rfl rfl rfl (by decide) rfl rfl rfl (Nat.le_of_ble_eq_true rfl) (Nat.le_of_ble_eq_true rfl) (Nat.le_of_ble_eq_true rfl) (Nat.le_of_ble_eq_true rfl) (Nat.le_of_ble_eq_true rfl) dX10_home_2 (fun r_3 u_2 H locs hw_u_2 hP hD hS => ?_)
  replace hw_u_2 : r_3 = (f_m_isCouple g5 c_) := hw_u_2
  rw [hw_u_2]
  clear hw_u_2
  have hP : va_P D classes [(a0, .inl (cI, 1302, .inl f0)), (h, .inr (10, [.ref a0, .ref a1, .int g2, .int g3, .int g4, .int g5, .int g6, .int g7, .ref a8, .ref a9, .ref a10, .ref a11, .ref a12, .ref a13, .int g14, .int g15, .int g16, .int g17, .int g18, .int g19, .int g20, .int g21, .int g22, .int g23, .int g24, .int g25, .int g26, .ref a27, .ref a28, .ref a29, .ref a30, .ref a31, .int g32, .int g33, .int g34, .int g35, .ref a36, .ref a37, .ref a38, .ref a39, .int g40, .int g41, .int g42, .ref a43, .ref a44]))] H := hP
  have hD : va_D A [(a0, .inl (cI, 1302, .inl f0)), (h, .inr (10, [.ref a0, .ref a1, .int g2, .int g3, .int g4, .int g5, .int g6, .int g7, .ref a8, .ref a9, .ref a10, .ref a11, .ref a12, .ref a13, .int g14, .int g15, .int g16, .int g17, .int g18, .int g19, .int g20, .int g21, .int g22, .int g23, .int g24, .int g25, .int g26, .ref a27, .ref a28, .ref a29, .ref a30, .ref a31, .int g32, .int g33, .int g34, .int g35, .ref a36, .ref a37, .ref a38, .ref a39, .int g40, .int g41, .int g42, .ref a43, .ref a44]))] := hD
  refine lv_if_ne (tgt := 11) hx hb dX10_home_5 (by decide) (fun c_4 => ?_) (fun c_4 => ?_)
  · replace hF := hF.2 c_4
    rw [if_neg c_4] at hE
    refine lv_aload_n hx hb dX10_home_11 rfl (lv_at hl 0 rfl) ?_
    refine va_get (D := D) (ci := 10) (v := .ref a0) (C := RX10) (T := TX10) (N := 45) hx hb hts iX10 hown hK hP 1 rfl rfl 0 (by decide) (hts _ wd_491) (fun _ h9 => h9) rfl dX10_home_12 ?_
    refine lv_bipush (v := 6) hx hb dX10_home_15 (by decide) ?_
    refine lv_iload_n hx hb dX10_home_17 rfl (lv_at hl 1 rfl) ?_
    refine lv_iadd hx hb dX10_home_18 ?_
    obtain ⟨hv_5, hF⟩ := hF
    refine va_iald hx hb hK hP 0 0 rfl rfl hv_5 dX10_home_19 ?_
    refine lv_istore_n (lv' := [(2, .int (f0 ((6 + c_) : Int32).toNatClampNeg)), (0, .ref h), (1, .int c_)]) hx hb dX10_home_20 rfl hl (by decide) rfl (fun ls hl => ?_)
    refine lv_iload_n hx hb dX10_home_21 rfl (lv_at hl 0 rfl) ?_
    refine lv_iconst (v := (-1)) hx hb dX10_home_22 (by decide) ?_
    refine lv_icmp_ne (tgt := 29) hx hb dX10_home_23 (by decide) (fun c_6 => ?_) (fun c_6 => ?_)
    · replace hF := hF.2 c_6
      rw [if_neg c_6] at hE
      refine lv_aload_n hx hb dX10_home_29 rfl (lv_at hl 1 rfl) ?_
      obtain ⟨hs_7, hF⟩ := hF
      refine cVv (wr := []) (rest := []) (m_minds h a0 a1 a8 a9 a10 a11 a12 a13 a27 a28 a29 a30 a31 a36 a37 a38 a39 a43 a44 g2 g3 g4 g5 g6 g7 g14 g15 g16 g17 g18 g19 g20 g21 g22 g23 g24 g25 g26 g32 g33 g34 g35 g40 g41 g42 f0 hs_7) okV_X10_minds wd_595 hx hb hml hown hts hK hP hD hS hA hN hl.1 [1, 0] [] rfl rfl rfl rfl (by decide) rfl rfl rfl (Nat.le_of_ble_eq_true rfl) (Nat.le_of_ble_eq_true rfl) (Nat.le_of_ble_eq_true rfl) (Nat.le_of_ble_eq_true rfl) (Nat.le_of_ble_eq_true rfl) dX10_home_30 (fun u_8 H locs hw_u_8 hP hD hS => ?_)
      obtain ⟨o_10, o_11⟩ := u_8
      replace hw_u_8 : (o_10, o_11) = (f_m_minds g2 f0) := hw_u_8
      rw [← show (o_10, o_11) = (f_m_minds g2 f0) from hw_u_8] at hF
      replace hF : (vp_in (6 + c_) 1302 ∧ True) := hF
      rw [← hw_u_8] at hE
      replace hE : ((f0 ((6 + c_) : Int32).toNatClampNeg), o_10, (upd o_11 ((6 + c_) : Int32).toNatClampNeg (-1))) = RES := hE
      have hP : va_P D classes [(h, .inr (10, [.ref a0, .ref a1, .int o_10, .int g3, .int g4, .int g5, .int g6, .int g7, .ref a8, .ref a9, .ref a10, .ref a11, .ref a12, .ref a13, .int g14, .int g15, .int g16, .int g17, .int g18, .int g19, .int g20, .int g21, .int g22, .int g23, .int g24, .int g25, .int g26, .ref a27, .ref a28, .ref a29, .ref a30, .ref a31, .int g32, .int g33, .int g34, .int g35, .ref a36, .ref a37, .ref a38, .ref a39, .int g40, .int g41, .int g42, .ref a43, .ref a44])), (a0, .inl (cI, 1302, .inl o_11))] H := hP
      have hD : va_D A [(h, .inr (10, [.ref a0, .ref a1, .int o_10, .int g3, .int g4, .int g5, .int g6, .int g7, .ref a8, .ref a9, .ref a10, .ref a11, .ref a12, .ref a13, .int g14, .int g15, .int g16, .int g17, .int g18, .int g19, .int g20, .int g21, .int g22, .int g23, .int g24, .int g25, .int g26, .ref a27, .ref a28, .ref a29, .ref a30, .ref a31, .int g32, .int g33, .int g34, .int g35, .ref a36, .ref a37, .ref a38, .ref a39, .int g40, .int g41, .int g42, .ref a43, .ref a44])), (a0, .inl (cI, 1302, .inl o_11))] := hD
      refine lv_aload_n hx hb dX10_home_33 rfl (lv_at hl 1 rfl) ?_
      refine va_get (D := D) (ci := 10) (v := .ref a0) (C := RX10) (T := TX10) (N := 45) hx hb hts iX10 hown hK hP 0 rfl rfl 0 (by decide) (hts _ wd_491) (fun _ h9 => h9) rfl dX10_home_34 ?_
      refine lv_bipush (v := 6) hx hb dX10_home_37 (by decide) ?_
      refine lv_iload_n hx hb dX10_home_39 rfl (lv_at hl 2 rfl) ?_
      refine lv_iadd hx hb dX10_home_40 ?_
      refine lv_iconst (v := (-1)) hx hb dX10_home_41 (by decide) ?_
      obtain ⟨hv_12, hF⟩ := hF
      refine va_iast hx hb hK hP hD hS 1 0 rfl rfl hv_12 dX10_home_42 (fun H locs hP hD hS => ?_)
      have hP : va_P D classes [(h, .inr (10, [.ref a0, .ref a1, .int o_10, .int g3, .int g4, .int g5, .int g6, .int g7, .ref a8, .ref a9, .ref a10, .ref a11, .ref a12, .ref a13, .int g14, .int g15, .int g16, .int g17, .int g18, .int g19, .int g20, .int g21, .int g22, .int g23, .int g24, .int g25, .int g26, .ref a27, .ref a28, .ref a29, .ref a30, .ref a31, .int g32, .int g33, .int g34, .int g35, .ref a36, .ref a37, .ref a38, .ref a39, .int g40, .int g41, .int g42, .ref a43, .ref a44])), (a0, .inl (cI, 1302, .inl (upd o_11 ((6 + c_) : Int32).toNatClampNeg (-1))))] H := hP
      have hD : va_D A [(h, .inr (10, [.ref a0, .ref a1, .int o_10, .int g3, .int g4, .int g5, .int g6, .int g7, .ref a8, .ref a9, .ref a10, .ref a11, .ref a12, .ref a13, .int g14, .int g15, .int g16, .int g17, .int g18, .int g19, .int g20, .int g21, .int g22, .int g23, .int g24, .int g25, .int g26, .ref a27, .ref a28, .ref a29, .ref a30, .ref a31, .int g32, .int g33, .int g34, .int g35, .ref a36, .ref a37, .ref a38, .ref a39, .int g40, .int g41, .int g42, .ref a43, .ref a44])), (a0, .inl (cI, 1302, .inl (upd o_11 ((6 + c_) : Int32).toNatClampNeg (-1))))] := hD
      refine lv_iload_n hx hb dX10_home_43 rfl (lv_at hl 0 rfl) ?_
      exact hret (f0 ((6 + c_) : Int32).toNatClampNeg) (o_10, (upd o_11 ((6 + c_) : Int32).toNatClampNeg (-1))) _ _ _ _ dX10_home_44 rfl hE hP hD hS
    · replace hF := hF.1 c_6
      rw [if_pos c_6] at hE
      refine lv_ldc (v := (-1000000003)) hx hb hown (hts _ wd_562) dX10_home_26 ?_
      exact hret (-1000000003) (g2, f0) _ _ _ _ dX10_home_28 rfl hE (cutP (isC := [1, 0]) hP rfl) (cutD (isC := [1, 0]) hD rfl rfl) hS
  · replace hF := hF.1 c_4
    rw [if_pos c_4] at hE
    refine lv_ldc (v := (-1000000001)) hx hb hown (hts _ wd_580) dX10_home_8 ?_
    exact hret (-1000000001) (g2, f0) _ _ _ _ dX10_home_10 rfl hE (cutP (isC := [1, 0]) hP rfl) (cutD (isC := [1, 0]) hD rfl rfl) hS
noncomputable def f_m_grieve (g2 : Int32) (g5 : Int32) (f0 : Nat → Int32) (c_ : Int32) (v_ : Int32) : Int32 × Int32 × (Nat → Int32) := (if (f_m_isCouple g5 c_) = 0 then ((-1000000001), g2, f0) else (if (f_m_in v_.toInt64 1 99) = 0 then ((-1000000002), g2, f0) else (if (f_m_isDone f0 c_) = 0 then (match (f_m_minds g2 f0) with | (o_16, o_17) => (((f_m_grieves o_17 c_ v_) ((0 + c_) : Int32).toNatClampNeg), o_16, (f_m_grieves o_17 c_ v_))) else ((-1000000003), g2, f0))))
def S_m_grieve (g2 : Int32) (g5 : Int32) (f0 : Nat → Int32) (c_ : Int32) (v_ : Int32) : Prop := ((S_m_isCouple g5 c_) ∧ (((f_m_isCouple g5 c_) = 0 → True) ∧ (¬ (f_m_isCouple g5 c_) = 0 → ((S_m_in v_.toInt64 1 99) ∧ (((f_m_in v_.toInt64 1 99) = 0 → True) ∧ (¬ (f_m_in v_.toInt64 1 99) = 0 → ((S_m_isDone f0 c_) ∧ (((f_m_isDone f0 c_) = 0 → ((S_m_minds g2 f0) ∧ (match (f_m_minds g2 f0) with | (o_16, o_17) => ((S_m_grieves o_17 c_ v_) ∧ (vp_in (0 + c_) 1302 ∧ True))))) ∧ (¬ (f_m_isDone f0 c_) = 0 → True)))))))))
def rm_m_grieve : Room := { frames := 3, cells := 0, slots := 0, locals := 65 }
set_option maxHeartbeats 300000 in
set_option maxRecDepth 100000 in
theorem m_grieve {l : Launch} {D : va_G} {cI cZ : ClassId} {sz : Nat} (h a0 a1 a8 a9 a10 a11 a12 a13 a27 a28 a29 a30 a31 a36 a37 a38 a39 a43 a44 : Nat) (g2 : Int32) (g3 : Int32) (g4 : Int32) (g5 : Int32) (g6 : Int32) (g7 : Int32) (g14 : Int32) (g15 : Int32) (g16 : Int32) (g17 : Int32) (g18 : Int32) (g19 : Int32) (g20 : Int32) (g21 : Int32) (g22 : Int32) (g23 : Int32) (g24 : Int32) (g25 : Int32) (g26 : Int32) (g32 : Int32) (g33 : Int32) (g34 : Int32) (g35 : Int32) (g40 : Int32) (g41 : Int32) (g42 : Int32) (f0 : Nat → Int32) (c_ : Int32) (v_ : Int32) (hF : S_m_grieve g2 g5 f0 c_ v_) : KI l yX10_grieve cX10_grieve 3 (some .int) rm_m_grieve D cI cZ [.ref h, .int c_, .int v_] sz [(h, .inr (10, [.ref a0, .ref a1, .int g2, .int g3, .int g4, .int g5, .int g6, .int g7, .ref a8, .ref a9, .ref a10, .ref a11, .ref a12, .ref a13, .int g14, .int g15, .int g16, .int g17, .int g18, .int g19, .int g20, .int g21, .int g22, .int g23, .int g24, .int g25, .int g26, .ref a27, .ref a28, .ref a29, .ref a30, .ref a31, .int g32, .int g33, .int g34, .int g35, .ref a36, .ref a37, .ref a38, .ref a39, .int g40, .int g41, .int g42, .ref a43, .ref a44])), (a0, .inl (cI, 1302, .inl f0))] (fun (r : Int32) (u : Int32 × (Nat → Int32)) => (r, u) = f_m_grieve g2 g5 f0 c_ v_) (fun (u : Int32 × (Nat → Int32)) => [(h, .inr (10, [.ref a0, .ref a1, .int (u.1), .int g3, .int g4, .int g5, .int g6, .int g7, .ref a8, .ref a9, .ref a10, .ref a11, .ref a12, .ref a13, .int g14, .int g15, .int g16, .int g17, .int g18, .int g19, .int g20, .int g21, .int g22, .int g23, .int g24, .int g25, .int g26, .ref a27, .ref a28, .ref a29, .ref a30, .ref a31, .int g32, .int g33, .int g34, .int g35, .ref a36, .ref a37, .ref a38, .ref a39, .int g40, .int g41, .int g42, .ref a43, .ref a44])), (a0, .inl (cI, 1302, .inl u.2))]) := by
  refine KI.go rfl (Nat.le_of_ble_eq_true rfl) ?_
  intro p e s m args below meth c ls A Q hx hb hml hts hown hin hP hK hD hS hA hN hl hret
  have hl : lv_has ls 3 [(0, .ref h), (1, .int c_), (2, .int v_)] := hl
  rw [S_m_grieve] at hF
  obtain ⟨RES, hE⟩ : ∃ xRES, f_m_grieve g2 g5 f0 c_ v_ = xRES := ⟨_, rfl⟩
  rw [hE] at hret
  rw [f_m_grieve] at hE
  refine lv_aload_n hx hb dX10_grieve_0 rfl (lv_at hl 0 rfl) ?_
  refine lv_iload_n hx hb dX10_grieve_1 rfl (lv_at hl 1 rfl) ?_
  obtain ⟨hs_1, hF⟩ := hF
  refine cVi (wr := [(a0, .inl (cI, 1302, .inl f0))]) (rest := []) (m_isCouple h a0 a1 a8 a9 a10 a11 a12 a13 a27 a28 a29 a30 a31 a36 a37 a38 a39 a43 a44 g2 g3 g4 g5 g6 g7 g14 g15 g16 g17 g18 g19 g20 g21 g22 g23 g24 g25 g26 g32 g33 g34 g35 g40 g41 g42 c_ hs_1) okV_X10_isCouple wd_581 hx hb hml hown hts hK hP hD hS hA hN hl.1 [0] [1] rfl rfl rfl rfl (by decide) rfl rfl rfl (Nat.le_of_ble_eq_true rfl) (Nat.le_of_ble_eq_true rfl) (Nat.le_of_ble_eq_true rfl) (Nat.le_of_ble_eq_true rfl) (Nat.le_of_ble_eq_true rfl) dX10_grieve_2 (fun r_3 u_2 H locs hw_u_2 hP hD hS => ?_)
  replace hw_u_2 : r_3 = (f_m_isCouple g5 c_) := hw_u_2
  rw [hw_u_2]
  clear hw_u_2
  have hP : va_P D classes [(a0, .inl (cI, 1302, .inl f0)), (h, .inr (10, [.ref a0, .ref a1, .int g2, .int g3, .int g4, .int g5, .int g6, .int g7, .ref a8, .ref a9, .ref a10, .ref a11, .ref a12, .ref a13, .int g14, .int g15, .int g16, .int g17, .int g18, .int g19, .int g20, .int g21, .int g22, .int g23, .int g24, .int g25, .int g26, .ref a27, .ref a28, .ref a29, .ref a30, .ref a31, .int g32, .int g33, .int g34, .int g35, .ref a36, .ref a37, .ref a38, .ref a39, .int g40, .int g41, .int g42, .ref a43, .ref a44]))] H := hP
  have hD : va_D A [(a0, .inl (cI, 1302, .inl f0)), (h, .inr (10, [.ref a0, .ref a1, .int g2, .int g3, .int g4, .int g5, .int g6, .int g7, .ref a8, .ref a9, .ref a10, .ref a11, .ref a12, .ref a13, .int g14, .int g15, .int g16, .int g17, .int g18, .int g19, .int g20, .int g21, .int g22, .int g23, .int g24, .int g25, .int g26, .ref a27, .ref a28, .ref a29, .ref a30, .ref a31, .int g32, .int g33, .int g34, .int g35, .ref a36, .ref a37, .ref a38, .ref a39, .int g40, .int g41, .int g42, .ref a43, .ref a44]))] := hD
  refine lv_if_ne (tgt := 11) hx hb dX10_grieve_5 (by decide) (fun c_4 => ?_) (fun c_4 => ?_)
  · replace hF := hF.2 c_4
    rw [if_neg c_4] at hE
    refine lv_iload_n hx hb dX10_grieve_11 rfl (lv_at hl 2 rfl) ?_
    refine lv_i2l (v := v_.toInt64) hx hb dX10_grieve_12 rfl ?_
    refine lv_lconst (v := 1) hx hb dX10_grieve_13 (by decide) ?_
    refine lv_ldc2 (v := 99) hx hb hown (hts _ wd_599) dX10_grieve_14 ?_
    obtain ⟨hs_5, hF⟩ := hF
    refine cSi (wr := [(a0, .inl (cI, 1302, .inl f0)), (h, .inr (10, [.ref a0, .ref a1, .int g2, .int g3, .int g4, .int g5, .int g6, .int g7, .ref a8, .ref a9, .ref a10, .ref a11, .ref a12, .ref a13, .int g14, .int g15, .int g16, .int g17, .int g18, .int g19, .int g20, .int g21, .int g22, .int g23, .int g24, .int g25, .int g26, .ref a27, .ref a28, .ref a29, .ref a30, .ref a31, .int g32, .int g33, .int g34, .int g35, .ref a36, .ref a37, .ref a38, .ref a39, .int g40, .int g41, .int g42, .ref a43, .ref a44]))]) (rest := []) (m_in v_.toInt64 1 99 hs_5) okS_X10_in wd_495 hx hb hml hown hts hK hP hD hS hA hN hl.1 [] [0, 1] rfl rfl rfl rfl (by decide) rfl (Nat.le_of_ble_eq_true rfl) (Nat.le_of_ble_eq_true rfl) (Nat.le_of_ble_eq_true rfl) (Nat.le_of_ble_eq_true rfl) (Nat.le_of_ble_eq_true rfl) dX10_grieve_17 (fun r_7 u_6 H locs hw_u_6 hP hD hS => ?_)
    replace hw_u_6 : r_7 = (f_m_in v_.toInt64 1 99) := hw_u_6
    rw [hw_u_6]
    clear hw_u_6
    have hP : va_P D classes [(a0, .inl (cI, 1302, .inl f0)), (h, .inr (10, [.ref a0, .ref a1, .int g2, .int g3, .int g4, .int g5, .int g6, .int g7, .ref a8, .ref a9, .ref a10, .ref a11, .ref a12, .ref a13, .int g14, .int g15, .int g16, .int g17, .int g18, .int g19, .int g20, .int g21, .int g22, .int g23, .int g24, .int g25, .int g26, .ref a27, .ref a28, .ref a29, .ref a30, .ref a31, .int g32, .int g33, .int g34, .int g35, .ref a36, .ref a37, .ref a38, .ref a39, .int g40, .int g41, .int g42, .ref a43, .ref a44]))] H := hP
    have hD : va_D A [(a0, .inl (cI, 1302, .inl f0)), (h, .inr (10, [.ref a0, .ref a1, .int g2, .int g3, .int g4, .int g5, .int g6, .int g7, .ref a8, .ref a9, .ref a10, .ref a11, .ref a12, .ref a13, .int g14, .int g15, .int g16, .int g17, .int g18, .int g19, .int g20, .int g21, .int g22, .int g23, .int g24, .int g25, .int g26, .ref a27, .ref a28, .ref a29, .ref a30, .ref a31, .int g32, .int g33, .int g34, .int g35, .ref a36, .ref a37, .ref a38, .ref a39, .int g40, .int g41, .int g42, .ref a43, .ref a44]))] := hD
    refine lv_if_ne (tgt := 26) hx hb dX10_grieve_20 (by decide) (fun c_8 => ?_) (fun c_8 => ?_)
    · replace hF := hF.2 c_8
      rw [if_neg c_8] at hE
      refine lv_aload_n hx hb dX10_grieve_26 rfl (lv_at hl 0 rfl) ?_
      refine lv_iload_n hx hb dX10_grieve_27 rfl (lv_at hl 1 rfl) ?_
      obtain ⟨hs_9, hF⟩ := hF
      refine cVi (wr := []) (rest := []) (m_isDone h a0 a1 a8 a9 a10 a11 a12 a13 a27 a28 a29 a30 a31 a36 a37 a38 a39 a43 a44 g2 g3 g4 g5 g6 g7 g14 g15 g16 g17 g18 g19 g20 g21 g22 g23 g24 g25 g26 g32 g33 g34 g35 g40 g41 g42 f0 c_ hs_9) okV_X10_isDone wd_567 hx hb hml hown hts hK hP hD hS hA hN hl.1 [1, 0] [] rfl rfl rfl rfl (by decide) rfl rfl rfl (Nat.le_of_ble_eq_true rfl) (Nat.le_of_ble_eq_true rfl) (Nat.le_of_ble_eq_true rfl) (Nat.le_of_ble_eq_true rfl) (Nat.le_of_ble_eq_true rfl) dX10_grieve_28 (fun r_11 u_10 H locs hw_u_10 hP hD hS => ?_)
      replace hw_u_10 : r_11 = (f_m_isDone f0 c_) := hw_u_10
      rw [hw_u_10]
      clear hw_u_10
      have hP : va_P D classes [(h, .inr (10, [.ref a0, .ref a1, .int g2, .int g3, .int g4, .int g5, .int g6, .int g7, .ref a8, .ref a9, .ref a10, .ref a11, .ref a12, .ref a13, .int g14, .int g15, .int g16, .int g17, .int g18, .int g19, .int g20, .int g21, .int g22, .int g23, .int g24, .int g25, .int g26, .ref a27, .ref a28, .ref a29, .ref a30, .ref a31, .int g32, .int g33, .int g34, .int g35, .ref a36, .ref a37, .ref a38, .ref a39, .int g40, .int g41, .int g42, .ref a43, .ref a44])), (a0, .inl (cI, 1302, .inl f0))] H := hP
      have hD : va_D A [(h, .inr (10, [.ref a0, .ref a1, .int g2, .int g3, .int g4, .int g5, .int g6, .int g7, .ref a8, .ref a9, .ref a10, .ref a11, .ref a12, .ref a13, .int g14, .int g15, .int g16, .int g17, .int g18, .int g19, .int g20, .int g21, .int g22, .int g23, .int g24, .int g25, .int g26, .ref a27, .ref a28, .ref a29, .ref a30, .ref a31, .int g32, .int g33, .int g34, .int g35, .ref a36, .ref a37, .ref a38, .ref a39, .int g40, .int g41, .int g42, .ref a43, .ref a44])), (a0, .inl (cI, 1302, .inl f0))] := hD
      refine lv_if_eq (tgt := 37) hx hb dX10_grieve_31 (by decide) (fun c_12 => ?_) (fun c_12 => ?_)
      · replace hF := hF.1 c_12
        rw [if_pos c_12] at hE
        refine lv_aload_n hx hb dX10_grieve_37 rfl (lv_at hl 0 rfl) ?_
        obtain ⟨hs_13, hF⟩ := hF
        refine cVv (wr := []) (rest := []) (m_minds h a0 a1 a8 a9 a10 a11 a12 a13 a27 a28 a29 a30 a31 a36 a37 a38 a39 a43 a44 g2 g3 g4 g5 g6 g7 g14 g15 g16 g17 g18 g19 g20 g21 g22 g23 g24 g25 g26 g32 g33 g34 g35 g40 g41 g42 f0 hs_13) okV_X10_minds wd_595 hx hb hml hown hts hK hP hD hS hA hN hl.1 [0, 1] [] rfl rfl rfl rfl (by decide) rfl rfl rfl (Nat.le_of_ble_eq_true rfl) (Nat.le_of_ble_eq_true rfl) (Nat.le_of_ble_eq_true rfl) (Nat.le_of_ble_eq_true rfl) (Nat.le_of_ble_eq_true rfl) dX10_grieve_38 (fun u_14 H locs hw_u_14 hP hD hS => ?_)
        obtain ⟨o_16, o_17⟩ := u_14
        replace hw_u_14 : (o_16, o_17) = (f_m_minds g2 f0) := hw_u_14
        rw [← show (o_16, o_17) = (f_m_minds g2 f0) from hw_u_14] at hF
        replace hF : ((S_m_grieves o_17 c_ v_) ∧ (vp_in (0 + c_) 1302 ∧ True)) := hF
        rw [← hw_u_14] at hE
        replace hE : (((f_m_grieves o_17 c_ v_) ((0 + c_) : Int32).toNatClampNeg), o_16, (f_m_grieves o_17 c_ v_)) = RES := hE
        have hP : va_P D classes [(h, .inr (10, [.ref a0, .ref a1, .int o_16, .int g3, .int g4, .int g5, .int g6, .int g7, .ref a8, .ref a9, .ref a10, .ref a11, .ref a12, .ref a13, .int g14, .int g15, .int g16, .int g17, .int g18, .int g19, .int g20, .int g21, .int g22, .int g23, .int g24, .int g25, .int g26, .ref a27, .ref a28, .ref a29, .ref a30, .ref a31, .int g32, .int g33, .int g34, .int g35, .ref a36, .ref a37, .ref a38, .ref a39, .int g40, .int g41, .int g42, .ref a43, .ref a44])), (a0, .inl (cI, 1302, .inl o_17))] H := hP
        have hD : va_D A [(h, .inr (10, [.ref a0, .ref a1, .int o_16, .int g3, .int g4, .int g5, .int g6, .int g7, .ref a8, .ref a9, .ref a10, .ref a11, .ref a12, .ref a13, .int g14, .int g15, .int g16, .int g17, .int g18, .int g19, .int g20, .int g21, .int g22, .int g23, .int g24, .int g25, .int g26, .ref a27, .ref a28, .ref a29, .ref a30, .ref a31, .int g32, .int g33, .int g34, .int g35, .ref a36, .ref a37, .ref a38, .ref a39, .int g40, .int g41, .int g42, .ref a43, .ref a44])), (a0, .inl (cI, 1302, .inl o_17))] := hD
        refine lv_aload_n hx hb dX10_grieve_41 rfl (lv_at hl 0 rfl) ?_
        refine lv_iload_n hx hb dX10_grieve_42 rfl (lv_at hl 1 rfl) ?_
        refine lv_iload_n hx hb dX10_grieve_43 rfl (lv_at hl 2 rfl) ?_
        obtain ⟨hs_18, hF⟩ := hF
        refine cVv (wr := []) (rest := []) (m_grieves h a0 a1 a8 a9 a10 a11 a12 a13 a27 a28 a29 a30 a31 a36 a37 a38 a39 a43 a44 o_16 g3 g4 g5 g6 g7 g14 g15 g16 g17 g18 g19 g20 g21 g22 g23 g24 g25 g26 g32 g33 g34 g35 g40 g41 g42 o_17 c_ v_ hs_18) okV_X10_grieves wd_600 hx hb hml hown hts hK hP hD hS hA hN hl.1 [0, 1] [] rfl rfl rfl rfl (by decide) rfl rfl rfl (Nat.le_of_ble_eq_true rfl) (Nat.le_of_ble_eq_true rfl) (Nat.le_of_ble_eq_true rfl) (Nat.le_of_ble_eq_true rfl) (Nat.le_of_ble_eq_true rfl) dX10_grieve_44 (fun u_19 H locs hw_u_19 hP hD hS => ?_)
        replace hw_u_19 : u_19 = (f_m_grieves o_17 c_ v_) := hw_u_19
        subst hw_u_19
        have hP : va_P D classes [(h, .inr (10, [.ref a0, .ref a1, .int o_16, .int g3, .int g4, .int g5, .int g6, .int g7, .ref a8, .ref a9, .ref a10, .ref a11, .ref a12, .ref a13, .int g14, .int g15, .int g16, .int g17, .int g18, .int g19, .int g20, .int g21, .int g22, .int g23, .int g24, .int g25, .int g26, .ref a27, .ref a28, .ref a29, .ref a30, .ref a31, .int g32, .int g33, .int g34, .int g35, .ref a36, .ref a37, .ref a38, .ref a39, .int g40, .int g41, .int g42, .ref a43, .ref a44])), (a0, .inl (cI, 1302, .inl (f_m_grieves o_17 c_ v_)))] H := hP
        have hD : va_D A [(h, .inr (10, [.ref a0, .ref a1, .int o_16, .int g3, .int g4, .int g5, .int g6, .int g7, .ref a8, .ref a9, .ref a10, .ref a11, .ref a12, .ref a13, .int g14, .int g15, .int g16, .int g17, .int g18, .int g19, .int g20, .int g21, .int g22, .int g23, .int g24, .int g25, .int g26, .ref a27, .ref a28, .ref a29, .ref a30, .ref a31, .int g32, .int g33, .int g34, .int g35, .ref a36, .ref a37, .ref a38, .ref a39, .int g40, .int g41, .int g42, .ref a43, .ref a44])), (a0, .inl (cI, 1302, .inl (f_m_grieves o_17 c_ v_)))] := hD
        refine lv_aload_n hx hb dX10_grieve_47 rfl (lv_at hl 0 rfl) ?_
        refine va_get (D := D) (ci := 10) (v := .ref a0) (C := RX10) (T := TX10) (N := 45) hx hb hts iX10 hown hK hP 0 rfl rfl 0 (by decide) (hts _ wd_491) (fun _ h9 => h9) rfl dX10_grieve_48 ?_
        refine lv_iconst (v := 0) hx hb dX10_grieve_51 (by decide) ?_
        refine lv_iload_n hx hb dX10_grieve_52 rfl (lv_at hl 1 rfl) ?_
        refine lv_iadd hx hb dX10_grieve_53 ?_
        obtain ⟨hv_21, hF⟩ := hF
        refine va_iald hx hb hK hP 1 0 rfl rfl hv_21 dX10_grieve_54 ?_
        exact hret ((f_m_grieves o_17 c_ v_) ((0 + c_) : Int32).toNatClampNeg) (o_16, (f_m_grieves o_17 c_ v_)) _ _ _ _ dX10_grieve_55 rfl hE hP hD hS
      · replace hF := hF.2 c_12
        rw [if_neg c_12] at hE
        refine lv_ldc (v := (-1000000003)) hx hb hown (hts _ wd_562) dX10_grieve_34 ?_
        exact hret (-1000000003) (g2, f0) _ _ _ _ dX10_grieve_36 rfl hE hP hD hS
    · replace hF := hF.1 c_8
      rw [if_pos c_8] at hE
      refine lv_ldc (v := (-1000000002)) hx hb hown (hts _ wd_507) dX10_grieve_23 ?_
      exact hret (-1000000002) (g2, f0) _ _ _ _ dX10_grieve_25 rfl hE (cutP (isC := [1, 0]) hP rfl) (cutD (isC := [1, 0]) hD rfl rfl) hS
  · replace hF := hF.1 c_4
    rw [if_pos c_4] at hE
    refine lv_ldc (v := (-1000000001)) hx hb hown (hts _ wd_580) dX10_grieve_8 ?_
    exact hret (-1000000001) (g2, f0) _ _ _ _ dX10_grieve_10 rfl hE (cutP (isC := [1, 0]) hP rfl) (cutD (isC := [1, 0]) hD rfl rfl) hS
