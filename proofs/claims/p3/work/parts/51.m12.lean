theorem dX10_send_0 : decode cX10_send 0 = .ok (.aload_n 0, 1) := by decide +kernel
theorem dX10_send_1 : decode cX10_send 1 = .ok (.iload_n 1, 1) := by decide +kernel
theorem dX10_send_2 : decode cX10_send 2 = .ok (.invokevirtual 204, 3) := by decide +kernel
theorem dX10_send_5 : decode cX10_send 5 = .ok (.ifCond .eq 19, 3) := by decide +kernel
theorem dX10_send_24 : decode cX10_send 24 = .ok (.ldc 199, 2) := by decide +kernel
theorem dX10_send_26 : decode cX10_send 26 = .ok (.ireturn, 1) := by decide +kernel
theorem dX10_send_8 : decode cX10_send 8 = .ok (.aload_n 0, 1) := by decide +kernel
theorem dX10_send_9 : decode cX10_send 9 = .ok (.iload_n 2, 1) := by decide +kernel
theorem dX10_send_10 : decode cX10_send 10 = .ok (.invokevirtual 196, 3) := by decide +kernel
theorem dX10_send_13 : decode cX10_send 13 = .ok (.ifCond .eq 11, 3) := by decide +kernel
theorem dX10_send_16 : decode cX10_send 16 = .ok (.aload_n 0, 1) := by decide +kernel
theorem dX10_send_17 : decode cX10_send 17 = .ok (.iload_n 3, 1) := by decide +kernel
theorem dX10_send_18 : decode cX10_send 18 = .ok (.invokevirtual 210, 3) := by decide +kernel
theorem dX10_send_21 : decode cX10_send 21 = .ok (.ifCond .ne 6, 3) := by decide +kernel
theorem dX10_send_27 : decode cX10_send 27 = .ok (.aload_n 0, 1) := by decide +kernel
theorem dX10_send_28 : decode cX10_send 28 = .ok (.iconst 0, 1) := by decide +kernel
theorem dX10_send_29 : decode cX10_send 29 = .ok (.iload_n 2, 1) := by decide +kernel
theorem dX10_send_30 : decode cX10_send 30 = .ok (.invokevirtual 200, 3) := by decide +kernel
theorem dX10_send_33 : decode cX10_send 33 = .ok (.istore 4, 2) := by decide +kernel
theorem dX10_send_35 : decode cX10_send 35 = .ok (.aload_n 0, 1) := by decide +kernel
theorem dX10_send_36 : decode cX10_send 36 = .ok (.iload_n 1, 1) := by decide +kernel
theorem dX10_send_37 : decode cX10_send 37 = .ok (.invokevirtual 207, 3) := by decide +kernel
theorem dX10_send_40 : decode cX10_send 40 = .ok (.ifCond .ne 15, 3) := by decide +kernel
theorem dX10_send_55 : decode cX10_send 55 = .ok (.ldc 233, 2) := by decide +kernel
theorem dX10_send_57 : decode cX10_send 57 = .ok (.ireturn, 1) := by decide +kernel
theorem dX10_send_43 : decode cX10_send 43 = .ok (.iload 4, 2) := by decide +kernel
theorem dX10_send_45 : decode cX10_send 45 = .ok (.iconst (-1), 1) := by decide +kernel
theorem dX10_send_46 : decode cX10_send 46 = .ok (.if_icmp .eq 12, 3) := by decide +kernel
theorem dX10_send_58 : decode cX10_send 58 = .ok (.aload_n 0, 1) := by decide +kernel
theorem dX10_send_59 : decode cX10_send 59 = .ok (.invokevirtual 234, 3) := by decide +kernel
theorem wd_595 : Cond.methodLink RX10 234 yX10_minds ∈ BG := BG_at 1055 (by decide +kernel) rfl
theorem wd_596 : Cond.code yX10_minds cX10_minds 2 none ∈ BG := BG_at 1058 (by decide +kernel) rfl
theorem wd_597 : Cond.instanceMethod yX10_minds ∈ BG := BG_at 1057 (by decide +kernel) rfl
theorem wd_598 : Cond.selects RX10 yX10_minds yX10_minds ∈ BG := BG_in (by decide +kernel) rfl
theorem okV_X10_minds : okV yX10_minds cX10_minds 2 none 0 := ⟨⟨wd_596, wd_497, by decide +kernel⟩, wd_597, wd_598⟩
theorem dX10_send_62 : decode cX10_send 62 = .ok (.aload_n 0, 1) := by decide +kernel
theorem dX10_send_63 : decode cX10_send 63 = .ok (.getfield 7, 3) := by decide +kernel
theorem dX10_send_66 : decode cX10_send 66 = .ok (.bipush 6, 2) := by decide +kernel
theorem dX10_send_68 : decode cX10_send 68 = .ok (.iload_n 1, 1) := by decide +kernel
theorem dX10_send_69 : decode cX10_send 69 = .ok (.iadd, 1) := by decide +kernel
theorem dX10_send_70 : decode cX10_send 70 = .ok (.iaload, 1) := by decide +kernel
theorem dX10_send_71 : decode cX10_send 71 = .ok (.istore 5, 2) := by decide +kernel
theorem dX10_send_73 : decode cX10_send 73 = .ok (.aload_n 0, 1) := by decide +kernel
theorem dX10_send_74 : decode cX10_send 74 = .ok (.getfield 7, 3) := by decide +kernel
theorem dX10_send_77 : decode cX10_send 77 = .ok (.bipush 6, 2) := by decide +kernel
theorem dX10_send_79 : decode cX10_send 79 = .ok (.iload_n 1, 1) := by decide +kernel
theorem dX10_send_80 : decode cX10_send 80 = .ok (.iadd, 1) := by decide +kernel
theorem dX10_send_81 : decode cX10_send 81 = .ok (.iload_n 2, 1) := by decide +kernel
theorem dX10_send_82 : decode cX10_send 82 = .ok (.iastore, 1) := by decide +kernel
theorem dX10_send_83 : decode cX10_send 83 = .ok (.aload_n 0, 1) := by decide +kernel
theorem dX10_send_84 : decode cX10_send 84 = .ok (.getfield 7, 3) := by decide +kernel
theorem dX10_send_87 : decode cX10_send 87 = .ok (.bipush 12, 2) := by decide +kernel
theorem dX10_send_89 : decode cX10_send 89 = .ok (.iload_n 1, 1) := by decide +kernel
theorem dX10_send_90 : decode cX10_send 90 = .ok (.iadd, 1) := by decide +kernel
theorem dX10_send_91 : decode cX10_send 91 = .ok (.iload_n 3, 1) := by decide +kernel
theorem dX10_send_92 : decode cX10_send 92 = .ok (.iastore, 1) := by decide +kernel
theorem dX10_send_93 : decode cX10_send 93 = .ok (.iload 5, 2) := by decide +kernel
theorem dX10_send_95 : decode cX10_send 95 = .ok (.ireturn, 1) := by decide +kernel
theorem dX10_send_49 : decode cX10_send 49 = .ok (.iload 4, 2) := by decide +kernel
theorem dX10_send_51 : decode cX10_send 51 = .ok (.iload_n 1, 1) := by decide +kernel
theorem dX10_send_52 : decode cX10_send 52 = .ok (.if_icmp .eq 6, 3) := by decide +kernel
theorem dX10_home_0 : decode cX10_home 0 = .ok (.aload_n 0, 1) := by decide +kernel
theorem dX10_home_1 : decode cX10_home 1 = .ok (.iload_n 1, 1) := by decide +kernel
theorem dX10_home_2 : decode cX10_home 2 = .ok (.invokevirtual 204, 3) := by decide +kernel
theorem dX10_home_5 : decode cX10_home 5 = .ok (.ifCond .ne 6, 3) := by decide +kernel
theorem dX10_home_11 : decode cX10_home 11 = .ok (.aload_n 0, 1) := by decide +kernel
theorem dX10_home_12 : decode cX10_home 12 = .ok (.getfield 7, 3) := by decide +kernel
theorem dX10_home_15 : decode cX10_home 15 = .ok (.bipush 6, 2) := by decide +kernel
theorem dX10_home_17 : decode cX10_home 17 = .ok (.iload_n 1, 1) := by decide +kernel
theorem dX10_home_18 : decode cX10_home 18 = .ok (.iadd, 1) := by decide +kernel
theorem dX10_home_19 : decode cX10_home 19 = .ok (.iaload, 1) := by decide +kernel
theorem dX10_home_20 : decode cX10_home 20 = .ok (.istore_n 2, 1) := by decide +kernel
theorem dX10_home_21 : decode cX10_home 21 = .ok (.iload_n 2, 1) := by decide +kernel
theorem dX10_home_22 : decode cX10_home 22 = .ok (.iconst (-1), 1) := by decide +kernel
theorem dX10_home_23 : decode cX10_home 23 = .ok (.if_icmp .ne 6, 3) := by decide +kernel
theorem dX10_home_29 : decode cX10_home 29 = .ok (.aload_n 0, 1) := by decide +kernel
theorem dX10_home_30 : decode cX10_home 30 = .ok (.invokevirtual 234, 3) := by decide +kernel
theorem dX10_home_33 : decode cX10_home 33 = .ok (.aload_n 0, 1) := by decide +kernel
theorem dX10_home_34 : decode cX10_home 34 = .ok (.getfield 7, 3) := by decide +kernel
theorem dX10_home_37 : decode cX10_home 37 = .ok (.bipush 6, 2) := by decide +kernel
theorem dX10_home_39 : decode cX10_home 39 = .ok (.iload_n 1, 1) := by decide +kernel
theorem dX10_home_40 : decode cX10_home 40 = .ok (.iadd, 1) := by decide +kernel
theorem dX10_home_41 : decode cX10_home 41 = .ok (.iconst (-1), 1) := by decide +kernel
theorem dX10_home_42 : decode cX10_home 42 = .ok (.iastore, 1) := by decide +kernel
theorem dX10_home_43 : decode cX10_home 43 = .ok (.iload_n 2, 1) := by decide +kernel
theorem dX10_home_44 : decode cX10_home 44 = .ok (.ireturn, 1) := by decide +kernel
theorem dX10_home_26 : decode cX10_home 26 = .ok (.ldc 233, 2) := by decide +kernel
theorem dX10_home_28 : decode cX10_home 28 = .ok (.ireturn, 1) := by decide +kernel
theorem dX10_home_8 : decode cX10_home 8 = .ok (.ldc 199, 2) := by decide +kernel
theorem dX10_home_10 : decode cX10_home 10 = .ok (.ireturn, 1) := by decide +kernel
theorem dX10_grieve_0 : decode cX10_grieve 0 = .ok (.aload_n 0, 1) := by decide +kernel
theorem dX10_grieve_1 : decode cX10_grieve 1 = .ok (.iload_n 1, 1) := by decide +kernel
theorem dX10_grieve_2 : decode cX10_grieve 2 = .ok (.invokevirtual 204, 3) := by decide +kernel
theorem dX10_grieve_5 : decode cX10_grieve 5 = .ok (.ifCond .ne 6, 3) := by decide +kernel
theorem dX10_grieve_11 : decode cX10_grieve 11 = .ok (.iload_n 2, 1) := by decide +kernel
theorem dX10_grieve_12 : decode cX10_grieve 12 = .ok (.i2l, 1) := by decide +kernel
theorem dX10_grieve_13 : decode cX10_grieve 13 = .ok (.lconst 1, 1) := by decide +kernel
theorem wd_599 : Cond.constantLong RX10 245 (99) ∈ BG := BG_at 1084 (by decide +kernel) rfl
theorem dX10_grieve_14 : decode cX10_grieve 14 = .ok (.ldc2_w 245, 3) := by decide +kernel
theorem dX10_grieve_17 : decode cX10_grieve 17 = .ok (.invokestatic 84, 3) := by decide +kernel
theorem dX10_grieve_20 : decode cX10_grieve 20 = .ok (.ifCond .ne 6, 3) := by decide +kernel
theorem dX10_grieve_26 : decode cX10_grieve 26 = .ok (.aload_n 0, 1) := by decide +kernel
theorem dX10_grieve_27 : decode cX10_grieve 27 = .ok (.iload_n 1, 1) := by decide +kernel
theorem dX10_grieve_28 : decode cX10_grieve 28 = .ok (.invokevirtual 207, 3) := by decide +kernel
theorem dX10_grieve_31 : decode cX10_grieve 31 = .ok (.ifCond .eq 6, 3) := by decide +kernel
theorem dX10_grieve_37 : decode cX10_grieve 37 = .ok (.aload_n 0, 1) := by decide +kernel
theorem dX10_grieve_38 : decode cX10_grieve 38 = .ok (.invokevirtual 234, 3) := by decide +kernel
theorem dX10_grieve_41 : decode cX10_grieve 41 = .ok (.aload_n 0, 1) := by decide +kernel
theorem dX10_grieve_42 : decode cX10_grieve 42 = .ok (.iload_n 1, 1) := by decide +kernel
theorem dX10_grieve_43 : decode cX10_grieve 43 = .ok (.iload_n 2, 1) := by decide +kernel
theorem dX10_grieve_44 : decode cX10_grieve 44 = .ok (.invokevirtual 247, 3) := by decide +kernel
theorem wd_600 : Cond.methodLink RX10 247 yX10_grieves ∈ BG := BG_at 1085 (by decide +kernel) rfl
theorem wd_601 : Cond.code yX10_grieves cX10_grieves 4 none ∈ BG := BG_at 1088 (by decide +kernel) rfl
theorem wd_602 : Cond.instanceMethod yX10_grieves ∈ BG := BG_at 1087 (by decide +kernel) rfl
theorem wd_603 : Cond.selects RX10 yX10_grieves yX10_grieves ∈ BG := BG_in (by decide +kernel) rfl
theorem okV_X10_grieves : okV yX10_grieves cX10_grieves 4 none 2 := ⟨⟨wd_601, wd_497, by decide +kernel⟩, wd_602, wd_603⟩
theorem dX10_grieve_47 : decode cX10_grieve 47 = .ok (.aload_n 0, 1) := by decide +kernel
theorem dX10_grieve_48 : decode cX10_grieve 48 = .ok (.getfield 7, 3) := by decide +kernel
theorem dX10_grieve_51 : decode cX10_grieve 51 = .ok (.iconst 0, 1) := by decide +kernel
theorem dX10_grieve_52 : decode cX10_grieve 52 = .ok (.iload_n 1, 1) := by decide +kernel
theorem dX10_grieve_53 : decode cX10_grieve 53 = .ok (.iadd, 1) := by decide +kernel
theorem dX10_grieve_54 : decode cX10_grieve 54 = .ok (.iaload, 1) := by decide +kernel
theorem dX10_grieve_55 : decode cX10_grieve 55 = .ok (.ireturn, 1) := by decide +kernel
theorem dX10_grieve_34 : decode cX10_grieve 34 = .ok (.ldc 233, 2) := by decide +kernel
theorem dX10_grieve_36 : decode cX10_grieve 36 = .ok (.ireturn, 1) := by decide +kernel
theorem dX10_grieve_23 : decode cX10_grieve 23 = .ok (.ldc 93, 2) := by decide +kernel
theorem dX10_grieve_25 : decode cX10_grieve 25 = .ok (.ireturn, 1) := by decide +kernel
theorem dX10_grieve_8 : decode cX10_grieve 8 = .ok (.ldc 199, 2) := by decide +kernel
theorem dX10_grieve_10 : decode cX10_grieve 10 = .ok (.ireturn, 1) := by decide +kernel
noncomputable def f_m_send (G : Nat → Int32) (f0 : Nat → Int32) (c_ : Int32) (b_ : Int32) (t_ : Int32) : Int32 × (Nat → Int32) × (Nat → Int32) := (if (f_m_isCouple G c_) = 0 then ((-1000000001), G, f0) else (if (f_m_isBridge G b_) = 0 then ((-1000000001), G, f0) else (if (f_m_isTheme G t_) = 0 then ((-1000000001), G, f0) else (if (f_m_isDone f0 c_) = 0 then (if (f_m_whoIsAt G f0 0 b_) = (-1) then (match (f_m_minds G f0) with | (o_24, o_25) => ((o_25 ((6 + c_) : Int32).toNatClampNeg), o_24, (upd (upd o_25 ((6 + c_) : Int32).toNatClampNeg b_) ((12 + c_) : Int32).toNatClampNeg t_))) else (if (f_m_whoIsAt G f0 0 b_) = c_ then (match (f_m_minds G f0) with | (o_33, o_34) => ((o_34 ((6 + c_) : Int32).toNatClampNeg), o_33, (upd (upd o_34 ((6 + c_) : Int32).toNatClampNeg b_) ((12 + c_) : Int32).toNatClampNeg t_))) else ((-1000000003), G, f0))) else ((-1000000003), G, f0)))))
def S_m_send (G : Nat → Int32) (f0 : Nat → Int32) (c_ : Int32) (b_ : Int32) (t_ : Int32) : Prop := ((S_m_isCouple G c_) ∧ (((f_m_isCouple G c_) = 0 → True) ∧ (¬ (f_m_isCouple G c_) = 0 → ((S_m_isBridge G b_) ∧ (((f_m_isBridge G b_) = 0 → True) ∧ (¬ (f_m_isBridge G b_) = 0 → ((S_m_isTheme G t_) ∧ (((f_m_isTheme G t_) = 0 → True) ∧ (¬ (f_m_isTheme G t_) = 0 → ((S_m_whoIsAt G f0 0 b_) ∧ ((S_m_isDone f0 c_) ∧ (((f_m_isDone f0 c_) = 0 → (((f_m_whoIsAt G f0 0 b_) = (-1) → ((S_m_minds G f0) ∧ (∀ (o_24 : (Nat → Int32)) (o_25 : (Nat → Int32)), (o_24, o_25) = (f_m_minds G f0) → (vp_in (6 + c_) 1302 ∧ (vp_in (6 + c_) 1302 ∧ (vp_in (12 + c_) 1302 ∧ True)))))) ∧ (¬ (f_m_whoIsAt G f0 0 b_) = (-1) → (((f_m_whoIsAt G f0 0 b_) = c_ → ((S_m_minds G f0) ∧ (∀ (o_33 : (Nat → Int32)) (o_34 : (Nat → Int32)), (o_33, o_34) = (f_m_minds G f0) → (vp_in (6 + c_) 1302 ∧ (vp_in (6 + c_) 1302 ∧ (vp_in (12 + c_) 1302 ∧ True)))))) ∧ (¬ (f_m_whoIsAt G f0 0 b_) = c_ → True))))) ∧ (¬ (f_m_isDone f0 c_) = 0 → True)))))))))))))
def rm_m_send : Room := { frames := 2, cells := 0, slots := 0, locals := 46 }
set_option maxHeartbeats 4000000 in
set_option maxRecDepth 100000 in
theorem m_send {l : Launch} {D : va_G} {cI cZ : ClassId} {sz : Nat} (Rf : Nat → Nat) (h : Nat) (G : Nat → Int32) (f0 : Nat → Int32) (c_ : Int32) (b_ : Int32) (t_ : Int32) (hF : S_m_send G f0 c_ b_ t_) : KI l yX10_send cX10_send 6 (some .int) rm_m_send D cI cZ [.ref h, .int c_, .int b_, .int t_] sz [(h, .inr (10, ML G Rf)), ((Rf 0), .inl (cI, 1302, .inl f0))] (fun (r : Int32) (u : (Nat → Int32) × (Nat → Int32)) => (r, u) = f_m_send G f0 c_ b_ t_) (fun (u : (Nat → Int32) × (Nat → Int32)) => [(h, .inr (10, ML u.1 Rf)), ((Rf 0), .inl (cI, 1302, .inl u.2))]) := by
  refine KI.go rfl (Nat.le_of_ble_eq_true rfl) ?_
  intro p e s m args below meth c ls A Q hx hb hml hts hown hin hP hK hD hS hA hN hl hret
  have hl : lv_has ls 6 [(0, .ref h), (1, .int c_), (2, .int b_), (3, .int t_)] := hl
  rw [S_m_send] at hF
  obtain ⟨RES, hE⟩ : ∃ xRES, f_m_send G f0 c_ b_ t_ = xRES := ⟨_, rfl⟩
  rw [hE] at hret
  rw [f_m_send] at hE
  refine lv_aload_n hx hb dX10_send_0 rfl (lv_at hl 0 rfl) ?_
  refine lv_iload_n hx hb dX10_send_1 rfl (lv_at hl 1 rfl) ?_
  obtain ⟨hs_1, hF⟩ := hF
  refine cVi (wr := [((Rf 0), .inl (cI, 1302, .inl f0))]) (rest := []) (m_isCouple Rf h G c_ hs_1) okV_X10_isCouple wd_581 hx hb hml hown hts hK hP hD hS hA hN hl.1 [0] [1] rfl rfl rfl rfl (by decide) rfl rfl rfl (Nat.le_of_ble_eq_true rfl) (Nat.le_of_ble_eq_true rfl) (Nat.le_of_ble_eq_true rfl) (Nat.le_of_ble_eq_true rfl) (Nat.le_of_ble_eq_true rfl) dX10_send_2 (fun r_3 u_2 H locs hw_u_2 hP hD hS => ?_)
  replace hw_u_2 : r_3 = (f_m_isCouple G c_) := hw_u_2
  rw [hw_u_2]
  clear hw_u_2
  have hP : va_P D classes [((Rf 0), .inl (cI, 1302, .inl f0)), (h, .inr (10, ML G Rf))] H := hP
  have hD : va_D A [((Rf 0), .inl (cI, 1302, .inl f0)), (h, .inr (10, ML G Rf))] := hD
  refine lv_if_eq (tgt := 24) hx hb dX10_send_5 (by decide) (fun c_4 => ?_) (fun c_4 => ?_)
  · replace hF := hF.1 c_4
    rw [if_pos c_4] at hE
    refine lv_ldc (v := (-1000000001)) hx hb hown (hts _ wd_580) dX10_send_24 ?_
    exact hret (-1000000001) (G, f0) _ _ _ _ dX10_send_26 rfl hE (cutP (isC := [1, 0]) hP rfl) (cutD (isC := [1, 0]) hD rfl rfl) hS
  · replace hF := hF.2 c_4
    rw [if_neg c_4] at hE
    refine lv_aload_n hx hb dX10_send_8 rfl (lv_at hl 0 rfl) ?_
    refine lv_iload_n hx hb dX10_send_9 rfl (lv_at hl 2 rfl) ?_
    obtain ⟨hs_5, hF⟩ := hF
    refine cVi (wr := [((Rf 0), .inl (cI, 1302, .inl f0))]) (rest := []) (m_isBridge Rf h G b_ hs_5) okV_X10_isBridge wd_571 hx hb hml hown hts hK hP hD hS hA hN hl.1 [1] [0] rfl rfl rfl rfl (by decide) rfl rfl rfl (Nat.le_of_ble_eq_true rfl) (Nat.le_of_ble_eq_true rfl) (Nat.le_of_ble_eq_true rfl) (Nat.le_of_ble_eq_true rfl) (Nat.le_of_ble_eq_true rfl) dX10_send_10 (fun r_7 u_6 H locs hw_u_6 hP hD hS => ?_)
    replace hw_u_6 : r_7 = (f_m_isBridge G b_) := hw_u_6
    rw [hw_u_6]
    clear hw_u_6
    have hP : va_P D classes [((Rf 0), .inl (cI, 1302, .inl f0)), (h, .inr (10, ML G Rf))] H := hP
    have hD : va_D A [((Rf 0), .inl (cI, 1302, .inl f0)), (h, .inr (10, ML G Rf))] := hD
    refine lv_if_eq (tgt := 24) hx hb dX10_send_13 (by decide) (fun c_8 => ?_) (fun c_8 => ?_)
    · replace hF := hF.1 c_8
      rw [if_pos c_8] at hE
      refine lv_ldc (v := (-1000000001)) hx hb hown (hts _ wd_580) dX10_send_24 ?_
      exact hret (-1000000001) (G, f0) _ _ _ _ dX10_send_26 rfl hE (cutP (isC := [1, 0]) hP rfl) (cutD (isC := [1, 0]) hD rfl rfl) hS
    · replace hF := hF.2 c_8
      rw [if_neg c_8] at hE
      refine lv_aload_n hx hb dX10_send_16 rfl (lv_at hl 0 rfl) ?_
      refine lv_iload_n hx hb dX10_send_17 rfl (lv_at hl 3 rfl) ?_
      obtain ⟨hs_9, hF⟩ := hF
      refine cVi (wr := [((Rf 0), .inl (cI, 1302, .inl f0))]) (rest := []) (m_isTheme Rf h G t_ hs_9) okV_X10_isTheme wd_585 hx hb hml hown hts hK hP hD hS hA hN hl.1 [1] [0] rfl rfl rfl rfl (by decide) rfl rfl rfl (Nat.le_of_ble_eq_true rfl) (Nat.le_of_ble_eq_true rfl) (Nat.le_of_ble_eq_true rfl) (Nat.le_of_ble_eq_true rfl) (Nat.le_of_ble_eq_true rfl) dX10_send_18 (fun r_11 u_10 H locs hw_u_10 hP hD hS => ?_)
      replace hw_u_10 : r_11 = (f_m_isTheme G t_) := hw_u_10
      rw [hw_u_10]
      clear hw_u_10
      have hP : va_P D classes [((Rf 0), .inl (cI, 1302, .inl f0)), (h, .inr (10, ML G Rf))] H := hP
      have hD : va_D A [((Rf 0), .inl (cI, 1302, .inl f0)), (h, .inr (10, ML G Rf))] := hD
      refine lv_if_ne (tgt := 27) hx hb dX10_send_21 (by decide) (fun c_12 => ?_) (fun c_12 => ?_)
      · replace hF := hF.2 c_12
        rw [if_neg c_12] at hE
        refine lv_aload_n hx hb dX10_send_27 rfl (lv_at hl 0 rfl) ?_
        refine lv_iconst (v := 0) hx hb dX10_send_28 (by decide) ?_
        refine lv_iload_n hx hb dX10_send_29 rfl (lv_at hl 2 rfl) ?_
        obtain ⟨hs_13, hF⟩ := hF
        refine cVi (wr := []) (rest := []) (m_whoIsAt Rf h G f0 0 b_ hs_13) okV_X10_whoIsAt wd_575 hx hb hml hown hts hK hP hD hS hA hN hl.1 [1, 0] [] rfl rfl rfl rfl (by decide) rfl rfl rfl (Nat.le_of_ble_eq_true rfl) (Nat.le_of_ble_eq_true rfl) (Nat.le_of_ble_eq_true rfl) (Nat.le_of_ble_eq_true rfl) (Nat.le_of_ble_eq_true rfl) dX10_send_30 (fun r_15 u_14 H locs hw_u_14 hP hD hS => ?_)
        replace hw_u_14 : r_15 = (f_m_whoIsAt G f0 0 b_) := hw_u_14
        rw [hw_u_14]
        clear hw_u_14
        have hP : va_P D classes [(h, .inr (10, ML G Rf)), ((Rf 0), .inl (cI, 1302, .inl f0))] H := hP
        have hD : va_D A [(h, .inr (10, ML G Rf)), ((Rf 0), .inl (cI, 1302, .inl f0))] := hD
        refine lv_istore (lv' := [(4, .int (f_m_whoIsAt G f0 0 b_)), (0, .ref h), (1, .int c_), (2, .int b_), (3, .int t_)]) hx hb dX10_send_33 hl (by decide) rfl (fun ls hl => ?_)
        refine lv_aload_n hx hb dX10_send_35 rfl (lv_at hl 1 rfl) ?_
        refine lv_iload_n hx hb dX10_send_36 rfl (lv_at hl 2 rfl) ?_
        obtain ⟨hs_16, hF⟩ := hF
        refine cVi (wr := []) (rest := []) (m_isDone Rf h G f0 c_ hs_16) okV_X10_isDone wd_567 hx hb hml hown hts hK hP hD hS hA hN hl.1 [0, 1] [] rfl rfl rfl rfl (by decide) rfl rfl rfl (Nat.le_of_ble_eq_true rfl) (Nat.le_of_ble_eq_true rfl) (Nat.le_of_ble_eq_true rfl) (Nat.le_of_ble_eq_true rfl) (Nat.le_of_ble_eq_true rfl) dX10_send_37 (fun r_18 u_17 H locs hw_u_17 hP hD hS => ?_)
        replace hw_u_17 : r_18 = (f_m_isDone f0 c_) := hw_u_17
        rw [hw_u_17]
        clear hw_u_17
        have hP : va_P D classes [(h, .inr (10, ML G Rf)), ((Rf 0), .inl (cI, 1302, .inl f0))] H := hP
        have hD : va_D A [(h, .inr (10, ML G Rf)), ((Rf 0), .inl (cI, 1302, .inl f0))] := hD
        refine lv_if_ne (tgt := 55) hx hb dX10_send_40 (by decide) (fun c_19 => ?_) (fun c_19 => ?_)
        · replace hF := hF.2 c_19
          rw [if_neg c_19] at hE
          refine lv_ldc (v := (-1000000003)) hx hb hown (hts _ wd_562) dX10_send_55 ?_
          exact hret (-1000000003) (G, f0) _ _ _ _ dX10_send_57 rfl hE hP hD hS
        · replace hF := hF.1 c_19
          rw [if_pos c_19] at hE
          refine lv_iload hx hb dX10_send_43 (lv_at hl 0 rfl) ?_
          refine lv_iconst (v := (-1)) hx hb dX10_send_45 (by decide) ?_
          refine lv_icmp_eq (tgt := 58) hx hb dX10_send_46 (by decide) (fun c_20 => ?_) (fun c_20 => ?_)
          · replace hF := hF.1 c_20
            rw [if_pos c_20] at hE
            refine lv_aload_n hx hb dX10_send_58 rfl (lv_at hl 1 rfl) ?_
            obtain ⟨hs_21, hF⟩ := hF
            refine cVv (wr := []) (rest := []) (m_minds Rf h G f0 hs_21) okV_X10_minds wd_595 hx hb hml hown hts hK hP hD hS hA hN hl.1 [0, 1] [] rfl rfl rfl rfl (by decide) rfl rfl rfl (Nat.le_of_ble_eq_true rfl) (Nat.le_of_ble_eq_true rfl) (Nat.le_of_ble_eq_true rfl) (Nat.le_of_ble_eq_true rfl) (Nat.le_of_ble_eq_true rfl) dX10_send_59 (fun u_22 H locs hw_u_22 hP hD hS => ?_)
            obtain ⟨o_24, o_25⟩ := u_22
            replace hw_u_22 : (o_24, o_25) = (f_m_minds G f0) := hw_u_22
            replace hF := hF o_24 o_25 hw_u_22
            rw [← hw_u_22] at hE
            replace hE : (((o_25 ((6 + c_) : Int32).toNatClampNeg), o_24, (upd (upd o_25 ((6 + c_) : Int32).toNatClampNeg b_) ((12 + c_) : Int32).toNatClampNeg t_)) : Int32 × (Nat → Int32) × (Nat → Int32)) = RES := hE
            have hP : va_P D classes [(h, .inr (10, ML o_24 Rf)), ((Rf 0), .inl (cI, 1302, .inl o_25))] H := hP
            have hD : va_D A [(h, .inr (10, ML o_24 Rf)), ((Rf 0), .inl (cI, 1302, .inl o_25))] := hD
            refine lv_aload_n hx hb dX10_send_62 rfl (lv_at hl 1 rfl) ?_
            refine va_get (D := D) (ci := 10) (v := .ref (Rf 0)) (C := RX10) (T := TX10) (N := 45) hx hb hts iX10 hown hK hP 0 rfl rfl 0 (by decide) (hts _ wd_491) (fun _ h9 => h9) rfl dX10_send_63 ?_
            refine lv_bipush (v := 6) hx hb dX10_send_66 (by decide) ?_
            refine lv_iload_n hx hb dX10_send_68 rfl (lv_at hl 2 rfl) ?_
            refine lv_iadd hx hb dX10_send_69 ?_
            obtain ⟨hv_26, hF⟩ := hF
            refine va_iald hx hb hK hP 1 0 rfl rfl hv_26 dX10_send_70 ?_
            refine lv_istore (lv' := [(5, .int (o_25 ((6 + c_) : Int32).toNatClampNeg)), (4, .int (f_m_whoIsAt G f0 0 b_)), (0, .ref h), (1, .int c_), (2, .int b_), (3, .int t_)]) hx hb dX10_send_71 hl (by decide) rfl (fun ls hl => ?_)
            refine lv_aload_n hx hb dX10_send_73 rfl (lv_at hl 2 rfl) ?_
            refine va_get (D := D) (ci := 10) (v := .ref (Rf 0)) (C := RX10) (T := TX10) (N := 45) hx hb hts iX10 hown hK hP 0 rfl rfl 0 (by decide) (hts _ wd_491) (fun _ h9 => h9) rfl dX10_send_74 ?_
            refine lv_bipush (v := 6) hx hb dX10_send_77 (by decide) ?_
            refine lv_iload_n hx hb dX10_send_79 rfl (lv_at hl 3 rfl) ?_
            refine lv_iadd hx hb dX10_send_80 ?_
            refine lv_iload_n hx hb dX10_send_81 rfl (lv_at hl 4 rfl) ?_
            obtain ⟨hv_27, hF⟩ := hF
            refine va_iast hx hb hK hP hD hS 1 0 rfl rfl hv_27 dX10_send_82 (fun H locs hP hD hS => ?_)
            have hP : va_P D classes [(h, .inr (10, ML o_24 Rf)), ((Rf 0), .inl (cI, 1302, .inl (upd o_25 ((6 + c_) : Int32).toNatClampNeg b_)))] H := hP
            have hD : va_D A [(h, .inr (10, ML o_24 Rf)), ((Rf 0), .inl (cI, 1302, .inl (upd o_25 ((6 + c_) : Int32).toNatClampNeg b_)))] := hD
            refine lv_aload_n hx hb dX10_send_83 rfl (lv_at hl 2 rfl) ?_
            refine va_get (D := D) (ci := 10) (v := .ref (Rf 0)) (C := RX10) (T := TX10) (N := 45) hx hb hts iX10 hown hK hP 0 rfl rfl 0 (by decide) (hts _ wd_491) (fun _ h9 => h9) rfl dX10_send_84 ?_
            refine lv_bipush (v := 12) hx hb dX10_send_87 (by decide) ?_
            refine lv_iload_n hx hb dX10_send_89 rfl (lv_at hl 3 rfl) ?_
            refine lv_iadd hx hb dX10_send_90 ?_
            refine lv_iload_n hx hb dX10_send_91 rfl (lv_at hl 5 rfl) ?_
            obtain ⟨hv_28, hF⟩ := hF
            refine va_iast hx hb hK hP hD hS 1 0 rfl rfl hv_28 dX10_send_92 (fun H locs hP hD hS => ?_)
            have hP : va_P D classes [(h, .inr (10, ML o_24 Rf)), ((Rf 0), .inl (cI, 1302, .inl (upd (upd o_25 ((6 + c_) : Int32).toNatClampNeg b_) ((12 + c_) : Int32).toNatClampNeg t_)))] H := hP
            have hD : va_D A [(h, .inr (10, ML o_24 Rf)), ((Rf 0), .inl (cI, 1302, .inl (upd (upd o_25 ((6 + c_) : Int32).toNatClampNeg b_) ((12 + c_) : Int32).toNatClampNeg t_)))] := hD
            refine lv_iload hx hb dX10_send_93 (lv_at hl 0 rfl) ?_
            exact hret (o_25 ((6 + c_) : Int32).toNatClampNeg) (o_24, (upd (upd o_25 ((6 + c_) : Int32).toNatClampNeg b_) ((12 + c_) : Int32).toNatClampNeg t_)) _ _ _ _ dX10_send_95 rfl hE hP hD hS
          · replace hF := hF.2 c_20
            rw [if_neg c_20] at hE
            refine lv_iload hx hb dX10_send_49 (lv_at hl 0 rfl) ?_
            refine lv_iload_n hx hb dX10_send_51 rfl (lv_at hl 2 rfl) ?_
            refine lv_icmp_eq (tgt := 58) hx hb dX10_send_52 (by decide) (fun c_29 => ?_) (fun c_29 => ?_)
            · replace hF := hF.1 c_29
              rw [if_pos c_29] at hE
              refine lv_aload_n hx hb dX10_send_58 rfl (lv_at hl 1 rfl) ?_
              obtain ⟨hs_30, hF⟩ := hF
              refine cVv (wr := []) (rest := []) (m_minds Rf h G f0 hs_30) okV_X10_minds wd_595 hx hb hml hown hts hK hP hD hS hA hN hl.1 [0, 1] [] rfl rfl rfl rfl (by decide) rfl rfl rfl (Nat.le_of_ble_eq_true rfl) (Nat.le_of_ble_eq_true rfl) (Nat.le_of_ble_eq_true rfl) (Nat.le_of_ble_eq_true rfl) (Nat.le_of_ble_eq_true rfl) dX10_send_59 (fun u_31 H locs hw_u_31 hP hD hS => ?_)
              obtain ⟨o_33, o_34⟩ := u_31
              replace hw_u_31 : (o_33, o_34) = (f_m_minds G f0) := hw_u_31
              replace hF := hF o_33 o_34 hw_u_31
              rw [← hw_u_31] at hE
              replace hE : (((o_34 ((6 + c_) : Int32).toNatClampNeg), o_33, (upd (upd o_34 ((6 + c_) : Int32).toNatClampNeg b_) ((12 + c_) : Int32).toNatClampNeg t_)) : Int32 × (Nat → Int32) × (Nat → Int32)) = RES := hE
              have hP : va_P D classes [(h, .inr (10, ML o_33 Rf)), ((Rf 0), .inl (cI, 1302, .inl o_34))] H := hP
              have hD : va_D A [(h, .inr (10, ML o_33 Rf)), ((Rf 0), .inl (cI, 1302, .inl o_34))] := hD
              refine lv_aload_n hx hb dX10_send_62 rfl (lv_at hl 1 rfl) ?_
              refine va_get (D := D) (ci := 10) (v := .ref (Rf 0)) (C := RX10) (T := TX10) (N := 45) hx hb hts iX10 hown hK hP 0 rfl rfl 0 (by decide) (hts _ wd_491) (fun _ h9 => h9) rfl dX10_send_63 ?_
              refine lv_bipush (v := 6) hx hb dX10_send_66 (by decide) ?_
              refine lv_iload_n hx hb dX10_send_68 rfl (lv_at hl 2 rfl) ?_
              refine lv_iadd hx hb dX10_send_69 ?_
              obtain ⟨hv_35, hF⟩ := hF
              refine va_iald hx hb hK hP 1 0 rfl rfl hv_35 dX10_send_70 ?_
              refine lv_istore (lv' := [(5, .int (o_34 ((6 + c_) : Int32).toNatClampNeg)), (4, .int (f_m_whoIsAt G f0 0 b_)), (0, .ref h), (1, .int c_), (2, .int b_), (3, .int t_)]) hx hb dX10_send_71 hl (by decide) rfl (fun ls hl => ?_)
              refine lv_aload_n hx hb dX10_send_73 rfl (lv_at hl 2 rfl) ?_
              refine va_get (D := D) (ci := 10) (v := .ref (Rf 0)) (C := RX10) (T := TX10) (N := 45) hx hb hts iX10 hown hK hP 0 rfl rfl 0 (by decide) (hts _ wd_491) (fun _ h9 => h9) rfl dX10_send_74 ?_
              refine lv_bipush (v := 6) hx hb dX10_send_77 (by decide) ?_
              refine lv_iload_n hx hb dX10_send_79 rfl (lv_at hl 3 rfl) ?_
              refine lv_iadd hx hb dX10_send_80 ?_
              refine lv_iload_n hx hb dX10_send_81 rfl (lv_at hl 4 rfl) ?_
              obtain ⟨hv_36, hF⟩ := hF
              refine va_iast hx hb hK hP hD hS 1 0 rfl rfl hv_36 dX10_send_82 (fun H locs hP hD hS => ?_)
              have hP : va_P D classes [(h, .inr (10, ML o_33 Rf)), ((Rf 0), .inl (cI, 1302, .inl (upd o_34 ((6 + c_) : Int32).toNatClampNeg b_)))] H := hP
              have hD : va_D A [(h, .inr (10, ML o_33 Rf)), ((Rf 0), .inl (cI, 1302, .inl (upd o_34 ((6 + c_) : Int32).toNatClampNeg b_)))] := hD
              refine lv_aload_n hx hb dX10_send_83 rfl (lv_at hl 2 rfl) ?_
              refine va_get (D := D) (ci := 10) (v := .ref (Rf 0)) (C := RX10) (T := TX10) (N := 45) hx hb hts iX10 hown hK hP 0 rfl rfl 0 (by decide) (hts _ wd_491) (fun _ h9 => h9) rfl dX10_send_84 ?_
              refine lv_bipush (v := 12) hx hb dX10_send_87 (by decide) ?_
              refine lv_iload_n hx hb dX10_send_89 rfl (lv_at hl 3 rfl) ?_
              refine lv_iadd hx hb dX10_send_90 ?_
              refine lv_iload_n hx hb dX10_send_91 rfl (lv_at hl 5 rfl) ?_
              obtain ⟨hv_37, hF⟩ := hF
              refine va_iast hx hb hK hP hD hS 1 0 rfl rfl hv_37 dX10_send_92 (fun H locs hP hD hS => ?_)
              have hP : va_P D classes [(h, .inr (10, ML o_33 Rf)), ((Rf 0), .inl (cI, 1302, .inl (upd (upd o_34 ((6 + c_) : Int32).toNatClampNeg b_) ((12 + c_) : Int32).toNatClampNeg t_)))] H := hP
              have hD : va_D A [(h, .inr (10, ML o_33 Rf)), ((Rf 0), .inl (cI, 1302, .inl (upd (upd o_34 ((6 + c_) : Int32).toNatClampNeg b_) ((12 + c_) : Int32).toNatClampNeg t_)))] := hD
              refine lv_iload hx hb dX10_send_93 (lv_at hl 0 rfl) ?_
              exact hret (o_34 ((6 + c_) : Int32).toNatClampNeg) (o_33, (upd (upd o_34 ((6 + c_) : Int32).toNatClampNeg b_) ((12 + c_) : Int32).toNatClampNeg t_)) _ _ _ _ dX10_send_95 rfl hE hP hD hS
            · replace hF := hF.2 c_29
              rw [if_neg c_29] at hE
              refine lv_ldc (v := (-1000000003)) hx hb hown (hts _ wd_562) dX10_send_55 ?_
              exact hret (-1000000003) (G, f0) _ _ _ _ dX10_send_57 rfl hE hP hD hS
      · replace hF := hF.1 c_12
        rw [if_pos c_12] at hE
        refine lv_ldc (v := (-1000000001)) hx hb hown (hts _ wd_580) dX10_send_24 ?_
        exact hret (-1000000001) (G, f0) _ _ _ _ dX10_send_26 rfl hE (cutP (isC := [1, 0]) hP rfl) (cutD (isC := [1, 0]) hD rfl rfl) hS
noncomputable def f_m_home (G : Nat → Int32) (f0 : Nat → Int32) (c_ : Int32) : Int32 × (Nat → Int32) × (Nat → Int32) := (if (f_m_isCouple G c_) = 0 then ((-1000000001), G, f0) else (if (f0 ((6 + c_) : Int32).toNatClampNeg) = (-1) then ((-1000000003), G, f0) else (match (f_m_minds G f0) with | (o_10, o_11) => ((f0 ((6 + c_) : Int32).toNatClampNeg), o_10, (upd o_11 ((6 + c_) : Int32).toNatClampNeg (-1))))))
def S_m_home (G : Nat → Int32) (f0 : Nat → Int32) (c_ : Int32) : Prop := ((S_m_isCouple G c_) ∧ (((f_m_isCouple G c_) = 0 → True) ∧ (¬ (f_m_isCouple G c_) = 0 → (vp_in (6 + c_) 1302 ∧ (((f0 ((6 + c_) : Int32).toNatClampNeg) = (-1) → True) ∧ (¬ (f0 ((6 + c_) : Int32).toNatClampNeg) = (-1) → ((S_m_minds G f0) ∧ (∀ (o_10 : (Nat → Int32)) (o_11 : (Nat → Int32)), (o_10, o_11) = (f_m_minds G f0) → (vp_in (6 + c_) 1302 ∧ True)))))))))
def rm_m_home : Room := { frames := 2, cells := 0, slots := 0, locals := 46 }
set_option maxHeartbeats 4000000 in
set_option maxRecDepth 100000 in
theorem m_home {l : Launch} {D : va_G} {cI cZ : ClassId} {sz : Nat} (Rf : Nat → Nat) (h : Nat) (G : Nat → Int32) (f0 : Nat → Int32) (c_ : Int32) (hF : S_m_home G f0 c_) : KI l yX10_home cX10_home 3 (some .int) rm_m_home D cI cZ [.ref h, .int c_] sz [(h, .inr (10, ML G Rf)), ((Rf 0), .inl (cI, 1302, .inl f0))] (fun (r : Int32) (u : (Nat → Int32) × (Nat → Int32)) => (r, u) = f_m_home G f0 c_) (fun (u : (Nat → Int32) × (Nat → Int32)) => [(h, .inr (10, ML u.1 Rf)), ((Rf 0), .inl (cI, 1302, .inl u.2))]) := by
  refine KI.go rfl (Nat.le_of_ble_eq_true rfl) ?_
  intro p e s m args below meth c ls A Q hx hb hml hts hown hin hP hK hD hS hA hN hl hret
  have hl : lv_has ls 3 [(0, .ref h), (1, .int c_)] := hl
  rw [S_m_home] at hF
  obtain ⟨RES, hE⟩ : ∃ xRES, f_m_home G f0 c_ = xRES := ⟨_, rfl⟩
  rw [hE] at hret
  rw [f_m_home] at hE
  refine lv_aload_n hx hb dX10_home_0 rfl (lv_at hl 0 rfl) ?_
  refine lv_iload_n hx hb dX10_home_1 rfl (lv_at hl 1 rfl) ?_
  obtain ⟨hs_1, hF⟩ := hF
  refine cVi (wr := [((Rf 0), .inl (cI, 1302, .inl f0))]) (rest := []) (m_isCouple Rf h G c_ hs_1) okV_X10_isCouple wd_581 hx hb hml hown hts hK hP hD hS hA hN hl.1 [0] [1] rfl rfl rfl rfl (by decide) rfl rfl rfl (Nat.le_of_ble_eq_true rfl) (Nat.le_of_ble_eq_true rfl) (Nat.le_of_ble_eq_true rfl) (Nat.le_of_ble_eq_true rfl) (Nat.le_of_ble_eq_true rfl) dX10_home_2 (fun r_3 u_2 H locs hw_u_2 hP hD hS => ?_)
  replace hw_u_2 : r_3 = (f_m_isCouple G c_) := hw_u_2
  rw [hw_u_2]
  clear hw_u_2
  have hP : va_P D classes [((Rf 0), .inl (cI, 1302, .inl f0)), (h, .inr (10, ML G Rf))] H := hP
  have hD : va_D A [((Rf 0), .inl (cI, 1302, .inl f0)), (h, .inr (10, ML G Rf))] := hD
  refine lv_if_ne (tgt := 11) hx hb dX10_home_5 (by decide) (fun c_4 => ?_) (fun c_4 => ?_)
  · replace hF := hF.2 c_4
    rw [if_neg c_4] at hE
    refine lv_aload_n hx hb dX10_home_11 rfl (lv_at hl 0 rfl) ?_
    refine va_get (D := D) (ci := 10) (v := .ref (Rf 0)) (C := RX10) (T := TX10) (N := 45) hx hb hts iX10 hown hK hP 1 rfl rfl 0 (by decide) (hts _ wd_491) (fun _ h9 => h9) rfl dX10_home_12 ?_
    refine lv_bipush (v := 6) hx hb dX10_home_15 (by decide) ?_
    refine lv_iload_n hx hb dX10_home_17 rfl (lv_at hl 1 rfl) ?_
    refine lv_iadd hx hb dX10_home_18 ?_
    obtain ⟨hv_5, hF⟩ := hF
    refine va_iald hx hb hK hP 0 0 rfl rfl hv_5 dX10_home_19 ?_
    refine lv_istore_n (lv' := [(2, .int (f0 ((6 + c_) : Int32).toNatClampNeg)), (0, .ref h), (1, .int c_)]) hx hb dX10_home_20 rfl hl (by decide) rfl (fun ls hl => ?_)
    refine lv_iload_n hx hb dX10_home_21 rfl (lv_at hl 0 rfl) ?_
    refine lv_iconst (v := (-1)) hx hb dX10_home_22 (by decide) ?_
    refine lv_icmp_ne (tgt := 29) hx hb dX10_home_23 (by decide) (fun c_6 => ?_) (fun c_6 => ?_)
    · replace hF := hF.2 c_6
      rw [if_neg c_6] at hE
      refine lv_aload_n hx hb dX10_home_29 rfl (lv_at hl 1 rfl) ?_
      obtain ⟨hs_7, hF⟩ := hF
      refine cVv (wr := []) (rest := []) (m_minds Rf h G f0 hs_7) okV_X10_minds wd_595 hx hb hml hown hts hK hP hD hS hA hN hl.1 [1, 0] [] rfl rfl rfl rfl (by decide) rfl rfl rfl (Nat.le_of_ble_eq_true rfl) (Nat.le_of_ble_eq_true rfl) (Nat.le_of_ble_eq_true rfl) (Nat.le_of_ble_eq_true rfl) (Nat.le_of_ble_eq_true rfl) dX10_home_30 (fun u_8 H locs hw_u_8 hP hD hS => ?_)
      obtain ⟨o_10, o_11⟩ := u_8
      replace hw_u_8 : (o_10, o_11) = (f_m_minds G f0) := hw_u_8
      replace hF := hF o_10 o_11 hw_u_8
      rw [← hw_u_8] at hE
      replace hE : (((f0 ((6 + c_) : Int32).toNatClampNeg), o_10, (upd o_11 ((6 + c_) : Int32).toNatClampNeg (-1))) : Int32 × (Nat → Int32) × (Nat → Int32)) = RES := hE
      have hP : va_P D classes [(h, .inr (10, ML o_10 Rf)), ((Rf 0), .inl (cI, 1302, .inl o_11))] H := hP
      have hD : va_D A [(h, .inr (10, ML o_10 Rf)), ((Rf 0), .inl (cI, 1302, .inl o_11))] := hD
      refine lv_aload_n hx hb dX10_home_33 rfl (lv_at hl 1 rfl) ?_
      refine va_get (D := D) (ci := 10) (v := .ref (Rf 0)) (C := RX10) (T := TX10) (N := 45) hx hb hts iX10 hown hK hP 0 rfl rfl 0 (by decide) (hts _ wd_491) (fun _ h9 => h9) rfl dX10_home_34 ?_
      refine lv_bipush (v := 6) hx hb dX10_home_37 (by decide) ?_
      refine lv_iload_n hx hb dX10_home_39 rfl (lv_at hl 2 rfl) ?_
      refine lv_iadd hx hb dX10_home_40 ?_
      refine lv_iconst (v := (-1)) hx hb dX10_home_41 (by decide) ?_
      obtain ⟨hv_12, hF⟩ := hF
      refine va_iast hx hb hK hP hD hS 1 0 rfl rfl hv_12 dX10_home_42 (fun H locs hP hD hS => ?_)
      have hP : va_P D classes [(h, .inr (10, ML o_10 Rf)), ((Rf 0), .inl (cI, 1302, .inl (upd o_11 ((6 + c_) : Int32).toNatClampNeg (-1))))] H := hP
      have hD : va_D A [(h, .inr (10, ML o_10 Rf)), ((Rf 0), .inl (cI, 1302, .inl (upd o_11 ((6 + c_) : Int32).toNatClampNeg (-1))))] := hD
      refine lv_iload_n hx hb dX10_home_43 rfl (lv_at hl 0 rfl) ?_
      exact hret (f0 ((6 + c_) : Int32).toNatClampNeg) (o_10, (upd o_11 ((6 + c_) : Int32).toNatClampNeg (-1))) _ _ _ _ dX10_home_44 rfl hE hP hD hS
    · replace hF := hF.1 c_6
      rw [if_pos c_6] at hE
      refine lv_ldc (v := (-1000000003)) hx hb hown (hts _ wd_562) dX10_home_26 ?_
      exact hret (-1000000003) (G, f0) _ _ _ _ dX10_home_28 rfl hE (cutP (isC := [1, 0]) hP rfl) (cutD (isC := [1, 0]) hD rfl rfl) hS
  · replace hF := hF.1 c_4
    rw [if_pos c_4] at hE
    refine lv_ldc (v := (-1000000001)) hx hb hown (hts _ wd_580) dX10_home_8 ?_
    exact hret (-1000000001) (G, f0) _ _ _ _ dX10_home_10 rfl hE (cutP (isC := [1, 0]) hP rfl) (cutD (isC := [1, 0]) hD rfl rfl) hS
noncomputable def f_m_grieve (G : Nat → Int32) (f0 : Nat → Int32) (c_ : Int32) (v_ : Int32) : Int32 × (Nat → Int32) × (Nat → Int32) := (if (f_m_isCouple G c_) = 0 then ((-1000000001), G, f0) else (if (f_m_in v_.toInt64 1 99) = 0 then ((-1000000002), G, f0) else (if (f_m_isDone f0 c_) = 0 then (match (f_m_minds G f0) with | (o_16, o_17) => (((f_m_grieves o_17 c_ v_) ((0 + c_) : Int32).toNatClampNeg), o_16, (f_m_grieves o_17 c_ v_))) else ((-1000000003), G, f0))))
def S_m_grieve (G : Nat → Int32) (f0 : Nat → Int32) (c_ : Int32) (v_ : Int32) : Prop := ((S_m_isCouple G c_) ∧ (((f_m_isCouple G c_) = 0 → True) ∧ (¬ (f_m_isCouple G c_) = 0 → ((S_m_in v_.toInt64 1 99) ∧ (((f_m_in v_.toInt64 1 99) = 0 → True) ∧ (¬ (f_m_in v_.toInt64 1 99) = 0 → ((S_m_isDone f0 c_) ∧ (((f_m_isDone f0 c_) = 0 → ((S_m_minds G f0) ∧ (∀ (o_16 : (Nat → Int32)) (o_17 : (Nat → Int32)), (o_16, o_17) = (f_m_minds G f0) → ((S_m_grieves o_17 c_ v_) ∧ (vp_in (0 + c_) 1302 ∧ True))))) ∧ (¬ (f_m_isDone f0 c_) = 0 → True)))))))))
def rm_m_grieve : Room := { frames := 3, cells := 0, slots := 0, locals := 65 }
set_option maxHeartbeats 4000000 in
set_option maxRecDepth 100000 in
theorem m_grieve {l : Launch} {D : va_G} {cI cZ : ClassId} {sz : Nat} (Rf : Nat → Nat) (h : Nat) (G : Nat → Int32) (f0 : Nat → Int32) (c_ : Int32) (v_ : Int32) (hF : S_m_grieve G f0 c_ v_) : KI l yX10_grieve cX10_grieve 3 (some .int) rm_m_grieve D cI cZ [.ref h, .int c_, .int v_] sz [(h, .inr (10, ML G Rf)), ((Rf 0), .inl (cI, 1302, .inl f0))] (fun (r : Int32) (u : (Nat → Int32) × (Nat → Int32)) => (r, u) = f_m_grieve G f0 c_ v_) (fun (u : (Nat → Int32) × (Nat → Int32)) => [(h, .inr (10, ML u.1 Rf)), ((Rf 0), .inl (cI, 1302, .inl u.2))]) := by
  refine KI.go rfl (Nat.le_of_ble_eq_true rfl) ?_
  intro p e s m args below meth c ls A Q hx hb hml hts hown hin hP hK hD hS hA hN hl hret
  have hl : lv_has ls 3 [(0, .ref h), (1, .int c_), (2, .int v_)] := hl
  rw [S_m_grieve] at hF
  obtain ⟨RES, hE⟩ : ∃ xRES, f_m_grieve G f0 c_ v_ = xRES := ⟨_, rfl⟩
  rw [hE] at hret
  rw [f_m_grieve] at hE
  refine lv_aload_n hx hb dX10_grieve_0 rfl (lv_at hl 0 rfl) ?_
  refine lv_iload_n hx hb dX10_grieve_1 rfl (lv_at hl 1 rfl) ?_
  obtain ⟨hs_1, hF⟩ := hF
  refine cVi (wr := [((Rf 0), .inl (cI, 1302, .inl f0))]) (rest := []) (m_isCouple Rf h G c_ hs_1) okV_X10_isCouple wd_581 hx hb hml hown hts hK hP hD hS hA hN hl.1 [0] [1] rfl rfl rfl rfl (by decide) rfl rfl rfl (Nat.le_of_ble_eq_true rfl) (Nat.le_of_ble_eq_true rfl) (Nat.le_of_ble_eq_true rfl) (Nat.le_of_ble_eq_true rfl) (Nat.le_of_ble_eq_true rfl) dX10_grieve_2 (fun r_3 u_2 H locs hw_u_2 hP hD hS => ?_)
  replace hw_u_2 : r_3 = (f_m_isCouple G c_) := hw_u_2
  rw [hw_u_2]
  clear hw_u_2
  have hP : va_P D classes [((Rf 0), .inl (cI, 1302, .inl f0)), (h, .inr (10, ML G Rf))] H := hP
  have hD : va_D A [((Rf 0), .inl (cI, 1302, .inl f0)), (h, .inr (10, ML G Rf))] := hD
  refine lv_if_ne (tgt := 11) hx hb dX10_grieve_5 (by decide) (fun c_4 => ?_) (fun c_4 => ?_)
  · replace hF := hF.2 c_4
    rw [if_neg c_4] at hE
    refine lv_iload_n hx hb dX10_grieve_11 rfl (lv_at hl 2 rfl) ?_
    refine lv_i2l (v := v_.toInt64) hx hb dX10_grieve_12 rfl ?_
    refine lv_lconst (v := 1) hx hb dX10_grieve_13 (by decide) ?_
    refine lv_ldc2 (v := 99) hx hb hown (hts _ wd_599) dX10_grieve_14 ?_
    obtain ⟨hs_5, hF⟩ := hF
    refine cSi (wr := [((Rf 0), .inl (cI, 1302, .inl f0)), (h, .inr (10, ML G Rf))]) (rest := []) (m_in v_.toInt64 1 99 hs_5) okS_X10_in wd_495 hx hb hml hown hts hK hP hD hS hA hN hl.1 [] [0, 1] rfl rfl rfl rfl (by decide) rfl (Nat.le_of_ble_eq_true rfl) (Nat.le_of_ble_eq_true rfl) (Nat.le_of_ble_eq_true rfl) (Nat.le_of_ble_eq_true rfl) (Nat.le_of_ble_eq_true rfl) dX10_grieve_17 (fun r_7 u_6 H locs hw_u_6 hP hD hS => ?_)
    replace hw_u_6 : r_7 = (f_m_in v_.toInt64 1 99) := hw_u_6
    rw [hw_u_6]
    clear hw_u_6
    have hP : va_P D classes [((Rf 0), .inl (cI, 1302, .inl f0)), (h, .inr (10, ML G Rf))] H := hP
    have hD : va_D A [((Rf 0), .inl (cI, 1302, .inl f0)), (h, .inr (10, ML G Rf))] := hD
    refine lv_if_ne (tgt := 26) hx hb dX10_grieve_20 (by decide) (fun c_8 => ?_) (fun c_8 => ?_)
    · replace hF := hF.2 c_8
      rw [if_neg c_8] at hE
      refine lv_aload_n hx hb dX10_grieve_26 rfl (lv_at hl 0 rfl) ?_
      refine lv_iload_n hx hb dX10_grieve_27 rfl (lv_at hl 1 rfl) ?_
      obtain ⟨hs_9, hF⟩ := hF
      refine cVi (wr := []) (rest := []) (m_isDone Rf h G f0 c_ hs_9) okV_X10_isDone wd_567 hx hb hml hown hts hK hP hD hS hA hN hl.1 [1, 0] [] rfl rfl rfl rfl (by decide) rfl rfl rfl (Nat.le_of_ble_eq_true rfl) (Nat.le_of_ble_eq_true rfl) (Nat.le_of_ble_eq_true rfl) (Nat.le_of_ble_eq_true rfl) (Nat.le_of_ble_eq_true rfl) dX10_grieve_28 (fun r_11 u_10 H locs hw_u_10 hP hD hS => ?_)
      replace hw_u_10 : r_11 = (f_m_isDone f0 c_) := hw_u_10
      rw [hw_u_10]
      clear hw_u_10
      have hP : va_P D classes [(h, .inr (10, ML G Rf)), ((Rf 0), .inl (cI, 1302, .inl f0))] H := hP
      have hD : va_D A [(h, .inr (10, ML G Rf)), ((Rf 0), .inl (cI, 1302, .inl f0))] := hD
      refine lv_if_eq (tgt := 37) hx hb dX10_grieve_31 (by decide) (fun c_12 => ?_) (fun c_12 => ?_)
      · replace hF := hF.1 c_12
        rw [if_pos c_12] at hE
        refine lv_aload_n hx hb dX10_grieve_37 rfl (lv_at hl 0 rfl) ?_
        obtain ⟨hs_13, hF⟩ := hF
        refine cVv (wr := []) (rest := []) (m_minds Rf h G f0 hs_13) okV_X10_minds wd_595 hx hb hml hown hts hK hP hD hS hA hN hl.1 [0, 1] [] rfl rfl rfl rfl (by decide) rfl rfl rfl (Nat.le_of_ble_eq_true rfl) (Nat.le_of_ble_eq_true rfl) (Nat.le_of_ble_eq_true rfl) (Nat.le_of_ble_eq_true rfl) (Nat.le_of_ble_eq_true rfl) dX10_grieve_38 (fun u_14 H locs hw_u_14 hP hD hS => ?_)
        obtain ⟨o_16, o_17⟩ := u_14
        replace hw_u_14 : (o_16, o_17) = (f_m_minds G f0) := hw_u_14
        replace hF := hF o_16 o_17 hw_u_14
        rw [← hw_u_14] at hE
        replace hE : ((((f_m_grieves o_17 c_ v_) ((0 + c_) : Int32).toNatClampNeg), o_16, (f_m_grieves o_17 c_ v_)) : Int32 × (Nat → Int32) × (Nat → Int32)) = RES := hE
        have hP : va_P D classes [(h, .inr (10, ML o_16 Rf)), ((Rf 0), .inl (cI, 1302, .inl o_17))] H := hP
        have hD : va_D A [(h, .inr (10, ML o_16 Rf)), ((Rf 0), .inl (cI, 1302, .inl o_17))] := hD
        refine lv_aload_n hx hb dX10_grieve_41 rfl (lv_at hl 0 rfl) ?_
        refine lv_iload_n hx hb dX10_grieve_42 rfl (lv_at hl 1 rfl) ?_
        refine lv_iload_n hx hb dX10_grieve_43 rfl (lv_at hl 2 rfl) ?_
        obtain ⟨hs_18, hF⟩ := hF
        refine cVv (wr := []) (rest := []) (m_grieves Rf h o_16 o_17 c_ v_ hs_18) okV_X10_grieves wd_600 hx hb hml hown hts hK hP hD hS hA hN hl.1 [0, 1] [] rfl rfl rfl rfl (by decide) rfl rfl rfl (Nat.le_of_ble_eq_true rfl) (Nat.le_of_ble_eq_true rfl) (Nat.le_of_ble_eq_true rfl) (Nat.le_of_ble_eq_true rfl) (Nat.le_of_ble_eq_true rfl) dX10_grieve_44 (fun u_19 H locs hw_u_19 hP hD hS => ?_)
        replace hw_u_19 : u_19 = (f_m_grieves o_17 c_ v_) := hw_u_19
        subst hw_u_19
        have hP : va_P D classes [(h, .inr (10, ML o_16 Rf)), ((Rf 0), .inl (cI, 1302, .inl (f_m_grieves o_17 c_ v_)))] H := hP
        have hD : va_D A [(h, .inr (10, ML o_16 Rf)), ((Rf 0), .inl (cI, 1302, .inl (f_m_grieves o_17 c_ v_)))] := hD
        refine lv_aload_n hx hb dX10_grieve_47 rfl (lv_at hl 0 rfl) ?_
        refine va_get (D := D) (ci := 10) (v := .ref (Rf 0)) (C := RX10) (T := TX10) (N := 45) hx hb hts iX10 hown hK hP 0 rfl rfl 0 (by decide) (hts _ wd_491) (fun _ h9 => h9) rfl dX10_grieve_48 ?_
        refine lv_iconst (v := 0) hx hb dX10_grieve_51 (by decide) ?_
        refine lv_iload_n hx hb dX10_grieve_52 rfl (lv_at hl 1 rfl) ?_
        refine lv_iadd hx hb dX10_grieve_53 ?_
        obtain ⟨hv_21, hF⟩ := hF
        refine va_iald hx hb hK hP 1 0 rfl rfl hv_21 dX10_grieve_54 ?_
        exact hret ((f_m_grieves o_17 c_ v_) ((0 + c_) : Int32).toNatClampNeg) (o_16, (f_m_grieves o_17 c_ v_)) _ _ _ _ dX10_grieve_55 rfl hE hP hD hS
      · replace hF := hF.2 c_12
        rw [if_neg c_12] at hE
        refine lv_ldc (v := (-1000000003)) hx hb hown (hts _ wd_562) dX10_grieve_34 ?_
        exact hret (-1000000003) (G, f0) _ _ _ _ dX10_grieve_36 rfl hE hP hD hS
    · replace hF := hF.1 c_8
      rw [if_pos c_8] at hE
      refine lv_ldc (v := (-1000000002)) hx hb hown (hts _ wd_507) dX10_grieve_23 ?_
      exact hret (-1000000002) (G, f0) _ _ _ _ dX10_grieve_25 rfl hE (cutP (isC := [1, 0]) hP rfl) (cutD (isC := [1, 0]) hD rfl rfl) hS
  · replace hF := hF.1 c_4
    rw [if_pos c_4] at hE
    refine lv_ldc (v := (-1000000001)) hx hb hown (hts _ wd_580) dX10_grieve_8 ?_
    exact hret (-1000000001) (G, f0) _ _ _ _ dX10_grieve_10 rfl hE (cutP (isC := [1, 0]) hP rfl) (cutD (isC := [1, 0]) hD rfl rfl) hS
