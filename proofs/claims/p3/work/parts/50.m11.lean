theorem dX10_fault_0 : decode cX10_fault 0 = .ok (.aload_n 0, 1) := by decide +kernel
theorem dX10_fault_1 : decode cX10_fault 1 = .ok (.getfield 39, 3) := by decide +kernel
theorem dX10_fault_4 : decode cX10_fault 4 = .ok (.ireturn, 1) := by decide +kernel
theorem dX10_bridge_0 : decode cX10_bridge 0 = .ok (.aload_n 0, 1) := by decide +kernel
theorem dX10_bridge_1 : decode cX10_bridge 1 = .ok (.iload_n 1, 1) := by decide +kernel
theorem dX10_bridge_2 : decode cX10_bridge 2 = .ok (.invokevirtual 196, 3) := by decide +kernel
theorem wd_571 : Cond.methodLink RX10 196 yX10_isBridge ∈ BG := BG_at 1005 (by decide +kernel) rfl
theorem wd_572 : Cond.code yX10_isBridge cX10_isBridge 2 (some .boolean) ∈ BG := BG_at 1008 (by decide +kernel) rfl
theorem wd_573 : Cond.instanceMethod yX10_isBridge ∈ BG := BG_at 1007 (by decide +kernel) rfl
theorem wd_574 : Cond.selects RX10 yX10_isBridge yX10_isBridge ∈ BG := BG_in (by decide +kernel) rfl
theorem okV_X10_isBridge : okV yX10_isBridge cX10_isBridge 2 (some .boolean) 1 := ⟨⟨wd_572, wd_497, by decide +kernel⟩, wd_573, wd_574⟩
theorem dX10_bridge_5 : decode cX10_bridge 5 = .ok (.ifCond .ne 6, 3) := by decide +kernel
theorem dX10_bridge_11 : decode cX10_bridge 11 = .ok (.iload_n 2, 1) := by decide +kernel
theorem dX10_bridge_12 : decode cX10_bridge 12 = .ok (.ifCond .ne 12, 3) := by decide +kernel
theorem dX10_bridge_24 : decode cX10_bridge 24 = .ok (.iload_n 2, 1) := by decide +kernel
theorem dX10_bridge_25 : decode cX10_bridge 25 = .ok (.iconst 1, 1) := by decide +kernel
theorem dX10_bridge_26 : decode cX10_bridge 26 = .ok (.if_icmp .ne 12, 3) := by decide +kernel
theorem dX10_bridge_38 : decode cX10_bridge 38 = .ok (.ldc 93, 2) := by decide +kernel
theorem dX10_bridge_40 : decode cX10_bridge 40 = .ok (.ireturn, 1) := by decide +kernel
theorem dX10_bridge_29 : decode cX10_bridge 29 = .ok (.aload_n 0, 1) := by decide +kernel
theorem dX10_bridge_30 : decode cX10_bridge 30 = .ok (.iconst 0, 1) := by decide +kernel
theorem dX10_bridge_31 : decode cX10_bridge 31 = .ok (.iload_n 1, 1) := by decide +kernel
theorem dX10_bridge_32 : decode cX10_bridge 32 = .ok (.invokevirtual 200, 3) := by decide +kernel
theorem wd_575 : Cond.methodLink RX10 200 yX10_whoIsAt ∈ BG := BG_at 1010 (by decide +kernel) rfl
theorem wd_576 : Cond.code yX10_whoIsAt cX10_whoIsAt 5 (some .int) ∈ BG := BG_at 1013 (by decide +kernel) rfl
theorem wd_577 : Cond.instanceMethod yX10_whoIsAt ∈ BG := BG_at 1012 (by decide +kernel) rfl
theorem wd_578 : Cond.selects RX10 yX10_whoIsAt yX10_whoIsAt ∈ BG := BG_in (by decide +kernel) rfl
theorem okV_X10_whoIsAt : okV yX10_whoIsAt cX10_whoIsAt 5 (some .int) 2 := ⟨⟨wd_576, wd_497, by decide +kernel⟩, wd_577, wd_578⟩
theorem dX10_bridge_35 : decode cX10_bridge 35 = .ok (.goto 5, 3) := by decide +kernel
theorem dX10_bridge_15 : decode cX10_bridge 15 = .ok (.aload_n 0, 1) := by decide +kernel
theorem wd_579 : Cond.fieldLink RX10 21 "QuarrelBridgesModel" "needs" "[I" ∈ BG := BG_at 791 (by decide +kernel) rfl
theorem dX10_bridge_16 : decode cX10_bridge 16 = .ok (.getfield 21, 3) := by decide +kernel
theorem dX10_bridge_19 : decode cX10_bridge 19 = .ok (.iload_n 1, 1) := by decide +kernel
theorem dX10_bridge_20 : decode cX10_bridge 20 = .ok (.iaload, 1) := by decide +kernel
theorem dX10_bridge_21 : decode cX10_bridge 21 = .ok (.goto 19, 3) := by decide +kernel
theorem wd_580 : Cond.constant RX10 199 (-1000000001) ∈ BG := BG_at 1009 (by decide +kernel) rfl
theorem dX10_bridge_8 : decode cX10_bridge 8 = .ok (.ldc 199, 2) := by decide +kernel
theorem dX10_bridge_10 : decode cX10_bridge 10 = .ok (.ireturn, 1) := by decide +kernel
theorem dX10_couple_0 : decode cX10_couple 0 = .ok (.aload_n 0, 1) := by decide +kernel
theorem dX10_couple_1 : decode cX10_couple 1 = .ok (.iload_n 1, 1) := by decide +kernel
theorem dX10_couple_2 : decode cX10_couple 2 = .ok (.invokevirtual 204, 3) := by decide +kernel
theorem wd_581 : Cond.methodLink RX10 204 yX10_isCouple ∈ BG := BG_at 1018 (by decide +kernel) rfl
theorem wd_582 : Cond.code yX10_isCouple cX10_isCouple 2 (some .boolean) ∈ BG := BG_at 1021 (by decide +kernel) rfl
theorem wd_583 : Cond.instanceMethod yX10_isCouple ∈ BG := BG_at 1020 (by decide +kernel) rfl
theorem wd_584 : Cond.selects RX10 yX10_isCouple yX10_isCouple ∈ BG := BG_in (by decide +kernel) rfl
theorem okV_X10_isCouple : okV yX10_isCouple cX10_isCouple 2 (some .boolean) 1 := ⟨⟨wd_582, wd_497, by decide +kernel⟩, wd_583, wd_584⟩
theorem dX10_couple_5 : decode cX10_couple 5 = .ok (.ifCond .ne 6, 3) := by decide +kernel
theorem dX10_couple_11 : decode cX10_couple 11 = .ok (.iload_n 2, 1) := by decide +kernel
theorem dX10_couple_12 : decode cX10_couple 12 = .ok (.tableswitch 86 0 4 #[36, 45, 52, 62, 72], 36) := by decide +kernel
theorem dX10_couple_48 : decode cX10_couple 48 = .ok (.aload_n 0, 1) := by decide +kernel
theorem dX10_couple_49 : decode cX10_couple 49 = .ok (.getfield 7, 3) := by decide +kernel
theorem dX10_couple_52 : decode cX10_couple 52 = .ok (.iconst 0, 1) := by decide +kernel
theorem dX10_couple_53 : decode cX10_couple 53 = .ok (.iload_n 1, 1) := by decide +kernel
theorem dX10_couple_54 : decode cX10_couple 54 = .ok (.iadd, 1) := by decide +kernel
theorem dX10_couple_55 : decode cX10_couple 55 = .ok (.iaload, 1) := by decide +kernel
theorem dX10_couple_56 : decode cX10_couple 56 = .ok (.ireturn, 1) := by decide +kernel
theorem dX10_couple_57 : decode cX10_couple 57 = .ok (.aload_n 0, 1) := by decide +kernel
theorem dX10_couple_58 : decode cX10_couple 58 = .ok (.getfield 24, 3) := by decide +kernel
theorem dX10_couple_61 : decode cX10_couple 61 = .ok (.iload_n 1, 1) := by decide +kernel
theorem dX10_couple_62 : decode cX10_couple 62 = .ok (.iaload, 1) := by decide +kernel
theorem dX10_couple_63 : decode cX10_couple 63 = .ok (.ireturn, 1) := by decide +kernel
theorem dX10_couple_64 : decode cX10_couple 64 = .ok (.aload_n 0, 1) := by decide +kernel
theorem dX10_couple_65 : decode cX10_couple 65 = .ok (.getfield 7, 3) := by decide +kernel
theorem dX10_couple_68 : decode cX10_couple 68 = .ok (.bipush 6, 2) := by decide +kernel
theorem dX10_couple_70 : decode cX10_couple 70 = .ok (.iload_n 1, 1) := by decide +kernel
theorem dX10_couple_71 : decode cX10_couple 71 = .ok (.iadd, 1) := by decide +kernel
theorem dX10_couple_72 : decode cX10_couple 72 = .ok (.iaload, 1) := by decide +kernel
theorem dX10_couple_73 : decode cX10_couple 73 = .ok (.ireturn, 1) := by decide +kernel
theorem dX10_couple_74 : decode cX10_couple 74 = .ok (.aload_n 0, 1) := by decide +kernel
theorem dX10_couple_75 : decode cX10_couple 75 = .ok (.getfield 7, 3) := by decide +kernel
theorem dX10_couple_78 : decode cX10_couple 78 = .ok (.bipush 12, 2) := by decide +kernel
theorem dX10_couple_80 : decode cX10_couple 80 = .ok (.iload_n 1, 1) := by decide +kernel
theorem dX10_couple_81 : decode cX10_couple 81 = .ok (.iadd, 1) := by decide +kernel
theorem dX10_couple_82 : decode cX10_couple 82 = .ok (.iaload, 1) := by decide +kernel
theorem dX10_couple_83 : decode cX10_couple 83 = .ok (.ireturn, 1) := by decide +kernel
theorem dX10_couple_84 : decode cX10_couple 84 = .ok (.aload_n 0, 1) := by decide +kernel
theorem dX10_couple_85 : decode cX10_couple 85 = .ok (.iload_n 1, 1) := by decide +kernel
theorem dX10_couple_86 : decode cX10_couple 86 = .ok (.invokevirtual 207, 3) := by decide +kernel
theorem dX10_couple_89 : decode cX10_couple 89 = .ok (.ifCond .eq 7, 3) := by decide +kernel
theorem dX10_couple_96 : decode cX10_couple 96 = .ok (.iconst 0, 1) := by decide +kernel
theorem dX10_couple_97 : decode cX10_couple 97 = .ok (.ireturn, 1) := by decide +kernel
theorem dX10_couple_92 : decode cX10_couple 92 = .ok (.iconst 1, 1) := by decide +kernel
theorem dX10_couple_93 : decode cX10_couple 93 = .ok (.goto 4, 3) := by decide +kernel
theorem dX10_couple_98 : decode cX10_couple 98 = .ok (.ldc 93, 2) := by decide +kernel
theorem dX10_couple_100 : decode cX10_couple 100 = .ok (.ireturn, 1) := by decide +kernel
theorem dX10_couple_8 : decode cX10_couple 8 = .ok (.ldc 199, 2) := by decide +kernel
theorem dX10_couple_10 : decode cX10_couple 10 = .ok (.ireturn, 1) := by decide +kernel
theorem dX10_force_0 : decode cX10_force 0 = .ok (.aload_n 0, 1) := by decide +kernel
theorem dX10_force_1 : decode cX10_force 1 = .ok (.iload_n 1, 1) := by decide +kernel
theorem dX10_force_2 : decode cX10_force 2 = .ok (.invokevirtual 204, 3) := by decide +kernel
theorem dX10_force_5 : decode cX10_force 5 = .ok (.ifCond .eq 24, 3) := by decide +kernel
theorem dX10_force_29 : decode cX10_force 29 = .ok (.ldc 199, 2) := by decide +kernel
theorem dX10_force_31 : decode cX10_force 31 = .ok (.ireturn, 1) := by decide +kernel
theorem dX10_force_8 : decode cX10_force 8 = .ok (.aload_n 0, 1) := by decide +kernel
theorem dX10_force_9 : decode cX10_force 9 = .ok (.iload_n 2, 1) := by decide +kernel
theorem dX10_force_10 : decode cX10_force 10 = .ok (.invokevirtual 210, 3) := by decide +kernel
theorem wd_585 : Cond.methodLink RX10 210 yX10_isTheme ∈ BG := BG_at 1030 (by decide +kernel) rfl
theorem wd_586 : Cond.code yX10_isTheme cX10_isTheme 2 (some .boolean) ∈ BG := BG_at 1033 (by decide +kernel) rfl
theorem wd_587 : Cond.instanceMethod yX10_isTheme ∈ BG := BG_at 1032 (by decide +kernel) rfl
theorem wd_588 : Cond.selects RX10 yX10_isTheme yX10_isTheme ∈ BG := BG_in (by decide +kernel) rfl
theorem okV_X10_isTheme : okV yX10_isTheme cX10_isTheme 2 (some .boolean) 1 := ⟨⟨wd_586, wd_497, by decide +kernel⟩, wd_587, wd_588⟩
theorem dX10_force_13 : decode cX10_force 13 = .ok (.ifCond .eq 16, 3) := by decide +kernel
theorem dX10_force_16 : decode cX10_force 16 = .ok (.aload_n 0, 1) := by decide +kernel
theorem dX10_force_17 : decode cX10_force 17 = .ok (.getfield 27, 3) := by decide +kernel
theorem dX10_force_20 : decode cX10_force 20 = .ok (.iconst 5, 1) := by decide +kernel
theorem dX10_force_21 : decode cX10_force 21 = .ok (.iload_n 1, 1) := by decide +kernel
theorem dX10_force_22 : decode cX10_force 22 = .ok (.imul, 1) := by decide +kernel
theorem dX10_force_23 : decode cX10_force 23 = .ok (.iload_n 2, 1) := by decide +kernel
theorem dX10_force_24 : decode cX10_force 24 = .ok (.iadd, 1) := by decide +kernel
theorem dX10_force_25 : decode cX10_force 25 = .ok (.iaload, 1) := by decide +kernel
theorem dX10_force_26 : decode cX10_force 26 = .ok (.goto 5, 3) := by decide +kernel
theorem dX10_barge_0 : decode cX10_barge 0 = .ok (.aload_n 0, 1) := by decide +kernel
theorem dX10_barge_1 : decode cX10_barge 1 = .ok (.iload_n 1, 1) := by decide +kernel
theorem dX10_barge_2 : decode cX10_barge 2 = .ok (.invokevirtual 213, 3) := by decide +kernel
theorem wd_589 : Cond.methodLink RX10 213 yX10_isBarge ∈ BG := BG_at 1038 (by decide +kernel) rfl
theorem wd_590 : Cond.code yX10_isBarge cX10_isBarge 2 (some .boolean) ∈ BG := BG_at 1041 (by decide +kernel) rfl
theorem wd_591 : Cond.instanceMethod yX10_isBarge ∈ BG := BG_at 1040 (by decide +kernel) rfl
theorem wd_592 : Cond.selects RX10 yX10_isBarge yX10_isBarge ∈ BG := BG_in (by decide +kernel) rfl
theorem okV_X10_isBarge : okV yX10_isBarge cX10_isBarge 2 (some .boolean) 1 := ⟨⟨wd_590, wd_497, by decide +kernel⟩, wd_591, wd_592⟩
theorem dX10_barge_5 : decode cX10_barge 5 = .ok (.ifCond .ne 6, 3) := by decide +kernel
theorem dX10_barge_11 : decode cX10_barge 11 = .ok (.iload_n 2, 1) := by decide +kernel
theorem dX10_barge_12 : decode cX10_barge 12 = .ok (.tableswitch 80 0 4 #[36, 43, 50, 60, 70], 36) := by decide +kernel
theorem dX10_barge_48 : decode cX10_barge 48 = .ok (.aload_n 0, 1) := by decide +kernel
theorem wd_593 : Cond.fieldLink RX10 30 "QuarrelBridgesModel" "far" "[I" ∈ BG := BG_at 794 (by decide +kernel) rfl
theorem dX10_barge_49 : decode cX10_barge 49 = .ok (.getfield 30, 3) := by decide +kernel
theorem dX10_barge_52 : decode cX10_barge 52 = .ok (.iload_n 1, 1) := by decide +kernel
theorem dX10_barge_53 : decode cX10_barge 53 = .ok (.iaload, 1) := by decide +kernel
theorem dX10_barge_54 : decode cX10_barge 54 = .ok (.ireturn, 1) := by decide +kernel
theorem dX10_barge_55 : decode cX10_barge 55 = .ok (.aload_n 0, 1) := by decide +kernel
theorem wd_594 : Cond.fieldLink RX10 33 "QuarrelBridgesModel" "due" "[I" ∈ BG := BG_at 795 (by decide +kernel) rfl
theorem dX10_barge_56 : decode cX10_barge 56 = .ok (.getfield 33, 3) := by decide +kernel
theorem dX10_barge_59 : decode cX10_barge 59 = .ok (.iload_n 1, 1) := by decide +kernel
theorem dX10_barge_60 : decode cX10_barge 60 = .ok (.iaload, 1) := by decide +kernel
theorem dX10_barge_61 : decode cX10_barge 61 = .ok (.ireturn, 1) := by decide +kernel
theorem dX10_barge_62 : decode cX10_barge 62 = .ok (.aload_n 0, 1) := by decide +kernel
theorem dX10_barge_63 : decode cX10_barge 63 = .ok (.getfield 7, 3) := by decide +kernel
theorem dX10_barge_66 : decode cX10_barge 66 = .ok (.bipush 20, 2) := by decide +kernel
theorem dX10_barge_68 : decode cX10_barge 68 = .ok (.iload_n 1, 1) := by decide +kernel
theorem dX10_barge_69 : decode cX10_barge 69 = .ok (.iadd, 1) := by decide +kernel
theorem dX10_barge_70 : decode cX10_barge 70 = .ok (.iaload, 1) := by decide +kernel
theorem dX10_barge_71 : decode cX10_barge 71 = .ok (.ireturn, 1) := by decide +kernel
theorem dX10_barge_72 : decode cX10_barge 72 = .ok (.aload_n 0, 1) := by decide +kernel
theorem dX10_barge_73 : decode cX10_barge 73 = .ok (.getfield 7, 3) := by decide +kernel
theorem dX10_barge_76 : decode cX10_barge 76 = .ok (.bipush 27, 2) := by decide +kernel
theorem dX10_barge_78 : decode cX10_barge 78 = .ok (.iload_n 1, 1) := by decide +kernel
theorem dX10_barge_79 : decode cX10_barge 79 = .ok (.iadd, 1) := by decide +kernel
theorem dX10_barge_80 : decode cX10_barge 80 = .ok (.iaload, 1) := by decide +kernel
theorem dX10_barge_81 : decode cX10_barge 81 = .ok (.ireturn, 1) := by decide +kernel
theorem dX10_barge_82 : decode cX10_barge 82 = .ok (.aload_n 0, 1) := by decide +kernel
theorem dX10_barge_83 : decode cX10_barge 83 = .ok (.getfield 7, 3) := by decide +kernel
theorem dX10_barge_86 : decode cX10_barge 86 = .ok (.bipush 34, 2) := by decide +kernel
theorem dX10_barge_88 : decode cX10_barge 88 = .ok (.iload_n 1, 1) := by decide +kernel
theorem dX10_barge_89 : decode cX10_barge 89 = .ok (.iadd, 1) := by decide +kernel
theorem dX10_barge_90 : decode cX10_barge 90 = .ok (.iaload, 1) := by decide +kernel
theorem dX10_barge_91 : decode cX10_barge 91 = .ok (.ireturn, 1) := by decide +kernel
theorem dX10_barge_92 : decode cX10_barge 92 = .ok (.ldc 93, 2) := by decide +kernel
theorem dX10_barge_94 : decode cX10_barge 94 = .ok (.ireturn, 1) := by decide +kernel
theorem dX10_barge_8 : decode cX10_barge 8 = .ok (.ldc 199, 2) := by decide +kernel
theorem dX10_barge_10 : decode cX10_barge 10 = .ok (.ireturn, 1) := by decide +kernel
noncomputable def f_m_fault (G : Nat → Int32) : Int32 := (G 19)
def S_m_fault (G : Nat → Int32) : Prop := True
def rm_m_fault : Room := { frames := 0, cells := 0, slots := 0, locals := 0 }
set_option maxHeartbeats 4000000 in
set_option maxRecDepth 100000 in
theorem m_fault {l : Launch} {D : va_G} {cI cZ : ClassId} {sz : Nat} (Rf : Nat → Nat) (h : Nat) (G : Nat → Int32) (hF : S_m_fault G) : KI l yX10_fault cX10_fault 1 (some .int) rm_m_fault D cI cZ [.ref h] sz [(h, .inr (10, ML G Rf))] (fun (r : Int32) (_ : Unit) => r = f_m_fault G) (fun (_ : Unit) => [(h, .inr (10, ML G Rf))]) := by
  refine KI.go rfl (Nat.le_of_ble_eq_true rfl) ?_
  intro p e s m args below meth c ls A Q hx hb hml hts hown hin hP hK hD hS hA hN hl hret
  have hl : lv_has ls 1 [(0, .ref h)] := hl
  rw [S_m_fault] at hF
  obtain ⟨RES, hE⟩ : ∃ xRES, f_m_fault G = xRES := ⟨_, rfl⟩
  rw [hE] at hret
  rw [f_m_fault] at hE
  refine lv_aload_n hx hb dX10_fault_0 rfl (lv_at hl 0 rfl) ?_
  refine va_get (D := D) (ci := 10) (v := .int (G 19)) (C := RX10) (T := TX10) (N := 45) hx hb hts iX10 hown hK hP 0 rfl rfl 19 (by decide) (hts _ wd_515) (fun _ h9 => h9) rfl dX10_fault_1 ?_
  exact hret (G 19) () _ _ _ _ dX10_fault_4 rfl hE hP hD hS
noncomputable def f_m_bridge (G : Nat → Int32) (f0 : Nat → Int32) (f8 : Nat → Int32) (b_ : Int32) (w_ : Int32) : Int32 := (if (f_m_isBridge G b_) = 0 then (-1000000001) else (if w_ = 0 then (f8 (b_ : Int32).toNatClampNeg) else (if w_ = 1 then (f_m_whoIsAt G f0 0 b_) else (-1000000002))))
def S_m_bridge (G : Nat → Int32) (f0 : Nat → Int32) (f8 : Nat → Int32) (b_ : Int32) (w_ : Int32) : Prop := ((S_m_isBridge G b_) ∧ (((f_m_isBridge G b_) = 0 → True) ∧ (¬ (f_m_isBridge G b_) = 0 → ((w_ = 0 → (vp_in b_ 6 ∧ True)) ∧ (¬ w_ = 0 → ((w_ = 1 → ((S_m_whoIsAt G f0 0 b_) ∧ True)) ∧ (¬ w_ = 1 → True)))))))
def rm_m_bridge : Room := { frames := 2, cells := 0, slots := 0, locals := 46 }
set_option maxHeartbeats 4000000 in
set_option maxRecDepth 100000 in
theorem m_bridge {l : Launch} {D : va_G} {cI cZ : ClassId} {sz : Nat} (Rf : Nat → Nat) (h : Nat) (G : Nat → Int32) (f0 : Nat → Int32) (f8 : Nat → Int32) (b_ : Int32) (w_ : Int32) (hF : S_m_bridge G f0 f8 b_ w_) : KI l yX10_bridge cX10_bridge 3 (some .int) rm_m_bridge D cI cZ [.ref h, .int b_, .int w_] sz [(h, .inr (10, ML G Rf)), ((Rf 0), .inl (cI, 1302, .inl f0)), ((Rf 8), .inl (cI, 6, .inl f8))] (fun (r : Int32) (_ : Unit) => r = f_m_bridge G f0 f8 b_ w_) (fun (_ : Unit) => [(h, .inr (10, ML G Rf)), ((Rf 0), .inl (cI, 1302, .inl f0)), ((Rf 8), .inl (cI, 6, .inl f8))]) := by
  refine KI.go rfl (Nat.le_of_ble_eq_true rfl) ?_
  intro p e s m args below meth c ls A Q hx hb hml hts hown hin hP hK hD hS hA hN hl hret
  have hl : lv_has ls 3 [(0, .ref h), (1, .int b_), (2, .int w_)] := hl
  rw [S_m_bridge] at hF
  obtain ⟨RES, hE⟩ : ∃ xRES, f_m_bridge G f0 f8 b_ w_ = xRES := ⟨_, rfl⟩
  rw [hE] at hret
  rw [f_m_bridge] at hE
  refine lv_aload_n hx hb dX10_bridge_0 rfl (lv_at hl 0 rfl) ?_
  refine lv_iload_n hx hb dX10_bridge_1 rfl (lv_at hl 1 rfl) ?_
  obtain ⟨hs_1, hF⟩ := hF
  refine cVi (wr := [((Rf 0), .inl (cI, 1302, .inl f0)), ((Rf 8), .inl (cI, 6, .inl f8))]) (rest := []) (m_isBridge Rf h G b_ hs_1) okV_X10_isBridge wd_571 hx hb hml hown hts hK hP hD hS hA hN hl.1 [0] [1, 2] rfl rfl rfl rfl (by decide) rfl rfl rfl (Nat.le_of_ble_eq_true rfl) (Nat.le_of_ble_eq_true rfl) (Nat.le_of_ble_eq_true rfl) (Nat.le_of_ble_eq_true rfl) (Nat.le_of_ble_eq_true rfl) dX10_bridge_2 (fun r_3 u_2 H locs hw_u_2 hP hD hS => ?_)
  replace hw_u_2 : r_3 = (f_m_isBridge G b_) := hw_u_2
  rw [hw_u_2]
  clear hw_u_2
  have hP : va_P D classes [((Rf 0), .inl (cI, 1302, .inl f0)), ((Rf 8), .inl (cI, 6, .inl f8)), (h, .inr (10, ML G Rf))] H := hP
  have hD : va_D A [((Rf 0), .inl (cI, 1302, .inl f0)), ((Rf 8), .inl (cI, 6, .inl f8)), (h, .inr (10, ML G Rf))] := hD
  refine lv_if_ne (tgt := 11) hx hb dX10_bridge_5 (by decide) (fun c_4 => ?_) (fun c_4 => ?_)
  · replace hF := hF.2 c_4
    rw [if_neg c_4] at hE
    refine lv_iload_n hx hb dX10_bridge_11 rfl (lv_at hl 2 rfl) ?_
    refine lv_if_ne (tgt := 24) hx hb dX10_bridge_12 (by decide) (fun c_5 => ?_) (fun c_5 => ?_)
    · replace hF := hF.2 c_5
      rw [if_neg c_5] at hE
      refine lv_iload_n hx hb dX10_bridge_24 rfl (lv_at hl 2 rfl) ?_
      refine lv_iconst (v := 1) hx hb dX10_bridge_25 (by decide) ?_
      refine lv_icmp_ne (tgt := 38) hx hb dX10_bridge_26 (by decide) (fun c_6 => ?_) (fun c_6 => ?_)
      · replace hF := hF.2 c_6
        rw [if_neg c_6] at hE
        refine lv_ldc (v := (-1000000002)) hx hb hown (hts _ wd_507) dX10_bridge_38 ?_
        exact hret (-1000000002) () _ _ _ _ dX10_bridge_40 rfl hE (cutP (isC := [2, 0, 1]) hP rfl) (cutD (isC := [2, 0, 1]) hD rfl rfl) hS
      · replace hF := hF.1 c_6
        rw [if_pos c_6] at hE
        refine lv_aload_n hx hb dX10_bridge_29 rfl (lv_at hl 0 rfl) ?_
        refine lv_iconst (v := 0) hx hb dX10_bridge_30 (by decide) ?_
        refine lv_iload_n hx hb dX10_bridge_31 rfl (lv_at hl 1 rfl) ?_
        obtain ⟨hs_7, hF⟩ := hF
        refine cVi (wr := [((Rf 8), .inl (cI, 6, .inl f8))]) (rest := []) (m_whoIsAt Rf h G f0 0 b_ hs_7) okV_X10_whoIsAt wd_575 hx hb hml hown hts hK hP hD hS hA hN hl.1 [2, 0] [1] rfl rfl rfl rfl (by decide) rfl rfl rfl (Nat.le_of_ble_eq_true rfl) (Nat.le_of_ble_eq_true rfl) (Nat.le_of_ble_eq_true rfl) (Nat.le_of_ble_eq_true rfl) (Nat.le_of_ble_eq_true rfl) dX10_bridge_32 (fun r_9 u_8 H locs hw_u_8 hP hD hS => ?_)
        replace hw_u_8 : r_9 = (f_m_whoIsAt G f0 0 b_) := hw_u_8
        rw [hw_u_8]
        clear hw_u_8
        have hP : va_P D classes [((Rf 8), .inl (cI, 6, .inl f8)), (h, .inr (10, ML G Rf)), ((Rf 0), .inl (cI, 1302, .inl f0))] H := hP
        have hD : va_D A [((Rf 8), .inl (cI, 6, .inl f8)), (h, .inr (10, ML G Rf)), ((Rf 0), .inl (cI, 1302, .inl f0))] := hD
        refine lv_goto (tgt := 40) hx hb dX10_bridge_35 (by decide) ?_
        exact hret (f_m_whoIsAt G f0 0 b_) () _ _ _ _ dX10_bridge_40 rfl hE (cutP (isC := [1, 2, 0]) hP rfl) (cutD (isC := [1, 2, 0]) hD rfl rfl) hS
    · replace hF := hF.1 c_5
      rw [if_pos c_5] at hE
      refine lv_aload_n hx hb dX10_bridge_15 rfl (lv_at hl 0 rfl) ?_
      refine va_get (D := D) (ci := 10) (v := .ref (Rf 8)) (C := RX10) (T := TX10) (N := 45) hx hb hts iX10 hown hK hP 2 rfl rfl 8 (by decide) (hts _ wd_579) (fun _ h9 => h9) rfl dX10_bridge_16 ?_
      refine lv_iload_n hx hb dX10_bridge_19 rfl (lv_at hl 1 rfl) ?_
      obtain ⟨hv_10, hF⟩ := hF
      refine va_iald hx hb hK hP 1 0 rfl rfl hv_10 dX10_bridge_20 ?_
      refine lv_goto (tgt := 40) hx hb dX10_bridge_21 (by decide) ?_
      exact hret (f8 (b_ : Int32).toNatClampNeg) () _ _ _ _ dX10_bridge_40 rfl hE (cutP (isC := [2, 0, 1]) hP rfl) (cutD (isC := [2, 0, 1]) hD rfl rfl) hS
  · replace hF := hF.1 c_4
    rw [if_pos c_4] at hE
    refine lv_ldc (v := (-1000000001)) hx hb hown (hts _ wd_580) dX10_bridge_8 ?_
    exact hret (-1000000001) () _ _ _ _ dX10_bridge_10 rfl hE (cutP (isC := [2, 0, 1]) hP rfl) (cutD (isC := [2, 0, 1]) hD rfl rfl) hS
noncomputable def f_m_couple (G : Nat → Int32) (f0 : Nat → Int32) (f9 : Nat → Int32) (c_ : Int32) (w_ : Int32) : Int32 := (if (f_m_isCouple G c_) = 0 then (-1000000001) else (if w_ = 0 then (f0 ((0 + c_) : Int32).toNatClampNeg) else (if w_ = 1 then (f9 (c_ : Int32).toNatClampNeg) else (if w_ = 2 then (f0 ((6 + c_) : Int32).toNatClampNeg) else (if w_ = 3 then (f0 ((12 + c_) : Int32).toNatClampNeg) else (if w_ = 4 then (if (f_m_isDone f0 c_) = 0 then 0 else 1) else (-1000000002)))))))
def S_m_couple (G : Nat → Int32) (f0 : Nat → Int32) (f9 : Nat → Int32) (c_ : Int32) (w_ : Int32) : Prop := ((S_m_isCouple G c_) ∧ (((f_m_isCouple G c_) = 0 → True) ∧ (¬ (f_m_isCouple G c_) = 0 → ((w_ = 0 → (vp_in (0 + c_) 1302 ∧ True)) ∧ (¬ w_ = 0 → ((w_ = 1 → (vp_in c_ 6 ∧ True)) ∧ (¬ w_ = 1 → ((w_ = 2 → (vp_in (6 + c_) 1302 ∧ True)) ∧ (¬ w_ = 2 → ((w_ = 3 → (vp_in (12 + c_) 1302 ∧ True)) ∧ (¬ w_ = 3 → ((w_ = 4 → ((S_m_isDone f0 c_) ∧ (((f_m_isDone f0 c_) = 0 → True) ∧ (¬ (f_m_isDone f0 c_) = 0 → True)))) ∧ (¬ w_ = 4 → True)))))))))))))
def rm_m_couple : Room := { frames := 2, cells := 0, slots := 0, locals := 46 }
set_option maxHeartbeats 4000000 in
set_option maxRecDepth 100000 in
theorem m_couple {l : Launch} {D : va_G} {cI cZ : ClassId} {sz : Nat} (Rf : Nat → Nat) (h : Nat) (G : Nat → Int32) (f0 : Nat → Int32) (f9 : Nat → Int32) (c_ : Int32) (w_ : Int32) (hF : S_m_couple G f0 f9 c_ w_) : KI l yX10_couple cX10_couple 3 (some .int) rm_m_couple D cI cZ [.ref h, .int c_, .int w_] sz [(h, .inr (10, ML G Rf)), ((Rf 0), .inl (cI, 1302, .inl f0)), ((Rf 9), .inl (cI, 6, .inl f9))] (fun (r : Int32) (_ : Unit) => r = f_m_couple G f0 f9 c_ w_) (fun (_ : Unit) => [(h, .inr (10, ML G Rf)), ((Rf 0), .inl (cI, 1302, .inl f0)), ((Rf 9), .inl (cI, 6, .inl f9))]) := by
  refine KI.go rfl (Nat.le_of_ble_eq_true rfl) ?_
  intro p e s m args below meth c ls A Q hx hb hml hts hown hin hP hK hD hS hA hN hl hret
  have hl : lv_has ls 3 [(0, .ref h), (1, .int c_), (2, .int w_)] := hl
  rw [S_m_couple] at hF
  obtain ⟨RES, hE⟩ : ∃ xRES, f_m_couple G f0 f9 c_ w_ = xRES := ⟨_, rfl⟩
  rw [hE] at hret
  rw [f_m_couple] at hE
  refine lv_aload_n hx hb dX10_couple_0 rfl (lv_at hl 0 rfl) ?_
  refine lv_iload_n hx hb dX10_couple_1 rfl (lv_at hl 1 rfl) ?_
  obtain ⟨hs_1, hF⟩ := hF
  refine cVi (wr := [((Rf 0), .inl (cI, 1302, .inl f0)), ((Rf 9), .inl (cI, 6, .inl f9))]) (rest := []) (m_isCouple Rf h G c_ hs_1) okV_X10_isCouple wd_581 hx hb hml hown hts hK hP hD hS hA hN hl.1 [0] [1, 2] rfl rfl rfl rfl (by decide) rfl rfl rfl (Nat.le_of_ble_eq_true rfl) (Nat.le_of_ble_eq_true rfl) (Nat.le_of_ble_eq_true rfl) (Nat.le_of_ble_eq_true rfl) (Nat.le_of_ble_eq_true rfl) dX10_couple_2 (fun r_3 u_2 H locs hw_u_2 hP hD hS => ?_)
  replace hw_u_2 : r_3 = (f_m_isCouple G c_) := hw_u_2
  rw [hw_u_2]
  clear hw_u_2
  have hP : va_P D classes [((Rf 0), .inl (cI, 1302, .inl f0)), ((Rf 9), .inl (cI, 6, .inl f9)), (h, .inr (10, ML G Rf))] H := hP
  have hD : va_D A [((Rf 0), .inl (cI, 1302, .inl f0)), ((Rf 9), .inl (cI, 6, .inl f9)), (h, .inr (10, ML G Rf))] := hD
  refine lv_if_ne (tgt := 11) hx hb dX10_couple_5 (by decide) (fun c_4 => ?_) (fun c_4 => ?_)
  · replace hF := hF.2 c_4
    rw [if_neg c_4] at hE
    refine lv_iload_n hx hb dX10_couple_11 rfl (lv_at hl 2 rfl) ?_
    by_cases c_5 : w_ = 0
    · replace hF := hF.1 c_5
      rw [if_pos c_5] at hE
      subst c_5
      refine lv_tableIn (off := 36) (tgt := 48) hx hb dX10_couple_12 (by decide +kernel) (by decide +kernel) (by decide +kernel) (by decide) ?_
      refine lv_aload_n hx hb dX10_couple_48 rfl (lv_at hl 0 rfl) ?_
      refine va_get (D := D) (ci := 10) (v := .ref (Rf 0)) (C := RX10) (T := TX10) (N := 45) hx hb hts iX10 hown hK hP 2 rfl rfl 0 (by decide) (hts _ wd_491) (fun _ h9 => h9) rfl dX10_couple_49 ?_
      refine lv_iconst (v := 0) hx hb dX10_couple_52 (by decide) ?_
      refine lv_iload_n hx hb dX10_couple_53 rfl (lv_at hl 1 rfl) ?_
      refine lv_iadd hx hb dX10_couple_54 ?_
      obtain ⟨hv_6, hF⟩ := hF
      refine va_iald hx hb hK hP 0 0 rfl rfl hv_6 dX10_couple_55 ?_
      exact hret (f0 ((0 + c_) : Int32).toNatClampNeg) () _ _ _ _ dX10_couple_56 rfl hE (cutP (isC := [2, 0, 1]) hP rfl) (cutD (isC := [2, 0, 1]) hD rfl rfl) hS
    · skip
      replace hF := hF.2 c_5
      rw [if_neg c_5] at hE
      by_cases c_7 : w_ = 1
      · replace hF := hF.1 c_7
        rw [if_pos c_7] at hE
        subst c_7
        refine lv_tableIn (off := 45) (tgt := 57) hx hb dX10_couple_12 (by decide +kernel) (by decide +kernel) (by decide +kernel) (by decide) ?_
        refine lv_aload_n hx hb dX10_couple_57 rfl (lv_at hl 0 rfl) ?_
        refine va_get (D := D) (ci := 10) (v := .ref (Rf 9)) (C := RX10) (T := TX10) (N := 45) hx hb hts iX10 hown hK hP 2 rfl rfl 9 (by decide) (hts _ wd_561) (fun _ h9 => h9) rfl dX10_couple_58 ?_
        refine lv_iload_n hx hb dX10_couple_61 rfl (lv_at hl 1 rfl) ?_
        obtain ⟨hv_8, hF⟩ := hF
        refine va_iald hx hb hK hP 1 0 rfl rfl hv_8 dX10_couple_62 ?_
        exact hret (f9 (c_ : Int32).toNatClampNeg) () _ _ _ _ dX10_couple_63 rfl hE (cutP (isC := [2, 0, 1]) hP rfl) (cutD (isC := [2, 0, 1]) hD rfl rfl) hS
      · skip
        replace hF := hF.2 c_7
        rw [if_neg c_7] at hE
        by_cases c_9 : w_ = 2
        · replace hF := hF.1 c_9
          rw [if_pos c_9] at hE
          subst c_9
          refine lv_tableIn (off := 52) (tgt := 64) hx hb dX10_couple_12 (by decide +kernel) (by decide +kernel) (by decide +kernel) (by decide) ?_
          refine lv_aload_n hx hb dX10_couple_64 rfl (lv_at hl 0 rfl) ?_
          refine va_get (D := D) (ci := 10) (v := .ref (Rf 0)) (C := RX10) (T := TX10) (N := 45) hx hb hts iX10 hown hK hP 2 rfl rfl 0 (by decide) (hts _ wd_491) (fun _ h9 => h9) rfl dX10_couple_65 ?_
          refine lv_bipush (v := 6) hx hb dX10_couple_68 (by decide) ?_
          refine lv_iload_n hx hb dX10_couple_70 rfl (lv_at hl 1 rfl) ?_
          refine lv_iadd hx hb dX10_couple_71 ?_
          obtain ⟨hv_10, hF⟩ := hF
          refine va_iald hx hb hK hP 0 0 rfl rfl hv_10 dX10_couple_72 ?_
          exact hret (f0 ((6 + c_) : Int32).toNatClampNeg) () _ _ _ _ dX10_couple_73 rfl hE (cutP (isC := [2, 0, 1]) hP rfl) (cutD (isC := [2, 0, 1]) hD rfl rfl) hS
        · skip
          replace hF := hF.2 c_9
          rw [if_neg c_9] at hE
          by_cases c_11 : w_ = 3
          · replace hF := hF.1 c_11
            rw [if_pos c_11] at hE
            subst c_11
            refine lv_tableIn (off := 62) (tgt := 74) hx hb dX10_couple_12 (by decide +kernel) (by decide +kernel) (by decide +kernel) (by decide) ?_
            refine lv_aload_n hx hb dX10_couple_74 rfl (lv_at hl 0 rfl) ?_
            refine va_get (D := D) (ci := 10) (v := .ref (Rf 0)) (C := RX10) (T := TX10) (N := 45) hx hb hts iX10 hown hK hP 2 rfl rfl 0 (by decide) (hts _ wd_491) (fun _ h9 => h9) rfl dX10_couple_75 ?_
            refine lv_bipush (v := 12) hx hb dX10_couple_78 (by decide) ?_
            refine lv_iload_n hx hb dX10_couple_80 rfl (lv_at hl 1 rfl) ?_
            refine lv_iadd hx hb dX10_couple_81 ?_
            obtain ⟨hv_12, hF⟩ := hF
            refine va_iald hx hb hK hP 0 0 rfl rfl hv_12 dX10_couple_82 ?_
            exact hret (f0 ((12 + c_) : Int32).toNatClampNeg) () _ _ _ _ dX10_couple_83 rfl hE (cutP (isC := [2, 0, 1]) hP rfl) (cutD (isC := [2, 0, 1]) hD rfl rfl) hS
          · skip
            replace hF := hF.2 c_11
            rw [if_neg c_11] at hE
            by_cases c_13 : w_ = 4
            · replace hF := hF.1 c_13
              rw [if_pos c_13] at hE
              subst c_13
              refine lv_tableIn (off := 72) (tgt := 84) hx hb dX10_couple_12 (by decide +kernel) (by decide +kernel) (by decide +kernel) (by decide) ?_
              refine lv_aload_n hx hb dX10_couple_84 rfl (lv_at hl 0 rfl) ?_
              refine lv_iload_n hx hb dX10_couple_85 rfl (lv_at hl 1 rfl) ?_
              obtain ⟨hs_14, hF⟩ := hF
              refine cVi (wr := [((Rf 9), .inl (cI, 6, .inl f9))]) (rest := []) (m_isDone Rf h G f0 c_ hs_14) okV_X10_isDone wd_567 hx hb hml hown hts hK hP hD hS hA hN hl.1 [2, 0] [1] rfl rfl rfl rfl (by decide) rfl rfl rfl (Nat.le_of_ble_eq_true rfl) (Nat.le_of_ble_eq_true rfl) (Nat.le_of_ble_eq_true rfl) (Nat.le_of_ble_eq_true rfl) (Nat.le_of_ble_eq_true rfl) dX10_couple_86 (fun r_16 u_15 H locs hw_u_15 hP hD hS => ?_)
              replace hw_u_15 : r_16 = (f_m_isDone f0 c_) := hw_u_15
              rw [hw_u_15]
              clear hw_u_15
              have hP : va_P D classes [((Rf 9), .inl (cI, 6, .inl f9)), (h, .inr (10, ML G Rf)), ((Rf 0), .inl (cI, 1302, .inl f0))] H := hP
              have hD : va_D A [((Rf 9), .inl (cI, 6, .inl f9)), (h, .inr (10, ML G Rf)), ((Rf 0), .inl (cI, 1302, .inl f0))] := hD
              refine lv_if_eq (tgt := 96) hx hb dX10_couple_89 (by decide) (fun c_17 => ?_) (fun c_17 => ?_)
              · replace hF := hF.1 c_17
                rw [if_pos c_17] at hE
                refine lv_iconst (v := 0) hx hb dX10_couple_96 (by decide) ?_
                exact hret 0 () _ _ _ _ dX10_couple_97 rfl hE (cutP (isC := [1, 2, 0]) hP rfl) (cutD (isC := [1, 2, 0]) hD rfl rfl) hS
              · replace hF := hF.2 c_17
                rw [if_neg c_17] at hE
                refine lv_iconst (v := 1) hx hb dX10_couple_92 (by decide) ?_
                refine lv_goto (tgt := 97) hx hb dX10_couple_93 (by decide) ?_
                exact hret 1 () _ _ _ _ dX10_couple_97 rfl hE (cutP (isC := [1, 2, 0]) hP rfl) (cutD (isC := [1, 2, 0]) hD rfl rfl) hS
            · skip
              replace hF := hF.2 c_13
              rw [if_neg c_13] at hE
              refine lv_tableOut (tgt := 98) hx hb dX10_couple_12 (by have q := lv_neT (a := 0) c_5 rfl; have q0 := lv_neT (a := 0) c_5 rfl; have q1 := lv_neT (a := 1) c_7 rfl; have q2 := lv_neT (a := 2) c_9 rfl; have q3 := lv_neT (a := 3) c_11 rfl; have q4 := lv_neT (a := 4) c_13 rfl; omega) (by decide) ?_
              refine lv_ldc (v := (-1000000002)) hx hb hown (hts _ wd_507) dX10_couple_98 ?_
              exact hret (-1000000002) () _ _ _ _ dX10_couple_100 rfl hE (cutP (isC := [2, 0, 1]) hP rfl) (cutD (isC := [2, 0, 1]) hD rfl rfl) hS
  · replace hF := hF.1 c_4
    rw [if_pos c_4] at hE
    refine lv_ldc (v := (-1000000001)) hx hb hown (hts _ wd_580) dX10_couple_8 ?_
    exact hret (-1000000001) () _ _ _ _ dX10_couple_10 rfl hE (cutP (isC := [2, 0, 1]) hP rfl) (cutD (isC := [2, 0, 1]) hD rfl rfl) hS
noncomputable def f_m_force (G : Nat → Int32) (f10 : Nat → Int32) (c_ : Int32) (t_ : Int32) : Int32 := (if (f_m_isCouple G c_) = 0 then (-1000000001) else (if (f_m_isTheme G t_) = 0 then (-1000000001) else (f10 (((5 * c_) + t_) : Int32).toNatClampNeg)))
def S_m_force (G : Nat → Int32) (f10 : Nat → Int32) (c_ : Int32) (t_ : Int32) : Prop := ((S_m_isCouple G c_) ∧ (((f_m_isCouple G c_) = 0 → True) ∧ (¬ (f_m_isCouple G c_) = 0 → ((S_m_isTheme G t_) ∧ (((f_m_isTheme G t_) = 0 → True) ∧ (¬ (f_m_isTheme G t_) = 0 → (vp_in ((5 * c_) + t_) 30 ∧ True)))))))
def rm_m_force : Room := { frames := 2, cells := 0, slots := 0, locals := 46 }
set_option maxHeartbeats 4000000 in
set_option maxRecDepth 100000 in
theorem m_force {l : Launch} {D : va_G} {cI cZ : ClassId} {sz : Nat} (Rf : Nat → Nat) (h : Nat) (G : Nat → Int32) (f10 : Nat → Int32) (c_ : Int32) (t_ : Int32) (hF : S_m_force G f10 c_ t_) : KI l yX10_force cX10_force 3 (some .int) rm_m_force D cI cZ [.ref h, .int c_, .int t_] sz [(h, .inr (10, ML G Rf)), ((Rf 10), .inl (cI, 30, .inl f10))] (fun (r : Int32) (_ : Unit) => r = f_m_force G f10 c_ t_) (fun (_ : Unit) => [(h, .inr (10, ML G Rf)), ((Rf 10), .inl (cI, 30, .inl f10))]) := by
  refine KI.go rfl (Nat.le_of_ble_eq_true rfl) ?_
  intro p e s m args below meth c ls A Q hx hb hml hts hown hin hP hK hD hS hA hN hl hret
  have hl : lv_has ls 3 [(0, .ref h), (1, .int c_), (2, .int t_)] := hl
  rw [S_m_force] at hF
  obtain ⟨RES, hE⟩ : ∃ xRES, f_m_force G f10 c_ t_ = xRES := ⟨_, rfl⟩
  rw [hE] at hret
  rw [f_m_force] at hE
  refine lv_aload_n hx hb dX10_force_0 rfl (lv_at hl 0 rfl) ?_
  refine lv_iload_n hx hb dX10_force_1 rfl (lv_at hl 1 rfl) ?_
  obtain ⟨hs_1, hF⟩ := hF
  refine cVi (wr := [((Rf 10), .inl (cI, 30, .inl f10))]) (rest := []) (m_isCouple Rf h G c_ hs_1) okV_X10_isCouple wd_581 hx hb hml hown hts hK hP hD hS hA hN hl.1 [0] [1] rfl rfl rfl rfl (by decide) rfl rfl rfl (Nat.le_of_ble_eq_true rfl) (Nat.le_of_ble_eq_true rfl) (Nat.le_of_ble_eq_true rfl) (Nat.le_of_ble_eq_true rfl) (Nat.le_of_ble_eq_true rfl) dX10_force_2 (fun r_3 u_2 H locs hw_u_2 hP hD hS => ?_)
  replace hw_u_2 : r_3 = (f_m_isCouple G c_) := hw_u_2
  rw [hw_u_2]
  clear hw_u_2
  have hP : va_P D classes [((Rf 10), .inl (cI, 30, .inl f10)), (h, .inr (10, ML G Rf))] H := hP
  have hD : va_D A [((Rf 10), .inl (cI, 30, .inl f10)), (h, .inr (10, ML G Rf))] := hD
  refine lv_if_eq (tgt := 29) hx hb dX10_force_5 (by decide) (fun c_4 => ?_) (fun c_4 => ?_)
  · replace hF := hF.1 c_4
    rw [if_pos c_4] at hE
    refine lv_ldc (v := (-1000000001)) hx hb hown (hts _ wd_580) dX10_force_29 ?_
    exact hret (-1000000001) () _ _ _ _ dX10_force_31 rfl hE (cutP (isC := [1, 0]) hP rfl) (cutD (isC := [1, 0]) hD rfl rfl) hS
  · replace hF := hF.2 c_4
    rw [if_neg c_4] at hE
    refine lv_aload_n hx hb dX10_force_8 rfl (lv_at hl 0 rfl) ?_
    refine lv_iload_n hx hb dX10_force_9 rfl (lv_at hl 2 rfl) ?_
    obtain ⟨hs_5, hF⟩ := hF
    refine cVi (wr := [((Rf 10), .inl (cI, 30, .inl f10))]) (rest := []) (m_isTheme Rf h G t_ hs_5) okV_X10_isTheme wd_585 hx hb hml hown hts hK hP hD hS hA hN hl.1 [1] [0] rfl rfl rfl rfl (by decide) rfl rfl rfl (Nat.le_of_ble_eq_true rfl) (Nat.le_of_ble_eq_true rfl) (Nat.le_of_ble_eq_true rfl) (Nat.le_of_ble_eq_true rfl) (Nat.le_of_ble_eq_true rfl) dX10_force_10 (fun r_7 u_6 H locs hw_u_6 hP hD hS => ?_)
    replace hw_u_6 : r_7 = (f_m_isTheme G t_) := hw_u_6
    rw [hw_u_6]
    clear hw_u_6
    have hP : va_P D classes [((Rf 10), .inl (cI, 30, .inl f10)), (h, .inr (10, ML G Rf))] H := hP
    have hD : va_D A [((Rf 10), .inl (cI, 30, .inl f10)), (h, .inr (10, ML G Rf))] := hD
    refine lv_if_eq (tgt := 29) hx hb dX10_force_13 (by decide) (fun c_8 => ?_) (fun c_8 => ?_)
    · replace hF := hF.1 c_8
      rw [if_pos c_8] at hE
      refine lv_ldc (v := (-1000000001)) hx hb hown (hts _ wd_580) dX10_force_29 ?_
      exact hret (-1000000001) () _ _ _ _ dX10_force_31 rfl hE (cutP (isC := [1, 0]) hP rfl) (cutD (isC := [1, 0]) hD rfl rfl) hS
    · replace hF := hF.2 c_8
      rw [if_neg c_8] at hE
      refine lv_aload_n hx hb dX10_force_16 rfl (lv_at hl 0 rfl) ?_
      refine va_get (D := D) (ci := 10) (v := .ref (Rf 10)) (C := RX10) (T := TX10) (N := 45) hx hb hts iX10 hown hK hP 1 rfl rfl 10 (by decide) (hts _ wd_547) (fun _ h9 => h9) rfl dX10_force_17 ?_
      refine lv_iconst (v := 5) hx hb dX10_force_20 (by decide) ?_
      refine lv_iload_n hx hb dX10_force_21 rfl (lv_at hl 1 rfl) ?_
      refine lv_imul hx hb dX10_force_22 ?_
      refine lv_iload_n hx hb dX10_force_23 rfl (lv_at hl 2 rfl) ?_
      refine lv_iadd hx hb dX10_force_24 ?_
      obtain ⟨hv_9, hF⟩ := hF
      refine va_iald hx hb hK hP 0 0 rfl rfl hv_9 dX10_force_25 ?_
      refine lv_goto (tgt := 31) hx hb dX10_force_26 (by decide) ?_
      exact hret (f10 (((5 * c_) + t_) : Int32).toNatClampNeg) () _ _ _ _ dX10_force_31 rfl hE (cutP (isC := [1, 0]) hP rfl) (cutD (isC := [1, 0]) hD rfl rfl) hS
noncomputable def f_m_barge (G : Nat → Int32) (f0 : Nat → Int32) (f11 : Nat → Int32) (f12 : Nat → Int32) (v_ : Int32) (w_ : Int32) : Int32 := (if (f_m_isBarge G v_) = 0 then (-1000000001) else (if w_ = 0 then (f11 (v_ : Int32).toNatClampNeg) else (if w_ = 1 then (f12 (v_ : Int32).toNatClampNeg) else (if w_ = 2 then (f0 ((20 + v_) : Int32).toNatClampNeg) else (if w_ = 3 then (f0 ((27 + v_) : Int32).toNatClampNeg) else (if w_ = 4 then (f0 ((34 + v_) : Int32).toNatClampNeg) else (-1000000002)))))))
def S_m_barge (G : Nat → Int32) (f0 : Nat → Int32) (f11 : Nat → Int32) (f12 : Nat → Int32) (v_ : Int32) (w_ : Int32) : Prop := ((S_m_isBarge G v_) ∧ (((f_m_isBarge G v_) = 0 → True) ∧ (¬ (f_m_isBarge G v_) = 0 → ((w_ = 0 → (vp_in v_ 7 ∧ True)) ∧ (¬ w_ = 0 → ((w_ = 1 → (vp_in v_ 7 ∧ True)) ∧ (¬ w_ = 1 → ((w_ = 2 → (vp_in (20 + v_) 1302 ∧ True)) ∧ (¬ w_ = 2 → ((w_ = 3 → (vp_in (27 + v_) 1302 ∧ True)) ∧ (¬ w_ = 3 → ((w_ = 4 → (vp_in (34 + v_) 1302 ∧ True)) ∧ (¬ w_ = 4 → True)))))))))))))
def rm_m_barge : Room := { frames := 2, cells := 0, slots := 0, locals := 46 }
set_option maxHeartbeats 4000000 in
set_option maxRecDepth 100000 in
theorem m_barge {l : Launch} {D : va_G} {cI cZ : ClassId} {sz : Nat} (Rf : Nat → Nat) (h : Nat) (G : Nat → Int32) (f0 : Nat → Int32) (f11 : Nat → Int32) (f12 : Nat → Int32) (v_ : Int32) (w_ : Int32) (hF : S_m_barge G f0 f11 f12 v_ w_) : KI l yX10_barge cX10_barge 3 (some .int) rm_m_barge D cI cZ [.ref h, .int v_, .int w_] sz [(h, .inr (10, ML G Rf)), ((Rf 0), .inl (cI, 1302, .inl f0)), ((Rf 11), .inl (cI, 7, .inl f11)), ((Rf 12), .inl (cI, 7, .inl f12))] (fun (r : Int32) (_ : Unit) => r = f_m_barge G f0 f11 f12 v_ w_) (fun (_ : Unit) => [(h, .inr (10, ML G Rf)), ((Rf 0), .inl (cI, 1302, .inl f0)), ((Rf 11), .inl (cI, 7, .inl f11)), ((Rf 12), .inl (cI, 7, .inl f12))]) := by
  refine KI.go rfl (Nat.le_of_ble_eq_true rfl) ?_
  intro p e s m args below meth c ls A Q hx hb hml hts hown hin hP hK hD hS hA hN hl hret
  have hl : lv_has ls 3 [(0, .ref h), (1, .int v_), (2, .int w_)] := hl
  rw [S_m_barge] at hF
  obtain ⟨RES, hE⟩ : ∃ xRES, f_m_barge G f0 f11 f12 v_ w_ = xRES := ⟨_, rfl⟩
  rw [hE] at hret
  rw [f_m_barge] at hE
  refine lv_aload_n hx hb dX10_barge_0 rfl (lv_at hl 0 rfl) ?_
  refine lv_iload_n hx hb dX10_barge_1 rfl (lv_at hl 1 rfl) ?_
  obtain ⟨hs_1, hF⟩ := hF
  refine cVi (wr := [((Rf 0), .inl (cI, 1302, .inl f0)), ((Rf 11), .inl (cI, 7, .inl f11)), ((Rf 12), .inl (cI, 7, .inl f12))]) (rest := []) (m_isBarge Rf h G v_ hs_1) okV_X10_isBarge wd_589 hx hb hml hown hts hK hP hD hS hA hN hl.1 [0] [1, 2, 3] rfl rfl rfl rfl (by decide) rfl rfl rfl (Nat.le_of_ble_eq_true rfl) (Nat.le_of_ble_eq_true rfl) (Nat.le_of_ble_eq_true rfl) (Nat.le_of_ble_eq_true rfl) (Nat.le_of_ble_eq_true rfl) dX10_barge_2 (fun r_3 u_2 H locs hw_u_2 hP hD hS => ?_)
  replace hw_u_2 : r_3 = (f_m_isBarge G v_) := hw_u_2
  rw [hw_u_2]
  clear hw_u_2
  have hP : va_P D classes [((Rf 0), .inl (cI, 1302, .inl f0)), ((Rf 11), .inl (cI, 7, .inl f11)), ((Rf 12), .inl (cI, 7, .inl f12)), (h, .inr (10, ML G Rf))] H := hP
  have hD : va_D A [((Rf 0), .inl (cI, 1302, .inl f0)), ((Rf 11), .inl (cI, 7, .inl f11)), ((Rf 12), .inl (cI, 7, .inl f12)), (h, .inr (10, ML G Rf))] := hD
  refine lv_if_ne (tgt := 11) hx hb dX10_barge_5 (by decide) (fun c_4 => ?_) (fun c_4 => ?_)
  · replace hF := hF.2 c_4
    rw [if_neg c_4] at hE
    refine lv_iload_n hx hb dX10_barge_11 rfl (lv_at hl 2 rfl) ?_
    by_cases c_5 : w_ = 0
    · replace hF := hF.1 c_5
      rw [if_pos c_5] at hE
      subst c_5
      refine lv_tableIn (off := 36) (tgt := 48) hx hb dX10_barge_12 (by decide +kernel) (by decide +kernel) (by decide +kernel) (by decide) ?_
      refine lv_aload_n hx hb dX10_barge_48 rfl (lv_at hl 0 rfl) ?_
      refine va_get (D := D) (ci := 10) (v := .ref (Rf 11)) (C := RX10) (T := TX10) (N := 45) hx hb hts iX10 hown hK hP 3 rfl rfl 11 (by decide) (hts _ wd_593) (fun _ h9 => h9) rfl dX10_barge_49 ?_
      refine lv_iload_n hx hb dX10_barge_52 rfl (lv_at hl 1 rfl) ?_
      obtain ⟨hv_6, hF⟩ := hF
      refine va_iald hx hb hK hP 1 0 rfl rfl hv_6 dX10_barge_53 ?_
      exact hret (f11 (v_ : Int32).toNatClampNeg) () _ _ _ _ dX10_barge_54 rfl hE (cutP (isC := [3, 0, 1, 2]) hP rfl) (cutD (isC := [3, 0, 1, 2]) hD rfl rfl) hS
    · skip
      replace hF := hF.2 c_5
      rw [if_neg c_5] at hE
      by_cases c_7 : w_ = 1
      · replace hF := hF.1 c_7
        rw [if_pos c_7] at hE
        subst c_7
        refine lv_tableIn (off := 43) (tgt := 55) hx hb dX10_barge_12 (by decide +kernel) (by decide +kernel) (by decide +kernel) (by decide) ?_
        refine lv_aload_n hx hb dX10_barge_55 rfl (lv_at hl 0 rfl) ?_
        refine va_get (D := D) (ci := 10) (v := .ref (Rf 12)) (C := RX10) (T := TX10) (N := 45) hx hb hts iX10 hown hK hP 3 rfl rfl 12 (by decide) (hts _ wd_594) (fun _ h9 => h9) rfl dX10_barge_56 ?_
        refine lv_iload_n hx hb dX10_barge_59 rfl (lv_at hl 1 rfl) ?_
        obtain ⟨hv_8, hF⟩ := hF
        refine va_iald hx hb hK hP 2 0 rfl rfl hv_8 dX10_barge_60 ?_
        exact hret (f12 (v_ : Int32).toNatClampNeg) () _ _ _ _ dX10_barge_61 rfl hE (cutP (isC := [3, 0, 1, 2]) hP rfl) (cutD (isC := [3, 0, 1, 2]) hD rfl rfl) hS
      · skip
        replace hF := hF.2 c_7
        rw [if_neg c_7] at hE
        by_cases c_9 : w_ = 2
        · replace hF := hF.1 c_9
          rw [if_pos c_9] at hE
          subst c_9
          refine lv_tableIn (off := 50) (tgt := 62) hx hb dX10_barge_12 (by decide +kernel) (by decide +kernel) (by decide +kernel) (by decide) ?_
          refine lv_aload_n hx hb dX10_barge_62 rfl (lv_at hl 0 rfl) ?_
          refine va_get (D := D) (ci := 10) (v := .ref (Rf 0)) (C := RX10) (T := TX10) (N := 45) hx hb hts iX10 hown hK hP 3 rfl rfl 0 (by decide) (hts _ wd_491) (fun _ h9 => h9) rfl dX10_barge_63 ?_
          refine lv_bipush (v := 20) hx hb dX10_barge_66 (by decide) ?_
          refine lv_iload_n hx hb dX10_barge_68 rfl (lv_at hl 1 rfl) ?_
          refine lv_iadd hx hb dX10_barge_69 ?_
          obtain ⟨hv_10, hF⟩ := hF
          refine va_iald hx hb hK hP 0 0 rfl rfl hv_10 dX10_barge_70 ?_
          exact hret (f0 ((20 + v_) : Int32).toNatClampNeg) () _ _ _ _ dX10_barge_71 rfl hE (cutP (isC := [3, 0, 1, 2]) hP rfl) (cutD (isC := [3, 0, 1, 2]) hD rfl rfl) hS
        · skip
          replace hF := hF.2 c_9
          rw [if_neg c_9] at hE
          by_cases c_11 : w_ = 3
          · replace hF := hF.1 c_11
            rw [if_pos c_11] at hE
            subst c_11
            refine lv_tableIn (off := 60) (tgt := 72) hx hb dX10_barge_12 (by decide +kernel) (by decide +kernel) (by decide +kernel) (by decide) ?_
            refine lv_aload_n hx hb dX10_barge_72 rfl (lv_at hl 0 rfl) ?_
            refine va_get (D := D) (ci := 10) (v := .ref (Rf 0)) (C := RX10) (T := TX10) (N := 45) hx hb hts iX10 hown hK hP 3 rfl rfl 0 (by decide) (hts _ wd_491) (fun _ h9 => h9) rfl dX10_barge_73 ?_
            refine lv_bipush (v := 27) hx hb dX10_barge_76 (by decide) ?_
            refine lv_iload_n hx hb dX10_barge_78 rfl (lv_at hl 1 rfl) ?_
            refine lv_iadd hx hb dX10_barge_79 ?_
            obtain ⟨hv_12, hF⟩ := hF
            refine va_iald hx hb hK hP 0 0 rfl rfl hv_12 dX10_barge_80 ?_
            exact hret (f0 ((27 + v_) : Int32).toNatClampNeg) () _ _ _ _ dX10_barge_81 rfl hE (cutP (isC := [3, 0, 1, 2]) hP rfl) (cutD (isC := [3, 0, 1, 2]) hD rfl rfl) hS
          · skip
            replace hF := hF.2 c_11
            rw [if_neg c_11] at hE
            by_cases c_13 : w_ = 4
            · replace hF := hF.1 c_13
              rw [if_pos c_13] at hE
              subst c_13
              refine lv_tableIn (off := 70) (tgt := 82) hx hb dX10_barge_12 (by decide +kernel) (by decide +kernel) (by decide +kernel) (by decide) ?_
              refine lv_aload_n hx hb dX10_barge_82 rfl (lv_at hl 0 rfl) ?_
              refine va_get (D := D) (ci := 10) (v := .ref (Rf 0)) (C := RX10) (T := TX10) (N := 45) hx hb hts iX10 hown hK hP 3 rfl rfl 0 (by decide) (hts _ wd_491) (fun _ h9 => h9) rfl dX10_barge_83 ?_
              refine lv_bipush (v := 34) hx hb dX10_barge_86 (by decide) ?_
              refine lv_iload_n hx hb dX10_barge_88 rfl (lv_at hl 1 rfl) ?_
              refine lv_iadd hx hb dX10_barge_89 ?_
              obtain ⟨hv_14, hF⟩ := hF
              refine va_iald hx hb hK hP 0 0 rfl rfl hv_14 dX10_barge_90 ?_
              exact hret (f0 ((34 + v_) : Int32).toNatClampNeg) () _ _ _ _ dX10_barge_91 rfl hE (cutP (isC := [3, 0, 1, 2]) hP rfl) (cutD (isC := [3, 0, 1, 2]) hD rfl rfl) hS
            · skip
              replace hF := hF.2 c_13
              rw [if_neg c_13] at hE
              refine lv_tableOut (tgt := 92) hx hb dX10_barge_12 (by have q := lv_neT (a := 0) c_5 rfl; have q0 := lv_neT (a := 0) c_5 rfl; have q1 := lv_neT (a := 1) c_7 rfl; have q2 := lv_neT (a := 2) c_9 rfl; have q3 := lv_neT (a := 3) c_11 rfl; have q4 := lv_neT (a := 4) c_13 rfl; omega) (by decide) ?_
              refine lv_ldc (v := (-1000000002)) hx hb hown (hts _ wd_507) dX10_barge_92 ?_
              exact hret (-1000000002) () _ _ _ _ dX10_barge_94 rfl hE (cutP (isC := [3, 0, 1, 2]) hP rfl) (cutD (isC := [3, 0, 1, 2]) hD rfl rfl) hS
  · replace hF := hF.1 c_4
    rw [if_pos c_4] at hE
    refine lv_ldc (v := (-1000000001)) hx hb hown (hts _ wd_580) dX10_barge_8 ?_
    exact hret (-1000000001) () _ _ _ _ dX10_barge_10 rfl hE (cutP (isC := [3, 0, 1, 2]) hP rfl) (cutD (isC := [3, 0, 1, 2]) hD rfl rfl) hS
