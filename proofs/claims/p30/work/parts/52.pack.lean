section
def fw_cX10_drift : List (List Nat) := [[27, 133, 10, 20, 0, 245, 184, 0, 84, 154, 0, 6, 18, 93, 172, 42, 180, 0], [180, 0, 78, 154, 0, 6, 18, 233, 172, 42, 180, 0, 7, 16, 19, 46, 18, 241], [18, 241, 164, 0, 6, 18, 97, 172, 42, 182, 0, 234, 3, 61, 28, 27, 162, 0], [162, 0, 40, 42, 42, 180, 0, 78, 182, 1, 1, 62, 42, 29, 42, 16, 10, 182], [10, 182, 1, 1, 182, 0, 247, 42, 180, 0, 7, 16, 19, 92, 46, 4, 96, 79], [96, 79, 132, 2, 1, 167, 255, 217, 42, 180, 0, 7, 16, 19, 46, 172]]
theorem fW_cX10_drift : fq_wins 6 cX10_drift.data.toList = fw_cX10_drift := by decide +kernel
theorem fk_cX10_drift_0 : fq_ck cX10_drift 0 [27, 133, 10, 20, 0, 245, 184, 0, 84, 154, 0, 6, 18, 93, 172, 42, 180, 0] := fq_of fW_cX10_drift 0 rfl rfl
theorem dX10_drift_0 : decode cX10_drift 0 = .ok (.iload_n 1, 1) := fq_27 fk_cX10_drift_0 0 rfl rfl
theorem dX10_drift_1 : decode cX10_drift 1 = .ok (.i2l, 1) := fq_133 fk_cX10_drift_0 1 rfl rfl
theorem dX10_drift_2 : decode cX10_drift 2 = .ok (.lconst 1, 1) := fq_10 fk_cX10_drift_0 2 rfl rfl
theorem dX10_drift_3 : decode cX10_drift 3 = .ok (.ldc2_w 245, 3) := fq_20 fk_cX10_drift_0 3 rfl rfl rfl rfl rfl
theorem dX10_drift_6 : decode cX10_drift 6 = .ok (.invokestatic 84, 3) := fq_184 fk_cX10_drift_0 6 rfl rfl rfl rfl rfl
theorem dX10_drift_9 : decode cX10_drift 9 = .ok (.ifCond .ne 6, 3) := fq_154 fk_cX10_drift_0 9 rfl rfl rfl rfl rfl
theorem dX10_drift_15 : decode cX10_drift 15 = .ok (.aload_n 0, 1) := fq_42 fk_cX10_drift_0 15 rfl rfl
theorem fk_cX10_drift_1 : fq_ck cX10_drift 16 [180, 0, 78, 154, 0, 6, 18, 233, 172, 42, 180, 0, 7, 16, 19, 46, 18, 241] := fq_of fW_cX10_drift 1 rfl rfl
theorem dX10_drift_16 : decode cX10_drift 16 = .ok (.getfield 78, 3) := fq_180 fk_cX10_drift_1 0 rfl rfl rfl rfl rfl
theorem dX10_drift_19 : decode cX10_drift 19 = .ok (.ifCond .ne 6, 3) := fq_154 fk_cX10_drift_1 3 rfl rfl rfl rfl rfl
theorem dX10_drift_25 : decode cX10_drift 25 = .ok (.aload_n 0, 1) := fq_42 fk_cX10_drift_1 9 rfl rfl
theorem dX10_drift_26 : decode cX10_drift 26 = .ok (.getfield 7, 3) := fq_180 fk_cX10_drift_1 10 rfl rfl rfl rfl rfl
theorem dX10_drift_29 : decode cX10_drift 29 = .ok (.bipush 19, 2) := fq_16 fk_cX10_drift_1 13 rfl rfl rfl rfl
theorem dX10_drift_31 : decode cX10_drift 31 = .ok (.iaload, 1) := fq_46 fk_cX10_drift_1 15 rfl rfl
theorem wd_604 : Cond.constant RX10 241 (90000) ∈ BG := BG_at5 107 (by decide +kernel) rfl
theorem fk_cX10_drift_2 : fq_ck cX10_drift 32 [18, 241, 164, 0, 6, 18, 97, 172, 42, 182, 0, 234, 3, 61, 28, 27, 162, 0] := fq_of fW_cX10_drift 2 rfl rfl
theorem dX10_drift_32 : decode cX10_drift 32 = .ok (.ldc 241, 2) := fq_18 fk_cX10_drift_2 0 rfl rfl rfl
theorem dX10_drift_34 : decode cX10_drift 34 = .ok (.if_icmp .le 6, 3) := fq_164 fk_cX10_drift_2 2 rfl rfl rfl rfl rfl
theorem dX10_drift_40 : decode cX10_drift 40 = .ok (.aload_n 0, 1) := fq_42 fk_cX10_drift_2 8 rfl rfl
theorem dX10_drift_41 : decode cX10_drift 41 = .ok (.invokevirtual 234, 3) := fq_182 fk_cX10_drift_2 9 rfl rfl rfl rfl rfl
theorem dX10_drift_44 : decode cX10_drift 44 = .ok (.iconst 0, 1) := fq_3 fk_cX10_drift_2 12 rfl rfl
theorem dX10_drift_45 : decode cX10_drift 45 = .ok (.istore_n 2, 1) := fq_61 fk_cX10_drift_2 13 rfl rfl
theorem fk_cX10_drift_5 : fq_ck cX10_drift 80 [96, 79, 132, 2, 1, 167, 255, 217, 42, 180, 0, 7, 16, 19, 46, 172] := fq_of fW_cX10_drift 5 rfl rfl
theorem dX10_drift_88 : decode cX10_drift 88 = .ok (.aload_n 0, 1) := fq_42 fk_cX10_drift_5 8 rfl rfl
theorem dX10_drift_89 : decode cX10_drift 89 = .ok (.getfield 7, 3) := fq_180 fk_cX10_drift_5 9 rfl rfl rfl rfl rfl
theorem dX10_drift_92 : decode cX10_drift 92 = .ok (.bipush 19, 2) := fq_16 fk_cX10_drift_5 12 rfl rfl rfl rfl
theorem dX10_drift_94 : decode cX10_drift 94 = .ok (.iaload, 1) := fq_46 fk_cX10_drift_5 14 rfl rfl
theorem dX10_drift_95 : decode cX10_drift 95 = .ok (.ireturn, 1) := fq_172 fk_cX10_drift_5 15 rfl rfl
theorem dX10_drift_46 : decode cX10_drift 46 = .ok (.iload_n 2, 1) := fq_28 fk_cX10_drift_2 14 rfl rfl
theorem dX10_drift_47 : decode cX10_drift 47 = .ok (.iload_n 1, 1) := fq_27 fk_cX10_drift_2 15 rfl rfl
theorem fk_cX10_drift_3 : fq_ck cX10_drift 48 [162, 0, 40, 42, 42, 180, 0, 78, 182, 1, 1, 62, 42, 29, 42, 16, 10, 182] := fq_of fW_cX10_drift 3 rfl rfl
theorem dX10_drift_48 : decode cX10_drift 48 = .ok (.if_icmp .ge 40, 3) := fq_162 fk_cX10_drift_3 0 rfl rfl rfl rfl rfl
theorem dX10_drift_51 : decode cX10_drift 51 = .ok (.aload_n 0, 1) := fq_42 fk_cX10_drift_3 3 rfl rfl
theorem dX10_drift_52 : decode cX10_drift 52 = .ok (.aload_n 0, 1) := fq_42 fk_cX10_drift_3 4 rfl rfl
theorem dX10_drift_53 : decode cX10_drift 53 = .ok (.getfield 78, 3) := fq_180 fk_cX10_drift_3 5 rfl rfl rfl rfl rfl
theorem dX10_drift_56 : decode cX10_drift 56 = .ok (.invokevirtual 257, 3) := fq_182 fk_cX10_drift_3 8 rfl rfl rfl rfl rfl
theorem wd_605 : Cond.methodLink RX10 257 yX10_draw ∈ BG := BG_at5 133 (by decide +kernel) rfl
theorem wd_606 : Cond.code yX10_draw cX10_draw 2 (some .int) ∈ BG := BG_at5 136 rfl rfl
theorem wd_607 : Cond.instanceMethod yX10_draw ∈ BG := BG_at5 135 (by decide +kernel) rfl
theorem wd_608 : Cond.selects RX10 yX10_draw yX10_draw ∈ BG := BG_in (by decide +kernel) rfl
theorem okV_X10_draw : okV yX10_draw cX10_draw 2 (some .int) 1 := ⟨⟨wd_606, wd_497, by decide +kernel⟩, wd_607, wd_608⟩
theorem dX10_drift_59 : decode cX10_drift 59 = .ok (.istore_n 3, 1) := fq_62 fk_cX10_drift_3 11 rfl rfl
theorem dX10_drift_60 : decode cX10_drift 60 = .ok (.aload_n 0, 1) := fq_42 fk_cX10_drift_3 12 rfl rfl
theorem dX10_drift_61 : decode cX10_drift 61 = .ok (.iload_n 3, 1) := fq_29 fk_cX10_drift_3 13 rfl rfl
theorem dX10_drift_62 : decode cX10_drift 62 = .ok (.aload_n 0, 1) := fq_42 fk_cX10_drift_3 14 rfl rfl
theorem dX10_drift_63 : decode cX10_drift 63 = .ok (.bipush 10, 2) := fq_16 fk_cX10_drift_3 15 rfl rfl rfl rfl
theorem fk_cX10_drift_4 : fq_ck cX10_drift 64 [10, 182, 1, 1, 182, 0, 247, 42, 180, 0, 7, 16, 19, 92, 46, 4, 96, 79] := fq_of fW_cX10_drift 4 rfl rfl
theorem dX10_drift_65 : decode cX10_drift 65 = .ok (.invokevirtual 257, 3) := fq_182 fk_cX10_drift_4 1 rfl rfl rfl rfl rfl
theorem dX10_drift_68 : decode cX10_drift 68 = .ok (.invokevirtual 247, 3) := fq_182 fk_cX10_drift_4 4 rfl rfl rfl rfl rfl
theorem dX10_drift_71 : decode cX10_drift 71 = .ok (.aload_n 0, 1) := fq_42 fk_cX10_drift_4 7 rfl rfl
theorem dX10_drift_72 : decode cX10_drift 72 = .ok (.getfield 7, 3) := fq_180 fk_cX10_drift_4 8 rfl rfl rfl rfl rfl
theorem dX10_drift_75 : decode cX10_drift 75 = .ok (.bipush 19, 2) := fq_16 fk_cX10_drift_4 11 rfl rfl rfl rfl
theorem dX10_drift_77 : decode cX10_drift 77 = .ok (.dup2, 1) := fq_92 fk_cX10_drift_4 13 rfl rfl
theorem dX10_drift_78 : decode cX10_drift 78 = .ok (.iaload, 1) := fq_46 fk_cX10_drift_4 14 rfl rfl
theorem dX10_drift_79 : decode cX10_drift 79 = .ok (.iconst 1, 1) := fq_4 fk_cX10_drift_4 15 rfl rfl
theorem dX10_drift_80 : decode cX10_drift 80 = .ok (.iadd, 1) := fq_96 fk_cX10_drift_5 0 rfl rfl
theorem dX10_drift_81 : decode cX10_drift 81 = .ok (.iastore, 1) := fq_79 fk_cX10_drift_5 1 rfl rfl
theorem dX10_drift_82 : decode cX10_drift 82 = .ok (.iinc 2 1, 3) := fq_132 fk_cX10_drift_5 2 rfl rfl rfl rfl rfl
theorem dX10_drift_85 : decode cX10_drift 85 = .ok (.goto (-39), 3) := fq_167 fk_cX10_drift_5 5 rfl rfl rfl rfl rfl
theorem dX10_drift_37 : decode cX10_drift 37 = .ok (.ldc 97, 2) := fq_18 fk_cX10_drift_2 5 rfl rfl rfl
theorem dX10_drift_39 : decode cX10_drift 39 = .ok (.ireturn, 1) := fq_172 fk_cX10_drift_2 7 rfl rfl
theorem dX10_drift_22 : decode cX10_drift 22 = .ok (.ldc 233, 2) := fq_18 fk_cX10_drift_1 6 rfl rfl rfl
theorem dX10_drift_24 : decode cX10_drift 24 = .ok (.ireturn, 1) := fq_172 fk_cX10_drift_1 8 rfl rfl
theorem dX10_drift_12 : decode cX10_drift 12 = .ok (.ldc 93, 2) := fq_18 fk_cX10_drift_0 12 rfl rfl rfl
theorem dX10_drift_14 : decode cX10_drift 14 = .ok (.ireturn, 1) := fq_172 fk_cX10_drift_0 14 rfl rfl
noncomputable def f_m_drift_46 (n_ : Int32) (n : Nat) : Int32 → (Nat → Int32) → (Nat → Int32) → Int32 × (Nat → Int32) × (Nat → Int32) := Nat.rec (motive := fun _ => Int32 → (Nat → Int32) → (Nat → Int32) → Int32 × (Nat → Int32) × (Nat → Int32)) (fun w_12l2 w_12m0 w_12m1 => (w_12l2, w_12m0, w_12m1)) (fun n ih w_12l2 w_12m0 w_12m1 => (if n_ ≤ w_12l2 then (w_12l2, w_12m0, w_12m1) else (match (f_m_draw w_12m1 (w_12m0 5)) with | (r_16, u_15) => (match (f_m_draw u_15 10) with | (r_19, u_18) => (ih (w_12l2 + 1) w_12m0 (upd (f_m_grieves u_18 r_16 r_19) (19 : Int32).toNatClampNeg (((f_m_grieves u_18 r_16 r_19) (19 : Int32).toNatClampNeg) + 1))))))) n
theorem f_m_drift_46_s (n_ : Int32) (n : Nat) (w_12l2 : Int32) (w_12m0 : (Nat → Int32)) (w_12m1 : (Nat → Int32)) : f_m_drift_46 n_ (n + 1) w_12l2 w_12m0 w_12m1 = (if n_ ≤ w_12l2 then (w_12l2, w_12m0, w_12m1) else (match (f_m_draw w_12m1 (w_12m0 5)) with | (r_16, u_15) => (match (f_m_draw u_15 10) with | (r_19, u_18) => (f_m_drift_46 n_ n (w_12l2 + 1) w_12m0 (upd (f_m_grieves u_18 r_16 r_19) (19 : Int32).toNatClampNeg (((f_m_grieves u_18 r_16 r_19) (19 : Int32).toNatClampNeg) + 1)))))) := rfl
def S_m_drift_46 (n_ : Int32) (K : Int32 → (Nat → Int32) → (Nat → Int32) → Prop) (n : Nat) : Int32 → (Nat → Int32) → (Nat → Int32) → Prop := Nat.rec (motive := fun _ => Int32 → (Nat → Int32) → (Nat → Int32) → Prop) (fun _ _ _ => True) (fun n ih w_12l2 w_12m0 w_12m1 => ((n_ ≤ w_12l2 → (K w_12l2 w_12m0 w_12m1)) ∧ (¬ n_ ≤ w_12l2 → ((S_m_draw w_12m1 (w_12m0 5)) ∧ (∀ (r_16 : Int32) (u_15 : (Nat → Int32)), (r_16, u_15) = (f_m_draw w_12m1 (w_12m0 5)) → ((S_m_draw u_15 10) ∧ (∀ (r_19 : Int32) (u_18 : (Nat → Int32)), (r_19, u_18) = (f_m_draw u_15 10) → ((S_m_grieves u_18 r_16 r_19) ∧ (ih (w_12l2 + 1) w_12m0 (upd (f_m_grieves u_18 r_16 r_19) (19 : Int32).toNatClampNeg (((f_m_grieves u_18 r_16 r_19) (19 : Int32).toNatClampNeg) + 1))))))))))) n
theorem S_m_drift_46_s (n_ : Int32) (K : Int32 → (Nat → Int32) → (Nat → Int32) → Prop) (n : Nat) (w_12l2 : Int32) (w_12m0 : (Nat → Int32)) (w_12m1 : (Nat → Int32)) : S_m_drift_46 n_ K (n + 1) w_12l2 w_12m0 w_12m1 = (((n_ ≤ w_12l2 → (K w_12l2 w_12m0 w_12m1)) ∧ (¬ n_ ≤ w_12l2 → ((S_m_draw w_12m1 (w_12m0 5)) ∧ (∀ (r_16 : Int32) (u_15 : (Nat → Int32)), (r_16, u_15) = (f_m_draw w_12m1 (w_12m0 5)) → ((S_m_draw u_15 10) ∧ (∀ (r_19 : Int32) (u_18 : (Nat → Int32)), (r_19, u_18) = (f_m_draw u_15 10) → ((S_m_grieves u_18 r_16 r_19) ∧ (S_m_drift_46 n_ K n (w_12l2 + 1) w_12m0 (upd (f_m_grieves u_18 r_16 r_19) (19 : Int32).toNatClampNeg (((f_m_grieves u_18 r_16 r_19) (19 : Int32).toNatClampNeg) + 1))))))))))) := rfl
noncomputable def f_m_drift (G : Nat → Int32) (f0 : Nat → Int32) (n_ : Int32) : Int32 × (Nat → Int32) × (Nat → Int32) := (if (f_m_in n_.toInt64 1 99) = 0 then ((-1000000002), G, f0) else (if (G 5) = 0 then ((-1000000003), G, f0) else (if (f0 (19 : Int32).toNatClampNeg) ≤ 90000 then (match (f_m_minds G f0) with | (o_10, o_11) => (match ((f_m_drift_46 n_ (((n_ : Int32).toInt - (0 : Int32).toInt).toNat + 1) 0 o_10 o_11) : Int32 × (Nat → Int32) × (Nat → Int32)) with | (w_12l2, w_12m0, w_12m1) => ((w_12m1 (19 : Int32).toNatClampNeg), w_12m0, w_12m1))) else ((-1000000004), G, f0))))
def S_m_drift (G : Nat → Int32) (f0 : Nat → Int32) (n_ : Int32) : Prop := ((S_m_in n_.toInt64 1 99) ∧ (((f_m_in n_.toInt64 1 99) = 0 → True) ∧ (¬ (f_m_in n_.toInt64 1 99) = 0 → (((G 5) = 0 → True) ∧ (¬ (G 5) = 0 → (((f0 (19 : Int32).toNatClampNeg) ≤ 90000 → ((S_m_minds G f0) ∧ (∀ (o_10 : (Nat → Int32)) (o_11 : (Nat → Int32)), (o_10, o_11) = (f_m_minds G f0) → (S_m_drift_46 n_ (fun (w_12l2 : Int32) (w_12m0 : (Nat → Int32)) (w_12m1 : (Nat → Int32)) => True) (((n_ : Int32).toInt - (0 : Int32).toInt).toNat + 1) 0 o_10 o_11)))) ∧ (¬ (f0 (19 : Int32).toNatClampNeg) ≤ 90000 → True)))))))
def rm_m_drift : Room := { frames := 3, cells := 0, slots := 0, locals := 65 }
set_option maxHeartbeats 4000000 in
set_option maxRecDepth 100000 in
theorem m_drift {l : Launch} {D : va_G} {cI cZ : ClassId} {sz : Nat} (Rf : Nat → Nat) (h : Nat) (G : Nat → Int32) (f0 : Nat → Int32) (n_ : Int32) (hF : S_m_drift G f0 n_) : KI l yX10_drift cX10_drift 4 (some .int) rm_m_drift D cI cZ [.ref h, .int n_] sz [(h, .inr (10, ML G Rf)), ((Rf 0), .inl (cI, 1302, .inl f0))] (fun (r : Int32) (u : (Nat → Int32) × (Nat → Int32)) => (r, u) = f_m_drift G f0 n_) (fun (u : (Nat → Int32) × (Nat → Int32)) => [(h, .inr (10, ML u.1 Rf)), ((Rf 0), .inl (cI, 1302, .inl u.2))]) := by
  refine KI.go rfl (Nat.le_of_ble_eq_true rfl) ?_
  intro p e s m args below meth c ls A Q hx hb hml hts hown hin hP hK hD hS hA hN hl hret
  have hl : lv_has ls 4 [(0, .ref h), (1, .int n_)] := hl
  rw [S_m_drift] at hF
  obtain ⟨RES, hE⟩ : ∃ xRES, f_m_drift G f0 n_ = xRES := ⟨_, rfl⟩
  rw [hE] at hret
  rw [f_m_drift] at hE
  refine lv_iload_n hx hb dX10_drift_0 rfl (lv_at hl 1 rfl) ?_
  refine lv_i2l (v := n_.toInt64) hx hb dX10_drift_1 rfl ?_
  refine lv_lconst (v := 1) hx hb dX10_drift_2 rfl ?_
  refine lv_ldc2 (v := 99) hx hb hown (hts _ wd_599) dX10_drift_3 ?_
  obtain ⟨hs_1, hF⟩ := hF
  refine cSi (wr := [(h, .inr (10, ML G Rf)), ((Rf 0), .inl (cI, 1302, .inl f0))]) (rest := []) (m_in n_.toInt64 1 99 hs_1) okS_X10_in wd_495 hx hb hml hown hts hK hP hD hS hA hN hl.1 [] [0, 1] rfl rfl rfl rfl (of_decide_eq_true rfl) rfl (Nat.le_of_ble_eq_true rfl) (Nat.le_of_ble_eq_true rfl) (Nat.le_of_ble_eq_true rfl) (Nat.le_of_ble_eq_true rfl) (Nat.le_of_ble_eq_true rfl) dX10_drift_6 (fun r_3 u_2 H locs hw_u_2 hP hD hS => ?_)
  replace hw_u_2 : r_3 = (f_m_in n_.toInt64 1 99) := hw_u_2
  rw [hw_u_2]
  clear hw_u_2
  have hP : va_P D classes [(h, .inr (10, ML G Rf)), ((Rf 0), .inl (cI, 1302, .inl f0))] H := hP
  have hD : va_D A [(h, .inr (10, ML G Rf)), ((Rf 0), .inl (cI, 1302, .inl f0))] := hD
  refine lv_if_ne (tgt := 15) hx hb dX10_drift_9 rfl (fun c_4 => ?_) (fun c_4 => ?_)
  · replace hF := hF.2 c_4
    rw [if_neg c_4] at hE
    refine lv_aload_n hx hb dX10_drift_15 rfl (lv_at hl 0 rfl) ?_
    refine va_get (D := D) (ci := 10) (v := .int (G 5)) (C := RX10) (T := TX10) (N := 45) hx hb hts iX10 hown hK hP 0 rfl rfl 5 (Nat.le_of_ble_eq_true rfl) (hts _ wd_499) (fun _ h9 => h9) rfl dX10_drift_16 ?_
    refine lv_if_ne (tgt := 25) hx hb dX10_drift_19 rfl (fun c_5 => ?_) (fun c_5 => ?_)
    · replace hF := hF.2 c_5
      rw [if_neg c_5] at hE
      refine lv_aload_n hx hb dX10_drift_25 rfl (lv_at hl 0 rfl) ?_
      refine va_get (D := D) (ci := 10) (v := .ref (Rf 0)) (C := RX10) (T := TX10) (N := 45) hx hb hts iX10 hown hK hP 0 rfl rfl 0 (Nat.le_of_ble_eq_true rfl) (hts _ wd_491) (fun _ h9 => h9) rfl dX10_drift_26 ?_
      refine lv_bipush (v := 19) hx hb dX10_drift_29 rfl ?_
      refine va_iald hx hb hK hP 1 0 rfl rfl (show ¬ ((19 : Int32) < 0 ∨ 1302 ≤ (19 : Int32).toNatClampNeg) by decide +kernel) dX10_drift_31 ?_
      refine lv_ldc (v := 90000) hx hb hown (hts _ wd_604) dX10_drift_32 ?_
      refine lv_icmp_le (tgt := 40) hx hb dX10_drift_34 rfl (fun c_6 => ?_) (fun c_6 => ?_)
      · replace hF := hF.1 c_6
        rw [if_pos c_6] at hE
        refine lv_aload_n hx hb dX10_drift_40 rfl (lv_at hl 0 rfl) ?_
        obtain ⟨hs_7, hF⟩ := hF
        refine cVv (wr := []) (rest := []) (m_minds Rf h G f0 hs_7) okV_X10_minds wd_595 hx hb hml hown hts hK hP hD hS hA hN hl.1 [0, 1] [] rfl rfl rfl rfl (of_decide_eq_true rfl) rfl rfl rfl (Nat.le_of_ble_eq_true rfl) (Nat.le_of_ble_eq_true rfl) (Nat.le_of_ble_eq_true rfl) (Nat.le_of_ble_eq_true rfl) (Nat.le_of_ble_eq_true rfl) dX10_drift_41 (fun u_8 H locs hw_u_8 hP hD hS => ?_)
        obtain ⟨o_10, o_11⟩ := u_8
        replace hw_u_8 : (o_10, o_11) = (f_m_minds G f0) := hw_u_8
        replace hF := hF o_10 o_11 hw_u_8
        rw [← hw_u_8] at hE
        replace hE : ((match ((f_m_drift_46 n_ (((n_ : Int32).toInt - (0 : Int32).toInt).toNat + 1) 0 o_10 o_11) : Int32 × (Nat → Int32) × (Nat → Int32)) with | (w_12l2, w_12m0, w_12m1) => ((w_12m1 (19 : Int32).toNatClampNeg), w_12m0, w_12m1)) : Int32 × (Nat → Int32) × (Nat → Int32)) = RES := hE
        have hP : va_P D classes [(h, .inr (10, ML o_10 Rf)), ((Rf 0), .inl (cI, 1302, .inl o_11))] H := hP
        have hD : va_D A [(h, .inr (10, ML o_10 Rf)), ((Rf 0), .inl (cI, 1302, .inl o_11))] := hD
        refine lv_iconst (v := 0) hx hb dX10_drift_44 rfl ?_
        refine lv_istore_n (lv' := [(2, .int 0), (0, .ref h), (1, .int n_)]) hx hb dX10_drift_45 rfl hl (Nat.le_of_ble_eq_true rfl) rfl (fun ls hl => ?_)
        have ex_46_w_12 : ∀ (w_12l2 : Int32) (w_12m0 : (Nat → Int32)) (w_12m1 : (Nat → Int32)) (H : Heap) (locs : List Loc) (ls : Array Slot), va_P D classes [(h, .inr (10, ML w_12m0 Rf)), ((Rf 0), .inl (cI, 1302, .inl w_12m1))] H → va_D A [(h, .inr (10, ML w_12m0 Rf)), ((Rf 0), .inl (cI, 1302, .inl w_12m1))] → va_S A s.heap H locs → lv_has ls 4 [(2, .int w_12l2), (0, .ref h), (1, .int n_)] → (True) → ((((w_12m1 (19 : Int32).toNatClampNeg), w_12m0, w_12m1)) : Int32 × (Nat → Int32) × (Nat → Int32)) = RES → W p l e rm_m_drift s m args below meth c H locs 0 0 Q (F0 m 88 ls []) := by
          intro w_12l2 w_12m0 w_12m1 H locs ls hP hD hS hl hF hE
          refine lv_aload_n hx hb dX10_drift_88 rfl (lv_at hl 1 rfl) ?_
          refine va_get (D := D) (ci := 10) (v := .ref (Rf 0)) (C := RX10) (T := TX10) (N := 45) hx hb hts iX10 hown hK hP 0 rfl rfl 0 (Nat.le_of_ble_eq_true rfl) (hts _ wd_491) (fun _ h9 => h9) rfl dX10_drift_89 ?_
          refine lv_bipush (v := 19) hx hb dX10_drift_92 rfl ?_
          refine va_iald hx hb hK hP 1 0 rfl rfl (show ¬ ((19 : Int32) < 0 ∨ 1302 ≤ (19 : Int32).toNatClampNeg) by decide +kernel) dX10_drift_94 ?_
          exact hret (w_12m1 (19 : Int32).toNatClampNeg) (w_12m0, w_12m1) _ _ _ _ dX10_drift_95 rfl hE hP hD hS
        have lp_46_w_12 : ∀ (n_w_12 : Nat) (w_12l2 : Int32) (w_12m0 : (Nat → Int32)) (w_12m1 : (Nat → Int32)) (H : Heap) (locs : List Loc) (ls : Array Slot), va_P D classes [(h, .inr (10, ML w_12m0 Rf)), ((Rf 0), .inl (cI, 1302, .inl w_12m1))] H → va_D A [(h, .inr (10, ML w_12m0 Rf)), ((Rf 0), .inl (cI, 1302, .inl w_12m1))] → va_S A s.heap H locs → lv_has ls 4 [(2, .int w_12l2), (0, .ref h), (1, .int n_)] → (S_m_drift_46 n_ (fun (w_12l2 : Int32) (w_12m0 : (Nat → Int32)) (w_12m1 : (Nat → Int32)) => True) n_w_12 w_12l2 w_12m0 w_12m1) → ((n_ : Int32).toInt - (w_12l2 : Int32).toInt).toNat < n_w_12 → ((match ((f_m_drift_46 n_ n_w_12 w_12l2 w_12m0 w_12m1) : Int32 × (Nat → Int32) × (Nat → Int32)) with | (w_12l2, w_12m0, w_12m1) => ((w_12m1 (19 : Int32).toNatClampNeg), w_12m0, w_12m1)) : Int32 × (Nat → Int32) × (Nat → Int32)) = RES → W p l e rm_m_drift s m args below meth c H locs 0 0 Q (F0 m 46 ls []) := by
          intro n_w_12
          induction n_w_12 with
          | zero => intro w_12l2 w_12m0 w_12m1 H locs ls hP hD hS hl hF hm; exact absurd hm (Nat.not_lt_zero _)
          | succ n_w_12 ih_w_12 =>
            intro w_12l2 w_12m0 w_12m1 H locs ls hP hD hS hl hF hm hE
            rw [S_m_drift_46_s] at hF
            rw [f_m_drift_46_s] at hE
            refine lv_iload_n hx hb dX10_drift_46 rfl (lv_at hl 0 rfl) ?_
            refine lv_iload_n hx hb dX10_drift_47 rfl (lv_at hl 2 rfl) ?_
            refine lv_icmp_ge (tgt := 88) hx hb dX10_drift_48 rfl (fun c_13 => ?_) (fun c_13 => ?_)
            · replace hF := hF.1 c_13
              rw [if_pos c_13] at hE
              exact ex_46_w_12 w_12l2 w_12m0 w_12m1 _ _ ls hP hD hS (lv_sub hl [0, 1, 2] rfl) hF hE
            · replace hF := hF.2 c_13
              rw [if_neg c_13] at hE
              refine lv_aload_n hx hb dX10_drift_51 rfl (lv_at hl 1 rfl) ?_
              refine lv_aload_n hx hb dX10_drift_52 rfl (lv_at hl 1 rfl) ?_
              refine va_get (D := D) (ci := 10) (v := .int (w_12m0 5)) (C := RX10) (T := TX10) (N := 45) hx hb hts iX10 hown hK hP 0 rfl rfl 5 (Nat.le_of_ble_eq_true rfl) (hts _ wd_499) (fun _ h9 => h9) rfl dX10_drift_53 ?_
              obtain ⟨hs_14, hF⟩ := hF
              refine cVi (wr := []) (rest := []) (m_draw Rf h w_12m0 w_12m1 (w_12m0 5) hs_14) okV_X10_draw wd_605 hx hb hml hown hts hK hP hD hS hA hN hl.1 [0, 1] [] rfl rfl rfl rfl (of_decide_eq_true rfl) rfl rfl rfl (Nat.le_of_ble_eq_true rfl) (Nat.le_of_ble_eq_true rfl) (Nat.le_of_ble_eq_true rfl) (Nat.le_of_ble_eq_true rfl) (Nat.le_of_ble_eq_true rfl) dX10_drift_56 (fun r_16 u_15 H locs hw_u_15 hP hD hS => ?_)
              replace hw_u_15 : (r_16, u_15) = (f_m_draw w_12m1 (w_12m0 5)) := hw_u_15
              replace hF := hF r_16 u_15 hw_u_15
              rw [← hw_u_15] at hE
              replace hE : ((match ((match (f_m_draw u_15 10) with | (r_19, u_18) => (f_m_drift_46 n_ n_w_12 (w_12l2 + 1) w_12m0 (upd (f_m_grieves u_18 r_16 r_19) (19 : Int32).toNatClampNeg (((f_m_grieves u_18 r_16 r_19) (19 : Int32).toNatClampNeg) + 1)))) : Int32 × (Nat → Int32) × (Nat → Int32)) with | (w_12l2, w_12m0, w_12m1) => ((w_12m1 (19 : Int32).toNatClampNeg), w_12m0, w_12m1)) : Int32 × (Nat → Int32) × (Nat → Int32)) = RES := hE
              have hP : va_P D classes [(h, .inr (10, ML w_12m0 Rf)), ((Rf 0), .inl (cI, 1302, .inl u_15))] H := hP
              have hD : va_D A [(h, .inr (10, ML w_12m0 Rf)), ((Rf 0), .inl (cI, 1302, .inl u_15))] := hD
              refine lv_istore_n (lv' := [(3, .int r_16), (2, .int w_12l2), (0, .ref h), (1, .int n_)]) hx hb dX10_drift_59 rfl hl (Nat.le_of_ble_eq_true rfl) rfl (fun ls hl => ?_)
              refine lv_aload_n hx hb dX10_drift_60 rfl (lv_at hl 2 rfl) ?_
              refine lv_iload_n hx hb dX10_drift_61 rfl (lv_at hl 0 rfl) ?_
              refine lv_aload_n hx hb dX10_drift_62 rfl (lv_at hl 2 rfl) ?_
              refine lv_bipush (v := 10) hx hb dX10_drift_63 rfl ?_
              obtain ⟨hs_17, hF⟩ := hF
              refine cVi (wr := []) (rest := [.int r_16, .ref h]) (m_draw Rf h w_12m0 u_15 10 hs_17) okV_X10_draw wd_605 hx hb hml hown hts hK hP hD hS hA hN hl.1 [0, 1] [] rfl rfl rfl rfl (of_decide_eq_true rfl) rfl rfl rfl (Nat.le_of_ble_eq_true rfl) (Nat.le_of_ble_eq_true rfl) (Nat.le_of_ble_eq_true rfl) (Nat.le_of_ble_eq_true rfl) (Nat.le_of_ble_eq_true rfl) dX10_drift_65 (fun r_19 u_18 H locs hw_u_18 hP hD hS => ?_)
              replace hw_u_18 : (r_19, u_18) = (f_m_draw u_15 10) := hw_u_18
              replace hF := hF r_19 u_18 hw_u_18
              rw [← hw_u_18] at hE
              replace hE : ((match ((f_m_drift_46 n_ n_w_12 (w_12l2 + 1) w_12m0 (upd (f_m_grieves u_18 r_16 r_19) (19 : Int32).toNatClampNeg (((f_m_grieves u_18 r_16 r_19) (19 : Int32).toNatClampNeg) + 1))) : Int32 × (Nat → Int32) × (Nat → Int32)) with | (w_12l2, w_12m0, w_12m1) => ((w_12m1 (19 : Int32).toNatClampNeg), w_12m0, w_12m1)) : Int32 × (Nat → Int32) × (Nat → Int32)) = RES := hE
              have hP : va_P D classes [(h, .inr (10, ML w_12m0 Rf)), ((Rf 0), .inl (cI, 1302, .inl u_18))] H := hP
              have hD : va_D A [(h, .inr (10, ML w_12m0 Rf)), ((Rf 0), .inl (cI, 1302, .inl u_18))] := hD
              obtain ⟨hs_20, hF⟩ := hF
              refine cVv (wr := []) (rest := []) (m_grieves Rf h w_12m0 u_18 r_16 r_19 hs_20) okV_X10_grieves wd_600 hx hb hml hown hts hK hP hD hS hA hN hl.1 [0, 1] [] rfl rfl rfl rfl (of_decide_eq_true rfl) rfl rfl rfl (Nat.le_of_ble_eq_true rfl) (Nat.le_of_ble_eq_true rfl) (Nat.le_of_ble_eq_true rfl) (Nat.le_of_ble_eq_true rfl) (Nat.le_of_ble_eq_true rfl) dX10_drift_68 (fun u_21 H locs hw_u_21 hP hD hS => ?_)
              replace hw_u_21 : u_21 = (f_m_grieves u_18 r_16 r_19) := hw_u_21
              subst hw_u_21
              have hP : va_P D classes [(h, .inr (10, ML w_12m0 Rf)), ((Rf 0), .inl (cI, 1302, .inl (f_m_grieves u_18 r_16 r_19)))] H := hP
              have hD : va_D A [(h, .inr (10, ML w_12m0 Rf)), ((Rf 0), .inl (cI, 1302, .inl (f_m_grieves u_18 r_16 r_19)))] := hD
              refine lv_aload_n hx hb dX10_drift_71 rfl (lv_at hl 2 rfl) ?_
              refine va_get (D := D) (ci := 10) (v := .ref (Rf 0)) (C := RX10) (T := TX10) (N := 45) hx hb hts iX10 hown hK hP 0 rfl rfl 0 (Nat.le_of_ble_eq_true rfl) (hts _ wd_491) (fun _ h9 => h9) rfl dX10_drift_72 ?_
              refine lv_bipush (v := 19) hx hb dX10_drift_75 rfl ?_
              refine lv_dup2_11 hx hb dX10_drift_77 rfl rfl ?_
              refine va_iald hx hb hK hP 1 0 rfl rfl (show ¬ ((19 : Int32) < 0 ∨ 1302 ≤ (19 : Int32).toNatClampNeg) by decide +kernel) dX10_drift_78 ?_
              refine lv_iconst (v := 1) hx hb dX10_drift_79 rfl ?_
              refine lv_iadd hx hb dX10_drift_80 ?_
              refine va_iast hx hb hK hP hD hS 1 0 rfl rfl (show ¬ ((19 : Int32) < 0 ∨ 1302 ≤ (19 : Int32).toNatClampNeg) by decide +kernel) dX10_drift_81 (fun H locs hP hD hS => ?_)
              have hP : va_P D classes [(h, .inr (10, ML w_12m0 Rf)), ((Rf 0), .inl (cI, 1302, .inl (upd (f_m_grieves u_18 r_16 r_19) (19 : Int32).toNatClampNeg (((f_m_grieves u_18 r_16 r_19) (19 : Int32).toNatClampNeg) + 1))))] H := hP
              have hD : va_D A [(h, .inr (10, ML w_12m0 Rf)), ((Rf 0), .inl (cI, 1302, .inl (upd (f_m_grieves u_18 r_16 r_19) (19 : Int32).toNatClampNeg (((f_m_grieves u_18 r_16 r_19) (19 : Int32).toNatClampNeg) + 1))))] := hD
              refine lv_iinc (v := (w_12l2 + 1)) (lv' := [(2, .int (w_12l2 + 1)), (3, .int r_16), (0, .ref h), (1, .int n_)]) hx hb dX10_drift_82 hl (k := 1) rfl rfl (Nat.le_of_ble_eq_true rfl) rfl (fun ls hl => ?_)
              refine lv_goto (tgt := 46) hx hb dX10_drift_85 rfl ?_
              exact ih_w_12 (w_12l2 + 1) w_12m0 (upd (f_m_grieves u_18 r_16 r_19) (19 : Int32).toNatClampNeg (((f_m_grieves u_18 r_16 r_19) (19 : Int32).toNatClampNeg) + 1)) _ _ ls hP hD hS (lv_sub hl [0, 2, 3] rfl) hF (up_step c_13 hm) hE
        exact lp_46_w_12 (((n_ : Int32).toInt - (0 : Int32).toInt).toNat + 1) 0 o_10 o_11 _ _ ls hP hD hS hl hF (Nat.lt_succ_self _) hE
      · replace hF := hF.2 c_6
        rw [if_neg c_6] at hE
        refine lv_ldc (v := (-1000000004)) hx hb hown (hts _ wd_506) dX10_drift_37 ?_
        exact hret (-1000000004) (G, f0) _ _ _ _ dX10_drift_39 rfl hE hP hD hS
    · replace hF := hF.1 c_5
      rw [if_pos c_5] at hE
      refine lv_ldc (v := (-1000000003)) hx hb hown (hts _ wd_562) dX10_drift_22 ?_
      exact hret (-1000000003) (G, f0) _ _ _ _ dX10_drift_24 rfl hE hP hD hS
  · replace hF := hF.1 c_4
    rw [if_pos c_4] at hE
    refine lv_ldc (v := (-1000000002)) hx hb hown (hts _ wd_507) dX10_drift_12 ?_
    exact hret (-1000000002) (G, f0) _ _ _ _ dX10_drift_14 rfl hE hP hD hS
end
section
def fw_cX10_tear : List (List Nat) := [[42, 180, 0, 177, 60, 42, 3, 181, 0, 177, 27, 172]]
theorem fW_cX10_tear : fq_wins 1 cX10_tear.data.toList = fw_cX10_tear := by decide +kernel
theorem fk_cX10_tear_0 : fq_ck cX10_tear 0 [42, 180, 0, 177, 60, 42, 3, 181, 0, 177, 27, 172] := fq_of fW_cX10_tear 0 rfl rfl
theorem dX10_tear_0 : decode cX10_tear 0 = .ok (.aload_n 0, 1) := fq_42 fk_cX10_tear_0 0 rfl rfl
theorem wd_609 : Cond.fieldLink RX10 177 "QuarrelBridgesModel" "booked" "I" ∈ BG := BG_at4 105 (by decide +kernel) rfl
theorem dX10_tear_1 : decode cX10_tear 1 = .ok (.getfield 177, 3) := fq_180 fk_cX10_tear_0 1 rfl rfl rfl rfl rfl
theorem dX10_tear_4 : decode cX10_tear 4 = .ok (.istore_n 1, 1) := fq_60 fk_cX10_tear_0 4 rfl rfl
theorem dX10_tear_5 : decode cX10_tear 5 = .ok (.aload_n 0, 1) := fq_42 fk_cX10_tear_0 5 rfl rfl
theorem dX10_tear_6 : decode cX10_tear 6 = .ok (.iconst 0, 1) := fq_3 fk_cX10_tear_0 6 rfl rfl
theorem dX10_tear_7 : decode cX10_tear 7 = .ok (.putfield 177, 3) := fq_181 fk_cX10_tear_0 7 rfl rfl rfl rfl rfl
theorem dX10_tear_10 : decode cX10_tear 10 = .ok (.iload_n 1, 1) := fq_27 fk_cX10_tear_0 10 rfl rfl
theorem dX10_tear_11 : decode cX10_tear 11 = .ok (.ireturn, 1) := fq_172 fk_cX10_tear_0 11 rfl rfl
def fw_cX10_seed : List (List Nat) := [[27, 156, 0, 6, 18, 93, 172, 42, 180, 0, 7, 16, 41, 46, 61, 42, 180, 0], [180, 0, 7, 16, 41, 27, 79, 28, 172]]
theorem fW_cX10_seed : fq_wins 2 cX10_seed.data.toList = fw_cX10_seed := by decide +kernel
theorem fk_cX10_seed_0 : fq_ck cX10_seed 0 [27, 156, 0, 6, 18, 93, 172, 42, 180, 0, 7, 16, 41, 46, 61, 42, 180, 0] := fq_of fW_cX10_seed 0 rfl rfl
theorem dX10_seed_0 : decode cX10_seed 0 = .ok (.iload_n 1, 1) := fq_27 fk_cX10_seed_0 0 rfl rfl
theorem dX10_seed_1 : decode cX10_seed 1 = .ok (.ifCond .ge 6, 3) := fq_156 fk_cX10_seed_0 1 rfl rfl rfl rfl rfl
theorem dX10_seed_7 : decode cX10_seed 7 = .ok (.aload_n 0, 1) := fq_42 fk_cX10_seed_0 7 rfl rfl
theorem dX10_seed_8 : decode cX10_seed 8 = .ok (.getfield 7, 3) := fq_180 fk_cX10_seed_0 8 rfl rfl rfl rfl rfl
theorem dX10_seed_11 : decode cX10_seed 11 = .ok (.bipush 41, 2) := fq_16 fk_cX10_seed_0 11 rfl rfl rfl rfl
theorem dX10_seed_13 : decode cX10_seed 13 = .ok (.iaload, 1) := fq_46 fk_cX10_seed_0 13 rfl rfl
theorem dX10_seed_14 : decode cX10_seed 14 = .ok (.istore_n 2, 1) := fq_61 fk_cX10_seed_0 14 rfl rfl
theorem dX10_seed_15 : decode cX10_seed 15 = .ok (.aload_n 0, 1) := fq_42 fk_cX10_seed_0 15 rfl rfl
theorem fk_cX10_seed_1 : fq_ck cX10_seed 16 [180, 0, 7, 16, 41, 27, 79, 28, 172] := fq_of fW_cX10_seed 1 rfl rfl
theorem dX10_seed_16 : decode cX10_seed 16 = .ok (.getfield 7, 3) := fq_180 fk_cX10_seed_1 0 rfl rfl rfl rfl rfl
theorem dX10_seed_19 : decode cX10_seed 19 = .ok (.bipush 41, 2) := fq_16 fk_cX10_seed_1 3 rfl rfl rfl rfl
theorem dX10_seed_21 : decode cX10_seed 21 = .ok (.iload_n 1, 1) := fq_27 fk_cX10_seed_1 5 rfl rfl
theorem dX10_seed_22 : decode cX10_seed 22 = .ok (.iastore, 1) := fq_79 fk_cX10_seed_1 6 rfl rfl
theorem dX10_seed_23 : decode cX10_seed 23 = .ok (.iload_n 2, 1) := fq_28 fk_cX10_seed_1 7 rfl rfl
theorem dX10_seed_24 : decode cX10_seed 24 = .ok (.ireturn, 1) := fq_172 fk_cX10_seed_1 8 rfl rfl
theorem dX10_seed_4 : decode cX10_seed 4 = .ok (.ldc 93, 2) := fq_18 fk_cX10_seed_0 4 rfl rfl rfl
theorem dX10_seed_6 : decode cX10_seed 6 = .ok (.ireturn, 1) := fq_172 fk_cX10_seed_0 6 rfl rfl
def fw_cX10_write : List (List Nat) := [[42, 27, 182, 0, 204, 154, 0, 6, 18, 199, 172, 28, 133, 9, 20, 0, 245, 184], [245, 184, 0, 84, 154, 0, 6, 18, 93, 172, 42, 180, 0, 177, 16, 15, 160, 0], [160, 0, 6, 18, 97, 172, 42, 180, 0, 69, 42, 180, 0, 177, 27, 79, 42, 180], [42, 180, 0, 72, 42, 180, 0, 177, 28, 79, 42, 89, 180, 0, 177, 4, 96, 181], [96, 181, 0, 177, 42, 180, 0, 177, 172]]
theorem fW_cX10_write : fq_wins 5 cX10_write.data.toList = fw_cX10_write := by decide +kernel
theorem fk_cX10_write_0 : fq_ck cX10_write 0 [42, 27, 182, 0, 204, 154, 0, 6, 18, 199, 172, 28, 133, 9, 20, 0, 245, 184] := fq_of fW_cX10_write 0 rfl rfl
theorem dX10_write_0 : decode cX10_write 0 = .ok (.aload_n 0, 1) := fq_42 fk_cX10_write_0 0 rfl rfl
theorem dX10_write_1 : decode cX10_write 1 = .ok (.iload_n 1, 1) := fq_27 fk_cX10_write_0 1 rfl rfl
theorem dX10_write_2 : decode cX10_write 2 = .ok (.invokevirtual 204, 3) := fq_182 fk_cX10_write_0 2 rfl rfl rfl rfl rfl
theorem dX10_write_5 : decode cX10_write 5 = .ok (.ifCond .ne 6, 3) := fq_154 fk_cX10_write_0 5 rfl rfl rfl rfl rfl
theorem dX10_write_11 : decode cX10_write 11 = .ok (.iload_n 2, 1) := fq_28 fk_cX10_write_0 11 rfl rfl
theorem dX10_write_12 : decode cX10_write 12 = .ok (.i2l, 1) := fq_133 fk_cX10_write_0 12 rfl rfl
theorem dX10_write_13 : decode cX10_write 13 = .ok (.lconst 0, 1) := fq_9 fk_cX10_write_0 13 rfl rfl
theorem dX10_write_14 : decode cX10_write 14 = .ok (.ldc2_w 245, 3) := fq_20 fk_cX10_write_0 14 rfl rfl rfl rfl rfl
theorem fk_cX10_write_1 : fq_ck cX10_write 16 [245, 184, 0, 84, 154, 0, 6, 18, 93, 172, 42, 180, 0, 177, 16, 15, 160, 0] := fq_of fW_cX10_write 1 rfl rfl
theorem dX10_write_17 : decode cX10_write 17 = .ok (.invokestatic 84, 3) := fq_184 fk_cX10_write_1 1 rfl rfl rfl rfl rfl
theorem dX10_write_20 : decode cX10_write 20 = .ok (.ifCond .ne 6, 3) := fq_154 fk_cX10_write_1 4 rfl rfl rfl rfl rfl
theorem dX10_write_26 : decode cX10_write 26 = .ok (.aload_n 0, 1) := fq_42 fk_cX10_write_1 10 rfl rfl
theorem dX10_write_27 : decode cX10_write 27 = .ok (.getfield 177, 3) := fq_180 fk_cX10_write_1 11 rfl rfl rfl rfl rfl
theorem dX10_write_30 : decode cX10_write 30 = .ok (.bipush 15, 2) := fq_16 fk_cX10_write_1 14 rfl rfl rfl rfl
theorem fk_cX10_write_2 : fq_ck cX10_write 32 [160, 0, 6, 18, 97, 172, 42, 180, 0, 69, 42, 180, 0, 177, 27, 79, 42, 180] := fq_of fW_cX10_write 2 rfl rfl
theorem dX10_write_32 : decode cX10_write 32 = .ok (.if_icmp .ne 6, 3) := fq_160 fk_cX10_write_2 0 rfl rfl rfl rfl rfl
theorem dX10_write_38 : decode cX10_write 38 = .ok (.aload_n 0, 1) := fq_42 fk_cX10_write_2 6 rfl rfl
theorem wd_610 : Cond.fieldLink RX10 69 "QuarrelBridgesModel" "bookCouple" "[I" ∈ BG := BG_at4 106 (by decide +kernel) rfl
theorem dX10_write_39 : decode cX10_write 39 = .ok (.getfield 69, 3) := fq_180 fk_cX10_write_2 7 rfl rfl rfl rfl rfl
theorem dX10_write_42 : decode cX10_write 42 = .ok (.aload_n 0, 1) := fq_42 fk_cX10_write_2 10 rfl rfl
theorem dX10_write_43 : decode cX10_write 43 = .ok (.getfield 177, 3) := fq_180 fk_cX10_write_2 11 rfl rfl rfl rfl rfl
theorem dX10_write_46 : decode cX10_write 46 = .ok (.iload_n 1, 1) := fq_27 fk_cX10_write_2 14 rfl rfl
theorem dX10_write_47 : decode cX10_write 47 = .ok (.iastore, 1) := fq_79 fk_cX10_write_2 15 rfl rfl
theorem fk_cX10_write_3 : fq_ck cX10_write 48 [42, 180, 0, 72, 42, 180, 0, 177, 28, 79, 42, 89, 180, 0, 177, 4, 96, 181] := fq_of fW_cX10_write 3 rfl rfl
theorem dX10_write_48 : decode cX10_write 48 = .ok (.aload_n 0, 1) := fq_42 fk_cX10_write_3 0 rfl rfl
theorem wd_611 : Cond.fieldLink RX10 72 "QuarrelBridgesModel" "bookGrief" "[I" ∈ BG := BG_at4 107 (by decide +kernel) rfl
theorem dX10_write_49 : decode cX10_write 49 = .ok (.getfield 72, 3) := fq_180 fk_cX10_write_3 1 rfl rfl rfl rfl rfl
theorem dX10_write_52 : decode cX10_write 52 = .ok (.aload_n 0, 1) := fq_42 fk_cX10_write_3 4 rfl rfl
theorem dX10_write_53 : decode cX10_write 53 = .ok (.getfield 177, 3) := fq_180 fk_cX10_write_3 5 rfl rfl rfl rfl rfl
theorem dX10_write_56 : decode cX10_write 56 = .ok (.iload_n 2, 1) := fq_28 fk_cX10_write_3 8 rfl rfl
theorem dX10_write_57 : decode cX10_write 57 = .ok (.iastore, 1) := fq_79 fk_cX10_write_3 9 rfl rfl
theorem dX10_write_58 : decode cX10_write 58 = .ok (.aload_n 0, 1) := fq_42 fk_cX10_write_3 10 rfl rfl
theorem dX10_write_59 : decode cX10_write 59 = .ok (.dup, 1) := fq_89 fk_cX10_write_3 11 rfl rfl
theorem dX10_write_60 : decode cX10_write 60 = .ok (.getfield 177, 3) := fq_180 fk_cX10_write_3 12 rfl rfl rfl rfl rfl
theorem dX10_write_63 : decode cX10_write 63 = .ok (.iconst 1, 1) := fq_4 fk_cX10_write_3 15 rfl rfl
theorem fk_cX10_write_4 : fq_ck cX10_write 64 [96, 181, 0, 177, 42, 180, 0, 177, 172] := fq_of fW_cX10_write 4 rfl rfl
theorem dX10_write_64 : decode cX10_write 64 = .ok (.iadd, 1) := fq_96 fk_cX10_write_4 0 rfl rfl
theorem dX10_write_65 : decode cX10_write 65 = .ok (.putfield 177, 3) := fq_181 fk_cX10_write_4 1 rfl rfl rfl rfl rfl
theorem dX10_write_68 : decode cX10_write 68 = .ok (.aload_n 0, 1) := fq_42 fk_cX10_write_4 4 rfl rfl
theorem dX10_write_69 : decode cX10_write 69 = .ok (.getfield 177, 3) := fq_180 fk_cX10_write_4 5 rfl rfl rfl rfl rfl
theorem dX10_write_72 : decode cX10_write 72 = .ok (.ireturn, 1) := fq_172 fk_cX10_write_4 8 rfl rfl
theorem dX10_write_35 : decode cX10_write 35 = .ok (.ldc 97, 2) := fq_18 fk_cX10_write_2 3 rfl rfl rfl
theorem dX10_write_37 : decode cX10_write 37 = .ok (.ireturn, 1) := fq_172 fk_cX10_write_2 5 rfl rfl
theorem dX10_write_23 : decode cX10_write 23 = .ok (.ldc 93, 2) := fq_18 fk_cX10_write_1 7 rfl rfl rfl
theorem dX10_write_25 : decode cX10_write 25 = .ok (.ireturn, 1) := fq_172 fk_cX10_write_1 9 rfl rfl
theorem dX10_write_8 : decode cX10_write 8 = .ok (.ldc 199, 2) := fq_18 fk_cX10_write_0 8 rfl rfl rfl
theorem dX10_write_10 : decode cX10_write 10 = .ok (.ireturn, 1) := fq_172 fk_cX10_write_0 10 rfl rfl
def fw_cX10_keep : List (List Nat) := [[27, 133, 9, 10, 184, 0, 84, 154, 0, 6, 18, 199, 172, 42, 3, 17, 1, 122], [1, 122, 16, 42, 27, 104, 96, 182, 0, 229, 42, 180, 0, 13, 27, 4, 84, 42], [84, 42, 3, 181, 0, 180, 4, 172]]
theorem fW_cX10_keep : fq_wins 3 cX10_keep.data.toList = fw_cX10_keep := by decide +kernel
theorem fk_cX10_keep_0 : fq_ck cX10_keep 0 [27, 133, 9, 10, 184, 0, 84, 154, 0, 6, 18, 199, 172, 42, 3, 17, 1, 122] := fq_of fW_cX10_keep 0 rfl rfl
theorem dX10_keep_0 : decode cX10_keep 0 = .ok (.iload_n 1, 1) := fq_27 fk_cX10_keep_0 0 rfl rfl
theorem dX10_keep_1 : decode cX10_keep 1 = .ok (.i2l, 1) := fq_133 fk_cX10_keep_0 1 rfl rfl
theorem dX10_keep_2 : decode cX10_keep 2 = .ok (.lconst 0, 1) := fq_9 fk_cX10_keep_0 2 rfl rfl
theorem dX10_keep_3 : decode cX10_keep 3 = .ok (.lconst 1, 1) := fq_10 fk_cX10_keep_0 3 rfl rfl
theorem dX10_keep_4 : decode cX10_keep 4 = .ok (.invokestatic 84, 3) := fq_184 fk_cX10_keep_0 4 rfl rfl rfl rfl rfl
theorem dX10_keep_7 : decode cX10_keep 7 = .ok (.ifCond .ne 6, 3) := fq_154 fk_cX10_keep_0 7 rfl rfl rfl rfl rfl
theorem dX10_keep_13 : decode cX10_keep 13 = .ok (.aload_n 0, 1) := fq_42 fk_cX10_keep_0 13 rfl rfl
theorem dX10_keep_14 : decode cX10_keep 14 = .ok (.iconst 0, 1) := fq_3 fk_cX10_keep_0 14 rfl rfl
theorem dX10_keep_15 : decode cX10_keep 15 = .ok (.sipush 378, 3) := fq_17 fk_cX10_keep_0 15 rfl rfl rfl rfl rfl
theorem fk_cX10_keep_1 : fq_ck cX10_keep 16 [1, 122, 16, 42, 27, 104, 96, 182, 0, 229, 42, 180, 0, 13, 27, 4, 84, 42] := fq_of fW_cX10_keep 1 rfl rfl
theorem dX10_keep_18 : decode cX10_keep 18 = .ok (.bipush 42, 2) := fq_16 fk_cX10_keep_1 2 rfl rfl rfl rfl
theorem dX10_keep_20 : decode cX10_keep 20 = .ok (.iload_n 1, 1) := fq_27 fk_cX10_keep_1 4 rfl rfl
theorem dX10_keep_21 : decode cX10_keep 21 = .ok (.imul, 1) := fq_104 fk_cX10_keep_1 5 rfl rfl
theorem dX10_keep_22 : decode cX10_keep 22 = .ok (.iadd, 1) := fq_96 fk_cX10_keep_1 6 rfl rfl
theorem dX10_keep_23 : decode cX10_keep 23 = .ok (.invokevirtual 229, 3) := fq_182 fk_cX10_keep_1 7 rfl rfl rfl rfl rfl
theorem dX10_keep_26 : decode cX10_keep 26 = .ok (.aload_n 0, 1) := fq_42 fk_cX10_keep_1 10 rfl rfl
theorem wd_612 : Cond.fieldLink RX10 13 "QuarrelBridgesModel" "isKept" "[Z" ∈ BG := BG_at4 64 (by decide +kernel) rfl
theorem dX10_keep_27 : decode cX10_keep 27 = .ok (.getfield 13, 3) := fq_180 fk_cX10_keep_1 11 rfl rfl rfl rfl rfl
theorem dX10_keep_30 : decode cX10_keep 30 = .ok (.iload_n 1, 1) := fq_27 fk_cX10_keep_1 14 rfl rfl
theorem dX10_keep_31 : decode cX10_keep 31 = .ok (.iconst 1, 1) := fq_4 fk_cX10_keep_1 15 rfl rfl
theorem fk_cX10_keep_2 : fq_ck cX10_keep 32 [84, 42, 3, 181, 0, 180, 4, 172] := fq_of fW_cX10_keep 2 rfl rfl
theorem dX10_keep_32 : decode cX10_keep 32 = .ok (.bastore, 1) := fq_84 fk_cX10_keep_2 0 rfl rfl
theorem dX10_keep_33 : decode cX10_keep 33 = .ok (.aload_n 0, 1) := fq_42 fk_cX10_keep_2 1 rfl rfl
theorem dX10_keep_34 : decode cX10_keep 34 = .ok (.iconst 0, 1) := fq_3 fk_cX10_keep_2 2 rfl rfl
theorem dX10_keep_35 : decode cX10_keep 35 = .ok (.putfield 180, 3) := fq_181 fk_cX10_keep_2 3 rfl rfl rfl rfl rfl
theorem dX10_keep_38 : decode cX10_keep 38 = .ok (.iconst 1, 1) := fq_4 fk_cX10_keep_2 6 rfl rfl
theorem dX10_keep_39 : decode cX10_keep 39 = .ok (.ireturn, 1) := fq_172 fk_cX10_keep_2 7 rfl rfl
theorem dX10_keep_10 : decode cX10_keep 10 = .ok (.ldc 199, 2) := fq_18 fk_cX10_keep_0 10 rfl rfl rfl
theorem dX10_keep_12 : decode cX10_keep 12 = .ok (.ireturn, 1) := fq_172 fk_cX10_keep_0 12 rfl rfl
def fw_cX10_goBack : List (List Nat) := [[27, 133, 9, 10, 184, 0, 84, 154, 0, 6, 18, 199, 172, 42, 180, 0, 13, 27], [13, 27, 51, 154, 0, 6, 18, 233, 172, 42, 17, 1, 122, 16, 42, 27, 104, 96], [104, 96, 3, 182, 0, 229, 42, 3, 181, 0, 180, 4, 172]]
theorem fW_cX10_goBack : fq_wins 3 cX10_goBack.data.toList = fw_cX10_goBack := by decide +kernel
theorem fk_cX10_goBack_0 : fq_ck cX10_goBack 0 [27, 133, 9, 10, 184, 0, 84, 154, 0, 6, 18, 199, 172, 42, 180, 0, 13, 27] := fq_of fW_cX10_goBack 0 rfl rfl
theorem dX10_goBack_0 : decode cX10_goBack 0 = .ok (.iload_n 1, 1) := fq_27 fk_cX10_goBack_0 0 rfl rfl
theorem dX10_goBack_1 : decode cX10_goBack 1 = .ok (.i2l, 1) := fq_133 fk_cX10_goBack_0 1 rfl rfl
theorem dX10_goBack_2 : decode cX10_goBack 2 = .ok (.lconst 0, 1) := fq_9 fk_cX10_goBack_0 2 rfl rfl
theorem dX10_goBack_3 : decode cX10_goBack 3 = .ok (.lconst 1, 1) := fq_10 fk_cX10_goBack_0 3 rfl rfl
theorem dX10_goBack_4 : decode cX10_goBack 4 = .ok (.invokestatic 84, 3) := fq_184 fk_cX10_goBack_0 4 rfl rfl rfl rfl rfl
theorem dX10_goBack_7 : decode cX10_goBack 7 = .ok (.ifCond .ne 6, 3) := fq_154 fk_cX10_goBack_0 7 rfl rfl rfl rfl rfl
theorem dX10_goBack_13 : decode cX10_goBack 13 = .ok (.aload_n 0, 1) := fq_42 fk_cX10_goBack_0 13 rfl rfl
theorem dX10_goBack_14 : decode cX10_goBack 14 = .ok (.getfield 13, 3) := fq_180 fk_cX10_goBack_0 14 rfl rfl rfl rfl rfl
theorem fk_cX10_goBack_1 : fq_ck cX10_goBack 16 [13, 27, 51, 154, 0, 6, 18, 233, 172, 42, 17, 1, 122, 16, 42, 27, 104, 96] := fq_of fW_cX10_goBack 1 rfl rfl
theorem dX10_goBack_17 : decode cX10_goBack 17 = .ok (.iload_n 1, 1) := fq_27 fk_cX10_goBack_1 1 rfl rfl
theorem dX10_goBack_18 : decode cX10_goBack 18 = .ok (.baload, 1) := fq_51 fk_cX10_goBack_1 2 rfl rfl
theorem dX10_goBack_19 : decode cX10_goBack 19 = .ok (.ifCond .ne 6, 3) := fq_154 fk_cX10_goBack_1 3 rfl rfl rfl rfl rfl
theorem dX10_goBack_25 : decode cX10_goBack 25 = .ok (.aload_n 0, 1) := fq_42 fk_cX10_goBack_1 9 rfl rfl
theorem dX10_goBack_26 : decode cX10_goBack 26 = .ok (.sipush 378, 3) := fq_17 fk_cX10_goBack_1 10 rfl rfl rfl rfl rfl
theorem dX10_goBack_29 : decode cX10_goBack 29 = .ok (.bipush 42, 2) := fq_16 fk_cX10_goBack_1 13 rfl rfl rfl rfl
theorem dX10_goBack_31 : decode cX10_goBack 31 = .ok (.iload_n 1, 1) := fq_27 fk_cX10_goBack_1 15 rfl rfl
theorem fk_cX10_goBack_2 : fq_ck cX10_goBack 32 [104, 96, 3, 182, 0, 229, 42, 3, 181, 0, 180, 4, 172] := fq_of fW_cX10_goBack 2 rfl rfl
theorem dX10_goBack_32 : decode cX10_goBack 32 = .ok (.imul, 1) := fq_104 fk_cX10_goBack_2 0 rfl rfl
theorem dX10_goBack_33 : decode cX10_goBack 33 = .ok (.iadd, 1) := fq_96 fk_cX10_goBack_2 1 rfl rfl
theorem dX10_goBack_34 : decode cX10_goBack 34 = .ok (.iconst 0, 1) := fq_3 fk_cX10_goBack_2 2 rfl rfl
theorem dX10_goBack_35 : decode cX10_goBack 35 = .ok (.invokevirtual 229, 3) := fq_182 fk_cX10_goBack_2 3 rfl rfl rfl rfl rfl
theorem dX10_goBack_38 : decode cX10_goBack 38 = .ok (.aload_n 0, 1) := fq_42 fk_cX10_goBack_2 6 rfl rfl
theorem dX10_goBack_39 : decode cX10_goBack 39 = .ok (.iconst 0, 1) := fq_3 fk_cX10_goBack_2 7 rfl rfl
theorem dX10_goBack_40 : decode cX10_goBack 40 = .ok (.putfield 180, 3) := fq_181 fk_cX10_goBack_2 8 rfl rfl rfl rfl rfl
theorem dX10_goBack_43 : decode cX10_goBack 43 = .ok (.iconst 1, 1) := fq_4 fk_cX10_goBack_2 11 rfl rfl
theorem dX10_goBack_44 : decode cX10_goBack 44 = .ok (.ireturn, 1) := fq_172 fk_cX10_goBack_2 12 rfl rfl
theorem dX10_goBack_22 : decode cX10_goBack 22 = .ok (.ldc 233, 2) := fq_18 fk_cX10_goBack_1 6 rfl rfl rfl
theorem dX10_goBack_24 : decode cX10_goBack 24 = .ok (.ireturn, 1) := fq_172 fk_cX10_goBack_1 8 rfl rfl
theorem dX10_goBack_10 : decode cX10_goBack 10 = .ok (.ldc 199, 2) := fq_18 fk_cX10_goBack_0 10 rfl rfl rfl
theorem dX10_goBack_12 : decode cX10_goBack 12 = .ok (.ireturn, 1) := fq_172 fk_cX10_goBack_0 12 rfl rfl
noncomputable def f_m_tear (G : Nat → Int32) : Int32 × (Nat → Int32) := ((G 42), (upd G 42 0))
def S_m_tear (G : Nat → Int32) : Prop := True
def rm_m_tear : Room := { frames := 0, cells := 0, slots := 0, locals := 0 }
set_option maxHeartbeats 4000000 in
set_option maxRecDepth 100000 in
theorem m_tear {l : Launch} {D : va_G} {cI cZ : ClassId} {sz : Nat} (Rf : Nat → Nat) (h : Nat) (G : Nat → Int32) (hF : S_m_tear G) : KI l yX10_tear cX10_tear 2 (some .int) rm_m_tear D cI cZ [.ref h] sz [(h, .inr (10, ML G Rf))] (fun (r : Int32) (u : (Nat → Int32)) => (r, u) = f_m_tear G) (fun (u : (Nat → Int32)) => [(h, .inr (10, ML u Rf))]) := by
  refine KI.go rfl (Nat.le_of_ble_eq_true rfl) ?_
  intro p e s m args below meth c ls A Q hx hb hml hts hown hin hP hK hD hS hA hN hl hret
  have hl : lv_has ls 2 [(0, .ref h)] := hl
  rw [S_m_tear] at hF
  obtain ⟨RES, hE⟩ : ∃ xRES, f_m_tear G = xRES := ⟨_, rfl⟩
  rw [hE] at hret
  rw [f_m_tear] at hE
  refine lv_aload_n hx hb dX10_tear_0 rfl (lv_at hl 0 rfl) ?_
  refine va_get (D := D) (ci := 10) (v := .int (G 42)) (C := RX10) (T := TX10) (N := 45) hx hb hts iX10 hown hK hP 0 rfl rfl 42 (Nat.le_of_ble_eq_true rfl) (hts _ wd_609) (fun _ h9 => h9) rfl dX10_tear_1 ?_
  refine lv_istore_n (lv' := [(1, .int (G 42)), (0, .ref h)]) hx hb dX10_tear_4 rfl hl (Nat.le_of_ble_eq_true rfl) rfl (fun ls hl => ?_)
  refine lv_aload_n hx hb dX10_tear_5 rfl (lv_at hl 1 rfl) ?_
  refine lv_iconst (v := 0) hx hb dX10_tear_6 rfl ?_
  refine va_put (D := D) (ci := 10) (v := .int 0) (ty := .int) (C := RX10) (T := TX10) (N := 45) hx hb hts iX10 tyX10 tyX10_ok nmX10 hown hK hP hD hS 0 rfl rfl 42 (Nat.le_of_ble_eq_true rfl) (hts _ wd_609) (fun _ h9 => h9) rfl (by decide +kernel) rfl rfl (Nat.le_of_ble_eq_true rfl) dX10_tear_7 (fun H locs hP hD hS => ?_)
  have hP : va_P D classes [(h, .inr (10, ML (upd G 42 0) Rf))] H := hP
  have hD : va_D A [(h, .inr (10, ML (upd G 42 0) Rf))] := hD
  refine lv_iload_n hx hb dX10_tear_10 rfl (lv_at hl 0 rfl) ?_
  exact hret (G 42) (upd G 42 0) _ _ _ _ dX10_tear_11 rfl hE hP hD hS
noncomputable def f_m_seed (f0 : Nat → Int32) (v_ : Int32) : Int32 × (Nat → Int32) := (if 0 ≤ v_ then ((f0 (41 : Int32).toNatClampNeg), (upd f0 (41 : Int32).toNatClampNeg v_)) else ((-1000000002), f0))
def S_m_seed (f0 : Nat → Int32) (v_ : Int32) : Prop := ((0 ≤ v_ → True) ∧ (¬ 0 ≤ v_ → True))
def rm_m_seed : Room := { frames := 0, cells := 0, slots := 0, locals := 0 }
set_option maxHeartbeats 4000000 in
set_option maxRecDepth 100000 in
theorem m_seed {l : Launch} {D : va_G} {cI cZ : ClassId} {sz : Nat} (Rf : Nat → Nat) (h : Nat) (G : Nat → Int32) (f0 : Nat → Int32) (v_ : Int32) (hF : S_m_seed f0 v_) : KI l yX10_seed cX10_seed 3 (some .int) rm_m_seed D cI cZ [.ref h, .int v_] sz [(h, .inr (10, ML G Rf)), ((Rf 0), .inl (cI, 1302, .inl f0))] (fun (r : Int32) (u : (Nat → Int32)) => (r, u) = f_m_seed f0 v_) (fun (u : (Nat → Int32)) => [(h, .inr (10, ML G Rf)), ((Rf 0), .inl (cI, 1302, .inl u))]) := by
  refine KI.go rfl (Nat.le_of_ble_eq_true rfl) ?_
  intro p e s m args below meth c ls A Q hx hb hml hts hown hin hP hK hD hS hA hN hl hret
  have hl : lv_has ls 3 [(0, .ref h), (1, .int v_)] := hl
  rw [S_m_seed] at hF
  obtain ⟨RES, hE⟩ : ∃ xRES, f_m_seed f0 v_ = xRES := ⟨_, rfl⟩
  rw [hE] at hret
  rw [f_m_seed] at hE
  refine lv_iload_n hx hb dX10_seed_0 rfl (lv_at hl 1 rfl) ?_
  refine lv_if_ge (tgt := 7) hx hb dX10_seed_1 rfl (fun c_1 => ?_) (fun c_1 => ?_)
  · replace hF := hF.1 c_1
    rw [if_pos c_1] at hE
    refine lv_aload_n hx hb dX10_seed_7 rfl (lv_at hl 0 rfl) ?_
    refine va_get (D := D) (ci := 10) (v := .ref (Rf 0)) (C := RX10) (T := TX10) (N := 45) hx hb hts iX10 hown hK hP 0 rfl rfl 0 (Nat.le_of_ble_eq_true rfl) (hts _ wd_491) (fun _ h9 => h9) rfl dX10_seed_8 ?_
    refine lv_bipush (v := 41) hx hb dX10_seed_11 rfl ?_
    refine va_iald hx hb hK hP 1 0 rfl rfl (show ¬ ((41 : Int32) < 0 ∨ 1302 ≤ (41 : Int32).toNatClampNeg) by decide +kernel) dX10_seed_13 ?_
    refine lv_istore_n (lv' := [(2, .int (f0 (41 : Int32).toNatClampNeg)), (0, .ref h), (1, .int v_)]) hx hb dX10_seed_14 rfl hl (Nat.le_of_ble_eq_true rfl) rfl (fun ls hl => ?_)
    refine lv_aload_n hx hb dX10_seed_15 rfl (lv_at hl 1 rfl) ?_
    refine va_get (D := D) (ci := 10) (v := .ref (Rf 0)) (C := RX10) (T := TX10) (N := 45) hx hb hts iX10 hown hK hP 0 rfl rfl 0 (Nat.le_of_ble_eq_true rfl) (hts _ wd_491) (fun _ h9 => h9) rfl dX10_seed_16 ?_
    refine lv_bipush (v := 41) hx hb dX10_seed_19 rfl ?_
    refine lv_iload_n hx hb dX10_seed_21 rfl (lv_at hl 2 rfl) ?_
    refine va_iast hx hb hK hP hD hS 1 0 rfl rfl (show ¬ ((41 : Int32) < 0 ∨ 1302 ≤ (41 : Int32).toNatClampNeg) by decide +kernel) dX10_seed_22 (fun H locs hP hD hS => ?_)
    have hP : va_P D classes [(h, .inr (10, ML G Rf)), ((Rf 0), .inl (cI, 1302, .inl (upd f0 (41 : Int32).toNatClampNeg v_)))] H := hP
    have hD : va_D A [(h, .inr (10, ML G Rf)), ((Rf 0), .inl (cI, 1302, .inl (upd f0 (41 : Int32).toNatClampNeg v_)))] := hD
    refine lv_iload_n hx hb dX10_seed_23 rfl (lv_at hl 0 rfl) ?_
    exact hret (f0 (41 : Int32).toNatClampNeg) (upd f0 (41 : Int32).toNatClampNeg v_) _ _ _ _ dX10_seed_24 rfl hE hP hD hS
  · replace hF := hF.2 c_1
    rw [if_neg c_1] at hE
    refine lv_ldc (v := (-1000000002)) hx hb hown (hts _ wd_507) dX10_seed_4 ?_
    exact hret (-1000000002) f0 _ _ _ _ dX10_seed_6 rfl hE hP hD hS
noncomputable def f_m_write (G : Nat → Int32) (f43 : Nat → Int32) (f44 : Nat → Int32) (c_ : Int32) (g_ : Int32) : Int32 × (Nat → Int32) × (Nat → Int32) × (Nat → Int32) := (if (f_m_isCouple G c_) = 0 then ((-1000000001), G, f43, f44) else (if (f_m_in g_.toInt64 0 99) = 0 then ((-1000000002), G, f43, f44) else (if (G 42) = 15 then ((-1000000004), G, f43, f44) else (((G 42) + 1), (upd G 42 ((G 42) + 1)), (upd f43 ((G 42) : Int32).toNatClampNeg c_), (upd f44 ((G 42) : Int32).toNatClampNeg g_)))))
def S_m_write (G : Nat → Int32) (f43 : Nat → Int32) (f44 : Nat → Int32) (c_ : Int32) (g_ : Int32) : Prop := ((S_m_isCouple G c_) ∧ (((f_m_isCouple G c_) = 0 → True) ∧ (¬ (f_m_isCouple G c_) = 0 → ((S_m_in g_.toInt64 0 99) ∧ (((f_m_in g_.toInt64 0 99) = 0 → True) ∧ (¬ (f_m_in g_.toInt64 0 99) = 0 → (((G 42) = 15 → True) ∧ (¬ (G 42) = 15 → (vp_in (G 42) 15 ∧ (vp_in (G 42) 15 ∧ True))))))))))
def rm_m_write : Room := { frames := 2, cells := 0, slots := 0, locals := 46 }
set_option maxHeartbeats 4000000 in
set_option maxRecDepth 100000 in
theorem m_write {l : Launch} {D : va_G} {cI cZ : ClassId} {sz : Nat} (Rf : Nat → Nat) (h : Nat) (G : Nat → Int32) (f43 : Nat → Int32) (f44 : Nat → Int32) (c_ : Int32) (g_ : Int32) (hF : S_m_write G f43 f44 c_ g_) : KI l yX10_write cX10_write 3 (some .int) rm_m_write D cI cZ [.ref h, .int c_, .int g_] sz [(h, .inr (10, ML G Rf)), ((Rf 43), .inl (cI, 15, .inl f43)), ((Rf 44), .inl (cI, 15, .inl f44))] (fun (r : Int32) (u : (Nat → Int32) × (Nat → Int32) × (Nat → Int32)) => (r, u) = f_m_write G f43 f44 c_ g_) (fun (u : (Nat → Int32) × (Nat → Int32) × (Nat → Int32)) => [(h, .inr (10, ML u.1 Rf)), ((Rf 43), .inl (cI, 15, .inl u.2.1)), ((Rf 44), .inl (cI, 15, .inl u.2.2))]) := by
  refine KI.go rfl (Nat.le_of_ble_eq_true rfl) ?_
  intro p e s m args below meth c ls A Q hx hb hml hts hown hin hP hK hD hS hA hN hl hret
  have hl : lv_has ls 3 [(0, .ref h), (1, .int c_), (2, .int g_)] := hl
  rw [S_m_write] at hF
  obtain ⟨RES, hE⟩ : ∃ xRES, f_m_write G f43 f44 c_ g_ = xRES := ⟨_, rfl⟩
  rw [hE] at hret
  rw [f_m_write] at hE
  refine lv_aload_n hx hb dX10_write_0 rfl (lv_at hl 0 rfl) ?_
  refine lv_iload_n hx hb dX10_write_1 rfl (lv_at hl 1 rfl) ?_
  obtain ⟨hs_1, hF⟩ := hF
  refine cVi (wr := [((Rf 43), .inl (cI, 15, .inl f43)), ((Rf 44), .inl (cI, 15, .inl f44))]) (rest := []) (m_isCouple Rf h G c_ hs_1) okV_X10_isCouple wd_581 hx hb hml hown hts hK hP hD hS hA hN hl.1 [0] [1, 2] rfl rfl rfl rfl (of_decide_eq_true rfl) rfl rfl rfl (Nat.le_of_ble_eq_true rfl) (Nat.le_of_ble_eq_true rfl) (Nat.le_of_ble_eq_true rfl) (Nat.le_of_ble_eq_true rfl) (Nat.le_of_ble_eq_true rfl) dX10_write_2 (fun r_3 u_2 H locs hw_u_2 hP hD hS => ?_)
  replace hw_u_2 : r_3 = (f_m_isCouple G c_) := hw_u_2
  rw [hw_u_2]
  clear hw_u_2
  have hP : va_P D classes [((Rf 43), .inl (cI, 15, .inl f43)), ((Rf 44), .inl (cI, 15, .inl f44)), (h, .inr (10, ML G Rf))] H := hP
  have hD : va_D A [((Rf 43), .inl (cI, 15, .inl f43)), ((Rf 44), .inl (cI, 15, .inl f44)), (h, .inr (10, ML G Rf))] := hD
  refine lv_if_ne (tgt := 11) hx hb dX10_write_5 rfl (fun c_4 => ?_) (fun c_4 => ?_)
  · replace hF := hF.2 c_4
    rw [if_neg c_4] at hE
    refine lv_iload_n hx hb dX10_write_11 rfl (lv_at hl 2 rfl) ?_
    refine lv_i2l (v := g_.toInt64) hx hb dX10_write_12 rfl ?_
    refine lv_lconst (v := 0) hx hb dX10_write_13 rfl ?_
    refine lv_ldc2 (v := 99) hx hb hown (hts _ wd_599) dX10_write_14 ?_
    obtain ⟨hs_5, hF⟩ := hF
    refine cSi (wr := [((Rf 43), .inl (cI, 15, .inl f43)), ((Rf 44), .inl (cI, 15, .inl f44)), (h, .inr (10, ML G Rf))]) (rest := []) (m_in g_.toInt64 0 99 hs_5) okS_X10_in wd_495 hx hb hml hown hts hK hP hD hS hA hN hl.1 [] [0, 1, 2] rfl rfl rfl rfl (of_decide_eq_true rfl) rfl (Nat.le_of_ble_eq_true rfl) (Nat.le_of_ble_eq_true rfl) (Nat.le_of_ble_eq_true rfl) (Nat.le_of_ble_eq_true rfl) (Nat.le_of_ble_eq_true rfl) dX10_write_17 (fun r_7 u_6 H locs hw_u_6 hP hD hS => ?_)
    replace hw_u_6 : r_7 = (f_m_in g_.toInt64 0 99) := hw_u_6
    rw [hw_u_6]
    clear hw_u_6
    have hP : va_P D classes [((Rf 43), .inl (cI, 15, .inl f43)), ((Rf 44), .inl (cI, 15, .inl f44)), (h, .inr (10, ML G Rf))] H := hP
    have hD : va_D A [((Rf 43), .inl (cI, 15, .inl f43)), ((Rf 44), .inl (cI, 15, .inl f44)), (h, .inr (10, ML G Rf))] := hD
    refine lv_if_ne (tgt := 26) hx hb dX10_write_20 rfl (fun c_8 => ?_) (fun c_8 => ?_)
    · replace hF := hF.2 c_8
      rw [if_neg c_8] at hE
      refine lv_aload_n hx hb dX10_write_26 rfl (lv_at hl 0 rfl) ?_
      refine va_get (D := D) (ci := 10) (v := .int (G 42)) (C := RX10) (T := TX10) (N := 45) hx hb hts iX10 hown hK hP 2 rfl rfl 42 (Nat.le_of_ble_eq_true rfl) (hts _ wd_609) (fun _ h9 => h9) rfl dX10_write_27 ?_
      refine lv_bipush (v := 15) hx hb dX10_write_30 rfl ?_
      refine lv_icmp_ne (tgt := 38) hx hb dX10_write_32 rfl (fun c_9 => ?_) (fun c_9 => ?_)
      · replace hF := hF.2 c_9
        rw [if_neg c_9] at hE
        refine lv_aload_n hx hb dX10_write_38 rfl (lv_at hl 0 rfl) ?_
        refine va_get (D := D) (ci := 10) (v := .ref (Rf 43)) (C := RX10) (T := TX10) (N := 45) hx hb hts iX10 hown hK hP 2 rfl rfl 43 (Nat.le_of_ble_eq_true rfl) (hts _ wd_610) (fun _ h9 => h9) rfl dX10_write_39 ?_
        refine lv_aload_n hx hb dX10_write_42 rfl (lv_at hl 0 rfl) ?_
        refine va_get (D := D) (ci := 10) (v := .int (G 42)) (C := RX10) (T := TX10) (N := 45) hx hb hts iX10 hown hK hP 2 rfl rfl 42 (Nat.le_of_ble_eq_true rfl) (hts _ wd_609) (fun _ h9 => h9) rfl dX10_write_43 ?_
        refine lv_iload_n hx hb dX10_write_46 rfl (lv_at hl 1 rfl) ?_
        obtain ⟨hv_10, hF⟩ := hF
        refine va_iast hx hb hK hP hD hS 0 0 rfl rfl hv_10 dX10_write_47 (fun H locs hP hD hS => ?_)
        have hP : va_P D classes [((Rf 43), .inl (cI, 15, .inl (upd f43 ((G 42) : Int32).toNatClampNeg c_))), ((Rf 44), .inl (cI, 15, .inl f44)), (h, .inr (10, ML G Rf))] H := hP
        have hD : va_D A [((Rf 43), .inl (cI, 15, .inl (upd f43 ((G 42) : Int32).toNatClampNeg c_))), ((Rf 44), .inl (cI, 15, .inl f44)), (h, .inr (10, ML G Rf))] := hD
        refine lv_aload_n hx hb dX10_write_48 rfl (lv_at hl 0 rfl) ?_
        refine va_get (D := D) (ci := 10) (v := .ref (Rf 44)) (C := RX10) (T := TX10) (N := 45) hx hb hts iX10 hown hK hP 2 rfl rfl 44 (Nat.le_of_ble_eq_true rfl) (hts _ wd_611) (fun _ h9 => h9) rfl dX10_write_49 ?_
        refine lv_aload_n hx hb dX10_write_52 rfl (lv_at hl 0 rfl) ?_
        refine va_get (D := D) (ci := 10) (v := .int (G 42)) (C := RX10) (T := TX10) (N := 45) hx hb hts iX10 hown hK hP 2 rfl rfl 42 (Nat.le_of_ble_eq_true rfl) (hts _ wd_609) (fun _ h9 => h9) rfl dX10_write_53 ?_
        refine lv_iload_n hx hb dX10_write_56 rfl (lv_at hl 2 rfl) ?_
        obtain ⟨hv_11, hF⟩ := hF
        refine va_iast hx hb hK hP hD hS 1 0 rfl rfl hv_11 dX10_write_57 (fun H locs hP hD hS => ?_)
        have hP : va_P D classes [((Rf 43), .inl (cI, 15, .inl (upd f43 ((G 42) : Int32).toNatClampNeg c_))), ((Rf 44), .inl (cI, 15, .inl (upd f44 ((G 42) : Int32).toNatClampNeg g_))), (h, .inr (10, ML G Rf))] H := hP
        have hD : va_D A [((Rf 43), .inl (cI, 15, .inl (upd f43 ((G 42) : Int32).toNatClampNeg c_))), ((Rf 44), .inl (cI, 15, .inl (upd f44 ((G 42) : Int32).toNatClampNeg g_))), (h, .inr (10, ML G Rf))] := hD
        refine lv_aload_n hx hb dX10_write_58 rfl (lv_at hl 0 rfl) ?_
        refine lv_dup hx hb dX10_write_59 rfl ?_
        refine va_get (D := D) (ci := 10) (v := .int (G 42)) (C := RX10) (T := TX10) (N := 45) hx hb hts iX10 hown hK hP 2 rfl rfl 42 (Nat.le_of_ble_eq_true rfl) (hts _ wd_609) (fun _ h9 => h9) rfl dX10_write_60 ?_
        refine lv_iconst (v := 1) hx hb dX10_write_63 rfl ?_
        refine lv_iadd hx hb dX10_write_64 ?_
        refine va_put (D := D) (ci := 10) (v := .int ((G 42) + 1)) (ty := .int) (C := RX10) (T := TX10) (N := 45) hx hb hts iX10 tyX10 tyX10_ok nmX10 hown hK hP hD hS 2 rfl rfl 42 (Nat.le_of_ble_eq_true rfl) (hts _ wd_609) (fun _ h9 => h9) rfl (by decide +kernel) rfl rfl (Nat.le_of_ble_eq_true rfl) dX10_write_65 (fun H locs hP hD hS => ?_)
        have hP : va_P D classes [((Rf 43), .inl (cI, 15, .inl (upd f43 ((G 42) : Int32).toNatClampNeg c_))), ((Rf 44), .inl (cI, 15, .inl (upd f44 ((G 42) : Int32).toNatClampNeg g_))), (h, .inr (10, ML (upd G 42 ((G 42) + 1)) Rf))] H := hP
        have hD : va_D A [((Rf 43), .inl (cI, 15, .inl (upd f43 ((G 42) : Int32).toNatClampNeg c_))), ((Rf 44), .inl (cI, 15, .inl (upd f44 ((G 42) : Int32).toNatClampNeg g_))), (h, .inr (10, ML (upd G 42 ((G 42) + 1)) Rf))] := hD
        refine lv_aload_n hx hb dX10_write_68 rfl (lv_at hl 0 rfl) ?_
        refine va_get (D := D) (ci := 10) (v := .int ((G 42) + 1)) (C := RX10) (T := TX10) (N := 45) hx hb hts iX10 hown hK hP 2 rfl rfl 42 (Nat.le_of_ble_eq_true rfl) (hts _ wd_609) (fun _ h9 => h9) rfl dX10_write_69 ?_
        exact hret ((G 42) + 1) ((upd G 42 ((G 42) + 1)), (upd f43 ((G 42) : Int32).toNatClampNeg c_), (upd f44 ((G 42) : Int32).toNatClampNeg g_)) _ _ _ _ dX10_write_72 rfl hE (cutP (isC := [2, 0, 1]) hP rfl) (cutD (isC := [2, 0, 1]) hD rfl rfl) hS
      · replace hF := hF.1 c_9
        rw [if_pos c_9] at hE
        refine lv_ldc (v := (-1000000004)) hx hb hown (hts _ wd_506) dX10_write_35 ?_
        exact hret (-1000000004) (G, f43, f44) _ _ _ _ dX10_write_37 rfl hE (cutP (isC := [2, 0, 1]) hP rfl) (cutD (isC := [2, 0, 1]) hD rfl rfl) hS
    · replace hF := hF.1 c_8
      rw [if_pos c_8] at hE
      refine lv_ldc (v := (-1000000002)) hx hb hown (hts _ wd_507) dX10_write_23 ?_
      exact hret (-1000000002) (G, f43, f44) _ _ _ _ dX10_write_25 rfl hE (cutP (isC := [2, 0, 1]) hP rfl) (cutD (isC := [2, 0, 1]) hD rfl rfl) hS
  · replace hF := hF.1 c_4
    rw [if_pos c_4] at hE
    refine lv_ldc (v := (-1000000001)) hx hb hown (hts _ wd_580) dX10_write_8 ?_
    exact hret (-1000000001) (G, f43, f44) _ _ _ _ dX10_write_10 rfl hE (cutP (isC := [2, 0, 1]) hP rfl) (cutD (isC := [2, 0, 1]) hD rfl rfl) hS
noncomputable def f_m_keep (G : Nat → Int32) (f0 : Nat → Int32) (f1 : Nat → Int32) (i_ : Int32) : Int32 × (Nat → Int32) × (Nat → Int32) × (Nat → Int32) := (if (f_m_in i_.toInt64 0 1) = 0 then ((-1000000001), G, f0, f1) else (1, (upd G 2 0), (f_m_copy f0 0 (378 + (42 * i_))), (upd f1 (i_ : Int32).toNatClampNeg (vp_nar .boolean 1))))
def S_m_keep (G : Nat → Int32) (f0 : Nat → Int32) (f1 : Nat → Int32) (i_ : Int32) : Prop := ((S_m_in i_.toInt64 0 1) ∧ (((f_m_in i_.toInt64 0 1) = 0 → True) ∧ (¬ (f_m_in i_.toInt64 0 1) = 0 → ((S_m_copy f0 0 (378 + (42 * i_))) ∧ (vp_in i_ 2 ∧ True)))))
def rm_m_keep : Room := { frames := 1, cells := 0, slots := 0, locals := 25 }
set_option maxHeartbeats 4000000 in
set_option maxRecDepth 100000 in
theorem m_keep {l : Launch} {D : va_G} {cI cZ : ClassId} {sz : Nat} (Rf : Nat → Nat) (h : Nat) (G : Nat → Int32) (f0 : Nat → Int32) (f1 : Nat → Int32) (i_ : Int32) (hF : S_m_keep G f0 f1 i_) : KI l yX10_keep cX10_keep 2 (some .int) rm_m_keep D cI cZ [.ref h, .int i_] sz [(h, .inr (10, ML G Rf)), ((Rf 0), .inl (cI, 1302, .inl f0)), ((Rf 1), .inl (cZ, 2, .inl f1))] (fun (r : Int32) (u : (Nat → Int32) × (Nat → Int32) × (Nat → Int32)) => (r, u) = f_m_keep G f0 f1 i_) (fun (u : (Nat → Int32) × (Nat → Int32) × (Nat → Int32)) => [(h, .inr (10, ML u.1 Rf)), ((Rf 0), .inl (cI, 1302, .inl u.2.1)), ((Rf 1), .inl (cZ, 2, .inl u.2.2))]) := by
  refine KI.go rfl (Nat.le_of_ble_eq_true rfl) ?_
  intro p e s m args below meth c ls A Q hx hb hml hts hown hin hP hK hD hS hA hN hl hret
  have hl : lv_has ls 2 [(0, .ref h), (1, .int i_)] := hl
  rw [S_m_keep] at hF
  obtain ⟨RES, hE⟩ : ∃ xRES, f_m_keep G f0 f1 i_ = xRES := ⟨_, rfl⟩
  rw [hE] at hret
  rw [f_m_keep] at hE
  refine lv_iload_n hx hb dX10_keep_0 rfl (lv_at hl 1 rfl) ?_
  refine lv_i2l (v := i_.toInt64) hx hb dX10_keep_1 rfl ?_
  refine lv_lconst (v := 0) hx hb dX10_keep_2 rfl ?_
  refine lv_lconst (v := 1) hx hb dX10_keep_3 rfl ?_
  obtain ⟨hs_1, hF⟩ := hF
  refine cSi (wr := [(h, .inr (10, ML G Rf)), ((Rf 0), .inl (cI, 1302, .inl f0)), ((Rf 1), .inl (cZ, 2, .inl f1))]) (rest := []) (m_in i_.toInt64 0 1 hs_1) okS_X10_in wd_495 hx hb hml hown hts hK hP hD hS hA hN hl.1 [] [0, 1, 2] rfl rfl rfl rfl (of_decide_eq_true rfl) rfl (Nat.le_of_ble_eq_true rfl) (Nat.le_of_ble_eq_true rfl) (Nat.le_of_ble_eq_true rfl) (Nat.le_of_ble_eq_true rfl) (Nat.le_of_ble_eq_true rfl) dX10_keep_4 (fun r_3 u_2 H locs hw_u_2 hP hD hS => ?_)
  replace hw_u_2 : r_3 = (f_m_in i_.toInt64 0 1) := hw_u_2
  rw [hw_u_2]
  clear hw_u_2
  have hP : va_P D classes [(h, .inr (10, ML G Rf)), ((Rf 0), .inl (cI, 1302, .inl f0)), ((Rf 1), .inl (cZ, 2, .inl f1))] H := hP
  have hD : va_D A [(h, .inr (10, ML G Rf)), ((Rf 0), .inl (cI, 1302, .inl f0)), ((Rf 1), .inl (cZ, 2, .inl f1))] := hD
  refine lv_if_ne (tgt := 13) hx hb dX10_keep_7 rfl (fun c_4 => ?_) (fun c_4 => ?_)
  · replace hF := hF.2 c_4
    rw [if_neg c_4] at hE
    refine lv_aload_n hx hb dX10_keep_13 rfl (lv_at hl 0 rfl) ?_
    refine lv_iconst (v := 0) hx hb dX10_keep_14 rfl ?_
    refine lv_sipush (v := 378) hx hb dX10_keep_15 rfl ?_
    refine lv_bipush (v := 42) hx hb dX10_keep_18 rfl ?_
    refine lv_iload_n hx hb dX10_keep_20 rfl (lv_at hl 1 rfl) ?_
    refine lv_imul hx hb dX10_keep_21 ?_
    refine lv_iadd hx hb dX10_keep_22 ?_
    obtain ⟨hs_5, hF⟩ := hF
    refine cVv (wr := [((Rf 1), .inl (cZ, 2, .inl f1))]) (rest := []) (m_copy Rf h G f0 0 (378 + (42 * i_)) hs_5) okV_X10_copy wd_557 hx hb hml hown hts hK hP hD hS hA hN hl.1 [0, 1] [2] rfl rfl rfl rfl (of_decide_eq_true rfl) rfl rfl rfl (Nat.le_of_ble_eq_true rfl) (Nat.le_of_ble_eq_true rfl) (Nat.le_of_ble_eq_true rfl) (Nat.le_of_ble_eq_true rfl) (Nat.le_of_ble_eq_true rfl) dX10_keep_23 (fun u_6 H locs hw_u_6 hP hD hS => ?_)
    replace hw_u_6 : u_6 = (f_m_copy f0 0 (378 + (42 * i_))) := hw_u_6
    subst hw_u_6
    have hP : va_P D classes [((Rf 1), .inl (cZ, 2, .inl f1)), (h, .inr (10, ML G Rf)), ((Rf 0), .inl (cI, 1302, .inl (f_m_copy f0 0 (378 + (42 * i_)))))] H := hP
    have hD : va_D A [((Rf 1), .inl (cZ, 2, .inl f1)), (h, .inr (10, ML G Rf)), ((Rf 0), .inl (cI, 1302, .inl (f_m_copy f0 0 (378 + (42 * i_)))))] := hD
    refine lv_aload_n hx hb dX10_keep_26 rfl (lv_at hl 0 rfl) ?_
    refine va_get (D := D) (ci := 10) (v := .ref (Rf 1)) (C := RX10) (T := TX10) (N := 45) hx hb hts iX10 hown hK hP 1 rfl rfl 1 (Nat.le_of_ble_eq_true rfl) (hts _ wd_612) (fun _ h9 => h9) rfl dX10_keep_27 ?_
    refine lv_iload_n hx hb dX10_keep_30 rfl (lv_at hl 1 rfl) ?_
    refine lv_iconst (v := 1) hx hb dX10_keep_31 rfl ?_
    obtain ⟨hv_8, hF⟩ := hF
    refine va_zast hx hb hK hP hD hS 0 1 rfl rfl hv_8 dX10_keep_32 (fun H locs hP hD hS => ?_)
    have hP : va_P D classes [((Rf 1), .inl (cZ, 2, .inl (upd f1 (i_ : Int32).toNatClampNeg (vp_nar .boolean 1)))), (h, .inr (10, ML G Rf)), ((Rf 0), .inl (cI, 1302, .inl (f_m_copy f0 0 (378 + (42 * i_)))))] H := hP
    have hD : va_D A [((Rf 1), .inl (cZ, 2, .inl (upd f1 (i_ : Int32).toNatClampNeg (vp_nar .boolean 1)))), (h, .inr (10, ML G Rf)), ((Rf 0), .inl (cI, 1302, .inl (f_m_copy f0 0 (378 + (42 * i_)))))] := hD
    refine lv_aload_n hx hb dX10_keep_33 rfl (lv_at hl 0 rfl) ?_
    refine lv_iconst (v := 0) hx hb dX10_keep_34 rfl ?_
    refine va_put (D := D) (ci := 10) (v := .int 0) (ty := .int) (C := RX10) (T := TX10) (N := 45) hx hb hts iX10 tyX10 tyX10_ok nmX10 hown hK hP hD hS 1 rfl rfl 2 (Nat.le_of_ble_eq_true rfl) (hts _ wd_556) (fun _ h9 => h9) rfl (by decide +kernel) rfl rfl (Nat.le_of_ble_eq_true rfl) dX10_keep_35 (fun H locs hP hD hS => ?_)
    have hP : va_P D classes [((Rf 1), .inl (cZ, 2, .inl (upd f1 (i_ : Int32).toNatClampNeg (vp_nar .boolean 1)))), (h, .inr (10, ML (upd G 2 0) Rf)), ((Rf 0), .inl (cI, 1302, .inl (f_m_copy f0 0 (378 + (42 * i_)))))] H := hP
    have hD : va_D A [((Rf 1), .inl (cZ, 2, .inl (upd f1 (i_ : Int32).toNatClampNeg (vp_nar .boolean 1)))), (h, .inr (10, ML (upd G 2 0) Rf)), ((Rf 0), .inl (cI, 1302, .inl (f_m_copy f0 0 (378 + (42 * i_)))))] := hD
    refine lv_iconst (v := 1) hx hb dX10_keep_38 rfl ?_
    exact hret 1 ((upd G 2 0), (f_m_copy f0 0 (378 + (42 * i_))), (upd f1 (i_ : Int32).toNatClampNeg (vp_nar .boolean 1))) _ _ _ _ dX10_keep_39 rfl hE (cutP (isC := [1, 2, 0]) hP rfl) (cutD (isC := [1, 2, 0]) hD rfl rfl) hS
  · replace hF := hF.1 c_4
    rw [if_pos c_4] at hE
    refine lv_ldc (v := (-1000000001)) hx hb hown (hts _ wd_580) dX10_keep_10 ?_
    exact hret (-1000000001) (G, f0, f1) _ _ _ _ dX10_keep_12 rfl hE hP hD hS
noncomputable def f_m_goBack (G : Nat → Int32) (f0 : Nat → Int32) (f1 : Nat → Int32) (i_ : Int32) : Int32 × (Nat → Int32) × (Nat → Int32) := (if (f_m_in i_.toInt64 0 1) = 0 then ((-1000000001), G, f0) else (if (f1 (i_ : Int32).toNatClampNeg) = 0 then ((-1000000003), G, f0) else (1, (upd G 2 0), (f_m_copy f0 (378 + (42 * i_)) 0))))
def S_m_goBack (G : Nat → Int32) (f0 : Nat → Int32) (f1 : Nat → Int32) (i_ : Int32) : Prop := ((S_m_in i_.toInt64 0 1) ∧ (((f_m_in i_.toInt64 0 1) = 0 → True) ∧ (¬ (f_m_in i_.toInt64 0 1) = 0 → (vp_in i_ 2 ∧ (((f1 (i_ : Int32).toNatClampNeg) = 0 → True) ∧ (¬ (f1 (i_ : Int32).toNatClampNeg) = 0 → ((S_m_copy f0 (378 + (42 * i_)) 0) ∧ True)))))))
def rm_m_goBack : Room := { frames := 1, cells := 0, slots := 0, locals := 25 }
set_option maxHeartbeats 4000000 in
set_option maxRecDepth 100000 in
theorem m_goBack {l : Launch} {D : va_G} {cI cZ : ClassId} {sz : Nat} (Rf : Nat → Nat) (h : Nat) (G : Nat → Int32) (f0 : Nat → Int32) (f1 : Nat → Int32) (i_ : Int32) (hF : S_m_goBack G f0 f1 i_) : KI l yX10_goBack cX10_goBack 2 (some .int) rm_m_goBack D cI cZ [.ref h, .int i_] sz [(h, .inr (10, ML G Rf)), ((Rf 0), .inl (cI, 1302, .inl f0)), ((Rf 1), .inl (cZ, 2, .inl f1))] (fun (r : Int32) (u : (Nat → Int32) × (Nat → Int32)) => (r, u) = f_m_goBack G f0 f1 i_) (fun (u : (Nat → Int32) × (Nat → Int32)) => [(h, .inr (10, ML u.1 Rf)), ((Rf 0), .inl (cI, 1302, .inl u.2)), ((Rf 1), .inl (cZ, 2, .inl f1))]) := by
  refine KI.go rfl (Nat.le_of_ble_eq_true rfl) ?_
  intro p e s m args below meth c ls A Q hx hb hml hts hown hin hP hK hD hS hA hN hl hret
  have hl : lv_has ls 2 [(0, .ref h), (1, .int i_)] := hl
  rw [S_m_goBack] at hF
  obtain ⟨RES, hE⟩ : ∃ xRES, f_m_goBack G f0 f1 i_ = xRES := ⟨_, rfl⟩
  rw [hE] at hret
  rw [f_m_goBack] at hE
  refine lv_iload_n hx hb dX10_goBack_0 rfl (lv_at hl 1 rfl) ?_
  refine lv_i2l (v := i_.toInt64) hx hb dX10_goBack_1 rfl ?_
  refine lv_lconst (v := 0) hx hb dX10_goBack_2 rfl ?_
  refine lv_lconst (v := 1) hx hb dX10_goBack_3 rfl ?_
  obtain ⟨hs_1, hF⟩ := hF
  refine cSi (wr := [(h, .inr (10, ML G Rf)), ((Rf 0), .inl (cI, 1302, .inl f0)), ((Rf 1), .inl (cZ, 2, .inl f1))]) (rest := []) (m_in i_.toInt64 0 1 hs_1) okS_X10_in wd_495 hx hb hml hown hts hK hP hD hS hA hN hl.1 [] [0, 1, 2] rfl rfl rfl rfl (of_decide_eq_true rfl) rfl (Nat.le_of_ble_eq_true rfl) (Nat.le_of_ble_eq_true rfl) (Nat.le_of_ble_eq_true rfl) (Nat.le_of_ble_eq_true rfl) (Nat.le_of_ble_eq_true rfl) dX10_goBack_4 (fun r_3 u_2 H locs hw_u_2 hP hD hS => ?_)
  replace hw_u_2 : r_3 = (f_m_in i_.toInt64 0 1) := hw_u_2
  rw [hw_u_2]
  clear hw_u_2
  have hP : va_P D classes [(h, .inr (10, ML G Rf)), ((Rf 0), .inl (cI, 1302, .inl f0)), ((Rf 1), .inl (cZ, 2, .inl f1))] H := hP
  have hD : va_D A [(h, .inr (10, ML G Rf)), ((Rf 0), .inl (cI, 1302, .inl f0)), ((Rf 1), .inl (cZ, 2, .inl f1))] := hD
  refine lv_if_ne (tgt := 13) hx hb dX10_goBack_7 rfl (fun c_4 => ?_) (fun c_4 => ?_)
  · replace hF := hF.2 c_4
    rw [if_neg c_4] at hE
    refine lv_aload_n hx hb dX10_goBack_13 rfl (lv_at hl 0 rfl) ?_
    refine va_get (D := D) (ci := 10) (v := .ref (Rf 1)) (C := RX10) (T := TX10) (N := 45) hx hb hts iX10 hown hK hP 0 rfl rfl 1 (Nat.le_of_ble_eq_true rfl) (hts _ wd_612) (fun _ h9 => h9) rfl dX10_goBack_14 ?_
    refine lv_iload_n hx hb dX10_goBack_17 rfl (lv_at hl 1 rfl) ?_
    obtain ⟨hv_5, hF⟩ := hF
    refine va_zald hx hb hK hP 2 1 rfl rfl hv_5 dX10_goBack_18 ?_
    refine lv_if_ne (tgt := 25) hx hb dX10_goBack_19 rfl (fun c_6 => ?_) (fun c_6 => ?_)
    · replace hF := hF.2 c_6
      rw [if_neg c_6] at hE
      refine lv_aload_n hx hb dX10_goBack_25 rfl (lv_at hl 0 rfl) ?_
      refine lv_sipush (v := 378) hx hb dX10_goBack_26 rfl ?_
      refine lv_bipush (v := 42) hx hb dX10_goBack_29 rfl ?_
      refine lv_iload_n hx hb dX10_goBack_31 rfl (lv_at hl 1 rfl) ?_
      refine lv_imul hx hb dX10_goBack_32 ?_
      refine lv_iadd hx hb dX10_goBack_33 ?_
      refine lv_iconst (v := 0) hx hb dX10_goBack_34 rfl ?_
      obtain ⟨hs_7, hF⟩ := hF
      refine cVv (wr := [((Rf 1), .inl (cZ, 2, .inl f1))]) (rest := []) (m_copy Rf h G f0 (378 + (42 * i_)) 0 hs_7) okV_X10_copy wd_557 hx hb hml hown hts hK hP hD hS hA hN hl.1 [0, 1] [2] rfl rfl rfl rfl (of_decide_eq_true rfl) rfl rfl rfl (Nat.le_of_ble_eq_true rfl) (Nat.le_of_ble_eq_true rfl) (Nat.le_of_ble_eq_true rfl) (Nat.le_of_ble_eq_true rfl) (Nat.le_of_ble_eq_true rfl) dX10_goBack_35 (fun u_8 H locs hw_u_8 hP hD hS => ?_)
      replace hw_u_8 : u_8 = (f_m_copy f0 (378 + (42 * i_)) 0) := hw_u_8
      subst hw_u_8
      have hP : va_P D classes [((Rf 1), .inl (cZ, 2, .inl f1)), (h, .inr (10, ML G Rf)), ((Rf 0), .inl (cI, 1302, .inl (f_m_copy f0 (378 + (42 * i_)) 0)))] H := hP
      have hD : va_D A [((Rf 1), .inl (cZ, 2, .inl f1)), (h, .inr (10, ML G Rf)), ((Rf 0), .inl (cI, 1302, .inl (f_m_copy f0 (378 + (42 * i_)) 0)))] := hD
      refine lv_aload_n hx hb dX10_goBack_38 rfl (lv_at hl 0 rfl) ?_
      refine lv_iconst (v := 0) hx hb dX10_goBack_39 rfl ?_
      refine va_put (D := D) (ci := 10) (v := .int 0) (ty := .int) (C := RX10) (T := TX10) (N := 45) hx hb hts iX10 tyX10 tyX10_ok nmX10 hown hK hP hD hS 1 rfl rfl 2 (Nat.le_of_ble_eq_true rfl) (hts _ wd_556) (fun _ h9 => h9) rfl (by decide +kernel) rfl rfl (Nat.le_of_ble_eq_true rfl) dX10_goBack_40 (fun H locs hP hD hS => ?_)
      have hP : va_P D classes [((Rf 1), .inl (cZ, 2, .inl f1)), (h, .inr (10, ML (upd G 2 0) Rf)), ((Rf 0), .inl (cI, 1302, .inl (f_m_copy f0 (378 + (42 * i_)) 0)))] H := hP
      have hD : va_D A [((Rf 1), .inl (cZ, 2, .inl f1)), (h, .inr (10, ML (upd G 2 0) Rf)), ((Rf 0), .inl (cI, 1302, .inl (f_m_copy f0 (378 + (42 * i_)) 0)))] := hD
      refine lv_iconst (v := 1) hx hb dX10_goBack_43 rfl ?_
      exact hret 1 ((upd G 2 0), (f_m_copy f0 (378 + (42 * i_)) 0)) _ _ _ _ dX10_goBack_44 rfl hE (cutP (isC := [1, 2, 0]) hP rfl) (cutD (isC := [1, 2, 0]) hD rfl rfl) hS
    · replace hF := hF.1 c_6
      rw [if_pos c_6] at hE
      refine lv_ldc (v := (-1000000003)) hx hb hown (hts _ wd_562) dX10_goBack_22 ?_
      exact hret (-1000000003) (G, f0) _ _ _ _ dX10_goBack_24 rfl hE hP hD hS
  · replace hF := hF.1 c_4
    rw [if_pos c_4] at hE
    refine lv_ldc (v := (-1000000001)) hx hb hown (hts _ wd_580) dX10_goBack_10 ?_
    exact hret (-1000000001) (G, f0) _ _ _ _ dX10_goBack_12 rfl hE hP hD hS
end
section
def fw_cX10_told : List (List Nat) := [[27, 170, 0, 0, 0, 0, 0, 134, 0, 0, 0, 0, 0, 0, 0, 13, 0, 0], [0, 0, 0, 71, 0, 0, 0, 76, 0, 0, 0, 81, 0, 0, 0, 86, 0, 0], [0, 0, 0, 91, 0, 0, 0, 96, 0, 0, 0, 101, 0, 0, 0, 109, 0, 0], [0, 0, 0, 134, 0, 0, 0, 134, 0, 0, 0, 134, 0, 0, 0, 117, 0, 0], [0, 0, 0, 124, 0, 0, 0, 129, 42, 180, 0, 81, 172, 42, 180, 0, 17, 172], [17, 172, 42, 180, 0, 78, 172, 42, 180, 0, 88, 172, 42, 180, 0, 174, 172, 42], [172, 42, 180, 0, 94, 172, 42, 180, 0, 7, 16, 19, 46, 172, 42, 180, 0, 7], [0, 7, 16, 18, 46, 172, 42, 16, 63, 182, 0, 186, 172, 42, 180, 0, 177, 172], [177, 172, 42, 180, 0, 180, 172, 27, 133, 20, 0, 189, 20, 0, 191, 184, 0, 84], [0, 84, 153, 0, 14, 42, 27, 16, 7, 100, 182, 0, 193, 167, 0, 5, 18, 93], [18, 93, 172]]
theorem fW_cX10_told : fq_wins 11 cX10_told.data.toList = fw_cX10_told := by decide +kernel
theorem fk_cX10_told_0 : fq_ck cX10_told 0 [27, 170, 0, 0, 0, 0, 0, 134, 0, 0, 0, 0, 0, 0, 0, 13, 0, 0] := fq_of fW_cX10_told 0 rfl rfl
theorem dX10_told_0 : decode cX10_told 0 = .ok (.iload_n 1, 1) := fq_27 fk_cX10_told_0 0 rfl rfl
theorem dX10_told_1 : decode cX10_told 1 = .ok (.tableswitch 134 0 13 #[71, 76, 81, 86, 91, 96, 101, 109, 134, 134, 134, 117, 124, 129], 71) := by decide +kernel
theorem fk_cX10_told_4 : fq_ck cX10_told 64 [0, 0, 0, 124, 0, 0, 0, 129, 42, 180, 0, 81, 172, 42, 180, 0, 17, 172] := fq_of fW_cX10_told 4 rfl rfl
theorem dX10_told_72 : decode cX10_told 72 = .ok (.aload_n 0, 1) := fq_42 fk_cX10_told_4 8 rfl rfl
theorem dX10_told_73 : decode cX10_told 73 = .ok (.getfield 81, 3) := fq_180 fk_cX10_told_4 9 rfl rfl rfl rfl rfl
theorem dX10_told_76 : decode cX10_told 76 = .ok (.ireturn, 1) := fq_172 fk_cX10_told_4 12 rfl rfl
theorem dX10_told_77 : decode cX10_told 77 = .ok (.aload_n 0, 1) := fq_42 fk_cX10_told_4 13 rfl rfl
theorem dX10_told_78 : decode cX10_told 78 = .ok (.getfield 17, 3) := fq_180 fk_cX10_told_4 14 rfl rfl rfl rfl rfl
theorem fk_cX10_told_5 : fq_ck cX10_told 80 [17, 172, 42, 180, 0, 78, 172, 42, 180, 0, 88, 172, 42, 180, 0, 174, 172, 42] := fq_of fW_cX10_told 5 rfl rfl
theorem dX10_told_81 : decode cX10_told 81 = .ok (.ireturn, 1) := fq_172 fk_cX10_told_5 1 rfl rfl
theorem dX10_told_82 : decode cX10_told 82 = .ok (.aload_n 0, 1) := fq_42 fk_cX10_told_5 2 rfl rfl
theorem dX10_told_83 : decode cX10_told 83 = .ok (.getfield 78, 3) := fq_180 fk_cX10_told_5 3 rfl rfl rfl rfl rfl
theorem dX10_told_86 : decode cX10_told 86 = .ok (.ireturn, 1) := fq_172 fk_cX10_told_5 6 rfl rfl
theorem dX10_told_87 : decode cX10_told 87 = .ok (.aload_n 0, 1) := fq_42 fk_cX10_told_5 7 rfl rfl
theorem dX10_told_88 : decode cX10_told 88 = .ok (.getfield 88, 3) := fq_180 fk_cX10_told_5 8 rfl rfl rfl rfl rfl
theorem dX10_told_91 : decode cX10_told 91 = .ok (.ireturn, 1) := fq_172 fk_cX10_told_5 11 rfl rfl
theorem dX10_told_92 : decode cX10_told 92 = .ok (.aload_n 0, 1) := fq_42 fk_cX10_told_5 12 rfl rfl
theorem dX10_told_93 : decode cX10_told 93 = .ok (.getfield 174, 3) := fq_180 fk_cX10_told_5 13 rfl rfl rfl rfl rfl
theorem fk_cX10_told_6 : fq_ck cX10_told 96 [172, 42, 180, 0, 94, 172, 42, 180, 0, 7, 16, 19, 46, 172, 42, 180, 0, 7] := fq_of fW_cX10_told 6 rfl rfl
theorem dX10_told_96 : decode cX10_told 96 = .ok (.ireturn, 1) := fq_172 fk_cX10_told_6 0 rfl rfl
theorem dX10_told_97 : decode cX10_told 97 = .ok (.aload_n 0, 1) := fq_42 fk_cX10_told_6 1 rfl rfl
theorem dX10_told_98 : decode cX10_told 98 = .ok (.getfield 94, 3) := fq_180 fk_cX10_told_6 2 rfl rfl rfl rfl rfl
theorem dX10_told_101 : decode cX10_told 101 = .ok (.ireturn, 1) := fq_172 fk_cX10_told_6 5 rfl rfl
theorem dX10_told_102 : decode cX10_told 102 = .ok (.aload_n 0, 1) := fq_42 fk_cX10_told_6 6 rfl rfl
theorem dX10_told_103 : decode cX10_told 103 = .ok (.getfield 7, 3) := fq_180 fk_cX10_told_6 7 rfl rfl rfl rfl rfl
theorem dX10_told_106 : decode cX10_told 106 = .ok (.bipush 19, 2) := fq_16 fk_cX10_told_6 10 rfl rfl rfl rfl
theorem dX10_told_108 : decode cX10_told 108 = .ok (.iaload, 1) := fq_46 fk_cX10_told_6 12 rfl rfl
theorem dX10_told_109 : decode cX10_told 109 = .ok (.ireturn, 1) := fq_172 fk_cX10_told_6 13 rfl rfl
theorem dX10_told_110 : decode cX10_told 110 = .ok (.aload_n 0, 1) := fq_42 fk_cX10_told_6 14 rfl rfl
theorem dX10_told_111 : decode cX10_told 111 = .ok (.getfield 7, 3) := fq_180 fk_cX10_told_6 15 rfl rfl rfl rfl rfl
theorem fk_cX10_told_7 : fq_ck cX10_told 112 [0, 7, 16, 18, 46, 172, 42, 16, 63, 182, 0, 186, 172, 42, 180, 0, 177, 172] := fq_of fW_cX10_told 7 rfl rfl
theorem dX10_told_114 : decode cX10_told 114 = .ok (.bipush 18, 2) := fq_16 fk_cX10_told_7 2 rfl rfl rfl rfl
theorem dX10_told_116 : decode cX10_told 116 = .ok (.iaload, 1) := fq_46 fk_cX10_told_7 4 rfl rfl
theorem dX10_told_117 : decode cX10_told 117 = .ok (.ireturn, 1) := fq_172 fk_cX10_told_7 5 rfl rfl
theorem fk_cX10_told_8 : fq_ck cX10_told 128 [177, 172, 42, 180, 0, 180, 172, 27, 133, 20, 0, 189, 20, 0, 191, 184, 0, 84] := fq_of fW_cX10_told 8 rfl rfl
theorem dX10_told_135 : decode cX10_told 135 = .ok (.iload_n 1, 1) := fq_27 fk_cX10_told_8 7 rfl rfl
theorem dX10_told_136 : decode cX10_told 136 = .ok (.i2l, 1) := fq_133 fk_cX10_told_8 8 rfl rfl
theorem wd_613 : Cond.constantLong RX10 189 (8) ∈ BG := BG_at5 35 (by decide +kernel) rfl
theorem dX10_told_137 : decode cX10_told 137 = .ok (.ldc2_w 189, 3) := fq_20 fk_cX10_told_8 9 rfl rfl rfl rfl rfl
theorem wd_614 : Cond.constantLong RX10 191 (10) ∈ BG := BG_at5 36 (by decide +kernel) rfl
theorem dX10_told_140 : decode cX10_told 140 = .ok (.ldc2_w 191, 3) := fq_20 fk_cX10_told_8 12 rfl rfl rfl rfl rfl
theorem dX10_told_143 : decode cX10_told 143 = .ok (.invokestatic 84, 3) := fq_184 fk_cX10_told_8 15 rfl rfl rfl rfl rfl
theorem fk_cX10_told_9 : fq_ck cX10_told 144 [0, 84, 153, 0, 14, 42, 27, 16, 7, 100, 182, 0, 193, 167, 0, 5, 18, 93] := fq_of fW_cX10_told 9 rfl rfl
theorem dX10_told_146 : decode cX10_told 146 = .ok (.ifCond .eq 14, 3) := fq_153 fk_cX10_told_9 2 rfl rfl rfl rfl rfl
theorem fk_cX10_told_10 : fq_ck cX10_told 160 [18, 93, 172] := fq_of fW_cX10_told 10 rfl rfl
theorem dX10_told_160 : decode cX10_told 160 = .ok (.ldc 93, 2) := fq_18 fk_cX10_told_10 0 rfl rfl rfl
theorem dX10_told_162 : decode cX10_told 162 = .ok (.ireturn, 1) := fq_172 fk_cX10_told_10 2 rfl rfl
theorem dX10_told_149 : decode cX10_told 149 = .ok (.aload_n 0, 1) := fq_42 fk_cX10_told_9 5 rfl rfl
theorem dX10_told_150 : decode cX10_told 150 = .ok (.iload_n 1, 1) := fq_27 fk_cX10_told_9 6 rfl rfl
theorem dX10_told_151 : decode cX10_told 151 = .ok (.bipush 7, 2) := fq_16 fk_cX10_told_9 7 rfl rfl rfl rfl
theorem dX10_told_153 : decode cX10_told 153 = .ok (.isub, 1) := fq_100 fk_cX10_told_9 9 rfl rfl
theorem dX10_told_154 : decode cX10_told 154 = .ok (.invokevirtual 193, 3) := fq_182 fk_cX10_told_9 10 rfl rfl rfl rfl rfl
theorem wd_615 : Cond.methodLink RX10 193 yX10_bargesThat ∈ BG := BG_at5 37 (by decide +kernel) rfl
theorem wd_616 : Cond.code yX10_bargesThat cX10_bargesThat 4 (some .int) ∈ BG := BG_at5 40 rfl rfl
theorem wd_617 : Cond.instanceMethod yX10_bargesThat ∈ BG := BG_at5 39 (by decide +kernel) rfl
theorem wd_618 : Cond.selects RX10 yX10_bargesThat yX10_bargesThat ∈ BG := BG_in (by decide +kernel) rfl
theorem okV_X10_bargesThat : okV yX10_bargesThat cX10_bargesThat 4 (some .int) 1 := ⟨⟨wd_616, wd_497, by decide +kernel⟩, wd_617, wd_618⟩
theorem dX10_told_157 : decode cX10_told 157 = .ok (.goto 5, 3) := fq_167 fk_cX10_told_9 13 rfl rfl rfl rfl rfl
theorem dX10_told_118 : decode cX10_told 118 = .ok (.aload_n 0, 1) := fq_42 fk_cX10_told_7 6 rfl rfl
theorem dX10_told_119 : decode cX10_told 119 = .ok (.bipush 63, 2) := fq_16 fk_cX10_told_7 7 rfl rfl rfl rfl
theorem dX10_told_121 : decode cX10_told 121 = .ok (.invokevirtual 186, 3) := fq_182 fk_cX10_told_7 9 rfl rfl rfl rfl rfl
theorem wd_619 : Cond.methodLink RX10 186 yX10_griefOf ∈ BG := BG_at5 28 (by decide +kernel) rfl
theorem wd_620 : Cond.code yX10_griefOf cX10_griefOf 4 (some .int) ∈ BG := BG_at5 31 rfl rfl
theorem wd_621 : Cond.instanceMethod yX10_griefOf ∈ BG := BG_at5 30 (by decide +kernel) rfl
theorem wd_622 : Cond.selects RX10 yX10_griefOf yX10_griefOf ∈ BG := BG_in (by decide +kernel) rfl
theorem okV_X10_griefOf : okV yX10_griefOf cX10_griefOf 4 (some .int) 1 := ⟨⟨wd_620, wd_497, by decide +kernel⟩, wd_621, wd_622⟩
theorem dX10_told_124 : decode cX10_told 124 = .ok (.ireturn, 1) := fq_172 fk_cX10_told_7 12 rfl rfl
theorem dX10_told_125 : decode cX10_told 125 = .ok (.aload_n 0, 1) := fq_42 fk_cX10_told_7 13 rfl rfl
theorem dX10_told_126 : decode cX10_told 126 = .ok (.getfield 177, 3) := fq_180 fk_cX10_told_7 14 rfl rfl rfl rfl rfl
theorem dX10_told_129 : decode cX10_told 129 = .ok (.ireturn, 1) := fq_172 fk_cX10_told_8 1 rfl rfl
theorem dX10_told_130 : decode cX10_told 130 = .ok (.aload_n 0, 1) := fq_42 fk_cX10_told_8 2 rfl rfl
theorem dX10_told_131 : decode cX10_told 131 = .ok (.getfield 180, 3) := fq_180 fk_cX10_told_8 3 rfl rfl rfl rfl rfl
theorem dX10_told_134 : decode cX10_told 134 = .ok (.ireturn, 1) := fq_172 fk_cX10_told_8 6 rfl rfl
noncomputable def f_m_told (G : Nat → Int32) (f0 : Nat → Int32) (w_ : Int32) : Int32 := (if w_ = 0 then (G 3) else (if w_ = 1 then (G 4) else (if w_ = 2 then (G 5) else (if w_ = 3 then (G 6) else (if w_ = 4 then (G 7) else (if w_ = 5 then (G 14) else (if w_ = 6 then (f0 (19 : Int32).toNatClampNeg) else (if w_ = 7 then (f0 (18 : Int32).toNatClampNeg) else (if w_ = 8 then (if (f_m_in 8 8 10) = 0 then (-1000000002) else (f_m_bargesThat G f0 1)) else (if w_ = 9 then (if (f_m_in 9 8 10) = 0 then (-1000000002) else (f_m_bargesThat G f0 2)) else (if w_ = 10 then (if (f_m_in 10 8 10) = 0 then (-1000000002) else (f_m_bargesThat G f0 3)) else (if w_ = 11 then (f_m_griefOf G f0 63) else (if w_ = 12 then (G 42) else (if w_ = 13 then (G 2) else (if (f_m_in w_.toInt64 8 10) = 0 then (-1000000002) else (f_m_bargesThat G f0 (w_ - 7)))))))))))))))))
def S_m_told (G : Nat → Int32) (f0 : Nat → Int32) (w_ : Int32) : Prop := ((w_ = 0 → True) ∧ (¬ w_ = 0 → ((w_ = 1 → True) ∧ (¬ w_ = 1 → ((w_ = 2 → True) ∧ (¬ w_ = 2 → ((w_ = 3 → True) ∧ (¬ w_ = 3 → ((w_ = 4 → True) ∧ (¬ w_ = 4 → ((w_ = 5 → True) ∧ (¬ w_ = 5 → ((w_ = 6 → True) ∧ (¬ w_ = 6 → ((w_ = 7 → True) ∧ (¬ w_ = 7 → ((w_ = 8 → ((S_m_in 8 8 10) ∧ (((f_m_in 8 8 10) = 0 → True) ∧ (¬ (f_m_in 8 8 10) = 0 → ((S_m_bargesThat G f0 1) ∧ True))))) ∧ (¬ w_ = 8 → ((w_ = 9 → ((S_m_in 9 8 10) ∧ (((f_m_in 9 8 10) = 0 → True) ∧ (¬ (f_m_in 9 8 10) = 0 → ((S_m_bargesThat G f0 2) ∧ True))))) ∧ (¬ w_ = 9 → ((w_ = 10 → ((S_m_in 10 8 10) ∧ (((f_m_in 10 8 10) = 0 → True) ∧ (¬ (f_m_in 10 8 10) = 0 → ((S_m_bargesThat G f0 3) ∧ True))))) ∧ (¬ w_ = 10 → ((w_ = 11 → ((S_m_griefOf G f0 63) ∧ True)) ∧ (¬ w_ = 11 → ((w_ = 12 → True) ∧ (¬ w_ = 12 → ((w_ = 13 → True) ∧ (¬ w_ = 13 → ((S_m_in w_.toInt64 8 10) ∧ (((f_m_in w_.toInt64 8 10) = 0 → True) ∧ (¬ (f_m_in w_.toInt64 8 10) = 0 → ((S_m_bargesThat G f0 (w_ - 7)) ∧ True))))))))))))))))))))))))))))))))
def rm_m_told : Room := { frames := 2, cells := 0, slots := 0, locals := 44 }
set_option maxHeartbeats 4000000 in
set_option maxRecDepth 100000 in
theorem m_told {l : Launch} {D : va_G} {cI cZ : ClassId} {sz : Nat} (Rf : Nat → Nat) (h : Nat) (G : Nat → Int32) (f0 : Nat → Int32) (w_ : Int32) (hF : S_m_told G f0 w_) : KI l yX10_told cX10_told 2 (some .int) rm_m_told D cI cZ [.ref h, .int w_] sz [(h, .inr (10, ML G Rf)), ((Rf 0), .inl (cI, 1302, .inl f0))] (fun (r : Int32) (_ : Unit) => r = f_m_told G f0 w_) (fun (_ : Unit) => [(h, .inr (10, ML G Rf)), ((Rf 0), .inl (cI, 1302, .inl f0))]) := by
  refine KI.go rfl (Nat.le_of_ble_eq_true rfl) ?_
  intro p e s m args below meth c ls A Q hx hb hml hts hown hin hP hK hD hS hA hN hl hret
  have hl : lv_has ls 2 [(0, .ref h), (1, .int w_)] := hl
  rw [S_m_told] at hF
  obtain ⟨RES, hE⟩ : ∃ xRES, f_m_told G f0 w_ = xRES := ⟨_, rfl⟩
  rw [hE] at hret
  rw [f_m_told] at hE
  refine lv_iload_n hx hb dX10_told_0 rfl (lv_at hl 1 rfl) ?_
  by_cases c_1 : w_ = 0
  · replace hF := hF.1 c_1
    rw [if_pos c_1] at hE
    subst c_1
    refine lv_tableIn (off := 71) (tgt := 72) hx hb dX10_told_1 (by decide +kernel) (by decide +kernel) (by decide +kernel) rfl ?_
    refine lv_aload_n hx hb dX10_told_72 rfl (lv_at hl 0 rfl) ?_
    refine va_get (D := D) (ci := 10) (v := .int (G 3)) (C := RX10) (T := TX10) (N := 45) hx hb hts iX10 hown hK hP 0 rfl rfl 3 (Nat.le_of_ble_eq_true rfl) (hts _ wd_494) (fun _ h9 => h9) rfl dX10_told_73 ?_
    exact hret (G 3) () _ _ _ _ dX10_told_76 rfl hE hP hD hS
  · skip
    replace hF := hF.2 c_1
    rw [if_neg c_1] at hE
    by_cases c_2 : w_ = 1
    · replace hF := hF.1 c_2
      rw [if_pos c_2] at hE
      subst c_2
      refine lv_tableIn (off := 76) (tgt := 77) hx hb dX10_told_1 (by decide +kernel) (by decide +kernel) (by decide +kernel) rfl ?_
      refine lv_aload_n hx hb dX10_told_77 rfl (lv_at hl 0 rfl) ?_
      refine va_get (D := D) (ci := 10) (v := .int (G 4)) (C := RX10) (T := TX10) (N := 45) hx hb hts iX10 hown hK hP 0 rfl rfl 4 (Nat.le_of_ble_eq_true rfl) (hts _ wd_500) (fun _ h9 => h9) rfl dX10_told_78 ?_
      exact hret (G 4) () _ _ _ _ dX10_told_81 rfl hE hP hD hS
    · skip
      replace hF := hF.2 c_2
      rw [if_neg c_2] at hE
      by_cases c_3 : w_ = 2
      · replace hF := hF.1 c_3
        rw [if_pos c_3] at hE
        subst c_3
        refine lv_tableIn (off := 81) (tgt := 82) hx hb dX10_told_1 (by decide +kernel) (by decide +kernel) (by decide +kernel) rfl ?_
        refine lv_aload_n hx hb dX10_told_82 rfl (lv_at hl 0 rfl) ?_
        refine va_get (D := D) (ci := 10) (v := .int (G 5)) (C := RX10) (T := TX10) (N := 45) hx hb hts iX10 hown hK hP 0 rfl rfl 5 (Nat.le_of_ble_eq_true rfl) (hts _ wd_499) (fun _ h9 => h9) rfl dX10_told_83 ?_
        exact hret (G 5) () _ _ _ _ dX10_told_86 rfl hE hP hD hS
      · skip
        replace hF := hF.2 c_3
        rw [if_neg c_3] at hE
        by_cases c_4 : w_ = 3
        · replace hF := hF.1 c_4
          rw [if_pos c_4] at hE
          subst c_4
          refine lv_tableIn (off := 86) (tgt := 87) hx hb dX10_told_1 (by decide +kernel) (by decide +kernel) (by decide +kernel) rfl ?_
          refine lv_aload_n hx hb dX10_told_87 rfl (lv_at hl 0 rfl) ?_
          refine va_get (D := D) (ci := 10) (v := .int (G 6)) (C := RX10) (T := TX10) (N := 45) hx hb hts iX10 hown hK hP 0 rfl rfl 6 (Nat.le_of_ble_eq_true rfl) (hts _ wd_501) (fun _ h9 => h9) rfl dX10_told_88 ?_
          exact hret (G 6) () _ _ _ _ dX10_told_91 rfl hE hP hD hS
        · skip
          replace hF := hF.2 c_4
          rw [if_neg c_4] at hE
          by_cases c_5 : w_ = 4
          · replace hF := hF.1 c_5
            rw [if_pos c_5] at hE
            subst c_5
            refine lv_tableIn (off := 91) (tgt := 92) hx hb dX10_told_1 (by decide +kernel) (by decide +kernel) (by decide +kernel) rfl ?_
            refine lv_aload_n hx hb dX10_told_92 rfl (lv_at hl 0 rfl) ?_
            refine va_get (D := D) (ci := 10) (v := .int (G 7)) (C := RX10) (T := TX10) (N := 45) hx hb hts iX10 hown hK hP 0 rfl rfl 7 (Nat.le_of_ble_eq_true rfl) (hts _ wd_548) (fun _ h9 => h9) rfl dX10_told_93 ?_
            exact hret (G 7) () _ _ _ _ dX10_told_96 rfl hE hP hD hS
          · skip
            replace hF := hF.2 c_5
            rw [if_neg c_5] at hE
            by_cases c_6 : w_ = 5
            · replace hF := hF.1 c_6
              rw [if_pos c_6] at hE
              subst c_6
              refine lv_tableIn (off := 96) (tgt := 97) hx hb dX10_told_1 (by decide +kernel) (by decide +kernel) (by decide +kernel) rfl ?_
              refine lv_aload_n hx hb dX10_told_97 rfl (lv_at hl 0 rfl) ?_
              refine va_get (D := D) (ci := 10) (v := .int (G 14)) (C := RX10) (T := TX10) (N := 45) hx hb hts iX10 hown hK hP 0 rfl rfl 14 (Nat.le_of_ble_eq_true rfl) (hts _ wd_492) (fun _ h9 => h9) rfl dX10_told_98 ?_
              exact hret (G 14) () _ _ _ _ dX10_told_101 rfl hE hP hD hS
            · skip
              replace hF := hF.2 c_6
              rw [if_neg c_6] at hE
              by_cases c_7 : w_ = 6
              · replace hF := hF.1 c_7
                rw [if_pos c_7] at hE
                subst c_7
                refine lv_tableIn (off := 101) (tgt := 102) hx hb dX10_told_1 (by decide +kernel) (by decide +kernel) (by decide +kernel) rfl ?_
                refine lv_aload_n hx hb dX10_told_102 rfl (lv_at hl 0 rfl) ?_
                refine va_get (D := D) (ci := 10) (v := .ref (Rf 0)) (C := RX10) (T := TX10) (N := 45) hx hb hts iX10 hown hK hP 0 rfl rfl 0 (Nat.le_of_ble_eq_true rfl) (hts _ wd_491) (fun _ h9 => h9) rfl dX10_told_103 ?_
                refine lv_bipush (v := 19) hx hb dX10_told_106 rfl ?_
                refine va_iald hx hb hK hP 1 0 rfl rfl (show ¬ ((19 : Int32) < 0 ∨ 1302 ≤ (19 : Int32).toNatClampNeg) by decide +kernel) dX10_told_108 ?_
                exact hret (f0 (19 : Int32).toNatClampNeg) () _ _ _ _ dX10_told_109 rfl hE hP hD hS
              · skip
                replace hF := hF.2 c_7
                rw [if_neg c_7] at hE
                by_cases c_8 : w_ = 7
                · replace hF := hF.1 c_8
                  rw [if_pos c_8] at hE
                  subst c_8
                  refine lv_tableIn (off := 109) (tgt := 110) hx hb dX10_told_1 (by decide +kernel) (by decide +kernel) (by decide +kernel) rfl ?_
                  refine lv_aload_n hx hb dX10_told_110 rfl (lv_at hl 0 rfl) ?_
                  refine va_get (D := D) (ci := 10) (v := .ref (Rf 0)) (C := RX10) (T := TX10) (N := 45) hx hb hts iX10 hown hK hP 0 rfl rfl 0 (Nat.le_of_ble_eq_true rfl) (hts _ wd_491) (fun _ h9 => h9) rfl dX10_told_111 ?_
                  refine lv_bipush (v := 18) hx hb dX10_told_114 rfl ?_
                  refine va_iald hx hb hK hP 1 0 rfl rfl (show ¬ ((18 : Int32) < 0 ∨ 1302 ≤ (18 : Int32).toNatClampNeg) by decide +kernel) dX10_told_116 ?_
                  exact hret (f0 (18 : Int32).toNatClampNeg) () _ _ _ _ dX10_told_117 rfl hE hP hD hS
                · skip
                  replace hF := hF.2 c_8
                  rw [if_neg c_8] at hE
                  by_cases c_9 : w_ = 8
                  · replace hF := hF.1 c_9
                    rw [if_pos c_9] at hE
                    subst c_9
                    refine lv_tableIn (off := 134) (tgt := 135) hx hb dX10_told_1 (by decide +kernel) (by decide +kernel) (by decide +kernel) rfl ?_
                    refine lv_iload_n hx hb dX10_told_135 rfl (lv_at hl 1 rfl) ?_
                    refine lv_i2l (v := 8) hx hb dX10_told_136 (by decide +kernel) ?_
                    refine lv_ldc2 (v := 8) hx hb hown (hts _ wd_613) dX10_told_137 ?_
                    refine lv_ldc2 (v := 10) hx hb hown (hts _ wd_614) dX10_told_140 ?_
                    obtain ⟨hs_10, hF⟩ := hF
                    refine cSi (wr := [(h, .inr (10, ML G Rf)), ((Rf 0), .inl (cI, 1302, .inl f0))]) (rest := []) (m_in 8 8 10 hs_10) okS_X10_in wd_495 hx hb hml hown hts hK hP hD hS hA hN hl.1 [] [0, 1] rfl rfl rfl rfl (of_decide_eq_true rfl) rfl (Nat.le_of_ble_eq_true rfl) (Nat.le_of_ble_eq_true rfl) (Nat.le_of_ble_eq_true rfl) (Nat.le_of_ble_eq_true rfl) (Nat.le_of_ble_eq_true rfl) dX10_told_143 (fun r_12 u_11 H locs hw_u_11 hP hD hS => ?_)
                    replace hw_u_11 : r_12 = (f_m_in 8 8 10) := hw_u_11
                    rw [hw_u_11]
                    clear hw_u_11
                    have hP : va_P D classes [(h, .inr (10, ML G Rf)), ((Rf 0), .inl (cI, 1302, .inl f0))] H := hP
                    have hD : va_D A [(h, .inr (10, ML G Rf)), ((Rf 0), .inl (cI, 1302, .inl f0))] := hD
                    refine lv_if_eq (tgt := 160) hx hb dX10_told_146 rfl (fun c_13 => ?_) (fun c_13 => ?_)
                    · replace hF := hF.1 c_13
                      rw [if_pos c_13] at hE
                      refine lv_ldc (v := (-1000000002)) hx hb hown (hts _ wd_507) dX10_told_160 ?_
                      exact hret (-1000000002) () _ _ _ _ dX10_told_162 rfl hE hP hD hS
                    · replace hF := hF.2 c_13
                      rw [if_neg c_13] at hE
                      refine lv_aload_n hx hb dX10_told_149 rfl (lv_at hl 0 rfl) ?_
                      refine lv_iload_n hx hb dX10_told_150 rfl (lv_at hl 1 rfl) ?_
                      refine lv_bipush (v := 7) hx hb dX10_told_151 rfl ?_
                      refine lv_isub hx hb dX10_told_153 ?_
                      refine lv_topi (fun z_14 ez_14 => ?_)
                      obtain rfl : z_14 = 1 := ez_14.trans (by decide +kernel)
                      obtain ⟨hs_15, hF⟩ := hF
                      refine cVi (wr := []) (rest := []) (m_bargesThat Rf h G f0 1 hs_15) okV_X10_bargesThat wd_615 hx hb hml hown hts hK hP hD hS hA hN hl.1 [0, 1] [] rfl rfl rfl rfl (of_decide_eq_true rfl) rfl rfl rfl (Nat.le_of_ble_eq_true rfl) (Nat.le_of_ble_eq_true rfl) (Nat.le_of_ble_eq_true rfl) (Nat.le_of_ble_eq_true rfl) (Nat.le_of_ble_eq_true rfl) dX10_told_154 (fun r_17 u_16 H locs hw_u_16 hP hD hS => ?_)
                      replace hw_u_16 : r_17 = (f_m_bargesThat G f0 1) := hw_u_16
                      rw [hw_u_16]
                      clear hw_u_16
                      have hP : va_P D classes [(h, .inr (10, ML G Rf)), ((Rf 0), .inl (cI, 1302, .inl f0))] H := hP
                      have hD : va_D A [(h, .inr (10, ML G Rf)), ((Rf 0), .inl (cI, 1302, .inl f0))] := hD
                      refine lv_goto (tgt := 162) hx hb dX10_told_157 rfl ?_
                      exact hret (f_m_bargesThat G f0 1) () _ _ _ _ dX10_told_162 rfl hE hP hD hS
                  · skip
                    replace hF := hF.2 c_9
                    rw [if_neg c_9] at hE
                    by_cases c_18 : w_ = 9
                    · replace hF := hF.1 c_18
                      rw [if_pos c_18] at hE
                      subst c_18
                      refine lv_tableIn (off := 134) (tgt := 135) hx hb dX10_told_1 (by decide +kernel) (by decide +kernel) (by decide +kernel) rfl ?_
                      refine lv_iload_n hx hb dX10_told_135 rfl (lv_at hl 1 rfl) ?_
                      refine lv_i2l (v := 9) hx hb dX10_told_136 (by decide +kernel) ?_
                      refine lv_ldc2 (v := 8) hx hb hown (hts _ wd_613) dX10_told_137 ?_
                      refine lv_ldc2 (v := 10) hx hb hown (hts _ wd_614) dX10_told_140 ?_
                      obtain ⟨hs_19, hF⟩ := hF
                      refine cSi (wr := [(h, .inr (10, ML G Rf)), ((Rf 0), .inl (cI, 1302, .inl f0))]) (rest := []) (m_in 9 8 10 hs_19) okS_X10_in wd_495 hx hb hml hown hts hK hP hD hS hA hN hl.1 [] [0, 1] rfl rfl rfl rfl (of_decide_eq_true rfl) rfl (Nat.le_of_ble_eq_true rfl) (Nat.le_of_ble_eq_true rfl) (Nat.le_of_ble_eq_true rfl) (Nat.le_of_ble_eq_true rfl) (Nat.le_of_ble_eq_true rfl) dX10_told_143 (fun r_21 u_20 H locs hw_u_20 hP hD hS => ?_)
                      replace hw_u_20 : r_21 = (f_m_in 9 8 10) := hw_u_20
                      rw [hw_u_20]
                      clear hw_u_20
                      have hP : va_P D classes [(h, .inr (10, ML G Rf)), ((Rf 0), .inl (cI, 1302, .inl f0))] H := hP
                      have hD : va_D A [(h, .inr (10, ML G Rf)), ((Rf 0), .inl (cI, 1302, .inl f0))] := hD
                      refine lv_if_eq (tgt := 160) hx hb dX10_told_146 rfl (fun c_22 => ?_) (fun c_22 => ?_)
                      · replace hF := hF.1 c_22
                        rw [if_pos c_22] at hE
                        refine lv_ldc (v := (-1000000002)) hx hb hown (hts _ wd_507) dX10_told_160 ?_
                        exact hret (-1000000002) () _ _ _ _ dX10_told_162 rfl hE hP hD hS
                      · replace hF := hF.2 c_22
                        rw [if_neg c_22] at hE
                        refine lv_aload_n hx hb dX10_told_149 rfl (lv_at hl 0 rfl) ?_
                        refine lv_iload_n hx hb dX10_told_150 rfl (lv_at hl 1 rfl) ?_
                        refine lv_bipush (v := 7) hx hb dX10_told_151 rfl ?_
                        refine lv_isub hx hb dX10_told_153 ?_
                        refine lv_topi (fun z_23 ez_23 => ?_)
                        obtain rfl : z_23 = 2 := ez_23.trans (by decide +kernel)
                        obtain ⟨hs_24, hF⟩ := hF
                        refine cVi (wr := []) (rest := []) (m_bargesThat Rf h G f0 2 hs_24) okV_X10_bargesThat wd_615 hx hb hml hown hts hK hP hD hS hA hN hl.1 [0, 1] [] rfl rfl rfl rfl (of_decide_eq_true rfl) rfl rfl rfl (Nat.le_of_ble_eq_true rfl) (Nat.le_of_ble_eq_true rfl) (Nat.le_of_ble_eq_true rfl) (Nat.le_of_ble_eq_true rfl) (Nat.le_of_ble_eq_true rfl) dX10_told_154 (fun r_26 u_25 H locs hw_u_25 hP hD hS => ?_)
                        replace hw_u_25 : r_26 = (f_m_bargesThat G f0 2) := hw_u_25
                        rw [hw_u_25]
                        clear hw_u_25
                        have hP : va_P D classes [(h, .inr (10, ML G Rf)), ((Rf 0), .inl (cI, 1302, .inl f0))] H := hP
                        have hD : va_D A [(h, .inr (10, ML G Rf)), ((Rf 0), .inl (cI, 1302, .inl f0))] := hD
                        refine lv_goto (tgt := 162) hx hb dX10_told_157 rfl ?_
                        exact hret (f_m_bargesThat G f0 2) () _ _ _ _ dX10_told_162 rfl hE hP hD hS
                    · skip
                      replace hF := hF.2 c_18
                      rw [if_neg c_18] at hE
                      by_cases c_27 : w_ = 10
                      · replace hF := hF.1 c_27
                        rw [if_pos c_27] at hE
                        subst c_27
                        refine lv_tableIn (off := 134) (tgt := 135) hx hb dX10_told_1 (by decide +kernel) (by decide +kernel) (by decide +kernel) rfl ?_
                        refine lv_iload_n hx hb dX10_told_135 rfl (lv_at hl 1 rfl) ?_
                        refine lv_i2l (v := 10) hx hb dX10_told_136 (by decide +kernel) ?_
                        refine lv_ldc2 (v := 8) hx hb hown (hts _ wd_613) dX10_told_137 ?_
                        refine lv_ldc2 (v := 10) hx hb hown (hts _ wd_614) dX10_told_140 ?_
                        obtain ⟨hs_28, hF⟩ := hF
                        refine cSi (wr := [(h, .inr (10, ML G Rf)), ((Rf 0), .inl (cI, 1302, .inl f0))]) (rest := []) (m_in 10 8 10 hs_28) okS_X10_in wd_495 hx hb hml hown hts hK hP hD hS hA hN hl.1 [] [0, 1] rfl rfl rfl rfl (of_decide_eq_true rfl) rfl (Nat.le_of_ble_eq_true rfl) (Nat.le_of_ble_eq_true rfl) (Nat.le_of_ble_eq_true rfl) (Nat.le_of_ble_eq_true rfl) (Nat.le_of_ble_eq_true rfl) dX10_told_143 (fun r_30 u_29 H locs hw_u_29 hP hD hS => ?_)
                        replace hw_u_29 : r_30 = (f_m_in 10 8 10) := hw_u_29
                        rw [hw_u_29]
                        clear hw_u_29
                        have hP : va_P D classes [(h, .inr (10, ML G Rf)), ((Rf 0), .inl (cI, 1302, .inl f0))] H := hP
                        have hD : va_D A [(h, .inr (10, ML G Rf)), ((Rf 0), .inl (cI, 1302, .inl f0))] := hD
                        refine lv_if_eq (tgt := 160) hx hb dX10_told_146 rfl (fun c_31 => ?_) (fun c_31 => ?_)
                        · replace hF := hF.1 c_31
                          rw [if_pos c_31] at hE
                          refine lv_ldc (v := (-1000000002)) hx hb hown (hts _ wd_507) dX10_told_160 ?_
                          exact hret (-1000000002) () _ _ _ _ dX10_told_162 rfl hE hP hD hS
                        · replace hF := hF.2 c_31
                          rw [if_neg c_31] at hE
                          refine lv_aload_n hx hb dX10_told_149 rfl (lv_at hl 0 rfl) ?_
                          refine lv_iload_n hx hb dX10_told_150 rfl (lv_at hl 1 rfl) ?_
                          refine lv_bipush (v := 7) hx hb dX10_told_151 rfl ?_
                          refine lv_isub hx hb dX10_told_153 ?_
                          refine lv_topi (fun z_32 ez_32 => ?_)
                          obtain rfl : z_32 = 3 := ez_32.trans (by decide +kernel)
                          obtain ⟨hs_33, hF⟩ := hF
                          refine cVi (wr := []) (rest := []) (m_bargesThat Rf h G f0 3 hs_33) okV_X10_bargesThat wd_615 hx hb hml hown hts hK hP hD hS hA hN hl.1 [0, 1] [] rfl rfl rfl rfl (of_decide_eq_true rfl) rfl rfl rfl (Nat.le_of_ble_eq_true rfl) (Nat.le_of_ble_eq_true rfl) (Nat.le_of_ble_eq_true rfl) (Nat.le_of_ble_eq_true rfl) (Nat.le_of_ble_eq_true rfl) dX10_told_154 (fun r_35 u_34 H locs hw_u_34 hP hD hS => ?_)
                          replace hw_u_34 : r_35 = (f_m_bargesThat G f0 3) := hw_u_34
                          rw [hw_u_34]
                          clear hw_u_34
                          have hP : va_P D classes [(h, .inr (10, ML G Rf)), ((Rf 0), .inl (cI, 1302, .inl f0))] H := hP
                          have hD : va_D A [(h, .inr (10, ML G Rf)), ((Rf 0), .inl (cI, 1302, .inl f0))] := hD
                          refine lv_goto (tgt := 162) hx hb dX10_told_157 rfl ?_
                          exact hret (f_m_bargesThat G f0 3) () _ _ _ _ dX10_told_162 rfl hE hP hD hS
                      · skip
                        replace hF := hF.2 c_27
                        rw [if_neg c_27] at hE
                        by_cases c_36 : w_ = 11
                        · replace hF := hF.1 c_36
                          rw [if_pos c_36] at hE
                          subst c_36
                          refine lv_tableIn (off := 117) (tgt := 118) hx hb dX10_told_1 (by decide +kernel) (by decide +kernel) (by decide +kernel) rfl ?_
                          refine lv_aload_n hx hb dX10_told_118 rfl (lv_at hl 0 rfl) ?_
                          refine lv_bipush (v := 63) hx hb dX10_told_119 rfl ?_
                          obtain ⟨hs_37, hF⟩ := hF
                          refine cVi (wr := []) (rest := []) (m_griefOf Rf h G f0 63 hs_37) okV_X10_griefOf wd_619 hx hb hml hown hts hK hP hD hS hA hN hl.1 [0, 1] [] rfl rfl rfl rfl (of_decide_eq_true rfl) rfl rfl rfl (Nat.le_of_ble_eq_true rfl) (Nat.le_of_ble_eq_true rfl) (Nat.le_of_ble_eq_true rfl) (Nat.le_of_ble_eq_true rfl) (Nat.le_of_ble_eq_true rfl) dX10_told_121 (fun r_39 u_38 H locs hw_u_38 hP hD hS => ?_)
                          replace hw_u_38 : r_39 = (f_m_griefOf G f0 63) := hw_u_38
                          rw [hw_u_38]
                          clear hw_u_38
                          have hP : va_P D classes [(h, .inr (10, ML G Rf)), ((Rf 0), .inl (cI, 1302, .inl f0))] H := hP
                          have hD : va_D A [(h, .inr (10, ML G Rf)), ((Rf 0), .inl (cI, 1302, .inl f0))] := hD
                          exact hret (f_m_griefOf G f0 63) () _ _ _ _ dX10_told_124 rfl hE hP hD hS
                        · skip
                          replace hF := hF.2 c_36
                          rw [if_neg c_36] at hE
                          by_cases c_40 : w_ = 12
                          · replace hF := hF.1 c_40
                            rw [if_pos c_40] at hE
                            subst c_40
                            refine lv_tableIn (off := 124) (tgt := 125) hx hb dX10_told_1 (by decide +kernel) (by decide +kernel) (by decide +kernel) rfl ?_
                            refine lv_aload_n hx hb dX10_told_125 rfl (lv_at hl 0 rfl) ?_
                            refine va_get (D := D) (ci := 10) (v := .int (G 42)) (C := RX10) (T := TX10) (N := 45) hx hb hts iX10 hown hK hP 0 rfl rfl 42 (Nat.le_of_ble_eq_true rfl) (hts _ wd_609) (fun _ h9 => h9) rfl dX10_told_126 ?_
                            exact hret (G 42) () _ _ _ _ dX10_told_129 rfl hE hP hD hS
                          · skip
                            replace hF := hF.2 c_40
                            rw [if_neg c_40] at hE
                            by_cases c_41 : w_ = 13
                            · replace hF := hF.1 c_41
                              rw [if_pos c_41] at hE
                              subst c_41
                              refine lv_tableIn (off := 129) (tgt := 130) hx hb dX10_told_1 (by decide +kernel) (by decide +kernel) (by decide +kernel) rfl ?_
                              refine lv_aload_n hx hb dX10_told_130 rfl (lv_at hl 0 rfl) ?_
                              refine va_get (D := D) (ci := 10) (v := .int (G 2)) (C := RX10) (T := TX10) (N := 45) hx hb hts iX10 hown hK hP 0 rfl rfl 2 (Nat.le_of_ble_eq_true rfl) (hts _ wd_556) (fun _ h9 => h9) rfl dX10_told_131 ?_
                              exact hret (G 2) () _ _ _ _ dX10_told_134 rfl hE hP hD hS
                            · skip
                              replace hF := hF.2 c_41
                              rw [if_neg c_41] at hE
                              refine lv_tableOut (tgt := 135) hx hb dX10_told_1 (by have q := lv_neT (a := 0) c_1 rfl; have q0 := lv_neT (a := 0) c_1 rfl; have q1 := lv_neT (a := 1) c_2 rfl; have q2 := lv_neT (a := 2) c_3 rfl; have q3 := lv_neT (a := 3) c_4 rfl; have q4 := lv_neT (a := 4) c_5 rfl; have q5 := lv_neT (a := 5) c_6 rfl; have q6 := lv_neT (a := 6) c_7 rfl; have q7 := lv_neT (a := 7) c_8 rfl; have q8 := lv_neT (a := 8) c_9 rfl; have q9 := lv_neT (a := 9) c_18 rfl; have q10 := lv_neT (a := 10) c_27 rfl; have q11 := lv_neT (a := 11) c_36 rfl; have q12 := lv_neT (a := 12) c_40 rfl; have q13 := lv_neT (a := 13) c_41 rfl; omega) rfl ?_
                              refine lv_iload_n hx hb dX10_told_135 rfl (lv_at hl 1 rfl) ?_
                              refine lv_i2l (v := w_.toInt64) hx hb dX10_told_136 rfl ?_
                              refine lv_ldc2 (v := 8) hx hb hown (hts _ wd_613) dX10_told_137 ?_
                              refine lv_ldc2 (v := 10) hx hb hown (hts _ wd_614) dX10_told_140 ?_
                              obtain ⟨hs_42, hF⟩ := hF
                              refine cSi (wr := [(h, .inr (10, ML G Rf)), ((Rf 0), .inl (cI, 1302, .inl f0))]) (rest := []) (m_in w_.toInt64 8 10 hs_42) okS_X10_in wd_495 hx hb hml hown hts hK hP hD hS hA hN hl.1 [] [0, 1] rfl rfl rfl rfl (of_decide_eq_true rfl) rfl (Nat.le_of_ble_eq_true rfl) (Nat.le_of_ble_eq_true rfl) (Nat.le_of_ble_eq_true rfl) (Nat.le_of_ble_eq_true rfl) (Nat.le_of_ble_eq_true rfl) dX10_told_143 (fun r_44 u_43 H locs hw_u_43 hP hD hS => ?_)
                              replace hw_u_43 : r_44 = (f_m_in w_.toInt64 8 10) := hw_u_43
                              rw [hw_u_43]
                              clear hw_u_43
                              have hP : va_P D classes [(h, .inr (10, ML G Rf)), ((Rf 0), .inl (cI, 1302, .inl f0))] H := hP
                              have hD : va_D A [(h, .inr (10, ML G Rf)), ((Rf 0), .inl (cI, 1302, .inl f0))] := hD
                              refine lv_if_eq (tgt := 160) hx hb dX10_told_146 rfl (fun c_45 => ?_) (fun c_45 => ?_)
                              · replace hF := hF.1 c_45
                                rw [if_pos c_45] at hE
                                refine lv_ldc (v := (-1000000002)) hx hb hown (hts _ wd_507) dX10_told_160 ?_
                                exact hret (-1000000002) () _ _ _ _ dX10_told_162 rfl hE hP hD hS
                              · replace hF := hF.2 c_45
                                rw [if_neg c_45] at hE
                                refine lv_aload_n hx hb dX10_told_149 rfl (lv_at hl 0 rfl) ?_
                                refine lv_iload_n hx hb dX10_told_150 rfl (lv_at hl 1 rfl) ?_
                                refine lv_bipush (v := 7) hx hb dX10_told_151 rfl ?_
                                refine lv_isub hx hb dX10_told_153 ?_
                                obtain ⟨hs_46, hF⟩ := hF
                                refine cVi (wr := []) (rest := []) (m_bargesThat Rf h G f0 (w_ - 7) hs_46) okV_X10_bargesThat wd_615 hx hb hml hown hts hK hP hD hS hA hN hl.1 [0, 1] [] rfl rfl rfl rfl (of_decide_eq_true rfl) rfl rfl rfl (Nat.le_of_ble_eq_true rfl) (Nat.le_of_ble_eq_true rfl) (Nat.le_of_ble_eq_true rfl) (Nat.le_of_ble_eq_true rfl) (Nat.le_of_ble_eq_true rfl) dX10_told_154 (fun r_48 u_47 H locs hw_u_47 hP hD hS => ?_)
                                replace hw_u_47 : r_48 = (f_m_bargesThat G f0 (w_ - 7)) := hw_u_47
                                rw [hw_u_47]
                                clear hw_u_47
                                have hP : va_P D classes [(h, .inr (10, ML G Rf)), ((Rf 0), .inl (cI, 1302, .inl f0))] H := hP
                                have hD : va_D A [(h, .inr (10, ML G Rf)), ((Rf 0), .inl (cI, 1302, .inl f0))] := hD
                                refine lv_goto (tgt := 162) hx hb dX10_told_157 rfl ?_
                                exact hret (f_m_bargesThat G f0 (w_ - 7)) () _ _ _ _ dX10_told_162 rfl hE hP hD hS
end
section
def fw_cX10_takesClause : List (List Nat) := [[42, 182, 0, 111, 60, 27, 16, 98, 159, 0, 34, 42, 180, 0, 126, 158, 0, 31], [0, 31, 27, 16, 116, 159, 0, 21, 27, 16, 99, 159, 0, 15, 27, 16, 118, 159], [118, 159, 0, 9, 27, 16, 115, 160, 0, 7, 4, 167, 0, 4, 3, 61, 28, 154], [28, 154, 0, 13, 42, 4, 42, 180, 0, 105, 182, 0, 115, 172, 27, 16, 98, 160], [98, 160, 0, 18, 42, 180, 0, 126, 158, 0, 7, 4, 167, 0, 85, 3, 167, 0], [167, 0, 81, 27, 16, 116, 160, 0, 25, 42, 180, 0, 132, 154, 0, 10, 42, 180], [42, 180, 0, 139, 158, 0, 7, 4, 167, 0, 57, 3, 167, 0, 53, 27, 16, 99], [16, 99, 160, 0, 20, 42, 180, 0, 139, 16, 6, 160, 0, 7, 4, 167, 0, 34], [0, 34, 3, 167, 0, 30, 27, 16, 118, 160, 0, 20, 42, 180, 0, 146, 16, 7], [16, 7, 160, 0, 7, 4, 167, 0, 11, 3, 167, 0, 7, 42, 180, 0, 149, 62], [149, 62, 29, 153, 0, 13, 42, 6, 42, 180, 0, 105, 182, 0, 115, 172, 42, 89], [42, 89, 180, 0, 98, 4, 96, 181, 0, 98, 27, 171, 0, 0, 0, 77, 0, 0], [0, 0, 0, 4, 0, 0, 0, 98, 0, 0, 0, 41, 0, 0, 0, 99, 0, 0], [0, 0, 0, 59, 0, 0, 0, 116, 0, 0, 0, 50, 0, 0, 0, 118, 0, 0], [0, 0, 0, 68, 42, 182, 0, 155, 54, 4, 167, 0, 36, 42, 182, 0, 159, 54], [159, 54, 4, 167, 0, 27, 42, 182, 0, 162, 54, 4, 167, 0, 18, 42, 182, 0], [182, 0, 165, 54, 4, 167, 0, 9, 42, 182, 0, 168, 54, 4, 21, 4, 153, 0], [153, 0, 16, 42, 16, 59, 182, 0, 142, 153, 0, 7, 4, 167, 0, 4, 3, 172], [3, 172]]
theorem fW_cX10_takesClause : fq_wins 19 cX10_takesClause.data.toList = fw_cX10_takesClause := by decide +kernel
theorem fk_cX10_takesClause_0 : fq_ck cX10_takesClause 0 [42, 182, 0, 111, 60, 27, 16, 98, 159, 0, 34, 42, 180, 0, 126, 158, 0, 31] := fq_of fW_cX10_takesClause 0 rfl rfl
theorem dX10_takesClause_0 : decode cX10_takesClause 0 = .ok (.aload_n 0, 1) := fq_42 fk_cX10_takesClause_0 0 rfl rfl
theorem dX10_takesClause_1 : decode cX10_takesClause 1 = .ok (.invokevirtual 111, 3) := fq_182 fk_cX10_takesClause_0 1 rfl rfl rfl rfl rfl
theorem dX10_takesClause_4 : decode cX10_takesClause 4 = .ok (.istore_n 1, 1) := fq_60 fk_cX10_takesClause_0 4 rfl rfl
theorem dX10_takesClause_5 : decode cX10_takesClause 5 = .ok (.iload_n 1, 1) := fq_27 fk_cX10_takesClause_0 5 rfl rfl
theorem dX10_takesClause_6 : decode cX10_takesClause 6 = .ok (.bipush 98, 2) := fq_16 fk_cX10_takesClause_0 6 rfl rfl rfl rfl
theorem dX10_takesClause_8 : decode cX10_takesClause 8 = .ok (.if_icmp .eq 34, 3) := fq_159 fk_cX10_takesClause_0 8 rfl rfl rfl rfl rfl
theorem fk_cX10_takesClause_2 : fq_ck cX10_takesClause 32 [118, 159, 0, 9, 27, 16, 115, 160, 0, 7, 4, 167, 0, 4, 3, 61, 28, 154] := fq_of fW_cX10_takesClause 2 rfl rfl
theorem dX10_takesClause_42 : decode cX10_takesClause 42 = .ok (.iconst 1, 1) := fq_4 fk_cX10_takesClause_2 10 rfl rfl
theorem dX10_takesClause_43 : decode cX10_takesClause 43 = .ok (.goto 4, 3) := fq_167 fk_cX10_takesClause_2 11 rfl rfl rfl rfl rfl
theorem dX10_takesClause_47 : decode cX10_takesClause 47 = .ok (.istore_n 2, 1) := fq_61 fk_cX10_takesClause_2 15 rfl rfl
theorem fk_cX10_takesClause_3 : fq_ck cX10_takesClause 48 [28, 154, 0, 13, 42, 4, 42, 180, 0, 105, 182, 0, 115, 172, 27, 16, 98, 160] := fq_of fW_cX10_takesClause 3 rfl rfl
theorem dX10_takesClause_48 : decode cX10_takesClause 48 = .ok (.iload_n 2, 1) := fq_28 fk_cX10_takesClause_3 0 rfl rfl
theorem dX10_takesClause_49 : decode cX10_takesClause 49 = .ok (.ifCond .ne 13, 3) := fq_154 fk_cX10_takesClause_3 1 rfl rfl rfl rfl rfl
theorem dX10_takesClause_62 : decode cX10_takesClause 62 = .ok (.iload_n 1, 1) := fq_27 fk_cX10_takesClause_3 14 rfl rfl
theorem dX10_takesClause_63 : decode cX10_takesClause 63 = .ok (.bipush 98, 2) := fq_16 fk_cX10_takesClause_3 15 rfl rfl rfl rfl
theorem fk_cX10_takesClause_4 : fq_ck cX10_takesClause 64 [98, 160, 0, 18, 42, 180, 0, 126, 158, 0, 7, 4, 167, 0, 85, 3, 167, 0] := fq_of fW_cX10_takesClause 4 rfl rfl
theorem dX10_takesClause_65 : decode cX10_takesClause 65 = .ok (.if_icmp .ne 18, 3) := fq_160 fk_cX10_takesClause_4 1 rfl rfl rfl rfl rfl
theorem dX10_takesClause_68 : decode cX10_takesClause 68 = .ok (.aload_n 0, 1) := fq_42 fk_cX10_takesClause_4 4 rfl rfl
theorem dX10_takesClause_69 : decode cX10_takesClause 69 = .ok (.getfield 126, 3) := fq_180 fk_cX10_takesClause_4 5 rfl rfl rfl rfl rfl
theorem dX10_takesClause_72 : decode cX10_takesClause 72 = .ok (.ifCond .le 7, 3) := fq_158 fk_cX10_takesClause_4 8 rfl rfl rfl rfl rfl
theorem dX10_takesClause_79 : decode cX10_takesClause 79 = .ok (.iconst 0, 1) := fq_3 fk_cX10_takesClause_4 15 rfl rfl
theorem fk_cX10_takesClause_5 : fq_ck cX10_takesClause 80 [167, 0, 81, 27, 16, 116, 160, 0, 25, 42, 180, 0, 132, 154, 0, 10, 42, 180] := fq_of fW_cX10_takesClause 5 rfl rfl
theorem dX10_takesClause_80 : decode cX10_takesClause 80 = .ok (.goto 81, 3) := fq_167 fk_cX10_takesClause_5 0 rfl rfl rfl rfl rfl
theorem fk_cX10_takesClause_10 : fq_ck cX10_takesClause 160 [149, 62, 29, 153, 0, 13, 42, 6, 42, 180, 0, 105, 182, 0, 115, 172, 42, 89] := fq_of fW_cX10_takesClause 10 rfl rfl
theorem dX10_takesClause_161 : decode cX10_takesClause 161 = .ok (.istore_n 3, 1) := fq_62 fk_cX10_takesClause_10 1 rfl rfl
theorem dX10_takesClause_162 : decode cX10_takesClause 162 = .ok (.iload_n 3, 1) := fq_29 fk_cX10_takesClause_10 2 rfl rfl
theorem dX10_takesClause_163 : decode cX10_takesClause 163 = .ok (.ifCond .eq 13, 3) := fq_153 fk_cX10_takesClause_10 3 rfl rfl rfl rfl rfl
theorem fk_cX10_takesClause_11 : fq_ck cX10_takesClause 176 [42, 89, 180, 0, 98, 4, 96, 181, 0, 98, 27, 171, 0, 0, 0, 77, 0, 0] := fq_of fW_cX10_takesClause 11 rfl rfl
theorem dX10_takesClause_176 : decode cX10_takesClause 176 = .ok (.aload_n 0, 1) := fq_42 fk_cX10_takesClause_11 0 rfl rfl
theorem dX10_takesClause_177 : decode cX10_takesClause 177 = .ok (.dup, 1) := fq_89 fk_cX10_takesClause_11 1 rfl rfl
theorem dX10_takesClause_178 : decode cX10_takesClause 178 = .ok (.getfield 98, 3) := fq_180 fk_cX10_takesClause_11 2 rfl rfl rfl rfl rfl
theorem dX10_takesClause_181 : decode cX10_takesClause 181 = .ok (.iconst 1, 1) := fq_4 fk_cX10_takesClause_11 5 rfl rfl
theorem dX10_takesClause_182 : decode cX10_takesClause 182 = .ok (.iadd, 1) := fq_96 fk_cX10_takesClause_11 6 rfl rfl
theorem dX10_takesClause_183 : decode cX10_takesClause 183 = .ok (.putfield 98, 3) := fq_181 fk_cX10_takesClause_11 7 rfl rfl rfl rfl rfl
theorem dX10_takesClause_186 : decode cX10_takesClause 186 = .ok (.iload_n 1, 1) := fq_27 fk_cX10_takesClause_11 10 rfl rfl
theorem dX10_takesClause_187 : decode cX10_takesClause 187 = .ok (.lookupswitch 77 #[(98, 41), (99, 59), (116, 50), (118, 68)], 41) := by decide +kernel
theorem fk_cX10_takesClause_14 : fq_ck cX10_takesClause 224 [0, 0, 0, 68, 42, 182, 0, 155, 54, 4, 167, 0, 36, 42, 182, 0, 159, 54] := fq_of fW_cX10_takesClause 14 rfl rfl
theorem dX10_takesClause_228 : decode cX10_takesClause 228 = .ok (.aload_n 0, 1) := fq_42 fk_cX10_takesClause_14 4 rfl rfl
theorem dX10_takesClause_229 : decode cX10_takesClause 229 = .ok (.invokevirtual 155, 3) := fq_182 fk_cX10_takesClause_14 5 rfl rfl rfl rfl rfl
theorem wd_623 : Cond.methodLink RX10 155 yX10_takesBridges ∈ BG := BG_at4 230 (by decide +kernel) rfl
theorem wd_624 : Cond.code yX10_takesBridges cX10_takesBridges 2 (some .boolean) ∈ BG := BG_at4 233 rfl rfl
theorem wd_625 : Cond.instanceMethod yX10_takesBridges ∈ BG := BG_at4 232 (by decide +kernel) rfl
theorem wd_626 : Cond.selects RX10 yX10_takesBridges yX10_takesBridges ∈ BG := BG_in (by decide +kernel) rfl
theorem okV_X10_takesBridges : okV yX10_takesBridges cX10_takesBridges 2 (some .boolean) 0 := ⟨⟨wd_624, wd_497, by decide +kernel⟩, wd_625, wd_626⟩
theorem dX10_takesClause_232 : decode cX10_takesClause 232 = .ok (.istore 4, 2) := fq_54 fk_cX10_takesClause_14 8 rfl rfl rfl
theorem dX10_takesClause_234 : decode cX10_takesClause 234 = .ok (.goto 36, 3) := fq_167 fk_cX10_takesClause_14 10 rfl rfl rfl rfl rfl
theorem fk_cX10_takesClause_16 : fq_ck cX10_takesClause 256 [182, 0, 165, 54, 4, 167, 0, 9, 42, 182, 0, 168, 54, 4, 21, 4, 153, 0] := fq_of fW_cX10_takesClause 16 rfl rfl
theorem dX10_takesClause_270 : decode cX10_takesClause 270 = .ok (.iload 4, 2) := fq_21 fk_cX10_takesClause_16 14 rfl rfl rfl
theorem fk_cX10_takesClause_17 : fq_ck cX10_takesClause 272 [153, 0, 16, 42, 16, 59, 182, 0, 142, 153, 0, 7, 4, 167, 0, 4, 3, 172] := fq_of fW_cX10_takesClause 17 rfl rfl
theorem dX10_takesClause_272 : decode cX10_takesClause 272 = .ok (.ifCond .eq 16, 3) := fq_153 fk_cX10_takesClause_17 0 rfl rfl rfl rfl rfl
theorem fk_cX10_takesClause_18 : fq_ck cX10_takesClause 288 [3, 172] := fq_of fW_cX10_takesClause 18 rfl rfl
theorem dX10_takesClause_288 : decode cX10_takesClause 288 = .ok (.iconst 0, 1) := fq_3 fk_cX10_takesClause_18 0 rfl rfl
theorem dX10_takesClause_289 : decode cX10_takesClause 289 = .ok (.ireturn, 1) := fq_172 fk_cX10_takesClause_18 1 rfl rfl
theorem dX10_takesClause_275 : decode cX10_takesClause 275 = .ok (.aload_n 0, 1) := fq_42 fk_cX10_takesClause_17 3 rfl rfl
theorem dX10_takesClause_276 : decode cX10_takesClause 276 = .ok (.bipush 59, 2) := fq_16 fk_cX10_takesClause_17 4 rfl rfl rfl rfl
theorem dX10_takesClause_278 : decode cX10_takesClause 278 = .ok (.invokevirtual 142, 3) := fq_182 fk_cX10_takesClause_17 6 rfl rfl rfl rfl rfl
theorem dX10_takesClause_281 : decode cX10_takesClause 281 = .ok (.ifCond .eq 7, 3) := fq_153 fk_cX10_takesClause_17 9 rfl rfl rfl rfl rfl
theorem dX10_takesClause_284 : decode cX10_takesClause 284 = .ok (.iconst 1, 1) := fq_4 fk_cX10_takesClause_17 12 rfl rfl
theorem dX10_takesClause_285 : decode cX10_takesClause 285 = .ok (.goto 4, 3) := fq_167 fk_cX10_takesClause_17 13 rfl rfl rfl rfl rfl
theorem dX10_takesClause_75 : decode cX10_takesClause 75 = .ok (.iconst 1, 1) := fq_4 fk_cX10_takesClause_4 11 rfl rfl
theorem dX10_takesClause_76 : decode cX10_takesClause 76 = .ok (.goto 85, 3) := fq_167 fk_cX10_takesClause_4 12 rfl rfl rfl rfl rfl
theorem dX10_takesClause_166 : decode cX10_takesClause 166 = .ok (.aload_n 0, 1) := fq_42 fk_cX10_takesClause_10 6 rfl rfl
theorem dX10_takesClause_167 : decode cX10_takesClause 167 = .ok (.iconst 3, 1) := fq_6 fk_cX10_takesClause_10 7 rfl rfl
theorem dX10_takesClause_168 : decode cX10_takesClause 168 = .ok (.aload_n 0, 1) := fq_42 fk_cX10_takesClause_10 8 rfl rfl
theorem dX10_takesClause_169 : decode cX10_takesClause 169 = .ok (.getfield 105, 3) := fq_180 fk_cX10_takesClause_10 9 rfl rfl rfl rfl rfl
theorem dX10_takesClause_172 : decode cX10_takesClause 172 = .ok (.invokevirtual 115, 3) := fq_182 fk_cX10_takesClause_10 12 rfl rfl rfl rfl rfl
theorem dX10_takesClause_175 : decode cX10_takesClause 175 = .ok (.ireturn, 1) := fq_172 fk_cX10_takesClause_10 15 rfl rfl
theorem dX10_takesClause_11 : decode cX10_takesClause 11 = .ok (.aload_n 0, 1) := fq_42 fk_cX10_takesClause_0 11 rfl rfl
theorem dX10_takesClause_12 : decode cX10_takesClause 12 = .ok (.getfield 126, 3) := fq_180 fk_cX10_takesClause_0 12 rfl rfl rfl rfl rfl
theorem dX10_takesClause_15 : decode cX10_takesClause 15 = .ok (.ifCond .le 31, 3) := fq_158 fk_cX10_takesClause_0 15 rfl rfl rfl rfl rfl
theorem dX10_takesClause_46 : decode cX10_takesClause 46 = .ok (.iconst 0, 1) := fq_3 fk_cX10_takesClause_2 14 rfl rfl
theorem dX10_takesClause_52 : decode cX10_takesClause 52 = .ok (.aload_n 0, 1) := fq_42 fk_cX10_takesClause_3 4 rfl rfl
theorem dX10_takesClause_53 : decode cX10_takesClause 53 = .ok (.iconst 1, 1) := fq_4 fk_cX10_takesClause_3 5 rfl rfl
theorem dX10_takesClause_54 : decode cX10_takesClause 54 = .ok (.aload_n 0, 1) := fq_42 fk_cX10_takesClause_3 6 rfl rfl
theorem dX10_takesClause_55 : decode cX10_takesClause 55 = .ok (.getfield 105, 3) := fq_180 fk_cX10_takesClause_3 7 rfl rfl rfl rfl rfl
theorem dX10_takesClause_58 : decode cX10_takesClause 58 = .ok (.invokevirtual 115, 3) := fq_182 fk_cX10_takesClause_3 10 rfl rfl rfl rfl rfl
theorem dX10_takesClause_61 : decode cX10_takesClause 61 = .ok (.ireturn, 1) := fq_172 fk_cX10_takesClause_3 13 rfl rfl
theorem fk_cX10_takesClause_1 : fq_ck cX10_takesClause 16 [0, 31, 27, 16, 116, 159, 0, 21, 27, 16, 99, 159, 0, 15, 27, 16, 118, 159] := fq_of fW_cX10_takesClause 1 rfl rfl
theorem dX10_takesClause_18 : decode cX10_takesClause 18 = .ok (.iload_n 1, 1) := fq_27 fk_cX10_takesClause_1 2 rfl rfl
theorem dX10_takesClause_19 : decode cX10_takesClause 19 = .ok (.bipush 116, 2) := fq_16 fk_cX10_takesClause_1 3 rfl rfl rfl rfl
theorem dX10_takesClause_21 : decode cX10_takesClause 21 = .ok (.if_icmp .eq 21, 3) := fq_159 fk_cX10_takesClause_1 5 rfl rfl rfl rfl rfl
theorem dX10_takesClause_83 : decode cX10_takesClause 83 = .ok (.iload_n 1, 1) := fq_27 fk_cX10_takesClause_5 3 rfl rfl
theorem dX10_takesClause_84 : decode cX10_takesClause 84 = .ok (.bipush 116, 2) := fq_16 fk_cX10_takesClause_5 4 rfl rfl rfl rfl
theorem dX10_takesClause_86 : decode cX10_takesClause 86 = .ok (.if_icmp .ne 25, 3) := fq_160 fk_cX10_takesClause_5 6 rfl rfl rfl rfl rfl
theorem dX10_takesClause_89 : decode cX10_takesClause 89 = .ok (.aload_n 0, 1) := fq_42 fk_cX10_takesClause_5 9 rfl rfl
theorem dX10_takesClause_90 : decode cX10_takesClause 90 = .ok (.getfield 132, 3) := fq_180 fk_cX10_takesClause_5 10 rfl rfl rfl rfl rfl
theorem dX10_takesClause_93 : decode cX10_takesClause 93 = .ok (.ifCond .ne 10, 3) := fq_154 fk_cX10_takesClause_5 13 rfl rfl rfl rfl rfl
theorem fk_cX10_takesClause_6 : fq_ck cX10_takesClause 96 [42, 180, 0, 139, 158, 0, 7, 4, 167, 0, 57, 3, 167, 0, 53, 27, 16, 99] := fq_of fW_cX10_takesClause 6 rfl rfl
theorem dX10_takesClause_103 : decode cX10_takesClause 103 = .ok (.iconst 1, 1) := fq_4 fk_cX10_takesClause_6 7 rfl rfl
theorem dX10_takesClause_104 : decode cX10_takesClause 104 = .ok (.goto 57, 3) := fq_167 fk_cX10_takesClause_6 8 rfl rfl rfl rfl rfl
theorem dX10_takesClause_96 : decode cX10_takesClause 96 = .ok (.aload_n 0, 1) := fq_42 fk_cX10_takesClause_6 0 rfl rfl
theorem dX10_takesClause_97 : decode cX10_takesClause 97 = .ok (.getfield 139, 3) := fq_180 fk_cX10_takesClause_6 1 rfl rfl rfl rfl rfl
theorem dX10_takesClause_100 : decode cX10_takesClause 100 = .ok (.ifCond .le 7, 3) := fq_158 fk_cX10_takesClause_6 4 rfl rfl rfl rfl rfl
theorem dX10_takesClause_107 : decode cX10_takesClause 107 = .ok (.iconst 0, 1) := fq_3 fk_cX10_takesClause_6 11 rfl rfl
theorem dX10_takesClause_108 : decode cX10_takesClause 108 = .ok (.goto 53, 3) := fq_167 fk_cX10_takesClause_6 12 rfl rfl rfl rfl rfl
theorem dX10_takesClause_237 : decode cX10_takesClause 237 = .ok (.aload_n 0, 1) := fq_42 fk_cX10_takesClause_14 13 rfl rfl
theorem dX10_takesClause_238 : decode cX10_takesClause 238 = .ok (.invokevirtual 159, 3) := fq_182 fk_cX10_takesClause_14 14 rfl rfl rfl rfl rfl
theorem wd_627 : Cond.methodLink RX10 159 yX10_takesThemes ∈ BG := BG_at5 0 (by decide +kernel) rfl
theorem wd_628 : Cond.code yX10_takesThemes cX10_takesThemes 1 (some .boolean) ∈ BG := BG_at5 3 rfl rfl
theorem wd_629 : Cond.instanceMethod yX10_takesThemes ∈ BG := BG_at5 2 (by decide +kernel) rfl
theorem wd_630 : Cond.selects RX10 yX10_takesThemes yX10_takesThemes ∈ BG := BG_in (by decide +kernel) rfl
theorem okV_X10_takesThemes : okV yX10_takesThemes cX10_takesThemes 1 (some .boolean) 0 := ⟨⟨wd_628, wd_497, by decide +kernel⟩, wd_629, wd_630⟩
theorem fk_cX10_takesClause_15 : fq_ck cX10_takesClause 240 [159, 54, 4, 167, 0, 27, 42, 182, 0, 162, 54, 4, 167, 0, 18, 42, 182, 0] := fq_of fW_cX10_takesClause 15 rfl rfl
theorem dX10_takesClause_241 : decode cX10_takesClause 241 = .ok (.istore 4, 2) := fq_54 fk_cX10_takesClause_15 1 rfl rfl rfl
theorem dX10_takesClause_243 : decode cX10_takesClause 243 = .ok (.goto 27, 3) := fq_167 fk_cX10_takesClause_15 3 rfl rfl rfl rfl rfl
theorem dX10_takesClause_24 : decode cX10_takesClause 24 = .ok (.iload_n 1, 1) := fq_27 fk_cX10_takesClause_1 8 rfl rfl
theorem dX10_takesClause_25 : decode cX10_takesClause 25 = .ok (.bipush 99, 2) := fq_16 fk_cX10_takesClause_1 9 rfl rfl rfl rfl
theorem dX10_takesClause_27 : decode cX10_takesClause 27 = .ok (.if_icmp .eq 15, 3) := fq_159 fk_cX10_takesClause_1 11 rfl rfl rfl rfl rfl
theorem dX10_takesClause_111 : decode cX10_takesClause 111 = .ok (.iload_n 1, 1) := fq_27 fk_cX10_takesClause_6 15 rfl rfl
theorem fk_cX10_takesClause_7 : fq_ck cX10_takesClause 112 [16, 99, 160, 0, 20, 42, 180, 0, 139, 16, 6, 160, 0, 7, 4, 167, 0, 34] := fq_of fW_cX10_takesClause 7 rfl rfl
theorem dX10_takesClause_112 : decode cX10_takesClause 112 = .ok (.bipush 99, 2) := fq_16 fk_cX10_takesClause_7 0 rfl rfl rfl rfl
theorem dX10_takesClause_114 : decode cX10_takesClause 114 = .ok (.if_icmp .ne 20, 3) := fq_160 fk_cX10_takesClause_7 2 rfl rfl rfl rfl rfl
theorem dX10_takesClause_117 : decode cX10_takesClause 117 = .ok (.aload_n 0, 1) := fq_42 fk_cX10_takesClause_7 5 rfl rfl
theorem dX10_takesClause_118 : decode cX10_takesClause 118 = .ok (.getfield 139, 3) := fq_180 fk_cX10_takesClause_7 6 rfl rfl rfl rfl rfl
theorem dX10_takesClause_121 : decode cX10_takesClause 121 = .ok (.bipush 6, 2) := fq_16 fk_cX10_takesClause_7 9 rfl rfl rfl rfl
theorem dX10_takesClause_123 : decode cX10_takesClause 123 = .ok (.if_icmp .ne 7, 3) := fq_160 fk_cX10_takesClause_7 11 rfl rfl rfl rfl rfl
theorem fk_cX10_takesClause_8 : fq_ck cX10_takesClause 128 [0, 34, 3, 167, 0, 30, 27, 16, 118, 160, 0, 20, 42, 180, 0, 146, 16, 7] := fq_of fW_cX10_takesClause 8 rfl rfl
theorem dX10_takesClause_130 : decode cX10_takesClause 130 = .ok (.iconst 0, 1) := fq_3 fk_cX10_takesClause_8 2 rfl rfl
theorem dX10_takesClause_131 : decode cX10_takesClause 131 = .ok (.goto 30, 3) := fq_167 fk_cX10_takesClause_8 3 rfl rfl rfl rfl rfl
theorem dX10_takesClause_246 : decode cX10_takesClause 246 = .ok (.aload_n 0, 1) := fq_42 fk_cX10_takesClause_15 6 rfl rfl
theorem dX10_takesClause_247 : decode cX10_takesClause 247 = .ok (.invokevirtual 162, 3) := fq_182 fk_cX10_takesClause_15 7 rfl rfl rfl rfl rfl
theorem wd_631 : Cond.methodLink RX10 162 yX10_takesCouple ∈ BG := BG_at5 4 (by decide +kernel) rfl
theorem wd_632 : Cond.code yX10_takesCouple cX10_takesCouple 2 (some .boolean) ∈ BG := BG_at5 7 rfl rfl
theorem wd_633 : Cond.instanceMethod yX10_takesCouple ∈ BG := BG_at5 6 (by decide +kernel) rfl
theorem wd_634 : Cond.selects RX10 yX10_takesCouple yX10_takesCouple ∈ BG := BG_in (by decide +kernel) rfl
theorem okV_X10_takesCouple : okV yX10_takesCouple cX10_takesCouple 2 (some .boolean) 0 := ⟨⟨wd_632, wd_497, by decide +kernel⟩, wd_633, wd_634⟩
theorem dX10_takesClause_250 : decode cX10_takesClause 250 = .ok (.istore 4, 2) := fq_54 fk_cX10_takesClause_15 10 rfl rfl rfl
theorem dX10_takesClause_252 : decode cX10_takesClause 252 = .ok (.goto 18, 3) := fq_167 fk_cX10_takesClause_15 12 rfl rfl rfl rfl rfl
theorem dX10_takesClause_126 : decode cX10_takesClause 126 = .ok (.iconst 1, 1) := fq_4 fk_cX10_takesClause_7 14 rfl rfl
theorem dX10_takesClause_127 : decode cX10_takesClause 127 = .ok (.goto 34, 3) := fq_167 fk_cX10_takesClause_7 15 rfl rfl rfl rfl rfl
theorem dX10_takesClause_30 : decode cX10_takesClause 30 = .ok (.iload_n 1, 1) := fq_27 fk_cX10_takesClause_1 14 rfl rfl
theorem dX10_takesClause_31 : decode cX10_takesClause 31 = .ok (.bipush 118, 2) := fq_16 fk_cX10_takesClause_1 15 rfl rfl rfl rfl
theorem dX10_takesClause_33 : decode cX10_takesClause 33 = .ok (.if_icmp .eq 9, 3) := fq_159 fk_cX10_takesClause_2 1 rfl rfl rfl rfl rfl
theorem dX10_takesClause_134 : decode cX10_takesClause 134 = .ok (.iload_n 1, 1) := fq_27 fk_cX10_takesClause_8 6 rfl rfl
theorem dX10_takesClause_135 : decode cX10_takesClause 135 = .ok (.bipush 118, 2) := fq_16 fk_cX10_takesClause_8 7 rfl rfl rfl rfl
theorem dX10_takesClause_137 : decode cX10_takesClause 137 = .ok (.if_icmp .ne 20, 3) := fq_160 fk_cX10_takesClause_8 9 rfl rfl rfl rfl rfl
theorem dX10_takesClause_140 : decode cX10_takesClause 140 = .ok (.aload_n 0, 1) := fq_42 fk_cX10_takesClause_8 12 rfl rfl
theorem dX10_takesClause_141 : decode cX10_takesClause 141 = .ok (.getfield 146, 3) := fq_180 fk_cX10_takesClause_8 13 rfl rfl rfl rfl rfl
theorem fk_cX10_takesClause_9 : fq_ck cX10_takesClause 144 [16, 7, 160, 0, 7, 4, 167, 0, 11, 3, 167, 0, 7, 42, 180, 0, 149, 62] := fq_of fW_cX10_takesClause 9 rfl rfl
theorem dX10_takesClause_144 : decode cX10_takesClause 144 = .ok (.bipush 7, 2) := fq_16 fk_cX10_takesClause_9 0 rfl rfl rfl rfl
theorem dX10_takesClause_146 : decode cX10_takesClause 146 = .ok (.if_icmp .ne 7, 3) := fq_160 fk_cX10_takesClause_9 2 rfl rfl rfl rfl rfl
theorem dX10_takesClause_153 : decode cX10_takesClause 153 = .ok (.iconst 0, 1) := fq_3 fk_cX10_takesClause_9 9 rfl rfl
theorem dX10_takesClause_154 : decode cX10_takesClause 154 = .ok (.goto 7, 3) := fq_167 fk_cX10_takesClause_9 10 rfl rfl rfl rfl rfl
theorem dX10_takesClause_255 : decode cX10_takesClause 255 = .ok (.aload_n 0, 1) := fq_42 fk_cX10_takesClause_15 15 rfl rfl
theorem dX10_takesClause_256 : decode cX10_takesClause 256 = .ok (.invokevirtual 165, 3) := fq_182 fk_cX10_takesClause_16 0 rfl rfl rfl rfl rfl
theorem wd_635 : Cond.methodLink RX10 165 yX10_takesBarge ∈ BG := BG_at5 12 (by decide +kernel) rfl
theorem wd_636 : Cond.code yX10_takesBarge cX10_takesBarge 1 (some .boolean) ∈ BG := BG_at5 15 rfl rfl
theorem wd_637 : Cond.instanceMethod yX10_takesBarge ∈ BG := BG_at5 14 (by decide +kernel) rfl
theorem wd_638 : Cond.selects RX10 yX10_takesBarge yX10_takesBarge ∈ BG := BG_in (by decide +kernel) rfl
theorem okV_X10_takesBarge : okV yX10_takesBarge cX10_takesBarge 1 (some .boolean) 0 := ⟨⟨wd_636, wd_497, by decide +kernel⟩, wd_637, wd_638⟩
theorem dX10_takesClause_259 : decode cX10_takesClause 259 = .ok (.istore 4, 2) := fq_54 fk_cX10_takesClause_16 3 rfl rfl rfl
theorem dX10_takesClause_261 : decode cX10_takesClause 261 = .ok (.goto 9, 3) := fq_167 fk_cX10_takesClause_16 5 rfl rfl rfl rfl rfl
theorem dX10_takesClause_149 : decode cX10_takesClause 149 = .ok (.iconst 1, 1) := fq_4 fk_cX10_takesClause_9 5 rfl rfl
theorem dX10_takesClause_150 : decode cX10_takesClause 150 = .ok (.goto 11, 3) := fq_167 fk_cX10_takesClause_9 6 rfl rfl rfl rfl rfl
theorem dX10_takesClause_36 : decode cX10_takesClause 36 = .ok (.iload_n 1, 1) := fq_27 fk_cX10_takesClause_2 4 rfl rfl
theorem dX10_takesClause_37 : decode cX10_takesClause 37 = .ok (.bipush 115, 2) := fq_16 fk_cX10_takesClause_2 5 rfl rfl rfl rfl
theorem dX10_takesClause_39 : decode cX10_takesClause 39 = .ok (.if_icmp .ne 7, 3) := fq_160 fk_cX10_takesClause_2 7 rfl rfl rfl rfl rfl
theorem dX10_takesClause_157 : decode cX10_takesClause 157 = .ok (.aload_n 0, 1) := fq_42 fk_cX10_takesClause_9 13 rfl rfl
theorem dX10_takesClause_158 : decode cX10_takesClause 158 = .ok (.getfield 149, 3) := fq_180 fk_cX10_takesClause_9 14 rfl rfl rfl rfl rfl
theorem dX10_takesClause_264 : decode cX10_takesClause 264 = .ok (.aload_n 0, 1) := fq_42 fk_cX10_takesClause_16 8 rfl rfl
theorem dX10_takesClause_265 : decode cX10_takesClause 265 = .ok (.invokevirtual 168, 3) := fq_182 fk_cX10_takesClause_16 9 rfl rfl rfl rfl rfl
theorem wd_639 : Cond.methodLink RX10 168 yX10_takesSnow ∈ BG := BG_at5 16 (by decide +kernel) rfl
theorem wd_640 : Cond.code yX10_takesSnow cX10_takesSnow 1 (some .boolean) ∈ BG := BG_at5 19 rfl rfl
theorem wd_641 : Cond.instanceMethod yX10_takesSnow ∈ BG := BG_at5 18 (by decide +kernel) rfl
theorem wd_642 : Cond.selects RX10 yX10_takesSnow yX10_takesSnow ∈ BG := BG_in (by decide +kernel) rfl
theorem okV_X10_takesSnow : okV yX10_takesSnow cX10_takesSnow 1 (some .boolean) 0 := ⟨⟨wd_640, wd_497, by decide +kernel⟩, wd_641, wd_642⟩
theorem dX10_takesClause_268 : decode cX10_takesClause 268 = .ok (.istore 4, 2) := fq_54 fk_cX10_takesClause_16 12 rfl rfl rfl
noncomputable def f_m_takesClause (G : Nat → Int32) (f13 : Nat → Int32) (f27 : Nat → Int32) (f28 : Nat → Int32) (f29 : Nat → Int32) (f30 : Nat → Int32) (f31 : Nat → Int32) : Int32 × (Nat → Int32) × (Nat → Int32) × (Nat → Int32) × (Nat → Int32) × (Nat → Int32) × (Nat → Int32) := (match (f_m_here G f13) with | (r_3, u_2) => (if r_3 = 98 then (if (u_2 20) ≤ 0 then (match (f_m_takesBridges (upd u_2 15 ((u_2 15) + 1)) f13 f27) with | (r_11, o_12, o_13) => (if r_11 = 0 then (0, o_12, o_13, f28, f29, f30, f31) else (match (f_m_takes o_12 f13 59) with | (r_17, u_16) => (if r_17 = 0 then (0, u_16, o_13, f28, f29, f30, f31) else (1, u_16, o_13, f28, f29, f30, f31))))) else (match (f_m_fails u_2 3 (u_2 16)) with | (r_22, u_21) => (r_22, u_21, f27, f28, f29, f30, f31))) else (if (u_2 20) ≤ 0 then (match (f_m_fails u_2 1 (u_2 16)) with | (r_27, u_26) => (r_27, u_26, f27, f28, f29, f30, f31)) else (if r_3 = 116 then (if (u_2 22) = 0 then (if (u_2 23) ≤ 0 then (match (f_m_takesThemes (upd u_2 15 ((u_2 15) + 1)) f13) with | (r_41, u_40) => (if r_41 = 0 then (0, u_40, f27, f28, f29, f30, f31) else (match (f_m_takes u_40 f13 59) with | (r_45, u_44) => (if r_45 = 0 then (0, u_44, f27, f28, f29, f30, f31) else (1, u_44, f27, f28, f29, f30, f31))))) else (match (f_m_fails u_2 3 (u_2 16)) with | (r_50, u_49) => (r_50, u_49, f27, f28, f29, f30, f31))) else (match (f_m_fails u_2 3 (u_2 16)) with | (r_36, u_35) => (r_36, u_35, f27, f28, f29, f30, f31))) else (if r_3 = 99 then (if (u_2 23) = 6 then (match (f_m_fails u_2 3 (u_2 16)) with | (r_72, u_71) => (r_72, u_71, f27, f28, f29, f30, f31)) else (match (f_m_takesCouple (upd u_2 15 ((u_2 15) + 1)) f13 f28 f29) with | (r_60, o_61, o_62, o_63) => (if r_60 = 0 then (0, o_61, f27, o_62, o_63, f30, f31) else (match (f_m_takes o_61 f13 59) with | (r_67, u_66) => (if r_67 = 0 then (0, u_66, f27, o_62, o_63, f30, f31) else (1, u_66, f27, o_62, o_63, f30, f31)))))) else (if r_3 = 118 then (if (u_2 24) = 7 then (match (f_m_fails u_2 3 (u_2 16)) with | (r_95, u_94) => (r_95, u_94, f27, f28, f29, f30, f31)) else (match (f_m_takesBarge (upd u_2 15 ((u_2 15) + 1)) f13 f30 f31) with | (r_83, o_84, o_85, o_86) => (if r_83 = 0 then (0, o_84, f27, f28, f29, o_85, o_86) else (match (f_m_takes o_84 f13 59) with | (r_90, u_89) => (if r_90 = 0 then (0, u_89, f27, f28, f29, o_85, o_86) else (1, u_89, f27, f28, f29, o_85, o_86)))))) else (if r_3 = 115 then (if (u_2 26) = 0 then (match (f_m_takesSnow (upd u_2 15 ((u_2 15) + 1)) f13) with | (r_109, u_108) => (if r_109 = 0 then (0, u_108, f27, f28, f29, f30, f31) else (match (f_m_takes u_108 f13 59) with | (r_113, u_112) => (if r_113 = 0 then (0, u_112, f27, f28, f29, f30, f31) else (1, u_112, f27, f28, f29, f30, f31))))) else (match (f_m_fails u_2 3 (u_2 16)) with | (r_117, u_116) => (r_117, u_116, f27, f28, f29, f30, f31))) else (match (f_m_fails u_2 1 (u_2 16)) with | (r_100, u_99) => (r_100, u_99, f27, f28, f29, f30, f31)))))))))
def S_m_takesClause (G : Nat → Int32) (f13 : Nat → Int32) (f27 : Nat → Int32) (f28 : Nat → Int32) (f29 : Nat → Int32) (f30 : Nat → Int32) (f31 : Nat → Int32) : Prop := ((S_m_here G f13) ∧ (∀ (r_3 : Int32) (u_2 : (Nat → Int32)), (r_3, u_2) = (f_m_here G f13) → ((r_3 = 98 → (((u_2 20) ≤ 0 → ((S_m_takesBridges (upd u_2 15 ((u_2 15) + 1)) f13 f27) ∧ (∀ (r_11 : Int32) (o_12 : (Nat → Int32)) (o_13 : (Nat → Int32)), (r_11, o_12, o_13) = (f_m_takesBridges (upd u_2 15 ((u_2 15) + 1)) f13 f27) → ((r_11 = 0 → True) ∧ (¬ r_11 = 0 → ((S_m_takes o_12 f13 59) ∧ (∀ (r_17 : Int32) (u_16 : (Nat → Int32)), (r_17, u_16) = (f_m_takes o_12 f13 59) → ((r_17 = 0 → True) ∧ (¬ r_17 = 0 → True))))))))) ∧ (¬ (u_2 20) ≤ 0 → ((S_m_fails u_2 3 (u_2 16)) ∧ (∀ (r_22 : Int32) (u_21 : (Nat → Int32)), (r_22, u_21) = (f_m_fails u_2 3 (u_2 16)) → True))))) ∧ (¬ r_3 = 98 → (((u_2 20) ≤ 0 → ((S_m_fails u_2 1 (u_2 16)) ∧ (∀ (r_27 : Int32) (u_26 : (Nat → Int32)), (r_27, u_26) = (f_m_fails u_2 1 (u_2 16)) → True))) ∧ (¬ (u_2 20) ≤ 0 → ((r_3 = 116 → (((u_2 22) = 0 → (((u_2 23) ≤ 0 → ((S_m_takesThemes (upd u_2 15 ((u_2 15) + 1)) f13) ∧ (∀ (r_41 : Int32) (u_40 : (Nat → Int32)), (r_41, u_40) = (f_m_takesThemes (upd u_2 15 ((u_2 15) + 1)) f13) → ((r_41 = 0 → True) ∧ (¬ r_41 = 0 → ((S_m_takes u_40 f13 59) ∧ (∀ (r_45 : Int32) (u_44 : (Nat → Int32)), (r_45, u_44) = (f_m_takes u_40 f13 59) → ((r_45 = 0 → True) ∧ (¬ r_45 = 0 → True))))))))) ∧ (¬ (u_2 23) ≤ 0 → ((S_m_fails u_2 3 (u_2 16)) ∧ (∀ (r_50 : Int32) (u_49 : (Nat → Int32)), (r_50, u_49) = (f_m_fails u_2 3 (u_2 16)) → True))))) ∧ (¬ (u_2 22) = 0 → ((S_m_fails u_2 3 (u_2 16)) ∧ (∀ (r_36 : Int32) (u_35 : (Nat → Int32)), (r_36, u_35) = (f_m_fails u_2 3 (u_2 16)) → True))))) ∧ (¬ r_3 = 116 → ((r_3 = 99 → (((u_2 23) = 6 → ((S_m_fails u_2 3 (u_2 16)) ∧ (∀ (r_72 : Int32) (u_71 : (Nat → Int32)), (r_72, u_71) = (f_m_fails u_2 3 (u_2 16)) → True))) ∧ (¬ (u_2 23) = 6 → ((S_m_takesCouple (upd u_2 15 ((u_2 15) + 1)) f13 f28 f29) ∧ (∀ (r_60 : Int32) (o_61 : (Nat → Int32)) (o_62 : (Nat → Int32)) (o_63 : (Nat → Int32)), (r_60, o_61, o_62, o_63) = (f_m_takesCouple (upd u_2 15 ((u_2 15) + 1)) f13 f28 f29) → ((r_60 = 0 → True) ∧ (¬ r_60 = 0 → ((S_m_takes o_61 f13 59) ∧ (∀ (r_67 : Int32) (u_66 : (Nat → Int32)), (r_67, u_66) = (f_m_takes o_61 f13 59) → ((r_67 = 0 → True) ∧ (¬ r_67 = 0 → True))))))))))) ∧ (¬ r_3 = 99 → ((r_3 = 118 → (((u_2 24) = 7 → ((S_m_fails u_2 3 (u_2 16)) ∧ (∀ (r_95 : Int32) (u_94 : (Nat → Int32)), (r_95, u_94) = (f_m_fails u_2 3 (u_2 16)) → True))) ∧ (¬ (u_2 24) = 7 → ((S_m_takesBarge (upd u_2 15 ((u_2 15) + 1)) f13 f30 f31) ∧ (∀ (r_83 : Int32) (o_84 : (Nat → Int32)) (o_85 : (Nat → Int32)) (o_86 : (Nat → Int32)), (r_83, o_84, o_85, o_86) = (f_m_takesBarge (upd u_2 15 ((u_2 15) + 1)) f13 f30 f31) → ((r_83 = 0 → True) ∧ (¬ r_83 = 0 → ((S_m_takes o_84 f13 59) ∧ (∀ (r_90 : Int32) (u_89 : (Nat → Int32)), (r_90, u_89) = (f_m_takes o_84 f13 59) → ((r_90 = 0 → True) ∧ (¬ r_90 = 0 → True))))))))))) ∧ (¬ r_3 = 118 → ((r_3 = 115 → (((u_2 26) = 0 → ((S_m_takesSnow (upd u_2 15 ((u_2 15) + 1)) f13) ∧ (∀ (r_109 : Int32) (u_108 : (Nat → Int32)), (r_109, u_108) = (f_m_takesSnow (upd u_2 15 ((u_2 15) + 1)) f13) → ((r_109 = 0 → True) ∧ (¬ r_109 = 0 → ((S_m_takes u_108 f13 59) ∧ (∀ (r_113 : Int32) (u_112 : (Nat → Int32)), (r_113, u_112) = (f_m_takes u_108 f13 59) → ((r_113 = 0 → True) ∧ (¬ r_113 = 0 → True))))))))) ∧ (¬ (u_2 26) = 0 → ((S_m_fails u_2 3 (u_2 16)) ∧ (∀ (r_117 : Int32) (u_116 : (Nat → Int32)), (r_117, u_116) = (f_m_fails u_2 3 (u_2 16)) → True))))) ∧ (¬ r_3 = 115 → ((S_m_fails u_2 1 (u_2 16)) ∧ (∀ (r_100 : Int32) (u_99 : (Nat → Int32)), (r_100, u_99) = (f_m_fails u_2 1 (u_2 16)) → True))))))))))))))))
def rm_m_takesClause : Room := { frames := 4, cells := 0, slots := 0, locals := 84 }
set_option maxHeartbeats 4000000 in
set_option maxRecDepth 100000 in
theorem m_takesClause {l : Launch} {D : va_G} {cI cZ : ClassId} {sz : Nat} (Rf : Nat → Nat) (h : Nat) (G : Nat → Int32) (f13 : Nat → Int32) (f27 : Nat → Int32) (f28 : Nat → Int32) (f29 : Nat → Int32) (f30 : Nat → Int32) (f31 : Nat → Int32) (hF : S_m_takesClause G f13 f27 f28 f29 f30 f31) : KI l yX10_takesClause cX10_takesClause 5 (some .boolean) rm_m_takesClause D cI cZ [.ref h] sz [(h, .inr (10, ML G Rf)), ((Rf 13), .inl (cI, 240, .inl f13)), ((Rf 27), .inl (cI, 6, .inl f27)), ((Rf 28), .inl (cI, 6, .inl f28)), ((Rf 29), .inl (cI, 30, .inl f29)), ((Rf 30), .inl (cI, 7, .inl f30)), ((Rf 31), .inl (cI, 7, .inl f31))] (fun (r : Int32) (u : (Nat → Int32) × (Nat → Int32) × (Nat → Int32) × (Nat → Int32) × (Nat → Int32) × (Nat → Int32)) => (r, u) = f_m_takesClause G f13 f27 f28 f29 f30 f31) (fun (u : (Nat → Int32) × (Nat → Int32) × (Nat → Int32) × (Nat → Int32) × (Nat → Int32) × (Nat → Int32)) => [(h, .inr (10, ML u.1 Rf)), ((Rf 13), .inl (cI, 240, .inl f13)), ((Rf 27), .inl (cI, 6, .inl u.2.1)), ((Rf 28), .inl (cI, 6, .inl u.2.2.1)), ((Rf 29), .inl (cI, 30, .inl u.2.2.2.1)), ((Rf 30), .inl (cI, 7, .inl u.2.2.2.2.1)), ((Rf 31), .inl (cI, 7, .inl u.2.2.2.2.2))]) := by
  refine KI.go rfl (Nat.le_of_ble_eq_true rfl) ?_
  intro p e s m args below meth c ls A Q hx hb hml hts hown hin hP hK hD hS hA hN hl hret
  have hl : lv_has ls 5 [(0, .ref h)] := hl
  rw [S_m_takesClause] at hF
  obtain ⟨RES, hE⟩ : ∃ xRES, f_m_takesClause G f13 f27 f28 f29 f30 f31 = xRES := ⟨_, rfl⟩
  rw [hE] at hret
  rw [f_m_takesClause] at hE
  refine lv_aload_n hx hb dX10_takesClause_0 rfl (lv_at hl 0 rfl) ?_
  obtain ⟨hs_1, hF⟩ := hF
  refine cVi (wr := [((Rf 27), .inl (cI, 6, .inl f27)), ((Rf 28), .inl (cI, 6, .inl f28)), ((Rf 29), .inl (cI, 30, .inl f29)), ((Rf 30), .inl (cI, 7, .inl f30)), ((Rf 31), .inl (cI, 7, .inl f31))]) (rest := []) (m_here Rf h G f13 hs_1) okV_X10_here wd_516 hx hb hml hown hts hK hP hD hS hA hN hl.1 [0, 1] [2, 3, 4, 5, 6] rfl rfl rfl rfl (of_decide_eq_true rfl) rfl rfl rfl (Nat.le_of_ble_eq_true rfl) (Nat.le_of_ble_eq_true rfl) (Nat.le_of_ble_eq_true rfl) (Nat.le_of_ble_eq_true rfl) (Nat.le_of_ble_eq_true rfl) dX10_takesClause_1 (fun r_3 u_2 H locs hw_u_2 hP hD hS => ?_)
  replace hw_u_2 : (r_3, u_2) = (f_m_here G f13) := hw_u_2
  replace hF := hF r_3 u_2 hw_u_2
  rw [← hw_u_2] at hE
  replace hE : ((if r_3 = 98 then (if (u_2 20) ≤ 0 then (match (f_m_takesBridges (upd u_2 15 ((u_2 15) + 1)) f13 f27) with | (r_11, o_12, o_13) => (if r_11 = 0 then (0, o_12, o_13, f28, f29, f30, f31) else (match (f_m_takes o_12 f13 59) with | (r_17, u_16) => (if r_17 = 0 then (0, u_16, o_13, f28, f29, f30, f31) else (1, u_16, o_13, f28, f29, f30, f31))))) else (match (f_m_fails u_2 3 (u_2 16)) with | (r_22, u_21) => (r_22, u_21, f27, f28, f29, f30, f31))) else (if (u_2 20) ≤ 0 then (match (f_m_fails u_2 1 (u_2 16)) with | (r_27, u_26) => (r_27, u_26, f27, f28, f29, f30, f31)) else (if r_3 = 116 then (if (u_2 22) = 0 then (if (u_2 23) ≤ 0 then (match (f_m_takesThemes (upd u_2 15 ((u_2 15) + 1)) f13) with | (r_41, u_40) => (if r_41 = 0 then (0, u_40, f27, f28, f29, f30, f31) else (match (f_m_takes u_40 f13 59) with | (r_45, u_44) => (if r_45 = 0 then (0, u_44, f27, f28, f29, f30, f31) else (1, u_44, f27, f28, f29, f30, f31))))) else (match (f_m_fails u_2 3 (u_2 16)) with | (r_50, u_49) => (r_50, u_49, f27, f28, f29, f30, f31))) else (match (f_m_fails u_2 3 (u_2 16)) with | (r_36, u_35) => (r_36, u_35, f27, f28, f29, f30, f31))) else (if r_3 = 99 then (if (u_2 23) = 6 then (match (f_m_fails u_2 3 (u_2 16)) with | (r_72, u_71) => (r_72, u_71, f27, f28, f29, f30, f31)) else (match (f_m_takesCouple (upd u_2 15 ((u_2 15) + 1)) f13 f28 f29) with | (r_60, o_61, o_62, o_63) => (if r_60 = 0 then (0, o_61, f27, o_62, o_63, f30, f31) else (match (f_m_takes o_61 f13 59) with | (r_67, u_66) => (if r_67 = 0 then (0, u_66, f27, o_62, o_63, f30, f31) else (1, u_66, f27, o_62, o_63, f30, f31)))))) else (if r_3 = 118 then (if (u_2 24) = 7 then (match (f_m_fails u_2 3 (u_2 16)) with | (r_95, u_94) => (r_95, u_94, f27, f28, f29, f30, f31)) else (match (f_m_takesBarge (upd u_2 15 ((u_2 15) + 1)) f13 f30 f31) with | (r_83, o_84, o_85, o_86) => (if r_83 = 0 then (0, o_84, f27, f28, f29, o_85, o_86) else (match (f_m_takes o_84 f13 59) with | (r_90, u_89) => (if r_90 = 0 then (0, u_89, f27, f28, f29, o_85, o_86) else (1, u_89, f27, f28, f29, o_85, o_86)))))) else (if r_3 = 115 then (if (u_2 26) = 0 then (match (f_m_takesSnow (upd u_2 15 ((u_2 15) + 1)) f13) with | (r_109, u_108) => (if r_109 = 0 then (0, u_108, f27, f28, f29, f30, f31) else (match (f_m_takes u_108 f13 59) with | (r_113, u_112) => (if r_113 = 0 then (0, u_112, f27, f28, f29, f30, f31) else (1, u_112, f27, f28, f29, f30, f31))))) else (match (f_m_fails u_2 3 (u_2 16)) with | (r_117, u_116) => (r_117, u_116, f27, f28, f29, f30, f31))) else (match (f_m_fails u_2 1 (u_2 16)) with | (r_100, u_99) => (r_100, u_99, f27, f28, f29, f30, f31)))))))) : Int32 × (Nat → Int32) × (Nat → Int32) × (Nat → Int32) × (Nat → Int32) × (Nat → Int32) × (Nat → Int32)) = RES := hE
  have hP : va_P D classes [((Rf 27), .inl (cI, 6, .inl f27)), ((Rf 28), .inl (cI, 6, .inl f28)), ((Rf 29), .inl (cI, 30, .inl f29)), ((Rf 30), .inl (cI, 7, .inl f30)), ((Rf 31), .inl (cI, 7, .inl f31)), (h, .inr (10, ML u_2 Rf)), ((Rf 13), .inl (cI, 240, .inl f13))] H := hP
  have hD : va_D A [((Rf 27), .inl (cI, 6, .inl f27)), ((Rf 28), .inl (cI, 6, .inl f28)), ((Rf 29), .inl (cI, 30, .inl f29)), ((Rf 30), .inl (cI, 7, .inl f30)), ((Rf 31), .inl (cI, 7, .inl f31)), (h, .inr (10, ML u_2 Rf)), ((Rf 13), .inl (cI, 240, .inl f13))] := hD
  refine lv_istore_n (lv' := [(1, .int r_3), (0, .ref h)]) hx hb dX10_takesClause_4 rfl hl (Nat.le_of_ble_eq_true rfl) rfl (fun ls hl => ?_)
  refine lv_iload_n hx hb dX10_takesClause_5 rfl (lv_at hl 0 rfl) ?_
  refine lv_bipush (v := 98) hx hb dX10_takesClause_6 rfl ?_
  refine lv_icmp_eq (tgt := 42) hx hb dX10_takesClause_8 rfl (fun c_4 => ?_) (fun c_4 => ?_)
  · replace hF := hF.1 c_4
    rw [if_pos c_4] at hE
    subst c_4
    refine lv_iconst (v := 1) hx hb dX10_takesClause_42 rfl ?_
    refine lv_goto (tgt := 47) hx hb dX10_takesClause_43 rfl ?_
    refine lv_istore_n (lv' := [(2, .int 1), (1, .int 98), (0, .ref h)]) hx hb dX10_takesClause_47 rfl hl (Nat.le_of_ble_eq_true rfl) rfl (fun ls hl => ?_)
    refine lv_iload_n hx hb dX10_takesClause_48 rfl (lv_at hl 0 rfl) ?_
    refine lv_if_ne (tgt := 62) hx hb dX10_takesClause_49 rfl (fun c_5 => ?_) (fun c_5 => absurd c_5 (by decide +kernel))
    refine lv_iload_n hx hb dX10_takesClause_62 rfl (lv_at hl 1 rfl) ?_
    refine lv_bipush (v := 98) hx hb dX10_takesClause_63 rfl ?_
    refine lv_icmp_ne (tgt := 83) hx hb dX10_takesClause_65 rfl (fun c_6 => absurd (by decide +kernel) c_6) (fun c_6 => ?_)
    refine lv_aload_n hx hb dX10_takesClause_68 rfl (lv_at hl 2 rfl) ?_
    refine va_get (D := D) (ci := 10) (v := .int (u_2 20)) (C := RX10) (T := TX10) (N := 45) hx hb hts iX10 hown hK hP 5 rfl rfl 20 (Nat.le_of_ble_eq_true rfl) (hts _ wd_527) (fun _ h9 => h9) rfl dX10_takesClause_69 ?_
    refine lv_if_le (tgt := 79) hx hb dX10_takesClause_72 rfl (fun c_7 => ?_) (fun c_7 => ?_)
    · replace hF := hF.1 c_7
      rw [if_pos c_7] at hE
      refine lv_iconst (v := 0) hx hb dX10_takesClause_79 rfl ?_
      refine lv_goto (tgt := 161) hx hb dX10_takesClause_80 rfl ?_
      refine lv_istore_n (lv' := [(3, .int 0), (2, .int 1), (1, .int 98), (0, .ref h)]) hx hb dX10_takesClause_161 rfl hl (Nat.le_of_ble_eq_true rfl) rfl (fun ls hl => ?_)
      refine lv_iload_n hx hb dX10_takesClause_162 rfl (lv_at hl 0 rfl) ?_
      refine lv_if_eq (tgt := 176) hx hb dX10_takesClause_163 rfl (fun c_8 => ?_) (fun c_8 => absurd (by decide +kernel) c_8)
      refine lv_aload_n hx hb dX10_takesClause_176 rfl (lv_at hl 3 rfl) ?_
      refine lv_dup hx hb dX10_takesClause_177 rfl ?_
      refine va_get (D := D) (ci := 10) (v := .int (u_2 15)) (C := RX10) (T := TX10) (N := 45) hx hb hts iX10 hown hK hP 5 rfl rfl 15 (Nat.le_of_ble_eq_true rfl) (hts _ wd_508) (fun _ h9 => h9) rfl dX10_takesClause_178 ?_
      refine lv_iconst (v := 1) hx hb dX10_takesClause_181 rfl ?_
      refine lv_iadd hx hb dX10_takesClause_182 ?_
      refine va_put (D := D) (ci := 10) (v := .int ((u_2 15) + 1)) (ty := .int) (C := RX10) (T := TX10) (N := 45) hx hb hts iX10 tyX10 tyX10_ok nmX10 hown hK hP hD hS 5 rfl rfl 15 (Nat.le_of_ble_eq_true rfl) (hts _ wd_508) (fun _ h9 => h9) rfl (by decide +kernel) rfl rfl (Nat.le_of_ble_eq_true rfl) dX10_takesClause_183 (fun H locs hP hD hS => ?_)
      have hP : va_P D classes [((Rf 27), .inl (cI, 6, .inl f27)), ((Rf 28), .inl (cI, 6, .inl f28)), ((Rf 29), .inl (cI, 30, .inl f29)), ((Rf 30), .inl (cI, 7, .inl f30)), ((Rf 31), .inl (cI, 7, .inl f31)), (h, .inr (10, ML (upd u_2 15 ((u_2 15) + 1)) Rf)), ((Rf 13), .inl (cI, 240, .inl f13))] H := hP
      have hD : va_D A [((Rf 27), .inl (cI, 6, .inl f27)), ((Rf 28), .inl (cI, 6, .inl f28)), ((Rf 29), .inl (cI, 30, .inl f29)), ((Rf 30), .inl (cI, 7, .inl f30)), ((Rf 31), .inl (cI, 7, .inl f31)), (h, .inr (10, ML (upd u_2 15 ((u_2 15) + 1)) Rf)), ((Rf 13), .inl (cI, 240, .inl f13))] := hD
      refine lv_iload_n hx hb dX10_takesClause_186 rfl (lv_at hl 2 rfl) ?_
      refine lv_lookup (off := 41) (tgt := 228) hx hb dX10_takesClause_187 (by decide +kernel) (by decide +kernel) rfl ?_
      refine lv_aload_n hx hb dX10_takesClause_228 rfl (lv_at hl 3 rfl) ?_
      obtain ⟨hs_9, hF⟩ := hF
      refine cVi (wr := [((Rf 28), .inl (cI, 6, .inl f28)), ((Rf 29), .inl (cI, 30, .inl f29)), ((Rf 30), .inl (cI, 7, .inl f30)), ((Rf 31), .inl (cI, 7, .inl f31))]) (rest := []) (m_takesBridges Rf h (upd u_2 15 ((u_2 15) + 1)) f13 f27 hs_9) okV_X10_takesBridges wd_623 hx hb hml hown hts hK hP hD hS hA hN hl.1 [5, 6, 0] [1, 2, 3, 4] rfl rfl rfl rfl (of_decide_eq_true rfl) rfl rfl rfl (Nat.le_of_ble_eq_true rfl) (Nat.le_of_ble_eq_true rfl) (Nat.le_of_ble_eq_true rfl) (Nat.le_of_ble_eq_true rfl) (Nat.le_of_ble_eq_true rfl) dX10_takesClause_229 (fun r_11 u_10 H locs hw_u_10 hP hD hS => ?_)
      obtain ⟨o_12, o_13⟩ := u_10
      replace hw_u_10 : (r_11, o_12, o_13) = (f_m_takesBridges (upd u_2 15 ((u_2 15) + 1)) f13 f27) := hw_u_10
      replace hF := hF r_11 o_12 o_13 hw_u_10
      rw [← hw_u_10] at hE
      replace hE : ((if r_11 = 0 then (0, o_12, o_13, f28, f29, f30, f31) else (match (f_m_takes o_12 f13 59) with | (r_17, u_16) => (if r_17 = 0 then (0, u_16, o_13, f28, f29, f30, f31) else (1, u_16, o_13, f28, f29, f30, f31)))) : Int32 × (Nat → Int32) × (Nat → Int32) × (Nat → Int32) × (Nat → Int32) × (Nat → Int32) × (Nat → Int32)) = RES := hE
      have hP : va_P D classes [((Rf 28), .inl (cI, 6, .inl f28)), ((Rf 29), .inl (cI, 30, .inl f29)), ((Rf 30), .inl (cI, 7, .inl f30)), ((Rf 31), .inl (cI, 7, .inl f31)), (h, .inr (10, ML o_12 Rf)), ((Rf 13), .inl (cI, 240, .inl f13)), ((Rf 27), .inl (cI, 6, .inl o_13))] H := hP
      have hD : va_D A [((Rf 28), .inl (cI, 6, .inl f28)), ((Rf 29), .inl (cI, 30, .inl f29)), ((Rf 30), .inl (cI, 7, .inl f30)), ((Rf 31), .inl (cI, 7, .inl f31)), (h, .inr (10, ML o_12 Rf)), ((Rf 13), .inl (cI, 240, .inl f13)), ((Rf 27), .inl (cI, 6, .inl o_13))] := hD
      refine lv_istore (lv' := [(4, .int r_11), (3, .int 0), (2, .int 1), (1, .int 98), (0, .ref h)]) hx hb dX10_takesClause_232 hl (Nat.le_of_ble_eq_true rfl) rfl (fun ls hl => ?_)
      refine lv_goto (tgt := 270) hx hb dX10_takesClause_234 rfl ?_
      refine lv_iload hx hb dX10_takesClause_270 (lv_at hl 0 rfl) ?_
      refine lv_if_eq (tgt := 288) hx hb dX10_takesClause_272 rfl (fun c_14 => ?_) (fun c_14 => ?_)
      · replace hF := hF.1 c_14
        rw [if_pos c_14] at hE
        subst c_14
        refine lv_iconst (v := 0) hx hb dX10_takesClause_288 rfl ?_
        exact hret 0 (o_12, o_13, f28, f29, f30, f31) _ _ _ _ dX10_takesClause_289 rfl hE (cutP (isC := [4, 5, 6, 0, 1, 2, 3]) hP rfl) (cutD (isC := [4, 5, 6, 0, 1, 2, 3]) hD rfl rfl) hS
      · replace hF := hF.2 c_14
        rw [if_neg c_14] at hE
        refine lv_aload_n hx hb dX10_takesClause_275 rfl (lv_at hl 4 rfl) ?_
        refine lv_bipush (v := 59) hx hb dX10_takesClause_276 rfl ?_
        obtain ⟨hs_15, hF⟩ := hF
        refine cVi (wr := [((Rf 28), .inl (cI, 6, .inl f28)), ((Rf 29), .inl (cI, 30, .inl f29)), ((Rf 30), .inl (cI, 7, .inl f30)), ((Rf 31), .inl (cI, 7, .inl f31)), ((Rf 27), .inl (cI, 6, .inl o_13))]) (rest := []) (m_takes Rf h o_12 f13 59 hs_15) okV_X10_takes wd_538 hx hb hml hown hts hK hP hD hS hA hN hl.1 [4, 5] [0, 1, 2, 3, 6] rfl rfl rfl rfl (of_decide_eq_true rfl) rfl rfl rfl (Nat.le_of_ble_eq_true rfl) (Nat.le_of_ble_eq_true rfl) (Nat.le_of_ble_eq_true rfl) (Nat.le_of_ble_eq_true rfl) (Nat.le_of_ble_eq_true rfl) dX10_takesClause_278 (fun r_17 u_16 H locs hw_u_16 hP hD hS => ?_)
        replace hw_u_16 : (r_17, u_16) = (f_m_takes o_12 f13 59) := hw_u_16
        replace hF := hF r_17 u_16 hw_u_16
        rw [← hw_u_16] at hE
        replace hE : ((if r_17 = 0 then (0, u_16, o_13, f28, f29, f30, f31) else (1, u_16, o_13, f28, f29, f30, f31)) : Int32 × (Nat → Int32) × (Nat → Int32) × (Nat → Int32) × (Nat → Int32) × (Nat → Int32) × (Nat → Int32)) = RES := hE
        have hP : va_P D classes [((Rf 28), .inl (cI, 6, .inl f28)), ((Rf 29), .inl (cI, 30, .inl f29)), ((Rf 30), .inl (cI, 7, .inl f30)), ((Rf 31), .inl (cI, 7, .inl f31)), ((Rf 27), .inl (cI, 6, .inl o_13)), (h, .inr (10, ML u_16 Rf)), ((Rf 13), .inl (cI, 240, .inl f13))] H := hP
        have hD : va_D A [((Rf 28), .inl (cI, 6, .inl f28)), ((Rf 29), .inl (cI, 30, .inl f29)), ((Rf 30), .inl (cI, 7, .inl f30)), ((Rf 31), .inl (cI, 7, .inl f31)), ((Rf 27), .inl (cI, 6, .inl o_13)), (h, .inr (10, ML u_16 Rf)), ((Rf 13), .inl (cI, 240, .inl f13))] := hD
        refine lv_if_eq (tgt := 288) hx hb dX10_takesClause_281 rfl (fun c_18 => ?_) (fun c_18 => ?_)
        · replace hF := hF.1 c_18
          rw [if_pos c_18] at hE
          subst c_18
          refine lv_iconst (v := 0) hx hb dX10_takesClause_288 rfl ?_
          exact hret 0 (u_16, o_13, f28, f29, f30, f31) _ _ _ _ dX10_takesClause_289 rfl hE (cutP (isC := [5, 6, 4, 0, 1, 2, 3]) hP rfl) (cutD (isC := [5, 6, 4, 0, 1, 2, 3]) hD rfl rfl) hS
        · replace hF := hF.2 c_18
          rw [if_neg c_18] at hE
          refine lv_iconst (v := 1) hx hb dX10_takesClause_284 rfl ?_
          refine lv_goto (tgt := 289) hx hb dX10_takesClause_285 rfl ?_
          exact hret 1 (u_16, o_13, f28, f29, f30, f31) _ _ _ _ dX10_takesClause_289 rfl hE (cutP (isC := [5, 6, 4, 0, 1, 2, 3]) hP rfl) (cutD (isC := [5, 6, 4, 0, 1, 2, 3]) hD rfl rfl) hS
    · replace hF := hF.2 c_7
      rw [if_neg c_7] at hE
      refine lv_iconst (v := 1) hx hb dX10_takesClause_75 rfl ?_
      refine lv_goto (tgt := 161) hx hb dX10_takesClause_76 rfl ?_
      refine lv_istore_n (lv' := [(3, .int 1), (2, .int 1), (1, .int 98), (0, .ref h)]) hx hb dX10_takesClause_161 rfl hl (Nat.le_of_ble_eq_true rfl) rfl (fun ls hl => ?_)
      refine lv_iload_n hx hb dX10_takesClause_162 rfl (lv_at hl 0 rfl) ?_
      refine lv_if_eq (tgt := 176) hx hb dX10_takesClause_163 rfl (fun c_19 => absurd c_19 (by decide +kernel)) (fun c_19 => ?_)
      refine lv_aload_n hx hb dX10_takesClause_166 rfl (lv_at hl 3 rfl) ?_
      refine lv_iconst (v := 3) hx hb dX10_takesClause_167 rfl ?_
      refine lv_aload_n hx hb dX10_takesClause_168 rfl (lv_at hl 3 rfl) ?_
      refine va_get (D := D) (ci := 10) (v := .int (u_2 16)) (C := RX10) (T := TX10) (N := 45) hx hb hts iX10 hown hK hP 5 rfl rfl 16 (Nat.le_of_ble_eq_true rfl) (hts _ wd_509) (fun _ h9 => h9) rfl dX10_takesClause_169 ?_
      obtain ⟨hs_20, hF⟩ := hF
      refine cVi (wr := [((Rf 27), .inl (cI, 6, .inl f27)), ((Rf 28), .inl (cI, 6, .inl f28)), ((Rf 29), .inl (cI, 30, .inl f29)), ((Rf 30), .inl (cI, 7, .inl f30)), ((Rf 31), .inl (cI, 7, .inl f31)), ((Rf 13), .inl (cI, 240, .inl f13))]) (rest := []) (m_fails Rf h u_2 3 (u_2 16) hs_20) okV_X10_fails wd_520 hx hb hml hown hts hK hP hD hS hA hN hl.1 [5] [0, 1, 2, 3, 4, 6] rfl rfl rfl rfl (of_decide_eq_true rfl) rfl rfl rfl (Nat.le_of_ble_eq_true rfl) (Nat.le_of_ble_eq_true rfl) (Nat.le_of_ble_eq_true rfl) (Nat.le_of_ble_eq_true rfl) (Nat.le_of_ble_eq_true rfl) dX10_takesClause_172 (fun r_22 u_21 H locs hw_u_21 hP hD hS => ?_)
      replace hw_u_21 : (r_22, u_21) = (f_m_fails u_2 3 (u_2 16)) := hw_u_21
      replace hF := hF r_22 u_21 hw_u_21
      rw [← hw_u_21] at hE
      replace hE : ((r_22, u_21, f27, f28, f29, f30, f31) : Int32 × (Nat → Int32) × (Nat → Int32) × (Nat → Int32) × (Nat → Int32) × (Nat → Int32) × (Nat → Int32)) = RES := hE
      have hP : va_P D classes [((Rf 27), .inl (cI, 6, .inl f27)), ((Rf 28), .inl (cI, 6, .inl f28)), ((Rf 29), .inl (cI, 30, .inl f29)), ((Rf 30), .inl (cI, 7, .inl f30)), ((Rf 31), .inl (cI, 7, .inl f31)), ((Rf 13), .inl (cI, 240, .inl f13)), (h, .inr (10, ML u_21 Rf))] H := hP
      have hD : va_D A [((Rf 27), .inl (cI, 6, .inl f27)), ((Rf 28), .inl (cI, 6, .inl f28)), ((Rf 29), .inl (cI, 30, .inl f29)), ((Rf 30), .inl (cI, 7, .inl f30)), ((Rf 31), .inl (cI, 7, .inl f31)), ((Rf 13), .inl (cI, 240, .inl f13)), (h, .inr (10, ML u_21 Rf))] := hD
      exact hret r_22 (u_21, f27, f28, f29, f30, f31) _ _ _ _ dX10_takesClause_175 (narrow_b01 (Or.inl (congrArg Prod.fst hw_u_21))) hE (cutP (isC := [6, 5, 0, 1, 2, 3, 4]) hP rfl) (cutD (isC := [6, 5, 0, 1, 2, 3, 4]) hD rfl rfl) hS
  · replace hF := hF.2 c_4
    rw [if_neg c_4] at hE
    refine lv_aload_n hx hb dX10_takesClause_11 rfl (lv_at hl 1 rfl) ?_
    refine va_get (D := D) (ci := 10) (v := .int (u_2 20)) (C := RX10) (T := TX10) (N := 45) hx hb hts iX10 hown hK hP 5 rfl rfl 20 (Nat.le_of_ble_eq_true rfl) (hts _ wd_527) (fun _ h9 => h9) rfl dX10_takesClause_12 ?_
    refine lv_if_le (tgt := 46) hx hb dX10_takesClause_15 rfl (fun c_23 => ?_) (fun c_23 => ?_)
    · replace hF := hF.1 c_23
      rw [if_pos c_23] at hE
      refine lv_iconst (v := 0) hx hb dX10_takesClause_46 rfl ?_
      refine lv_istore_n (lv' := [(2, .int 0), (1, .int r_3), (0, .ref h)]) hx hb dX10_takesClause_47 rfl hl (Nat.le_of_ble_eq_true rfl) rfl (fun ls hl => ?_)
      refine lv_iload_n hx hb dX10_takesClause_48 rfl (lv_at hl 0 rfl) ?_
      refine lv_if_ne (tgt := 62) hx hb dX10_takesClause_49 rfl (fun c_24 => absurd (by decide +kernel) c_24) (fun c_24 => ?_)
      refine lv_aload_n hx hb dX10_takesClause_52 rfl (lv_at hl 2 rfl) ?_
      refine lv_iconst (v := 1) hx hb dX10_takesClause_53 rfl ?_
      refine lv_aload_n hx hb dX10_takesClause_54 rfl (lv_at hl 2 rfl) ?_
      refine va_get (D := D) (ci := 10) (v := .int (u_2 16)) (C := RX10) (T := TX10) (N := 45) hx hb hts iX10 hown hK hP 5 rfl rfl 16 (Nat.le_of_ble_eq_true rfl) (hts _ wd_509) (fun _ h9 => h9) rfl dX10_takesClause_55 ?_
      obtain ⟨hs_25, hF⟩ := hF
      refine cVi (wr := [((Rf 27), .inl (cI, 6, .inl f27)), ((Rf 28), .inl (cI, 6, .inl f28)), ((Rf 29), .inl (cI, 30, .inl f29)), ((Rf 30), .inl (cI, 7, .inl f30)), ((Rf 31), .inl (cI, 7, .inl f31)), ((Rf 13), .inl (cI, 240, .inl f13))]) (rest := []) (m_fails Rf h u_2 1 (u_2 16) hs_25) okV_X10_fails wd_520 hx hb hml hown hts hK hP hD hS hA hN hl.1 [5] [0, 1, 2, 3, 4, 6] rfl rfl rfl rfl (of_decide_eq_true rfl) rfl rfl rfl (Nat.le_of_ble_eq_true rfl) (Nat.le_of_ble_eq_true rfl) (Nat.le_of_ble_eq_true rfl) (Nat.le_of_ble_eq_true rfl) (Nat.le_of_ble_eq_true rfl) dX10_takesClause_58 (fun r_27 u_26 H locs hw_u_26 hP hD hS => ?_)
      replace hw_u_26 : (r_27, u_26) = (f_m_fails u_2 1 (u_2 16)) := hw_u_26
      replace hF := hF r_27 u_26 hw_u_26
      rw [← hw_u_26] at hE
      replace hE : ((r_27, u_26, f27, f28, f29, f30, f31) : Int32 × (Nat → Int32) × (Nat → Int32) × (Nat → Int32) × (Nat → Int32) × (Nat → Int32) × (Nat → Int32)) = RES := hE
      have hP : va_P D classes [((Rf 27), .inl (cI, 6, .inl f27)), ((Rf 28), .inl (cI, 6, .inl f28)), ((Rf 29), .inl (cI, 30, .inl f29)), ((Rf 30), .inl (cI, 7, .inl f30)), ((Rf 31), .inl (cI, 7, .inl f31)), ((Rf 13), .inl (cI, 240, .inl f13)), (h, .inr (10, ML u_26 Rf))] H := hP
      have hD : va_D A [((Rf 27), .inl (cI, 6, .inl f27)), ((Rf 28), .inl (cI, 6, .inl f28)), ((Rf 29), .inl (cI, 30, .inl f29)), ((Rf 30), .inl (cI, 7, .inl f30)), ((Rf 31), .inl (cI, 7, .inl f31)), ((Rf 13), .inl (cI, 240, .inl f13)), (h, .inr (10, ML u_26 Rf))] := hD
      exact hret r_27 (u_26, f27, f28, f29, f30, f31) _ _ _ _ dX10_takesClause_61 (narrow_b01 (Or.inl (congrArg Prod.fst hw_u_26))) hE (cutP (isC := [6, 5, 0, 1, 2, 3, 4]) hP rfl) (cutD (isC := [6, 5, 0, 1, 2, 3, 4]) hD rfl rfl) hS
    · replace hF := hF.2 c_23
      rw [if_neg c_23] at hE
      refine lv_iload_n hx hb dX10_takesClause_18 rfl (lv_at hl 0 rfl) ?_
      refine lv_bipush (v := 116) hx hb dX10_takesClause_19 rfl ?_
      refine lv_icmp_eq (tgt := 42) hx hb dX10_takesClause_21 rfl (fun c_28 => ?_) (fun c_28 => ?_)
      · replace hF := hF.1 c_28
        rw [if_pos c_28] at hE
        subst c_28
        refine lv_iconst (v := 1) hx hb dX10_takesClause_42 rfl ?_
        refine lv_goto (tgt := 47) hx hb dX10_takesClause_43 rfl ?_
        refine lv_istore_n (lv' := [(2, .int 1), (1, .int 116), (0, .ref h)]) hx hb dX10_takesClause_47 rfl hl (Nat.le_of_ble_eq_true rfl) rfl (fun ls hl => ?_)
        refine lv_iload_n hx hb dX10_takesClause_48 rfl (lv_at hl 0 rfl) ?_
        refine lv_if_ne (tgt := 62) hx hb dX10_takesClause_49 rfl (fun c_29 => ?_) (fun c_29 => absurd c_29 (by decide +kernel))
        refine lv_iload_n hx hb dX10_takesClause_62 rfl (lv_at hl 1 rfl) ?_
        refine lv_bipush (v := 98) hx hb dX10_takesClause_63 rfl ?_
        refine lv_icmp_ne (tgt := 83) hx hb dX10_takesClause_65 rfl (fun c_30 => ?_) (fun c_30 => absurd c_30 (by decide +kernel))
        refine lv_iload_n hx hb dX10_takesClause_83 rfl (lv_at hl 1 rfl) ?_
        refine lv_bipush (v := 116) hx hb dX10_takesClause_84 rfl ?_
        refine lv_icmp_ne (tgt := 111) hx hb dX10_takesClause_86 rfl (fun c_31 => absurd (by decide +kernel) c_31) (fun c_31 => ?_)
        refine lv_aload_n hx hb dX10_takesClause_89 rfl (lv_at hl 2 rfl) ?_
        refine va_get (D := D) (ci := 10) (v := .int (u_2 22)) (C := RX10) (T := TX10) (N := 45) hx hb hts iX10 hown hK hP 5 rfl rfl 22 (Nat.le_of_ble_eq_true rfl) (hts _ wd_533) (fun _ h9 => h9) rfl dX10_takesClause_90 ?_
        refine lv_if_ne (tgt := 103) hx hb dX10_takesClause_93 rfl (fun c_32 => ?_) (fun c_32 => ?_)
        · replace hF := hF.2 c_32
          rw [if_neg c_32] at hE
          refine lv_iconst (v := 1) hx hb dX10_takesClause_103 rfl ?_
          refine lv_goto (tgt := 161) hx hb dX10_takesClause_104 rfl ?_
          refine lv_istore_n (lv' := [(3, .int 1), (2, .int 1), (1, .int 116), (0, .ref h)]) hx hb dX10_takesClause_161 rfl hl (Nat.le_of_ble_eq_true rfl) rfl (fun ls hl => ?_)
          refine lv_iload_n hx hb dX10_takesClause_162 rfl (lv_at hl 0 rfl) ?_
          refine lv_if_eq (tgt := 176) hx hb dX10_takesClause_163 rfl (fun c_33 => absurd c_33 (by decide +kernel)) (fun c_33 => ?_)
          refine lv_aload_n hx hb dX10_takesClause_166 rfl (lv_at hl 3 rfl) ?_
          refine lv_iconst (v := 3) hx hb dX10_takesClause_167 rfl ?_
          refine lv_aload_n hx hb dX10_takesClause_168 rfl (lv_at hl 3 rfl) ?_
          refine va_get (D := D) (ci := 10) (v := .int (u_2 16)) (C := RX10) (T := TX10) (N := 45) hx hb hts iX10 hown hK hP 5 rfl rfl 16 (Nat.le_of_ble_eq_true rfl) (hts _ wd_509) (fun _ h9 => h9) rfl dX10_takesClause_169 ?_
          obtain ⟨hs_34, hF⟩ := hF
          refine cVi (wr := [((Rf 27), .inl (cI, 6, .inl f27)), ((Rf 28), .inl (cI, 6, .inl f28)), ((Rf 29), .inl (cI, 30, .inl f29)), ((Rf 30), .inl (cI, 7, .inl f30)), ((Rf 31), .inl (cI, 7, .inl f31)), ((Rf 13), .inl (cI, 240, .inl f13))]) (rest := []) (m_fails Rf h u_2 3 (u_2 16) hs_34) okV_X10_fails wd_520 hx hb hml hown hts hK hP hD hS hA hN hl.1 [5] [0, 1, 2, 3, 4, 6] rfl rfl rfl rfl (of_decide_eq_true rfl) rfl rfl rfl (Nat.le_of_ble_eq_true rfl) (Nat.le_of_ble_eq_true rfl) (Nat.le_of_ble_eq_true rfl) (Nat.le_of_ble_eq_true rfl) (Nat.le_of_ble_eq_true rfl) dX10_takesClause_172 (fun r_36 u_35 H locs hw_u_35 hP hD hS => ?_)
          replace hw_u_35 : (r_36, u_35) = (f_m_fails u_2 3 (u_2 16)) := hw_u_35
          replace hF := hF r_36 u_35 hw_u_35
          rw [← hw_u_35] at hE
          replace hE : ((r_36, u_35, f27, f28, f29, f30, f31) : Int32 × (Nat → Int32) × (Nat → Int32) × (Nat → Int32) × (Nat → Int32) × (Nat → Int32) × (Nat → Int32)) = RES := hE
          have hP : va_P D classes [((Rf 27), .inl (cI, 6, .inl f27)), ((Rf 28), .inl (cI, 6, .inl f28)), ((Rf 29), .inl (cI, 30, .inl f29)), ((Rf 30), .inl (cI, 7, .inl f30)), ((Rf 31), .inl (cI, 7, .inl f31)), ((Rf 13), .inl (cI, 240, .inl f13)), (h, .inr (10, ML u_35 Rf))] H := hP
          have hD : va_D A [((Rf 27), .inl (cI, 6, .inl f27)), ((Rf 28), .inl (cI, 6, .inl f28)), ((Rf 29), .inl (cI, 30, .inl f29)), ((Rf 30), .inl (cI, 7, .inl f30)), ((Rf 31), .inl (cI, 7, .inl f31)), ((Rf 13), .inl (cI, 240, .inl f13)), (h, .inr (10, ML u_35 Rf))] := hD
          exact hret r_36 (u_35, f27, f28, f29, f30, f31) _ _ _ _ dX10_takesClause_175 (narrow_b01 (Or.inl (congrArg Prod.fst hw_u_35))) hE (cutP (isC := [6, 5, 0, 1, 2, 3, 4]) hP rfl) (cutD (isC := [6, 5, 0, 1, 2, 3, 4]) hD rfl rfl) hS
        · replace hF := hF.1 c_32
          rw [if_pos c_32] at hE
          refine lv_aload_n hx hb dX10_takesClause_96 rfl (lv_at hl 2 rfl) ?_
          refine va_get (D := D) (ci := 10) (v := .int (u_2 23)) (C := RX10) (T := TX10) (N := 45) hx hb hts iX10 hown hK hP 5 rfl rfl 23 (Nat.le_of_ble_eq_true rfl) (hts _ wd_536) (fun _ h9 => h9) rfl dX10_takesClause_97 ?_
          refine lv_if_le (tgt := 107) hx hb dX10_takesClause_100 rfl (fun c_37 => ?_) (fun c_37 => ?_)
          · replace hF := hF.1 c_37
            rw [if_pos c_37] at hE
            refine lv_iconst (v := 0) hx hb dX10_takesClause_107 rfl ?_
            refine lv_goto (tgt := 161) hx hb dX10_takesClause_108 rfl ?_
            refine lv_istore_n (lv' := [(3, .int 0), (2, .int 1), (1, .int 116), (0, .ref h)]) hx hb dX10_takesClause_161 rfl hl (Nat.le_of_ble_eq_true rfl) rfl (fun ls hl => ?_)
            refine lv_iload_n hx hb dX10_takesClause_162 rfl (lv_at hl 0 rfl) ?_
            refine lv_if_eq (tgt := 176) hx hb dX10_takesClause_163 rfl (fun c_38 => ?_) (fun c_38 => absurd (by decide +kernel) c_38)
            refine lv_aload_n hx hb dX10_takesClause_176 rfl (lv_at hl 3 rfl) ?_
            refine lv_dup hx hb dX10_takesClause_177 rfl ?_
            refine va_get (D := D) (ci := 10) (v := .int (u_2 15)) (C := RX10) (T := TX10) (N := 45) hx hb hts iX10 hown hK hP 5 rfl rfl 15 (Nat.le_of_ble_eq_true rfl) (hts _ wd_508) (fun _ h9 => h9) rfl dX10_takesClause_178 ?_
            refine lv_iconst (v := 1) hx hb dX10_takesClause_181 rfl ?_
            refine lv_iadd hx hb dX10_takesClause_182 ?_
            refine va_put (D := D) (ci := 10) (v := .int ((u_2 15) + 1)) (ty := .int) (C := RX10) (T := TX10) (N := 45) hx hb hts iX10 tyX10 tyX10_ok nmX10 hown hK hP hD hS 5 rfl rfl 15 (Nat.le_of_ble_eq_true rfl) (hts _ wd_508) (fun _ h9 => h9) rfl (by decide +kernel) rfl rfl (Nat.le_of_ble_eq_true rfl) dX10_takesClause_183 (fun H locs hP hD hS => ?_)
            have hP : va_P D classes [((Rf 27), .inl (cI, 6, .inl f27)), ((Rf 28), .inl (cI, 6, .inl f28)), ((Rf 29), .inl (cI, 30, .inl f29)), ((Rf 30), .inl (cI, 7, .inl f30)), ((Rf 31), .inl (cI, 7, .inl f31)), (h, .inr (10, ML (upd u_2 15 ((u_2 15) + 1)) Rf)), ((Rf 13), .inl (cI, 240, .inl f13))] H := hP
            have hD : va_D A [((Rf 27), .inl (cI, 6, .inl f27)), ((Rf 28), .inl (cI, 6, .inl f28)), ((Rf 29), .inl (cI, 30, .inl f29)), ((Rf 30), .inl (cI, 7, .inl f30)), ((Rf 31), .inl (cI, 7, .inl f31)), (h, .inr (10, ML (upd u_2 15 ((u_2 15) + 1)) Rf)), ((Rf 13), .inl (cI, 240, .inl f13))] := hD
            refine lv_iload_n hx hb dX10_takesClause_186 rfl (lv_at hl 2 rfl) ?_
            refine lv_lookup (off := 50) (tgt := 237) hx hb dX10_takesClause_187 (by decide +kernel) (by decide +kernel) rfl ?_
            refine lv_aload_n hx hb dX10_takesClause_237 rfl (lv_at hl 3 rfl) ?_
            obtain ⟨hs_39, hF⟩ := hF
            refine cVi (wr := [((Rf 27), .inl (cI, 6, .inl f27)), ((Rf 28), .inl (cI, 6, .inl f28)), ((Rf 29), .inl (cI, 30, .inl f29)), ((Rf 30), .inl (cI, 7, .inl f30)), ((Rf 31), .inl (cI, 7, .inl f31))]) (rest := []) (m_takesThemes Rf h (upd u_2 15 ((u_2 15) + 1)) f13 hs_39) okV_X10_takesThemes wd_627 hx hb hml hown hts hK hP hD hS hA hN hl.1 [5, 6] [0, 1, 2, 3, 4] rfl rfl rfl rfl (of_decide_eq_true rfl) rfl rfl rfl (Nat.le_of_ble_eq_true rfl) (Nat.le_of_ble_eq_true rfl) (Nat.le_of_ble_eq_true rfl) (Nat.le_of_ble_eq_true rfl) (Nat.le_of_ble_eq_true rfl) dX10_takesClause_238 (fun r_41 u_40 H locs hw_u_40 hP hD hS => ?_)
            replace hw_u_40 : (r_41, u_40) = (f_m_takesThemes (upd u_2 15 ((u_2 15) + 1)) f13) := hw_u_40
            replace hF := hF r_41 u_40 hw_u_40
            rw [← hw_u_40] at hE
            replace hE : ((if r_41 = 0 then (0, u_40, f27, f28, f29, f30, f31) else (match (f_m_takes u_40 f13 59) with | (r_45, u_44) => (if r_45 = 0 then (0, u_44, f27, f28, f29, f30, f31) else (1, u_44, f27, f28, f29, f30, f31)))) : Int32 × (Nat → Int32) × (Nat → Int32) × (Nat → Int32) × (Nat → Int32) × (Nat → Int32) × (Nat → Int32)) = RES := hE
            have hP : va_P D classes [((Rf 27), .inl (cI, 6, .inl f27)), ((Rf 28), .inl (cI, 6, .inl f28)), ((Rf 29), .inl (cI, 30, .inl f29)), ((Rf 30), .inl (cI, 7, .inl f30)), ((Rf 31), .inl (cI, 7, .inl f31)), (h, .inr (10, ML u_40 Rf)), ((Rf 13), .inl (cI, 240, .inl f13))] H := hP
            have hD : va_D A [((Rf 27), .inl (cI, 6, .inl f27)), ((Rf 28), .inl (cI, 6, .inl f28)), ((Rf 29), .inl (cI, 30, .inl f29)), ((Rf 30), .inl (cI, 7, .inl f30)), ((Rf 31), .inl (cI, 7, .inl f31)), (h, .inr (10, ML u_40 Rf)), ((Rf 13), .inl (cI, 240, .inl f13))] := hD
            refine lv_istore (lv' := [(4, .int r_41), (3, .int 0), (2, .int 1), (1, .int 116), (0, .ref h)]) hx hb dX10_takesClause_241 hl (Nat.le_of_ble_eq_true rfl) rfl (fun ls hl => ?_)
            refine lv_goto (tgt := 270) hx hb dX10_takesClause_243 rfl ?_
            refine lv_iload hx hb dX10_takesClause_270 (lv_at hl 0 rfl) ?_
            refine lv_if_eq (tgt := 288) hx hb dX10_takesClause_272 rfl (fun c_42 => ?_) (fun c_42 => ?_)
            · replace hF := hF.1 c_42
              rw [if_pos c_42] at hE
              subst c_42
              refine lv_iconst (v := 0) hx hb dX10_takesClause_288 rfl ?_
              exact hret 0 (u_40, f27, f28, f29, f30, f31) _ _ _ _ dX10_takesClause_289 rfl hE (cutP (isC := [5, 6, 0, 1, 2, 3, 4]) hP rfl) (cutD (isC := [5, 6, 0, 1, 2, 3, 4]) hD rfl rfl) hS
            · replace hF := hF.2 c_42
              rw [if_neg c_42] at hE
              refine lv_aload_n hx hb dX10_takesClause_275 rfl (lv_at hl 4 rfl) ?_
              refine lv_bipush (v := 59) hx hb dX10_takesClause_276 rfl ?_
              obtain ⟨hs_43, hF⟩ := hF
              refine cVi (wr := [((Rf 27), .inl (cI, 6, .inl f27)), ((Rf 28), .inl (cI, 6, .inl f28)), ((Rf 29), .inl (cI, 30, .inl f29)), ((Rf 30), .inl (cI, 7, .inl f30)), ((Rf 31), .inl (cI, 7, .inl f31))]) (rest := []) (m_takes Rf h u_40 f13 59 hs_43) okV_X10_takes wd_538 hx hb hml hown hts hK hP hD hS hA hN hl.1 [5, 6] [0, 1, 2, 3, 4] rfl rfl rfl rfl (of_decide_eq_true rfl) rfl rfl rfl (Nat.le_of_ble_eq_true rfl) (Nat.le_of_ble_eq_true rfl) (Nat.le_of_ble_eq_true rfl) (Nat.le_of_ble_eq_true rfl) (Nat.le_of_ble_eq_true rfl) dX10_takesClause_278 (fun r_45 u_44 H locs hw_u_44 hP hD hS => ?_)
              replace hw_u_44 : (r_45, u_44) = (f_m_takes u_40 f13 59) := hw_u_44
              replace hF := hF r_45 u_44 hw_u_44
              rw [← hw_u_44] at hE
              replace hE : ((if r_45 = 0 then (0, u_44, f27, f28, f29, f30, f31) else (1, u_44, f27, f28, f29, f30, f31)) : Int32 × (Nat → Int32) × (Nat → Int32) × (Nat → Int32) × (Nat → Int32) × (Nat → Int32) × (Nat → Int32)) = RES := hE
              have hP : va_P D classes [((Rf 27), .inl (cI, 6, .inl f27)), ((Rf 28), .inl (cI, 6, .inl f28)), ((Rf 29), .inl (cI, 30, .inl f29)), ((Rf 30), .inl (cI, 7, .inl f30)), ((Rf 31), .inl (cI, 7, .inl f31)), (h, .inr (10, ML u_44 Rf)), ((Rf 13), .inl (cI, 240, .inl f13))] H := hP
              have hD : va_D A [((Rf 27), .inl (cI, 6, .inl f27)), ((Rf 28), .inl (cI, 6, .inl f28)), ((Rf 29), .inl (cI, 30, .inl f29)), ((Rf 30), .inl (cI, 7, .inl f30)), ((Rf 31), .inl (cI, 7, .inl f31)), (h, .inr (10, ML u_44 Rf)), ((Rf 13), .inl (cI, 240, .inl f13))] := hD
              refine lv_if_eq (tgt := 288) hx hb dX10_takesClause_281 rfl (fun c_46 => ?_) (fun c_46 => ?_)
              · replace hF := hF.1 c_46
                rw [if_pos c_46] at hE
                subst c_46
                refine lv_iconst (v := 0) hx hb dX10_takesClause_288 rfl ?_
                exact hret 0 (u_44, f27, f28, f29, f30, f31) _ _ _ _ dX10_takesClause_289 rfl hE (cutP (isC := [5, 6, 0, 1, 2, 3, 4]) hP rfl) (cutD (isC := [5, 6, 0, 1, 2, 3, 4]) hD rfl rfl) hS
              · replace hF := hF.2 c_46
                rw [if_neg c_46] at hE
                refine lv_iconst (v := 1) hx hb dX10_takesClause_284 rfl ?_
                refine lv_goto (tgt := 289) hx hb dX10_takesClause_285 rfl ?_
                exact hret 1 (u_44, f27, f28, f29, f30, f31) _ _ _ _ dX10_takesClause_289 rfl hE (cutP (isC := [5, 6, 0, 1, 2, 3, 4]) hP rfl) (cutD (isC := [5, 6, 0, 1, 2, 3, 4]) hD rfl rfl) hS
          · replace hF := hF.2 c_37
            rw [if_neg c_37] at hE
            refine lv_iconst (v := 1) hx hb dX10_takesClause_103 rfl ?_
            refine lv_goto (tgt := 161) hx hb dX10_takesClause_104 rfl ?_
            refine lv_istore_n (lv' := [(3, .int 1), (2, .int 1), (1, .int 116), (0, .ref h)]) hx hb dX10_takesClause_161 rfl hl (Nat.le_of_ble_eq_true rfl) rfl (fun ls hl => ?_)
            refine lv_iload_n hx hb dX10_takesClause_162 rfl (lv_at hl 0 rfl) ?_
            refine lv_if_eq (tgt := 176) hx hb dX10_takesClause_163 rfl (fun c_47 => absurd c_47 (by decide +kernel)) (fun c_47 => ?_)
            refine lv_aload_n hx hb dX10_takesClause_166 rfl (lv_at hl 3 rfl) ?_
            refine lv_iconst (v := 3) hx hb dX10_takesClause_167 rfl ?_
            refine lv_aload_n hx hb dX10_takesClause_168 rfl (lv_at hl 3 rfl) ?_
            refine va_get (D := D) (ci := 10) (v := .int (u_2 16)) (C := RX10) (T := TX10) (N := 45) hx hb hts iX10 hown hK hP 5 rfl rfl 16 (Nat.le_of_ble_eq_true rfl) (hts _ wd_509) (fun _ h9 => h9) rfl dX10_takesClause_169 ?_
            obtain ⟨hs_48, hF⟩ := hF
            refine cVi (wr := [((Rf 27), .inl (cI, 6, .inl f27)), ((Rf 28), .inl (cI, 6, .inl f28)), ((Rf 29), .inl (cI, 30, .inl f29)), ((Rf 30), .inl (cI, 7, .inl f30)), ((Rf 31), .inl (cI, 7, .inl f31)), ((Rf 13), .inl (cI, 240, .inl f13))]) (rest := []) (m_fails Rf h u_2 3 (u_2 16) hs_48) okV_X10_fails wd_520 hx hb hml hown hts hK hP hD hS hA hN hl.1 [5] [0, 1, 2, 3, 4, 6] rfl rfl rfl rfl (of_decide_eq_true rfl) rfl rfl rfl (Nat.le_of_ble_eq_true rfl) (Nat.le_of_ble_eq_true rfl) (Nat.le_of_ble_eq_true rfl) (Nat.le_of_ble_eq_true rfl) (Nat.le_of_ble_eq_true rfl) dX10_takesClause_172 (fun r_50 u_49 H locs hw_u_49 hP hD hS => ?_)
            replace hw_u_49 : (r_50, u_49) = (f_m_fails u_2 3 (u_2 16)) := hw_u_49
            replace hF := hF r_50 u_49 hw_u_49
            rw [← hw_u_49] at hE
            replace hE : ((r_50, u_49, f27, f28, f29, f30, f31) : Int32 × (Nat → Int32) × (Nat → Int32) × (Nat → Int32) × (Nat → Int32) × (Nat → Int32) × (Nat → Int32)) = RES := hE
            have hP : va_P D classes [((Rf 27), .inl (cI, 6, .inl f27)), ((Rf 28), .inl (cI, 6, .inl f28)), ((Rf 29), .inl (cI, 30, .inl f29)), ((Rf 30), .inl (cI, 7, .inl f30)), ((Rf 31), .inl (cI, 7, .inl f31)), ((Rf 13), .inl (cI, 240, .inl f13)), (h, .inr (10, ML u_49 Rf))] H := hP
            have hD : va_D A [((Rf 27), .inl (cI, 6, .inl f27)), ((Rf 28), .inl (cI, 6, .inl f28)), ((Rf 29), .inl (cI, 30, .inl f29)), ((Rf 30), .inl (cI, 7, .inl f30)), ((Rf 31), .inl (cI, 7, .inl f31)), ((Rf 13), .inl (cI, 240, .inl f13)), (h, .inr (10, ML u_49 Rf))] := hD
            exact hret r_50 (u_49, f27, f28, f29, f30, f31) _ _ _ _ dX10_takesClause_175 (narrow_b01 (Or.inl (congrArg Prod.fst hw_u_49))) hE (cutP (isC := [6, 5, 0, 1, 2, 3, 4]) hP rfl) (cutD (isC := [6, 5, 0, 1, 2, 3, 4]) hD rfl rfl) hS
      · replace hF := hF.2 c_28
        rw [if_neg c_28] at hE
        refine lv_iload_n hx hb dX10_takesClause_24 rfl (lv_at hl 0 rfl) ?_
        refine lv_bipush (v := 99) hx hb dX10_takesClause_25 rfl ?_
        refine lv_icmp_eq (tgt := 42) hx hb dX10_takesClause_27 rfl (fun c_51 => ?_) (fun c_51 => ?_)
        · replace hF := hF.1 c_51
          rw [if_pos c_51] at hE
          subst c_51
          refine lv_iconst (v := 1) hx hb dX10_takesClause_42 rfl ?_
          refine lv_goto (tgt := 47) hx hb dX10_takesClause_43 rfl ?_
          refine lv_istore_n (lv' := [(2, .int 1), (1, .int 99), (0, .ref h)]) hx hb dX10_takesClause_47 rfl hl (Nat.le_of_ble_eq_true rfl) rfl (fun ls hl => ?_)
          refine lv_iload_n hx hb dX10_takesClause_48 rfl (lv_at hl 0 rfl) ?_
          refine lv_if_ne (tgt := 62) hx hb dX10_takesClause_49 rfl (fun c_52 => ?_) (fun c_52 => absurd c_52 (by decide +kernel))
          refine lv_iload_n hx hb dX10_takesClause_62 rfl (lv_at hl 1 rfl) ?_
          refine lv_bipush (v := 98) hx hb dX10_takesClause_63 rfl ?_
          refine lv_icmp_ne (tgt := 83) hx hb dX10_takesClause_65 rfl (fun c_53 => ?_) (fun c_53 => absurd c_53 (by decide +kernel))
          refine lv_iload_n hx hb dX10_takesClause_83 rfl (lv_at hl 1 rfl) ?_
          refine lv_bipush (v := 116) hx hb dX10_takesClause_84 rfl ?_
          refine lv_icmp_ne (tgt := 111) hx hb dX10_takesClause_86 rfl (fun c_54 => ?_) (fun c_54 => absurd c_54 (by decide +kernel))
          refine lv_iload_n hx hb dX10_takesClause_111 rfl (lv_at hl 1 rfl) ?_
          refine lv_bipush (v := 99) hx hb dX10_takesClause_112 rfl ?_
          refine lv_icmp_ne (tgt := 134) hx hb dX10_takesClause_114 rfl (fun c_55 => absurd (by decide +kernel) c_55) (fun c_55 => ?_)
          refine lv_aload_n hx hb dX10_takesClause_117 rfl (lv_at hl 2 rfl) ?_
          refine va_get (D := D) (ci := 10) (v := .int (u_2 23)) (C := RX10) (T := TX10) (N := 45) hx hb hts iX10 hown hK hP 5 rfl rfl 23 (Nat.le_of_ble_eq_true rfl) (hts _ wd_536) (fun _ h9 => h9) rfl dX10_takesClause_118 ?_
          refine lv_bipush (v := 6) hx hb dX10_takesClause_121 rfl ?_
          refine lv_icmp_ne (tgt := 130) hx hb dX10_takesClause_123 rfl (fun c_56 => ?_) (fun c_56 => ?_)
          · replace hF := hF.2 c_56
            rw [if_neg c_56] at hE
            refine lv_iconst (v := 0) hx hb dX10_takesClause_130 rfl ?_
            refine lv_goto (tgt := 161) hx hb dX10_takesClause_131 rfl ?_
            refine lv_istore_n (lv' := [(3, .int 0), (2, .int 1), (1, .int 99), (0, .ref h)]) hx hb dX10_takesClause_161 rfl hl (Nat.le_of_ble_eq_true rfl) rfl (fun ls hl => ?_)
            refine lv_iload_n hx hb dX10_takesClause_162 rfl (lv_at hl 0 rfl) ?_
            refine lv_if_eq (tgt := 176) hx hb dX10_takesClause_163 rfl (fun c_57 => ?_) (fun c_57 => absurd (by decide +kernel) c_57)
            refine lv_aload_n hx hb dX10_takesClause_176 rfl (lv_at hl 3 rfl) ?_
            refine lv_dup hx hb dX10_takesClause_177 rfl ?_
            refine va_get (D := D) (ci := 10) (v := .int (u_2 15)) (C := RX10) (T := TX10) (N := 45) hx hb hts iX10 hown hK hP 5 rfl rfl 15 (Nat.le_of_ble_eq_true rfl) (hts _ wd_508) (fun _ h9 => h9) rfl dX10_takesClause_178 ?_
            refine lv_iconst (v := 1) hx hb dX10_takesClause_181 rfl ?_
            refine lv_iadd hx hb dX10_takesClause_182 ?_
            refine va_put (D := D) (ci := 10) (v := .int ((u_2 15) + 1)) (ty := .int) (C := RX10) (T := TX10) (N := 45) hx hb hts iX10 tyX10 tyX10_ok nmX10 hown hK hP hD hS 5 rfl rfl 15 (Nat.le_of_ble_eq_true rfl) (hts _ wd_508) (fun _ h9 => h9) rfl (by decide +kernel) rfl rfl (Nat.le_of_ble_eq_true rfl) dX10_takesClause_183 (fun H locs hP hD hS => ?_)
            have hP : va_P D classes [((Rf 27), .inl (cI, 6, .inl f27)), ((Rf 28), .inl (cI, 6, .inl f28)), ((Rf 29), .inl (cI, 30, .inl f29)), ((Rf 30), .inl (cI, 7, .inl f30)), ((Rf 31), .inl (cI, 7, .inl f31)), (h, .inr (10, ML (upd u_2 15 ((u_2 15) + 1)) Rf)), ((Rf 13), .inl (cI, 240, .inl f13))] H := hP
            have hD : va_D A [((Rf 27), .inl (cI, 6, .inl f27)), ((Rf 28), .inl (cI, 6, .inl f28)), ((Rf 29), .inl (cI, 30, .inl f29)), ((Rf 30), .inl (cI, 7, .inl f30)), ((Rf 31), .inl (cI, 7, .inl f31)), (h, .inr (10, ML (upd u_2 15 ((u_2 15) + 1)) Rf)), ((Rf 13), .inl (cI, 240, .inl f13))] := hD
            refine lv_iload_n hx hb dX10_takesClause_186 rfl (lv_at hl 2 rfl) ?_
            refine lv_lookup (off := 59) (tgt := 246) hx hb dX10_takesClause_187 (by decide +kernel) (by decide +kernel) rfl ?_
            refine lv_aload_n hx hb dX10_takesClause_246 rfl (lv_at hl 3 rfl) ?_
            obtain ⟨hs_58, hF⟩ := hF
            refine cVi (wr := [((Rf 27), .inl (cI, 6, .inl f27)), ((Rf 30), .inl (cI, 7, .inl f30)), ((Rf 31), .inl (cI, 7, .inl f31))]) (rest := []) (m_takesCouple Rf h (upd u_2 15 ((u_2 15) + 1)) f13 f28 f29 hs_58) okV_X10_takesCouple wd_631 hx hb hml hown hts hK hP hD hS hA hN hl.1 [5, 6, 1, 2] [0, 3, 4] rfl rfl rfl rfl (of_decide_eq_true rfl) rfl rfl rfl (Nat.le_of_ble_eq_true rfl) (Nat.le_of_ble_eq_true rfl) (Nat.le_of_ble_eq_true rfl) (Nat.le_of_ble_eq_true rfl) (Nat.le_of_ble_eq_true rfl) dX10_takesClause_247 (fun r_60 u_59 H locs hw_u_59 hP hD hS => ?_)
            obtain ⟨o_61, o_62, o_63⟩ := u_59
            replace hw_u_59 : (r_60, o_61, o_62, o_63) = (f_m_takesCouple (upd u_2 15 ((u_2 15) + 1)) f13 f28 f29) := hw_u_59
            replace hF := hF r_60 o_61 o_62 o_63 hw_u_59
            rw [← hw_u_59] at hE
            replace hE : ((if r_60 = 0 then (0, o_61, f27, o_62, o_63, f30, f31) else (match (f_m_takes o_61 f13 59) with | (r_67, u_66) => (if r_67 = 0 then (0, u_66, f27, o_62, o_63, f30, f31) else (1, u_66, f27, o_62, o_63, f30, f31)))) : Int32 × (Nat → Int32) × (Nat → Int32) × (Nat → Int32) × (Nat → Int32) × (Nat → Int32) × (Nat → Int32)) = RES := hE
            have hP : va_P D classes [((Rf 27), .inl (cI, 6, .inl f27)), ((Rf 30), .inl (cI, 7, .inl f30)), ((Rf 31), .inl (cI, 7, .inl f31)), (h, .inr (10, ML o_61 Rf)), ((Rf 13), .inl (cI, 240, .inl f13)), ((Rf 28), .inl (cI, 6, .inl o_62)), ((Rf 29), .inl (cI, 30, .inl o_63))] H := hP
            have hD : va_D A [((Rf 27), .inl (cI, 6, .inl f27)), ((Rf 30), .inl (cI, 7, .inl f30)), ((Rf 31), .inl (cI, 7, .inl f31)), (h, .inr (10, ML o_61 Rf)), ((Rf 13), .inl (cI, 240, .inl f13)), ((Rf 28), .inl (cI, 6, .inl o_62)), ((Rf 29), .inl (cI, 30, .inl o_63))] := hD
            refine lv_istore (lv' := [(4, .int r_60), (3, .int 0), (2, .int 1), (1, .int 99), (0, .ref h)]) hx hb dX10_takesClause_250 hl (Nat.le_of_ble_eq_true rfl) rfl (fun ls hl => ?_)
            refine lv_goto (tgt := 270) hx hb dX10_takesClause_252 rfl ?_
            refine lv_iload hx hb dX10_takesClause_270 (lv_at hl 0 rfl) ?_
            refine lv_if_eq (tgt := 288) hx hb dX10_takesClause_272 rfl (fun c_64 => ?_) (fun c_64 => ?_)
            · replace hF := hF.1 c_64
              rw [if_pos c_64] at hE
              subst c_64
              refine lv_iconst (v := 0) hx hb dX10_takesClause_288 rfl ?_
              exact hret 0 (o_61, f27, o_62, o_63, f30, f31) _ _ _ _ dX10_takesClause_289 rfl hE (cutP (isC := [3, 4, 0, 5, 6, 1, 2]) hP rfl) (cutD (isC := [3, 4, 0, 5, 6, 1, 2]) hD rfl rfl) hS
            · replace hF := hF.2 c_64
              rw [if_neg c_64] at hE
              refine lv_aload_n hx hb dX10_takesClause_275 rfl (lv_at hl 4 rfl) ?_
              refine lv_bipush (v := 59) hx hb dX10_takesClause_276 rfl ?_
              obtain ⟨hs_65, hF⟩ := hF
              refine cVi (wr := [((Rf 27), .inl (cI, 6, .inl f27)), ((Rf 30), .inl (cI, 7, .inl f30)), ((Rf 31), .inl (cI, 7, .inl f31)), ((Rf 28), .inl (cI, 6, .inl o_62)), ((Rf 29), .inl (cI, 30, .inl o_63))]) (rest := []) (m_takes Rf h o_61 f13 59 hs_65) okV_X10_takes wd_538 hx hb hml hown hts hK hP hD hS hA hN hl.1 [3, 4] [0, 1, 2, 5, 6] rfl rfl rfl rfl (of_decide_eq_true rfl) rfl rfl rfl (Nat.le_of_ble_eq_true rfl) (Nat.le_of_ble_eq_true rfl) (Nat.le_of_ble_eq_true rfl) (Nat.le_of_ble_eq_true rfl) (Nat.le_of_ble_eq_true rfl) dX10_takesClause_278 (fun r_67 u_66 H locs hw_u_66 hP hD hS => ?_)
              replace hw_u_66 : (r_67, u_66) = (f_m_takes o_61 f13 59) := hw_u_66
              replace hF := hF r_67 u_66 hw_u_66
              rw [← hw_u_66] at hE
              replace hE : ((if r_67 = 0 then (0, u_66, f27, o_62, o_63, f30, f31) else (1, u_66, f27, o_62, o_63, f30, f31)) : Int32 × (Nat → Int32) × (Nat → Int32) × (Nat → Int32) × (Nat → Int32) × (Nat → Int32) × (Nat → Int32)) = RES := hE
              have hP : va_P D classes [((Rf 27), .inl (cI, 6, .inl f27)), ((Rf 30), .inl (cI, 7, .inl f30)), ((Rf 31), .inl (cI, 7, .inl f31)), ((Rf 28), .inl (cI, 6, .inl o_62)), ((Rf 29), .inl (cI, 30, .inl o_63)), (h, .inr (10, ML u_66 Rf)), ((Rf 13), .inl (cI, 240, .inl f13))] H := hP
              have hD : va_D A [((Rf 27), .inl (cI, 6, .inl f27)), ((Rf 30), .inl (cI, 7, .inl f30)), ((Rf 31), .inl (cI, 7, .inl f31)), ((Rf 28), .inl (cI, 6, .inl o_62)), ((Rf 29), .inl (cI, 30, .inl o_63)), (h, .inr (10, ML u_66 Rf)), ((Rf 13), .inl (cI, 240, .inl f13))] := hD
              refine lv_if_eq (tgt := 288) hx hb dX10_takesClause_281 rfl (fun c_68 => ?_) (fun c_68 => ?_)
              · replace hF := hF.1 c_68
                rw [if_pos c_68] at hE
                subst c_68
                refine lv_iconst (v := 0) hx hb dX10_takesClause_288 rfl ?_
                exact hret 0 (u_66, f27, o_62, o_63, f30, f31) _ _ _ _ dX10_takesClause_289 rfl hE (cutP (isC := [5, 6, 0, 3, 4, 1, 2]) hP rfl) (cutD (isC := [5, 6, 0, 3, 4, 1, 2]) hD rfl rfl) hS
              · replace hF := hF.2 c_68
                rw [if_neg c_68] at hE
                refine lv_iconst (v := 1) hx hb dX10_takesClause_284 rfl ?_
                refine lv_goto (tgt := 289) hx hb dX10_takesClause_285 rfl ?_
                exact hret 1 (u_66, f27, o_62, o_63, f30, f31) _ _ _ _ dX10_takesClause_289 rfl hE (cutP (isC := [5, 6, 0, 3, 4, 1, 2]) hP rfl) (cutD (isC := [5, 6, 0, 3, 4, 1, 2]) hD rfl rfl) hS
          · replace hF := hF.1 c_56
            rw [if_pos c_56] at hE
            refine lv_iconst (v := 1) hx hb dX10_takesClause_126 rfl ?_
            refine lv_goto (tgt := 161) hx hb dX10_takesClause_127 rfl ?_
            refine lv_istore_n (lv' := [(3, .int 1), (2, .int 1), (1, .int 99), (0, .ref h)]) hx hb dX10_takesClause_161 rfl hl (Nat.le_of_ble_eq_true rfl) rfl (fun ls hl => ?_)
            refine lv_iload_n hx hb dX10_takesClause_162 rfl (lv_at hl 0 rfl) ?_
            refine lv_if_eq (tgt := 176) hx hb dX10_takesClause_163 rfl (fun c_69 => absurd c_69 (by decide +kernel)) (fun c_69 => ?_)
            refine lv_aload_n hx hb dX10_takesClause_166 rfl (lv_at hl 3 rfl) ?_
            refine lv_iconst (v := 3) hx hb dX10_takesClause_167 rfl ?_
            refine lv_aload_n hx hb dX10_takesClause_168 rfl (lv_at hl 3 rfl) ?_
            refine va_get (D := D) (ci := 10) (v := .int (u_2 16)) (C := RX10) (T := TX10) (N := 45) hx hb hts iX10 hown hK hP 5 rfl rfl 16 (Nat.le_of_ble_eq_true rfl) (hts _ wd_509) (fun _ h9 => h9) rfl dX10_takesClause_169 ?_
            obtain ⟨hs_70, hF⟩ := hF
            refine cVi (wr := [((Rf 27), .inl (cI, 6, .inl f27)), ((Rf 28), .inl (cI, 6, .inl f28)), ((Rf 29), .inl (cI, 30, .inl f29)), ((Rf 30), .inl (cI, 7, .inl f30)), ((Rf 31), .inl (cI, 7, .inl f31)), ((Rf 13), .inl (cI, 240, .inl f13))]) (rest := []) (m_fails Rf h u_2 3 (u_2 16) hs_70) okV_X10_fails wd_520 hx hb hml hown hts hK hP hD hS hA hN hl.1 [5] [0, 1, 2, 3, 4, 6] rfl rfl rfl rfl (of_decide_eq_true rfl) rfl rfl rfl (Nat.le_of_ble_eq_true rfl) (Nat.le_of_ble_eq_true rfl) (Nat.le_of_ble_eq_true rfl) (Nat.le_of_ble_eq_true rfl) (Nat.le_of_ble_eq_true rfl) dX10_takesClause_172 (fun r_72 u_71 H locs hw_u_71 hP hD hS => ?_)
            replace hw_u_71 : (r_72, u_71) = (f_m_fails u_2 3 (u_2 16)) := hw_u_71
            replace hF := hF r_72 u_71 hw_u_71
            rw [← hw_u_71] at hE
            replace hE : ((r_72, u_71, f27, f28, f29, f30, f31) : Int32 × (Nat → Int32) × (Nat → Int32) × (Nat → Int32) × (Nat → Int32) × (Nat → Int32) × (Nat → Int32)) = RES := hE
            have hP : va_P D classes [((Rf 27), .inl (cI, 6, .inl f27)), ((Rf 28), .inl (cI, 6, .inl f28)), ((Rf 29), .inl (cI, 30, .inl f29)), ((Rf 30), .inl (cI, 7, .inl f30)), ((Rf 31), .inl (cI, 7, .inl f31)), ((Rf 13), .inl (cI, 240, .inl f13)), (h, .inr (10, ML u_71 Rf))] H := hP
            have hD : va_D A [((Rf 27), .inl (cI, 6, .inl f27)), ((Rf 28), .inl (cI, 6, .inl f28)), ((Rf 29), .inl (cI, 30, .inl f29)), ((Rf 30), .inl (cI, 7, .inl f30)), ((Rf 31), .inl (cI, 7, .inl f31)), ((Rf 13), .inl (cI, 240, .inl f13)), (h, .inr (10, ML u_71 Rf))] := hD
            exact hret r_72 (u_71, f27, f28, f29, f30, f31) _ _ _ _ dX10_takesClause_175 (narrow_b01 (Or.inl (congrArg Prod.fst hw_u_71))) hE (cutP (isC := [6, 5, 0, 1, 2, 3, 4]) hP rfl) (cutD (isC := [6, 5, 0, 1, 2, 3, 4]) hD rfl rfl) hS
        · replace hF := hF.2 c_51
          rw [if_neg c_51] at hE
          refine lv_iload_n hx hb dX10_takesClause_30 rfl (lv_at hl 0 rfl) ?_
          refine lv_bipush (v := 118) hx hb dX10_takesClause_31 rfl ?_
          refine lv_icmp_eq (tgt := 42) hx hb dX10_takesClause_33 rfl (fun c_73 => ?_) (fun c_73 => ?_)
          · replace hF := hF.1 c_73
            rw [if_pos c_73] at hE
            subst c_73
            refine lv_iconst (v := 1) hx hb dX10_takesClause_42 rfl ?_
            refine lv_goto (tgt := 47) hx hb dX10_takesClause_43 rfl ?_
            refine lv_istore_n (lv' := [(2, .int 1), (1, .int 118), (0, .ref h)]) hx hb dX10_takesClause_47 rfl hl (Nat.le_of_ble_eq_true rfl) rfl (fun ls hl => ?_)
            refine lv_iload_n hx hb dX10_takesClause_48 rfl (lv_at hl 0 rfl) ?_
            refine lv_if_ne (tgt := 62) hx hb dX10_takesClause_49 rfl (fun c_74 => ?_) (fun c_74 => absurd c_74 (by decide +kernel))
            refine lv_iload_n hx hb dX10_takesClause_62 rfl (lv_at hl 1 rfl) ?_
            refine lv_bipush (v := 98) hx hb dX10_takesClause_63 rfl ?_
            refine lv_icmp_ne (tgt := 83) hx hb dX10_takesClause_65 rfl (fun c_75 => ?_) (fun c_75 => absurd c_75 (by decide +kernel))
            refine lv_iload_n hx hb dX10_takesClause_83 rfl (lv_at hl 1 rfl) ?_
            refine lv_bipush (v := 116) hx hb dX10_takesClause_84 rfl ?_
            refine lv_icmp_ne (tgt := 111) hx hb dX10_takesClause_86 rfl (fun c_76 => ?_) (fun c_76 => absurd c_76 (by decide +kernel))
            refine lv_iload_n hx hb dX10_takesClause_111 rfl (lv_at hl 1 rfl) ?_
            refine lv_bipush (v := 99) hx hb dX10_takesClause_112 rfl ?_
            refine lv_icmp_ne (tgt := 134) hx hb dX10_takesClause_114 rfl (fun c_77 => ?_) (fun c_77 => absurd c_77 (by decide +kernel))
            refine lv_iload_n hx hb dX10_takesClause_134 rfl (lv_at hl 1 rfl) ?_
            refine lv_bipush (v := 118) hx hb dX10_takesClause_135 rfl ?_
            refine lv_icmp_ne (tgt := 157) hx hb dX10_takesClause_137 rfl (fun c_78 => absurd (by decide +kernel) c_78) (fun c_78 => ?_)
            refine lv_aload_n hx hb dX10_takesClause_140 rfl (lv_at hl 2 rfl) ?_
            refine va_get (D := D) (ci := 10) (v := .int (u_2 24)) (C := RX10) (T := TX10) (N := 45) hx hb hts iX10 hown hK hP 5 rfl rfl 24 (Nat.le_of_ble_eq_true rfl) (hts _ wd_543) (fun _ h9 => h9) rfl dX10_takesClause_141 ?_
            refine lv_bipush (v := 7) hx hb dX10_takesClause_144 rfl ?_
            refine lv_icmp_ne (tgt := 153) hx hb dX10_takesClause_146 rfl (fun c_79 => ?_) (fun c_79 => ?_)
            · replace hF := hF.2 c_79
              rw [if_neg c_79] at hE
              refine lv_iconst (v := 0) hx hb dX10_takesClause_153 rfl ?_
              refine lv_goto (tgt := 161) hx hb dX10_takesClause_154 rfl ?_
              refine lv_istore_n (lv' := [(3, .int 0), (2, .int 1), (1, .int 118), (0, .ref h)]) hx hb dX10_takesClause_161 rfl hl (Nat.le_of_ble_eq_true rfl) rfl (fun ls hl => ?_)
              refine lv_iload_n hx hb dX10_takesClause_162 rfl (lv_at hl 0 rfl) ?_
              refine lv_if_eq (tgt := 176) hx hb dX10_takesClause_163 rfl (fun c_80 => ?_) (fun c_80 => absurd (by decide +kernel) c_80)
              refine lv_aload_n hx hb dX10_takesClause_176 rfl (lv_at hl 3 rfl) ?_
              refine lv_dup hx hb dX10_takesClause_177 rfl ?_
              refine va_get (D := D) (ci := 10) (v := .int (u_2 15)) (C := RX10) (T := TX10) (N := 45) hx hb hts iX10 hown hK hP 5 rfl rfl 15 (Nat.le_of_ble_eq_true rfl) (hts _ wd_508) (fun _ h9 => h9) rfl dX10_takesClause_178 ?_
              refine lv_iconst (v := 1) hx hb dX10_takesClause_181 rfl ?_
              refine lv_iadd hx hb dX10_takesClause_182 ?_
              refine va_put (D := D) (ci := 10) (v := .int ((u_2 15) + 1)) (ty := .int) (C := RX10) (T := TX10) (N := 45) hx hb hts iX10 tyX10 tyX10_ok nmX10 hown hK hP hD hS 5 rfl rfl 15 (Nat.le_of_ble_eq_true rfl) (hts _ wd_508) (fun _ h9 => h9) rfl (by decide +kernel) rfl rfl (Nat.le_of_ble_eq_true rfl) dX10_takesClause_183 (fun H locs hP hD hS => ?_)
              have hP : va_P D classes [((Rf 27), .inl (cI, 6, .inl f27)), ((Rf 28), .inl (cI, 6, .inl f28)), ((Rf 29), .inl (cI, 30, .inl f29)), ((Rf 30), .inl (cI, 7, .inl f30)), ((Rf 31), .inl (cI, 7, .inl f31)), (h, .inr (10, ML (upd u_2 15 ((u_2 15) + 1)) Rf)), ((Rf 13), .inl (cI, 240, .inl f13))] H := hP
              have hD : va_D A [((Rf 27), .inl (cI, 6, .inl f27)), ((Rf 28), .inl (cI, 6, .inl f28)), ((Rf 29), .inl (cI, 30, .inl f29)), ((Rf 30), .inl (cI, 7, .inl f30)), ((Rf 31), .inl (cI, 7, .inl f31)), (h, .inr (10, ML (upd u_2 15 ((u_2 15) + 1)) Rf)), ((Rf 13), .inl (cI, 240, .inl f13))] := hD
              refine lv_iload_n hx hb dX10_takesClause_186 rfl (lv_at hl 2 rfl) ?_
              refine lv_lookup (off := 68) (tgt := 255) hx hb dX10_takesClause_187 (by decide +kernel) (by decide +kernel) rfl ?_
              refine lv_aload_n hx hb dX10_takesClause_255 rfl (lv_at hl 3 rfl) ?_
              obtain ⟨hs_81, hF⟩ := hF
              refine cVi (wr := [((Rf 27), .inl (cI, 6, .inl f27)), ((Rf 28), .inl (cI, 6, .inl f28)), ((Rf 29), .inl (cI, 30, .inl f29))]) (rest := []) (m_takesBarge Rf h (upd u_2 15 ((u_2 15) + 1)) f13 f30 f31 hs_81) okV_X10_takesBarge wd_635 hx hb hml hown hts hK hP hD hS hA hN hl.1 [5, 6, 3, 4] [0, 1, 2] rfl rfl rfl rfl (of_decide_eq_true rfl) rfl rfl rfl (Nat.le_of_ble_eq_true rfl) (Nat.le_of_ble_eq_true rfl) (Nat.le_of_ble_eq_true rfl) (Nat.le_of_ble_eq_true rfl) (Nat.le_of_ble_eq_true rfl) dX10_takesClause_256 (fun r_83 u_82 H locs hw_u_82 hP hD hS => ?_)
              obtain ⟨o_84, o_85, o_86⟩ := u_82
              replace hw_u_82 : (r_83, o_84, o_85, o_86) = (f_m_takesBarge (upd u_2 15 ((u_2 15) + 1)) f13 f30 f31) := hw_u_82
              replace hF := hF r_83 o_84 o_85 o_86 hw_u_82
              rw [← hw_u_82] at hE
              replace hE : ((if r_83 = 0 then (0, o_84, f27, f28, f29, o_85, o_86) else (match (f_m_takes o_84 f13 59) with | (r_90, u_89) => (if r_90 = 0 then (0, u_89, f27, f28, f29, o_85, o_86) else (1, u_89, f27, f28, f29, o_85, o_86)))) : Int32 × (Nat → Int32) × (Nat → Int32) × (Nat → Int32) × (Nat → Int32) × (Nat → Int32) × (Nat → Int32)) = RES := hE
              have hP : va_P D classes [((Rf 27), .inl (cI, 6, .inl f27)), ((Rf 28), .inl (cI, 6, .inl f28)), ((Rf 29), .inl (cI, 30, .inl f29)), (h, .inr (10, ML o_84 Rf)), ((Rf 13), .inl (cI, 240, .inl f13)), ((Rf 30), .inl (cI, 7, .inl o_85)), ((Rf 31), .inl (cI, 7, .inl o_86))] H := hP
              have hD : va_D A [((Rf 27), .inl (cI, 6, .inl f27)), ((Rf 28), .inl (cI, 6, .inl f28)), ((Rf 29), .inl (cI, 30, .inl f29)), (h, .inr (10, ML o_84 Rf)), ((Rf 13), .inl (cI, 240, .inl f13)), ((Rf 30), .inl (cI, 7, .inl o_85)), ((Rf 31), .inl (cI, 7, .inl o_86))] := hD
              refine lv_istore (lv' := [(4, .int r_83), (3, .int 0), (2, .int 1), (1, .int 118), (0, .ref h)]) hx hb dX10_takesClause_259 hl (Nat.le_of_ble_eq_true rfl) rfl (fun ls hl => ?_)
              refine lv_goto (tgt := 270) hx hb dX10_takesClause_261 rfl ?_
              refine lv_iload hx hb dX10_takesClause_270 (lv_at hl 0 rfl) ?_
              refine lv_if_eq (tgt := 288) hx hb dX10_takesClause_272 rfl (fun c_87 => ?_) (fun c_87 => ?_)
              · replace hF := hF.1 c_87
                rw [if_pos c_87] at hE
                subst c_87
                refine lv_iconst (v := 0) hx hb dX10_takesClause_288 rfl ?_
                exact hret 0 (o_84, f27, f28, f29, o_85, o_86) _ _ _ _ dX10_takesClause_289 rfl hE (cutP (isC := [3, 4, 0, 1, 2, 5, 6]) hP rfl) (cutD (isC := [3, 4, 0, 1, 2, 5, 6]) hD rfl rfl) hS
              · replace hF := hF.2 c_87
                rw [if_neg c_87] at hE
                refine lv_aload_n hx hb dX10_takesClause_275 rfl (lv_at hl 4 rfl) ?_
                refine lv_bipush (v := 59) hx hb dX10_takesClause_276 rfl ?_
                obtain ⟨hs_88, hF⟩ := hF
                refine cVi (wr := [((Rf 27), .inl (cI, 6, .inl f27)), ((Rf 28), .inl (cI, 6, .inl f28)), ((Rf 29), .inl (cI, 30, .inl f29)), ((Rf 30), .inl (cI, 7, .inl o_85)), ((Rf 31), .inl (cI, 7, .inl o_86))]) (rest := []) (m_takes Rf h o_84 f13 59 hs_88) okV_X10_takes wd_538 hx hb hml hown hts hK hP hD hS hA hN hl.1 [3, 4] [0, 1, 2, 5, 6] rfl rfl rfl rfl (of_decide_eq_true rfl) rfl rfl rfl (Nat.le_of_ble_eq_true rfl) (Nat.le_of_ble_eq_true rfl) (Nat.le_of_ble_eq_true rfl) (Nat.le_of_ble_eq_true rfl) (Nat.le_of_ble_eq_true rfl) dX10_takesClause_278 (fun r_90 u_89 H locs hw_u_89 hP hD hS => ?_)
                replace hw_u_89 : (r_90, u_89) = (f_m_takes o_84 f13 59) := hw_u_89
                replace hF := hF r_90 u_89 hw_u_89
                rw [← hw_u_89] at hE
                replace hE : ((if r_90 = 0 then (0, u_89, f27, f28, f29, o_85, o_86) else (1, u_89, f27, f28, f29, o_85, o_86)) : Int32 × (Nat → Int32) × (Nat → Int32) × (Nat → Int32) × (Nat → Int32) × (Nat → Int32) × (Nat → Int32)) = RES := hE
                have hP : va_P D classes [((Rf 27), .inl (cI, 6, .inl f27)), ((Rf 28), .inl (cI, 6, .inl f28)), ((Rf 29), .inl (cI, 30, .inl f29)), ((Rf 30), .inl (cI, 7, .inl o_85)), ((Rf 31), .inl (cI, 7, .inl o_86)), (h, .inr (10, ML u_89 Rf)), ((Rf 13), .inl (cI, 240, .inl f13))] H := hP
                have hD : va_D A [((Rf 27), .inl (cI, 6, .inl f27)), ((Rf 28), .inl (cI, 6, .inl f28)), ((Rf 29), .inl (cI, 30, .inl f29)), ((Rf 30), .inl (cI, 7, .inl o_85)), ((Rf 31), .inl (cI, 7, .inl o_86)), (h, .inr (10, ML u_89 Rf)), ((Rf 13), .inl (cI, 240, .inl f13))] := hD
                refine lv_if_eq (tgt := 288) hx hb dX10_takesClause_281 rfl (fun c_91 => ?_) (fun c_91 => ?_)
                · replace hF := hF.1 c_91
                  rw [if_pos c_91] at hE
                  subst c_91
                  refine lv_iconst (v := 0) hx hb dX10_takesClause_288 rfl ?_
                  exact hret 0 (u_89, f27, f28, f29, o_85, o_86) _ _ _ _ dX10_takesClause_289 rfl hE (cutP (isC := [5, 6, 0, 1, 2, 3, 4]) hP rfl) (cutD (isC := [5, 6, 0, 1, 2, 3, 4]) hD rfl rfl) hS
                · replace hF := hF.2 c_91
                  rw [if_neg c_91] at hE
                  refine lv_iconst (v := 1) hx hb dX10_takesClause_284 rfl ?_
                  refine lv_goto (tgt := 289) hx hb dX10_takesClause_285 rfl ?_
                  exact hret 1 (u_89, f27, f28, f29, o_85, o_86) _ _ _ _ dX10_takesClause_289 rfl hE (cutP (isC := [5, 6, 0, 1, 2, 3, 4]) hP rfl) (cutD (isC := [5, 6, 0, 1, 2, 3, 4]) hD rfl rfl) hS
            · replace hF := hF.1 c_79
              rw [if_pos c_79] at hE
              refine lv_iconst (v := 1) hx hb dX10_takesClause_149 rfl ?_
              refine lv_goto (tgt := 161) hx hb dX10_takesClause_150 rfl ?_
              refine lv_istore_n (lv' := [(3, .int 1), (2, .int 1), (1, .int 118), (0, .ref h)]) hx hb dX10_takesClause_161 rfl hl (Nat.le_of_ble_eq_true rfl) rfl (fun ls hl => ?_)
              refine lv_iload_n hx hb dX10_takesClause_162 rfl (lv_at hl 0 rfl) ?_
              refine lv_if_eq (tgt := 176) hx hb dX10_takesClause_163 rfl (fun c_92 => absurd c_92 (by decide +kernel)) (fun c_92 => ?_)
              refine lv_aload_n hx hb dX10_takesClause_166 rfl (lv_at hl 3 rfl) ?_
              refine lv_iconst (v := 3) hx hb dX10_takesClause_167 rfl ?_
              refine lv_aload_n hx hb dX10_takesClause_168 rfl (lv_at hl 3 rfl) ?_
              refine va_get (D := D) (ci := 10) (v := .int (u_2 16)) (C := RX10) (T := TX10) (N := 45) hx hb hts iX10 hown hK hP 5 rfl rfl 16 (Nat.le_of_ble_eq_true rfl) (hts _ wd_509) (fun _ h9 => h9) rfl dX10_takesClause_169 ?_
              obtain ⟨hs_93, hF⟩ := hF
              refine cVi (wr := [((Rf 27), .inl (cI, 6, .inl f27)), ((Rf 28), .inl (cI, 6, .inl f28)), ((Rf 29), .inl (cI, 30, .inl f29)), ((Rf 30), .inl (cI, 7, .inl f30)), ((Rf 31), .inl (cI, 7, .inl f31)), ((Rf 13), .inl (cI, 240, .inl f13))]) (rest := []) (m_fails Rf h u_2 3 (u_2 16) hs_93) okV_X10_fails wd_520 hx hb hml hown hts hK hP hD hS hA hN hl.1 [5] [0, 1, 2, 3, 4, 6] rfl rfl rfl rfl (of_decide_eq_true rfl) rfl rfl rfl (Nat.le_of_ble_eq_true rfl) (Nat.le_of_ble_eq_true rfl) (Nat.le_of_ble_eq_true rfl) (Nat.le_of_ble_eq_true rfl) (Nat.le_of_ble_eq_true rfl) dX10_takesClause_172 (fun r_95 u_94 H locs hw_u_94 hP hD hS => ?_)
              replace hw_u_94 : (r_95, u_94) = (f_m_fails u_2 3 (u_2 16)) := hw_u_94
              replace hF := hF r_95 u_94 hw_u_94
              rw [← hw_u_94] at hE
              replace hE : ((r_95, u_94, f27, f28, f29, f30, f31) : Int32 × (Nat → Int32) × (Nat → Int32) × (Nat → Int32) × (Nat → Int32) × (Nat → Int32) × (Nat → Int32)) = RES := hE
              have hP : va_P D classes [((Rf 27), .inl (cI, 6, .inl f27)), ((Rf 28), .inl (cI, 6, .inl f28)), ((Rf 29), .inl (cI, 30, .inl f29)), ((Rf 30), .inl (cI, 7, .inl f30)), ((Rf 31), .inl (cI, 7, .inl f31)), ((Rf 13), .inl (cI, 240, .inl f13)), (h, .inr (10, ML u_94 Rf))] H := hP
              have hD : va_D A [((Rf 27), .inl (cI, 6, .inl f27)), ((Rf 28), .inl (cI, 6, .inl f28)), ((Rf 29), .inl (cI, 30, .inl f29)), ((Rf 30), .inl (cI, 7, .inl f30)), ((Rf 31), .inl (cI, 7, .inl f31)), ((Rf 13), .inl (cI, 240, .inl f13)), (h, .inr (10, ML u_94 Rf))] := hD
              exact hret r_95 (u_94, f27, f28, f29, f30, f31) _ _ _ _ dX10_takesClause_175 (narrow_b01 (Or.inl (congrArg Prod.fst hw_u_94))) hE (cutP (isC := [6, 5, 0, 1, 2, 3, 4]) hP rfl) (cutD (isC := [6, 5, 0, 1, 2, 3, 4]) hD rfl rfl) hS
          · replace hF := hF.2 c_73
            rw [if_neg c_73] at hE
            refine lv_iload_n hx hb dX10_takesClause_36 rfl (lv_at hl 0 rfl) ?_
            refine lv_bipush (v := 115) hx hb dX10_takesClause_37 rfl ?_
            refine lv_icmp_ne (tgt := 46) hx hb dX10_takesClause_39 rfl (fun c_96 => ?_) (fun c_96 => ?_)
            · replace hF := hF.2 c_96
              rw [if_neg c_96] at hE
              refine lv_iconst (v := 0) hx hb dX10_takesClause_46 rfl ?_
              refine lv_istore_n (lv' := [(2, .int 0), (1, .int r_3), (0, .ref h)]) hx hb dX10_takesClause_47 rfl hl (Nat.le_of_ble_eq_true rfl) rfl (fun ls hl => ?_)
              refine lv_iload_n hx hb dX10_takesClause_48 rfl (lv_at hl 0 rfl) ?_
              refine lv_if_ne (tgt := 62) hx hb dX10_takesClause_49 rfl (fun c_97 => absurd (by decide +kernel) c_97) (fun c_97 => ?_)
              refine lv_aload_n hx hb dX10_takesClause_52 rfl (lv_at hl 2 rfl) ?_
              refine lv_iconst (v := 1) hx hb dX10_takesClause_53 rfl ?_
              refine lv_aload_n hx hb dX10_takesClause_54 rfl (lv_at hl 2 rfl) ?_
              refine va_get (D := D) (ci := 10) (v := .int (u_2 16)) (C := RX10) (T := TX10) (N := 45) hx hb hts iX10 hown hK hP 5 rfl rfl 16 (Nat.le_of_ble_eq_true rfl) (hts _ wd_509) (fun _ h9 => h9) rfl dX10_takesClause_55 ?_
              obtain ⟨hs_98, hF⟩ := hF
              refine cVi (wr := [((Rf 27), .inl (cI, 6, .inl f27)), ((Rf 28), .inl (cI, 6, .inl f28)), ((Rf 29), .inl (cI, 30, .inl f29)), ((Rf 30), .inl (cI, 7, .inl f30)), ((Rf 31), .inl (cI, 7, .inl f31)), ((Rf 13), .inl (cI, 240, .inl f13))]) (rest := []) (m_fails Rf h u_2 1 (u_2 16) hs_98) okV_X10_fails wd_520 hx hb hml hown hts hK hP hD hS hA hN hl.1 [5] [0, 1, 2, 3, 4, 6] rfl rfl rfl rfl (of_decide_eq_true rfl) rfl rfl rfl (Nat.le_of_ble_eq_true rfl) (Nat.le_of_ble_eq_true rfl) (Nat.le_of_ble_eq_true rfl) (Nat.le_of_ble_eq_true rfl) (Nat.le_of_ble_eq_true rfl) dX10_takesClause_58 (fun r_100 u_99 H locs hw_u_99 hP hD hS => ?_)
              replace hw_u_99 : (r_100, u_99) = (f_m_fails u_2 1 (u_2 16)) := hw_u_99
              replace hF := hF r_100 u_99 hw_u_99
              rw [← hw_u_99] at hE
              replace hE : ((r_100, u_99, f27, f28, f29, f30, f31) : Int32 × (Nat → Int32) × (Nat → Int32) × (Nat → Int32) × (Nat → Int32) × (Nat → Int32) × (Nat → Int32)) = RES := hE
              have hP : va_P D classes [((Rf 27), .inl (cI, 6, .inl f27)), ((Rf 28), .inl (cI, 6, .inl f28)), ((Rf 29), .inl (cI, 30, .inl f29)), ((Rf 30), .inl (cI, 7, .inl f30)), ((Rf 31), .inl (cI, 7, .inl f31)), ((Rf 13), .inl (cI, 240, .inl f13)), (h, .inr (10, ML u_99 Rf))] H := hP
              have hD : va_D A [((Rf 27), .inl (cI, 6, .inl f27)), ((Rf 28), .inl (cI, 6, .inl f28)), ((Rf 29), .inl (cI, 30, .inl f29)), ((Rf 30), .inl (cI, 7, .inl f30)), ((Rf 31), .inl (cI, 7, .inl f31)), ((Rf 13), .inl (cI, 240, .inl f13)), (h, .inr (10, ML u_99 Rf))] := hD
              exact hret r_100 (u_99, f27, f28, f29, f30, f31) _ _ _ _ dX10_takesClause_61 (narrow_b01 (Or.inl (congrArg Prod.fst hw_u_99))) hE (cutP (isC := [6, 5, 0, 1, 2, 3, 4]) hP rfl) (cutD (isC := [6, 5, 0, 1, 2, 3, 4]) hD rfl rfl) hS
            · replace hF := hF.1 c_96
              rw [if_pos c_96] at hE
              subst c_96
              refine lv_iconst (v := 1) hx hb dX10_takesClause_42 rfl ?_
              refine lv_goto (tgt := 47) hx hb dX10_takesClause_43 rfl ?_
              refine lv_istore_n (lv' := [(2, .int 1), (1, .int 115), (0, .ref h)]) hx hb dX10_takesClause_47 rfl hl (Nat.le_of_ble_eq_true rfl) rfl (fun ls hl => ?_)
              refine lv_iload_n hx hb dX10_takesClause_48 rfl (lv_at hl 0 rfl) ?_
              refine lv_if_ne (tgt := 62) hx hb dX10_takesClause_49 rfl (fun c_101 => ?_) (fun c_101 => absurd c_101 (by decide +kernel))
              refine lv_iload_n hx hb dX10_takesClause_62 rfl (lv_at hl 1 rfl) ?_
              refine lv_bipush (v := 98) hx hb dX10_takesClause_63 rfl ?_
              refine lv_icmp_ne (tgt := 83) hx hb dX10_takesClause_65 rfl (fun c_102 => ?_) (fun c_102 => absurd c_102 (by decide +kernel))
              refine lv_iload_n hx hb dX10_takesClause_83 rfl (lv_at hl 1 rfl) ?_
              refine lv_bipush (v := 116) hx hb dX10_takesClause_84 rfl ?_
              refine lv_icmp_ne (tgt := 111) hx hb dX10_takesClause_86 rfl (fun c_103 => ?_) (fun c_103 => absurd c_103 (by decide +kernel))
              refine lv_iload_n hx hb dX10_takesClause_111 rfl (lv_at hl 1 rfl) ?_
              refine lv_bipush (v := 99) hx hb dX10_takesClause_112 rfl ?_
              refine lv_icmp_ne (tgt := 134) hx hb dX10_takesClause_114 rfl (fun c_104 => ?_) (fun c_104 => absurd c_104 (by decide +kernel))
              refine lv_iload_n hx hb dX10_takesClause_134 rfl (lv_at hl 1 rfl) ?_
              refine lv_bipush (v := 118) hx hb dX10_takesClause_135 rfl ?_
              refine lv_icmp_ne (tgt := 157) hx hb dX10_takesClause_137 rfl (fun c_105 => ?_) (fun c_105 => absurd c_105 (by decide +kernel))
              refine lv_aload_n hx hb dX10_takesClause_157 rfl (lv_at hl 2 rfl) ?_
              refine va_get (D := D) (ci := 10) (v := .int (u_2 26)) (C := RX10) (T := TX10) (N := 45) hx hb hts iX10 hown hK hP 5 rfl rfl 26 (Nat.le_of_ble_eq_true rfl) (hts _ wd_545) (fun _ h9 => h9) rfl dX10_takesClause_158 ?_
              refine lv_istore_n (lv' := [(3, .int (u_2 26)), (2, .int 1), (1, .int 115), (0, .ref h)]) hx hb dX10_takesClause_161 rfl hl (Nat.le_of_ble_eq_true rfl) rfl (fun ls hl => ?_)
              refine lv_iload_n hx hb dX10_takesClause_162 rfl (lv_at hl 0 rfl) ?_
              refine lv_if_eq (tgt := 176) hx hb dX10_takesClause_163 rfl (fun c_106 => ?_) (fun c_106 => ?_)
              · replace hF := hF.1 c_106
                rw [if_pos c_106] at hE
                refine lv_aload_n hx hb dX10_takesClause_176 rfl (lv_at hl 3 rfl) ?_
                refine lv_dup hx hb dX10_takesClause_177 rfl ?_
                refine va_get (D := D) (ci := 10) (v := .int (u_2 15)) (C := RX10) (T := TX10) (N := 45) hx hb hts iX10 hown hK hP 5 rfl rfl 15 (Nat.le_of_ble_eq_true rfl) (hts _ wd_508) (fun _ h9 => h9) rfl dX10_takesClause_178 ?_
                refine lv_iconst (v := 1) hx hb dX10_takesClause_181 rfl ?_
                refine lv_iadd hx hb dX10_takesClause_182 ?_
                refine va_put (D := D) (ci := 10) (v := .int ((u_2 15) + 1)) (ty := .int) (C := RX10) (T := TX10) (N := 45) hx hb hts iX10 tyX10 tyX10_ok nmX10 hown hK hP hD hS 5 rfl rfl 15 (Nat.le_of_ble_eq_true rfl) (hts _ wd_508) (fun _ h9 => h9) rfl (by decide +kernel) rfl rfl (Nat.le_of_ble_eq_true rfl) dX10_takesClause_183 (fun H locs hP hD hS => ?_)
                have hP : va_P D classes [((Rf 27), .inl (cI, 6, .inl f27)), ((Rf 28), .inl (cI, 6, .inl f28)), ((Rf 29), .inl (cI, 30, .inl f29)), ((Rf 30), .inl (cI, 7, .inl f30)), ((Rf 31), .inl (cI, 7, .inl f31)), (h, .inr (10, ML (upd u_2 15 ((u_2 15) + 1)) Rf)), ((Rf 13), .inl (cI, 240, .inl f13))] H := hP
                have hD : va_D A [((Rf 27), .inl (cI, 6, .inl f27)), ((Rf 28), .inl (cI, 6, .inl f28)), ((Rf 29), .inl (cI, 30, .inl f29)), ((Rf 30), .inl (cI, 7, .inl f30)), ((Rf 31), .inl (cI, 7, .inl f31)), (h, .inr (10, ML (upd u_2 15 ((u_2 15) + 1)) Rf)), ((Rf 13), .inl (cI, 240, .inl f13))] := hD
                refine lv_iload_n hx hb dX10_takesClause_186 rfl (lv_at hl 2 rfl) ?_
                refine lv_lookup (off := 77) (tgt := 264) hx hb dX10_takesClause_187 (by decide +kernel) (by decide +kernel) rfl ?_
                refine lv_aload_n hx hb dX10_takesClause_264 rfl (lv_at hl 3 rfl) ?_
                obtain ⟨hs_107, hF⟩ := hF
                refine cVi (wr := [((Rf 27), .inl (cI, 6, .inl f27)), ((Rf 28), .inl (cI, 6, .inl f28)), ((Rf 29), .inl (cI, 30, .inl f29)), ((Rf 30), .inl (cI, 7, .inl f30)), ((Rf 31), .inl (cI, 7, .inl f31))]) (rest := []) (m_takesSnow Rf h (upd u_2 15 ((u_2 15) + 1)) f13 hs_107) okV_X10_takesSnow wd_639 hx hb hml hown hts hK hP hD hS hA hN hl.1 [5, 6] [0, 1, 2, 3, 4] rfl rfl rfl rfl (of_decide_eq_true rfl) rfl rfl rfl (Nat.le_of_ble_eq_true rfl) (Nat.le_of_ble_eq_true rfl) (Nat.le_of_ble_eq_true rfl) (Nat.le_of_ble_eq_true rfl) (Nat.le_of_ble_eq_true rfl) dX10_takesClause_265 (fun r_109 u_108 H locs hw_u_108 hP hD hS => ?_)
                replace hw_u_108 : (r_109, u_108) = (f_m_takesSnow (upd u_2 15 ((u_2 15) + 1)) f13) := hw_u_108
                replace hF := hF r_109 u_108 hw_u_108
                rw [← hw_u_108] at hE
                replace hE : ((if r_109 = 0 then (0, u_108, f27, f28, f29, f30, f31) else (match (f_m_takes u_108 f13 59) with | (r_113, u_112) => (if r_113 = 0 then (0, u_112, f27, f28, f29, f30, f31) else (1, u_112, f27, f28, f29, f30, f31)))) : Int32 × (Nat → Int32) × (Nat → Int32) × (Nat → Int32) × (Nat → Int32) × (Nat → Int32) × (Nat → Int32)) = RES := hE
                have hP : va_P D classes [((Rf 27), .inl (cI, 6, .inl f27)), ((Rf 28), .inl (cI, 6, .inl f28)), ((Rf 29), .inl (cI, 30, .inl f29)), ((Rf 30), .inl (cI, 7, .inl f30)), ((Rf 31), .inl (cI, 7, .inl f31)), (h, .inr (10, ML u_108 Rf)), ((Rf 13), .inl (cI, 240, .inl f13))] H := hP
                have hD : va_D A [((Rf 27), .inl (cI, 6, .inl f27)), ((Rf 28), .inl (cI, 6, .inl f28)), ((Rf 29), .inl (cI, 30, .inl f29)), ((Rf 30), .inl (cI, 7, .inl f30)), ((Rf 31), .inl (cI, 7, .inl f31)), (h, .inr (10, ML u_108 Rf)), ((Rf 13), .inl (cI, 240, .inl f13))] := hD
                refine lv_istore (lv' := [(4, .int r_109), (3, .int (u_2 26)), (2, .int 1), (1, .int 115), (0, .ref h)]) hx hb dX10_takesClause_268 hl (Nat.le_of_ble_eq_true rfl) rfl (fun ls hl => ?_)
                refine lv_iload hx hb dX10_takesClause_270 (lv_at hl 0 rfl) ?_
                refine lv_if_eq (tgt := 288) hx hb dX10_takesClause_272 rfl (fun c_110 => ?_) (fun c_110 => ?_)
                · replace hF := hF.1 c_110
                  rw [if_pos c_110] at hE
                  subst c_110
                  refine lv_iconst (v := 0) hx hb dX10_takesClause_288 rfl ?_
                  exact hret 0 (u_108, f27, f28, f29, f30, f31) _ _ _ _ dX10_takesClause_289 rfl hE (cutP (isC := [5, 6, 0, 1, 2, 3, 4]) hP rfl) (cutD (isC := [5, 6, 0, 1, 2, 3, 4]) hD rfl rfl) hS
                · replace hF := hF.2 c_110
                  rw [if_neg c_110] at hE
                  refine lv_aload_n hx hb dX10_takesClause_275 rfl (lv_at hl 4 rfl) ?_
                  refine lv_bipush (v := 59) hx hb dX10_takesClause_276 rfl ?_
                  obtain ⟨hs_111, hF⟩ := hF
                  refine cVi (wr := [((Rf 27), .inl (cI, 6, .inl f27)), ((Rf 28), .inl (cI, 6, .inl f28)), ((Rf 29), .inl (cI, 30, .inl f29)), ((Rf 30), .inl (cI, 7, .inl f30)), ((Rf 31), .inl (cI, 7, .inl f31))]) (rest := []) (m_takes Rf h u_108 f13 59 hs_111) okV_X10_takes wd_538 hx hb hml hown hts hK hP hD hS hA hN hl.1 [5, 6] [0, 1, 2, 3, 4] rfl rfl rfl rfl (of_decide_eq_true rfl) rfl rfl rfl (Nat.le_of_ble_eq_true rfl) (Nat.le_of_ble_eq_true rfl) (Nat.le_of_ble_eq_true rfl) (Nat.le_of_ble_eq_true rfl) (Nat.le_of_ble_eq_true rfl) dX10_takesClause_278 (fun r_113 u_112 H locs hw_u_112 hP hD hS => ?_)
                  replace hw_u_112 : (r_113, u_112) = (f_m_takes u_108 f13 59) := hw_u_112
                  replace hF := hF r_113 u_112 hw_u_112
                  rw [← hw_u_112] at hE
                  replace hE : ((if r_113 = 0 then (0, u_112, f27, f28, f29, f30, f31) else (1, u_112, f27, f28, f29, f30, f31)) : Int32 × (Nat → Int32) × (Nat → Int32) × (Nat → Int32) × (Nat → Int32) × (Nat → Int32) × (Nat → Int32)) = RES := hE
                  have hP : va_P D classes [((Rf 27), .inl (cI, 6, .inl f27)), ((Rf 28), .inl (cI, 6, .inl f28)), ((Rf 29), .inl (cI, 30, .inl f29)), ((Rf 30), .inl (cI, 7, .inl f30)), ((Rf 31), .inl (cI, 7, .inl f31)), (h, .inr (10, ML u_112 Rf)), ((Rf 13), .inl (cI, 240, .inl f13))] H := hP
                  have hD : va_D A [((Rf 27), .inl (cI, 6, .inl f27)), ((Rf 28), .inl (cI, 6, .inl f28)), ((Rf 29), .inl (cI, 30, .inl f29)), ((Rf 30), .inl (cI, 7, .inl f30)), ((Rf 31), .inl (cI, 7, .inl f31)), (h, .inr (10, ML u_112 Rf)), ((Rf 13), .inl (cI, 240, .inl f13))] := hD
                  refine lv_if_eq (tgt := 288) hx hb dX10_takesClause_281 rfl (fun c_114 => ?_) (fun c_114 => ?_)
                  · replace hF := hF.1 c_114
                    rw [if_pos c_114] at hE
                    subst c_114
                    refine lv_iconst (v := 0) hx hb dX10_takesClause_288 rfl ?_
                    exact hret 0 (u_112, f27, f28, f29, f30, f31) _ _ _ _ dX10_takesClause_289 rfl hE (cutP (isC := [5, 6, 0, 1, 2, 3, 4]) hP rfl) (cutD (isC := [5, 6, 0, 1, 2, 3, 4]) hD rfl rfl) hS
                  · replace hF := hF.2 c_114
                    rw [if_neg c_114] at hE
                    refine lv_iconst (v := 1) hx hb dX10_takesClause_284 rfl ?_
                    refine lv_goto (tgt := 289) hx hb dX10_takesClause_285 rfl ?_
                    exact hret 1 (u_112, f27, f28, f29, f30, f31) _ _ _ _ dX10_takesClause_289 rfl hE (cutP (isC := [5, 6, 0, 1, 2, 3, 4]) hP rfl) (cutD (isC := [5, 6, 0, 1, 2, 3, 4]) hD rfl rfl) hS
              · replace hF := hF.2 c_106
                rw [if_neg c_106] at hE
                refine lv_aload_n hx hb dX10_takesClause_166 rfl (lv_at hl 3 rfl) ?_
                refine lv_iconst (v := 3) hx hb dX10_takesClause_167 rfl ?_
                refine lv_aload_n hx hb dX10_takesClause_168 rfl (lv_at hl 3 rfl) ?_
                refine va_get (D := D) (ci := 10) (v := .int (u_2 16)) (C := RX10) (T := TX10) (N := 45) hx hb hts iX10 hown hK hP 5 rfl rfl 16 (Nat.le_of_ble_eq_true rfl) (hts _ wd_509) (fun _ h9 => h9) rfl dX10_takesClause_169 ?_
                obtain ⟨hs_115, hF⟩ := hF
                refine cVi (wr := [((Rf 27), .inl (cI, 6, .inl f27)), ((Rf 28), .inl (cI, 6, .inl f28)), ((Rf 29), .inl (cI, 30, .inl f29)), ((Rf 30), .inl (cI, 7, .inl f30)), ((Rf 31), .inl (cI, 7, .inl f31)), ((Rf 13), .inl (cI, 240, .inl f13))]) (rest := []) (m_fails Rf h u_2 3 (u_2 16) hs_115) okV_X10_fails wd_520 hx hb hml hown hts hK hP hD hS hA hN hl.1 [5] [0, 1, 2, 3, 4, 6] rfl rfl rfl rfl (of_decide_eq_true rfl) rfl rfl rfl (Nat.le_of_ble_eq_true rfl) (Nat.le_of_ble_eq_true rfl) (Nat.le_of_ble_eq_true rfl) (Nat.le_of_ble_eq_true rfl) (Nat.le_of_ble_eq_true rfl) dX10_takesClause_172 (fun r_117 u_116 H locs hw_u_116 hP hD hS => ?_)
                replace hw_u_116 : (r_117, u_116) = (f_m_fails u_2 3 (u_2 16)) := hw_u_116
                replace hF := hF r_117 u_116 hw_u_116
                rw [← hw_u_116] at hE
                replace hE : ((r_117, u_116, f27, f28, f29, f30, f31) : Int32 × (Nat → Int32) × (Nat → Int32) × (Nat → Int32) × (Nat → Int32) × (Nat → Int32) × (Nat → Int32)) = RES := hE
                have hP : va_P D classes [((Rf 27), .inl (cI, 6, .inl f27)), ((Rf 28), .inl (cI, 6, .inl f28)), ((Rf 29), .inl (cI, 30, .inl f29)), ((Rf 30), .inl (cI, 7, .inl f30)), ((Rf 31), .inl (cI, 7, .inl f31)), ((Rf 13), .inl (cI, 240, .inl f13)), (h, .inr (10, ML u_116 Rf))] H := hP
                have hD : va_D A [((Rf 27), .inl (cI, 6, .inl f27)), ((Rf 28), .inl (cI, 6, .inl f28)), ((Rf 29), .inl (cI, 30, .inl f29)), ((Rf 30), .inl (cI, 7, .inl f30)), ((Rf 31), .inl (cI, 7, .inl f31)), ((Rf 13), .inl (cI, 240, .inl f13)), (h, .inr (10, ML u_116 Rf))] := hD
                exact hret r_117 (u_116, f27, f28, f29, f30, f31) _ _ _ _ dX10_takesClause_175 (narrow_b01 (Or.inl (congrArg Prod.fst hw_u_116))) hE (cutP (isC := [6, 5, 0, 1, 2, 3, 4]) hP rfl) (cutD (isC := [6, 5, 0, 1, 2, 3, 4]) hD rfl rfl) hS
end
section
def fw_cX10_opens : List (List Nat) := [[42, 27, 29, 42, 180, 0, 7, 3, 27, 96, 46, 42, 180, 0, 21, 28, 46, 182], [46, 182, 0, 237, 42, 180, 0, 226, 153, 0, 15, 42, 27, 182, 0, 207, 154, 0], [154, 0, 7, 4, 167, 0, 4, 3, 172]]
theorem fW_cX10_opens : fq_wins 3 cX10_opens.data.toList = fw_cX10_opens := by decide +kernel
theorem fk_cX10_opens_0 : fq_ck cX10_opens 0 [42, 27, 29, 42, 180, 0, 7, 3, 27, 96, 46, 42, 180, 0, 21, 28, 46, 182] := fq_of fW_cX10_opens 0 rfl rfl
theorem dX10_opens_0 : decode cX10_opens 0 = .ok (.aload_n 0, 1) := fq_42 fk_cX10_opens_0 0 rfl rfl
theorem dX10_opens_1 : decode cX10_opens 1 = .ok (.iload_n 1, 1) := fq_27 fk_cX10_opens_0 1 rfl rfl
theorem dX10_opens_2 : decode cX10_opens 2 = .ok (.iload_n 3, 1) := fq_29 fk_cX10_opens_0 2 rfl rfl
theorem dX10_opens_3 : decode cX10_opens 3 = .ok (.aload_n 0, 1) := fq_42 fk_cX10_opens_0 3 rfl rfl
theorem dX10_opens_4 : decode cX10_opens 4 = .ok (.getfield 7, 3) := fq_180 fk_cX10_opens_0 4 rfl rfl rfl rfl rfl
theorem dX10_opens_7 : decode cX10_opens 7 = .ok (.iconst 0, 1) := fq_3 fk_cX10_opens_0 7 rfl rfl
theorem dX10_opens_8 : decode cX10_opens 8 = .ok (.iload_n 1, 1) := fq_27 fk_cX10_opens_0 8 rfl rfl
theorem dX10_opens_9 : decode cX10_opens 9 = .ok (.iadd, 1) := fq_96 fk_cX10_opens_0 9 rfl rfl
theorem dX10_opens_10 : decode cX10_opens 10 = .ok (.iaload, 1) := fq_46 fk_cX10_opens_0 10 rfl rfl
theorem dX10_opens_11 : decode cX10_opens 11 = .ok (.aload_n 0, 1) := fq_42 fk_cX10_opens_0 11 rfl rfl
theorem dX10_opens_12 : decode cX10_opens 12 = .ok (.getfield 21, 3) := fq_180 fk_cX10_opens_0 12 rfl rfl rfl rfl rfl
theorem dX10_opens_15 : decode cX10_opens 15 = .ok (.iload_n 2, 1) := fq_28 fk_cX10_opens_0 15 rfl rfl
theorem fk_cX10_opens_1 : fq_ck cX10_opens 16 [46, 182, 0, 237, 42, 180, 0, 226, 153, 0, 15, 42, 27, 182, 0, 207, 154, 0] := fq_of fW_cX10_opens 1 rfl rfl
theorem dX10_opens_16 : decode cX10_opens 16 = .ok (.iaload, 1) := fq_46 fk_cX10_opens_1 0 rfl rfl
theorem dX10_opens_17 : decode cX10_opens 17 = .ok (.invokevirtual 237, 3) := fq_182 fk_cX10_opens_1 1 rfl rfl rfl rfl rfl
theorem wd_643 : Cond.methodLink RX10 237 yX10_quarrels ∈ BG := BG_at5 112 (by decide +kernel) rfl
theorem wd_644 : Cond.code yX10_quarrels cX10_quarrels 7 none ∈ BG := BG_at5 115 rfl rfl
theorem wd_645 : Cond.instanceMethod yX10_quarrels ∈ BG := BG_at5 114 (by decide +kernel) rfl
theorem wd_646 : Cond.selects RX10 yX10_quarrels yX10_quarrels ∈ BG := BG_in (by decide +kernel) rfl
theorem okV_X10_quarrels : okV yX10_quarrels cX10_quarrels 7 none 4 := ⟨⟨wd_644, wd_497, by decide +kernel⟩, wd_645, wd_646⟩
theorem dX10_opens_20 : decode cX10_opens 20 = .ok (.aload_n 0, 1) := fq_42 fk_cX10_opens_1 4 rfl rfl
theorem dX10_opens_21 : decode cX10_opens 21 = .ok (.getfield 226, 3) := fq_180 fk_cX10_opens_1 5 rfl rfl rfl rfl rfl
theorem dX10_opens_24 : decode cX10_opens 24 = .ok (.ifCond .eq 15, 3) := fq_153 fk_cX10_opens_1 8 rfl rfl rfl rfl rfl
theorem fk_cX10_opens_2 : fq_ck cX10_opens 32 [154, 0, 7, 4, 167, 0, 4, 3, 172] := fq_of fW_cX10_opens 2 rfl rfl
theorem dX10_opens_39 : decode cX10_opens 39 = .ok (.iconst 0, 1) := fq_3 fk_cX10_opens_2 7 rfl rfl
theorem dX10_opens_40 : decode cX10_opens 40 = .ok (.ireturn, 1) := fq_172 fk_cX10_opens_2 8 rfl rfl
theorem dX10_opens_27 : decode cX10_opens 27 = .ok (.aload_n 0, 1) := fq_42 fk_cX10_opens_1 11 rfl rfl
theorem dX10_opens_28 : decode cX10_opens 28 = .ok (.iload_n 1, 1) := fq_27 fk_cX10_opens_1 12 rfl rfl
theorem dX10_opens_29 : decode cX10_opens 29 = .ok (.invokevirtual 207, 3) := fq_182 fk_cX10_opens_1 13 rfl rfl rfl rfl rfl
theorem dX10_opens_32 : decode cX10_opens 32 = .ok (.ifCond .ne 7, 3) := fq_154 fk_cX10_opens_2 0 rfl rfl rfl rfl rfl
theorem dX10_opens_35 : decode cX10_opens 35 = .ok (.iconst 1, 1) := fq_4 fk_cX10_opens_2 3 rfl rfl
theorem dX10_opens_36 : decode cX10_opens 36 = .ok (.goto 4, 3) := fq_167 fk_cX10_opens_2 4 rfl rfl rfl rfl rfl
def fw_cX10_could : List (List Nat) := [[42, 27, 182, 0, 204, 153, 0, 19, 42, 28, 182, 0, 196, 153, 0, 11, 42, 29], [42, 29, 182, 0, 210, 154, 0, 6, 18, 199, 172, 21, 4, 133, 9, 10, 184, 0], [184, 0, 84, 154, 0, 6, 18, 93, 172, 42, 27, 28, 29, 182, 1, 4, 154, 0], [154, 0, 7, 2, 167, 0, 28, 21, 4, 154, 0, 10, 42, 180, 0, 216, 167, 0], [167, 0, 16, 42, 180, 0, 7, 3, 27, 96, 46, 42, 180, 0, 219, 100, 172], [172]]
theorem fW_cX10_could : fq_wins 6 cX10_could.data.toList = fw_cX10_could := by decide +kernel
theorem fk_cX10_could_0 : fq_ck cX10_could 0 [42, 27, 182, 0, 204, 153, 0, 19, 42, 28, 182, 0, 196, 153, 0, 11, 42, 29] := fq_of fW_cX10_could 0 rfl rfl
theorem dX10_could_0 : decode cX10_could 0 = .ok (.aload_n 0, 1) := fq_42 fk_cX10_could_0 0 rfl rfl
theorem dX10_could_1 : decode cX10_could 1 = .ok (.iload_n 1, 1) := fq_27 fk_cX10_could_0 1 rfl rfl
theorem dX10_could_2 : decode cX10_could 2 = .ok (.invokevirtual 204, 3) := fq_182 fk_cX10_could_0 2 rfl rfl rfl rfl rfl
theorem dX10_could_5 : decode cX10_could 5 = .ok (.ifCond .eq 19, 3) := fq_153 fk_cX10_could_0 5 rfl rfl rfl rfl rfl
theorem fk_cX10_could_1 : fq_ck cX10_could 16 [42, 29, 182, 0, 210, 154, 0, 6, 18, 199, 172, 21, 4, 133, 9, 10, 184, 0] := fq_of fW_cX10_could 1 rfl rfl
theorem dX10_could_24 : decode cX10_could 24 = .ok (.ldc 199, 2) := fq_18 fk_cX10_could_1 8 rfl rfl rfl
theorem dX10_could_26 : decode cX10_could 26 = .ok (.ireturn, 1) := fq_172 fk_cX10_could_1 10 rfl rfl
theorem dX10_could_8 : decode cX10_could 8 = .ok (.aload_n 0, 1) := fq_42 fk_cX10_could_0 8 rfl rfl
theorem dX10_could_9 : decode cX10_could 9 = .ok (.iload_n 2, 1) := fq_28 fk_cX10_could_0 9 rfl rfl
theorem dX10_could_10 : decode cX10_could 10 = .ok (.invokevirtual 196, 3) := fq_182 fk_cX10_could_0 10 rfl rfl rfl rfl rfl
theorem dX10_could_13 : decode cX10_could 13 = .ok (.ifCond .eq 11, 3) := fq_153 fk_cX10_could_0 13 rfl rfl rfl rfl rfl
theorem dX10_could_16 : decode cX10_could 16 = .ok (.aload_n 0, 1) := fq_42 fk_cX10_could_1 0 rfl rfl
theorem dX10_could_17 : decode cX10_could 17 = .ok (.iload_n 3, 1) := fq_29 fk_cX10_could_1 1 rfl rfl
theorem dX10_could_18 : decode cX10_could 18 = .ok (.invokevirtual 210, 3) := fq_182 fk_cX10_could_1 2 rfl rfl rfl rfl rfl
theorem dX10_could_21 : decode cX10_could 21 = .ok (.ifCond .ne 6, 3) := fq_154 fk_cX10_could_1 5 rfl rfl rfl rfl rfl
theorem dX10_could_27 : decode cX10_could 27 = .ok (.iload 4, 2) := fq_21 fk_cX10_could_1 11 rfl rfl rfl
theorem dX10_could_29 : decode cX10_could 29 = .ok (.i2l, 1) := fq_133 fk_cX10_could_1 13 rfl rfl
theorem dX10_could_30 : decode cX10_could 30 = .ok (.lconst 0, 1) := fq_9 fk_cX10_could_1 14 rfl rfl
theorem dX10_could_31 : decode cX10_could 31 = .ok (.lconst 1, 1) := fq_10 fk_cX10_could_1 15 rfl rfl
theorem fk_cX10_could_2 : fq_ck cX10_could 32 [184, 0, 84, 154, 0, 6, 18, 93, 172, 42, 27, 28, 29, 182, 1, 4, 154, 0] := fq_of fW_cX10_could 2 rfl rfl
theorem dX10_could_32 : decode cX10_could 32 = .ok (.invokestatic 84, 3) := fq_184 fk_cX10_could_2 0 rfl rfl rfl rfl rfl
theorem dX10_could_35 : decode cX10_could 35 = .ok (.ifCond .ne 6, 3) := fq_154 fk_cX10_could_2 3 rfl rfl rfl rfl rfl
theorem dX10_could_41 : decode cX10_could 41 = .ok (.aload_n 0, 1) := fq_42 fk_cX10_could_2 9 rfl rfl
theorem dX10_could_42 : decode cX10_could 42 = .ok (.iload_n 1, 1) := fq_27 fk_cX10_could_2 10 rfl rfl
theorem dX10_could_43 : decode cX10_could 43 = .ok (.iload_n 2, 1) := fq_28 fk_cX10_could_2 11 rfl rfl
theorem dX10_could_44 : decode cX10_could 44 = .ok (.iload_n 3, 1) := fq_29 fk_cX10_could_2 12 rfl rfl
theorem dX10_could_45 : decode cX10_could 45 = .ok (.invokevirtual 260, 3) := fq_182 fk_cX10_could_2 13 rfl rfl rfl rfl rfl
theorem wd_647 : Cond.methodLink RX10 260 yX10_opens ∈ BG := BG_at5 145 (by decide +kernel) rfl
theorem wd_648 : Cond.code yX10_opens cX10_opens 4 (some .boolean) ∈ BG := BG_at5 148 rfl rfl
theorem wd_649 : Cond.instanceMethod yX10_opens ∈ BG := BG_at5 147 (by decide +kernel) rfl
theorem wd_650 : Cond.selects RX10 yX10_opens yX10_opens ∈ BG := BG_in (by decide +kernel) rfl
theorem okV_X10_opens : okV yX10_opens cX10_opens 4 (some .boolean) 3 := ⟨⟨wd_648, wd_497, by decide +kernel⟩, wd_649, wd_650⟩
theorem fk_cX10_could_3 : fq_ck cX10_could 48 [154, 0, 7, 2, 167, 0, 28, 21, 4, 154, 0, 10, 42, 180, 0, 216, 167, 0] := fq_of fW_cX10_could 3 rfl rfl
theorem dX10_could_48 : decode cX10_could 48 = .ok (.ifCond .ne 7, 3) := fq_154 fk_cX10_could_3 0 rfl rfl rfl rfl rfl
theorem dX10_could_55 : decode cX10_could 55 = .ok (.iload 4, 2) := fq_21 fk_cX10_could_3 7 rfl rfl rfl
theorem dX10_could_57 : decode cX10_could 57 = .ok (.ifCond .ne 10, 3) := fq_154 fk_cX10_could_3 9 rfl rfl rfl rfl rfl
theorem fk_cX10_could_4 : fq_ck cX10_could 64 [167, 0, 16, 42, 180, 0, 7, 3, 27, 96, 46, 42, 180, 0, 219, 100, 172] := fq_of fW_cX10_could 4 rfl rfl
theorem dX10_could_67 : decode cX10_could 67 = .ok (.aload_n 0, 1) := fq_42 fk_cX10_could_4 3 rfl rfl
theorem dX10_could_68 : decode cX10_could 68 = .ok (.getfield 7, 3) := fq_180 fk_cX10_could_4 4 rfl rfl rfl rfl rfl
theorem dX10_could_71 : decode cX10_could 71 = .ok (.iconst 0, 1) := fq_3 fk_cX10_could_4 7 rfl rfl
theorem dX10_could_72 : decode cX10_could 72 = .ok (.iload_n 1, 1) := fq_27 fk_cX10_could_4 8 rfl rfl
theorem dX10_could_73 : decode cX10_could 73 = .ok (.iadd, 1) := fq_96 fk_cX10_could_4 9 rfl rfl
theorem dX10_could_74 : decode cX10_could 74 = .ok (.iaload, 1) := fq_46 fk_cX10_could_4 10 rfl rfl
theorem dX10_could_75 : decode cX10_could 75 = .ok (.aload_n 0, 1) := fq_42 fk_cX10_could_4 11 rfl rfl
theorem dX10_could_76 : decode cX10_could 76 = .ok (.getfield 219, 3) := fq_180 fk_cX10_could_4 12 rfl rfl rfl rfl rfl
theorem dX10_could_79 : decode cX10_could 79 = .ok (.isub, 1) := fq_100 fk_cX10_could_4 15 rfl rfl
theorem fk_cX10_could_5 : fq_ck cX10_could 80 [172] := fq_of fW_cX10_could 5 rfl rfl
theorem dX10_could_80 : decode cX10_could 80 = .ok (.ireturn, 1) := fq_172 fk_cX10_could_5 0 rfl rfl
theorem dX10_could_60 : decode cX10_could 60 = .ok (.aload_n 0, 1) := fq_42 fk_cX10_could_3 12 rfl rfl
theorem dX10_could_61 : decode cX10_could 61 = .ok (.getfield 216, 3) := fq_180 fk_cX10_could_3 13 rfl rfl rfl rfl rfl
theorem dX10_could_64 : decode cX10_could 64 = .ok (.goto 16, 3) := fq_167 fk_cX10_could_4 0 rfl rfl rfl rfl rfl
theorem dX10_could_51 : decode cX10_could 51 = .ok (.iconst (-1), 1) := fq_2 fk_cX10_could_3 3 rfl rfl
theorem dX10_could_52 : decode cX10_could 52 = .ok (.goto 28, 3) := fq_167 fk_cX10_could_3 4 rfl rfl rfl rfl rfl
theorem dX10_could_38 : decode cX10_could 38 = .ok (.ldc 93, 2) := fq_18 fk_cX10_could_2 6 rfl rfl rfl
theorem dX10_could_40 : decode cX10_could 40 = .ok (.ireturn, 1) := fq_172 fk_cX10_could_2 8 rfl rfl
def fw_cX10_lastsOf : List (List Nat) := [[42, 27, 28, 42, 180, 0, 7, 3, 27, 96, 46, 19, 1, 14, 182, 0, 237, 42], [237, 42, 180, 0, 219, 154, 0, 17, 42, 180, 0, 216, 158, 0, 10, 42, 180, 0], [180, 0, 216, 167, 0, 6, 17, 3, 231, 172]]
theorem fW_cX10_lastsOf : fq_wins 3 cX10_lastsOf.data.toList = fw_cX10_lastsOf := by decide +kernel
theorem fk_cX10_lastsOf_0 : fq_ck cX10_lastsOf 0 [42, 27, 28, 42, 180, 0, 7, 3, 27, 96, 46, 19, 1, 14, 182, 0, 237, 42] := fq_of fW_cX10_lastsOf 0 rfl rfl
theorem dX10_lastsOf_0 : decode cX10_lastsOf 0 = .ok (.aload_n 0, 1) := fq_42 fk_cX10_lastsOf_0 0 rfl rfl
theorem dX10_lastsOf_1 : decode cX10_lastsOf 1 = .ok (.iload_n 1, 1) := fq_27 fk_cX10_lastsOf_0 1 rfl rfl
theorem dX10_lastsOf_2 : decode cX10_lastsOf 2 = .ok (.iload_n 2, 1) := fq_28 fk_cX10_lastsOf_0 2 rfl rfl
theorem dX10_lastsOf_3 : decode cX10_lastsOf 3 = .ok (.aload_n 0, 1) := fq_42 fk_cX10_lastsOf_0 3 rfl rfl
theorem dX10_lastsOf_4 : decode cX10_lastsOf 4 = .ok (.getfield 7, 3) := fq_180 fk_cX10_lastsOf_0 4 rfl rfl rfl rfl rfl
theorem dX10_lastsOf_7 : decode cX10_lastsOf 7 = .ok (.iconst 0, 1) := fq_3 fk_cX10_lastsOf_0 7 rfl rfl
theorem dX10_lastsOf_8 : decode cX10_lastsOf 8 = .ok (.iload_n 1, 1) := fq_27 fk_cX10_lastsOf_0 8 rfl rfl
theorem dX10_lastsOf_9 : decode cX10_lastsOf 9 = .ok (.iadd, 1) := fq_96 fk_cX10_lastsOf_0 9 rfl rfl
theorem dX10_lastsOf_10 : decode cX10_lastsOf 10 = .ok (.iaload, 1) := fq_46 fk_cX10_lastsOf_0 10 rfl rfl
theorem wd_651 : Cond.constant RX10 270 (1000000000) ∈ BG := BG_at5 165 (by decide +kernel) rfl
theorem dX10_lastsOf_11 : decode cX10_lastsOf 11 = .ok (.ldc_w 270, 3) := fq_19 fk_cX10_lastsOf_0 11 rfl rfl rfl rfl rfl
theorem dX10_lastsOf_14 : decode cX10_lastsOf 14 = .ok (.invokevirtual 237, 3) := fq_182 fk_cX10_lastsOf_0 14 rfl rfl rfl rfl rfl
theorem fk_cX10_lastsOf_1 : fq_ck cX10_lastsOf 16 [237, 42, 180, 0, 219, 154, 0, 17, 42, 180, 0, 216, 158, 0, 10, 42, 180, 0] := fq_of fW_cX10_lastsOf 1 rfl rfl
theorem dX10_lastsOf_17 : decode cX10_lastsOf 17 = .ok (.aload_n 0, 1) := fq_42 fk_cX10_lastsOf_1 1 rfl rfl
theorem dX10_lastsOf_18 : decode cX10_lastsOf 18 = .ok (.getfield 219, 3) := fq_180 fk_cX10_lastsOf_1 2 rfl rfl rfl rfl rfl
theorem dX10_lastsOf_21 : decode cX10_lastsOf 21 = .ok (.ifCond .ne 17, 3) := fq_154 fk_cX10_lastsOf_1 5 rfl rfl rfl rfl rfl
theorem fk_cX10_lastsOf_2 : fq_ck cX10_lastsOf 32 [180, 0, 216, 167, 0, 6, 17, 3, 231, 172] := fq_of fW_cX10_lastsOf 2 rfl rfl
theorem dX10_lastsOf_38 : decode cX10_lastsOf 38 = .ok (.sipush 999, 3) := fq_17 fk_cX10_lastsOf_2 6 rfl rfl rfl rfl rfl
theorem dX10_lastsOf_41 : decode cX10_lastsOf 41 = .ok (.ireturn, 1) := fq_172 fk_cX10_lastsOf_2 9 rfl rfl
theorem dX10_lastsOf_24 : decode cX10_lastsOf 24 = .ok (.aload_n 0, 1) := fq_42 fk_cX10_lastsOf_1 8 rfl rfl
theorem dX10_lastsOf_25 : decode cX10_lastsOf 25 = .ok (.getfield 216, 3) := fq_180 fk_cX10_lastsOf_1 9 rfl rfl rfl rfl rfl
theorem dX10_lastsOf_28 : decode cX10_lastsOf 28 = .ok (.ifCond .le 10, 3) := fq_158 fk_cX10_lastsOf_1 12 rfl rfl rfl rfl rfl
theorem dX10_lastsOf_31 : decode cX10_lastsOf 31 = .ok (.aload_n 0, 1) := fq_42 fk_cX10_lastsOf_1 15 rfl rfl
theorem dX10_lastsOf_32 : decode cX10_lastsOf 32 = .ok (.getfield 216, 3) := fq_180 fk_cX10_lastsOf_2 0 rfl rfl rfl rfl rfl
theorem dX10_lastsOf_35 : decode cX10_lastsOf 35 = .ok (.goto 6, 3) := fq_167 fk_cX10_lastsOf_2 3 rfl rfl rfl rfl rfl
def fw_cX10_lasts : List (List Nat) := [[42, 27, 182, 0, 204, 153, 0, 11, 42, 28, 182, 0, 210, 154, 0, 6, 18, 199], [18, 199, 172, 42, 27, 182, 0, 207, 153, 0, 8, 18, 233, 167, 0, 9, 42, 27], [42, 27, 28, 182, 1, 29, 172]]
theorem fW_cX10_lasts : fq_wins 3 cX10_lasts.data.toList = fw_cX10_lasts := by decide +kernel
theorem fk_cX10_lasts_0 : fq_ck cX10_lasts 0 [42, 27, 182, 0, 204, 153, 0, 11, 42, 28, 182, 0, 210, 154, 0, 6, 18, 199] := fq_of fW_cX10_lasts 0 rfl rfl
theorem dX10_lasts_0 : decode cX10_lasts 0 = .ok (.aload_n 0, 1) := fq_42 fk_cX10_lasts_0 0 rfl rfl
theorem dX10_lasts_1 : decode cX10_lasts 1 = .ok (.iload_n 1, 1) := fq_27 fk_cX10_lasts_0 1 rfl rfl
theorem dX10_lasts_2 : decode cX10_lasts 2 = .ok (.invokevirtual 204, 3) := fq_182 fk_cX10_lasts_0 2 rfl rfl rfl rfl rfl
theorem dX10_lasts_5 : decode cX10_lasts 5 = .ok (.ifCond .eq 11, 3) := fq_153 fk_cX10_lasts_0 5 rfl rfl rfl rfl rfl
theorem fk_cX10_lasts_1 : fq_ck cX10_lasts 16 [18, 199, 172, 42, 27, 182, 0, 207, 153, 0, 8, 18, 233, 167, 0, 9, 42, 27] := fq_of fW_cX10_lasts 1 rfl rfl
theorem dX10_lasts_16 : decode cX10_lasts 16 = .ok (.ldc 199, 2) := fq_18 fk_cX10_lasts_1 0 rfl rfl rfl
theorem dX10_lasts_18 : decode cX10_lasts 18 = .ok (.ireturn, 1) := fq_172 fk_cX10_lasts_1 2 rfl rfl
theorem dX10_lasts_8 : decode cX10_lasts 8 = .ok (.aload_n 0, 1) := fq_42 fk_cX10_lasts_0 8 rfl rfl
theorem dX10_lasts_9 : decode cX10_lasts 9 = .ok (.iload_n 2, 1) := fq_28 fk_cX10_lasts_0 9 rfl rfl
theorem dX10_lasts_10 : decode cX10_lasts 10 = .ok (.invokevirtual 210, 3) := fq_182 fk_cX10_lasts_0 10 rfl rfl rfl rfl rfl
theorem dX10_lasts_13 : decode cX10_lasts 13 = .ok (.ifCond .ne 6, 3) := fq_154 fk_cX10_lasts_0 13 rfl rfl rfl rfl rfl
theorem dX10_lasts_19 : decode cX10_lasts 19 = .ok (.aload_n 0, 1) := fq_42 fk_cX10_lasts_1 3 rfl rfl
theorem dX10_lasts_20 : decode cX10_lasts 20 = .ok (.iload_n 1, 1) := fq_27 fk_cX10_lasts_1 4 rfl rfl
theorem dX10_lasts_21 : decode cX10_lasts 21 = .ok (.invokevirtual 207, 3) := fq_182 fk_cX10_lasts_1 5 rfl rfl rfl rfl rfl
theorem dX10_lasts_24 : decode cX10_lasts 24 = .ok (.ifCond .eq 8, 3) := fq_153 fk_cX10_lasts_1 8 rfl rfl rfl rfl rfl
theorem fk_cX10_lasts_2 : fq_ck cX10_lasts 32 [42, 27, 28, 182, 1, 29, 172] := fq_of fW_cX10_lasts 2 rfl rfl
theorem dX10_lasts_32 : decode cX10_lasts 32 = .ok (.aload_n 0, 1) := fq_42 fk_cX10_lasts_2 0 rfl rfl
theorem dX10_lasts_33 : decode cX10_lasts 33 = .ok (.iload_n 1, 1) := fq_27 fk_cX10_lasts_2 1 rfl rfl
theorem dX10_lasts_34 : decode cX10_lasts 34 = .ok (.iload_n 2, 1) := fq_28 fk_cX10_lasts_2 2 rfl rfl
theorem dX10_lasts_35 : decode cX10_lasts 35 = .ok (.invokevirtual 285, 3) := fq_182 fk_cX10_lasts_2 3 rfl rfl rfl rfl rfl
theorem wd_652 : Cond.methodLink RX10 285 yX10_lastsOf ∈ BG := BG_at5 183 (by decide +kernel) rfl
theorem wd_653 : Cond.code yX10_lastsOf cX10_lastsOf 3 (some .int) ∈ BG := BG_at5 186 rfl rfl
theorem wd_654 : Cond.instanceMethod yX10_lastsOf ∈ BG := BG_at5 185 (by decide +kernel) rfl
theorem wd_655 : Cond.selects RX10 yX10_lastsOf yX10_lastsOf ∈ BG := BG_in (by decide +kernel) rfl
theorem okV_X10_lastsOf : okV yX10_lastsOf cX10_lastsOf 3 (some .int) 2 := ⟨⟨wd_653, wd_497, by decide +kernel⟩, wd_654, wd_655⟩
theorem dX10_lasts_38 : decode cX10_lasts 38 = .ok (.ireturn, 1) := fq_172 fk_cX10_lasts_2 6 rfl rfl
theorem dX10_lasts_27 : decode cX10_lasts 27 = .ok (.ldc 233, 2) := fq_18 fk_cX10_lasts_1 11 rfl rfl rfl
theorem dX10_lasts_29 : decode cX10_lasts 29 = .ok (.goto 9, 3) := fq_167 fk_cX10_lasts_1 13 rfl rfl rfl rfl rfl
def fw_cX10_best : List (List Nat) := [[2, 62, 17, 3, 231, 54, 4, 42, 17, 3, 231, 181, 1, 8, 3, 54, 5, 21], [5, 21, 5, 42, 180, 0, 17, 162, 0, 115, 42, 27, 28, 21, 5, 182, 1, 4], [1, 4, 153, 0, 98, 42, 180, 0, 7, 3, 27, 96, 46, 42, 180, 0, 219, 100], [219, 100, 54, 6, 42, 180, 0, 216, 21, 4, 161, 0, 21, 42, 180, 0, 216, 21], [216, 21, 4, 160, 0, 16, 21, 6, 42, 180, 1, 8, 162, 0, 7, 4, 167, 0], [167, 0, 4, 3, 54, 7, 21, 7, 153, 0, 8, 21, 5, 167, 0, 4, 29, 62], [29, 62, 42, 21, 7, 153, 0, 8, 21, 6, 167, 0, 7, 42, 180, 1, 8, 181], [8, 181, 1, 8, 21, 7, 153, 0, 10, 42, 180, 0, 216, 167, 0, 5, 21, 4], [21, 4, 54, 4, 132, 5, 1, 167, 255, 138, 29, 172]]
theorem fW_cX10_best : fq_wins 9 cX10_best.data.toList = fw_cX10_best := by decide +kernel
theorem fk_cX10_best_0 : fq_ck cX10_best 0 [2, 62, 17, 3, 231, 54, 4, 42, 17, 3, 231, 181, 1, 8, 3, 54, 5, 21] := fq_of fW_cX10_best 0 rfl rfl
theorem dX10_best_0 : decode cX10_best 0 = .ok (.iconst (-1), 1) := fq_2 fk_cX10_best_0 0 rfl rfl
theorem dX10_best_1 : decode cX10_best 1 = .ok (.istore_n 3, 1) := fq_62 fk_cX10_best_0 1 rfl rfl
theorem dX10_best_2 : decode cX10_best 2 = .ok (.sipush 999, 3) := fq_17 fk_cX10_best_0 2 rfl rfl rfl rfl rfl
theorem dX10_best_5 : decode cX10_best 5 = .ok (.istore 4, 2) := fq_54 fk_cX10_best_0 5 rfl rfl rfl
theorem dX10_best_7 : decode cX10_best 7 = .ok (.aload_n 0, 1) := fq_42 fk_cX10_best_0 7 rfl rfl
theorem dX10_best_8 : decode cX10_best 8 = .ok (.sipush 999, 3) := fq_17 fk_cX10_best_0 8 rfl rfl rfl rfl rfl
theorem wd_656 : Cond.fieldLink RX10 264 "QuarrelBridgesModel" "cost" "I" ∈ BG := BG_at4 98 (by decide +kernel) rfl
theorem dX10_best_11 : decode cX10_best 11 = .ok (.putfield 264, 3) := fq_181 fk_cX10_best_0 11 rfl rfl rfl rfl rfl
theorem dX10_best_14 : decode cX10_best 14 = .ok (.iconst 0, 1) := fq_3 fk_cX10_best_0 14 rfl rfl
theorem dX10_best_15 : decode cX10_best 15 = .ok (.istore 5, 2) := fq_54 fk_cX10_best_0 15 rfl rfl rfl
theorem fk_cX10_best_8 : fq_ck cX10_best 128 [21, 4, 54, 4, 132, 5, 1, 167, 255, 138, 29, 172] := fq_of fW_cX10_best 8 rfl rfl
theorem dX10_best_138 : decode cX10_best 138 = .ok (.iload_n 3, 1) := fq_29 fk_cX10_best_8 10 rfl rfl
theorem dX10_best_139 : decode cX10_best 139 = .ok (.ireturn, 1) := fq_172 fk_cX10_best_8 11 rfl rfl
theorem fk_cX10_best_1 : fq_ck cX10_best 16 [5, 21, 5, 42, 180, 0, 17, 162, 0, 115, 42, 27, 28, 21, 5, 182, 1, 4] := fq_of fW_cX10_best 1 rfl rfl
theorem dX10_best_17 : decode cX10_best 17 = .ok (.iload 5, 2) := fq_21 fk_cX10_best_1 1 rfl rfl rfl
theorem dX10_best_19 : decode cX10_best 19 = .ok (.aload_n 0, 1) := fq_42 fk_cX10_best_1 3 rfl rfl
theorem dX10_best_20 : decode cX10_best 20 = .ok (.getfield 17, 3) := fq_180 fk_cX10_best_1 4 rfl rfl rfl rfl rfl
theorem dX10_best_23 : decode cX10_best 23 = .ok (.if_icmp .ge 115, 3) := fq_162 fk_cX10_best_1 7 rfl rfl rfl rfl rfl
theorem dX10_best_26 : decode cX10_best 26 = .ok (.aload_n 0, 1) := fq_42 fk_cX10_best_1 10 rfl rfl
theorem dX10_best_27 : decode cX10_best 27 = .ok (.iload_n 1, 1) := fq_27 fk_cX10_best_1 11 rfl rfl
theorem dX10_best_28 : decode cX10_best 28 = .ok (.iload_n 2, 1) := fq_28 fk_cX10_best_1 12 rfl rfl
theorem dX10_best_29 : decode cX10_best 29 = .ok (.iload 5, 2) := fq_21 fk_cX10_best_1 13 rfl rfl rfl
theorem dX10_best_31 : decode cX10_best 31 = .ok (.invokevirtual 260, 3) := fq_182 fk_cX10_best_1 15 rfl rfl rfl rfl rfl
theorem fk_cX10_best_2 : fq_ck cX10_best 32 [1, 4, 153, 0, 98, 42, 180, 0, 7, 3, 27, 96, 46, 42, 180, 0, 219, 100] := fq_of fW_cX10_best 2 rfl rfl
theorem dX10_best_34 : decode cX10_best 34 = .ok (.ifCond .eq 98, 3) := fq_153 fk_cX10_best_2 2 rfl rfl rfl rfl rfl
theorem dX10_best_132 : decode cX10_best 132 = .ok (.iinc 5 1, 3) := fq_132 fk_cX10_best_8 4 rfl rfl rfl rfl rfl
theorem dX10_best_135 : decode cX10_best 135 = .ok (.goto (-118), 3) := fq_167 fk_cX10_best_8 7 rfl rfl rfl rfl rfl
theorem dX10_best_37 : decode cX10_best 37 = .ok (.aload_n 0, 1) := fq_42 fk_cX10_best_2 5 rfl rfl
theorem dX10_best_38 : decode cX10_best 38 = .ok (.getfield 7, 3) := fq_180 fk_cX10_best_2 6 rfl rfl rfl rfl rfl
theorem dX10_best_41 : decode cX10_best 41 = .ok (.iconst 0, 1) := fq_3 fk_cX10_best_2 9 rfl rfl
theorem dX10_best_42 : decode cX10_best 42 = .ok (.iload_n 1, 1) := fq_27 fk_cX10_best_2 10 rfl rfl
theorem dX10_best_43 : decode cX10_best 43 = .ok (.iadd, 1) := fq_96 fk_cX10_best_2 11 rfl rfl
theorem dX10_best_44 : decode cX10_best 44 = .ok (.iaload, 1) := fq_46 fk_cX10_best_2 12 rfl rfl
theorem dX10_best_45 : decode cX10_best 45 = .ok (.aload_n 0, 1) := fq_42 fk_cX10_best_2 13 rfl rfl
theorem dX10_best_46 : decode cX10_best 46 = .ok (.getfield 219, 3) := fq_180 fk_cX10_best_2 14 rfl rfl rfl rfl rfl
theorem fk_cX10_best_3 : fq_ck cX10_best 48 [219, 100, 54, 6, 42, 180, 0, 216, 21, 4, 161, 0, 21, 42, 180, 0, 216, 21] := fq_of fW_cX10_best 3 rfl rfl
theorem dX10_best_49 : decode cX10_best 49 = .ok (.isub, 1) := fq_100 fk_cX10_best_3 1 rfl rfl
theorem dX10_best_50 : decode cX10_best 50 = .ok (.istore 6, 2) := fq_54 fk_cX10_best_3 2 rfl rfl rfl
theorem dX10_best_52 : decode cX10_best 52 = .ok (.aload_n 0, 1) := fq_42 fk_cX10_best_3 4 rfl rfl
theorem dX10_best_53 : decode cX10_best 53 = .ok (.getfield 216, 3) := fq_180 fk_cX10_best_3 5 rfl rfl rfl rfl rfl
theorem dX10_best_56 : decode cX10_best 56 = .ok (.iload 4, 2) := fq_21 fk_cX10_best_3 8 rfl rfl rfl
theorem dX10_best_58 : decode cX10_best 58 = .ok (.if_icmp .lt 21, 3) := fq_161 fk_cX10_best_3 10 rfl rfl rfl rfl rfl
theorem fk_cX10_best_4 : fq_ck cX10_best 64 [216, 21, 4, 160, 0, 16, 21, 6, 42, 180, 1, 8, 162, 0, 7, 4, 167, 0] := fq_of fW_cX10_best 4 rfl rfl
theorem dX10_best_79 : decode cX10_best 79 = .ok (.iconst 1, 1) := fq_4 fk_cX10_best_4 15 rfl rfl
theorem fk_cX10_best_5 : fq_ck cX10_best 80 [167, 0, 4, 3, 54, 7, 21, 7, 153, 0, 8, 21, 5, 167, 0, 4, 29, 62] := fq_of fW_cX10_best 5 rfl rfl
theorem dX10_best_80 : decode cX10_best 80 = .ok (.goto 4, 3) := fq_167 fk_cX10_best_5 0 rfl rfl rfl rfl rfl
theorem dX10_best_84 : decode cX10_best 84 = .ok (.istore 7, 2) := fq_54 fk_cX10_best_5 4 rfl rfl rfl
theorem dX10_best_86 : decode cX10_best 86 = .ok (.iload 7, 2) := fq_21 fk_cX10_best_5 6 rfl rfl rfl
theorem dX10_best_88 : decode cX10_best 88 = .ok (.ifCond .eq 8, 3) := fq_153 fk_cX10_best_5 8 rfl rfl rfl rfl rfl
theorem dX10_best_91 : decode cX10_best 91 = .ok (.iload 5, 2) := fq_21 fk_cX10_best_5 11 rfl rfl rfl
theorem dX10_best_93 : decode cX10_best 93 = .ok (.goto 4, 3) := fq_167 fk_cX10_best_5 13 rfl rfl rfl rfl rfl
theorem fk_cX10_best_6 : fq_ck cX10_best 96 [29, 62, 42, 21, 7, 153, 0, 8, 21, 6, 167, 0, 7, 42, 180, 1, 8, 181] := fq_of fW_cX10_best 6 rfl rfl
theorem dX10_best_97 : decode cX10_best 97 = .ok (.istore_n 3, 1) := fq_62 fk_cX10_best_6 1 rfl rfl
theorem dX10_best_98 : decode cX10_best 98 = .ok (.aload_n 0, 1) := fq_42 fk_cX10_best_6 2 rfl rfl
theorem dX10_best_99 : decode cX10_best 99 = .ok (.iload 7, 2) := fq_21 fk_cX10_best_6 3 rfl rfl rfl
theorem dX10_best_101 : decode cX10_best 101 = .ok (.ifCond .eq 8, 3) := fq_153 fk_cX10_best_6 5 rfl rfl rfl rfl rfl
theorem dX10_best_104 : decode cX10_best 104 = .ok (.iload 6, 2) := fq_21 fk_cX10_best_6 8 rfl rfl rfl
theorem dX10_best_106 : decode cX10_best 106 = .ok (.goto 7, 3) := fq_167 fk_cX10_best_6 10 rfl rfl rfl rfl rfl
theorem fk_cX10_best_7 : fq_ck cX10_best 112 [8, 181, 1, 8, 21, 7, 153, 0, 10, 42, 180, 0, 216, 167, 0, 5, 21, 4] := fq_of fW_cX10_best 7 rfl rfl
theorem dX10_best_113 : decode cX10_best 113 = .ok (.putfield 264, 3) := fq_181 fk_cX10_best_7 1 rfl rfl rfl rfl rfl
theorem dX10_best_116 : decode cX10_best 116 = .ok (.iload 7, 2) := fq_21 fk_cX10_best_7 4 rfl rfl rfl
theorem dX10_best_118 : decode cX10_best 118 = .ok (.ifCond .eq 10, 3) := fq_153 fk_cX10_best_7 6 rfl rfl rfl rfl rfl
theorem dX10_best_121 : decode cX10_best 121 = .ok (.aload_n 0, 1) := fq_42 fk_cX10_best_7 9 rfl rfl
theorem dX10_best_122 : decode cX10_best 122 = .ok (.getfield 216, 3) := fq_180 fk_cX10_best_7 10 rfl rfl rfl rfl rfl
theorem dX10_best_125 : decode cX10_best 125 = .ok (.goto 5, 3) := fq_167 fk_cX10_best_7 13 rfl rfl rfl rfl rfl
theorem dX10_best_130 : decode cX10_best 130 = .ok (.istore 4, 2) := fq_54 fk_cX10_best_8 2 rfl rfl rfl
theorem dX10_best_61 : decode cX10_best 61 = .ok (.aload_n 0, 1) := fq_42 fk_cX10_best_3 13 rfl rfl
theorem dX10_best_62 : decode cX10_best 62 = .ok (.getfield 216, 3) := fq_180 fk_cX10_best_3 14 rfl rfl rfl rfl rfl
theorem dX10_best_65 : decode cX10_best 65 = .ok (.iload 4, 2) := fq_21 fk_cX10_best_4 1 rfl rfl rfl
theorem dX10_best_67 : decode cX10_best 67 = .ok (.if_icmp .ne 16, 3) := fq_160 fk_cX10_best_4 3 rfl rfl rfl rfl rfl
theorem dX10_best_83 : decode cX10_best 83 = .ok (.iconst 0, 1) := fq_3 fk_cX10_best_5 3 rfl rfl
theorem dX10_best_96 : decode cX10_best 96 = .ok (.iload_n 3, 1) := fq_29 fk_cX10_best_6 0 rfl rfl
theorem dX10_best_109 : decode cX10_best 109 = .ok (.aload_n 0, 1) := fq_42 fk_cX10_best_6 13 rfl rfl
theorem dX10_best_110 : decode cX10_best 110 = .ok (.getfield 264, 3) := fq_180 fk_cX10_best_6 14 rfl rfl rfl rfl rfl
theorem dX10_best_128 : decode cX10_best 128 = .ok (.iload 4, 2) := fq_21 fk_cX10_best_8 0 rfl rfl rfl
theorem dX10_best_70 : decode cX10_best 70 = .ok (.iload 6, 2) := fq_21 fk_cX10_best_4 6 rfl rfl rfl
theorem dX10_best_72 : decode cX10_best 72 = .ok (.aload_n 0, 1) := fq_42 fk_cX10_best_4 8 rfl rfl
theorem dX10_best_73 : decode cX10_best 73 = .ok (.getfield 264, 3) := fq_180 fk_cX10_best_4 9 rfl rfl rfl rfl rfl
theorem dX10_best_76 : decode cX10_best 76 = .ok (.if_icmp .ge 7, 3) := fq_162 fk_cX10_best_4 12 rfl rfl rfl rfl rfl
def fw_cX10_bestTheme : List (List Nat) := [[42, 27, 182, 0, 204, 153, 0, 20, 42, 28, 182, 0, 196, 153, 0, 12, 42, 27], [42, 27, 28, 182, 1, 11, 167, 0, 5, 18, 199, 172]]
theorem fW_cX10_bestTheme : fq_wins 2 cX10_bestTheme.data.toList = fw_cX10_bestTheme := by decide +kernel
theorem fk_cX10_bestTheme_0 : fq_ck cX10_bestTheme 0 [42, 27, 182, 0, 204, 153, 0, 20, 42, 28, 182, 0, 196, 153, 0, 12, 42, 27] := fq_of fW_cX10_bestTheme 0 rfl rfl
theorem dX10_bestTheme_0 : decode cX10_bestTheme 0 = .ok (.aload_n 0, 1) := fq_42 fk_cX10_bestTheme_0 0 rfl rfl
theorem dX10_bestTheme_1 : decode cX10_bestTheme 1 = .ok (.iload_n 1, 1) := fq_27 fk_cX10_bestTheme_0 1 rfl rfl
theorem dX10_bestTheme_2 : decode cX10_bestTheme 2 = .ok (.invokevirtual 204, 3) := fq_182 fk_cX10_bestTheme_0 2 rfl rfl rfl rfl rfl
theorem dX10_bestTheme_5 : decode cX10_bestTheme 5 = .ok (.ifCond .eq 20, 3) := fq_153 fk_cX10_bestTheme_0 5 rfl rfl rfl rfl rfl
theorem fk_cX10_bestTheme_1 : fq_ck cX10_bestTheme 16 [42, 27, 28, 182, 1, 11, 167, 0, 5, 18, 199, 172] := fq_of fW_cX10_bestTheme 1 rfl rfl
theorem dX10_bestTheme_25 : decode cX10_bestTheme 25 = .ok (.ldc 199, 2) := fq_18 fk_cX10_bestTheme_1 9 rfl rfl rfl
theorem dX10_bestTheme_27 : decode cX10_bestTheme 27 = .ok (.ireturn, 1) := fq_172 fk_cX10_bestTheme_1 11 rfl rfl
theorem dX10_bestTheme_8 : decode cX10_bestTheme 8 = .ok (.aload_n 0, 1) := fq_42 fk_cX10_bestTheme_0 8 rfl rfl
theorem dX10_bestTheme_9 : decode cX10_bestTheme 9 = .ok (.iload_n 2, 1) := fq_28 fk_cX10_bestTheme_0 9 rfl rfl
theorem dX10_bestTheme_10 : decode cX10_bestTheme 10 = .ok (.invokevirtual 196, 3) := fq_182 fk_cX10_bestTheme_0 10 rfl rfl rfl rfl rfl
theorem dX10_bestTheme_13 : decode cX10_bestTheme 13 = .ok (.ifCond .eq 12, 3) := fq_153 fk_cX10_bestTheme_0 13 rfl rfl rfl rfl rfl
theorem dX10_bestTheme_16 : decode cX10_bestTheme 16 = .ok (.aload_n 0, 1) := fq_42 fk_cX10_bestTheme_1 0 rfl rfl
theorem dX10_bestTheme_17 : decode cX10_bestTheme 17 = .ok (.iload_n 1, 1) := fq_27 fk_cX10_bestTheme_1 1 rfl rfl
theorem dX10_bestTheme_18 : decode cX10_bestTheme 18 = .ok (.iload_n 2, 1) := fq_28 fk_cX10_bestTheme_1 2 rfl rfl
theorem dX10_bestTheme_19 : decode cX10_bestTheme 19 = .ok (.invokevirtual 267, 3) := fq_182 fk_cX10_bestTheme_1 3 rfl rfl rfl rfl rfl
theorem wd_657 : Cond.methodLink RX10 267 yX10_best ∈ BG := BG_at5 153 (by decide +kernel) rfl
theorem wd_658 : Cond.code yX10_best cX10_best 8 (some .int) ∈ BG := BG_at5 156 rfl rfl
theorem wd_659 : Cond.instanceMethod yX10_best ∈ BG := BG_at5 155 (by decide +kernel) rfl
theorem wd_660 : Cond.selects RX10 yX10_best yX10_best ∈ BG := BG_in (by decide +kernel) rfl
theorem okV_X10_best : okV yX10_best cX10_best 8 (some .int) 2 := ⟨⟨wd_658, wd_497, by decide +kernel⟩, wd_659, wd_660⟩
theorem dX10_bestTheme_22 : decode cX10_bestTheme 22 = .ok (.goto 5, 3) := fq_167 fk_cX10_bestTheme_1 6 rfl rfl rfl rfl rfl
def fw_cX10_carried : List (List Nat) := [[27, 2, 159, 0, 14, 42, 27, 182, 0, 196, 154, 0, 6, 18, 199, 172, 42, 3], [42, 3, 3, 182, 0, 200, 61, 28, 2, 160, 0, 6, 18, 233, 172, 42, 28, 42], [28, 42, 180, 0, 7, 16, 12, 28, 96, 46, 42, 180, 0, 7, 3, 28, 96, 46], [96, 46, 182, 0, 222, 62, 2, 54, 4, 3, 54, 5, 4, 54, 6, 21, 6, 42], [6, 42, 180, 0, 81, 162, 0, 61, 29, 154, 0, 14, 21, 4, 2, 160, 0, 8], [0, 8, 21, 6, 167, 0, 5, 21, 4, 54, 4, 21, 6, 27, 160, 0, 7, 29], [7, 29, 167, 0, 5, 21, 5, 54, 5, 42, 3, 21, 6, 182, 0, 200, 2, 160], [2, 160, 0, 7, 29, 167, 0, 6, 29, 5, 108, 62, 132, 6, 1, 167, 255, 192], [255, 192, 27, 2, 160, 0, 8, 21, 4, 167, 0, 5, 21, 5, 172]]
theorem fW_cX10_carried : fq_wins 9 cX10_carried.data.toList = fw_cX10_carried := by decide +kernel
theorem fk_cX10_carried_0 : fq_ck cX10_carried 0 [27, 2, 159, 0, 14, 42, 27, 182, 0, 196, 154, 0, 6, 18, 199, 172, 42, 3] := fq_of fW_cX10_carried 0 rfl rfl
theorem dX10_carried_0 : decode cX10_carried 0 = .ok (.iload_n 1, 1) := fq_27 fk_cX10_carried_0 0 rfl rfl
theorem dX10_carried_1 : decode cX10_carried 1 = .ok (.iconst (-1), 1) := fq_2 fk_cX10_carried_0 1 rfl rfl
theorem dX10_carried_2 : decode cX10_carried 2 = .ok (.if_icmp .eq 14, 3) := fq_159 fk_cX10_carried_0 2 rfl rfl rfl rfl rfl
theorem fk_cX10_carried_1 : fq_ck cX10_carried 16 [42, 3, 3, 182, 0, 200, 61, 28, 2, 160, 0, 6, 18, 233, 172, 42, 28, 42] := fq_of fW_cX10_carried 1 rfl rfl
theorem dX10_carried_16 : decode cX10_carried 16 = .ok (.aload_n 0, 1) := fq_42 fk_cX10_carried_1 0 rfl rfl
theorem dX10_carried_17 : decode cX10_carried 17 = .ok (.iconst 0, 1) := fq_3 fk_cX10_carried_1 1 rfl rfl
theorem dX10_carried_18 : decode cX10_carried 18 = .ok (.iconst 0, 1) := fq_3 fk_cX10_carried_1 2 rfl rfl
theorem dX10_carried_19 : decode cX10_carried 19 = .ok (.invokevirtual 200, 3) := fq_182 fk_cX10_carried_1 3 rfl rfl rfl rfl rfl
theorem dX10_carried_22 : decode cX10_carried 22 = .ok (.istore_n 2, 1) := fq_61 fk_cX10_carried_1 6 rfl rfl
theorem dX10_carried_23 : decode cX10_carried 23 = .ok (.iload_n 2, 1) := fq_28 fk_cX10_carried_1 7 rfl rfl
theorem dX10_carried_24 : decode cX10_carried 24 = .ok (.iconst (-1), 1) := fq_2 fk_cX10_carried_1 8 rfl rfl
theorem dX10_carried_25 : decode cX10_carried 25 = .ok (.if_icmp .ne 6, 3) := fq_160 fk_cX10_carried_1 9 rfl rfl rfl rfl rfl
theorem dX10_carried_31 : decode cX10_carried 31 = .ok (.aload_n 0, 1) := fq_42 fk_cX10_carried_1 15 rfl rfl
theorem fk_cX10_carried_2 : fq_ck cX10_carried 32 [28, 42, 180, 0, 7, 16, 12, 28, 96, 46, 42, 180, 0, 7, 3, 28, 96, 46] := fq_of fW_cX10_carried 2 rfl rfl
theorem dX10_carried_32 : decode cX10_carried 32 = .ok (.iload_n 2, 1) := fq_28 fk_cX10_carried_2 0 rfl rfl
theorem dX10_carried_33 : decode cX10_carried 33 = .ok (.aload_n 0, 1) := fq_42 fk_cX10_carried_2 1 rfl rfl
theorem dX10_carried_34 : decode cX10_carried 34 = .ok (.getfield 7, 3) := fq_180 fk_cX10_carried_2 2 rfl rfl rfl rfl rfl
theorem dX10_carried_37 : decode cX10_carried 37 = .ok (.bipush 12, 2) := fq_16 fk_cX10_carried_2 5 rfl rfl rfl rfl
theorem dX10_carried_39 : decode cX10_carried 39 = .ok (.iload_n 2, 1) := fq_28 fk_cX10_carried_2 7 rfl rfl
theorem dX10_carried_40 : decode cX10_carried 40 = .ok (.iadd, 1) := fq_96 fk_cX10_carried_2 8 rfl rfl
theorem dX10_carried_41 : decode cX10_carried 41 = .ok (.iaload, 1) := fq_46 fk_cX10_carried_2 9 rfl rfl
theorem dX10_carried_42 : decode cX10_carried 42 = .ok (.aload_n 0, 1) := fq_42 fk_cX10_carried_2 10 rfl rfl
theorem dX10_carried_43 : decode cX10_carried 43 = .ok (.getfield 7, 3) := fq_180 fk_cX10_carried_2 11 rfl rfl rfl rfl rfl
theorem dX10_carried_46 : decode cX10_carried 46 = .ok (.iconst 0, 1) := fq_3 fk_cX10_carried_2 14 rfl rfl
theorem dX10_carried_47 : decode cX10_carried 47 = .ok (.iload_n 2, 1) := fq_28 fk_cX10_carried_2 15 rfl rfl
theorem fk_cX10_carried_3 : fq_ck cX10_carried 48 [96, 46, 182, 0, 222, 62, 2, 54, 4, 3, 54, 5, 4, 54, 6, 21, 6, 42] := fq_of fW_cX10_carried 3 rfl rfl
theorem dX10_carried_48 : decode cX10_carried 48 = .ok (.iadd, 1) := fq_96 fk_cX10_carried_3 0 rfl rfl
theorem dX10_carried_49 : decode cX10_carried 49 = .ok (.iaload, 1) := fq_46 fk_cX10_carried_3 1 rfl rfl
theorem dX10_carried_50 : decode cX10_carried 50 = .ok (.invokevirtual 222, 3) := fq_182 fk_cX10_carried_3 2 rfl rfl rfl rfl rfl
theorem dX10_carried_53 : decode cX10_carried 53 = .ok (.istore_n 3, 1) := fq_62 fk_cX10_carried_3 5 rfl rfl
theorem dX10_carried_54 : decode cX10_carried 54 = .ok (.iconst (-1), 1) := fq_2 fk_cX10_carried_3 6 rfl rfl
theorem dX10_carried_55 : decode cX10_carried 55 = .ok (.istore 4, 2) := fq_54 fk_cX10_carried_3 7 rfl rfl rfl
theorem dX10_carried_57 : decode cX10_carried 57 = .ok (.iconst 0, 1) := fq_3 fk_cX10_carried_3 9 rfl rfl
theorem dX10_carried_58 : decode cX10_carried 58 = .ok (.istore 5, 2) := fq_54 fk_cX10_carried_3 10 rfl rfl rfl
theorem dX10_carried_60 : decode cX10_carried 60 = .ok (.iconst 1, 1) := fq_4 fk_cX10_carried_3 12 rfl rfl
theorem dX10_carried_61 : decode cX10_carried 61 = .ok (.istore 6, 2) := fq_54 fk_cX10_carried_3 13 rfl rfl rfl
theorem fk_cX10_carried_8 : fq_ck cX10_carried 128 [255, 192, 27, 2, 160, 0, 8, 21, 4, 167, 0, 5, 21, 5, 172] := fq_of fW_cX10_carried 8 rfl rfl
theorem dX10_carried_130 : decode cX10_carried 130 = .ok (.iload_n 1, 1) := fq_27 fk_cX10_carried_8 2 rfl rfl
theorem dX10_carried_131 : decode cX10_carried 131 = .ok (.iconst (-1), 1) := fq_2 fk_cX10_carried_8 3 rfl rfl
theorem dX10_carried_132 : decode cX10_carried 132 = .ok (.if_icmp .ne 8, 3) := fq_160 fk_cX10_carried_8 4 rfl rfl rfl rfl rfl
theorem dX10_carried_140 : decode cX10_carried 140 = .ok (.iload 5, 2) := fq_21 fk_cX10_carried_8 12 rfl rfl rfl
theorem dX10_carried_142 : decode cX10_carried 142 = .ok (.ireturn, 1) := fq_172 fk_cX10_carried_8 14 rfl rfl
theorem dX10_carried_135 : decode cX10_carried 135 = .ok (.iload 4, 2) := fq_21 fk_cX10_carried_8 7 rfl rfl rfl
theorem dX10_carried_137 : decode cX10_carried 137 = .ok (.goto 5, 3) := fq_167 fk_cX10_carried_8 9 rfl rfl rfl rfl rfl
theorem dX10_carried_63 : decode cX10_carried 63 = .ok (.iload 6, 2) := fq_21 fk_cX10_carried_3 15 rfl rfl rfl
theorem fk_cX10_carried_4 : fq_ck cX10_carried 64 [6, 42, 180, 0, 81, 162, 0, 61, 29, 154, 0, 14, 21, 4, 2, 160, 0, 8] := fq_of fW_cX10_carried 4 rfl rfl
theorem dX10_carried_65 : decode cX10_carried 65 = .ok (.aload_n 0, 1) := fq_42 fk_cX10_carried_4 1 rfl rfl
theorem dX10_carried_66 : decode cX10_carried 66 = .ok (.getfield 81, 3) := fq_180 fk_cX10_carried_4 2 rfl rfl rfl rfl rfl
theorem dX10_carried_69 : decode cX10_carried 69 = .ok (.if_icmp .ge 61, 3) := fq_162 fk_cX10_carried_4 5 rfl rfl rfl rfl rfl
theorem dX10_carried_72 : decode cX10_carried 72 = .ok (.iload_n 3, 1) := fq_29 fk_cX10_carried_4 8 rfl rfl
theorem dX10_carried_73 : decode cX10_carried 73 = .ok (.ifCond .ne 14, 3) := fq_154 fk_cX10_carried_4 9 rfl rfl rfl rfl rfl
theorem fk_cX10_carried_5 : fq_ck cX10_carried 80 [0, 8, 21, 6, 167, 0, 5, 21, 4, 54, 4, 21, 6, 27, 160, 0, 7, 29] := fq_of fW_cX10_carried 5 rfl rfl
theorem dX10_carried_87 : decode cX10_carried 87 = .ok (.iload 4, 2) := fq_21 fk_cX10_carried_5 7 rfl rfl rfl
theorem dX10_carried_89 : decode cX10_carried 89 = .ok (.istore 4, 2) := fq_54 fk_cX10_carried_5 9 rfl rfl rfl
theorem dX10_carried_91 : decode cX10_carried 91 = .ok (.iload 6, 2) := fq_21 fk_cX10_carried_5 11 rfl rfl rfl
theorem dX10_carried_93 : decode cX10_carried 93 = .ok (.iload_n 1, 1) := fq_27 fk_cX10_carried_5 13 rfl rfl
theorem dX10_carried_94 : decode cX10_carried 94 = .ok (.if_icmp .ne 7, 3) := fq_160 fk_cX10_carried_5 14 rfl rfl rfl rfl rfl
theorem fk_cX10_carried_6 : fq_ck cX10_carried 96 [7, 29, 167, 0, 5, 21, 5, 54, 5, 42, 3, 21, 6, 182, 0, 200, 2, 160] := fq_of fW_cX10_carried 6 rfl rfl
theorem dX10_carried_101 : decode cX10_carried 101 = .ok (.iload 5, 2) := fq_21 fk_cX10_carried_6 5 rfl rfl rfl
theorem dX10_carried_103 : decode cX10_carried 103 = .ok (.istore 5, 2) := fq_54 fk_cX10_carried_6 7 rfl rfl rfl
theorem dX10_carried_105 : decode cX10_carried 105 = .ok (.aload_n 0, 1) := fq_42 fk_cX10_carried_6 9 rfl rfl
theorem dX10_carried_106 : decode cX10_carried 106 = .ok (.iconst 0, 1) := fq_3 fk_cX10_carried_6 10 rfl rfl
theorem dX10_carried_107 : decode cX10_carried 107 = .ok (.iload 6, 2) := fq_21 fk_cX10_carried_6 11 rfl rfl rfl
theorem dX10_carried_109 : decode cX10_carried 109 = .ok (.invokevirtual 200, 3) := fq_182 fk_cX10_carried_6 13 rfl rfl rfl rfl rfl
theorem fk_cX10_carried_7 : fq_ck cX10_carried 112 [2, 160, 0, 7, 29, 167, 0, 6, 29, 5, 108, 62, 132, 6, 1, 167, 255, 192] := fq_of fW_cX10_carried 7 rfl rfl
theorem dX10_carried_112 : decode cX10_carried 112 = .ok (.iconst (-1), 1) := fq_2 fk_cX10_carried_7 0 rfl rfl
theorem dX10_carried_113 : decode cX10_carried 113 = .ok (.if_icmp .ne 7, 3) := fq_160 fk_cX10_carried_7 1 rfl rfl rfl rfl rfl
theorem dX10_carried_120 : decode cX10_carried 120 = .ok (.iload_n 3, 1) := fq_29 fk_cX10_carried_7 8 rfl rfl
theorem dX10_carried_121 : decode cX10_carried 121 = .ok (.iconst 2, 1) := fq_5 fk_cX10_carried_7 9 rfl rfl
theorem dX10_carried_122 : decode cX10_carried 122 = .ok (.idiv, 1) := fq_108 fk_cX10_carried_7 10 rfl rfl
theorem dX10_carried_123 : decode cX10_carried 123 = .ok (.istore_n 3, 1) := fq_62 fk_cX10_carried_7 11 rfl rfl
theorem dX10_carried_124 : decode cX10_carried 124 = .ok (.iinc 6 1, 3) := fq_132 fk_cX10_carried_7 12 rfl rfl rfl rfl rfl
theorem dX10_carried_127 : decode cX10_carried 127 = .ok (.goto (-64), 3) := fq_167 fk_cX10_carried_7 15 rfl rfl rfl rfl rfl
theorem dX10_carried_116 : decode cX10_carried 116 = .ok (.iload_n 3, 1) := fq_29 fk_cX10_carried_7 4 rfl rfl
theorem dX10_carried_117 : decode cX10_carried 117 = .ok (.goto 6, 3) := fq_167 fk_cX10_carried_7 5 rfl rfl rfl rfl rfl
theorem dX10_carried_97 : decode cX10_carried 97 = .ok (.iload_n 3, 1) := fq_29 fk_cX10_carried_6 1 rfl rfl
theorem dX10_carried_98 : decode cX10_carried 98 = .ok (.goto 5, 3) := fq_167 fk_cX10_carried_6 2 rfl rfl rfl rfl rfl
theorem dX10_carried_76 : decode cX10_carried 76 = .ok (.iload 4, 2) := fq_21 fk_cX10_carried_4 12 rfl rfl rfl
theorem dX10_carried_78 : decode cX10_carried 78 = .ok (.iconst (-1), 1) := fq_2 fk_cX10_carried_4 14 rfl rfl
theorem dX10_carried_79 : decode cX10_carried 79 = .ok (.if_icmp .ne 8, 3) := fq_160 fk_cX10_carried_4 15 rfl rfl rfl rfl rfl
theorem dX10_carried_82 : decode cX10_carried 82 = .ok (.iload 6, 2) := fq_21 fk_cX10_carried_5 2 rfl rfl rfl
theorem dX10_carried_84 : decode cX10_carried 84 = .ok (.goto 5, 3) := fq_167 fk_cX10_carried_5 4 rfl rfl rfl rfl rfl
theorem dX10_carried_28 : decode cX10_carried 28 = .ok (.ldc 233, 2) := fq_18 fk_cX10_carried_1 12 rfl rfl rfl
theorem dX10_carried_30 : decode cX10_carried 30 = .ok (.ireturn, 1) := fq_172 fk_cX10_carried_1 14 rfl rfl
theorem dX10_carried_5 : decode cX10_carried 5 = .ok (.aload_n 0, 1) := fq_42 fk_cX10_carried_0 5 rfl rfl
theorem dX10_carried_6 : decode cX10_carried 6 = .ok (.iload_n 1, 1) := fq_27 fk_cX10_carried_0 6 rfl rfl
theorem dX10_carried_7 : decode cX10_carried 7 = .ok (.invokevirtual 196, 3) := fq_182 fk_cX10_carried_0 7 rfl rfl rfl rfl rfl
theorem dX10_carried_10 : decode cX10_carried 10 = .ok (.ifCond .ne 6, 3) := fq_154 fk_cX10_carried_0 10 rfl rfl rfl rfl rfl
theorem dX10_carried_13 : decode cX10_carried 13 = .ok (.ldc 199, 2) := fq_18 fk_cX10_carried_0 13 rfl rfl rfl
theorem dX10_carried_15 : decode cX10_carried 15 = .ok (.ireturn, 1) := fq_172 fk_cX10_carried_0 15 rfl rfl
def fw_cX10_midstream : List (List Nat) := [[42, 27, 182, 0, 204, 154, 0, 6, 18, 199, 172, 28, 133, 9, 20, 0, 245, 184], [245, 184, 0, 84, 153, 0, 15, 29, 133, 9, 20, 1, 32, 184, 0, 84, 154, 0], [154, 0, 6, 18, 93, 172, 29, 42, 180, 0, 7, 3, 27, 96, 46, 164, 0, 16], [0, 16, 29, 42, 180, 0, 7, 3, 27, 96, 46, 100, 167, 0, 4, 3, 54, 4], [54, 4, 20, 1, 34, 55, 5, 3, 54, 7, 21, 7, 28, 162, 0, 25, 22, 5], [22, 5, 17, 3, 232, 21, 4, 100, 133, 105, 20, 1, 32, 109, 55, 5, 132, 7], [132, 7, 1, 167, 255, 231, 22, 5, 136, 172]]
theorem fW_cX10_midstream : fq_wins 7 cX10_midstream.data.toList = fw_cX10_midstream := by decide +kernel
theorem fk_cX10_midstream_0 : fq_ck cX10_midstream 0 [42, 27, 182, 0, 204, 154, 0, 6, 18, 199, 172, 28, 133, 9, 20, 0, 245, 184] := fq_of fW_cX10_midstream 0 rfl rfl
theorem dX10_midstream_0 : decode cX10_midstream 0 = .ok (.aload_n 0, 1) := fq_42 fk_cX10_midstream_0 0 rfl rfl
theorem dX10_midstream_1 : decode cX10_midstream 1 = .ok (.iload_n 1, 1) := fq_27 fk_cX10_midstream_0 1 rfl rfl
theorem dX10_midstream_2 : decode cX10_midstream 2 = .ok (.invokevirtual 204, 3) := fq_182 fk_cX10_midstream_0 2 rfl rfl rfl rfl rfl
theorem dX10_midstream_5 : decode cX10_midstream 5 = .ok (.ifCond .ne 6, 3) := fq_154 fk_cX10_midstream_0 5 rfl rfl rfl rfl rfl
theorem dX10_midstream_11 : decode cX10_midstream 11 = .ok (.iload_n 2, 1) := fq_28 fk_cX10_midstream_0 11 rfl rfl
theorem dX10_midstream_12 : decode cX10_midstream 12 = .ok (.i2l, 1) := fq_133 fk_cX10_midstream_0 12 rfl rfl
theorem dX10_midstream_13 : decode cX10_midstream 13 = .ok (.lconst 0, 1) := fq_9 fk_cX10_midstream_0 13 rfl rfl
theorem dX10_midstream_14 : decode cX10_midstream 14 = .ok (.ldc2_w 245, 3) := fq_20 fk_cX10_midstream_0 14 rfl rfl rfl rfl rfl
theorem fk_cX10_midstream_1 : fq_ck cX10_midstream 16 [245, 184, 0, 84, 153, 0, 15, 29, 133, 9, 20, 1, 32, 184, 0, 84, 154, 0] := fq_of fW_cX10_midstream 1 rfl rfl
theorem dX10_midstream_17 : decode cX10_midstream 17 = .ok (.invokestatic 84, 3) := fq_184 fk_cX10_midstream_1 1 rfl rfl rfl rfl rfl
theorem dX10_midstream_20 : decode cX10_midstream 20 = .ok (.ifCond .eq 15, 3) := fq_153 fk_cX10_midstream_1 4 rfl rfl rfl rfl rfl
theorem fk_cX10_midstream_2 : fq_ck cX10_midstream 32 [154, 0, 6, 18, 93, 172, 29, 42, 180, 0, 7, 3, 27, 96, 46, 164, 0, 16] := fq_of fW_cX10_midstream 2 rfl rfl
theorem dX10_midstream_35 : decode cX10_midstream 35 = .ok (.ldc 93, 2) := fq_18 fk_cX10_midstream_2 3 rfl rfl rfl
theorem dX10_midstream_37 : decode cX10_midstream 37 = .ok (.ireturn, 1) := fq_172 fk_cX10_midstream_2 5 rfl rfl
theorem dX10_midstream_23 : decode cX10_midstream 23 = .ok (.iload_n 3, 1) := fq_29 fk_cX10_midstream_1 7 rfl rfl
theorem dX10_midstream_24 : decode cX10_midstream 24 = .ok (.i2l, 1) := fq_133 fk_cX10_midstream_1 8 rfl rfl
theorem dX10_midstream_25 : decode cX10_midstream 25 = .ok (.lconst 0, 1) := fq_9 fk_cX10_midstream_1 9 rfl rfl
theorem wd_661 : Cond.constantLong RX10 288 (1000) ∈ BG := BG_at5 203 (by decide +kernel) rfl
theorem dX10_midstream_26 : decode cX10_midstream 26 = .ok (.ldc2_w 288, 3) := fq_20 fk_cX10_midstream_1 10 rfl rfl rfl rfl rfl
theorem dX10_midstream_29 : decode cX10_midstream 29 = .ok (.invokestatic 84, 3) := fq_184 fk_cX10_midstream_1 13 rfl rfl rfl rfl rfl
theorem dX10_midstream_32 : decode cX10_midstream 32 = .ok (.ifCond .ne 6, 3) := fq_154 fk_cX10_midstream_2 0 rfl rfl rfl rfl rfl
theorem dX10_midstream_38 : decode cX10_midstream 38 = .ok (.iload_n 3, 1) := fq_29 fk_cX10_midstream_2 6 rfl rfl
theorem dX10_midstream_39 : decode cX10_midstream 39 = .ok (.aload_n 0, 1) := fq_42 fk_cX10_midstream_2 7 rfl rfl
theorem dX10_midstream_40 : decode cX10_midstream 40 = .ok (.getfield 7, 3) := fq_180 fk_cX10_midstream_2 8 rfl rfl rfl rfl rfl
theorem dX10_midstream_43 : decode cX10_midstream 43 = .ok (.iconst 0, 1) := fq_3 fk_cX10_midstream_2 11 rfl rfl
theorem dX10_midstream_44 : decode cX10_midstream 44 = .ok (.iload_n 1, 1) := fq_27 fk_cX10_midstream_2 12 rfl rfl
theorem dX10_midstream_45 : decode cX10_midstream 45 = .ok (.iadd, 1) := fq_96 fk_cX10_midstream_2 13 rfl rfl
theorem dX10_midstream_46 : decode cX10_midstream 46 = .ok (.iaload, 1) := fq_46 fk_cX10_midstream_2 14 rfl rfl
theorem dX10_midstream_47 : decode cX10_midstream 47 = .ok (.if_icmp .le 16, 3) := fq_164 fk_cX10_midstream_2 15 rfl rfl rfl rfl rfl
theorem fk_cX10_midstream_3 : fq_ck cX10_midstream 48 [0, 16, 29, 42, 180, 0, 7, 3, 27, 96, 46, 100, 167, 0, 4, 3, 54, 4] := fq_of fW_cX10_midstream 3 rfl rfl
theorem dX10_midstream_63 : decode cX10_midstream 63 = .ok (.iconst 0, 1) := fq_3 fk_cX10_midstream_3 15 rfl rfl
theorem fk_cX10_midstream_4 : fq_ck cX10_midstream 64 [54, 4, 20, 1, 34, 55, 5, 3, 54, 7, 21, 7, 28, 162, 0, 25, 22, 5] := fq_of fW_cX10_midstream 4 rfl rfl
theorem dX10_midstream_64 : decode cX10_midstream 64 = .ok (.istore 4, 2) := fq_54 fk_cX10_midstream_4 0 rfl rfl rfl
theorem wd_662 : Cond.constantLong RX10 290 (1000000000) ∈ BG := BG_at5 204 (by decide +kernel) rfl
theorem dX10_midstream_66 : decode cX10_midstream 66 = .ok (.ldc2_w 290, 3) := fq_20 fk_cX10_midstream_4 2 rfl rfl rfl rfl rfl
theorem dX10_midstream_69 : decode cX10_midstream 69 = .ok (.lstore 5, 2) := fq_55 fk_cX10_midstream_4 5 rfl rfl rfl
theorem dX10_midstream_71 : decode cX10_midstream 71 = .ok (.iconst 0, 1) := fq_3 fk_cX10_midstream_4 7 rfl rfl
theorem dX10_midstream_72 : decode cX10_midstream 72 = .ok (.istore 7, 2) := fq_54 fk_cX10_midstream_4 8 rfl rfl rfl
theorem fk_cX10_midstream_6 : fq_ck cX10_midstream 96 [132, 7, 1, 167, 255, 231, 22, 5, 136, 172] := fq_of fW_cX10_midstream 6 rfl rfl
theorem dX10_midstream_102 : decode cX10_midstream 102 = .ok (.lload 5, 2) := fq_22 fk_cX10_midstream_6 6 rfl rfl rfl
theorem dX10_midstream_104 : decode cX10_midstream 104 = .ok (.l2i, 1) := fq_136 fk_cX10_midstream_6 8 rfl rfl
theorem dX10_midstream_105 : decode cX10_midstream 105 = .ok (.ireturn, 1) := fq_172 fk_cX10_midstream_6 9 rfl rfl
theorem dX10_midstream_74 : decode cX10_midstream 74 = .ok (.iload 7, 2) := fq_21 fk_cX10_midstream_4 10 rfl rfl rfl
theorem dX10_midstream_76 : decode cX10_midstream 76 = .ok (.iload_n 2, 1) := fq_28 fk_cX10_midstream_4 12 rfl rfl
theorem dX10_midstream_77 : decode cX10_midstream 77 = .ok (.if_icmp .ge 25, 3) := fq_162 fk_cX10_midstream_4 13 rfl rfl rfl rfl rfl
theorem fk_cX10_midstream_5 : fq_ck cX10_midstream 80 [22, 5, 17, 3, 232, 21, 4, 100, 133, 105, 20, 1, 32, 109, 55, 5, 132, 7] := fq_of fW_cX10_midstream 5 rfl rfl
theorem dX10_midstream_80 : decode cX10_midstream 80 = .ok (.lload 5, 2) := fq_22 fk_cX10_midstream_5 0 rfl rfl rfl
theorem dX10_midstream_82 : decode cX10_midstream 82 = .ok (.sipush 1000, 3) := fq_17 fk_cX10_midstream_5 2 rfl rfl rfl rfl rfl
theorem dX10_midstream_85 : decode cX10_midstream 85 = .ok (.iload 4, 2) := fq_21 fk_cX10_midstream_5 5 rfl rfl rfl
theorem dX10_midstream_87 : decode cX10_midstream 87 = .ok (.isub, 1) := fq_100 fk_cX10_midstream_5 7 rfl rfl
theorem dX10_midstream_88 : decode cX10_midstream 88 = .ok (.i2l, 1) := fq_133 fk_cX10_midstream_5 8 rfl rfl
theorem dX10_midstream_89 : decode cX10_midstream 89 = .ok (.lmul, 1) := fq_105 fk_cX10_midstream_5 9 rfl rfl
theorem dX10_midstream_90 : decode cX10_midstream 90 = .ok (.ldc2_w 288, 3) := fq_20 fk_cX10_midstream_5 10 rfl rfl rfl rfl rfl
theorem dX10_midstream_93 : decode cX10_midstream 93 = .ok (.ldiv, 1) := fq_109 fk_cX10_midstream_5 13 rfl rfl
theorem dX10_midstream_94 : decode cX10_midstream 94 = .ok (.lstore 5, 2) := fq_55 fk_cX10_midstream_5 14 rfl rfl rfl
theorem dX10_midstream_96 : decode cX10_midstream 96 = .ok (.iinc 7 1, 3) := fq_132 fk_cX10_midstream_6 0 rfl rfl rfl rfl rfl
theorem dX10_midstream_99 : decode cX10_midstream 99 = .ok (.goto (-25), 3) := fq_167 fk_cX10_midstream_6 3 rfl rfl rfl rfl rfl
theorem dX10_midstream_50 : decode cX10_midstream 50 = .ok (.iload_n 3, 1) := fq_29 fk_cX10_midstream_3 2 rfl rfl
theorem dX10_midstream_51 : decode cX10_midstream 51 = .ok (.aload_n 0, 1) := fq_42 fk_cX10_midstream_3 3 rfl rfl
theorem dX10_midstream_52 : decode cX10_midstream 52 = .ok (.getfield 7, 3) := fq_180 fk_cX10_midstream_3 4 rfl rfl rfl rfl rfl
theorem dX10_midstream_55 : decode cX10_midstream 55 = .ok (.iconst 0, 1) := fq_3 fk_cX10_midstream_3 7 rfl rfl
theorem dX10_midstream_56 : decode cX10_midstream 56 = .ok (.iload_n 1, 1) := fq_27 fk_cX10_midstream_3 8 rfl rfl
theorem dX10_midstream_57 : decode cX10_midstream 57 = .ok (.iadd, 1) := fq_96 fk_cX10_midstream_3 9 rfl rfl
theorem dX10_midstream_58 : decode cX10_midstream 58 = .ok (.iaload, 1) := fq_46 fk_cX10_midstream_3 10 rfl rfl
theorem dX10_midstream_59 : decode cX10_midstream 59 = .ok (.isub, 1) := fq_100 fk_cX10_midstream_3 11 rfl rfl
theorem dX10_midstream_60 : decode cX10_midstream 60 = .ok (.goto 4, 3) := fq_167 fk_cX10_midstream_3 12 rfl rfl rfl rfl rfl
theorem dX10_midstream_8 : decode cX10_midstream 8 = .ok (.ldc 199, 2) := fq_18 fk_cX10_midstream_0 8 rfl rfl rfl
theorem dX10_midstream_10 : decode cX10_midstream 10 = .ok (.ireturn, 1) := fq_172 fk_cX10_midstream_0 10 rfl rfl
def fw_cX10_judge : List (List Nat) := [[3, 60, 27, 42, 180, 0, 177, 162, 0, 33, 42, 180, 0, 7, 3, 42, 180, 0], [180, 0, 69, 27, 46, 96, 46, 42, 180, 0, 72, 27, 46, 159, 0, 5, 27, 172], [27, 172, 132, 1, 1, 167, 255, 221, 2, 172]]
theorem fW_cX10_judge : fq_wins 3 cX10_judge.data.toList = fw_cX10_judge := by decide +kernel
theorem fk_cX10_judge_0 : fq_ck cX10_judge 0 [3, 60, 27, 42, 180, 0, 177, 162, 0, 33, 42, 180, 0, 7, 3, 42, 180, 0] := fq_of fW_cX10_judge 0 rfl rfl
theorem dX10_judge_0 : decode cX10_judge 0 = .ok (.iconst 0, 1) := fq_3 fk_cX10_judge_0 0 rfl rfl
theorem dX10_judge_1 : decode cX10_judge 1 = .ok (.istore_n 1, 1) := fq_60 fk_cX10_judge_0 1 rfl rfl
theorem fk_cX10_judge_2 : fq_ck cX10_judge 32 [27, 172, 132, 1, 1, 167, 255, 221, 2, 172] := fq_of fW_cX10_judge 2 rfl rfl
theorem dX10_judge_40 : decode cX10_judge 40 = .ok (.iconst (-1), 1) := fq_2 fk_cX10_judge_2 8 rfl rfl
theorem dX10_judge_41 : decode cX10_judge 41 = .ok (.ireturn, 1) := fq_172 fk_cX10_judge_2 9 rfl rfl
theorem dX10_judge_2 : decode cX10_judge 2 = .ok (.iload_n 1, 1) := fq_27 fk_cX10_judge_0 2 rfl rfl
theorem dX10_judge_3 : decode cX10_judge 3 = .ok (.aload_n 0, 1) := fq_42 fk_cX10_judge_0 3 rfl rfl
theorem dX10_judge_4 : decode cX10_judge 4 = .ok (.getfield 177, 3) := fq_180 fk_cX10_judge_0 4 rfl rfl rfl rfl rfl
theorem dX10_judge_7 : decode cX10_judge 7 = .ok (.if_icmp .ge 33, 3) := fq_162 fk_cX10_judge_0 7 rfl rfl rfl rfl rfl
theorem dX10_judge_10 : decode cX10_judge 10 = .ok (.aload_n 0, 1) := fq_42 fk_cX10_judge_0 10 rfl rfl
theorem dX10_judge_11 : decode cX10_judge 11 = .ok (.getfield 7, 3) := fq_180 fk_cX10_judge_0 11 rfl rfl rfl rfl rfl
theorem dX10_judge_14 : decode cX10_judge 14 = .ok (.iconst 0, 1) := fq_3 fk_cX10_judge_0 14 rfl rfl
theorem dX10_judge_15 : decode cX10_judge 15 = .ok (.aload_n 0, 1) := fq_42 fk_cX10_judge_0 15 rfl rfl
theorem fk_cX10_judge_1 : fq_ck cX10_judge 16 [180, 0, 69, 27, 46, 96, 46, 42, 180, 0, 72, 27, 46, 159, 0, 5, 27, 172] := fq_of fW_cX10_judge 1 rfl rfl
theorem dX10_judge_16 : decode cX10_judge 16 = .ok (.getfield 69, 3) := fq_180 fk_cX10_judge_1 0 rfl rfl rfl rfl rfl
theorem dX10_judge_19 : decode cX10_judge 19 = .ok (.iload_n 1, 1) := fq_27 fk_cX10_judge_1 3 rfl rfl
theorem dX10_judge_20 : decode cX10_judge 20 = .ok (.iaload, 1) := fq_46 fk_cX10_judge_1 4 rfl rfl
theorem dX10_judge_21 : decode cX10_judge 21 = .ok (.iadd, 1) := fq_96 fk_cX10_judge_1 5 rfl rfl
theorem dX10_judge_22 : decode cX10_judge 22 = .ok (.iaload, 1) := fq_46 fk_cX10_judge_1 6 rfl rfl
theorem dX10_judge_23 : decode cX10_judge 23 = .ok (.aload_n 0, 1) := fq_42 fk_cX10_judge_1 7 rfl rfl
theorem dX10_judge_24 : decode cX10_judge 24 = .ok (.getfield 72, 3) := fq_180 fk_cX10_judge_1 8 rfl rfl rfl rfl rfl
theorem dX10_judge_27 : decode cX10_judge 27 = .ok (.iload_n 1, 1) := fq_27 fk_cX10_judge_1 11 rfl rfl
theorem dX10_judge_28 : decode cX10_judge 28 = .ok (.iaload, 1) := fq_46 fk_cX10_judge_1 12 rfl rfl
theorem dX10_judge_29 : decode cX10_judge 29 = .ok (.if_icmp .eq 5, 3) := fq_159 fk_cX10_judge_1 13 rfl rfl rfl rfl rfl
theorem dX10_judge_34 : decode cX10_judge 34 = .ok (.iinc 1 1, 3) := fq_132 fk_cX10_judge_2 2 rfl rfl rfl rfl rfl
theorem dX10_judge_37 : decode cX10_judge 37 = .ok (.goto (-35), 3) := fq_167 fk_cX10_judge_2 5 rfl rfl rfl rfl rfl
theorem dX10_judge_32 : decode cX10_judge 32 = .ok (.iload_n 1, 1) := fq_27 fk_cX10_judge_2 0 rfl rfl
theorem dX10_judge_33 : decode cX10_judge 33 = .ok (.ireturn, 1) := fq_172 fk_cX10_judge_2 1 rfl rfl
def fw_cX10_fleet : List (List Nat) := [[27, 133, 10, 20, 1, 36, 184, 0, 84, 154, 0, 6, 18, 93, 172, 3, 61, 3], [61, 3, 62, 29, 42, 180, 0, 81, 162, 0, 20, 28, 27, 42, 180, 0, 21, 29], [21, 29, 46, 104, 96, 61, 132, 3, 1, 167, 255, 234, 2, 62, 3, 54, 4, 21], [4, 21, 4, 4, 42, 180, 0, 78, 120, 162, 0, 68, 21, 4, 42, 180, 0, 7], [0, 7, 16, 18, 46, 126, 154, 0, 17, 42, 21, 4, 182, 0, 186, 28, 161, 0], [161, 0, 7, 4, 167, 0, 4, 3, 54, 5, 21, 5, 153, 0, 25, 29, 2, 159], [2, 159, 0, 15, 21, 4, 184, 1, 38, 29, 184, 1, 38, 162, 0, 8, 21, 4], [21, 4, 167, 0, 4, 29, 62, 132, 4, 1, 167, 255, 183, 29, 172]]
theorem fW_cX10_fleet : fq_wins 8 cX10_fleet.data.toList = fw_cX10_fleet := by decide +kernel
theorem fk_cX10_fleet_0 : fq_ck cX10_fleet 0 [27, 133, 10, 20, 1, 36, 184, 0, 84, 154, 0, 6, 18, 93, 172, 3, 61, 3] := fq_of fW_cX10_fleet 0 rfl rfl
theorem dX10_fleet_0 : decode cX10_fleet 0 = .ok (.iload_n 1, 1) := fq_27 fk_cX10_fleet_0 0 rfl rfl
theorem dX10_fleet_1 : decode cX10_fleet 1 = .ok (.i2l, 1) := fq_133 fk_cX10_fleet_0 1 rfl rfl
theorem dX10_fleet_2 : decode cX10_fleet 2 = .ok (.lconst 1, 1) := fq_10 fk_cX10_fleet_0 2 rfl rfl
theorem wd_663 : Cond.constantLong RX10 292 (9) ∈ BG := BG_at5 209 (by decide +kernel) rfl
theorem dX10_fleet_3 : decode cX10_fleet 3 = .ok (.ldc2_w 292, 3) := fq_20 fk_cX10_fleet_0 3 rfl rfl rfl rfl rfl
theorem dX10_fleet_6 : decode cX10_fleet 6 = .ok (.invokestatic 84, 3) := fq_184 fk_cX10_fleet_0 6 rfl rfl rfl rfl rfl
theorem dX10_fleet_9 : decode cX10_fleet 9 = .ok (.ifCond .ne 6, 3) := fq_154 fk_cX10_fleet_0 9 rfl rfl rfl rfl rfl
theorem dX10_fleet_15 : decode cX10_fleet 15 = .ok (.iconst 0, 1) := fq_3 fk_cX10_fleet_0 15 rfl rfl
theorem fk_cX10_fleet_1 : fq_ck cX10_fleet 16 [61, 3, 62, 29, 42, 180, 0, 81, 162, 0, 20, 28, 27, 42, 180, 0, 21, 29] := fq_of fW_cX10_fleet 1 rfl rfl
theorem dX10_fleet_16 : decode cX10_fleet 16 = .ok (.istore_n 2, 1) := fq_61 fk_cX10_fleet_1 0 rfl rfl
theorem dX10_fleet_17 : decode cX10_fleet 17 = .ok (.iconst 0, 1) := fq_3 fk_cX10_fleet_1 1 rfl rfl
theorem dX10_fleet_18 : decode cX10_fleet 18 = .ok (.istore_n 3, 1) := fq_62 fk_cX10_fleet_1 2 rfl rfl
theorem fk_cX10_fleet_2 : fq_ck cX10_fleet 32 [21, 29, 46, 104, 96, 61, 132, 3, 1, 167, 255, 234, 2, 62, 3, 54, 4, 21] := fq_of fW_cX10_fleet 2 rfl rfl
theorem dX10_fleet_44 : decode cX10_fleet 44 = .ok (.iconst (-1), 1) := fq_2 fk_cX10_fleet_2 12 rfl rfl
theorem dX10_fleet_45 : decode cX10_fleet 45 = .ok (.istore_n 3, 1) := fq_62 fk_cX10_fleet_2 13 rfl rfl
theorem dX10_fleet_46 : decode cX10_fleet 46 = .ok (.iconst 0, 1) := fq_3 fk_cX10_fleet_2 14 rfl rfl
theorem dX10_fleet_47 : decode cX10_fleet 47 = .ok (.istore 4, 2) := fq_54 fk_cX10_fleet_2 15 rfl rfl rfl
theorem fk_cX10_fleet_7 : fq_ck cX10_fleet 112 [21, 4, 167, 0, 4, 29, 62, 132, 4, 1, 167, 255, 183, 29, 172] := fq_of fW_cX10_fleet 7 rfl rfl
theorem dX10_fleet_125 : decode cX10_fleet 125 = .ok (.iload_n 3, 1) := fq_29 fk_cX10_fleet_7 13 rfl rfl
theorem dX10_fleet_126 : decode cX10_fleet 126 = .ok (.ireturn, 1) := fq_172 fk_cX10_fleet_7 14 rfl rfl
theorem fk_cX10_fleet_3 : fq_ck cX10_fleet 48 [4, 21, 4, 4, 42, 180, 0, 78, 120, 162, 0, 68, 21, 4, 42, 180, 0, 7] := fq_of fW_cX10_fleet 3 rfl rfl
theorem dX10_fleet_49 : decode cX10_fleet 49 = .ok (.iload 4, 2) := fq_21 fk_cX10_fleet_3 1 rfl rfl rfl
theorem dX10_fleet_51 : decode cX10_fleet 51 = .ok (.iconst 1, 1) := fq_4 fk_cX10_fleet_3 3 rfl rfl
theorem dX10_fleet_52 : decode cX10_fleet 52 = .ok (.aload_n 0, 1) := fq_42 fk_cX10_fleet_3 4 rfl rfl
theorem dX10_fleet_53 : decode cX10_fleet 53 = .ok (.getfield 78, 3) := fq_180 fk_cX10_fleet_3 5 rfl rfl rfl rfl rfl
theorem dX10_fleet_56 : decode cX10_fleet 56 = .ok (.ishl, 1) := fq_120 fk_cX10_fleet_3 8 rfl rfl
theorem dX10_fleet_57 : decode cX10_fleet 57 = .ok (.if_icmp .ge 68, 3) := fq_162 fk_cX10_fleet_3 9 rfl rfl rfl rfl rfl
theorem dX10_fleet_60 : decode cX10_fleet 60 = .ok (.iload 4, 2) := fq_21 fk_cX10_fleet_3 12 rfl rfl rfl
theorem dX10_fleet_62 : decode cX10_fleet 62 = .ok (.aload_n 0, 1) := fq_42 fk_cX10_fleet_3 14 rfl rfl
theorem dX10_fleet_63 : decode cX10_fleet 63 = .ok (.getfield 7, 3) := fq_180 fk_cX10_fleet_3 15 rfl rfl rfl rfl rfl
theorem fk_cX10_fleet_4 : fq_ck cX10_fleet 64 [0, 7, 16, 18, 46, 126, 154, 0, 17, 42, 21, 4, 182, 0, 186, 28, 161, 0] := fq_of fW_cX10_fleet 4 rfl rfl
theorem dX10_fleet_66 : decode cX10_fleet 66 = .ok (.bipush 18, 2) := fq_16 fk_cX10_fleet_4 2 rfl rfl rfl rfl
theorem dX10_fleet_68 : decode cX10_fleet 68 = .ok (.iaload, 1) := fq_46 fk_cX10_fleet_4 4 rfl rfl
theorem dX10_fleet_69 : decode cX10_fleet 69 = .ok (.iand, 1) := fq_126 fk_cX10_fleet_4 5 rfl rfl
theorem dX10_fleet_70 : decode cX10_fleet 70 = .ok (.ifCond .ne 17, 3) := fq_154 fk_cX10_fleet_4 6 rfl rfl rfl rfl rfl
theorem fk_cX10_fleet_5 : fq_ck cX10_fleet 80 [161, 0, 7, 4, 167, 0, 4, 3, 54, 5, 21, 5, 153, 0, 25, 29, 2, 159] := fq_of fW_cX10_fleet 5 rfl rfl
theorem dX10_fleet_87 : decode cX10_fleet 87 = .ok (.iconst 0, 1) := fq_3 fk_cX10_fleet_5 7 rfl rfl
theorem dX10_fleet_88 : decode cX10_fleet 88 = .ok (.istore 5, 2) := fq_54 fk_cX10_fleet_5 8 rfl rfl rfl
theorem dX10_fleet_90 : decode cX10_fleet 90 = .ok (.iload 5, 2) := fq_21 fk_cX10_fleet_5 10 rfl rfl rfl
theorem dX10_fleet_92 : decode cX10_fleet 92 = .ok (.ifCond .eq 25, 3) := fq_153 fk_cX10_fleet_5 12 rfl rfl rfl rfl rfl
theorem dX10_fleet_117 : decode cX10_fleet 117 = .ok (.iload_n 3, 1) := fq_29 fk_cX10_fleet_7 5 rfl rfl
theorem dX10_fleet_118 : decode cX10_fleet 118 = .ok (.istore_n 3, 1) := fq_62 fk_cX10_fleet_7 6 rfl rfl
theorem dX10_fleet_119 : decode cX10_fleet 119 = .ok (.iinc 4 1, 3) := fq_132 fk_cX10_fleet_7 7 rfl rfl rfl rfl rfl
theorem dX10_fleet_122 : decode cX10_fleet 122 = .ok (.goto (-73), 3) := fq_167 fk_cX10_fleet_7 10 rfl rfl rfl rfl rfl
theorem dX10_fleet_73 : decode cX10_fleet 73 = .ok (.aload_n 0, 1) := fq_42 fk_cX10_fleet_4 9 rfl rfl
theorem dX10_fleet_74 : decode cX10_fleet 74 = .ok (.iload 4, 2) := fq_21 fk_cX10_fleet_4 10 rfl rfl rfl
theorem dX10_fleet_76 : decode cX10_fleet 76 = .ok (.invokevirtual 186, 3) := fq_182 fk_cX10_fleet_4 12 rfl rfl rfl rfl rfl
theorem dX10_fleet_79 : decode cX10_fleet 79 = .ok (.iload_n 2, 1) := fq_28 fk_cX10_fleet_4 15 rfl rfl
theorem dX10_fleet_80 : decode cX10_fleet 80 = .ok (.if_icmp .lt 7, 3) := fq_161 fk_cX10_fleet_5 0 rfl rfl rfl rfl rfl
theorem dX10_fleet_83 : decode cX10_fleet 83 = .ok (.iconst 1, 1) := fq_4 fk_cX10_fleet_5 3 rfl rfl
theorem dX10_fleet_84 : decode cX10_fleet 84 = .ok (.goto 4, 3) := fq_167 fk_cX10_fleet_5 4 rfl rfl rfl rfl rfl
theorem dX10_fleet_95 : decode cX10_fleet 95 = .ok (.iload_n 3, 1) := fq_29 fk_cX10_fleet_5 15 rfl rfl
theorem fk_cX10_fleet_6 : fq_ck cX10_fleet 96 [2, 159, 0, 15, 21, 4, 184, 1, 38, 29, 184, 1, 38, 162, 0, 8, 21, 4] := fq_of fW_cX10_fleet 6 rfl rfl
theorem dX10_fleet_96 : decode cX10_fleet 96 = .ok (.iconst (-1), 1) := fq_2 fk_cX10_fleet_6 0 rfl rfl
theorem dX10_fleet_97 : decode cX10_fleet 97 = .ok (.if_icmp .eq 15, 3) := fq_159 fk_cX10_fleet_6 1 rfl rfl rfl rfl rfl
theorem dX10_fleet_112 : decode cX10_fleet 112 = .ok (.iload 4, 2) := fq_21 fk_cX10_fleet_7 0 rfl rfl rfl
theorem dX10_fleet_114 : decode cX10_fleet 114 = .ok (.goto 4, 3) := fq_167 fk_cX10_fleet_7 2 rfl rfl rfl rfl rfl
theorem dX10_fleet_100 : decode cX10_fleet 100 = .ok (.iload 4, 2) := fq_21 fk_cX10_fleet_6 4 rfl rfl rfl
theorem dX10_fleet_102 : decode cX10_fleet 102 = .ok (.invokestatic 294, 3) := fq_184 fk_cX10_fleet_6 6 rfl rfl rfl rfl rfl
theorem wd_664 : Cond.methodLink RX10 294 yX10_ones ∈ BG := BG_at5 210 (by decide +kernel) rfl
theorem wd_665 : Cond.code yX10_ones cX10_ones 3 (some .int) ∈ BG := BG_at5 212 rfl rfl
theorem wd_666 : Cond.static yX10_ones ∈ BG := BG_at5 211 (by decide +kernel) rfl
theorem okS_X10_ones : okS yX10_ones cX10_ones 3 (some .int) 1 := ⟨⟨wd_665, wd_497, by decide +kernel⟩, wd_666⟩
theorem dX10_fleet_105 : decode cX10_fleet 105 = .ok (.iload_n 3, 1) := fq_29 fk_cX10_fleet_6 9 rfl rfl
theorem dX10_fleet_106 : decode cX10_fleet 106 = .ok (.invokestatic 294, 3) := fq_184 fk_cX10_fleet_6 10 rfl rfl rfl rfl rfl
theorem dX10_fleet_109 : decode cX10_fleet 109 = .ok (.if_icmp .ge 8, 3) := fq_162 fk_cX10_fleet_6 13 rfl rfl rfl rfl rfl
theorem dX10_fleet_19 : decode cX10_fleet 19 = .ok (.iload_n 3, 1) := fq_29 fk_cX10_fleet_1 3 rfl rfl
theorem dX10_fleet_20 : decode cX10_fleet 20 = .ok (.aload_n 0, 1) := fq_42 fk_cX10_fleet_1 4 rfl rfl
theorem dX10_fleet_21 : decode cX10_fleet 21 = .ok (.getfield 81, 3) := fq_180 fk_cX10_fleet_1 5 rfl rfl rfl rfl rfl
theorem dX10_fleet_24 : decode cX10_fleet 24 = .ok (.if_icmp .ge 20, 3) := fq_162 fk_cX10_fleet_1 8 rfl rfl rfl rfl rfl
theorem dX10_fleet_27 : decode cX10_fleet 27 = .ok (.iload_n 2, 1) := fq_28 fk_cX10_fleet_1 11 rfl rfl
theorem dX10_fleet_28 : decode cX10_fleet 28 = .ok (.iload_n 1, 1) := fq_27 fk_cX10_fleet_1 12 rfl rfl
theorem dX10_fleet_29 : decode cX10_fleet 29 = .ok (.aload_n 0, 1) := fq_42 fk_cX10_fleet_1 13 rfl rfl
theorem dX10_fleet_30 : decode cX10_fleet 30 = .ok (.getfield 21, 3) := fq_180 fk_cX10_fleet_1 14 rfl rfl rfl rfl rfl
theorem dX10_fleet_33 : decode cX10_fleet 33 = .ok (.iload_n 3, 1) := fq_29 fk_cX10_fleet_2 1 rfl rfl
theorem dX10_fleet_34 : decode cX10_fleet 34 = .ok (.iaload, 1) := fq_46 fk_cX10_fleet_2 2 rfl rfl
theorem dX10_fleet_35 : decode cX10_fleet 35 = .ok (.imul, 1) := fq_104 fk_cX10_fleet_2 3 rfl rfl
theorem dX10_fleet_36 : decode cX10_fleet 36 = .ok (.iadd, 1) := fq_96 fk_cX10_fleet_2 4 rfl rfl
theorem dX10_fleet_37 : decode cX10_fleet 37 = .ok (.istore_n 2, 1) := fq_61 fk_cX10_fleet_2 5 rfl rfl
theorem dX10_fleet_38 : decode cX10_fleet 38 = .ok (.iinc 3 1, 3) := fq_132 fk_cX10_fleet_2 6 rfl rfl rfl rfl rfl
theorem dX10_fleet_41 : decode cX10_fleet 41 = .ok (.goto (-22), 3) := fq_167 fk_cX10_fleet_2 9 rfl rfl rfl rfl rfl
theorem dX10_fleet_12 : decode cX10_fleet 12 = .ok (.ldc 93, 2) := fq_18 fk_cX10_fleet_0 12 rfl rfl rfl
theorem dX10_fleet_14 : decode cX10_fleet 14 = .ok (.ireturn, 1) := fq_172 fk_cX10_fleet_0 14 rfl rfl
noncomputable def f_m_opens (G : Nat → Int32) (f0 : Nat → Int32) (f10 : Nat → Int32) (f8 : Nat → Int32) (c_ : Int32) (b_ : Int32) (t_ : Int32) : Int32 × (Nat → Int32) := (if ((f_m_quarrels G f10 c_ t_ (f0 ((0 + c_) : Int32).toNatClampNeg) (f8 (b_ : Int32).toNatClampNeg)) 34) = 0 then (0, (f_m_quarrels G f10 c_ t_ (f0 ((0 + c_) : Int32).toNatClampNeg) (f8 (b_ : Int32).toNatClampNeg))) else (if (f_m_isDone f0 c_) = 0 then (1, (f_m_quarrels G f10 c_ t_ (f0 ((0 + c_) : Int32).toNatClampNeg) (f8 (b_ : Int32).toNatClampNeg))) else (0, (f_m_quarrels G f10 c_ t_ (f0 ((0 + c_) : Int32).toNatClampNeg) (f8 (b_ : Int32).toNatClampNeg)))))
def S_m_opens (G : Nat → Int32) (f0 : Nat → Int32) (f10 : Nat → Int32) (f8 : Nat → Int32) (c_ : Int32) (b_ : Int32) (t_ : Int32) : Prop := (vp_in (0 + c_) 1302 ∧ (vp_in b_ 6 ∧ ((S_m_quarrels G f10 c_ t_ (f0 ((0 + c_) : Int32).toNatClampNeg) (f8 (b_ : Int32).toNatClampNeg)) ∧ ((((f_m_quarrels G f10 c_ t_ (f0 ((0 + c_) : Int32).toNatClampNeg) (f8 (b_ : Int32).toNatClampNeg)) 34) = 0 → True) ∧ (¬ ((f_m_quarrels G f10 c_ t_ (f0 ((0 + c_) : Int32).toNatClampNeg) (f8 (b_ : Int32).toNatClampNeg)) 34) = 0 → ((S_m_isDone f0 c_) ∧ (((f_m_isDone f0 c_) = 0 → True) ∧ (¬ (f_m_isDone f0 c_) = 0 → True))))))))
def rm_m_opens : Room := { frames := 2, cells := 0, slots := 0, locals := 50 }
set_option maxHeartbeats 4000000 in
set_option maxRecDepth 100000 in
theorem m_opens {l : Launch} {D : va_G} {cI cZ : ClassId} {sz : Nat} (Rf : Nat → Nat) (h : Nat) (G : Nat → Int32) (f0 : Nat → Int32) (f10 : Nat → Int32) (f8 : Nat → Int32) (c_ : Int32) (b_ : Int32) (t_ : Int32) (hF : S_m_opens G f0 f10 f8 c_ b_ t_) : KI l yX10_opens cX10_opens 4 (some .boolean) rm_m_opens D cI cZ [.ref h, .int c_, .int b_, .int t_] sz [(h, .inr (10, ML G Rf)), ((Rf 0), .inl (cI, 1302, .inl f0)), ((Rf 10), .inl (cI, 30, .inl f10)), ((Rf 8), .inl (cI, 6, .inl f8))] (fun (r : Int32) (u : (Nat → Int32)) => (r, u) = f_m_opens G f0 f10 f8 c_ b_ t_) (fun (u : (Nat → Int32)) => [(h, .inr (10, ML u Rf)), ((Rf 0), .inl (cI, 1302, .inl f0)), ((Rf 10), .inl (cI, 30, .inl f10)), ((Rf 8), .inl (cI, 6, .inl f8))]) := by
  refine KI.go rfl (Nat.le_of_ble_eq_true rfl) ?_
  intro p e s m args below meth c ls A Q hx hb hml hts hown hin hP hK hD hS hA hN hl hret
  have hl : lv_has ls 4 [(0, .ref h), (1, .int c_), (2, .int b_), (3, .int t_)] := hl
  rw [S_m_opens] at hF
  obtain ⟨RES, hE⟩ : ∃ xRES, f_m_opens G f0 f10 f8 c_ b_ t_ = xRES := ⟨_, rfl⟩
  rw [hE] at hret
  rw [f_m_opens] at hE
  refine lv_aload_n hx hb dX10_opens_0 rfl (lv_at hl 0 rfl) ?_
  refine lv_iload_n hx hb dX10_opens_1 rfl (lv_at hl 1 rfl) ?_
  refine lv_iload_n hx hb dX10_opens_2 rfl (lv_at hl 3 rfl) ?_
  refine lv_aload_n hx hb dX10_opens_3 rfl (lv_at hl 0 rfl) ?_
  refine va_get (D := D) (ci := 10) (v := .ref (Rf 0)) (C := RX10) (T := TX10) (N := 45) hx hb hts iX10 hown hK hP 0 rfl rfl 0 (Nat.le_of_ble_eq_true rfl) (hts _ wd_491) (fun _ h9 => h9) rfl dX10_opens_4 ?_
  refine lv_iconst (v := 0) hx hb dX10_opens_7 rfl ?_
  refine lv_iload_n hx hb dX10_opens_8 rfl (lv_at hl 1 rfl) ?_
  refine lv_iadd hx hb dX10_opens_9 ?_
  obtain ⟨hv_1, hF⟩ := hF
  refine va_iald hx hb hK hP 1 0 rfl rfl hv_1 dX10_opens_10 ?_
  refine lv_aload_n hx hb dX10_opens_11 rfl (lv_at hl 0 rfl) ?_
  refine va_get (D := D) (ci := 10) (v := .ref (Rf 8)) (C := RX10) (T := TX10) (N := 45) hx hb hts iX10 hown hK hP 0 rfl rfl 8 (Nat.le_of_ble_eq_true rfl) (hts _ wd_579) (fun _ h9 => h9) rfl dX10_opens_12 ?_
  refine lv_iload_n hx hb dX10_opens_15 rfl (lv_at hl 2 rfl) ?_
  obtain ⟨hv_2, hF⟩ := hF
  refine va_iald hx hb hK hP 3 0 rfl rfl hv_2 dX10_opens_16 ?_
  obtain ⟨hs_3, hF⟩ := hF
  refine cVv (wr := [((Rf 0), .inl (cI, 1302, .inl f0)), ((Rf 8), .inl (cI, 6, .inl f8))]) (rest := []) (m_quarrels Rf h G f10 c_ t_ (f0 ((0 + c_) : Int32).toNatClampNeg) (f8 (b_ : Int32).toNatClampNeg) hs_3) okV_X10_quarrels wd_643 hx hb hml hown hts hK hP hD hS hA hN hl.1 [0, 2] [1, 3] rfl rfl rfl rfl (of_decide_eq_true rfl) rfl rfl rfl (Nat.le_of_ble_eq_true rfl) (Nat.le_of_ble_eq_true rfl) (Nat.le_of_ble_eq_true rfl) (Nat.le_of_ble_eq_true rfl) (Nat.le_of_ble_eq_true rfl) dX10_opens_17 (fun u_4 H locs hw_u_4 hP hD hS => ?_)
  replace hw_u_4 : u_4 = (f_m_quarrels G f10 c_ t_ (f0 ((0 + c_) : Int32).toNatClampNeg) (f8 (b_ : Int32).toNatClampNeg)) := hw_u_4
  subst hw_u_4
  have hP : va_P D classes [((Rf 0), .inl (cI, 1302, .inl f0)), ((Rf 8), .inl (cI, 6, .inl f8)), (h, .inr (10, ML (f_m_quarrels G f10 c_ t_ (f0 ((0 + c_) : Int32).toNatClampNeg) (f8 (b_ : Int32).toNatClampNeg)) Rf)), ((Rf 10), .inl (cI, 30, .inl f10))] H := hP
  have hD : va_D A [((Rf 0), .inl (cI, 1302, .inl f0)), ((Rf 8), .inl (cI, 6, .inl f8)), (h, .inr (10, ML (f_m_quarrels G f10 c_ t_ (f0 ((0 + c_) : Int32).toNatClampNeg) (f8 (b_ : Int32).toNatClampNeg)) Rf)), ((Rf 10), .inl (cI, 30, .inl f10))] := hD
  refine lv_aload_n hx hb dX10_opens_20 rfl (lv_at hl 0 rfl) ?_
  refine va_get (D := D) (ci := 10) (v := .int ((f_m_quarrels G f10 c_ t_ (f0 ((0 + c_) : Int32).toNatClampNeg) (f8 (b_ : Int32).toNatClampNeg)) 34)) (C := RX10) (T := TX10) (N := 45) hx hb hts iX10 hown hK hP 2 rfl rfl 34 (Nat.le_of_ble_eq_true rfl) (hts _ wd_555) (fun _ h9 => h9) rfl dX10_opens_21 ?_
  refine lv_if_eq (tgt := 39) hx hb dX10_opens_24 rfl (fun c_6 => ?_) (fun c_6 => ?_)
  · replace hF := hF.1 c_6
    rw [if_pos c_6] at hE
    refine lv_iconst (v := 0) hx hb dX10_opens_39 rfl ?_
    exact hret 0 (f_m_quarrels G f10 c_ t_ (f0 ((0 + c_) : Int32).toNatClampNeg) (f8 (b_ : Int32).toNatClampNeg)) _ _ _ _ dX10_opens_40 rfl hE (cutP (isC := [2, 0, 3, 1]) hP rfl) (cutD (isC := [2, 0, 3, 1]) hD rfl rfl) hS
  · replace hF := hF.2 c_6
    rw [if_neg c_6] at hE
    refine lv_aload_n hx hb dX10_opens_27 rfl (lv_at hl 0 rfl) ?_
    refine lv_iload_n hx hb dX10_opens_28 rfl (lv_at hl 1 rfl) ?_
    obtain ⟨hs_7, hF⟩ := hF
    refine cVi (wr := [((Rf 8), .inl (cI, 6, .inl f8)), ((Rf 10), .inl (cI, 30, .inl f10))]) (rest := []) (m_isDone Rf h (f_m_quarrels G f10 c_ t_ (f0 ((0 + c_) : Int32).toNatClampNeg) (f8 (b_ : Int32).toNatClampNeg)) f0 c_ hs_7) okV_X10_isDone wd_567 hx hb hml hown hts hK hP hD hS hA hN hl.1 [2, 0] [1, 3] rfl rfl rfl rfl (of_decide_eq_true rfl) rfl rfl rfl (Nat.le_of_ble_eq_true rfl) (Nat.le_of_ble_eq_true rfl) (Nat.le_of_ble_eq_true rfl) (Nat.le_of_ble_eq_true rfl) (Nat.le_of_ble_eq_true rfl) dX10_opens_29 (fun r_9 u_8 H locs hw_u_8 hP hD hS => ?_)
    replace hw_u_8 : r_9 = (f_m_isDone f0 c_) := hw_u_8
    rw [hw_u_8]
    clear hw_u_8
    have hP : va_P D classes [((Rf 8), .inl (cI, 6, .inl f8)), ((Rf 10), .inl (cI, 30, .inl f10)), (h, .inr (10, ML (f_m_quarrels G f10 c_ t_ (f0 ((0 + c_) : Int32).toNatClampNeg) (f8 (b_ : Int32).toNatClampNeg)) Rf)), ((Rf 0), .inl (cI, 1302, .inl f0))] H := hP
    have hD : va_D A [((Rf 8), .inl (cI, 6, .inl f8)), ((Rf 10), .inl (cI, 30, .inl f10)), (h, .inr (10, ML (f_m_quarrels G f10 c_ t_ (f0 ((0 + c_) : Int32).toNatClampNeg) (f8 (b_ : Int32).toNatClampNeg)) Rf)), ((Rf 0), .inl (cI, 1302, .inl f0))] := hD
    refine lv_if_ne (tgt := 39) hx hb dX10_opens_32 rfl (fun c_10 => ?_) (fun c_10 => ?_)
    · replace hF := hF.2 c_10
      rw [if_neg c_10] at hE
      refine lv_iconst (v := 0) hx hb dX10_opens_39 rfl ?_
      exact hret 0 (f_m_quarrels G f10 c_ t_ (f0 ((0 + c_) : Int32).toNatClampNeg) (f8 (b_ : Int32).toNatClampNeg)) _ _ _ _ dX10_opens_40 rfl hE (cutP (isC := [2, 3, 1, 0]) hP rfl) (cutD (isC := [2, 3, 1, 0]) hD rfl rfl) hS
    · replace hF := hF.1 c_10
      rw [if_pos c_10] at hE
      refine lv_iconst (v := 1) hx hb dX10_opens_35 rfl ?_
      refine lv_goto (tgt := 40) hx hb dX10_opens_36 rfl ?_
      exact hret 1 (f_m_quarrels G f10 c_ t_ (f0 ((0 + c_) : Int32).toNatClampNeg) (f8 (b_ : Int32).toNatClampNeg)) _ _ _ _ dX10_opens_40 rfl hE (cutP (isC := [2, 3, 1, 0]) hP rfl) (cutD (isC := [2, 3, 1, 0]) hD rfl rfl) hS
noncomputable def f_m_could (G : Nat → Int32) (f0 : Nat → Int32) (f10 : Nat → Int32) (f8 : Nat → Int32) (c_ : Int32) (b_ : Int32) (t_ : Int32) (w_ : Int32) : Int32 × (Nat → Int32) := (if (f_m_isCouple G c_) = 0 then ((-1000000001), G) else (if (f_m_isBridge G b_) = 0 then ((-1000000001), G) else (if (f_m_isTheme G t_) = 0 then ((-1000000001), G) else (if (f_m_in w_.toInt64 0 1) = 0 then ((-1000000002), G) else (match (f_m_opens G f0 f10 f8 c_ b_ t_) with | (r_19, u_18) => (if r_19 = 0 then ((-1), u_18) else (if w_ = 0 then ((u_18 32), u_18) else (((f0 ((0 + c_) : Int32).toNatClampNeg) - (u_18 33)), u_18))))))))
def S_m_could (G : Nat → Int32) (f0 : Nat → Int32) (f10 : Nat → Int32) (f8 : Nat → Int32) (c_ : Int32) (b_ : Int32) (t_ : Int32) (w_ : Int32) : Prop := ((S_m_isCouple G c_) ∧ (((f_m_isCouple G c_) = 0 → True) ∧ (¬ (f_m_isCouple G c_) = 0 → ((S_m_isBridge G b_) ∧ (((f_m_isBridge G b_) = 0 → True) ∧ (¬ (f_m_isBridge G b_) = 0 → ((S_m_isTheme G t_) ∧ (((f_m_isTheme G t_) = 0 → True) ∧ (¬ (f_m_isTheme G t_) = 0 → ((S_m_in w_.toInt64 0 1) ∧ (((f_m_in w_.toInt64 0 1) = 0 → True) ∧ (¬ (f_m_in w_.toInt64 0 1) = 0 → ((S_m_opens G f0 f10 f8 c_ b_ t_) ∧ (∀ (r_19 : Int32) (u_18 : (Nat → Int32)), (r_19, u_18) = (f_m_opens G f0 f10 f8 c_ b_ t_) → ((r_19 = 0 → True) ∧ (¬ r_19 = 0 → ((w_ = 0 → True) ∧ (¬ w_ = 0 → (vp_in (0 + c_) 1302 ∧ True)))))))))))))))))))
def rm_m_could : Room := { frames := 3, cells := 0, slots := 0, locals := 73 }
set_option maxHeartbeats 4000000 in
set_option maxRecDepth 100000 in
theorem m_could {l : Launch} {D : va_G} {cI cZ : ClassId} {sz : Nat} (Rf : Nat → Nat) (h : Nat) (G : Nat → Int32) (f0 : Nat → Int32) (f10 : Nat → Int32) (f8 : Nat → Int32) (c_ : Int32) (b_ : Int32) (t_ : Int32) (w_ : Int32) (hF : S_m_could G f0 f10 f8 c_ b_ t_ w_) : KI l yX10_could cX10_could 5 (some .int) rm_m_could D cI cZ [.ref h, .int c_, .int b_, .int t_, .int w_] sz [(h, .inr (10, ML G Rf)), ((Rf 0), .inl (cI, 1302, .inl f0)), ((Rf 10), .inl (cI, 30, .inl f10)), ((Rf 8), .inl (cI, 6, .inl f8))] (fun (r : Int32) (u : (Nat → Int32)) => (r, u) = f_m_could G f0 f10 f8 c_ b_ t_ w_) (fun (u : (Nat → Int32)) => [(h, .inr (10, ML u Rf)), ((Rf 0), .inl (cI, 1302, .inl f0)), ((Rf 10), .inl (cI, 30, .inl f10)), ((Rf 8), .inl (cI, 6, .inl f8))]) := by
  refine KI.go rfl (Nat.le_of_ble_eq_true rfl) ?_
  intro p e s m args below meth c ls A Q hx hb hml hts hown hin hP hK hD hS hA hN hl hret
  have hl : lv_has ls 5 [(0, .ref h), (1, .int c_), (2, .int b_), (3, .int t_), (4, .int w_)] := hl
  rw [S_m_could] at hF
  obtain ⟨RES, hE⟩ : ∃ xRES, f_m_could G f0 f10 f8 c_ b_ t_ w_ = xRES := ⟨_, rfl⟩
  rw [hE] at hret
  rw [f_m_could] at hE
  refine lv_aload_n hx hb dX10_could_0 rfl (lv_at hl 0 rfl) ?_
  refine lv_iload_n hx hb dX10_could_1 rfl (lv_at hl 1 rfl) ?_
  obtain ⟨hs_1, hF⟩ := hF
  refine cVi (wr := [((Rf 0), .inl (cI, 1302, .inl f0)), ((Rf 10), .inl (cI, 30, .inl f10)), ((Rf 8), .inl (cI, 6, .inl f8))]) (rest := []) (m_isCouple Rf h G c_ hs_1) okV_X10_isCouple wd_581 hx hb hml hown hts hK hP hD hS hA hN hl.1 [0] [1, 2, 3] rfl rfl rfl rfl (of_decide_eq_true rfl) rfl rfl rfl (Nat.le_of_ble_eq_true rfl) (Nat.le_of_ble_eq_true rfl) (Nat.le_of_ble_eq_true rfl) (Nat.le_of_ble_eq_true rfl) (Nat.le_of_ble_eq_true rfl) dX10_could_2 (fun r_3 u_2 H locs hw_u_2 hP hD hS => ?_)
  replace hw_u_2 : r_3 = (f_m_isCouple G c_) := hw_u_2
  rw [hw_u_2]
  clear hw_u_2
  have hP : va_P D classes [((Rf 0), .inl (cI, 1302, .inl f0)), ((Rf 10), .inl (cI, 30, .inl f10)), ((Rf 8), .inl (cI, 6, .inl f8)), (h, .inr (10, ML G Rf))] H := hP
  have hD : va_D A [((Rf 0), .inl (cI, 1302, .inl f0)), ((Rf 10), .inl (cI, 30, .inl f10)), ((Rf 8), .inl (cI, 6, .inl f8)), (h, .inr (10, ML G Rf))] := hD
  refine lv_if_eq (tgt := 24) hx hb dX10_could_5 rfl (fun c_4 => ?_) (fun c_4 => ?_)
  · replace hF := hF.1 c_4
    rw [if_pos c_4] at hE
    refine lv_ldc (v := (-1000000001)) hx hb hown (hts _ wd_580) dX10_could_24 ?_
    exact hret (-1000000001) G _ _ _ _ dX10_could_26 rfl hE (cutP (isC := [3, 0, 1, 2]) hP rfl) (cutD (isC := [3, 0, 1, 2]) hD rfl rfl) hS
  · replace hF := hF.2 c_4
    rw [if_neg c_4] at hE
    refine lv_aload_n hx hb dX10_could_8 rfl (lv_at hl 0 rfl) ?_
    refine lv_iload_n hx hb dX10_could_9 rfl (lv_at hl 2 rfl) ?_
    obtain ⟨hs_5, hF⟩ := hF
    refine cVi (wr := [((Rf 0), .inl (cI, 1302, .inl f0)), ((Rf 10), .inl (cI, 30, .inl f10)), ((Rf 8), .inl (cI, 6, .inl f8))]) (rest := []) (m_isBridge Rf h G b_ hs_5) okV_X10_isBridge wd_571 hx hb hml hown hts hK hP hD hS hA hN hl.1 [3] [0, 1, 2] rfl rfl rfl rfl (of_decide_eq_true rfl) rfl rfl rfl (Nat.le_of_ble_eq_true rfl) (Nat.le_of_ble_eq_true rfl) (Nat.le_of_ble_eq_true rfl) (Nat.le_of_ble_eq_true rfl) (Nat.le_of_ble_eq_true rfl) dX10_could_10 (fun r_7 u_6 H locs hw_u_6 hP hD hS => ?_)
    replace hw_u_6 : r_7 = (f_m_isBridge G b_) := hw_u_6
    rw [hw_u_6]
    clear hw_u_6
    have hP : va_P D classes [((Rf 0), .inl (cI, 1302, .inl f0)), ((Rf 10), .inl (cI, 30, .inl f10)), ((Rf 8), .inl (cI, 6, .inl f8)), (h, .inr (10, ML G Rf))] H := hP
    have hD : va_D A [((Rf 0), .inl (cI, 1302, .inl f0)), ((Rf 10), .inl (cI, 30, .inl f10)), ((Rf 8), .inl (cI, 6, .inl f8)), (h, .inr (10, ML G Rf))] := hD
    refine lv_if_eq (tgt := 24) hx hb dX10_could_13 rfl (fun c_8 => ?_) (fun c_8 => ?_)
    · replace hF := hF.1 c_8
      rw [if_pos c_8] at hE
      refine lv_ldc (v := (-1000000001)) hx hb hown (hts _ wd_580) dX10_could_24 ?_
      exact hret (-1000000001) G _ _ _ _ dX10_could_26 rfl hE (cutP (isC := [3, 0, 1, 2]) hP rfl) (cutD (isC := [3, 0, 1, 2]) hD rfl rfl) hS
    · replace hF := hF.2 c_8
      rw [if_neg c_8] at hE
      refine lv_aload_n hx hb dX10_could_16 rfl (lv_at hl 0 rfl) ?_
      refine lv_iload_n hx hb dX10_could_17 rfl (lv_at hl 3 rfl) ?_
      obtain ⟨hs_9, hF⟩ := hF
      refine cVi (wr := [((Rf 0), .inl (cI, 1302, .inl f0)), ((Rf 10), .inl (cI, 30, .inl f10)), ((Rf 8), .inl (cI, 6, .inl f8))]) (rest := []) (m_isTheme Rf h G t_ hs_9) okV_X10_isTheme wd_585 hx hb hml hown hts hK hP hD hS hA hN hl.1 [3] [0, 1, 2] rfl rfl rfl rfl (of_decide_eq_true rfl) rfl rfl rfl (Nat.le_of_ble_eq_true rfl) (Nat.le_of_ble_eq_true rfl) (Nat.le_of_ble_eq_true rfl) (Nat.le_of_ble_eq_true rfl) (Nat.le_of_ble_eq_true rfl) dX10_could_18 (fun r_11 u_10 H locs hw_u_10 hP hD hS => ?_)
      replace hw_u_10 : r_11 = (f_m_isTheme G t_) := hw_u_10
      rw [hw_u_10]
      clear hw_u_10
      have hP : va_P D classes [((Rf 0), .inl (cI, 1302, .inl f0)), ((Rf 10), .inl (cI, 30, .inl f10)), ((Rf 8), .inl (cI, 6, .inl f8)), (h, .inr (10, ML G Rf))] H := hP
      have hD : va_D A [((Rf 0), .inl (cI, 1302, .inl f0)), ((Rf 10), .inl (cI, 30, .inl f10)), ((Rf 8), .inl (cI, 6, .inl f8)), (h, .inr (10, ML G Rf))] := hD
      refine lv_if_ne (tgt := 27) hx hb dX10_could_21 rfl (fun c_12 => ?_) (fun c_12 => ?_)
      · replace hF := hF.2 c_12
        rw [if_neg c_12] at hE
        refine lv_iload hx hb dX10_could_27 (lv_at hl 4 rfl) ?_
        refine lv_i2l (v := w_.toInt64) hx hb dX10_could_29 rfl ?_
        refine lv_lconst (v := 0) hx hb dX10_could_30 rfl ?_
        refine lv_lconst (v := 1) hx hb dX10_could_31 rfl ?_
        obtain ⟨hs_13, hF⟩ := hF
        refine cSi (wr := [((Rf 0), .inl (cI, 1302, .inl f0)), ((Rf 10), .inl (cI, 30, .inl f10)), ((Rf 8), .inl (cI, 6, .inl f8)), (h, .inr (10, ML G Rf))]) (rest := []) (m_in w_.toInt64 0 1 hs_13) okS_X10_in wd_495 hx hb hml hown hts hK hP hD hS hA hN hl.1 [] [0, 1, 2, 3] rfl rfl rfl rfl (of_decide_eq_true rfl) rfl (Nat.le_of_ble_eq_true rfl) (Nat.le_of_ble_eq_true rfl) (Nat.le_of_ble_eq_true rfl) (Nat.le_of_ble_eq_true rfl) (Nat.le_of_ble_eq_true rfl) dX10_could_32 (fun r_15 u_14 H locs hw_u_14 hP hD hS => ?_)
        replace hw_u_14 : r_15 = (f_m_in w_.toInt64 0 1) := hw_u_14
        rw [hw_u_14]
        clear hw_u_14
        have hP : va_P D classes [((Rf 0), .inl (cI, 1302, .inl f0)), ((Rf 10), .inl (cI, 30, .inl f10)), ((Rf 8), .inl (cI, 6, .inl f8)), (h, .inr (10, ML G Rf))] H := hP
        have hD : va_D A [((Rf 0), .inl (cI, 1302, .inl f0)), ((Rf 10), .inl (cI, 30, .inl f10)), ((Rf 8), .inl (cI, 6, .inl f8)), (h, .inr (10, ML G Rf))] := hD
        refine lv_if_ne (tgt := 41) hx hb dX10_could_35 rfl (fun c_16 => ?_) (fun c_16 => ?_)
        · replace hF := hF.2 c_16
          rw [if_neg c_16] at hE
          refine lv_aload_n hx hb dX10_could_41 rfl (lv_at hl 0 rfl) ?_
          refine lv_iload_n hx hb dX10_could_42 rfl (lv_at hl 1 rfl) ?_
          refine lv_iload_n hx hb dX10_could_43 rfl (lv_at hl 2 rfl) ?_
          refine lv_iload_n hx hb dX10_could_44 rfl (lv_at hl 3 rfl) ?_
          obtain ⟨hs_17, hF⟩ := hF
          refine cVi (wr := []) (rest := []) (m_opens Rf h G f0 f10 f8 c_ b_ t_ hs_17) okV_X10_opens wd_647 hx hb hml hown hts hK hP hD hS hA hN hl.1 [3, 0, 1, 2] [] rfl rfl rfl rfl (of_decide_eq_true rfl) rfl rfl rfl (Nat.le_of_ble_eq_true rfl) (Nat.le_of_ble_eq_true rfl) (Nat.le_of_ble_eq_true rfl) (Nat.le_of_ble_eq_true rfl) (Nat.le_of_ble_eq_true rfl) dX10_could_45 (fun r_19 u_18 H locs hw_u_18 hP hD hS => ?_)
          replace hw_u_18 : (r_19, u_18) = (f_m_opens G f0 f10 f8 c_ b_ t_) := hw_u_18
          replace hF := hF r_19 u_18 hw_u_18
          rw [← hw_u_18] at hE
          replace hE : ((if r_19 = 0 then ((-1), u_18) else (if w_ = 0 then ((u_18 32), u_18) else (((f0 ((0 + c_) : Int32).toNatClampNeg) - (u_18 33)), u_18))) : Int32 × (Nat → Int32)) = RES := hE
          have hP : va_P D classes [(h, .inr (10, ML u_18 Rf)), ((Rf 0), .inl (cI, 1302, .inl f0)), ((Rf 10), .inl (cI, 30, .inl f10)), ((Rf 8), .inl (cI, 6, .inl f8))] H := hP
          have hD : va_D A [(h, .inr (10, ML u_18 Rf)), ((Rf 0), .inl (cI, 1302, .inl f0)), ((Rf 10), .inl (cI, 30, .inl f10)), ((Rf 8), .inl (cI, 6, .inl f8))] := hD
          refine lv_if_ne (tgt := 55) hx hb dX10_could_48 rfl (fun c_20 => ?_) (fun c_20 => ?_)
          · replace hF := hF.2 c_20
            rw [if_neg c_20] at hE
            refine lv_iload hx hb dX10_could_55 (lv_at hl 4 rfl) ?_
            refine lv_if_ne (tgt := 67) hx hb dX10_could_57 rfl (fun c_21 => ?_) (fun c_21 => ?_)
            · replace hF := hF.2 c_21
              rw [if_neg c_21] at hE
              refine lv_aload_n hx hb dX10_could_67 rfl (lv_at hl 0 rfl) ?_
              refine va_get (D := D) (ci := 10) (v := .ref (Rf 0)) (C := RX10) (T := TX10) (N := 45) hx hb hts iX10 hown hK hP 0 rfl rfl 0 (Nat.le_of_ble_eq_true rfl) (hts _ wd_491) (fun _ h9 => h9) rfl dX10_could_68 ?_
              refine lv_iconst (v := 0) hx hb dX10_could_71 rfl ?_
              refine lv_iload_n hx hb dX10_could_72 rfl (lv_at hl 1 rfl) ?_
              refine lv_iadd hx hb dX10_could_73 ?_
              obtain ⟨hv_22, hF⟩ := hF
              refine va_iald hx hb hK hP 1 0 rfl rfl hv_22 dX10_could_74 ?_
              refine lv_aload_n hx hb dX10_could_75 rfl (lv_at hl 0 rfl) ?_
              refine va_get (D := D) (ci := 10) (v := .int (u_18 33)) (C := RX10) (T := TX10) (N := 45) hx hb hts iX10 hown hK hP 0 rfl rfl 33 (Nat.le_of_ble_eq_true rfl) (hts _ wd_550) (fun _ h9 => h9) rfl dX10_could_76 ?_
              refine lv_isub hx hb dX10_could_79 ?_
              exact hret ((f0 ((0 + c_) : Int32).toNatClampNeg) - (u_18 33)) u_18 _ _ _ _ dX10_could_80 rfl hE hP hD hS
            · replace hF := hF.1 c_21
              rw [if_pos c_21] at hE
              refine lv_aload_n hx hb dX10_could_60 rfl (lv_at hl 0 rfl) ?_
              refine va_get (D := D) (ci := 10) (v := .int (u_18 32)) (C := RX10) (T := TX10) (N := 45) hx hb hts iX10 hown hK hP 0 rfl rfl 32 (Nat.le_of_ble_eq_true rfl) (hts _ wd_549) (fun _ h9 => h9) rfl dX10_could_61 ?_
              refine lv_goto (tgt := 80) hx hb dX10_could_64 rfl ?_
              exact hret (u_18 32) u_18 _ _ _ _ dX10_could_80 rfl hE hP hD hS
          · replace hF := hF.1 c_20
            rw [if_pos c_20] at hE
            subst c_20
            refine lv_iconst (v := (-1)) hx hb dX10_could_51 rfl ?_
            refine lv_goto (tgt := 80) hx hb dX10_could_52 rfl ?_
            exact hret (-1) u_18 _ _ _ _ dX10_could_80 rfl hE hP hD hS
        · replace hF := hF.1 c_16
          rw [if_pos c_16] at hE
          refine lv_ldc (v := (-1000000002)) hx hb hown (hts _ wd_507) dX10_could_38 ?_
          exact hret (-1000000002) G _ _ _ _ dX10_could_40 rfl hE (cutP (isC := [3, 0, 1, 2]) hP rfl) (cutD (isC := [3, 0, 1, 2]) hD rfl rfl) hS
      · replace hF := hF.1 c_12
        rw [if_pos c_12] at hE
        refine lv_ldc (v := (-1000000001)) hx hb hown (hts _ wd_580) dX10_could_24 ?_
        exact hret (-1000000001) G _ _ _ _ dX10_could_26 rfl hE (cutP (isC := [3, 0, 1, 2]) hP rfl) (cutD (isC := [3, 0, 1, 2]) hD rfl rfl) hS
noncomputable def f_m_lastsOf (G : Nat → Int32) (f0 : Nat → Int32) (f10 : Nat → Int32) (c_ : Int32) (t_ : Int32) : Int32 × (Nat → Int32) := (if ((f_m_quarrels G f10 c_ t_ (f0 ((0 + c_) : Int32).toNatClampNeg) 1000000000) 33) = 0 then (if ((f_m_quarrels G f10 c_ t_ (f0 ((0 + c_) : Int32).toNatClampNeg) 1000000000) 32) ≤ 0 then (999, (f_m_quarrels G f10 c_ t_ (f0 ((0 + c_) : Int32).toNatClampNeg) 1000000000)) else (((f_m_quarrels G f10 c_ t_ (f0 ((0 + c_) : Int32).toNatClampNeg) 1000000000) 32), (f_m_quarrels G f10 c_ t_ (f0 ((0 + c_) : Int32).toNatClampNeg) 1000000000))) else (999, (f_m_quarrels G f10 c_ t_ (f0 ((0 + c_) : Int32).toNatClampNeg) 1000000000)))
def S_m_lastsOf (G : Nat → Int32) (f0 : Nat → Int32) (f10 : Nat → Int32) (c_ : Int32) (t_ : Int32) : Prop := (vp_in (0 + c_) 1302 ∧ ((S_m_quarrels G f10 c_ t_ (f0 ((0 + c_) : Int32).toNatClampNeg) 1000000000) ∧ ((((f_m_quarrels G f10 c_ t_ (f0 ((0 + c_) : Int32).toNatClampNeg) 1000000000) 33) = 0 → ((((f_m_quarrels G f10 c_ t_ (f0 ((0 + c_) : Int32).toNatClampNeg) 1000000000) 32) ≤ 0 → True) ∧ (¬ ((f_m_quarrels G f10 c_ t_ (f0 ((0 + c_) : Int32).toNatClampNeg) 1000000000) 32) ≤ 0 → True))) ∧ (¬ ((f_m_quarrels G f10 c_ t_ (f0 ((0 + c_) : Int32).toNatClampNeg) 1000000000) 33) = 0 → True))))
def rm_m_lastsOf : Room := { frames := 2, cells := 0, slots := 0, locals := 50 }
set_option maxHeartbeats 4000000 in
set_option maxRecDepth 100000 in
theorem m_lastsOf {l : Launch} {D : va_G} {cI cZ : ClassId} {sz : Nat} (Rf : Nat → Nat) (h : Nat) (G : Nat → Int32) (f0 : Nat → Int32) (f10 : Nat → Int32) (c_ : Int32) (t_ : Int32) (hF : S_m_lastsOf G f0 f10 c_ t_) : KI l yX10_lastsOf cX10_lastsOf 3 (some .int) rm_m_lastsOf D cI cZ [.ref h, .int c_, .int t_] sz [(h, .inr (10, ML G Rf)), ((Rf 0), .inl (cI, 1302, .inl f0)), ((Rf 10), .inl (cI, 30, .inl f10))] (fun (r : Int32) (u : (Nat → Int32)) => (r, u) = f_m_lastsOf G f0 f10 c_ t_) (fun (u : (Nat → Int32)) => [(h, .inr (10, ML u Rf)), ((Rf 0), .inl (cI, 1302, .inl f0)), ((Rf 10), .inl (cI, 30, .inl f10))]) := by
  refine KI.go rfl (Nat.le_of_ble_eq_true rfl) ?_
  intro p e s m args below meth c ls A Q hx hb hml hts hown hin hP hK hD hS hA hN hl hret
  have hl : lv_has ls 3 [(0, .ref h), (1, .int c_), (2, .int t_)] := hl
  rw [S_m_lastsOf] at hF
  obtain ⟨RES, hE⟩ : ∃ xRES, f_m_lastsOf G f0 f10 c_ t_ = xRES := ⟨_, rfl⟩
  rw [hE] at hret
  rw [f_m_lastsOf] at hE
  refine lv_aload_n hx hb dX10_lastsOf_0 rfl (lv_at hl 0 rfl) ?_
  refine lv_iload_n hx hb dX10_lastsOf_1 rfl (lv_at hl 1 rfl) ?_
  refine lv_iload_n hx hb dX10_lastsOf_2 rfl (lv_at hl 2 rfl) ?_
  refine lv_aload_n hx hb dX10_lastsOf_3 rfl (lv_at hl 0 rfl) ?_
  refine va_get (D := D) (ci := 10) (v := .ref (Rf 0)) (C := RX10) (T := TX10) (N := 45) hx hb hts iX10 hown hK hP 0 rfl rfl 0 (Nat.le_of_ble_eq_true rfl) (hts _ wd_491) (fun _ h9 => h9) rfl dX10_lastsOf_4 ?_
  refine lv_iconst (v := 0) hx hb dX10_lastsOf_7 rfl ?_
  refine lv_iload_n hx hb dX10_lastsOf_8 rfl (lv_at hl 1 rfl) ?_
  refine lv_iadd hx hb dX10_lastsOf_9 ?_
  obtain ⟨hv_1, hF⟩ := hF
  refine va_iald hx hb hK hP 1 0 rfl rfl hv_1 dX10_lastsOf_10 ?_
  refine lv_ldcw (v := 1000000000) hx hb hown (hts _ wd_651) dX10_lastsOf_11 ?_
  obtain ⟨hs_2, hF⟩ := hF
  refine cVv (wr := [((Rf 0), .inl (cI, 1302, .inl f0))]) (rest := []) (m_quarrels Rf h G f10 c_ t_ (f0 ((0 + c_) : Int32).toNatClampNeg) 1000000000 hs_2) okV_X10_quarrels wd_643 hx hb hml hown hts hK hP hD hS hA hN hl.1 [0, 2] [1] rfl rfl rfl rfl (of_decide_eq_true rfl) rfl rfl rfl (Nat.le_of_ble_eq_true rfl) (Nat.le_of_ble_eq_true rfl) (Nat.le_of_ble_eq_true rfl) (Nat.le_of_ble_eq_true rfl) (Nat.le_of_ble_eq_true rfl) dX10_lastsOf_14 (fun u_3 H locs hw_u_3 hP hD hS => ?_)
  replace hw_u_3 : u_3 = (f_m_quarrels G f10 c_ t_ (f0 ((0 + c_) : Int32).toNatClampNeg) 1000000000) := hw_u_3
  subst hw_u_3
  have hP : va_P D classes [((Rf 0), .inl (cI, 1302, .inl f0)), (h, .inr (10, ML (f_m_quarrels G f10 c_ t_ (f0 ((0 + c_) : Int32).toNatClampNeg) 1000000000) Rf)), ((Rf 10), .inl (cI, 30, .inl f10))] H := hP
  have hD : va_D A [((Rf 0), .inl (cI, 1302, .inl f0)), (h, .inr (10, ML (f_m_quarrels G f10 c_ t_ (f0 ((0 + c_) : Int32).toNatClampNeg) 1000000000) Rf)), ((Rf 10), .inl (cI, 30, .inl f10))] := hD
  refine lv_aload_n hx hb dX10_lastsOf_17 rfl (lv_at hl 0 rfl) ?_
  refine va_get (D := D) (ci := 10) (v := .int ((f_m_quarrels G f10 c_ t_ (f0 ((0 + c_) : Int32).toNatClampNeg) 1000000000) 33)) (C := RX10) (T := TX10) (N := 45) hx hb hts iX10 hown hK hP 1 rfl rfl 33 (Nat.le_of_ble_eq_true rfl) (hts _ wd_550) (fun _ h9 => h9) rfl dX10_lastsOf_18 ?_
  refine lv_if_ne (tgt := 38) hx hb dX10_lastsOf_21 rfl (fun c_5 => ?_) (fun c_5 => ?_)
  · replace hF := hF.2 c_5
    rw [if_neg c_5] at hE
    refine lv_sipush (v := 999) hx hb dX10_lastsOf_38 rfl ?_
    exact hret 999 (f_m_quarrels G f10 c_ t_ (f0 ((0 + c_) : Int32).toNatClampNeg) 1000000000) _ _ _ _ dX10_lastsOf_41 rfl hE (cutP (isC := [1, 0, 2]) hP rfl) (cutD (isC := [1, 0, 2]) hD rfl rfl) hS
  · replace hF := hF.1 c_5
    rw [if_pos c_5] at hE
    refine lv_aload_n hx hb dX10_lastsOf_24 rfl (lv_at hl 0 rfl) ?_
    refine va_get (D := D) (ci := 10) (v := .int ((f_m_quarrels G f10 c_ t_ (f0 ((0 + c_) : Int32).toNatClampNeg) 1000000000) 32)) (C := RX10) (T := TX10) (N := 45) hx hb hts iX10 hown hK hP 1 rfl rfl 32 (Nat.le_of_ble_eq_true rfl) (hts _ wd_549) (fun _ h9 => h9) rfl dX10_lastsOf_25 ?_
    refine lv_if_le (tgt := 38) hx hb dX10_lastsOf_28 rfl (fun c_6 => ?_) (fun c_6 => ?_)
    · replace hF := hF.1 c_6
      rw [if_pos c_6] at hE
      refine lv_sipush (v := 999) hx hb dX10_lastsOf_38 rfl ?_
      exact hret 999 (f_m_quarrels G f10 c_ t_ (f0 ((0 + c_) : Int32).toNatClampNeg) 1000000000) _ _ _ _ dX10_lastsOf_41 rfl hE (cutP (isC := [1, 0, 2]) hP rfl) (cutD (isC := [1, 0, 2]) hD rfl rfl) hS
    · replace hF := hF.2 c_6
      rw [if_neg c_6] at hE
      refine lv_aload_n hx hb dX10_lastsOf_31 rfl (lv_at hl 0 rfl) ?_
      refine va_get (D := D) (ci := 10) (v := .int ((f_m_quarrels G f10 c_ t_ (f0 ((0 + c_) : Int32).toNatClampNeg) 1000000000) 32)) (C := RX10) (T := TX10) (N := 45) hx hb hts iX10 hown hK hP 1 rfl rfl 32 (Nat.le_of_ble_eq_true rfl) (hts _ wd_549) (fun _ h9 => h9) rfl dX10_lastsOf_32 ?_
      refine lv_goto (tgt := 41) hx hb dX10_lastsOf_35 rfl ?_
      exact hret ((f_m_quarrels G f10 c_ t_ (f0 ((0 + c_) : Int32).toNatClampNeg) 1000000000) 32) (f_m_quarrels G f10 c_ t_ (f0 ((0 + c_) : Int32).toNatClampNeg) 1000000000) _ _ _ _ dX10_lastsOf_41 rfl hE (cutP (isC := [1, 0, 2]) hP rfl) (cutD (isC := [1, 0, 2]) hD rfl rfl) hS
noncomputable def f_m_lasts (G : Nat → Int32) (f0 : Nat → Int32) (f10 : Nat → Int32) (c_ : Int32) (t_ : Int32) : Int32 × (Nat → Int32) := (if (f_m_isCouple G c_) = 0 then ((-1000000001), G) else (if (f_m_isTheme G t_) = 0 then ((-1000000001), G) else (if (f_m_isDone f0 c_) = 0 then (match (f_m_lastsOf G f0 f10 c_ t_) with | (r_15, u_14) => (r_15, u_14)) else ((-1000000003), G))))
def S_m_lasts (G : Nat → Int32) (f0 : Nat → Int32) (f10 : Nat → Int32) (c_ : Int32) (t_ : Int32) : Prop := ((S_m_isCouple G c_) ∧ (((f_m_isCouple G c_) = 0 → True) ∧ (¬ (f_m_isCouple G c_) = 0 → ((S_m_isTheme G t_) ∧ (((f_m_isTheme G t_) = 0 → True) ∧ (¬ (f_m_isTheme G t_) = 0 → ((S_m_isDone f0 c_) ∧ (((f_m_isDone f0 c_) = 0 → ((S_m_lastsOf G f0 f10 c_ t_) ∧ (∀ (r_15 : Int32) (u_14 : (Nat → Int32)), (r_15, u_14) = (f_m_lastsOf G f0 f10 c_ t_) → True))) ∧ (¬ (f_m_isDone f0 c_) = 0 → True)))))))))
def rm_m_lasts : Room := { frames := 3, cells := 0, slots := 0, locals := 72 }
set_option maxHeartbeats 4000000 in
set_option maxRecDepth 100000 in
theorem m_lasts {l : Launch} {D : va_G} {cI cZ : ClassId} {sz : Nat} (Rf : Nat → Nat) (h : Nat) (G : Nat → Int32) (f0 : Nat → Int32) (f10 : Nat → Int32) (c_ : Int32) (t_ : Int32) (hF : S_m_lasts G f0 f10 c_ t_) : KI l yX10_lasts cX10_lasts 3 (some .int) rm_m_lasts D cI cZ [.ref h, .int c_, .int t_] sz [(h, .inr (10, ML G Rf)), ((Rf 0), .inl (cI, 1302, .inl f0)), ((Rf 10), .inl (cI, 30, .inl f10))] (fun (r : Int32) (u : (Nat → Int32)) => (r, u) = f_m_lasts G f0 f10 c_ t_) (fun (u : (Nat → Int32)) => [(h, .inr (10, ML u Rf)), ((Rf 0), .inl (cI, 1302, .inl f0)), ((Rf 10), .inl (cI, 30, .inl f10))]) := by
  refine KI.go rfl (Nat.le_of_ble_eq_true rfl) ?_
  intro p e s m args below meth c ls A Q hx hb hml hts hown hin hP hK hD hS hA hN hl hret
  have hl : lv_has ls 3 [(0, .ref h), (1, .int c_), (2, .int t_)] := hl
  rw [S_m_lasts] at hF
  obtain ⟨RES, hE⟩ : ∃ xRES, f_m_lasts G f0 f10 c_ t_ = xRES := ⟨_, rfl⟩
  rw [hE] at hret
  rw [f_m_lasts] at hE
  refine lv_aload_n hx hb dX10_lasts_0 rfl (lv_at hl 0 rfl) ?_
  refine lv_iload_n hx hb dX10_lasts_1 rfl (lv_at hl 1 rfl) ?_
  obtain ⟨hs_1, hF⟩ := hF
  refine cVi (wr := [((Rf 0), .inl (cI, 1302, .inl f0)), ((Rf 10), .inl (cI, 30, .inl f10))]) (rest := []) (m_isCouple Rf h G c_ hs_1) okV_X10_isCouple wd_581 hx hb hml hown hts hK hP hD hS hA hN hl.1 [0] [1, 2] rfl rfl rfl rfl (of_decide_eq_true rfl) rfl rfl rfl (Nat.le_of_ble_eq_true rfl) (Nat.le_of_ble_eq_true rfl) (Nat.le_of_ble_eq_true rfl) (Nat.le_of_ble_eq_true rfl) (Nat.le_of_ble_eq_true rfl) dX10_lasts_2 (fun r_3 u_2 H locs hw_u_2 hP hD hS => ?_)
  replace hw_u_2 : r_3 = (f_m_isCouple G c_) := hw_u_2
  rw [hw_u_2]
  clear hw_u_2
  have hP : va_P D classes [((Rf 0), .inl (cI, 1302, .inl f0)), ((Rf 10), .inl (cI, 30, .inl f10)), (h, .inr (10, ML G Rf))] H := hP
  have hD : va_D A [((Rf 0), .inl (cI, 1302, .inl f0)), ((Rf 10), .inl (cI, 30, .inl f10)), (h, .inr (10, ML G Rf))] := hD
  refine lv_if_eq (tgt := 16) hx hb dX10_lasts_5 rfl (fun c_4 => ?_) (fun c_4 => ?_)
  · replace hF := hF.1 c_4
    rw [if_pos c_4] at hE
    refine lv_ldc (v := (-1000000001)) hx hb hown (hts _ wd_580) dX10_lasts_16 ?_
    exact hret (-1000000001) G _ _ _ _ dX10_lasts_18 rfl hE (cutP (isC := [2, 0, 1]) hP rfl) (cutD (isC := [2, 0, 1]) hD rfl rfl) hS
  · replace hF := hF.2 c_4
    rw [if_neg c_4] at hE
    refine lv_aload_n hx hb dX10_lasts_8 rfl (lv_at hl 0 rfl) ?_
    refine lv_iload_n hx hb dX10_lasts_9 rfl (lv_at hl 2 rfl) ?_
    obtain ⟨hs_5, hF⟩ := hF
    refine cVi (wr := [((Rf 0), .inl (cI, 1302, .inl f0)), ((Rf 10), .inl (cI, 30, .inl f10))]) (rest := []) (m_isTheme Rf h G t_ hs_5) okV_X10_isTheme wd_585 hx hb hml hown hts hK hP hD hS hA hN hl.1 [2] [0, 1] rfl rfl rfl rfl (of_decide_eq_true rfl) rfl rfl rfl (Nat.le_of_ble_eq_true rfl) (Nat.le_of_ble_eq_true rfl) (Nat.le_of_ble_eq_true rfl) (Nat.le_of_ble_eq_true rfl) (Nat.le_of_ble_eq_true rfl) dX10_lasts_10 (fun r_7 u_6 H locs hw_u_6 hP hD hS => ?_)
    replace hw_u_6 : r_7 = (f_m_isTheme G t_) := hw_u_6
    rw [hw_u_6]
    clear hw_u_6
    have hP : va_P D classes [((Rf 0), .inl (cI, 1302, .inl f0)), ((Rf 10), .inl (cI, 30, .inl f10)), (h, .inr (10, ML G Rf))] H := hP
    have hD : va_D A [((Rf 0), .inl (cI, 1302, .inl f0)), ((Rf 10), .inl (cI, 30, .inl f10)), (h, .inr (10, ML G Rf))] := hD
    refine lv_if_ne (tgt := 19) hx hb dX10_lasts_13 rfl (fun c_8 => ?_) (fun c_8 => ?_)
    · replace hF := hF.2 c_8
      rw [if_neg c_8] at hE
      refine lv_aload_n hx hb dX10_lasts_19 rfl (lv_at hl 0 rfl) ?_
      refine lv_iload_n hx hb dX10_lasts_20 rfl (lv_at hl 1 rfl) ?_
      obtain ⟨hs_9, hF⟩ := hF
      refine cVi (wr := [((Rf 10), .inl (cI, 30, .inl f10))]) (rest := []) (m_isDone Rf h G f0 c_ hs_9) okV_X10_isDone wd_567 hx hb hml hown hts hK hP hD hS hA hN hl.1 [2, 0] [1] rfl rfl rfl rfl (of_decide_eq_true rfl) rfl rfl rfl (Nat.le_of_ble_eq_true rfl) (Nat.le_of_ble_eq_true rfl) (Nat.le_of_ble_eq_true rfl) (Nat.le_of_ble_eq_true rfl) (Nat.le_of_ble_eq_true rfl) dX10_lasts_21 (fun r_11 u_10 H locs hw_u_10 hP hD hS => ?_)
      replace hw_u_10 : r_11 = (f_m_isDone f0 c_) := hw_u_10
      rw [hw_u_10]
      clear hw_u_10
      have hP : va_P D classes [((Rf 10), .inl (cI, 30, .inl f10)), (h, .inr (10, ML G Rf)), ((Rf 0), .inl (cI, 1302, .inl f0))] H := hP
      have hD : va_D A [((Rf 10), .inl (cI, 30, .inl f10)), (h, .inr (10, ML G Rf)), ((Rf 0), .inl (cI, 1302, .inl f0))] := hD
      refine lv_if_eq (tgt := 32) hx hb dX10_lasts_24 rfl (fun c_12 => ?_) (fun c_12 => ?_)
      · replace hF := hF.1 c_12
        rw [if_pos c_12] at hE
        refine lv_aload_n hx hb dX10_lasts_32 rfl (lv_at hl 0 rfl) ?_
        refine lv_iload_n hx hb dX10_lasts_33 rfl (lv_at hl 1 rfl) ?_
        refine lv_iload_n hx hb dX10_lasts_34 rfl (lv_at hl 2 rfl) ?_
        obtain ⟨hs_13, hF⟩ := hF
        refine cVi (wr := []) (rest := []) (m_lastsOf Rf h G f0 f10 c_ t_ hs_13) okV_X10_lastsOf wd_652 hx hb hml hown hts hK hP hD hS hA hN hl.1 [1, 2, 0] [] rfl rfl rfl rfl (of_decide_eq_true rfl) rfl rfl rfl (Nat.le_of_ble_eq_true rfl) (Nat.le_of_ble_eq_true rfl) (Nat.le_of_ble_eq_true rfl) (Nat.le_of_ble_eq_true rfl) (Nat.le_of_ble_eq_true rfl) dX10_lasts_35 (fun r_15 u_14 H locs hw_u_14 hP hD hS => ?_)
        replace hw_u_14 : (r_15, u_14) = (f_m_lastsOf G f0 f10 c_ t_) := hw_u_14
        replace hF := hF r_15 u_14 hw_u_14
        rw [← hw_u_14] at hE
        replace hE : ((r_15, u_14) : Int32 × (Nat → Int32)) = RES := hE
        have hP : va_P D classes [(h, .inr (10, ML u_14 Rf)), ((Rf 0), .inl (cI, 1302, .inl f0)), ((Rf 10), .inl (cI, 30, .inl f10))] H := hP
        have hD : va_D A [(h, .inr (10, ML u_14 Rf)), ((Rf 0), .inl (cI, 1302, .inl f0)), ((Rf 10), .inl (cI, 30, .inl f10))] := hD
        exact hret r_15 u_14 _ _ _ _ dX10_lasts_38 rfl hE hP hD hS
      · replace hF := hF.2 c_12
        rw [if_neg c_12] at hE
        refine lv_ldc (v := (-1000000003)) hx hb hown (hts _ wd_562) dX10_lasts_27 ?_
        refine lv_goto (tgt := 38) hx hb dX10_lasts_29 rfl ?_
        exact hret (-1000000003) G _ _ _ _ dX10_lasts_38 rfl hE (cutP (isC := [1, 2, 0]) hP rfl) (cutD (isC := [1, 2, 0]) hD rfl rfl) hS
    · replace hF := hF.1 c_8
      rw [if_pos c_8] at hE
      refine lv_ldc (v := (-1000000001)) hx hb hown (hts _ wd_580) dX10_lasts_16 ?_
      exact hret (-1000000001) G _ _ _ _ dX10_lasts_18 rfl hE (cutP (isC := [2, 0, 1]) hP rfl) (cutD (isC := [2, 0, 1]) hD rfl rfl) hS
noncomputable def f_m_best_17 (f0 : Nat → Int32) (f10 : Nat → Int32) (f8 : Nat → Int32) (c_ : Int32) (b_ : Int32) (n : Nat) : Int32 → Int32 → Int32 → (Nat → Int32) → Int32 × Int32 × Int32 × (Nat → Int32) := Nat.rec (motive := fun _ => Int32 → Int32 → Int32 → (Nat → Int32) → Int32 × Int32 × Int32 × (Nat → Int32)) (fun w_1l5 w_1l4 w_1l3 w_1m0 => (w_1l5, w_1l4, w_1l3, w_1m0)) (fun n ih w_1l5 w_1l4 w_1l3 w_1m0 => (if (w_1m0 4) ≤ w_1l5 then (w_1l5, w_1l4, w_1l3, w_1m0) else (match (f_m_opens w_1m0 f0 f10 f8 c_ b_ w_1l5) with | (r_5, u_4) => (if r_5 = 0 then (ih (w_1l5 + 1) w_1l4 w_1l3 u_4) else (if (u_4 32) < w_1l4 then (ih (w_1l5 + 1) (u_4 32) w_1l5 (upd u_4 35 ((f0 ((0 + c_) : Int32).toNatClampNeg) - (u_4 33)))) else (if (u_4 32) = w_1l4 then (if (u_4 35) ≤ ((f0 ((0 + c_) : Int32).toNatClampNeg) - (u_4 33)) then (ih (w_1l5 + 1) w_1l4 w_1l3 (upd u_4 35 (u_4 35))) else (ih (w_1l5 + 1) (u_4 32) w_1l5 (upd u_4 35 ((f0 ((0 + c_) : Int32).toNatClampNeg) - (u_4 33))))) else (ih (w_1l5 + 1) w_1l4 w_1l3 (upd u_4 35 (u_4 35))))))))) n
theorem f_m_best_17_s (f0 : Nat → Int32) (f10 : Nat → Int32) (f8 : Nat → Int32) (c_ : Int32) (b_ : Int32) (n : Nat) (w_1l5 : Int32) (w_1l4 : Int32) (w_1l3 : Int32) (w_1m0 : (Nat → Int32)) : f_m_best_17 f0 f10 f8 c_ b_ (n + 1) w_1l5 w_1l4 w_1l3 w_1m0 = (if (w_1m0 4) ≤ w_1l5 then (w_1l5, w_1l4, w_1l3, w_1m0) else (match (f_m_opens w_1m0 f0 f10 f8 c_ b_ w_1l5) with | (r_5, u_4) => (if r_5 = 0 then (f_m_best_17 f0 f10 f8 c_ b_ n (w_1l5 + 1) w_1l4 w_1l3 u_4) else (if (u_4 32) < w_1l4 then (f_m_best_17 f0 f10 f8 c_ b_ n (w_1l5 + 1) (u_4 32) w_1l5 (upd u_4 35 ((f0 ((0 + c_) : Int32).toNatClampNeg) - (u_4 33)))) else (if (u_4 32) = w_1l4 then (if (u_4 35) ≤ ((f0 ((0 + c_) : Int32).toNatClampNeg) - (u_4 33)) then (f_m_best_17 f0 f10 f8 c_ b_ n (w_1l5 + 1) w_1l4 w_1l3 (upd u_4 35 (u_4 35))) else (f_m_best_17 f0 f10 f8 c_ b_ n (w_1l5 + 1) (u_4 32) w_1l5 (upd u_4 35 ((f0 ((0 + c_) : Int32).toNatClampNeg) - (u_4 33))))) else (f_m_best_17 f0 f10 f8 c_ b_ n (w_1l5 + 1) w_1l4 w_1l3 (upd u_4 35 (u_4 35)))))))) := rfl
def S_m_best_17 (f0 : Nat → Int32) (f10 : Nat → Int32) (f8 : Nat → Int32) (c_ : Int32) (b_ : Int32) (K : Int32 → Int32 → Int32 → (Nat → Int32) → Prop) (n : Nat) : Int32 → Int32 → Int32 → (Nat → Int32) → Prop := Nat.rec (motive := fun _ => Int32 → Int32 → Int32 → (Nat → Int32) → Prop) (fun _ _ _ _ => False) (fun n ih w_1l5 w_1l4 w_1l3 w_1m0 => (((w_1m0 4) ≤ w_1l5 → (K w_1l5 w_1l4 w_1l3 w_1m0)) ∧ (¬ (w_1m0 4) ≤ w_1l5 → ((S_m_opens w_1m0 f0 f10 f8 c_ b_ w_1l5) ∧ (∀ (r_5 : Int32) (u_4 : (Nat → Int32)), (r_5, u_4) = (f_m_opens w_1m0 f0 f10 f8 c_ b_ w_1l5) → ((r_5 = 0 → (ih (w_1l5 + 1) w_1l4 w_1l3 u_4)) ∧ (¬ r_5 = 0 → (vp_in (0 + c_) 1302 ∧ (((u_4 32) < w_1l4 → (ih (w_1l5 + 1) (u_4 32) w_1l5 (upd u_4 35 ((f0 ((0 + c_) : Int32).toNatClampNeg) - (u_4 33))))) ∧ (¬ (u_4 32) < w_1l4 → (((u_4 32) = w_1l4 → (((u_4 35) ≤ ((f0 ((0 + c_) : Int32).toNatClampNeg) - (u_4 33)) → (ih (w_1l5 + 1) w_1l4 w_1l3 (upd u_4 35 (u_4 35)))) ∧ (¬ (u_4 35) ≤ ((f0 ((0 + c_) : Int32).toNatClampNeg) - (u_4 33)) → (ih (w_1l5 + 1) (u_4 32) w_1l5 (upd u_4 35 ((f0 ((0 + c_) : Int32).toNatClampNeg) - (u_4 33))))))) ∧ (¬ (u_4 32) = w_1l4 → (ih (w_1l5 + 1) w_1l4 w_1l3 (upd u_4 35 (u_4 35))))))))))))))) n
theorem S_m_best_17_s (f0 : Nat → Int32) (f10 : Nat → Int32) (f8 : Nat → Int32) (c_ : Int32) (b_ : Int32) (K : Int32 → Int32 → Int32 → (Nat → Int32) → Prop) (n : Nat) (w_1l5 : Int32) (w_1l4 : Int32) (w_1l3 : Int32) (w_1m0 : (Nat → Int32)) : S_m_best_17 f0 f10 f8 c_ b_ K (n + 1) w_1l5 w_1l4 w_1l3 w_1m0 = ((((w_1m0 4) ≤ w_1l5 → (K w_1l5 w_1l4 w_1l3 w_1m0)) ∧ (¬ (w_1m0 4) ≤ w_1l5 → ((S_m_opens w_1m0 f0 f10 f8 c_ b_ w_1l5) ∧ (∀ (r_5 : Int32) (u_4 : (Nat → Int32)), (r_5, u_4) = (f_m_opens w_1m0 f0 f10 f8 c_ b_ w_1l5) → ((r_5 = 0 → (S_m_best_17 f0 f10 f8 c_ b_ K n (w_1l5 + 1) w_1l4 w_1l3 u_4)) ∧ (¬ r_5 = 0 → (vp_in (0 + c_) 1302 ∧ (((u_4 32) < w_1l4 → (S_m_best_17 f0 f10 f8 c_ b_ K n (w_1l5 + 1) (u_4 32) w_1l5 (upd u_4 35 ((f0 ((0 + c_) : Int32).toNatClampNeg) - (u_4 33))))) ∧ (¬ (u_4 32) < w_1l4 → (((u_4 32) = w_1l4 → (((u_4 35) ≤ ((f0 ((0 + c_) : Int32).toNatClampNeg) - (u_4 33)) → (S_m_best_17 f0 f10 f8 c_ b_ K n (w_1l5 + 1) w_1l4 w_1l3 (upd u_4 35 (u_4 35)))) ∧ (¬ (u_4 35) ≤ ((f0 ((0 + c_) : Int32).toNatClampNeg) - (u_4 33)) → (S_m_best_17 f0 f10 f8 c_ b_ K n (w_1l5 + 1) (u_4 32) w_1l5 (upd u_4 35 ((f0 ((0 + c_) : Int32).toNatClampNeg) - (u_4 33))))))) ∧ (¬ (u_4 32) = w_1l4 → (S_m_best_17 f0 f10 f8 c_ b_ K n (w_1l5 + 1) w_1l4 w_1l3 (upd u_4 35 (u_4 35))))))))))))))) := rfl
noncomputable def f_m_best (G : Nat → Int32) (f0 : Nat → Int32) (f10 : Nat → Int32) (f8 : Nat → Int32) (c_ : Int32) (b_ : Int32) : Int32 × (Nat → Int32) := (match ((f_m_best_17 f0 f10 f8 c_ b_ 10 0 999 (-1) (upd G 35 999)) : Int32 × Int32 × Int32 × (Nat → Int32)) with | (w_1l5, w_1l4, w_1l3, w_1m0) => (w_1l3, w_1m0))
def S_m_best (G : Nat → Int32) (f0 : Nat → Int32) (f10 : Nat → Int32) (f8 : Nat → Int32) (c_ : Int32) (b_ : Int32) : Prop := (S_m_best_17 f0 f10 f8 c_ b_ (fun (w_1l5 : Int32) (w_1l4 : Int32) (w_1l3 : Int32) (w_1m0 : (Nat → Int32)) => True) 10 0 999 (-1) (upd G 35 999))
def rm_m_best : Room := { frames := 3, cells := 0, slots := 0, locals := 73 }
set_option maxHeartbeats 4000000 in
set_option maxRecDepth 100000 in
theorem m_best {l : Launch} {D : va_G} {cI cZ : ClassId} {sz : Nat} (Rf : Nat → Nat) (h : Nat) (G : Nat → Int32) (f0 : Nat → Int32) (f10 : Nat → Int32) (f8 : Nat → Int32) (c_ : Int32) (b_ : Int32) (hF : S_m_best G f0 f10 f8 c_ b_) : KI l yX10_best cX10_best 8 (some .int) rm_m_best D cI cZ [.ref h, .int c_, .int b_] sz [(h, .inr (10, ML G Rf)), ((Rf 0), .inl (cI, 1302, .inl f0)), ((Rf 10), .inl (cI, 30, .inl f10)), ((Rf 8), .inl (cI, 6, .inl f8))] (fun (r : Int32) (u : (Nat → Int32)) => (r, u) = f_m_best G f0 f10 f8 c_ b_) (fun (u : (Nat → Int32)) => [(h, .inr (10, ML u Rf)), ((Rf 0), .inl (cI, 1302, .inl f0)), ((Rf 10), .inl (cI, 30, .inl f10)), ((Rf 8), .inl (cI, 6, .inl f8))]) := by
  refine KI.go rfl (Nat.le_of_ble_eq_true rfl) ?_
  intro p e s m args below meth c ls A Q hx hb hml hts hown hin hP hK hD hS hA hN hl hret
  have hl : lv_has ls 8 [(0, .ref h), (1, .int c_), (2, .int b_)] := hl
  rw [S_m_best] at hF
  obtain ⟨RES, hE⟩ : ∃ xRES, f_m_best G f0 f10 f8 c_ b_ = xRES := ⟨_, rfl⟩
  rw [hE] at hret
  rw [f_m_best] at hE
  refine lv_iconst (v := (-1)) hx hb dX10_best_0 rfl ?_
  refine lv_istore_n (lv' := [(3, .int (-1)), (0, .ref h), (1, .int c_), (2, .int b_)]) hx hb dX10_best_1 rfl hl (Nat.le_of_ble_eq_true rfl) rfl (fun ls hl => ?_)
  refine lv_sipush (v := 999) hx hb dX10_best_2 rfl ?_
  refine lv_istore (lv' := [(4, .int 999), (3, .int (-1)), (0, .ref h), (1, .int c_), (2, .int b_)]) hx hb dX10_best_5 hl (Nat.le_of_ble_eq_true rfl) rfl (fun ls hl => ?_)
  refine lv_aload_n hx hb dX10_best_7 rfl (lv_at hl 2 rfl) ?_
  refine lv_sipush (v := 999) hx hb dX10_best_8 rfl ?_
  refine va_put (D := D) (ci := 10) (v := .int 999) (ty := .int) (C := RX10) (T := TX10) (N := 45) hx hb hts iX10 tyX10 tyX10_ok nmX10 hown hK hP hD hS 0 rfl rfl 35 (Nat.le_of_ble_eq_true rfl) (hts _ wd_656) (fun _ h9 => h9) rfl (by decide +kernel) rfl rfl (Nat.le_of_ble_eq_true rfl) dX10_best_11 (fun H locs hP hD hS => ?_)
  have hP : va_P D classes [(h, .inr (10, ML (upd G 35 999) Rf)), ((Rf 0), .inl (cI, 1302, .inl f0)), ((Rf 10), .inl (cI, 30, .inl f10)), ((Rf 8), .inl (cI, 6, .inl f8))] H := hP
  have hD : va_D A [(h, .inr (10, ML (upd G 35 999) Rf)), ((Rf 0), .inl (cI, 1302, .inl f0)), ((Rf 10), .inl (cI, 30, .inl f10)), ((Rf 8), .inl (cI, 6, .inl f8))] := hD
  refine lv_iconst (v := 0) hx hb dX10_best_14 rfl ?_
  refine lv_istore (lv' := [(5, .int 0), (4, .int 999), (3, .int (-1)), (0, .ref h), (1, .int c_), (2, .int b_)]) hx hb dX10_best_15 hl (Nat.le_of_ble_eq_true rfl) rfl (fun ls hl => ?_)
  have ex_17_w_1 : ∀ (w_1l5 : Int32) (w_1l4 : Int32) (w_1l3 : Int32) (w_1m0 : (Nat → Int32)) (H : Heap) (locs : List Loc) (ls : Array Slot), va_P D classes [(h, .inr (10, ML w_1m0 Rf)), ((Rf 0), .inl (cI, 1302, .inl f0)), ((Rf 10), .inl (cI, 30, .inl f10)), ((Rf 8), .inl (cI, 6, .inl f8))] H → va_D A [(h, .inr (10, ML w_1m0 Rf)), ((Rf 0), .inl (cI, 1302, .inl f0)), ((Rf 10), .inl (cI, 30, .inl f10)), ((Rf 8), .inl (cI, 6, .inl f8))] → va_S A s.heap H locs → lv_has ls 8 [(5, .int w_1l5), (4, .int w_1l4), (3, .int w_1l3), (0, .ref h), (1, .int c_), (2, .int b_)] → (True) → (((w_1l3, w_1m0)) : Int32 × (Nat → Int32)) = RES → W p l e rm_m_best s m args below meth c H locs 0 0 Q (F0 m 138 ls []) := by
    intro w_1l5 w_1l4 w_1l3 w_1m0 H locs ls hP hD hS hl hF hE
    refine lv_iload_n hx hb dX10_best_138 rfl (lv_at hl 2 rfl) ?_
    exact hret w_1l3 w_1m0 _ _ _ _ dX10_best_139 rfl hE hP hD hS
  have lp_17_w_1 : ∀ (n_w_1 : Nat) (w_1l5 : Int32) (w_1l4 : Int32) (w_1l3 : Int32) (w_1m0 : (Nat → Int32)) (H : Heap) (locs : List Loc) (ls : Array Slot), va_P D classes [(h, .inr (10, ML w_1m0 Rf)), ((Rf 0), .inl (cI, 1302, .inl f0)), ((Rf 10), .inl (cI, 30, .inl f10)), ((Rf 8), .inl (cI, 6, .inl f8))] H → va_D A [(h, .inr (10, ML w_1m0 Rf)), ((Rf 0), .inl (cI, 1302, .inl f0)), ((Rf 10), .inl (cI, 30, .inl f10)), ((Rf 8), .inl (cI, 6, .inl f8))] → va_S A s.heap H locs → lv_has ls 8 [(5, .int w_1l5), (4, .int w_1l4), (3, .int w_1l3), (0, .ref h), (1, .int c_), (2, .int b_)] → (S_m_best_17 f0 f10 f8 c_ b_ (fun (w_1l5 : Int32) (w_1l4 : Int32) (w_1l3 : Int32) (w_1m0 : (Nat → Int32)) => True) n_w_1 w_1l5 w_1l4 w_1l3 w_1m0) → ((match ((f_m_best_17 f0 f10 f8 c_ b_ n_w_1 w_1l5 w_1l4 w_1l3 w_1m0) : Int32 × Int32 × Int32 × (Nat → Int32)) with | (w_1l5, w_1l4, w_1l3, w_1m0) => (w_1l3, w_1m0)) : Int32 × (Nat → Int32)) = RES → W p l e rm_m_best s m args below meth c H locs 0 0 Q (F0 m 17 ls []) := by
    intro n_w_1
    induction n_w_1 with
    | zero => intro w_1l5 w_1l4 w_1l3 w_1m0 H locs ls hP hD hS hl hF hE; exact False.elim hF
    | succ n_w_1 ih_w_1 =>
      intro w_1l5 w_1l4 w_1l3 w_1m0 H locs ls hP hD hS hl hF hE
      rw [S_m_best_17_s] at hF
      rw [f_m_best_17_s] at hE
      refine lv_iload hx hb dX10_best_17 (lv_at hl 0 rfl) ?_
      refine lv_aload_n hx hb dX10_best_19 rfl (lv_at hl 3 rfl) ?_
      refine va_get (D := D) (ci := 10) (v := .int (w_1m0 4)) (C := RX10) (T := TX10) (N := 45) hx hb hts iX10 hown hK hP 0 rfl rfl 4 (Nat.le_of_ble_eq_true rfl) (hts _ wd_500) (fun _ h9 => h9) rfl dX10_best_20 ?_
      refine lv_icmp_ge (tgt := 138) hx hb dX10_best_23 rfl (fun c_2 => ?_) (fun c_2 => ?_)
      · replace hF := hF.1 c_2
        rw [if_pos c_2] at hE
        exact ex_17_w_1 w_1l5 w_1l4 w_1l3 w_1m0 _ _ ls hP hD hS (lv_sub hl [0, 1, 2, 3, 4, 5] rfl) hF hE
      · replace hF := hF.2 c_2
        rw [if_neg c_2] at hE
        refine lv_aload_n hx hb dX10_best_26 rfl (lv_at hl 3 rfl) ?_
        refine lv_iload_n hx hb dX10_best_27 rfl (lv_at hl 4 rfl) ?_
        refine lv_iload_n hx hb dX10_best_28 rfl (lv_at hl 5 rfl) ?_
        refine lv_iload hx hb dX10_best_29 (lv_at hl 0 rfl) ?_
        obtain ⟨hs_3, hF⟩ := hF
        refine cVi (wr := []) (rest := []) (m_opens Rf h w_1m0 f0 f10 f8 c_ b_ w_1l5 hs_3) okV_X10_opens wd_647 hx hb hml hown hts hK hP hD hS hA hN hl.1 [0, 1, 2, 3] [] rfl rfl rfl rfl (of_decide_eq_true rfl) rfl rfl rfl (Nat.le_of_ble_eq_true rfl) (Nat.le_of_ble_eq_true rfl) (Nat.le_of_ble_eq_true rfl) (Nat.le_of_ble_eq_true rfl) (Nat.le_of_ble_eq_true rfl) dX10_best_31 (fun r_5 u_4 H locs hw_u_4 hP hD hS => ?_)
        replace hw_u_4 : (r_5, u_4) = (f_m_opens w_1m0 f0 f10 f8 c_ b_ w_1l5) := hw_u_4
        replace hF := hF r_5 u_4 hw_u_4
        rw [← hw_u_4] at hE
        replace hE : ((match ((if r_5 = 0 then (f_m_best_17 f0 f10 f8 c_ b_ n_w_1 (w_1l5 + 1) w_1l4 w_1l3 u_4) else (if (u_4 32) < w_1l4 then (f_m_best_17 f0 f10 f8 c_ b_ n_w_1 (w_1l5 + 1) (u_4 32) w_1l5 (upd u_4 35 ((f0 ((0 + c_) : Int32).toNatClampNeg) - (u_4 33)))) else (if (u_4 32) = w_1l4 then (if (u_4 35) ≤ ((f0 ((0 + c_) : Int32).toNatClampNeg) - (u_4 33)) then (f_m_best_17 f0 f10 f8 c_ b_ n_w_1 (w_1l5 + 1) w_1l4 w_1l3 (upd u_4 35 (u_4 35))) else (f_m_best_17 f0 f10 f8 c_ b_ n_w_1 (w_1l5 + 1) (u_4 32) w_1l5 (upd u_4 35 ((f0 ((0 + c_) : Int32).toNatClampNeg) - (u_4 33))))) else (f_m_best_17 f0 f10 f8 c_ b_ n_w_1 (w_1l5 + 1) w_1l4 w_1l3 (upd u_4 35 (u_4 35)))))) : Int32 × Int32 × Int32 × (Nat → Int32)) with | (w_1l5, w_1l4, w_1l3, w_1m0) => (w_1l3, w_1m0)) : Int32 × (Nat → Int32)) = RES := hE
        have hP : va_P D classes [(h, .inr (10, ML u_4 Rf)), ((Rf 0), .inl (cI, 1302, .inl f0)), ((Rf 10), .inl (cI, 30, .inl f10)), ((Rf 8), .inl (cI, 6, .inl f8))] H := hP
        have hD : va_D A [(h, .inr (10, ML u_4 Rf)), ((Rf 0), .inl (cI, 1302, .inl f0)), ((Rf 10), .inl (cI, 30, .inl f10)), ((Rf 8), .inl (cI, 6, .inl f8))] := hD
        refine lv_if_eq (tgt := 132) hx hb dX10_best_34 rfl (fun c_6 => ?_) (fun c_6 => ?_)
        · replace hF := hF.1 c_6
          rw [if_pos c_6] at hE
          subst c_6
          refine lv_iinc (v := (w_1l5 + 1)) (lv' := [(5, .int (w_1l5 + 1)), (4, .int w_1l4), (3, .int w_1l3), (0, .ref h), (1, .int c_), (2, .int b_)]) hx hb dX10_best_132 hl (k := 0) rfl rfl (Nat.le_of_ble_eq_true rfl) rfl (fun ls hl => ?_)
          refine lv_goto (tgt := 17) hx hb dX10_best_135 rfl ?_
          exact ih_w_1 (w_1l5 + 1) w_1l4 w_1l3 u_4 _ _ ls hP hD hS (lv_sub hl [0, 1, 2, 3, 4, 5] rfl) hF hE
        · replace hF := hF.2 c_6
          rw [if_neg c_6] at hE
          refine lv_aload_n hx hb dX10_best_37 rfl (lv_at hl 3 rfl) ?_
          refine va_get (D := D) (ci := 10) (v := .ref (Rf 0)) (C := RX10) (T := TX10) (N := 45) hx hb hts iX10 hown hK hP 0 rfl rfl 0 (Nat.le_of_ble_eq_true rfl) (hts _ wd_491) (fun _ h9 => h9) rfl dX10_best_38 ?_
          refine lv_iconst (v := 0) hx hb dX10_best_41 rfl ?_
          refine lv_iload_n hx hb dX10_best_42 rfl (lv_at hl 4 rfl) ?_
          refine lv_iadd hx hb dX10_best_43 ?_
          obtain ⟨hv_7, hF⟩ := hF
          refine va_iald hx hb hK hP 1 0 rfl rfl hv_7 dX10_best_44 ?_
          refine lv_aload_n hx hb dX10_best_45 rfl (lv_at hl 3 rfl) ?_
          refine va_get (D := D) (ci := 10) (v := .int (u_4 33)) (C := RX10) (T := TX10) (N := 45) hx hb hts iX10 hown hK hP 0 rfl rfl 33 (Nat.le_of_ble_eq_true rfl) (hts _ wd_550) (fun _ h9 => h9) rfl dX10_best_46 ?_
          refine lv_isub hx hb dX10_best_49 ?_
          refine lv_istore (lv' := [(6, .int ((f0 ((0 + c_) : Int32).toNatClampNeg) - (u_4 33))), (5, .int w_1l5), (4, .int w_1l4), (3, .int w_1l3), (0, .ref h), (1, .int c_), (2, .int b_)]) hx hb dX10_best_50 hl (Nat.le_of_ble_eq_true rfl) rfl (fun ls hl => ?_)
          refine lv_aload_n hx hb dX10_best_52 rfl (lv_at hl 4 rfl) ?_
          refine va_get (D := D) (ci := 10) (v := .int (u_4 32)) (C := RX10) (T := TX10) (N := 45) hx hb hts iX10 hown hK hP 0 rfl rfl 32 (Nat.le_of_ble_eq_true rfl) (hts _ wd_549) (fun _ h9 => h9) rfl dX10_best_53 ?_
          refine lv_iload hx hb dX10_best_56 (lv_at hl 2 rfl) ?_
          refine lv_icmp_lt (tgt := 79) hx hb dX10_best_58 rfl (fun c_8 => ?_) (fun c_8 => ?_)
          · replace hF := hF.1 c_8
            rw [if_pos c_8] at hE
            refine lv_iconst (v := 1) hx hb dX10_best_79 rfl ?_
            refine lv_goto (tgt := 84) hx hb dX10_best_80 rfl ?_
            refine lv_istore (lv' := [(7, .int 1), (6, .int ((f0 ((0 + c_) : Int32).toNatClampNeg) - (u_4 33))), (5, .int w_1l5), (4, .int w_1l4), (3, .int w_1l3), (0, .ref h), (1, .int c_), (2, .int b_)]) hx hb dX10_best_84 hl (Nat.le_of_ble_eq_true rfl) rfl (fun ls hl => ?_)
            refine lv_iload hx hb dX10_best_86 (lv_at hl 0 rfl) ?_
            refine lv_if_eq (tgt := 96) hx hb dX10_best_88 rfl (fun c_9 => absurd c_9 (by decide +kernel)) (fun c_9 => ?_)
            refine lv_iload hx hb dX10_best_91 (lv_at hl 2 rfl) ?_
            refine lv_goto (tgt := 97) hx hb dX10_best_93 rfl ?_
            refine lv_istore_n (lv' := [(3, .int w_1l5), (7, .int 1), (6, .int ((f0 ((0 + c_) : Int32).toNatClampNeg) - (u_4 33))), (5, .int w_1l5), (4, .int w_1l4), (0, .ref h), (1, .int c_), (2, .int b_)]) hx hb dX10_best_97 rfl hl (Nat.le_of_ble_eq_true rfl) rfl (fun ls hl => ?_)
            refine lv_aload_n hx hb dX10_best_98 rfl (lv_at hl 5 rfl) ?_
            refine lv_iload hx hb dX10_best_99 (lv_at hl 1 rfl) ?_
            refine lv_if_eq (tgt := 109) hx hb dX10_best_101 rfl (fun c_10 => absurd c_10 (by decide +kernel)) (fun c_10 => ?_)
            refine lv_iload hx hb dX10_best_104 (lv_at hl 2 rfl) ?_
            refine lv_goto (tgt := 113) hx hb dX10_best_106 rfl ?_
            refine va_put (D := D) (ci := 10) (v := .int ((f0 ((0 + c_) : Int32).toNatClampNeg) - (u_4 33))) (ty := .int) (C := RX10) (T := TX10) (N := 45) hx hb hts iX10 tyX10 tyX10_ok nmX10 hown hK hP hD hS 0 rfl rfl 35 (Nat.le_of_ble_eq_true rfl) (hts _ wd_656) (fun _ h9 => h9) rfl (by decide +kernel) rfl rfl (Nat.le_of_ble_eq_true rfl) dX10_best_113 (fun H locs hP hD hS => ?_)
            have hP : va_P D classes [(h, .inr (10, ML (upd u_4 35 ((f0 ((0 + c_) : Int32).toNatClampNeg) - (u_4 33))) Rf)), ((Rf 0), .inl (cI, 1302, .inl f0)), ((Rf 10), .inl (cI, 30, .inl f10)), ((Rf 8), .inl (cI, 6, .inl f8))] H := hP
            have hD : va_D A [(h, .inr (10, ML (upd u_4 35 ((f0 ((0 + c_) : Int32).toNatClampNeg) - (u_4 33))) Rf)), ((Rf 0), .inl (cI, 1302, .inl f0)), ((Rf 10), .inl (cI, 30, .inl f10)), ((Rf 8), .inl (cI, 6, .inl f8))] := hD
            refine lv_iload hx hb dX10_best_116 (lv_at hl 1 rfl) ?_
            refine lv_if_eq (tgt := 128) hx hb dX10_best_118 rfl (fun c_11 => absurd c_11 (by decide +kernel)) (fun c_11 => ?_)
            refine lv_aload_n hx hb dX10_best_121 rfl (lv_at hl 5 rfl) ?_
            refine va_get (D := D) (ci := 10) (v := .int (u_4 32)) (C := RX10) (T := TX10) (N := 45) hx hb hts iX10 hown hK hP 0 rfl rfl 32 (Nat.le_of_ble_eq_true rfl) (hts _ wd_549) (fun _ h9 => h9) rfl dX10_best_122 ?_
            refine lv_goto (tgt := 130) hx hb dX10_best_125 rfl ?_
            refine lv_istore (lv' := [(4, .int (u_4 32)), (3, .int w_1l5), (7, .int 1), (6, .int ((f0 ((0 + c_) : Int32).toNatClampNeg) - (u_4 33))), (5, .int w_1l5), (0, .ref h), (1, .int c_), (2, .int b_)]) hx hb dX10_best_130 hl (Nat.le_of_ble_eq_true rfl) rfl (fun ls hl => ?_)
            refine lv_iinc (v := (w_1l5 + 1)) (lv' := [(5, .int (w_1l5 + 1)), (4, .int (u_4 32)), (3, .int w_1l5), (7, .int 1), (6, .int ((f0 ((0 + c_) : Int32).toNatClampNeg) - (u_4 33))), (0, .ref h), (1, .int c_), (2, .int b_)]) hx hb dX10_best_132 hl (k := 4) rfl rfl (Nat.le_of_ble_eq_true rfl) rfl (fun ls hl => ?_)
            refine lv_goto (tgt := 17) hx hb dX10_best_135 rfl ?_
            exact ih_w_1 (w_1l5 + 1) (u_4 32) w_1l5 (upd u_4 35 ((f0 ((0 + c_) : Int32).toNatClampNeg) - (u_4 33))) _ _ ls hP hD hS (lv_sub hl [0, 1, 2, 5, 6, 7] rfl) hF hE
          · replace hF := hF.2 c_8
            rw [if_neg c_8] at hE
            refine lv_aload_n hx hb dX10_best_61 rfl (lv_at hl 4 rfl) ?_
            refine va_get (D := D) (ci := 10) (v := .int (u_4 32)) (C := RX10) (T := TX10) (N := 45) hx hb hts iX10 hown hK hP 0 rfl rfl 32 (Nat.le_of_ble_eq_true rfl) (hts _ wd_549) (fun _ h9 => h9) rfl dX10_best_62 ?_
            refine lv_iload hx hb dX10_best_65 (lv_at hl 2 rfl) ?_
            refine lv_icmp_ne (tgt := 83) hx hb dX10_best_67 rfl (fun c_12 => ?_) (fun c_12 => ?_)
            · replace hF := hF.2 c_12
              rw [if_neg c_12] at hE
              refine lv_iconst (v := 0) hx hb dX10_best_83 rfl ?_
              refine lv_istore (lv' := [(7, .int 0), (6, .int ((f0 ((0 + c_) : Int32).toNatClampNeg) - (u_4 33))), (5, .int w_1l5), (4, .int w_1l4), (3, .int w_1l3), (0, .ref h), (1, .int c_), (2, .int b_)]) hx hb dX10_best_84 hl (Nat.le_of_ble_eq_true rfl) rfl (fun ls hl => ?_)
              refine lv_iload hx hb dX10_best_86 (lv_at hl 0 rfl) ?_
              refine lv_if_eq (tgt := 96) hx hb dX10_best_88 rfl (fun c_13 => ?_) (fun c_13 => absurd (by decide +kernel) c_13)
              refine lv_iload_n hx hb dX10_best_96 rfl (lv_at hl 4 rfl) ?_
              refine lv_istore_n (lv' := [(3, .int w_1l3), (7, .int 0), (6, .int ((f0 ((0 + c_) : Int32).toNatClampNeg) - (u_4 33))), (5, .int w_1l5), (4, .int w_1l4), (0, .ref h), (1, .int c_), (2, .int b_)]) hx hb dX10_best_97 rfl hl (Nat.le_of_ble_eq_true rfl) rfl (fun ls hl => ?_)
              refine lv_aload_n hx hb dX10_best_98 rfl (lv_at hl 5 rfl) ?_
              refine lv_iload hx hb dX10_best_99 (lv_at hl 1 rfl) ?_
              refine lv_if_eq (tgt := 109) hx hb dX10_best_101 rfl (fun c_14 => ?_) (fun c_14 => absurd (by decide +kernel) c_14)
              refine lv_aload_n hx hb dX10_best_109 rfl (lv_at hl 5 rfl) ?_
              refine va_get (D := D) (ci := 10) (v := .int (u_4 35)) (C := RX10) (T := TX10) (N := 45) hx hb hts iX10 hown hK hP 0 rfl rfl 35 (Nat.le_of_ble_eq_true rfl) (hts _ wd_656) (fun _ h9 => h9) rfl dX10_best_110 ?_
              refine va_put (D := D) (ci := 10) (v := .int (u_4 35)) (ty := .int) (C := RX10) (T := TX10) (N := 45) hx hb hts iX10 tyX10 tyX10_ok nmX10 hown hK hP hD hS 0 rfl rfl 35 (Nat.le_of_ble_eq_true rfl) (hts _ wd_656) (fun _ h9 => h9) rfl (by decide +kernel) rfl rfl (Nat.le_of_ble_eq_true rfl) dX10_best_113 (fun H locs hP hD hS => ?_)
              have hP : va_P D classes [(h, .inr (10, ML (upd u_4 35 (u_4 35)) Rf)), ((Rf 0), .inl (cI, 1302, .inl f0)), ((Rf 10), .inl (cI, 30, .inl f10)), ((Rf 8), .inl (cI, 6, .inl f8))] H := hP
              have hD : va_D A [(h, .inr (10, ML (upd u_4 35 (u_4 35)) Rf)), ((Rf 0), .inl (cI, 1302, .inl f0)), ((Rf 10), .inl (cI, 30, .inl f10)), ((Rf 8), .inl (cI, 6, .inl f8))] := hD
              refine lv_iload hx hb dX10_best_116 (lv_at hl 1 rfl) ?_
              refine lv_if_eq (tgt := 128) hx hb dX10_best_118 rfl (fun c_15 => ?_) (fun c_15 => absurd (by decide +kernel) c_15)
              refine lv_iload hx hb dX10_best_128 (lv_at hl 4 rfl) ?_
              refine lv_istore (lv' := [(4, .int w_1l4), (3, .int w_1l3), (7, .int 0), (6, .int ((f0 ((0 + c_) : Int32).toNatClampNeg) - (u_4 33))), (5, .int w_1l5), (0, .ref h), (1, .int c_), (2, .int b_)]) hx hb dX10_best_130 hl (Nat.le_of_ble_eq_true rfl) rfl (fun ls hl => ?_)
              refine lv_iinc (v := (w_1l5 + 1)) (lv' := [(5, .int (w_1l5 + 1)), (4, .int w_1l4), (3, .int w_1l3), (7, .int 0), (6, .int ((f0 ((0 + c_) : Int32).toNatClampNeg) - (u_4 33))), (0, .ref h), (1, .int c_), (2, .int b_)]) hx hb dX10_best_132 hl (k := 4) rfl rfl (Nat.le_of_ble_eq_true rfl) rfl (fun ls hl => ?_)
              refine lv_goto (tgt := 17) hx hb dX10_best_135 rfl ?_
              exact ih_w_1 (w_1l5 + 1) w_1l4 w_1l3 (upd u_4 35 (u_4 35)) _ _ ls hP hD hS (lv_sub hl [0, 1, 2, 5, 6, 7] rfl) hF hE
            · replace hF := hF.1 c_12
              rw [if_pos c_12] at hE
              refine lv_iload hx hb dX10_best_70 (lv_at hl 0 rfl) ?_
              refine lv_aload_n hx hb dX10_best_72 rfl (lv_at hl 4 rfl) ?_
              refine va_get (D := D) (ci := 10) (v := .int (u_4 35)) (C := RX10) (T := TX10) (N := 45) hx hb hts iX10 hown hK hP 0 rfl rfl 35 (Nat.le_of_ble_eq_true rfl) (hts _ wd_656) (fun _ h9 => h9) rfl dX10_best_73 ?_
              refine lv_icmp_ge (tgt := 83) hx hb dX10_best_76 rfl (fun c_16 => ?_) (fun c_16 => ?_)
              · replace hF := hF.1 c_16
                rw [if_pos c_16] at hE
                refine lv_iconst (v := 0) hx hb dX10_best_83 rfl ?_
                refine lv_istore (lv' := [(7, .int 0), (6, .int ((f0 ((0 + c_) : Int32).toNatClampNeg) - (u_4 33))), (5, .int w_1l5), (4, .int w_1l4), (3, .int w_1l3), (0, .ref h), (1, .int c_), (2, .int b_)]) hx hb dX10_best_84 hl (Nat.le_of_ble_eq_true rfl) rfl (fun ls hl => ?_)
                refine lv_iload hx hb dX10_best_86 (lv_at hl 0 rfl) ?_
                refine lv_if_eq (tgt := 96) hx hb dX10_best_88 rfl (fun c_17 => ?_) (fun c_17 => absurd (by decide +kernel) c_17)
                refine lv_iload_n hx hb dX10_best_96 rfl (lv_at hl 4 rfl) ?_
                refine lv_istore_n (lv' := [(3, .int w_1l3), (7, .int 0), (6, .int ((f0 ((0 + c_) : Int32).toNatClampNeg) - (u_4 33))), (5, .int w_1l5), (4, .int w_1l4), (0, .ref h), (1, .int c_), (2, .int b_)]) hx hb dX10_best_97 rfl hl (Nat.le_of_ble_eq_true rfl) rfl (fun ls hl => ?_)
                refine lv_aload_n hx hb dX10_best_98 rfl (lv_at hl 5 rfl) ?_
                refine lv_iload hx hb dX10_best_99 (lv_at hl 1 rfl) ?_
                refine lv_if_eq (tgt := 109) hx hb dX10_best_101 rfl (fun c_18 => ?_) (fun c_18 => absurd (by decide +kernel) c_18)
                refine lv_aload_n hx hb dX10_best_109 rfl (lv_at hl 5 rfl) ?_
                refine va_get (D := D) (ci := 10) (v := .int (u_4 35)) (C := RX10) (T := TX10) (N := 45) hx hb hts iX10 hown hK hP 0 rfl rfl 35 (Nat.le_of_ble_eq_true rfl) (hts _ wd_656) (fun _ h9 => h9) rfl dX10_best_110 ?_
                refine va_put (D := D) (ci := 10) (v := .int (u_4 35)) (ty := .int) (C := RX10) (T := TX10) (N := 45) hx hb hts iX10 tyX10 tyX10_ok nmX10 hown hK hP hD hS 0 rfl rfl 35 (Nat.le_of_ble_eq_true rfl) (hts _ wd_656) (fun _ h9 => h9) rfl (by decide +kernel) rfl rfl (Nat.le_of_ble_eq_true rfl) dX10_best_113 (fun H locs hP hD hS => ?_)
                have hP : va_P D classes [(h, .inr (10, ML (upd u_4 35 (u_4 35)) Rf)), ((Rf 0), .inl (cI, 1302, .inl f0)), ((Rf 10), .inl (cI, 30, .inl f10)), ((Rf 8), .inl (cI, 6, .inl f8))] H := hP
                have hD : va_D A [(h, .inr (10, ML (upd u_4 35 (u_4 35)) Rf)), ((Rf 0), .inl (cI, 1302, .inl f0)), ((Rf 10), .inl (cI, 30, .inl f10)), ((Rf 8), .inl (cI, 6, .inl f8))] := hD
                refine lv_iload hx hb dX10_best_116 (lv_at hl 1 rfl) ?_
                refine lv_if_eq (tgt := 128) hx hb dX10_best_118 rfl (fun c_19 => ?_) (fun c_19 => absurd (by decide +kernel) c_19)
                refine lv_iload hx hb dX10_best_128 (lv_at hl 4 rfl) ?_
                refine lv_istore (lv' := [(4, .int w_1l4), (3, .int w_1l3), (7, .int 0), (6, .int ((f0 ((0 + c_) : Int32).toNatClampNeg) - (u_4 33))), (5, .int w_1l5), (0, .ref h), (1, .int c_), (2, .int b_)]) hx hb dX10_best_130 hl (Nat.le_of_ble_eq_true rfl) rfl (fun ls hl => ?_)
                refine lv_iinc (v := (w_1l5 + 1)) (lv' := [(5, .int (w_1l5 + 1)), (4, .int w_1l4), (3, .int w_1l3), (7, .int 0), (6, .int ((f0 ((0 + c_) : Int32).toNatClampNeg) - (u_4 33))), (0, .ref h), (1, .int c_), (2, .int b_)]) hx hb dX10_best_132 hl (k := 4) rfl rfl (Nat.le_of_ble_eq_true rfl) rfl (fun ls hl => ?_)
                refine lv_goto (tgt := 17) hx hb dX10_best_135 rfl ?_
                exact ih_w_1 (w_1l5 + 1) w_1l4 w_1l3 (upd u_4 35 (u_4 35)) _ _ ls hP hD hS (lv_sub hl [0, 1, 2, 5, 6, 7] rfl) hF hE
              · replace hF := hF.2 c_16
                rw [if_neg c_16] at hE
                refine lv_iconst (v := 1) hx hb dX10_best_79 rfl ?_
                refine lv_goto (tgt := 84) hx hb dX10_best_80 rfl ?_
                refine lv_istore (lv' := [(7, .int 1), (6, .int ((f0 ((0 + c_) : Int32).toNatClampNeg) - (u_4 33))), (5, .int w_1l5), (4, .int w_1l4), (3, .int w_1l3), (0, .ref h), (1, .int c_), (2, .int b_)]) hx hb dX10_best_84 hl (Nat.le_of_ble_eq_true rfl) rfl (fun ls hl => ?_)
                refine lv_iload hx hb dX10_best_86 (lv_at hl 0 rfl) ?_
                refine lv_if_eq (tgt := 96) hx hb dX10_best_88 rfl (fun c_20 => absurd c_20 (by decide +kernel)) (fun c_20 => ?_)
                refine lv_iload hx hb dX10_best_91 (lv_at hl 2 rfl) ?_
                refine lv_goto (tgt := 97) hx hb dX10_best_93 rfl ?_
                refine lv_istore_n (lv' := [(3, .int w_1l5), (7, .int 1), (6, .int ((f0 ((0 + c_) : Int32).toNatClampNeg) - (u_4 33))), (5, .int w_1l5), (4, .int w_1l4), (0, .ref h), (1, .int c_), (2, .int b_)]) hx hb dX10_best_97 rfl hl (Nat.le_of_ble_eq_true rfl) rfl (fun ls hl => ?_)
                refine lv_aload_n hx hb dX10_best_98 rfl (lv_at hl 5 rfl) ?_
                refine lv_iload hx hb dX10_best_99 (lv_at hl 1 rfl) ?_
                refine lv_if_eq (tgt := 109) hx hb dX10_best_101 rfl (fun c_21 => absurd c_21 (by decide +kernel)) (fun c_21 => ?_)
                refine lv_iload hx hb dX10_best_104 (lv_at hl 2 rfl) ?_
                refine lv_goto (tgt := 113) hx hb dX10_best_106 rfl ?_
                refine va_put (D := D) (ci := 10) (v := .int ((f0 ((0 + c_) : Int32).toNatClampNeg) - (u_4 33))) (ty := .int) (C := RX10) (T := TX10) (N := 45) hx hb hts iX10 tyX10 tyX10_ok nmX10 hown hK hP hD hS 0 rfl rfl 35 (Nat.le_of_ble_eq_true rfl) (hts _ wd_656) (fun _ h9 => h9) rfl (by decide +kernel) rfl rfl (Nat.le_of_ble_eq_true rfl) dX10_best_113 (fun H locs hP hD hS => ?_)
                have hP : va_P D classes [(h, .inr (10, ML (upd u_4 35 ((f0 ((0 + c_) : Int32).toNatClampNeg) - (u_4 33))) Rf)), ((Rf 0), .inl (cI, 1302, .inl f0)), ((Rf 10), .inl (cI, 30, .inl f10)), ((Rf 8), .inl (cI, 6, .inl f8))] H := hP
                have hD : va_D A [(h, .inr (10, ML (upd u_4 35 ((f0 ((0 + c_) : Int32).toNatClampNeg) - (u_4 33))) Rf)), ((Rf 0), .inl (cI, 1302, .inl f0)), ((Rf 10), .inl (cI, 30, .inl f10)), ((Rf 8), .inl (cI, 6, .inl f8))] := hD
                refine lv_iload hx hb dX10_best_116 (lv_at hl 1 rfl) ?_
                refine lv_if_eq (tgt := 128) hx hb dX10_best_118 rfl (fun c_22 => absurd c_22 (by decide +kernel)) (fun c_22 => ?_)
                refine lv_aload_n hx hb dX10_best_121 rfl (lv_at hl 5 rfl) ?_
                refine va_get (D := D) (ci := 10) (v := .int (u_4 32)) (C := RX10) (T := TX10) (N := 45) hx hb hts iX10 hown hK hP 0 rfl rfl 32 (Nat.le_of_ble_eq_true rfl) (hts _ wd_549) (fun _ h9 => h9) rfl dX10_best_122 ?_
                refine lv_goto (tgt := 130) hx hb dX10_best_125 rfl ?_
                refine lv_istore (lv' := [(4, .int (u_4 32)), (3, .int w_1l5), (7, .int 1), (6, .int ((f0 ((0 + c_) : Int32).toNatClampNeg) - (u_4 33))), (5, .int w_1l5), (0, .ref h), (1, .int c_), (2, .int b_)]) hx hb dX10_best_130 hl (Nat.le_of_ble_eq_true rfl) rfl (fun ls hl => ?_)
                refine lv_iinc (v := (w_1l5 + 1)) (lv' := [(5, .int (w_1l5 + 1)), (4, .int (u_4 32)), (3, .int w_1l5), (7, .int 1), (6, .int ((f0 ((0 + c_) : Int32).toNatClampNeg) - (u_4 33))), (0, .ref h), (1, .int c_), (2, .int b_)]) hx hb dX10_best_132 hl (k := 4) rfl rfl (Nat.le_of_ble_eq_true rfl) rfl (fun ls hl => ?_)
                refine lv_goto (tgt := 17) hx hb dX10_best_135 rfl ?_
                exact ih_w_1 (w_1l5 + 1) (u_4 32) w_1l5 (upd u_4 35 ((f0 ((0 + c_) : Int32).toNatClampNeg) - (u_4 33))) _ _ ls hP hD hS (lv_sub hl [0, 1, 2, 5, 6, 7] rfl) hF hE
  exact lp_17_w_1 10 0 999 (-1) (upd G 35 999) _ _ ls hP hD hS hl hF hE
noncomputable def f_m_bestTheme (G : Nat → Int32) (f0 : Nat → Int32) (f10 : Nat → Int32) (f8 : Nat → Int32) (c_ : Int32) (b_ : Int32) : Int32 × (Nat → Int32) := (if (f_m_isCouple G c_) = 0 then ((-1000000001), G) else (if (f_m_isBridge G b_) = 0 then ((-1000000001), G) else (match (f_m_best G f0 f10 f8 c_ b_) with | (r_11, u_10) => (r_11, u_10))))
def S_m_bestTheme (G : Nat → Int32) (f0 : Nat → Int32) (f10 : Nat → Int32) (f8 : Nat → Int32) (c_ : Int32) (b_ : Int32) : Prop := ((S_m_isCouple G c_) ∧ (((f_m_isCouple G c_) = 0 → True) ∧ (¬ (f_m_isCouple G c_) = 0 → ((S_m_isBridge G b_) ∧ (((f_m_isBridge G b_) = 0 → True) ∧ (¬ (f_m_isBridge G b_) = 0 → ((S_m_best G f0 f10 f8 c_ b_) ∧ (∀ (r_11 : Int32) (u_10 : (Nat → Int32)), (r_11, u_10) = (f_m_best G f0 f10 f8 c_ b_) → True))))))))
def rm_m_bestTheme : Room := { frames := 4, cells := 0, slots := 0, locals := 100 }
set_option maxHeartbeats 4000000 in
set_option maxRecDepth 100000 in
theorem m_bestTheme {l : Launch} {D : va_G} {cI cZ : ClassId} {sz : Nat} (Rf : Nat → Nat) (h : Nat) (G : Nat → Int32) (f0 : Nat → Int32) (f10 : Nat → Int32) (f8 : Nat → Int32) (c_ : Int32) (b_ : Int32) (hF : S_m_bestTheme G f0 f10 f8 c_ b_) : KI l yX10_bestTheme cX10_bestTheme 3 (some .int) rm_m_bestTheme D cI cZ [.ref h, .int c_, .int b_] sz [(h, .inr (10, ML G Rf)), ((Rf 0), .inl (cI, 1302, .inl f0)), ((Rf 10), .inl (cI, 30, .inl f10)), ((Rf 8), .inl (cI, 6, .inl f8))] (fun (r : Int32) (u : (Nat → Int32)) => (r, u) = f_m_bestTheme G f0 f10 f8 c_ b_) (fun (u : (Nat → Int32)) => [(h, .inr (10, ML u Rf)), ((Rf 0), .inl (cI, 1302, .inl f0)), ((Rf 10), .inl (cI, 30, .inl f10)), ((Rf 8), .inl (cI, 6, .inl f8))]) := by
  refine KI.go rfl (Nat.le_of_ble_eq_true rfl) ?_
  intro p e s m args below meth c ls A Q hx hb hml hts hown hin hP hK hD hS hA hN hl hret
  have hl : lv_has ls 3 [(0, .ref h), (1, .int c_), (2, .int b_)] := hl
  rw [S_m_bestTheme] at hF
  obtain ⟨RES, hE⟩ : ∃ xRES, f_m_bestTheme G f0 f10 f8 c_ b_ = xRES := ⟨_, rfl⟩
  rw [hE] at hret
  rw [f_m_bestTheme] at hE
  refine lv_aload_n hx hb dX10_bestTheme_0 rfl (lv_at hl 0 rfl) ?_
  refine lv_iload_n hx hb dX10_bestTheme_1 rfl (lv_at hl 1 rfl) ?_
  obtain ⟨hs_1, hF⟩ := hF
  refine cVi (wr := [((Rf 0), .inl (cI, 1302, .inl f0)), ((Rf 10), .inl (cI, 30, .inl f10)), ((Rf 8), .inl (cI, 6, .inl f8))]) (rest := []) (m_isCouple Rf h G c_ hs_1) okV_X10_isCouple wd_581 hx hb hml hown hts hK hP hD hS hA hN hl.1 [0] [1, 2, 3] rfl rfl rfl rfl (of_decide_eq_true rfl) rfl rfl rfl (Nat.le_of_ble_eq_true rfl) (Nat.le_of_ble_eq_true rfl) (Nat.le_of_ble_eq_true rfl) (Nat.le_of_ble_eq_true rfl) (Nat.le_of_ble_eq_true rfl) dX10_bestTheme_2 (fun r_3 u_2 H locs hw_u_2 hP hD hS => ?_)
  replace hw_u_2 : r_3 = (f_m_isCouple G c_) := hw_u_2
  rw [hw_u_2]
  clear hw_u_2
  have hP : va_P D classes [((Rf 0), .inl (cI, 1302, .inl f0)), ((Rf 10), .inl (cI, 30, .inl f10)), ((Rf 8), .inl (cI, 6, .inl f8)), (h, .inr (10, ML G Rf))] H := hP
  have hD : va_D A [((Rf 0), .inl (cI, 1302, .inl f0)), ((Rf 10), .inl (cI, 30, .inl f10)), ((Rf 8), .inl (cI, 6, .inl f8)), (h, .inr (10, ML G Rf))] := hD
  refine lv_if_eq (tgt := 25) hx hb dX10_bestTheme_5 rfl (fun c_4 => ?_) (fun c_4 => ?_)
  · replace hF := hF.1 c_4
    rw [if_pos c_4] at hE
    refine lv_ldc (v := (-1000000001)) hx hb hown (hts _ wd_580) dX10_bestTheme_25 ?_
    exact hret (-1000000001) G _ _ _ _ dX10_bestTheme_27 rfl hE (cutP (isC := [3, 0, 1, 2]) hP rfl) (cutD (isC := [3, 0, 1, 2]) hD rfl rfl) hS
  · replace hF := hF.2 c_4
    rw [if_neg c_4] at hE
    refine lv_aload_n hx hb dX10_bestTheme_8 rfl (lv_at hl 0 rfl) ?_
    refine lv_iload_n hx hb dX10_bestTheme_9 rfl (lv_at hl 2 rfl) ?_
    obtain ⟨hs_5, hF⟩ := hF
    refine cVi (wr := [((Rf 0), .inl (cI, 1302, .inl f0)), ((Rf 10), .inl (cI, 30, .inl f10)), ((Rf 8), .inl (cI, 6, .inl f8))]) (rest := []) (m_isBridge Rf h G b_ hs_5) okV_X10_isBridge wd_571 hx hb hml hown hts hK hP hD hS hA hN hl.1 [3] [0, 1, 2] rfl rfl rfl rfl (of_decide_eq_true rfl) rfl rfl rfl (Nat.le_of_ble_eq_true rfl) (Nat.le_of_ble_eq_true rfl) (Nat.le_of_ble_eq_true rfl) (Nat.le_of_ble_eq_true rfl) (Nat.le_of_ble_eq_true rfl) dX10_bestTheme_10 (fun r_7 u_6 H locs hw_u_6 hP hD hS => ?_)
    replace hw_u_6 : r_7 = (f_m_isBridge G b_) := hw_u_6
    rw [hw_u_6]
    clear hw_u_6
    have hP : va_P D classes [((Rf 0), .inl (cI, 1302, .inl f0)), ((Rf 10), .inl (cI, 30, .inl f10)), ((Rf 8), .inl (cI, 6, .inl f8)), (h, .inr (10, ML G Rf))] H := hP
    have hD : va_D A [((Rf 0), .inl (cI, 1302, .inl f0)), ((Rf 10), .inl (cI, 30, .inl f10)), ((Rf 8), .inl (cI, 6, .inl f8)), (h, .inr (10, ML G Rf))] := hD
    refine lv_if_eq (tgt := 25) hx hb dX10_bestTheme_13 rfl (fun c_8 => ?_) (fun c_8 => ?_)
    · replace hF := hF.1 c_8
      rw [if_pos c_8] at hE
      refine lv_ldc (v := (-1000000001)) hx hb hown (hts _ wd_580) dX10_bestTheme_25 ?_
      exact hret (-1000000001) G _ _ _ _ dX10_bestTheme_27 rfl hE (cutP (isC := [3, 0, 1, 2]) hP rfl) (cutD (isC := [3, 0, 1, 2]) hD rfl rfl) hS
    · replace hF := hF.2 c_8
      rw [if_neg c_8] at hE
      refine lv_aload_n hx hb dX10_bestTheme_16 rfl (lv_at hl 0 rfl) ?_
      refine lv_iload_n hx hb dX10_bestTheme_17 rfl (lv_at hl 1 rfl) ?_
      refine lv_iload_n hx hb dX10_bestTheme_18 rfl (lv_at hl 2 rfl) ?_
      obtain ⟨hs_9, hF⟩ := hF
      refine cVi (wr := []) (rest := []) (m_best Rf h G f0 f10 f8 c_ b_ hs_9) okV_X10_best wd_657 hx hb hml hown hts hK hP hD hS hA hN hl.1 [3, 0, 1, 2] [] rfl rfl rfl rfl (of_decide_eq_true rfl) rfl rfl rfl (Nat.le_of_ble_eq_true rfl) (Nat.le_of_ble_eq_true rfl) (Nat.le_of_ble_eq_true rfl) (Nat.le_of_ble_eq_true rfl) (Nat.le_of_ble_eq_true rfl) dX10_bestTheme_19 (fun r_11 u_10 H locs hw_u_10 hP hD hS => ?_)
      replace hw_u_10 : (r_11, u_10) = (f_m_best G f0 f10 f8 c_ b_) := hw_u_10
      replace hF := hF r_11 u_10 hw_u_10
      rw [← hw_u_10] at hE
      replace hE : ((r_11, u_10) : Int32 × (Nat → Int32)) = RES := hE
      have hP : va_P D classes [(h, .inr (10, ML u_10 Rf)), ((Rf 0), .inl (cI, 1302, .inl f0)), ((Rf 10), .inl (cI, 30, .inl f10)), ((Rf 8), .inl (cI, 6, .inl f8))] H := hP
      have hD : va_D A [(h, .inr (10, ML u_10 Rf)), ((Rf 0), .inl (cI, 1302, .inl f0)), ((Rf 10), .inl (cI, 30, .inl f10)), ((Rf 8), .inl (cI, 6, .inl f8))] := hD
      refine lv_goto (tgt := 27) hx hb dX10_bestTheme_22 rfl ?_
      exact hret r_11 u_10 _ _ _ _ dX10_bestTheme_27 rfl hE hP hD hS
noncomputable def f_m_carried_63 (G : Nat → Int32) (f0 : Nat → Int32) (b_ : Int32) (n : Nat) : Int32 → Int32 → Int32 → Int32 → Int32 × Int32 × Int32 × Int32 := Nat.rec (motive := fun _ => Int32 → Int32 → Int32 → Int32 → Int32 × Int32 × Int32 × Int32) (fun w_11l6 w_11l5 w_11l4 w_11l3 => (w_11l6, w_11l5, w_11l4, w_11l3)) (fun n ih w_11l6 w_11l5 w_11l4 w_11l3 => (if (G 3) ≤ w_11l6 then (w_11l6, w_11l5, w_11l4, w_11l3) else (if w_11l3 = 0 then (if w_11l4 = (-1) then (if w_11l6 = b_ then (if (f_m_whoIsAt G f0 0 w_11l6) = (-1) then (ih (w_11l6 + 1) w_11l3 w_11l6 w_11l3) else (ih (w_11l6 + 1) w_11l3 w_11l6 (w_11l3 / 2))) else (if (f_m_whoIsAt G f0 0 w_11l6) = (-1) then (ih (w_11l6 + 1) w_11l5 w_11l6 w_11l3) else (ih (w_11l6 + 1) w_11l5 w_11l6 (w_11l3 / 2)))) else (if w_11l6 = b_ then (if (f_m_whoIsAt G f0 0 w_11l6) = (-1) then (ih (w_11l6 + 1) w_11l3 w_11l4 w_11l3) else (ih (w_11l6 + 1) w_11l3 w_11l4 (w_11l3 / 2))) else (if (f_m_whoIsAt G f0 0 w_11l6) = (-1) then (ih (w_11l6 + 1) w_11l5 w_11l4 w_11l3) else (ih (w_11l6 + 1) w_11l5 w_11l4 (w_11l3 / 2))))) else (if w_11l6 = b_ then (if (f_m_whoIsAt G f0 0 w_11l6) = (-1) then (ih (w_11l6 + 1) w_11l3 w_11l4 w_11l3) else (ih (w_11l6 + 1) w_11l3 w_11l4 (w_11l3 / 2))) else (if (f_m_whoIsAt G f0 0 w_11l6) = (-1) then (ih (w_11l6 + 1) w_11l5 w_11l4 w_11l3) else (ih (w_11l6 + 1) w_11l5 w_11l4 (w_11l3 / 2))))))) n
theorem f_m_carried_63_s (G : Nat → Int32) (f0 : Nat → Int32) (b_ : Int32) (n : Nat) (w_11l6 : Int32) (w_11l5 : Int32) (w_11l4 : Int32) (w_11l3 : Int32) : f_m_carried_63 G f0 b_ (n + 1) w_11l6 w_11l5 w_11l4 w_11l3 = (if (G 3) ≤ w_11l6 then (w_11l6, w_11l5, w_11l4, w_11l3) else (if w_11l3 = 0 then (if w_11l4 = (-1) then (if w_11l6 = b_ then (if (f_m_whoIsAt G f0 0 w_11l6) = (-1) then (f_m_carried_63 G f0 b_ n (w_11l6 + 1) w_11l3 w_11l6 w_11l3) else (f_m_carried_63 G f0 b_ n (w_11l6 + 1) w_11l3 w_11l6 (w_11l3 / 2))) else (if (f_m_whoIsAt G f0 0 w_11l6) = (-1) then (f_m_carried_63 G f0 b_ n (w_11l6 + 1) w_11l5 w_11l6 w_11l3) else (f_m_carried_63 G f0 b_ n (w_11l6 + 1) w_11l5 w_11l6 (w_11l3 / 2)))) else (if w_11l6 = b_ then (if (f_m_whoIsAt G f0 0 w_11l6) = (-1) then (f_m_carried_63 G f0 b_ n (w_11l6 + 1) w_11l3 w_11l4 w_11l3) else (f_m_carried_63 G f0 b_ n (w_11l6 + 1) w_11l3 w_11l4 (w_11l3 / 2))) else (if (f_m_whoIsAt G f0 0 w_11l6) = (-1) then (f_m_carried_63 G f0 b_ n (w_11l6 + 1) w_11l5 w_11l4 w_11l3) else (f_m_carried_63 G f0 b_ n (w_11l6 + 1) w_11l5 w_11l4 (w_11l3 / 2))))) else (if w_11l6 = b_ then (if (f_m_whoIsAt G f0 0 w_11l6) = (-1) then (f_m_carried_63 G f0 b_ n (w_11l6 + 1) w_11l3 w_11l4 w_11l3) else (f_m_carried_63 G f0 b_ n (w_11l6 + 1) w_11l3 w_11l4 (w_11l3 / 2))) else (if (f_m_whoIsAt G f0 0 w_11l6) = (-1) then (f_m_carried_63 G f0 b_ n (w_11l6 + 1) w_11l5 w_11l4 w_11l3) else (f_m_carried_63 G f0 b_ n (w_11l6 + 1) w_11l5 w_11l4 (w_11l3 / 2)))))) := rfl
def S_m_carried_63 (G : Nat → Int32) (f0 : Nat → Int32) (b_ : Int32) (K : Int32 → Int32 → Int32 → Int32 → Prop) (n : Nat) : Int32 → Int32 → Int32 → Int32 → Prop := Nat.rec (motive := fun _ => Int32 → Int32 → Int32 → Int32 → Prop) (fun _ _ _ _ => True) (fun n ih w_11l6 w_11l5 w_11l4 w_11l3 => (((G 3) ≤ w_11l6 → (K w_11l6 w_11l5 w_11l4 w_11l3)) ∧ (¬ (G 3) ≤ w_11l6 → ((w_11l3 = 0 → ((w_11l4 = (-1) → ((w_11l6 = b_ → ((S_m_whoIsAt G f0 0 w_11l6) ∧ (((f_m_whoIsAt G f0 0 w_11l6) = (-1) → (ih (w_11l6 + 1) w_11l3 w_11l6 w_11l3)) ∧ (¬ (f_m_whoIsAt G f0 0 w_11l6) = (-1) → (ih (w_11l6 + 1) w_11l3 w_11l6 (w_11l3 / 2)))))) ∧ (¬ w_11l6 = b_ → ((S_m_whoIsAt G f0 0 w_11l6) ∧ (((f_m_whoIsAt G f0 0 w_11l6) = (-1) → (ih (w_11l6 + 1) w_11l5 w_11l6 w_11l3)) ∧ (¬ (f_m_whoIsAt G f0 0 w_11l6) = (-1) → (ih (w_11l6 + 1) w_11l5 w_11l6 (w_11l3 / 2)))))))) ∧ (¬ w_11l4 = (-1) → ((w_11l6 = b_ → ((S_m_whoIsAt G f0 0 w_11l6) ∧ (((f_m_whoIsAt G f0 0 w_11l6) = (-1) → (ih (w_11l6 + 1) w_11l3 w_11l4 w_11l3)) ∧ (¬ (f_m_whoIsAt G f0 0 w_11l6) = (-1) → (ih (w_11l6 + 1) w_11l3 w_11l4 (w_11l3 / 2)))))) ∧ (¬ w_11l6 = b_ → ((S_m_whoIsAt G f0 0 w_11l6) ∧ (((f_m_whoIsAt G f0 0 w_11l6) = (-1) → (ih (w_11l6 + 1) w_11l5 w_11l4 w_11l3)) ∧ (¬ (f_m_whoIsAt G f0 0 w_11l6) = (-1) → (ih (w_11l6 + 1) w_11l5 w_11l4 (w_11l3 / 2)))))))))) ∧ (¬ w_11l3 = 0 → ((w_11l6 = b_ → ((S_m_whoIsAt G f0 0 w_11l6) ∧ (((f_m_whoIsAt G f0 0 w_11l6) = (-1) → (ih (w_11l6 + 1) w_11l3 w_11l4 w_11l3)) ∧ (¬ (f_m_whoIsAt G f0 0 w_11l6) = (-1) → (ih (w_11l6 + 1) w_11l3 w_11l4 (w_11l3 / 2)))))) ∧ (¬ w_11l6 = b_ → ((S_m_whoIsAt G f0 0 w_11l6) ∧ (((f_m_whoIsAt G f0 0 w_11l6) = (-1) → (ih (w_11l6 + 1) w_11l5 w_11l4 w_11l3)) ∧ (¬ (f_m_whoIsAt G f0 0 w_11l6) = (-1) → (ih (w_11l6 + 1) w_11l5 w_11l4 (w_11l3 / 2)))))))))))) n
theorem S_m_carried_63_s (G : Nat → Int32) (f0 : Nat → Int32) (b_ : Int32) (K : Int32 → Int32 → Int32 → Int32 → Prop) (n : Nat) (w_11l6 : Int32) (w_11l5 : Int32) (w_11l4 : Int32) (w_11l3 : Int32) : S_m_carried_63 G f0 b_ K (n + 1) w_11l6 w_11l5 w_11l4 w_11l3 = ((((G 3) ≤ w_11l6 → (K w_11l6 w_11l5 w_11l4 w_11l3)) ∧ (¬ (G 3) ≤ w_11l6 → ((w_11l3 = 0 → ((w_11l4 = (-1) → ((w_11l6 = b_ → ((S_m_whoIsAt G f0 0 w_11l6) ∧ (((f_m_whoIsAt G f0 0 w_11l6) = (-1) → (S_m_carried_63 G f0 b_ K n (w_11l6 + 1) w_11l3 w_11l6 w_11l3)) ∧ (¬ (f_m_whoIsAt G f0 0 w_11l6) = (-1) → (S_m_carried_63 G f0 b_ K n (w_11l6 + 1) w_11l3 w_11l6 (w_11l3 / 2)))))) ∧ (¬ w_11l6 = b_ → ((S_m_whoIsAt G f0 0 w_11l6) ∧ (((f_m_whoIsAt G f0 0 w_11l6) = (-1) → (S_m_carried_63 G f0 b_ K n (w_11l6 + 1) w_11l5 w_11l6 w_11l3)) ∧ (¬ (f_m_whoIsAt G f0 0 w_11l6) = (-1) → (S_m_carried_63 G f0 b_ K n (w_11l6 + 1) w_11l5 w_11l6 (w_11l3 / 2)))))))) ∧ (¬ w_11l4 = (-1) → ((w_11l6 = b_ → ((S_m_whoIsAt G f0 0 w_11l6) ∧ (((f_m_whoIsAt G f0 0 w_11l6) = (-1) → (S_m_carried_63 G f0 b_ K n (w_11l6 + 1) w_11l3 w_11l4 w_11l3)) ∧ (¬ (f_m_whoIsAt G f0 0 w_11l6) = (-1) → (S_m_carried_63 G f0 b_ K n (w_11l6 + 1) w_11l3 w_11l4 (w_11l3 / 2)))))) ∧ (¬ w_11l6 = b_ → ((S_m_whoIsAt G f0 0 w_11l6) ∧ (((f_m_whoIsAt G f0 0 w_11l6) = (-1) → (S_m_carried_63 G f0 b_ K n (w_11l6 + 1) w_11l5 w_11l4 w_11l3)) ∧ (¬ (f_m_whoIsAt G f0 0 w_11l6) = (-1) → (S_m_carried_63 G f0 b_ K n (w_11l6 + 1) w_11l5 w_11l4 (w_11l3 / 2)))))))))) ∧ (¬ w_11l3 = 0 → ((w_11l6 = b_ → ((S_m_whoIsAt G f0 0 w_11l6) ∧ (((f_m_whoIsAt G f0 0 w_11l6) = (-1) → (S_m_carried_63 G f0 b_ K n (w_11l6 + 1) w_11l3 w_11l4 w_11l3)) ∧ (¬ (f_m_whoIsAt G f0 0 w_11l6) = (-1) → (S_m_carried_63 G f0 b_ K n (w_11l6 + 1) w_11l3 w_11l4 (w_11l3 / 2)))))) ∧ (¬ w_11l6 = b_ → ((S_m_whoIsAt G f0 0 w_11l6) ∧ (((f_m_whoIsAt G f0 0 w_11l6) = (-1) → (S_m_carried_63 G f0 b_ K n (w_11l6 + 1) w_11l5 w_11l4 w_11l3)) ∧ (¬ (f_m_whoIsAt G f0 0 w_11l6) = (-1) → (S_m_carried_63 G f0 b_ K n (w_11l6 + 1) w_11l5 w_11l4 (w_11l3 / 2)))))))))))) := rfl
noncomputable def f_m_carried (G : Nat → Int32) (f0 : Nat → Int32) (f10 : Nat → Int32) (b_ : Int32) : Int32 := (if b_ = (-1) then (if (f_m_whoIsAt G f0 0 0) = (-1) then (-1000000003) else (match ((f_m_carried_63 G f0 b_ ((((G 3) : Int32).toInt - (1 : Int32).toInt).toNat + 1) 1 0 (-1) (f_m_stampOf G f10 (f_m_whoIsAt G f0 0 0) (f0 ((12 + (f_m_whoIsAt G f0 0 0)) : Int32).toNatClampNeg) (f0 ((0 + (f_m_whoIsAt G f0 0 0)) : Int32).toNatClampNeg))) : Int32 × Int32 × Int32 × Int32) with | (w_11l6, w_11l5, w_11l4, w_11l3) => (if b_ = (-1) then w_11l4 else w_11l5))) else (if (f_m_isBridge G b_) = 0 then (-1000000001) else (if (f_m_whoIsAt G f0 0 0) = (-1) then (-1000000003) else (match ((f_m_carried_63 G f0 b_ ((((G 3) : Int32).toInt - (1 : Int32).toInt).toNat + 1) 1 0 (-1) (f_m_stampOf G f10 (f_m_whoIsAt G f0 0 0) (f0 ((12 + (f_m_whoIsAt G f0 0 0)) : Int32).toNatClampNeg) (f0 ((0 + (f_m_whoIsAt G f0 0 0)) : Int32).toNatClampNeg))) : Int32 × Int32 × Int32 × Int32) with | (w_56l6, w_56l5, w_56l4, w_56l3) => (if b_ = (-1) then w_56l4 else w_56l5)))))
def S_m_carried (G : Nat → Int32) (f0 : Nat → Int32) (f10 : Nat → Int32) (b_ : Int32) : Prop := ((b_ = (-1) → ((S_m_whoIsAt G f0 0 0) ∧ (((f_m_whoIsAt G f0 0 0) = (-1) → True) ∧ (¬ (f_m_whoIsAt G f0 0 0) = (-1) → (vp_in (12 + (f_m_whoIsAt G f0 0 0)) 1302 ∧ (vp_in (0 + (f_m_whoIsAt G f0 0 0)) 1302 ∧ ((S_m_stampOf G f10 (f_m_whoIsAt G f0 0 0) (f0 ((12 + (f_m_whoIsAt G f0 0 0)) : Int32).toNatClampNeg) (f0 ((0 + (f_m_whoIsAt G f0 0 0)) : Int32).toNatClampNeg)) ∧ (S_m_carried_63 G f0 b_ (fun (w_11l6 : Int32) (w_11l5 : Int32) (w_11l4 : Int32) (w_11l3 : Int32) => ((b_ = (-1) → True) ∧ (¬ b_ = (-1) → True))) ((((G 3) : Int32).toInt - (1 : Int32).toInt).toNat + 1) 1 0 (-1) (f_m_stampOf G f10 (f_m_whoIsAt G f0 0 0) (f0 ((12 + (f_m_whoIsAt G f0 0 0)) : Int32).toNatClampNeg) (f0 ((0 + (f_m_whoIsAt G f0 0 0)) : Int32).toNatClampNeg)))))))))) ∧ (¬ b_ = (-1) → ((S_m_isBridge G b_) ∧ (((f_m_isBridge G b_) = 0 → True) ∧ (¬ (f_m_isBridge G b_) = 0 → ((S_m_whoIsAt G f0 0 0) ∧ (((f_m_whoIsAt G f0 0 0) = (-1) → True) ∧ (¬ (f_m_whoIsAt G f0 0 0) = (-1) → (vp_in (12 + (f_m_whoIsAt G f0 0 0)) 1302 ∧ (vp_in (0 + (f_m_whoIsAt G f0 0 0)) 1302 ∧ ((S_m_stampOf G f10 (f_m_whoIsAt G f0 0 0) (f0 ((12 + (f_m_whoIsAt G f0 0 0)) : Int32).toNatClampNeg) (f0 ((0 + (f_m_whoIsAt G f0 0 0)) : Int32).toNatClampNeg)) ∧ (S_m_carried_63 G f0 b_ (fun (w_56l6 : Int32) (w_56l5 : Int32) (w_56l4 : Int32) (w_56l3 : Int32) => ((b_ = (-1) → True) ∧ (¬ b_ = (-1) → True))) ((((G 3) : Int32).toInt - (1 : Int32).toInt).toNat + 1) 1 0 (-1) (f_m_stampOf G f10 (f_m_whoIsAt G f0 0 0) (f0 ((12 + (f_m_whoIsAt G f0 0 0)) : Int32).toNatClampNeg) (f0 ((0 + (f_m_whoIsAt G f0 0 0)) : Int32).toNatClampNeg))))))))))))))
def rm_m_carried : Room := { frames := 2, cells := 0, slots := 0, locals := 46 }
set_option maxHeartbeats 4000000 in
set_option maxRecDepth 100000 in
theorem m_carried {l : Launch} {D : va_G} {cI cZ : ClassId} {sz : Nat} (Rf : Nat → Nat) (h : Nat) (G : Nat → Int32) (f0 : Nat → Int32) (f10 : Nat → Int32) (b_ : Int32) (hF : S_m_carried G f0 f10 b_) : KI l yX10_carried cX10_carried 7 (some .int) rm_m_carried D cI cZ [.ref h, .int b_] sz [(h, .inr (10, ML G Rf)), ((Rf 0), .inl (cI, 1302, .inl f0)), ((Rf 10), .inl (cI, 30, .inl f10))] (fun (r : Int32) (_ : Unit) => r = f_m_carried G f0 f10 b_) (fun (_ : Unit) => [(h, .inr (10, ML G Rf)), ((Rf 0), .inl (cI, 1302, .inl f0)), ((Rf 10), .inl (cI, 30, .inl f10))]) := by
  refine KI.go rfl (Nat.le_of_ble_eq_true rfl) ?_
  intro p e s m args below meth c ls A Q hx hb hml hts hown hin hP hK hD hS hA hN hl hret
  have hl : lv_has ls 7 [(0, .ref h), (1, .int b_)] := hl
  rw [S_m_carried] at hF
  obtain ⟨RES, hE⟩ : ∃ xRES, f_m_carried G f0 f10 b_ = xRES := ⟨_, rfl⟩
  rw [hE] at hret
  rw [f_m_carried] at hE
  refine lv_iload_n hx hb dX10_carried_0 rfl (lv_at hl 1 rfl) ?_
  refine lv_iconst (v := (-1)) hx hb dX10_carried_1 rfl ?_
  refine lv_icmp_eq (tgt := 16) hx hb dX10_carried_2 rfl (fun c_1 => ?_) (fun c_1 => ?_)
  · replace hF := hF.1 c_1
    rw [if_pos c_1] at hE
    refine lv_aload_n hx hb dX10_carried_16 rfl (lv_at hl 0 rfl) ?_
    refine lv_iconst (v := 0) hx hb dX10_carried_17 rfl ?_
    refine lv_iconst (v := 0) hx hb dX10_carried_18 rfl ?_
    obtain ⟨hs_2, hF⟩ := hF
    refine cVi (wr := [((Rf 10), .inl (cI, 30, .inl f10))]) (rest := []) (m_whoIsAt Rf h G f0 0 0 hs_2) okV_X10_whoIsAt wd_575 hx hb hml hown hts hK hP hD hS hA hN hl.1 [0, 1] [2] rfl rfl rfl rfl (of_decide_eq_true rfl) rfl rfl rfl (Nat.le_of_ble_eq_true rfl) (Nat.le_of_ble_eq_true rfl) (Nat.le_of_ble_eq_true rfl) (Nat.le_of_ble_eq_true rfl) (Nat.le_of_ble_eq_true rfl) dX10_carried_19 (fun r_4 u_3 H locs hw_u_3 hP hD hS => ?_)
    replace hw_u_3 : r_4 = (f_m_whoIsAt G f0 0 0) := hw_u_3
    rw [hw_u_3]
    clear hw_u_3
    have hP : va_P D classes [((Rf 10), .inl (cI, 30, .inl f10)), (h, .inr (10, ML G Rf)), ((Rf 0), .inl (cI, 1302, .inl f0))] H := hP
    have hD : va_D A [((Rf 10), .inl (cI, 30, .inl f10)), (h, .inr (10, ML G Rf)), ((Rf 0), .inl (cI, 1302, .inl f0))] := hD
    refine lv_istore_n (lv' := [(2, .int (f_m_whoIsAt G f0 0 0)), (0, .ref h), (1, .int b_)]) hx hb dX10_carried_22 rfl hl (Nat.le_of_ble_eq_true rfl) rfl (fun ls hl => ?_)
    refine lv_iload_n hx hb dX10_carried_23 rfl (lv_at hl 0 rfl) ?_
    refine lv_iconst (v := (-1)) hx hb dX10_carried_24 rfl ?_
    refine lv_icmp_ne (tgt := 31) hx hb dX10_carried_25 rfl (fun c_5 => ?_) (fun c_5 => ?_)
    · replace hF := hF.2 c_5
      rw [if_neg c_5] at hE
      refine lv_aload_n hx hb dX10_carried_31 rfl (lv_at hl 1 rfl) ?_
      refine lv_iload_n hx hb dX10_carried_32 rfl (lv_at hl 0 rfl) ?_
      refine lv_aload_n hx hb dX10_carried_33 rfl (lv_at hl 1 rfl) ?_
      refine va_get (D := D) (ci := 10) (v := .ref (Rf 0)) (C := RX10) (T := TX10) (N := 45) hx hb hts iX10 hown hK hP 1 rfl rfl 0 (Nat.le_of_ble_eq_true rfl) (hts _ wd_491) (fun _ h9 => h9) rfl dX10_carried_34 ?_
      refine lv_bipush (v := 12) hx hb dX10_carried_37 rfl ?_
      refine lv_iload_n hx hb dX10_carried_39 rfl (lv_at hl 0 rfl) ?_
      refine lv_iadd hx hb dX10_carried_40 ?_
      obtain ⟨hv_6, hF⟩ := hF
      refine va_iald hx hb hK hP 2 0 rfl rfl hv_6 dX10_carried_41 ?_
      refine lv_aload_n hx hb dX10_carried_42 rfl (lv_at hl 1 rfl) ?_
      refine va_get (D := D) (ci := 10) (v := .ref (Rf 0)) (C := RX10) (T := TX10) (N := 45) hx hb hts iX10 hown hK hP 1 rfl rfl 0 (Nat.le_of_ble_eq_true rfl) (hts _ wd_491) (fun _ h9 => h9) rfl dX10_carried_43 ?_
      refine lv_iconst (v := 0) hx hb dX10_carried_46 rfl ?_
      refine lv_iload_n hx hb dX10_carried_47 rfl (lv_at hl 0 rfl) ?_
      refine lv_iadd hx hb dX10_carried_48 ?_
      obtain ⟨hv_7, hF⟩ := hF
      refine va_iald hx hb hK hP 2 0 rfl rfl hv_7 dX10_carried_49 ?_
      obtain ⟨hs_8, hF⟩ := hF
      refine cVi (wr := [((Rf 0), .inl (cI, 1302, .inl f0))]) (rest := []) (m_stampOf Rf h G f10 (f_m_whoIsAt G f0 0 0) (f0 ((12 + (f_m_whoIsAt G f0 0 0)) : Int32).toNatClampNeg) (f0 ((0 + (f_m_whoIsAt G f0 0 0)) : Int32).toNatClampNeg) hs_8) okV_X10_stampOf wd_551 hx hb hml hown hts hK hP hD hS hA hN hl.1 [1, 0] [2] rfl rfl rfl rfl (of_decide_eq_true rfl) rfl rfl rfl (Nat.le_of_ble_eq_true rfl) (Nat.le_of_ble_eq_true rfl) (Nat.le_of_ble_eq_true rfl) (Nat.le_of_ble_eq_true rfl) (Nat.le_of_ble_eq_true rfl) dX10_carried_50 (fun r_10 u_9 H locs hw_u_9 hP hD hS => ?_)
      replace hw_u_9 : r_10 = (f_m_stampOf G f10 (f_m_whoIsAt G f0 0 0) (f0 ((12 + (f_m_whoIsAt G f0 0 0)) : Int32).toNatClampNeg) (f0 ((0 + (f_m_whoIsAt G f0 0 0)) : Int32).toNatClampNeg)) := hw_u_9
      rw [hw_u_9]
      clear hw_u_9
      have hP : va_P D classes [((Rf 0), .inl (cI, 1302, .inl f0)), (h, .inr (10, ML G Rf)), ((Rf 10), .inl (cI, 30, .inl f10))] H := hP
      have hD : va_D A [((Rf 0), .inl (cI, 1302, .inl f0)), (h, .inr (10, ML G Rf)), ((Rf 10), .inl (cI, 30, .inl f10))] := hD
      refine lv_istore_n (lv' := [(3, .int (f_m_stampOf G f10 (f_m_whoIsAt G f0 0 0) (f0 ((12 + (f_m_whoIsAt G f0 0 0)) : Int32).toNatClampNeg) (f0 ((0 + (f_m_whoIsAt G f0 0 0)) : Int32).toNatClampNeg))), (2, .int (f_m_whoIsAt G f0 0 0)), (0, .ref h), (1, .int b_)]) hx hb dX10_carried_53 rfl hl (Nat.le_of_ble_eq_true rfl) rfl (fun ls hl => ?_)
      refine lv_iconst (v := (-1)) hx hb dX10_carried_54 rfl ?_
      refine lv_istore (lv' := [(4, .int (-1)), (3, .int (f_m_stampOf G f10 (f_m_whoIsAt G f0 0 0) (f0 ((12 + (f_m_whoIsAt G f0 0 0)) : Int32).toNatClampNeg) (f0 ((0 + (f_m_whoIsAt G f0 0 0)) : Int32).toNatClampNeg))), (2, .int (f_m_whoIsAt G f0 0 0)), (0, .ref h), (1, .int b_)]) hx hb dX10_carried_55 hl (Nat.le_of_ble_eq_true rfl) rfl (fun ls hl => ?_)
      refine lv_iconst (v := 0) hx hb dX10_carried_57 rfl ?_
      refine lv_istore (lv' := [(5, .int 0), (4, .int (-1)), (3, .int (f_m_stampOf G f10 (f_m_whoIsAt G f0 0 0) (f0 ((12 + (f_m_whoIsAt G f0 0 0)) : Int32).toNatClampNeg) (f0 ((0 + (f_m_whoIsAt G f0 0 0)) : Int32).toNatClampNeg))), (2, .int (f_m_whoIsAt G f0 0 0)), (0, .ref h), (1, .int b_)]) hx hb dX10_carried_58 hl (Nat.le_of_ble_eq_true rfl) rfl (fun ls hl => ?_)
      refine lv_iconst (v := 1) hx hb dX10_carried_60 rfl ?_
      refine lv_istore (lv' := [(6, .int 1), (5, .int 0), (4, .int (-1)), (3, .int (f_m_stampOf G f10 (f_m_whoIsAt G f0 0 0) (f0 ((12 + (f_m_whoIsAt G f0 0 0)) : Int32).toNatClampNeg) (f0 ((0 + (f_m_whoIsAt G f0 0 0)) : Int32).toNatClampNeg))), (2, .int (f_m_whoIsAt G f0 0 0)), (0, .ref h), (1, .int b_)]) hx hb dX10_carried_61 hl (Nat.le_of_ble_eq_true rfl) rfl (fun ls hl => ?_)
      have ex_63_w_11 : ∀ (w_11l6 : Int32) (w_11l5 : Int32) (w_11l4 : Int32) (w_11l3 : Int32) (H : Heap) (locs : List Loc) (ls : Array Slot), va_P D classes [((Rf 0), .inl (cI, 1302, .inl f0)), (h, .inr (10, ML G Rf)), ((Rf 10), .inl (cI, 30, .inl f10))] H → va_D A [((Rf 0), .inl (cI, 1302, .inl f0)), (h, .inr (10, ML G Rf)), ((Rf 10), .inl (cI, 30, .inl f10))] → va_S A s.heap H locs → lv_has ls 7 [(6, .int w_11l6), (5, .int w_11l5), (4, .int w_11l4), (3, .int w_11l3), (2, .int (f_m_whoIsAt G f0 0 0)), (0, .ref h), (1, .int b_)] → (((b_ = (-1) → True) ∧ (¬ b_ = (-1) → True))) → (((if b_ = (-1) then w_11l4 else w_11l5)) : Int32) = RES → W p l e rm_m_carried s m args below meth c H locs 0 0 Q (F0 m 130 ls []) := by
        intro w_11l6 w_11l5 w_11l4 w_11l3 H locs ls hP hD hS hl hF hE
        refine lv_iload_n hx hb dX10_carried_130 rfl (lv_at hl 6 rfl) ?_
        refine lv_iconst (v := (-1)) hx hb dX10_carried_131 rfl ?_
        refine lv_icmp_ne (tgt := 140) hx hb dX10_carried_132 rfl (fun c_12 => ?_) (fun c_12 => ?_)
        · replace hF := hF.2 c_12
          rw [if_neg c_12] at hE
          refine lv_iload hx hb dX10_carried_140 (lv_at hl 1 rfl) ?_
          exact hret w_11l5 () _ _ _ _ dX10_carried_142 rfl hE (cutP (isC := [1, 0, 2]) hP rfl) (cutD (isC := [1, 0, 2]) hD rfl rfl) hS
        · replace hF := hF.1 c_12
          rw [if_pos c_12] at hE
          refine lv_iload hx hb dX10_carried_135 (lv_at hl 2 rfl) ?_
          refine lv_goto (tgt := 142) hx hb dX10_carried_137 rfl ?_
          exact hret w_11l4 () _ _ _ _ dX10_carried_142 rfl hE (cutP (isC := [1, 0, 2]) hP rfl) (cutD (isC := [1, 0, 2]) hD rfl rfl) hS
      have lp_63_w_11 : ∀ (n_w_11 : Nat) (w_11l6 : Int32) (w_11l5 : Int32) (w_11l4 : Int32) (w_11l3 : Int32) (H : Heap) (locs : List Loc) (ls : Array Slot), va_P D classes [((Rf 0), .inl (cI, 1302, .inl f0)), (h, .inr (10, ML G Rf)), ((Rf 10), .inl (cI, 30, .inl f10))] H → va_D A [((Rf 0), .inl (cI, 1302, .inl f0)), (h, .inr (10, ML G Rf)), ((Rf 10), .inl (cI, 30, .inl f10))] → va_S A s.heap H locs → lv_has ls 7 [(6, .int w_11l6), (5, .int w_11l5), (4, .int w_11l4), (3, .int w_11l3), (2, .int (f_m_whoIsAt G f0 0 0)), (0, .ref h), (1, .int b_)] → (S_m_carried_63 G f0 b_ (fun (w_11l6 : Int32) (w_11l5 : Int32) (w_11l4 : Int32) (w_11l3 : Int32) => ((b_ = (-1) → True) ∧ (¬ b_ = (-1) → True))) n_w_11 w_11l6 w_11l5 w_11l4 w_11l3) → (((G 3) : Int32).toInt - (w_11l6 : Int32).toInt).toNat < n_w_11 → ((match ((f_m_carried_63 G f0 b_ n_w_11 w_11l6 w_11l5 w_11l4 w_11l3) : Int32 × Int32 × Int32 × Int32) with | (w_11l6, w_11l5, w_11l4, w_11l3) => (if b_ = (-1) then w_11l4 else w_11l5)) : Int32) = RES → W p l e rm_m_carried s m args below meth c H locs 0 0 Q (F0 m 63 ls []) := by
        intro n_w_11
        induction n_w_11 with
        | zero => intro w_11l6 w_11l5 w_11l4 w_11l3 H locs ls hP hD hS hl hF hm; exact absurd hm (Nat.not_lt_zero _)
        | succ n_w_11 ih_w_11 =>
          intro w_11l6 w_11l5 w_11l4 w_11l3 H locs ls hP hD hS hl hF hm hE
          rw [S_m_carried_63_s] at hF
          rw [f_m_carried_63_s] at hE
          refine lv_iload hx hb dX10_carried_63 (lv_at hl 0 rfl) ?_
          refine lv_aload_n hx hb dX10_carried_65 rfl (lv_at hl 5 rfl) ?_
          refine va_get (D := D) (ci := 10) (v := .int (G 3)) (C := RX10) (T := TX10) (N := 45) hx hb hts iX10 hown hK hP 1 rfl rfl 3 (Nat.le_of_ble_eq_true rfl) (hts _ wd_494) (fun _ h9 => h9) rfl dX10_carried_66 ?_
          refine lv_icmp_ge (tgt := 130) hx hb dX10_carried_69 rfl (fun c_13 => ?_) (fun c_13 => ?_)
          · replace hF := hF.1 c_13
            rw [if_pos c_13] at hE
            exact ex_63_w_11 w_11l6 w_11l5 w_11l4 w_11l3 _ _ ls hP hD hS (lv_sub hl [0, 1, 2, 3, 4, 5, 6] rfl) hF hE
          · replace hF := hF.2 c_13
            rw [if_neg c_13] at hE
            refine lv_iload_n hx hb dX10_carried_72 rfl (lv_at hl 3 rfl) ?_
            refine lv_if_ne (tgt := 87) hx hb dX10_carried_73 rfl (fun c_14 => ?_) (fun c_14 => ?_)
            · replace hF := hF.2 c_14
              rw [if_neg c_14] at hE
              refine lv_iload hx hb dX10_carried_87 (lv_at hl 2 rfl) ?_
              refine lv_istore (lv' := [(4, .int w_11l4), (6, .int w_11l6), (5, .int w_11l5), (3, .int w_11l3), (2, .int (f_m_whoIsAt G f0 0 0)), (0, .ref h), (1, .int b_)]) hx hb dX10_carried_89 hl (Nat.le_of_ble_eq_true rfl) rfl (fun ls hl => ?_)
              refine lv_iload hx hb dX10_carried_91 (lv_at hl 1 rfl) ?_
              refine lv_iload_n hx hb dX10_carried_93 rfl (lv_at hl 6 rfl) ?_
              refine lv_icmp_ne (tgt := 101) hx hb dX10_carried_94 rfl (fun c_15 => ?_) (fun c_15 => ?_)
              · replace hF := hF.2 c_15
                rw [if_neg c_15] at hE
                refine lv_iload hx hb dX10_carried_101 (lv_at hl 2 rfl) ?_
                refine lv_istore (lv' := [(5, .int w_11l5), (4, .int w_11l4), (6, .int w_11l6), (3, .int w_11l3), (2, .int (f_m_whoIsAt G f0 0 0)), (0, .ref h), (1, .int b_)]) hx hb dX10_carried_103 hl (Nat.le_of_ble_eq_true rfl) rfl (fun ls hl => ?_)
                refine lv_aload_n hx hb dX10_carried_105 rfl (lv_at hl 5 rfl) ?_
                refine lv_iconst (v := 0) hx hb dX10_carried_106 rfl ?_
                refine lv_iload hx hb dX10_carried_107 (lv_at hl 2 rfl) ?_
                obtain ⟨hs_16, hF⟩ := hF
                refine cVi (wr := [((Rf 10), .inl (cI, 30, .inl f10))]) (rest := []) (m_whoIsAt Rf h G f0 0 w_11l6 hs_16) okV_X10_whoIsAt wd_575 hx hb hml hown hts hK hP hD hS hA hN hl.1 [1, 0] [2] rfl rfl rfl rfl (of_decide_eq_true rfl) rfl rfl rfl (Nat.le_of_ble_eq_true rfl) (Nat.le_of_ble_eq_true rfl) (Nat.le_of_ble_eq_true rfl) (Nat.le_of_ble_eq_true rfl) (Nat.le_of_ble_eq_true rfl) dX10_carried_109 (fun r_18 u_17 H locs hw_u_17 hP hD hS => ?_)
                replace hw_u_17 : r_18 = (f_m_whoIsAt G f0 0 w_11l6) := hw_u_17
                rw [hw_u_17]
                clear hw_u_17
                have hP : va_P D classes [((Rf 10), .inl (cI, 30, .inl f10)), (h, .inr (10, ML G Rf)), ((Rf 0), .inl (cI, 1302, .inl f0))] H := hP
                have hD : va_D A [((Rf 10), .inl (cI, 30, .inl f10)), (h, .inr (10, ML G Rf)), ((Rf 0), .inl (cI, 1302, .inl f0))] := hD
                refine lv_iconst (v := (-1)) hx hb dX10_carried_112 rfl ?_
                refine lv_icmp_ne (tgt := 120) hx hb dX10_carried_113 rfl (fun c_19 => ?_) (fun c_19 => ?_)
                · replace hF := hF.2 c_19
                  rw [if_neg c_19] at hE
                  refine lv_iload_n hx hb dX10_carried_120 rfl (lv_at hl 3 rfl) ?_
                  refine lv_iconst (v := 2) hx hb dX10_carried_121 rfl ?_
                  refine lv_idiv hx hb dX10_carried_122 (by decide) ?_
                  refine lv_istore_n (lv' := [(3, .int (w_11l3 / 2)), (5, .int w_11l5), (4, .int w_11l4), (6, .int w_11l6), (2, .int (f_m_whoIsAt G f0 0 0)), (0, .ref h), (1, .int b_)]) hx hb dX10_carried_123 rfl hl (Nat.le_of_ble_eq_true rfl) rfl (fun ls hl => ?_)
                  refine lv_iinc (v := (w_11l6 + 1)) (lv' := [(6, .int (w_11l6 + 1)), (3, .int (w_11l3 / 2)), (5, .int w_11l5), (4, .int w_11l4), (2, .int (f_m_whoIsAt G f0 0 0)), (0, .ref h), (1, .int b_)]) hx hb dX10_carried_124 hl (k := 3) rfl rfl (Nat.le_of_ble_eq_true rfl) rfl (fun ls hl => ?_)
                  refine lv_goto (tgt := 63) hx hb dX10_carried_127 rfl ?_
                  exact ih_w_11 (w_11l6 + 1) w_11l5 w_11l4 (w_11l3 / 2) _ _ ls (cutP (isC := [2, 1, 0]) hP rfl) (cutD (isC := [2, 1, 0]) hD rfl rfl) hS (lv_sub hl [0, 2, 3, 1, 4, 5, 6] rfl) hF (up_step c_13 hm) hE
                · replace hF := hF.1 c_19
                  rw [if_pos c_19] at hE
                  refine lv_iload_n hx hb dX10_carried_116 rfl (lv_at hl 3 rfl) ?_
                  refine lv_goto (tgt := 123) hx hb dX10_carried_117 rfl ?_
                  refine lv_istore_n (lv' := [(3, .int w_11l3), (5, .int w_11l5), (4, .int w_11l4), (6, .int w_11l6), (2, .int (f_m_whoIsAt G f0 0 0)), (0, .ref h), (1, .int b_)]) hx hb dX10_carried_123 rfl hl (Nat.le_of_ble_eq_true rfl) rfl (fun ls hl => ?_)
                  refine lv_iinc (v := (w_11l6 + 1)) (lv' := [(6, .int (w_11l6 + 1)), (3, .int w_11l3), (5, .int w_11l5), (4, .int w_11l4), (2, .int (f_m_whoIsAt G f0 0 0)), (0, .ref h), (1, .int b_)]) hx hb dX10_carried_124 hl (k := 3) rfl rfl (Nat.le_of_ble_eq_true rfl) rfl (fun ls hl => ?_)
                  refine lv_goto (tgt := 63) hx hb dX10_carried_127 rfl ?_
                  exact ih_w_11 (w_11l6 + 1) w_11l5 w_11l4 w_11l3 _ _ ls (cutP (isC := [2, 1, 0]) hP rfl) (cutD (isC := [2, 1, 0]) hD rfl rfl) hS (lv_sub hl [0, 2, 3, 1, 4, 5, 6] rfl) hF (up_step c_13 hm) hE
              · replace hF := hF.1 c_15
                rw [if_pos c_15] at hE
                refine lv_iload_n hx hb dX10_carried_97 rfl (lv_at hl 3 rfl) ?_
                refine lv_goto (tgt := 103) hx hb dX10_carried_98 rfl ?_
                refine lv_istore (lv' := [(5, .int w_11l3), (4, .int w_11l4), (6, .int w_11l6), (3, .int w_11l3), (2, .int (f_m_whoIsAt G f0 0 0)), (0, .ref h), (1, .int b_)]) hx hb dX10_carried_103 hl (Nat.le_of_ble_eq_true rfl) rfl (fun ls hl => ?_)
                refine lv_aload_n hx hb dX10_carried_105 rfl (lv_at hl 5 rfl) ?_
                refine lv_iconst (v := 0) hx hb dX10_carried_106 rfl ?_
                refine lv_iload hx hb dX10_carried_107 (lv_at hl 2 rfl) ?_
                obtain ⟨hs_20, hF⟩ := hF
                refine cVi (wr := [((Rf 10), .inl (cI, 30, .inl f10))]) (rest := []) (m_whoIsAt Rf h G f0 0 w_11l6 hs_20) okV_X10_whoIsAt wd_575 hx hb hml hown hts hK hP hD hS hA hN hl.1 [1, 0] [2] rfl rfl rfl rfl (of_decide_eq_true rfl) rfl rfl rfl (Nat.le_of_ble_eq_true rfl) (Nat.le_of_ble_eq_true rfl) (Nat.le_of_ble_eq_true rfl) (Nat.le_of_ble_eq_true rfl) (Nat.le_of_ble_eq_true rfl) dX10_carried_109 (fun r_22 u_21 H locs hw_u_21 hP hD hS => ?_)
                replace hw_u_21 : r_22 = (f_m_whoIsAt G f0 0 w_11l6) := hw_u_21
                rw [hw_u_21]
                clear hw_u_21
                have hP : va_P D classes [((Rf 10), .inl (cI, 30, .inl f10)), (h, .inr (10, ML G Rf)), ((Rf 0), .inl (cI, 1302, .inl f0))] H := hP
                have hD : va_D A [((Rf 10), .inl (cI, 30, .inl f10)), (h, .inr (10, ML G Rf)), ((Rf 0), .inl (cI, 1302, .inl f0))] := hD
                refine lv_iconst (v := (-1)) hx hb dX10_carried_112 rfl ?_
                refine lv_icmp_ne (tgt := 120) hx hb dX10_carried_113 rfl (fun c_23 => ?_) (fun c_23 => ?_)
                · replace hF := hF.2 c_23
                  rw [if_neg c_23] at hE
                  refine lv_iload_n hx hb dX10_carried_120 rfl (lv_at hl 3 rfl) ?_
                  refine lv_iconst (v := 2) hx hb dX10_carried_121 rfl ?_
                  refine lv_idiv hx hb dX10_carried_122 (by decide) ?_
                  refine lv_istore_n (lv' := [(3, .int (w_11l3 / 2)), (5, .int w_11l3), (4, .int w_11l4), (6, .int w_11l6), (2, .int (f_m_whoIsAt G f0 0 0)), (0, .ref h), (1, .int b_)]) hx hb dX10_carried_123 rfl hl (Nat.le_of_ble_eq_true rfl) rfl (fun ls hl => ?_)
                  refine lv_iinc (v := (w_11l6 + 1)) (lv' := [(6, .int (w_11l6 + 1)), (3, .int (w_11l3 / 2)), (5, .int w_11l3), (4, .int w_11l4), (2, .int (f_m_whoIsAt G f0 0 0)), (0, .ref h), (1, .int b_)]) hx hb dX10_carried_124 hl (k := 3) rfl rfl (Nat.le_of_ble_eq_true rfl) rfl (fun ls hl => ?_)
                  refine lv_goto (tgt := 63) hx hb dX10_carried_127 rfl ?_
                  exact ih_w_11 (w_11l6 + 1) w_11l3 w_11l4 (w_11l3 / 2) _ _ ls (cutP (isC := [2, 1, 0]) hP rfl) (cutD (isC := [2, 1, 0]) hD rfl rfl) hS (lv_sub hl [0, 2, 3, 1, 4, 5, 6] rfl) hF (up_step c_13 hm) hE
                · replace hF := hF.1 c_23
                  rw [if_pos c_23] at hE
                  refine lv_iload_n hx hb dX10_carried_116 rfl (lv_at hl 3 rfl) ?_
                  refine lv_goto (tgt := 123) hx hb dX10_carried_117 rfl ?_
                  refine lv_istore_n (lv' := [(3, .int w_11l3), (5, .int w_11l3), (4, .int w_11l4), (6, .int w_11l6), (2, .int (f_m_whoIsAt G f0 0 0)), (0, .ref h), (1, .int b_)]) hx hb dX10_carried_123 rfl hl (Nat.le_of_ble_eq_true rfl) rfl (fun ls hl => ?_)
                  refine lv_iinc (v := (w_11l6 + 1)) (lv' := [(6, .int (w_11l6 + 1)), (3, .int w_11l3), (5, .int w_11l3), (4, .int w_11l4), (2, .int (f_m_whoIsAt G f0 0 0)), (0, .ref h), (1, .int b_)]) hx hb dX10_carried_124 hl (k := 3) rfl rfl (Nat.le_of_ble_eq_true rfl) rfl (fun ls hl => ?_)
                  refine lv_goto (tgt := 63) hx hb dX10_carried_127 rfl ?_
                  exact ih_w_11 (w_11l6 + 1) w_11l3 w_11l4 w_11l3 _ _ ls (cutP (isC := [2, 1, 0]) hP rfl) (cutD (isC := [2, 1, 0]) hD rfl rfl) hS (lv_sub hl [0, 2, 3, 1, 4, 5, 6] rfl) hF (up_step c_13 hm) hE
            · replace hF := hF.1 c_14
              rw [if_pos c_14] at hE
              refine lv_iload hx hb dX10_carried_76 (lv_at hl 2 rfl) ?_
              refine lv_iconst (v := (-1)) hx hb dX10_carried_78 rfl ?_
              refine lv_icmp_ne (tgt := 87) hx hb dX10_carried_79 rfl (fun c_24 => ?_) (fun c_24 => ?_)
              · replace hF := hF.2 c_24
                rw [if_neg c_24] at hE
                refine lv_iload hx hb dX10_carried_87 (lv_at hl 2 rfl) ?_
                refine lv_istore (lv' := [(4, .int w_11l4), (6, .int w_11l6), (5, .int w_11l5), (3, .int w_11l3), (2, .int (f_m_whoIsAt G f0 0 0)), (0, .ref h), (1, .int b_)]) hx hb dX10_carried_89 hl (Nat.le_of_ble_eq_true rfl) rfl (fun ls hl => ?_)
                refine lv_iload hx hb dX10_carried_91 (lv_at hl 1 rfl) ?_
                refine lv_iload_n hx hb dX10_carried_93 rfl (lv_at hl 6 rfl) ?_
                refine lv_icmp_ne (tgt := 101) hx hb dX10_carried_94 rfl (fun c_25 => ?_) (fun c_25 => ?_)
                · replace hF := hF.2 c_25
                  rw [if_neg c_25] at hE
                  refine lv_iload hx hb dX10_carried_101 (lv_at hl 2 rfl) ?_
                  refine lv_istore (lv' := [(5, .int w_11l5), (4, .int w_11l4), (6, .int w_11l6), (3, .int w_11l3), (2, .int (f_m_whoIsAt G f0 0 0)), (0, .ref h), (1, .int b_)]) hx hb dX10_carried_103 hl (Nat.le_of_ble_eq_true rfl) rfl (fun ls hl => ?_)
                  refine lv_aload_n hx hb dX10_carried_105 rfl (lv_at hl 5 rfl) ?_
                  refine lv_iconst (v := 0) hx hb dX10_carried_106 rfl ?_
                  refine lv_iload hx hb dX10_carried_107 (lv_at hl 2 rfl) ?_
                  obtain ⟨hs_26, hF⟩ := hF
                  refine cVi (wr := [((Rf 10), .inl (cI, 30, .inl f10))]) (rest := []) (m_whoIsAt Rf h G f0 0 w_11l6 hs_26) okV_X10_whoIsAt wd_575 hx hb hml hown hts hK hP hD hS hA hN hl.1 [1, 0] [2] rfl rfl rfl rfl (of_decide_eq_true rfl) rfl rfl rfl (Nat.le_of_ble_eq_true rfl) (Nat.le_of_ble_eq_true rfl) (Nat.le_of_ble_eq_true rfl) (Nat.le_of_ble_eq_true rfl) (Nat.le_of_ble_eq_true rfl) dX10_carried_109 (fun r_28 u_27 H locs hw_u_27 hP hD hS => ?_)
                  replace hw_u_27 : r_28 = (f_m_whoIsAt G f0 0 w_11l6) := hw_u_27
                  rw [hw_u_27]
                  clear hw_u_27
                  have hP : va_P D classes [((Rf 10), .inl (cI, 30, .inl f10)), (h, .inr (10, ML G Rf)), ((Rf 0), .inl (cI, 1302, .inl f0))] H := hP
                  have hD : va_D A [((Rf 10), .inl (cI, 30, .inl f10)), (h, .inr (10, ML G Rf)), ((Rf 0), .inl (cI, 1302, .inl f0))] := hD
                  refine lv_iconst (v := (-1)) hx hb dX10_carried_112 rfl ?_
                  refine lv_icmp_ne (tgt := 120) hx hb dX10_carried_113 rfl (fun c_29 => ?_) (fun c_29 => ?_)
                  · replace hF := hF.2 c_29
                    rw [if_neg c_29] at hE
                    refine lv_iload_n hx hb dX10_carried_120 rfl (lv_at hl 3 rfl) ?_
                    refine lv_iconst (v := 2) hx hb dX10_carried_121 rfl ?_
                    refine lv_idiv hx hb dX10_carried_122 (by decide) ?_
                    refine lv_istore_n (lv' := [(3, .int (w_11l3 / 2)), (5, .int w_11l5), (4, .int w_11l4), (6, .int w_11l6), (2, .int (f_m_whoIsAt G f0 0 0)), (0, .ref h), (1, .int b_)]) hx hb dX10_carried_123 rfl hl (Nat.le_of_ble_eq_true rfl) rfl (fun ls hl => ?_)
                    refine lv_iinc (v := (w_11l6 + 1)) (lv' := [(6, .int (w_11l6 + 1)), (3, .int (w_11l3 / 2)), (5, .int w_11l5), (4, .int w_11l4), (2, .int (f_m_whoIsAt G f0 0 0)), (0, .ref h), (1, .int b_)]) hx hb dX10_carried_124 hl (k := 3) rfl rfl (Nat.le_of_ble_eq_true rfl) rfl (fun ls hl => ?_)
                    refine lv_goto (tgt := 63) hx hb dX10_carried_127 rfl ?_
                    exact ih_w_11 (w_11l6 + 1) w_11l5 w_11l4 (w_11l3 / 2) _ _ ls (cutP (isC := [2, 1, 0]) hP rfl) (cutD (isC := [2, 1, 0]) hD rfl rfl) hS (lv_sub hl [0, 2, 3, 1, 4, 5, 6] rfl) hF (up_step c_13 hm) hE
                  · replace hF := hF.1 c_29
                    rw [if_pos c_29] at hE
                    refine lv_iload_n hx hb dX10_carried_116 rfl (lv_at hl 3 rfl) ?_
                    refine lv_goto (tgt := 123) hx hb dX10_carried_117 rfl ?_
                    refine lv_istore_n (lv' := [(3, .int w_11l3), (5, .int w_11l5), (4, .int w_11l4), (6, .int w_11l6), (2, .int (f_m_whoIsAt G f0 0 0)), (0, .ref h), (1, .int b_)]) hx hb dX10_carried_123 rfl hl (Nat.le_of_ble_eq_true rfl) rfl (fun ls hl => ?_)
                    refine lv_iinc (v := (w_11l6 + 1)) (lv' := [(6, .int (w_11l6 + 1)), (3, .int w_11l3), (5, .int w_11l5), (4, .int w_11l4), (2, .int (f_m_whoIsAt G f0 0 0)), (0, .ref h), (1, .int b_)]) hx hb dX10_carried_124 hl (k := 3) rfl rfl (Nat.le_of_ble_eq_true rfl) rfl (fun ls hl => ?_)
                    refine lv_goto (tgt := 63) hx hb dX10_carried_127 rfl ?_
                    exact ih_w_11 (w_11l6 + 1) w_11l5 w_11l4 w_11l3 _ _ ls (cutP (isC := [2, 1, 0]) hP rfl) (cutD (isC := [2, 1, 0]) hD rfl rfl) hS (lv_sub hl [0, 2, 3, 1, 4, 5, 6] rfl) hF (up_step c_13 hm) hE
                · replace hF := hF.1 c_25
                  rw [if_pos c_25] at hE
                  refine lv_iload_n hx hb dX10_carried_97 rfl (lv_at hl 3 rfl) ?_
                  refine lv_goto (tgt := 103) hx hb dX10_carried_98 rfl ?_
                  refine lv_istore (lv' := [(5, .int w_11l3), (4, .int w_11l4), (6, .int w_11l6), (3, .int w_11l3), (2, .int (f_m_whoIsAt G f0 0 0)), (0, .ref h), (1, .int b_)]) hx hb dX10_carried_103 hl (Nat.le_of_ble_eq_true rfl) rfl (fun ls hl => ?_)
                  refine lv_aload_n hx hb dX10_carried_105 rfl (lv_at hl 5 rfl) ?_
                  refine lv_iconst (v := 0) hx hb dX10_carried_106 rfl ?_
                  refine lv_iload hx hb dX10_carried_107 (lv_at hl 2 rfl) ?_
                  obtain ⟨hs_30, hF⟩ := hF
                  refine cVi (wr := [((Rf 10), .inl (cI, 30, .inl f10))]) (rest := []) (m_whoIsAt Rf h G f0 0 w_11l6 hs_30) okV_X10_whoIsAt wd_575 hx hb hml hown hts hK hP hD hS hA hN hl.1 [1, 0] [2] rfl rfl rfl rfl (of_decide_eq_true rfl) rfl rfl rfl (Nat.le_of_ble_eq_true rfl) (Nat.le_of_ble_eq_true rfl) (Nat.le_of_ble_eq_true rfl) (Nat.le_of_ble_eq_true rfl) (Nat.le_of_ble_eq_true rfl) dX10_carried_109 (fun r_32 u_31 H locs hw_u_31 hP hD hS => ?_)
                  replace hw_u_31 : r_32 = (f_m_whoIsAt G f0 0 w_11l6) := hw_u_31
                  rw [hw_u_31]
                  clear hw_u_31
                  have hP : va_P D classes [((Rf 10), .inl (cI, 30, .inl f10)), (h, .inr (10, ML G Rf)), ((Rf 0), .inl (cI, 1302, .inl f0))] H := hP
                  have hD : va_D A [((Rf 10), .inl (cI, 30, .inl f10)), (h, .inr (10, ML G Rf)), ((Rf 0), .inl (cI, 1302, .inl f0))] := hD
                  refine lv_iconst (v := (-1)) hx hb dX10_carried_112 rfl ?_
                  refine lv_icmp_ne (tgt := 120) hx hb dX10_carried_113 rfl (fun c_33 => ?_) (fun c_33 => ?_)
                  · replace hF := hF.2 c_33
                    rw [if_neg c_33] at hE
                    refine lv_iload_n hx hb dX10_carried_120 rfl (lv_at hl 3 rfl) ?_
                    refine lv_iconst (v := 2) hx hb dX10_carried_121 rfl ?_
                    refine lv_idiv hx hb dX10_carried_122 (by decide) ?_
                    refine lv_istore_n (lv' := [(3, .int (w_11l3 / 2)), (5, .int w_11l3), (4, .int w_11l4), (6, .int w_11l6), (2, .int (f_m_whoIsAt G f0 0 0)), (0, .ref h), (1, .int b_)]) hx hb dX10_carried_123 rfl hl (Nat.le_of_ble_eq_true rfl) rfl (fun ls hl => ?_)
                    refine lv_iinc (v := (w_11l6 + 1)) (lv' := [(6, .int (w_11l6 + 1)), (3, .int (w_11l3 / 2)), (5, .int w_11l3), (4, .int w_11l4), (2, .int (f_m_whoIsAt G f0 0 0)), (0, .ref h), (1, .int b_)]) hx hb dX10_carried_124 hl (k := 3) rfl rfl (Nat.le_of_ble_eq_true rfl) rfl (fun ls hl => ?_)
                    refine lv_goto (tgt := 63) hx hb dX10_carried_127 rfl ?_
                    exact ih_w_11 (w_11l6 + 1) w_11l3 w_11l4 (w_11l3 / 2) _ _ ls (cutP (isC := [2, 1, 0]) hP rfl) (cutD (isC := [2, 1, 0]) hD rfl rfl) hS (lv_sub hl [0, 2, 3, 1, 4, 5, 6] rfl) hF (up_step c_13 hm) hE
                  · replace hF := hF.1 c_33
                    rw [if_pos c_33] at hE
                    refine lv_iload_n hx hb dX10_carried_116 rfl (lv_at hl 3 rfl) ?_
                    refine lv_goto (tgt := 123) hx hb dX10_carried_117 rfl ?_
                    refine lv_istore_n (lv' := [(3, .int w_11l3), (5, .int w_11l3), (4, .int w_11l4), (6, .int w_11l6), (2, .int (f_m_whoIsAt G f0 0 0)), (0, .ref h), (1, .int b_)]) hx hb dX10_carried_123 rfl hl (Nat.le_of_ble_eq_true rfl) rfl (fun ls hl => ?_)
                    refine lv_iinc (v := (w_11l6 + 1)) (lv' := [(6, .int (w_11l6 + 1)), (3, .int w_11l3), (5, .int w_11l3), (4, .int w_11l4), (2, .int (f_m_whoIsAt G f0 0 0)), (0, .ref h), (1, .int b_)]) hx hb dX10_carried_124 hl (k := 3) rfl rfl (Nat.le_of_ble_eq_true rfl) rfl (fun ls hl => ?_)
                    refine lv_goto (tgt := 63) hx hb dX10_carried_127 rfl ?_
                    exact ih_w_11 (w_11l6 + 1) w_11l3 w_11l4 w_11l3 _ _ ls (cutP (isC := [2, 1, 0]) hP rfl) (cutD (isC := [2, 1, 0]) hD rfl rfl) hS (lv_sub hl [0, 2, 3, 1, 4, 5, 6] rfl) hF (up_step c_13 hm) hE
              · replace hF := hF.1 c_24
                rw [if_pos c_24] at hE
                refine lv_iload hx hb dX10_carried_82 (lv_at hl 0 rfl) ?_
                refine lv_goto (tgt := 89) hx hb dX10_carried_84 rfl ?_
                refine lv_istore (lv' := [(4, .int w_11l6), (6, .int w_11l6), (5, .int w_11l5), (3, .int w_11l3), (2, .int (f_m_whoIsAt G f0 0 0)), (0, .ref h), (1, .int b_)]) hx hb dX10_carried_89 hl (Nat.le_of_ble_eq_true rfl) rfl (fun ls hl => ?_)
                refine lv_iload hx hb dX10_carried_91 (lv_at hl 1 rfl) ?_
                refine lv_iload_n hx hb dX10_carried_93 rfl (lv_at hl 6 rfl) ?_
                refine lv_icmp_ne (tgt := 101) hx hb dX10_carried_94 rfl (fun c_34 => ?_) (fun c_34 => ?_)
                · replace hF := hF.2 c_34
                  rw [if_neg c_34] at hE
                  refine lv_iload hx hb dX10_carried_101 (lv_at hl 2 rfl) ?_
                  refine lv_istore (lv' := [(5, .int w_11l5), (4, .int w_11l6), (6, .int w_11l6), (3, .int w_11l3), (2, .int (f_m_whoIsAt G f0 0 0)), (0, .ref h), (1, .int b_)]) hx hb dX10_carried_103 hl (Nat.le_of_ble_eq_true rfl) rfl (fun ls hl => ?_)
                  refine lv_aload_n hx hb dX10_carried_105 rfl (lv_at hl 5 rfl) ?_
                  refine lv_iconst (v := 0) hx hb dX10_carried_106 rfl ?_
                  refine lv_iload hx hb dX10_carried_107 (lv_at hl 2 rfl) ?_
                  obtain ⟨hs_35, hF⟩ := hF
                  refine cVi (wr := [((Rf 10), .inl (cI, 30, .inl f10))]) (rest := []) (m_whoIsAt Rf h G f0 0 w_11l6 hs_35) okV_X10_whoIsAt wd_575 hx hb hml hown hts hK hP hD hS hA hN hl.1 [1, 0] [2] rfl rfl rfl rfl (of_decide_eq_true rfl) rfl rfl rfl (Nat.le_of_ble_eq_true rfl) (Nat.le_of_ble_eq_true rfl) (Nat.le_of_ble_eq_true rfl) (Nat.le_of_ble_eq_true rfl) (Nat.le_of_ble_eq_true rfl) dX10_carried_109 (fun r_37 u_36 H locs hw_u_36 hP hD hS => ?_)
                  replace hw_u_36 : r_37 = (f_m_whoIsAt G f0 0 w_11l6) := hw_u_36
                  rw [hw_u_36]
                  clear hw_u_36
                  have hP : va_P D classes [((Rf 10), .inl (cI, 30, .inl f10)), (h, .inr (10, ML G Rf)), ((Rf 0), .inl (cI, 1302, .inl f0))] H := hP
                  have hD : va_D A [((Rf 10), .inl (cI, 30, .inl f10)), (h, .inr (10, ML G Rf)), ((Rf 0), .inl (cI, 1302, .inl f0))] := hD
                  refine lv_iconst (v := (-1)) hx hb dX10_carried_112 rfl ?_
                  refine lv_icmp_ne (tgt := 120) hx hb dX10_carried_113 rfl (fun c_38 => ?_) (fun c_38 => ?_)
                  · replace hF := hF.2 c_38
                    rw [if_neg c_38] at hE
                    refine lv_iload_n hx hb dX10_carried_120 rfl (lv_at hl 3 rfl) ?_
                    refine lv_iconst (v := 2) hx hb dX10_carried_121 rfl ?_
                    refine lv_idiv hx hb dX10_carried_122 (by decide) ?_
                    refine lv_istore_n (lv' := [(3, .int (w_11l3 / 2)), (5, .int w_11l5), (4, .int w_11l6), (6, .int w_11l6), (2, .int (f_m_whoIsAt G f0 0 0)), (0, .ref h), (1, .int b_)]) hx hb dX10_carried_123 rfl hl (Nat.le_of_ble_eq_true rfl) rfl (fun ls hl => ?_)
                    refine lv_iinc (v := (w_11l6 + 1)) (lv' := [(6, .int (w_11l6 + 1)), (3, .int (w_11l3 / 2)), (5, .int w_11l5), (4, .int w_11l6), (2, .int (f_m_whoIsAt G f0 0 0)), (0, .ref h), (1, .int b_)]) hx hb dX10_carried_124 hl (k := 3) rfl rfl (Nat.le_of_ble_eq_true rfl) rfl (fun ls hl => ?_)
                    refine lv_goto (tgt := 63) hx hb dX10_carried_127 rfl ?_
                    exact ih_w_11 (w_11l6 + 1) w_11l5 w_11l6 (w_11l3 / 2) _ _ ls (cutP (isC := [2, 1, 0]) hP rfl) (cutD (isC := [2, 1, 0]) hD rfl rfl) hS (lv_sub hl [0, 2, 3, 1, 4, 5, 6] rfl) hF (up_step c_13 hm) hE
                  · replace hF := hF.1 c_38
                    rw [if_pos c_38] at hE
                    refine lv_iload_n hx hb dX10_carried_116 rfl (lv_at hl 3 rfl) ?_
                    refine lv_goto (tgt := 123) hx hb dX10_carried_117 rfl ?_
                    refine lv_istore_n (lv' := [(3, .int w_11l3), (5, .int w_11l5), (4, .int w_11l6), (6, .int w_11l6), (2, .int (f_m_whoIsAt G f0 0 0)), (0, .ref h), (1, .int b_)]) hx hb dX10_carried_123 rfl hl (Nat.le_of_ble_eq_true rfl) rfl (fun ls hl => ?_)
                    refine lv_iinc (v := (w_11l6 + 1)) (lv' := [(6, .int (w_11l6 + 1)), (3, .int w_11l3), (5, .int w_11l5), (4, .int w_11l6), (2, .int (f_m_whoIsAt G f0 0 0)), (0, .ref h), (1, .int b_)]) hx hb dX10_carried_124 hl (k := 3) rfl rfl (Nat.le_of_ble_eq_true rfl) rfl (fun ls hl => ?_)
                    refine lv_goto (tgt := 63) hx hb dX10_carried_127 rfl ?_
                    exact ih_w_11 (w_11l6 + 1) w_11l5 w_11l6 w_11l3 _ _ ls (cutP (isC := [2, 1, 0]) hP rfl) (cutD (isC := [2, 1, 0]) hD rfl rfl) hS (lv_sub hl [0, 2, 3, 1, 4, 5, 6] rfl) hF (up_step c_13 hm) hE
                · replace hF := hF.1 c_34
                  rw [if_pos c_34] at hE
                  refine lv_iload_n hx hb dX10_carried_97 rfl (lv_at hl 3 rfl) ?_
                  refine lv_goto (tgt := 103) hx hb dX10_carried_98 rfl ?_
                  refine lv_istore (lv' := [(5, .int w_11l3), (4, .int w_11l6), (6, .int w_11l6), (3, .int w_11l3), (2, .int (f_m_whoIsAt G f0 0 0)), (0, .ref h), (1, .int b_)]) hx hb dX10_carried_103 hl (Nat.le_of_ble_eq_true rfl) rfl (fun ls hl => ?_)
                  refine lv_aload_n hx hb dX10_carried_105 rfl (lv_at hl 5 rfl) ?_
                  refine lv_iconst (v := 0) hx hb dX10_carried_106 rfl ?_
                  refine lv_iload hx hb dX10_carried_107 (lv_at hl 2 rfl) ?_
                  obtain ⟨hs_39, hF⟩ := hF
                  refine cVi (wr := [((Rf 10), .inl (cI, 30, .inl f10))]) (rest := []) (m_whoIsAt Rf h G f0 0 w_11l6 hs_39) okV_X10_whoIsAt wd_575 hx hb hml hown hts hK hP hD hS hA hN hl.1 [1, 0] [2] rfl rfl rfl rfl (of_decide_eq_true rfl) rfl rfl rfl (Nat.le_of_ble_eq_true rfl) (Nat.le_of_ble_eq_true rfl) (Nat.le_of_ble_eq_true rfl) (Nat.le_of_ble_eq_true rfl) (Nat.le_of_ble_eq_true rfl) dX10_carried_109 (fun r_41 u_40 H locs hw_u_40 hP hD hS => ?_)
                  replace hw_u_40 : r_41 = (f_m_whoIsAt G f0 0 w_11l6) := hw_u_40
                  rw [hw_u_40]
                  clear hw_u_40
                  have hP : va_P D classes [((Rf 10), .inl (cI, 30, .inl f10)), (h, .inr (10, ML G Rf)), ((Rf 0), .inl (cI, 1302, .inl f0))] H := hP
                  have hD : va_D A [((Rf 10), .inl (cI, 30, .inl f10)), (h, .inr (10, ML G Rf)), ((Rf 0), .inl (cI, 1302, .inl f0))] := hD
                  refine lv_iconst (v := (-1)) hx hb dX10_carried_112 rfl ?_
                  refine lv_icmp_ne (tgt := 120) hx hb dX10_carried_113 rfl (fun c_42 => ?_) (fun c_42 => ?_)
                  · replace hF := hF.2 c_42
                    rw [if_neg c_42] at hE
                    refine lv_iload_n hx hb dX10_carried_120 rfl (lv_at hl 3 rfl) ?_
                    refine lv_iconst (v := 2) hx hb dX10_carried_121 rfl ?_
                    refine lv_idiv hx hb dX10_carried_122 (by decide) ?_
                    refine lv_istore_n (lv' := [(3, .int (w_11l3 / 2)), (5, .int w_11l3), (4, .int w_11l6), (6, .int w_11l6), (2, .int (f_m_whoIsAt G f0 0 0)), (0, .ref h), (1, .int b_)]) hx hb dX10_carried_123 rfl hl (Nat.le_of_ble_eq_true rfl) rfl (fun ls hl => ?_)
                    refine lv_iinc (v := (w_11l6 + 1)) (lv' := [(6, .int (w_11l6 + 1)), (3, .int (w_11l3 / 2)), (5, .int w_11l3), (4, .int w_11l6), (2, .int (f_m_whoIsAt G f0 0 0)), (0, .ref h), (1, .int b_)]) hx hb dX10_carried_124 hl (k := 3) rfl rfl (Nat.le_of_ble_eq_true rfl) rfl (fun ls hl => ?_)
                    refine lv_goto (tgt := 63) hx hb dX10_carried_127 rfl ?_
                    exact ih_w_11 (w_11l6 + 1) w_11l3 w_11l6 (w_11l3 / 2) _ _ ls (cutP (isC := [2, 1, 0]) hP rfl) (cutD (isC := [2, 1, 0]) hD rfl rfl) hS (lv_sub hl [0, 2, 3, 1, 4, 5, 6] rfl) hF (up_step c_13 hm) hE
                  · replace hF := hF.1 c_42
                    rw [if_pos c_42] at hE
                    refine lv_iload_n hx hb dX10_carried_116 rfl (lv_at hl 3 rfl) ?_
                    refine lv_goto (tgt := 123) hx hb dX10_carried_117 rfl ?_
                    refine lv_istore_n (lv' := [(3, .int w_11l3), (5, .int w_11l3), (4, .int w_11l6), (6, .int w_11l6), (2, .int (f_m_whoIsAt G f0 0 0)), (0, .ref h), (1, .int b_)]) hx hb dX10_carried_123 rfl hl (Nat.le_of_ble_eq_true rfl) rfl (fun ls hl => ?_)
                    refine lv_iinc (v := (w_11l6 + 1)) (lv' := [(6, .int (w_11l6 + 1)), (3, .int w_11l3), (5, .int w_11l3), (4, .int w_11l6), (2, .int (f_m_whoIsAt G f0 0 0)), (0, .ref h), (1, .int b_)]) hx hb dX10_carried_124 hl (k := 3) rfl rfl (Nat.le_of_ble_eq_true rfl) rfl (fun ls hl => ?_)
                    refine lv_goto (tgt := 63) hx hb dX10_carried_127 rfl ?_
                    exact ih_w_11 (w_11l6 + 1) w_11l3 w_11l6 w_11l3 _ _ ls (cutP (isC := [2, 1, 0]) hP rfl) (cutD (isC := [2, 1, 0]) hD rfl rfl) hS (lv_sub hl [0, 2, 3, 1, 4, 5, 6] rfl) hF (up_step c_13 hm) hE
      exact lp_63_w_11 ((((G 3) : Int32).toInt - (1 : Int32).toInt).toNat + 1) 1 0 (-1) (f_m_stampOf G f10 (f_m_whoIsAt G f0 0 0) (f0 ((12 + (f_m_whoIsAt G f0 0 0)) : Int32).toNatClampNeg) (f0 ((0 + (f_m_whoIsAt G f0 0 0)) : Int32).toNatClampNeg)) _ _ ls hP hD hS hl hF (Nat.lt_succ_self _) hE
    · replace hF := hF.1 c_5
      rw [if_pos c_5] at hE
      refine lv_ldc (v := (-1000000003)) hx hb hown (hts _ wd_562) dX10_carried_28 ?_
      exact hret (-1000000003) () _ _ _ _ dX10_carried_30 rfl hE (cutP (isC := [1, 2, 0]) hP rfl) (cutD (isC := [1, 2, 0]) hD rfl rfl) hS
  · replace hF := hF.2 c_1
    rw [if_neg c_1] at hE
    refine lv_aload_n hx hb dX10_carried_5 rfl (lv_at hl 0 rfl) ?_
    refine lv_iload_n hx hb dX10_carried_6 rfl (lv_at hl 1 rfl) ?_
    obtain ⟨hs_43, hF⟩ := hF
    refine cVi (wr := [((Rf 0), .inl (cI, 1302, .inl f0)), ((Rf 10), .inl (cI, 30, .inl f10))]) (rest := []) (m_isBridge Rf h G b_ hs_43) okV_X10_isBridge wd_571 hx hb hml hown hts hK hP hD hS hA hN hl.1 [0] [1, 2] rfl rfl rfl rfl (of_decide_eq_true rfl) rfl rfl rfl (Nat.le_of_ble_eq_true rfl) (Nat.le_of_ble_eq_true rfl) (Nat.le_of_ble_eq_true rfl) (Nat.le_of_ble_eq_true rfl) (Nat.le_of_ble_eq_true rfl) dX10_carried_7 (fun r_45 u_44 H locs hw_u_44 hP hD hS => ?_)
    replace hw_u_44 : r_45 = (f_m_isBridge G b_) := hw_u_44
    rw [hw_u_44]
    clear hw_u_44
    have hP : va_P D classes [((Rf 0), .inl (cI, 1302, .inl f0)), ((Rf 10), .inl (cI, 30, .inl f10)), (h, .inr (10, ML G Rf))] H := hP
    have hD : va_D A [((Rf 0), .inl (cI, 1302, .inl f0)), ((Rf 10), .inl (cI, 30, .inl f10)), (h, .inr (10, ML G Rf))] := hD
    refine lv_if_ne (tgt := 16) hx hb dX10_carried_10 rfl (fun c_46 => ?_) (fun c_46 => ?_)
    · replace hF := hF.2 c_46
      rw [if_neg c_46] at hE
      refine lv_aload_n hx hb dX10_carried_16 rfl (lv_at hl 0 rfl) ?_
      refine lv_iconst (v := 0) hx hb dX10_carried_17 rfl ?_
      refine lv_iconst (v := 0) hx hb dX10_carried_18 rfl ?_
      obtain ⟨hs_47, hF⟩ := hF
      refine cVi (wr := [((Rf 10), .inl (cI, 30, .inl f10))]) (rest := []) (m_whoIsAt Rf h G f0 0 0 hs_47) okV_X10_whoIsAt wd_575 hx hb hml hown hts hK hP hD hS hA hN hl.1 [2, 0] [1] rfl rfl rfl rfl (of_decide_eq_true rfl) rfl rfl rfl (Nat.le_of_ble_eq_true rfl) (Nat.le_of_ble_eq_true rfl) (Nat.le_of_ble_eq_true rfl) (Nat.le_of_ble_eq_true rfl) (Nat.le_of_ble_eq_true rfl) dX10_carried_19 (fun r_49 u_48 H locs hw_u_48 hP hD hS => ?_)
      replace hw_u_48 : r_49 = (f_m_whoIsAt G f0 0 0) := hw_u_48
      rw [hw_u_48]
      clear hw_u_48
      have hP : va_P D classes [((Rf 10), .inl (cI, 30, .inl f10)), (h, .inr (10, ML G Rf)), ((Rf 0), .inl (cI, 1302, .inl f0))] H := hP
      have hD : va_D A [((Rf 10), .inl (cI, 30, .inl f10)), (h, .inr (10, ML G Rf)), ((Rf 0), .inl (cI, 1302, .inl f0))] := hD
      refine lv_istore_n (lv' := [(2, .int (f_m_whoIsAt G f0 0 0)), (0, .ref h), (1, .int b_)]) hx hb dX10_carried_22 rfl hl (Nat.le_of_ble_eq_true rfl) rfl (fun ls hl => ?_)
      refine lv_iload_n hx hb dX10_carried_23 rfl (lv_at hl 0 rfl) ?_
      refine lv_iconst (v := (-1)) hx hb dX10_carried_24 rfl ?_
      refine lv_icmp_ne (tgt := 31) hx hb dX10_carried_25 rfl (fun c_50 => ?_) (fun c_50 => ?_)
      · replace hF := hF.2 c_50
        rw [if_neg c_50] at hE
        refine lv_aload_n hx hb dX10_carried_31 rfl (lv_at hl 1 rfl) ?_
        refine lv_iload_n hx hb dX10_carried_32 rfl (lv_at hl 0 rfl) ?_
        refine lv_aload_n hx hb dX10_carried_33 rfl (lv_at hl 1 rfl) ?_
        refine va_get (D := D) (ci := 10) (v := .ref (Rf 0)) (C := RX10) (T := TX10) (N := 45) hx hb hts iX10 hown hK hP 1 rfl rfl 0 (Nat.le_of_ble_eq_true rfl) (hts _ wd_491) (fun _ h9 => h9) rfl dX10_carried_34 ?_
        refine lv_bipush (v := 12) hx hb dX10_carried_37 rfl ?_
        refine lv_iload_n hx hb dX10_carried_39 rfl (lv_at hl 0 rfl) ?_
        refine lv_iadd hx hb dX10_carried_40 ?_
        obtain ⟨hv_51, hF⟩ := hF
        refine va_iald hx hb hK hP 2 0 rfl rfl hv_51 dX10_carried_41 ?_
        refine lv_aload_n hx hb dX10_carried_42 rfl (lv_at hl 1 rfl) ?_
        refine va_get (D := D) (ci := 10) (v := .ref (Rf 0)) (C := RX10) (T := TX10) (N := 45) hx hb hts iX10 hown hK hP 1 rfl rfl 0 (Nat.le_of_ble_eq_true rfl) (hts _ wd_491) (fun _ h9 => h9) rfl dX10_carried_43 ?_
        refine lv_iconst (v := 0) hx hb dX10_carried_46 rfl ?_
        refine lv_iload_n hx hb dX10_carried_47 rfl (lv_at hl 0 rfl) ?_
        refine lv_iadd hx hb dX10_carried_48 ?_
        obtain ⟨hv_52, hF⟩ := hF
        refine va_iald hx hb hK hP 2 0 rfl rfl hv_52 dX10_carried_49 ?_
        obtain ⟨hs_53, hF⟩ := hF
        refine cVi (wr := [((Rf 0), .inl (cI, 1302, .inl f0))]) (rest := []) (m_stampOf Rf h G f10 (f_m_whoIsAt G f0 0 0) (f0 ((12 + (f_m_whoIsAt G f0 0 0)) : Int32).toNatClampNeg) (f0 ((0 + (f_m_whoIsAt G f0 0 0)) : Int32).toNatClampNeg) hs_53) okV_X10_stampOf wd_551 hx hb hml hown hts hK hP hD hS hA hN hl.1 [1, 0] [2] rfl rfl rfl rfl (of_decide_eq_true rfl) rfl rfl rfl (Nat.le_of_ble_eq_true rfl) (Nat.le_of_ble_eq_true rfl) (Nat.le_of_ble_eq_true rfl) (Nat.le_of_ble_eq_true rfl) (Nat.le_of_ble_eq_true rfl) dX10_carried_50 (fun r_55 u_54 H locs hw_u_54 hP hD hS => ?_)
        replace hw_u_54 : r_55 = (f_m_stampOf G f10 (f_m_whoIsAt G f0 0 0) (f0 ((12 + (f_m_whoIsAt G f0 0 0)) : Int32).toNatClampNeg) (f0 ((0 + (f_m_whoIsAt G f0 0 0)) : Int32).toNatClampNeg)) := hw_u_54
        rw [hw_u_54]
        clear hw_u_54
        have hP : va_P D classes [((Rf 0), .inl (cI, 1302, .inl f0)), (h, .inr (10, ML G Rf)), ((Rf 10), .inl (cI, 30, .inl f10))] H := hP
        have hD : va_D A [((Rf 0), .inl (cI, 1302, .inl f0)), (h, .inr (10, ML G Rf)), ((Rf 10), .inl (cI, 30, .inl f10))] := hD
        refine lv_istore_n (lv' := [(3, .int (f_m_stampOf G f10 (f_m_whoIsAt G f0 0 0) (f0 ((12 + (f_m_whoIsAt G f0 0 0)) : Int32).toNatClampNeg) (f0 ((0 + (f_m_whoIsAt G f0 0 0)) : Int32).toNatClampNeg))), (2, .int (f_m_whoIsAt G f0 0 0)), (0, .ref h), (1, .int b_)]) hx hb dX10_carried_53 rfl hl (Nat.le_of_ble_eq_true rfl) rfl (fun ls hl => ?_)
        refine lv_iconst (v := (-1)) hx hb dX10_carried_54 rfl ?_
        refine lv_istore (lv' := [(4, .int (-1)), (3, .int (f_m_stampOf G f10 (f_m_whoIsAt G f0 0 0) (f0 ((12 + (f_m_whoIsAt G f0 0 0)) : Int32).toNatClampNeg) (f0 ((0 + (f_m_whoIsAt G f0 0 0)) : Int32).toNatClampNeg))), (2, .int (f_m_whoIsAt G f0 0 0)), (0, .ref h), (1, .int b_)]) hx hb dX10_carried_55 hl (Nat.le_of_ble_eq_true rfl) rfl (fun ls hl => ?_)
        refine lv_iconst (v := 0) hx hb dX10_carried_57 rfl ?_
        refine lv_istore (lv' := [(5, .int 0), (4, .int (-1)), (3, .int (f_m_stampOf G f10 (f_m_whoIsAt G f0 0 0) (f0 ((12 + (f_m_whoIsAt G f0 0 0)) : Int32).toNatClampNeg) (f0 ((0 + (f_m_whoIsAt G f0 0 0)) : Int32).toNatClampNeg))), (2, .int (f_m_whoIsAt G f0 0 0)), (0, .ref h), (1, .int b_)]) hx hb dX10_carried_58 hl (Nat.le_of_ble_eq_true rfl) rfl (fun ls hl => ?_)
        refine lv_iconst (v := 1) hx hb dX10_carried_60 rfl ?_
        refine lv_istore (lv' := [(6, .int 1), (5, .int 0), (4, .int (-1)), (3, .int (f_m_stampOf G f10 (f_m_whoIsAt G f0 0 0) (f0 ((12 + (f_m_whoIsAt G f0 0 0)) : Int32).toNatClampNeg) (f0 ((0 + (f_m_whoIsAt G f0 0 0)) : Int32).toNatClampNeg))), (2, .int (f_m_whoIsAt G f0 0 0)), (0, .ref h), (1, .int b_)]) hx hb dX10_carried_61 hl (Nat.le_of_ble_eq_true rfl) rfl (fun ls hl => ?_)
        have ex_63_w_56 : ∀ (w_56l6 : Int32) (w_56l5 : Int32) (w_56l4 : Int32) (w_56l3 : Int32) (H : Heap) (locs : List Loc) (ls : Array Slot), va_P D classes [((Rf 0), .inl (cI, 1302, .inl f0)), (h, .inr (10, ML G Rf)), ((Rf 10), .inl (cI, 30, .inl f10))] H → va_D A [((Rf 0), .inl (cI, 1302, .inl f0)), (h, .inr (10, ML G Rf)), ((Rf 10), .inl (cI, 30, .inl f10))] → va_S A s.heap H locs → lv_has ls 7 [(6, .int w_56l6), (5, .int w_56l5), (4, .int w_56l4), (3, .int w_56l3), (2, .int (f_m_whoIsAt G f0 0 0)), (0, .ref h), (1, .int b_)] → (((b_ = (-1) → True) ∧ (¬ b_ = (-1) → True))) → (((if b_ = (-1) then w_56l4 else w_56l5)) : Int32) = RES → W p l e rm_m_carried s m args below meth c H locs 0 0 Q (F0 m 130 ls []) := by
          intro w_56l6 w_56l5 w_56l4 w_56l3 H locs ls hP hD hS hl hF hE
          refine lv_iload_n hx hb dX10_carried_130 rfl (lv_at hl 6 rfl) ?_
          refine lv_iconst (v := (-1)) hx hb dX10_carried_131 rfl ?_
          refine lv_icmp_ne (tgt := 140) hx hb dX10_carried_132 rfl (fun c_57 => ?_) (fun c_57 => ?_)
          · replace hF := hF.2 c_57
            rw [if_neg c_57] at hE
            refine lv_iload hx hb dX10_carried_140 (lv_at hl 1 rfl) ?_
            exact hret w_56l5 () _ _ _ _ dX10_carried_142 rfl hE (cutP (isC := [1, 0, 2]) hP rfl) (cutD (isC := [1, 0, 2]) hD rfl rfl) hS
          · replace hF := hF.1 c_57
            rw [if_pos c_57] at hE
            refine lv_iload hx hb dX10_carried_135 (lv_at hl 2 rfl) ?_
            refine lv_goto (tgt := 142) hx hb dX10_carried_137 rfl ?_
            exact hret w_56l4 () _ _ _ _ dX10_carried_142 rfl hE (cutP (isC := [1, 0, 2]) hP rfl) (cutD (isC := [1, 0, 2]) hD rfl rfl) hS
        have lp_63_w_56 : ∀ (n_w_56 : Nat) (w_56l6 : Int32) (w_56l5 : Int32) (w_56l4 : Int32) (w_56l3 : Int32) (H : Heap) (locs : List Loc) (ls : Array Slot), va_P D classes [((Rf 0), .inl (cI, 1302, .inl f0)), (h, .inr (10, ML G Rf)), ((Rf 10), .inl (cI, 30, .inl f10))] H → va_D A [((Rf 0), .inl (cI, 1302, .inl f0)), (h, .inr (10, ML G Rf)), ((Rf 10), .inl (cI, 30, .inl f10))] → va_S A s.heap H locs → lv_has ls 7 [(6, .int w_56l6), (5, .int w_56l5), (4, .int w_56l4), (3, .int w_56l3), (2, .int (f_m_whoIsAt G f0 0 0)), (0, .ref h), (1, .int b_)] → (S_m_carried_63 G f0 b_ (fun (w_56l6 : Int32) (w_56l5 : Int32) (w_56l4 : Int32) (w_56l3 : Int32) => ((b_ = (-1) → True) ∧ (¬ b_ = (-1) → True))) n_w_56 w_56l6 w_56l5 w_56l4 w_56l3) → (((G 3) : Int32).toInt - (w_56l6 : Int32).toInt).toNat < n_w_56 → ((match ((f_m_carried_63 G f0 b_ n_w_56 w_56l6 w_56l5 w_56l4 w_56l3) : Int32 × Int32 × Int32 × Int32) with | (w_56l6, w_56l5, w_56l4, w_56l3) => (if b_ = (-1) then w_56l4 else w_56l5)) : Int32) = RES → W p l e rm_m_carried s m args below meth c H locs 0 0 Q (F0 m 63 ls []) := by
          intro n_w_56
          induction n_w_56 with
          | zero => intro w_56l6 w_56l5 w_56l4 w_56l3 H locs ls hP hD hS hl hF hm; exact absurd hm (Nat.not_lt_zero _)
          | succ n_w_56 ih_w_56 =>
            intro w_56l6 w_56l5 w_56l4 w_56l3 H locs ls hP hD hS hl hF hm hE
            rw [S_m_carried_63_s] at hF
            rw [f_m_carried_63_s] at hE
            refine lv_iload hx hb dX10_carried_63 (lv_at hl 0 rfl) ?_
            refine lv_aload_n hx hb dX10_carried_65 rfl (lv_at hl 5 rfl) ?_
            refine va_get (D := D) (ci := 10) (v := .int (G 3)) (C := RX10) (T := TX10) (N := 45) hx hb hts iX10 hown hK hP 1 rfl rfl 3 (Nat.le_of_ble_eq_true rfl) (hts _ wd_494) (fun _ h9 => h9) rfl dX10_carried_66 ?_
            refine lv_icmp_ge (tgt := 130) hx hb dX10_carried_69 rfl (fun c_58 => ?_) (fun c_58 => ?_)
            · replace hF := hF.1 c_58
              rw [if_pos c_58] at hE
              exact ex_63_w_56 w_56l6 w_56l5 w_56l4 w_56l3 _ _ ls hP hD hS (lv_sub hl [0, 1, 2, 3, 4, 5, 6] rfl) hF hE
            · replace hF := hF.2 c_58
              rw [if_neg c_58] at hE
              refine lv_iload_n hx hb dX10_carried_72 rfl (lv_at hl 3 rfl) ?_
              refine lv_if_ne (tgt := 87) hx hb dX10_carried_73 rfl (fun c_59 => ?_) (fun c_59 => ?_)
              · replace hF := hF.2 c_59
                rw [if_neg c_59] at hE
                refine lv_iload hx hb dX10_carried_87 (lv_at hl 2 rfl) ?_
                refine lv_istore (lv' := [(4, .int w_56l4), (6, .int w_56l6), (5, .int w_56l5), (3, .int w_56l3), (2, .int (f_m_whoIsAt G f0 0 0)), (0, .ref h), (1, .int b_)]) hx hb dX10_carried_89 hl (Nat.le_of_ble_eq_true rfl) rfl (fun ls hl => ?_)
                refine lv_iload hx hb dX10_carried_91 (lv_at hl 1 rfl) ?_
                refine lv_iload_n hx hb dX10_carried_93 rfl (lv_at hl 6 rfl) ?_
                refine lv_icmp_ne (tgt := 101) hx hb dX10_carried_94 rfl (fun c_60 => ?_) (fun c_60 => ?_)
                · replace hF := hF.2 c_60
                  rw [if_neg c_60] at hE
                  refine lv_iload hx hb dX10_carried_101 (lv_at hl 2 rfl) ?_
                  refine lv_istore (lv' := [(5, .int w_56l5), (4, .int w_56l4), (6, .int w_56l6), (3, .int w_56l3), (2, .int (f_m_whoIsAt G f0 0 0)), (0, .ref h), (1, .int b_)]) hx hb dX10_carried_103 hl (Nat.le_of_ble_eq_true rfl) rfl (fun ls hl => ?_)
                  refine lv_aload_n hx hb dX10_carried_105 rfl (lv_at hl 5 rfl) ?_
                  refine lv_iconst (v := 0) hx hb dX10_carried_106 rfl ?_
                  refine lv_iload hx hb dX10_carried_107 (lv_at hl 2 rfl) ?_
                  obtain ⟨hs_61, hF⟩ := hF
                  refine cVi (wr := [((Rf 10), .inl (cI, 30, .inl f10))]) (rest := []) (m_whoIsAt Rf h G f0 0 w_56l6 hs_61) okV_X10_whoIsAt wd_575 hx hb hml hown hts hK hP hD hS hA hN hl.1 [1, 0] [2] rfl rfl rfl rfl (of_decide_eq_true rfl) rfl rfl rfl (Nat.le_of_ble_eq_true rfl) (Nat.le_of_ble_eq_true rfl) (Nat.le_of_ble_eq_true rfl) (Nat.le_of_ble_eq_true rfl) (Nat.le_of_ble_eq_true rfl) dX10_carried_109 (fun r_63 u_62 H locs hw_u_62 hP hD hS => ?_)
                  replace hw_u_62 : r_63 = (f_m_whoIsAt G f0 0 w_56l6) := hw_u_62
                  rw [hw_u_62]
                  clear hw_u_62
                  have hP : va_P D classes [((Rf 10), .inl (cI, 30, .inl f10)), (h, .inr (10, ML G Rf)), ((Rf 0), .inl (cI, 1302, .inl f0))] H := hP
                  have hD : va_D A [((Rf 10), .inl (cI, 30, .inl f10)), (h, .inr (10, ML G Rf)), ((Rf 0), .inl (cI, 1302, .inl f0))] := hD
                  refine lv_iconst (v := (-1)) hx hb dX10_carried_112 rfl ?_
                  refine lv_icmp_ne (tgt := 120) hx hb dX10_carried_113 rfl (fun c_64 => ?_) (fun c_64 => ?_)
                  · replace hF := hF.2 c_64
                    rw [if_neg c_64] at hE
                    refine lv_iload_n hx hb dX10_carried_120 rfl (lv_at hl 3 rfl) ?_
                    refine lv_iconst (v := 2) hx hb dX10_carried_121 rfl ?_
                    refine lv_idiv hx hb dX10_carried_122 (by decide) ?_
                    refine lv_istore_n (lv' := [(3, .int (w_56l3 / 2)), (5, .int w_56l5), (4, .int w_56l4), (6, .int w_56l6), (2, .int (f_m_whoIsAt G f0 0 0)), (0, .ref h), (1, .int b_)]) hx hb dX10_carried_123 rfl hl (Nat.le_of_ble_eq_true rfl) rfl (fun ls hl => ?_)
                    refine lv_iinc (v := (w_56l6 + 1)) (lv' := [(6, .int (w_56l6 + 1)), (3, .int (w_56l3 / 2)), (5, .int w_56l5), (4, .int w_56l4), (2, .int (f_m_whoIsAt G f0 0 0)), (0, .ref h), (1, .int b_)]) hx hb dX10_carried_124 hl (k := 3) rfl rfl (Nat.le_of_ble_eq_true rfl) rfl (fun ls hl => ?_)
                    refine lv_goto (tgt := 63) hx hb dX10_carried_127 rfl ?_
                    exact ih_w_56 (w_56l6 + 1) w_56l5 w_56l4 (w_56l3 / 2) _ _ ls (cutP (isC := [2, 1, 0]) hP rfl) (cutD (isC := [2, 1, 0]) hD rfl rfl) hS (lv_sub hl [0, 2, 3, 1, 4, 5, 6] rfl) hF (up_step c_58 hm) hE
                  · replace hF := hF.1 c_64
                    rw [if_pos c_64] at hE
                    refine lv_iload_n hx hb dX10_carried_116 rfl (lv_at hl 3 rfl) ?_
                    refine lv_goto (tgt := 123) hx hb dX10_carried_117 rfl ?_
                    refine lv_istore_n (lv' := [(3, .int w_56l3), (5, .int w_56l5), (4, .int w_56l4), (6, .int w_56l6), (2, .int (f_m_whoIsAt G f0 0 0)), (0, .ref h), (1, .int b_)]) hx hb dX10_carried_123 rfl hl (Nat.le_of_ble_eq_true rfl) rfl (fun ls hl => ?_)
                    refine lv_iinc (v := (w_56l6 + 1)) (lv' := [(6, .int (w_56l6 + 1)), (3, .int w_56l3), (5, .int w_56l5), (4, .int w_56l4), (2, .int (f_m_whoIsAt G f0 0 0)), (0, .ref h), (1, .int b_)]) hx hb dX10_carried_124 hl (k := 3) rfl rfl (Nat.le_of_ble_eq_true rfl) rfl (fun ls hl => ?_)
                    refine lv_goto (tgt := 63) hx hb dX10_carried_127 rfl ?_
                    exact ih_w_56 (w_56l6 + 1) w_56l5 w_56l4 w_56l3 _ _ ls (cutP (isC := [2, 1, 0]) hP rfl) (cutD (isC := [2, 1, 0]) hD rfl rfl) hS (lv_sub hl [0, 2, 3, 1, 4, 5, 6] rfl) hF (up_step c_58 hm) hE
                · replace hF := hF.1 c_60
                  rw [if_pos c_60] at hE
                  refine lv_iload_n hx hb dX10_carried_97 rfl (lv_at hl 3 rfl) ?_
                  refine lv_goto (tgt := 103) hx hb dX10_carried_98 rfl ?_
                  refine lv_istore (lv' := [(5, .int w_56l3), (4, .int w_56l4), (6, .int w_56l6), (3, .int w_56l3), (2, .int (f_m_whoIsAt G f0 0 0)), (0, .ref h), (1, .int b_)]) hx hb dX10_carried_103 hl (Nat.le_of_ble_eq_true rfl) rfl (fun ls hl => ?_)
                  refine lv_aload_n hx hb dX10_carried_105 rfl (lv_at hl 5 rfl) ?_
                  refine lv_iconst (v := 0) hx hb dX10_carried_106 rfl ?_
                  refine lv_iload hx hb dX10_carried_107 (lv_at hl 2 rfl) ?_
                  obtain ⟨hs_65, hF⟩ := hF
                  refine cVi (wr := [((Rf 10), .inl (cI, 30, .inl f10))]) (rest := []) (m_whoIsAt Rf h G f0 0 w_56l6 hs_65) okV_X10_whoIsAt wd_575 hx hb hml hown hts hK hP hD hS hA hN hl.1 [1, 0] [2] rfl rfl rfl rfl (of_decide_eq_true rfl) rfl rfl rfl (Nat.le_of_ble_eq_true rfl) (Nat.le_of_ble_eq_true rfl) (Nat.le_of_ble_eq_true rfl) (Nat.le_of_ble_eq_true rfl) (Nat.le_of_ble_eq_true rfl) dX10_carried_109 (fun r_67 u_66 H locs hw_u_66 hP hD hS => ?_)
                  replace hw_u_66 : r_67 = (f_m_whoIsAt G f0 0 w_56l6) := hw_u_66
                  rw [hw_u_66]
                  clear hw_u_66
                  have hP : va_P D classes [((Rf 10), .inl (cI, 30, .inl f10)), (h, .inr (10, ML G Rf)), ((Rf 0), .inl (cI, 1302, .inl f0))] H := hP
                  have hD : va_D A [((Rf 10), .inl (cI, 30, .inl f10)), (h, .inr (10, ML G Rf)), ((Rf 0), .inl (cI, 1302, .inl f0))] := hD
                  refine lv_iconst (v := (-1)) hx hb dX10_carried_112 rfl ?_
                  refine lv_icmp_ne (tgt := 120) hx hb dX10_carried_113 rfl (fun c_68 => ?_) (fun c_68 => ?_)
                  · replace hF := hF.2 c_68
                    rw [if_neg c_68] at hE
                    refine lv_iload_n hx hb dX10_carried_120 rfl (lv_at hl 3 rfl) ?_
                    refine lv_iconst (v := 2) hx hb dX10_carried_121 rfl ?_
                    refine lv_idiv hx hb dX10_carried_122 (by decide) ?_
                    refine lv_istore_n (lv' := [(3, .int (w_56l3 / 2)), (5, .int w_56l3), (4, .int w_56l4), (6, .int w_56l6), (2, .int (f_m_whoIsAt G f0 0 0)), (0, .ref h), (1, .int b_)]) hx hb dX10_carried_123 rfl hl (Nat.le_of_ble_eq_true rfl) rfl (fun ls hl => ?_)
                    refine lv_iinc (v := (w_56l6 + 1)) (lv' := [(6, .int (w_56l6 + 1)), (3, .int (w_56l3 / 2)), (5, .int w_56l3), (4, .int w_56l4), (2, .int (f_m_whoIsAt G f0 0 0)), (0, .ref h), (1, .int b_)]) hx hb dX10_carried_124 hl (k := 3) rfl rfl (Nat.le_of_ble_eq_true rfl) rfl (fun ls hl => ?_)
                    refine lv_goto (tgt := 63) hx hb dX10_carried_127 rfl ?_
                    exact ih_w_56 (w_56l6 + 1) w_56l3 w_56l4 (w_56l3 / 2) _ _ ls (cutP (isC := [2, 1, 0]) hP rfl) (cutD (isC := [2, 1, 0]) hD rfl rfl) hS (lv_sub hl [0, 2, 3, 1, 4, 5, 6] rfl) hF (up_step c_58 hm) hE
                  · replace hF := hF.1 c_68
                    rw [if_pos c_68] at hE
                    refine lv_iload_n hx hb dX10_carried_116 rfl (lv_at hl 3 rfl) ?_
                    refine lv_goto (tgt := 123) hx hb dX10_carried_117 rfl ?_
                    refine lv_istore_n (lv' := [(3, .int w_56l3), (5, .int w_56l3), (4, .int w_56l4), (6, .int w_56l6), (2, .int (f_m_whoIsAt G f0 0 0)), (0, .ref h), (1, .int b_)]) hx hb dX10_carried_123 rfl hl (Nat.le_of_ble_eq_true rfl) rfl (fun ls hl => ?_)
                    refine lv_iinc (v := (w_56l6 + 1)) (lv' := [(6, .int (w_56l6 + 1)), (3, .int w_56l3), (5, .int w_56l3), (4, .int w_56l4), (2, .int (f_m_whoIsAt G f0 0 0)), (0, .ref h), (1, .int b_)]) hx hb dX10_carried_124 hl (k := 3) rfl rfl (Nat.le_of_ble_eq_true rfl) rfl (fun ls hl => ?_)
                    refine lv_goto (tgt := 63) hx hb dX10_carried_127 rfl ?_
                    exact ih_w_56 (w_56l6 + 1) w_56l3 w_56l4 w_56l3 _ _ ls (cutP (isC := [2, 1, 0]) hP rfl) (cutD (isC := [2, 1, 0]) hD rfl rfl) hS (lv_sub hl [0, 2, 3, 1, 4, 5, 6] rfl) hF (up_step c_58 hm) hE
              · replace hF := hF.1 c_59
                rw [if_pos c_59] at hE
                refine lv_iload hx hb dX10_carried_76 (lv_at hl 2 rfl) ?_
                refine lv_iconst (v := (-1)) hx hb dX10_carried_78 rfl ?_
                refine lv_icmp_ne (tgt := 87) hx hb dX10_carried_79 rfl (fun c_69 => ?_) (fun c_69 => ?_)
                · replace hF := hF.2 c_69
                  rw [if_neg c_69] at hE
                  refine lv_iload hx hb dX10_carried_87 (lv_at hl 2 rfl) ?_
                  refine lv_istore (lv' := [(4, .int w_56l4), (6, .int w_56l6), (5, .int w_56l5), (3, .int w_56l3), (2, .int (f_m_whoIsAt G f0 0 0)), (0, .ref h), (1, .int b_)]) hx hb dX10_carried_89 hl (Nat.le_of_ble_eq_true rfl) rfl (fun ls hl => ?_)
                  refine lv_iload hx hb dX10_carried_91 (lv_at hl 1 rfl) ?_
                  refine lv_iload_n hx hb dX10_carried_93 rfl (lv_at hl 6 rfl) ?_
                  refine lv_icmp_ne (tgt := 101) hx hb dX10_carried_94 rfl (fun c_70 => ?_) (fun c_70 => ?_)
                  · replace hF := hF.2 c_70
                    rw [if_neg c_70] at hE
                    refine lv_iload hx hb dX10_carried_101 (lv_at hl 2 rfl) ?_
                    refine lv_istore (lv' := [(5, .int w_56l5), (4, .int w_56l4), (6, .int w_56l6), (3, .int w_56l3), (2, .int (f_m_whoIsAt G f0 0 0)), (0, .ref h), (1, .int b_)]) hx hb dX10_carried_103 hl (Nat.le_of_ble_eq_true rfl) rfl (fun ls hl => ?_)
                    refine lv_aload_n hx hb dX10_carried_105 rfl (lv_at hl 5 rfl) ?_
                    refine lv_iconst (v := 0) hx hb dX10_carried_106 rfl ?_
                    refine lv_iload hx hb dX10_carried_107 (lv_at hl 2 rfl) ?_
                    obtain ⟨hs_71, hF⟩ := hF
                    refine cVi (wr := [((Rf 10), .inl (cI, 30, .inl f10))]) (rest := []) (m_whoIsAt Rf h G f0 0 w_56l6 hs_71) okV_X10_whoIsAt wd_575 hx hb hml hown hts hK hP hD hS hA hN hl.1 [1, 0] [2] rfl rfl rfl rfl (of_decide_eq_true rfl) rfl rfl rfl (Nat.le_of_ble_eq_true rfl) (Nat.le_of_ble_eq_true rfl) (Nat.le_of_ble_eq_true rfl) (Nat.le_of_ble_eq_true rfl) (Nat.le_of_ble_eq_true rfl) dX10_carried_109 (fun r_73 u_72 H locs hw_u_72 hP hD hS => ?_)
                    replace hw_u_72 : r_73 = (f_m_whoIsAt G f0 0 w_56l6) := hw_u_72
                    rw [hw_u_72]
                    clear hw_u_72
                    have hP : va_P D classes [((Rf 10), .inl (cI, 30, .inl f10)), (h, .inr (10, ML G Rf)), ((Rf 0), .inl (cI, 1302, .inl f0))] H := hP
                    have hD : va_D A [((Rf 10), .inl (cI, 30, .inl f10)), (h, .inr (10, ML G Rf)), ((Rf 0), .inl (cI, 1302, .inl f0))] := hD
                    refine lv_iconst (v := (-1)) hx hb dX10_carried_112 rfl ?_
                    refine lv_icmp_ne (tgt := 120) hx hb dX10_carried_113 rfl (fun c_74 => ?_) (fun c_74 => ?_)
                    · replace hF := hF.2 c_74
                      rw [if_neg c_74] at hE
                      refine lv_iload_n hx hb dX10_carried_120 rfl (lv_at hl 3 rfl) ?_
                      refine lv_iconst (v := 2) hx hb dX10_carried_121 rfl ?_
                      refine lv_idiv hx hb dX10_carried_122 (by decide) ?_
                      refine lv_istore_n (lv' := [(3, .int (w_56l3 / 2)), (5, .int w_56l5), (4, .int w_56l4), (6, .int w_56l6), (2, .int (f_m_whoIsAt G f0 0 0)), (0, .ref h), (1, .int b_)]) hx hb dX10_carried_123 rfl hl (Nat.le_of_ble_eq_true rfl) rfl (fun ls hl => ?_)
                      refine lv_iinc (v := (w_56l6 + 1)) (lv' := [(6, .int (w_56l6 + 1)), (3, .int (w_56l3 / 2)), (5, .int w_56l5), (4, .int w_56l4), (2, .int (f_m_whoIsAt G f0 0 0)), (0, .ref h), (1, .int b_)]) hx hb dX10_carried_124 hl (k := 3) rfl rfl (Nat.le_of_ble_eq_true rfl) rfl (fun ls hl => ?_)
                      refine lv_goto (tgt := 63) hx hb dX10_carried_127 rfl ?_
                      exact ih_w_56 (w_56l6 + 1) w_56l5 w_56l4 (w_56l3 / 2) _ _ ls (cutP (isC := [2, 1, 0]) hP rfl) (cutD (isC := [2, 1, 0]) hD rfl rfl) hS (lv_sub hl [0, 2, 3, 1, 4, 5, 6] rfl) hF (up_step c_58 hm) hE
                    · replace hF := hF.1 c_74
                      rw [if_pos c_74] at hE
                      refine lv_iload_n hx hb dX10_carried_116 rfl (lv_at hl 3 rfl) ?_
                      refine lv_goto (tgt := 123) hx hb dX10_carried_117 rfl ?_
                      refine lv_istore_n (lv' := [(3, .int w_56l3), (5, .int w_56l5), (4, .int w_56l4), (6, .int w_56l6), (2, .int (f_m_whoIsAt G f0 0 0)), (0, .ref h), (1, .int b_)]) hx hb dX10_carried_123 rfl hl (Nat.le_of_ble_eq_true rfl) rfl (fun ls hl => ?_)
                      refine lv_iinc (v := (w_56l6 + 1)) (lv' := [(6, .int (w_56l6 + 1)), (3, .int w_56l3), (5, .int w_56l5), (4, .int w_56l4), (2, .int (f_m_whoIsAt G f0 0 0)), (0, .ref h), (1, .int b_)]) hx hb dX10_carried_124 hl (k := 3) rfl rfl (Nat.le_of_ble_eq_true rfl) rfl (fun ls hl => ?_)
                      refine lv_goto (tgt := 63) hx hb dX10_carried_127 rfl ?_
                      exact ih_w_56 (w_56l6 + 1) w_56l5 w_56l4 w_56l3 _ _ ls (cutP (isC := [2, 1, 0]) hP rfl) (cutD (isC := [2, 1, 0]) hD rfl rfl) hS (lv_sub hl [0, 2, 3, 1, 4, 5, 6] rfl) hF (up_step c_58 hm) hE
                  · replace hF := hF.1 c_70
                    rw [if_pos c_70] at hE
                    refine lv_iload_n hx hb dX10_carried_97 rfl (lv_at hl 3 rfl) ?_
                    refine lv_goto (tgt := 103) hx hb dX10_carried_98 rfl ?_
                    refine lv_istore (lv' := [(5, .int w_56l3), (4, .int w_56l4), (6, .int w_56l6), (3, .int w_56l3), (2, .int (f_m_whoIsAt G f0 0 0)), (0, .ref h), (1, .int b_)]) hx hb dX10_carried_103 hl (Nat.le_of_ble_eq_true rfl) rfl (fun ls hl => ?_)
                    refine lv_aload_n hx hb dX10_carried_105 rfl (lv_at hl 5 rfl) ?_
                    refine lv_iconst (v := 0) hx hb dX10_carried_106 rfl ?_
                    refine lv_iload hx hb dX10_carried_107 (lv_at hl 2 rfl) ?_
                    obtain ⟨hs_75, hF⟩ := hF
                    refine cVi (wr := [((Rf 10), .inl (cI, 30, .inl f10))]) (rest := []) (m_whoIsAt Rf h G f0 0 w_56l6 hs_75) okV_X10_whoIsAt wd_575 hx hb hml hown hts hK hP hD hS hA hN hl.1 [1, 0] [2] rfl rfl rfl rfl (of_decide_eq_true rfl) rfl rfl rfl (Nat.le_of_ble_eq_true rfl) (Nat.le_of_ble_eq_true rfl) (Nat.le_of_ble_eq_true rfl) (Nat.le_of_ble_eq_true rfl) (Nat.le_of_ble_eq_true rfl) dX10_carried_109 (fun r_77 u_76 H locs hw_u_76 hP hD hS => ?_)
                    replace hw_u_76 : r_77 = (f_m_whoIsAt G f0 0 w_56l6) := hw_u_76
                    rw [hw_u_76]
                    clear hw_u_76
                    have hP : va_P D classes [((Rf 10), .inl (cI, 30, .inl f10)), (h, .inr (10, ML G Rf)), ((Rf 0), .inl (cI, 1302, .inl f0))] H := hP
                    have hD : va_D A [((Rf 10), .inl (cI, 30, .inl f10)), (h, .inr (10, ML G Rf)), ((Rf 0), .inl (cI, 1302, .inl f0))] := hD
                    refine lv_iconst (v := (-1)) hx hb dX10_carried_112 rfl ?_
                    refine lv_icmp_ne (tgt := 120) hx hb dX10_carried_113 rfl (fun c_78 => ?_) (fun c_78 => ?_)
                    · replace hF := hF.2 c_78
                      rw [if_neg c_78] at hE
                      refine lv_iload_n hx hb dX10_carried_120 rfl (lv_at hl 3 rfl) ?_
                      refine lv_iconst (v := 2) hx hb dX10_carried_121 rfl ?_
                      refine lv_idiv hx hb dX10_carried_122 (by decide) ?_
                      refine lv_istore_n (lv' := [(3, .int (w_56l3 / 2)), (5, .int w_56l3), (4, .int w_56l4), (6, .int w_56l6), (2, .int (f_m_whoIsAt G f0 0 0)), (0, .ref h), (1, .int b_)]) hx hb dX10_carried_123 rfl hl (Nat.le_of_ble_eq_true rfl) rfl (fun ls hl => ?_)
                      refine lv_iinc (v := (w_56l6 + 1)) (lv' := [(6, .int (w_56l6 + 1)), (3, .int (w_56l3 / 2)), (5, .int w_56l3), (4, .int w_56l4), (2, .int (f_m_whoIsAt G f0 0 0)), (0, .ref h), (1, .int b_)]) hx hb dX10_carried_124 hl (k := 3) rfl rfl (Nat.le_of_ble_eq_true rfl) rfl (fun ls hl => ?_)
                      refine lv_goto (tgt := 63) hx hb dX10_carried_127 rfl ?_
                      exact ih_w_56 (w_56l6 + 1) w_56l3 w_56l4 (w_56l3 / 2) _ _ ls (cutP (isC := [2, 1, 0]) hP rfl) (cutD (isC := [2, 1, 0]) hD rfl rfl) hS (lv_sub hl [0, 2, 3, 1, 4, 5, 6] rfl) hF (up_step c_58 hm) hE
                    · replace hF := hF.1 c_78
                      rw [if_pos c_78] at hE
                      refine lv_iload_n hx hb dX10_carried_116 rfl (lv_at hl 3 rfl) ?_
                      refine lv_goto (tgt := 123) hx hb dX10_carried_117 rfl ?_
                      refine lv_istore_n (lv' := [(3, .int w_56l3), (5, .int w_56l3), (4, .int w_56l4), (6, .int w_56l6), (2, .int (f_m_whoIsAt G f0 0 0)), (0, .ref h), (1, .int b_)]) hx hb dX10_carried_123 rfl hl (Nat.le_of_ble_eq_true rfl) rfl (fun ls hl => ?_)
                      refine lv_iinc (v := (w_56l6 + 1)) (lv' := [(6, .int (w_56l6 + 1)), (3, .int w_56l3), (5, .int w_56l3), (4, .int w_56l4), (2, .int (f_m_whoIsAt G f0 0 0)), (0, .ref h), (1, .int b_)]) hx hb dX10_carried_124 hl (k := 3) rfl rfl (Nat.le_of_ble_eq_true rfl) rfl (fun ls hl => ?_)
                      refine lv_goto (tgt := 63) hx hb dX10_carried_127 rfl ?_
                      exact ih_w_56 (w_56l6 + 1) w_56l3 w_56l4 w_56l3 _ _ ls (cutP (isC := [2, 1, 0]) hP rfl) (cutD (isC := [2, 1, 0]) hD rfl rfl) hS (lv_sub hl [0, 2, 3, 1, 4, 5, 6] rfl) hF (up_step c_58 hm) hE
                · replace hF := hF.1 c_69
                  rw [if_pos c_69] at hE
                  refine lv_iload hx hb dX10_carried_82 (lv_at hl 0 rfl) ?_
                  refine lv_goto (tgt := 89) hx hb dX10_carried_84 rfl ?_
                  refine lv_istore (lv' := [(4, .int w_56l6), (6, .int w_56l6), (5, .int w_56l5), (3, .int w_56l3), (2, .int (f_m_whoIsAt G f0 0 0)), (0, .ref h), (1, .int b_)]) hx hb dX10_carried_89 hl (Nat.le_of_ble_eq_true rfl) rfl (fun ls hl => ?_)
                  refine lv_iload hx hb dX10_carried_91 (lv_at hl 1 rfl) ?_
                  refine lv_iload_n hx hb dX10_carried_93 rfl (lv_at hl 6 rfl) ?_
                  refine lv_icmp_ne (tgt := 101) hx hb dX10_carried_94 rfl (fun c_79 => ?_) (fun c_79 => ?_)
                  · replace hF := hF.2 c_79
                    rw [if_neg c_79] at hE
                    refine lv_iload hx hb dX10_carried_101 (lv_at hl 2 rfl) ?_
                    refine lv_istore (lv' := [(5, .int w_56l5), (4, .int w_56l6), (6, .int w_56l6), (3, .int w_56l3), (2, .int (f_m_whoIsAt G f0 0 0)), (0, .ref h), (1, .int b_)]) hx hb dX10_carried_103 hl (Nat.le_of_ble_eq_true rfl) rfl (fun ls hl => ?_)
                    refine lv_aload_n hx hb dX10_carried_105 rfl (lv_at hl 5 rfl) ?_
                    refine lv_iconst (v := 0) hx hb dX10_carried_106 rfl ?_
                    refine lv_iload hx hb dX10_carried_107 (lv_at hl 2 rfl) ?_
                    obtain ⟨hs_80, hF⟩ := hF
                    refine cVi (wr := [((Rf 10), .inl (cI, 30, .inl f10))]) (rest := []) (m_whoIsAt Rf h G f0 0 w_56l6 hs_80) okV_X10_whoIsAt wd_575 hx hb hml hown hts hK hP hD hS hA hN hl.1 [1, 0] [2] rfl rfl rfl rfl (of_decide_eq_true rfl) rfl rfl rfl (Nat.le_of_ble_eq_true rfl) (Nat.le_of_ble_eq_true rfl) (Nat.le_of_ble_eq_true rfl) (Nat.le_of_ble_eq_true rfl) (Nat.le_of_ble_eq_true rfl) dX10_carried_109 (fun r_82 u_81 H locs hw_u_81 hP hD hS => ?_)
                    replace hw_u_81 : r_82 = (f_m_whoIsAt G f0 0 w_56l6) := hw_u_81
                    rw [hw_u_81]
                    clear hw_u_81
                    have hP : va_P D classes [((Rf 10), .inl (cI, 30, .inl f10)), (h, .inr (10, ML G Rf)), ((Rf 0), .inl (cI, 1302, .inl f0))] H := hP
                    have hD : va_D A [((Rf 10), .inl (cI, 30, .inl f10)), (h, .inr (10, ML G Rf)), ((Rf 0), .inl (cI, 1302, .inl f0))] := hD
                    refine lv_iconst (v := (-1)) hx hb dX10_carried_112 rfl ?_
                    refine lv_icmp_ne (tgt := 120) hx hb dX10_carried_113 rfl (fun c_83 => ?_) (fun c_83 => ?_)
                    · replace hF := hF.2 c_83
                      rw [if_neg c_83] at hE
                      refine lv_iload_n hx hb dX10_carried_120 rfl (lv_at hl 3 rfl) ?_
                      refine lv_iconst (v := 2) hx hb dX10_carried_121 rfl ?_
                      refine lv_idiv hx hb dX10_carried_122 (by decide) ?_
                      refine lv_istore_n (lv' := [(3, .int (w_56l3 / 2)), (5, .int w_56l5), (4, .int w_56l6), (6, .int w_56l6), (2, .int (f_m_whoIsAt G f0 0 0)), (0, .ref h), (1, .int b_)]) hx hb dX10_carried_123 rfl hl (Nat.le_of_ble_eq_true rfl) rfl (fun ls hl => ?_)
                      refine lv_iinc (v := (w_56l6 + 1)) (lv' := [(6, .int (w_56l6 + 1)), (3, .int (w_56l3 / 2)), (5, .int w_56l5), (4, .int w_56l6), (2, .int (f_m_whoIsAt G f0 0 0)), (0, .ref h), (1, .int b_)]) hx hb dX10_carried_124 hl (k := 3) rfl rfl (Nat.le_of_ble_eq_true rfl) rfl (fun ls hl => ?_)
                      refine lv_goto (tgt := 63) hx hb dX10_carried_127 rfl ?_
                      exact ih_w_56 (w_56l6 + 1) w_56l5 w_56l6 (w_56l3 / 2) _ _ ls (cutP (isC := [2, 1, 0]) hP rfl) (cutD (isC := [2, 1, 0]) hD rfl rfl) hS (lv_sub hl [0, 2, 3, 1, 4, 5, 6] rfl) hF (up_step c_58 hm) hE
                    · replace hF := hF.1 c_83
                      rw [if_pos c_83] at hE
                      refine lv_iload_n hx hb dX10_carried_116 rfl (lv_at hl 3 rfl) ?_
                      refine lv_goto (tgt := 123) hx hb dX10_carried_117 rfl ?_
                      refine lv_istore_n (lv' := [(3, .int w_56l3), (5, .int w_56l5), (4, .int w_56l6), (6, .int w_56l6), (2, .int (f_m_whoIsAt G f0 0 0)), (0, .ref h), (1, .int b_)]) hx hb dX10_carried_123 rfl hl (Nat.le_of_ble_eq_true rfl) rfl (fun ls hl => ?_)
                      refine lv_iinc (v := (w_56l6 + 1)) (lv' := [(6, .int (w_56l6 + 1)), (3, .int w_56l3), (5, .int w_56l5), (4, .int w_56l6), (2, .int (f_m_whoIsAt G f0 0 0)), (0, .ref h), (1, .int b_)]) hx hb dX10_carried_124 hl (k := 3) rfl rfl (Nat.le_of_ble_eq_true rfl) rfl (fun ls hl => ?_)
                      refine lv_goto (tgt := 63) hx hb dX10_carried_127 rfl ?_
                      exact ih_w_56 (w_56l6 + 1) w_56l5 w_56l6 w_56l3 _ _ ls (cutP (isC := [2, 1, 0]) hP rfl) (cutD (isC := [2, 1, 0]) hD rfl rfl) hS (lv_sub hl [0, 2, 3, 1, 4, 5, 6] rfl) hF (up_step c_58 hm) hE
                  · replace hF := hF.1 c_79
                    rw [if_pos c_79] at hE
                    refine lv_iload_n hx hb dX10_carried_97 rfl (lv_at hl 3 rfl) ?_
                    refine lv_goto (tgt := 103) hx hb dX10_carried_98 rfl ?_
                    refine lv_istore (lv' := [(5, .int w_56l3), (4, .int w_56l6), (6, .int w_56l6), (3, .int w_56l3), (2, .int (f_m_whoIsAt G f0 0 0)), (0, .ref h), (1, .int b_)]) hx hb dX10_carried_103 hl (Nat.le_of_ble_eq_true rfl) rfl (fun ls hl => ?_)
                    refine lv_aload_n hx hb dX10_carried_105 rfl (lv_at hl 5 rfl) ?_
                    refine lv_iconst (v := 0) hx hb dX10_carried_106 rfl ?_
                    refine lv_iload hx hb dX10_carried_107 (lv_at hl 2 rfl) ?_
                    obtain ⟨hs_84, hF⟩ := hF
                    refine cVi (wr := [((Rf 10), .inl (cI, 30, .inl f10))]) (rest := []) (m_whoIsAt Rf h G f0 0 w_56l6 hs_84) okV_X10_whoIsAt wd_575 hx hb hml hown hts hK hP hD hS hA hN hl.1 [1, 0] [2] rfl rfl rfl rfl (of_decide_eq_true rfl) rfl rfl rfl (Nat.le_of_ble_eq_true rfl) (Nat.le_of_ble_eq_true rfl) (Nat.le_of_ble_eq_true rfl) (Nat.le_of_ble_eq_true rfl) (Nat.le_of_ble_eq_true rfl) dX10_carried_109 (fun r_86 u_85 H locs hw_u_85 hP hD hS => ?_)
                    replace hw_u_85 : r_86 = (f_m_whoIsAt G f0 0 w_56l6) := hw_u_85
                    rw [hw_u_85]
                    clear hw_u_85
                    have hP : va_P D classes [((Rf 10), .inl (cI, 30, .inl f10)), (h, .inr (10, ML G Rf)), ((Rf 0), .inl (cI, 1302, .inl f0))] H := hP
                    have hD : va_D A [((Rf 10), .inl (cI, 30, .inl f10)), (h, .inr (10, ML G Rf)), ((Rf 0), .inl (cI, 1302, .inl f0))] := hD
                    refine lv_iconst (v := (-1)) hx hb dX10_carried_112 rfl ?_
                    refine lv_icmp_ne (tgt := 120) hx hb dX10_carried_113 rfl (fun c_87 => ?_) (fun c_87 => ?_)
                    · replace hF := hF.2 c_87
                      rw [if_neg c_87] at hE
                      refine lv_iload_n hx hb dX10_carried_120 rfl (lv_at hl 3 rfl) ?_
                      refine lv_iconst (v := 2) hx hb dX10_carried_121 rfl ?_
                      refine lv_idiv hx hb dX10_carried_122 (by decide) ?_
                      refine lv_istore_n (lv' := [(3, .int (w_56l3 / 2)), (5, .int w_56l3), (4, .int w_56l6), (6, .int w_56l6), (2, .int (f_m_whoIsAt G f0 0 0)), (0, .ref h), (1, .int b_)]) hx hb dX10_carried_123 rfl hl (Nat.le_of_ble_eq_true rfl) rfl (fun ls hl => ?_)
                      refine lv_iinc (v := (w_56l6 + 1)) (lv' := [(6, .int (w_56l6 + 1)), (3, .int (w_56l3 / 2)), (5, .int w_56l3), (4, .int w_56l6), (2, .int (f_m_whoIsAt G f0 0 0)), (0, .ref h), (1, .int b_)]) hx hb dX10_carried_124 hl (k := 3) rfl rfl (Nat.le_of_ble_eq_true rfl) rfl (fun ls hl => ?_)
                      refine lv_goto (tgt := 63) hx hb dX10_carried_127 rfl ?_
                      exact ih_w_56 (w_56l6 + 1) w_56l3 w_56l6 (w_56l3 / 2) _ _ ls (cutP (isC := [2, 1, 0]) hP rfl) (cutD (isC := [2, 1, 0]) hD rfl rfl) hS (lv_sub hl [0, 2, 3, 1, 4, 5, 6] rfl) hF (up_step c_58 hm) hE
                    · replace hF := hF.1 c_87
                      rw [if_pos c_87] at hE
                      refine lv_iload_n hx hb dX10_carried_116 rfl (lv_at hl 3 rfl) ?_
                      refine lv_goto (tgt := 123) hx hb dX10_carried_117 rfl ?_
                      refine lv_istore_n (lv' := [(3, .int w_56l3), (5, .int w_56l3), (4, .int w_56l6), (6, .int w_56l6), (2, .int (f_m_whoIsAt G f0 0 0)), (0, .ref h), (1, .int b_)]) hx hb dX10_carried_123 rfl hl (Nat.le_of_ble_eq_true rfl) rfl (fun ls hl => ?_)
                      refine lv_iinc (v := (w_56l6 + 1)) (lv' := [(6, .int (w_56l6 + 1)), (3, .int w_56l3), (5, .int w_56l3), (4, .int w_56l6), (2, .int (f_m_whoIsAt G f0 0 0)), (0, .ref h), (1, .int b_)]) hx hb dX10_carried_124 hl (k := 3) rfl rfl (Nat.le_of_ble_eq_true rfl) rfl (fun ls hl => ?_)
                      refine lv_goto (tgt := 63) hx hb dX10_carried_127 rfl ?_
                      exact ih_w_56 (w_56l6 + 1) w_56l3 w_56l6 w_56l3 _ _ ls (cutP (isC := [2, 1, 0]) hP rfl) (cutD (isC := [2, 1, 0]) hD rfl rfl) hS (lv_sub hl [0, 2, 3, 1, 4, 5, 6] rfl) hF (up_step c_58 hm) hE
        exact lp_63_w_56 ((((G 3) : Int32).toInt - (1 : Int32).toInt).toNat + 1) 1 0 (-1) (f_m_stampOf G f10 (f_m_whoIsAt G f0 0 0) (f0 ((12 + (f_m_whoIsAt G f0 0 0)) : Int32).toNatClampNeg) (f0 ((0 + (f_m_whoIsAt G f0 0 0)) : Int32).toNatClampNeg)) _ _ ls hP hD hS hl hF (Nat.lt_succ_self _) hE
      · replace hF := hF.1 c_50
        rw [if_pos c_50] at hE
        refine lv_ldc (v := (-1000000003)) hx hb hown (hts _ wd_562) dX10_carried_28 ?_
        exact hret (-1000000003) () _ _ _ _ dX10_carried_30 rfl hE (cutP (isC := [1, 2, 0]) hP rfl) (cutD (isC := [1, 2, 0]) hD rfl rfl) hS
    · replace hF := hF.1 c_46
      rw [if_pos c_46] at hE
      refine lv_ldc (v := (-1000000001)) hx hb hown (hts _ wd_580) dX10_carried_13 ?_
      exact hret (-1000000001) () _ _ _ _ dX10_carried_15 rfl hE (cutP (isC := [2, 0, 1]) hP rfl) (cutD (isC := [2, 0, 1]) hD rfl rfl) hS
noncomputable def f_m_midstream_74 (n_ : Int32) (n : Nat) : Int32 → Int64 → Int32 → Int32 × Int64 × Int32 := Nat.rec (motive := fun _ => Int32 → Int64 → Int32 → Int32 × Int64 × Int32) (fun w_15l7 w_15l5 w_15l4 => (w_15l7, w_15l5, w_15l4)) (fun n ih w_15l7 w_15l5 w_15l4 => (if n_ ≤ w_15l7 then (w_15l7, w_15l5, w_15l4) else (ih (w_15l7 + 1) ((w_15l5 * ((1000 - w_15l4)).toInt64) / 1000) w_15l4))) n
theorem f_m_midstream_74_s (n_ : Int32) (n : Nat) (w_15l7 : Int32) (w_15l5 : Int64) (w_15l4 : Int32) : f_m_midstream_74 n_ (n + 1) w_15l7 w_15l5 w_15l4 = (if n_ ≤ w_15l7 then (w_15l7, w_15l5, w_15l4) else (f_m_midstream_74 n_ n (w_15l7 + 1) ((w_15l5 * ((1000 - w_15l4)).toInt64) / 1000) w_15l4)) := rfl
def S_m_midstream_74 (n_ : Int32) (K : Int32 → Int64 → Int32 → Prop) (n : Nat) : Int32 → Int64 → Int32 → Prop := Nat.rec (motive := fun _ => Int32 → Int64 → Int32 → Prop) (fun _ _ _ => True) (fun n ih w_15l7 w_15l5 w_15l4 => ((n_ ≤ w_15l7 → (K w_15l7 w_15l5 w_15l4)) ∧ (¬ n_ ≤ w_15l7 → (ih (w_15l7 + 1) ((w_15l5 * ((1000 - w_15l4)).toInt64) / 1000) w_15l4)))) n
theorem S_m_midstream_74_s (n_ : Int32) (K : Int32 → Int64 → Int32 → Prop) (n : Nat) (w_15l7 : Int32) (w_15l5 : Int64) (w_15l4 : Int32) : S_m_midstream_74 n_ K (n + 1) w_15l7 w_15l5 w_15l4 = (((n_ ≤ w_15l7 → (K w_15l7 w_15l5 w_15l4)) ∧ (¬ n_ ≤ w_15l7 → (S_m_midstream_74 n_ K n (w_15l7 + 1) ((w_15l5 * ((1000 - w_15l4)).toInt64) / 1000) w_15l4)))) := rfl
noncomputable def f_m_midstream (G : Nat → Int32) (f0 : Nat → Int32) (c_ : Int32) (n_ : Int32) (q_ : Int32) : Int32 := (if (f_m_isCouple G c_) = 0 then (-1000000001) else (if (f_m_in n_.toInt64 0 99) = 0 then (-1000000002) else (if (f_m_in q_.toInt64 0 1000) = 0 then (-1000000002) else (if q_ ≤ (f0 ((0 + c_) : Int32).toNatClampNeg) then (match ((f_m_midstream_74 n_ (((n_ : Int32).toInt - (0 : Int32).toInt).toNat + 1) 0 1000000000 0) : Int32 × Int64 × Int32) with | (w_15l7, w_15l5, w_15l4) => ((w_15l5).toInt32)) else (match ((f_m_midstream_74 n_ (((n_ : Int32).toInt - (0 : Int32).toInt).toNat + 1) 0 1000000000 (q_ - (f0 ((0 + c_) : Int32).toNatClampNeg))) : Int32 × Int64 × Int32) with | (w_18l7, w_18l5, w_18l4) => ((w_18l5).toInt32))))))
def S_m_midstream (G : Nat → Int32) (f0 : Nat → Int32) (c_ : Int32) (n_ : Int32) (q_ : Int32) : Prop := ((S_m_isCouple G c_) ∧ (((f_m_isCouple G c_) = 0 → True) ∧ (¬ (f_m_isCouple G c_) = 0 → ((S_m_in n_.toInt64 0 99) ∧ (((f_m_in n_.toInt64 0 99) = 0 → True) ∧ (¬ (f_m_in n_.toInt64 0 99) = 0 → ((S_m_in q_.toInt64 0 1000) ∧ (((f_m_in q_.toInt64 0 1000) = 0 → True) ∧ (¬ (f_m_in q_.toInt64 0 1000) = 0 → (vp_in (0 + c_) 1302 ∧ ((q_ ≤ (f0 ((0 + c_) : Int32).toNatClampNeg) → (S_m_midstream_74 n_ (fun (w_15l7 : Int32) (w_15l5 : Int64) (w_15l4 : Int32) => True) (((n_ : Int32).toInt - (0 : Int32).toInt).toNat + 1) 0 1000000000 0)) ∧ (¬ q_ ≤ (f0 ((0 + c_) : Int32).toNatClampNeg) → (vp_in (0 + c_) 1302 ∧ (S_m_midstream_74 n_ (fun (w_18l7 : Int32) (w_18l5 : Int64) (w_18l4 : Int32) => True) (((n_ : Int32).toInt - (0 : Int32).toInt).toNat + 1) 0 1000000000 (q_ - (f0 ((0 + c_) : Int32).toNatClampNeg))))))))))))))))
def rm_m_midstream : Room := { frames := 2, cells := 0, slots := 0, locals := 46 }
set_option maxHeartbeats 4000000 in
set_option maxRecDepth 100000 in
theorem m_midstream {l : Launch} {D : va_G} {cI cZ : ClassId} {sz : Nat} (Rf : Nat → Nat) (h : Nat) (G : Nat → Int32) (f0 : Nat → Int32) (c_ : Int32) (n_ : Int32) (q_ : Int32) (hF : S_m_midstream G f0 c_ n_ q_) : KI l yX10_midstream cX10_midstream 8 (some .int) rm_m_midstream D cI cZ [.ref h, .int c_, .int n_, .int q_] sz [(h, .inr (10, ML G Rf)), ((Rf 0), .inl (cI, 1302, .inl f0))] (fun (r : Int32) (_ : Unit) => r = f_m_midstream G f0 c_ n_ q_) (fun (_ : Unit) => [(h, .inr (10, ML G Rf)), ((Rf 0), .inl (cI, 1302, .inl f0))]) := by
  refine KI.go rfl (Nat.le_of_ble_eq_true rfl) ?_
  intro p e s m args below meth c ls A Q hx hb hml hts hown hin hP hK hD hS hA hN hl hret
  have hl : lv_has ls 8 [(0, .ref h), (1, .int c_), (2, .int n_), (3, .int q_)] := hl
  rw [S_m_midstream] at hF
  obtain ⟨RES, hE⟩ : ∃ xRES, f_m_midstream G f0 c_ n_ q_ = xRES := ⟨_, rfl⟩
  rw [hE] at hret
  rw [f_m_midstream] at hE
  refine lv_aload_n hx hb dX10_midstream_0 rfl (lv_at hl 0 rfl) ?_
  refine lv_iload_n hx hb dX10_midstream_1 rfl (lv_at hl 1 rfl) ?_
  obtain ⟨hs_1, hF⟩ := hF
  refine cVi (wr := [((Rf 0), .inl (cI, 1302, .inl f0))]) (rest := []) (m_isCouple Rf h G c_ hs_1) okV_X10_isCouple wd_581 hx hb hml hown hts hK hP hD hS hA hN hl.1 [0] [1] rfl rfl rfl rfl (of_decide_eq_true rfl) rfl rfl rfl (Nat.le_of_ble_eq_true rfl) (Nat.le_of_ble_eq_true rfl) (Nat.le_of_ble_eq_true rfl) (Nat.le_of_ble_eq_true rfl) (Nat.le_of_ble_eq_true rfl) dX10_midstream_2 (fun r_3 u_2 H locs hw_u_2 hP hD hS => ?_)
  replace hw_u_2 : r_3 = (f_m_isCouple G c_) := hw_u_2
  rw [hw_u_2]
  clear hw_u_2
  have hP : va_P D classes [((Rf 0), .inl (cI, 1302, .inl f0)), (h, .inr (10, ML G Rf))] H := hP
  have hD : va_D A [((Rf 0), .inl (cI, 1302, .inl f0)), (h, .inr (10, ML G Rf))] := hD
  refine lv_if_ne (tgt := 11) hx hb dX10_midstream_5 rfl (fun c_4 => ?_) (fun c_4 => ?_)
  · replace hF := hF.2 c_4
    rw [if_neg c_4] at hE
    refine lv_iload_n hx hb dX10_midstream_11 rfl (lv_at hl 2 rfl) ?_
    refine lv_i2l (v := n_.toInt64) hx hb dX10_midstream_12 rfl ?_
    refine lv_lconst (v := 0) hx hb dX10_midstream_13 rfl ?_
    refine lv_ldc2 (v := 99) hx hb hown (hts _ wd_599) dX10_midstream_14 ?_
    obtain ⟨hs_5, hF⟩ := hF
    refine cSi (wr := [((Rf 0), .inl (cI, 1302, .inl f0)), (h, .inr (10, ML G Rf))]) (rest := []) (m_in n_.toInt64 0 99 hs_5) okS_X10_in wd_495 hx hb hml hown hts hK hP hD hS hA hN hl.1 [] [0, 1] rfl rfl rfl rfl (of_decide_eq_true rfl) rfl (Nat.le_of_ble_eq_true rfl) (Nat.le_of_ble_eq_true rfl) (Nat.le_of_ble_eq_true rfl) (Nat.le_of_ble_eq_true rfl) (Nat.le_of_ble_eq_true rfl) dX10_midstream_17 (fun r_7 u_6 H locs hw_u_6 hP hD hS => ?_)
    replace hw_u_6 : r_7 = (f_m_in n_.toInt64 0 99) := hw_u_6
    rw [hw_u_6]
    clear hw_u_6
    have hP : va_P D classes [((Rf 0), .inl (cI, 1302, .inl f0)), (h, .inr (10, ML G Rf))] H := hP
    have hD : va_D A [((Rf 0), .inl (cI, 1302, .inl f0)), (h, .inr (10, ML G Rf))] := hD
    refine lv_if_eq (tgt := 35) hx hb dX10_midstream_20 rfl (fun c_8 => ?_) (fun c_8 => ?_)
    · replace hF := hF.1 c_8
      rw [if_pos c_8] at hE
      refine lv_ldc (v := (-1000000002)) hx hb hown (hts _ wd_507) dX10_midstream_35 ?_
      exact hret (-1000000002) () _ _ _ _ dX10_midstream_37 rfl hE (cutP (isC := [1, 0]) hP rfl) (cutD (isC := [1, 0]) hD rfl rfl) hS
    · replace hF := hF.2 c_8
      rw [if_neg c_8] at hE
      refine lv_iload_n hx hb dX10_midstream_23 rfl (lv_at hl 3 rfl) ?_
      refine lv_i2l (v := q_.toInt64) hx hb dX10_midstream_24 rfl ?_
      refine lv_lconst (v := 0) hx hb dX10_midstream_25 rfl ?_
      refine lv_ldc2 (v := 1000) hx hb hown (hts _ wd_661) dX10_midstream_26 ?_
      obtain ⟨hs_9, hF⟩ := hF
      refine cSi (wr := [((Rf 0), .inl (cI, 1302, .inl f0)), (h, .inr (10, ML G Rf))]) (rest := []) (m_in q_.toInt64 0 1000 hs_9) okS_X10_in wd_495 hx hb hml hown hts hK hP hD hS hA hN hl.1 [] [0, 1] rfl rfl rfl rfl (of_decide_eq_true rfl) rfl (Nat.le_of_ble_eq_true rfl) (Nat.le_of_ble_eq_true rfl) (Nat.le_of_ble_eq_true rfl) (Nat.le_of_ble_eq_true rfl) (Nat.le_of_ble_eq_true rfl) dX10_midstream_29 (fun r_11 u_10 H locs hw_u_10 hP hD hS => ?_)
      replace hw_u_10 : r_11 = (f_m_in q_.toInt64 0 1000) := hw_u_10
      rw [hw_u_10]
      clear hw_u_10
      have hP : va_P D classes [((Rf 0), .inl (cI, 1302, .inl f0)), (h, .inr (10, ML G Rf))] H := hP
      have hD : va_D A [((Rf 0), .inl (cI, 1302, .inl f0)), (h, .inr (10, ML G Rf))] := hD
      refine lv_if_ne (tgt := 38) hx hb dX10_midstream_32 rfl (fun c_12 => ?_) (fun c_12 => ?_)
      · replace hF := hF.2 c_12
        rw [if_neg c_12] at hE
        refine lv_iload_n hx hb dX10_midstream_38 rfl (lv_at hl 3 rfl) ?_
        refine lv_aload_n hx hb dX10_midstream_39 rfl (lv_at hl 0 rfl) ?_
        refine va_get (D := D) (ci := 10) (v := .ref (Rf 0)) (C := RX10) (T := TX10) (N := 45) hx hb hts iX10 hown hK hP 1 rfl rfl 0 (Nat.le_of_ble_eq_true rfl) (hts _ wd_491) (fun _ h9 => h9) rfl dX10_midstream_40 ?_
        refine lv_iconst (v := 0) hx hb dX10_midstream_43 rfl ?_
        refine lv_iload_n hx hb dX10_midstream_44 rfl (lv_at hl 1 rfl) ?_
        refine lv_iadd hx hb dX10_midstream_45 ?_
        obtain ⟨hv_13, hF⟩ := hF
        refine va_iald hx hb hK hP 0 0 rfl rfl hv_13 dX10_midstream_46 ?_
        refine lv_icmp_le (tgt := 63) hx hb dX10_midstream_47 rfl (fun c_14 => ?_) (fun c_14 => ?_)
        · replace hF := hF.1 c_14
          rw [if_pos c_14] at hE
          refine lv_iconst (v := 0) hx hb dX10_midstream_63 rfl ?_
          refine lv_istore (lv' := [(4, .int 0), (0, .ref h), (1, .int c_), (2, .int n_), (3, .int q_)]) hx hb dX10_midstream_64 hl (Nat.le_of_ble_eq_true rfl) rfl (fun ls hl => ?_)
          refine lv_ldc2 (v := 1000000000) hx hb hown (hts _ wd_662) dX10_midstream_66 ?_
          refine lv_lstore (lv' := [(5, .long 1000000000), (4, .int 0), (0, .ref h), (1, .int c_), (2, .int n_), (3, .int q_)]) hx hb dX10_midstream_69 hl (Nat.le_of_ble_eq_true rfl) rfl (fun ls hl => ?_)
          refine lv_iconst (v := 0) hx hb dX10_midstream_71 rfl ?_
          refine lv_istore (lv' := [(7, .int 0), (5, .long 1000000000), (4, .int 0), (0, .ref h), (1, .int c_), (2, .int n_), (3, .int q_)]) hx hb dX10_midstream_72 hl (Nat.le_of_ble_eq_true rfl) rfl (fun ls hl => ?_)
          have ex_74_w_15 : ∀ (w_15l7 : Int32) (w_15l5 : Int64) (w_15l4 : Int32) (H : Heap) (locs : List Loc) (ls : Array Slot), va_P D classes [((Rf 0), .inl (cI, 1302, .inl f0)), (h, .inr (10, ML G Rf))] H → va_D A [((Rf 0), .inl (cI, 1302, .inl f0)), (h, .inr (10, ML G Rf))] → va_S A s.heap H locs → lv_has ls 8 [(7, .int w_15l7), (5, .long w_15l5), (4, .int w_15l4), (0, .ref h), (1, .int c_), (2, .int n_), (3, .int q_)] → (True) → ((((w_15l5).toInt32)) : Int32) = RES → W p l e rm_m_midstream s m args below meth c H locs 0 0 Q (F0 m 102 ls []) := by
            intro w_15l7 w_15l5 w_15l4 H locs ls hP hD hS hl hF hE
            refine lv_lload hx hb dX10_midstream_102 (lv_at hl 1 rfl) ?_
            refine lv_l2i (v := (w_15l5).toInt32) hx hb dX10_midstream_104 rfl ?_
            exact hret ((w_15l5).toInt32) () _ _ _ _ dX10_midstream_105 rfl hE (cutP (isC := [1, 0]) hP rfl) (cutD (isC := [1, 0]) hD rfl rfl) hS
          have lp_74_w_15 : ∀ (n_w_15 : Nat) (w_15l7 : Int32) (w_15l5 : Int64) (w_15l4 : Int32) (H : Heap) (locs : List Loc) (ls : Array Slot), va_P D classes [((Rf 0), .inl (cI, 1302, .inl f0)), (h, .inr (10, ML G Rf))] H → va_D A [((Rf 0), .inl (cI, 1302, .inl f0)), (h, .inr (10, ML G Rf))] → va_S A s.heap H locs → lv_has ls 8 [(7, .int w_15l7), (5, .long w_15l5), (4, .int w_15l4), (0, .ref h), (1, .int c_), (2, .int n_), (3, .int q_)] → (S_m_midstream_74 n_ (fun (w_15l7 : Int32) (w_15l5 : Int64) (w_15l4 : Int32) => True) n_w_15 w_15l7 w_15l5 w_15l4) → ((n_ : Int32).toInt - (w_15l7 : Int32).toInt).toNat < n_w_15 → ((match ((f_m_midstream_74 n_ n_w_15 w_15l7 w_15l5 w_15l4) : Int32 × Int64 × Int32) with | (w_15l7, w_15l5, w_15l4) => ((w_15l5).toInt32)) : Int32) = RES → W p l e rm_m_midstream s m args below meth c H locs 0 0 Q (F0 m 74 ls []) := by
            intro n_w_15
            induction n_w_15 with
            | zero => intro w_15l7 w_15l5 w_15l4 H locs ls hP hD hS hl hF hm; exact absurd hm (Nat.not_lt_zero _)
            | succ n_w_15 ih_w_15 =>
              intro w_15l7 w_15l5 w_15l4 H locs ls hP hD hS hl hF hm hE
              rw [S_m_midstream_74_s] at hF
              rw [f_m_midstream_74_s] at hE
              refine lv_iload hx hb dX10_midstream_74 (lv_at hl 0 rfl) ?_
              refine lv_iload_n hx hb dX10_midstream_76 rfl (lv_at hl 5 rfl) ?_
              refine lv_icmp_ge (tgt := 102) hx hb dX10_midstream_77 rfl (fun c_16 => ?_) (fun c_16 => ?_)
              · replace hF := hF.1 c_16
                rw [if_pos c_16] at hE
                exact ex_74_w_15 w_15l7 w_15l5 w_15l4 _ _ ls hP hD hS (lv_sub hl [0, 1, 2, 3, 4, 5, 6] rfl) hF hE
              · replace hF := hF.2 c_16
                rw [if_neg c_16] at hE
                refine lv_lload hx hb dX10_midstream_80 (lv_at hl 1 rfl) ?_
                refine lv_sipush (v := 1000) hx hb dX10_midstream_82 rfl ?_
                refine lv_iload hx hb dX10_midstream_85 (lv_at hl 2 rfl) ?_
                refine lv_isub hx hb dX10_midstream_87 ?_
                refine lv_i2l (v := ((1000 - w_15l4)).toInt64) hx hb dX10_midstream_88 rfl ?_
                refine lv_lmul hx hb dX10_midstream_89 ?_
                refine lv_ldc2 (v := 1000) hx hb hown (hts _ wd_661) dX10_midstream_90 ?_
                refine lv_ldiv hx hb dX10_midstream_93 (by decide) ?_
                refine lv_lstore (lv' := [(5, .long (((w_15l5 * ((1000 - w_15l4)).toInt64) / 1000))), (7, .int w_15l7), (4, .int w_15l4), (0, .ref h), (1, .int c_), (2, .int n_), (3, .int q_)]) hx hb dX10_midstream_94 hl (Nat.le_of_ble_eq_true rfl) rfl (fun ls hl => ?_)
                refine lv_iinc (v := (w_15l7 + 1)) (lv' := [(7, .int (w_15l7 + 1)), (5, .long (((w_15l5 * ((1000 - w_15l4)).toInt64) / 1000))), (4, .int w_15l4), (0, .ref h), (1, .int c_), (2, .int n_), (3, .int q_)]) hx hb dX10_midstream_96 hl (k := 1) rfl rfl (Nat.le_of_ble_eq_true rfl) rfl (fun ls hl => ?_)
                refine lv_goto (tgt := 74) hx hb dX10_midstream_99 rfl ?_
                exact ih_w_15 (w_15l7 + 1) ((w_15l5 * ((1000 - w_15l4)).toInt64) / 1000) w_15l4 _ _ ls hP hD hS (lv_sub hl [0, 1, 2, 3, 4, 5, 6] rfl) hF (up_step c_16 hm) hE
          exact lp_74_w_15 (((n_ : Int32).toInt - (0 : Int32).toInt).toNat + 1) 0 1000000000 0 _ _ ls hP hD hS hl hF (Nat.lt_succ_self _) hE
        · replace hF := hF.2 c_14
          rw [if_neg c_14] at hE
          refine lv_iload_n hx hb dX10_midstream_50 rfl (lv_at hl 3 rfl) ?_
          refine lv_aload_n hx hb dX10_midstream_51 rfl (lv_at hl 0 rfl) ?_
          refine va_get (D := D) (ci := 10) (v := .ref (Rf 0)) (C := RX10) (T := TX10) (N := 45) hx hb hts iX10 hown hK hP 1 rfl rfl 0 (Nat.le_of_ble_eq_true rfl) (hts _ wd_491) (fun _ h9 => h9) rfl dX10_midstream_52 ?_
          refine lv_iconst (v := 0) hx hb dX10_midstream_55 rfl ?_
          refine lv_iload_n hx hb dX10_midstream_56 rfl (lv_at hl 1 rfl) ?_
          refine lv_iadd hx hb dX10_midstream_57 ?_
          obtain ⟨hv_17, hF⟩ := hF
          refine va_iald hx hb hK hP 0 0 rfl rfl hv_17 dX10_midstream_58 ?_
          refine lv_isub hx hb dX10_midstream_59 ?_
          refine lv_goto (tgt := 64) hx hb dX10_midstream_60 rfl ?_
          refine lv_istore (lv' := [(4, .int (q_ - (f0 ((0 + c_) : Int32).toNatClampNeg))), (0, .ref h), (1, .int c_), (2, .int n_), (3, .int q_)]) hx hb dX10_midstream_64 hl (Nat.le_of_ble_eq_true rfl) rfl (fun ls hl => ?_)
          refine lv_ldc2 (v := 1000000000) hx hb hown (hts _ wd_662) dX10_midstream_66 ?_
          refine lv_lstore (lv' := [(5, .long 1000000000), (4, .int (q_ - (f0 ((0 + c_) : Int32).toNatClampNeg))), (0, .ref h), (1, .int c_), (2, .int n_), (3, .int q_)]) hx hb dX10_midstream_69 hl (Nat.le_of_ble_eq_true rfl) rfl (fun ls hl => ?_)
          refine lv_iconst (v := 0) hx hb dX10_midstream_71 rfl ?_
          refine lv_istore (lv' := [(7, .int 0), (5, .long 1000000000), (4, .int (q_ - (f0 ((0 + c_) : Int32).toNatClampNeg))), (0, .ref h), (1, .int c_), (2, .int n_), (3, .int q_)]) hx hb dX10_midstream_72 hl (Nat.le_of_ble_eq_true rfl) rfl (fun ls hl => ?_)
          have ex_74_w_18 : ∀ (w_18l7 : Int32) (w_18l5 : Int64) (w_18l4 : Int32) (H : Heap) (locs : List Loc) (ls : Array Slot), va_P D classes [((Rf 0), .inl (cI, 1302, .inl f0)), (h, .inr (10, ML G Rf))] H → va_D A [((Rf 0), .inl (cI, 1302, .inl f0)), (h, .inr (10, ML G Rf))] → va_S A s.heap H locs → lv_has ls 8 [(7, .int w_18l7), (5, .long w_18l5), (4, .int w_18l4), (0, .ref h), (1, .int c_), (2, .int n_), (3, .int q_)] → (True) → ((((w_18l5).toInt32)) : Int32) = RES → W p l e rm_m_midstream s m args below meth c H locs 0 0 Q (F0 m 102 ls []) := by
            intro w_18l7 w_18l5 w_18l4 H locs ls hP hD hS hl hF hE
            refine lv_lload hx hb dX10_midstream_102 (lv_at hl 1 rfl) ?_
            refine lv_l2i (v := (w_18l5).toInt32) hx hb dX10_midstream_104 rfl ?_
            exact hret ((w_18l5).toInt32) () _ _ _ _ dX10_midstream_105 rfl hE (cutP (isC := [1, 0]) hP rfl) (cutD (isC := [1, 0]) hD rfl rfl) hS
          have lp_74_w_18 : ∀ (n_w_18 : Nat) (w_18l7 : Int32) (w_18l5 : Int64) (w_18l4 : Int32) (H : Heap) (locs : List Loc) (ls : Array Slot), va_P D classes [((Rf 0), .inl (cI, 1302, .inl f0)), (h, .inr (10, ML G Rf))] H → va_D A [((Rf 0), .inl (cI, 1302, .inl f0)), (h, .inr (10, ML G Rf))] → va_S A s.heap H locs → lv_has ls 8 [(7, .int w_18l7), (5, .long w_18l5), (4, .int w_18l4), (0, .ref h), (1, .int c_), (2, .int n_), (3, .int q_)] → (S_m_midstream_74 n_ (fun (w_18l7 : Int32) (w_18l5 : Int64) (w_18l4 : Int32) => True) n_w_18 w_18l7 w_18l5 w_18l4) → ((n_ : Int32).toInt - (w_18l7 : Int32).toInt).toNat < n_w_18 → ((match ((f_m_midstream_74 n_ n_w_18 w_18l7 w_18l5 w_18l4) : Int32 × Int64 × Int32) with | (w_18l7, w_18l5, w_18l4) => ((w_18l5).toInt32)) : Int32) = RES → W p l e rm_m_midstream s m args below meth c H locs 0 0 Q (F0 m 74 ls []) := by
            intro n_w_18
            induction n_w_18 with
            | zero => intro w_18l7 w_18l5 w_18l4 H locs ls hP hD hS hl hF hm; exact absurd hm (Nat.not_lt_zero _)
            | succ n_w_18 ih_w_18 =>
              intro w_18l7 w_18l5 w_18l4 H locs ls hP hD hS hl hF hm hE
              rw [S_m_midstream_74_s] at hF
              rw [f_m_midstream_74_s] at hE
              refine lv_iload hx hb dX10_midstream_74 (lv_at hl 0 rfl) ?_
              refine lv_iload_n hx hb dX10_midstream_76 rfl (lv_at hl 5 rfl) ?_
              refine lv_icmp_ge (tgt := 102) hx hb dX10_midstream_77 rfl (fun c_19 => ?_) (fun c_19 => ?_)
              · replace hF := hF.1 c_19
                rw [if_pos c_19] at hE
                exact ex_74_w_18 w_18l7 w_18l5 w_18l4 _ _ ls hP hD hS (lv_sub hl [0, 1, 2, 3, 4, 5, 6] rfl) hF hE
              · replace hF := hF.2 c_19
                rw [if_neg c_19] at hE
                refine lv_lload hx hb dX10_midstream_80 (lv_at hl 1 rfl) ?_
                refine lv_sipush (v := 1000) hx hb dX10_midstream_82 rfl ?_
                refine lv_iload hx hb dX10_midstream_85 (lv_at hl 2 rfl) ?_
                refine lv_isub hx hb dX10_midstream_87 ?_
                refine lv_i2l (v := ((1000 - w_18l4)).toInt64) hx hb dX10_midstream_88 rfl ?_
                refine lv_lmul hx hb dX10_midstream_89 ?_
                refine lv_ldc2 (v := 1000) hx hb hown (hts _ wd_661) dX10_midstream_90 ?_
                refine lv_ldiv hx hb dX10_midstream_93 (by decide) ?_
                refine lv_lstore (lv' := [(5, .long (((w_18l5 * ((1000 - w_18l4)).toInt64) / 1000))), (7, .int w_18l7), (4, .int w_18l4), (0, .ref h), (1, .int c_), (2, .int n_), (3, .int q_)]) hx hb dX10_midstream_94 hl (Nat.le_of_ble_eq_true rfl) rfl (fun ls hl => ?_)
                refine lv_iinc (v := (w_18l7 + 1)) (lv' := [(7, .int (w_18l7 + 1)), (5, .long (((w_18l5 * ((1000 - w_18l4)).toInt64) / 1000))), (4, .int w_18l4), (0, .ref h), (1, .int c_), (2, .int n_), (3, .int q_)]) hx hb dX10_midstream_96 hl (k := 1) rfl rfl (Nat.le_of_ble_eq_true rfl) rfl (fun ls hl => ?_)
                refine lv_goto (tgt := 74) hx hb dX10_midstream_99 rfl ?_
                exact ih_w_18 (w_18l7 + 1) ((w_18l5 * ((1000 - w_18l4)).toInt64) / 1000) w_18l4 _ _ ls hP hD hS (lv_sub hl [0, 1, 2, 3, 4, 5, 6] rfl) hF (up_step c_19 hm) hE
          exact lp_74_w_18 (((n_ : Int32).toInt - (0 : Int32).toInt).toNat + 1) 0 1000000000 (q_ - (f0 ((0 + c_) : Int32).toNatClampNeg)) _ _ ls hP hD hS hl hF (Nat.lt_succ_self _) hE
      · replace hF := hF.1 c_12
        rw [if_pos c_12] at hE
        refine lv_ldc (v := (-1000000002)) hx hb hown (hts _ wd_507) dX10_midstream_35 ?_
        exact hret (-1000000002) () _ _ _ _ dX10_midstream_37 rfl hE (cutP (isC := [1, 0]) hP rfl) (cutD (isC := [1, 0]) hD rfl rfl) hS
  · replace hF := hF.1 c_4
    rw [if_pos c_4] at hE
    refine lv_ldc (v := (-1000000001)) hx hb hown (hts _ wd_580) dX10_midstream_8 ?_
    exact hret (-1000000001) () _ _ _ _ dX10_midstream_10 rfl hE (cutP (isC := [1, 0]) hP rfl) (cutD (isC := [1, 0]) hD rfl rfl) hS
noncomputable def f_m_judge_2 (G : Nat → Int32) (f0 : Nat → Int32) (f43 : Nat → Int32) (f44 : Nat → Int32) (n : Nat) : Int32 → (Int32) ⊕ (Int32) := Nat.rec (motive := fun _ => Int32 → (Int32) ⊕ (Int32)) (fun w_1l1 => Sum.inl w_1l1) (fun n ih w_1l1 => (if (G 42) ≤ w_1l1 then (Sum.inl w_1l1) else (if (f0 ((0 + (f43 (w_1l1 : Int32).toNatClampNeg)) : Int32).toNatClampNeg) = (f44 (w_1l1 : Int32).toNatClampNeg) then (ih (w_1l1 + 1)) else (Sum.inr w_1l1)))) n
theorem f_m_judge_2_s (G : Nat → Int32) (f0 : Nat → Int32) (f43 : Nat → Int32) (f44 : Nat → Int32) (n : Nat) (w_1l1 : Int32) : f_m_judge_2 G f0 f43 f44 (n + 1) w_1l1 = (if (G 42) ≤ w_1l1 then (Sum.inl w_1l1) else (if (f0 ((0 + (f43 (w_1l1 : Int32).toNatClampNeg)) : Int32).toNatClampNeg) = (f44 (w_1l1 : Int32).toNatClampNeg) then (f_m_judge_2 G f0 f43 f44 n (w_1l1 + 1)) else (Sum.inr w_1l1))) := rfl
def S_m_judge_2 (G : Nat → Int32) (f0 : Nat → Int32) (f43 : Nat → Int32) (f44 : Nat → Int32) (K : Int32 → Prop) (n : Nat) : Int32 → Prop := Nat.rec (motive := fun _ => Int32 → Prop) (fun _ => True) (fun n ih w_1l1 => (((G 42) ≤ w_1l1 → (K w_1l1)) ∧ (¬ (G 42) ≤ w_1l1 → (vp_in w_1l1 15 ∧ (vp_in (0 + (f43 (w_1l1 : Int32).toNatClampNeg)) 1302 ∧ (vp_in w_1l1 15 ∧ (((f0 ((0 + (f43 (w_1l1 : Int32).toNatClampNeg)) : Int32).toNatClampNeg) = (f44 (w_1l1 : Int32).toNatClampNeg) → (ih (w_1l1 + 1))) ∧ (¬ (f0 ((0 + (f43 (w_1l1 : Int32).toNatClampNeg)) : Int32).toNatClampNeg) = (f44 (w_1l1 : Int32).toNatClampNeg) → True)))))))) n
theorem S_m_judge_2_s (G : Nat → Int32) (f0 : Nat → Int32) (f43 : Nat → Int32) (f44 : Nat → Int32) (K : Int32 → Prop) (n : Nat) (w_1l1 : Int32) : S_m_judge_2 G f0 f43 f44 K (n + 1) w_1l1 = ((((G 42) ≤ w_1l1 → (K w_1l1)) ∧ (¬ (G 42) ≤ w_1l1 → (vp_in w_1l1 15 ∧ (vp_in (0 + (f43 (w_1l1 : Int32).toNatClampNeg)) 1302 ∧ (vp_in w_1l1 15 ∧ (((f0 ((0 + (f43 (w_1l1 : Int32).toNatClampNeg)) : Int32).toNatClampNeg) = (f44 (w_1l1 : Int32).toNatClampNeg) → (S_m_judge_2 G f0 f43 f44 K n (w_1l1 + 1))) ∧ (¬ (f0 ((0 + (f43 (w_1l1 : Int32).toNatClampNeg)) : Int32).toNatClampNeg) = (f44 (w_1l1 : Int32).toNatClampNeg) → True)))))))) := rfl
noncomputable def f_m_judge (G : Nat → Int32) (f0 : Nat → Int32) (f43 : Nat → Int32) (f44 : Nat → Int32) : Int32 := (match ((f_m_judge_2 G f0 f43 f44 ((((G 42) : Int32).toInt - (0 : Int32).toInt).toNat + 1) 0) : (Int32) ⊕ (Int32)) with | Sum.inl w_1l1 => (-1) | Sum.inr o => o)
def S_m_judge (G : Nat → Int32) (f0 : Nat → Int32) (f43 : Nat → Int32) (f44 : Nat → Int32) : Prop := (S_m_judge_2 G f0 f43 f44 (fun (w_1l1 : Int32) => True) ((((G 42) : Int32).toInt - (0 : Int32).toInt).toNat + 1) 0)
def rm_m_judge : Room := { frames := 0, cells := 0, slots := 0, locals := 0 }
set_option maxHeartbeats 4000000 in
set_option maxRecDepth 100000 in
theorem m_judge {l : Launch} {D : va_G} {cI cZ : ClassId} {sz : Nat} (Rf : Nat → Nat) (h : Nat) (G : Nat → Int32) (f0 : Nat → Int32) (f43 : Nat → Int32) (f44 : Nat → Int32) (hF : S_m_judge G f0 f43 f44) : KI l yX10_judge cX10_judge 2 (some .int) rm_m_judge D cI cZ [.ref h] sz [(h, .inr (10, ML G Rf)), ((Rf 0), .inl (cI, 1302, .inl f0)), ((Rf 43), .inl (cI, 15, .inl f43)), ((Rf 44), .inl (cI, 15, .inl f44))] (fun (r : Int32) (_ : Unit) => r = f_m_judge G f0 f43 f44) (fun (_ : Unit) => [(h, .inr (10, ML G Rf)), ((Rf 0), .inl (cI, 1302, .inl f0)), ((Rf 43), .inl (cI, 15, .inl f43)), ((Rf 44), .inl (cI, 15, .inl f44))]) := by
  refine KI.go rfl (Nat.le_of_ble_eq_true rfl) ?_
  intro p e s m args below meth c ls A Q hx hb hml hts hown hin hP hK hD hS hA hN hl hret
  have hl : lv_has ls 2 [(0, .ref h)] := hl
  rw [S_m_judge] at hF
  obtain ⟨RES, hE⟩ : ∃ xRES, f_m_judge G f0 f43 f44 = xRES := ⟨_, rfl⟩
  rw [hE] at hret
  rw [f_m_judge] at hE
  refine lv_iconst (v := 0) hx hb dX10_judge_0 rfl ?_
  refine lv_istore_n (lv' := [(1, .int 0), (0, .ref h)]) hx hb dX10_judge_1 rfl hl (Nat.le_of_ble_eq_true rfl) rfl (fun ls hl => ?_)
  have ex_2_w_1 : ∀ (w_1l1 : Int32) (H : Heap) (locs : List Loc) (ls : Array Slot), va_P D classes [(h, .inr (10, ML G Rf)), ((Rf 0), .inl (cI, 1302, .inl f0)), ((Rf 43), .inl (cI, 15, .inl f43)), ((Rf 44), .inl (cI, 15, .inl f44))] H → va_D A [(h, .inr (10, ML G Rf)), ((Rf 0), .inl (cI, 1302, .inl f0)), ((Rf 43), .inl (cI, 15, .inl f43)), ((Rf 44), .inl (cI, 15, .inl f44))] → va_S A s.heap H locs → lv_has ls 2 [(1, .int w_1l1), (0, .ref h)] → (True) → (((-1)) : Int32) = RES → W p l e rm_m_judge s m args below meth c H locs 0 0 Q (F0 m 40 ls []) := by
    intro w_1l1 H locs ls hP hD hS hl hF hE
    refine lv_iconst (v := (-1)) hx hb dX10_judge_40 rfl ?_
    exact hret (-1) () _ _ _ _ dX10_judge_41 rfl hE hP hD hS
  have lp_2_w_1 : ∀ (n_w_1 : Nat) (w_1l1 : Int32) (H : Heap) (locs : List Loc) (ls : Array Slot), va_P D classes [(h, .inr (10, ML G Rf)), ((Rf 0), .inl (cI, 1302, .inl f0)), ((Rf 43), .inl (cI, 15, .inl f43)), ((Rf 44), .inl (cI, 15, .inl f44))] H → va_D A [(h, .inr (10, ML G Rf)), ((Rf 0), .inl (cI, 1302, .inl f0)), ((Rf 43), .inl (cI, 15, .inl f43)), ((Rf 44), .inl (cI, 15, .inl f44))] → va_S A s.heap H locs → lv_has ls 2 [(1, .int w_1l1), (0, .ref h)] → (S_m_judge_2 G f0 f43 f44 (fun (w_1l1 : Int32) => True) n_w_1 w_1l1) → (((G 42) : Int32).toInt - (w_1l1 : Int32).toInt).toNat < n_w_1 → ((match ((f_m_judge_2 G f0 f43 f44 n_w_1 w_1l1) : (Int32) ⊕ (Int32)) with | Sum.inl w_1l1 => (-1) | Sum.inr o => o) : Int32) = RES → W p l e rm_m_judge s m args below meth c H locs 0 0 Q (F0 m 2 ls []) := by
    intro n_w_1
    induction n_w_1 with
    | zero => intro w_1l1 H locs ls hP hD hS hl hF hm; exact absurd hm (Nat.not_lt_zero _)
    | succ n_w_1 ih_w_1 =>
      intro w_1l1 H locs ls hP hD hS hl hF hm hE
      rw [S_m_judge_2_s] at hF
      rw [f_m_judge_2_s] at hE
      refine lv_iload_n hx hb dX10_judge_2 rfl (lv_at hl 0 rfl) ?_
      refine lv_aload_n hx hb dX10_judge_3 rfl (lv_at hl 1 rfl) ?_
      refine va_get (D := D) (ci := 10) (v := .int (G 42)) (C := RX10) (T := TX10) (N := 45) hx hb hts iX10 hown hK hP 0 rfl rfl 42 (Nat.le_of_ble_eq_true rfl) (hts _ wd_609) (fun _ h9 => h9) rfl dX10_judge_4 ?_
      refine lv_icmp_ge (tgt := 40) hx hb dX10_judge_7 rfl (fun c_2 => ?_) (fun c_2 => ?_)
      · replace hF := hF.1 c_2
        rw [if_pos c_2] at hE
        exact ex_2_w_1 w_1l1 _ _ ls hP hD hS (lv_sub hl [0, 1] rfl) hF hE
      · replace hF := hF.2 c_2
        rw [if_neg c_2] at hE
        refine lv_aload_n hx hb dX10_judge_10 rfl (lv_at hl 1 rfl) ?_
        refine va_get (D := D) (ci := 10) (v := .ref (Rf 0)) (C := RX10) (T := TX10) (N := 45) hx hb hts iX10 hown hK hP 0 rfl rfl 0 (Nat.le_of_ble_eq_true rfl) (hts _ wd_491) (fun _ h9 => h9) rfl dX10_judge_11 ?_
        refine lv_iconst (v := 0) hx hb dX10_judge_14 rfl ?_
        refine lv_aload_n hx hb dX10_judge_15 rfl (lv_at hl 1 rfl) ?_
        refine va_get (D := D) (ci := 10) (v := .ref (Rf 43)) (C := RX10) (T := TX10) (N := 45) hx hb hts iX10 hown hK hP 0 rfl rfl 43 (Nat.le_of_ble_eq_true rfl) (hts _ wd_610) (fun _ h9 => h9) rfl dX10_judge_16 ?_
        refine lv_iload_n hx hb dX10_judge_19 rfl (lv_at hl 0 rfl) ?_
        obtain ⟨hv_3, hF⟩ := hF
        refine va_iald hx hb hK hP 2 0 rfl rfl hv_3 dX10_judge_20 ?_
        refine lv_iadd hx hb dX10_judge_21 ?_
        obtain ⟨hv_4, hF⟩ := hF
        refine va_iald hx hb hK hP 1 0 rfl rfl hv_4 dX10_judge_22 ?_
        refine lv_aload_n hx hb dX10_judge_23 rfl (lv_at hl 1 rfl) ?_
        refine va_get (D := D) (ci := 10) (v := .ref (Rf 44)) (C := RX10) (T := TX10) (N := 45) hx hb hts iX10 hown hK hP 0 rfl rfl 44 (Nat.le_of_ble_eq_true rfl) (hts _ wd_611) (fun _ h9 => h9) rfl dX10_judge_24 ?_
        refine lv_iload_n hx hb dX10_judge_27 rfl (lv_at hl 0 rfl) ?_
        obtain ⟨hv_5, hF⟩ := hF
        refine va_iald hx hb hK hP 3 0 rfl rfl hv_5 dX10_judge_28 ?_
        refine lv_icmp_eq (tgt := 34) hx hb dX10_judge_29 rfl (fun c_6 => ?_) (fun c_6 => ?_)
        · replace hF := hF.1 c_6
          rw [if_pos c_6] at hE
          refine lv_iinc (v := (w_1l1 + 1)) (lv' := [(1, .int (w_1l1 + 1)), (0, .ref h)]) hx hb dX10_judge_34 hl (k := 0) rfl rfl (Nat.le_of_ble_eq_true rfl) rfl (fun ls hl => ?_)
          refine lv_goto (tgt := 2) hx hb dX10_judge_37 rfl ?_
          exact ih_w_1 (w_1l1 + 1) _ _ ls hP hD hS (lv_sub hl [0, 1] rfl) hF (up_step c_2 hm) hE
        · replace hF := hF.2 c_6
          rw [if_neg c_6] at hE
          refine lv_iload_n hx hb dX10_judge_32 rfl (lv_at hl 0 rfl) ?_
          exact hret w_1l1 () _ _ _ _ dX10_judge_33 rfl hE hP hD hS
  exact lp_2_w_1 ((((G 42) : Int32).toInt - (0 : Int32).toInt).toNat + 1) 0 _ _ ls hP hD hS hl hF (Nat.lt_succ_self _) hE
noncomputable def f_m_fleet_49 (G : Nat → Int32) (f0 : Nat → Int32) (w_5l2 : Int32) (n : Nat) : Int32 → Int32 → Int32 × Int32 := Nat.rec (motive := fun _ => Int32 → Int32 → Int32 × Int32) (fun w_6l4 w_6l3 => (w_6l4, w_6l3)) (fun n ih w_6l4 w_6l3 => (if (1 <<< ((G 5) &&& 31)) ≤ w_6l4 then (w_6l4, w_6l3) else (if (w_6l4 &&& (f0 (18 : Int32).toNatClampNeg)) = 0 then (if (f_m_griefOf G f0 w_6l4) < w_5l2 then (ih (w_6l4 + 1) w_6l3) else (if w_6l3 = (-1) then (ih (w_6l4 + 1) w_6l4) else (if (f_m_ones w_6l3) ≤ (f_m_ones w_6l4) then (ih (w_6l4 + 1) w_6l3) else (ih (w_6l4 + 1) w_6l4)))) else (ih (w_6l4 + 1) w_6l3)))) n
theorem f_m_fleet_49_s (G : Nat → Int32) (f0 : Nat → Int32) (w_5l2 : Int32) (n : Nat) (w_6l4 : Int32) (w_6l3 : Int32) : f_m_fleet_49 G f0 w_5l2 (n + 1) w_6l4 w_6l3 = (if (1 <<< ((G 5) &&& 31)) ≤ w_6l4 then (w_6l4, w_6l3) else (if (w_6l4 &&& (f0 (18 : Int32).toNatClampNeg)) = 0 then (if (f_m_griefOf G f0 w_6l4) < w_5l2 then (f_m_fleet_49 G f0 w_5l2 n (w_6l4 + 1) w_6l3) else (if w_6l3 = (-1) then (f_m_fleet_49 G f0 w_5l2 n (w_6l4 + 1) w_6l4) else (if (f_m_ones w_6l3) ≤ (f_m_ones w_6l4) then (f_m_fleet_49 G f0 w_5l2 n (w_6l4 + 1) w_6l3) else (f_m_fleet_49 G f0 w_5l2 n (w_6l4 + 1) w_6l4)))) else (f_m_fleet_49 G f0 w_5l2 n (w_6l4 + 1) w_6l3))) := rfl
def S_m_fleet_49 (G : Nat → Int32) (f0 : Nat → Int32) (w_5l2 : Int32) (K : Int32 → Int32 → Prop) (n : Nat) : Int32 → Int32 → Prop := Nat.rec (motive := fun _ => Int32 → Int32 → Prop) (fun _ _ => True) (fun n ih w_6l4 w_6l3 => (((1 <<< ((G 5) &&& 31)) ≤ w_6l4 → (K w_6l4 w_6l3)) ∧ (¬ (1 <<< ((G 5) &&& 31)) ≤ w_6l4 → (((w_6l4 &&& (f0 (18 : Int32).toNatClampNeg)) = 0 → ((S_m_griefOf G f0 w_6l4) ∧ (((f_m_griefOf G f0 w_6l4) < w_5l2 → (ih (w_6l4 + 1) w_6l3)) ∧ (¬ (f_m_griefOf G f0 w_6l4) < w_5l2 → ((w_6l3 = (-1) → (ih (w_6l4 + 1) w_6l4)) ∧ (¬ w_6l3 = (-1) → ((S_m_ones w_6l4) ∧ ((S_m_ones w_6l3) ∧ (((f_m_ones w_6l3) ≤ (f_m_ones w_6l4) → (ih (w_6l4 + 1) w_6l3)) ∧ (¬ (f_m_ones w_6l3) ≤ (f_m_ones w_6l4) → (ih (w_6l4 + 1) w_6l4))))))))))) ∧ (¬ (w_6l4 &&& (f0 (18 : Int32).toNatClampNeg)) = 0 → (ih (w_6l4 + 1) w_6l3)))))) n
theorem S_m_fleet_49_s (G : Nat → Int32) (f0 : Nat → Int32) (w_5l2 : Int32) (K : Int32 → Int32 → Prop) (n : Nat) (w_6l4 : Int32) (w_6l3 : Int32) : S_m_fleet_49 G f0 w_5l2 K (n + 1) w_6l4 w_6l3 = ((((1 <<< ((G 5) &&& 31)) ≤ w_6l4 → (K w_6l4 w_6l3)) ∧ (¬ (1 <<< ((G 5) &&& 31)) ≤ w_6l4 → (((w_6l4 &&& (f0 (18 : Int32).toNatClampNeg)) = 0 → ((S_m_griefOf G f0 w_6l4) ∧ (((f_m_griefOf G f0 w_6l4) < w_5l2 → (S_m_fleet_49 G f0 w_5l2 K n (w_6l4 + 1) w_6l3)) ∧ (¬ (f_m_griefOf G f0 w_6l4) < w_5l2 → ((w_6l3 = (-1) → (S_m_fleet_49 G f0 w_5l2 K n (w_6l4 + 1) w_6l4)) ∧ (¬ w_6l3 = (-1) → ((S_m_ones w_6l4) ∧ ((S_m_ones w_6l3) ∧ (((f_m_ones w_6l3) ≤ (f_m_ones w_6l4) → (S_m_fleet_49 G f0 w_5l2 K n (w_6l4 + 1) w_6l3)) ∧ (¬ (f_m_ones w_6l3) ≤ (f_m_ones w_6l4) → (S_m_fleet_49 G f0 w_5l2 K n (w_6l4 + 1) w_6l4))))))))))) ∧ (¬ (w_6l4 &&& (f0 (18 : Int32).toNatClampNeg)) = 0 → (S_m_fleet_49 G f0 w_5l2 K n (w_6l4 + 1) w_6l3)))))) := rfl
noncomputable def f_m_fleet_19 (G : Nat → Int32) (f8 : Nat → Int32) (n_ : Int32) (n : Nat) : Int32 → Int32 → Int32 × Int32 := Nat.rec (motive := fun _ => Int32 → Int32 → Int32 × Int32) (fun w_5l3 w_5l2 => (w_5l3, w_5l2)) (fun n ih w_5l3 w_5l2 => (if (G 3) ≤ w_5l3 then (w_5l3, w_5l2) else (ih (w_5l3 + 1) (w_5l2 + (n_ * (f8 (w_5l3 : Int32).toNatClampNeg)))))) n
theorem f_m_fleet_19_s (G : Nat → Int32) (f8 : Nat → Int32) (n_ : Int32) (n : Nat) (w_5l3 : Int32) (w_5l2 : Int32) : f_m_fleet_19 G f8 n_ (n + 1) w_5l3 w_5l2 = (if (G 3) ≤ w_5l3 then (w_5l3, w_5l2) else (f_m_fleet_19 G f8 n_ n (w_5l3 + 1) (w_5l2 + (n_ * (f8 (w_5l3 : Int32).toNatClampNeg))))) := rfl
def S_m_fleet_19 (G : Nat → Int32) (f8 : Nat → Int32) (n_ : Int32) (K : Int32 → Int32 → Prop) (n : Nat) : Int32 → Int32 → Prop := Nat.rec (motive := fun _ => Int32 → Int32 → Prop) (fun _ _ => True) (fun n ih w_5l3 w_5l2 => (((G 3) ≤ w_5l3 → (K w_5l3 w_5l2)) ∧ (¬ (G 3) ≤ w_5l3 → (vp_in w_5l3 6 ∧ (ih (w_5l3 + 1) (w_5l2 + (n_ * (f8 (w_5l3 : Int32).toNatClampNeg)))))))) n
theorem S_m_fleet_19_s (G : Nat → Int32) (f8 : Nat → Int32) (n_ : Int32) (K : Int32 → Int32 → Prop) (n : Nat) (w_5l3 : Int32) (w_5l2 : Int32) : S_m_fleet_19 G f8 n_ K (n + 1) w_5l3 w_5l2 = ((((G 3) ≤ w_5l3 → (K w_5l3 w_5l2)) ∧ (¬ (G 3) ≤ w_5l3 → (vp_in w_5l3 6 ∧ (S_m_fleet_19 G f8 n_ K n (w_5l3 + 1) (w_5l2 + (n_ * (f8 (w_5l3 : Int32).toNatClampNeg)))))))) := rfl
noncomputable def f_m_fleet (G : Nat → Int32) (f0 : Nat → Int32) (f8 : Nat → Int32) (n_ : Int32) : Int32 := (if (f_m_in n_.toInt64 1 9) = 0 then (-1000000002) else (match ((f_m_fleet_19 G f8 n_ ((((G 3) : Int32).toInt - (0 : Int32).toInt).toNat + 1) 0 0) : Int32 × Int32) with | (w_5l3, w_5l2) => (match ((f_m_fleet_49 G f0 w_5l2 ((((1 <<< ((G 5) &&& 31)) : Int32).toInt - (0 : Int32).toInt).toNat + 1) 0 (-1)) : Int32 × Int32) with | (w_6l4, w_6l3) => w_6l3)))
def S_m_fleet (G : Nat → Int32) (f0 : Nat → Int32) (f8 : Nat → Int32) (n_ : Int32) : Prop := ((S_m_in n_.toInt64 1 9) ∧ (((f_m_in n_.toInt64 1 9) = 0 → True) ∧ (¬ (f_m_in n_.toInt64 1 9) = 0 → (S_m_fleet_19 G f8 n_ (fun (w_5l3 : Int32) (w_5l2 : Int32) => (S_m_fleet_49 G f0 w_5l2 (fun (w_6l4 : Int32) (w_6l3 : Int32) => True) ((((1 <<< ((G 5) &&& 31)) : Int32).toInt - (0 : Int32).toInt).toNat + 1) 0 (-1))) ((((G 3) : Int32).toInt - (0 : Int32).toInt).toNat + 1) 0 0))))
def rm_m_fleet : Room := { frames := 2, cells := 0, slots := 0, locals := 44 }
set_option maxHeartbeats 4000000 in
set_option maxRecDepth 100000 in
theorem m_fleet {l : Launch} {D : va_G} {cI cZ : ClassId} {sz : Nat} (Rf : Nat → Nat) (h : Nat) (G : Nat → Int32) (f0 : Nat → Int32) (f8 : Nat → Int32) (n_ : Int32) (hF : S_m_fleet G f0 f8 n_) : KI l yX10_fleet cX10_fleet 6 (some .int) rm_m_fleet D cI cZ [.ref h, .int n_] sz [(h, .inr (10, ML G Rf)), ((Rf 0), .inl (cI, 1302, .inl f0)), ((Rf 8), .inl (cI, 6, .inl f8))] (fun (r : Int32) (_ : Unit) => r = f_m_fleet G f0 f8 n_) (fun (_ : Unit) => [(h, .inr (10, ML G Rf)), ((Rf 0), .inl (cI, 1302, .inl f0)), ((Rf 8), .inl (cI, 6, .inl f8))]) := by
  refine KI.go rfl (Nat.le_of_ble_eq_true rfl) ?_
  intro p e s m args below meth c ls A Q hx hb hml hts hown hin hP hK hD hS hA hN hl hret
  have hl : lv_has ls 6 [(0, .ref h), (1, .int n_)] := hl
  rw [S_m_fleet] at hF
  obtain ⟨RES, hE⟩ : ∃ xRES, f_m_fleet G f0 f8 n_ = xRES := ⟨_, rfl⟩
  rw [hE] at hret
  rw [f_m_fleet] at hE
  refine lv_iload_n hx hb dX10_fleet_0 rfl (lv_at hl 1 rfl) ?_
  refine lv_i2l (v := n_.toInt64) hx hb dX10_fleet_1 rfl ?_
  refine lv_lconst (v := 1) hx hb dX10_fleet_2 rfl ?_
  refine lv_ldc2 (v := 9) hx hb hown (hts _ wd_663) dX10_fleet_3 ?_
  obtain ⟨hs_1, hF⟩ := hF
  refine cSi (wr := [(h, .inr (10, ML G Rf)), ((Rf 0), .inl (cI, 1302, .inl f0)), ((Rf 8), .inl (cI, 6, .inl f8))]) (rest := []) (m_in n_.toInt64 1 9 hs_1) okS_X10_in wd_495 hx hb hml hown hts hK hP hD hS hA hN hl.1 [] [0, 1, 2] rfl rfl rfl rfl (of_decide_eq_true rfl) rfl (Nat.le_of_ble_eq_true rfl) (Nat.le_of_ble_eq_true rfl) (Nat.le_of_ble_eq_true rfl) (Nat.le_of_ble_eq_true rfl) (Nat.le_of_ble_eq_true rfl) dX10_fleet_6 (fun r_3 u_2 H locs hw_u_2 hP hD hS => ?_)
  replace hw_u_2 : r_3 = (f_m_in n_.toInt64 1 9) := hw_u_2
  rw [hw_u_2]
  clear hw_u_2
  have hP : va_P D classes [(h, .inr (10, ML G Rf)), ((Rf 0), .inl (cI, 1302, .inl f0)), ((Rf 8), .inl (cI, 6, .inl f8))] H := hP
  have hD : va_D A [(h, .inr (10, ML G Rf)), ((Rf 0), .inl (cI, 1302, .inl f0)), ((Rf 8), .inl (cI, 6, .inl f8))] := hD
  refine lv_if_ne (tgt := 15) hx hb dX10_fleet_9 rfl (fun c_4 => ?_) (fun c_4 => ?_)
  · replace hF := hF.2 c_4
    rw [if_neg c_4] at hE
    refine lv_iconst (v := 0) hx hb dX10_fleet_15 rfl ?_
    refine lv_istore_n (lv' := [(2, .int 0), (0, .ref h), (1, .int n_)]) hx hb dX10_fleet_16 rfl hl (Nat.le_of_ble_eq_true rfl) rfl (fun ls hl => ?_)
    refine lv_iconst (v := 0) hx hb dX10_fleet_17 rfl ?_
    refine lv_istore_n (lv' := [(3, .int 0), (2, .int 0), (0, .ref h), (1, .int n_)]) hx hb dX10_fleet_18 rfl hl (Nat.le_of_ble_eq_true rfl) rfl (fun ls hl => ?_)
    have ex_19_w_5 : ∀ (w_5l3 : Int32) (w_5l2 : Int32) (H : Heap) (locs : List Loc) (ls : Array Slot), va_P D classes [(h, .inr (10, ML G Rf)), ((Rf 0), .inl (cI, 1302, .inl f0)), ((Rf 8), .inl (cI, 6, .inl f8))] H → va_D A [(h, .inr (10, ML G Rf)), ((Rf 0), .inl (cI, 1302, .inl f0)), ((Rf 8), .inl (cI, 6, .inl f8))] → va_S A s.heap H locs → lv_has ls 6 [(3, .int w_5l3), (2, .int w_5l2), (0, .ref h), (1, .int n_)] → ((S_m_fleet_49 G f0 w_5l2 (fun (w_6l4 : Int32) (w_6l3 : Int32) => True) ((((1 <<< ((G 5) &&& 31)) : Int32).toInt - (0 : Int32).toInt).toNat + 1) 0 (-1))) → (((match ((f_m_fleet_49 G f0 w_5l2 ((((1 <<< ((G 5) &&& 31)) : Int32).toInt - (0 : Int32).toInt).toNat + 1) 0 (-1)) : Int32 × Int32) with | (w_6l4, w_6l3) => w_6l3)) : Int32) = RES → W p l e rm_m_fleet s m args below meth c H locs 0 0 Q (F0 m 44 ls []) := by
      intro w_5l3 w_5l2 H locs ls hP hD hS hl hF hE
      refine lv_iconst (v := (-1)) hx hb dX10_fleet_44 rfl ?_
      refine lv_istore_n (lv' := [(3, .int (-1)), (2, .int w_5l2), (0, .ref h), (1, .int n_)]) hx hb dX10_fleet_45 rfl hl (Nat.le_of_ble_eq_true rfl) rfl (fun ls hl => ?_)
      refine lv_iconst (v := 0) hx hb dX10_fleet_46 rfl ?_
      refine lv_istore (lv' := [(4, .int 0), (3, .int (-1)), (2, .int w_5l2), (0, .ref h), (1, .int n_)]) hx hb dX10_fleet_47 hl (Nat.le_of_ble_eq_true rfl) rfl (fun ls hl => ?_)
      have ex_49_w_6 : ∀ (w_6l4 : Int32) (w_6l3 : Int32) (H : Heap) (locs : List Loc) (ls : Array Slot), va_P D classes [(h, .inr (10, ML G Rf)), ((Rf 0), .inl (cI, 1302, .inl f0)), ((Rf 8), .inl (cI, 6, .inl f8))] H → va_D A [(h, .inr (10, ML G Rf)), ((Rf 0), .inl (cI, 1302, .inl f0)), ((Rf 8), .inl (cI, 6, .inl f8))] → va_S A s.heap H locs → lv_has ls 6 [(4, .int w_6l4), (3, .int w_6l3), (2, .int w_5l2), (0, .ref h), (1, .int n_)] → (True) → ((w_6l3) : Int32) = RES → W p l e rm_m_fleet s m args below meth c H locs 0 0 Q (F0 m 125 ls []) := by
        intro w_6l4 w_6l3 H locs ls hP hD hS hl hF hE
        refine lv_iload_n hx hb dX10_fleet_125 rfl (lv_at hl 1 rfl) ?_
        exact hret w_6l3 () _ _ _ _ dX10_fleet_126 rfl hE hP hD hS
      have lp_49_w_6 : ∀ (n_w_6 : Nat) (w_6l4 : Int32) (w_6l3 : Int32) (H : Heap) (locs : List Loc) (ls : Array Slot), va_P D classes [(h, .inr (10, ML G Rf)), ((Rf 0), .inl (cI, 1302, .inl f0)), ((Rf 8), .inl (cI, 6, .inl f8))] H → va_D A [(h, .inr (10, ML G Rf)), ((Rf 0), .inl (cI, 1302, .inl f0)), ((Rf 8), .inl (cI, 6, .inl f8))] → va_S A s.heap H locs → lv_has ls 6 [(4, .int w_6l4), (3, .int w_6l3), (2, .int w_5l2), (0, .ref h), (1, .int n_)] → (S_m_fleet_49 G f0 w_5l2 (fun (w_6l4 : Int32) (w_6l3 : Int32) => True) n_w_6 w_6l4 w_6l3) → (((1 <<< ((G 5) &&& 31)) : Int32).toInt - (w_6l4 : Int32).toInt).toNat < n_w_6 → ((match ((f_m_fleet_49 G f0 w_5l2 n_w_6 w_6l4 w_6l3) : Int32 × Int32) with | (w_6l4, w_6l3) => w_6l3) : Int32) = RES → W p l e rm_m_fleet s m args below meth c H locs 0 0 Q (F0 m 49 ls []) := by
        intro n_w_6
        induction n_w_6 with
        | zero => intro w_6l4 w_6l3 H locs ls hP hD hS hl hF hm; exact absurd hm (Nat.not_lt_zero _)
        | succ n_w_6 ih_w_6 =>
          intro w_6l4 w_6l3 H locs ls hP hD hS hl hF hm hE
          rw [S_m_fleet_49_s] at hF
          rw [f_m_fleet_49_s] at hE
          refine lv_iload hx hb dX10_fleet_49 (lv_at hl 0 rfl) ?_
          refine lv_iconst (v := 1) hx hb dX10_fleet_51 rfl ?_
          refine lv_aload_n hx hb dX10_fleet_52 rfl (lv_at hl 3 rfl) ?_
          refine va_get (D := D) (ci := 10) (v := .int (G 5)) (C := RX10) (T := TX10) (N := 45) hx hb hts iX10 hown hK hP 0 rfl rfl 5 (Nat.le_of_ble_eq_true rfl) (hts _ wd_499) (fun _ h9 => h9) rfl dX10_fleet_53 ?_
          refine lv_ishl hx hb dX10_fleet_56 ?_
          refine lv_icmp_ge (tgt := 125) hx hb dX10_fleet_57 rfl (fun c_7 => ?_) (fun c_7 => ?_)
          · replace hF := hF.1 c_7
            rw [if_pos c_7] at hE
            exact ex_49_w_6 w_6l4 w_6l3 _ _ ls hP hD hS (lv_sub hl [0, 1, 2, 3, 4] rfl) hF hE
          · replace hF := hF.2 c_7
            rw [if_neg c_7] at hE
            refine lv_iload hx hb dX10_fleet_60 (lv_at hl 0 rfl) ?_
            refine lv_aload_n hx hb dX10_fleet_62 rfl (lv_at hl 3 rfl) ?_
            refine va_get (D := D) (ci := 10) (v := .ref (Rf 0)) (C := RX10) (T := TX10) (N := 45) hx hb hts iX10 hown hK hP 0 rfl rfl 0 (Nat.le_of_ble_eq_true rfl) (hts _ wd_491) (fun _ h9 => h9) rfl dX10_fleet_63 ?_
            refine lv_bipush (v := 18) hx hb dX10_fleet_66 rfl ?_
            refine va_iald hx hb hK hP 1 0 rfl rfl (show ¬ ((18 : Int32) < 0 ∨ 1302 ≤ (18 : Int32).toNatClampNeg) by decide +kernel) dX10_fleet_68 ?_
            refine lv_iand hx hb dX10_fleet_69 ?_
            refine lv_if_ne (tgt := 87) hx hb dX10_fleet_70 rfl (fun c_8 => ?_) (fun c_8 => ?_)
            · replace hF := hF.2 c_8
              rw [if_neg c_8] at hE
              refine lv_iconst (v := 0) hx hb dX10_fleet_87 rfl ?_
              refine lv_istore (lv' := [(5, .int 0), (4, .int w_6l4), (3, .int w_6l3), (2, .int w_5l2), (0, .ref h), (1, .int n_)]) hx hb dX10_fleet_88 hl (Nat.le_of_ble_eq_true rfl) rfl (fun ls hl => ?_)
              refine lv_iload hx hb dX10_fleet_90 (lv_at hl 0 rfl) ?_
              refine lv_if_eq (tgt := 117) hx hb dX10_fleet_92 rfl (fun c_9 => ?_) (fun c_9 => absurd (by decide +kernel) c_9)
              refine lv_iload_n hx hb dX10_fleet_117 rfl (lv_at hl 2 rfl) ?_
              refine lv_istore_n (lv' := [(3, .int w_6l3), (5, .int 0), (4, .int w_6l4), (2, .int w_5l2), (0, .ref h), (1, .int n_)]) hx hb dX10_fleet_118 rfl hl (Nat.le_of_ble_eq_true rfl) rfl (fun ls hl => ?_)
              refine lv_iinc (v := (w_6l4 + 1)) (lv' := [(4, .int (w_6l4 + 1)), (3, .int w_6l3), (5, .int 0), (2, .int w_5l2), (0, .ref h), (1, .int n_)]) hx hb dX10_fleet_119 hl (k := 2) rfl rfl (Nat.le_of_ble_eq_true rfl) rfl (fun ls hl => ?_)
              refine lv_goto (tgt := 49) hx hb dX10_fleet_122 rfl ?_
              exact ih_w_6 (w_6l4 + 1) w_6l3 _ _ ls hP hD hS (lv_sub hl [0, 1, 3, 4, 5] rfl) hF (up_step c_7 hm) hE
            · replace hF := hF.1 c_8
              rw [if_pos c_8] at hE
              refine lv_aload_n hx hb dX10_fleet_73 rfl (lv_at hl 3 rfl) ?_
              refine lv_iload hx hb dX10_fleet_74 (lv_at hl 0 rfl) ?_
              obtain ⟨hs_10, hF⟩ := hF
              refine cVi (wr := [((Rf 8), .inl (cI, 6, .inl f8))]) (rest := []) (m_griefOf Rf h G f0 w_6l4 hs_10) okV_X10_griefOf wd_619 hx hb hml hown hts hK hP hD hS hA hN hl.1 [0, 1] [2] rfl rfl rfl rfl (of_decide_eq_true rfl) rfl rfl rfl (Nat.le_of_ble_eq_true rfl) (Nat.le_of_ble_eq_true rfl) (Nat.le_of_ble_eq_true rfl) (Nat.le_of_ble_eq_true rfl) (Nat.le_of_ble_eq_true rfl) dX10_fleet_76 (fun r_12 u_11 H locs hw_u_11 hP hD hS => ?_)
              replace hw_u_11 : r_12 = (f_m_griefOf G f0 w_6l4) := hw_u_11
              rw [hw_u_11]
              clear hw_u_11
              have hP : va_P D classes [((Rf 8), .inl (cI, 6, .inl f8)), (h, .inr (10, ML G Rf)), ((Rf 0), .inl (cI, 1302, .inl f0))] H := hP
              have hD : va_D A [((Rf 8), .inl (cI, 6, .inl f8)), (h, .inr (10, ML G Rf)), ((Rf 0), .inl (cI, 1302, .inl f0))] := hD
              refine lv_iload_n hx hb dX10_fleet_79 rfl (lv_at hl 2 rfl) ?_
              refine lv_icmp_lt (tgt := 87) hx hb dX10_fleet_80 rfl (fun c_13 => ?_) (fun c_13 => ?_)
              · replace hF := hF.1 c_13
                rw [if_pos c_13] at hE
                refine lv_iconst (v := 0) hx hb dX10_fleet_87 rfl ?_
                refine lv_istore (lv' := [(5, .int 0), (4, .int w_6l4), (3, .int w_6l3), (2, .int w_5l2), (0, .ref h), (1, .int n_)]) hx hb dX10_fleet_88 hl (Nat.le_of_ble_eq_true rfl) rfl (fun ls hl => ?_)
                refine lv_iload hx hb dX10_fleet_90 (lv_at hl 0 rfl) ?_
                refine lv_if_eq (tgt := 117) hx hb dX10_fleet_92 rfl (fun c_14 => ?_) (fun c_14 => absurd (by decide +kernel) c_14)
                refine lv_iload_n hx hb dX10_fleet_117 rfl (lv_at hl 2 rfl) ?_
                refine lv_istore_n (lv' := [(3, .int w_6l3), (5, .int 0), (4, .int w_6l4), (2, .int w_5l2), (0, .ref h), (1, .int n_)]) hx hb dX10_fleet_118 rfl hl (Nat.le_of_ble_eq_true rfl) rfl (fun ls hl => ?_)
                refine lv_iinc (v := (w_6l4 + 1)) (lv' := [(4, .int (w_6l4 + 1)), (3, .int w_6l3), (5, .int 0), (2, .int w_5l2), (0, .ref h), (1, .int n_)]) hx hb dX10_fleet_119 hl (k := 2) rfl rfl (Nat.le_of_ble_eq_true rfl) rfl (fun ls hl => ?_)
                refine lv_goto (tgt := 49) hx hb dX10_fleet_122 rfl ?_
                exact ih_w_6 (w_6l4 + 1) w_6l3 _ _ ls (cutP (isC := [1, 2, 0]) hP rfl) (cutD (isC := [1, 2, 0]) hD rfl rfl) hS (lv_sub hl [0, 1, 3, 4, 5] rfl) hF (up_step c_7 hm) hE
              · replace hF := hF.2 c_13
                rw [if_neg c_13] at hE
                refine lv_iconst (v := 1) hx hb dX10_fleet_83 rfl ?_
                refine lv_goto (tgt := 88) hx hb dX10_fleet_84 rfl ?_
                refine lv_istore (lv' := [(5, .int 1), (4, .int w_6l4), (3, .int w_6l3), (2, .int w_5l2), (0, .ref h), (1, .int n_)]) hx hb dX10_fleet_88 hl (Nat.le_of_ble_eq_true rfl) rfl (fun ls hl => ?_)
                refine lv_iload hx hb dX10_fleet_90 (lv_at hl 0 rfl) ?_
                refine lv_if_eq (tgt := 117) hx hb dX10_fleet_92 rfl (fun c_15 => absurd c_15 (by decide +kernel)) (fun c_15 => ?_)
                refine lv_iload_n hx hb dX10_fleet_95 rfl (lv_at hl 2 rfl) ?_
                refine lv_iconst (v := (-1)) hx hb dX10_fleet_96 rfl ?_
                refine lv_icmp_eq (tgt := 112) hx hb dX10_fleet_97 rfl (fun c_16 => ?_) (fun c_16 => ?_)
                · replace hF := hF.1 c_16
                  rw [if_pos c_16] at hE
                  refine lv_iload hx hb dX10_fleet_112 (lv_at hl 1 rfl) ?_
                  refine lv_goto (tgt := 118) hx hb dX10_fleet_114 rfl ?_
                  refine lv_istore_n (lv' := [(3, .int w_6l4), (5, .int 1), (4, .int w_6l4), (2, .int w_5l2), (0, .ref h), (1, .int n_)]) hx hb dX10_fleet_118 rfl hl (Nat.le_of_ble_eq_true rfl) rfl (fun ls hl => ?_)
                  refine lv_iinc (v := (w_6l4 + 1)) (lv' := [(4, .int (w_6l4 + 1)), (3, .int w_6l4), (5, .int 1), (2, .int w_5l2), (0, .ref h), (1, .int n_)]) hx hb dX10_fleet_119 hl (k := 2) rfl rfl (Nat.le_of_ble_eq_true rfl) rfl (fun ls hl => ?_)
                  refine lv_goto (tgt := 49) hx hb dX10_fleet_122 rfl ?_
                  exact ih_w_6 (w_6l4 + 1) w_6l4 _ _ ls (cutP (isC := [1, 2, 0]) hP rfl) (cutD (isC := [1, 2, 0]) hD rfl rfl) hS (lv_sub hl [0, 1, 3, 4, 5] rfl) hF (up_step c_7 hm) hE
                · replace hF := hF.2 c_16
                  rw [if_neg c_16] at hE
                  refine lv_iload hx hb dX10_fleet_100 (lv_at hl 1 rfl) ?_
                  obtain ⟨hs_17, hF⟩ := hF
                  refine cSi (wr := [((Rf 8), .inl (cI, 6, .inl f8)), (h, .inr (10, ML G Rf)), ((Rf 0), .inl (cI, 1302, .inl f0))]) (rest := []) (m_ones w_6l4 hs_17) okS_X10_ones wd_664 hx hb hml hown hts hK hP hD hS hA hN hl.1 [] [0, 1, 2] rfl rfl rfl rfl (of_decide_eq_true rfl) rfl (Nat.le_of_ble_eq_true rfl) (Nat.le_of_ble_eq_true rfl) (Nat.le_of_ble_eq_true rfl) (Nat.le_of_ble_eq_true rfl) (Nat.le_of_ble_eq_true rfl) dX10_fleet_102 (fun r_19 u_18 H locs hw_u_18 hP hD hS => ?_)
                  replace hw_u_18 : r_19 = (f_m_ones w_6l4) := hw_u_18
                  rw [hw_u_18]
                  clear hw_u_18
                  have hP : va_P D classes [((Rf 8), .inl (cI, 6, .inl f8)), (h, .inr (10, ML G Rf)), ((Rf 0), .inl (cI, 1302, .inl f0))] H := hP
                  have hD : va_D A [((Rf 8), .inl (cI, 6, .inl f8)), (h, .inr (10, ML G Rf)), ((Rf 0), .inl (cI, 1302, .inl f0))] := hD
                  refine lv_iload_n hx hb dX10_fleet_105 rfl (lv_at hl 2 rfl) ?_
                  obtain ⟨hs_20, hF⟩ := hF
                  refine cSi (wr := [((Rf 8), .inl (cI, 6, .inl f8)), (h, .inr (10, ML G Rf)), ((Rf 0), .inl (cI, 1302, .inl f0))]) (rest := [.int (f_m_ones w_6l4)]) (m_ones w_6l3 hs_20) okS_X10_ones wd_664 hx hb hml hown hts hK hP hD hS hA hN hl.1 [] [0, 1, 2] rfl rfl rfl rfl (of_decide_eq_true rfl) rfl (Nat.le_of_ble_eq_true rfl) (Nat.le_of_ble_eq_true rfl) (Nat.le_of_ble_eq_true rfl) (Nat.le_of_ble_eq_true rfl) (Nat.le_of_ble_eq_true rfl) dX10_fleet_106 (fun r_22 u_21 H locs hw_u_21 hP hD hS => ?_)
                  replace hw_u_21 : r_22 = (f_m_ones w_6l3) := hw_u_21
                  rw [hw_u_21]
                  clear hw_u_21
                  have hP : va_P D classes [((Rf 8), .inl (cI, 6, .inl f8)), (h, .inr (10, ML G Rf)), ((Rf 0), .inl (cI, 1302, .inl f0))] H := hP
                  have hD : va_D A [((Rf 8), .inl (cI, 6, .inl f8)), (h, .inr (10, ML G Rf)), ((Rf 0), .inl (cI, 1302, .inl f0))] := hD
                  refine lv_icmp_ge (tgt := 117) hx hb dX10_fleet_109 rfl (fun c_23 => ?_) (fun c_23 => ?_)
                  · replace hF := hF.1 c_23
                    rw [if_pos c_23] at hE
                    refine lv_iload_n hx hb dX10_fleet_117 rfl (lv_at hl 2 rfl) ?_
                    refine lv_istore_n (lv' := [(3, .int w_6l3), (5, .int 1), (4, .int w_6l4), (2, .int w_5l2), (0, .ref h), (1, .int n_)]) hx hb dX10_fleet_118 rfl hl (Nat.le_of_ble_eq_true rfl) rfl (fun ls hl => ?_)
                    refine lv_iinc (v := (w_6l4 + 1)) (lv' := [(4, .int (w_6l4 + 1)), (3, .int w_6l3), (5, .int 1), (2, .int w_5l2), (0, .ref h), (1, .int n_)]) hx hb dX10_fleet_119 hl (k := 2) rfl rfl (Nat.le_of_ble_eq_true rfl) rfl (fun ls hl => ?_)
                    refine lv_goto (tgt := 49) hx hb dX10_fleet_122 rfl ?_
                    exact ih_w_6 (w_6l4 + 1) w_6l3 _ _ ls (cutP (isC := [1, 2, 0]) hP rfl) (cutD (isC := [1, 2, 0]) hD rfl rfl) hS (lv_sub hl [0, 1, 3, 4, 5] rfl) hF (up_step c_7 hm) hE
                  · replace hF := hF.2 c_23
                    rw [if_neg c_23] at hE
                    refine lv_iload hx hb dX10_fleet_112 (lv_at hl 1 rfl) ?_
                    refine lv_goto (tgt := 118) hx hb dX10_fleet_114 rfl ?_
                    refine lv_istore_n (lv' := [(3, .int w_6l4), (5, .int 1), (4, .int w_6l4), (2, .int w_5l2), (0, .ref h), (1, .int n_)]) hx hb dX10_fleet_118 rfl hl (Nat.le_of_ble_eq_true rfl) rfl (fun ls hl => ?_)
                    refine lv_iinc (v := (w_6l4 + 1)) (lv' := [(4, .int (w_6l4 + 1)), (3, .int w_6l4), (5, .int 1), (2, .int w_5l2), (0, .ref h), (1, .int n_)]) hx hb dX10_fleet_119 hl (k := 2) rfl rfl (Nat.le_of_ble_eq_true rfl) rfl (fun ls hl => ?_)
                    refine lv_goto (tgt := 49) hx hb dX10_fleet_122 rfl ?_
                    exact ih_w_6 (w_6l4 + 1) w_6l4 _ _ ls (cutP (isC := [1, 2, 0]) hP rfl) (cutD (isC := [1, 2, 0]) hD rfl rfl) hS (lv_sub hl [0, 1, 3, 4, 5] rfl) hF (up_step c_7 hm) hE
      exact lp_49_w_6 ((((1 <<< ((G 5) &&& 31)) : Int32).toInt - (0 : Int32).toInt).toNat + 1) 0 (-1) _ _ ls hP hD hS hl hF (Nat.lt_succ_self _) hE
    have lp_19_w_5 : ∀ (n_w_5 : Nat) (w_5l3 : Int32) (w_5l2 : Int32) (H : Heap) (locs : List Loc) (ls : Array Slot), va_P D classes [(h, .inr (10, ML G Rf)), ((Rf 0), .inl (cI, 1302, .inl f0)), ((Rf 8), .inl (cI, 6, .inl f8))] H → va_D A [(h, .inr (10, ML G Rf)), ((Rf 0), .inl (cI, 1302, .inl f0)), ((Rf 8), .inl (cI, 6, .inl f8))] → va_S A s.heap H locs → lv_has ls 6 [(3, .int w_5l3), (2, .int w_5l2), (0, .ref h), (1, .int n_)] → (S_m_fleet_19 G f8 n_ (fun (w_5l3 : Int32) (w_5l2 : Int32) => (S_m_fleet_49 G f0 w_5l2 (fun (w_6l4 : Int32) (w_6l3 : Int32) => True) ((((1 <<< ((G 5) &&& 31)) : Int32).toInt - (0 : Int32).toInt).toNat + 1) 0 (-1))) n_w_5 w_5l3 w_5l2) → (((G 3) : Int32).toInt - (w_5l3 : Int32).toInt).toNat < n_w_5 → ((match ((f_m_fleet_19 G f8 n_ n_w_5 w_5l3 w_5l2) : Int32 × Int32) with | (w_5l3, w_5l2) => (match ((f_m_fleet_49 G f0 w_5l2 ((((1 <<< ((G 5) &&& 31)) : Int32).toInt - (0 : Int32).toInt).toNat + 1) 0 (-1)) : Int32 × Int32) with | (w_6l4, w_6l3) => w_6l3)) : Int32) = RES → W p l e rm_m_fleet s m args below meth c H locs 0 0 Q (F0 m 19 ls []) := by
      intro n_w_5
      induction n_w_5 with
      | zero => intro w_5l3 w_5l2 H locs ls hP hD hS hl hF hm; exact absurd hm (Nat.not_lt_zero _)
      | succ n_w_5 ih_w_5 =>
        intro w_5l3 w_5l2 H locs ls hP hD hS hl hF hm hE
        rw [S_m_fleet_19_s] at hF
        rw [f_m_fleet_19_s] at hE
        refine lv_iload_n hx hb dX10_fleet_19 rfl (lv_at hl 0 rfl) ?_
        refine lv_aload_n hx hb dX10_fleet_20 rfl (lv_at hl 2 rfl) ?_
        refine va_get (D := D) (ci := 10) (v := .int (G 3)) (C := RX10) (T := TX10) (N := 45) hx hb hts iX10 hown hK hP 0 rfl rfl 3 (Nat.le_of_ble_eq_true rfl) (hts _ wd_494) (fun _ h9 => h9) rfl dX10_fleet_21 ?_
        refine lv_icmp_ge (tgt := 44) hx hb dX10_fleet_24 rfl (fun c_24 => ?_) (fun c_24 => ?_)
        · replace hF := hF.1 c_24
          rw [if_pos c_24] at hE
          exact ex_19_w_5 w_5l3 w_5l2 _ _ ls hP hD hS (lv_sub hl [0, 1, 2, 3] rfl) hF hE
        · replace hF := hF.2 c_24
          rw [if_neg c_24] at hE
          refine lv_iload_n hx hb dX10_fleet_27 rfl (lv_at hl 1 rfl) ?_
          refine lv_iload_n hx hb dX10_fleet_28 rfl (lv_at hl 3 rfl) ?_
          refine lv_aload_n hx hb dX10_fleet_29 rfl (lv_at hl 2 rfl) ?_
          refine va_get (D := D) (ci := 10) (v := .ref (Rf 8)) (C := RX10) (T := TX10) (N := 45) hx hb hts iX10 hown hK hP 0 rfl rfl 8 (Nat.le_of_ble_eq_true rfl) (hts _ wd_579) (fun _ h9 => h9) rfl dX10_fleet_30 ?_
          refine lv_iload_n hx hb dX10_fleet_33 rfl (lv_at hl 0 rfl) ?_
          obtain ⟨hv_25, hF⟩ := hF
          refine va_iald hx hb hK hP 2 0 rfl rfl hv_25 dX10_fleet_34 ?_
          refine lv_imul hx hb dX10_fleet_35 ?_
          refine lv_iadd hx hb dX10_fleet_36 ?_
          refine lv_istore_n (lv' := [(2, .int (w_5l2 + (n_ * (f8 (w_5l3 : Int32).toNatClampNeg)))), (3, .int w_5l3), (0, .ref h), (1, .int n_)]) hx hb dX10_fleet_37 rfl hl (Nat.le_of_ble_eq_true rfl) rfl (fun ls hl => ?_)
          refine lv_iinc (v := (w_5l3 + 1)) (lv' := [(3, .int (w_5l3 + 1)), (2, .int (w_5l2 + (n_ * (f8 (w_5l3 : Int32).toNatClampNeg)))), (0, .ref h), (1, .int n_)]) hx hb dX10_fleet_38 hl (k := 1) rfl rfl (Nat.le_of_ble_eq_true rfl) rfl (fun ls hl => ?_)
          refine lv_goto (tgt := 19) hx hb dX10_fleet_41 rfl ?_
          exact ih_w_5 (w_5l3 + 1) (w_5l2 + (n_ * (f8 (w_5l3 : Int32).toNatClampNeg))) _ _ ls hP hD hS (lv_sub hl [0, 1, 2, 3] rfl) hF (up_step c_24 hm) hE
    exact lp_19_w_5 ((((G 3) : Int32).toInt - (0 : Int32).toInt).toNat + 1) 0 0 _ _ ls hP hD hS hl hF (Nat.lt_succ_self _) hE
  · replace hF := hF.1 c_4
    rw [if_pos c_4] at hE
    refine lv_ldc (v := (-1000000002)) hx hb hown (hts _ wd_507) dX10_fleet_12 ?_
    exact hret (-1000000002) () _ _ _ _ dX10_fleet_14 rfl hE hP hD hS
end
section
def fw_cX10_wornOut : List (List Nat) := [[2, 60, 19, 1, 14, 61, 3, 62, 29, 42, 180, 0, 78, 162, 0, 99, 3, 54], [3, 54, 4, 3, 54, 5, 21, 5, 42, 180, 0, 17, 162, 0, 34, 42, 29, 21], [29, 21, 5, 182, 1, 29, 54, 6, 21, 6, 21, 4, 164, 0, 8, 21, 6, 167], [6, 167, 0, 5, 21, 4, 54, 4, 132, 5, 1, 167, 255, 219, 42, 29, 182, 0], [182, 0, 207, 154, 0, 13, 21, 4, 28, 162, 0, 7, 4, 167, 0, 4, 3, 54], [3, 54, 5, 21, 5, 153, 0, 7, 29, 167, 0, 4, 27, 60, 21, 5, 153, 0], [153, 0, 8, 21, 4, 167, 0, 4, 28, 61, 132, 3, 1, 167, 255, 155, 27, 172], [27, 172]]
theorem fW_cX10_wornOut : fq_wins 8 cX10_wornOut.data.toList = fw_cX10_wornOut := by decide +kernel
theorem fk_cX10_wornOut_0 : fq_ck cX10_wornOut 0 [2, 60, 19, 1, 14, 61, 3, 62, 29, 42, 180, 0, 78, 162, 0, 99, 3, 54] := fq_of fW_cX10_wornOut 0 rfl rfl
theorem dX10_wornOut_0 : decode cX10_wornOut 0 = .ok (.iconst (-1), 1) := fq_2 fk_cX10_wornOut_0 0 rfl rfl
theorem dX10_wornOut_1 : decode cX10_wornOut 1 = .ok (.istore_n 1, 1) := fq_60 fk_cX10_wornOut_0 1 rfl rfl
theorem dX10_wornOut_2 : decode cX10_wornOut 2 = .ok (.ldc_w 270, 3) := fq_19 fk_cX10_wornOut_0 2 rfl rfl rfl rfl rfl
theorem dX10_wornOut_5 : decode cX10_wornOut 5 = .ok (.istore_n 2, 1) := fq_61 fk_cX10_wornOut_0 5 rfl rfl
theorem dX10_wornOut_6 : decode cX10_wornOut 6 = .ok (.iconst 0, 1) := fq_3 fk_cX10_wornOut_0 6 rfl rfl
theorem dX10_wornOut_7 : decode cX10_wornOut 7 = .ok (.istore_n 3, 1) := fq_62 fk_cX10_wornOut_0 7 rfl rfl
theorem fk_cX10_wornOut_7 : fq_ck cX10_wornOut 112 [27, 172] := fq_of fW_cX10_wornOut 7 rfl rfl
theorem dX10_wornOut_112 : decode cX10_wornOut 112 = .ok (.iload_n 1, 1) := fq_27 fk_cX10_wornOut_7 0 rfl rfl
theorem dX10_wornOut_113 : decode cX10_wornOut 113 = .ok (.ireturn, 1) := fq_172 fk_cX10_wornOut_7 1 rfl rfl
theorem dX10_wornOut_8 : decode cX10_wornOut 8 = .ok (.iload_n 3, 1) := fq_29 fk_cX10_wornOut_0 8 rfl rfl
theorem dX10_wornOut_9 : decode cX10_wornOut 9 = .ok (.aload_n 0, 1) := fq_42 fk_cX10_wornOut_0 9 rfl rfl
theorem dX10_wornOut_10 : decode cX10_wornOut 10 = .ok (.getfield 78, 3) := fq_180 fk_cX10_wornOut_0 10 rfl rfl rfl rfl rfl
theorem dX10_wornOut_13 : decode cX10_wornOut 13 = .ok (.if_icmp .ge 99, 3) := fq_162 fk_cX10_wornOut_0 13 rfl rfl rfl rfl rfl
theorem fk_cX10_wornOut_1 : fq_ck cX10_wornOut 16 [3, 54, 4, 3, 54, 5, 21, 5, 42, 180, 0, 17, 162, 0, 34, 42, 29, 21] := fq_of fW_cX10_wornOut 1 rfl rfl
theorem dX10_wornOut_16 : decode cX10_wornOut 16 = .ok (.iconst 0, 1) := fq_3 fk_cX10_wornOut_1 0 rfl rfl
theorem dX10_wornOut_17 : decode cX10_wornOut 17 = .ok (.istore 4, 2) := fq_54 fk_cX10_wornOut_1 1 rfl rfl rfl
theorem dX10_wornOut_19 : decode cX10_wornOut 19 = .ok (.iconst 0, 1) := fq_3 fk_cX10_wornOut_1 3 rfl rfl
theorem dX10_wornOut_20 : decode cX10_wornOut 20 = .ok (.istore 5, 2) := fq_54 fk_cX10_wornOut_1 4 rfl rfl rfl
theorem fk_cX10_wornOut_3 : fq_ck cX10_wornOut 48 [6, 167, 0, 5, 21, 4, 54, 4, 132, 5, 1, 167, 255, 219, 42, 29, 182, 0] := fq_of fW_cX10_wornOut 3 rfl rfl
theorem dX10_wornOut_62 : decode cX10_wornOut 62 = .ok (.aload_n 0, 1) := fq_42 fk_cX10_wornOut_3 14 rfl rfl
theorem dX10_wornOut_63 : decode cX10_wornOut 63 = .ok (.iload_n 3, 1) := fq_29 fk_cX10_wornOut_3 15 rfl rfl
theorem fk_cX10_wornOut_4 : fq_ck cX10_wornOut 64 [182, 0, 207, 154, 0, 13, 21, 4, 28, 162, 0, 7, 4, 167, 0, 4, 3, 54] := fq_of fW_cX10_wornOut 4 rfl rfl
theorem dX10_wornOut_64 : decode cX10_wornOut 64 = .ok (.invokevirtual 207, 3) := fq_182 fk_cX10_wornOut_4 0 rfl rfl rfl rfl rfl
theorem dX10_wornOut_67 : decode cX10_wornOut 67 = .ok (.ifCond .ne 13, 3) := fq_154 fk_cX10_wornOut_4 3 rfl rfl rfl rfl rfl
theorem fk_cX10_wornOut_5 : fq_ck cX10_wornOut 80 [3, 54, 5, 21, 5, 153, 0, 7, 29, 167, 0, 4, 27, 60, 21, 5, 153, 0] := fq_of fW_cX10_wornOut 5 rfl rfl
theorem dX10_wornOut_80 : decode cX10_wornOut 80 = .ok (.iconst 0, 1) := fq_3 fk_cX10_wornOut_5 0 rfl rfl
theorem dX10_wornOut_81 : decode cX10_wornOut 81 = .ok (.istore 5, 2) := fq_54 fk_cX10_wornOut_5 1 rfl rfl rfl
theorem dX10_wornOut_83 : decode cX10_wornOut 83 = .ok (.iload 5, 2) := fq_21 fk_cX10_wornOut_5 3 rfl rfl rfl
theorem dX10_wornOut_85 : decode cX10_wornOut 85 = .ok (.ifCond .eq 7, 3) := fq_153 fk_cX10_wornOut_5 5 rfl rfl rfl rfl rfl
theorem dX10_wornOut_92 : decode cX10_wornOut 92 = .ok (.iload_n 1, 1) := fq_27 fk_cX10_wornOut_5 12 rfl rfl
theorem dX10_wornOut_93 : decode cX10_wornOut 93 = .ok (.istore_n 1, 1) := fq_60 fk_cX10_wornOut_5 13 rfl rfl
theorem dX10_wornOut_94 : decode cX10_wornOut 94 = .ok (.iload 5, 2) := fq_21 fk_cX10_wornOut_5 14 rfl rfl rfl
theorem fk_cX10_wornOut_6 : fq_ck cX10_wornOut 96 [153, 0, 8, 21, 4, 167, 0, 4, 28, 61, 132, 3, 1, 167, 255, 155, 27, 172] := fq_of fW_cX10_wornOut 6 rfl rfl
theorem dX10_wornOut_96 : decode cX10_wornOut 96 = .ok (.ifCond .eq 8, 3) := fq_153 fk_cX10_wornOut_6 0 rfl rfl rfl rfl rfl
theorem dX10_wornOut_104 : decode cX10_wornOut 104 = .ok (.iload_n 2, 1) := fq_28 fk_cX10_wornOut_6 8 rfl rfl
theorem dX10_wornOut_105 : decode cX10_wornOut 105 = .ok (.istore_n 2, 1) := fq_61 fk_cX10_wornOut_6 9 rfl rfl
theorem dX10_wornOut_106 : decode cX10_wornOut 106 = .ok (.iinc 3 1, 3) := fq_132 fk_cX10_wornOut_6 10 rfl rfl rfl rfl rfl
theorem dX10_wornOut_109 : decode cX10_wornOut 109 = .ok (.goto (-101), 3) := fq_167 fk_cX10_wornOut_6 13 rfl rfl rfl rfl rfl
theorem dX10_wornOut_70 : decode cX10_wornOut 70 = .ok (.iload 4, 2) := fq_21 fk_cX10_wornOut_4 6 rfl rfl rfl
theorem dX10_wornOut_72 : decode cX10_wornOut 72 = .ok (.iload_n 2, 1) := fq_28 fk_cX10_wornOut_4 8 rfl rfl
theorem dX10_wornOut_73 : decode cX10_wornOut 73 = .ok (.if_icmp .ge 7, 3) := fq_162 fk_cX10_wornOut_4 9 rfl rfl rfl rfl rfl
theorem dX10_wornOut_76 : decode cX10_wornOut 76 = .ok (.iconst 1, 1) := fq_4 fk_cX10_wornOut_4 12 rfl rfl
theorem dX10_wornOut_77 : decode cX10_wornOut 77 = .ok (.goto 4, 3) := fq_167 fk_cX10_wornOut_4 13 rfl rfl rfl rfl rfl
theorem dX10_wornOut_88 : decode cX10_wornOut 88 = .ok (.iload_n 3, 1) := fq_29 fk_cX10_wornOut_5 8 rfl rfl
theorem dX10_wornOut_89 : decode cX10_wornOut 89 = .ok (.goto 4, 3) := fq_167 fk_cX10_wornOut_5 9 rfl rfl rfl rfl rfl
theorem dX10_wornOut_99 : decode cX10_wornOut 99 = .ok (.iload 4, 2) := fq_21 fk_cX10_wornOut_6 3 rfl rfl rfl
theorem dX10_wornOut_101 : decode cX10_wornOut 101 = .ok (.goto 4, 3) := fq_167 fk_cX10_wornOut_6 5 rfl rfl rfl rfl rfl
theorem dX10_wornOut_22 : decode cX10_wornOut 22 = .ok (.iload 5, 2) := fq_21 fk_cX10_wornOut_1 6 rfl rfl rfl
theorem dX10_wornOut_24 : decode cX10_wornOut 24 = .ok (.aload_n 0, 1) := fq_42 fk_cX10_wornOut_1 8 rfl rfl
theorem dX10_wornOut_25 : decode cX10_wornOut 25 = .ok (.getfield 17, 3) := fq_180 fk_cX10_wornOut_1 9 rfl rfl rfl rfl rfl
theorem dX10_wornOut_28 : decode cX10_wornOut 28 = .ok (.if_icmp .ge 34, 3) := fq_162 fk_cX10_wornOut_1 12 rfl rfl rfl rfl rfl
theorem dX10_wornOut_31 : decode cX10_wornOut 31 = .ok (.aload_n 0, 1) := fq_42 fk_cX10_wornOut_1 15 rfl rfl
theorem fk_cX10_wornOut_2 : fq_ck cX10_wornOut 32 [29, 21, 5, 182, 1, 29, 54, 6, 21, 6, 21, 4, 164, 0, 8, 21, 6, 167] := fq_of fW_cX10_wornOut 2 rfl rfl
theorem dX10_wornOut_32 : decode cX10_wornOut 32 = .ok (.iload_n 3, 1) := fq_29 fk_cX10_wornOut_2 0 rfl rfl
theorem dX10_wornOut_33 : decode cX10_wornOut 33 = .ok (.iload 5, 2) := fq_21 fk_cX10_wornOut_2 1 rfl rfl rfl
theorem dX10_wornOut_35 : decode cX10_wornOut 35 = .ok (.invokevirtual 285, 3) := fq_182 fk_cX10_wornOut_2 3 rfl rfl rfl rfl rfl
theorem dX10_wornOut_38 : decode cX10_wornOut 38 = .ok (.istore 6, 2) := fq_54 fk_cX10_wornOut_2 6 rfl rfl rfl
theorem dX10_wornOut_40 : decode cX10_wornOut 40 = .ok (.iload 6, 2) := fq_21 fk_cX10_wornOut_2 8 rfl rfl rfl
theorem dX10_wornOut_42 : decode cX10_wornOut 42 = .ok (.iload 4, 2) := fq_21 fk_cX10_wornOut_2 10 rfl rfl rfl
theorem dX10_wornOut_44 : decode cX10_wornOut 44 = .ok (.if_icmp .le 8, 3) := fq_164 fk_cX10_wornOut_2 12 rfl rfl rfl rfl rfl
theorem dX10_wornOut_52 : decode cX10_wornOut 52 = .ok (.iload 4, 2) := fq_21 fk_cX10_wornOut_3 4 rfl rfl rfl
theorem dX10_wornOut_54 : decode cX10_wornOut 54 = .ok (.istore 4, 2) := fq_54 fk_cX10_wornOut_3 6 rfl rfl rfl
theorem dX10_wornOut_56 : decode cX10_wornOut 56 = .ok (.iinc 5 1, 3) := fq_132 fk_cX10_wornOut_3 8 rfl rfl rfl rfl rfl
theorem dX10_wornOut_59 : decode cX10_wornOut 59 = .ok (.goto (-37), 3) := fq_167 fk_cX10_wornOut_3 11 rfl rfl rfl rfl rfl
theorem dX10_wornOut_47 : decode cX10_wornOut 47 = .ok (.iload 6, 2) := fq_21 fk_cX10_wornOut_2 15 rfl rfl rfl
theorem dX10_wornOut_49 : decode cX10_wornOut 49 = .ok (.goto 5, 3) := fq_167 fk_cX10_wornOut_3 1 rfl rfl rfl rfl rfl
def fw_cX10_hire : List (List Nat) := [[42, 27, 182, 0, 196, 154, 0, 6, 18, 199, 172, 28, 133, 9, 10, 184, 0, 84], [0, 84, 154, 0, 6, 18, 93, 172, 2, 62, 19, 1, 14, 54, 4, 19, 1, 14], [1, 14, 54, 5, 3, 54, 6, 21, 6, 42, 180, 0, 78, 162, 0, 90, 42, 21], [42, 21, 6, 27, 182, 1, 11, 2, 160, 0, 9, 19, 1, 14, 167, 0, 7, 42], [7, 42, 180, 1, 8, 54, 7, 21, 7, 21, 4, 162, 0, 8, 21, 4, 167, 0], [167, 0, 17, 21, 7, 21, 5, 162, 0, 8, 21, 7, 167, 0, 5, 21, 5, 54], [5, 54, 5, 21, 7, 21, 4, 162, 0, 8, 21, 6, 167, 0, 4, 29, 62, 21], [62, 21, 7, 21, 4, 162, 0, 8, 21, 7, 167, 0, 5, 21, 4, 54, 4, 132], [4, 132, 6, 1, 167, 255, 163, 29, 2, 159, 0, 7, 28, 154, 0, 7, 29, 167], [29, 167, 0, 18, 21, 5, 19, 1, 14, 160, 0, 8, 21, 4, 167, 0, 5, 21], [5, 21, 5, 172]]
theorem fW_cX10_hire : fq_wins 11 cX10_hire.data.toList = fw_cX10_hire := by decide +kernel
theorem fk_cX10_hire_0 : fq_ck cX10_hire 0 [42, 27, 182, 0, 196, 154, 0, 6, 18, 199, 172, 28, 133, 9, 10, 184, 0, 84] := fq_of fW_cX10_hire 0 rfl rfl
theorem dX10_hire_0 : decode cX10_hire 0 = .ok (.aload_n 0, 1) := fq_42 fk_cX10_hire_0 0 rfl rfl
theorem dX10_hire_1 : decode cX10_hire 1 = .ok (.iload_n 1, 1) := fq_27 fk_cX10_hire_0 1 rfl rfl
theorem dX10_hire_2 : decode cX10_hire 2 = .ok (.invokevirtual 196, 3) := fq_182 fk_cX10_hire_0 2 rfl rfl rfl rfl rfl
theorem dX10_hire_5 : decode cX10_hire 5 = .ok (.ifCond .ne 6, 3) := fq_154 fk_cX10_hire_0 5 rfl rfl rfl rfl rfl
theorem dX10_hire_11 : decode cX10_hire 11 = .ok (.iload_n 2, 1) := fq_28 fk_cX10_hire_0 11 rfl rfl
theorem dX10_hire_12 : decode cX10_hire 12 = .ok (.i2l, 1) := fq_133 fk_cX10_hire_0 12 rfl rfl
theorem dX10_hire_13 : decode cX10_hire 13 = .ok (.lconst 0, 1) := fq_9 fk_cX10_hire_0 13 rfl rfl
theorem dX10_hire_14 : decode cX10_hire 14 = .ok (.lconst 1, 1) := fq_10 fk_cX10_hire_0 14 rfl rfl
theorem dX10_hire_15 : decode cX10_hire 15 = .ok (.invokestatic 84, 3) := fq_184 fk_cX10_hire_0 15 rfl rfl rfl rfl rfl
theorem fk_cX10_hire_1 : fq_ck cX10_hire 16 [0, 84, 154, 0, 6, 18, 93, 172, 2, 62, 19, 1, 14, 54, 4, 19, 1, 14] := fq_of fW_cX10_hire 1 rfl rfl
theorem dX10_hire_18 : decode cX10_hire 18 = .ok (.ifCond .ne 6, 3) := fq_154 fk_cX10_hire_1 2 rfl rfl rfl rfl rfl
theorem dX10_hire_24 : decode cX10_hire 24 = .ok (.iconst (-1), 1) := fq_2 fk_cX10_hire_1 8 rfl rfl
theorem dX10_hire_25 : decode cX10_hire 25 = .ok (.istore_n 3, 1) := fq_62 fk_cX10_hire_1 9 rfl rfl
theorem dX10_hire_26 : decode cX10_hire 26 = .ok (.ldc_w 270, 3) := fq_19 fk_cX10_hire_1 10 rfl rfl rfl rfl rfl
theorem dX10_hire_29 : decode cX10_hire 29 = .ok (.istore 4, 2) := fq_54 fk_cX10_hire_1 13 rfl rfl rfl
theorem dX10_hire_31 : decode cX10_hire 31 = .ok (.ldc_w 270, 3) := fq_19 fk_cX10_hire_1 15 rfl rfl rfl rfl rfl
theorem fk_cX10_hire_2 : fq_ck cX10_hire 32 [1, 14, 54, 5, 3, 54, 6, 21, 6, 42, 180, 0, 78, 162, 0, 90, 42, 21] := fq_of fW_cX10_hire 2 rfl rfl
theorem dX10_hire_34 : decode cX10_hire 34 = .ok (.istore 5, 2) := fq_54 fk_cX10_hire_2 2 rfl rfl rfl
theorem dX10_hire_36 : decode cX10_hire 36 = .ok (.iconst 0, 1) := fq_3 fk_cX10_hire_2 4 rfl rfl
theorem dX10_hire_37 : decode cX10_hire 37 = .ok (.istore 6, 2) := fq_54 fk_cX10_hire_2 5 rfl rfl rfl
theorem fk_cX10_hire_8 : fq_ck cX10_hire 128 [4, 132, 6, 1, 167, 255, 163, 29, 2, 159, 0, 7, 28, 154, 0, 7, 29, 167] := fq_of fW_cX10_hire 8 rfl rfl
theorem dX10_hire_135 : decode cX10_hire 135 = .ok (.iload_n 3, 1) := fq_29 fk_cX10_hire_8 7 rfl rfl
theorem dX10_hire_136 : decode cX10_hire 136 = .ok (.iconst (-1), 1) := fq_2 fk_cX10_hire_8 8 rfl rfl
theorem dX10_hire_137 : decode cX10_hire 137 = .ok (.if_icmp .eq 7, 3) := fq_159 fk_cX10_hire_8 9 rfl rfl rfl rfl rfl
theorem fk_cX10_hire_9 : fq_ck cX10_hire 144 [29, 167, 0, 18, 21, 5, 19, 1, 14, 160, 0, 8, 21, 4, 167, 0, 5, 21] := fq_of fW_cX10_hire 9 rfl rfl
theorem dX10_hire_144 : decode cX10_hire 144 = .ok (.iload_n 3, 1) := fq_29 fk_cX10_hire_9 0 rfl rfl
theorem dX10_hire_145 : decode cX10_hire 145 = .ok (.goto 18, 3) := fq_167 fk_cX10_hire_9 1 rfl rfl rfl rfl rfl
theorem fk_cX10_hire_10 : fq_ck cX10_hire 160 [5, 21, 5, 172] := fq_of fW_cX10_hire 10 rfl rfl
theorem dX10_hire_163 : decode cX10_hire 163 = .ok (.ireturn, 1) := fq_172 fk_cX10_hire_10 3 rfl rfl
theorem dX10_hire_140 : decode cX10_hire 140 = .ok (.iload_n 2, 1) := fq_28 fk_cX10_hire_8 12 rfl rfl
theorem dX10_hire_141 : decode cX10_hire 141 = .ok (.ifCond .ne 7, 3) := fq_154 fk_cX10_hire_8 13 rfl rfl rfl rfl rfl
theorem dX10_hire_148 : decode cX10_hire 148 = .ok (.iload 5, 2) := fq_21 fk_cX10_hire_9 4 rfl rfl rfl
theorem dX10_hire_150 : decode cX10_hire 150 = .ok (.ldc_w 270, 3) := fq_19 fk_cX10_hire_9 6 rfl rfl rfl rfl rfl
theorem dX10_hire_153 : decode cX10_hire 153 = .ok (.if_icmp .ne 8, 3) := fq_160 fk_cX10_hire_9 9 rfl rfl rfl rfl rfl
theorem dX10_hire_161 : decode cX10_hire 161 = .ok (.iload 5, 2) := fq_21 fk_cX10_hire_10 1 rfl rfl rfl
theorem dX10_hire_156 : decode cX10_hire 156 = .ok (.iload 4, 2) := fq_21 fk_cX10_hire_9 12 rfl rfl rfl
theorem dX10_hire_158 : decode cX10_hire 158 = .ok (.goto 5, 3) := fq_167 fk_cX10_hire_9 14 rfl rfl rfl rfl rfl
theorem dX10_hire_39 : decode cX10_hire 39 = .ok (.iload 6, 2) := fq_21 fk_cX10_hire_2 7 rfl rfl rfl
theorem dX10_hire_41 : decode cX10_hire 41 = .ok (.aload_n 0, 1) := fq_42 fk_cX10_hire_2 9 rfl rfl
theorem dX10_hire_42 : decode cX10_hire 42 = .ok (.getfield 78, 3) := fq_180 fk_cX10_hire_2 10 rfl rfl rfl rfl rfl
theorem dX10_hire_45 : decode cX10_hire 45 = .ok (.if_icmp .ge 90, 3) := fq_162 fk_cX10_hire_2 13 rfl rfl rfl rfl rfl
theorem fk_cX10_hire_3 : fq_ck cX10_hire 48 [42, 21, 6, 27, 182, 1, 11, 2, 160, 0, 9, 19, 1, 14, 167, 0, 7, 42] := fq_of fW_cX10_hire 3 rfl rfl
theorem dX10_hire_48 : decode cX10_hire 48 = .ok (.aload_n 0, 1) := fq_42 fk_cX10_hire_3 0 rfl rfl
theorem dX10_hire_49 : decode cX10_hire 49 = .ok (.iload 6, 2) := fq_21 fk_cX10_hire_3 1 rfl rfl rfl
theorem dX10_hire_51 : decode cX10_hire 51 = .ok (.iload_n 1, 1) := fq_27 fk_cX10_hire_3 3 rfl rfl
theorem dX10_hire_52 : decode cX10_hire 52 = .ok (.invokevirtual 267, 3) := fq_182 fk_cX10_hire_3 4 rfl rfl rfl rfl rfl
theorem dX10_hire_55 : decode cX10_hire 55 = .ok (.iconst (-1), 1) := fq_2 fk_cX10_hire_3 7 rfl rfl
theorem dX10_hire_56 : decode cX10_hire 56 = .ok (.if_icmp .ne 9, 3) := fq_160 fk_cX10_hire_3 8 rfl rfl rfl rfl rfl
theorem fk_cX10_hire_4 : fq_ck cX10_hire 64 [7, 42, 180, 1, 8, 54, 7, 21, 7, 21, 4, 162, 0, 8, 21, 4, 167, 0] := fq_of fW_cX10_hire 4 rfl rfl
theorem dX10_hire_65 : decode cX10_hire 65 = .ok (.aload_n 0, 1) := fq_42 fk_cX10_hire_4 1 rfl rfl
theorem dX10_hire_66 : decode cX10_hire 66 = .ok (.getfield 264, 3) := fq_180 fk_cX10_hire_4 2 rfl rfl rfl rfl rfl
theorem dX10_hire_69 : decode cX10_hire 69 = .ok (.istore 7, 2) := fq_54 fk_cX10_hire_4 5 rfl rfl rfl
theorem dX10_hire_71 : decode cX10_hire 71 = .ok (.iload 7, 2) := fq_21 fk_cX10_hire_4 7 rfl rfl rfl
theorem dX10_hire_73 : decode cX10_hire 73 = .ok (.iload 4, 2) := fq_21 fk_cX10_hire_4 9 rfl rfl rfl
theorem dX10_hire_75 : decode cX10_hire 75 = .ok (.if_icmp .ge 8, 3) := fq_162 fk_cX10_hire_4 11 rfl rfl rfl rfl rfl
theorem fk_cX10_hire_5 : fq_ck cX10_hire 80 [167, 0, 17, 21, 7, 21, 5, 162, 0, 8, 21, 7, 167, 0, 5, 21, 5, 54] := fq_of fW_cX10_hire 5 rfl rfl
theorem dX10_hire_83 : decode cX10_hire 83 = .ok (.iload 7, 2) := fq_21 fk_cX10_hire_5 3 rfl rfl rfl
theorem dX10_hire_85 : decode cX10_hire 85 = .ok (.iload 5, 2) := fq_21 fk_cX10_hire_5 5 rfl rfl rfl
theorem dX10_hire_87 : decode cX10_hire 87 = .ok (.if_icmp .ge 8, 3) := fq_162 fk_cX10_hire_5 7 rfl rfl rfl rfl rfl
theorem dX10_hire_95 : decode cX10_hire 95 = .ok (.iload 5, 2) := fq_21 fk_cX10_hire_5 15 rfl rfl rfl
theorem fk_cX10_hire_6 : fq_ck cX10_hire 96 [5, 54, 5, 21, 7, 21, 4, 162, 0, 8, 21, 6, 167, 0, 4, 29, 62, 21] := fq_of fW_cX10_hire 6 rfl rfl
theorem dX10_hire_97 : decode cX10_hire 97 = .ok (.istore 5, 2) := fq_54 fk_cX10_hire_6 1 rfl rfl rfl
theorem dX10_hire_99 : decode cX10_hire 99 = .ok (.iload 7, 2) := fq_21 fk_cX10_hire_6 3 rfl rfl rfl
theorem dX10_hire_101 : decode cX10_hire 101 = .ok (.iload 4, 2) := fq_21 fk_cX10_hire_6 5 rfl rfl rfl
theorem dX10_hire_103 : decode cX10_hire 103 = .ok (.if_icmp .ge 8, 3) := fq_162 fk_cX10_hire_6 7 rfl rfl rfl rfl rfl
theorem dX10_hire_111 : decode cX10_hire 111 = .ok (.iload_n 3, 1) := fq_29 fk_cX10_hire_6 15 rfl rfl
theorem fk_cX10_hire_7 : fq_ck cX10_hire 112 [62, 21, 7, 21, 4, 162, 0, 8, 21, 7, 167, 0, 5, 21, 4, 54, 4, 132] := fq_of fW_cX10_hire 7 rfl rfl
theorem dX10_hire_112 : decode cX10_hire 112 = .ok (.istore_n 3, 1) := fq_62 fk_cX10_hire_7 0 rfl rfl
theorem dX10_hire_113 : decode cX10_hire 113 = .ok (.iload 7, 2) := fq_21 fk_cX10_hire_7 1 rfl rfl rfl
theorem dX10_hire_115 : decode cX10_hire 115 = .ok (.iload 4, 2) := fq_21 fk_cX10_hire_7 3 rfl rfl rfl
theorem dX10_hire_117 : decode cX10_hire 117 = .ok (.if_icmp .ge 8, 3) := fq_162 fk_cX10_hire_7 5 rfl rfl rfl rfl rfl
theorem dX10_hire_125 : decode cX10_hire 125 = .ok (.iload 4, 2) := fq_21 fk_cX10_hire_7 13 rfl rfl rfl
theorem dX10_hire_127 : decode cX10_hire 127 = .ok (.istore 4, 2) := fq_54 fk_cX10_hire_7 15 rfl rfl rfl
theorem dX10_hire_129 : decode cX10_hire 129 = .ok (.iinc 6 1, 3) := fq_132 fk_cX10_hire_8 1 rfl rfl rfl rfl rfl
theorem dX10_hire_132 : decode cX10_hire 132 = .ok (.goto (-93), 3) := fq_167 fk_cX10_hire_8 4 rfl rfl rfl rfl rfl
theorem dX10_hire_120 : decode cX10_hire 120 = .ok (.iload 7, 2) := fq_21 fk_cX10_hire_7 8 rfl rfl rfl
theorem dX10_hire_122 : decode cX10_hire 122 = .ok (.goto 5, 3) := fq_167 fk_cX10_hire_7 10 rfl rfl rfl rfl rfl
theorem dX10_hire_106 : decode cX10_hire 106 = .ok (.iload 6, 2) := fq_21 fk_cX10_hire_6 10 rfl rfl rfl
theorem dX10_hire_108 : decode cX10_hire 108 = .ok (.goto 4, 3) := fq_167 fk_cX10_hire_6 12 rfl rfl rfl rfl rfl
theorem dX10_hire_90 : decode cX10_hire 90 = .ok (.iload 7, 2) := fq_21 fk_cX10_hire_5 10 rfl rfl rfl
theorem dX10_hire_92 : decode cX10_hire 92 = .ok (.goto 5, 3) := fq_167 fk_cX10_hire_5 12 rfl rfl rfl rfl rfl
theorem dX10_hire_78 : decode cX10_hire 78 = .ok (.iload 4, 2) := fq_21 fk_cX10_hire_4 14 rfl rfl rfl
theorem dX10_hire_80 : decode cX10_hire 80 = .ok (.goto 17, 3) := fq_167 fk_cX10_hire_5 0 rfl rfl rfl rfl rfl
theorem dX10_hire_59 : decode cX10_hire 59 = .ok (.ldc_w 270, 3) := fq_19 fk_cX10_hire_3 11 rfl rfl rfl rfl rfl
theorem dX10_hire_62 : decode cX10_hire 62 = .ok (.goto 7, 3) := fq_167 fk_cX10_hire_3 14 rfl rfl rfl rfl rfl
theorem dX10_hire_21 : decode cX10_hire 21 = .ok (.ldc 93, 2) := fq_18 fk_cX10_hire_1 5 rfl rfl rfl
theorem dX10_hire_23 : decode cX10_hire 23 = .ok (.ireturn, 1) := fq_172 fk_cX10_hire_1 7 rfl rfl
theorem dX10_hire_8 : decode cX10_hire 8 = .ok (.ldc 199, 2) := fq_18 fk_cX10_hire_0 8 rfl rfl rfl
theorem dX10_hire_10 : decode cX10_hire 10 = .ok (.ireturn, 1) := fq_172 fk_cX10_hire_0 10 rfl rfl
def fw_cX10_toldHer : List (List Nat) := [[42, 27, 182, 0, 196, 154, 0, 6, 18, 199, 172, 28, 133, 10, 20, 1, 27, 184], [27, 184, 0, 84, 154, 0, 6, 18, 93, 172, 3, 54, 4, 3, 54, 5, 2, 54], [2, 54, 6, 3, 54, 7, 21, 7, 42, 180, 0, 78, 162, 0, 103, 3, 54, 8], [54, 8, 21, 8, 42, 180, 0, 17, 162, 0, 85, 42, 21, 7, 21, 8, 42, 180], [42, 180, 0, 24, 21, 7, 46, 42, 180, 0, 21, 27, 46, 182, 0, 237, 42, 180], [42, 180, 0, 226, 154, 0, 51, 42, 180, 0, 219, 154, 0, 44, 42, 180, 0, 216], [0, 216, 28, 160, 0, 36, 21, 4, 29, 160, 0, 14, 16, 10, 21, 7, 104, 21], [104, 21, 8, 96, 167, 0, 5, 21, 6, 54, 6, 21, 5, 4, 21, 8, 120, 128], [120, 128, 54, 5, 132, 4, 1, 132, 8, 1, 167, 255, 168, 132, 7, 1, 167, 255], [167, 255, 150, 29, 2, 160, 0, 8, 21, 4, 167, 0, 16, 29, 16, 254, 160, 0], [160, 0, 8, 21, 5, 167, 0, 5, 21, 6, 172]]
theorem fW_cX10_toldHer : fq_wins 11 cX10_toldHer.data.toList = fw_cX10_toldHer := by decide +kernel
theorem fk_cX10_toldHer_0 : fq_ck cX10_toldHer 0 [42, 27, 182, 0, 196, 154, 0, 6, 18, 199, 172, 28, 133, 10, 20, 1, 27, 184] := fq_of fW_cX10_toldHer 0 rfl rfl
theorem dX10_toldHer_0 : decode cX10_toldHer 0 = .ok (.aload_n 0, 1) := fq_42 fk_cX10_toldHer_0 0 rfl rfl
theorem dX10_toldHer_1 : decode cX10_toldHer 1 = .ok (.iload_n 1, 1) := fq_27 fk_cX10_toldHer_0 1 rfl rfl
theorem dX10_toldHer_2 : decode cX10_toldHer 2 = .ok (.invokevirtual 196, 3) := fq_182 fk_cX10_toldHer_0 2 rfl rfl rfl rfl rfl
theorem dX10_toldHer_5 : decode cX10_toldHer 5 = .ok (.ifCond .ne 6, 3) := fq_154 fk_cX10_toldHer_0 5 rfl rfl rfl rfl rfl
theorem dX10_toldHer_11 : decode cX10_toldHer 11 = .ok (.iload_n 2, 1) := fq_28 fk_cX10_toldHer_0 11 rfl rfl
theorem dX10_toldHer_12 : decode cX10_toldHer 12 = .ok (.i2l, 1) := fq_133 fk_cX10_toldHer_0 12 rfl rfl
theorem dX10_toldHer_13 : decode cX10_toldHer 13 = .ok (.lconst 1, 1) := fq_10 fk_cX10_toldHer_0 13 rfl rfl
theorem wd_667 : Cond.constantLong RX10 283 (60) ∈ BG := BG_at5 178 (by decide +kernel) rfl
theorem dX10_toldHer_14 : decode cX10_toldHer 14 = .ok (.ldc2_w 283, 3) := fq_20 fk_cX10_toldHer_0 14 rfl rfl rfl rfl rfl
theorem fk_cX10_toldHer_1 : fq_ck cX10_toldHer 16 [27, 184, 0, 84, 154, 0, 6, 18, 93, 172, 3, 54, 4, 3, 54, 5, 2, 54] := fq_of fW_cX10_toldHer 1 rfl rfl
theorem dX10_toldHer_17 : decode cX10_toldHer 17 = .ok (.invokestatic 84, 3) := fq_184 fk_cX10_toldHer_1 1 rfl rfl rfl rfl rfl
theorem dX10_toldHer_20 : decode cX10_toldHer 20 = .ok (.ifCond .ne 6, 3) := fq_154 fk_cX10_toldHer_1 4 rfl rfl rfl rfl rfl
theorem dX10_toldHer_26 : decode cX10_toldHer 26 = .ok (.iconst 0, 1) := fq_3 fk_cX10_toldHer_1 10 rfl rfl
theorem dX10_toldHer_27 : decode cX10_toldHer 27 = .ok (.istore 4, 2) := fq_54 fk_cX10_toldHer_1 11 rfl rfl rfl
theorem dX10_toldHer_29 : decode cX10_toldHer 29 = .ok (.iconst 0, 1) := fq_3 fk_cX10_toldHer_1 13 rfl rfl
theorem dX10_toldHer_30 : decode cX10_toldHer 30 = .ok (.istore 5, 2) := fq_54 fk_cX10_toldHer_1 14 rfl rfl rfl
theorem fk_cX10_toldHer_2 : fq_ck cX10_toldHer 32 [2, 54, 6, 3, 54, 7, 21, 7, 42, 180, 0, 78, 162, 0, 103, 3, 54, 8] := fq_of fW_cX10_toldHer 2 rfl rfl
theorem dX10_toldHer_32 : decode cX10_toldHer 32 = .ok (.iconst (-1), 1) := fq_2 fk_cX10_toldHer_2 0 rfl rfl
theorem dX10_toldHer_33 : decode cX10_toldHer 33 = .ok (.istore 6, 2) := fq_54 fk_cX10_toldHer_2 1 rfl rfl rfl
theorem dX10_toldHer_35 : decode cX10_toldHer 35 = .ok (.iconst 0, 1) := fq_3 fk_cX10_toldHer_2 3 rfl rfl
theorem dX10_toldHer_36 : decode cX10_toldHer 36 = .ok (.istore 7, 2) := fq_54 fk_cX10_toldHer_2 4 rfl rfl rfl
theorem fk_cX10_toldHer_9 : fq_ck cX10_toldHer 144 [167, 255, 150, 29, 2, 160, 0, 8, 21, 4, 167, 0, 16, 29, 16, 254, 160, 0] := fq_of fW_cX10_toldHer 9 rfl rfl
theorem dX10_toldHer_147 : decode cX10_toldHer 147 = .ok (.iload_n 3, 1) := fq_29 fk_cX10_toldHer_9 3 rfl rfl
theorem dX10_toldHer_148 : decode cX10_toldHer 148 = .ok (.iconst (-1), 1) := fq_2 fk_cX10_toldHer_9 4 rfl rfl
theorem dX10_toldHer_149 : decode cX10_toldHer 149 = .ok (.if_icmp .ne 8, 3) := fq_160 fk_cX10_toldHer_9 5 rfl rfl rfl rfl rfl
theorem dX10_toldHer_157 : decode cX10_toldHer 157 = .ok (.iload_n 3, 1) := fq_29 fk_cX10_toldHer_9 13 rfl rfl
theorem dX10_toldHer_158 : decode cX10_toldHer 158 = .ok (.bipush (-2), 2) := fq_16 fk_cX10_toldHer_9 14 rfl rfl rfl rfl
theorem fk_cX10_toldHer_10 : fq_ck cX10_toldHer 160 [160, 0, 8, 21, 5, 167, 0, 5, 21, 6, 172] := fq_of fW_cX10_toldHer 10 rfl rfl
theorem dX10_toldHer_160 : decode cX10_toldHer 160 = .ok (.if_icmp .ne 8, 3) := fq_160 fk_cX10_toldHer_10 0 rfl rfl rfl rfl rfl
theorem dX10_toldHer_168 : decode cX10_toldHer 168 = .ok (.iload 6, 2) := fq_21 fk_cX10_toldHer_10 8 rfl rfl rfl
theorem dX10_toldHer_170 : decode cX10_toldHer 170 = .ok (.ireturn, 1) := fq_172 fk_cX10_toldHer_10 10 rfl rfl
theorem dX10_toldHer_163 : decode cX10_toldHer 163 = .ok (.iload 5, 2) := fq_21 fk_cX10_toldHer_10 3 rfl rfl rfl
theorem dX10_toldHer_165 : decode cX10_toldHer 165 = .ok (.goto 5, 3) := fq_167 fk_cX10_toldHer_10 5 rfl rfl rfl rfl rfl
theorem dX10_toldHer_152 : decode cX10_toldHer 152 = .ok (.iload 4, 2) := fq_21 fk_cX10_toldHer_9 8 rfl rfl rfl
theorem dX10_toldHer_154 : decode cX10_toldHer 154 = .ok (.goto 16, 3) := fq_167 fk_cX10_toldHer_9 10 rfl rfl rfl rfl rfl
theorem dX10_toldHer_38 : decode cX10_toldHer 38 = .ok (.iload 7, 2) := fq_21 fk_cX10_toldHer_2 6 rfl rfl rfl
theorem dX10_toldHer_40 : decode cX10_toldHer 40 = .ok (.aload_n 0, 1) := fq_42 fk_cX10_toldHer_2 8 rfl rfl
theorem dX10_toldHer_41 : decode cX10_toldHer 41 = .ok (.getfield 78, 3) := fq_180 fk_cX10_toldHer_2 9 rfl rfl rfl rfl rfl
theorem dX10_toldHer_44 : decode cX10_toldHer 44 = .ok (.if_icmp .ge 103, 3) := fq_162 fk_cX10_toldHer_2 12 rfl rfl rfl rfl rfl
theorem dX10_toldHer_47 : decode cX10_toldHer 47 = .ok (.iconst 0, 1) := fq_3 fk_cX10_toldHer_2 15 rfl rfl
theorem fk_cX10_toldHer_3 : fq_ck cX10_toldHer 48 [54, 8, 21, 8, 42, 180, 0, 17, 162, 0, 85, 42, 21, 7, 21, 8, 42, 180] := fq_of fW_cX10_toldHer 3 rfl rfl
theorem dX10_toldHer_48 : decode cX10_toldHer 48 = .ok (.istore 8, 2) := fq_54 fk_cX10_toldHer_3 0 rfl rfl rfl
theorem fk_cX10_toldHer_8 : fq_ck cX10_toldHer 128 [120, 128, 54, 5, 132, 4, 1, 132, 8, 1, 167, 255, 168, 132, 7, 1, 167, 255] := fq_of fW_cX10_toldHer 8 rfl rfl
theorem dX10_toldHer_141 : decode cX10_toldHer 141 = .ok (.iinc 7 1, 3) := fq_132 fk_cX10_toldHer_8 13 rfl rfl rfl rfl rfl
theorem dX10_toldHer_144 : decode cX10_toldHer 144 = .ok (.goto (-106), 3) := fq_167 fk_cX10_toldHer_9 0 rfl rfl rfl rfl rfl
theorem dX10_toldHer_50 : decode cX10_toldHer 50 = .ok (.iload 8, 2) := fq_21 fk_cX10_toldHer_3 2 rfl rfl rfl
theorem dX10_toldHer_52 : decode cX10_toldHer 52 = .ok (.aload_n 0, 1) := fq_42 fk_cX10_toldHer_3 4 rfl rfl
theorem dX10_toldHer_53 : decode cX10_toldHer 53 = .ok (.getfield 17, 3) := fq_180 fk_cX10_toldHer_3 5 rfl rfl rfl rfl rfl
theorem dX10_toldHer_56 : decode cX10_toldHer 56 = .ok (.if_icmp .ge 85, 3) := fq_162 fk_cX10_toldHer_3 8 rfl rfl rfl rfl rfl
theorem dX10_toldHer_59 : decode cX10_toldHer 59 = .ok (.aload_n 0, 1) := fq_42 fk_cX10_toldHer_3 11 rfl rfl
theorem dX10_toldHer_60 : decode cX10_toldHer 60 = .ok (.iload 7, 2) := fq_21 fk_cX10_toldHer_3 12 rfl rfl rfl
theorem dX10_toldHer_62 : decode cX10_toldHer 62 = .ok (.iload 8, 2) := fq_21 fk_cX10_toldHer_3 14 rfl rfl rfl
theorem fk_cX10_toldHer_4 : fq_ck cX10_toldHer 64 [42, 180, 0, 24, 21, 7, 46, 42, 180, 0, 21, 27, 46, 182, 0, 237, 42, 180] := fq_of fW_cX10_toldHer 4 rfl rfl
theorem dX10_toldHer_64 : decode cX10_toldHer 64 = .ok (.aload_n 0, 1) := fq_42 fk_cX10_toldHer_4 0 rfl rfl
theorem dX10_toldHer_65 : decode cX10_toldHer 65 = .ok (.getfield 24, 3) := fq_180 fk_cX10_toldHer_4 1 rfl rfl rfl rfl rfl
theorem dX10_toldHer_68 : decode cX10_toldHer 68 = .ok (.iload 7, 2) := fq_21 fk_cX10_toldHer_4 4 rfl rfl rfl
theorem dX10_toldHer_70 : decode cX10_toldHer 70 = .ok (.iaload, 1) := fq_46 fk_cX10_toldHer_4 6 rfl rfl
theorem dX10_toldHer_71 : decode cX10_toldHer 71 = .ok (.aload_n 0, 1) := fq_42 fk_cX10_toldHer_4 7 rfl rfl
theorem dX10_toldHer_72 : decode cX10_toldHer 72 = .ok (.getfield 21, 3) := fq_180 fk_cX10_toldHer_4 8 rfl rfl rfl rfl rfl
theorem dX10_toldHer_75 : decode cX10_toldHer 75 = .ok (.iload_n 1, 1) := fq_27 fk_cX10_toldHer_4 11 rfl rfl
theorem dX10_toldHer_76 : decode cX10_toldHer 76 = .ok (.iaload, 1) := fq_46 fk_cX10_toldHer_4 12 rfl rfl
theorem dX10_toldHer_77 : decode cX10_toldHer 77 = .ok (.invokevirtual 237, 3) := fq_182 fk_cX10_toldHer_4 13 rfl rfl rfl rfl rfl
theorem fk_cX10_toldHer_5 : fq_ck cX10_toldHer 80 [42, 180, 0, 226, 154, 0, 51, 42, 180, 0, 219, 154, 0, 44, 42, 180, 0, 216] := fq_of fW_cX10_toldHer 5 rfl rfl
theorem dX10_toldHer_80 : decode cX10_toldHer 80 = .ok (.aload_n 0, 1) := fq_42 fk_cX10_toldHer_5 0 rfl rfl
theorem dX10_toldHer_81 : decode cX10_toldHer 81 = .ok (.getfield 226, 3) := fq_180 fk_cX10_toldHer_5 1 rfl rfl rfl rfl rfl
theorem dX10_toldHer_84 : decode cX10_toldHer 84 = .ok (.ifCond .ne 51, 3) := fq_154 fk_cX10_toldHer_5 4 rfl rfl rfl rfl rfl
theorem dX10_toldHer_135 : decode cX10_toldHer 135 = .ok (.iinc 8 1, 3) := fq_132 fk_cX10_toldHer_8 7 rfl rfl rfl rfl rfl
theorem dX10_toldHer_138 : decode cX10_toldHer 138 = .ok (.goto (-88), 3) := fq_167 fk_cX10_toldHer_8 10 rfl rfl rfl rfl rfl
theorem dX10_toldHer_87 : decode cX10_toldHer 87 = .ok (.aload_n 0, 1) := fq_42 fk_cX10_toldHer_5 7 rfl rfl
theorem dX10_toldHer_88 : decode cX10_toldHer 88 = .ok (.getfield 219, 3) := fq_180 fk_cX10_toldHer_5 8 rfl rfl rfl rfl rfl
theorem dX10_toldHer_91 : decode cX10_toldHer 91 = .ok (.ifCond .ne 44, 3) := fq_154 fk_cX10_toldHer_5 11 rfl rfl rfl rfl rfl
theorem dX10_toldHer_94 : decode cX10_toldHer 94 = .ok (.aload_n 0, 1) := fq_42 fk_cX10_toldHer_5 14 rfl rfl
theorem dX10_toldHer_95 : decode cX10_toldHer 95 = .ok (.getfield 216, 3) := fq_180 fk_cX10_toldHer_5 15 rfl rfl rfl rfl rfl
theorem fk_cX10_toldHer_6 : fq_ck cX10_toldHer 96 [0, 216, 28, 160, 0, 36, 21, 4, 29, 160, 0, 14, 16, 10, 21, 7, 104, 21] := fq_of fW_cX10_toldHer 6 rfl rfl
theorem dX10_toldHer_98 : decode cX10_toldHer 98 = .ok (.iload_n 2, 1) := fq_28 fk_cX10_toldHer_6 2 rfl rfl
theorem dX10_toldHer_99 : decode cX10_toldHer 99 = .ok (.if_icmp .ne 36, 3) := fq_160 fk_cX10_toldHer_6 3 rfl rfl rfl rfl rfl
theorem dX10_toldHer_102 : decode cX10_toldHer 102 = .ok (.iload 4, 2) := fq_21 fk_cX10_toldHer_6 6 rfl rfl rfl
theorem dX10_toldHer_104 : decode cX10_toldHer 104 = .ok (.iload_n 3, 1) := fq_29 fk_cX10_toldHer_6 8 rfl rfl
theorem dX10_toldHer_105 : decode cX10_toldHer 105 = .ok (.if_icmp .ne 14, 3) := fq_160 fk_cX10_toldHer_6 9 rfl rfl rfl rfl rfl
theorem fk_cX10_toldHer_7 : fq_ck cX10_toldHer 112 [104, 21, 8, 96, 167, 0, 5, 21, 6, 54, 6, 21, 5, 4, 21, 8, 120, 128] := fq_of fW_cX10_toldHer 7 rfl rfl
theorem dX10_toldHer_119 : decode cX10_toldHer 119 = .ok (.iload 6, 2) := fq_21 fk_cX10_toldHer_7 7 rfl rfl rfl
theorem dX10_toldHer_121 : decode cX10_toldHer 121 = .ok (.istore 6, 2) := fq_54 fk_cX10_toldHer_7 9 rfl rfl rfl
theorem dX10_toldHer_123 : decode cX10_toldHer 123 = .ok (.iload 5, 2) := fq_21 fk_cX10_toldHer_7 11 rfl rfl rfl
theorem dX10_toldHer_125 : decode cX10_toldHer 125 = .ok (.iconst 1, 1) := fq_4 fk_cX10_toldHer_7 13 rfl rfl
theorem dX10_toldHer_126 : decode cX10_toldHer 126 = .ok (.iload 8, 2) := fq_21 fk_cX10_toldHer_7 14 rfl rfl rfl
theorem dX10_toldHer_128 : decode cX10_toldHer 128 = .ok (.ishl, 1) := fq_120 fk_cX10_toldHer_8 0 rfl rfl
theorem dX10_toldHer_129 : decode cX10_toldHer 129 = .ok (.ior, 1) := fq_128 fk_cX10_toldHer_8 1 rfl rfl
theorem dX10_toldHer_130 : decode cX10_toldHer 130 = .ok (.istore 5, 2) := fq_54 fk_cX10_toldHer_8 2 rfl rfl rfl
theorem dX10_toldHer_132 : decode cX10_toldHer 132 = .ok (.iinc 4 1, 3) := fq_132 fk_cX10_toldHer_8 4 rfl rfl rfl rfl rfl
theorem dX10_toldHer_108 : decode cX10_toldHer 108 = .ok (.bipush 10, 2) := fq_16 fk_cX10_toldHer_6 12 rfl rfl rfl rfl
theorem dX10_toldHer_110 : decode cX10_toldHer 110 = .ok (.iload 7, 2) := fq_21 fk_cX10_toldHer_6 14 rfl rfl rfl
theorem dX10_toldHer_112 : decode cX10_toldHer 112 = .ok (.imul, 1) := fq_104 fk_cX10_toldHer_7 0 rfl rfl
theorem dX10_toldHer_113 : decode cX10_toldHer 113 = .ok (.iload 8, 2) := fq_21 fk_cX10_toldHer_7 1 rfl rfl rfl
theorem dX10_toldHer_115 : decode cX10_toldHer 115 = .ok (.iadd, 1) := fq_96 fk_cX10_toldHer_7 3 rfl rfl
theorem dX10_toldHer_116 : decode cX10_toldHer 116 = .ok (.goto 5, 3) := fq_167 fk_cX10_toldHer_7 4 rfl rfl rfl rfl rfl
theorem dX10_toldHer_23 : decode cX10_toldHer 23 = .ok (.ldc 93, 2) := fq_18 fk_cX10_toldHer_1 7 rfl rfl rfl
theorem dX10_toldHer_25 : decode cX10_toldHer 25 = .ok (.ireturn, 1) := fq_172 fk_cX10_toldHer_1 9 rfl rfl
theorem dX10_toldHer_8 : decode cX10_toldHer 8 = .ok (.ldc 199, 2) := fq_18 fk_cX10_toldHer_0 8 rfl rfl rfl
theorem dX10_toldHer_10 : decode cX10_toldHer 10 = .ok (.ireturn, 1) := fq_172 fk_cX10_toldHer_0 10 rfl rfl
noncomputable def f_m_wornOut_22 (f0 : Nat → Int32) (f10 : Nat → Int32) (w_1l3 : Int32) (n : Nat) : Int32 → Int32 → (Nat → Int32) → Int32 × Int32 × (Nat → Int32) := Nat.rec (motive := fun _ => Int32 → Int32 → (Nat → Int32) → Int32 × Int32 × (Nat → Int32)) (fun w_3l5 w_3l4 w_3m0 => (w_3l5, w_3l4, w_3m0)) (fun n ih w_3l5 w_3l4 w_3m0 => (if (w_3m0 4) ≤ w_3l5 then (w_3l5, w_3l4, w_3m0) else (match (f_m_lastsOf w_3m0 f0 f10 w_1l3 w_3l5) with | (r_18, u_17) => (if r_18 ≤ w_3l4 then (ih (w_3l5 + 1) w_3l4 u_17) else (ih (w_3l5 + 1) r_18 u_17))))) n
theorem f_m_wornOut_22_s (f0 : Nat → Int32) (f10 : Nat → Int32) (w_1l3 : Int32) (n : Nat) (w_3l5 : Int32) (w_3l4 : Int32) (w_3m0 : (Nat → Int32)) : f_m_wornOut_22 f0 f10 w_1l3 (n + 1) w_3l5 w_3l4 w_3m0 = (if (w_3m0 4) ≤ w_3l5 then (w_3l5, w_3l4, w_3m0) else (match (f_m_lastsOf w_3m0 f0 f10 w_1l3 w_3l5) with | (r_18, u_17) => (if r_18 ≤ w_3l4 then (f_m_wornOut_22 f0 f10 w_1l3 n (w_3l5 + 1) w_3l4 u_17) else (f_m_wornOut_22 f0 f10 w_1l3 n (w_3l5 + 1) r_18 u_17)))) := rfl
def S_m_wornOut_22 (f0 : Nat → Int32) (f10 : Nat → Int32) (w_1l3 : Int32) (K : Int32 → Int32 → (Nat → Int32) → Prop) (n : Nat) : Int32 → Int32 → (Nat → Int32) → Prop := Nat.rec (motive := fun _ => Int32 → Int32 → (Nat → Int32) → Prop) (fun _ _ _ => False) (fun n ih w_3l5 w_3l4 w_3m0 => (((w_3m0 4) ≤ w_3l5 → (K w_3l5 w_3l4 w_3m0)) ∧ (¬ (w_3m0 4) ≤ w_3l5 → ((S_m_lastsOf w_3m0 f0 f10 w_1l3 w_3l5) ∧ (∀ (r_18 : Int32) (u_17 : (Nat → Int32)), (r_18, u_17) = (f_m_lastsOf w_3m0 f0 f10 w_1l3 w_3l5) → ((r_18 ≤ w_3l4 → (ih (w_3l5 + 1) w_3l4 u_17)) ∧ (¬ r_18 ≤ w_3l4 → (ih (w_3l5 + 1) r_18 u_17)))))))) n
theorem S_m_wornOut_22_s (f0 : Nat → Int32) (f10 : Nat → Int32) (w_1l3 : Int32) (K : Int32 → Int32 → (Nat → Int32) → Prop) (n : Nat) (w_3l5 : Int32) (w_3l4 : Int32) (w_3m0 : (Nat → Int32)) : S_m_wornOut_22 f0 f10 w_1l3 K (n + 1) w_3l5 w_3l4 w_3m0 = ((((w_3m0 4) ≤ w_3l5 → (K w_3l5 w_3l4 w_3m0)) ∧ (¬ (w_3m0 4) ≤ w_3l5 → ((S_m_lastsOf w_3m0 f0 f10 w_1l3 w_3l5) ∧ (∀ (r_18 : Int32) (u_17 : (Nat → Int32)), (r_18, u_17) = (f_m_lastsOf w_3m0 f0 f10 w_1l3 w_3l5) → ((r_18 ≤ w_3l4 → (S_m_wornOut_22 f0 f10 w_1l3 K n (w_3l5 + 1) w_3l4 u_17)) ∧ (¬ r_18 ≤ w_3l4 → (S_m_wornOut_22 f0 f10 w_1l3 K n (w_3l5 + 1) r_18 u_17)))))))) := rfl
noncomputable def f_m_wornOut_8 (f0 : Nat → Int32) (f10 : Nat → Int32) (n : Nat) : Int32 → Int32 → Int32 → (Nat → Int32) → Int32 × Int32 × Int32 × (Nat → Int32) := Nat.rec (motive := fun _ => Int32 → Int32 → Int32 → (Nat → Int32) → Int32 × Int32 × Int32 × (Nat → Int32)) (fun w_1l3 w_1l2 w_1l1 w_1m0 => (w_1l3, w_1l2, w_1l1, w_1m0)) (fun n ih w_1l3 w_1l2 w_1l1 w_1m0 => (if (w_1m0 5) ≤ w_1l3 then (w_1l3, w_1l2, w_1l1, w_1m0) else (match ((f_m_wornOut_22 f0 f10 w_1l3 10 0 0 w_1m0) : Int32 × Int32 × (Nat → Int32)) with | (w_3l5, w_3l4, w_3m0) => (if (f_m_isDone f0 w_1l3) = 0 then (if w_1l2 ≤ w_3l4 then (ih (w_1l3 + 1) w_1l2 w_1l1 w_3m0) else (ih (w_1l3 + 1) w_3l4 w_1l3 w_3m0)) else (ih (w_1l3 + 1) w_1l2 w_1l1 w_3m0))))) n
theorem f_m_wornOut_8_s (f0 : Nat → Int32) (f10 : Nat → Int32) (n : Nat) (w_1l3 : Int32) (w_1l2 : Int32) (w_1l1 : Int32) (w_1m0 : (Nat → Int32)) : f_m_wornOut_8 f0 f10 (n + 1) w_1l3 w_1l2 w_1l1 w_1m0 = (if (w_1m0 5) ≤ w_1l3 then (w_1l3, w_1l2, w_1l1, w_1m0) else (match ((f_m_wornOut_22 f0 f10 w_1l3 10 0 0 w_1m0) : Int32 × Int32 × (Nat → Int32)) with | (w_3l5, w_3l4, w_3m0) => (if (f_m_isDone f0 w_1l3) = 0 then (if w_1l2 ≤ w_3l4 then (f_m_wornOut_8 f0 f10 n (w_1l3 + 1) w_1l2 w_1l1 w_3m0) else (f_m_wornOut_8 f0 f10 n (w_1l3 + 1) w_3l4 w_1l3 w_3m0)) else (f_m_wornOut_8 f0 f10 n (w_1l3 + 1) w_1l2 w_1l1 w_3m0)))) := rfl
def S_m_wornOut_8 (f0 : Nat → Int32) (f10 : Nat → Int32) (K : Int32 → Int32 → Int32 → (Nat → Int32) → Prop) (n : Nat) : Int32 → Int32 → Int32 → (Nat → Int32) → Prop := Nat.rec (motive := fun _ => Int32 → Int32 → Int32 → (Nat → Int32) → Prop) (fun _ _ _ _ => False) (fun n ih w_1l3 w_1l2 w_1l1 w_1m0 => (((w_1m0 5) ≤ w_1l3 → (K w_1l3 w_1l2 w_1l1 w_1m0)) ∧ (¬ (w_1m0 5) ≤ w_1l3 → (S_m_wornOut_22 f0 f10 w_1l3 (fun (w_3l5 : Int32) (w_3l4 : Int32) (w_3m0 : (Nat → Int32)) => ((S_m_isDone f0 w_1l3) ∧ (((f_m_isDone f0 w_1l3) = 0 → ((w_1l2 ≤ w_3l4 → (ih (w_1l3 + 1) w_1l2 w_1l1 w_3m0)) ∧ (¬ w_1l2 ≤ w_3l4 → (ih (w_1l3 + 1) w_3l4 w_1l3 w_3m0)))) ∧ (¬ (f_m_isDone f0 w_1l3) = 0 → (ih (w_1l3 + 1) w_1l2 w_1l1 w_3m0))))) 10 0 0 w_1m0)))) n
theorem S_m_wornOut_8_s (f0 : Nat → Int32) (f10 : Nat → Int32) (K : Int32 → Int32 → Int32 → (Nat → Int32) → Prop) (n : Nat) (w_1l3 : Int32) (w_1l2 : Int32) (w_1l1 : Int32) (w_1m0 : (Nat → Int32)) : S_m_wornOut_8 f0 f10 K (n + 1) w_1l3 w_1l2 w_1l1 w_1m0 = ((((w_1m0 5) ≤ w_1l3 → (K w_1l3 w_1l2 w_1l1 w_1m0)) ∧ (¬ (w_1m0 5) ≤ w_1l3 → (S_m_wornOut_22 f0 f10 w_1l3 (fun (w_3l5 : Int32) (w_3l4 : Int32) (w_3m0 : (Nat → Int32)) => ((S_m_isDone f0 w_1l3) ∧ (((f_m_isDone f0 w_1l3) = 0 → ((w_1l2 ≤ w_3l4 → (S_m_wornOut_8 f0 f10 K n (w_1l3 + 1) w_1l2 w_1l1 w_3m0)) ∧ (¬ w_1l2 ≤ w_3l4 → (S_m_wornOut_8 f0 f10 K n (w_1l3 + 1) w_3l4 w_1l3 w_3m0)))) ∧ (¬ (f_m_isDone f0 w_1l3) = 0 → (S_m_wornOut_8 f0 f10 K n (w_1l3 + 1) w_1l2 w_1l1 w_3m0))))) 10 0 0 w_1m0)))) := rfl
noncomputable def f_m_wornOut (G : Nat → Int32) (f0 : Nat → Int32) (f10 : Nat → Int32) : Int32 × (Nat → Int32) := (match ((f_m_wornOut_8 f0 f10 10 0 1000000000 (-1) G) : Int32 × Int32 × Int32 × (Nat → Int32)) with | (w_1l3, w_1l2, w_1l1, w_1m0) => (w_1l1, w_1m0))
def S_m_wornOut (G : Nat → Int32) (f0 : Nat → Int32) (f10 : Nat → Int32) : Prop := (S_m_wornOut_8 f0 f10 (fun (w_1l3 : Int32) (w_1l2 : Int32) (w_1l1 : Int32) (w_1m0 : (Nat → Int32)) => True) 10 0 1000000000 (-1) G)
def rm_m_wornOut : Room := { frames := 3, cells := 0, slots := 0, locals := 72 }
set_option maxHeartbeats 4000000 in
set_option maxRecDepth 100000 in
theorem m_wornOut {l : Launch} {D : va_G} {cI cZ : ClassId} {sz : Nat} (Rf : Nat → Nat) (h : Nat) (G : Nat → Int32) (f0 : Nat → Int32) (f10 : Nat → Int32) (hF : S_m_wornOut G f0 f10) : KI l yX10_wornOut cX10_wornOut 7 (some .int) rm_m_wornOut D cI cZ [.ref h] sz [(h, .inr (10, ML G Rf)), ((Rf 0), .inl (cI, 1302, .inl f0)), ((Rf 10), .inl (cI, 30, .inl f10))] (fun (r : Int32) (u : (Nat → Int32)) => (r, u) = f_m_wornOut G f0 f10) (fun (u : (Nat → Int32)) => [(h, .inr (10, ML u Rf)), ((Rf 0), .inl (cI, 1302, .inl f0)), ((Rf 10), .inl (cI, 30, .inl f10))]) := by
  refine KI.go rfl (Nat.le_of_ble_eq_true rfl) ?_
  intro p e s m args below meth c ls A Q hx hb hml hts hown hin hP hK hD hS hA hN hl hret
  have hl : lv_has ls 7 [(0, .ref h)] := hl
  rw [S_m_wornOut] at hF
  obtain ⟨RES, hE⟩ : ∃ xRES, f_m_wornOut G f0 f10 = xRES := ⟨_, rfl⟩
  rw [hE] at hret
  rw [f_m_wornOut] at hE
  refine lv_iconst (v := (-1)) hx hb dX10_wornOut_0 rfl ?_
  refine lv_istore_n (lv' := [(1, .int (-1)), (0, .ref h)]) hx hb dX10_wornOut_1 rfl hl (Nat.le_of_ble_eq_true rfl) rfl (fun ls hl => ?_)
  refine lv_ldcw (v := 1000000000) hx hb hown (hts _ wd_651) dX10_wornOut_2 ?_
  refine lv_istore_n (lv' := [(2, .int 1000000000), (1, .int (-1)), (0, .ref h)]) hx hb dX10_wornOut_5 rfl hl (Nat.le_of_ble_eq_true rfl) rfl (fun ls hl => ?_)
  refine lv_iconst (v := 0) hx hb dX10_wornOut_6 rfl ?_
  refine lv_istore_n (lv' := [(3, .int 0), (2, .int 1000000000), (1, .int (-1)), (0, .ref h)]) hx hb dX10_wornOut_7 rfl hl (Nat.le_of_ble_eq_true rfl) rfl (fun ls hl => ?_)
  have ex_8_w_1 : ∀ (w_1l3 : Int32) (w_1l2 : Int32) (w_1l1 : Int32) (w_1m0 : (Nat → Int32)) (H : Heap) (locs : List Loc) (ls : Array Slot), va_P D classes [(h, .inr (10, ML w_1m0 Rf)), ((Rf 0), .inl (cI, 1302, .inl f0)), ((Rf 10), .inl (cI, 30, .inl f10))] H → va_D A [(h, .inr (10, ML w_1m0 Rf)), ((Rf 0), .inl (cI, 1302, .inl f0)), ((Rf 10), .inl (cI, 30, .inl f10))] → va_S A s.heap H locs → lv_has ls 7 [(3, .int w_1l3), (2, .int w_1l2), (1, .int w_1l1), (0, .ref h)] → (True) → (((w_1l1, w_1m0)) : Int32 × (Nat → Int32)) = RES → W p l e rm_m_wornOut s m args below meth c H locs 0 0 Q (F0 m 112 ls []) := by
    intro w_1l3 w_1l2 w_1l1 w_1m0 H locs ls hP hD hS hl hF hE
    refine lv_iload_n hx hb dX10_wornOut_112 rfl (lv_at hl 2 rfl) ?_
    exact hret w_1l1 w_1m0 _ _ _ _ dX10_wornOut_113 rfl hE hP hD hS
  have lp_8_w_1 : ∀ (n_w_1 : Nat) (w_1l3 : Int32) (w_1l2 : Int32) (w_1l1 : Int32) (w_1m0 : (Nat → Int32)) (H : Heap) (locs : List Loc) (ls : Array Slot), va_P D classes [(h, .inr (10, ML w_1m0 Rf)), ((Rf 0), .inl (cI, 1302, .inl f0)), ((Rf 10), .inl (cI, 30, .inl f10))] H → va_D A [(h, .inr (10, ML w_1m0 Rf)), ((Rf 0), .inl (cI, 1302, .inl f0)), ((Rf 10), .inl (cI, 30, .inl f10))] → va_S A s.heap H locs → lv_has ls 7 [(3, .int w_1l3), (2, .int w_1l2), (1, .int w_1l1), (0, .ref h)] → (S_m_wornOut_8 f0 f10 (fun (w_1l3 : Int32) (w_1l2 : Int32) (w_1l1 : Int32) (w_1m0 : (Nat → Int32)) => True) n_w_1 w_1l3 w_1l2 w_1l1 w_1m0) → ((match ((f_m_wornOut_8 f0 f10 n_w_1 w_1l3 w_1l2 w_1l1 w_1m0) : Int32 × Int32 × Int32 × (Nat → Int32)) with | (w_1l3, w_1l2, w_1l1, w_1m0) => (w_1l1, w_1m0)) : Int32 × (Nat → Int32)) = RES → W p l e rm_m_wornOut s m args below meth c H locs 0 0 Q (F0 m 8 ls []) := by
    intro n_w_1
    induction n_w_1 with
    | zero => intro w_1l3 w_1l2 w_1l1 w_1m0 H locs ls hP hD hS hl hF hE; exact False.elim hF
    | succ n_w_1 ih_w_1 =>
      intro w_1l3 w_1l2 w_1l1 w_1m0 H locs ls hP hD hS hl hF hE
      rw [S_m_wornOut_8_s] at hF
      rw [f_m_wornOut_8_s] at hE
      refine lv_iload_n hx hb dX10_wornOut_8 rfl (lv_at hl 0 rfl) ?_
      refine lv_aload_n hx hb dX10_wornOut_9 rfl (lv_at hl 3 rfl) ?_
      refine va_get (D := D) (ci := 10) (v := .int (w_1m0 5)) (C := RX10) (T := TX10) (N := 45) hx hb hts iX10 hown hK hP 0 rfl rfl 5 (Nat.le_of_ble_eq_true rfl) (hts _ wd_499) (fun _ h9 => h9) rfl dX10_wornOut_10 ?_
      refine lv_icmp_ge (tgt := 112) hx hb dX10_wornOut_13 rfl (fun c_2 => ?_) (fun c_2 => ?_)
      · replace hF := hF.1 c_2
        rw [if_pos c_2] at hE
        exact ex_8_w_1 w_1l3 w_1l2 w_1l1 w_1m0 _ _ ls hP hD hS (lv_sub hl [0, 1, 2, 3] rfl) hF hE
      · replace hF := hF.2 c_2
        rw [if_neg c_2] at hE
        refine lv_iconst (v := 0) hx hb dX10_wornOut_16 rfl ?_
        refine lv_istore (lv' := [(4, .int 0), (3, .int w_1l3), (2, .int w_1l2), (1, .int w_1l1), (0, .ref h)]) hx hb dX10_wornOut_17 hl (Nat.le_of_ble_eq_true rfl) rfl (fun ls hl => ?_)
        refine lv_iconst (v := 0) hx hb dX10_wornOut_19 rfl ?_
        refine lv_istore (lv' := [(5, .int 0), (4, .int 0), (3, .int w_1l3), (2, .int w_1l2), (1, .int w_1l1), (0, .ref h)]) hx hb dX10_wornOut_20 hl (Nat.le_of_ble_eq_true rfl) rfl (fun ls hl => ?_)
        have ex_22_w_3 : ∀ (w_3l5 : Int32) (w_3l4 : Int32) (w_3m0 : (Nat → Int32)) (H : Heap) (locs : List Loc) (ls : Array Slot), va_P D classes [(h, .inr (10, ML w_3m0 Rf)), ((Rf 0), .inl (cI, 1302, .inl f0)), ((Rf 10), .inl (cI, 30, .inl f10))] H → va_D A [(h, .inr (10, ML w_3m0 Rf)), ((Rf 0), .inl (cI, 1302, .inl f0)), ((Rf 10), .inl (cI, 30, .inl f10))] → va_S A s.heap H locs → lv_has ls 7 [(5, .int w_3l5), (4, .int w_3l4), (3, .int w_1l3), (2, .int w_1l2), (1, .int w_1l1), (0, .ref h)] → (((S_m_isDone f0 w_1l3) ∧ (((f_m_isDone f0 w_1l3) = 0 → ((w_1l2 ≤ w_3l4 → (S_m_wornOut_8 f0 f10 (fun (w_1l3 : Int32) (w_1l2 : Int32) (w_1l1 : Int32) (w_1m0 : (Nat → Int32)) => True) n_w_1 (w_1l3 + 1) w_1l2 w_1l1 w_3m0)) ∧ (¬ w_1l2 ≤ w_3l4 → (S_m_wornOut_8 f0 f10 (fun (w_1l3 : Int32) (w_1l2 : Int32) (w_1l1 : Int32) (w_1m0 : (Nat → Int32)) => True) n_w_1 (w_1l3 + 1) w_3l4 w_1l3 w_3m0)))) ∧ (¬ (f_m_isDone f0 w_1l3) = 0 → (S_m_wornOut_8 f0 f10 (fun (w_1l3 : Int32) (w_1l2 : Int32) (w_1l1 : Int32) (w_1m0 : (Nat → Int32)) => True) n_w_1 (w_1l3 + 1) w_1l2 w_1l1 w_3m0))))) → (((match ((if (f_m_isDone f0 w_1l3) = 0 then (if w_1l2 ≤ w_3l4 then (f_m_wornOut_8 f0 f10 n_w_1 (w_1l3 + 1) w_1l2 w_1l1 w_3m0) else (f_m_wornOut_8 f0 f10 n_w_1 (w_1l3 + 1) w_3l4 w_1l3 w_3m0)) else (f_m_wornOut_8 f0 f10 n_w_1 (w_1l3 + 1) w_1l2 w_1l1 w_3m0)) : Int32 × Int32 × Int32 × (Nat → Int32)) with | (w_1l3, w_1l2, w_1l1, w_1m0) => (w_1l1, w_1m0))) : Int32 × (Nat → Int32)) = RES → W p l e rm_m_wornOut s m args below meth c H locs 0 0 Q (F0 m 62 ls []) := by
          intro w_3l5 w_3l4 w_3m0 H locs ls hP hD hS hl hF hE
          refine lv_aload_n hx hb dX10_wornOut_62 rfl (lv_at hl 5 rfl) ?_
          refine lv_iload_n hx hb dX10_wornOut_63 rfl (lv_at hl 2 rfl) ?_
          obtain ⟨hs_4, hF⟩ := hF
          refine cVi (wr := [((Rf 10), .inl (cI, 30, .inl f10))]) (rest := []) (m_isDone Rf h w_3m0 f0 w_1l3 hs_4) okV_X10_isDone wd_567 hx hb hml hown hts hK hP hD hS hA hN hl.1 [0, 1] [2] rfl rfl rfl rfl (of_decide_eq_true rfl) rfl rfl rfl (Nat.le_of_ble_eq_true rfl) (Nat.le_of_ble_eq_true rfl) (Nat.le_of_ble_eq_true rfl) (Nat.le_of_ble_eq_true rfl) (Nat.le_of_ble_eq_true rfl) dX10_wornOut_64 (fun r_6 u_5 H locs hw_u_5 hP hD hS => ?_)
          replace hw_u_5 : r_6 = (f_m_isDone f0 w_1l3) := hw_u_5
          rw [hw_u_5]
          clear hw_u_5
          have hP : va_P D classes [((Rf 10), .inl (cI, 30, .inl f10)), (h, .inr (10, ML w_3m0 Rf)), ((Rf 0), .inl (cI, 1302, .inl f0))] H := hP
          have hD : va_D A [((Rf 10), .inl (cI, 30, .inl f10)), (h, .inr (10, ML w_3m0 Rf)), ((Rf 0), .inl (cI, 1302, .inl f0))] := hD
          refine lv_if_ne (tgt := 80) hx hb dX10_wornOut_67 rfl (fun c_7 => ?_) (fun c_7 => ?_)
          · replace hF := hF.2 c_7
            rw [if_neg c_7] at hE
            refine lv_iconst (v := 0) hx hb dX10_wornOut_80 rfl ?_
            refine lv_istore (lv' := [(5, .int 0), (4, .int w_3l4), (3, .int w_1l3), (2, .int w_1l2), (1, .int w_1l1), (0, .ref h)]) hx hb dX10_wornOut_81 hl (Nat.le_of_ble_eq_true rfl) rfl (fun ls hl => ?_)
            refine lv_iload hx hb dX10_wornOut_83 (lv_at hl 0 rfl) ?_
            refine lv_if_eq (tgt := 92) hx hb dX10_wornOut_85 rfl (fun c_8 => ?_) (fun c_8 => absurd (by decide +kernel) c_8)
            refine lv_iload_n hx hb dX10_wornOut_92 rfl (lv_at hl 4 rfl) ?_
            refine lv_istore_n (lv' := [(1, .int w_1l1), (5, .int 0), (4, .int w_3l4), (3, .int w_1l3), (2, .int w_1l2), (0, .ref h)]) hx hb dX10_wornOut_93 rfl hl (Nat.le_of_ble_eq_true rfl) rfl (fun ls hl => ?_)
            refine lv_iload hx hb dX10_wornOut_94 (lv_at hl 1 rfl) ?_
            refine lv_if_eq (tgt := 104) hx hb dX10_wornOut_96 rfl (fun c_9 => ?_) (fun c_9 => absurd (by decide +kernel) c_9)
            refine lv_iload_n hx hb dX10_wornOut_104 rfl (lv_at hl 4 rfl) ?_
            refine lv_istore_n (lv' := [(2, .int w_1l2), (1, .int w_1l1), (5, .int 0), (4, .int w_3l4), (3, .int w_1l3), (0, .ref h)]) hx hb dX10_wornOut_105 rfl hl (Nat.le_of_ble_eq_true rfl) rfl (fun ls hl => ?_)
            refine lv_iinc (v := (w_1l3 + 1)) (lv' := [(3, .int (w_1l3 + 1)), (2, .int w_1l2), (1, .int w_1l1), (5, .int 0), (4, .int w_3l4), (0, .ref h)]) hx hb dX10_wornOut_106 hl (k := 4) rfl rfl (Nat.le_of_ble_eq_true rfl) rfl (fun ls hl => ?_)
            refine lv_goto (tgt := 8) hx hb dX10_wornOut_109 rfl ?_
            exact ih_w_1 (w_1l3 + 1) w_1l2 w_1l1 w_3m0 _ _ ls (cutP (isC := [1, 2, 0]) hP rfl) (cutD (isC := [1, 2, 0]) hD rfl rfl) hS (lv_sub hl [0, 1, 2, 5] rfl) hF hE
          · replace hF := hF.1 c_7
            rw [if_pos c_7] at hE
            refine lv_iload hx hb dX10_wornOut_70 (lv_at hl 1 rfl) ?_
            refine lv_iload_n hx hb dX10_wornOut_72 rfl (lv_at hl 3 rfl) ?_
            refine lv_icmp_ge (tgt := 80) hx hb dX10_wornOut_73 rfl (fun c_10 => ?_) (fun c_10 => ?_)
            · replace hF := hF.1 c_10
              rw [if_pos c_10] at hE
              refine lv_iconst (v := 0) hx hb dX10_wornOut_80 rfl ?_
              refine lv_istore (lv' := [(5, .int 0), (4, .int w_3l4), (3, .int w_1l3), (2, .int w_1l2), (1, .int w_1l1), (0, .ref h)]) hx hb dX10_wornOut_81 hl (Nat.le_of_ble_eq_true rfl) rfl (fun ls hl => ?_)
              refine lv_iload hx hb dX10_wornOut_83 (lv_at hl 0 rfl) ?_
              refine lv_if_eq (tgt := 92) hx hb dX10_wornOut_85 rfl (fun c_11 => ?_) (fun c_11 => absurd (by decide +kernel) c_11)
              refine lv_iload_n hx hb dX10_wornOut_92 rfl (lv_at hl 4 rfl) ?_
              refine lv_istore_n (lv' := [(1, .int w_1l1), (5, .int 0), (4, .int w_3l4), (3, .int w_1l3), (2, .int w_1l2), (0, .ref h)]) hx hb dX10_wornOut_93 rfl hl (Nat.le_of_ble_eq_true rfl) rfl (fun ls hl => ?_)
              refine lv_iload hx hb dX10_wornOut_94 (lv_at hl 1 rfl) ?_
              refine lv_if_eq (tgt := 104) hx hb dX10_wornOut_96 rfl (fun c_12 => ?_) (fun c_12 => absurd (by decide +kernel) c_12)
              refine lv_iload_n hx hb dX10_wornOut_104 rfl (lv_at hl 4 rfl) ?_
              refine lv_istore_n (lv' := [(2, .int w_1l2), (1, .int w_1l1), (5, .int 0), (4, .int w_3l4), (3, .int w_1l3), (0, .ref h)]) hx hb dX10_wornOut_105 rfl hl (Nat.le_of_ble_eq_true rfl) rfl (fun ls hl => ?_)
              refine lv_iinc (v := (w_1l3 + 1)) (lv' := [(3, .int (w_1l3 + 1)), (2, .int w_1l2), (1, .int w_1l1), (5, .int 0), (4, .int w_3l4), (0, .ref h)]) hx hb dX10_wornOut_106 hl (k := 4) rfl rfl (Nat.le_of_ble_eq_true rfl) rfl (fun ls hl => ?_)
              refine lv_goto (tgt := 8) hx hb dX10_wornOut_109 rfl ?_
              exact ih_w_1 (w_1l3 + 1) w_1l2 w_1l1 w_3m0 _ _ ls (cutP (isC := [1, 2, 0]) hP rfl) (cutD (isC := [1, 2, 0]) hD rfl rfl) hS (lv_sub hl [0, 1, 2, 5] rfl) hF hE
            · replace hF := hF.2 c_10
              rw [if_neg c_10] at hE
              refine lv_iconst (v := 1) hx hb dX10_wornOut_76 rfl ?_
              refine lv_goto (tgt := 81) hx hb dX10_wornOut_77 rfl ?_
              refine lv_istore (lv' := [(5, .int 1), (4, .int w_3l4), (3, .int w_1l3), (2, .int w_1l2), (1, .int w_1l1), (0, .ref h)]) hx hb dX10_wornOut_81 hl (Nat.le_of_ble_eq_true rfl) rfl (fun ls hl => ?_)
              refine lv_iload hx hb dX10_wornOut_83 (lv_at hl 0 rfl) ?_
              refine lv_if_eq (tgt := 92) hx hb dX10_wornOut_85 rfl (fun c_13 => absurd c_13 (by decide +kernel)) (fun c_13 => ?_)
              refine lv_iload_n hx hb dX10_wornOut_88 rfl (lv_at hl 2 rfl) ?_
              refine lv_goto (tgt := 93) hx hb dX10_wornOut_89 rfl ?_
              refine lv_istore_n (lv' := [(1, .int w_1l3), (5, .int 1), (4, .int w_3l4), (3, .int w_1l3), (2, .int w_1l2), (0, .ref h)]) hx hb dX10_wornOut_93 rfl hl (Nat.le_of_ble_eq_true rfl) rfl (fun ls hl => ?_)
              refine lv_iload hx hb dX10_wornOut_94 (lv_at hl 1 rfl) ?_
              refine lv_if_eq (tgt := 104) hx hb dX10_wornOut_96 rfl (fun c_14 => absurd c_14 (by decide +kernel)) (fun c_14 => ?_)
              refine lv_iload hx hb dX10_wornOut_99 (lv_at hl 2 rfl) ?_
              refine lv_goto (tgt := 105) hx hb dX10_wornOut_101 rfl ?_
              refine lv_istore_n (lv' := [(2, .int w_3l4), (1, .int w_1l3), (5, .int 1), (4, .int w_3l4), (3, .int w_1l3), (0, .ref h)]) hx hb dX10_wornOut_105 rfl hl (Nat.le_of_ble_eq_true rfl) rfl (fun ls hl => ?_)
              refine lv_iinc (v := (w_1l3 + 1)) (lv' := [(3, .int (w_1l3 + 1)), (2, .int w_3l4), (1, .int w_1l3), (5, .int 1), (4, .int w_3l4), (0, .ref h)]) hx hb dX10_wornOut_106 hl (k := 4) rfl rfl (Nat.le_of_ble_eq_true rfl) rfl (fun ls hl => ?_)
              refine lv_goto (tgt := 8) hx hb dX10_wornOut_109 rfl ?_
              exact ih_w_1 (w_1l3 + 1) w_3l4 w_1l3 w_3m0 _ _ ls (cutP (isC := [1, 2, 0]) hP rfl) (cutD (isC := [1, 2, 0]) hD rfl rfl) hS (lv_sub hl [0, 1, 2, 5] rfl) hF hE
        have lp_22_w_3 : ∀ (n_w_3 : Nat) (w_3l5 : Int32) (w_3l4 : Int32) (w_3m0 : (Nat → Int32)) (H : Heap) (locs : List Loc) (ls : Array Slot), va_P D classes [(h, .inr (10, ML w_3m0 Rf)), ((Rf 0), .inl (cI, 1302, .inl f0)), ((Rf 10), .inl (cI, 30, .inl f10))] H → va_D A [(h, .inr (10, ML w_3m0 Rf)), ((Rf 0), .inl (cI, 1302, .inl f0)), ((Rf 10), .inl (cI, 30, .inl f10))] → va_S A s.heap H locs → lv_has ls 7 [(5, .int w_3l5), (4, .int w_3l4), (3, .int w_1l3), (2, .int w_1l2), (1, .int w_1l1), (0, .ref h)] → (S_m_wornOut_22 f0 f10 w_1l3 (fun (w_3l5 : Int32) (w_3l4 : Int32) (w_3m0 : (Nat → Int32)) => ((S_m_isDone f0 w_1l3) ∧ (((f_m_isDone f0 w_1l3) = 0 → ((w_1l2 ≤ w_3l4 → (S_m_wornOut_8 f0 f10 (fun (w_1l3 : Int32) (w_1l2 : Int32) (w_1l1 : Int32) (w_1m0 : (Nat → Int32)) => True) n_w_1 (w_1l3 + 1) w_1l2 w_1l1 w_3m0)) ∧ (¬ w_1l2 ≤ w_3l4 → (S_m_wornOut_8 f0 f10 (fun (w_1l3 : Int32) (w_1l2 : Int32) (w_1l1 : Int32) (w_1m0 : (Nat → Int32)) => True) n_w_1 (w_1l3 + 1) w_3l4 w_1l3 w_3m0)))) ∧ (¬ (f_m_isDone f0 w_1l3) = 0 → (S_m_wornOut_8 f0 f10 (fun (w_1l3 : Int32) (w_1l2 : Int32) (w_1l1 : Int32) (w_1m0 : (Nat → Int32)) => True) n_w_1 (w_1l3 + 1) w_1l2 w_1l1 w_3m0))))) n_w_3 w_3l5 w_3l4 w_3m0) → ((match ((match ((f_m_wornOut_22 f0 f10 w_1l3 n_w_3 w_3l5 w_3l4 w_3m0) : Int32 × Int32 × (Nat → Int32)) with | (w_3l5, w_3l4, w_3m0) => (if (f_m_isDone f0 w_1l3) = 0 then (if w_1l2 ≤ w_3l4 then (f_m_wornOut_8 f0 f10 n_w_1 (w_1l3 + 1) w_1l2 w_1l1 w_3m0) else (f_m_wornOut_8 f0 f10 n_w_1 (w_1l3 + 1) w_3l4 w_1l3 w_3m0)) else (f_m_wornOut_8 f0 f10 n_w_1 (w_1l3 + 1) w_1l2 w_1l1 w_3m0))) : Int32 × Int32 × Int32 × (Nat → Int32)) with | (w_1l3, w_1l2, w_1l1, w_1m0) => (w_1l1, w_1m0)) : Int32 × (Nat → Int32)) = RES → W p l e rm_m_wornOut s m args below meth c H locs 0 0 Q (F0 m 22 ls []) := by
          intro n_w_3
          induction n_w_3 with
          | zero => intro w_3l5 w_3l4 w_3m0 H locs ls hP hD hS hl hF hE; exact False.elim hF
          | succ n_w_3 ih_w_3 =>
            intro w_3l5 w_3l4 w_3m0 H locs ls hP hD hS hl hF hE
            rw [S_m_wornOut_22_s] at hF
            rw [f_m_wornOut_22_s] at hE
            refine lv_iload hx hb dX10_wornOut_22 (lv_at hl 0 rfl) ?_
            refine lv_aload_n hx hb dX10_wornOut_24 rfl (lv_at hl 5 rfl) ?_
            refine va_get (D := D) (ci := 10) (v := .int (w_3m0 4)) (C := RX10) (T := TX10) (N := 45) hx hb hts iX10 hown hK hP 0 rfl rfl 4 (Nat.le_of_ble_eq_true rfl) (hts _ wd_500) (fun _ h9 => h9) rfl dX10_wornOut_25 ?_
            refine lv_icmp_ge (tgt := 62) hx hb dX10_wornOut_28 rfl (fun c_15 => ?_) (fun c_15 => ?_)
            · replace hF := hF.1 c_15
              rw [if_pos c_15] at hE
              exact ex_22_w_3 w_3l5 w_3l4 w_3m0 _ _ ls hP hD hS (lv_sub hl [0, 1, 2, 3, 4, 5] rfl) hF hE
            · replace hF := hF.2 c_15
              rw [if_neg c_15] at hE
              refine lv_aload_n hx hb dX10_wornOut_31 rfl (lv_at hl 5 rfl) ?_
              refine lv_iload_n hx hb dX10_wornOut_32 rfl (lv_at hl 2 rfl) ?_
              refine lv_iload hx hb dX10_wornOut_33 (lv_at hl 0 rfl) ?_
              obtain ⟨hs_16, hF⟩ := hF
              refine cVi (wr := []) (rest := []) (m_lastsOf Rf h w_3m0 f0 f10 w_1l3 w_3l5 hs_16) okV_X10_lastsOf wd_652 hx hb hml hown hts hK hP hD hS hA hN hl.1 [0, 1, 2] [] rfl rfl rfl rfl (of_decide_eq_true rfl) rfl rfl rfl (Nat.le_of_ble_eq_true rfl) (Nat.le_of_ble_eq_true rfl) (Nat.le_of_ble_eq_true rfl) (Nat.le_of_ble_eq_true rfl) (Nat.le_of_ble_eq_true rfl) dX10_wornOut_35 (fun r_18 u_17 H locs hw_u_17 hP hD hS => ?_)
              replace hw_u_17 : (r_18, u_17) = (f_m_lastsOf w_3m0 f0 f10 w_1l3 w_3l5) := hw_u_17
              replace hF := hF r_18 u_17 hw_u_17
              rw [← hw_u_17] at hE
              replace hE : ((match ((match ((if r_18 ≤ w_3l4 then (f_m_wornOut_22 f0 f10 w_1l3 n_w_3 (w_3l5 + 1) w_3l4 u_17) else (f_m_wornOut_22 f0 f10 w_1l3 n_w_3 (w_3l5 + 1) r_18 u_17)) : Int32 × Int32 × (Nat → Int32)) with | (w_3l5, w_3l4, w_3m0) => (if (f_m_isDone f0 w_1l3) = 0 then (if w_1l2 ≤ w_3l4 then (f_m_wornOut_8 f0 f10 n_w_1 (w_1l3 + 1) w_1l2 w_1l1 w_3m0) else (f_m_wornOut_8 f0 f10 n_w_1 (w_1l3 + 1) w_3l4 w_1l3 w_3m0)) else (f_m_wornOut_8 f0 f10 n_w_1 (w_1l3 + 1) w_1l2 w_1l1 w_3m0))) : Int32 × Int32 × Int32 × (Nat → Int32)) with | (w_1l3, w_1l2, w_1l1, w_1m0) => (w_1l1, w_1m0)) : Int32 × (Nat → Int32)) = RES := hE
              have hP : va_P D classes [(h, .inr (10, ML u_17 Rf)), ((Rf 0), .inl (cI, 1302, .inl f0)), ((Rf 10), .inl (cI, 30, .inl f10))] H := hP
              have hD : va_D A [(h, .inr (10, ML u_17 Rf)), ((Rf 0), .inl (cI, 1302, .inl f0)), ((Rf 10), .inl (cI, 30, .inl f10))] := hD
              refine lv_istore (lv' := [(6, .int r_18), (5, .int w_3l5), (4, .int w_3l4), (3, .int w_1l3), (2, .int w_1l2), (1, .int w_1l1), (0, .ref h)]) hx hb dX10_wornOut_38 hl (Nat.le_of_ble_eq_true rfl) rfl (fun ls hl => ?_)
              refine lv_iload hx hb dX10_wornOut_40 (lv_at hl 0 rfl) ?_
              refine lv_iload hx hb dX10_wornOut_42 (lv_at hl 2 rfl) ?_
              refine lv_icmp_le (tgt := 52) hx hb dX10_wornOut_44 rfl (fun c_19 => ?_) (fun c_19 => ?_)
              · replace hF := hF.1 c_19
                rw [if_pos c_19] at hE
                refine lv_iload hx hb dX10_wornOut_52 (lv_at hl 2 rfl) ?_
                refine lv_istore (lv' := [(4, .int w_3l4), (6, .int r_18), (5, .int w_3l5), (3, .int w_1l3), (2, .int w_1l2), (1, .int w_1l1), (0, .ref h)]) hx hb dX10_wornOut_54 hl (Nat.le_of_ble_eq_true rfl) rfl (fun ls hl => ?_)
                refine lv_iinc (v := (w_3l5 + 1)) (lv' := [(5, .int (w_3l5 + 1)), (4, .int w_3l4), (6, .int r_18), (3, .int w_1l3), (2, .int w_1l2), (1, .int w_1l1), (0, .ref h)]) hx hb dX10_wornOut_56 hl (k := 2) rfl rfl (Nat.le_of_ble_eq_true rfl) rfl (fun ls hl => ?_)
                refine lv_goto (tgt := 22) hx hb dX10_wornOut_59 rfl ?_
                exact ih_w_3 (w_3l5 + 1) w_3l4 u_17 _ _ ls hP hD hS (lv_sub hl [0, 1, 3, 4, 5, 6] rfl) hF hE
              · replace hF := hF.2 c_19
                rw [if_neg c_19] at hE
                refine lv_iload hx hb dX10_wornOut_47 (lv_at hl 0 rfl) ?_
                refine lv_goto (tgt := 54) hx hb dX10_wornOut_49 rfl ?_
                refine lv_istore (lv' := [(4, .int r_18), (6, .int r_18), (5, .int w_3l5), (3, .int w_1l3), (2, .int w_1l2), (1, .int w_1l1), (0, .ref h)]) hx hb dX10_wornOut_54 hl (Nat.le_of_ble_eq_true rfl) rfl (fun ls hl => ?_)
                refine lv_iinc (v := (w_3l5 + 1)) (lv' := [(5, .int (w_3l5 + 1)), (4, .int r_18), (6, .int r_18), (3, .int w_1l3), (2, .int w_1l2), (1, .int w_1l1), (0, .ref h)]) hx hb dX10_wornOut_56 hl (k := 2) rfl rfl (Nat.le_of_ble_eq_true rfl) rfl (fun ls hl => ?_)
                refine lv_goto (tgt := 22) hx hb dX10_wornOut_59 rfl ?_
                exact ih_w_3 (w_3l5 + 1) r_18 u_17 _ _ ls hP hD hS (lv_sub hl [0, 1, 3, 4, 5, 6] rfl) hF hE
        exact lp_22_w_3 10 0 0 w_1m0 _ _ ls hP hD hS hl hF hE
  exact lp_8_w_1 10 0 1000000000 (-1) G _ _ ls hP hD hS hl hF hE
noncomputable def f_m_hire_39 (f0 : Nat → Int32) (f10 : Nat → Int32) (f8 : Nat → Int32) (b_ : Int32) (n : Nat) : Int32 → Int32 → Int32 → Int32 → (Nat → Int32) → Int32 × Int32 × Int32 × Int32 × (Nat → Int32) := Nat.rec (motive := fun _ => Int32 → Int32 → Int32 → Int32 → (Nat → Int32) → Int32 × Int32 × Int32 × Int32 × (Nat → Int32)) (fun w_9l6 w_9l5 w_9l4 w_9l3 w_9m0 => (w_9l6, w_9l5, w_9l4, w_9l3, w_9m0)) (fun n ih w_9l6 w_9l5 w_9l4 w_9l3 w_9m0 => (if (w_9m0 5) ≤ w_9l6 then (w_9l6, w_9l5, w_9l4, w_9l3, w_9m0) else (match (f_m_best w_9m0 f0 f10 f8 w_9l6 b_) with | (r_16, u_15) => (if r_16 = (-1) then (if w_9l4 ≤ 1000000000 then (if w_9l5 ≤ 1000000000 then (if w_9l4 ≤ 1000000000 then (if w_9l4 ≤ 1000000000 then (ih (w_9l6 + 1) w_9l5 w_9l4 w_9l3 u_15) else (ih (w_9l6 + 1) w_9l5 1000000000 w_9l3 u_15)) else (if w_9l4 ≤ 1000000000 then (ih (w_9l6 + 1) w_9l5 w_9l4 w_9l6 u_15) else (ih (w_9l6 + 1) w_9l5 1000000000 w_9l6 u_15))) else (if w_9l4 ≤ 1000000000 then (if w_9l4 ≤ 1000000000 then (ih (w_9l6 + 1) 1000000000 w_9l4 w_9l3 u_15) else (ih (w_9l6 + 1) 1000000000 1000000000 w_9l3 u_15)) else (if w_9l4 ≤ 1000000000 then (ih (w_9l6 + 1) 1000000000 w_9l4 w_9l6 u_15) else (ih (w_9l6 + 1) 1000000000 1000000000 w_9l6 u_15)))) else (if w_9l4 ≤ 1000000000 then (if w_9l4 ≤ 1000000000 then (ih (w_9l6 + 1) w_9l4 w_9l4 w_9l3 u_15) else (ih (w_9l6 + 1) w_9l4 1000000000 w_9l3 u_15)) else (if w_9l4 ≤ 1000000000 then (ih (w_9l6 + 1) w_9l4 w_9l4 w_9l6 u_15) else (ih (w_9l6 + 1) w_9l4 1000000000 w_9l6 u_15)))) else (if w_9l4 ≤ (u_15 35) then (if w_9l5 ≤ (u_15 35) then (if w_9l4 ≤ (u_15 35) then (if w_9l4 ≤ (u_15 35) then (ih (w_9l6 + 1) w_9l5 w_9l4 w_9l3 u_15) else (ih (w_9l6 + 1) w_9l5 (u_15 35) w_9l3 u_15)) else (if w_9l4 ≤ (u_15 35) then (ih (w_9l6 + 1) w_9l5 w_9l4 w_9l6 u_15) else (ih (w_9l6 + 1) w_9l5 (u_15 35) w_9l6 u_15))) else (if w_9l4 ≤ (u_15 35) then (if w_9l4 ≤ (u_15 35) then (ih (w_9l6 + 1) (u_15 35) w_9l4 w_9l3 u_15) else (ih (w_9l6 + 1) (u_15 35) (u_15 35) w_9l3 u_15)) else (if w_9l4 ≤ (u_15 35) then (ih (w_9l6 + 1) (u_15 35) w_9l4 w_9l6 u_15) else (ih (w_9l6 + 1) (u_15 35) (u_15 35) w_9l6 u_15)))) else (if w_9l4 ≤ (u_15 35) then (if w_9l4 ≤ (u_15 35) then (ih (w_9l6 + 1) w_9l4 w_9l4 w_9l3 u_15) else (ih (w_9l6 + 1) w_9l4 (u_15 35) w_9l3 u_15)) else (if w_9l4 ≤ (u_15 35) then (ih (w_9l6 + 1) w_9l4 w_9l4 w_9l6 u_15) else (ih (w_9l6 + 1) w_9l4 (u_15 35) w_9l6 u_15)))))))) n
theorem f_m_hire_39_s (f0 : Nat → Int32) (f10 : Nat → Int32) (f8 : Nat → Int32) (b_ : Int32) (n : Nat) (w_9l6 : Int32) (w_9l5 : Int32) (w_9l4 : Int32) (w_9l3 : Int32) (w_9m0 : (Nat → Int32)) : f_m_hire_39 f0 f10 f8 b_ (n + 1) w_9l6 w_9l5 w_9l4 w_9l3 w_9m0 = (if (w_9m0 5) ≤ w_9l6 then (w_9l6, w_9l5, w_9l4, w_9l3, w_9m0) else (match (f_m_best w_9m0 f0 f10 f8 w_9l6 b_) with | (r_16, u_15) => (if r_16 = (-1) then (if w_9l4 ≤ 1000000000 then (if w_9l5 ≤ 1000000000 then (if w_9l4 ≤ 1000000000 then (if w_9l4 ≤ 1000000000 then (f_m_hire_39 f0 f10 f8 b_ n (w_9l6 + 1) w_9l5 w_9l4 w_9l3 u_15) else (f_m_hire_39 f0 f10 f8 b_ n (w_9l6 + 1) w_9l5 1000000000 w_9l3 u_15)) else (if w_9l4 ≤ 1000000000 then (f_m_hire_39 f0 f10 f8 b_ n (w_9l6 + 1) w_9l5 w_9l4 w_9l6 u_15) else (f_m_hire_39 f0 f10 f8 b_ n (w_9l6 + 1) w_9l5 1000000000 w_9l6 u_15))) else (if w_9l4 ≤ 1000000000 then (if w_9l4 ≤ 1000000000 then (f_m_hire_39 f0 f10 f8 b_ n (w_9l6 + 1) 1000000000 w_9l4 w_9l3 u_15) else (f_m_hire_39 f0 f10 f8 b_ n (w_9l6 + 1) 1000000000 1000000000 w_9l3 u_15)) else (if w_9l4 ≤ 1000000000 then (f_m_hire_39 f0 f10 f8 b_ n (w_9l6 + 1) 1000000000 w_9l4 w_9l6 u_15) else (f_m_hire_39 f0 f10 f8 b_ n (w_9l6 + 1) 1000000000 1000000000 w_9l6 u_15)))) else (if w_9l4 ≤ 1000000000 then (if w_9l4 ≤ 1000000000 then (f_m_hire_39 f0 f10 f8 b_ n (w_9l6 + 1) w_9l4 w_9l4 w_9l3 u_15) else (f_m_hire_39 f0 f10 f8 b_ n (w_9l6 + 1) w_9l4 1000000000 w_9l3 u_15)) else (if w_9l4 ≤ 1000000000 then (f_m_hire_39 f0 f10 f8 b_ n (w_9l6 + 1) w_9l4 w_9l4 w_9l6 u_15) else (f_m_hire_39 f0 f10 f8 b_ n (w_9l6 + 1) w_9l4 1000000000 w_9l6 u_15)))) else (if w_9l4 ≤ (u_15 35) then (if w_9l5 ≤ (u_15 35) then (if w_9l4 ≤ (u_15 35) then (if w_9l4 ≤ (u_15 35) then (f_m_hire_39 f0 f10 f8 b_ n (w_9l6 + 1) w_9l5 w_9l4 w_9l3 u_15) else (f_m_hire_39 f0 f10 f8 b_ n (w_9l6 + 1) w_9l5 (u_15 35) w_9l3 u_15)) else (if w_9l4 ≤ (u_15 35) then (f_m_hire_39 f0 f10 f8 b_ n (w_9l6 + 1) w_9l5 w_9l4 w_9l6 u_15) else (f_m_hire_39 f0 f10 f8 b_ n (w_9l6 + 1) w_9l5 (u_15 35) w_9l6 u_15))) else (if w_9l4 ≤ (u_15 35) then (if w_9l4 ≤ (u_15 35) then (f_m_hire_39 f0 f10 f8 b_ n (w_9l6 + 1) (u_15 35) w_9l4 w_9l3 u_15) else (f_m_hire_39 f0 f10 f8 b_ n (w_9l6 + 1) (u_15 35) (u_15 35) w_9l3 u_15)) else (if w_9l4 ≤ (u_15 35) then (f_m_hire_39 f0 f10 f8 b_ n (w_9l6 + 1) (u_15 35) w_9l4 w_9l6 u_15) else (f_m_hire_39 f0 f10 f8 b_ n (w_9l6 + 1) (u_15 35) (u_15 35) w_9l6 u_15)))) else (if w_9l4 ≤ (u_15 35) then (if w_9l4 ≤ (u_15 35) then (f_m_hire_39 f0 f10 f8 b_ n (w_9l6 + 1) w_9l4 w_9l4 w_9l3 u_15) else (f_m_hire_39 f0 f10 f8 b_ n (w_9l6 + 1) w_9l4 (u_15 35) w_9l3 u_15)) else (if w_9l4 ≤ (u_15 35) then (f_m_hire_39 f0 f10 f8 b_ n (w_9l6 + 1) w_9l4 w_9l4 w_9l6 u_15) else (f_m_hire_39 f0 f10 f8 b_ n (w_9l6 + 1) w_9l4 (u_15 35) w_9l6 u_15))))))) := rfl
def S_m_hire_39 (f0 : Nat → Int32) (f10 : Nat → Int32) (f8 : Nat → Int32) (b_ : Int32) (K : Int32 → Int32 → Int32 → Int32 → (Nat → Int32) → Prop) (n : Nat) : Int32 → Int32 → Int32 → Int32 → (Nat → Int32) → Prop := Nat.rec (motive := fun _ => Int32 → Int32 → Int32 → Int32 → (Nat → Int32) → Prop) (fun _ _ _ _ _ => False) (fun n ih w_9l6 w_9l5 w_9l4 w_9l3 w_9m0 => (((w_9m0 5) ≤ w_9l6 → (K w_9l6 w_9l5 w_9l4 w_9l3 w_9m0)) ∧ (¬ (w_9m0 5) ≤ w_9l6 → ((S_m_best w_9m0 f0 f10 f8 w_9l6 b_) ∧ (∀ (r_16 : Int32) (u_15 : (Nat → Int32)), (r_16, u_15) = (f_m_best w_9m0 f0 f10 f8 w_9l6 b_) → ((r_16 = (-1) → ((w_9l4 ≤ 1000000000 → ((w_9l5 ≤ 1000000000 → ((w_9l4 ≤ 1000000000 → ((w_9l4 ≤ 1000000000 → (ih (w_9l6 + 1) w_9l5 w_9l4 w_9l3 u_15)) ∧ (¬ w_9l4 ≤ 1000000000 → (ih (w_9l6 + 1) w_9l5 1000000000 w_9l3 u_15)))) ∧ (¬ w_9l4 ≤ 1000000000 → ((w_9l4 ≤ 1000000000 → (ih (w_9l6 + 1) w_9l5 w_9l4 w_9l6 u_15)) ∧ (¬ w_9l4 ≤ 1000000000 → (ih (w_9l6 + 1) w_9l5 1000000000 w_9l6 u_15)))))) ∧ (¬ w_9l5 ≤ 1000000000 → ((w_9l4 ≤ 1000000000 → ((w_9l4 ≤ 1000000000 → (ih (w_9l6 + 1) 1000000000 w_9l4 w_9l3 u_15)) ∧ (¬ w_9l4 ≤ 1000000000 → (ih (w_9l6 + 1) 1000000000 1000000000 w_9l3 u_15)))) ∧ (¬ w_9l4 ≤ 1000000000 → ((w_9l4 ≤ 1000000000 → (ih (w_9l6 + 1) 1000000000 w_9l4 w_9l6 u_15)) ∧ (¬ w_9l4 ≤ 1000000000 → (ih (w_9l6 + 1) 1000000000 1000000000 w_9l6 u_15)))))))) ∧ (¬ w_9l4 ≤ 1000000000 → ((w_9l4 ≤ 1000000000 → ((w_9l4 ≤ 1000000000 → (ih (w_9l6 + 1) w_9l4 w_9l4 w_9l3 u_15)) ∧ (¬ w_9l4 ≤ 1000000000 → (ih (w_9l6 + 1) w_9l4 1000000000 w_9l3 u_15)))) ∧ (¬ w_9l4 ≤ 1000000000 → ((w_9l4 ≤ 1000000000 → (ih (w_9l6 + 1) w_9l4 w_9l4 w_9l6 u_15)) ∧ (¬ w_9l4 ≤ 1000000000 → (ih (w_9l6 + 1) w_9l4 1000000000 w_9l6 u_15)))))))) ∧ (¬ r_16 = (-1) → ((w_9l4 ≤ (u_15 35) → ((w_9l5 ≤ (u_15 35) → ((w_9l4 ≤ (u_15 35) → ((w_9l4 ≤ (u_15 35) → (ih (w_9l6 + 1) w_9l5 w_9l4 w_9l3 u_15)) ∧ (¬ w_9l4 ≤ (u_15 35) → (ih (w_9l6 + 1) w_9l5 (u_15 35) w_9l3 u_15)))) ∧ (¬ w_9l4 ≤ (u_15 35) → ((w_9l4 ≤ (u_15 35) → (ih (w_9l6 + 1) w_9l5 w_9l4 w_9l6 u_15)) ∧ (¬ w_9l4 ≤ (u_15 35) → (ih (w_9l6 + 1) w_9l5 (u_15 35) w_9l6 u_15)))))) ∧ (¬ w_9l5 ≤ (u_15 35) → ((w_9l4 ≤ (u_15 35) → ((w_9l4 ≤ (u_15 35) → (ih (w_9l6 + 1) (u_15 35) w_9l4 w_9l3 u_15)) ∧ (¬ w_9l4 ≤ (u_15 35) → (ih (w_9l6 + 1) (u_15 35) (u_15 35) w_9l3 u_15)))) ∧ (¬ w_9l4 ≤ (u_15 35) → ((w_9l4 ≤ (u_15 35) → (ih (w_9l6 + 1) (u_15 35) w_9l4 w_9l6 u_15)) ∧ (¬ w_9l4 ≤ (u_15 35) → (ih (w_9l6 + 1) (u_15 35) (u_15 35) w_9l6 u_15)))))))) ∧ (¬ w_9l4 ≤ (u_15 35) → ((w_9l4 ≤ (u_15 35) → ((w_9l4 ≤ (u_15 35) → (ih (w_9l6 + 1) w_9l4 w_9l4 w_9l3 u_15)) ∧ (¬ w_9l4 ≤ (u_15 35) → (ih (w_9l6 + 1) w_9l4 (u_15 35) w_9l3 u_15)))) ∧ (¬ w_9l4 ≤ (u_15 35) → ((w_9l4 ≤ (u_15 35) → (ih (w_9l6 + 1) w_9l4 w_9l4 w_9l6 u_15)) ∧ (¬ w_9l4 ≤ (u_15 35) → (ih (w_9l6 + 1) w_9l4 (u_15 35) w_9l6 u_15)))))))))))))) n
theorem S_m_hire_39_s (f0 : Nat → Int32) (f10 : Nat → Int32) (f8 : Nat → Int32) (b_ : Int32) (K : Int32 → Int32 → Int32 → Int32 → (Nat → Int32) → Prop) (n : Nat) (w_9l6 : Int32) (w_9l5 : Int32) (w_9l4 : Int32) (w_9l3 : Int32) (w_9m0 : (Nat → Int32)) : S_m_hire_39 f0 f10 f8 b_ K (n + 1) w_9l6 w_9l5 w_9l4 w_9l3 w_9m0 = ((((w_9m0 5) ≤ w_9l6 → (K w_9l6 w_9l5 w_9l4 w_9l3 w_9m0)) ∧ (¬ (w_9m0 5) ≤ w_9l6 → ((S_m_best w_9m0 f0 f10 f8 w_9l6 b_) ∧ (∀ (r_16 : Int32) (u_15 : (Nat → Int32)), (r_16, u_15) = (f_m_best w_9m0 f0 f10 f8 w_9l6 b_) → ((r_16 = (-1) → ((w_9l4 ≤ 1000000000 → ((w_9l5 ≤ 1000000000 → ((w_9l4 ≤ 1000000000 → ((w_9l4 ≤ 1000000000 → (S_m_hire_39 f0 f10 f8 b_ K n (w_9l6 + 1) w_9l5 w_9l4 w_9l3 u_15)) ∧ (¬ w_9l4 ≤ 1000000000 → (S_m_hire_39 f0 f10 f8 b_ K n (w_9l6 + 1) w_9l5 1000000000 w_9l3 u_15)))) ∧ (¬ w_9l4 ≤ 1000000000 → ((w_9l4 ≤ 1000000000 → (S_m_hire_39 f0 f10 f8 b_ K n (w_9l6 + 1) w_9l5 w_9l4 w_9l6 u_15)) ∧ (¬ w_9l4 ≤ 1000000000 → (S_m_hire_39 f0 f10 f8 b_ K n (w_9l6 + 1) w_9l5 1000000000 w_9l6 u_15)))))) ∧ (¬ w_9l5 ≤ 1000000000 → ((w_9l4 ≤ 1000000000 → ((w_9l4 ≤ 1000000000 → (S_m_hire_39 f0 f10 f8 b_ K n (w_9l6 + 1) 1000000000 w_9l4 w_9l3 u_15)) ∧ (¬ w_9l4 ≤ 1000000000 → (S_m_hire_39 f0 f10 f8 b_ K n (w_9l6 + 1) 1000000000 1000000000 w_9l3 u_15)))) ∧ (¬ w_9l4 ≤ 1000000000 → ((w_9l4 ≤ 1000000000 → (S_m_hire_39 f0 f10 f8 b_ K n (w_9l6 + 1) 1000000000 w_9l4 w_9l6 u_15)) ∧ (¬ w_9l4 ≤ 1000000000 → (S_m_hire_39 f0 f10 f8 b_ K n (w_9l6 + 1) 1000000000 1000000000 w_9l6 u_15)))))))) ∧ (¬ w_9l4 ≤ 1000000000 → ((w_9l4 ≤ 1000000000 → ((w_9l4 ≤ 1000000000 → (S_m_hire_39 f0 f10 f8 b_ K n (w_9l6 + 1) w_9l4 w_9l4 w_9l3 u_15)) ∧ (¬ w_9l4 ≤ 1000000000 → (S_m_hire_39 f0 f10 f8 b_ K n (w_9l6 + 1) w_9l4 1000000000 w_9l3 u_15)))) ∧ (¬ w_9l4 ≤ 1000000000 → ((w_9l4 ≤ 1000000000 → (S_m_hire_39 f0 f10 f8 b_ K n (w_9l6 + 1) w_9l4 w_9l4 w_9l6 u_15)) ∧ (¬ w_9l4 ≤ 1000000000 → (S_m_hire_39 f0 f10 f8 b_ K n (w_9l6 + 1) w_9l4 1000000000 w_9l6 u_15)))))))) ∧ (¬ r_16 = (-1) → ((w_9l4 ≤ (u_15 35) → ((w_9l5 ≤ (u_15 35) → ((w_9l4 ≤ (u_15 35) → ((w_9l4 ≤ (u_15 35) → (S_m_hire_39 f0 f10 f8 b_ K n (w_9l6 + 1) w_9l5 w_9l4 w_9l3 u_15)) ∧ (¬ w_9l4 ≤ (u_15 35) → (S_m_hire_39 f0 f10 f8 b_ K n (w_9l6 + 1) w_9l5 (u_15 35) w_9l3 u_15)))) ∧ (¬ w_9l4 ≤ (u_15 35) → ((w_9l4 ≤ (u_15 35) → (S_m_hire_39 f0 f10 f8 b_ K n (w_9l6 + 1) w_9l5 w_9l4 w_9l6 u_15)) ∧ (¬ w_9l4 ≤ (u_15 35) → (S_m_hire_39 f0 f10 f8 b_ K n (w_9l6 + 1) w_9l5 (u_15 35) w_9l6 u_15)))))) ∧ (¬ w_9l5 ≤ (u_15 35) → ((w_9l4 ≤ (u_15 35) → ((w_9l4 ≤ (u_15 35) → (S_m_hire_39 f0 f10 f8 b_ K n (w_9l6 + 1) (u_15 35) w_9l4 w_9l3 u_15)) ∧ (¬ w_9l4 ≤ (u_15 35) → (S_m_hire_39 f0 f10 f8 b_ K n (w_9l6 + 1) (u_15 35) (u_15 35) w_9l3 u_15)))) ∧ (¬ w_9l4 ≤ (u_15 35) → ((w_9l4 ≤ (u_15 35) → (S_m_hire_39 f0 f10 f8 b_ K n (w_9l6 + 1) (u_15 35) w_9l4 w_9l6 u_15)) ∧ (¬ w_9l4 ≤ (u_15 35) → (S_m_hire_39 f0 f10 f8 b_ K n (w_9l6 + 1) (u_15 35) (u_15 35) w_9l6 u_15)))))))) ∧ (¬ w_9l4 ≤ (u_15 35) → ((w_9l4 ≤ (u_15 35) → ((w_9l4 ≤ (u_15 35) → (S_m_hire_39 f0 f10 f8 b_ K n (w_9l6 + 1) w_9l4 w_9l4 w_9l3 u_15)) ∧ (¬ w_9l4 ≤ (u_15 35) → (S_m_hire_39 f0 f10 f8 b_ K n (w_9l6 + 1) w_9l4 (u_15 35) w_9l3 u_15)))) ∧ (¬ w_9l4 ≤ (u_15 35) → ((w_9l4 ≤ (u_15 35) → (S_m_hire_39 f0 f10 f8 b_ K n (w_9l6 + 1) w_9l4 w_9l4 w_9l6 u_15)) ∧ (¬ w_9l4 ≤ (u_15 35) → (S_m_hire_39 f0 f10 f8 b_ K n (w_9l6 + 1) w_9l4 (u_15 35) w_9l6 u_15)))))))))))))) := rfl
noncomputable def f_m_hire (G : Nat → Int32) (f0 : Nat → Int32) (f10 : Nat → Int32) (f8 : Nat → Int32) (b_ : Int32) (w_ : Int32) : Int32 × (Nat → Int32) := (if (f_m_isBridge G b_) = 0 then ((-1000000001), G) else (if (f_m_in w_.toInt64 0 1) = 0 then ((-1000000002), G) else (match ((f_m_hire_39 f0 f10 f8 b_ 10 0 1000000000 1000000000 (-1) G) : Int32 × Int32 × Int32 × Int32 × (Nat → Int32)) with | (w_9l6, w_9l5, w_9l4, w_9l3, w_9m0) => (if w_9l3 = (-1) then (w_9l3, w_9m0) else (if w_ = 0 then (w_9l3, w_9m0) else (if w_9l5 = 1000000000 then (w_9l4, w_9m0) else (w_9l5, w_9m0)))))))
def S_m_hire (G : Nat → Int32) (f0 : Nat → Int32) (f10 : Nat → Int32) (f8 : Nat → Int32) (b_ : Int32) (w_ : Int32) : Prop := ((S_m_isBridge G b_) ∧ (((f_m_isBridge G b_) = 0 → True) ∧ (¬ (f_m_isBridge G b_) = 0 → ((S_m_in w_.toInt64 0 1) ∧ (((f_m_in w_.toInt64 0 1) = 0 → True) ∧ (¬ (f_m_in w_.toInt64 0 1) = 0 → (S_m_hire_39 f0 f10 f8 b_ (fun (w_9l6 : Int32) (w_9l5 : Int32) (w_9l4 : Int32) (w_9l3 : Int32) (w_9m0 : (Nat → Int32)) => ((w_9l3 = (-1) → True) ∧ (¬ w_9l3 = (-1) → ((w_ = 0 → True) ∧ (¬ w_ = 0 → ((w_9l5 = 1000000000 → True) ∧ (¬ w_9l5 = 1000000000 → True))))))) 10 0 1000000000 1000000000 (-1) G)))))))
def rm_m_hire : Room := { frames := 4, cells := 0, slots := 0, locals := 100 }
set_option maxHeartbeats 4000000 in
set_option maxRecDepth 100000 in
theorem m_hire {l : Launch} {D : va_G} {cI cZ : ClassId} {sz : Nat} (Rf : Nat → Nat) (h : Nat) (G : Nat → Int32) (f0 : Nat → Int32) (f10 : Nat → Int32) (f8 : Nat → Int32) (b_ : Int32) (w_ : Int32) (hF : S_m_hire G f0 f10 f8 b_ w_) : KI l yX10_hire cX10_hire 8 (some .int) rm_m_hire D cI cZ [.ref h, .int b_, .int w_] sz [(h, .inr (10, ML G Rf)), ((Rf 0), .inl (cI, 1302, .inl f0)), ((Rf 10), .inl (cI, 30, .inl f10)), ((Rf 8), .inl (cI, 6, .inl f8))] (fun (r : Int32) (u : (Nat → Int32)) => (r, u) = f_m_hire G f0 f10 f8 b_ w_) (fun (u : (Nat → Int32)) => [(h, .inr (10, ML u Rf)), ((Rf 0), .inl (cI, 1302, .inl f0)), ((Rf 10), .inl (cI, 30, .inl f10)), ((Rf 8), .inl (cI, 6, .inl f8))]) := by
  refine KI.go rfl (Nat.le_of_ble_eq_true rfl) ?_
  intro p e s m args below meth c ls A Q hx hb hml hts hown hin hP hK hD hS hA hN hl hret
  have hl : lv_has ls 8 [(0, .ref h), (1, .int b_), (2, .int w_)] := hl
  rw [S_m_hire] at hF
  obtain ⟨RES, hE⟩ : ∃ xRES, f_m_hire G f0 f10 f8 b_ w_ = xRES := ⟨_, rfl⟩
  rw [hE] at hret
  rw [f_m_hire] at hE
  refine lv_aload_n hx hb dX10_hire_0 rfl (lv_at hl 0 rfl) ?_
  refine lv_iload_n hx hb dX10_hire_1 rfl (lv_at hl 1 rfl) ?_
  obtain ⟨hs_1, hF⟩ := hF
  refine cVi (wr := [((Rf 0), .inl (cI, 1302, .inl f0)), ((Rf 10), .inl (cI, 30, .inl f10)), ((Rf 8), .inl (cI, 6, .inl f8))]) (rest := []) (m_isBridge Rf h G b_ hs_1) okV_X10_isBridge wd_571 hx hb hml hown hts hK hP hD hS hA hN hl.1 [0] [1, 2, 3] rfl rfl rfl rfl (of_decide_eq_true rfl) rfl rfl rfl (Nat.le_of_ble_eq_true rfl) (Nat.le_of_ble_eq_true rfl) (Nat.le_of_ble_eq_true rfl) (Nat.le_of_ble_eq_true rfl) (Nat.le_of_ble_eq_true rfl) dX10_hire_2 (fun r_3 u_2 H locs hw_u_2 hP hD hS => ?_)
  replace hw_u_2 : r_3 = (f_m_isBridge G b_) := hw_u_2
  rw [hw_u_2]
  clear hw_u_2
  have hP : va_P D classes [((Rf 0), .inl (cI, 1302, .inl f0)), ((Rf 10), .inl (cI, 30, .inl f10)), ((Rf 8), .inl (cI, 6, .inl f8)), (h, .inr (10, ML G Rf))] H := hP
  have hD : va_D A [((Rf 0), .inl (cI, 1302, .inl f0)), ((Rf 10), .inl (cI, 30, .inl f10)), ((Rf 8), .inl (cI, 6, .inl f8)), (h, .inr (10, ML G Rf))] := hD
  refine lv_if_ne (tgt := 11) hx hb dX10_hire_5 rfl (fun c_4 => ?_) (fun c_4 => ?_)
  · replace hF := hF.2 c_4
    rw [if_neg c_4] at hE
    refine lv_iload_n hx hb dX10_hire_11 rfl (lv_at hl 2 rfl) ?_
    refine lv_i2l (v := w_.toInt64) hx hb dX10_hire_12 rfl ?_
    refine lv_lconst (v := 0) hx hb dX10_hire_13 rfl ?_
    refine lv_lconst (v := 1) hx hb dX10_hire_14 rfl ?_
    obtain ⟨hs_5, hF⟩ := hF
    refine cSi (wr := [((Rf 0), .inl (cI, 1302, .inl f0)), ((Rf 10), .inl (cI, 30, .inl f10)), ((Rf 8), .inl (cI, 6, .inl f8)), (h, .inr (10, ML G Rf))]) (rest := []) (m_in w_.toInt64 0 1 hs_5) okS_X10_in wd_495 hx hb hml hown hts hK hP hD hS hA hN hl.1 [] [0, 1, 2, 3] rfl rfl rfl rfl (of_decide_eq_true rfl) rfl (Nat.le_of_ble_eq_true rfl) (Nat.le_of_ble_eq_true rfl) (Nat.le_of_ble_eq_true rfl) (Nat.le_of_ble_eq_true rfl) (Nat.le_of_ble_eq_true rfl) dX10_hire_15 (fun r_7 u_6 H locs hw_u_6 hP hD hS => ?_)
    replace hw_u_6 : r_7 = (f_m_in w_.toInt64 0 1) := hw_u_6
    rw [hw_u_6]
    clear hw_u_6
    have hP : va_P D classes [((Rf 0), .inl (cI, 1302, .inl f0)), ((Rf 10), .inl (cI, 30, .inl f10)), ((Rf 8), .inl (cI, 6, .inl f8)), (h, .inr (10, ML G Rf))] H := hP
    have hD : va_D A [((Rf 0), .inl (cI, 1302, .inl f0)), ((Rf 10), .inl (cI, 30, .inl f10)), ((Rf 8), .inl (cI, 6, .inl f8)), (h, .inr (10, ML G Rf))] := hD
    refine lv_if_ne (tgt := 24) hx hb dX10_hire_18 rfl (fun c_8 => ?_) (fun c_8 => ?_)
    · replace hF := hF.2 c_8
      rw [if_neg c_8] at hE
      refine lv_iconst (v := (-1)) hx hb dX10_hire_24 rfl ?_
      refine lv_istore_n (lv' := [(3, .int (-1)), (0, .ref h), (1, .int b_), (2, .int w_)]) hx hb dX10_hire_25 rfl hl (Nat.le_of_ble_eq_true rfl) rfl (fun ls hl => ?_)
      refine lv_ldcw (v := 1000000000) hx hb hown (hts _ wd_651) dX10_hire_26 ?_
      refine lv_istore (lv' := [(4, .int 1000000000), (3, .int (-1)), (0, .ref h), (1, .int b_), (2, .int w_)]) hx hb dX10_hire_29 hl (Nat.le_of_ble_eq_true rfl) rfl (fun ls hl => ?_)
      refine lv_ldcw (v := 1000000000) hx hb hown (hts _ wd_651) dX10_hire_31 ?_
      refine lv_istore (lv' := [(5, .int 1000000000), (4, .int 1000000000), (3, .int (-1)), (0, .ref h), (1, .int b_), (2, .int w_)]) hx hb dX10_hire_34 hl (Nat.le_of_ble_eq_true rfl) rfl (fun ls hl => ?_)
      refine lv_iconst (v := 0) hx hb dX10_hire_36 rfl ?_
      refine lv_istore (lv' := [(6, .int 0), (5, .int 1000000000), (4, .int 1000000000), (3, .int (-1)), (0, .ref h), (1, .int b_), (2, .int w_)]) hx hb dX10_hire_37 hl (Nat.le_of_ble_eq_true rfl) rfl (fun ls hl => ?_)
      have ex_39_w_9 : ∀ (w_9l6 : Int32) (w_9l5 : Int32) (w_9l4 : Int32) (w_9l3 : Int32) (w_9m0 : (Nat → Int32)) (H : Heap) (locs : List Loc) (ls : Array Slot), va_P D classes [((Rf 0), .inl (cI, 1302, .inl f0)), ((Rf 10), .inl (cI, 30, .inl f10)), ((Rf 8), .inl (cI, 6, .inl f8)), (h, .inr (10, ML w_9m0 Rf))] H → va_D A [((Rf 0), .inl (cI, 1302, .inl f0)), ((Rf 10), .inl (cI, 30, .inl f10)), ((Rf 8), .inl (cI, 6, .inl f8)), (h, .inr (10, ML w_9m0 Rf))] → va_S A s.heap H locs → lv_has ls 8 [(6, .int w_9l6), (5, .int w_9l5), (4, .int w_9l4), (3, .int w_9l3), (0, .ref h), (1, .int b_), (2, .int w_)] → (((w_9l3 = (-1) → True) ∧ (¬ w_9l3 = (-1) → ((w_ = 0 → True) ∧ (¬ w_ = 0 → ((w_9l5 = 1000000000 → True) ∧ (¬ w_9l5 = 1000000000 → True))))))) → (((if w_9l3 = (-1) then (w_9l3, w_9m0) else (if w_ = 0 then (w_9l3, w_9m0) else (if w_9l5 = 1000000000 then (w_9l4, w_9m0) else (w_9l5, w_9m0))))) : Int32 × (Nat → Int32)) = RES → W p l e rm_m_hire s m args below meth c H locs 0 0 Q (F0 m 135 ls []) := by
        intro w_9l6 w_9l5 w_9l4 w_9l3 w_9m0 H locs ls hP hD hS hl hF hE
        refine lv_iload_n hx hb dX10_hire_135 rfl (lv_at hl 3 rfl) ?_
        refine lv_iconst (v := (-1)) hx hb dX10_hire_136 rfl ?_
        refine lv_icmp_eq (tgt := 144) hx hb dX10_hire_137 rfl (fun c_10 => ?_) (fun c_10 => ?_)
        · replace hF := hF.1 c_10
          rw [if_pos c_10] at hE
          refine lv_iload_n hx hb dX10_hire_144 rfl (lv_at hl 3 rfl) ?_
          refine lv_goto (tgt := 163) hx hb dX10_hire_145 rfl ?_
          exact hret w_9l3 w_9m0 _ _ _ _ dX10_hire_163 rfl hE (cutP (isC := [3, 0, 1, 2]) hP rfl) (cutD (isC := [3, 0, 1, 2]) hD rfl rfl) hS
        · replace hF := hF.2 c_10
          rw [if_neg c_10] at hE
          refine lv_iload_n hx hb dX10_hire_140 rfl (lv_at hl 6 rfl) ?_
          refine lv_if_ne (tgt := 148) hx hb dX10_hire_141 rfl (fun c_11 => ?_) (fun c_11 => ?_)
          · replace hF := hF.2 c_11
            rw [if_neg c_11] at hE
            refine lv_iload hx hb dX10_hire_148 (lv_at hl 1 rfl) ?_
            refine lv_ldcw (v := 1000000000) hx hb hown (hts _ wd_651) dX10_hire_150 ?_
            refine lv_icmp_ne (tgt := 161) hx hb dX10_hire_153 rfl (fun c_12 => ?_) (fun c_12 => ?_)
            · replace hF := hF.2 c_12
              rw [if_neg c_12] at hE
              refine lv_iload hx hb dX10_hire_161 (lv_at hl 1 rfl) ?_
              exact hret w_9l5 w_9m0 _ _ _ _ dX10_hire_163 rfl hE (cutP (isC := [3, 0, 1, 2]) hP rfl) (cutD (isC := [3, 0, 1, 2]) hD rfl rfl) hS
            · replace hF := hF.1 c_12
              rw [if_pos c_12] at hE
              refine lv_iload hx hb dX10_hire_156 (lv_at hl 2 rfl) ?_
              refine lv_goto (tgt := 163) hx hb dX10_hire_158 rfl ?_
              exact hret w_9l4 w_9m0 _ _ _ _ dX10_hire_163 rfl hE (cutP (isC := [3, 0, 1, 2]) hP rfl) (cutD (isC := [3, 0, 1, 2]) hD rfl rfl) hS
          · replace hF := hF.1 c_11
            rw [if_pos c_11] at hE
            refine lv_iload_n hx hb dX10_hire_144 rfl (lv_at hl 3 rfl) ?_
            refine lv_goto (tgt := 163) hx hb dX10_hire_145 rfl ?_
            exact hret w_9l3 w_9m0 _ _ _ _ dX10_hire_163 rfl hE (cutP (isC := [3, 0, 1, 2]) hP rfl) (cutD (isC := [3, 0, 1, 2]) hD rfl rfl) hS
      have lp_39_w_9 : ∀ (n_w_9 : Nat) (w_9l6 : Int32) (w_9l5 : Int32) (w_9l4 : Int32) (w_9l3 : Int32) (w_9m0 : (Nat → Int32)) (H : Heap) (locs : List Loc) (ls : Array Slot), va_P D classes [((Rf 0), .inl (cI, 1302, .inl f0)), ((Rf 10), .inl (cI, 30, .inl f10)), ((Rf 8), .inl (cI, 6, .inl f8)), (h, .inr (10, ML w_9m0 Rf))] H → va_D A [((Rf 0), .inl (cI, 1302, .inl f0)), ((Rf 10), .inl (cI, 30, .inl f10)), ((Rf 8), .inl (cI, 6, .inl f8)), (h, .inr (10, ML w_9m0 Rf))] → va_S A s.heap H locs → lv_has ls 8 [(6, .int w_9l6), (5, .int w_9l5), (4, .int w_9l4), (3, .int w_9l3), (0, .ref h), (1, .int b_), (2, .int w_)] → (S_m_hire_39 f0 f10 f8 b_ (fun (w_9l6 : Int32) (w_9l5 : Int32) (w_9l4 : Int32) (w_9l3 : Int32) (w_9m0 : (Nat → Int32)) => ((w_9l3 = (-1) → True) ∧ (¬ w_9l3 = (-1) → ((w_ = 0 → True) ∧ (¬ w_ = 0 → ((w_9l5 = 1000000000 → True) ∧ (¬ w_9l5 = 1000000000 → True))))))) n_w_9 w_9l6 w_9l5 w_9l4 w_9l3 w_9m0) → ((match ((f_m_hire_39 f0 f10 f8 b_ n_w_9 w_9l6 w_9l5 w_9l4 w_9l3 w_9m0) : Int32 × Int32 × Int32 × Int32 × (Nat → Int32)) with | (w_9l6, w_9l5, w_9l4, w_9l3, w_9m0) => (if w_9l3 = (-1) then (w_9l3, w_9m0) else (if w_ = 0 then (w_9l3, w_9m0) else (if w_9l5 = 1000000000 then (w_9l4, w_9m0) else (w_9l5, w_9m0))))) : Int32 × (Nat → Int32)) = RES → W p l e rm_m_hire s m args below meth c H locs 0 0 Q (F0 m 39 ls []) := by
        intro n_w_9
        induction n_w_9 with
        | zero => intro w_9l6 w_9l5 w_9l4 w_9l3 w_9m0 H locs ls hP hD hS hl hF hE; exact False.elim hF
        | succ n_w_9 ih_w_9 =>
          intro w_9l6 w_9l5 w_9l4 w_9l3 w_9m0 H locs ls hP hD hS hl hF hE
          rw [S_m_hire_39_s] at hF
          rw [f_m_hire_39_s] at hE
          refine lv_iload hx hb dX10_hire_39 (lv_at hl 0 rfl) ?_
          refine lv_aload_n hx hb dX10_hire_41 rfl (lv_at hl 4 rfl) ?_
          refine va_get (D := D) (ci := 10) (v := .int (w_9m0 5)) (C := RX10) (T := TX10) (N := 45) hx hb hts iX10 hown hK hP 3 rfl rfl 5 (Nat.le_of_ble_eq_true rfl) (hts _ wd_499) (fun _ h9 => h9) rfl dX10_hire_42 ?_
          refine lv_icmp_ge (tgt := 135) hx hb dX10_hire_45 rfl (fun c_13 => ?_) (fun c_13 => ?_)
          · replace hF := hF.1 c_13
            rw [if_pos c_13] at hE
            exact ex_39_w_9 w_9l6 w_9l5 w_9l4 w_9l3 w_9m0 _ _ ls hP hD hS (lv_sub hl [0, 1, 2, 3, 4, 5, 6] rfl) hF hE
          · replace hF := hF.2 c_13
            rw [if_neg c_13] at hE
            refine lv_aload_n hx hb dX10_hire_48 rfl (lv_at hl 4 rfl) ?_
            refine lv_iload hx hb dX10_hire_49 (lv_at hl 0 rfl) ?_
            refine lv_iload_n hx hb dX10_hire_51 rfl (lv_at hl 5 rfl) ?_
            obtain ⟨hs_14, hF⟩ := hF
            refine cVi (wr := []) (rest := []) (m_best Rf h w_9m0 f0 f10 f8 w_9l6 b_ hs_14) okV_X10_best wd_657 hx hb hml hown hts hK hP hD hS hA hN hl.1 [3, 0, 1, 2] [] rfl rfl rfl rfl (of_decide_eq_true rfl) rfl rfl rfl (Nat.le_of_ble_eq_true rfl) (Nat.le_of_ble_eq_true rfl) (Nat.le_of_ble_eq_true rfl) (Nat.le_of_ble_eq_true rfl) (Nat.le_of_ble_eq_true rfl) dX10_hire_52 (fun r_16 u_15 H locs hw_u_15 hP hD hS => ?_)
            replace hw_u_15 : (r_16, u_15) = (f_m_best w_9m0 f0 f10 f8 w_9l6 b_) := hw_u_15
            replace hF := hF r_16 u_15 hw_u_15
            rw [← hw_u_15] at hE
            replace hE : ((match ((if r_16 = (-1) then (if w_9l4 ≤ 1000000000 then (if w_9l5 ≤ 1000000000 then (if w_9l4 ≤ 1000000000 then (if w_9l4 ≤ 1000000000 then (f_m_hire_39 f0 f10 f8 b_ n_w_9 (w_9l6 + 1) w_9l5 w_9l4 w_9l3 u_15) else (f_m_hire_39 f0 f10 f8 b_ n_w_9 (w_9l6 + 1) w_9l5 1000000000 w_9l3 u_15)) else (if w_9l4 ≤ 1000000000 then (f_m_hire_39 f0 f10 f8 b_ n_w_9 (w_9l6 + 1) w_9l5 w_9l4 w_9l6 u_15) else (f_m_hire_39 f0 f10 f8 b_ n_w_9 (w_9l6 + 1) w_9l5 1000000000 w_9l6 u_15))) else (if w_9l4 ≤ 1000000000 then (if w_9l4 ≤ 1000000000 then (f_m_hire_39 f0 f10 f8 b_ n_w_9 (w_9l6 + 1) 1000000000 w_9l4 w_9l3 u_15) else (f_m_hire_39 f0 f10 f8 b_ n_w_9 (w_9l6 + 1) 1000000000 1000000000 w_9l3 u_15)) else (if w_9l4 ≤ 1000000000 then (f_m_hire_39 f0 f10 f8 b_ n_w_9 (w_9l6 + 1) 1000000000 w_9l4 w_9l6 u_15) else (f_m_hire_39 f0 f10 f8 b_ n_w_9 (w_9l6 + 1) 1000000000 1000000000 w_9l6 u_15)))) else (if w_9l4 ≤ 1000000000 then (if w_9l4 ≤ 1000000000 then (f_m_hire_39 f0 f10 f8 b_ n_w_9 (w_9l6 + 1) w_9l4 w_9l4 w_9l3 u_15) else (f_m_hire_39 f0 f10 f8 b_ n_w_9 (w_9l6 + 1) w_9l4 1000000000 w_9l3 u_15)) else (if w_9l4 ≤ 1000000000 then (f_m_hire_39 f0 f10 f8 b_ n_w_9 (w_9l6 + 1) w_9l4 w_9l4 w_9l6 u_15) else (f_m_hire_39 f0 f10 f8 b_ n_w_9 (w_9l6 + 1) w_9l4 1000000000 w_9l6 u_15)))) else (if w_9l4 ≤ (u_15 35) then (if w_9l5 ≤ (u_15 35) then (if w_9l4 ≤ (u_15 35) then (if w_9l4 ≤ (u_15 35) then (f_m_hire_39 f0 f10 f8 b_ n_w_9 (w_9l6 + 1) w_9l5 w_9l4 w_9l3 u_15) else (f_m_hire_39 f0 f10 f8 b_ n_w_9 (w_9l6 + 1) w_9l5 (u_15 35) w_9l3 u_15)) else (if w_9l4 ≤ (u_15 35) then (f_m_hire_39 f0 f10 f8 b_ n_w_9 (w_9l6 + 1) w_9l5 w_9l4 w_9l6 u_15) else (f_m_hire_39 f0 f10 f8 b_ n_w_9 (w_9l6 + 1) w_9l5 (u_15 35) w_9l6 u_15))) else (if w_9l4 ≤ (u_15 35) then (if w_9l4 ≤ (u_15 35) then (f_m_hire_39 f0 f10 f8 b_ n_w_9 (w_9l6 + 1) (u_15 35) w_9l4 w_9l3 u_15) else (f_m_hire_39 f0 f10 f8 b_ n_w_9 (w_9l6 + 1) (u_15 35) (u_15 35) w_9l3 u_15)) else (if w_9l4 ≤ (u_15 35) then (f_m_hire_39 f0 f10 f8 b_ n_w_9 (w_9l6 + 1) (u_15 35) w_9l4 w_9l6 u_15) else (f_m_hire_39 f0 f10 f8 b_ n_w_9 (w_9l6 + 1) (u_15 35) (u_15 35) w_9l6 u_15)))) else (if w_9l4 ≤ (u_15 35) then (if w_9l4 ≤ (u_15 35) then (f_m_hire_39 f0 f10 f8 b_ n_w_9 (w_9l6 + 1) w_9l4 w_9l4 w_9l3 u_15) else (f_m_hire_39 f0 f10 f8 b_ n_w_9 (w_9l6 + 1) w_9l4 (u_15 35) w_9l3 u_15)) else (if w_9l4 ≤ (u_15 35) then (f_m_hire_39 f0 f10 f8 b_ n_w_9 (w_9l6 + 1) w_9l4 w_9l4 w_9l6 u_15) else (f_m_hire_39 f0 f10 f8 b_ n_w_9 (w_9l6 + 1) w_9l4 (u_15 35) w_9l6 u_15))))) : Int32 × Int32 × Int32 × Int32 × (Nat → Int32)) with | (w_9l6, w_9l5, w_9l4, w_9l3, w_9m0) => (if w_9l3 = (-1) then (w_9l3, w_9m0) else (if w_ = 0 then (w_9l3, w_9m0) else (if w_9l5 = 1000000000 then (w_9l4, w_9m0) else (w_9l5, w_9m0))))) : Int32 × (Nat → Int32)) = RES := hE
            have hP : va_P D classes [(h, .inr (10, ML u_15 Rf)), ((Rf 0), .inl (cI, 1302, .inl f0)), ((Rf 10), .inl (cI, 30, .inl f10)), ((Rf 8), .inl (cI, 6, .inl f8))] H := hP
            have hD : va_D A [(h, .inr (10, ML u_15 Rf)), ((Rf 0), .inl (cI, 1302, .inl f0)), ((Rf 10), .inl (cI, 30, .inl f10)), ((Rf 8), .inl (cI, 6, .inl f8))] := hD
            refine lv_iconst (v := (-1)) hx hb dX10_hire_55 rfl ?_
            refine lv_icmp_ne (tgt := 65) hx hb dX10_hire_56 rfl (fun c_17 => ?_) (fun c_17 => ?_)
            · replace hF := hF.2 c_17
              rw [if_neg c_17] at hE
              refine lv_aload_n hx hb dX10_hire_65 rfl (lv_at hl 4 rfl) ?_
              refine va_get (D := D) (ci := 10) (v := .int (u_15 35)) (C := RX10) (T := TX10) (N := 45) hx hb hts iX10 hown hK hP 0 rfl rfl 35 (Nat.le_of_ble_eq_true rfl) (hts _ wd_656) (fun _ h9 => h9) rfl dX10_hire_66 ?_
              refine lv_istore (lv' := [(7, .int (u_15 35)), (6, .int w_9l6), (5, .int w_9l5), (4, .int w_9l4), (3, .int w_9l3), (0, .ref h), (1, .int b_), (2, .int w_)]) hx hb dX10_hire_69 hl (Nat.le_of_ble_eq_true rfl) rfl (fun ls hl => ?_)
              refine lv_iload hx hb dX10_hire_71 (lv_at hl 0 rfl) ?_
              refine lv_iload hx hb dX10_hire_73 (lv_at hl 3 rfl) ?_
              refine lv_icmp_ge (tgt := 83) hx hb dX10_hire_75 rfl (fun c_18 => ?_) (fun c_18 => ?_)
              · replace hF := hF.1 c_18
                rw [if_pos c_18] at hE
                refine lv_iload hx hb dX10_hire_83 (lv_at hl 0 rfl) ?_
                refine lv_iload hx hb dX10_hire_85 (lv_at hl 2 rfl) ?_
                refine lv_icmp_ge (tgt := 95) hx hb dX10_hire_87 rfl (fun c_19 => ?_) (fun c_19 => ?_)
                · replace hF := hF.1 c_19
                  rw [if_pos c_19] at hE
                  refine lv_iload hx hb dX10_hire_95 (lv_at hl 2 rfl) ?_
                  refine lv_istore (lv' := [(5, .int w_9l5), (7, .int (u_15 35)), (6, .int w_9l6), (4, .int w_9l4), (3, .int w_9l3), (0, .ref h), (1, .int b_), (2, .int w_)]) hx hb dX10_hire_97 hl (Nat.le_of_ble_eq_true rfl) rfl (fun ls hl => ?_)
                  refine lv_iload hx hb dX10_hire_99 (lv_at hl 1 rfl) ?_
                  refine lv_iload hx hb dX10_hire_101 (lv_at hl 3 rfl) ?_
                  refine lv_icmp_ge (tgt := 111) hx hb dX10_hire_103 rfl (fun c_20 => ?_) (fun c_20 => ?_)
                  · replace hF := hF.1 c_20
                    rw [if_pos c_20] at hE
                    refine lv_iload_n hx hb dX10_hire_111 rfl (lv_at hl 4 rfl) ?_
                    refine lv_istore_n (lv' := [(3, .int w_9l3), (5, .int w_9l5), (7, .int (u_15 35)), (6, .int w_9l6), (4, .int w_9l4), (0, .ref h), (1, .int b_), (2, .int w_)]) hx hb dX10_hire_112 rfl hl (Nat.le_of_ble_eq_true rfl) rfl (fun ls hl => ?_)
                    refine lv_iload hx hb dX10_hire_113 (lv_at hl 2 rfl) ?_
                    refine lv_iload hx hb dX10_hire_115 (lv_at hl 4 rfl) ?_
                    refine lv_icmp_ge (tgt := 125) hx hb dX10_hire_117 rfl (fun c_21 => ?_) (fun c_21 => ?_)
                    · replace hF := hF.1 c_21
                      rw [if_pos c_21] at hE
                      refine lv_iload hx hb dX10_hire_125 (lv_at hl 4 rfl) ?_
                      refine lv_istore (lv' := [(4, .int w_9l4), (3, .int w_9l3), (5, .int w_9l5), (7, .int (u_15 35)), (6, .int w_9l6), (0, .ref h), (1, .int b_), (2, .int w_)]) hx hb dX10_hire_127 hl (Nat.le_of_ble_eq_true rfl) rfl (fun ls hl => ?_)
                      refine lv_iinc (v := (w_9l6 + 1)) (lv' := [(6, .int (w_9l6 + 1)), (4, .int w_9l4), (3, .int w_9l3), (5, .int w_9l5), (7, .int (u_15 35)), (0, .ref h), (1, .int b_), (2, .int w_)]) hx hb dX10_hire_129 hl (k := 4) rfl rfl (Nat.le_of_ble_eq_true rfl) rfl (fun ls hl => ?_)
                      refine lv_goto (tgt := 39) hx hb dX10_hire_132 rfl ?_
                      exact ih_w_9 (w_9l6 + 1) w_9l5 w_9l4 w_9l3 u_15 _ _ ls (cutP (isC := [1, 2, 3, 0]) hP rfl) (cutD (isC := [1, 2, 3, 0]) hD rfl rfl) hS (lv_sub hl [0, 3, 1, 2, 5, 6, 7] rfl) hF hE
                    · replace hF := hF.2 c_21
                      rw [if_neg c_21] at hE
                      refine lv_iload hx hb dX10_hire_120 (lv_at hl 2 rfl) ?_
                      refine lv_goto (tgt := 127) hx hb dX10_hire_122 rfl ?_
                      refine lv_istore (lv' := [(4, .int (u_15 35)), (3, .int w_9l3), (5, .int w_9l5), (7, .int (u_15 35)), (6, .int w_9l6), (0, .ref h), (1, .int b_), (2, .int w_)]) hx hb dX10_hire_127 hl (Nat.le_of_ble_eq_true rfl) rfl (fun ls hl => ?_)
                      refine lv_iinc (v := (w_9l6 + 1)) (lv' := [(6, .int (w_9l6 + 1)), (4, .int (u_15 35)), (3, .int w_9l3), (5, .int w_9l5), (7, .int (u_15 35)), (0, .ref h), (1, .int b_), (2, .int w_)]) hx hb dX10_hire_129 hl (k := 4) rfl rfl (Nat.le_of_ble_eq_true rfl) rfl (fun ls hl => ?_)
                      refine lv_goto (tgt := 39) hx hb dX10_hire_132 rfl ?_
                      exact ih_w_9 (w_9l6 + 1) w_9l5 (u_15 35) w_9l3 u_15 _ _ ls (cutP (isC := [1, 2, 3, 0]) hP rfl) (cutD (isC := [1, 2, 3, 0]) hD rfl rfl) hS (lv_sub hl [0, 3, 1, 2, 5, 6, 7] rfl) hF hE
                  · replace hF := hF.2 c_20
                    rw [if_neg c_20] at hE
                    refine lv_iload hx hb dX10_hire_106 (lv_at hl 2 rfl) ?_
                    refine lv_goto (tgt := 112) hx hb dX10_hire_108 rfl ?_
                    refine lv_istore_n (lv' := [(3, .int w_9l6), (5, .int w_9l5), (7, .int (u_15 35)), (6, .int w_9l6), (4, .int w_9l4), (0, .ref h), (1, .int b_), (2, .int w_)]) hx hb dX10_hire_112 rfl hl (Nat.le_of_ble_eq_true rfl) rfl (fun ls hl => ?_)
                    refine lv_iload hx hb dX10_hire_113 (lv_at hl 2 rfl) ?_
                    refine lv_iload hx hb dX10_hire_115 (lv_at hl 4 rfl) ?_
                    refine lv_icmp_ge (tgt := 125) hx hb dX10_hire_117 rfl (fun c_22 => ?_) (fun c_22 => ?_)
                    · replace hF := hF.1 c_22
                      rw [if_pos c_22] at hE
                      refine lv_iload hx hb dX10_hire_125 (lv_at hl 4 rfl) ?_
                      refine lv_istore (lv' := [(4, .int w_9l4), (3, .int w_9l6), (5, .int w_9l5), (7, .int (u_15 35)), (6, .int w_9l6), (0, .ref h), (1, .int b_), (2, .int w_)]) hx hb dX10_hire_127 hl (Nat.le_of_ble_eq_true rfl) rfl (fun ls hl => ?_)
                      refine lv_iinc (v := (w_9l6 + 1)) (lv' := [(6, .int (w_9l6 + 1)), (4, .int w_9l4), (3, .int w_9l6), (5, .int w_9l5), (7, .int (u_15 35)), (0, .ref h), (1, .int b_), (2, .int w_)]) hx hb dX10_hire_129 hl (k := 4) rfl rfl (Nat.le_of_ble_eq_true rfl) rfl (fun ls hl => ?_)
                      refine lv_goto (tgt := 39) hx hb dX10_hire_132 rfl ?_
                      exact ih_w_9 (w_9l6 + 1) w_9l5 w_9l4 w_9l6 u_15 _ _ ls (cutP (isC := [1, 2, 3, 0]) hP rfl) (cutD (isC := [1, 2, 3, 0]) hD rfl rfl) hS (lv_sub hl [0, 3, 1, 2, 5, 6, 7] rfl) hF hE
                    · replace hF := hF.2 c_22
                      rw [if_neg c_22] at hE
                      refine lv_iload hx hb dX10_hire_120 (lv_at hl 2 rfl) ?_
                      refine lv_goto (tgt := 127) hx hb dX10_hire_122 rfl ?_
                      refine lv_istore (lv' := [(4, .int (u_15 35)), (3, .int w_9l6), (5, .int w_9l5), (7, .int (u_15 35)), (6, .int w_9l6), (0, .ref h), (1, .int b_), (2, .int w_)]) hx hb dX10_hire_127 hl (Nat.le_of_ble_eq_true rfl) rfl (fun ls hl => ?_)
                      refine lv_iinc (v := (w_9l6 + 1)) (lv' := [(6, .int (w_9l6 + 1)), (4, .int (u_15 35)), (3, .int w_9l6), (5, .int w_9l5), (7, .int (u_15 35)), (0, .ref h), (1, .int b_), (2, .int w_)]) hx hb dX10_hire_129 hl (k := 4) rfl rfl (Nat.le_of_ble_eq_true rfl) rfl (fun ls hl => ?_)
                      refine lv_goto (tgt := 39) hx hb dX10_hire_132 rfl ?_
                      exact ih_w_9 (w_9l6 + 1) w_9l5 (u_15 35) w_9l6 u_15 _ _ ls (cutP (isC := [1, 2, 3, 0]) hP rfl) (cutD (isC := [1, 2, 3, 0]) hD rfl rfl) hS (lv_sub hl [0, 3, 1, 2, 5, 6, 7] rfl) hF hE
                · replace hF := hF.2 c_19
                  rw [if_neg c_19] at hE
                  refine lv_iload hx hb dX10_hire_90 (lv_at hl 0 rfl) ?_
                  refine lv_goto (tgt := 97) hx hb dX10_hire_92 rfl ?_
                  refine lv_istore (lv' := [(5, .int (u_15 35)), (7, .int (u_15 35)), (6, .int w_9l6), (4, .int w_9l4), (3, .int w_9l3), (0, .ref h), (1, .int b_), (2, .int w_)]) hx hb dX10_hire_97 hl (Nat.le_of_ble_eq_true rfl) rfl (fun ls hl => ?_)
                  refine lv_iload hx hb dX10_hire_99 (lv_at hl 1 rfl) ?_
                  refine lv_iload hx hb dX10_hire_101 (lv_at hl 3 rfl) ?_
                  refine lv_icmp_ge (tgt := 111) hx hb dX10_hire_103 rfl (fun c_23 => ?_) (fun c_23 => ?_)
                  · replace hF := hF.1 c_23
                    rw [if_pos c_23] at hE
                    refine lv_iload_n hx hb dX10_hire_111 rfl (lv_at hl 4 rfl) ?_
                    refine lv_istore_n (lv' := [(3, .int w_9l3), (5, .int (u_15 35)), (7, .int (u_15 35)), (6, .int w_9l6), (4, .int w_9l4), (0, .ref h), (1, .int b_), (2, .int w_)]) hx hb dX10_hire_112 rfl hl (Nat.le_of_ble_eq_true rfl) rfl (fun ls hl => ?_)
                    refine lv_iload hx hb dX10_hire_113 (lv_at hl 2 rfl) ?_
                    refine lv_iload hx hb dX10_hire_115 (lv_at hl 4 rfl) ?_
                    refine lv_icmp_ge (tgt := 125) hx hb dX10_hire_117 rfl (fun c_24 => ?_) (fun c_24 => ?_)
                    · replace hF := hF.1 c_24
                      rw [if_pos c_24] at hE
                      refine lv_iload hx hb dX10_hire_125 (lv_at hl 4 rfl) ?_
                      refine lv_istore (lv' := [(4, .int w_9l4), (3, .int w_9l3), (5, .int (u_15 35)), (7, .int (u_15 35)), (6, .int w_9l6), (0, .ref h), (1, .int b_), (2, .int w_)]) hx hb dX10_hire_127 hl (Nat.le_of_ble_eq_true rfl) rfl (fun ls hl => ?_)
                      refine lv_iinc (v := (w_9l6 + 1)) (lv' := [(6, .int (w_9l6 + 1)), (4, .int w_9l4), (3, .int w_9l3), (5, .int (u_15 35)), (7, .int (u_15 35)), (0, .ref h), (1, .int b_), (2, .int w_)]) hx hb dX10_hire_129 hl (k := 4) rfl rfl (Nat.le_of_ble_eq_true rfl) rfl (fun ls hl => ?_)
                      refine lv_goto (tgt := 39) hx hb dX10_hire_132 rfl ?_
                      exact ih_w_9 (w_9l6 + 1) (u_15 35) w_9l4 w_9l3 u_15 _ _ ls (cutP (isC := [1, 2, 3, 0]) hP rfl) (cutD (isC := [1, 2, 3, 0]) hD rfl rfl) hS (lv_sub hl [0, 3, 1, 2, 5, 6, 7] rfl) hF hE
                    · replace hF := hF.2 c_24
                      rw [if_neg c_24] at hE
                      refine lv_iload hx hb dX10_hire_120 (lv_at hl 2 rfl) ?_
                      refine lv_goto (tgt := 127) hx hb dX10_hire_122 rfl ?_
                      refine lv_istore (lv' := [(4, .int (u_15 35)), (3, .int w_9l3), (5, .int (u_15 35)), (7, .int (u_15 35)), (6, .int w_9l6), (0, .ref h), (1, .int b_), (2, .int w_)]) hx hb dX10_hire_127 hl (Nat.le_of_ble_eq_true rfl) rfl (fun ls hl => ?_)
                      refine lv_iinc (v := (w_9l6 + 1)) (lv' := [(6, .int (w_9l6 + 1)), (4, .int (u_15 35)), (3, .int w_9l3), (5, .int (u_15 35)), (7, .int (u_15 35)), (0, .ref h), (1, .int b_), (2, .int w_)]) hx hb dX10_hire_129 hl (k := 4) rfl rfl (Nat.le_of_ble_eq_true rfl) rfl (fun ls hl => ?_)
                      refine lv_goto (tgt := 39) hx hb dX10_hire_132 rfl ?_
                      exact ih_w_9 (w_9l6 + 1) (u_15 35) (u_15 35) w_9l3 u_15 _ _ ls (cutP (isC := [1, 2, 3, 0]) hP rfl) (cutD (isC := [1, 2, 3, 0]) hD rfl rfl) hS (lv_sub hl [0, 3, 1, 2, 5, 6, 7] rfl) hF hE
                  · replace hF := hF.2 c_23
                    rw [if_neg c_23] at hE
                    refine lv_iload hx hb dX10_hire_106 (lv_at hl 2 rfl) ?_
                    refine lv_goto (tgt := 112) hx hb dX10_hire_108 rfl ?_
                    refine lv_istore_n (lv' := [(3, .int w_9l6), (5, .int (u_15 35)), (7, .int (u_15 35)), (6, .int w_9l6), (4, .int w_9l4), (0, .ref h), (1, .int b_), (2, .int w_)]) hx hb dX10_hire_112 rfl hl (Nat.le_of_ble_eq_true rfl) rfl (fun ls hl => ?_)
                    refine lv_iload hx hb dX10_hire_113 (lv_at hl 2 rfl) ?_
                    refine lv_iload hx hb dX10_hire_115 (lv_at hl 4 rfl) ?_
                    refine lv_icmp_ge (tgt := 125) hx hb dX10_hire_117 rfl (fun c_25 => ?_) (fun c_25 => ?_)
                    · replace hF := hF.1 c_25
                      rw [if_pos c_25] at hE
                      refine lv_iload hx hb dX10_hire_125 (lv_at hl 4 rfl) ?_
                      refine lv_istore (lv' := [(4, .int w_9l4), (3, .int w_9l6), (5, .int (u_15 35)), (7, .int (u_15 35)), (6, .int w_9l6), (0, .ref h), (1, .int b_), (2, .int w_)]) hx hb dX10_hire_127 hl (Nat.le_of_ble_eq_true rfl) rfl (fun ls hl => ?_)
                      refine lv_iinc (v := (w_9l6 + 1)) (lv' := [(6, .int (w_9l6 + 1)), (4, .int w_9l4), (3, .int w_9l6), (5, .int (u_15 35)), (7, .int (u_15 35)), (0, .ref h), (1, .int b_), (2, .int w_)]) hx hb dX10_hire_129 hl (k := 4) rfl rfl (Nat.le_of_ble_eq_true rfl) rfl (fun ls hl => ?_)
                      refine lv_goto (tgt := 39) hx hb dX10_hire_132 rfl ?_
                      exact ih_w_9 (w_9l6 + 1) (u_15 35) w_9l4 w_9l6 u_15 _ _ ls (cutP (isC := [1, 2, 3, 0]) hP rfl) (cutD (isC := [1, 2, 3, 0]) hD rfl rfl) hS (lv_sub hl [0, 3, 1, 2, 5, 6, 7] rfl) hF hE
                    · replace hF := hF.2 c_25
                      rw [if_neg c_25] at hE
                      refine lv_iload hx hb dX10_hire_120 (lv_at hl 2 rfl) ?_
                      refine lv_goto (tgt := 127) hx hb dX10_hire_122 rfl ?_
                      refine lv_istore (lv' := [(4, .int (u_15 35)), (3, .int w_9l6), (5, .int (u_15 35)), (7, .int (u_15 35)), (6, .int w_9l6), (0, .ref h), (1, .int b_), (2, .int w_)]) hx hb dX10_hire_127 hl (Nat.le_of_ble_eq_true rfl) rfl (fun ls hl => ?_)
                      refine lv_iinc (v := (w_9l6 + 1)) (lv' := [(6, .int (w_9l6 + 1)), (4, .int (u_15 35)), (3, .int w_9l6), (5, .int (u_15 35)), (7, .int (u_15 35)), (0, .ref h), (1, .int b_), (2, .int w_)]) hx hb dX10_hire_129 hl (k := 4) rfl rfl (Nat.le_of_ble_eq_true rfl) rfl (fun ls hl => ?_)
                      refine lv_goto (tgt := 39) hx hb dX10_hire_132 rfl ?_
                      exact ih_w_9 (w_9l6 + 1) (u_15 35) (u_15 35) w_9l6 u_15 _ _ ls (cutP (isC := [1, 2, 3, 0]) hP rfl) (cutD (isC := [1, 2, 3, 0]) hD rfl rfl) hS (lv_sub hl [0, 3, 1, 2, 5, 6, 7] rfl) hF hE
              · replace hF := hF.2 c_18
                rw [if_neg c_18] at hE
                refine lv_iload hx hb dX10_hire_78 (lv_at hl 3 rfl) ?_
                refine lv_goto (tgt := 97) hx hb dX10_hire_80 rfl ?_
                refine lv_istore (lv' := [(5, .int w_9l4), (7, .int (u_15 35)), (6, .int w_9l6), (4, .int w_9l4), (3, .int w_9l3), (0, .ref h), (1, .int b_), (2, .int w_)]) hx hb dX10_hire_97 hl (Nat.le_of_ble_eq_true rfl) rfl (fun ls hl => ?_)
                refine lv_iload hx hb dX10_hire_99 (lv_at hl 1 rfl) ?_
                refine lv_iload hx hb dX10_hire_101 (lv_at hl 3 rfl) ?_
                refine lv_icmp_ge (tgt := 111) hx hb dX10_hire_103 rfl (fun c_26 => ?_) (fun c_26 => ?_)
                · replace hF := hF.1 c_26
                  rw [if_pos c_26] at hE
                  refine lv_iload_n hx hb dX10_hire_111 rfl (lv_at hl 4 rfl) ?_
                  refine lv_istore_n (lv' := [(3, .int w_9l3), (5, .int w_9l4), (7, .int (u_15 35)), (6, .int w_9l6), (4, .int w_9l4), (0, .ref h), (1, .int b_), (2, .int w_)]) hx hb dX10_hire_112 rfl hl (Nat.le_of_ble_eq_true rfl) rfl (fun ls hl => ?_)
                  refine lv_iload hx hb dX10_hire_113 (lv_at hl 2 rfl) ?_
                  refine lv_iload hx hb dX10_hire_115 (lv_at hl 4 rfl) ?_
                  refine lv_icmp_ge (tgt := 125) hx hb dX10_hire_117 rfl (fun c_27 => ?_) (fun c_27 => ?_)
                  · replace hF := hF.1 c_27
                    rw [if_pos c_27] at hE
                    refine lv_iload hx hb dX10_hire_125 (lv_at hl 4 rfl) ?_
                    refine lv_istore (lv' := [(4, .int w_9l4), (3, .int w_9l3), (5, .int w_9l4), (7, .int (u_15 35)), (6, .int w_9l6), (0, .ref h), (1, .int b_), (2, .int w_)]) hx hb dX10_hire_127 hl (Nat.le_of_ble_eq_true rfl) rfl (fun ls hl => ?_)
                    refine lv_iinc (v := (w_9l6 + 1)) (lv' := [(6, .int (w_9l6 + 1)), (4, .int w_9l4), (3, .int w_9l3), (5, .int w_9l4), (7, .int (u_15 35)), (0, .ref h), (1, .int b_), (2, .int w_)]) hx hb dX10_hire_129 hl (k := 4) rfl rfl (Nat.le_of_ble_eq_true rfl) rfl (fun ls hl => ?_)
                    refine lv_goto (tgt := 39) hx hb dX10_hire_132 rfl ?_
                    exact ih_w_9 (w_9l6 + 1) w_9l4 w_9l4 w_9l3 u_15 _ _ ls (cutP (isC := [1, 2, 3, 0]) hP rfl) (cutD (isC := [1, 2, 3, 0]) hD rfl rfl) hS (lv_sub hl [0, 3, 1, 2, 5, 6, 7] rfl) hF hE
                  · replace hF := hF.2 c_27
                    rw [if_neg c_27] at hE
                    refine lv_iload hx hb dX10_hire_120 (lv_at hl 2 rfl) ?_
                    refine lv_goto (tgt := 127) hx hb dX10_hire_122 rfl ?_
                    refine lv_istore (lv' := [(4, .int (u_15 35)), (3, .int w_9l3), (5, .int w_9l4), (7, .int (u_15 35)), (6, .int w_9l6), (0, .ref h), (1, .int b_), (2, .int w_)]) hx hb dX10_hire_127 hl (Nat.le_of_ble_eq_true rfl) rfl (fun ls hl => ?_)
                    refine lv_iinc (v := (w_9l6 + 1)) (lv' := [(6, .int (w_9l6 + 1)), (4, .int (u_15 35)), (3, .int w_9l3), (5, .int w_9l4), (7, .int (u_15 35)), (0, .ref h), (1, .int b_), (2, .int w_)]) hx hb dX10_hire_129 hl (k := 4) rfl rfl (Nat.le_of_ble_eq_true rfl) rfl (fun ls hl => ?_)
                    refine lv_goto (tgt := 39) hx hb dX10_hire_132 rfl ?_
                    exact ih_w_9 (w_9l6 + 1) w_9l4 (u_15 35) w_9l3 u_15 _ _ ls (cutP (isC := [1, 2, 3, 0]) hP rfl) (cutD (isC := [1, 2, 3, 0]) hD rfl rfl) hS (lv_sub hl [0, 3, 1, 2, 5, 6, 7] rfl) hF hE
                · replace hF := hF.2 c_26
                  rw [if_neg c_26] at hE
                  refine lv_iload hx hb dX10_hire_106 (lv_at hl 2 rfl) ?_
                  refine lv_goto (tgt := 112) hx hb dX10_hire_108 rfl ?_
                  refine lv_istore_n (lv' := [(3, .int w_9l6), (5, .int w_9l4), (7, .int (u_15 35)), (6, .int w_9l6), (4, .int w_9l4), (0, .ref h), (1, .int b_), (2, .int w_)]) hx hb dX10_hire_112 rfl hl (Nat.le_of_ble_eq_true rfl) rfl (fun ls hl => ?_)
                  refine lv_iload hx hb dX10_hire_113 (lv_at hl 2 rfl) ?_
                  refine lv_iload hx hb dX10_hire_115 (lv_at hl 4 rfl) ?_
                  refine lv_icmp_ge (tgt := 125) hx hb dX10_hire_117 rfl (fun c_28 => ?_) (fun c_28 => ?_)
                  · replace hF := hF.1 c_28
                    rw [if_pos c_28] at hE
                    refine lv_iload hx hb dX10_hire_125 (lv_at hl 4 rfl) ?_
                    refine lv_istore (lv' := [(4, .int w_9l4), (3, .int w_9l6), (5, .int w_9l4), (7, .int (u_15 35)), (6, .int w_9l6), (0, .ref h), (1, .int b_), (2, .int w_)]) hx hb dX10_hire_127 hl (Nat.le_of_ble_eq_true rfl) rfl (fun ls hl => ?_)
                    refine lv_iinc (v := (w_9l6 + 1)) (lv' := [(6, .int (w_9l6 + 1)), (4, .int w_9l4), (3, .int w_9l6), (5, .int w_9l4), (7, .int (u_15 35)), (0, .ref h), (1, .int b_), (2, .int w_)]) hx hb dX10_hire_129 hl (k := 4) rfl rfl (Nat.le_of_ble_eq_true rfl) rfl (fun ls hl => ?_)
                    refine lv_goto (tgt := 39) hx hb dX10_hire_132 rfl ?_
                    exact ih_w_9 (w_9l6 + 1) w_9l4 w_9l4 w_9l6 u_15 _ _ ls (cutP (isC := [1, 2, 3, 0]) hP rfl) (cutD (isC := [1, 2, 3, 0]) hD rfl rfl) hS (lv_sub hl [0, 3, 1, 2, 5, 6, 7] rfl) hF hE
                  · replace hF := hF.2 c_28
                    rw [if_neg c_28] at hE
                    refine lv_iload hx hb dX10_hire_120 (lv_at hl 2 rfl) ?_
                    refine lv_goto (tgt := 127) hx hb dX10_hire_122 rfl ?_
                    refine lv_istore (lv' := [(4, .int (u_15 35)), (3, .int w_9l6), (5, .int w_9l4), (7, .int (u_15 35)), (6, .int w_9l6), (0, .ref h), (1, .int b_), (2, .int w_)]) hx hb dX10_hire_127 hl (Nat.le_of_ble_eq_true rfl) rfl (fun ls hl => ?_)
                    refine lv_iinc (v := (w_9l6 + 1)) (lv' := [(6, .int (w_9l6 + 1)), (4, .int (u_15 35)), (3, .int w_9l6), (5, .int w_9l4), (7, .int (u_15 35)), (0, .ref h), (1, .int b_), (2, .int w_)]) hx hb dX10_hire_129 hl (k := 4) rfl rfl (Nat.le_of_ble_eq_true rfl) rfl (fun ls hl => ?_)
                    refine lv_goto (tgt := 39) hx hb dX10_hire_132 rfl ?_
                    exact ih_w_9 (w_9l6 + 1) w_9l4 (u_15 35) w_9l6 u_15 _ _ ls (cutP (isC := [1, 2, 3, 0]) hP rfl) (cutD (isC := [1, 2, 3, 0]) hD rfl rfl) hS (lv_sub hl [0, 3, 1, 2, 5, 6, 7] rfl) hF hE
            · replace hF := hF.1 c_17
              rw [if_pos c_17] at hE
              subst c_17
              refine lv_ldcw (v := 1000000000) hx hb hown (hts _ wd_651) dX10_hire_59 ?_
              refine lv_goto (tgt := 69) hx hb dX10_hire_62 rfl ?_
              refine lv_istore (lv' := [(7, .int 1000000000), (6, .int w_9l6), (5, .int w_9l5), (4, .int w_9l4), (3, .int w_9l3), (0, .ref h), (1, .int b_), (2, .int w_)]) hx hb dX10_hire_69 hl (Nat.le_of_ble_eq_true rfl) rfl (fun ls hl => ?_)
              refine lv_iload hx hb dX10_hire_71 (lv_at hl 0 rfl) ?_
              refine lv_iload hx hb dX10_hire_73 (lv_at hl 3 rfl) ?_
              refine lv_icmp_ge (tgt := 83) hx hb dX10_hire_75 rfl (fun c_29 => ?_) (fun c_29 => ?_)
              · replace hF := hF.1 c_29
                rw [if_pos c_29] at hE
                refine lv_iload hx hb dX10_hire_83 (lv_at hl 0 rfl) ?_
                refine lv_iload hx hb dX10_hire_85 (lv_at hl 2 rfl) ?_
                refine lv_icmp_ge (tgt := 95) hx hb dX10_hire_87 rfl (fun c_30 => ?_) (fun c_30 => ?_)
                · replace hF := hF.1 c_30
                  rw [if_pos c_30] at hE
                  refine lv_iload hx hb dX10_hire_95 (lv_at hl 2 rfl) ?_
                  refine lv_istore (lv' := [(5, .int w_9l5), (7, .int 1000000000), (6, .int w_9l6), (4, .int w_9l4), (3, .int w_9l3), (0, .ref h), (1, .int b_), (2, .int w_)]) hx hb dX10_hire_97 hl (Nat.le_of_ble_eq_true rfl) rfl (fun ls hl => ?_)
                  refine lv_iload hx hb dX10_hire_99 (lv_at hl 1 rfl) ?_
                  refine lv_iload hx hb dX10_hire_101 (lv_at hl 3 rfl) ?_
                  refine lv_icmp_ge (tgt := 111) hx hb dX10_hire_103 rfl (fun c_31 => ?_) (fun c_31 => ?_)
                  · replace hF := hF.1 c_31
                    rw [if_pos c_31] at hE
                    refine lv_iload_n hx hb dX10_hire_111 rfl (lv_at hl 4 rfl) ?_
                    refine lv_istore_n (lv' := [(3, .int w_9l3), (5, .int w_9l5), (7, .int 1000000000), (6, .int w_9l6), (4, .int w_9l4), (0, .ref h), (1, .int b_), (2, .int w_)]) hx hb dX10_hire_112 rfl hl (Nat.le_of_ble_eq_true rfl) rfl (fun ls hl => ?_)
                    refine lv_iload hx hb dX10_hire_113 (lv_at hl 2 rfl) ?_
                    refine lv_iload hx hb dX10_hire_115 (lv_at hl 4 rfl) ?_
                    refine lv_icmp_ge (tgt := 125) hx hb dX10_hire_117 rfl (fun c_32 => ?_) (fun c_32 => ?_)
                    · replace hF := hF.1 c_32
                      rw [if_pos c_32] at hE
                      refine lv_iload hx hb dX10_hire_125 (lv_at hl 4 rfl) ?_
                      refine lv_istore (lv' := [(4, .int w_9l4), (3, .int w_9l3), (5, .int w_9l5), (7, .int 1000000000), (6, .int w_9l6), (0, .ref h), (1, .int b_), (2, .int w_)]) hx hb dX10_hire_127 hl (Nat.le_of_ble_eq_true rfl) rfl (fun ls hl => ?_)
                      refine lv_iinc (v := (w_9l6 + 1)) (lv' := [(6, .int (w_9l6 + 1)), (4, .int w_9l4), (3, .int w_9l3), (5, .int w_9l5), (7, .int 1000000000), (0, .ref h), (1, .int b_), (2, .int w_)]) hx hb dX10_hire_129 hl (k := 4) rfl rfl (Nat.le_of_ble_eq_true rfl) rfl (fun ls hl => ?_)
                      refine lv_goto (tgt := 39) hx hb dX10_hire_132 rfl ?_
                      exact ih_w_9 (w_9l6 + 1) w_9l5 w_9l4 w_9l3 u_15 _ _ ls (cutP (isC := [1, 2, 3, 0]) hP rfl) (cutD (isC := [1, 2, 3, 0]) hD rfl rfl) hS (lv_sub hl [0, 3, 1, 2, 5, 6, 7] rfl) hF hE
                    · replace hF := hF.2 c_32
                      rw [if_neg c_32] at hE
                      refine lv_iload hx hb dX10_hire_120 (lv_at hl 2 rfl) ?_
                      refine lv_goto (tgt := 127) hx hb dX10_hire_122 rfl ?_
                      refine lv_istore (lv' := [(4, .int 1000000000), (3, .int w_9l3), (5, .int w_9l5), (7, .int 1000000000), (6, .int w_9l6), (0, .ref h), (1, .int b_), (2, .int w_)]) hx hb dX10_hire_127 hl (Nat.le_of_ble_eq_true rfl) rfl (fun ls hl => ?_)
                      refine lv_iinc (v := (w_9l6 + 1)) (lv' := [(6, .int (w_9l6 + 1)), (4, .int 1000000000), (3, .int w_9l3), (5, .int w_9l5), (7, .int 1000000000), (0, .ref h), (1, .int b_), (2, .int w_)]) hx hb dX10_hire_129 hl (k := 4) rfl rfl (Nat.le_of_ble_eq_true rfl) rfl (fun ls hl => ?_)
                      refine lv_goto (tgt := 39) hx hb dX10_hire_132 rfl ?_
                      exact ih_w_9 (w_9l6 + 1) w_9l5 1000000000 w_9l3 u_15 _ _ ls (cutP (isC := [1, 2, 3, 0]) hP rfl) (cutD (isC := [1, 2, 3, 0]) hD rfl rfl) hS (lv_sub hl [0, 3, 1, 2, 5, 6, 7] rfl) hF hE
                  · replace hF := hF.2 c_31
                    rw [if_neg c_31] at hE
                    refine lv_iload hx hb dX10_hire_106 (lv_at hl 2 rfl) ?_
                    refine lv_goto (tgt := 112) hx hb dX10_hire_108 rfl ?_
                    refine lv_istore_n (lv' := [(3, .int w_9l6), (5, .int w_9l5), (7, .int 1000000000), (6, .int w_9l6), (4, .int w_9l4), (0, .ref h), (1, .int b_), (2, .int w_)]) hx hb dX10_hire_112 rfl hl (Nat.le_of_ble_eq_true rfl) rfl (fun ls hl => ?_)
                    refine lv_iload hx hb dX10_hire_113 (lv_at hl 2 rfl) ?_
                    refine lv_iload hx hb dX10_hire_115 (lv_at hl 4 rfl) ?_
                    refine lv_icmp_ge (tgt := 125) hx hb dX10_hire_117 rfl (fun c_33 => ?_) (fun c_33 => ?_)
                    · replace hF := hF.1 c_33
                      rw [if_pos c_33] at hE
                      refine lv_iload hx hb dX10_hire_125 (lv_at hl 4 rfl) ?_
                      refine lv_istore (lv' := [(4, .int w_9l4), (3, .int w_9l6), (5, .int w_9l5), (7, .int 1000000000), (6, .int w_9l6), (0, .ref h), (1, .int b_), (2, .int w_)]) hx hb dX10_hire_127 hl (Nat.le_of_ble_eq_true rfl) rfl (fun ls hl => ?_)
                      refine lv_iinc (v := (w_9l6 + 1)) (lv' := [(6, .int (w_9l6 + 1)), (4, .int w_9l4), (3, .int w_9l6), (5, .int w_9l5), (7, .int 1000000000), (0, .ref h), (1, .int b_), (2, .int w_)]) hx hb dX10_hire_129 hl (k := 4) rfl rfl (Nat.le_of_ble_eq_true rfl) rfl (fun ls hl => ?_)
                      refine lv_goto (tgt := 39) hx hb dX10_hire_132 rfl ?_
                      exact ih_w_9 (w_9l6 + 1) w_9l5 w_9l4 w_9l6 u_15 _ _ ls (cutP (isC := [1, 2, 3, 0]) hP rfl) (cutD (isC := [1, 2, 3, 0]) hD rfl rfl) hS (lv_sub hl [0, 3, 1, 2, 5, 6, 7] rfl) hF hE
                    · replace hF := hF.2 c_33
                      rw [if_neg c_33] at hE
                      refine lv_iload hx hb dX10_hire_120 (lv_at hl 2 rfl) ?_
                      refine lv_goto (tgt := 127) hx hb dX10_hire_122 rfl ?_
                      refine lv_istore (lv' := [(4, .int 1000000000), (3, .int w_9l6), (5, .int w_9l5), (7, .int 1000000000), (6, .int w_9l6), (0, .ref h), (1, .int b_), (2, .int w_)]) hx hb dX10_hire_127 hl (Nat.le_of_ble_eq_true rfl) rfl (fun ls hl => ?_)
                      refine lv_iinc (v := (w_9l6 + 1)) (lv' := [(6, .int (w_9l6 + 1)), (4, .int 1000000000), (3, .int w_9l6), (5, .int w_9l5), (7, .int 1000000000), (0, .ref h), (1, .int b_), (2, .int w_)]) hx hb dX10_hire_129 hl (k := 4) rfl rfl (Nat.le_of_ble_eq_true rfl) rfl (fun ls hl => ?_)
                      refine lv_goto (tgt := 39) hx hb dX10_hire_132 rfl ?_
                      exact ih_w_9 (w_9l6 + 1) w_9l5 1000000000 w_9l6 u_15 _ _ ls (cutP (isC := [1, 2, 3, 0]) hP rfl) (cutD (isC := [1, 2, 3, 0]) hD rfl rfl) hS (lv_sub hl [0, 3, 1, 2, 5, 6, 7] rfl) hF hE
                · replace hF := hF.2 c_30
                  rw [if_neg c_30] at hE
                  refine lv_iload hx hb dX10_hire_90 (lv_at hl 0 rfl) ?_
                  refine lv_goto (tgt := 97) hx hb dX10_hire_92 rfl ?_
                  refine lv_istore (lv' := [(5, .int 1000000000), (7, .int 1000000000), (6, .int w_9l6), (4, .int w_9l4), (3, .int w_9l3), (0, .ref h), (1, .int b_), (2, .int w_)]) hx hb dX10_hire_97 hl (Nat.le_of_ble_eq_true rfl) rfl (fun ls hl => ?_)
                  refine lv_iload hx hb dX10_hire_99 (lv_at hl 1 rfl) ?_
                  refine lv_iload hx hb dX10_hire_101 (lv_at hl 3 rfl) ?_
                  refine lv_icmp_ge (tgt := 111) hx hb dX10_hire_103 rfl (fun c_34 => ?_) (fun c_34 => ?_)
                  · replace hF := hF.1 c_34
                    rw [if_pos c_34] at hE
                    refine lv_iload_n hx hb dX10_hire_111 rfl (lv_at hl 4 rfl) ?_
                    refine lv_istore_n (lv' := [(3, .int w_9l3), (5, .int 1000000000), (7, .int 1000000000), (6, .int w_9l6), (4, .int w_9l4), (0, .ref h), (1, .int b_), (2, .int w_)]) hx hb dX10_hire_112 rfl hl (Nat.le_of_ble_eq_true rfl) rfl (fun ls hl => ?_)
                    refine lv_iload hx hb dX10_hire_113 (lv_at hl 2 rfl) ?_
                    refine lv_iload hx hb dX10_hire_115 (lv_at hl 4 rfl) ?_
                    refine lv_icmp_ge (tgt := 125) hx hb dX10_hire_117 rfl (fun c_35 => ?_) (fun c_35 => ?_)
                    · replace hF := hF.1 c_35
                      rw [if_pos c_35] at hE
                      refine lv_iload hx hb dX10_hire_125 (lv_at hl 4 rfl) ?_
                      refine lv_istore (lv' := [(4, .int w_9l4), (3, .int w_9l3), (5, .int 1000000000), (7, .int 1000000000), (6, .int w_9l6), (0, .ref h), (1, .int b_), (2, .int w_)]) hx hb dX10_hire_127 hl (Nat.le_of_ble_eq_true rfl) rfl (fun ls hl => ?_)
                      refine lv_iinc (v := (w_9l6 + 1)) (lv' := [(6, .int (w_9l6 + 1)), (4, .int w_9l4), (3, .int w_9l3), (5, .int 1000000000), (7, .int 1000000000), (0, .ref h), (1, .int b_), (2, .int w_)]) hx hb dX10_hire_129 hl (k := 4) rfl rfl (Nat.le_of_ble_eq_true rfl) rfl (fun ls hl => ?_)
                      refine lv_goto (tgt := 39) hx hb dX10_hire_132 rfl ?_
                      exact ih_w_9 (w_9l6 + 1) 1000000000 w_9l4 w_9l3 u_15 _ _ ls (cutP (isC := [1, 2, 3, 0]) hP rfl) (cutD (isC := [1, 2, 3, 0]) hD rfl rfl) hS (lv_sub hl [0, 3, 1, 2, 5, 6, 7] rfl) hF hE
                    · replace hF := hF.2 c_35
                      rw [if_neg c_35] at hE
                      refine lv_iload hx hb dX10_hire_120 (lv_at hl 2 rfl) ?_
                      refine lv_goto (tgt := 127) hx hb dX10_hire_122 rfl ?_
                      refine lv_istore (lv' := [(4, .int 1000000000), (3, .int w_9l3), (5, .int 1000000000), (7, .int 1000000000), (6, .int w_9l6), (0, .ref h), (1, .int b_), (2, .int w_)]) hx hb dX10_hire_127 hl (Nat.le_of_ble_eq_true rfl) rfl (fun ls hl => ?_)
                      refine lv_iinc (v := (w_9l6 + 1)) (lv' := [(6, .int (w_9l6 + 1)), (4, .int 1000000000), (3, .int w_9l3), (5, .int 1000000000), (7, .int 1000000000), (0, .ref h), (1, .int b_), (2, .int w_)]) hx hb dX10_hire_129 hl (k := 4) rfl rfl (Nat.le_of_ble_eq_true rfl) rfl (fun ls hl => ?_)
                      refine lv_goto (tgt := 39) hx hb dX10_hire_132 rfl ?_
                      exact ih_w_9 (w_9l6 + 1) 1000000000 1000000000 w_9l3 u_15 _ _ ls (cutP (isC := [1, 2, 3, 0]) hP rfl) (cutD (isC := [1, 2, 3, 0]) hD rfl rfl) hS (lv_sub hl [0, 3, 1, 2, 5, 6, 7] rfl) hF hE
                  · replace hF := hF.2 c_34
                    rw [if_neg c_34] at hE
                    refine lv_iload hx hb dX10_hire_106 (lv_at hl 2 rfl) ?_
                    refine lv_goto (tgt := 112) hx hb dX10_hire_108 rfl ?_
                    refine lv_istore_n (lv' := [(3, .int w_9l6), (5, .int 1000000000), (7, .int 1000000000), (6, .int w_9l6), (4, .int w_9l4), (0, .ref h), (1, .int b_), (2, .int w_)]) hx hb dX10_hire_112 rfl hl (Nat.le_of_ble_eq_true rfl) rfl (fun ls hl => ?_)
                    refine lv_iload hx hb dX10_hire_113 (lv_at hl 2 rfl) ?_
                    refine lv_iload hx hb dX10_hire_115 (lv_at hl 4 rfl) ?_
                    refine lv_icmp_ge (tgt := 125) hx hb dX10_hire_117 rfl (fun c_36 => ?_) (fun c_36 => ?_)
                    · replace hF := hF.1 c_36
                      rw [if_pos c_36] at hE
                      refine lv_iload hx hb dX10_hire_125 (lv_at hl 4 rfl) ?_
                      refine lv_istore (lv' := [(4, .int w_9l4), (3, .int w_9l6), (5, .int 1000000000), (7, .int 1000000000), (6, .int w_9l6), (0, .ref h), (1, .int b_), (2, .int w_)]) hx hb dX10_hire_127 hl (Nat.le_of_ble_eq_true rfl) rfl (fun ls hl => ?_)
                      refine lv_iinc (v := (w_9l6 + 1)) (lv' := [(6, .int (w_9l6 + 1)), (4, .int w_9l4), (3, .int w_9l6), (5, .int 1000000000), (7, .int 1000000000), (0, .ref h), (1, .int b_), (2, .int w_)]) hx hb dX10_hire_129 hl (k := 4) rfl rfl (Nat.le_of_ble_eq_true rfl) rfl (fun ls hl => ?_)
                      refine lv_goto (tgt := 39) hx hb dX10_hire_132 rfl ?_
                      exact ih_w_9 (w_9l6 + 1) 1000000000 w_9l4 w_9l6 u_15 _ _ ls (cutP (isC := [1, 2, 3, 0]) hP rfl) (cutD (isC := [1, 2, 3, 0]) hD rfl rfl) hS (lv_sub hl [0, 3, 1, 2, 5, 6, 7] rfl) hF hE
                    · replace hF := hF.2 c_36
                      rw [if_neg c_36] at hE
                      refine lv_iload hx hb dX10_hire_120 (lv_at hl 2 rfl) ?_
                      refine lv_goto (tgt := 127) hx hb dX10_hire_122 rfl ?_
                      refine lv_istore (lv' := [(4, .int 1000000000), (3, .int w_9l6), (5, .int 1000000000), (7, .int 1000000000), (6, .int w_9l6), (0, .ref h), (1, .int b_), (2, .int w_)]) hx hb dX10_hire_127 hl (Nat.le_of_ble_eq_true rfl) rfl (fun ls hl => ?_)
                      refine lv_iinc (v := (w_9l6 + 1)) (lv' := [(6, .int (w_9l6 + 1)), (4, .int 1000000000), (3, .int w_9l6), (5, .int 1000000000), (7, .int 1000000000), (0, .ref h), (1, .int b_), (2, .int w_)]) hx hb dX10_hire_129 hl (k := 4) rfl rfl (Nat.le_of_ble_eq_true rfl) rfl (fun ls hl => ?_)
                      refine lv_goto (tgt := 39) hx hb dX10_hire_132 rfl ?_
                      exact ih_w_9 (w_9l6 + 1) 1000000000 1000000000 w_9l6 u_15 _ _ ls (cutP (isC := [1, 2, 3, 0]) hP rfl) (cutD (isC := [1, 2, 3, 0]) hD rfl rfl) hS (lv_sub hl [0, 3, 1, 2, 5, 6, 7] rfl) hF hE
              · replace hF := hF.2 c_29
                rw [if_neg c_29] at hE
                refine lv_iload hx hb dX10_hire_78 (lv_at hl 3 rfl) ?_
                refine lv_goto (tgt := 97) hx hb dX10_hire_80 rfl ?_
                refine lv_istore (lv' := [(5, .int w_9l4), (7, .int 1000000000), (6, .int w_9l6), (4, .int w_9l4), (3, .int w_9l3), (0, .ref h), (1, .int b_), (2, .int w_)]) hx hb dX10_hire_97 hl (Nat.le_of_ble_eq_true rfl) rfl (fun ls hl => ?_)
                refine lv_iload hx hb dX10_hire_99 (lv_at hl 1 rfl) ?_
                refine lv_iload hx hb dX10_hire_101 (lv_at hl 3 rfl) ?_
                refine lv_icmp_ge (tgt := 111) hx hb dX10_hire_103 rfl (fun c_37 => ?_) (fun c_37 => ?_)
                · replace hF := hF.1 c_37
                  rw [if_pos c_37] at hE
                  refine lv_iload_n hx hb dX10_hire_111 rfl (lv_at hl 4 rfl) ?_
                  refine lv_istore_n (lv' := [(3, .int w_9l3), (5, .int w_9l4), (7, .int 1000000000), (6, .int w_9l6), (4, .int w_9l4), (0, .ref h), (1, .int b_), (2, .int w_)]) hx hb dX10_hire_112 rfl hl (Nat.le_of_ble_eq_true rfl) rfl (fun ls hl => ?_)
                  refine lv_iload hx hb dX10_hire_113 (lv_at hl 2 rfl) ?_
                  refine lv_iload hx hb dX10_hire_115 (lv_at hl 4 rfl) ?_
                  refine lv_icmp_ge (tgt := 125) hx hb dX10_hire_117 rfl (fun c_38 => ?_) (fun c_38 => ?_)
                  · replace hF := hF.1 c_38
                    rw [if_pos c_38] at hE
                    refine lv_iload hx hb dX10_hire_125 (lv_at hl 4 rfl) ?_
                    refine lv_istore (lv' := [(4, .int w_9l4), (3, .int w_9l3), (5, .int w_9l4), (7, .int 1000000000), (6, .int w_9l6), (0, .ref h), (1, .int b_), (2, .int w_)]) hx hb dX10_hire_127 hl (Nat.le_of_ble_eq_true rfl) rfl (fun ls hl => ?_)
                    refine lv_iinc (v := (w_9l6 + 1)) (lv' := [(6, .int (w_9l6 + 1)), (4, .int w_9l4), (3, .int w_9l3), (5, .int w_9l4), (7, .int 1000000000), (0, .ref h), (1, .int b_), (2, .int w_)]) hx hb dX10_hire_129 hl (k := 4) rfl rfl (Nat.le_of_ble_eq_true rfl) rfl (fun ls hl => ?_)
                    refine lv_goto (tgt := 39) hx hb dX10_hire_132 rfl ?_
                    exact ih_w_9 (w_9l6 + 1) w_9l4 w_9l4 w_9l3 u_15 _ _ ls (cutP (isC := [1, 2, 3, 0]) hP rfl) (cutD (isC := [1, 2, 3, 0]) hD rfl rfl) hS (lv_sub hl [0, 3, 1, 2, 5, 6, 7] rfl) hF hE
                  · replace hF := hF.2 c_38
                    rw [if_neg c_38] at hE
                    refine lv_iload hx hb dX10_hire_120 (lv_at hl 2 rfl) ?_
                    refine lv_goto (tgt := 127) hx hb dX10_hire_122 rfl ?_
                    refine lv_istore (lv' := [(4, .int 1000000000), (3, .int w_9l3), (5, .int w_9l4), (7, .int 1000000000), (6, .int w_9l6), (0, .ref h), (1, .int b_), (2, .int w_)]) hx hb dX10_hire_127 hl (Nat.le_of_ble_eq_true rfl) rfl (fun ls hl => ?_)
                    refine lv_iinc (v := (w_9l6 + 1)) (lv' := [(6, .int (w_9l6 + 1)), (4, .int 1000000000), (3, .int w_9l3), (5, .int w_9l4), (7, .int 1000000000), (0, .ref h), (1, .int b_), (2, .int w_)]) hx hb dX10_hire_129 hl (k := 4) rfl rfl (Nat.le_of_ble_eq_true rfl) rfl (fun ls hl => ?_)
                    refine lv_goto (tgt := 39) hx hb dX10_hire_132 rfl ?_
                    exact ih_w_9 (w_9l6 + 1) w_9l4 1000000000 w_9l3 u_15 _ _ ls (cutP (isC := [1, 2, 3, 0]) hP rfl) (cutD (isC := [1, 2, 3, 0]) hD rfl rfl) hS (lv_sub hl [0, 3, 1, 2, 5, 6, 7] rfl) hF hE
                · replace hF := hF.2 c_37
                  rw [if_neg c_37] at hE
                  refine lv_iload hx hb dX10_hire_106 (lv_at hl 2 rfl) ?_
                  refine lv_goto (tgt := 112) hx hb dX10_hire_108 rfl ?_
                  refine lv_istore_n (lv' := [(3, .int w_9l6), (5, .int w_9l4), (7, .int 1000000000), (6, .int w_9l6), (4, .int w_9l4), (0, .ref h), (1, .int b_), (2, .int w_)]) hx hb dX10_hire_112 rfl hl (Nat.le_of_ble_eq_true rfl) rfl (fun ls hl => ?_)
                  refine lv_iload hx hb dX10_hire_113 (lv_at hl 2 rfl) ?_
                  refine lv_iload hx hb dX10_hire_115 (lv_at hl 4 rfl) ?_
                  refine lv_icmp_ge (tgt := 125) hx hb dX10_hire_117 rfl (fun c_39 => ?_) (fun c_39 => ?_)
                  · replace hF := hF.1 c_39
                    rw [if_pos c_39] at hE
                    refine lv_iload hx hb dX10_hire_125 (lv_at hl 4 rfl) ?_
                    refine lv_istore (lv' := [(4, .int w_9l4), (3, .int w_9l6), (5, .int w_9l4), (7, .int 1000000000), (6, .int w_9l6), (0, .ref h), (1, .int b_), (2, .int w_)]) hx hb dX10_hire_127 hl (Nat.le_of_ble_eq_true rfl) rfl (fun ls hl => ?_)
                    refine lv_iinc (v := (w_9l6 + 1)) (lv' := [(6, .int (w_9l6 + 1)), (4, .int w_9l4), (3, .int w_9l6), (5, .int w_9l4), (7, .int 1000000000), (0, .ref h), (1, .int b_), (2, .int w_)]) hx hb dX10_hire_129 hl (k := 4) rfl rfl (Nat.le_of_ble_eq_true rfl) rfl (fun ls hl => ?_)
                    refine lv_goto (tgt := 39) hx hb dX10_hire_132 rfl ?_
                    exact ih_w_9 (w_9l6 + 1) w_9l4 w_9l4 w_9l6 u_15 _ _ ls (cutP (isC := [1, 2, 3, 0]) hP rfl) (cutD (isC := [1, 2, 3, 0]) hD rfl rfl) hS (lv_sub hl [0, 3, 1, 2, 5, 6, 7] rfl) hF hE
                  · replace hF := hF.2 c_39
                    rw [if_neg c_39] at hE
                    refine lv_iload hx hb dX10_hire_120 (lv_at hl 2 rfl) ?_
                    refine lv_goto (tgt := 127) hx hb dX10_hire_122 rfl ?_
                    refine lv_istore (lv' := [(4, .int 1000000000), (3, .int w_9l6), (5, .int w_9l4), (7, .int 1000000000), (6, .int w_9l6), (0, .ref h), (1, .int b_), (2, .int w_)]) hx hb dX10_hire_127 hl (Nat.le_of_ble_eq_true rfl) rfl (fun ls hl => ?_)
                    refine lv_iinc (v := (w_9l6 + 1)) (lv' := [(6, .int (w_9l6 + 1)), (4, .int 1000000000), (3, .int w_9l6), (5, .int w_9l4), (7, .int 1000000000), (0, .ref h), (1, .int b_), (2, .int w_)]) hx hb dX10_hire_129 hl (k := 4) rfl rfl (Nat.le_of_ble_eq_true rfl) rfl (fun ls hl => ?_)
                    refine lv_goto (tgt := 39) hx hb dX10_hire_132 rfl ?_
                    exact ih_w_9 (w_9l6 + 1) w_9l4 1000000000 w_9l6 u_15 _ _ ls (cutP (isC := [1, 2, 3, 0]) hP rfl) (cutD (isC := [1, 2, 3, 0]) hD rfl rfl) hS (lv_sub hl [0, 3, 1, 2, 5, 6, 7] rfl) hF hE
      exact lp_39_w_9 10 0 1000000000 1000000000 (-1) G _ _ ls hP hD hS hl hF hE
    · replace hF := hF.1 c_8
      rw [if_pos c_8] at hE
      refine lv_ldc (v := (-1000000002)) hx hb hown (hts _ wd_507) dX10_hire_21 ?_
      exact hret (-1000000002) G _ _ _ _ dX10_hire_23 rfl hE (cutP (isC := [3, 0, 1, 2]) hP rfl) (cutD (isC := [3, 0, 1, 2]) hD rfl rfl) hS
  · replace hF := hF.1 c_4
    rw [if_pos c_4] at hE
    refine lv_ldc (v := (-1000000001)) hx hb hown (hts _ wd_580) dX10_hire_8 ?_
    exact hret (-1000000001) G _ _ _ _ dX10_hire_10 rfl hE (cutP (isC := [3, 0, 1, 2]) hP rfl) (cutD (isC := [3, 0, 1, 2]) hD rfl rfl) hS
noncomputable def f_m_toldHer_50 (f9 : Nat → Int32) (f10 : Nat → Int32) (f8 : Nat → Int32) (b_ : Int32) (k_ : Int32) (i_ : Int32) (w_9l7 : Int32) (n : Nat) : Int32 → Int32 → Int32 → Int32 → (Nat → Int32) → Int32 × Int32 × Int32 × Int32 × (Nat → Int32) := Nat.rec (motive := fun _ => Int32 → Int32 → Int32 → Int32 → (Nat → Int32) → Int32 × Int32 × Int32 × Int32 × (Nat → Int32)) (fun w_13l8 w_13l6 w_13l5 w_13l4 w_13m0 => (w_13l8, w_13l6, w_13l5, w_13l4, w_13m0)) (fun n ih w_13l8 w_13l6 w_13l5 w_13l4 w_13m0 => (if (w_13m0 4) ≤ w_13l8 then (w_13l8, w_13l6, w_13l5, w_13l4, w_13m0) else (if ((f_m_quarrels w_13m0 f10 w_9l7 w_13l8 (f9 (w_9l7 : Int32).toNatClampNeg) (f8 (b_ : Int32).toNatClampNeg)) 34) = 0 then (if ((f_m_quarrels w_13m0 f10 w_9l7 w_13l8 (f9 (w_9l7 : Int32).toNatClampNeg) (f8 (b_ : Int32).toNatClampNeg)) 33) = 0 then (if ((f_m_quarrels w_13m0 f10 w_9l7 w_13l8 (f9 (w_9l7 : Int32).toNatClampNeg) (f8 (b_ : Int32).toNatClampNeg)) 32) = k_ then (if w_13l4 = i_ then (ih (w_13l8 + 1) ((10 * w_9l7) + w_13l8) (w_13l5 ||| (1 <<< (w_13l8 &&& 31))) (w_13l4 + 1) (f_m_quarrels w_13m0 f10 w_9l7 w_13l8 (f9 (w_9l7 : Int32).toNatClampNeg) (f8 (b_ : Int32).toNatClampNeg))) else (ih (w_13l8 + 1) w_13l6 (w_13l5 ||| (1 <<< (w_13l8 &&& 31))) (w_13l4 + 1) (f_m_quarrels w_13m0 f10 w_9l7 w_13l8 (f9 (w_9l7 : Int32).toNatClampNeg) (f8 (b_ : Int32).toNatClampNeg)))) else (ih (w_13l8 + 1) w_13l6 w_13l5 w_13l4 (f_m_quarrels w_13m0 f10 w_9l7 w_13l8 (f9 (w_9l7 : Int32).toNatClampNeg) (f8 (b_ : Int32).toNatClampNeg)))) else (ih (w_13l8 + 1) w_13l6 w_13l5 w_13l4 (f_m_quarrels w_13m0 f10 w_9l7 w_13l8 (f9 (w_9l7 : Int32).toNatClampNeg) (f8 (b_ : Int32).toNatClampNeg)))) else (ih (w_13l8 + 1) w_13l6 w_13l5 w_13l4 (f_m_quarrels w_13m0 f10 w_9l7 w_13l8 (f9 (w_9l7 : Int32).toNatClampNeg) (f8 (b_ : Int32).toNatClampNeg)))))) n
theorem f_m_toldHer_50_s (f9 : Nat → Int32) (f10 : Nat → Int32) (f8 : Nat → Int32) (b_ : Int32) (k_ : Int32) (i_ : Int32) (w_9l7 : Int32) (n : Nat) (w_13l8 : Int32) (w_13l6 : Int32) (w_13l5 : Int32) (w_13l4 : Int32) (w_13m0 : (Nat → Int32)) : f_m_toldHer_50 f9 f10 f8 b_ k_ i_ w_9l7 (n + 1) w_13l8 w_13l6 w_13l5 w_13l4 w_13m0 = (if (w_13m0 4) ≤ w_13l8 then (w_13l8, w_13l6, w_13l5, w_13l4, w_13m0) else (if ((f_m_quarrels w_13m0 f10 w_9l7 w_13l8 (f9 (w_9l7 : Int32).toNatClampNeg) (f8 (b_ : Int32).toNatClampNeg)) 34) = 0 then (if ((f_m_quarrels w_13m0 f10 w_9l7 w_13l8 (f9 (w_9l7 : Int32).toNatClampNeg) (f8 (b_ : Int32).toNatClampNeg)) 33) = 0 then (if ((f_m_quarrels w_13m0 f10 w_9l7 w_13l8 (f9 (w_9l7 : Int32).toNatClampNeg) (f8 (b_ : Int32).toNatClampNeg)) 32) = k_ then (if w_13l4 = i_ then (f_m_toldHer_50 f9 f10 f8 b_ k_ i_ w_9l7 n (w_13l8 + 1) ((10 * w_9l7) + w_13l8) (w_13l5 ||| (1 <<< (w_13l8 &&& 31))) (w_13l4 + 1) (f_m_quarrels w_13m0 f10 w_9l7 w_13l8 (f9 (w_9l7 : Int32).toNatClampNeg) (f8 (b_ : Int32).toNatClampNeg))) else (f_m_toldHer_50 f9 f10 f8 b_ k_ i_ w_9l7 n (w_13l8 + 1) w_13l6 (w_13l5 ||| (1 <<< (w_13l8 &&& 31))) (w_13l4 + 1) (f_m_quarrels w_13m0 f10 w_9l7 w_13l8 (f9 (w_9l7 : Int32).toNatClampNeg) (f8 (b_ : Int32).toNatClampNeg)))) else (f_m_toldHer_50 f9 f10 f8 b_ k_ i_ w_9l7 n (w_13l8 + 1) w_13l6 w_13l5 w_13l4 (f_m_quarrels w_13m0 f10 w_9l7 w_13l8 (f9 (w_9l7 : Int32).toNatClampNeg) (f8 (b_ : Int32).toNatClampNeg)))) else (f_m_toldHer_50 f9 f10 f8 b_ k_ i_ w_9l7 n (w_13l8 + 1) w_13l6 w_13l5 w_13l4 (f_m_quarrels w_13m0 f10 w_9l7 w_13l8 (f9 (w_9l7 : Int32).toNatClampNeg) (f8 (b_ : Int32).toNatClampNeg)))) else (f_m_toldHer_50 f9 f10 f8 b_ k_ i_ w_9l7 n (w_13l8 + 1) w_13l6 w_13l5 w_13l4 (f_m_quarrels w_13m0 f10 w_9l7 w_13l8 (f9 (w_9l7 : Int32).toNatClampNeg) (f8 (b_ : Int32).toNatClampNeg))))) := rfl
def S_m_toldHer_50 (f9 : Nat → Int32) (f10 : Nat → Int32) (f8 : Nat → Int32) (b_ : Int32) (k_ : Int32) (i_ : Int32) (w_9l7 : Int32) (K : Int32 → Int32 → Int32 → Int32 → (Nat → Int32) → Prop) (n : Nat) : Int32 → Int32 → Int32 → Int32 → (Nat → Int32) → Prop := Nat.rec (motive := fun _ => Int32 → Int32 → Int32 → Int32 → (Nat → Int32) → Prop) (fun _ _ _ _ _ => False) (fun n ih w_13l8 w_13l6 w_13l5 w_13l4 w_13m0 => (((w_13m0 4) ≤ w_13l8 → (K w_13l8 w_13l6 w_13l5 w_13l4 w_13m0)) ∧ (¬ (w_13m0 4) ≤ w_13l8 → (vp_in w_9l7 6 ∧ (vp_in b_ 6 ∧ ((S_m_quarrels w_13m0 f10 w_9l7 w_13l8 (f9 (w_9l7 : Int32).toNatClampNeg) (f8 (b_ : Int32).toNatClampNeg)) ∧ ((((f_m_quarrels w_13m0 f10 w_9l7 w_13l8 (f9 (w_9l7 : Int32).toNatClampNeg) (f8 (b_ : Int32).toNatClampNeg)) 34) = 0 → ((((f_m_quarrels w_13m0 f10 w_9l7 w_13l8 (f9 (w_9l7 : Int32).toNatClampNeg) (f8 (b_ : Int32).toNatClampNeg)) 33) = 0 → ((((f_m_quarrels w_13m0 f10 w_9l7 w_13l8 (f9 (w_9l7 : Int32).toNatClampNeg) (f8 (b_ : Int32).toNatClampNeg)) 32) = k_ → ((w_13l4 = i_ → (ih (w_13l8 + 1) ((10 * w_9l7) + w_13l8) (w_13l5 ||| (1 <<< (w_13l8 &&& 31))) (w_13l4 + 1) (f_m_quarrels w_13m0 f10 w_9l7 w_13l8 (f9 (w_9l7 : Int32).toNatClampNeg) (f8 (b_ : Int32).toNatClampNeg)))) ∧ (¬ w_13l4 = i_ → (ih (w_13l8 + 1) w_13l6 (w_13l5 ||| (1 <<< (w_13l8 &&& 31))) (w_13l4 + 1) (f_m_quarrels w_13m0 f10 w_9l7 w_13l8 (f9 (w_9l7 : Int32).toNatClampNeg) (f8 (b_ : Int32).toNatClampNeg)))))) ∧ (¬ ((f_m_quarrels w_13m0 f10 w_9l7 w_13l8 (f9 (w_9l7 : Int32).toNatClampNeg) (f8 (b_ : Int32).toNatClampNeg)) 32) = k_ → (ih (w_13l8 + 1) w_13l6 w_13l5 w_13l4 (f_m_quarrels w_13m0 f10 w_9l7 w_13l8 (f9 (w_9l7 : Int32).toNatClampNeg) (f8 (b_ : Int32).toNatClampNeg)))))) ∧ (¬ ((f_m_quarrels w_13m0 f10 w_9l7 w_13l8 (f9 (w_9l7 : Int32).toNatClampNeg) (f8 (b_ : Int32).toNatClampNeg)) 33) = 0 → (ih (w_13l8 + 1) w_13l6 w_13l5 w_13l4 (f_m_quarrels w_13m0 f10 w_9l7 w_13l8 (f9 (w_9l7 : Int32).toNatClampNeg) (f8 (b_ : Int32).toNatClampNeg)))))) ∧ (¬ ((f_m_quarrels w_13m0 f10 w_9l7 w_13l8 (f9 (w_9l7 : Int32).toNatClampNeg) (f8 (b_ : Int32).toNatClampNeg)) 34) = 0 → (ih (w_13l8 + 1) w_13l6 w_13l5 w_13l4 (f_m_quarrels w_13m0 f10 w_9l7 w_13l8 (f9 (w_9l7 : Int32).toNatClampNeg) (f8 (b_ : Int32).toNatClampNeg))))))))))) n
theorem S_m_toldHer_50_s (f9 : Nat → Int32) (f10 : Nat → Int32) (f8 : Nat → Int32) (b_ : Int32) (k_ : Int32) (i_ : Int32) (w_9l7 : Int32) (K : Int32 → Int32 → Int32 → Int32 → (Nat → Int32) → Prop) (n : Nat) (w_13l8 : Int32) (w_13l6 : Int32) (w_13l5 : Int32) (w_13l4 : Int32) (w_13m0 : (Nat → Int32)) : S_m_toldHer_50 f9 f10 f8 b_ k_ i_ w_9l7 K (n + 1) w_13l8 w_13l6 w_13l5 w_13l4 w_13m0 = ((((w_13m0 4) ≤ w_13l8 → (K w_13l8 w_13l6 w_13l5 w_13l4 w_13m0)) ∧ (¬ (w_13m0 4) ≤ w_13l8 → (vp_in w_9l7 6 ∧ (vp_in b_ 6 ∧ ((S_m_quarrels w_13m0 f10 w_9l7 w_13l8 (f9 (w_9l7 : Int32).toNatClampNeg) (f8 (b_ : Int32).toNatClampNeg)) ∧ ((((f_m_quarrels w_13m0 f10 w_9l7 w_13l8 (f9 (w_9l7 : Int32).toNatClampNeg) (f8 (b_ : Int32).toNatClampNeg)) 34) = 0 → ((((f_m_quarrels w_13m0 f10 w_9l7 w_13l8 (f9 (w_9l7 : Int32).toNatClampNeg) (f8 (b_ : Int32).toNatClampNeg)) 33) = 0 → ((((f_m_quarrels w_13m0 f10 w_9l7 w_13l8 (f9 (w_9l7 : Int32).toNatClampNeg) (f8 (b_ : Int32).toNatClampNeg)) 32) = k_ → ((w_13l4 = i_ → (S_m_toldHer_50 f9 f10 f8 b_ k_ i_ w_9l7 K n (w_13l8 + 1) ((10 * w_9l7) + w_13l8) (w_13l5 ||| (1 <<< (w_13l8 &&& 31))) (w_13l4 + 1) (f_m_quarrels w_13m0 f10 w_9l7 w_13l8 (f9 (w_9l7 : Int32).toNatClampNeg) (f8 (b_ : Int32).toNatClampNeg)))) ∧ (¬ w_13l4 = i_ → (S_m_toldHer_50 f9 f10 f8 b_ k_ i_ w_9l7 K n (w_13l8 + 1) w_13l6 (w_13l5 ||| (1 <<< (w_13l8 &&& 31))) (w_13l4 + 1) (f_m_quarrels w_13m0 f10 w_9l7 w_13l8 (f9 (w_9l7 : Int32).toNatClampNeg) (f8 (b_ : Int32).toNatClampNeg)))))) ∧ (¬ ((f_m_quarrels w_13m0 f10 w_9l7 w_13l8 (f9 (w_9l7 : Int32).toNatClampNeg) (f8 (b_ : Int32).toNatClampNeg)) 32) = k_ → (S_m_toldHer_50 f9 f10 f8 b_ k_ i_ w_9l7 K n (w_13l8 + 1) w_13l6 w_13l5 w_13l4 (f_m_quarrels w_13m0 f10 w_9l7 w_13l8 (f9 (w_9l7 : Int32).toNatClampNeg) (f8 (b_ : Int32).toNatClampNeg)))))) ∧ (¬ ((f_m_quarrels w_13m0 f10 w_9l7 w_13l8 (f9 (w_9l7 : Int32).toNatClampNeg) (f8 (b_ : Int32).toNatClampNeg)) 33) = 0 → (S_m_toldHer_50 f9 f10 f8 b_ k_ i_ w_9l7 K n (w_13l8 + 1) w_13l6 w_13l5 w_13l4 (f_m_quarrels w_13m0 f10 w_9l7 w_13l8 (f9 (w_9l7 : Int32).toNatClampNeg) (f8 (b_ : Int32).toNatClampNeg)))))) ∧ (¬ ((f_m_quarrels w_13m0 f10 w_9l7 w_13l8 (f9 (w_9l7 : Int32).toNatClampNeg) (f8 (b_ : Int32).toNatClampNeg)) 34) = 0 → (S_m_toldHer_50 f9 f10 f8 b_ k_ i_ w_9l7 K n (w_13l8 + 1) w_13l6 w_13l5 w_13l4 (f_m_quarrels w_13m0 f10 w_9l7 w_13l8 (f9 (w_9l7 : Int32).toNatClampNeg) (f8 (b_ : Int32).toNatClampNeg))))))))))) := rfl
noncomputable def f_m_toldHer_38 (f9 : Nat → Int32) (f10 : Nat → Int32) (f8 : Nat → Int32) (b_ : Int32) (k_ : Int32) (i_ : Int32) (n : Nat) : Int32 → Int32 → Int32 → Int32 → (Nat → Int32) → Int32 × Int32 × Int32 × Int32 × (Nat → Int32) := Nat.rec (motive := fun _ => Int32 → Int32 → Int32 → Int32 → (Nat → Int32) → Int32 × Int32 × Int32 × Int32 × (Nat → Int32)) (fun w_9l7 w_9l6 w_9l5 w_9l4 w_9m0 => (w_9l7, w_9l6, w_9l5, w_9l4, w_9m0)) (fun n ih w_9l7 w_9l6 w_9l5 w_9l4 w_9m0 => (if (w_9m0 5) ≤ w_9l7 then (w_9l7, w_9l6, w_9l5, w_9l4, w_9m0) else (match ((f_m_toldHer_50 f9 f10 f8 b_ k_ i_ w_9l7 10 0 w_9l6 w_9l5 w_9l4 w_9m0) : Int32 × Int32 × Int32 × Int32 × (Nat → Int32)) with | (w_13l8, w_13l6, w_13l5, w_13l4, w_13m0) => (ih (w_9l7 + 1) w_13l6 w_13l5 w_13l4 w_13m0)))) n
theorem f_m_toldHer_38_s (f9 : Nat → Int32) (f10 : Nat → Int32) (f8 : Nat → Int32) (b_ : Int32) (k_ : Int32) (i_ : Int32) (n : Nat) (w_9l7 : Int32) (w_9l6 : Int32) (w_9l5 : Int32) (w_9l4 : Int32) (w_9m0 : (Nat → Int32)) : f_m_toldHer_38 f9 f10 f8 b_ k_ i_ (n + 1) w_9l7 w_9l6 w_9l5 w_9l4 w_9m0 = (if (w_9m0 5) ≤ w_9l7 then (w_9l7, w_9l6, w_9l5, w_9l4, w_9m0) else (match ((f_m_toldHer_50 f9 f10 f8 b_ k_ i_ w_9l7 10 0 w_9l6 w_9l5 w_9l4 w_9m0) : Int32 × Int32 × Int32 × Int32 × (Nat → Int32)) with | (w_13l8, w_13l6, w_13l5, w_13l4, w_13m0) => (f_m_toldHer_38 f9 f10 f8 b_ k_ i_ n (w_9l7 + 1) w_13l6 w_13l5 w_13l4 w_13m0))) := rfl
def S_m_toldHer_38 (f9 : Nat → Int32) (f10 : Nat → Int32) (f8 : Nat → Int32) (b_ : Int32) (k_ : Int32) (i_ : Int32) (K : Int32 → Int32 → Int32 → Int32 → (Nat → Int32) → Prop) (n : Nat) : Int32 → Int32 → Int32 → Int32 → (Nat → Int32) → Prop := Nat.rec (motive := fun _ => Int32 → Int32 → Int32 → Int32 → (Nat → Int32) → Prop) (fun _ _ _ _ _ => False) (fun n ih w_9l7 w_9l6 w_9l5 w_9l4 w_9m0 => (((w_9m0 5) ≤ w_9l7 → (K w_9l7 w_9l6 w_9l5 w_9l4 w_9m0)) ∧ (¬ (w_9m0 5) ≤ w_9l7 → (S_m_toldHer_50 f9 f10 f8 b_ k_ i_ w_9l7 (fun (w_13l8 : Int32) (w_13l6 : Int32) (w_13l5 : Int32) (w_13l4 : Int32) (w_13m0 : (Nat → Int32)) => (ih (w_9l7 + 1) w_13l6 w_13l5 w_13l4 w_13m0)) 10 0 w_9l6 w_9l5 w_9l4 w_9m0)))) n
theorem S_m_toldHer_38_s (f9 : Nat → Int32) (f10 : Nat → Int32) (f8 : Nat → Int32) (b_ : Int32) (k_ : Int32) (i_ : Int32) (K : Int32 → Int32 → Int32 → Int32 → (Nat → Int32) → Prop) (n : Nat) (w_9l7 : Int32) (w_9l6 : Int32) (w_9l5 : Int32) (w_9l4 : Int32) (w_9m0 : (Nat → Int32)) : S_m_toldHer_38 f9 f10 f8 b_ k_ i_ K (n + 1) w_9l7 w_9l6 w_9l5 w_9l4 w_9m0 = ((((w_9m0 5) ≤ w_9l7 → (K w_9l7 w_9l6 w_9l5 w_9l4 w_9m0)) ∧ (¬ (w_9m0 5) ≤ w_9l7 → (S_m_toldHer_50 f9 f10 f8 b_ k_ i_ w_9l7 (fun (w_13l8 : Int32) (w_13l6 : Int32) (w_13l5 : Int32) (w_13l4 : Int32) (w_13m0 : (Nat → Int32)) => (S_m_toldHer_38 f9 f10 f8 b_ k_ i_ K n (w_9l7 + 1) w_13l6 w_13l5 w_13l4 w_13m0)) 10 0 w_9l6 w_9l5 w_9l4 w_9m0)))) := rfl
noncomputable def f_m_toldHer (G : Nat → Int32) (f9 : Nat → Int32) (f10 : Nat → Int32) (f8 : Nat → Int32) (b_ : Int32) (k_ : Int32) (i_ : Int32) : Int32 × (Nat → Int32) := (if (f_m_isBridge G b_) = 0 then ((-1000000001), G) else (if (f_m_in k_.toInt64 1 60) = 0 then ((-1000000002), G) else (match ((f_m_toldHer_38 f9 f10 f8 b_ k_ i_ 10 0 (-1) 0 0 G) : Int32 × Int32 × Int32 × Int32 × (Nat → Int32)) with | (w_9l7, w_9l6, w_9l5, w_9l4, w_9m0) => (if i_ = (-1) then (w_9l4, w_9m0) else (if i_ = (-2) then (w_9l5, w_9m0) else (w_9l6, w_9m0))))))
def S_m_toldHer (G : Nat → Int32) (f9 : Nat → Int32) (f10 : Nat → Int32) (f8 : Nat → Int32) (b_ : Int32) (k_ : Int32) (i_ : Int32) : Prop := ((S_m_isBridge G b_) ∧ (((f_m_isBridge G b_) = 0 → True) ∧ (¬ (f_m_isBridge G b_) = 0 → ((S_m_in k_.toInt64 1 60) ∧ (((f_m_in k_.toInt64 1 60) = 0 → True) ∧ (¬ (f_m_in k_.toInt64 1 60) = 0 → (S_m_toldHer_38 f9 f10 f8 b_ k_ i_ (fun (w_9l7 : Int32) (w_9l6 : Int32) (w_9l5 : Int32) (w_9l4 : Int32) (w_9m0 : (Nat → Int32)) => ((i_ = (-1) → True) ∧ (¬ i_ = (-1) → ((i_ = (-2) → True) ∧ (¬ i_ = (-2) → True))))) 10 0 (-1) 0 0 G)))))))
def rm_m_toldHer : Room := { frames := 2, cells := 0, slots := 0, locals := 50 }
set_option maxHeartbeats 4000000 in
set_option maxRecDepth 100000 in
theorem m_toldHer {l : Launch} {D : va_G} {cI cZ : ClassId} {sz : Nat} (Rf : Nat → Nat) (h : Nat) (G : Nat → Int32) (f9 : Nat → Int32) (f10 : Nat → Int32) (f8 : Nat → Int32) (b_ : Int32) (k_ : Int32) (i_ : Int32) (hF : S_m_toldHer G f9 f10 f8 b_ k_ i_) : KI l yX10_toldHer cX10_toldHer 9 (some .int) rm_m_toldHer D cI cZ [.ref h, .int b_, .int k_, .int i_] sz [(h, .inr (10, ML G Rf)), ((Rf 9), .inl (cI, 6, .inl f9)), ((Rf 10), .inl (cI, 30, .inl f10)), ((Rf 8), .inl (cI, 6, .inl f8))] (fun (r : Int32) (u : (Nat → Int32)) => (r, u) = f_m_toldHer G f9 f10 f8 b_ k_ i_) (fun (u : (Nat → Int32)) => [(h, .inr (10, ML u Rf)), ((Rf 9), .inl (cI, 6, .inl f9)), ((Rf 10), .inl (cI, 30, .inl f10)), ((Rf 8), .inl (cI, 6, .inl f8))]) := by
  refine KI.go rfl (Nat.le_of_ble_eq_true rfl) ?_
  intro p e s m args below meth c ls A Q hx hb hml hts hown hin hP hK hD hS hA hN hl hret
  have hl : lv_has ls 9 [(0, .ref h), (1, .int b_), (2, .int k_), (3, .int i_)] := hl
  rw [S_m_toldHer] at hF
  obtain ⟨RES, hE⟩ : ∃ xRES, f_m_toldHer G f9 f10 f8 b_ k_ i_ = xRES := ⟨_, rfl⟩
  rw [hE] at hret
  rw [f_m_toldHer] at hE
  refine lv_aload_n hx hb dX10_toldHer_0 rfl (lv_at hl 0 rfl) ?_
  refine lv_iload_n hx hb dX10_toldHer_1 rfl (lv_at hl 1 rfl) ?_
  obtain ⟨hs_1, hF⟩ := hF
  refine cVi (wr := [((Rf 9), .inl (cI, 6, .inl f9)), ((Rf 10), .inl (cI, 30, .inl f10)), ((Rf 8), .inl (cI, 6, .inl f8))]) (rest := []) (m_isBridge Rf h G b_ hs_1) okV_X10_isBridge wd_571 hx hb hml hown hts hK hP hD hS hA hN hl.1 [0] [1, 2, 3] rfl rfl rfl rfl (of_decide_eq_true rfl) rfl rfl rfl (Nat.le_of_ble_eq_true rfl) (Nat.le_of_ble_eq_true rfl) (Nat.le_of_ble_eq_true rfl) (Nat.le_of_ble_eq_true rfl) (Nat.le_of_ble_eq_true rfl) dX10_toldHer_2 (fun r_3 u_2 H locs hw_u_2 hP hD hS => ?_)
  replace hw_u_2 : r_3 = (f_m_isBridge G b_) := hw_u_2
  rw [hw_u_2]
  clear hw_u_2
  have hP : va_P D classes [((Rf 9), .inl (cI, 6, .inl f9)), ((Rf 10), .inl (cI, 30, .inl f10)), ((Rf 8), .inl (cI, 6, .inl f8)), (h, .inr (10, ML G Rf))] H := hP
  have hD : va_D A [((Rf 9), .inl (cI, 6, .inl f9)), ((Rf 10), .inl (cI, 30, .inl f10)), ((Rf 8), .inl (cI, 6, .inl f8)), (h, .inr (10, ML G Rf))] := hD
  refine lv_if_ne (tgt := 11) hx hb dX10_toldHer_5 rfl (fun c_4 => ?_) (fun c_4 => ?_)
  · replace hF := hF.2 c_4
    rw [if_neg c_4] at hE
    refine lv_iload_n hx hb dX10_toldHer_11 rfl (lv_at hl 2 rfl) ?_
    refine lv_i2l (v := k_.toInt64) hx hb dX10_toldHer_12 rfl ?_
    refine lv_lconst (v := 1) hx hb dX10_toldHer_13 rfl ?_
    refine lv_ldc2 (v := 60) hx hb hown (hts _ wd_667) dX10_toldHer_14 ?_
    obtain ⟨hs_5, hF⟩ := hF
    refine cSi (wr := [((Rf 9), .inl (cI, 6, .inl f9)), ((Rf 10), .inl (cI, 30, .inl f10)), ((Rf 8), .inl (cI, 6, .inl f8)), (h, .inr (10, ML G Rf))]) (rest := []) (m_in k_.toInt64 1 60 hs_5) okS_X10_in wd_495 hx hb hml hown hts hK hP hD hS hA hN hl.1 [] [0, 1, 2, 3] rfl rfl rfl rfl (of_decide_eq_true rfl) rfl (Nat.le_of_ble_eq_true rfl) (Nat.le_of_ble_eq_true rfl) (Nat.le_of_ble_eq_true rfl) (Nat.le_of_ble_eq_true rfl) (Nat.le_of_ble_eq_true rfl) dX10_toldHer_17 (fun r_7 u_6 H locs hw_u_6 hP hD hS => ?_)
    replace hw_u_6 : r_7 = (f_m_in k_.toInt64 1 60) := hw_u_6
    rw [hw_u_6]
    clear hw_u_6
    have hP : va_P D classes [((Rf 9), .inl (cI, 6, .inl f9)), ((Rf 10), .inl (cI, 30, .inl f10)), ((Rf 8), .inl (cI, 6, .inl f8)), (h, .inr (10, ML G Rf))] H := hP
    have hD : va_D A [((Rf 9), .inl (cI, 6, .inl f9)), ((Rf 10), .inl (cI, 30, .inl f10)), ((Rf 8), .inl (cI, 6, .inl f8)), (h, .inr (10, ML G Rf))] := hD
    refine lv_if_ne (tgt := 26) hx hb dX10_toldHer_20 rfl (fun c_8 => ?_) (fun c_8 => ?_)
    · replace hF := hF.2 c_8
      rw [if_neg c_8] at hE
      refine lv_iconst (v := 0) hx hb dX10_toldHer_26 rfl ?_
      refine lv_istore (lv' := [(4, .int 0), (0, .ref h), (1, .int b_), (2, .int k_), (3, .int i_)]) hx hb dX10_toldHer_27 hl (Nat.le_of_ble_eq_true rfl) rfl (fun ls hl => ?_)
      refine lv_iconst (v := 0) hx hb dX10_toldHer_29 rfl ?_
      refine lv_istore (lv' := [(5, .int 0), (4, .int 0), (0, .ref h), (1, .int b_), (2, .int k_), (3, .int i_)]) hx hb dX10_toldHer_30 hl (Nat.le_of_ble_eq_true rfl) rfl (fun ls hl => ?_)
      refine lv_iconst (v := (-1)) hx hb dX10_toldHer_32 rfl ?_
      refine lv_istore (lv' := [(6, .int (-1)), (5, .int 0), (4, .int 0), (0, .ref h), (1, .int b_), (2, .int k_), (3, .int i_)]) hx hb dX10_toldHer_33 hl (Nat.le_of_ble_eq_true rfl) rfl (fun ls hl => ?_)
      refine lv_iconst (v := 0) hx hb dX10_toldHer_35 rfl ?_
      refine lv_istore (lv' := [(7, .int 0), (6, .int (-1)), (5, .int 0), (4, .int 0), (0, .ref h), (1, .int b_), (2, .int k_), (3, .int i_)]) hx hb dX10_toldHer_36 hl (Nat.le_of_ble_eq_true rfl) rfl (fun ls hl => ?_)
      have ex_38_w_9 : ∀ (w_9l7 : Int32) (w_9l6 : Int32) (w_9l5 : Int32) (w_9l4 : Int32) (w_9m0 : (Nat → Int32)) (H : Heap) (locs : List Loc) (ls : Array Slot), va_P D classes [((Rf 9), .inl (cI, 6, .inl f9)), ((Rf 10), .inl (cI, 30, .inl f10)), ((Rf 8), .inl (cI, 6, .inl f8)), (h, .inr (10, ML w_9m0 Rf))] H → va_D A [((Rf 9), .inl (cI, 6, .inl f9)), ((Rf 10), .inl (cI, 30, .inl f10)), ((Rf 8), .inl (cI, 6, .inl f8)), (h, .inr (10, ML w_9m0 Rf))] → va_S A s.heap H locs → lv_has ls 9 [(7, .int w_9l7), (6, .int w_9l6), (5, .int w_9l5), (4, .int w_9l4), (0, .ref h), (1, .int b_), (2, .int k_), (3, .int i_)] → (((i_ = (-1) → True) ∧ (¬ i_ = (-1) → ((i_ = (-2) → True) ∧ (¬ i_ = (-2) → True))))) → (((if i_ = (-1) then (w_9l4, w_9m0) else (if i_ = (-2) then (w_9l5, w_9m0) else (w_9l6, w_9m0)))) : Int32 × (Nat → Int32)) = RES → W p l e rm_m_toldHer s m args below meth c H locs 0 0 Q (F0 m 147 ls []) := by
        intro w_9l7 w_9l6 w_9l5 w_9l4 w_9m0 H locs ls hP hD hS hl hF hE
        refine lv_iload_n hx hb dX10_toldHer_147 rfl (lv_at hl 7 rfl) ?_
        refine lv_iconst (v := (-1)) hx hb dX10_toldHer_148 rfl ?_
        refine lv_icmp_ne (tgt := 157) hx hb dX10_toldHer_149 rfl (fun c_10 => ?_) (fun c_10 => ?_)
        · replace hF := hF.2 c_10
          rw [if_neg c_10] at hE
          refine lv_iload_n hx hb dX10_toldHer_157 rfl (lv_at hl 7 rfl) ?_
          refine lv_bipush (v := (-2)) hx hb dX10_toldHer_158 rfl ?_
          refine lv_icmp_ne (tgt := 168) hx hb dX10_toldHer_160 rfl (fun c_11 => ?_) (fun c_11 => ?_)
          · replace hF := hF.2 c_11
            rw [if_neg c_11] at hE
            refine lv_iload hx hb dX10_toldHer_168 (lv_at hl 1 rfl) ?_
            exact hret w_9l6 w_9m0 _ _ _ _ dX10_toldHer_170 rfl hE (cutP (isC := [3, 0, 1, 2]) hP rfl) (cutD (isC := [3, 0, 1, 2]) hD rfl rfl) hS
          · replace hF := hF.1 c_11
            rw [if_pos c_11] at hE
            refine lv_iload hx hb dX10_toldHer_163 (lv_at hl 2 rfl) ?_
            refine lv_goto (tgt := 170) hx hb dX10_toldHer_165 rfl ?_
            exact hret w_9l5 w_9m0 _ _ _ _ dX10_toldHer_170 rfl hE (cutP (isC := [3, 0, 1, 2]) hP rfl) (cutD (isC := [3, 0, 1, 2]) hD rfl rfl) hS
        · replace hF := hF.1 c_10
          rw [if_pos c_10] at hE
          refine lv_iload hx hb dX10_toldHer_152 (lv_at hl 3 rfl) ?_
          refine lv_goto (tgt := 170) hx hb dX10_toldHer_154 rfl ?_
          exact hret w_9l4 w_9m0 _ _ _ _ dX10_toldHer_170 rfl hE (cutP (isC := [3, 0, 1, 2]) hP rfl) (cutD (isC := [3, 0, 1, 2]) hD rfl rfl) hS
      have lp_38_w_9 : ∀ (n_w_9 : Nat) (w_9l7 : Int32) (w_9l6 : Int32) (w_9l5 : Int32) (w_9l4 : Int32) (w_9m0 : (Nat → Int32)) (H : Heap) (locs : List Loc) (ls : Array Slot), va_P D classes [((Rf 9), .inl (cI, 6, .inl f9)), ((Rf 10), .inl (cI, 30, .inl f10)), ((Rf 8), .inl (cI, 6, .inl f8)), (h, .inr (10, ML w_9m0 Rf))] H → va_D A [((Rf 9), .inl (cI, 6, .inl f9)), ((Rf 10), .inl (cI, 30, .inl f10)), ((Rf 8), .inl (cI, 6, .inl f8)), (h, .inr (10, ML w_9m0 Rf))] → va_S A s.heap H locs → lv_has ls 9 [(7, .int w_9l7), (6, .int w_9l6), (5, .int w_9l5), (4, .int w_9l4), (0, .ref h), (1, .int b_), (2, .int k_), (3, .int i_)] → (S_m_toldHer_38 f9 f10 f8 b_ k_ i_ (fun (w_9l7 : Int32) (w_9l6 : Int32) (w_9l5 : Int32) (w_9l4 : Int32) (w_9m0 : (Nat → Int32)) => ((i_ = (-1) → True) ∧ (¬ i_ = (-1) → ((i_ = (-2) → True) ∧ (¬ i_ = (-2) → True))))) n_w_9 w_9l7 w_9l6 w_9l5 w_9l4 w_9m0) → ((match ((f_m_toldHer_38 f9 f10 f8 b_ k_ i_ n_w_9 w_9l7 w_9l6 w_9l5 w_9l4 w_9m0) : Int32 × Int32 × Int32 × Int32 × (Nat → Int32)) with | (w_9l7, w_9l6, w_9l5, w_9l4, w_9m0) => (if i_ = (-1) then (w_9l4, w_9m0) else (if i_ = (-2) then (w_9l5, w_9m0) else (w_9l6, w_9m0)))) : Int32 × (Nat → Int32)) = RES → W p l e rm_m_toldHer s m args below meth c H locs 0 0 Q (F0 m 38 ls []) := by
        intro n_w_9
        induction n_w_9 with
        | zero => intro w_9l7 w_9l6 w_9l5 w_9l4 w_9m0 H locs ls hP hD hS hl hF hE; exact False.elim hF
        | succ n_w_9 ih_w_9 =>
          intro w_9l7 w_9l6 w_9l5 w_9l4 w_9m0 H locs ls hP hD hS hl hF hE
          rw [S_m_toldHer_38_s] at hF
          rw [f_m_toldHer_38_s] at hE
          refine lv_iload hx hb dX10_toldHer_38 (lv_at hl 0 rfl) ?_
          refine lv_aload_n hx hb dX10_toldHer_40 rfl (lv_at hl 4 rfl) ?_
          refine va_get (D := D) (ci := 10) (v := .int (w_9m0 5)) (C := RX10) (T := TX10) (N := 45) hx hb hts iX10 hown hK hP 3 rfl rfl 5 (Nat.le_of_ble_eq_true rfl) (hts _ wd_499) (fun _ h9 => h9) rfl dX10_toldHer_41 ?_
          refine lv_icmp_ge (tgt := 147) hx hb dX10_toldHer_44 rfl (fun c_12 => ?_) (fun c_12 => ?_)
          · replace hF := hF.1 c_12
            rw [if_pos c_12] at hE
            exact ex_38_w_9 w_9l7 w_9l6 w_9l5 w_9l4 w_9m0 _ _ ls hP hD hS (lv_sub hl [0, 1, 2, 3, 4, 5, 6, 7] rfl) hF hE
          · replace hF := hF.2 c_12
            rw [if_neg c_12] at hE
            refine lv_iconst (v := 0) hx hb dX10_toldHer_47 rfl ?_
            refine lv_istore (lv' := [(8, .int 0), (7, .int w_9l7), (6, .int w_9l6), (5, .int w_9l5), (4, .int w_9l4), (0, .ref h), (1, .int b_), (2, .int k_), (3, .int i_)]) hx hb dX10_toldHer_48 hl (Nat.le_of_ble_eq_true rfl) rfl (fun ls hl => ?_)
            have ex_50_w_13 : ∀ (w_13l8 : Int32) (w_13l6 : Int32) (w_13l5 : Int32) (w_13l4 : Int32) (w_13m0 : (Nat → Int32)) (H : Heap) (locs : List Loc) (ls : Array Slot), va_P D classes [((Rf 9), .inl (cI, 6, .inl f9)), ((Rf 10), .inl (cI, 30, .inl f10)), ((Rf 8), .inl (cI, 6, .inl f8)), (h, .inr (10, ML w_13m0 Rf))] H → va_D A [((Rf 9), .inl (cI, 6, .inl f9)), ((Rf 10), .inl (cI, 30, .inl f10)), ((Rf 8), .inl (cI, 6, .inl f8)), (h, .inr (10, ML w_13m0 Rf))] → va_S A s.heap H locs → lv_has ls 9 [(8, .int w_13l8), (7, .int w_9l7), (6, .int w_13l6), (5, .int w_13l5), (4, .int w_13l4), (0, .ref h), (1, .int b_), (2, .int k_), (3, .int i_)] → ((S_m_toldHer_38 f9 f10 f8 b_ k_ i_ (fun (w_9l7 : Int32) (w_9l6 : Int32) (w_9l5 : Int32) (w_9l4 : Int32) (w_9m0 : (Nat → Int32)) => ((i_ = (-1) → True) ∧ (¬ i_ = (-1) → ((i_ = (-2) → True) ∧ (¬ i_ = (-2) → True))))) n_w_9 (w_9l7 + 1) w_13l6 w_13l5 w_13l4 w_13m0)) → (((match ((f_m_toldHer_38 f9 f10 f8 b_ k_ i_ n_w_9 (w_9l7 + 1) w_13l6 w_13l5 w_13l4 w_13m0) : Int32 × Int32 × Int32 × Int32 × (Nat → Int32)) with | (w_9l7, w_9l6, w_9l5, w_9l4, w_9m0) => (if i_ = (-1) then (w_9l4, w_9m0) else (if i_ = (-2) then (w_9l5, w_9m0) else (w_9l6, w_9m0))))) : Int32 × (Nat → Int32)) = RES → W p l e rm_m_toldHer s m args below meth c H locs 0 0 Q (F0 m 141 ls []) := by
              intro w_13l8 w_13l6 w_13l5 w_13l4 w_13m0 H locs ls hP hD hS hl hF hE
              refine lv_iinc (v := (w_9l7 + 1)) (lv' := [(7, .int (w_9l7 + 1)), (8, .int w_13l8), (6, .int w_13l6), (5, .int w_13l5), (4, .int w_13l4), (0, .ref h), (1, .int b_), (2, .int k_), (3, .int i_)]) hx hb dX10_toldHer_141 hl (k := 1) rfl rfl (Nat.le_of_ble_eq_true rfl) rfl (fun ls hl => ?_)
              refine lv_goto (tgt := 38) hx hb dX10_toldHer_144 rfl ?_
              exact ih_w_9 (w_9l7 + 1) w_13l6 w_13l5 w_13l4 w_13m0 _ _ ls hP hD hS (lv_sub hl [0, 2, 3, 4, 5, 6, 7, 8] rfl) hF hE
            have lp_50_w_13 : ∀ (n_w_13 : Nat) (w_13l8 : Int32) (w_13l6 : Int32) (w_13l5 : Int32) (w_13l4 : Int32) (w_13m0 : (Nat → Int32)) (H : Heap) (locs : List Loc) (ls : Array Slot), va_P D classes [((Rf 9), .inl (cI, 6, .inl f9)), ((Rf 10), .inl (cI, 30, .inl f10)), ((Rf 8), .inl (cI, 6, .inl f8)), (h, .inr (10, ML w_13m0 Rf))] H → va_D A [((Rf 9), .inl (cI, 6, .inl f9)), ((Rf 10), .inl (cI, 30, .inl f10)), ((Rf 8), .inl (cI, 6, .inl f8)), (h, .inr (10, ML w_13m0 Rf))] → va_S A s.heap H locs → lv_has ls 9 [(8, .int w_13l8), (7, .int w_9l7), (6, .int w_13l6), (5, .int w_13l5), (4, .int w_13l4), (0, .ref h), (1, .int b_), (2, .int k_), (3, .int i_)] → (S_m_toldHer_50 f9 f10 f8 b_ k_ i_ w_9l7 (fun (w_13l8 : Int32) (w_13l6 : Int32) (w_13l5 : Int32) (w_13l4 : Int32) (w_13m0 : (Nat → Int32)) => (S_m_toldHer_38 f9 f10 f8 b_ k_ i_ (fun (w_9l7 : Int32) (w_9l6 : Int32) (w_9l5 : Int32) (w_9l4 : Int32) (w_9m0 : (Nat → Int32)) => ((i_ = (-1) → True) ∧ (¬ i_ = (-1) → ((i_ = (-2) → True) ∧ (¬ i_ = (-2) → True))))) n_w_9 (w_9l7 + 1) w_13l6 w_13l5 w_13l4 w_13m0)) n_w_13 w_13l8 w_13l6 w_13l5 w_13l4 w_13m0) → ((match ((match ((f_m_toldHer_50 f9 f10 f8 b_ k_ i_ w_9l7 n_w_13 w_13l8 w_13l6 w_13l5 w_13l4 w_13m0) : Int32 × Int32 × Int32 × Int32 × (Nat → Int32)) with | (w_13l8, w_13l6, w_13l5, w_13l4, w_13m0) => (f_m_toldHer_38 f9 f10 f8 b_ k_ i_ n_w_9 (w_9l7 + 1) w_13l6 w_13l5 w_13l4 w_13m0)) : Int32 × Int32 × Int32 × Int32 × (Nat → Int32)) with | (w_9l7, w_9l6, w_9l5, w_9l4, w_9m0) => (if i_ = (-1) then (w_9l4, w_9m0) else (if i_ = (-2) then (w_9l5, w_9m0) else (w_9l6, w_9m0)))) : Int32 × (Nat → Int32)) = RES → W p l e rm_m_toldHer s m args below meth c H locs 0 0 Q (F0 m 50 ls []) := by
              intro n_w_13
              induction n_w_13 with
              | zero => intro w_13l8 w_13l6 w_13l5 w_13l4 w_13m0 H locs ls hP hD hS hl hF hE; exact False.elim hF
              | succ n_w_13 ih_w_13 =>
                intro w_13l8 w_13l6 w_13l5 w_13l4 w_13m0 H locs ls hP hD hS hl hF hE
                rw [S_m_toldHer_50_s] at hF
                rw [f_m_toldHer_50_s] at hE
                refine lv_iload hx hb dX10_toldHer_50 (lv_at hl 0 rfl) ?_
                refine lv_aload_n hx hb dX10_toldHer_52 rfl (lv_at hl 5 rfl) ?_
                refine va_get (D := D) (ci := 10) (v := .int (w_13m0 4)) (C := RX10) (T := TX10) (N := 45) hx hb hts iX10 hown hK hP 3 rfl rfl 4 (Nat.le_of_ble_eq_true rfl) (hts _ wd_500) (fun _ h9 => h9) rfl dX10_toldHer_53 ?_
                refine lv_icmp_ge (tgt := 141) hx hb dX10_toldHer_56 rfl (fun c_14 => ?_) (fun c_14 => ?_)
                · replace hF := hF.1 c_14
                  rw [if_pos c_14] at hE
                  exact ex_50_w_13 w_13l8 w_13l6 w_13l5 w_13l4 w_13m0 _ _ ls hP hD hS (lv_sub hl [0, 1, 2, 3, 4, 5, 6, 7, 8] rfl) hF hE
                · replace hF := hF.2 c_14
                  rw [if_neg c_14] at hE
                  refine lv_aload_n hx hb dX10_toldHer_59 rfl (lv_at hl 5 rfl) ?_
                  refine lv_iload hx hb dX10_toldHer_60 (lv_at hl 1 rfl) ?_
                  refine lv_iload hx hb dX10_toldHer_62 (lv_at hl 0 rfl) ?_
                  refine lv_aload_n hx hb dX10_toldHer_64 rfl (lv_at hl 5 rfl) ?_
                  refine va_get (D := D) (ci := 10) (v := .ref (Rf 9)) (C := RX10) (T := TX10) (N := 45) hx hb hts iX10 hown hK hP 3 rfl rfl 9 (Nat.le_of_ble_eq_true rfl) (hts _ wd_561) (fun _ h9 => h9) rfl dX10_toldHer_65 ?_
                  refine lv_iload hx hb dX10_toldHer_68 (lv_at hl 1 rfl) ?_
                  obtain ⟨hv_15, hF⟩ := hF
                  refine va_iald hx hb hK hP 0 0 rfl rfl hv_15 dX10_toldHer_70 ?_
                  refine lv_aload_n hx hb dX10_toldHer_71 rfl (lv_at hl 5 rfl) ?_
                  refine va_get (D := D) (ci := 10) (v := .ref (Rf 8)) (C := RX10) (T := TX10) (N := 45) hx hb hts iX10 hown hK hP 3 rfl rfl 8 (Nat.le_of_ble_eq_true rfl) (hts _ wd_579) (fun _ h9 => h9) rfl dX10_toldHer_72 ?_
                  refine lv_iload_n hx hb dX10_toldHer_75 rfl (lv_at hl 6 rfl) ?_
                  obtain ⟨hv_16, hF⟩ := hF
                  refine va_iald hx hb hK hP 2 0 rfl rfl hv_16 dX10_toldHer_76 ?_
                  obtain ⟨hs_17, hF⟩ := hF
                  refine cVv (wr := [((Rf 9), .inl (cI, 6, .inl f9)), ((Rf 8), .inl (cI, 6, .inl f8))]) (rest := []) (m_quarrels Rf h w_13m0 f10 w_9l7 w_13l8 (f9 (w_9l7 : Int32).toNatClampNeg) (f8 (b_ : Int32).toNatClampNeg) hs_17) okV_X10_quarrels wd_643 hx hb hml hown hts hK hP hD hS hA hN hl.1 [3, 1] [0, 2] rfl rfl rfl rfl (of_decide_eq_true rfl) rfl rfl rfl (Nat.le_of_ble_eq_true rfl) (Nat.le_of_ble_eq_true rfl) (Nat.le_of_ble_eq_true rfl) (Nat.le_of_ble_eq_true rfl) (Nat.le_of_ble_eq_true rfl) dX10_toldHer_77 (fun u_18 H locs hw_u_18 hP hD hS => ?_)
                  replace hw_u_18 : u_18 = (f_m_quarrels w_13m0 f10 w_9l7 w_13l8 (f9 (w_9l7 : Int32).toNatClampNeg) (f8 (b_ : Int32).toNatClampNeg)) := hw_u_18
                  subst hw_u_18
                  have hP : va_P D classes [((Rf 9), .inl (cI, 6, .inl f9)), ((Rf 8), .inl (cI, 6, .inl f8)), (h, .inr (10, ML (f_m_quarrels w_13m0 f10 w_9l7 w_13l8 (f9 (w_9l7 : Int32).toNatClampNeg) (f8 (b_ : Int32).toNatClampNeg)) Rf)), ((Rf 10), .inl (cI, 30, .inl f10))] H := hP
                  have hD : va_D A [((Rf 9), .inl (cI, 6, .inl f9)), ((Rf 8), .inl (cI, 6, .inl f8)), (h, .inr (10, ML (f_m_quarrels w_13m0 f10 w_9l7 w_13l8 (f9 (w_9l7 : Int32).toNatClampNeg) (f8 (b_ : Int32).toNatClampNeg)) Rf)), ((Rf 10), .inl (cI, 30, .inl f10))] := hD
                  refine lv_aload_n hx hb dX10_toldHer_80 rfl (lv_at hl 5 rfl) ?_
                  refine va_get (D := D) (ci := 10) (v := .int ((f_m_quarrels w_13m0 f10 w_9l7 w_13l8 (f9 (w_9l7 : Int32).toNatClampNeg) (f8 (b_ : Int32).toNatClampNeg)) 34)) (C := RX10) (T := TX10) (N := 45) hx hb hts iX10 hown hK hP 2 rfl rfl 34 (Nat.le_of_ble_eq_true rfl) (hts _ wd_555) (fun _ h9 => h9) rfl dX10_toldHer_81 ?_
                  refine lv_if_ne (tgt := 135) hx hb dX10_toldHer_84 rfl (fun c_20 => ?_) (fun c_20 => ?_)
                  · replace hF := hF.2 c_20
                    rw [if_neg c_20] at hE
                    refine lv_iinc (v := (w_13l8 + 1)) (lv' := [(8, .int (w_13l8 + 1)), (7, .int w_9l7), (6, .int w_13l6), (5, .int w_13l5), (4, .int w_13l4), (0, .ref h), (1, .int b_), (2, .int k_), (3, .int i_)]) hx hb dX10_toldHer_135 hl (k := 0) rfl rfl (Nat.le_of_ble_eq_true rfl) rfl (fun ls hl => ?_)
                    refine lv_goto (tgt := 50) hx hb dX10_toldHer_138 rfl ?_
                    exact ih_w_13 (w_13l8 + 1) w_13l6 w_13l5 w_13l4 (f_m_quarrels w_13m0 f10 w_9l7 w_13l8 (f9 (w_9l7 : Int32).toNatClampNeg) (f8 (b_ : Int32).toNatClampNeg)) _ _ ls (cutP (isC := [0, 3, 1, 2]) hP rfl) (cutD (isC := [0, 3, 1, 2]) hD rfl rfl) hS (lv_sub hl [0, 1, 2, 3, 4, 5, 6, 7, 8] rfl) hF hE
                  · replace hF := hF.1 c_20
                    rw [if_pos c_20] at hE
                    refine lv_aload_n hx hb dX10_toldHer_87 rfl (lv_at hl 5 rfl) ?_
                    refine va_get (D := D) (ci := 10) (v := .int ((f_m_quarrels w_13m0 f10 w_9l7 w_13l8 (f9 (w_9l7 : Int32).toNatClampNeg) (f8 (b_ : Int32).toNatClampNeg)) 33)) (C := RX10) (T := TX10) (N := 45) hx hb hts iX10 hown hK hP 2 rfl rfl 33 (Nat.le_of_ble_eq_true rfl) (hts _ wd_550) (fun _ h9 => h9) rfl dX10_toldHer_88 ?_
                    refine lv_if_ne (tgt := 135) hx hb dX10_toldHer_91 rfl (fun c_21 => ?_) (fun c_21 => ?_)
                    · replace hF := hF.2 c_21
                      rw [if_neg c_21] at hE
                      refine lv_iinc (v := (w_13l8 + 1)) (lv' := [(8, .int (w_13l8 + 1)), (7, .int w_9l7), (6, .int w_13l6), (5, .int w_13l5), (4, .int w_13l4), (0, .ref h), (1, .int b_), (2, .int k_), (3, .int i_)]) hx hb dX10_toldHer_135 hl (k := 0) rfl rfl (Nat.le_of_ble_eq_true rfl) rfl (fun ls hl => ?_)
                      refine lv_goto (tgt := 50) hx hb dX10_toldHer_138 rfl ?_
                      exact ih_w_13 (w_13l8 + 1) w_13l6 w_13l5 w_13l4 (f_m_quarrels w_13m0 f10 w_9l7 w_13l8 (f9 (w_9l7 : Int32).toNatClampNeg) (f8 (b_ : Int32).toNatClampNeg)) _ _ ls (cutP (isC := [0, 3, 1, 2]) hP rfl) (cutD (isC := [0, 3, 1, 2]) hD rfl rfl) hS (lv_sub hl [0, 1, 2, 3, 4, 5, 6, 7, 8] rfl) hF hE
                    · replace hF := hF.1 c_21
                      rw [if_pos c_21] at hE
                      refine lv_aload_n hx hb dX10_toldHer_94 rfl (lv_at hl 5 rfl) ?_
                      refine va_get (D := D) (ci := 10) (v := .int ((f_m_quarrels w_13m0 f10 w_9l7 w_13l8 (f9 (w_9l7 : Int32).toNatClampNeg) (f8 (b_ : Int32).toNatClampNeg)) 32)) (C := RX10) (T := TX10) (N := 45) hx hb hts iX10 hown hK hP 2 rfl rfl 32 (Nat.le_of_ble_eq_true rfl) (hts _ wd_549) (fun _ h9 => h9) rfl dX10_toldHer_95 ?_
                      refine lv_iload_n hx hb dX10_toldHer_98 rfl (lv_at hl 7 rfl) ?_
                      refine lv_icmp_ne (tgt := 135) hx hb dX10_toldHer_99 rfl (fun c_22 => ?_) (fun c_22 => ?_)
                      · replace hF := hF.2 c_22
                        rw [if_neg c_22] at hE
                        refine lv_iinc (v := (w_13l8 + 1)) (lv' := [(8, .int (w_13l8 + 1)), (7, .int w_9l7), (6, .int w_13l6), (5, .int w_13l5), (4, .int w_13l4), (0, .ref h), (1, .int b_), (2, .int k_), (3, .int i_)]) hx hb dX10_toldHer_135 hl (k := 0) rfl rfl (Nat.le_of_ble_eq_true rfl) rfl (fun ls hl => ?_)
                        refine lv_goto (tgt := 50) hx hb dX10_toldHer_138 rfl ?_
                        exact ih_w_13 (w_13l8 + 1) w_13l6 w_13l5 w_13l4 (f_m_quarrels w_13m0 f10 w_9l7 w_13l8 (f9 (w_9l7 : Int32).toNatClampNeg) (f8 (b_ : Int32).toNatClampNeg)) _ _ ls (cutP (isC := [0, 3, 1, 2]) hP rfl) (cutD (isC := [0, 3, 1, 2]) hD rfl rfl) hS (lv_sub hl [0, 1, 2, 3, 4, 5, 6, 7, 8] rfl) hF hE
                      · replace hF := hF.1 c_22
                        rw [if_pos c_22] at hE
                        refine lv_iload hx hb dX10_toldHer_102 (lv_at hl 4 rfl) ?_
                        refine lv_iload_n hx hb dX10_toldHer_104 rfl (lv_at hl 8 rfl) ?_
                        refine lv_icmp_ne (tgt := 119) hx hb dX10_toldHer_105 rfl (fun c_23 => ?_) (fun c_23 => ?_)
                        · replace hF := hF.2 c_23
                          rw [if_neg c_23] at hE
                          refine lv_iload hx hb dX10_toldHer_119 (lv_at hl 2 rfl) ?_
                          refine lv_istore (lv' := [(6, .int w_13l6), (8, .int w_13l8), (7, .int w_9l7), (5, .int w_13l5), (4, .int w_13l4), (0, .ref h), (1, .int b_), (2, .int k_), (3, .int i_)]) hx hb dX10_toldHer_121 hl (Nat.le_of_ble_eq_true rfl) rfl (fun ls hl => ?_)
                          refine lv_iload hx hb dX10_toldHer_123 (lv_at hl 3 rfl) ?_
                          refine lv_iconst (v := 1) hx hb dX10_toldHer_125 rfl ?_
                          refine lv_iload hx hb dX10_toldHer_126 (lv_at hl 1 rfl) ?_
                          refine lv_ishl hx hb dX10_toldHer_128 ?_
                          refine lv_ior hx hb dX10_toldHer_129 ?_
                          refine lv_istore (lv' := [(5, .int (w_13l5 ||| (1 <<< (w_13l8 &&& 31)))), (6, .int w_13l6), (8, .int w_13l8), (7, .int w_9l7), (4, .int w_13l4), (0, .ref h), (1, .int b_), (2, .int k_), (3, .int i_)]) hx hb dX10_toldHer_130 hl (Nat.le_of_ble_eq_true rfl) rfl (fun ls hl => ?_)
                          refine lv_iinc (v := (w_13l4 + 1)) (lv' := [(4, .int (w_13l4 + 1)), (5, .int (w_13l5 ||| (1 <<< (w_13l8 &&& 31)))), (6, .int w_13l6), (8, .int w_13l8), (7, .int w_9l7), (0, .ref h), (1, .int b_), (2, .int k_), (3, .int i_)]) hx hb dX10_toldHer_132 hl (k := 4) rfl rfl (Nat.le_of_ble_eq_true rfl) rfl (fun ls hl => ?_)
                          refine lv_iinc (v := (w_13l8 + 1)) (lv' := [(8, .int (w_13l8 + 1)), (4, .int (w_13l4 + 1)), (5, .int (w_13l5 ||| (1 <<< (w_13l8 &&& 31)))), (6, .int w_13l6), (7, .int w_9l7), (0, .ref h), (1, .int b_), (2, .int k_), (3, .int i_)]) hx hb dX10_toldHer_135 hl (k := 3) rfl rfl (Nat.le_of_ble_eq_true rfl) rfl (fun ls hl => ?_)
                          refine lv_goto (tgt := 50) hx hb dX10_toldHer_138 rfl ?_
                          exact ih_w_13 (w_13l8 + 1) w_13l6 (w_13l5 ||| (1 <<< (w_13l8 &&& 31))) (w_13l4 + 1) (f_m_quarrels w_13m0 f10 w_9l7 w_13l8 (f9 (w_9l7 : Int32).toNatClampNeg) (f8 (b_ : Int32).toNatClampNeg)) _ _ ls (cutP (isC := [0, 3, 1, 2]) hP rfl) (cutD (isC := [0, 3, 1, 2]) hD rfl rfl) hS (lv_sub hl [0, 4, 3, 2, 1, 5, 6, 7, 8] rfl) hF hE
                        · replace hF := hF.1 c_23
                          rw [if_pos c_23] at hE
                          refine lv_bipush (v := 10) hx hb dX10_toldHer_108 rfl ?_
                          refine lv_iload hx hb dX10_toldHer_110 (lv_at hl 1 rfl) ?_
                          refine lv_imul hx hb dX10_toldHer_112 ?_
                          refine lv_iload hx hb dX10_toldHer_113 (lv_at hl 0 rfl) ?_
                          refine lv_iadd hx hb dX10_toldHer_115 ?_
                          refine lv_goto (tgt := 121) hx hb dX10_toldHer_116 rfl ?_
                          refine lv_istore (lv' := [(6, .int ((10 * w_9l7) + w_13l8)), (8, .int w_13l8), (7, .int w_9l7), (5, .int w_13l5), (4, .int w_13l4), (0, .ref h), (1, .int b_), (2, .int k_), (3, .int i_)]) hx hb dX10_toldHer_121 hl (Nat.le_of_ble_eq_true rfl) rfl (fun ls hl => ?_)
                          refine lv_iload hx hb dX10_toldHer_123 (lv_at hl 3 rfl) ?_
                          refine lv_iconst (v := 1) hx hb dX10_toldHer_125 rfl ?_
                          refine lv_iload hx hb dX10_toldHer_126 (lv_at hl 1 rfl) ?_
                          refine lv_ishl hx hb dX10_toldHer_128 ?_
                          refine lv_ior hx hb dX10_toldHer_129 ?_
                          refine lv_istore (lv' := [(5, .int (w_13l5 ||| (1 <<< (w_13l8 &&& 31)))), (6, .int ((10 * w_9l7) + w_13l8)), (8, .int w_13l8), (7, .int w_9l7), (4, .int w_13l4), (0, .ref h), (1, .int b_), (2, .int k_), (3, .int i_)]) hx hb dX10_toldHer_130 hl (Nat.le_of_ble_eq_true rfl) rfl (fun ls hl => ?_)
                          refine lv_iinc (v := (w_13l4 + 1)) (lv' := [(4, .int (w_13l4 + 1)), (5, .int (w_13l5 ||| (1 <<< (w_13l8 &&& 31)))), (6, .int ((10 * w_9l7) + w_13l8)), (8, .int w_13l8), (7, .int w_9l7), (0, .ref h), (1, .int b_), (2, .int k_), (3, .int i_)]) hx hb dX10_toldHer_132 hl (k := 4) rfl rfl (Nat.le_of_ble_eq_true rfl) rfl (fun ls hl => ?_)
                          refine lv_iinc (v := (w_13l8 + 1)) (lv' := [(8, .int (w_13l8 + 1)), (4, .int (w_13l4 + 1)), (5, .int (w_13l5 ||| (1 <<< (w_13l8 &&& 31)))), (6, .int ((10 * w_9l7) + w_13l8)), (7, .int w_9l7), (0, .ref h), (1, .int b_), (2, .int k_), (3, .int i_)]) hx hb dX10_toldHer_135 hl (k := 3) rfl rfl (Nat.le_of_ble_eq_true rfl) rfl (fun ls hl => ?_)
                          refine lv_goto (tgt := 50) hx hb dX10_toldHer_138 rfl ?_
                          exact ih_w_13 (w_13l8 + 1) ((10 * w_9l7) + w_13l8) (w_13l5 ||| (1 <<< (w_13l8 &&& 31))) (w_13l4 + 1) (f_m_quarrels w_13m0 f10 w_9l7 w_13l8 (f9 (w_9l7 : Int32).toNatClampNeg) (f8 (b_ : Int32).toNatClampNeg)) _ _ ls (cutP (isC := [0, 3, 1, 2]) hP rfl) (cutD (isC := [0, 3, 1, 2]) hD rfl rfl) hS (lv_sub hl [0, 4, 3, 2, 1, 5, 6, 7, 8] rfl) hF hE
            exact lp_50_w_13 10 0 w_9l6 w_9l5 w_9l4 w_9m0 _ _ ls hP hD hS hl hF hE
      exact lp_38_w_9 10 0 (-1) 0 0 G _ _ ls hP hD hS hl hF hE
    · replace hF := hF.1 c_8
      rw [if_pos c_8] at hE
      refine lv_ldc (v := (-1000000002)) hx hb hown (hts _ wd_507) dX10_toldHer_23 ?_
      exact hret (-1000000002) G _ _ _ _ dX10_toldHer_25 rfl hE (cutP (isC := [3, 0, 1, 2]) hP rfl) (cutD (isC := [3, 0, 1, 2]) hD rfl rfl) hS
  · replace hF := hF.1 c_4
    rw [if_pos c_4] at hE
    refine lv_ldc (v := (-1000000001)) hx hb hown (hts _ wd_580) dX10_toldHer_8 ?_
    exact hret (-1000000001) G _ _ _ _ dX10_toldHer_10 rfl hE (cutP (isC := [3, 0, 1, 2]) hP rfl) (cutD (isC := [3, 0, 1, 2]) hD rfl rfl) hS
end
section
def fw_cX10_passes : List (List Nat) := [[4, 62, 3, 54, 4, 21, 4, 42, 180, 0, 30, 28, 46, 163, 0, 174, 29, 153], [29, 153, 0, 170, 42, 27, 21, 4, 182, 0, 200, 54, 5, 21, 5, 2, 159, 0], [159, 0, 7, 4, 167, 0, 4, 3, 62, 29, 153, 0, 118, 42, 21, 5, 42, 180], [42, 180, 0, 7, 27, 16, 12, 96, 21, 5, 96, 46, 42, 180, 0, 7, 27, 3], [27, 3, 96, 21, 5, 96, 46, 42, 180, 0, 21, 21, 4, 46, 182, 0, 237, 42], [237, 42, 180, 0, 7, 27, 16, 19, 96, 92, 46, 42, 180, 0, 216, 96, 79, 42], [79, 42, 180, 0, 7, 27, 3, 96, 21, 5, 96, 42, 180, 0, 219, 79, 42, 180], [42, 180, 0, 219, 154, 0, 39, 42, 180, 0, 216, 158, 0, 32, 42, 180, 0, 7], [0, 7, 27, 16, 18, 96, 92, 46, 4, 21, 5, 120, 128, 79, 42, 180, 0, 7], [0, 7, 27, 16, 6, 96, 21, 5, 96, 2, 79, 42, 180, 0, 226, 62, 42, 180], [42, 180, 0, 7, 27, 16, 27, 96, 28, 96, 29, 153, 0, 7, 2, 167, 0, 5], [0, 5, 21, 4, 79, 132, 4, 1, 167, 255, 77, 42, 180, 0, 7, 27, 16, 20], [16, 20, 96, 28, 96, 29, 154, 0, 7, 6, 167, 0, 26, 42, 180, 0, 7, 27], [7, 27, 16, 19, 96, 46, 42, 180, 0, 33, 28, 46, 163, 0, 7, 4, 167, 0], [167, 0, 4, 5, 79, 42, 180, 0, 7, 27, 16, 34, 96, 28, 96, 29, 153, 0], [153, 0, 15, 42, 180, 0, 7, 27, 16, 19, 96, 46, 167, 0, 4, 2, 79, 177], [79, 177]]
theorem fW_cX10_passes : fq_wins 17 cX10_passes.data.toList = fw_cX10_passes := by decide +kernel
theorem fk_cX10_passes_0 : fq_ck cX10_passes 0 [4, 62, 3, 54, 4, 21, 4, 42, 180, 0, 30, 28, 46, 163, 0, 174, 29, 153] := fq_of fW_cX10_passes 0 rfl rfl
theorem dX10_passes_0 : decode cX10_passes 0 = .ok (.iconst 1, 1) := fq_4 fk_cX10_passes_0 0 rfl rfl
theorem dX10_passes_1 : decode cX10_passes 1 = .ok (.istore_n 3, 1) := fq_62 fk_cX10_passes_0 1 rfl rfl
theorem dX10_passes_2 : decode cX10_passes 2 = .ok (.iconst 0, 1) := fq_3 fk_cX10_passes_0 2 rfl rfl
theorem dX10_passes_3 : decode cX10_passes 3 = .ok (.istore 4, 2) := fq_54 fk_cX10_passes_0 3 rfl rfl rfl
theorem fk_cX10_passes_11 : fq_ck cX10_passes 176 [0, 5, 21, 4, 79, 132, 4, 1, 167, 255, 77, 42, 180, 0, 7, 27, 16, 20] := fq_of fW_cX10_passes 11 rfl rfl
theorem dX10_passes_187 : decode cX10_passes 187 = .ok (.aload_n 0, 1) := fq_42 fk_cX10_passes_11 11 rfl rfl
theorem dX10_passes_188 : decode cX10_passes 188 = .ok (.getfield 7, 3) := fq_180 fk_cX10_passes_11 12 rfl rfl rfl rfl rfl
theorem dX10_passes_191 : decode cX10_passes 191 = .ok (.iload_n 1, 1) := fq_27 fk_cX10_passes_11 15 rfl rfl
theorem fk_cX10_passes_12 : fq_ck cX10_passes 192 [16, 20, 96, 28, 96, 29, 154, 0, 7, 6, 167, 0, 26, 42, 180, 0, 7, 27] := fq_of fW_cX10_passes 12 rfl rfl
theorem dX10_passes_192 : decode cX10_passes 192 = .ok (.bipush 20, 2) := fq_16 fk_cX10_passes_12 0 rfl rfl rfl rfl
theorem dX10_passes_194 : decode cX10_passes 194 = .ok (.iadd, 1) := fq_96 fk_cX10_passes_12 2 rfl rfl
theorem dX10_passes_195 : decode cX10_passes 195 = .ok (.iload_n 2, 1) := fq_28 fk_cX10_passes_12 3 rfl rfl
theorem dX10_passes_196 : decode cX10_passes 196 = .ok (.iadd, 1) := fq_96 fk_cX10_passes_12 4 rfl rfl
theorem dX10_passes_197 : decode cX10_passes 197 = .ok (.iload_n 3, 1) := fq_29 fk_cX10_passes_12 5 rfl rfl
theorem dX10_passes_198 : decode cX10_passes 198 = .ok (.ifCond .ne 7, 3) := fq_154 fk_cX10_passes_12 6 rfl rfl rfl rfl rfl
theorem dX10_passes_205 : decode cX10_passes 205 = .ok (.aload_n 0, 1) := fq_42 fk_cX10_passes_12 13 rfl rfl
theorem dX10_passes_206 : decode cX10_passes 206 = .ok (.getfield 7, 3) := fq_180 fk_cX10_passes_12 14 rfl rfl rfl rfl rfl
theorem fk_cX10_passes_13 : fq_ck cX10_passes 208 [7, 27, 16, 19, 96, 46, 42, 180, 0, 33, 28, 46, 163, 0, 7, 4, 167, 0] := fq_of fW_cX10_passes 13 rfl rfl
theorem dX10_passes_209 : decode cX10_passes 209 = .ok (.iload_n 1, 1) := fq_27 fk_cX10_passes_13 1 rfl rfl
theorem dX10_passes_210 : decode cX10_passes 210 = .ok (.bipush 19, 2) := fq_16 fk_cX10_passes_13 2 rfl rfl rfl rfl
theorem dX10_passes_212 : decode cX10_passes 212 = .ok (.iadd, 1) := fq_96 fk_cX10_passes_13 4 rfl rfl
theorem dX10_passes_213 : decode cX10_passes 213 = .ok (.iaload, 1) := fq_46 fk_cX10_passes_13 5 rfl rfl
theorem dX10_passes_214 : decode cX10_passes 214 = .ok (.aload_n 0, 1) := fq_42 fk_cX10_passes_13 6 rfl rfl
theorem dX10_passes_215 : decode cX10_passes 215 = .ok (.getfield 33, 3) := fq_180 fk_cX10_passes_13 7 rfl rfl rfl rfl rfl
theorem dX10_passes_218 : decode cX10_passes 218 = .ok (.iload_n 2, 1) := fq_28 fk_cX10_passes_13 10 rfl rfl
theorem dX10_passes_219 : decode cX10_passes 219 = .ok (.iaload, 1) := fq_46 fk_cX10_passes_13 11 rfl rfl
theorem dX10_passes_220 : decode cX10_passes 220 = .ok (.if_icmp .gt 7, 3) := fq_163 fk_cX10_passes_13 12 rfl rfl rfl rfl rfl
theorem fk_cX10_passes_14 : fq_ck cX10_passes 224 [167, 0, 4, 5, 79, 42, 180, 0, 7, 27, 16, 34, 96, 28, 96, 29, 153, 0] := fq_of fW_cX10_passes 14 rfl rfl
theorem dX10_passes_227 : decode cX10_passes 227 = .ok (.iconst 2, 1) := fq_5 fk_cX10_passes_14 3 rfl rfl
theorem dX10_passes_228 : decode cX10_passes 228 = .ok (.iastore, 1) := fq_79 fk_cX10_passes_14 4 rfl rfl
theorem dX10_passes_229 : decode cX10_passes 229 = .ok (.aload_n 0, 1) := fq_42 fk_cX10_passes_14 5 rfl rfl
theorem dX10_passes_230 : decode cX10_passes 230 = .ok (.getfield 7, 3) := fq_180 fk_cX10_passes_14 6 rfl rfl rfl rfl rfl
theorem dX10_passes_233 : decode cX10_passes 233 = .ok (.iload_n 1, 1) := fq_27 fk_cX10_passes_14 9 rfl rfl
theorem dX10_passes_234 : decode cX10_passes 234 = .ok (.bipush 34, 2) := fq_16 fk_cX10_passes_14 10 rfl rfl rfl rfl
theorem dX10_passes_236 : decode cX10_passes 236 = .ok (.iadd, 1) := fq_96 fk_cX10_passes_14 12 rfl rfl
theorem dX10_passes_237 : decode cX10_passes 237 = .ok (.iload_n 2, 1) := fq_28 fk_cX10_passes_14 13 rfl rfl
theorem dX10_passes_238 : decode cX10_passes 238 = .ok (.iadd, 1) := fq_96 fk_cX10_passes_14 14 rfl rfl
theorem dX10_passes_239 : decode cX10_passes 239 = .ok (.iload_n 3, 1) := fq_29 fk_cX10_passes_14 15 rfl rfl
theorem fk_cX10_passes_15 : fq_ck cX10_passes 240 [153, 0, 15, 42, 180, 0, 7, 27, 16, 19, 96, 46, 167, 0, 4, 2, 79, 177] := fq_of fW_cX10_passes 15 rfl rfl
theorem dX10_passes_240 : decode cX10_passes 240 = .ok (.ifCond .eq 15, 3) := fq_153 fk_cX10_passes_15 0 rfl rfl rfl rfl rfl
theorem dX10_passes_255 : decode cX10_passes 255 = .ok (.iconst (-1), 1) := fq_2 fk_cX10_passes_15 15 rfl rfl
theorem fk_cX10_passes_16 : fq_ck cX10_passes 256 [79, 177] := fq_of fW_cX10_passes 16 rfl rfl
theorem dX10_passes_256 : decode cX10_passes 256 = .ok (.iastore, 1) := fq_79 fk_cX10_passes_16 0 rfl rfl
theorem dX10_passes_257 : decode cX10_passes 257 = .ok (.return_, 1) := fq_177 fk_cX10_passes_16 1 rfl rfl
theorem dX10_passes_243 : decode cX10_passes 243 = .ok (.aload_n 0, 1) := fq_42 fk_cX10_passes_15 3 rfl rfl
theorem dX10_passes_244 : decode cX10_passes 244 = .ok (.getfield 7, 3) := fq_180 fk_cX10_passes_15 4 rfl rfl rfl rfl rfl
theorem dX10_passes_247 : decode cX10_passes 247 = .ok (.iload_n 1, 1) := fq_27 fk_cX10_passes_15 7 rfl rfl
theorem dX10_passes_248 : decode cX10_passes 248 = .ok (.bipush 19, 2) := fq_16 fk_cX10_passes_15 8 rfl rfl rfl rfl
theorem dX10_passes_250 : decode cX10_passes 250 = .ok (.iadd, 1) := fq_96 fk_cX10_passes_15 10 rfl rfl
theorem dX10_passes_251 : decode cX10_passes 251 = .ok (.iaload, 1) := fq_46 fk_cX10_passes_15 11 rfl rfl
theorem dX10_passes_252 : decode cX10_passes 252 = .ok (.goto 4, 3) := fq_167 fk_cX10_passes_15 12 rfl rfl rfl rfl rfl
theorem dX10_passes_223 : decode cX10_passes 223 = .ok (.iconst 1, 1) := fq_4 fk_cX10_passes_13 15 rfl rfl
theorem dX10_passes_224 : decode cX10_passes 224 = .ok (.goto 4, 3) := fq_167 fk_cX10_passes_14 0 rfl rfl rfl rfl rfl
theorem dX10_passes_201 : decode cX10_passes 201 = .ok (.iconst 3, 1) := fq_6 fk_cX10_passes_12 9 rfl rfl
theorem dX10_passes_202 : decode cX10_passes 202 = .ok (.goto 26, 3) := fq_167 fk_cX10_passes_12 10 rfl rfl rfl rfl rfl
theorem dX10_passes_5 : decode cX10_passes 5 = .ok (.iload 4, 2) := fq_21 fk_cX10_passes_0 5 rfl rfl rfl
theorem dX10_passes_7 : decode cX10_passes 7 = .ok (.aload_n 0, 1) := fq_42 fk_cX10_passes_0 7 rfl rfl
theorem dX10_passes_8 : decode cX10_passes 8 = .ok (.getfield 30, 3) := fq_180 fk_cX10_passes_0 8 rfl rfl rfl rfl rfl
theorem dX10_passes_11 : decode cX10_passes 11 = .ok (.iload_n 2, 1) := fq_28 fk_cX10_passes_0 11 rfl rfl
theorem dX10_passes_12 : decode cX10_passes 12 = .ok (.iaload, 1) := fq_46 fk_cX10_passes_0 12 rfl rfl
theorem dX10_passes_13 : decode cX10_passes 13 = .ok (.if_icmp .gt 174, 3) := fq_163 fk_cX10_passes_0 13 rfl rfl rfl rfl rfl
theorem fk_cX10_passes_1 : fq_ck cX10_passes 16 [29, 153, 0, 170, 42, 27, 21, 4, 182, 0, 200, 54, 5, 21, 5, 2, 159, 0] := fq_of fW_cX10_passes 1 rfl rfl
theorem dX10_passes_16 : decode cX10_passes 16 = .ok (.iload_n 3, 1) := fq_29 fk_cX10_passes_1 0 rfl rfl
theorem dX10_passes_17 : decode cX10_passes 17 = .ok (.ifCond .eq 170, 3) := fq_153 fk_cX10_passes_1 1 rfl rfl rfl rfl rfl
theorem dX10_passes_20 : decode cX10_passes 20 = .ok (.aload_n 0, 1) := fq_42 fk_cX10_passes_1 4 rfl rfl
theorem dX10_passes_21 : decode cX10_passes 21 = .ok (.iload_n 1, 1) := fq_27 fk_cX10_passes_1 5 rfl rfl
theorem dX10_passes_22 : decode cX10_passes 22 = .ok (.iload 4, 2) := fq_21 fk_cX10_passes_1 6 rfl rfl rfl
theorem dX10_passes_24 : decode cX10_passes 24 = .ok (.invokevirtual 200, 3) := fq_182 fk_cX10_passes_1 8 rfl rfl rfl rfl rfl
theorem dX10_passes_27 : decode cX10_passes 27 = .ok (.istore 5, 2) := fq_54 fk_cX10_passes_1 11 rfl rfl rfl
theorem dX10_passes_29 : decode cX10_passes 29 = .ok (.iload 5, 2) := fq_21 fk_cX10_passes_1 13 rfl rfl rfl
theorem dX10_passes_31 : decode cX10_passes 31 = .ok (.iconst (-1), 1) := fq_2 fk_cX10_passes_1 15 rfl rfl
theorem fk_cX10_passes_2 : fq_ck cX10_passes 32 [159, 0, 7, 4, 167, 0, 4, 3, 62, 29, 153, 0, 118, 42, 21, 5, 42, 180] := fq_of fW_cX10_passes 2 rfl rfl
theorem dX10_passes_32 : decode cX10_passes 32 = .ok (.if_icmp .eq 7, 3) := fq_159 fk_cX10_passes_2 0 rfl rfl rfl rfl rfl
theorem dX10_passes_39 : decode cX10_passes 39 = .ok (.iconst 0, 1) := fq_3 fk_cX10_passes_2 7 rfl rfl
theorem dX10_passes_40 : decode cX10_passes 40 = .ok (.istore_n 3, 1) := fq_62 fk_cX10_passes_2 8 rfl rfl
theorem dX10_passes_41 : decode cX10_passes 41 = .ok (.iload_n 3, 1) := fq_29 fk_cX10_passes_2 9 rfl rfl
theorem dX10_passes_42 : decode cX10_passes 42 = .ok (.ifCond .eq 118, 3) := fq_153 fk_cX10_passes_2 10 rfl rfl rfl rfl rfl
theorem fk_cX10_passes_10 : fq_ck cX10_passes 160 [42, 180, 0, 7, 27, 16, 27, 96, 28, 96, 29, 153, 0, 7, 2, 167, 0, 5] := fq_of fW_cX10_passes 10 rfl rfl
theorem dX10_passes_160 : decode cX10_passes 160 = .ok (.aload_n 0, 1) := fq_42 fk_cX10_passes_10 0 rfl rfl
theorem dX10_passes_161 : decode cX10_passes 161 = .ok (.getfield 7, 3) := fq_180 fk_cX10_passes_10 1 rfl rfl rfl rfl rfl
theorem dX10_passes_164 : decode cX10_passes 164 = .ok (.iload_n 1, 1) := fq_27 fk_cX10_passes_10 4 rfl rfl
theorem dX10_passes_165 : decode cX10_passes 165 = .ok (.bipush 27, 2) := fq_16 fk_cX10_passes_10 5 rfl rfl rfl rfl
theorem dX10_passes_167 : decode cX10_passes 167 = .ok (.iadd, 1) := fq_96 fk_cX10_passes_10 7 rfl rfl
theorem dX10_passes_168 : decode cX10_passes 168 = .ok (.iload_n 2, 1) := fq_28 fk_cX10_passes_10 8 rfl rfl
theorem dX10_passes_169 : decode cX10_passes 169 = .ok (.iadd, 1) := fq_96 fk_cX10_passes_10 9 rfl rfl
theorem dX10_passes_170 : decode cX10_passes 170 = .ok (.iload_n 3, 1) := fq_29 fk_cX10_passes_10 10 rfl rfl
theorem dX10_passes_171 : decode cX10_passes 171 = .ok (.ifCond .eq 7, 3) := fq_153 fk_cX10_passes_10 11 rfl rfl rfl rfl rfl
theorem dX10_passes_178 : decode cX10_passes 178 = .ok (.iload 4, 2) := fq_21 fk_cX10_passes_11 2 rfl rfl rfl
theorem dX10_passes_180 : decode cX10_passes 180 = .ok (.iastore, 1) := fq_79 fk_cX10_passes_11 4 rfl rfl
theorem dX10_passes_181 : decode cX10_passes 181 = .ok (.iinc 4 1, 3) := fq_132 fk_cX10_passes_11 5 rfl rfl rfl rfl rfl
theorem dX10_passes_184 : decode cX10_passes 184 = .ok (.goto (-179), 3) := fq_167 fk_cX10_passes_11 8 rfl rfl rfl rfl rfl
theorem dX10_passes_35 : decode cX10_passes 35 = .ok (.iconst 1, 1) := fq_4 fk_cX10_passes_2 3 rfl rfl
theorem dX10_passes_36 : decode cX10_passes 36 = .ok (.goto 4, 3) := fq_167 fk_cX10_passes_2 4 rfl rfl rfl rfl rfl
theorem dX10_passes_45 : decode cX10_passes 45 = .ok (.aload_n 0, 1) := fq_42 fk_cX10_passes_2 13 rfl rfl
theorem dX10_passes_46 : decode cX10_passes 46 = .ok (.iload 5, 2) := fq_21 fk_cX10_passes_2 14 rfl rfl rfl
theorem fk_cX10_passes_3 : fq_ck cX10_passes 48 [42, 180, 0, 7, 27, 16, 12, 96, 21, 5, 96, 46, 42, 180, 0, 7, 27, 3] := fq_of fW_cX10_passes 3 rfl rfl
theorem dX10_passes_48 : decode cX10_passes 48 = .ok (.aload_n 0, 1) := fq_42 fk_cX10_passes_3 0 rfl rfl
theorem dX10_passes_49 : decode cX10_passes 49 = .ok (.getfield 7, 3) := fq_180 fk_cX10_passes_3 1 rfl rfl rfl rfl rfl
theorem dX10_passes_52 : decode cX10_passes 52 = .ok (.iload_n 1, 1) := fq_27 fk_cX10_passes_3 4 rfl rfl
theorem dX10_passes_53 : decode cX10_passes 53 = .ok (.bipush 12, 2) := fq_16 fk_cX10_passes_3 5 rfl rfl rfl rfl
theorem dX10_passes_55 : decode cX10_passes 55 = .ok (.iadd, 1) := fq_96 fk_cX10_passes_3 7 rfl rfl
theorem dX10_passes_56 : decode cX10_passes 56 = .ok (.iload 5, 2) := fq_21 fk_cX10_passes_3 8 rfl rfl rfl
theorem dX10_passes_58 : decode cX10_passes 58 = .ok (.iadd, 1) := fq_96 fk_cX10_passes_3 10 rfl rfl
theorem dX10_passes_59 : decode cX10_passes 59 = .ok (.iaload, 1) := fq_46 fk_cX10_passes_3 11 rfl rfl
theorem dX10_passes_60 : decode cX10_passes 60 = .ok (.aload_n 0, 1) := fq_42 fk_cX10_passes_3 12 rfl rfl
theorem dX10_passes_61 : decode cX10_passes 61 = .ok (.getfield 7, 3) := fq_180 fk_cX10_passes_3 13 rfl rfl rfl rfl rfl
theorem fk_cX10_passes_4 : fq_ck cX10_passes 64 [27, 3, 96, 21, 5, 96, 46, 42, 180, 0, 21, 21, 4, 46, 182, 0, 237, 42] := fq_of fW_cX10_passes 4 rfl rfl
theorem dX10_passes_64 : decode cX10_passes 64 = .ok (.iload_n 1, 1) := fq_27 fk_cX10_passes_4 0 rfl rfl
theorem dX10_passes_65 : decode cX10_passes 65 = .ok (.iconst 0, 1) := fq_3 fk_cX10_passes_4 1 rfl rfl
theorem dX10_passes_66 : decode cX10_passes 66 = .ok (.iadd, 1) := fq_96 fk_cX10_passes_4 2 rfl rfl
theorem dX10_passes_67 : decode cX10_passes 67 = .ok (.iload 5, 2) := fq_21 fk_cX10_passes_4 3 rfl rfl rfl
theorem dX10_passes_69 : decode cX10_passes 69 = .ok (.iadd, 1) := fq_96 fk_cX10_passes_4 5 rfl rfl
theorem dX10_passes_70 : decode cX10_passes 70 = .ok (.iaload, 1) := fq_46 fk_cX10_passes_4 6 rfl rfl
theorem dX10_passes_71 : decode cX10_passes 71 = .ok (.aload_n 0, 1) := fq_42 fk_cX10_passes_4 7 rfl rfl
theorem dX10_passes_72 : decode cX10_passes 72 = .ok (.getfield 21, 3) := fq_180 fk_cX10_passes_4 8 rfl rfl rfl rfl rfl
theorem dX10_passes_75 : decode cX10_passes 75 = .ok (.iload 4, 2) := fq_21 fk_cX10_passes_4 11 rfl rfl rfl
theorem dX10_passes_77 : decode cX10_passes 77 = .ok (.iaload, 1) := fq_46 fk_cX10_passes_4 13 rfl rfl
theorem dX10_passes_78 : decode cX10_passes 78 = .ok (.invokevirtual 237, 3) := fq_182 fk_cX10_passes_4 14 rfl rfl rfl rfl rfl
theorem fk_cX10_passes_5 : fq_ck cX10_passes 80 [237, 42, 180, 0, 7, 27, 16, 19, 96, 92, 46, 42, 180, 0, 216, 96, 79, 42] := fq_of fW_cX10_passes 5 rfl rfl
theorem dX10_passes_81 : decode cX10_passes 81 = .ok (.aload_n 0, 1) := fq_42 fk_cX10_passes_5 1 rfl rfl
theorem dX10_passes_82 : decode cX10_passes 82 = .ok (.getfield 7, 3) := fq_180 fk_cX10_passes_5 2 rfl rfl rfl rfl rfl
theorem dX10_passes_85 : decode cX10_passes 85 = .ok (.iload_n 1, 1) := fq_27 fk_cX10_passes_5 5 rfl rfl
theorem dX10_passes_86 : decode cX10_passes 86 = .ok (.bipush 19, 2) := fq_16 fk_cX10_passes_5 6 rfl rfl rfl rfl
theorem dX10_passes_88 : decode cX10_passes 88 = .ok (.iadd, 1) := fq_96 fk_cX10_passes_5 8 rfl rfl
theorem dX10_passes_89 : decode cX10_passes 89 = .ok (.dup2, 1) := fq_92 fk_cX10_passes_5 9 rfl rfl
theorem dX10_passes_90 : decode cX10_passes 90 = .ok (.iaload, 1) := fq_46 fk_cX10_passes_5 10 rfl rfl
theorem dX10_passes_91 : decode cX10_passes 91 = .ok (.aload_n 0, 1) := fq_42 fk_cX10_passes_5 11 rfl rfl
theorem dX10_passes_92 : decode cX10_passes 92 = .ok (.getfield 216, 3) := fq_180 fk_cX10_passes_5 12 rfl rfl rfl rfl rfl
theorem dX10_passes_95 : decode cX10_passes 95 = .ok (.iadd, 1) := fq_96 fk_cX10_passes_5 15 rfl rfl
theorem fk_cX10_passes_6 : fq_ck cX10_passes 96 [79, 42, 180, 0, 7, 27, 3, 96, 21, 5, 96, 42, 180, 0, 219, 79, 42, 180] := fq_of fW_cX10_passes 6 rfl rfl
theorem dX10_passes_96 : decode cX10_passes 96 = .ok (.iastore, 1) := fq_79 fk_cX10_passes_6 0 rfl rfl
theorem dX10_passes_97 : decode cX10_passes 97 = .ok (.aload_n 0, 1) := fq_42 fk_cX10_passes_6 1 rfl rfl
theorem dX10_passes_98 : decode cX10_passes 98 = .ok (.getfield 7, 3) := fq_180 fk_cX10_passes_6 2 rfl rfl rfl rfl rfl
theorem dX10_passes_101 : decode cX10_passes 101 = .ok (.iload_n 1, 1) := fq_27 fk_cX10_passes_6 5 rfl rfl
theorem dX10_passes_102 : decode cX10_passes 102 = .ok (.iconst 0, 1) := fq_3 fk_cX10_passes_6 6 rfl rfl
theorem dX10_passes_103 : decode cX10_passes 103 = .ok (.iadd, 1) := fq_96 fk_cX10_passes_6 7 rfl rfl
theorem dX10_passes_104 : decode cX10_passes 104 = .ok (.iload 5, 2) := fq_21 fk_cX10_passes_6 8 rfl rfl rfl
theorem dX10_passes_106 : decode cX10_passes 106 = .ok (.iadd, 1) := fq_96 fk_cX10_passes_6 10 rfl rfl
theorem dX10_passes_107 : decode cX10_passes 107 = .ok (.aload_n 0, 1) := fq_42 fk_cX10_passes_6 11 rfl rfl
theorem dX10_passes_108 : decode cX10_passes 108 = .ok (.getfield 219, 3) := fq_180 fk_cX10_passes_6 12 rfl rfl rfl rfl rfl
theorem dX10_passes_111 : decode cX10_passes 111 = .ok (.iastore, 1) := fq_79 fk_cX10_passes_6 15 rfl rfl
theorem fk_cX10_passes_7 : fq_ck cX10_passes 112 [42, 180, 0, 219, 154, 0, 39, 42, 180, 0, 216, 158, 0, 32, 42, 180, 0, 7] := fq_of fW_cX10_passes 7 rfl rfl
theorem dX10_passes_112 : decode cX10_passes 112 = .ok (.aload_n 0, 1) := fq_42 fk_cX10_passes_7 0 rfl rfl
theorem dX10_passes_113 : decode cX10_passes 113 = .ok (.getfield 219, 3) := fq_180 fk_cX10_passes_7 1 rfl rfl rfl rfl rfl
theorem dX10_passes_116 : decode cX10_passes 116 = .ok (.ifCond .ne 39, 3) := fq_154 fk_cX10_passes_7 4 rfl rfl rfl rfl rfl
theorem fk_cX10_passes_9 : fq_ck cX10_passes 144 [0, 7, 27, 16, 6, 96, 21, 5, 96, 2, 79, 42, 180, 0, 226, 62, 42, 180] := fq_of fW_cX10_passes 9 rfl rfl
theorem dX10_passes_155 : decode cX10_passes 155 = .ok (.aload_n 0, 1) := fq_42 fk_cX10_passes_9 11 rfl rfl
theorem dX10_passes_156 : decode cX10_passes 156 = .ok (.getfield 226, 3) := fq_180 fk_cX10_passes_9 12 rfl rfl rfl rfl rfl
theorem dX10_passes_159 : decode cX10_passes 159 = .ok (.istore_n 3, 1) := fq_62 fk_cX10_passes_9 15 rfl rfl
theorem dX10_passes_174 : decode cX10_passes 174 = .ok (.iconst (-1), 1) := fq_2 fk_cX10_passes_10 14 rfl rfl
theorem dX10_passes_175 : decode cX10_passes 175 = .ok (.goto 5, 3) := fq_167 fk_cX10_passes_10 15 rfl rfl rfl rfl rfl
theorem dX10_passes_119 : decode cX10_passes 119 = .ok (.aload_n 0, 1) := fq_42 fk_cX10_passes_7 7 rfl rfl
theorem dX10_passes_120 : decode cX10_passes 120 = .ok (.getfield 216, 3) := fq_180 fk_cX10_passes_7 8 rfl rfl rfl rfl rfl
theorem dX10_passes_123 : decode cX10_passes 123 = .ok (.ifCond .le 32, 3) := fq_158 fk_cX10_passes_7 11 rfl rfl rfl rfl rfl
theorem dX10_passes_126 : decode cX10_passes 126 = .ok (.aload_n 0, 1) := fq_42 fk_cX10_passes_7 14 rfl rfl
theorem dX10_passes_127 : decode cX10_passes 127 = .ok (.getfield 7, 3) := fq_180 fk_cX10_passes_7 15 rfl rfl rfl rfl rfl
theorem fk_cX10_passes_8 : fq_ck cX10_passes 128 [0, 7, 27, 16, 18, 96, 92, 46, 4, 21, 5, 120, 128, 79, 42, 180, 0, 7] := fq_of fW_cX10_passes 8 rfl rfl
theorem dX10_passes_130 : decode cX10_passes 130 = .ok (.iload_n 1, 1) := fq_27 fk_cX10_passes_8 2 rfl rfl
theorem dX10_passes_131 : decode cX10_passes 131 = .ok (.bipush 18, 2) := fq_16 fk_cX10_passes_8 3 rfl rfl rfl rfl
theorem dX10_passes_133 : decode cX10_passes 133 = .ok (.iadd, 1) := fq_96 fk_cX10_passes_8 5 rfl rfl
theorem dX10_passes_134 : decode cX10_passes 134 = .ok (.dup2, 1) := fq_92 fk_cX10_passes_8 6 rfl rfl
theorem dX10_passes_135 : decode cX10_passes 135 = .ok (.iaload, 1) := fq_46 fk_cX10_passes_8 7 rfl rfl
theorem dX10_passes_136 : decode cX10_passes 136 = .ok (.iconst 1, 1) := fq_4 fk_cX10_passes_8 8 rfl rfl
theorem dX10_passes_137 : decode cX10_passes 137 = .ok (.iload 5, 2) := fq_21 fk_cX10_passes_8 9 rfl rfl rfl
theorem dX10_passes_139 : decode cX10_passes 139 = .ok (.ishl, 1) := fq_120 fk_cX10_passes_8 11 rfl rfl
theorem dX10_passes_140 : decode cX10_passes 140 = .ok (.ior, 1) := fq_128 fk_cX10_passes_8 12 rfl rfl
theorem dX10_passes_141 : decode cX10_passes 141 = .ok (.iastore, 1) := fq_79 fk_cX10_passes_8 13 rfl rfl
theorem dX10_passes_142 : decode cX10_passes 142 = .ok (.aload_n 0, 1) := fq_42 fk_cX10_passes_8 14 rfl rfl
theorem dX10_passes_143 : decode cX10_passes 143 = .ok (.getfield 7, 3) := fq_180 fk_cX10_passes_8 15 rfl rfl rfl rfl rfl
theorem dX10_passes_146 : decode cX10_passes 146 = .ok (.iload_n 1, 1) := fq_27 fk_cX10_passes_9 2 rfl rfl
theorem dX10_passes_147 : decode cX10_passes 147 = .ok (.bipush 6, 2) := fq_16 fk_cX10_passes_9 3 rfl rfl rfl rfl
theorem dX10_passes_149 : decode cX10_passes 149 = .ok (.iadd, 1) := fq_96 fk_cX10_passes_9 5 rfl rfl
theorem dX10_passes_150 : decode cX10_passes 150 = .ok (.iload 5, 2) := fq_21 fk_cX10_passes_9 6 rfl rfl rfl
theorem dX10_passes_152 : decode cX10_passes 152 = .ok (.iadd, 1) := fq_96 fk_cX10_passes_9 8 rfl rfl
theorem dX10_passes_153 : decode cX10_passes 153 = .ok (.iconst (-1), 1) := fq_2 fk_cX10_passes_9 9 rfl rfl
theorem dX10_passes_154 : decode cX10_passes 154 = .ok (.iastore, 1) := fq_79 fk_cX10_passes_9 10 rfl rfl
def fw_cX10_pass : List (List Nat) := [[42, 27, 182, 0, 213, 154, 0, 6, 18, 199, 172, 42, 180, 0, 7, 16, 20, 27], [20, 27, 96, 46, 153, 0, 6, 18, 233, 172, 42, 180, 0, 7, 16, 19, 46, 18], [46, 18, 241, 164, 0, 6, 18, 97, 172, 42, 182, 0, 234, 42, 3, 27, 182, 0], [182, 0, 242, 42, 180, 0, 7, 16, 19, 46, 172]]
theorem fW_cX10_pass : fq_wins 4 cX10_pass.data.toList = fw_cX10_pass := by decide +kernel
theorem fk_cX10_pass_0 : fq_ck cX10_pass 0 [42, 27, 182, 0, 213, 154, 0, 6, 18, 199, 172, 42, 180, 0, 7, 16, 20, 27] := fq_of fW_cX10_pass 0 rfl rfl
theorem dX10_pass_0 : decode cX10_pass 0 = .ok (.aload_n 0, 1) := fq_42 fk_cX10_pass_0 0 rfl rfl
theorem dX10_pass_1 : decode cX10_pass 1 = .ok (.iload_n 1, 1) := fq_27 fk_cX10_pass_0 1 rfl rfl
theorem dX10_pass_2 : decode cX10_pass 2 = .ok (.invokevirtual 213, 3) := fq_182 fk_cX10_pass_0 2 rfl rfl rfl rfl rfl
theorem dX10_pass_5 : decode cX10_pass 5 = .ok (.ifCond .ne 6, 3) := fq_154 fk_cX10_pass_0 5 rfl rfl rfl rfl rfl
theorem dX10_pass_11 : decode cX10_pass 11 = .ok (.aload_n 0, 1) := fq_42 fk_cX10_pass_0 11 rfl rfl
theorem dX10_pass_12 : decode cX10_pass 12 = .ok (.getfield 7, 3) := fq_180 fk_cX10_pass_0 12 rfl rfl rfl rfl rfl
theorem dX10_pass_15 : decode cX10_pass 15 = .ok (.bipush 20, 2) := fq_16 fk_cX10_pass_0 15 rfl rfl rfl rfl
theorem fk_cX10_pass_1 : fq_ck cX10_pass 16 [20, 27, 96, 46, 153, 0, 6, 18, 233, 172, 42, 180, 0, 7, 16, 19, 46, 18] := fq_of fW_cX10_pass 1 rfl rfl
theorem dX10_pass_17 : decode cX10_pass 17 = .ok (.iload_n 1, 1) := fq_27 fk_cX10_pass_1 1 rfl rfl
theorem dX10_pass_18 : decode cX10_pass 18 = .ok (.iadd, 1) := fq_96 fk_cX10_pass_1 2 rfl rfl
theorem dX10_pass_19 : decode cX10_pass 19 = .ok (.iaload, 1) := fq_46 fk_cX10_pass_1 3 rfl rfl
theorem dX10_pass_20 : decode cX10_pass 20 = .ok (.ifCond .eq 6, 3) := fq_153 fk_cX10_pass_1 4 rfl rfl rfl rfl rfl
theorem dX10_pass_26 : decode cX10_pass 26 = .ok (.aload_n 0, 1) := fq_42 fk_cX10_pass_1 10 rfl rfl
theorem dX10_pass_27 : decode cX10_pass 27 = .ok (.getfield 7, 3) := fq_180 fk_cX10_pass_1 11 rfl rfl rfl rfl rfl
theorem dX10_pass_30 : decode cX10_pass 30 = .ok (.bipush 19, 2) := fq_16 fk_cX10_pass_1 14 rfl rfl rfl rfl
theorem fk_cX10_pass_2 : fq_ck cX10_pass 32 [46, 18, 241, 164, 0, 6, 18, 97, 172, 42, 182, 0, 234, 42, 3, 27, 182, 0] := fq_of fW_cX10_pass 2 rfl rfl
theorem dX10_pass_32 : decode cX10_pass 32 = .ok (.iaload, 1) := fq_46 fk_cX10_pass_2 0 rfl rfl
theorem dX10_pass_33 : decode cX10_pass 33 = .ok (.ldc 241, 2) := fq_18 fk_cX10_pass_2 1 rfl rfl rfl
theorem dX10_pass_35 : decode cX10_pass 35 = .ok (.if_icmp .le 6, 3) := fq_164 fk_cX10_pass_2 3 rfl rfl rfl rfl rfl
theorem dX10_pass_41 : decode cX10_pass 41 = .ok (.aload_n 0, 1) := fq_42 fk_cX10_pass_2 9 rfl rfl
theorem dX10_pass_42 : decode cX10_pass 42 = .ok (.invokevirtual 234, 3) := fq_182 fk_cX10_pass_2 10 rfl rfl rfl rfl rfl
theorem dX10_pass_45 : decode cX10_pass 45 = .ok (.aload_n 0, 1) := fq_42 fk_cX10_pass_2 13 rfl rfl
theorem dX10_pass_46 : decode cX10_pass 46 = .ok (.iconst 0, 1) := fq_3 fk_cX10_pass_2 14 rfl rfl
theorem dX10_pass_47 : decode cX10_pass 47 = .ok (.iload_n 1, 1) := fq_27 fk_cX10_pass_2 15 rfl rfl
theorem fk_cX10_pass_3 : fq_ck cX10_pass 48 [182, 0, 242, 42, 180, 0, 7, 16, 19, 46, 172] := fq_of fW_cX10_pass 3 rfl rfl
theorem dX10_pass_48 : decode cX10_pass 48 = .ok (.invokevirtual 242, 3) := fq_182 fk_cX10_pass_3 0 rfl rfl rfl rfl rfl
theorem wd_668 : Cond.methodLink RX10 242 yX10_passes ∈ BG := BG_at5 108 (by decide +kernel) rfl
theorem wd_669 : Cond.code yX10_passes cX10_passes 6 none ∈ BG := BG_at5 111 rfl rfl
theorem wd_670 : Cond.instanceMethod yX10_passes ∈ BG := BG_at5 110 (by decide +kernel) rfl
theorem wd_671 : Cond.selects RX10 yX10_passes yX10_passes ∈ BG := BG_in (by decide +kernel) rfl
theorem okV_X10_passes : okV yX10_passes cX10_passes 6 none 2 := ⟨⟨wd_669, wd_497, by decide +kernel⟩, wd_670, wd_671⟩
theorem dX10_pass_51 : decode cX10_pass 51 = .ok (.aload_n 0, 1) := fq_42 fk_cX10_pass_3 3 rfl rfl
theorem dX10_pass_52 : decode cX10_pass 52 = .ok (.getfield 7, 3) := fq_180 fk_cX10_pass_3 4 rfl rfl rfl rfl rfl
theorem dX10_pass_55 : decode cX10_pass 55 = .ok (.bipush 19, 2) := fq_16 fk_cX10_pass_3 7 rfl rfl rfl rfl
theorem dX10_pass_57 : decode cX10_pass 57 = .ok (.iaload, 1) := fq_46 fk_cX10_pass_3 9 rfl rfl
theorem dX10_pass_58 : decode cX10_pass 58 = .ok (.ireturn, 1) := fq_172 fk_cX10_pass_3 10 rfl rfl
theorem dX10_pass_38 : decode cX10_pass 38 = .ok (.ldc 97, 2) := fq_18 fk_cX10_pass_2 6 rfl rfl rfl
theorem dX10_pass_40 : decode cX10_pass 40 = .ok (.ireturn, 1) := fq_172 fk_cX10_pass_2 8 rfl rfl
theorem dX10_pass_23 : decode cX10_pass 23 = .ok (.ldc 233, 2) := fq_18 fk_cX10_pass_1 7 rfl rfl rfl
theorem dX10_pass_25 : decode cX10_pass 25 = .ok (.ireturn, 1) := fq_172 fk_cX10_pass_1 9 rfl rfl
theorem dX10_pass_8 : decode cX10_pass 8 = .ok (.ldc 199, 2) := fq_18 fk_cX10_pass_0 8 rfl rfl rfl
theorem dX10_pass_10 : decode cX10_pass 10 = .ok (.ireturn, 1) := fq_172 fk_cX10_pass_0 10 rfl rfl
def fw_cX10_layCosts : List (List Nat) := [[3, 60, 27, 42, 180, 0, 81, 162, 0, 58, 3, 61, 28, 42, 180, 0, 78, 162], [78, 162, 0, 42, 42, 28, 27, 182, 1, 11, 62, 42, 180, 0, 60, 16, 6, 27], [6, 27, 104, 28, 96, 29, 2, 160, 0, 9, 19, 1, 14, 167, 0, 7, 42, 180], [42, 180, 1, 8, 79, 132, 2, 1, 167, 255, 212, 132, 1, 1, 167, 255, 196, 177], [196, 177]]
theorem fW_cX10_layCosts : fq_wins 5 cX10_layCosts.data.toList = fw_cX10_layCosts := by decide +kernel
theorem fk_cX10_layCosts_0 : fq_ck cX10_layCosts 0 [3, 60, 27, 42, 180, 0, 81, 162, 0, 58, 3, 61, 28, 42, 180, 0, 78, 162] := fq_of fW_cX10_layCosts 0 rfl rfl
theorem dX10_layCosts_0 : decode cX10_layCosts 0 = .ok (.iconst 0, 1) := fq_3 fk_cX10_layCosts_0 0 rfl rfl
theorem dX10_layCosts_1 : decode cX10_layCosts 1 = .ok (.istore_n 1, 1) := fq_60 fk_cX10_layCosts_0 1 rfl rfl
theorem fk_cX10_layCosts_4 : fq_ck cX10_layCosts 64 [196, 177] := fq_of fW_cX10_layCosts 4 rfl rfl
theorem dX10_layCosts_65 : decode cX10_layCosts 65 = .ok (.return_, 1) := fq_177 fk_cX10_layCosts_4 1 rfl rfl
theorem dX10_layCosts_2 : decode cX10_layCosts 2 = .ok (.iload_n 1, 1) := fq_27 fk_cX10_layCosts_0 2 rfl rfl
theorem dX10_layCosts_3 : decode cX10_layCosts 3 = .ok (.aload_n 0, 1) := fq_42 fk_cX10_layCosts_0 3 rfl rfl
theorem dX10_layCosts_4 : decode cX10_layCosts 4 = .ok (.getfield 81, 3) := fq_180 fk_cX10_layCosts_0 4 rfl rfl rfl rfl rfl
theorem dX10_layCosts_7 : decode cX10_layCosts 7 = .ok (.if_icmp .ge 58, 3) := fq_162 fk_cX10_layCosts_0 7 rfl rfl rfl rfl rfl
theorem dX10_layCosts_10 : decode cX10_layCosts 10 = .ok (.iconst 0, 1) := fq_3 fk_cX10_layCosts_0 10 rfl rfl
theorem dX10_layCosts_11 : decode cX10_layCosts 11 = .ok (.istore_n 2, 1) := fq_61 fk_cX10_layCosts_0 11 rfl rfl
theorem fk_cX10_layCosts_3 : fq_ck cX10_layCosts 48 [42, 180, 1, 8, 79, 132, 2, 1, 167, 255, 212, 132, 1, 1, 167, 255, 196, 177] := fq_of fW_cX10_layCosts 3 rfl rfl
theorem dX10_layCosts_59 : decode cX10_layCosts 59 = .ok (.iinc 1 1, 3) := fq_132 fk_cX10_layCosts_3 11 rfl rfl rfl rfl rfl
theorem dX10_layCosts_62 : decode cX10_layCosts 62 = .ok (.goto (-60), 3) := fq_167 fk_cX10_layCosts_3 14 rfl rfl rfl rfl rfl
theorem dX10_layCosts_12 : decode cX10_layCosts 12 = .ok (.iload_n 2, 1) := fq_28 fk_cX10_layCosts_0 12 rfl rfl
theorem dX10_layCosts_13 : decode cX10_layCosts 13 = .ok (.aload_n 0, 1) := fq_42 fk_cX10_layCosts_0 13 rfl rfl
theorem dX10_layCosts_14 : decode cX10_layCosts 14 = .ok (.getfield 78, 3) := fq_180 fk_cX10_layCosts_0 14 rfl rfl rfl rfl rfl
theorem fk_cX10_layCosts_1 : fq_ck cX10_layCosts 16 [78, 162, 0, 42, 42, 28, 27, 182, 1, 11, 62, 42, 180, 0, 60, 16, 6, 27] := fq_of fW_cX10_layCosts 1 rfl rfl
theorem dX10_layCosts_17 : decode cX10_layCosts 17 = .ok (.if_icmp .ge 42, 3) := fq_162 fk_cX10_layCosts_1 1 rfl rfl rfl rfl rfl
theorem dX10_layCosts_20 : decode cX10_layCosts 20 = .ok (.aload_n 0, 1) := fq_42 fk_cX10_layCosts_1 4 rfl rfl
theorem dX10_layCosts_21 : decode cX10_layCosts 21 = .ok (.iload_n 2, 1) := fq_28 fk_cX10_layCosts_1 5 rfl rfl
theorem dX10_layCosts_22 : decode cX10_layCosts 22 = .ok (.iload_n 1, 1) := fq_27 fk_cX10_layCosts_1 6 rfl rfl
theorem dX10_layCosts_23 : decode cX10_layCosts 23 = .ok (.invokevirtual 267, 3) := fq_182 fk_cX10_layCosts_1 7 rfl rfl rfl rfl rfl
theorem dX10_layCosts_26 : decode cX10_layCosts 26 = .ok (.istore_n 3, 1) := fq_62 fk_cX10_layCosts_1 10 rfl rfl
theorem dX10_layCosts_27 : decode cX10_layCosts 27 = .ok (.aload_n 0, 1) := fq_42 fk_cX10_layCosts_1 11 rfl rfl
theorem wd_672 : Cond.fieldLink RX10 60 "QuarrelBridgesModel" "costs" "[I" ∈ BG := BG_at4 100 (by decide +kernel) rfl
theorem dX10_layCosts_28 : decode cX10_layCosts 28 = .ok (.getfield 60, 3) := fq_180 fk_cX10_layCosts_1 12 rfl rfl rfl rfl rfl
theorem dX10_layCosts_31 : decode cX10_layCosts 31 = .ok (.bipush 6, 2) := fq_16 fk_cX10_layCosts_1 15 rfl rfl rfl rfl
theorem fk_cX10_layCosts_2 : fq_ck cX10_layCosts 32 [6, 27, 104, 28, 96, 29, 2, 160, 0, 9, 19, 1, 14, 167, 0, 7, 42, 180] := fq_of fW_cX10_layCosts 2 rfl rfl
theorem dX10_layCosts_33 : decode cX10_layCosts 33 = .ok (.iload_n 1, 1) := fq_27 fk_cX10_layCosts_2 1 rfl rfl
theorem dX10_layCosts_34 : decode cX10_layCosts 34 = .ok (.imul, 1) := fq_104 fk_cX10_layCosts_2 2 rfl rfl
theorem dX10_layCosts_35 : decode cX10_layCosts 35 = .ok (.iload_n 2, 1) := fq_28 fk_cX10_layCosts_2 3 rfl rfl
theorem dX10_layCosts_36 : decode cX10_layCosts 36 = .ok (.iadd, 1) := fq_96 fk_cX10_layCosts_2 4 rfl rfl
theorem dX10_layCosts_37 : decode cX10_layCosts 37 = .ok (.iload_n 3, 1) := fq_29 fk_cX10_layCosts_2 5 rfl rfl
theorem dX10_layCosts_38 : decode cX10_layCosts 38 = .ok (.iconst (-1), 1) := fq_2 fk_cX10_layCosts_2 6 rfl rfl
theorem dX10_layCosts_39 : decode cX10_layCosts 39 = .ok (.if_icmp .ne 9, 3) := fq_160 fk_cX10_layCosts_2 7 rfl rfl rfl rfl rfl
theorem dX10_layCosts_48 : decode cX10_layCosts 48 = .ok (.aload_n 0, 1) := fq_42 fk_cX10_layCosts_3 0 rfl rfl
theorem dX10_layCosts_49 : decode cX10_layCosts 49 = .ok (.getfield 264, 3) := fq_180 fk_cX10_layCosts_3 1 rfl rfl rfl rfl rfl
theorem dX10_layCosts_52 : decode cX10_layCosts 52 = .ok (.iastore, 1) := fq_79 fk_cX10_layCosts_3 4 rfl rfl
theorem dX10_layCosts_53 : decode cX10_layCosts 53 = .ok (.iinc 2 1, 3) := fq_132 fk_cX10_layCosts_3 5 rfl rfl rfl rfl rfl
theorem dX10_layCosts_56 : decode cX10_layCosts 56 = .ok (.goto (-44), 3) := fq_167 fk_cX10_layCosts_3 8 rfl rfl rfl rfl rfl
theorem dX10_layCosts_42 : decode cX10_layCosts 42 = .ok (.ldc_w 270, 3) := fq_19 fk_cX10_layCosts_2 10 rfl rfl rfl rfl rfl
theorem dX10_layCosts_45 : decode cX10_layCosts 45 = .ok (.goto 7, 3) := fq_167 fk_cX10_layCosts_2 13 rfl rfl rfl rfl rfl
noncomputable def f_m_passes_5 (f10 : Nat → Int32) (f8 : Nat → Int32) (f11 : Nat → Int32) (h_ : Int32) (v_ : Int32) (n : Nat) : Int32 → Int32 → (Nat → Int32) → (Nat → Int32) → Int32 × Int32 × (Nat → Int32) × (Nat → Int32) := Nat.rec (motive := fun _ => Int32 → Int32 → (Nat → Int32) → (Nat → Int32) → Int32 × Int32 × (Nat → Int32) × (Nat → Int32)) (fun w_1l4 w_1l3 w_1m0 w_1m1 => (w_1l4, w_1l3, w_1m0, w_1m1)) (fun n ih w_1l4 w_1l3 w_1m0 w_1m1 => (if (f11 (v_ : Int32).toNatClampNeg) < w_1l4 then (w_1l4, w_1l3, w_1m0, w_1m1) else (if w_1l3 = 0 then (w_1l4, w_1l3, w_1m0, w_1m1) else (if (f_m_whoIsAt w_1m0 w_1m1 h_ w_1l4) = (-1) then (ih (w_1l4 + 1) 0 w_1m0 (upd w_1m1 (((h_ + 27) + v_) : Int32).toNatClampNeg w_1l4)) else (if ((f_m_quarrels w_1m0 f10 (f_m_whoIsAt w_1m0 w_1m1 h_ w_1l4) (w_1m1 (((h_ + 12) + (f_m_whoIsAt w_1m0 w_1m1 h_ w_1l4)) : Int32).toNatClampNeg) (w_1m1 (((h_ + 0) + (f_m_whoIsAt w_1m0 w_1m1 h_ w_1l4)) : Int32).toNatClampNeg) (f8 (w_1l4 : Int32).toNatClampNeg)) 33) = 0 then (if ((f_m_quarrels w_1m0 f10 (f_m_whoIsAt w_1m0 w_1m1 h_ w_1l4) (w_1m1 (((h_ + 12) + (f_m_whoIsAt w_1m0 w_1m1 h_ w_1l4)) : Int32).toNatClampNeg) (w_1m1 (((h_ + 0) + (f_m_whoIsAt w_1m0 w_1m1 h_ w_1l4)) : Int32).toNatClampNeg) (f8 (w_1l4 : Int32).toNatClampNeg)) 32) ≤ 0 then (if ((f_m_quarrels w_1m0 f10 (f_m_whoIsAt w_1m0 w_1m1 h_ w_1l4) (w_1m1 (((h_ + 12) + (f_m_whoIsAt w_1m0 w_1m1 h_ w_1l4)) : Int32).toNatClampNeg) (w_1m1 (((h_ + 0) + (f_m_whoIsAt w_1m0 w_1m1 h_ w_1l4)) : Int32).toNatClampNeg) (f8 (w_1l4 : Int32).toNatClampNeg)) 34) = 0 then (ih (w_1l4 + 1) ((f_m_quarrels w_1m0 f10 (f_m_whoIsAt w_1m0 w_1m1 h_ w_1l4) (w_1m1 (((h_ + 12) + (f_m_whoIsAt w_1m0 w_1m1 h_ w_1l4)) : Int32).toNatClampNeg) (w_1m1 (((h_ + 0) + (f_m_whoIsAt w_1m0 w_1m1 h_ w_1l4)) : Int32).toNatClampNeg) (f8 (w_1l4 : Int32).toNatClampNeg)) 34) (f_m_quarrels w_1m0 f10 (f_m_whoIsAt w_1m0 w_1m1 h_ w_1l4) (w_1m1 (((h_ + 12) + (f_m_whoIsAt w_1m0 w_1m1 h_ w_1l4)) : Int32).toNatClampNeg) (w_1m1 (((h_ + 0) + (f_m_whoIsAt w_1m0 w_1m1 h_ w_1l4)) : Int32).toNatClampNeg) (f8 (w_1l4 : Int32).toNatClampNeg)) (upd (upd (upd w_1m1 ((h_ + 19) : Int32).toNatClampNeg ((w_1m1 ((h_ + 19) : Int32).toNatClampNeg) + ((f_m_quarrels w_1m0 f10 (f_m_whoIsAt w_1m0 w_1m1 h_ w_1l4) (w_1m1 (((h_ + 12) + (f_m_whoIsAt w_1m0 w_1m1 h_ w_1l4)) : Int32).toNatClampNeg) (w_1m1 (((h_ + 0) + (f_m_whoIsAt w_1m0 w_1m1 h_ w_1l4)) : Int32).toNatClampNeg) (f8 (w_1l4 : Int32).toNatClampNeg)) 32))) (((h_ + 0) + (f_m_whoIsAt w_1m0 w_1m1 h_ w_1l4)) : Int32).toNatClampNeg ((f_m_quarrels w_1m0 f10 (f_m_whoIsAt w_1m0 w_1m1 h_ w_1l4) (w_1m1 (((h_ + 12) + (f_m_whoIsAt w_1m0 w_1m1 h_ w_1l4)) : Int32).toNatClampNeg) (w_1m1 (((h_ + 0) + (f_m_whoIsAt w_1m0 w_1m1 h_ w_1l4)) : Int32).toNatClampNeg) (f8 (w_1l4 : Int32).toNatClampNeg)) 33)) (((h_ + 27) + v_) : Int32).toNatClampNeg w_1l4)) else (ih (w_1l4 + 1) ((f_m_quarrels w_1m0 f10 (f_m_whoIsAt w_1m0 w_1m1 h_ w_1l4) (w_1m1 (((h_ + 12) + (f_m_whoIsAt w_1m0 w_1m1 h_ w_1l4)) : Int32).toNatClampNeg) (w_1m1 (((h_ + 0) + (f_m_whoIsAt w_1m0 w_1m1 h_ w_1l4)) : Int32).toNatClampNeg) (f8 (w_1l4 : Int32).toNatClampNeg)) 34) (f_m_quarrels w_1m0 f10 (f_m_whoIsAt w_1m0 w_1m1 h_ w_1l4) (w_1m1 (((h_ + 12) + (f_m_whoIsAt w_1m0 w_1m1 h_ w_1l4)) : Int32).toNatClampNeg) (w_1m1 (((h_ + 0) + (f_m_whoIsAt w_1m0 w_1m1 h_ w_1l4)) : Int32).toNatClampNeg) (f8 (w_1l4 : Int32).toNatClampNeg)) (upd (upd (upd w_1m1 ((h_ + 19) : Int32).toNatClampNeg ((w_1m1 ((h_ + 19) : Int32).toNatClampNeg) + ((f_m_quarrels w_1m0 f10 (f_m_whoIsAt w_1m0 w_1m1 h_ w_1l4) (w_1m1 (((h_ + 12) + (f_m_whoIsAt w_1m0 w_1m1 h_ w_1l4)) : Int32).toNatClampNeg) (w_1m1 (((h_ + 0) + (f_m_whoIsAt w_1m0 w_1m1 h_ w_1l4)) : Int32).toNatClampNeg) (f8 (w_1l4 : Int32).toNatClampNeg)) 32))) (((h_ + 0) + (f_m_whoIsAt w_1m0 w_1m1 h_ w_1l4)) : Int32).toNatClampNeg ((f_m_quarrels w_1m0 f10 (f_m_whoIsAt w_1m0 w_1m1 h_ w_1l4) (w_1m1 (((h_ + 12) + (f_m_whoIsAt w_1m0 w_1m1 h_ w_1l4)) : Int32).toNatClampNeg) (w_1m1 (((h_ + 0) + (f_m_whoIsAt w_1m0 w_1m1 h_ w_1l4)) : Int32).toNatClampNeg) (f8 (w_1l4 : Int32).toNatClampNeg)) 33)) (((h_ + 27) + v_) : Int32).toNatClampNeg (-1)))) else (if ((f_m_quarrels w_1m0 f10 (f_m_whoIsAt w_1m0 w_1m1 h_ w_1l4) (w_1m1 (((h_ + 12) + (f_m_whoIsAt w_1m0 w_1m1 h_ w_1l4)) : Int32).toNatClampNeg) (w_1m1 (((h_ + 0) + (f_m_whoIsAt w_1m0 w_1m1 h_ w_1l4)) : Int32).toNatClampNeg) (f8 (w_1l4 : Int32).toNatClampNeg)) 34) = 0 then (ih (w_1l4 + 1) ((f_m_quarrels w_1m0 f10 (f_m_whoIsAt w_1m0 w_1m1 h_ w_1l4) (w_1m1 (((h_ + 12) + (f_m_whoIsAt w_1m0 w_1m1 h_ w_1l4)) : Int32).toNatClampNeg) (w_1m1 (((h_ + 0) + (f_m_whoIsAt w_1m0 w_1m1 h_ w_1l4)) : Int32).toNatClampNeg) (f8 (w_1l4 : Int32).toNatClampNeg)) 34) (f_m_quarrels w_1m0 f10 (f_m_whoIsAt w_1m0 w_1m1 h_ w_1l4) (w_1m1 (((h_ + 12) + (f_m_whoIsAt w_1m0 w_1m1 h_ w_1l4)) : Int32).toNatClampNeg) (w_1m1 (((h_ + 0) + (f_m_whoIsAt w_1m0 w_1m1 h_ w_1l4)) : Int32).toNatClampNeg) (f8 (w_1l4 : Int32).toNatClampNeg)) (upd (upd (upd (upd (upd w_1m1 ((h_ + 19) : Int32).toNatClampNeg ((w_1m1 ((h_ + 19) : Int32).toNatClampNeg) + ((f_m_quarrels w_1m0 f10 (f_m_whoIsAt w_1m0 w_1m1 h_ w_1l4) (w_1m1 (((h_ + 12) + (f_m_whoIsAt w_1m0 w_1m1 h_ w_1l4)) : Int32).toNatClampNeg) (w_1m1 (((h_ + 0) + (f_m_whoIsAt w_1m0 w_1m1 h_ w_1l4)) : Int32).toNatClampNeg) (f8 (w_1l4 : Int32).toNatClampNeg)) 32))) (((h_ + 0) + (f_m_whoIsAt w_1m0 w_1m1 h_ w_1l4)) : Int32).toNatClampNeg ((f_m_quarrels w_1m0 f10 (f_m_whoIsAt w_1m0 w_1m1 h_ w_1l4) (w_1m1 (((h_ + 12) + (f_m_whoIsAt w_1m0 w_1m1 h_ w_1l4)) : Int32).toNatClampNeg) (w_1m1 (((h_ + 0) + (f_m_whoIsAt w_1m0 w_1m1 h_ w_1l4)) : Int32).toNatClampNeg) (f8 (w_1l4 : Int32).toNatClampNeg)) 33)) ((h_ + 18) : Int32).toNatClampNeg (((upd (upd w_1m1 ((h_ + 19) : Int32).toNatClampNeg ((w_1m1 ((h_ + 19) : Int32).toNatClampNeg) + ((f_m_quarrels w_1m0 f10 (f_m_whoIsAt w_1m0 w_1m1 h_ w_1l4) (w_1m1 (((h_ + 12) + (f_m_whoIsAt w_1m0 w_1m1 h_ w_1l4)) : Int32).toNatClampNeg) (w_1m1 (((h_ + 0) + (f_m_whoIsAt w_1m0 w_1m1 h_ w_1l4)) : Int32).toNatClampNeg) (f8 (w_1l4 : Int32).toNatClampNeg)) 32))) (((h_ + 0) + (f_m_whoIsAt w_1m0 w_1m1 h_ w_1l4)) : Int32).toNatClampNeg ((f_m_quarrels w_1m0 f10 (f_m_whoIsAt w_1m0 w_1m1 h_ w_1l4) (w_1m1 (((h_ + 12) + (f_m_whoIsAt w_1m0 w_1m1 h_ w_1l4)) : Int32).toNatClampNeg) (w_1m1 (((h_ + 0) + (f_m_whoIsAt w_1m0 w_1m1 h_ w_1l4)) : Int32).toNatClampNeg) (f8 (w_1l4 : Int32).toNatClampNeg)) 33)) ((h_ + 18) : Int32).toNatClampNeg) ||| (1 <<< ((f_m_whoIsAt w_1m0 w_1m1 h_ w_1l4) &&& 31)))) (((h_ + 6) + (f_m_whoIsAt w_1m0 w_1m1 h_ w_1l4)) : Int32).toNatClampNeg (-1)) (((h_ + 27) + v_) : Int32).toNatClampNeg w_1l4)) else (ih (w_1l4 + 1) ((f_m_quarrels w_1m0 f10 (f_m_whoIsAt w_1m0 w_1m1 h_ w_1l4) (w_1m1 (((h_ + 12) + (f_m_whoIsAt w_1m0 w_1m1 h_ w_1l4)) : Int32).toNatClampNeg) (w_1m1 (((h_ + 0) + (f_m_whoIsAt w_1m0 w_1m1 h_ w_1l4)) : Int32).toNatClampNeg) (f8 (w_1l4 : Int32).toNatClampNeg)) 34) (f_m_quarrels w_1m0 f10 (f_m_whoIsAt w_1m0 w_1m1 h_ w_1l4) (w_1m1 (((h_ + 12) + (f_m_whoIsAt w_1m0 w_1m1 h_ w_1l4)) : Int32).toNatClampNeg) (w_1m1 (((h_ + 0) + (f_m_whoIsAt w_1m0 w_1m1 h_ w_1l4)) : Int32).toNatClampNeg) (f8 (w_1l4 : Int32).toNatClampNeg)) (upd (upd (upd (upd (upd w_1m1 ((h_ + 19) : Int32).toNatClampNeg ((w_1m1 ((h_ + 19) : Int32).toNatClampNeg) + ((f_m_quarrels w_1m0 f10 (f_m_whoIsAt w_1m0 w_1m1 h_ w_1l4) (w_1m1 (((h_ + 12) + (f_m_whoIsAt w_1m0 w_1m1 h_ w_1l4)) : Int32).toNatClampNeg) (w_1m1 (((h_ + 0) + (f_m_whoIsAt w_1m0 w_1m1 h_ w_1l4)) : Int32).toNatClampNeg) (f8 (w_1l4 : Int32).toNatClampNeg)) 32))) (((h_ + 0) + (f_m_whoIsAt w_1m0 w_1m1 h_ w_1l4)) : Int32).toNatClampNeg ((f_m_quarrels w_1m0 f10 (f_m_whoIsAt w_1m0 w_1m1 h_ w_1l4) (w_1m1 (((h_ + 12) + (f_m_whoIsAt w_1m0 w_1m1 h_ w_1l4)) : Int32).toNatClampNeg) (w_1m1 (((h_ + 0) + (f_m_whoIsAt w_1m0 w_1m1 h_ w_1l4)) : Int32).toNatClampNeg) (f8 (w_1l4 : Int32).toNatClampNeg)) 33)) ((h_ + 18) : Int32).toNatClampNeg (((upd (upd w_1m1 ((h_ + 19) : Int32).toNatClampNeg ((w_1m1 ((h_ + 19) : Int32).toNatClampNeg) + ((f_m_quarrels w_1m0 f10 (f_m_whoIsAt w_1m0 w_1m1 h_ w_1l4) (w_1m1 (((h_ + 12) + (f_m_whoIsAt w_1m0 w_1m1 h_ w_1l4)) : Int32).toNatClampNeg) (w_1m1 (((h_ + 0) + (f_m_whoIsAt w_1m0 w_1m1 h_ w_1l4)) : Int32).toNatClampNeg) (f8 (w_1l4 : Int32).toNatClampNeg)) 32))) (((h_ + 0) + (f_m_whoIsAt w_1m0 w_1m1 h_ w_1l4)) : Int32).toNatClampNeg ((f_m_quarrels w_1m0 f10 (f_m_whoIsAt w_1m0 w_1m1 h_ w_1l4) (w_1m1 (((h_ + 12) + (f_m_whoIsAt w_1m0 w_1m1 h_ w_1l4)) : Int32).toNatClampNeg) (w_1m1 (((h_ + 0) + (f_m_whoIsAt w_1m0 w_1m1 h_ w_1l4)) : Int32).toNatClampNeg) (f8 (w_1l4 : Int32).toNatClampNeg)) 33)) ((h_ + 18) : Int32).toNatClampNeg) ||| (1 <<< ((f_m_whoIsAt w_1m0 w_1m1 h_ w_1l4) &&& 31)))) (((h_ + 6) + (f_m_whoIsAt w_1m0 w_1m1 h_ w_1l4)) : Int32).toNatClampNeg (-1)) (((h_ + 27) + v_) : Int32).toNatClampNeg (-1))))) else (if ((f_m_quarrels w_1m0 f10 (f_m_whoIsAt w_1m0 w_1m1 h_ w_1l4) (w_1m1 (((h_ + 12) + (f_m_whoIsAt w_1m0 w_1m1 h_ w_1l4)) : Int32).toNatClampNeg) (w_1m1 (((h_ + 0) + (f_m_whoIsAt w_1m0 w_1m1 h_ w_1l4)) : Int32).toNatClampNeg) (f8 (w_1l4 : Int32).toNatClampNeg)) 34) = 0 then (ih (w_1l4 + 1) ((f_m_quarrels w_1m0 f10 (f_m_whoIsAt w_1m0 w_1m1 h_ w_1l4) (w_1m1 (((h_ + 12) + (f_m_whoIsAt w_1m0 w_1m1 h_ w_1l4)) : Int32).toNatClampNeg) (w_1m1 (((h_ + 0) + (f_m_whoIsAt w_1m0 w_1m1 h_ w_1l4)) : Int32).toNatClampNeg) (f8 (w_1l4 : Int32).toNatClampNeg)) 34) (f_m_quarrels w_1m0 f10 (f_m_whoIsAt w_1m0 w_1m1 h_ w_1l4) (w_1m1 (((h_ + 12) + (f_m_whoIsAt w_1m0 w_1m1 h_ w_1l4)) : Int32).toNatClampNeg) (w_1m1 (((h_ + 0) + (f_m_whoIsAt w_1m0 w_1m1 h_ w_1l4)) : Int32).toNatClampNeg) (f8 (w_1l4 : Int32).toNatClampNeg)) (upd (upd (upd w_1m1 ((h_ + 19) : Int32).toNatClampNeg ((w_1m1 ((h_ + 19) : Int32).toNatClampNeg) + ((f_m_quarrels w_1m0 f10 (f_m_whoIsAt w_1m0 w_1m1 h_ w_1l4) (w_1m1 (((h_ + 12) + (f_m_whoIsAt w_1m0 w_1m1 h_ w_1l4)) : Int32).toNatClampNeg) (w_1m1 (((h_ + 0) + (f_m_whoIsAt w_1m0 w_1m1 h_ w_1l4)) : Int32).toNatClampNeg) (f8 (w_1l4 : Int32).toNatClampNeg)) 32))) (((h_ + 0) + (f_m_whoIsAt w_1m0 w_1m1 h_ w_1l4)) : Int32).toNatClampNeg ((f_m_quarrels w_1m0 f10 (f_m_whoIsAt w_1m0 w_1m1 h_ w_1l4) (w_1m1 (((h_ + 12) + (f_m_whoIsAt w_1m0 w_1m1 h_ w_1l4)) : Int32).toNatClampNeg) (w_1m1 (((h_ + 0) + (f_m_whoIsAt w_1m0 w_1m1 h_ w_1l4)) : Int32).toNatClampNeg) (f8 (w_1l4 : Int32).toNatClampNeg)) 33)) (((h_ + 27) + v_) : Int32).toNatClampNeg w_1l4)) else (ih (w_1l4 + 1) ((f_m_quarrels w_1m0 f10 (f_m_whoIsAt w_1m0 w_1m1 h_ w_1l4) (w_1m1 (((h_ + 12) + (f_m_whoIsAt w_1m0 w_1m1 h_ w_1l4)) : Int32).toNatClampNeg) (w_1m1 (((h_ + 0) + (f_m_whoIsAt w_1m0 w_1m1 h_ w_1l4)) : Int32).toNatClampNeg) (f8 (w_1l4 : Int32).toNatClampNeg)) 34) (f_m_quarrels w_1m0 f10 (f_m_whoIsAt w_1m0 w_1m1 h_ w_1l4) (w_1m1 (((h_ + 12) + (f_m_whoIsAt w_1m0 w_1m1 h_ w_1l4)) : Int32).toNatClampNeg) (w_1m1 (((h_ + 0) + (f_m_whoIsAt w_1m0 w_1m1 h_ w_1l4)) : Int32).toNatClampNeg) (f8 (w_1l4 : Int32).toNatClampNeg)) (upd (upd (upd w_1m1 ((h_ + 19) : Int32).toNatClampNeg ((w_1m1 ((h_ + 19) : Int32).toNatClampNeg) + ((f_m_quarrels w_1m0 f10 (f_m_whoIsAt w_1m0 w_1m1 h_ w_1l4) (w_1m1 (((h_ + 12) + (f_m_whoIsAt w_1m0 w_1m1 h_ w_1l4)) : Int32).toNatClampNeg) (w_1m1 (((h_ + 0) + (f_m_whoIsAt w_1m0 w_1m1 h_ w_1l4)) : Int32).toNatClampNeg) (f8 (w_1l4 : Int32).toNatClampNeg)) 32))) (((h_ + 0) + (f_m_whoIsAt w_1m0 w_1m1 h_ w_1l4)) : Int32).toNatClampNeg ((f_m_quarrels w_1m0 f10 (f_m_whoIsAt w_1m0 w_1m1 h_ w_1l4) (w_1m1 (((h_ + 12) + (f_m_whoIsAt w_1m0 w_1m1 h_ w_1l4)) : Int32).toNatClampNeg) (w_1m1 (((h_ + 0) + (f_m_whoIsAt w_1m0 w_1m1 h_ w_1l4)) : Int32).toNatClampNeg) (f8 (w_1l4 : Int32).toNatClampNeg)) 33)) (((h_ + 27) + v_) : Int32).toNatClampNeg (-1))))))))) n
theorem f_m_passes_5_s (f10 : Nat → Int32) (f8 : Nat → Int32) (f11 : Nat → Int32) (h_ : Int32) (v_ : Int32) (n : Nat) (w_1l4 : Int32) (w_1l3 : Int32) (w_1m0 : (Nat → Int32)) (w_1m1 : (Nat → Int32)) : f_m_passes_5 f10 f8 f11 h_ v_ (n + 1) w_1l4 w_1l3 w_1m0 w_1m1 = (if (f11 (v_ : Int32).toNatClampNeg) < w_1l4 then (w_1l4, w_1l3, w_1m0, w_1m1) else (if w_1l3 = 0 then (w_1l4, w_1l3, w_1m0, w_1m1) else (if (f_m_whoIsAt w_1m0 w_1m1 h_ w_1l4) = (-1) then (f_m_passes_5 f10 f8 f11 h_ v_ n (w_1l4 + 1) 0 w_1m0 (upd w_1m1 (((h_ + 27) + v_) : Int32).toNatClampNeg w_1l4)) else (if ((f_m_quarrels w_1m0 f10 (f_m_whoIsAt w_1m0 w_1m1 h_ w_1l4) (w_1m1 (((h_ + 12) + (f_m_whoIsAt w_1m0 w_1m1 h_ w_1l4)) : Int32).toNatClampNeg) (w_1m1 (((h_ + 0) + (f_m_whoIsAt w_1m0 w_1m1 h_ w_1l4)) : Int32).toNatClampNeg) (f8 (w_1l4 : Int32).toNatClampNeg)) 33) = 0 then (if ((f_m_quarrels w_1m0 f10 (f_m_whoIsAt w_1m0 w_1m1 h_ w_1l4) (w_1m1 (((h_ + 12) + (f_m_whoIsAt w_1m0 w_1m1 h_ w_1l4)) : Int32).toNatClampNeg) (w_1m1 (((h_ + 0) + (f_m_whoIsAt w_1m0 w_1m1 h_ w_1l4)) : Int32).toNatClampNeg) (f8 (w_1l4 : Int32).toNatClampNeg)) 32) ≤ 0 then (if ((f_m_quarrels w_1m0 f10 (f_m_whoIsAt w_1m0 w_1m1 h_ w_1l4) (w_1m1 (((h_ + 12) + (f_m_whoIsAt w_1m0 w_1m1 h_ w_1l4)) : Int32).toNatClampNeg) (w_1m1 (((h_ + 0) + (f_m_whoIsAt w_1m0 w_1m1 h_ w_1l4)) : Int32).toNatClampNeg) (f8 (w_1l4 : Int32).toNatClampNeg)) 34) = 0 then (f_m_passes_5 f10 f8 f11 h_ v_ n (w_1l4 + 1) ((f_m_quarrels w_1m0 f10 (f_m_whoIsAt w_1m0 w_1m1 h_ w_1l4) (w_1m1 (((h_ + 12) + (f_m_whoIsAt w_1m0 w_1m1 h_ w_1l4)) : Int32).toNatClampNeg) (w_1m1 (((h_ + 0) + (f_m_whoIsAt w_1m0 w_1m1 h_ w_1l4)) : Int32).toNatClampNeg) (f8 (w_1l4 : Int32).toNatClampNeg)) 34) (f_m_quarrels w_1m0 f10 (f_m_whoIsAt w_1m0 w_1m1 h_ w_1l4) (w_1m1 (((h_ + 12) + (f_m_whoIsAt w_1m0 w_1m1 h_ w_1l4)) : Int32).toNatClampNeg) (w_1m1 (((h_ + 0) + (f_m_whoIsAt w_1m0 w_1m1 h_ w_1l4)) : Int32).toNatClampNeg) (f8 (w_1l4 : Int32).toNatClampNeg)) (upd (upd (upd w_1m1 ((h_ + 19) : Int32).toNatClampNeg ((w_1m1 ((h_ + 19) : Int32).toNatClampNeg) + ((f_m_quarrels w_1m0 f10 (f_m_whoIsAt w_1m0 w_1m1 h_ w_1l4) (w_1m1 (((h_ + 12) + (f_m_whoIsAt w_1m0 w_1m1 h_ w_1l4)) : Int32).toNatClampNeg) (w_1m1 (((h_ + 0) + (f_m_whoIsAt w_1m0 w_1m1 h_ w_1l4)) : Int32).toNatClampNeg) (f8 (w_1l4 : Int32).toNatClampNeg)) 32))) (((h_ + 0) + (f_m_whoIsAt w_1m0 w_1m1 h_ w_1l4)) : Int32).toNatClampNeg ((f_m_quarrels w_1m0 f10 (f_m_whoIsAt w_1m0 w_1m1 h_ w_1l4) (w_1m1 (((h_ + 12) + (f_m_whoIsAt w_1m0 w_1m1 h_ w_1l4)) : Int32).toNatClampNeg) (w_1m1 (((h_ + 0) + (f_m_whoIsAt w_1m0 w_1m1 h_ w_1l4)) : Int32).toNatClampNeg) (f8 (w_1l4 : Int32).toNatClampNeg)) 33)) (((h_ + 27) + v_) : Int32).toNatClampNeg w_1l4)) else (f_m_passes_5 f10 f8 f11 h_ v_ n (w_1l4 + 1) ((f_m_quarrels w_1m0 f10 (f_m_whoIsAt w_1m0 w_1m1 h_ w_1l4) (w_1m1 (((h_ + 12) + (f_m_whoIsAt w_1m0 w_1m1 h_ w_1l4)) : Int32).toNatClampNeg) (w_1m1 (((h_ + 0) + (f_m_whoIsAt w_1m0 w_1m1 h_ w_1l4)) : Int32).toNatClampNeg) (f8 (w_1l4 : Int32).toNatClampNeg)) 34) (f_m_quarrels w_1m0 f10 (f_m_whoIsAt w_1m0 w_1m1 h_ w_1l4) (w_1m1 (((h_ + 12) + (f_m_whoIsAt w_1m0 w_1m1 h_ w_1l4)) : Int32).toNatClampNeg) (w_1m1 (((h_ + 0) + (f_m_whoIsAt w_1m0 w_1m1 h_ w_1l4)) : Int32).toNatClampNeg) (f8 (w_1l4 : Int32).toNatClampNeg)) (upd (upd (upd w_1m1 ((h_ + 19) : Int32).toNatClampNeg ((w_1m1 ((h_ + 19) : Int32).toNatClampNeg) + ((f_m_quarrels w_1m0 f10 (f_m_whoIsAt w_1m0 w_1m1 h_ w_1l4) (w_1m1 (((h_ + 12) + (f_m_whoIsAt w_1m0 w_1m1 h_ w_1l4)) : Int32).toNatClampNeg) (w_1m1 (((h_ + 0) + (f_m_whoIsAt w_1m0 w_1m1 h_ w_1l4)) : Int32).toNatClampNeg) (f8 (w_1l4 : Int32).toNatClampNeg)) 32))) (((h_ + 0) + (f_m_whoIsAt w_1m0 w_1m1 h_ w_1l4)) : Int32).toNatClampNeg ((f_m_quarrels w_1m0 f10 (f_m_whoIsAt w_1m0 w_1m1 h_ w_1l4) (w_1m1 (((h_ + 12) + (f_m_whoIsAt w_1m0 w_1m1 h_ w_1l4)) : Int32).toNatClampNeg) (w_1m1 (((h_ + 0) + (f_m_whoIsAt w_1m0 w_1m1 h_ w_1l4)) : Int32).toNatClampNeg) (f8 (w_1l4 : Int32).toNatClampNeg)) 33)) (((h_ + 27) + v_) : Int32).toNatClampNeg (-1)))) else (if ((f_m_quarrels w_1m0 f10 (f_m_whoIsAt w_1m0 w_1m1 h_ w_1l4) (w_1m1 (((h_ + 12) + (f_m_whoIsAt w_1m0 w_1m1 h_ w_1l4)) : Int32).toNatClampNeg) (w_1m1 (((h_ + 0) + (f_m_whoIsAt w_1m0 w_1m1 h_ w_1l4)) : Int32).toNatClampNeg) (f8 (w_1l4 : Int32).toNatClampNeg)) 34) = 0 then (f_m_passes_5 f10 f8 f11 h_ v_ n (w_1l4 + 1) ((f_m_quarrels w_1m0 f10 (f_m_whoIsAt w_1m0 w_1m1 h_ w_1l4) (w_1m1 (((h_ + 12) + (f_m_whoIsAt w_1m0 w_1m1 h_ w_1l4)) : Int32).toNatClampNeg) (w_1m1 (((h_ + 0) + (f_m_whoIsAt w_1m0 w_1m1 h_ w_1l4)) : Int32).toNatClampNeg) (f8 (w_1l4 : Int32).toNatClampNeg)) 34) (f_m_quarrels w_1m0 f10 (f_m_whoIsAt w_1m0 w_1m1 h_ w_1l4) (w_1m1 (((h_ + 12) + (f_m_whoIsAt w_1m0 w_1m1 h_ w_1l4)) : Int32).toNatClampNeg) (w_1m1 (((h_ + 0) + (f_m_whoIsAt w_1m0 w_1m1 h_ w_1l4)) : Int32).toNatClampNeg) (f8 (w_1l4 : Int32).toNatClampNeg)) (upd (upd (upd (upd (upd w_1m1 ((h_ + 19) : Int32).toNatClampNeg ((w_1m1 ((h_ + 19) : Int32).toNatClampNeg) + ((f_m_quarrels w_1m0 f10 (f_m_whoIsAt w_1m0 w_1m1 h_ w_1l4) (w_1m1 (((h_ + 12) + (f_m_whoIsAt w_1m0 w_1m1 h_ w_1l4)) : Int32).toNatClampNeg) (w_1m1 (((h_ + 0) + (f_m_whoIsAt w_1m0 w_1m1 h_ w_1l4)) : Int32).toNatClampNeg) (f8 (w_1l4 : Int32).toNatClampNeg)) 32))) (((h_ + 0) + (f_m_whoIsAt w_1m0 w_1m1 h_ w_1l4)) : Int32).toNatClampNeg ((f_m_quarrels w_1m0 f10 (f_m_whoIsAt w_1m0 w_1m1 h_ w_1l4) (w_1m1 (((h_ + 12) + (f_m_whoIsAt w_1m0 w_1m1 h_ w_1l4)) : Int32).toNatClampNeg) (w_1m1 (((h_ + 0) + (f_m_whoIsAt w_1m0 w_1m1 h_ w_1l4)) : Int32).toNatClampNeg) (f8 (w_1l4 : Int32).toNatClampNeg)) 33)) ((h_ + 18) : Int32).toNatClampNeg (((upd (upd w_1m1 ((h_ + 19) : Int32).toNatClampNeg ((w_1m1 ((h_ + 19) : Int32).toNatClampNeg) + ((f_m_quarrels w_1m0 f10 (f_m_whoIsAt w_1m0 w_1m1 h_ w_1l4) (w_1m1 (((h_ + 12) + (f_m_whoIsAt w_1m0 w_1m1 h_ w_1l4)) : Int32).toNatClampNeg) (w_1m1 (((h_ + 0) + (f_m_whoIsAt w_1m0 w_1m1 h_ w_1l4)) : Int32).toNatClampNeg) (f8 (w_1l4 : Int32).toNatClampNeg)) 32))) (((h_ + 0) + (f_m_whoIsAt w_1m0 w_1m1 h_ w_1l4)) : Int32).toNatClampNeg ((f_m_quarrels w_1m0 f10 (f_m_whoIsAt w_1m0 w_1m1 h_ w_1l4) (w_1m1 (((h_ + 12) + (f_m_whoIsAt w_1m0 w_1m1 h_ w_1l4)) : Int32).toNatClampNeg) (w_1m1 (((h_ + 0) + (f_m_whoIsAt w_1m0 w_1m1 h_ w_1l4)) : Int32).toNatClampNeg) (f8 (w_1l4 : Int32).toNatClampNeg)) 33)) ((h_ + 18) : Int32).toNatClampNeg) ||| (1 <<< ((f_m_whoIsAt w_1m0 w_1m1 h_ w_1l4) &&& 31)))) (((h_ + 6) + (f_m_whoIsAt w_1m0 w_1m1 h_ w_1l4)) : Int32).toNatClampNeg (-1)) (((h_ + 27) + v_) : Int32).toNatClampNeg w_1l4)) else (f_m_passes_5 f10 f8 f11 h_ v_ n (w_1l4 + 1) ((f_m_quarrels w_1m0 f10 (f_m_whoIsAt w_1m0 w_1m1 h_ w_1l4) (w_1m1 (((h_ + 12) + (f_m_whoIsAt w_1m0 w_1m1 h_ w_1l4)) : Int32).toNatClampNeg) (w_1m1 (((h_ + 0) + (f_m_whoIsAt w_1m0 w_1m1 h_ w_1l4)) : Int32).toNatClampNeg) (f8 (w_1l4 : Int32).toNatClampNeg)) 34) (f_m_quarrels w_1m0 f10 (f_m_whoIsAt w_1m0 w_1m1 h_ w_1l4) (w_1m1 (((h_ + 12) + (f_m_whoIsAt w_1m0 w_1m1 h_ w_1l4)) : Int32).toNatClampNeg) (w_1m1 (((h_ + 0) + (f_m_whoIsAt w_1m0 w_1m1 h_ w_1l4)) : Int32).toNatClampNeg) (f8 (w_1l4 : Int32).toNatClampNeg)) (upd (upd (upd (upd (upd w_1m1 ((h_ + 19) : Int32).toNatClampNeg ((w_1m1 ((h_ + 19) : Int32).toNatClampNeg) + ((f_m_quarrels w_1m0 f10 (f_m_whoIsAt w_1m0 w_1m1 h_ w_1l4) (w_1m1 (((h_ + 12) + (f_m_whoIsAt w_1m0 w_1m1 h_ w_1l4)) : Int32).toNatClampNeg) (w_1m1 (((h_ + 0) + (f_m_whoIsAt w_1m0 w_1m1 h_ w_1l4)) : Int32).toNatClampNeg) (f8 (w_1l4 : Int32).toNatClampNeg)) 32))) (((h_ + 0) + (f_m_whoIsAt w_1m0 w_1m1 h_ w_1l4)) : Int32).toNatClampNeg ((f_m_quarrels w_1m0 f10 (f_m_whoIsAt w_1m0 w_1m1 h_ w_1l4) (w_1m1 (((h_ + 12) + (f_m_whoIsAt w_1m0 w_1m1 h_ w_1l4)) : Int32).toNatClampNeg) (w_1m1 (((h_ + 0) + (f_m_whoIsAt w_1m0 w_1m1 h_ w_1l4)) : Int32).toNatClampNeg) (f8 (w_1l4 : Int32).toNatClampNeg)) 33)) ((h_ + 18) : Int32).toNatClampNeg (((upd (upd w_1m1 ((h_ + 19) : Int32).toNatClampNeg ((w_1m1 ((h_ + 19) : Int32).toNatClampNeg) + ((f_m_quarrels w_1m0 f10 (f_m_whoIsAt w_1m0 w_1m1 h_ w_1l4) (w_1m1 (((h_ + 12) + (f_m_whoIsAt w_1m0 w_1m1 h_ w_1l4)) : Int32).toNatClampNeg) (w_1m1 (((h_ + 0) + (f_m_whoIsAt w_1m0 w_1m1 h_ w_1l4)) : Int32).toNatClampNeg) (f8 (w_1l4 : Int32).toNatClampNeg)) 32))) (((h_ + 0) + (f_m_whoIsAt w_1m0 w_1m1 h_ w_1l4)) : Int32).toNatClampNeg ((f_m_quarrels w_1m0 f10 (f_m_whoIsAt w_1m0 w_1m1 h_ w_1l4) (w_1m1 (((h_ + 12) + (f_m_whoIsAt w_1m0 w_1m1 h_ w_1l4)) : Int32).toNatClampNeg) (w_1m1 (((h_ + 0) + (f_m_whoIsAt w_1m0 w_1m1 h_ w_1l4)) : Int32).toNatClampNeg) (f8 (w_1l4 : Int32).toNatClampNeg)) 33)) ((h_ + 18) : Int32).toNatClampNeg) ||| (1 <<< ((f_m_whoIsAt w_1m0 w_1m1 h_ w_1l4) &&& 31)))) (((h_ + 6) + (f_m_whoIsAt w_1m0 w_1m1 h_ w_1l4)) : Int32).toNatClampNeg (-1)) (((h_ + 27) + v_) : Int32).toNatClampNeg (-1))))) else (if ((f_m_quarrels w_1m0 f10 (f_m_whoIsAt w_1m0 w_1m1 h_ w_1l4) (w_1m1 (((h_ + 12) + (f_m_whoIsAt w_1m0 w_1m1 h_ w_1l4)) : Int32).toNatClampNeg) (w_1m1 (((h_ + 0) + (f_m_whoIsAt w_1m0 w_1m1 h_ w_1l4)) : Int32).toNatClampNeg) (f8 (w_1l4 : Int32).toNatClampNeg)) 34) = 0 then (f_m_passes_5 f10 f8 f11 h_ v_ n (w_1l4 + 1) ((f_m_quarrels w_1m0 f10 (f_m_whoIsAt w_1m0 w_1m1 h_ w_1l4) (w_1m1 (((h_ + 12) + (f_m_whoIsAt w_1m0 w_1m1 h_ w_1l4)) : Int32).toNatClampNeg) (w_1m1 (((h_ + 0) + (f_m_whoIsAt w_1m0 w_1m1 h_ w_1l4)) : Int32).toNatClampNeg) (f8 (w_1l4 : Int32).toNatClampNeg)) 34) (f_m_quarrels w_1m0 f10 (f_m_whoIsAt w_1m0 w_1m1 h_ w_1l4) (w_1m1 (((h_ + 12) + (f_m_whoIsAt w_1m0 w_1m1 h_ w_1l4)) : Int32).toNatClampNeg) (w_1m1 (((h_ + 0) + (f_m_whoIsAt w_1m0 w_1m1 h_ w_1l4)) : Int32).toNatClampNeg) (f8 (w_1l4 : Int32).toNatClampNeg)) (upd (upd (upd w_1m1 ((h_ + 19) : Int32).toNatClampNeg ((w_1m1 ((h_ + 19) : Int32).toNatClampNeg) + ((f_m_quarrels w_1m0 f10 (f_m_whoIsAt w_1m0 w_1m1 h_ w_1l4) (w_1m1 (((h_ + 12) + (f_m_whoIsAt w_1m0 w_1m1 h_ w_1l4)) : Int32).toNatClampNeg) (w_1m1 (((h_ + 0) + (f_m_whoIsAt w_1m0 w_1m1 h_ w_1l4)) : Int32).toNatClampNeg) (f8 (w_1l4 : Int32).toNatClampNeg)) 32))) (((h_ + 0) + (f_m_whoIsAt w_1m0 w_1m1 h_ w_1l4)) : Int32).toNatClampNeg ((f_m_quarrels w_1m0 f10 (f_m_whoIsAt w_1m0 w_1m1 h_ w_1l4) (w_1m1 (((h_ + 12) + (f_m_whoIsAt w_1m0 w_1m1 h_ w_1l4)) : Int32).toNatClampNeg) (w_1m1 (((h_ + 0) + (f_m_whoIsAt w_1m0 w_1m1 h_ w_1l4)) : Int32).toNatClampNeg) (f8 (w_1l4 : Int32).toNatClampNeg)) 33)) (((h_ + 27) + v_) : Int32).toNatClampNeg w_1l4)) else (f_m_passes_5 f10 f8 f11 h_ v_ n (w_1l4 + 1) ((f_m_quarrels w_1m0 f10 (f_m_whoIsAt w_1m0 w_1m1 h_ w_1l4) (w_1m1 (((h_ + 12) + (f_m_whoIsAt w_1m0 w_1m1 h_ w_1l4)) : Int32).toNatClampNeg) (w_1m1 (((h_ + 0) + (f_m_whoIsAt w_1m0 w_1m1 h_ w_1l4)) : Int32).toNatClampNeg) (f8 (w_1l4 : Int32).toNatClampNeg)) 34) (f_m_quarrels w_1m0 f10 (f_m_whoIsAt w_1m0 w_1m1 h_ w_1l4) (w_1m1 (((h_ + 12) + (f_m_whoIsAt w_1m0 w_1m1 h_ w_1l4)) : Int32).toNatClampNeg) (w_1m1 (((h_ + 0) + (f_m_whoIsAt w_1m0 w_1m1 h_ w_1l4)) : Int32).toNatClampNeg) (f8 (w_1l4 : Int32).toNatClampNeg)) (upd (upd (upd w_1m1 ((h_ + 19) : Int32).toNatClampNeg ((w_1m1 ((h_ + 19) : Int32).toNatClampNeg) + ((f_m_quarrels w_1m0 f10 (f_m_whoIsAt w_1m0 w_1m1 h_ w_1l4) (w_1m1 (((h_ + 12) + (f_m_whoIsAt w_1m0 w_1m1 h_ w_1l4)) : Int32).toNatClampNeg) (w_1m1 (((h_ + 0) + (f_m_whoIsAt w_1m0 w_1m1 h_ w_1l4)) : Int32).toNatClampNeg) (f8 (w_1l4 : Int32).toNatClampNeg)) 32))) (((h_ + 0) + (f_m_whoIsAt w_1m0 w_1m1 h_ w_1l4)) : Int32).toNatClampNeg ((f_m_quarrels w_1m0 f10 (f_m_whoIsAt w_1m0 w_1m1 h_ w_1l4) (w_1m1 (((h_ + 12) + (f_m_whoIsAt w_1m0 w_1m1 h_ w_1l4)) : Int32).toNatClampNeg) (w_1m1 (((h_ + 0) + (f_m_whoIsAt w_1m0 w_1m1 h_ w_1l4)) : Int32).toNatClampNeg) (f8 (w_1l4 : Int32).toNatClampNeg)) 33)) (((h_ + 27) + v_) : Int32).toNatClampNeg (-1)))))))) := rfl
def S_m_passes_5 (f10 : Nat → Int32) (f8 : Nat → Int32) (f11 : Nat → Int32) (h_ : Int32) (v_ : Int32) (K : Int32 → Int32 → (Nat → Int32) → (Nat → Int32) → Prop) (n : Nat) : Int32 → Int32 → (Nat → Int32) → (Nat → Int32) → Prop := Nat.rec (motive := fun _ => Int32 → Int32 → (Nat → Int32) → (Nat → Int32) → Prop) (fun _ _ _ _ => False) (fun n ih w_1l4 w_1l3 w_1m0 w_1m1 => (vp_in v_ 7 ∧ (((f11 (v_ : Int32).toNatClampNeg) < w_1l4 → (K w_1l4 w_1l3 w_1m0 w_1m1)) ∧ (¬ (f11 (v_ : Int32).toNatClampNeg) < w_1l4 → ((w_1l3 = 0 → (K w_1l4 w_1l3 w_1m0 w_1m1)) ∧ (¬ w_1l3 = 0 → ((S_m_whoIsAt w_1m0 w_1m1 h_ w_1l4) ∧ (((f_m_whoIsAt w_1m0 w_1m1 h_ w_1l4) = (-1) → (vp_in ((h_ + 27) + v_) 1302 ∧ (ih (w_1l4 + 1) 0 w_1m0 (upd w_1m1 (((h_ + 27) + v_) : Int32).toNatClampNeg w_1l4)))) ∧ (¬ (f_m_whoIsAt w_1m0 w_1m1 h_ w_1l4) = (-1) → (vp_in ((h_ + 12) + (f_m_whoIsAt w_1m0 w_1m1 h_ w_1l4)) 1302 ∧ (vp_in ((h_ + 0) + (f_m_whoIsAt w_1m0 w_1m1 h_ w_1l4)) 1302 ∧ (vp_in w_1l4 6 ∧ ((S_m_quarrels w_1m0 f10 (f_m_whoIsAt w_1m0 w_1m1 h_ w_1l4) (w_1m1 (((h_ + 12) + (f_m_whoIsAt w_1m0 w_1m1 h_ w_1l4)) : Int32).toNatClampNeg) (w_1m1 (((h_ + 0) + (f_m_whoIsAt w_1m0 w_1m1 h_ w_1l4)) : Int32).toNatClampNeg) (f8 (w_1l4 : Int32).toNatClampNeg)) ∧ (vp_in (h_ + 19) 1302 ∧ (vp_in (h_ + 19) 1302 ∧ (vp_in ((h_ + 0) + (f_m_whoIsAt w_1m0 w_1m1 h_ w_1l4)) 1302 ∧ ((((f_m_quarrels w_1m0 f10 (f_m_whoIsAt w_1m0 w_1m1 h_ w_1l4) (w_1m1 (((h_ + 12) + (f_m_whoIsAt w_1m0 w_1m1 h_ w_1l4)) : Int32).toNatClampNeg) (w_1m1 (((h_ + 0) + (f_m_whoIsAt w_1m0 w_1m1 h_ w_1l4)) : Int32).toNatClampNeg) (f8 (w_1l4 : Int32).toNatClampNeg)) 33) = 0 → ((((f_m_quarrels w_1m0 f10 (f_m_whoIsAt w_1m0 w_1m1 h_ w_1l4) (w_1m1 (((h_ + 12) + (f_m_whoIsAt w_1m0 w_1m1 h_ w_1l4)) : Int32).toNatClampNeg) (w_1m1 (((h_ + 0) + (f_m_whoIsAt w_1m0 w_1m1 h_ w_1l4)) : Int32).toNatClampNeg) (f8 (w_1l4 : Int32).toNatClampNeg)) 32) ≤ 0 → ((((f_m_quarrels w_1m0 f10 (f_m_whoIsAt w_1m0 w_1m1 h_ w_1l4) (w_1m1 (((h_ + 12) + (f_m_whoIsAt w_1m0 w_1m1 h_ w_1l4)) : Int32).toNatClampNeg) (w_1m1 (((h_ + 0) + (f_m_whoIsAt w_1m0 w_1m1 h_ w_1l4)) : Int32).toNatClampNeg) (f8 (w_1l4 : Int32).toNatClampNeg)) 34) = 0 → (vp_in ((h_ + 27) + v_) 1302 ∧ (ih (w_1l4 + 1) ((f_m_quarrels w_1m0 f10 (f_m_whoIsAt w_1m0 w_1m1 h_ w_1l4) (w_1m1 (((h_ + 12) + (f_m_whoIsAt w_1m0 w_1m1 h_ w_1l4)) : Int32).toNatClampNeg) (w_1m1 (((h_ + 0) + (f_m_whoIsAt w_1m0 w_1m1 h_ w_1l4)) : Int32).toNatClampNeg) (f8 (w_1l4 : Int32).toNatClampNeg)) 34) (f_m_quarrels w_1m0 f10 (f_m_whoIsAt w_1m0 w_1m1 h_ w_1l4) (w_1m1 (((h_ + 12) + (f_m_whoIsAt w_1m0 w_1m1 h_ w_1l4)) : Int32).toNatClampNeg) (w_1m1 (((h_ + 0) + (f_m_whoIsAt w_1m0 w_1m1 h_ w_1l4)) : Int32).toNatClampNeg) (f8 (w_1l4 : Int32).toNatClampNeg)) (upd (upd (upd w_1m1 ((h_ + 19) : Int32).toNatClampNeg ((w_1m1 ((h_ + 19) : Int32).toNatClampNeg) + ((f_m_quarrels w_1m0 f10 (f_m_whoIsAt w_1m0 w_1m1 h_ w_1l4) (w_1m1 (((h_ + 12) + (f_m_whoIsAt w_1m0 w_1m1 h_ w_1l4)) : Int32).toNatClampNeg) (w_1m1 (((h_ + 0) + (f_m_whoIsAt w_1m0 w_1m1 h_ w_1l4)) : Int32).toNatClampNeg) (f8 (w_1l4 : Int32).toNatClampNeg)) 32))) (((h_ + 0) + (f_m_whoIsAt w_1m0 w_1m1 h_ w_1l4)) : Int32).toNatClampNeg ((f_m_quarrels w_1m0 f10 (f_m_whoIsAt w_1m0 w_1m1 h_ w_1l4) (w_1m1 (((h_ + 12) + (f_m_whoIsAt w_1m0 w_1m1 h_ w_1l4)) : Int32).toNatClampNeg) (w_1m1 (((h_ + 0) + (f_m_whoIsAt w_1m0 w_1m1 h_ w_1l4)) : Int32).toNatClampNeg) (f8 (w_1l4 : Int32).toNatClampNeg)) 33)) (((h_ + 27) + v_) : Int32).toNatClampNeg w_1l4)))) ∧ (¬ ((f_m_quarrels w_1m0 f10 (f_m_whoIsAt w_1m0 w_1m1 h_ w_1l4) (w_1m1 (((h_ + 12) + (f_m_whoIsAt w_1m0 w_1m1 h_ w_1l4)) : Int32).toNatClampNeg) (w_1m1 (((h_ + 0) + (f_m_whoIsAt w_1m0 w_1m1 h_ w_1l4)) : Int32).toNatClampNeg) (f8 (w_1l4 : Int32).toNatClampNeg)) 34) = 0 → (vp_in ((h_ + 27) + v_) 1302 ∧ (ih (w_1l4 + 1) ((f_m_quarrels w_1m0 f10 (f_m_whoIsAt w_1m0 w_1m1 h_ w_1l4) (w_1m1 (((h_ + 12) + (f_m_whoIsAt w_1m0 w_1m1 h_ w_1l4)) : Int32).toNatClampNeg) (w_1m1 (((h_ + 0) + (f_m_whoIsAt w_1m0 w_1m1 h_ w_1l4)) : Int32).toNatClampNeg) (f8 (w_1l4 : Int32).toNatClampNeg)) 34) (f_m_quarrels w_1m0 f10 (f_m_whoIsAt w_1m0 w_1m1 h_ w_1l4) (w_1m1 (((h_ + 12) + (f_m_whoIsAt w_1m0 w_1m1 h_ w_1l4)) : Int32).toNatClampNeg) (w_1m1 (((h_ + 0) + (f_m_whoIsAt w_1m0 w_1m1 h_ w_1l4)) : Int32).toNatClampNeg) (f8 (w_1l4 : Int32).toNatClampNeg)) (upd (upd (upd w_1m1 ((h_ + 19) : Int32).toNatClampNeg ((w_1m1 ((h_ + 19) : Int32).toNatClampNeg) + ((f_m_quarrels w_1m0 f10 (f_m_whoIsAt w_1m0 w_1m1 h_ w_1l4) (w_1m1 (((h_ + 12) + (f_m_whoIsAt w_1m0 w_1m1 h_ w_1l4)) : Int32).toNatClampNeg) (w_1m1 (((h_ + 0) + (f_m_whoIsAt w_1m0 w_1m1 h_ w_1l4)) : Int32).toNatClampNeg) (f8 (w_1l4 : Int32).toNatClampNeg)) 32))) (((h_ + 0) + (f_m_whoIsAt w_1m0 w_1m1 h_ w_1l4)) : Int32).toNatClampNeg ((f_m_quarrels w_1m0 f10 (f_m_whoIsAt w_1m0 w_1m1 h_ w_1l4) (w_1m1 (((h_ + 12) + (f_m_whoIsAt w_1m0 w_1m1 h_ w_1l4)) : Int32).toNatClampNeg) (w_1m1 (((h_ + 0) + (f_m_whoIsAt w_1m0 w_1m1 h_ w_1l4)) : Int32).toNatClampNeg) (f8 (w_1l4 : Int32).toNatClampNeg)) 33)) (((h_ + 27) + v_) : Int32).toNatClampNeg (-1))))))) ∧ (¬ ((f_m_quarrels w_1m0 f10 (f_m_whoIsAt w_1m0 w_1m1 h_ w_1l4) (w_1m1 (((h_ + 12) + (f_m_whoIsAt w_1m0 w_1m1 h_ w_1l4)) : Int32).toNatClampNeg) (w_1m1 (((h_ + 0) + (f_m_whoIsAt w_1m0 w_1m1 h_ w_1l4)) : Int32).toNatClampNeg) (f8 (w_1l4 : Int32).toNatClampNeg)) 32) ≤ 0 → (vp_in (h_ + 18) 1302 ∧ (vp_in (h_ + 18) 1302 ∧ (vp_in ((h_ + 6) + (f_m_whoIsAt w_1m0 w_1m1 h_ w_1l4)) 1302 ∧ ((((f_m_quarrels w_1m0 f10 (f_m_whoIsAt w_1m0 w_1m1 h_ w_1l4) (w_1m1 (((h_ + 12) + (f_m_whoIsAt w_1m0 w_1m1 h_ w_1l4)) : Int32).toNatClampNeg) (w_1m1 (((h_ + 0) + (f_m_whoIsAt w_1m0 w_1m1 h_ w_1l4)) : Int32).toNatClampNeg) (f8 (w_1l4 : Int32).toNatClampNeg)) 34) = 0 → (vp_in ((h_ + 27) + v_) 1302 ∧ (ih (w_1l4 + 1) ((f_m_quarrels w_1m0 f10 (f_m_whoIsAt w_1m0 w_1m1 h_ w_1l4) (w_1m1 (((h_ + 12) + (f_m_whoIsAt w_1m0 w_1m1 h_ w_1l4)) : Int32).toNatClampNeg) (w_1m1 (((h_ + 0) + (f_m_whoIsAt w_1m0 w_1m1 h_ w_1l4)) : Int32).toNatClampNeg) (f8 (w_1l4 : Int32).toNatClampNeg)) 34) (f_m_quarrels w_1m0 f10 (f_m_whoIsAt w_1m0 w_1m1 h_ w_1l4) (w_1m1 (((h_ + 12) + (f_m_whoIsAt w_1m0 w_1m1 h_ w_1l4)) : Int32).toNatClampNeg) (w_1m1 (((h_ + 0) + (f_m_whoIsAt w_1m0 w_1m1 h_ w_1l4)) : Int32).toNatClampNeg) (f8 (w_1l4 : Int32).toNatClampNeg)) (upd (upd (upd (upd (upd w_1m1 ((h_ + 19) : Int32).toNatClampNeg ((w_1m1 ((h_ + 19) : Int32).toNatClampNeg) + ((f_m_quarrels w_1m0 f10 (f_m_whoIsAt w_1m0 w_1m1 h_ w_1l4) (w_1m1 (((h_ + 12) + (f_m_whoIsAt w_1m0 w_1m1 h_ w_1l4)) : Int32).toNatClampNeg) (w_1m1 (((h_ + 0) + (f_m_whoIsAt w_1m0 w_1m1 h_ w_1l4)) : Int32).toNatClampNeg) (f8 (w_1l4 : Int32).toNatClampNeg)) 32))) (((h_ + 0) + (f_m_whoIsAt w_1m0 w_1m1 h_ w_1l4)) : Int32).toNatClampNeg ((f_m_quarrels w_1m0 f10 (f_m_whoIsAt w_1m0 w_1m1 h_ w_1l4) (w_1m1 (((h_ + 12) + (f_m_whoIsAt w_1m0 w_1m1 h_ w_1l4)) : Int32).toNatClampNeg) (w_1m1 (((h_ + 0) + (f_m_whoIsAt w_1m0 w_1m1 h_ w_1l4)) : Int32).toNatClampNeg) (f8 (w_1l4 : Int32).toNatClampNeg)) 33)) ((h_ + 18) : Int32).toNatClampNeg (((upd (upd w_1m1 ((h_ + 19) : Int32).toNatClampNeg ((w_1m1 ((h_ + 19) : Int32).toNatClampNeg) + ((f_m_quarrels w_1m0 f10 (f_m_whoIsAt w_1m0 w_1m1 h_ w_1l4) (w_1m1 (((h_ + 12) + (f_m_whoIsAt w_1m0 w_1m1 h_ w_1l4)) : Int32).toNatClampNeg) (w_1m1 (((h_ + 0) + (f_m_whoIsAt w_1m0 w_1m1 h_ w_1l4)) : Int32).toNatClampNeg) (f8 (w_1l4 : Int32).toNatClampNeg)) 32))) (((h_ + 0) + (f_m_whoIsAt w_1m0 w_1m1 h_ w_1l4)) : Int32).toNatClampNeg ((f_m_quarrels w_1m0 f10 (f_m_whoIsAt w_1m0 w_1m1 h_ w_1l4) (w_1m1 (((h_ + 12) + (f_m_whoIsAt w_1m0 w_1m1 h_ w_1l4)) : Int32).toNatClampNeg) (w_1m1 (((h_ + 0) + (f_m_whoIsAt w_1m0 w_1m1 h_ w_1l4)) : Int32).toNatClampNeg) (f8 (w_1l4 : Int32).toNatClampNeg)) 33)) ((h_ + 18) : Int32).toNatClampNeg) ||| (1 <<< ((f_m_whoIsAt w_1m0 w_1m1 h_ w_1l4) &&& 31)))) (((h_ + 6) + (f_m_whoIsAt w_1m0 w_1m1 h_ w_1l4)) : Int32).toNatClampNeg (-1)) (((h_ + 27) + v_) : Int32).toNatClampNeg w_1l4)))) ∧ (¬ ((f_m_quarrels w_1m0 f10 (f_m_whoIsAt w_1m0 w_1m1 h_ w_1l4) (w_1m1 (((h_ + 12) + (f_m_whoIsAt w_1m0 w_1m1 h_ w_1l4)) : Int32).toNatClampNeg) (w_1m1 (((h_ + 0) + (f_m_whoIsAt w_1m0 w_1m1 h_ w_1l4)) : Int32).toNatClampNeg) (f8 (w_1l4 : Int32).toNatClampNeg)) 34) = 0 → (vp_in ((h_ + 27) + v_) 1302 ∧ (ih (w_1l4 + 1) ((f_m_quarrels w_1m0 f10 (f_m_whoIsAt w_1m0 w_1m1 h_ w_1l4) (w_1m1 (((h_ + 12) + (f_m_whoIsAt w_1m0 w_1m1 h_ w_1l4)) : Int32).toNatClampNeg) (w_1m1 (((h_ + 0) + (f_m_whoIsAt w_1m0 w_1m1 h_ w_1l4)) : Int32).toNatClampNeg) (f8 (w_1l4 : Int32).toNatClampNeg)) 34) (f_m_quarrels w_1m0 f10 (f_m_whoIsAt w_1m0 w_1m1 h_ w_1l4) (w_1m1 (((h_ + 12) + (f_m_whoIsAt w_1m0 w_1m1 h_ w_1l4)) : Int32).toNatClampNeg) (w_1m1 (((h_ + 0) + (f_m_whoIsAt w_1m0 w_1m1 h_ w_1l4)) : Int32).toNatClampNeg) (f8 (w_1l4 : Int32).toNatClampNeg)) (upd (upd (upd (upd (upd w_1m1 ((h_ + 19) : Int32).toNatClampNeg ((w_1m1 ((h_ + 19) : Int32).toNatClampNeg) + ((f_m_quarrels w_1m0 f10 (f_m_whoIsAt w_1m0 w_1m1 h_ w_1l4) (w_1m1 (((h_ + 12) + (f_m_whoIsAt w_1m0 w_1m1 h_ w_1l4)) : Int32).toNatClampNeg) (w_1m1 (((h_ + 0) + (f_m_whoIsAt w_1m0 w_1m1 h_ w_1l4)) : Int32).toNatClampNeg) (f8 (w_1l4 : Int32).toNatClampNeg)) 32))) (((h_ + 0) + (f_m_whoIsAt w_1m0 w_1m1 h_ w_1l4)) : Int32).toNatClampNeg ((f_m_quarrels w_1m0 f10 (f_m_whoIsAt w_1m0 w_1m1 h_ w_1l4) (w_1m1 (((h_ + 12) + (f_m_whoIsAt w_1m0 w_1m1 h_ w_1l4)) : Int32).toNatClampNeg) (w_1m1 (((h_ + 0) + (f_m_whoIsAt w_1m0 w_1m1 h_ w_1l4)) : Int32).toNatClampNeg) (f8 (w_1l4 : Int32).toNatClampNeg)) 33)) ((h_ + 18) : Int32).toNatClampNeg (((upd (upd w_1m1 ((h_ + 19) : Int32).toNatClampNeg ((w_1m1 ((h_ + 19) : Int32).toNatClampNeg) + ((f_m_quarrels w_1m0 f10 (f_m_whoIsAt w_1m0 w_1m1 h_ w_1l4) (w_1m1 (((h_ + 12) + (f_m_whoIsAt w_1m0 w_1m1 h_ w_1l4)) : Int32).toNatClampNeg) (w_1m1 (((h_ + 0) + (f_m_whoIsAt w_1m0 w_1m1 h_ w_1l4)) : Int32).toNatClampNeg) (f8 (w_1l4 : Int32).toNatClampNeg)) 32))) (((h_ + 0) + (f_m_whoIsAt w_1m0 w_1m1 h_ w_1l4)) : Int32).toNatClampNeg ((f_m_quarrels w_1m0 f10 (f_m_whoIsAt w_1m0 w_1m1 h_ w_1l4) (w_1m1 (((h_ + 12) + (f_m_whoIsAt w_1m0 w_1m1 h_ w_1l4)) : Int32).toNatClampNeg) (w_1m1 (((h_ + 0) + (f_m_whoIsAt w_1m0 w_1m1 h_ w_1l4)) : Int32).toNatClampNeg) (f8 (w_1l4 : Int32).toNatClampNeg)) 33)) ((h_ + 18) : Int32).toNatClampNeg) ||| (1 <<< ((f_m_whoIsAt w_1m0 w_1m1 h_ w_1l4) &&& 31)))) (((h_ + 6) + (f_m_whoIsAt w_1m0 w_1m1 h_ w_1l4)) : Int32).toNatClampNeg (-1)) (((h_ + 27) + v_) : Int32).toNatClampNeg (-1)))))))))))) ∧ (¬ ((f_m_quarrels w_1m0 f10 (f_m_whoIsAt w_1m0 w_1m1 h_ w_1l4) (w_1m1 (((h_ + 12) + (f_m_whoIsAt w_1m0 w_1m1 h_ w_1l4)) : Int32).toNatClampNeg) (w_1m1 (((h_ + 0) + (f_m_whoIsAt w_1m0 w_1m1 h_ w_1l4)) : Int32).toNatClampNeg) (f8 (w_1l4 : Int32).toNatClampNeg)) 33) = 0 → ((((f_m_quarrels w_1m0 f10 (f_m_whoIsAt w_1m0 w_1m1 h_ w_1l4) (w_1m1 (((h_ + 12) + (f_m_whoIsAt w_1m0 w_1m1 h_ w_1l4)) : Int32).toNatClampNeg) (w_1m1 (((h_ + 0) + (f_m_whoIsAt w_1m0 w_1m1 h_ w_1l4)) : Int32).toNatClampNeg) (f8 (w_1l4 : Int32).toNatClampNeg)) 34) = 0 → (vp_in ((h_ + 27) + v_) 1302 ∧ (ih (w_1l4 + 1) ((f_m_quarrels w_1m0 f10 (f_m_whoIsAt w_1m0 w_1m1 h_ w_1l4) (w_1m1 (((h_ + 12) + (f_m_whoIsAt w_1m0 w_1m1 h_ w_1l4)) : Int32).toNatClampNeg) (w_1m1 (((h_ + 0) + (f_m_whoIsAt w_1m0 w_1m1 h_ w_1l4)) : Int32).toNatClampNeg) (f8 (w_1l4 : Int32).toNatClampNeg)) 34) (f_m_quarrels w_1m0 f10 (f_m_whoIsAt w_1m0 w_1m1 h_ w_1l4) (w_1m1 (((h_ + 12) + (f_m_whoIsAt w_1m0 w_1m1 h_ w_1l4)) : Int32).toNatClampNeg) (w_1m1 (((h_ + 0) + (f_m_whoIsAt w_1m0 w_1m1 h_ w_1l4)) : Int32).toNatClampNeg) (f8 (w_1l4 : Int32).toNatClampNeg)) (upd (upd (upd w_1m1 ((h_ + 19) : Int32).toNatClampNeg ((w_1m1 ((h_ + 19) : Int32).toNatClampNeg) + ((f_m_quarrels w_1m0 f10 (f_m_whoIsAt w_1m0 w_1m1 h_ w_1l4) (w_1m1 (((h_ + 12) + (f_m_whoIsAt w_1m0 w_1m1 h_ w_1l4)) : Int32).toNatClampNeg) (w_1m1 (((h_ + 0) + (f_m_whoIsAt w_1m0 w_1m1 h_ w_1l4)) : Int32).toNatClampNeg) (f8 (w_1l4 : Int32).toNatClampNeg)) 32))) (((h_ + 0) + (f_m_whoIsAt w_1m0 w_1m1 h_ w_1l4)) : Int32).toNatClampNeg ((f_m_quarrels w_1m0 f10 (f_m_whoIsAt w_1m0 w_1m1 h_ w_1l4) (w_1m1 (((h_ + 12) + (f_m_whoIsAt w_1m0 w_1m1 h_ w_1l4)) : Int32).toNatClampNeg) (w_1m1 (((h_ + 0) + (f_m_whoIsAt w_1m0 w_1m1 h_ w_1l4)) : Int32).toNatClampNeg) (f8 (w_1l4 : Int32).toNatClampNeg)) 33)) (((h_ + 27) + v_) : Int32).toNatClampNeg w_1l4)))) ∧ (¬ ((f_m_quarrels w_1m0 f10 (f_m_whoIsAt w_1m0 w_1m1 h_ w_1l4) (w_1m1 (((h_ + 12) + (f_m_whoIsAt w_1m0 w_1m1 h_ w_1l4)) : Int32).toNatClampNeg) (w_1m1 (((h_ + 0) + (f_m_whoIsAt w_1m0 w_1m1 h_ w_1l4)) : Int32).toNatClampNeg) (f8 (w_1l4 : Int32).toNatClampNeg)) 34) = 0 → (vp_in ((h_ + 27) + v_) 1302 ∧ (ih (w_1l4 + 1) ((f_m_quarrels w_1m0 f10 (f_m_whoIsAt w_1m0 w_1m1 h_ w_1l4) (w_1m1 (((h_ + 12) + (f_m_whoIsAt w_1m0 w_1m1 h_ w_1l4)) : Int32).toNatClampNeg) (w_1m1 (((h_ + 0) + (f_m_whoIsAt w_1m0 w_1m1 h_ w_1l4)) : Int32).toNatClampNeg) (f8 (w_1l4 : Int32).toNatClampNeg)) 34) (f_m_quarrels w_1m0 f10 (f_m_whoIsAt w_1m0 w_1m1 h_ w_1l4) (w_1m1 (((h_ + 12) + (f_m_whoIsAt w_1m0 w_1m1 h_ w_1l4)) : Int32).toNatClampNeg) (w_1m1 (((h_ + 0) + (f_m_whoIsAt w_1m0 w_1m1 h_ w_1l4)) : Int32).toNatClampNeg) (f8 (w_1l4 : Int32).toNatClampNeg)) (upd (upd (upd w_1m1 ((h_ + 19) : Int32).toNatClampNeg ((w_1m1 ((h_ + 19) : Int32).toNatClampNeg) + ((f_m_quarrels w_1m0 f10 (f_m_whoIsAt w_1m0 w_1m1 h_ w_1l4) (w_1m1 (((h_ + 12) + (f_m_whoIsAt w_1m0 w_1m1 h_ w_1l4)) : Int32).toNatClampNeg) (w_1m1 (((h_ + 0) + (f_m_whoIsAt w_1m0 w_1m1 h_ w_1l4)) : Int32).toNatClampNeg) (f8 (w_1l4 : Int32).toNatClampNeg)) 32))) (((h_ + 0) + (f_m_whoIsAt w_1m0 w_1m1 h_ w_1l4)) : Int32).toNatClampNeg ((f_m_quarrels w_1m0 f10 (f_m_whoIsAt w_1m0 w_1m1 h_ w_1l4) (w_1m1 (((h_ + 12) + (f_m_whoIsAt w_1m0 w_1m1 h_ w_1l4)) : Int32).toNatClampNeg) (w_1m1 (((h_ + 0) + (f_m_whoIsAt w_1m0 w_1m1 h_ w_1l4)) : Int32).toNatClampNeg) (f8 (w_1l4 : Int32).toNatClampNeg)) 33)) (((h_ + 27) + v_) : Int32).toNatClampNeg (-1)))))))))))))))))))))))) n
theorem S_m_passes_5_s (f10 : Nat → Int32) (f8 : Nat → Int32) (f11 : Nat → Int32) (h_ : Int32) (v_ : Int32) (K : Int32 → Int32 → (Nat → Int32) → (Nat → Int32) → Prop) (n : Nat) (w_1l4 : Int32) (w_1l3 : Int32) (w_1m0 : (Nat → Int32)) (w_1m1 : (Nat → Int32)) : S_m_passes_5 f10 f8 f11 h_ v_ K (n + 1) w_1l4 w_1l3 w_1m0 w_1m1 = ((vp_in v_ 7 ∧ (((f11 (v_ : Int32).toNatClampNeg) < w_1l4 → (K w_1l4 w_1l3 w_1m0 w_1m1)) ∧ (¬ (f11 (v_ : Int32).toNatClampNeg) < w_1l4 → ((w_1l3 = 0 → (K w_1l4 w_1l3 w_1m0 w_1m1)) ∧ (¬ w_1l3 = 0 → ((S_m_whoIsAt w_1m0 w_1m1 h_ w_1l4) ∧ (((f_m_whoIsAt w_1m0 w_1m1 h_ w_1l4) = (-1) → (vp_in ((h_ + 27) + v_) 1302 ∧ (S_m_passes_5 f10 f8 f11 h_ v_ K n (w_1l4 + 1) 0 w_1m0 (upd w_1m1 (((h_ + 27) + v_) : Int32).toNatClampNeg w_1l4)))) ∧ (¬ (f_m_whoIsAt w_1m0 w_1m1 h_ w_1l4) = (-1) → (vp_in ((h_ + 12) + (f_m_whoIsAt w_1m0 w_1m1 h_ w_1l4)) 1302 ∧ (vp_in ((h_ + 0) + (f_m_whoIsAt w_1m0 w_1m1 h_ w_1l4)) 1302 ∧ (vp_in w_1l4 6 ∧ ((S_m_quarrels w_1m0 f10 (f_m_whoIsAt w_1m0 w_1m1 h_ w_1l4) (w_1m1 (((h_ + 12) + (f_m_whoIsAt w_1m0 w_1m1 h_ w_1l4)) : Int32).toNatClampNeg) (w_1m1 (((h_ + 0) + (f_m_whoIsAt w_1m0 w_1m1 h_ w_1l4)) : Int32).toNatClampNeg) (f8 (w_1l4 : Int32).toNatClampNeg)) ∧ (vp_in (h_ + 19) 1302 ∧ (vp_in (h_ + 19) 1302 ∧ (vp_in ((h_ + 0) + (f_m_whoIsAt w_1m0 w_1m1 h_ w_1l4)) 1302 ∧ ((((f_m_quarrels w_1m0 f10 (f_m_whoIsAt w_1m0 w_1m1 h_ w_1l4) (w_1m1 (((h_ + 12) + (f_m_whoIsAt w_1m0 w_1m1 h_ w_1l4)) : Int32).toNatClampNeg) (w_1m1 (((h_ + 0) + (f_m_whoIsAt w_1m0 w_1m1 h_ w_1l4)) : Int32).toNatClampNeg) (f8 (w_1l4 : Int32).toNatClampNeg)) 33) = 0 → ((((f_m_quarrels w_1m0 f10 (f_m_whoIsAt w_1m0 w_1m1 h_ w_1l4) (w_1m1 (((h_ + 12) + (f_m_whoIsAt w_1m0 w_1m1 h_ w_1l4)) : Int32).toNatClampNeg) (w_1m1 (((h_ + 0) + (f_m_whoIsAt w_1m0 w_1m1 h_ w_1l4)) : Int32).toNatClampNeg) (f8 (w_1l4 : Int32).toNatClampNeg)) 32) ≤ 0 → ((((f_m_quarrels w_1m0 f10 (f_m_whoIsAt w_1m0 w_1m1 h_ w_1l4) (w_1m1 (((h_ + 12) + (f_m_whoIsAt w_1m0 w_1m1 h_ w_1l4)) : Int32).toNatClampNeg) (w_1m1 (((h_ + 0) + (f_m_whoIsAt w_1m0 w_1m1 h_ w_1l4)) : Int32).toNatClampNeg) (f8 (w_1l4 : Int32).toNatClampNeg)) 34) = 0 → (vp_in ((h_ + 27) + v_) 1302 ∧ (S_m_passes_5 f10 f8 f11 h_ v_ K n (w_1l4 + 1) ((f_m_quarrels w_1m0 f10 (f_m_whoIsAt w_1m0 w_1m1 h_ w_1l4) (w_1m1 (((h_ + 12) + (f_m_whoIsAt w_1m0 w_1m1 h_ w_1l4)) : Int32).toNatClampNeg) (w_1m1 (((h_ + 0) + (f_m_whoIsAt w_1m0 w_1m1 h_ w_1l4)) : Int32).toNatClampNeg) (f8 (w_1l4 : Int32).toNatClampNeg)) 34) (f_m_quarrels w_1m0 f10 (f_m_whoIsAt w_1m0 w_1m1 h_ w_1l4) (w_1m1 (((h_ + 12) + (f_m_whoIsAt w_1m0 w_1m1 h_ w_1l4)) : Int32).toNatClampNeg) (w_1m1 (((h_ + 0) + (f_m_whoIsAt w_1m0 w_1m1 h_ w_1l4)) : Int32).toNatClampNeg) (f8 (w_1l4 : Int32).toNatClampNeg)) (upd (upd (upd w_1m1 ((h_ + 19) : Int32).toNatClampNeg ((w_1m1 ((h_ + 19) : Int32).toNatClampNeg) + ((f_m_quarrels w_1m0 f10 (f_m_whoIsAt w_1m0 w_1m1 h_ w_1l4) (w_1m1 (((h_ + 12) + (f_m_whoIsAt w_1m0 w_1m1 h_ w_1l4)) : Int32).toNatClampNeg) (w_1m1 (((h_ + 0) + (f_m_whoIsAt w_1m0 w_1m1 h_ w_1l4)) : Int32).toNatClampNeg) (f8 (w_1l4 : Int32).toNatClampNeg)) 32))) (((h_ + 0) + (f_m_whoIsAt w_1m0 w_1m1 h_ w_1l4)) : Int32).toNatClampNeg ((f_m_quarrels w_1m0 f10 (f_m_whoIsAt w_1m0 w_1m1 h_ w_1l4) (w_1m1 (((h_ + 12) + (f_m_whoIsAt w_1m0 w_1m1 h_ w_1l4)) : Int32).toNatClampNeg) (w_1m1 (((h_ + 0) + (f_m_whoIsAt w_1m0 w_1m1 h_ w_1l4)) : Int32).toNatClampNeg) (f8 (w_1l4 : Int32).toNatClampNeg)) 33)) (((h_ + 27) + v_) : Int32).toNatClampNeg w_1l4)))) ∧ (¬ ((f_m_quarrels w_1m0 f10 (f_m_whoIsAt w_1m0 w_1m1 h_ w_1l4) (w_1m1 (((h_ + 12) + (f_m_whoIsAt w_1m0 w_1m1 h_ w_1l4)) : Int32).toNatClampNeg) (w_1m1 (((h_ + 0) + (f_m_whoIsAt w_1m0 w_1m1 h_ w_1l4)) : Int32).toNatClampNeg) (f8 (w_1l4 : Int32).toNatClampNeg)) 34) = 0 → (vp_in ((h_ + 27) + v_) 1302 ∧ (S_m_passes_5 f10 f8 f11 h_ v_ K n (w_1l4 + 1) ((f_m_quarrels w_1m0 f10 (f_m_whoIsAt w_1m0 w_1m1 h_ w_1l4) (w_1m1 (((h_ + 12) + (f_m_whoIsAt w_1m0 w_1m1 h_ w_1l4)) : Int32).toNatClampNeg) (w_1m1 (((h_ + 0) + (f_m_whoIsAt w_1m0 w_1m1 h_ w_1l4)) : Int32).toNatClampNeg) (f8 (w_1l4 : Int32).toNatClampNeg)) 34) (f_m_quarrels w_1m0 f10 (f_m_whoIsAt w_1m0 w_1m1 h_ w_1l4) (w_1m1 (((h_ + 12) + (f_m_whoIsAt w_1m0 w_1m1 h_ w_1l4)) : Int32).toNatClampNeg) (w_1m1 (((h_ + 0) + (f_m_whoIsAt w_1m0 w_1m1 h_ w_1l4)) : Int32).toNatClampNeg) (f8 (w_1l4 : Int32).toNatClampNeg)) (upd (upd (upd w_1m1 ((h_ + 19) : Int32).toNatClampNeg ((w_1m1 ((h_ + 19) : Int32).toNatClampNeg) + ((f_m_quarrels w_1m0 f10 (f_m_whoIsAt w_1m0 w_1m1 h_ w_1l4) (w_1m1 (((h_ + 12) + (f_m_whoIsAt w_1m0 w_1m1 h_ w_1l4)) : Int32).toNatClampNeg) (w_1m1 (((h_ + 0) + (f_m_whoIsAt w_1m0 w_1m1 h_ w_1l4)) : Int32).toNatClampNeg) (f8 (w_1l4 : Int32).toNatClampNeg)) 32))) (((h_ + 0) + (f_m_whoIsAt w_1m0 w_1m1 h_ w_1l4)) : Int32).toNatClampNeg ((f_m_quarrels w_1m0 f10 (f_m_whoIsAt w_1m0 w_1m1 h_ w_1l4) (w_1m1 (((h_ + 12) + (f_m_whoIsAt w_1m0 w_1m1 h_ w_1l4)) : Int32).toNatClampNeg) (w_1m1 (((h_ + 0) + (f_m_whoIsAt w_1m0 w_1m1 h_ w_1l4)) : Int32).toNatClampNeg) (f8 (w_1l4 : Int32).toNatClampNeg)) 33)) (((h_ + 27) + v_) : Int32).toNatClampNeg (-1))))))) ∧ (¬ ((f_m_quarrels w_1m0 f10 (f_m_whoIsAt w_1m0 w_1m1 h_ w_1l4) (w_1m1 (((h_ + 12) + (f_m_whoIsAt w_1m0 w_1m1 h_ w_1l4)) : Int32).toNatClampNeg) (w_1m1 (((h_ + 0) + (f_m_whoIsAt w_1m0 w_1m1 h_ w_1l4)) : Int32).toNatClampNeg) (f8 (w_1l4 : Int32).toNatClampNeg)) 32) ≤ 0 → (vp_in (h_ + 18) 1302 ∧ (vp_in (h_ + 18) 1302 ∧ (vp_in ((h_ + 6) + (f_m_whoIsAt w_1m0 w_1m1 h_ w_1l4)) 1302 ∧ ((((f_m_quarrels w_1m0 f10 (f_m_whoIsAt w_1m0 w_1m1 h_ w_1l4) (w_1m1 (((h_ + 12) + (f_m_whoIsAt w_1m0 w_1m1 h_ w_1l4)) : Int32).toNatClampNeg) (w_1m1 (((h_ + 0) + (f_m_whoIsAt w_1m0 w_1m1 h_ w_1l4)) : Int32).toNatClampNeg) (f8 (w_1l4 : Int32).toNatClampNeg)) 34) = 0 → (vp_in ((h_ + 27) + v_) 1302 ∧ (S_m_passes_5 f10 f8 f11 h_ v_ K n (w_1l4 + 1) ((f_m_quarrels w_1m0 f10 (f_m_whoIsAt w_1m0 w_1m1 h_ w_1l4) (w_1m1 (((h_ + 12) + (f_m_whoIsAt w_1m0 w_1m1 h_ w_1l4)) : Int32).toNatClampNeg) (w_1m1 (((h_ + 0) + (f_m_whoIsAt w_1m0 w_1m1 h_ w_1l4)) : Int32).toNatClampNeg) (f8 (w_1l4 : Int32).toNatClampNeg)) 34) (f_m_quarrels w_1m0 f10 (f_m_whoIsAt w_1m0 w_1m1 h_ w_1l4) (w_1m1 (((h_ + 12) + (f_m_whoIsAt w_1m0 w_1m1 h_ w_1l4)) : Int32).toNatClampNeg) (w_1m1 (((h_ + 0) + (f_m_whoIsAt w_1m0 w_1m1 h_ w_1l4)) : Int32).toNatClampNeg) (f8 (w_1l4 : Int32).toNatClampNeg)) (upd (upd (upd (upd (upd w_1m1 ((h_ + 19) : Int32).toNatClampNeg ((w_1m1 ((h_ + 19) : Int32).toNatClampNeg) + ((f_m_quarrels w_1m0 f10 (f_m_whoIsAt w_1m0 w_1m1 h_ w_1l4) (w_1m1 (((h_ + 12) + (f_m_whoIsAt w_1m0 w_1m1 h_ w_1l4)) : Int32).toNatClampNeg) (w_1m1 (((h_ + 0) + (f_m_whoIsAt w_1m0 w_1m1 h_ w_1l4)) : Int32).toNatClampNeg) (f8 (w_1l4 : Int32).toNatClampNeg)) 32))) (((h_ + 0) + (f_m_whoIsAt w_1m0 w_1m1 h_ w_1l4)) : Int32).toNatClampNeg ((f_m_quarrels w_1m0 f10 (f_m_whoIsAt w_1m0 w_1m1 h_ w_1l4) (w_1m1 (((h_ + 12) + (f_m_whoIsAt w_1m0 w_1m1 h_ w_1l4)) : Int32).toNatClampNeg) (w_1m1 (((h_ + 0) + (f_m_whoIsAt w_1m0 w_1m1 h_ w_1l4)) : Int32).toNatClampNeg) (f8 (w_1l4 : Int32).toNatClampNeg)) 33)) ((h_ + 18) : Int32).toNatClampNeg (((upd (upd w_1m1 ((h_ + 19) : Int32).toNatClampNeg ((w_1m1 ((h_ + 19) : Int32).toNatClampNeg) + ((f_m_quarrels w_1m0 f10 (f_m_whoIsAt w_1m0 w_1m1 h_ w_1l4) (w_1m1 (((h_ + 12) + (f_m_whoIsAt w_1m0 w_1m1 h_ w_1l4)) : Int32).toNatClampNeg) (w_1m1 (((h_ + 0) + (f_m_whoIsAt w_1m0 w_1m1 h_ w_1l4)) : Int32).toNatClampNeg) (f8 (w_1l4 : Int32).toNatClampNeg)) 32))) (((h_ + 0) + (f_m_whoIsAt w_1m0 w_1m1 h_ w_1l4)) : Int32).toNatClampNeg ((f_m_quarrels w_1m0 f10 (f_m_whoIsAt w_1m0 w_1m1 h_ w_1l4) (w_1m1 (((h_ + 12) + (f_m_whoIsAt w_1m0 w_1m1 h_ w_1l4)) : Int32).toNatClampNeg) (w_1m1 (((h_ + 0) + (f_m_whoIsAt w_1m0 w_1m1 h_ w_1l4)) : Int32).toNatClampNeg) (f8 (w_1l4 : Int32).toNatClampNeg)) 33)) ((h_ + 18) : Int32).toNatClampNeg) ||| (1 <<< ((f_m_whoIsAt w_1m0 w_1m1 h_ w_1l4) &&& 31)))) (((h_ + 6) + (f_m_whoIsAt w_1m0 w_1m1 h_ w_1l4)) : Int32).toNatClampNeg (-1)) (((h_ + 27) + v_) : Int32).toNatClampNeg w_1l4)))) ∧ (¬ ((f_m_quarrels w_1m0 f10 (f_m_whoIsAt w_1m0 w_1m1 h_ w_1l4) (w_1m1 (((h_ + 12) + (f_m_whoIsAt w_1m0 w_1m1 h_ w_1l4)) : Int32).toNatClampNeg) (w_1m1 (((h_ + 0) + (f_m_whoIsAt w_1m0 w_1m1 h_ w_1l4)) : Int32).toNatClampNeg) (f8 (w_1l4 : Int32).toNatClampNeg)) 34) = 0 → (vp_in ((h_ + 27) + v_) 1302 ∧ (S_m_passes_5 f10 f8 f11 h_ v_ K n (w_1l4 + 1) ((f_m_quarrels w_1m0 f10 (f_m_whoIsAt w_1m0 w_1m1 h_ w_1l4) (w_1m1 (((h_ + 12) + (f_m_whoIsAt w_1m0 w_1m1 h_ w_1l4)) : Int32).toNatClampNeg) (w_1m1 (((h_ + 0) + (f_m_whoIsAt w_1m0 w_1m1 h_ w_1l4)) : Int32).toNatClampNeg) (f8 (w_1l4 : Int32).toNatClampNeg)) 34) (f_m_quarrels w_1m0 f10 (f_m_whoIsAt w_1m0 w_1m1 h_ w_1l4) (w_1m1 (((h_ + 12) + (f_m_whoIsAt w_1m0 w_1m1 h_ w_1l4)) : Int32).toNatClampNeg) (w_1m1 (((h_ + 0) + (f_m_whoIsAt w_1m0 w_1m1 h_ w_1l4)) : Int32).toNatClampNeg) (f8 (w_1l4 : Int32).toNatClampNeg)) (upd (upd (upd (upd (upd w_1m1 ((h_ + 19) : Int32).toNatClampNeg ((w_1m1 ((h_ + 19) : Int32).toNatClampNeg) + ((f_m_quarrels w_1m0 f10 (f_m_whoIsAt w_1m0 w_1m1 h_ w_1l4) (w_1m1 (((h_ + 12) + (f_m_whoIsAt w_1m0 w_1m1 h_ w_1l4)) : Int32).toNatClampNeg) (w_1m1 (((h_ + 0) + (f_m_whoIsAt w_1m0 w_1m1 h_ w_1l4)) : Int32).toNatClampNeg) (f8 (w_1l4 : Int32).toNatClampNeg)) 32))) (((h_ + 0) + (f_m_whoIsAt w_1m0 w_1m1 h_ w_1l4)) : Int32).toNatClampNeg ((f_m_quarrels w_1m0 f10 (f_m_whoIsAt w_1m0 w_1m1 h_ w_1l4) (w_1m1 (((h_ + 12) + (f_m_whoIsAt w_1m0 w_1m1 h_ w_1l4)) : Int32).toNatClampNeg) (w_1m1 (((h_ + 0) + (f_m_whoIsAt w_1m0 w_1m1 h_ w_1l4)) : Int32).toNatClampNeg) (f8 (w_1l4 : Int32).toNatClampNeg)) 33)) ((h_ + 18) : Int32).toNatClampNeg (((upd (upd w_1m1 ((h_ + 19) : Int32).toNatClampNeg ((w_1m1 ((h_ + 19) : Int32).toNatClampNeg) + ((f_m_quarrels w_1m0 f10 (f_m_whoIsAt w_1m0 w_1m1 h_ w_1l4) (w_1m1 (((h_ + 12) + (f_m_whoIsAt w_1m0 w_1m1 h_ w_1l4)) : Int32).toNatClampNeg) (w_1m1 (((h_ + 0) + (f_m_whoIsAt w_1m0 w_1m1 h_ w_1l4)) : Int32).toNatClampNeg) (f8 (w_1l4 : Int32).toNatClampNeg)) 32))) (((h_ + 0) + (f_m_whoIsAt w_1m0 w_1m1 h_ w_1l4)) : Int32).toNatClampNeg ((f_m_quarrels w_1m0 f10 (f_m_whoIsAt w_1m0 w_1m1 h_ w_1l4) (w_1m1 (((h_ + 12) + (f_m_whoIsAt w_1m0 w_1m1 h_ w_1l4)) : Int32).toNatClampNeg) (w_1m1 (((h_ + 0) + (f_m_whoIsAt w_1m0 w_1m1 h_ w_1l4)) : Int32).toNatClampNeg) (f8 (w_1l4 : Int32).toNatClampNeg)) 33)) ((h_ + 18) : Int32).toNatClampNeg) ||| (1 <<< ((f_m_whoIsAt w_1m0 w_1m1 h_ w_1l4) &&& 31)))) (((h_ + 6) + (f_m_whoIsAt w_1m0 w_1m1 h_ w_1l4)) : Int32).toNatClampNeg (-1)) (((h_ + 27) + v_) : Int32).toNatClampNeg (-1)))))))))))) ∧ (¬ ((f_m_quarrels w_1m0 f10 (f_m_whoIsAt w_1m0 w_1m1 h_ w_1l4) (w_1m1 (((h_ + 12) + (f_m_whoIsAt w_1m0 w_1m1 h_ w_1l4)) : Int32).toNatClampNeg) (w_1m1 (((h_ + 0) + (f_m_whoIsAt w_1m0 w_1m1 h_ w_1l4)) : Int32).toNatClampNeg) (f8 (w_1l4 : Int32).toNatClampNeg)) 33) = 0 → ((((f_m_quarrels w_1m0 f10 (f_m_whoIsAt w_1m0 w_1m1 h_ w_1l4) (w_1m1 (((h_ + 12) + (f_m_whoIsAt w_1m0 w_1m1 h_ w_1l4)) : Int32).toNatClampNeg) (w_1m1 (((h_ + 0) + (f_m_whoIsAt w_1m0 w_1m1 h_ w_1l4)) : Int32).toNatClampNeg) (f8 (w_1l4 : Int32).toNatClampNeg)) 34) = 0 → (vp_in ((h_ + 27) + v_) 1302 ∧ (S_m_passes_5 f10 f8 f11 h_ v_ K n (w_1l4 + 1) ((f_m_quarrels w_1m0 f10 (f_m_whoIsAt w_1m0 w_1m1 h_ w_1l4) (w_1m1 (((h_ + 12) + (f_m_whoIsAt w_1m0 w_1m1 h_ w_1l4)) : Int32).toNatClampNeg) (w_1m1 (((h_ + 0) + (f_m_whoIsAt w_1m0 w_1m1 h_ w_1l4)) : Int32).toNatClampNeg) (f8 (w_1l4 : Int32).toNatClampNeg)) 34) (f_m_quarrels w_1m0 f10 (f_m_whoIsAt w_1m0 w_1m1 h_ w_1l4) (w_1m1 (((h_ + 12) + (f_m_whoIsAt w_1m0 w_1m1 h_ w_1l4)) : Int32).toNatClampNeg) (w_1m1 (((h_ + 0) + (f_m_whoIsAt w_1m0 w_1m1 h_ w_1l4)) : Int32).toNatClampNeg) (f8 (w_1l4 : Int32).toNatClampNeg)) (upd (upd (upd w_1m1 ((h_ + 19) : Int32).toNatClampNeg ((w_1m1 ((h_ + 19) : Int32).toNatClampNeg) + ((f_m_quarrels w_1m0 f10 (f_m_whoIsAt w_1m0 w_1m1 h_ w_1l4) (w_1m1 (((h_ + 12) + (f_m_whoIsAt w_1m0 w_1m1 h_ w_1l4)) : Int32).toNatClampNeg) (w_1m1 (((h_ + 0) + (f_m_whoIsAt w_1m0 w_1m1 h_ w_1l4)) : Int32).toNatClampNeg) (f8 (w_1l4 : Int32).toNatClampNeg)) 32))) (((h_ + 0) + (f_m_whoIsAt w_1m0 w_1m1 h_ w_1l4)) : Int32).toNatClampNeg ((f_m_quarrels w_1m0 f10 (f_m_whoIsAt w_1m0 w_1m1 h_ w_1l4) (w_1m1 (((h_ + 12) + (f_m_whoIsAt w_1m0 w_1m1 h_ w_1l4)) : Int32).toNatClampNeg) (w_1m1 (((h_ + 0) + (f_m_whoIsAt w_1m0 w_1m1 h_ w_1l4)) : Int32).toNatClampNeg) (f8 (w_1l4 : Int32).toNatClampNeg)) 33)) (((h_ + 27) + v_) : Int32).toNatClampNeg w_1l4)))) ∧ (¬ ((f_m_quarrels w_1m0 f10 (f_m_whoIsAt w_1m0 w_1m1 h_ w_1l4) (w_1m1 (((h_ + 12) + (f_m_whoIsAt w_1m0 w_1m1 h_ w_1l4)) : Int32).toNatClampNeg) (w_1m1 (((h_ + 0) + (f_m_whoIsAt w_1m0 w_1m1 h_ w_1l4)) : Int32).toNatClampNeg) (f8 (w_1l4 : Int32).toNatClampNeg)) 34) = 0 → (vp_in ((h_ + 27) + v_) 1302 ∧ (S_m_passes_5 f10 f8 f11 h_ v_ K n (w_1l4 + 1) ((f_m_quarrels w_1m0 f10 (f_m_whoIsAt w_1m0 w_1m1 h_ w_1l4) (w_1m1 (((h_ + 12) + (f_m_whoIsAt w_1m0 w_1m1 h_ w_1l4)) : Int32).toNatClampNeg) (w_1m1 (((h_ + 0) + (f_m_whoIsAt w_1m0 w_1m1 h_ w_1l4)) : Int32).toNatClampNeg) (f8 (w_1l4 : Int32).toNatClampNeg)) 34) (f_m_quarrels w_1m0 f10 (f_m_whoIsAt w_1m0 w_1m1 h_ w_1l4) (w_1m1 (((h_ + 12) + (f_m_whoIsAt w_1m0 w_1m1 h_ w_1l4)) : Int32).toNatClampNeg) (w_1m1 (((h_ + 0) + (f_m_whoIsAt w_1m0 w_1m1 h_ w_1l4)) : Int32).toNatClampNeg) (f8 (w_1l4 : Int32).toNatClampNeg)) (upd (upd (upd w_1m1 ((h_ + 19) : Int32).toNatClampNeg ((w_1m1 ((h_ + 19) : Int32).toNatClampNeg) + ((f_m_quarrels w_1m0 f10 (f_m_whoIsAt w_1m0 w_1m1 h_ w_1l4) (w_1m1 (((h_ + 12) + (f_m_whoIsAt w_1m0 w_1m1 h_ w_1l4)) : Int32).toNatClampNeg) (w_1m1 (((h_ + 0) + (f_m_whoIsAt w_1m0 w_1m1 h_ w_1l4)) : Int32).toNatClampNeg) (f8 (w_1l4 : Int32).toNatClampNeg)) 32))) (((h_ + 0) + (f_m_whoIsAt w_1m0 w_1m1 h_ w_1l4)) : Int32).toNatClampNeg ((f_m_quarrels w_1m0 f10 (f_m_whoIsAt w_1m0 w_1m1 h_ w_1l4) (w_1m1 (((h_ + 12) + (f_m_whoIsAt w_1m0 w_1m1 h_ w_1l4)) : Int32).toNatClampNeg) (w_1m1 (((h_ + 0) + (f_m_whoIsAt w_1m0 w_1m1 h_ w_1l4)) : Int32).toNatClampNeg) (f8 (w_1l4 : Int32).toNatClampNeg)) 33)) (((h_ + 27) + v_) : Int32).toNatClampNeg (-1)))))))))))))))))))))))) := rfl
noncomputable def f_m_passes (G : Nat → Int32) (f0 : Nat → Int32) (f10 : Nat → Int32) (f8 : Nat → Int32) (f11 : Nat → Int32) (f12 : Nat → Int32) (h_ : Int32) (v_ : Int32) : (Nat → Int32) × (Nat → Int32) := (match ((f_m_passes_5 f10 f8 f11 h_ v_ 10 0 1 G f0) : Int32 × Int32 × (Nat → Int32) × (Nat → Int32)) with | (w_1l4, w_1l3, w_1m0, w_1m1) => (if w_1l3 = 0 then (if w_1l3 = 0 then (w_1m0, (upd (upd w_1m1 (((h_ + 20) + v_) : Int32).toNatClampNeg 3) (((h_ + 34) + v_) : Int32).toNatClampNeg (-1))) else (w_1m0, (upd (upd w_1m1 (((h_ + 20) + v_) : Int32).toNatClampNeg 3) (((h_ + 34) + v_) : Int32).toNatClampNeg ((upd w_1m1 (((h_ + 20) + v_) : Int32).toNatClampNeg 3) ((h_ + 19) : Int32).toNatClampNeg)))) else (if (f12 (v_ : Int32).toNatClampNeg) < (w_1m1 ((h_ + 19) : Int32).toNatClampNeg) then (if w_1l3 = 0 then (w_1m0, (upd (upd w_1m1 (((h_ + 20) + v_) : Int32).toNatClampNeg 2) (((h_ + 34) + v_) : Int32).toNatClampNeg (-1))) else (w_1m0, (upd (upd w_1m1 (((h_ + 20) + v_) : Int32).toNatClampNeg 2) (((h_ + 34) + v_) : Int32).toNatClampNeg ((upd w_1m1 (((h_ + 20) + v_) : Int32).toNatClampNeg 2) ((h_ + 19) : Int32).toNatClampNeg)))) else (if w_1l3 = 0 then (w_1m0, (upd (upd w_1m1 (((h_ + 20) + v_) : Int32).toNatClampNeg 1) (((h_ + 34) + v_) : Int32).toNatClampNeg (-1))) else (w_1m0, (upd (upd w_1m1 (((h_ + 20) + v_) : Int32).toNatClampNeg 1) (((h_ + 34) + v_) : Int32).toNatClampNeg ((upd w_1m1 (((h_ + 20) + v_) : Int32).toNatClampNeg 1) ((h_ + 19) : Int32).toNatClampNeg)))))))
def S_m_passes (G : Nat → Int32) (f0 : Nat → Int32) (f10 : Nat → Int32) (f8 : Nat → Int32) (f11 : Nat → Int32) (f12 : Nat → Int32) (h_ : Int32) (v_ : Int32) : Prop := (S_m_passes_5 f10 f8 f11 h_ v_ (fun (w_1l4 : Int32) (w_1l3 : Int32) (w_1m0 : (Nat → Int32)) (w_1m1 : (Nat → Int32)) => ((w_1l3 = 0 → (vp_in ((h_ + 20) + v_) 1302 ∧ ((w_1l3 = 0 → (vp_in ((h_ + 34) + v_) 1302 ∧ True)) ∧ (¬ w_1l3 = 0 → (vp_in (h_ + 19) 1302 ∧ (vp_in ((h_ + 34) + v_) 1302 ∧ True)))))) ∧ (¬ w_1l3 = 0 → (vp_in (h_ + 19) 1302 ∧ (vp_in v_ 7 ∧ (((f12 (v_ : Int32).toNatClampNeg) < (w_1m1 ((h_ + 19) : Int32).toNatClampNeg) → (vp_in ((h_ + 20) + v_) 1302 ∧ ((w_1l3 = 0 → (vp_in ((h_ + 34) + v_) 1302 ∧ True)) ∧ (¬ w_1l3 = 0 → (vp_in (h_ + 19) 1302 ∧ (vp_in ((h_ + 34) + v_) 1302 ∧ True)))))) ∧ (¬ (f12 (v_ : Int32).toNatClampNeg) < (w_1m1 ((h_ + 19) : Int32).toNatClampNeg) → (vp_in ((h_ + 20) + v_) 1302 ∧ ((w_1l3 = 0 → (vp_in ((h_ + 34) + v_) 1302 ∧ True)) ∧ (¬ w_1l3 = 0 → (vp_in (h_ + 19) 1302 ∧ (vp_in ((h_ + 34) + v_) 1302 ∧ True)))))))))))) 10 0 1 G f0)
def rm_m_passes : Room := { frames := 2, cells := 0, slots := 0, locals := 50 }
set_option maxHeartbeats 4000000 in
set_option maxRecDepth 100000 in
theorem m_passes {l : Launch} {D : va_G} {cI cZ : ClassId} {sz : Nat} (Rf : Nat → Nat) (h : Nat) (G : Nat → Int32) (f0 : Nat → Int32) (f10 : Nat → Int32) (f8 : Nat → Int32) (f11 : Nat → Int32) (f12 : Nat → Int32) (h_ : Int32) (v_ : Int32) (hF : S_m_passes G f0 f10 f8 f11 f12 h_ v_) : KV l yX10_passes cX10_passes 6 rm_m_passes D cI cZ [.ref h, .int h_, .int v_] sz [(h, .inr (10, ML G Rf)), ((Rf 0), .inl (cI, 1302, .inl f0)), ((Rf 10), .inl (cI, 30, .inl f10)), ((Rf 8), .inl (cI, 6, .inl f8)), ((Rf 11), .inl (cI, 7, .inl f11)), ((Rf 12), .inl (cI, 7, .inl f12))] (fun (u : (Nat → Int32) × (Nat → Int32)) => u = f_m_passes G f0 f10 f8 f11 f12 h_ v_) (fun (u : (Nat → Int32) × (Nat → Int32)) => [(h, .inr (10, ML u.1 Rf)), ((Rf 0), .inl (cI, 1302, .inl u.2)), ((Rf 10), .inl (cI, 30, .inl f10)), ((Rf 8), .inl (cI, 6, .inl f8)), ((Rf 11), .inl (cI, 7, .inl f11)), ((Rf 12), .inl (cI, 7, .inl f12))]) := by
  refine KV.go rfl (Nat.le_of_ble_eq_true rfl) ?_
  intro p e s m args below meth c ls A Q hx hb hml hts hown hin hP hK hD hS hA hN hl hret
  have hl : lv_has ls 6 [(0, .ref h), (1, .int h_), (2, .int v_)] := hl
  rw [S_m_passes] at hF
  obtain ⟨RES, hE⟩ : ∃ xRES, f_m_passes G f0 f10 f8 f11 f12 h_ v_ = xRES := ⟨_, rfl⟩
  rw [hE] at hret
  rw [f_m_passes] at hE
  refine lv_iconst (v := 1) hx hb dX10_passes_0 rfl ?_
  refine lv_istore_n (lv' := [(3, .int 1), (0, .ref h), (1, .int h_), (2, .int v_)]) hx hb dX10_passes_1 rfl hl (Nat.le_of_ble_eq_true rfl) rfl (fun ls hl => ?_)
  refine lv_iconst (v := 0) hx hb dX10_passes_2 rfl ?_
  refine lv_istore (lv' := [(4, .int 0), (3, .int 1), (0, .ref h), (1, .int h_), (2, .int v_)]) hx hb dX10_passes_3 hl (Nat.le_of_ble_eq_true rfl) rfl (fun ls hl => ?_)
  have ex_5_w_1 : ∀ (w_1l4 : Int32) (w_1l3 : Int32) (w_1m0 : (Nat → Int32)) (w_1m1 : (Nat → Int32)) (H : Heap) (locs : List Loc) (ls : Array Slot), va_P D classes [(h, .inr (10, ML w_1m0 Rf)), ((Rf 0), .inl (cI, 1302, .inl w_1m1)), ((Rf 10), .inl (cI, 30, .inl f10)), ((Rf 8), .inl (cI, 6, .inl f8)), ((Rf 11), .inl (cI, 7, .inl f11)), ((Rf 12), .inl (cI, 7, .inl f12))] H → va_D A [(h, .inr (10, ML w_1m0 Rf)), ((Rf 0), .inl (cI, 1302, .inl w_1m1)), ((Rf 10), .inl (cI, 30, .inl f10)), ((Rf 8), .inl (cI, 6, .inl f8)), ((Rf 11), .inl (cI, 7, .inl f11)), ((Rf 12), .inl (cI, 7, .inl f12))] → va_S A s.heap H locs → lv_has ls 6 [(4, .int w_1l4), (3, .int w_1l3), (0, .ref h), (1, .int h_), (2, .int v_)] → (((w_1l3 = 0 → (vp_in ((h_ + 20) + v_) 1302 ∧ ((w_1l3 = 0 → (vp_in ((h_ + 34) + v_) 1302 ∧ True)) ∧ (¬ w_1l3 = 0 → (vp_in (h_ + 19) 1302 ∧ (vp_in ((h_ + 34) + v_) 1302 ∧ True)))))) ∧ (¬ w_1l3 = 0 → (vp_in (h_ + 19) 1302 ∧ (vp_in v_ 7 ∧ (((f12 (v_ : Int32).toNatClampNeg) < (w_1m1 ((h_ + 19) : Int32).toNatClampNeg) → (vp_in ((h_ + 20) + v_) 1302 ∧ ((w_1l3 = 0 → (vp_in ((h_ + 34) + v_) 1302 ∧ True)) ∧ (¬ w_1l3 = 0 → (vp_in (h_ + 19) 1302 ∧ (vp_in ((h_ + 34) + v_) 1302 ∧ True)))))) ∧ (¬ (f12 (v_ : Int32).toNatClampNeg) < (w_1m1 ((h_ + 19) : Int32).toNatClampNeg) → (vp_in ((h_ + 20) + v_) 1302 ∧ ((w_1l3 = 0 → (vp_in ((h_ + 34) + v_) 1302 ∧ True)) ∧ (¬ w_1l3 = 0 → (vp_in (h_ + 19) 1302 ∧ (vp_in ((h_ + 34) + v_) 1302 ∧ True)))))))))))) → (((if w_1l3 = 0 then (if w_1l3 = 0 then (w_1m0, (upd (upd w_1m1 (((h_ + 20) + v_) : Int32).toNatClampNeg 3) (((h_ + 34) + v_) : Int32).toNatClampNeg (-1))) else (w_1m0, (upd (upd w_1m1 (((h_ + 20) + v_) : Int32).toNatClampNeg 3) (((h_ + 34) + v_) : Int32).toNatClampNeg ((upd w_1m1 (((h_ + 20) + v_) : Int32).toNatClampNeg 3) ((h_ + 19) : Int32).toNatClampNeg)))) else (if (f12 (v_ : Int32).toNatClampNeg) < (w_1m1 ((h_ + 19) : Int32).toNatClampNeg) then (if w_1l3 = 0 then (w_1m0, (upd (upd w_1m1 (((h_ + 20) + v_) : Int32).toNatClampNeg 2) (((h_ + 34) + v_) : Int32).toNatClampNeg (-1))) else (w_1m0, (upd (upd w_1m1 (((h_ + 20) + v_) : Int32).toNatClampNeg 2) (((h_ + 34) + v_) : Int32).toNatClampNeg ((upd w_1m1 (((h_ + 20) + v_) : Int32).toNatClampNeg 2) ((h_ + 19) : Int32).toNatClampNeg)))) else (if w_1l3 = 0 then (w_1m0, (upd (upd w_1m1 (((h_ + 20) + v_) : Int32).toNatClampNeg 1) (((h_ + 34) + v_) : Int32).toNatClampNeg (-1))) else (w_1m0, (upd (upd w_1m1 (((h_ + 20) + v_) : Int32).toNatClampNeg 1) (((h_ + 34) + v_) : Int32).toNatClampNeg ((upd w_1m1 (((h_ + 20) + v_) : Int32).toNatClampNeg 1) ((h_ + 19) : Int32).toNatClampNeg))))))) : (Nat → Int32) × (Nat → Int32)) = RES → W p l e rm_m_passes s m args below meth c H locs 0 0 Q (F0 m 187 ls []) := by
    intro w_1l4 w_1l3 w_1m0 w_1m1 H locs ls hP hD hS hl hF hE
    refine lv_aload_n hx hb dX10_passes_187 rfl (lv_at hl 2 rfl) ?_
    refine va_get (D := D) (ci := 10) (v := .ref (Rf 0)) (C := RX10) (T := TX10) (N := 45) hx hb hts iX10 hown hK hP 0 rfl rfl 0 (Nat.le_of_ble_eq_true rfl) (hts _ wd_491) (fun _ h9 => h9) rfl dX10_passes_188 ?_
    refine lv_iload_n hx hb dX10_passes_191 rfl (lv_at hl 3 rfl) ?_
    refine lv_bipush (v := 20) hx hb dX10_passes_192 rfl ?_
    refine lv_iadd hx hb dX10_passes_194 ?_
    refine lv_iload_n hx hb dX10_passes_195 rfl (lv_at hl 4 rfl) ?_
    refine lv_iadd hx hb dX10_passes_196 ?_
    refine lv_iload_n hx hb dX10_passes_197 rfl (lv_at hl 1 rfl) ?_
    refine lv_if_ne (tgt := 205) hx hb dX10_passes_198 rfl (fun c_2 => ?_) (fun c_2 => ?_)
    · replace hF := hF.2 c_2
      rw [if_neg c_2] at hE
      refine lv_aload_n hx hb dX10_passes_205 rfl (lv_at hl 2 rfl) ?_
      refine va_get (D := D) (ci := 10) (v := .ref (Rf 0)) (C := RX10) (T := TX10) (N := 45) hx hb hts iX10 hown hK hP 0 rfl rfl 0 (Nat.le_of_ble_eq_true rfl) (hts _ wd_491) (fun _ h9 => h9) rfl dX10_passes_206 ?_
      refine lv_iload_n hx hb dX10_passes_209 rfl (lv_at hl 3 rfl) ?_
      refine lv_bipush (v := 19) hx hb dX10_passes_210 rfl ?_
      refine lv_iadd hx hb dX10_passes_212 ?_
      obtain ⟨hv_3, hF⟩ := hF
      refine va_iald hx hb hK hP 1 0 rfl rfl hv_3 dX10_passes_213 ?_
      refine lv_aload_n hx hb dX10_passes_214 rfl (lv_at hl 2 rfl) ?_
      refine va_get (D := D) (ci := 10) (v := .ref (Rf 12)) (C := RX10) (T := TX10) (N := 45) hx hb hts iX10 hown hK hP 0 rfl rfl 12 (Nat.le_of_ble_eq_true rfl) (hts _ wd_594) (fun _ h9 => h9) rfl dX10_passes_215 ?_
      refine lv_iload_n hx hb dX10_passes_218 rfl (lv_at hl 4 rfl) ?_
      obtain ⟨hv_4, hF⟩ := hF
      refine va_iald hx hb hK hP 5 0 rfl rfl hv_4 dX10_passes_219 ?_
      refine lv_icmp_gt (tgt := 227) hx hb dX10_passes_220 rfl (fun c_5 => ?_) (fun c_5 => ?_)
      · replace hF := hF.1 c_5
        rw [if_pos c_5] at hE
        refine lv_iconst (v := 2) hx hb dX10_passes_227 rfl ?_
        obtain ⟨hv_6, hF⟩ := hF
        refine va_iast hx hb hK hP hD hS 1 0 rfl rfl hv_6 dX10_passes_228 (fun H locs hP hD hS => ?_)
        have hP : va_P D classes [(h, .inr (10, ML w_1m0 Rf)), ((Rf 0), .inl (cI, 1302, .inl (upd w_1m1 (((h_ + 20) + v_) : Int32).toNatClampNeg 2))), ((Rf 10), .inl (cI, 30, .inl f10)), ((Rf 8), .inl (cI, 6, .inl f8)), ((Rf 11), .inl (cI, 7, .inl f11)), ((Rf 12), .inl (cI, 7, .inl f12))] H := hP
        have hD : va_D A [(h, .inr (10, ML w_1m0 Rf)), ((Rf 0), .inl (cI, 1302, .inl (upd w_1m1 (((h_ + 20) + v_) : Int32).toNatClampNeg 2))), ((Rf 10), .inl (cI, 30, .inl f10)), ((Rf 8), .inl (cI, 6, .inl f8)), ((Rf 11), .inl (cI, 7, .inl f11)), ((Rf 12), .inl (cI, 7, .inl f12))] := hD
        refine lv_aload_n hx hb dX10_passes_229 rfl (lv_at hl 2 rfl) ?_
        refine va_get (D := D) (ci := 10) (v := .ref (Rf 0)) (C := RX10) (T := TX10) (N := 45) hx hb hts iX10 hown hK hP 0 rfl rfl 0 (Nat.le_of_ble_eq_true rfl) (hts _ wd_491) (fun _ h9 => h9) rfl dX10_passes_230 ?_
        refine lv_iload_n hx hb dX10_passes_233 rfl (lv_at hl 3 rfl) ?_
        refine lv_bipush (v := 34) hx hb dX10_passes_234 rfl ?_
        refine lv_iadd hx hb dX10_passes_236 ?_
        refine lv_iload_n hx hb dX10_passes_237 rfl (lv_at hl 4 rfl) ?_
        refine lv_iadd hx hb dX10_passes_238 ?_
        refine lv_iload_n hx hb dX10_passes_239 rfl (lv_at hl 1 rfl) ?_
        refine lv_if_eq (tgt := 255) hx hb dX10_passes_240 rfl (fun c_7 => ?_) (fun c_7 => ?_)
        · replace hF := hF.1 c_7
          rw [if_pos c_7] at hE
          refine lv_iconst (v := (-1)) hx hb dX10_passes_255 rfl ?_
          obtain ⟨hv_8, hF⟩ := hF
          refine va_iast hx hb hK hP hD hS 1 0 rfl rfl hv_8 dX10_passes_256 (fun H locs hP hD hS => ?_)
          have hP : va_P D classes [(h, .inr (10, ML w_1m0 Rf)), ((Rf 0), .inl (cI, 1302, .inl (upd (upd w_1m1 (((h_ + 20) + v_) : Int32).toNatClampNeg 2) (((h_ + 34) + v_) : Int32).toNatClampNeg (-1)))), ((Rf 10), .inl (cI, 30, .inl f10)), ((Rf 8), .inl (cI, 6, .inl f8)), ((Rf 11), .inl (cI, 7, .inl f11)), ((Rf 12), .inl (cI, 7, .inl f12))] H := hP
          have hD : va_D A [(h, .inr (10, ML w_1m0 Rf)), ((Rf 0), .inl (cI, 1302, .inl (upd (upd w_1m1 (((h_ + 20) + v_) : Int32).toNatClampNeg 2) (((h_ + 34) + v_) : Int32).toNatClampNeg (-1)))), ((Rf 10), .inl (cI, 30, .inl f10)), ((Rf 8), .inl (cI, 6, .inl f8)), ((Rf 11), .inl (cI, 7, .inl f11)), ((Rf 12), .inl (cI, 7, .inl f12))] := hD
          exact hret (w_1m0, (upd (upd w_1m1 (((h_ + 20) + v_) : Int32).toNatClampNeg 2) (((h_ + 34) + v_) : Int32).toNatClampNeg (-1))) _ _ _ _ dX10_passes_257 hE hP hD hS
        · replace hF := hF.2 c_7
          rw [if_neg c_7] at hE
          refine lv_aload_n hx hb dX10_passes_243 rfl (lv_at hl 2 rfl) ?_
          refine va_get (D := D) (ci := 10) (v := .ref (Rf 0)) (C := RX10) (T := TX10) (N := 45) hx hb hts iX10 hown hK hP 0 rfl rfl 0 (Nat.le_of_ble_eq_true rfl) (hts _ wd_491) (fun _ h9 => h9) rfl dX10_passes_244 ?_
          refine lv_iload_n hx hb dX10_passes_247 rfl (lv_at hl 3 rfl) ?_
          refine lv_bipush (v := 19) hx hb dX10_passes_248 rfl ?_
          refine lv_iadd hx hb dX10_passes_250 ?_
          obtain ⟨hv_9, hF⟩ := hF
          refine va_iald hx hb hK hP 1 0 rfl rfl hv_9 dX10_passes_251 ?_
          refine lv_goto (tgt := 256) hx hb dX10_passes_252 rfl ?_
          obtain ⟨hv_10, hF⟩ := hF
          refine va_iast hx hb hK hP hD hS 1 0 rfl rfl hv_10 dX10_passes_256 (fun H locs hP hD hS => ?_)
          have hP : va_P D classes [(h, .inr (10, ML w_1m0 Rf)), ((Rf 0), .inl (cI, 1302, .inl (upd (upd w_1m1 (((h_ + 20) + v_) : Int32).toNatClampNeg 2) (((h_ + 34) + v_) : Int32).toNatClampNeg ((upd w_1m1 (((h_ + 20) + v_) : Int32).toNatClampNeg 2) ((h_ + 19) : Int32).toNatClampNeg)))), ((Rf 10), .inl (cI, 30, .inl f10)), ((Rf 8), .inl (cI, 6, .inl f8)), ((Rf 11), .inl (cI, 7, .inl f11)), ((Rf 12), .inl (cI, 7, .inl f12))] H := hP
          have hD : va_D A [(h, .inr (10, ML w_1m0 Rf)), ((Rf 0), .inl (cI, 1302, .inl (upd (upd w_1m1 (((h_ + 20) + v_) : Int32).toNatClampNeg 2) (((h_ + 34) + v_) : Int32).toNatClampNeg ((upd w_1m1 (((h_ + 20) + v_) : Int32).toNatClampNeg 2) ((h_ + 19) : Int32).toNatClampNeg)))), ((Rf 10), .inl (cI, 30, .inl f10)), ((Rf 8), .inl (cI, 6, .inl f8)), ((Rf 11), .inl (cI, 7, .inl f11)), ((Rf 12), .inl (cI, 7, .inl f12))] := hD
          exact hret (w_1m0, (upd (upd w_1m1 (((h_ + 20) + v_) : Int32).toNatClampNeg 2) (((h_ + 34) + v_) : Int32).toNatClampNeg ((upd w_1m1 (((h_ + 20) + v_) : Int32).toNatClampNeg 2) ((h_ + 19) : Int32).toNatClampNeg))) _ _ _ _ dX10_passes_257 hE hP hD hS
      · replace hF := hF.2 c_5
        rw [if_neg c_5] at hE
        refine lv_iconst (v := 1) hx hb dX10_passes_223 rfl ?_
        refine lv_goto (tgt := 228) hx hb dX10_passes_224 rfl ?_
        obtain ⟨hv_11, hF⟩ := hF
        refine va_iast hx hb hK hP hD hS 1 0 rfl rfl hv_11 dX10_passes_228 (fun H locs hP hD hS => ?_)
        have hP : va_P D classes [(h, .inr (10, ML w_1m0 Rf)), ((Rf 0), .inl (cI, 1302, .inl (upd w_1m1 (((h_ + 20) + v_) : Int32).toNatClampNeg 1))), ((Rf 10), .inl (cI, 30, .inl f10)), ((Rf 8), .inl (cI, 6, .inl f8)), ((Rf 11), .inl (cI, 7, .inl f11)), ((Rf 12), .inl (cI, 7, .inl f12))] H := hP
        have hD : va_D A [(h, .inr (10, ML w_1m0 Rf)), ((Rf 0), .inl (cI, 1302, .inl (upd w_1m1 (((h_ + 20) + v_) : Int32).toNatClampNeg 1))), ((Rf 10), .inl (cI, 30, .inl f10)), ((Rf 8), .inl (cI, 6, .inl f8)), ((Rf 11), .inl (cI, 7, .inl f11)), ((Rf 12), .inl (cI, 7, .inl f12))] := hD
        refine lv_aload_n hx hb dX10_passes_229 rfl (lv_at hl 2 rfl) ?_
        refine va_get (D := D) (ci := 10) (v := .ref (Rf 0)) (C := RX10) (T := TX10) (N := 45) hx hb hts iX10 hown hK hP 0 rfl rfl 0 (Nat.le_of_ble_eq_true rfl) (hts _ wd_491) (fun _ h9 => h9) rfl dX10_passes_230 ?_
        refine lv_iload_n hx hb dX10_passes_233 rfl (lv_at hl 3 rfl) ?_
        refine lv_bipush (v := 34) hx hb dX10_passes_234 rfl ?_
        refine lv_iadd hx hb dX10_passes_236 ?_
        refine lv_iload_n hx hb dX10_passes_237 rfl (lv_at hl 4 rfl) ?_
        refine lv_iadd hx hb dX10_passes_238 ?_
        refine lv_iload_n hx hb dX10_passes_239 rfl (lv_at hl 1 rfl) ?_
        refine lv_if_eq (tgt := 255) hx hb dX10_passes_240 rfl (fun c_12 => ?_) (fun c_12 => ?_)
        · replace hF := hF.1 c_12
          rw [if_pos c_12] at hE
          refine lv_iconst (v := (-1)) hx hb dX10_passes_255 rfl ?_
          obtain ⟨hv_13, hF⟩ := hF
          refine va_iast hx hb hK hP hD hS 1 0 rfl rfl hv_13 dX10_passes_256 (fun H locs hP hD hS => ?_)
          have hP : va_P D classes [(h, .inr (10, ML w_1m0 Rf)), ((Rf 0), .inl (cI, 1302, .inl (upd (upd w_1m1 (((h_ + 20) + v_) : Int32).toNatClampNeg 1) (((h_ + 34) + v_) : Int32).toNatClampNeg (-1)))), ((Rf 10), .inl (cI, 30, .inl f10)), ((Rf 8), .inl (cI, 6, .inl f8)), ((Rf 11), .inl (cI, 7, .inl f11)), ((Rf 12), .inl (cI, 7, .inl f12))] H := hP
          have hD : va_D A [(h, .inr (10, ML w_1m0 Rf)), ((Rf 0), .inl (cI, 1302, .inl (upd (upd w_1m1 (((h_ + 20) + v_) : Int32).toNatClampNeg 1) (((h_ + 34) + v_) : Int32).toNatClampNeg (-1)))), ((Rf 10), .inl (cI, 30, .inl f10)), ((Rf 8), .inl (cI, 6, .inl f8)), ((Rf 11), .inl (cI, 7, .inl f11)), ((Rf 12), .inl (cI, 7, .inl f12))] := hD
          exact hret (w_1m0, (upd (upd w_1m1 (((h_ + 20) + v_) : Int32).toNatClampNeg 1) (((h_ + 34) + v_) : Int32).toNatClampNeg (-1))) _ _ _ _ dX10_passes_257 hE hP hD hS
        · replace hF := hF.2 c_12
          rw [if_neg c_12] at hE
          refine lv_aload_n hx hb dX10_passes_243 rfl (lv_at hl 2 rfl) ?_
          refine va_get (D := D) (ci := 10) (v := .ref (Rf 0)) (C := RX10) (T := TX10) (N := 45) hx hb hts iX10 hown hK hP 0 rfl rfl 0 (Nat.le_of_ble_eq_true rfl) (hts _ wd_491) (fun _ h9 => h9) rfl dX10_passes_244 ?_
          refine lv_iload_n hx hb dX10_passes_247 rfl (lv_at hl 3 rfl) ?_
          refine lv_bipush (v := 19) hx hb dX10_passes_248 rfl ?_
          refine lv_iadd hx hb dX10_passes_250 ?_
          obtain ⟨hv_14, hF⟩ := hF
          refine va_iald hx hb hK hP 1 0 rfl rfl hv_14 dX10_passes_251 ?_
          refine lv_goto (tgt := 256) hx hb dX10_passes_252 rfl ?_
          obtain ⟨hv_15, hF⟩ := hF
          refine va_iast hx hb hK hP hD hS 1 0 rfl rfl hv_15 dX10_passes_256 (fun H locs hP hD hS => ?_)
          have hP : va_P D classes [(h, .inr (10, ML w_1m0 Rf)), ((Rf 0), .inl (cI, 1302, .inl (upd (upd w_1m1 (((h_ + 20) + v_) : Int32).toNatClampNeg 1) (((h_ + 34) + v_) : Int32).toNatClampNeg ((upd w_1m1 (((h_ + 20) + v_) : Int32).toNatClampNeg 1) ((h_ + 19) : Int32).toNatClampNeg)))), ((Rf 10), .inl (cI, 30, .inl f10)), ((Rf 8), .inl (cI, 6, .inl f8)), ((Rf 11), .inl (cI, 7, .inl f11)), ((Rf 12), .inl (cI, 7, .inl f12))] H := hP
          have hD : va_D A [(h, .inr (10, ML w_1m0 Rf)), ((Rf 0), .inl (cI, 1302, .inl (upd (upd w_1m1 (((h_ + 20) + v_) : Int32).toNatClampNeg 1) (((h_ + 34) + v_) : Int32).toNatClampNeg ((upd w_1m1 (((h_ + 20) + v_) : Int32).toNatClampNeg 1) ((h_ + 19) : Int32).toNatClampNeg)))), ((Rf 10), .inl (cI, 30, .inl f10)), ((Rf 8), .inl (cI, 6, .inl f8)), ((Rf 11), .inl (cI, 7, .inl f11)), ((Rf 12), .inl (cI, 7, .inl f12))] := hD
          exact hret (w_1m0, (upd (upd w_1m1 (((h_ + 20) + v_) : Int32).toNatClampNeg 1) (((h_ + 34) + v_) : Int32).toNatClampNeg ((upd w_1m1 (((h_ + 20) + v_) : Int32).toNatClampNeg 1) ((h_ + 19) : Int32).toNatClampNeg))) _ _ _ _ dX10_passes_257 hE hP hD hS
    · replace hF := hF.1 c_2
      rw [if_pos c_2] at hE
      refine lv_iconst (v := 3) hx hb dX10_passes_201 rfl ?_
      refine lv_goto (tgt := 228) hx hb dX10_passes_202 rfl ?_
      obtain ⟨hv_16, hF⟩ := hF
      refine va_iast hx hb hK hP hD hS 1 0 rfl rfl hv_16 dX10_passes_228 (fun H locs hP hD hS => ?_)
      have hP : va_P D classes [(h, .inr (10, ML w_1m0 Rf)), ((Rf 0), .inl (cI, 1302, .inl (upd w_1m1 (((h_ + 20) + v_) : Int32).toNatClampNeg 3))), ((Rf 10), .inl (cI, 30, .inl f10)), ((Rf 8), .inl (cI, 6, .inl f8)), ((Rf 11), .inl (cI, 7, .inl f11)), ((Rf 12), .inl (cI, 7, .inl f12))] H := hP
      have hD : va_D A [(h, .inr (10, ML w_1m0 Rf)), ((Rf 0), .inl (cI, 1302, .inl (upd w_1m1 (((h_ + 20) + v_) : Int32).toNatClampNeg 3))), ((Rf 10), .inl (cI, 30, .inl f10)), ((Rf 8), .inl (cI, 6, .inl f8)), ((Rf 11), .inl (cI, 7, .inl f11)), ((Rf 12), .inl (cI, 7, .inl f12))] := hD
      refine lv_aload_n hx hb dX10_passes_229 rfl (lv_at hl 2 rfl) ?_
      refine va_get (D := D) (ci := 10) (v := .ref (Rf 0)) (C := RX10) (T := TX10) (N := 45) hx hb hts iX10 hown hK hP 0 rfl rfl 0 (Nat.le_of_ble_eq_true rfl) (hts _ wd_491) (fun _ h9 => h9) rfl dX10_passes_230 ?_
      refine lv_iload_n hx hb dX10_passes_233 rfl (lv_at hl 3 rfl) ?_
      refine lv_bipush (v := 34) hx hb dX10_passes_234 rfl ?_
      refine lv_iadd hx hb dX10_passes_236 ?_
      refine lv_iload_n hx hb dX10_passes_237 rfl (lv_at hl 4 rfl) ?_
      refine lv_iadd hx hb dX10_passes_238 ?_
      refine lv_iload_n hx hb dX10_passes_239 rfl (lv_at hl 1 rfl) ?_
      refine lv_if_eq (tgt := 255) hx hb dX10_passes_240 rfl (fun c_17 => ?_) (fun c_17 => ?_)
      · replace hF := hF.1 c_17
        rw [if_pos c_17] at hE
        refine lv_iconst (v := (-1)) hx hb dX10_passes_255 rfl ?_
        obtain ⟨hv_18, hF⟩ := hF
        refine va_iast hx hb hK hP hD hS 1 0 rfl rfl hv_18 dX10_passes_256 (fun H locs hP hD hS => ?_)
        have hP : va_P D classes [(h, .inr (10, ML w_1m0 Rf)), ((Rf 0), .inl (cI, 1302, .inl (upd (upd w_1m1 (((h_ + 20) + v_) : Int32).toNatClampNeg 3) (((h_ + 34) + v_) : Int32).toNatClampNeg (-1)))), ((Rf 10), .inl (cI, 30, .inl f10)), ((Rf 8), .inl (cI, 6, .inl f8)), ((Rf 11), .inl (cI, 7, .inl f11)), ((Rf 12), .inl (cI, 7, .inl f12))] H := hP
        have hD : va_D A [(h, .inr (10, ML w_1m0 Rf)), ((Rf 0), .inl (cI, 1302, .inl (upd (upd w_1m1 (((h_ + 20) + v_) : Int32).toNatClampNeg 3) (((h_ + 34) + v_) : Int32).toNatClampNeg (-1)))), ((Rf 10), .inl (cI, 30, .inl f10)), ((Rf 8), .inl (cI, 6, .inl f8)), ((Rf 11), .inl (cI, 7, .inl f11)), ((Rf 12), .inl (cI, 7, .inl f12))] := hD
        exact hret (w_1m0, (upd (upd w_1m1 (((h_ + 20) + v_) : Int32).toNatClampNeg 3) (((h_ + 34) + v_) : Int32).toNatClampNeg (-1))) _ _ _ _ dX10_passes_257 hE hP hD hS
      · replace hF := hF.2 c_17
        rw [if_neg c_17] at hE
        refine lv_aload_n hx hb dX10_passes_243 rfl (lv_at hl 2 rfl) ?_
        refine va_get (D := D) (ci := 10) (v := .ref (Rf 0)) (C := RX10) (T := TX10) (N := 45) hx hb hts iX10 hown hK hP 0 rfl rfl 0 (Nat.le_of_ble_eq_true rfl) (hts _ wd_491) (fun _ h9 => h9) rfl dX10_passes_244 ?_
        refine lv_iload_n hx hb dX10_passes_247 rfl (lv_at hl 3 rfl) ?_
        refine lv_bipush (v := 19) hx hb dX10_passes_248 rfl ?_
        refine lv_iadd hx hb dX10_passes_250 ?_
        obtain ⟨hv_19, hF⟩ := hF
        refine va_iald hx hb hK hP 1 0 rfl rfl hv_19 dX10_passes_251 ?_
        refine lv_goto (tgt := 256) hx hb dX10_passes_252 rfl ?_
        obtain ⟨hv_20, hF⟩ := hF
        refine va_iast hx hb hK hP hD hS 1 0 rfl rfl hv_20 dX10_passes_256 (fun H locs hP hD hS => ?_)
        have hP : va_P D classes [(h, .inr (10, ML w_1m0 Rf)), ((Rf 0), .inl (cI, 1302, .inl (upd (upd w_1m1 (((h_ + 20) + v_) : Int32).toNatClampNeg 3) (((h_ + 34) + v_) : Int32).toNatClampNeg ((upd w_1m1 (((h_ + 20) + v_) : Int32).toNatClampNeg 3) ((h_ + 19) : Int32).toNatClampNeg)))), ((Rf 10), .inl (cI, 30, .inl f10)), ((Rf 8), .inl (cI, 6, .inl f8)), ((Rf 11), .inl (cI, 7, .inl f11)), ((Rf 12), .inl (cI, 7, .inl f12))] H := hP
        have hD : va_D A [(h, .inr (10, ML w_1m0 Rf)), ((Rf 0), .inl (cI, 1302, .inl (upd (upd w_1m1 (((h_ + 20) + v_) : Int32).toNatClampNeg 3) (((h_ + 34) + v_) : Int32).toNatClampNeg ((upd w_1m1 (((h_ + 20) + v_) : Int32).toNatClampNeg 3) ((h_ + 19) : Int32).toNatClampNeg)))), ((Rf 10), .inl (cI, 30, .inl f10)), ((Rf 8), .inl (cI, 6, .inl f8)), ((Rf 11), .inl (cI, 7, .inl f11)), ((Rf 12), .inl (cI, 7, .inl f12))] := hD
        exact hret (w_1m0, (upd (upd w_1m1 (((h_ + 20) + v_) : Int32).toNatClampNeg 3) (((h_ + 34) + v_) : Int32).toNatClampNeg ((upd w_1m1 (((h_ + 20) + v_) : Int32).toNatClampNeg 3) ((h_ + 19) : Int32).toNatClampNeg))) _ _ _ _ dX10_passes_257 hE hP hD hS
  have lp_5_w_1 : ∀ (n_w_1 : Nat) (w_1l4 : Int32) (w_1l3 : Int32) (w_1m0 : (Nat → Int32)) (w_1m1 : (Nat → Int32)) (H : Heap) (locs : List Loc) (ls : Array Slot), va_P D classes [(h, .inr (10, ML w_1m0 Rf)), ((Rf 0), .inl (cI, 1302, .inl w_1m1)), ((Rf 10), .inl (cI, 30, .inl f10)), ((Rf 8), .inl (cI, 6, .inl f8)), ((Rf 11), .inl (cI, 7, .inl f11)), ((Rf 12), .inl (cI, 7, .inl f12))] H → va_D A [(h, .inr (10, ML w_1m0 Rf)), ((Rf 0), .inl (cI, 1302, .inl w_1m1)), ((Rf 10), .inl (cI, 30, .inl f10)), ((Rf 8), .inl (cI, 6, .inl f8)), ((Rf 11), .inl (cI, 7, .inl f11)), ((Rf 12), .inl (cI, 7, .inl f12))] → va_S A s.heap H locs → lv_has ls 6 [(4, .int w_1l4), (3, .int w_1l3), (0, .ref h), (1, .int h_), (2, .int v_)] → (S_m_passes_5 f10 f8 f11 h_ v_ (fun (w_1l4 : Int32) (w_1l3 : Int32) (w_1m0 : (Nat → Int32)) (w_1m1 : (Nat → Int32)) => ((w_1l3 = 0 → (vp_in ((h_ + 20) + v_) 1302 ∧ ((w_1l3 = 0 → (vp_in ((h_ + 34) + v_) 1302 ∧ True)) ∧ (¬ w_1l3 = 0 → (vp_in (h_ + 19) 1302 ∧ (vp_in ((h_ + 34) + v_) 1302 ∧ True)))))) ∧ (¬ w_1l3 = 0 → (vp_in (h_ + 19) 1302 ∧ (vp_in v_ 7 ∧ (((f12 (v_ : Int32).toNatClampNeg) < (w_1m1 ((h_ + 19) : Int32).toNatClampNeg) → (vp_in ((h_ + 20) + v_) 1302 ∧ ((w_1l3 = 0 → (vp_in ((h_ + 34) + v_) 1302 ∧ True)) ∧ (¬ w_1l3 = 0 → (vp_in (h_ + 19) 1302 ∧ (vp_in ((h_ + 34) + v_) 1302 ∧ True)))))) ∧ (¬ (f12 (v_ : Int32).toNatClampNeg) < (w_1m1 ((h_ + 19) : Int32).toNatClampNeg) → (vp_in ((h_ + 20) + v_) 1302 ∧ ((w_1l3 = 0 → (vp_in ((h_ + 34) + v_) 1302 ∧ True)) ∧ (¬ w_1l3 = 0 → (vp_in (h_ + 19) 1302 ∧ (vp_in ((h_ + 34) + v_) 1302 ∧ True)))))))))))) n_w_1 w_1l4 w_1l3 w_1m0 w_1m1) → ((match ((f_m_passes_5 f10 f8 f11 h_ v_ n_w_1 w_1l4 w_1l3 w_1m0 w_1m1) : Int32 × Int32 × (Nat → Int32) × (Nat → Int32)) with | (w_1l4, w_1l3, w_1m0, w_1m1) => (if w_1l3 = 0 then (if w_1l3 = 0 then (w_1m0, (upd (upd w_1m1 (((h_ + 20) + v_) : Int32).toNatClampNeg 3) (((h_ + 34) + v_) : Int32).toNatClampNeg (-1))) else (w_1m0, (upd (upd w_1m1 (((h_ + 20) + v_) : Int32).toNatClampNeg 3) (((h_ + 34) + v_) : Int32).toNatClampNeg ((upd w_1m1 (((h_ + 20) + v_) : Int32).toNatClampNeg 3) ((h_ + 19) : Int32).toNatClampNeg)))) else (if (f12 (v_ : Int32).toNatClampNeg) < (w_1m1 ((h_ + 19) : Int32).toNatClampNeg) then (if w_1l3 = 0 then (w_1m0, (upd (upd w_1m1 (((h_ + 20) + v_) : Int32).toNatClampNeg 2) (((h_ + 34) + v_) : Int32).toNatClampNeg (-1))) else (w_1m0, (upd (upd w_1m1 (((h_ + 20) + v_) : Int32).toNatClampNeg 2) (((h_ + 34) + v_) : Int32).toNatClampNeg ((upd w_1m1 (((h_ + 20) + v_) : Int32).toNatClampNeg 2) ((h_ + 19) : Int32).toNatClampNeg)))) else (if w_1l3 = 0 then (w_1m0, (upd (upd w_1m1 (((h_ + 20) + v_) : Int32).toNatClampNeg 1) (((h_ + 34) + v_) : Int32).toNatClampNeg (-1))) else (w_1m0, (upd (upd w_1m1 (((h_ + 20) + v_) : Int32).toNatClampNeg 1) (((h_ + 34) + v_) : Int32).toNatClampNeg ((upd w_1m1 (((h_ + 20) + v_) : Int32).toNatClampNeg 1) ((h_ + 19) : Int32).toNatClampNeg))))))) : (Nat → Int32) × (Nat → Int32)) = RES → W p l e rm_m_passes s m args below meth c H locs 0 0 Q (F0 m 5 ls []) := by
    intro n_w_1
    induction n_w_1 with
    | zero => intro w_1l4 w_1l3 w_1m0 w_1m1 H locs ls hP hD hS hl hF hE; exact False.elim hF
    | succ n_w_1 ih_w_1 =>
      intro w_1l4 w_1l3 w_1m0 w_1m1 H locs ls hP hD hS hl hF hE
      rw [S_m_passes_5_s] at hF
      rw [f_m_passes_5_s] at hE
      refine lv_iload hx hb dX10_passes_5 (lv_at hl 0 rfl) ?_
      refine lv_aload_n hx hb dX10_passes_7 rfl (lv_at hl 2 rfl) ?_
      refine va_get (D := D) (ci := 10) (v := .ref (Rf 11)) (C := RX10) (T := TX10) (N := 45) hx hb hts iX10 hown hK hP 0 rfl rfl 11 (Nat.le_of_ble_eq_true rfl) (hts _ wd_593) (fun _ h9 => h9) rfl dX10_passes_8 ?_
      refine lv_iload_n hx hb dX10_passes_11 rfl (lv_at hl 4 rfl) ?_
      obtain ⟨hv_21, hF⟩ := hF
      refine va_iald hx hb hK hP 4 0 rfl rfl hv_21 dX10_passes_12 ?_
      refine lv_icmp_gt (tgt := 187) hx hb dX10_passes_13 rfl (fun c_22 => ?_) (fun c_22 => ?_)
      · replace hF := hF.1 c_22
        rw [if_pos c_22] at hE
        exact ex_5_w_1 w_1l4 w_1l3 w_1m0 w_1m1 _ _ ls hP hD hS (lv_sub hl [0, 1, 2, 3, 4] rfl) hF hE
      · replace hF := hF.2 c_22
        rw [if_neg c_22] at hE
        refine lv_iload_n hx hb dX10_passes_16 rfl (lv_at hl 1 rfl) ?_
        refine lv_if_eq (tgt := 187) hx hb dX10_passes_17 rfl (fun c_23 => ?_) (fun c_23 => ?_)
        · replace hF := hF.1 c_23
          rw [if_pos c_23] at hE
          exact ex_5_w_1 w_1l4 w_1l3 w_1m0 w_1m1 _ _ ls hP hD hS (lv_sub hl [0, 1, 2, 3, 4] rfl) hF hE
        · replace hF := hF.2 c_23
          rw [if_neg c_23] at hE
          refine lv_aload_n hx hb dX10_passes_20 rfl (lv_at hl 2 rfl) ?_
          refine lv_iload_n hx hb dX10_passes_21 rfl (lv_at hl 3 rfl) ?_
          refine lv_iload hx hb dX10_passes_22 (lv_at hl 0 rfl) ?_
          obtain ⟨hs_24, hF⟩ := hF
          refine cVi (wr := [((Rf 10), .inl (cI, 30, .inl f10)), ((Rf 8), .inl (cI, 6, .inl f8)), ((Rf 11), .inl (cI, 7, .inl f11)), ((Rf 12), .inl (cI, 7, .inl f12))]) (rest := []) (m_whoIsAt Rf h w_1m0 w_1m1 h_ w_1l4 hs_24) okV_X10_whoIsAt wd_575 hx hb hml hown hts hK hP hD hS hA hN hl.1 [0, 1] [2, 3, 4, 5] rfl rfl rfl rfl (of_decide_eq_true rfl) rfl rfl rfl (Nat.le_of_ble_eq_true rfl) (Nat.le_of_ble_eq_true rfl) (Nat.le_of_ble_eq_true rfl) (Nat.le_of_ble_eq_true rfl) (Nat.le_of_ble_eq_true rfl) dX10_passes_24 (fun r_26 u_25 H locs hw_u_25 hP hD hS => ?_)
          replace hw_u_25 : r_26 = (f_m_whoIsAt w_1m0 w_1m1 h_ w_1l4) := hw_u_25
          rw [hw_u_25]
          clear hw_u_25
          have hP : va_P D classes [((Rf 10), .inl (cI, 30, .inl f10)), ((Rf 8), .inl (cI, 6, .inl f8)), ((Rf 11), .inl (cI, 7, .inl f11)), ((Rf 12), .inl (cI, 7, .inl f12)), (h, .inr (10, ML w_1m0 Rf)), ((Rf 0), .inl (cI, 1302, .inl w_1m1))] H := hP
          have hD : va_D A [((Rf 10), .inl (cI, 30, .inl f10)), ((Rf 8), .inl (cI, 6, .inl f8)), ((Rf 11), .inl (cI, 7, .inl f11)), ((Rf 12), .inl (cI, 7, .inl f12)), (h, .inr (10, ML w_1m0 Rf)), ((Rf 0), .inl (cI, 1302, .inl w_1m1))] := hD
          refine lv_istore (lv' := [(5, .int (f_m_whoIsAt w_1m0 w_1m1 h_ w_1l4)), (4, .int w_1l4), (3, .int w_1l3), (0, .ref h), (1, .int h_), (2, .int v_)]) hx hb dX10_passes_27 hl (Nat.le_of_ble_eq_true rfl) rfl (fun ls hl => ?_)
          refine lv_iload hx hb dX10_passes_29 (lv_at hl 0 rfl) ?_
          refine lv_iconst (v := (-1)) hx hb dX10_passes_31 rfl ?_
          refine lv_icmp_eq (tgt := 39) hx hb dX10_passes_32 rfl (fun c_27 => ?_) (fun c_27 => ?_)
          · replace hF := hF.1 c_27
            rw [if_pos c_27] at hE
            refine lv_iconst (v := 0) hx hb dX10_passes_39 rfl ?_
            refine lv_istore_n (lv' := [(3, .int 0), (5, .int (f_m_whoIsAt w_1m0 w_1m1 h_ w_1l4)), (4, .int w_1l4), (0, .ref h), (1, .int h_), (2, .int v_)]) hx hb dX10_passes_40 rfl hl (Nat.le_of_ble_eq_true rfl) rfl (fun ls hl => ?_)
            refine lv_iload_n hx hb dX10_passes_41 rfl (lv_at hl 0 rfl) ?_
            refine lv_if_eq (tgt := 160) hx hb dX10_passes_42 rfl (fun c_28 => ?_) (fun c_28 => absurd (by decide +kernel) c_28)
            refine lv_aload_n hx hb dX10_passes_160 rfl (lv_at hl 3 rfl) ?_
            refine va_get (D := D) (ci := 10) (v := .ref (Rf 0)) (C := RX10) (T := TX10) (N := 45) hx hb hts iX10 hown hK hP 4 rfl rfl 0 (Nat.le_of_ble_eq_true rfl) (hts _ wd_491) (fun _ h9 => h9) rfl dX10_passes_161 ?_
            refine lv_iload_n hx hb dX10_passes_164 rfl (lv_at hl 4 rfl) ?_
            refine lv_bipush (v := 27) hx hb dX10_passes_165 rfl ?_
            refine lv_iadd hx hb dX10_passes_167 ?_
            refine lv_iload_n hx hb dX10_passes_168 rfl (lv_at hl 5 rfl) ?_
            refine lv_iadd hx hb dX10_passes_169 ?_
            refine lv_iload_n hx hb dX10_passes_170 rfl (lv_at hl 0 rfl) ?_
            refine lv_if_eq (tgt := 178) hx hb dX10_passes_171 rfl (fun c_29 => ?_) (fun c_29 => absurd (by decide +kernel) c_29)
            refine lv_iload hx hb dX10_passes_178 (lv_at hl 2 rfl) ?_
            obtain ⟨hv_30, hF⟩ := hF
            refine va_iast hx hb hK hP hD hS 5 0 rfl rfl hv_30 dX10_passes_180 (fun H locs hP hD hS => ?_)
            have hP : va_P D classes [((Rf 10), .inl (cI, 30, .inl f10)), ((Rf 8), .inl (cI, 6, .inl f8)), ((Rf 11), .inl (cI, 7, .inl f11)), ((Rf 12), .inl (cI, 7, .inl f12)), (h, .inr (10, ML w_1m0 Rf)), ((Rf 0), .inl (cI, 1302, .inl (upd w_1m1 (((h_ + 27) + v_) : Int32).toNatClampNeg w_1l4)))] H := hP
            have hD : va_D A [((Rf 10), .inl (cI, 30, .inl f10)), ((Rf 8), .inl (cI, 6, .inl f8)), ((Rf 11), .inl (cI, 7, .inl f11)), ((Rf 12), .inl (cI, 7, .inl f12)), (h, .inr (10, ML w_1m0 Rf)), ((Rf 0), .inl (cI, 1302, .inl (upd w_1m1 (((h_ + 27) + v_) : Int32).toNatClampNeg w_1l4)))] := hD
            refine lv_iinc (v := (w_1l4 + 1)) (lv' := [(4, .int (w_1l4 + 1)), (3, .int 0), (5, .int (f_m_whoIsAt w_1m0 w_1m1 h_ w_1l4)), (0, .ref h), (1, .int h_), (2, .int v_)]) hx hb dX10_passes_181 hl (k := 2) rfl rfl (Nat.le_of_ble_eq_true rfl) rfl (fun ls hl => ?_)
            refine lv_goto (tgt := 5) hx hb dX10_passes_184 rfl ?_
            exact ih_w_1 (w_1l4 + 1) 0 w_1m0 (upd w_1m1 (((h_ + 27) + v_) : Int32).toNatClampNeg w_1l4) _ _ ls (cutP (isC := [4, 5, 0, 1, 2, 3]) hP rfl) (cutD (isC := [4, 5, 0, 1, 2, 3]) hD rfl rfl) hS (lv_sub hl [0, 1, 3, 4, 5] rfl) hF hE
          · replace hF := hF.2 c_27
            rw [if_neg c_27] at hE
            refine lv_iconst (v := 1) hx hb dX10_passes_35 rfl ?_
            refine lv_goto (tgt := 40) hx hb dX10_passes_36 rfl ?_
            refine lv_istore_n (lv' := [(3, .int 1), (5, .int (f_m_whoIsAt w_1m0 w_1m1 h_ w_1l4)), (4, .int w_1l4), (0, .ref h), (1, .int h_), (2, .int v_)]) hx hb dX10_passes_40 rfl hl (Nat.le_of_ble_eq_true rfl) rfl (fun ls hl => ?_)
            refine lv_iload_n hx hb dX10_passes_41 rfl (lv_at hl 0 rfl) ?_
            refine lv_if_eq (tgt := 160) hx hb dX10_passes_42 rfl (fun c_31 => absurd c_31 (by decide +kernel)) (fun c_31 => ?_)
            refine lv_aload_n hx hb dX10_passes_45 rfl (lv_at hl 3 rfl) ?_
            refine lv_iload hx hb dX10_passes_46 (lv_at hl 1 rfl) ?_
            refine lv_aload_n hx hb dX10_passes_48 rfl (lv_at hl 3 rfl) ?_
            refine va_get (D := D) (ci := 10) (v := .ref (Rf 0)) (C := RX10) (T := TX10) (N := 45) hx hb hts iX10 hown hK hP 4 rfl rfl 0 (Nat.le_of_ble_eq_true rfl) (hts _ wd_491) (fun _ h9 => h9) rfl dX10_passes_49 ?_
            refine lv_iload_n hx hb dX10_passes_52 rfl (lv_at hl 4 rfl) ?_
            refine lv_bipush (v := 12) hx hb dX10_passes_53 rfl ?_
            refine lv_iadd hx hb dX10_passes_55 ?_
            refine lv_iload hx hb dX10_passes_56 (lv_at hl 1 rfl) ?_
            refine lv_iadd hx hb dX10_passes_58 ?_
            obtain ⟨hv_32, hF⟩ := hF
            refine va_iald hx hb hK hP 5 0 rfl rfl hv_32 dX10_passes_59 ?_
            refine lv_aload_n hx hb dX10_passes_60 rfl (lv_at hl 3 rfl) ?_
            refine va_get (D := D) (ci := 10) (v := .ref (Rf 0)) (C := RX10) (T := TX10) (N := 45) hx hb hts iX10 hown hK hP 4 rfl rfl 0 (Nat.le_of_ble_eq_true rfl) (hts _ wd_491) (fun _ h9 => h9) rfl dX10_passes_61 ?_
            refine lv_iload_n hx hb dX10_passes_64 rfl (lv_at hl 4 rfl) ?_
            refine lv_iconst (v := 0) hx hb dX10_passes_65 rfl ?_
            refine lv_iadd hx hb dX10_passes_66 ?_
            refine lv_iload hx hb dX10_passes_67 (lv_at hl 1 rfl) ?_
            refine lv_iadd hx hb dX10_passes_69 ?_
            obtain ⟨hv_33, hF⟩ := hF
            refine va_iald hx hb hK hP 5 0 rfl rfl hv_33 dX10_passes_70 ?_
            refine lv_aload_n hx hb dX10_passes_71 rfl (lv_at hl 3 rfl) ?_
            refine va_get (D := D) (ci := 10) (v := .ref (Rf 8)) (C := RX10) (T := TX10) (N := 45) hx hb hts iX10 hown hK hP 4 rfl rfl 8 (Nat.le_of_ble_eq_true rfl) (hts _ wd_579) (fun _ h9 => h9) rfl dX10_passes_72 ?_
            refine lv_iload hx hb dX10_passes_75 (lv_at hl 2 rfl) ?_
            obtain ⟨hv_34, hF⟩ := hF
            refine va_iald hx hb hK hP 1 0 rfl rfl hv_34 dX10_passes_77 ?_
            obtain ⟨hs_35, hF⟩ := hF
            refine cVv (wr := [((Rf 8), .inl (cI, 6, .inl f8)), ((Rf 11), .inl (cI, 7, .inl f11)), ((Rf 12), .inl (cI, 7, .inl f12)), ((Rf 0), .inl (cI, 1302, .inl w_1m1))]) (rest := []) (m_quarrels Rf h w_1m0 f10 (f_m_whoIsAt w_1m0 w_1m1 h_ w_1l4) (w_1m1 (((h_ + 12) + (f_m_whoIsAt w_1m0 w_1m1 h_ w_1l4)) : Int32).toNatClampNeg) (w_1m1 (((h_ + 0) + (f_m_whoIsAt w_1m0 w_1m1 h_ w_1l4)) : Int32).toNatClampNeg) (f8 (w_1l4 : Int32).toNatClampNeg) hs_35) okV_X10_quarrels wd_643 hx hb hml hown hts hK hP hD hS hA hN hl.1 [4, 0] [1, 2, 3, 5] rfl rfl rfl rfl (of_decide_eq_true rfl) rfl rfl rfl (Nat.le_of_ble_eq_true rfl) (Nat.le_of_ble_eq_true rfl) (Nat.le_of_ble_eq_true rfl) (Nat.le_of_ble_eq_true rfl) (Nat.le_of_ble_eq_true rfl) dX10_passes_78 (fun u_36 H locs hw_u_36 hP hD hS => ?_)
            replace hw_u_36 : u_36 = (f_m_quarrels w_1m0 f10 (f_m_whoIsAt w_1m0 w_1m1 h_ w_1l4) (w_1m1 (((h_ + 12) + (f_m_whoIsAt w_1m0 w_1m1 h_ w_1l4)) : Int32).toNatClampNeg) (w_1m1 (((h_ + 0) + (f_m_whoIsAt w_1m0 w_1m1 h_ w_1l4)) : Int32).toNatClampNeg) (f8 (w_1l4 : Int32).toNatClampNeg)) := hw_u_36
            subst hw_u_36
            have hP : va_P D classes [((Rf 8), .inl (cI, 6, .inl f8)), ((Rf 11), .inl (cI, 7, .inl f11)), ((Rf 12), .inl (cI, 7, .inl f12)), ((Rf 0), .inl (cI, 1302, .inl w_1m1)), (h, .inr (10, ML (f_m_quarrels w_1m0 f10 (f_m_whoIsAt w_1m0 w_1m1 h_ w_1l4) (w_1m1 (((h_ + 12) + (f_m_whoIsAt w_1m0 w_1m1 h_ w_1l4)) : Int32).toNatClampNeg) (w_1m1 (((h_ + 0) + (f_m_whoIsAt w_1m0 w_1m1 h_ w_1l4)) : Int32).toNatClampNeg) (f8 (w_1l4 : Int32).toNatClampNeg)) Rf)), ((Rf 10), .inl (cI, 30, .inl f10))] H := hP
            have hD : va_D A [((Rf 8), .inl (cI, 6, .inl f8)), ((Rf 11), .inl (cI, 7, .inl f11)), ((Rf 12), .inl (cI, 7, .inl f12)), ((Rf 0), .inl (cI, 1302, .inl w_1m1)), (h, .inr (10, ML (f_m_quarrels w_1m0 f10 (f_m_whoIsAt w_1m0 w_1m1 h_ w_1l4) (w_1m1 (((h_ + 12) + (f_m_whoIsAt w_1m0 w_1m1 h_ w_1l4)) : Int32).toNatClampNeg) (w_1m1 (((h_ + 0) + (f_m_whoIsAt w_1m0 w_1m1 h_ w_1l4)) : Int32).toNatClampNeg) (f8 (w_1l4 : Int32).toNatClampNeg)) Rf)), ((Rf 10), .inl (cI, 30, .inl f10))] := hD
            refine lv_aload_n hx hb dX10_passes_81 rfl (lv_at hl 3 rfl) ?_
            refine va_get (D := D) (ci := 10) (v := .ref (Rf 0)) (C := RX10) (T := TX10) (N := 45) hx hb hts iX10 hown hK hP 4 rfl rfl 0 (Nat.le_of_ble_eq_true rfl) (hts _ wd_491) (fun _ h9 => h9) rfl dX10_passes_82 ?_
            refine lv_iload_n hx hb dX10_passes_85 rfl (lv_at hl 4 rfl) ?_
            refine lv_bipush (v := 19) hx hb dX10_passes_86 rfl ?_
            refine lv_iadd hx hb dX10_passes_88 ?_
            refine lv_dup2_11 hx hb dX10_passes_89 rfl rfl ?_
            obtain ⟨hv_38, hF⟩ := hF
            refine va_iald hx hb hK hP 3 0 rfl rfl hv_38 dX10_passes_90 ?_
            refine lv_aload_n hx hb dX10_passes_91 rfl (lv_at hl 3 rfl) ?_
            refine va_get (D := D) (ci := 10) (v := .int ((f_m_quarrels w_1m0 f10 (f_m_whoIsAt w_1m0 w_1m1 h_ w_1l4) (w_1m1 (((h_ + 12) + (f_m_whoIsAt w_1m0 w_1m1 h_ w_1l4)) : Int32).toNatClampNeg) (w_1m1 (((h_ + 0) + (f_m_whoIsAt w_1m0 w_1m1 h_ w_1l4)) : Int32).toNatClampNeg) (f8 (w_1l4 : Int32).toNatClampNeg)) 32)) (C := RX10) (T := TX10) (N := 45) hx hb hts iX10 hown hK hP 4 rfl rfl 32 (Nat.le_of_ble_eq_true rfl) (hts _ wd_549) (fun _ h9 => h9) rfl dX10_passes_92 ?_
            refine lv_iadd hx hb dX10_passes_95 ?_
            obtain ⟨hv_39, hF⟩ := hF
            refine va_iast hx hb hK hP hD hS 3 0 rfl rfl hv_39 dX10_passes_96 (fun H locs hP hD hS => ?_)
            have hP : va_P D classes [((Rf 8), .inl (cI, 6, .inl f8)), ((Rf 11), .inl (cI, 7, .inl f11)), ((Rf 12), .inl (cI, 7, .inl f12)), ((Rf 0), .inl (cI, 1302, .inl (upd w_1m1 ((h_ + 19) : Int32).toNatClampNeg ((w_1m1 ((h_ + 19) : Int32).toNatClampNeg) + ((f_m_quarrels w_1m0 f10 (f_m_whoIsAt w_1m0 w_1m1 h_ w_1l4) (w_1m1 (((h_ + 12) + (f_m_whoIsAt w_1m0 w_1m1 h_ w_1l4)) : Int32).toNatClampNeg) (w_1m1 (((h_ + 0) + (f_m_whoIsAt w_1m0 w_1m1 h_ w_1l4)) : Int32).toNatClampNeg) (f8 (w_1l4 : Int32).toNatClampNeg)) 32))))), (h, .inr (10, ML (f_m_quarrels w_1m0 f10 (f_m_whoIsAt w_1m0 w_1m1 h_ w_1l4) (w_1m1 (((h_ + 12) + (f_m_whoIsAt w_1m0 w_1m1 h_ w_1l4)) : Int32).toNatClampNeg) (w_1m1 (((h_ + 0) + (f_m_whoIsAt w_1m0 w_1m1 h_ w_1l4)) : Int32).toNatClampNeg) (f8 (w_1l4 : Int32).toNatClampNeg)) Rf)), ((Rf 10), .inl (cI, 30, .inl f10))] H := hP
            have hD : va_D A [((Rf 8), .inl (cI, 6, .inl f8)), ((Rf 11), .inl (cI, 7, .inl f11)), ((Rf 12), .inl (cI, 7, .inl f12)), ((Rf 0), .inl (cI, 1302, .inl (upd w_1m1 ((h_ + 19) : Int32).toNatClampNeg ((w_1m1 ((h_ + 19) : Int32).toNatClampNeg) + ((f_m_quarrels w_1m0 f10 (f_m_whoIsAt w_1m0 w_1m1 h_ w_1l4) (w_1m1 (((h_ + 12) + (f_m_whoIsAt w_1m0 w_1m1 h_ w_1l4)) : Int32).toNatClampNeg) (w_1m1 (((h_ + 0) + (f_m_whoIsAt w_1m0 w_1m1 h_ w_1l4)) : Int32).toNatClampNeg) (f8 (w_1l4 : Int32).toNatClampNeg)) 32))))), (h, .inr (10, ML (f_m_quarrels w_1m0 f10 (f_m_whoIsAt w_1m0 w_1m1 h_ w_1l4) (w_1m1 (((h_ + 12) + (f_m_whoIsAt w_1m0 w_1m1 h_ w_1l4)) : Int32).toNatClampNeg) (w_1m1 (((h_ + 0) + (f_m_whoIsAt w_1m0 w_1m1 h_ w_1l4)) : Int32).toNatClampNeg) (f8 (w_1l4 : Int32).toNatClampNeg)) Rf)), ((Rf 10), .inl (cI, 30, .inl f10))] := hD
            refine lv_aload_n hx hb dX10_passes_97 rfl (lv_at hl 3 rfl) ?_
            refine va_get (D := D) (ci := 10) (v := .ref (Rf 0)) (C := RX10) (T := TX10) (N := 45) hx hb hts iX10 hown hK hP 4 rfl rfl 0 (Nat.le_of_ble_eq_true rfl) (hts _ wd_491) (fun _ h9 => h9) rfl dX10_passes_98 ?_
            refine lv_iload_n hx hb dX10_passes_101 rfl (lv_at hl 4 rfl) ?_
            refine lv_iconst (v := 0) hx hb dX10_passes_102 rfl ?_
            refine lv_iadd hx hb dX10_passes_103 ?_
            refine lv_iload hx hb dX10_passes_104 (lv_at hl 1 rfl) ?_
            refine lv_iadd hx hb dX10_passes_106 ?_
            refine lv_aload_n hx hb dX10_passes_107 rfl (lv_at hl 3 rfl) ?_
            refine va_get (D := D) (ci := 10) (v := .int ((f_m_quarrels w_1m0 f10 (f_m_whoIsAt w_1m0 w_1m1 h_ w_1l4) (w_1m1 (((h_ + 12) + (f_m_whoIsAt w_1m0 w_1m1 h_ w_1l4)) : Int32).toNatClampNeg) (w_1m1 (((h_ + 0) + (f_m_whoIsAt w_1m0 w_1m1 h_ w_1l4)) : Int32).toNatClampNeg) (f8 (w_1l4 : Int32).toNatClampNeg)) 33)) (C := RX10) (T := TX10) (N := 45) hx hb hts iX10 hown hK hP 4 rfl rfl 33 (Nat.le_of_ble_eq_true rfl) (hts _ wd_550) (fun _ h9 => h9) rfl dX10_passes_108 ?_
            obtain ⟨hv_40, hF⟩ := hF
            refine va_iast hx hb hK hP hD hS 3 0 rfl rfl hv_40 dX10_passes_111 (fun H locs hP hD hS => ?_)
            have hP : va_P D classes [((Rf 8), .inl (cI, 6, .inl f8)), ((Rf 11), .inl (cI, 7, .inl f11)), ((Rf 12), .inl (cI, 7, .inl f12)), ((Rf 0), .inl (cI, 1302, .inl (upd (upd w_1m1 ((h_ + 19) : Int32).toNatClampNeg ((w_1m1 ((h_ + 19) : Int32).toNatClampNeg) + ((f_m_quarrels w_1m0 f10 (f_m_whoIsAt w_1m0 w_1m1 h_ w_1l4) (w_1m1 (((h_ + 12) + (f_m_whoIsAt w_1m0 w_1m1 h_ w_1l4)) : Int32).toNatClampNeg) (w_1m1 (((h_ + 0) + (f_m_whoIsAt w_1m0 w_1m1 h_ w_1l4)) : Int32).toNatClampNeg) (f8 (w_1l4 : Int32).toNatClampNeg)) 32))) (((h_ + 0) + (f_m_whoIsAt w_1m0 w_1m1 h_ w_1l4)) : Int32).toNatClampNeg ((f_m_quarrels w_1m0 f10 (f_m_whoIsAt w_1m0 w_1m1 h_ w_1l4) (w_1m1 (((h_ + 12) + (f_m_whoIsAt w_1m0 w_1m1 h_ w_1l4)) : Int32).toNatClampNeg) (w_1m1 (((h_ + 0) + (f_m_whoIsAt w_1m0 w_1m1 h_ w_1l4)) : Int32).toNatClampNeg) (f8 (w_1l4 : Int32).toNatClampNeg)) 33)))), (h, .inr (10, ML (f_m_quarrels w_1m0 f10 (f_m_whoIsAt w_1m0 w_1m1 h_ w_1l4) (w_1m1 (((h_ + 12) + (f_m_whoIsAt w_1m0 w_1m1 h_ w_1l4)) : Int32).toNatClampNeg) (w_1m1 (((h_ + 0) + (f_m_whoIsAt w_1m0 w_1m1 h_ w_1l4)) : Int32).toNatClampNeg) (f8 (w_1l4 : Int32).toNatClampNeg)) Rf)), ((Rf 10), .inl (cI, 30, .inl f10))] H := hP
            have hD : va_D A [((Rf 8), .inl (cI, 6, .inl f8)), ((Rf 11), .inl (cI, 7, .inl f11)), ((Rf 12), .inl (cI, 7, .inl f12)), ((Rf 0), .inl (cI, 1302, .inl (upd (upd w_1m1 ((h_ + 19) : Int32).toNatClampNeg ((w_1m1 ((h_ + 19) : Int32).toNatClampNeg) + ((f_m_quarrels w_1m0 f10 (f_m_whoIsAt w_1m0 w_1m1 h_ w_1l4) (w_1m1 (((h_ + 12) + (f_m_whoIsAt w_1m0 w_1m1 h_ w_1l4)) : Int32).toNatClampNeg) (w_1m1 (((h_ + 0) + (f_m_whoIsAt w_1m0 w_1m1 h_ w_1l4)) : Int32).toNatClampNeg) (f8 (w_1l4 : Int32).toNatClampNeg)) 32))) (((h_ + 0) + (f_m_whoIsAt w_1m0 w_1m1 h_ w_1l4)) : Int32).toNatClampNeg ((f_m_quarrels w_1m0 f10 (f_m_whoIsAt w_1m0 w_1m1 h_ w_1l4) (w_1m1 (((h_ + 12) + (f_m_whoIsAt w_1m0 w_1m1 h_ w_1l4)) : Int32).toNatClampNeg) (w_1m1 (((h_ + 0) + (f_m_whoIsAt w_1m0 w_1m1 h_ w_1l4)) : Int32).toNatClampNeg) (f8 (w_1l4 : Int32).toNatClampNeg)) 33)))), (h, .inr (10, ML (f_m_quarrels w_1m0 f10 (f_m_whoIsAt w_1m0 w_1m1 h_ w_1l4) (w_1m1 (((h_ + 12) + (f_m_whoIsAt w_1m0 w_1m1 h_ w_1l4)) : Int32).toNatClampNeg) (w_1m1 (((h_ + 0) + (f_m_whoIsAt w_1m0 w_1m1 h_ w_1l4)) : Int32).toNatClampNeg) (f8 (w_1l4 : Int32).toNatClampNeg)) Rf)), ((Rf 10), .inl (cI, 30, .inl f10))] := hD
            refine lv_aload_n hx hb dX10_passes_112 rfl (lv_at hl 3 rfl) ?_
            refine va_get (D := D) (ci := 10) (v := .int ((f_m_quarrels w_1m0 f10 (f_m_whoIsAt w_1m0 w_1m1 h_ w_1l4) (w_1m1 (((h_ + 12) + (f_m_whoIsAt w_1m0 w_1m1 h_ w_1l4)) : Int32).toNatClampNeg) (w_1m1 (((h_ + 0) + (f_m_whoIsAt w_1m0 w_1m1 h_ w_1l4)) : Int32).toNatClampNeg) (f8 (w_1l4 : Int32).toNatClampNeg)) 33)) (C := RX10) (T := TX10) (N := 45) hx hb hts iX10 hown hK hP 4 rfl rfl 33 (Nat.le_of_ble_eq_true rfl) (hts _ wd_550) (fun _ h9 => h9) rfl dX10_passes_113 ?_
            refine lv_if_ne (tgt := 155) hx hb dX10_passes_116 rfl (fun c_41 => ?_) (fun c_41 => ?_)
            · replace hF := hF.2 c_41
              rw [if_neg c_41] at hE
              refine lv_aload_n hx hb dX10_passes_155 rfl (lv_at hl 3 rfl) ?_
              refine va_get (D := D) (ci := 10) (v := .int ((f_m_quarrels w_1m0 f10 (f_m_whoIsAt w_1m0 w_1m1 h_ w_1l4) (w_1m1 (((h_ + 12) + (f_m_whoIsAt w_1m0 w_1m1 h_ w_1l4)) : Int32).toNatClampNeg) (w_1m1 (((h_ + 0) + (f_m_whoIsAt w_1m0 w_1m1 h_ w_1l4)) : Int32).toNatClampNeg) (f8 (w_1l4 : Int32).toNatClampNeg)) 34)) (C := RX10) (T := TX10) (N := 45) hx hb hts iX10 hown hK hP 4 rfl rfl 34 (Nat.le_of_ble_eq_true rfl) (hts _ wd_555) (fun _ h9 => h9) rfl dX10_passes_156 ?_
              refine lv_istore_n (lv' := [(3, .int ((f_m_quarrels w_1m0 f10 (f_m_whoIsAt w_1m0 w_1m1 h_ w_1l4) (w_1m1 (((h_ + 12) + (f_m_whoIsAt w_1m0 w_1m1 h_ w_1l4)) : Int32).toNatClampNeg) (w_1m1 (((h_ + 0) + (f_m_whoIsAt w_1m0 w_1m1 h_ w_1l4)) : Int32).toNatClampNeg) (f8 (w_1l4 : Int32).toNatClampNeg)) 34)), (5, .int (f_m_whoIsAt w_1m0 w_1m1 h_ w_1l4)), (4, .int w_1l4), (0, .ref h), (1, .int h_), (2, .int v_)]) hx hb dX10_passes_159 rfl hl (Nat.le_of_ble_eq_true rfl) rfl (fun ls hl => ?_)
              refine lv_aload_n hx hb dX10_passes_160 rfl (lv_at hl 3 rfl) ?_
              refine va_get (D := D) (ci := 10) (v := .ref (Rf 0)) (C := RX10) (T := TX10) (N := 45) hx hb hts iX10 hown hK hP 4 rfl rfl 0 (Nat.le_of_ble_eq_true rfl) (hts _ wd_491) (fun _ h9 => h9) rfl dX10_passes_161 ?_
              refine lv_iload_n hx hb dX10_passes_164 rfl (lv_at hl 4 rfl) ?_
              refine lv_bipush (v := 27) hx hb dX10_passes_165 rfl ?_
              refine lv_iadd hx hb dX10_passes_167 ?_
              refine lv_iload_n hx hb dX10_passes_168 rfl (lv_at hl 5 rfl) ?_
              refine lv_iadd hx hb dX10_passes_169 ?_
              refine lv_iload_n hx hb dX10_passes_170 rfl (lv_at hl 0 rfl) ?_
              refine lv_if_eq (tgt := 178) hx hb dX10_passes_171 rfl (fun c_42 => ?_) (fun c_42 => ?_)
              · replace hF := hF.1 c_42
                rw [if_pos c_42] at hE
                refine lv_iload hx hb dX10_passes_178 (lv_at hl 2 rfl) ?_
                obtain ⟨hv_43, hF⟩ := hF
                refine va_iast hx hb hK hP hD hS 3 0 rfl rfl hv_43 dX10_passes_180 (fun H locs hP hD hS => ?_)
                have hP : va_P D classes [((Rf 8), .inl (cI, 6, .inl f8)), ((Rf 11), .inl (cI, 7, .inl f11)), ((Rf 12), .inl (cI, 7, .inl f12)), ((Rf 0), .inl (cI, 1302, .inl (upd (upd (upd w_1m1 ((h_ + 19) : Int32).toNatClampNeg ((w_1m1 ((h_ + 19) : Int32).toNatClampNeg) + ((f_m_quarrels w_1m0 f10 (f_m_whoIsAt w_1m0 w_1m1 h_ w_1l4) (w_1m1 (((h_ + 12) + (f_m_whoIsAt w_1m0 w_1m1 h_ w_1l4)) : Int32).toNatClampNeg) (w_1m1 (((h_ + 0) + (f_m_whoIsAt w_1m0 w_1m1 h_ w_1l4)) : Int32).toNatClampNeg) (f8 (w_1l4 : Int32).toNatClampNeg)) 32))) (((h_ + 0) + (f_m_whoIsAt w_1m0 w_1m1 h_ w_1l4)) : Int32).toNatClampNeg ((f_m_quarrels w_1m0 f10 (f_m_whoIsAt w_1m0 w_1m1 h_ w_1l4) (w_1m1 (((h_ + 12) + (f_m_whoIsAt w_1m0 w_1m1 h_ w_1l4)) : Int32).toNatClampNeg) (w_1m1 (((h_ + 0) + (f_m_whoIsAt w_1m0 w_1m1 h_ w_1l4)) : Int32).toNatClampNeg) (f8 (w_1l4 : Int32).toNatClampNeg)) 33)) (((h_ + 27) + v_) : Int32).toNatClampNeg w_1l4))), (h, .inr (10, ML (f_m_quarrels w_1m0 f10 (f_m_whoIsAt w_1m0 w_1m1 h_ w_1l4) (w_1m1 (((h_ + 12) + (f_m_whoIsAt w_1m0 w_1m1 h_ w_1l4)) : Int32).toNatClampNeg) (w_1m1 (((h_ + 0) + (f_m_whoIsAt w_1m0 w_1m1 h_ w_1l4)) : Int32).toNatClampNeg) (f8 (w_1l4 : Int32).toNatClampNeg)) Rf)), ((Rf 10), .inl (cI, 30, .inl f10))] H := hP
                have hD : va_D A [((Rf 8), .inl (cI, 6, .inl f8)), ((Rf 11), .inl (cI, 7, .inl f11)), ((Rf 12), .inl (cI, 7, .inl f12)), ((Rf 0), .inl (cI, 1302, .inl (upd (upd (upd w_1m1 ((h_ + 19) : Int32).toNatClampNeg ((w_1m1 ((h_ + 19) : Int32).toNatClampNeg) + ((f_m_quarrels w_1m0 f10 (f_m_whoIsAt w_1m0 w_1m1 h_ w_1l4) (w_1m1 (((h_ + 12) + (f_m_whoIsAt w_1m0 w_1m1 h_ w_1l4)) : Int32).toNatClampNeg) (w_1m1 (((h_ + 0) + (f_m_whoIsAt w_1m0 w_1m1 h_ w_1l4)) : Int32).toNatClampNeg) (f8 (w_1l4 : Int32).toNatClampNeg)) 32))) (((h_ + 0) + (f_m_whoIsAt w_1m0 w_1m1 h_ w_1l4)) : Int32).toNatClampNeg ((f_m_quarrels w_1m0 f10 (f_m_whoIsAt w_1m0 w_1m1 h_ w_1l4) (w_1m1 (((h_ + 12) + (f_m_whoIsAt w_1m0 w_1m1 h_ w_1l4)) : Int32).toNatClampNeg) (w_1m1 (((h_ + 0) + (f_m_whoIsAt w_1m0 w_1m1 h_ w_1l4)) : Int32).toNatClampNeg) (f8 (w_1l4 : Int32).toNatClampNeg)) 33)) (((h_ + 27) + v_) : Int32).toNatClampNeg w_1l4))), (h, .inr (10, ML (f_m_quarrels w_1m0 f10 (f_m_whoIsAt w_1m0 w_1m1 h_ w_1l4) (w_1m1 (((h_ + 12) + (f_m_whoIsAt w_1m0 w_1m1 h_ w_1l4)) : Int32).toNatClampNeg) (w_1m1 (((h_ + 0) + (f_m_whoIsAt w_1m0 w_1m1 h_ w_1l4)) : Int32).toNatClampNeg) (f8 (w_1l4 : Int32).toNatClampNeg)) Rf)), ((Rf 10), .inl (cI, 30, .inl f10))] := hD
                refine lv_iinc (v := (w_1l4 + 1)) (lv' := [(4, .int (w_1l4 + 1)), (3, .int ((f_m_quarrels w_1m0 f10 (f_m_whoIsAt w_1m0 w_1m1 h_ w_1l4) (w_1m1 (((h_ + 12) + (f_m_whoIsAt w_1m0 w_1m1 h_ w_1l4)) : Int32).toNatClampNeg) (w_1m1 (((h_ + 0) + (f_m_whoIsAt w_1m0 w_1m1 h_ w_1l4)) : Int32).toNatClampNeg) (f8 (w_1l4 : Int32).toNatClampNeg)) 34)), (5, .int (f_m_whoIsAt w_1m0 w_1m1 h_ w_1l4)), (0, .ref h), (1, .int h_), (2, .int v_)]) hx hb dX10_passes_181 hl (k := 2) rfl rfl (Nat.le_of_ble_eq_true rfl) rfl (fun ls hl => ?_)
                refine lv_goto (tgt := 5) hx hb dX10_passes_184 rfl ?_
                exact ih_w_1 (w_1l4 + 1) ((f_m_quarrels w_1m0 f10 (f_m_whoIsAt w_1m0 w_1m1 h_ w_1l4) (w_1m1 (((h_ + 12) + (f_m_whoIsAt w_1m0 w_1m1 h_ w_1l4)) : Int32).toNatClampNeg) (w_1m1 (((h_ + 0) + (f_m_whoIsAt w_1m0 w_1m1 h_ w_1l4)) : Int32).toNatClampNeg) (f8 (w_1l4 : Int32).toNatClampNeg)) 34) (f_m_quarrels w_1m0 f10 (f_m_whoIsAt w_1m0 w_1m1 h_ w_1l4) (w_1m1 (((h_ + 12) + (f_m_whoIsAt w_1m0 w_1m1 h_ w_1l4)) : Int32).toNatClampNeg) (w_1m1 (((h_ + 0) + (f_m_whoIsAt w_1m0 w_1m1 h_ w_1l4)) : Int32).toNatClampNeg) (f8 (w_1l4 : Int32).toNatClampNeg)) (upd (upd (upd w_1m1 ((h_ + 19) : Int32).toNatClampNeg ((w_1m1 ((h_ + 19) : Int32).toNatClampNeg) + ((f_m_quarrels w_1m0 f10 (f_m_whoIsAt w_1m0 w_1m1 h_ w_1l4) (w_1m1 (((h_ + 12) + (f_m_whoIsAt w_1m0 w_1m1 h_ w_1l4)) : Int32).toNatClampNeg) (w_1m1 (((h_ + 0) + (f_m_whoIsAt w_1m0 w_1m1 h_ w_1l4)) : Int32).toNatClampNeg) (f8 (w_1l4 : Int32).toNatClampNeg)) 32))) (((h_ + 0) + (f_m_whoIsAt w_1m0 w_1m1 h_ w_1l4)) : Int32).toNatClampNeg ((f_m_quarrels w_1m0 f10 (f_m_whoIsAt w_1m0 w_1m1 h_ w_1l4) (w_1m1 (((h_ + 12) + (f_m_whoIsAt w_1m0 w_1m1 h_ w_1l4)) : Int32).toNatClampNeg) (w_1m1 (((h_ + 0) + (f_m_whoIsAt w_1m0 w_1m1 h_ w_1l4)) : Int32).toNatClampNeg) (f8 (w_1l4 : Int32).toNatClampNeg)) 33)) (((h_ + 27) + v_) : Int32).toNatClampNeg w_1l4) _ _ ls (cutP (isC := [4, 3, 5, 0, 1, 2]) hP rfl) (cutD (isC := [4, 3, 5, 0, 1, 2]) hD rfl rfl) hS (lv_sub hl [0, 1, 3, 4, 5] rfl) hF hE
              · replace hF := hF.2 c_42
                rw [if_neg c_42] at hE
                refine lv_iconst (v := (-1)) hx hb dX10_passes_174 rfl ?_
                refine lv_goto (tgt := 180) hx hb dX10_passes_175 rfl ?_
                obtain ⟨hv_44, hF⟩ := hF
                refine va_iast hx hb hK hP hD hS 3 0 rfl rfl hv_44 dX10_passes_180 (fun H locs hP hD hS => ?_)
                have hP : va_P D classes [((Rf 8), .inl (cI, 6, .inl f8)), ((Rf 11), .inl (cI, 7, .inl f11)), ((Rf 12), .inl (cI, 7, .inl f12)), ((Rf 0), .inl (cI, 1302, .inl (upd (upd (upd w_1m1 ((h_ + 19) : Int32).toNatClampNeg ((w_1m1 ((h_ + 19) : Int32).toNatClampNeg) + ((f_m_quarrels w_1m0 f10 (f_m_whoIsAt w_1m0 w_1m1 h_ w_1l4) (w_1m1 (((h_ + 12) + (f_m_whoIsAt w_1m0 w_1m1 h_ w_1l4)) : Int32).toNatClampNeg) (w_1m1 (((h_ + 0) + (f_m_whoIsAt w_1m0 w_1m1 h_ w_1l4)) : Int32).toNatClampNeg) (f8 (w_1l4 : Int32).toNatClampNeg)) 32))) (((h_ + 0) + (f_m_whoIsAt w_1m0 w_1m1 h_ w_1l4)) : Int32).toNatClampNeg ((f_m_quarrels w_1m0 f10 (f_m_whoIsAt w_1m0 w_1m1 h_ w_1l4) (w_1m1 (((h_ + 12) + (f_m_whoIsAt w_1m0 w_1m1 h_ w_1l4)) : Int32).toNatClampNeg) (w_1m1 (((h_ + 0) + (f_m_whoIsAt w_1m0 w_1m1 h_ w_1l4)) : Int32).toNatClampNeg) (f8 (w_1l4 : Int32).toNatClampNeg)) 33)) (((h_ + 27) + v_) : Int32).toNatClampNeg (-1)))), (h, .inr (10, ML (f_m_quarrels w_1m0 f10 (f_m_whoIsAt w_1m0 w_1m1 h_ w_1l4) (w_1m1 (((h_ + 12) + (f_m_whoIsAt w_1m0 w_1m1 h_ w_1l4)) : Int32).toNatClampNeg) (w_1m1 (((h_ + 0) + (f_m_whoIsAt w_1m0 w_1m1 h_ w_1l4)) : Int32).toNatClampNeg) (f8 (w_1l4 : Int32).toNatClampNeg)) Rf)), ((Rf 10), .inl (cI, 30, .inl f10))] H := hP
                have hD : va_D A [((Rf 8), .inl (cI, 6, .inl f8)), ((Rf 11), .inl (cI, 7, .inl f11)), ((Rf 12), .inl (cI, 7, .inl f12)), ((Rf 0), .inl (cI, 1302, .inl (upd (upd (upd w_1m1 ((h_ + 19) : Int32).toNatClampNeg ((w_1m1 ((h_ + 19) : Int32).toNatClampNeg) + ((f_m_quarrels w_1m0 f10 (f_m_whoIsAt w_1m0 w_1m1 h_ w_1l4) (w_1m1 (((h_ + 12) + (f_m_whoIsAt w_1m0 w_1m1 h_ w_1l4)) : Int32).toNatClampNeg) (w_1m1 (((h_ + 0) + (f_m_whoIsAt w_1m0 w_1m1 h_ w_1l4)) : Int32).toNatClampNeg) (f8 (w_1l4 : Int32).toNatClampNeg)) 32))) (((h_ + 0) + (f_m_whoIsAt w_1m0 w_1m1 h_ w_1l4)) : Int32).toNatClampNeg ((f_m_quarrels w_1m0 f10 (f_m_whoIsAt w_1m0 w_1m1 h_ w_1l4) (w_1m1 (((h_ + 12) + (f_m_whoIsAt w_1m0 w_1m1 h_ w_1l4)) : Int32).toNatClampNeg) (w_1m1 (((h_ + 0) + (f_m_whoIsAt w_1m0 w_1m1 h_ w_1l4)) : Int32).toNatClampNeg) (f8 (w_1l4 : Int32).toNatClampNeg)) 33)) (((h_ + 27) + v_) : Int32).toNatClampNeg (-1)))), (h, .inr (10, ML (f_m_quarrels w_1m0 f10 (f_m_whoIsAt w_1m0 w_1m1 h_ w_1l4) (w_1m1 (((h_ + 12) + (f_m_whoIsAt w_1m0 w_1m1 h_ w_1l4)) : Int32).toNatClampNeg) (w_1m1 (((h_ + 0) + (f_m_whoIsAt w_1m0 w_1m1 h_ w_1l4)) : Int32).toNatClampNeg) (f8 (w_1l4 : Int32).toNatClampNeg)) Rf)), ((Rf 10), .inl (cI, 30, .inl f10))] := hD
                refine lv_iinc (v := (w_1l4 + 1)) (lv' := [(4, .int (w_1l4 + 1)), (3, .int ((f_m_quarrels w_1m0 f10 (f_m_whoIsAt w_1m0 w_1m1 h_ w_1l4) (w_1m1 (((h_ + 12) + (f_m_whoIsAt w_1m0 w_1m1 h_ w_1l4)) : Int32).toNatClampNeg) (w_1m1 (((h_ + 0) + (f_m_whoIsAt w_1m0 w_1m1 h_ w_1l4)) : Int32).toNatClampNeg) (f8 (w_1l4 : Int32).toNatClampNeg)) 34)), (5, .int (f_m_whoIsAt w_1m0 w_1m1 h_ w_1l4)), (0, .ref h), (1, .int h_), (2, .int v_)]) hx hb dX10_passes_181 hl (k := 2) rfl rfl (Nat.le_of_ble_eq_true rfl) rfl (fun ls hl => ?_)
                refine lv_goto (tgt := 5) hx hb dX10_passes_184 rfl ?_
                exact ih_w_1 (w_1l4 + 1) ((f_m_quarrels w_1m0 f10 (f_m_whoIsAt w_1m0 w_1m1 h_ w_1l4) (w_1m1 (((h_ + 12) + (f_m_whoIsAt w_1m0 w_1m1 h_ w_1l4)) : Int32).toNatClampNeg) (w_1m1 (((h_ + 0) + (f_m_whoIsAt w_1m0 w_1m1 h_ w_1l4)) : Int32).toNatClampNeg) (f8 (w_1l4 : Int32).toNatClampNeg)) 34) (f_m_quarrels w_1m0 f10 (f_m_whoIsAt w_1m0 w_1m1 h_ w_1l4) (w_1m1 (((h_ + 12) + (f_m_whoIsAt w_1m0 w_1m1 h_ w_1l4)) : Int32).toNatClampNeg) (w_1m1 (((h_ + 0) + (f_m_whoIsAt w_1m0 w_1m1 h_ w_1l4)) : Int32).toNatClampNeg) (f8 (w_1l4 : Int32).toNatClampNeg)) (upd (upd (upd w_1m1 ((h_ + 19) : Int32).toNatClampNeg ((w_1m1 ((h_ + 19) : Int32).toNatClampNeg) + ((f_m_quarrels w_1m0 f10 (f_m_whoIsAt w_1m0 w_1m1 h_ w_1l4) (w_1m1 (((h_ + 12) + (f_m_whoIsAt w_1m0 w_1m1 h_ w_1l4)) : Int32).toNatClampNeg) (w_1m1 (((h_ + 0) + (f_m_whoIsAt w_1m0 w_1m1 h_ w_1l4)) : Int32).toNatClampNeg) (f8 (w_1l4 : Int32).toNatClampNeg)) 32))) (((h_ + 0) + (f_m_whoIsAt w_1m0 w_1m1 h_ w_1l4)) : Int32).toNatClampNeg ((f_m_quarrels w_1m0 f10 (f_m_whoIsAt w_1m0 w_1m1 h_ w_1l4) (w_1m1 (((h_ + 12) + (f_m_whoIsAt w_1m0 w_1m1 h_ w_1l4)) : Int32).toNatClampNeg) (w_1m1 (((h_ + 0) + (f_m_whoIsAt w_1m0 w_1m1 h_ w_1l4)) : Int32).toNatClampNeg) (f8 (w_1l4 : Int32).toNatClampNeg)) 33)) (((h_ + 27) + v_) : Int32).toNatClampNeg (-1)) _ _ ls (cutP (isC := [4, 3, 5, 0, 1, 2]) hP rfl) (cutD (isC := [4, 3, 5, 0, 1, 2]) hD rfl rfl) hS (lv_sub hl [0, 1, 3, 4, 5] rfl) hF hE
            · replace hF := hF.1 c_41
              rw [if_pos c_41] at hE
              refine lv_aload_n hx hb dX10_passes_119 rfl (lv_at hl 3 rfl) ?_
              refine va_get (D := D) (ci := 10) (v := .int ((f_m_quarrels w_1m0 f10 (f_m_whoIsAt w_1m0 w_1m1 h_ w_1l4) (w_1m1 (((h_ + 12) + (f_m_whoIsAt w_1m0 w_1m1 h_ w_1l4)) : Int32).toNatClampNeg) (w_1m1 (((h_ + 0) + (f_m_whoIsAt w_1m0 w_1m1 h_ w_1l4)) : Int32).toNatClampNeg) (f8 (w_1l4 : Int32).toNatClampNeg)) 32)) (C := RX10) (T := TX10) (N := 45) hx hb hts iX10 hown hK hP 4 rfl rfl 32 (Nat.le_of_ble_eq_true rfl) (hts _ wd_549) (fun _ h9 => h9) rfl dX10_passes_120 ?_
              refine lv_if_le (tgt := 155) hx hb dX10_passes_123 rfl (fun c_45 => ?_) (fun c_45 => ?_)
              · replace hF := hF.1 c_45
                rw [if_pos c_45] at hE
                refine lv_aload_n hx hb dX10_passes_155 rfl (lv_at hl 3 rfl) ?_
                refine va_get (D := D) (ci := 10) (v := .int ((f_m_quarrels w_1m0 f10 (f_m_whoIsAt w_1m0 w_1m1 h_ w_1l4) (w_1m1 (((h_ + 12) + (f_m_whoIsAt w_1m0 w_1m1 h_ w_1l4)) : Int32).toNatClampNeg) (w_1m1 (((h_ + 0) + (f_m_whoIsAt w_1m0 w_1m1 h_ w_1l4)) : Int32).toNatClampNeg) (f8 (w_1l4 : Int32).toNatClampNeg)) 34)) (C := RX10) (T := TX10) (N := 45) hx hb hts iX10 hown hK hP 4 rfl rfl 34 (Nat.le_of_ble_eq_true rfl) (hts _ wd_555) (fun _ h9 => h9) rfl dX10_passes_156 ?_
                refine lv_istore_n (lv' := [(3, .int ((f_m_quarrels w_1m0 f10 (f_m_whoIsAt w_1m0 w_1m1 h_ w_1l4) (w_1m1 (((h_ + 12) + (f_m_whoIsAt w_1m0 w_1m1 h_ w_1l4)) : Int32).toNatClampNeg) (w_1m1 (((h_ + 0) + (f_m_whoIsAt w_1m0 w_1m1 h_ w_1l4)) : Int32).toNatClampNeg) (f8 (w_1l4 : Int32).toNatClampNeg)) 34)), (5, .int (f_m_whoIsAt w_1m0 w_1m1 h_ w_1l4)), (4, .int w_1l4), (0, .ref h), (1, .int h_), (2, .int v_)]) hx hb dX10_passes_159 rfl hl (Nat.le_of_ble_eq_true rfl) rfl (fun ls hl => ?_)
                refine lv_aload_n hx hb dX10_passes_160 rfl (lv_at hl 3 rfl) ?_
                refine va_get (D := D) (ci := 10) (v := .ref (Rf 0)) (C := RX10) (T := TX10) (N := 45) hx hb hts iX10 hown hK hP 4 rfl rfl 0 (Nat.le_of_ble_eq_true rfl) (hts _ wd_491) (fun _ h9 => h9) rfl dX10_passes_161 ?_
                refine lv_iload_n hx hb dX10_passes_164 rfl (lv_at hl 4 rfl) ?_
                refine lv_bipush (v := 27) hx hb dX10_passes_165 rfl ?_
                refine lv_iadd hx hb dX10_passes_167 ?_
                refine lv_iload_n hx hb dX10_passes_168 rfl (lv_at hl 5 rfl) ?_
                refine lv_iadd hx hb dX10_passes_169 ?_
                refine lv_iload_n hx hb dX10_passes_170 rfl (lv_at hl 0 rfl) ?_
                refine lv_if_eq (tgt := 178) hx hb dX10_passes_171 rfl (fun c_46 => ?_) (fun c_46 => ?_)
                · replace hF := hF.1 c_46
                  rw [if_pos c_46] at hE
                  refine lv_iload hx hb dX10_passes_178 (lv_at hl 2 rfl) ?_
                  obtain ⟨hv_47, hF⟩ := hF
                  refine va_iast hx hb hK hP hD hS 3 0 rfl rfl hv_47 dX10_passes_180 (fun H locs hP hD hS => ?_)
                  have hP : va_P D classes [((Rf 8), .inl (cI, 6, .inl f8)), ((Rf 11), .inl (cI, 7, .inl f11)), ((Rf 12), .inl (cI, 7, .inl f12)), ((Rf 0), .inl (cI, 1302, .inl (upd (upd (upd w_1m1 ((h_ + 19) : Int32).toNatClampNeg ((w_1m1 ((h_ + 19) : Int32).toNatClampNeg) + ((f_m_quarrels w_1m0 f10 (f_m_whoIsAt w_1m0 w_1m1 h_ w_1l4) (w_1m1 (((h_ + 12) + (f_m_whoIsAt w_1m0 w_1m1 h_ w_1l4)) : Int32).toNatClampNeg) (w_1m1 (((h_ + 0) + (f_m_whoIsAt w_1m0 w_1m1 h_ w_1l4)) : Int32).toNatClampNeg) (f8 (w_1l4 : Int32).toNatClampNeg)) 32))) (((h_ + 0) + (f_m_whoIsAt w_1m0 w_1m1 h_ w_1l4)) : Int32).toNatClampNeg ((f_m_quarrels w_1m0 f10 (f_m_whoIsAt w_1m0 w_1m1 h_ w_1l4) (w_1m1 (((h_ + 12) + (f_m_whoIsAt w_1m0 w_1m1 h_ w_1l4)) : Int32).toNatClampNeg) (w_1m1 (((h_ + 0) + (f_m_whoIsAt w_1m0 w_1m1 h_ w_1l4)) : Int32).toNatClampNeg) (f8 (w_1l4 : Int32).toNatClampNeg)) 33)) (((h_ + 27) + v_) : Int32).toNatClampNeg w_1l4))), (h, .inr (10, ML (f_m_quarrels w_1m0 f10 (f_m_whoIsAt w_1m0 w_1m1 h_ w_1l4) (w_1m1 (((h_ + 12) + (f_m_whoIsAt w_1m0 w_1m1 h_ w_1l4)) : Int32).toNatClampNeg) (w_1m1 (((h_ + 0) + (f_m_whoIsAt w_1m0 w_1m1 h_ w_1l4)) : Int32).toNatClampNeg) (f8 (w_1l4 : Int32).toNatClampNeg)) Rf)), ((Rf 10), .inl (cI, 30, .inl f10))] H := hP
                  have hD : va_D A [((Rf 8), .inl (cI, 6, .inl f8)), ((Rf 11), .inl (cI, 7, .inl f11)), ((Rf 12), .inl (cI, 7, .inl f12)), ((Rf 0), .inl (cI, 1302, .inl (upd (upd (upd w_1m1 ((h_ + 19) : Int32).toNatClampNeg ((w_1m1 ((h_ + 19) : Int32).toNatClampNeg) + ((f_m_quarrels w_1m0 f10 (f_m_whoIsAt w_1m0 w_1m1 h_ w_1l4) (w_1m1 (((h_ + 12) + (f_m_whoIsAt w_1m0 w_1m1 h_ w_1l4)) : Int32).toNatClampNeg) (w_1m1 (((h_ + 0) + (f_m_whoIsAt w_1m0 w_1m1 h_ w_1l4)) : Int32).toNatClampNeg) (f8 (w_1l4 : Int32).toNatClampNeg)) 32))) (((h_ + 0) + (f_m_whoIsAt w_1m0 w_1m1 h_ w_1l4)) : Int32).toNatClampNeg ((f_m_quarrels w_1m0 f10 (f_m_whoIsAt w_1m0 w_1m1 h_ w_1l4) (w_1m1 (((h_ + 12) + (f_m_whoIsAt w_1m0 w_1m1 h_ w_1l4)) : Int32).toNatClampNeg) (w_1m1 (((h_ + 0) + (f_m_whoIsAt w_1m0 w_1m1 h_ w_1l4)) : Int32).toNatClampNeg) (f8 (w_1l4 : Int32).toNatClampNeg)) 33)) (((h_ + 27) + v_) : Int32).toNatClampNeg w_1l4))), (h, .inr (10, ML (f_m_quarrels w_1m0 f10 (f_m_whoIsAt w_1m0 w_1m1 h_ w_1l4) (w_1m1 (((h_ + 12) + (f_m_whoIsAt w_1m0 w_1m1 h_ w_1l4)) : Int32).toNatClampNeg) (w_1m1 (((h_ + 0) + (f_m_whoIsAt w_1m0 w_1m1 h_ w_1l4)) : Int32).toNatClampNeg) (f8 (w_1l4 : Int32).toNatClampNeg)) Rf)), ((Rf 10), .inl (cI, 30, .inl f10))] := hD
                  refine lv_iinc (v := (w_1l4 + 1)) (lv' := [(4, .int (w_1l4 + 1)), (3, .int ((f_m_quarrels w_1m0 f10 (f_m_whoIsAt w_1m0 w_1m1 h_ w_1l4) (w_1m1 (((h_ + 12) + (f_m_whoIsAt w_1m0 w_1m1 h_ w_1l4)) : Int32).toNatClampNeg) (w_1m1 (((h_ + 0) + (f_m_whoIsAt w_1m0 w_1m1 h_ w_1l4)) : Int32).toNatClampNeg) (f8 (w_1l4 : Int32).toNatClampNeg)) 34)), (5, .int (f_m_whoIsAt w_1m0 w_1m1 h_ w_1l4)), (0, .ref h), (1, .int h_), (2, .int v_)]) hx hb dX10_passes_181 hl (k := 2) rfl rfl (Nat.le_of_ble_eq_true rfl) rfl (fun ls hl => ?_)
                  refine lv_goto (tgt := 5) hx hb dX10_passes_184 rfl ?_
                  exact ih_w_1 (w_1l4 + 1) ((f_m_quarrels w_1m0 f10 (f_m_whoIsAt w_1m0 w_1m1 h_ w_1l4) (w_1m1 (((h_ + 12) + (f_m_whoIsAt w_1m0 w_1m1 h_ w_1l4)) : Int32).toNatClampNeg) (w_1m1 (((h_ + 0) + (f_m_whoIsAt w_1m0 w_1m1 h_ w_1l4)) : Int32).toNatClampNeg) (f8 (w_1l4 : Int32).toNatClampNeg)) 34) (f_m_quarrels w_1m0 f10 (f_m_whoIsAt w_1m0 w_1m1 h_ w_1l4) (w_1m1 (((h_ + 12) + (f_m_whoIsAt w_1m0 w_1m1 h_ w_1l4)) : Int32).toNatClampNeg) (w_1m1 (((h_ + 0) + (f_m_whoIsAt w_1m0 w_1m1 h_ w_1l4)) : Int32).toNatClampNeg) (f8 (w_1l4 : Int32).toNatClampNeg)) (upd (upd (upd w_1m1 ((h_ + 19) : Int32).toNatClampNeg ((w_1m1 ((h_ + 19) : Int32).toNatClampNeg) + ((f_m_quarrels w_1m0 f10 (f_m_whoIsAt w_1m0 w_1m1 h_ w_1l4) (w_1m1 (((h_ + 12) + (f_m_whoIsAt w_1m0 w_1m1 h_ w_1l4)) : Int32).toNatClampNeg) (w_1m1 (((h_ + 0) + (f_m_whoIsAt w_1m0 w_1m1 h_ w_1l4)) : Int32).toNatClampNeg) (f8 (w_1l4 : Int32).toNatClampNeg)) 32))) (((h_ + 0) + (f_m_whoIsAt w_1m0 w_1m1 h_ w_1l4)) : Int32).toNatClampNeg ((f_m_quarrels w_1m0 f10 (f_m_whoIsAt w_1m0 w_1m1 h_ w_1l4) (w_1m1 (((h_ + 12) + (f_m_whoIsAt w_1m0 w_1m1 h_ w_1l4)) : Int32).toNatClampNeg) (w_1m1 (((h_ + 0) + (f_m_whoIsAt w_1m0 w_1m1 h_ w_1l4)) : Int32).toNatClampNeg) (f8 (w_1l4 : Int32).toNatClampNeg)) 33)) (((h_ + 27) + v_) : Int32).toNatClampNeg w_1l4) _ _ ls (cutP (isC := [4, 3, 5, 0, 1, 2]) hP rfl) (cutD (isC := [4, 3, 5, 0, 1, 2]) hD rfl rfl) hS (lv_sub hl [0, 1, 3, 4, 5] rfl) hF hE
                · replace hF := hF.2 c_46
                  rw [if_neg c_46] at hE
                  refine lv_iconst (v := (-1)) hx hb dX10_passes_174 rfl ?_
                  refine lv_goto (tgt := 180) hx hb dX10_passes_175 rfl ?_
                  obtain ⟨hv_48, hF⟩ := hF
                  refine va_iast hx hb hK hP hD hS 3 0 rfl rfl hv_48 dX10_passes_180 (fun H locs hP hD hS => ?_)
                  have hP : va_P D classes [((Rf 8), .inl (cI, 6, .inl f8)), ((Rf 11), .inl (cI, 7, .inl f11)), ((Rf 12), .inl (cI, 7, .inl f12)), ((Rf 0), .inl (cI, 1302, .inl (upd (upd (upd w_1m1 ((h_ + 19) : Int32).toNatClampNeg ((w_1m1 ((h_ + 19) : Int32).toNatClampNeg) + ((f_m_quarrels w_1m0 f10 (f_m_whoIsAt w_1m0 w_1m1 h_ w_1l4) (w_1m1 (((h_ + 12) + (f_m_whoIsAt w_1m0 w_1m1 h_ w_1l4)) : Int32).toNatClampNeg) (w_1m1 (((h_ + 0) + (f_m_whoIsAt w_1m0 w_1m1 h_ w_1l4)) : Int32).toNatClampNeg) (f8 (w_1l4 : Int32).toNatClampNeg)) 32))) (((h_ + 0) + (f_m_whoIsAt w_1m0 w_1m1 h_ w_1l4)) : Int32).toNatClampNeg ((f_m_quarrels w_1m0 f10 (f_m_whoIsAt w_1m0 w_1m1 h_ w_1l4) (w_1m1 (((h_ + 12) + (f_m_whoIsAt w_1m0 w_1m1 h_ w_1l4)) : Int32).toNatClampNeg) (w_1m1 (((h_ + 0) + (f_m_whoIsAt w_1m0 w_1m1 h_ w_1l4)) : Int32).toNatClampNeg) (f8 (w_1l4 : Int32).toNatClampNeg)) 33)) (((h_ + 27) + v_) : Int32).toNatClampNeg (-1)))), (h, .inr (10, ML (f_m_quarrels w_1m0 f10 (f_m_whoIsAt w_1m0 w_1m1 h_ w_1l4) (w_1m1 (((h_ + 12) + (f_m_whoIsAt w_1m0 w_1m1 h_ w_1l4)) : Int32).toNatClampNeg) (w_1m1 (((h_ + 0) + (f_m_whoIsAt w_1m0 w_1m1 h_ w_1l4)) : Int32).toNatClampNeg) (f8 (w_1l4 : Int32).toNatClampNeg)) Rf)), ((Rf 10), .inl (cI, 30, .inl f10))] H := hP
                  have hD : va_D A [((Rf 8), .inl (cI, 6, .inl f8)), ((Rf 11), .inl (cI, 7, .inl f11)), ((Rf 12), .inl (cI, 7, .inl f12)), ((Rf 0), .inl (cI, 1302, .inl (upd (upd (upd w_1m1 ((h_ + 19) : Int32).toNatClampNeg ((w_1m1 ((h_ + 19) : Int32).toNatClampNeg) + ((f_m_quarrels w_1m0 f10 (f_m_whoIsAt w_1m0 w_1m1 h_ w_1l4) (w_1m1 (((h_ + 12) + (f_m_whoIsAt w_1m0 w_1m1 h_ w_1l4)) : Int32).toNatClampNeg) (w_1m1 (((h_ + 0) + (f_m_whoIsAt w_1m0 w_1m1 h_ w_1l4)) : Int32).toNatClampNeg) (f8 (w_1l4 : Int32).toNatClampNeg)) 32))) (((h_ + 0) + (f_m_whoIsAt w_1m0 w_1m1 h_ w_1l4)) : Int32).toNatClampNeg ((f_m_quarrels w_1m0 f10 (f_m_whoIsAt w_1m0 w_1m1 h_ w_1l4) (w_1m1 (((h_ + 12) + (f_m_whoIsAt w_1m0 w_1m1 h_ w_1l4)) : Int32).toNatClampNeg) (w_1m1 (((h_ + 0) + (f_m_whoIsAt w_1m0 w_1m1 h_ w_1l4)) : Int32).toNatClampNeg) (f8 (w_1l4 : Int32).toNatClampNeg)) 33)) (((h_ + 27) + v_) : Int32).toNatClampNeg (-1)))), (h, .inr (10, ML (f_m_quarrels w_1m0 f10 (f_m_whoIsAt w_1m0 w_1m1 h_ w_1l4) (w_1m1 (((h_ + 12) + (f_m_whoIsAt w_1m0 w_1m1 h_ w_1l4)) : Int32).toNatClampNeg) (w_1m1 (((h_ + 0) + (f_m_whoIsAt w_1m0 w_1m1 h_ w_1l4)) : Int32).toNatClampNeg) (f8 (w_1l4 : Int32).toNatClampNeg)) Rf)), ((Rf 10), .inl (cI, 30, .inl f10))] := hD
                  refine lv_iinc (v := (w_1l4 + 1)) (lv' := [(4, .int (w_1l4 + 1)), (3, .int ((f_m_quarrels w_1m0 f10 (f_m_whoIsAt w_1m0 w_1m1 h_ w_1l4) (w_1m1 (((h_ + 12) + (f_m_whoIsAt w_1m0 w_1m1 h_ w_1l4)) : Int32).toNatClampNeg) (w_1m1 (((h_ + 0) + (f_m_whoIsAt w_1m0 w_1m1 h_ w_1l4)) : Int32).toNatClampNeg) (f8 (w_1l4 : Int32).toNatClampNeg)) 34)), (5, .int (f_m_whoIsAt w_1m0 w_1m1 h_ w_1l4)), (0, .ref h), (1, .int h_), (2, .int v_)]) hx hb dX10_passes_181 hl (k := 2) rfl rfl (Nat.le_of_ble_eq_true rfl) rfl (fun ls hl => ?_)
                  refine lv_goto (tgt := 5) hx hb dX10_passes_184 rfl ?_
                  exact ih_w_1 (w_1l4 + 1) ((f_m_quarrels w_1m0 f10 (f_m_whoIsAt w_1m0 w_1m1 h_ w_1l4) (w_1m1 (((h_ + 12) + (f_m_whoIsAt w_1m0 w_1m1 h_ w_1l4)) : Int32).toNatClampNeg) (w_1m1 (((h_ + 0) + (f_m_whoIsAt w_1m0 w_1m1 h_ w_1l4)) : Int32).toNatClampNeg) (f8 (w_1l4 : Int32).toNatClampNeg)) 34) (f_m_quarrels w_1m0 f10 (f_m_whoIsAt w_1m0 w_1m1 h_ w_1l4) (w_1m1 (((h_ + 12) + (f_m_whoIsAt w_1m0 w_1m1 h_ w_1l4)) : Int32).toNatClampNeg) (w_1m1 (((h_ + 0) + (f_m_whoIsAt w_1m0 w_1m1 h_ w_1l4)) : Int32).toNatClampNeg) (f8 (w_1l4 : Int32).toNatClampNeg)) (upd (upd (upd w_1m1 ((h_ + 19) : Int32).toNatClampNeg ((w_1m1 ((h_ + 19) : Int32).toNatClampNeg) + ((f_m_quarrels w_1m0 f10 (f_m_whoIsAt w_1m0 w_1m1 h_ w_1l4) (w_1m1 (((h_ + 12) + (f_m_whoIsAt w_1m0 w_1m1 h_ w_1l4)) : Int32).toNatClampNeg) (w_1m1 (((h_ + 0) + (f_m_whoIsAt w_1m0 w_1m1 h_ w_1l4)) : Int32).toNatClampNeg) (f8 (w_1l4 : Int32).toNatClampNeg)) 32))) (((h_ + 0) + (f_m_whoIsAt w_1m0 w_1m1 h_ w_1l4)) : Int32).toNatClampNeg ((f_m_quarrels w_1m0 f10 (f_m_whoIsAt w_1m0 w_1m1 h_ w_1l4) (w_1m1 (((h_ + 12) + (f_m_whoIsAt w_1m0 w_1m1 h_ w_1l4)) : Int32).toNatClampNeg) (w_1m1 (((h_ + 0) + (f_m_whoIsAt w_1m0 w_1m1 h_ w_1l4)) : Int32).toNatClampNeg) (f8 (w_1l4 : Int32).toNatClampNeg)) 33)) (((h_ + 27) + v_) : Int32).toNatClampNeg (-1)) _ _ ls (cutP (isC := [4, 3, 5, 0, 1, 2]) hP rfl) (cutD (isC := [4, 3, 5, 0, 1, 2]) hD rfl rfl) hS (lv_sub hl [0, 1, 3, 4, 5] rfl) hF hE
              · replace hF := hF.2 c_45
                rw [if_neg c_45] at hE
                refine lv_aload_n hx hb dX10_passes_126 rfl (lv_at hl 3 rfl) ?_
                refine va_get (D := D) (ci := 10) (v := .ref (Rf 0)) (C := RX10) (T := TX10) (N := 45) hx hb hts iX10 hown hK hP 4 rfl rfl 0 (Nat.le_of_ble_eq_true rfl) (hts _ wd_491) (fun _ h9 => h9) rfl dX10_passes_127 ?_
                refine lv_iload_n hx hb dX10_passes_130 rfl (lv_at hl 4 rfl) ?_
                refine lv_bipush (v := 18) hx hb dX10_passes_131 rfl ?_
                refine lv_iadd hx hb dX10_passes_133 ?_
                refine lv_dup2_11 hx hb dX10_passes_134 rfl rfl ?_
                obtain ⟨hv_49, hF⟩ := hF
                refine va_iald hx hb hK hP 3 0 rfl rfl hv_49 dX10_passes_135 ?_
                refine lv_iconst (v := 1) hx hb dX10_passes_136 rfl ?_
                refine lv_iload hx hb dX10_passes_137 (lv_at hl 1 rfl) ?_
                refine lv_ishl hx hb dX10_passes_139 ?_
                refine lv_ior hx hb dX10_passes_140 ?_
                obtain ⟨hv_50, hF⟩ := hF
                refine va_iast hx hb hK hP hD hS 3 0 rfl rfl hv_50 dX10_passes_141 (fun H locs hP hD hS => ?_)
                have hP : va_P D classes [((Rf 8), .inl (cI, 6, .inl f8)), ((Rf 11), .inl (cI, 7, .inl f11)), ((Rf 12), .inl (cI, 7, .inl f12)), ((Rf 0), .inl (cI, 1302, .inl (upd (upd (upd w_1m1 ((h_ + 19) : Int32).toNatClampNeg ((w_1m1 ((h_ + 19) : Int32).toNatClampNeg) + ((f_m_quarrels w_1m0 f10 (f_m_whoIsAt w_1m0 w_1m1 h_ w_1l4) (w_1m1 (((h_ + 12) + (f_m_whoIsAt w_1m0 w_1m1 h_ w_1l4)) : Int32).toNatClampNeg) (w_1m1 (((h_ + 0) + (f_m_whoIsAt w_1m0 w_1m1 h_ w_1l4)) : Int32).toNatClampNeg) (f8 (w_1l4 : Int32).toNatClampNeg)) 32))) (((h_ + 0) + (f_m_whoIsAt w_1m0 w_1m1 h_ w_1l4)) : Int32).toNatClampNeg ((f_m_quarrels w_1m0 f10 (f_m_whoIsAt w_1m0 w_1m1 h_ w_1l4) (w_1m1 (((h_ + 12) + (f_m_whoIsAt w_1m0 w_1m1 h_ w_1l4)) : Int32).toNatClampNeg) (w_1m1 (((h_ + 0) + (f_m_whoIsAt w_1m0 w_1m1 h_ w_1l4)) : Int32).toNatClampNeg) (f8 (w_1l4 : Int32).toNatClampNeg)) 33)) ((h_ + 18) : Int32).toNatClampNeg (((upd (upd w_1m1 ((h_ + 19) : Int32).toNatClampNeg ((w_1m1 ((h_ + 19) : Int32).toNatClampNeg) + ((f_m_quarrels w_1m0 f10 (f_m_whoIsAt w_1m0 w_1m1 h_ w_1l4) (w_1m1 (((h_ + 12) + (f_m_whoIsAt w_1m0 w_1m1 h_ w_1l4)) : Int32).toNatClampNeg) (w_1m1 (((h_ + 0) + (f_m_whoIsAt w_1m0 w_1m1 h_ w_1l4)) : Int32).toNatClampNeg) (f8 (w_1l4 : Int32).toNatClampNeg)) 32))) (((h_ + 0) + (f_m_whoIsAt w_1m0 w_1m1 h_ w_1l4)) : Int32).toNatClampNeg ((f_m_quarrels w_1m0 f10 (f_m_whoIsAt w_1m0 w_1m1 h_ w_1l4) (w_1m1 (((h_ + 12) + (f_m_whoIsAt w_1m0 w_1m1 h_ w_1l4)) : Int32).toNatClampNeg) (w_1m1 (((h_ + 0) + (f_m_whoIsAt w_1m0 w_1m1 h_ w_1l4)) : Int32).toNatClampNeg) (f8 (w_1l4 : Int32).toNatClampNeg)) 33)) ((h_ + 18) : Int32).toNatClampNeg) ||| (1 <<< ((f_m_whoIsAt w_1m0 w_1m1 h_ w_1l4) &&& 31)))))), (h, .inr (10, ML (f_m_quarrels w_1m0 f10 (f_m_whoIsAt w_1m0 w_1m1 h_ w_1l4) (w_1m1 (((h_ + 12) + (f_m_whoIsAt w_1m0 w_1m1 h_ w_1l4)) : Int32).toNatClampNeg) (w_1m1 (((h_ + 0) + (f_m_whoIsAt w_1m0 w_1m1 h_ w_1l4)) : Int32).toNatClampNeg) (f8 (w_1l4 : Int32).toNatClampNeg)) Rf)), ((Rf 10), .inl (cI, 30, .inl f10))] H := hP
                have hD : va_D A [((Rf 8), .inl (cI, 6, .inl f8)), ((Rf 11), .inl (cI, 7, .inl f11)), ((Rf 12), .inl (cI, 7, .inl f12)), ((Rf 0), .inl (cI, 1302, .inl (upd (upd (upd w_1m1 ((h_ + 19) : Int32).toNatClampNeg ((w_1m1 ((h_ + 19) : Int32).toNatClampNeg) + ((f_m_quarrels w_1m0 f10 (f_m_whoIsAt w_1m0 w_1m1 h_ w_1l4) (w_1m1 (((h_ + 12) + (f_m_whoIsAt w_1m0 w_1m1 h_ w_1l4)) : Int32).toNatClampNeg) (w_1m1 (((h_ + 0) + (f_m_whoIsAt w_1m0 w_1m1 h_ w_1l4)) : Int32).toNatClampNeg) (f8 (w_1l4 : Int32).toNatClampNeg)) 32))) (((h_ + 0) + (f_m_whoIsAt w_1m0 w_1m1 h_ w_1l4)) : Int32).toNatClampNeg ((f_m_quarrels w_1m0 f10 (f_m_whoIsAt w_1m0 w_1m1 h_ w_1l4) (w_1m1 (((h_ + 12) + (f_m_whoIsAt w_1m0 w_1m1 h_ w_1l4)) : Int32).toNatClampNeg) (w_1m1 (((h_ + 0) + (f_m_whoIsAt w_1m0 w_1m1 h_ w_1l4)) : Int32).toNatClampNeg) (f8 (w_1l4 : Int32).toNatClampNeg)) 33)) ((h_ + 18) : Int32).toNatClampNeg (((upd (upd w_1m1 ((h_ + 19) : Int32).toNatClampNeg ((w_1m1 ((h_ + 19) : Int32).toNatClampNeg) + ((f_m_quarrels w_1m0 f10 (f_m_whoIsAt w_1m0 w_1m1 h_ w_1l4) (w_1m1 (((h_ + 12) + (f_m_whoIsAt w_1m0 w_1m1 h_ w_1l4)) : Int32).toNatClampNeg) (w_1m1 (((h_ + 0) + (f_m_whoIsAt w_1m0 w_1m1 h_ w_1l4)) : Int32).toNatClampNeg) (f8 (w_1l4 : Int32).toNatClampNeg)) 32))) (((h_ + 0) + (f_m_whoIsAt w_1m0 w_1m1 h_ w_1l4)) : Int32).toNatClampNeg ((f_m_quarrels w_1m0 f10 (f_m_whoIsAt w_1m0 w_1m1 h_ w_1l4) (w_1m1 (((h_ + 12) + (f_m_whoIsAt w_1m0 w_1m1 h_ w_1l4)) : Int32).toNatClampNeg) (w_1m1 (((h_ + 0) + (f_m_whoIsAt w_1m0 w_1m1 h_ w_1l4)) : Int32).toNatClampNeg) (f8 (w_1l4 : Int32).toNatClampNeg)) 33)) ((h_ + 18) : Int32).toNatClampNeg) ||| (1 <<< ((f_m_whoIsAt w_1m0 w_1m1 h_ w_1l4) &&& 31)))))), (h, .inr (10, ML (f_m_quarrels w_1m0 f10 (f_m_whoIsAt w_1m0 w_1m1 h_ w_1l4) (w_1m1 (((h_ + 12) + (f_m_whoIsAt w_1m0 w_1m1 h_ w_1l4)) : Int32).toNatClampNeg) (w_1m1 (((h_ + 0) + (f_m_whoIsAt w_1m0 w_1m1 h_ w_1l4)) : Int32).toNatClampNeg) (f8 (w_1l4 : Int32).toNatClampNeg)) Rf)), ((Rf 10), .inl (cI, 30, .inl f10))] := hD
                refine lv_aload_n hx hb dX10_passes_142 rfl (lv_at hl 3 rfl) ?_
                refine va_get (D := D) (ci := 10) (v := .ref (Rf 0)) (C := RX10) (T := TX10) (N := 45) hx hb hts iX10 hown hK hP 4 rfl rfl 0 (Nat.le_of_ble_eq_true rfl) (hts _ wd_491) (fun _ h9 => h9) rfl dX10_passes_143 ?_
                refine lv_iload_n hx hb dX10_passes_146 rfl (lv_at hl 4 rfl) ?_
                refine lv_bipush (v := 6) hx hb dX10_passes_147 rfl ?_
                refine lv_iadd hx hb dX10_passes_149 ?_
                refine lv_iload hx hb dX10_passes_150 (lv_at hl 1 rfl) ?_
                refine lv_iadd hx hb dX10_passes_152 ?_
                refine lv_iconst (v := (-1)) hx hb dX10_passes_153 rfl ?_
                obtain ⟨hv_51, hF⟩ := hF
                refine va_iast hx hb hK hP hD hS 3 0 rfl rfl hv_51 dX10_passes_154 (fun H locs hP hD hS => ?_)
                have hP : va_P D classes [((Rf 8), .inl (cI, 6, .inl f8)), ((Rf 11), .inl (cI, 7, .inl f11)), ((Rf 12), .inl (cI, 7, .inl f12)), ((Rf 0), .inl (cI, 1302, .inl (upd (upd (upd (upd w_1m1 ((h_ + 19) : Int32).toNatClampNeg ((w_1m1 ((h_ + 19) : Int32).toNatClampNeg) + ((f_m_quarrels w_1m0 f10 (f_m_whoIsAt w_1m0 w_1m1 h_ w_1l4) (w_1m1 (((h_ + 12) + (f_m_whoIsAt w_1m0 w_1m1 h_ w_1l4)) : Int32).toNatClampNeg) (w_1m1 (((h_ + 0) + (f_m_whoIsAt w_1m0 w_1m1 h_ w_1l4)) : Int32).toNatClampNeg) (f8 (w_1l4 : Int32).toNatClampNeg)) 32))) (((h_ + 0) + (f_m_whoIsAt w_1m0 w_1m1 h_ w_1l4)) : Int32).toNatClampNeg ((f_m_quarrels w_1m0 f10 (f_m_whoIsAt w_1m0 w_1m1 h_ w_1l4) (w_1m1 (((h_ + 12) + (f_m_whoIsAt w_1m0 w_1m1 h_ w_1l4)) : Int32).toNatClampNeg) (w_1m1 (((h_ + 0) + (f_m_whoIsAt w_1m0 w_1m1 h_ w_1l4)) : Int32).toNatClampNeg) (f8 (w_1l4 : Int32).toNatClampNeg)) 33)) ((h_ + 18) : Int32).toNatClampNeg (((upd (upd w_1m1 ((h_ + 19) : Int32).toNatClampNeg ((w_1m1 ((h_ + 19) : Int32).toNatClampNeg) + ((f_m_quarrels w_1m0 f10 (f_m_whoIsAt w_1m0 w_1m1 h_ w_1l4) (w_1m1 (((h_ + 12) + (f_m_whoIsAt w_1m0 w_1m1 h_ w_1l4)) : Int32).toNatClampNeg) (w_1m1 (((h_ + 0) + (f_m_whoIsAt w_1m0 w_1m1 h_ w_1l4)) : Int32).toNatClampNeg) (f8 (w_1l4 : Int32).toNatClampNeg)) 32))) (((h_ + 0) + (f_m_whoIsAt w_1m0 w_1m1 h_ w_1l4)) : Int32).toNatClampNeg ((f_m_quarrels w_1m0 f10 (f_m_whoIsAt w_1m0 w_1m1 h_ w_1l4) (w_1m1 (((h_ + 12) + (f_m_whoIsAt w_1m0 w_1m1 h_ w_1l4)) : Int32).toNatClampNeg) (w_1m1 (((h_ + 0) + (f_m_whoIsAt w_1m0 w_1m1 h_ w_1l4)) : Int32).toNatClampNeg) (f8 (w_1l4 : Int32).toNatClampNeg)) 33)) ((h_ + 18) : Int32).toNatClampNeg) ||| (1 <<< ((f_m_whoIsAt w_1m0 w_1m1 h_ w_1l4) &&& 31)))) (((h_ + 6) + (f_m_whoIsAt w_1m0 w_1m1 h_ w_1l4)) : Int32).toNatClampNeg (-1)))), (h, .inr (10, ML (f_m_quarrels w_1m0 f10 (f_m_whoIsAt w_1m0 w_1m1 h_ w_1l4) (w_1m1 (((h_ + 12) + (f_m_whoIsAt w_1m0 w_1m1 h_ w_1l4)) : Int32).toNatClampNeg) (w_1m1 (((h_ + 0) + (f_m_whoIsAt w_1m0 w_1m1 h_ w_1l4)) : Int32).toNatClampNeg) (f8 (w_1l4 : Int32).toNatClampNeg)) Rf)), ((Rf 10), .inl (cI, 30, .inl f10))] H := hP
                have hD : va_D A [((Rf 8), .inl (cI, 6, .inl f8)), ((Rf 11), .inl (cI, 7, .inl f11)), ((Rf 12), .inl (cI, 7, .inl f12)), ((Rf 0), .inl (cI, 1302, .inl (upd (upd (upd (upd w_1m1 ((h_ + 19) : Int32).toNatClampNeg ((w_1m1 ((h_ + 19) : Int32).toNatClampNeg) + ((f_m_quarrels w_1m0 f10 (f_m_whoIsAt w_1m0 w_1m1 h_ w_1l4) (w_1m1 (((h_ + 12) + (f_m_whoIsAt w_1m0 w_1m1 h_ w_1l4)) : Int32).toNatClampNeg) (w_1m1 (((h_ + 0) + (f_m_whoIsAt w_1m0 w_1m1 h_ w_1l4)) : Int32).toNatClampNeg) (f8 (w_1l4 : Int32).toNatClampNeg)) 32))) (((h_ + 0) + (f_m_whoIsAt w_1m0 w_1m1 h_ w_1l4)) : Int32).toNatClampNeg ((f_m_quarrels w_1m0 f10 (f_m_whoIsAt w_1m0 w_1m1 h_ w_1l4) (w_1m1 (((h_ + 12) + (f_m_whoIsAt w_1m0 w_1m1 h_ w_1l4)) : Int32).toNatClampNeg) (w_1m1 (((h_ + 0) + (f_m_whoIsAt w_1m0 w_1m1 h_ w_1l4)) : Int32).toNatClampNeg) (f8 (w_1l4 : Int32).toNatClampNeg)) 33)) ((h_ + 18) : Int32).toNatClampNeg (((upd (upd w_1m1 ((h_ + 19) : Int32).toNatClampNeg ((w_1m1 ((h_ + 19) : Int32).toNatClampNeg) + ((f_m_quarrels w_1m0 f10 (f_m_whoIsAt w_1m0 w_1m1 h_ w_1l4) (w_1m1 (((h_ + 12) + (f_m_whoIsAt w_1m0 w_1m1 h_ w_1l4)) : Int32).toNatClampNeg) (w_1m1 (((h_ + 0) + (f_m_whoIsAt w_1m0 w_1m1 h_ w_1l4)) : Int32).toNatClampNeg) (f8 (w_1l4 : Int32).toNatClampNeg)) 32))) (((h_ + 0) + (f_m_whoIsAt w_1m0 w_1m1 h_ w_1l4)) : Int32).toNatClampNeg ((f_m_quarrels w_1m0 f10 (f_m_whoIsAt w_1m0 w_1m1 h_ w_1l4) (w_1m1 (((h_ + 12) + (f_m_whoIsAt w_1m0 w_1m1 h_ w_1l4)) : Int32).toNatClampNeg) (w_1m1 (((h_ + 0) + (f_m_whoIsAt w_1m0 w_1m1 h_ w_1l4)) : Int32).toNatClampNeg) (f8 (w_1l4 : Int32).toNatClampNeg)) 33)) ((h_ + 18) : Int32).toNatClampNeg) ||| (1 <<< ((f_m_whoIsAt w_1m0 w_1m1 h_ w_1l4) &&& 31)))) (((h_ + 6) + (f_m_whoIsAt w_1m0 w_1m1 h_ w_1l4)) : Int32).toNatClampNeg (-1)))), (h, .inr (10, ML (f_m_quarrels w_1m0 f10 (f_m_whoIsAt w_1m0 w_1m1 h_ w_1l4) (w_1m1 (((h_ + 12) + (f_m_whoIsAt w_1m0 w_1m1 h_ w_1l4)) : Int32).toNatClampNeg) (w_1m1 (((h_ + 0) + (f_m_whoIsAt w_1m0 w_1m1 h_ w_1l4)) : Int32).toNatClampNeg) (f8 (w_1l4 : Int32).toNatClampNeg)) Rf)), ((Rf 10), .inl (cI, 30, .inl f10))] := hD
                refine lv_aload_n hx hb dX10_passes_155 rfl (lv_at hl 3 rfl) ?_
                refine va_get (D := D) (ci := 10) (v := .int ((f_m_quarrels w_1m0 f10 (f_m_whoIsAt w_1m0 w_1m1 h_ w_1l4) (w_1m1 (((h_ + 12) + (f_m_whoIsAt w_1m0 w_1m1 h_ w_1l4)) : Int32).toNatClampNeg) (w_1m1 (((h_ + 0) + (f_m_whoIsAt w_1m0 w_1m1 h_ w_1l4)) : Int32).toNatClampNeg) (f8 (w_1l4 : Int32).toNatClampNeg)) 34)) (C := RX10) (T := TX10) (N := 45) hx hb hts iX10 hown hK hP 4 rfl rfl 34 (Nat.le_of_ble_eq_true rfl) (hts _ wd_555) (fun _ h9 => h9) rfl dX10_passes_156 ?_
                refine lv_istore_n (lv' := [(3, .int ((f_m_quarrels w_1m0 f10 (f_m_whoIsAt w_1m0 w_1m1 h_ w_1l4) (w_1m1 (((h_ + 12) + (f_m_whoIsAt w_1m0 w_1m1 h_ w_1l4)) : Int32).toNatClampNeg) (w_1m1 (((h_ + 0) + (f_m_whoIsAt w_1m0 w_1m1 h_ w_1l4)) : Int32).toNatClampNeg) (f8 (w_1l4 : Int32).toNatClampNeg)) 34)), (5, .int (f_m_whoIsAt w_1m0 w_1m1 h_ w_1l4)), (4, .int w_1l4), (0, .ref h), (1, .int h_), (2, .int v_)]) hx hb dX10_passes_159 rfl hl (Nat.le_of_ble_eq_true rfl) rfl (fun ls hl => ?_)
                refine lv_aload_n hx hb dX10_passes_160 rfl (lv_at hl 3 rfl) ?_
                refine va_get (D := D) (ci := 10) (v := .ref (Rf 0)) (C := RX10) (T := TX10) (N := 45) hx hb hts iX10 hown hK hP 4 rfl rfl 0 (Nat.le_of_ble_eq_true rfl) (hts _ wd_491) (fun _ h9 => h9) rfl dX10_passes_161 ?_
                refine lv_iload_n hx hb dX10_passes_164 rfl (lv_at hl 4 rfl) ?_
                refine lv_bipush (v := 27) hx hb dX10_passes_165 rfl ?_
                refine lv_iadd hx hb dX10_passes_167 ?_
                refine lv_iload_n hx hb dX10_passes_168 rfl (lv_at hl 5 rfl) ?_
                refine lv_iadd hx hb dX10_passes_169 ?_
                refine lv_iload_n hx hb dX10_passes_170 rfl (lv_at hl 0 rfl) ?_
                refine lv_if_eq (tgt := 178) hx hb dX10_passes_171 rfl (fun c_52 => ?_) (fun c_52 => ?_)
                · replace hF := hF.1 c_52
                  rw [if_pos c_52] at hE
                  refine lv_iload hx hb dX10_passes_178 (lv_at hl 2 rfl) ?_
                  obtain ⟨hv_53, hF⟩ := hF
                  refine va_iast hx hb hK hP hD hS 3 0 rfl rfl hv_53 dX10_passes_180 (fun H locs hP hD hS => ?_)
                  have hP : va_P D classes [((Rf 8), .inl (cI, 6, .inl f8)), ((Rf 11), .inl (cI, 7, .inl f11)), ((Rf 12), .inl (cI, 7, .inl f12)), ((Rf 0), .inl (cI, 1302, .inl (upd (upd (upd (upd (upd w_1m1 ((h_ + 19) : Int32).toNatClampNeg ((w_1m1 ((h_ + 19) : Int32).toNatClampNeg) + ((f_m_quarrels w_1m0 f10 (f_m_whoIsAt w_1m0 w_1m1 h_ w_1l4) (w_1m1 (((h_ + 12) + (f_m_whoIsAt w_1m0 w_1m1 h_ w_1l4)) : Int32).toNatClampNeg) (w_1m1 (((h_ + 0) + (f_m_whoIsAt w_1m0 w_1m1 h_ w_1l4)) : Int32).toNatClampNeg) (f8 (w_1l4 : Int32).toNatClampNeg)) 32))) (((h_ + 0) + (f_m_whoIsAt w_1m0 w_1m1 h_ w_1l4)) : Int32).toNatClampNeg ((f_m_quarrels w_1m0 f10 (f_m_whoIsAt w_1m0 w_1m1 h_ w_1l4) (w_1m1 (((h_ + 12) + (f_m_whoIsAt w_1m0 w_1m1 h_ w_1l4)) : Int32).toNatClampNeg) (w_1m1 (((h_ + 0) + (f_m_whoIsAt w_1m0 w_1m1 h_ w_1l4)) : Int32).toNatClampNeg) (f8 (w_1l4 : Int32).toNatClampNeg)) 33)) ((h_ + 18) : Int32).toNatClampNeg (((upd (upd w_1m1 ((h_ + 19) : Int32).toNatClampNeg ((w_1m1 ((h_ + 19) : Int32).toNatClampNeg) + ((f_m_quarrels w_1m0 f10 (f_m_whoIsAt w_1m0 w_1m1 h_ w_1l4) (w_1m1 (((h_ + 12) + (f_m_whoIsAt w_1m0 w_1m1 h_ w_1l4)) : Int32).toNatClampNeg) (w_1m1 (((h_ + 0) + (f_m_whoIsAt w_1m0 w_1m1 h_ w_1l4)) : Int32).toNatClampNeg) (f8 (w_1l4 : Int32).toNatClampNeg)) 32))) (((h_ + 0) + (f_m_whoIsAt w_1m0 w_1m1 h_ w_1l4)) : Int32).toNatClampNeg ((f_m_quarrels w_1m0 f10 (f_m_whoIsAt w_1m0 w_1m1 h_ w_1l4) (w_1m1 (((h_ + 12) + (f_m_whoIsAt w_1m0 w_1m1 h_ w_1l4)) : Int32).toNatClampNeg) (w_1m1 (((h_ + 0) + (f_m_whoIsAt w_1m0 w_1m1 h_ w_1l4)) : Int32).toNatClampNeg) (f8 (w_1l4 : Int32).toNatClampNeg)) 33)) ((h_ + 18) : Int32).toNatClampNeg) ||| (1 <<< ((f_m_whoIsAt w_1m0 w_1m1 h_ w_1l4) &&& 31)))) (((h_ + 6) + (f_m_whoIsAt w_1m0 w_1m1 h_ w_1l4)) : Int32).toNatClampNeg (-1)) (((h_ + 27) + v_) : Int32).toNatClampNeg w_1l4))), (h, .inr (10, ML (f_m_quarrels w_1m0 f10 (f_m_whoIsAt w_1m0 w_1m1 h_ w_1l4) (w_1m1 (((h_ + 12) + (f_m_whoIsAt w_1m0 w_1m1 h_ w_1l4)) : Int32).toNatClampNeg) (w_1m1 (((h_ + 0) + (f_m_whoIsAt w_1m0 w_1m1 h_ w_1l4)) : Int32).toNatClampNeg) (f8 (w_1l4 : Int32).toNatClampNeg)) Rf)), ((Rf 10), .inl (cI, 30, .inl f10))] H := hP
                  have hD : va_D A [((Rf 8), .inl (cI, 6, .inl f8)), ((Rf 11), .inl (cI, 7, .inl f11)), ((Rf 12), .inl (cI, 7, .inl f12)), ((Rf 0), .inl (cI, 1302, .inl (upd (upd (upd (upd (upd w_1m1 ((h_ + 19) : Int32).toNatClampNeg ((w_1m1 ((h_ + 19) : Int32).toNatClampNeg) + ((f_m_quarrels w_1m0 f10 (f_m_whoIsAt w_1m0 w_1m1 h_ w_1l4) (w_1m1 (((h_ + 12) + (f_m_whoIsAt w_1m0 w_1m1 h_ w_1l4)) : Int32).toNatClampNeg) (w_1m1 (((h_ + 0) + (f_m_whoIsAt w_1m0 w_1m1 h_ w_1l4)) : Int32).toNatClampNeg) (f8 (w_1l4 : Int32).toNatClampNeg)) 32))) (((h_ + 0) + (f_m_whoIsAt w_1m0 w_1m1 h_ w_1l4)) : Int32).toNatClampNeg ((f_m_quarrels w_1m0 f10 (f_m_whoIsAt w_1m0 w_1m1 h_ w_1l4) (w_1m1 (((h_ + 12) + (f_m_whoIsAt w_1m0 w_1m1 h_ w_1l4)) : Int32).toNatClampNeg) (w_1m1 (((h_ + 0) + (f_m_whoIsAt w_1m0 w_1m1 h_ w_1l4)) : Int32).toNatClampNeg) (f8 (w_1l4 : Int32).toNatClampNeg)) 33)) ((h_ + 18) : Int32).toNatClampNeg (((upd (upd w_1m1 ((h_ + 19) : Int32).toNatClampNeg ((w_1m1 ((h_ + 19) : Int32).toNatClampNeg) + ((f_m_quarrels w_1m0 f10 (f_m_whoIsAt w_1m0 w_1m1 h_ w_1l4) (w_1m1 (((h_ + 12) + (f_m_whoIsAt w_1m0 w_1m1 h_ w_1l4)) : Int32).toNatClampNeg) (w_1m1 (((h_ + 0) + (f_m_whoIsAt w_1m0 w_1m1 h_ w_1l4)) : Int32).toNatClampNeg) (f8 (w_1l4 : Int32).toNatClampNeg)) 32))) (((h_ + 0) + (f_m_whoIsAt w_1m0 w_1m1 h_ w_1l4)) : Int32).toNatClampNeg ((f_m_quarrels w_1m0 f10 (f_m_whoIsAt w_1m0 w_1m1 h_ w_1l4) (w_1m1 (((h_ + 12) + (f_m_whoIsAt w_1m0 w_1m1 h_ w_1l4)) : Int32).toNatClampNeg) (w_1m1 (((h_ + 0) + (f_m_whoIsAt w_1m0 w_1m1 h_ w_1l4)) : Int32).toNatClampNeg) (f8 (w_1l4 : Int32).toNatClampNeg)) 33)) ((h_ + 18) : Int32).toNatClampNeg) ||| (1 <<< ((f_m_whoIsAt w_1m0 w_1m1 h_ w_1l4) &&& 31)))) (((h_ + 6) + (f_m_whoIsAt w_1m0 w_1m1 h_ w_1l4)) : Int32).toNatClampNeg (-1)) (((h_ + 27) + v_) : Int32).toNatClampNeg w_1l4))), (h, .inr (10, ML (f_m_quarrels w_1m0 f10 (f_m_whoIsAt w_1m0 w_1m1 h_ w_1l4) (w_1m1 (((h_ + 12) + (f_m_whoIsAt w_1m0 w_1m1 h_ w_1l4)) : Int32).toNatClampNeg) (w_1m1 (((h_ + 0) + (f_m_whoIsAt w_1m0 w_1m1 h_ w_1l4)) : Int32).toNatClampNeg) (f8 (w_1l4 : Int32).toNatClampNeg)) Rf)), ((Rf 10), .inl (cI, 30, .inl f10))] := hD
                  refine lv_iinc (v := (w_1l4 + 1)) (lv' := [(4, .int (w_1l4 + 1)), (3, .int ((f_m_quarrels w_1m0 f10 (f_m_whoIsAt w_1m0 w_1m1 h_ w_1l4) (w_1m1 (((h_ + 12) + (f_m_whoIsAt w_1m0 w_1m1 h_ w_1l4)) : Int32).toNatClampNeg) (w_1m1 (((h_ + 0) + (f_m_whoIsAt w_1m0 w_1m1 h_ w_1l4)) : Int32).toNatClampNeg) (f8 (w_1l4 : Int32).toNatClampNeg)) 34)), (5, .int (f_m_whoIsAt w_1m0 w_1m1 h_ w_1l4)), (0, .ref h), (1, .int h_), (2, .int v_)]) hx hb dX10_passes_181 hl (k := 2) rfl rfl (Nat.le_of_ble_eq_true rfl) rfl (fun ls hl => ?_)
                  refine lv_goto (tgt := 5) hx hb dX10_passes_184 rfl ?_
                  exact ih_w_1 (w_1l4 + 1) ((f_m_quarrels w_1m0 f10 (f_m_whoIsAt w_1m0 w_1m1 h_ w_1l4) (w_1m1 (((h_ + 12) + (f_m_whoIsAt w_1m0 w_1m1 h_ w_1l4)) : Int32).toNatClampNeg) (w_1m1 (((h_ + 0) + (f_m_whoIsAt w_1m0 w_1m1 h_ w_1l4)) : Int32).toNatClampNeg) (f8 (w_1l4 : Int32).toNatClampNeg)) 34) (f_m_quarrels w_1m0 f10 (f_m_whoIsAt w_1m0 w_1m1 h_ w_1l4) (w_1m1 (((h_ + 12) + (f_m_whoIsAt w_1m0 w_1m1 h_ w_1l4)) : Int32).toNatClampNeg) (w_1m1 (((h_ + 0) + (f_m_whoIsAt w_1m0 w_1m1 h_ w_1l4)) : Int32).toNatClampNeg) (f8 (w_1l4 : Int32).toNatClampNeg)) (upd (upd (upd (upd (upd w_1m1 ((h_ + 19) : Int32).toNatClampNeg ((w_1m1 ((h_ + 19) : Int32).toNatClampNeg) + ((f_m_quarrels w_1m0 f10 (f_m_whoIsAt w_1m0 w_1m1 h_ w_1l4) (w_1m1 (((h_ + 12) + (f_m_whoIsAt w_1m0 w_1m1 h_ w_1l4)) : Int32).toNatClampNeg) (w_1m1 (((h_ + 0) + (f_m_whoIsAt w_1m0 w_1m1 h_ w_1l4)) : Int32).toNatClampNeg) (f8 (w_1l4 : Int32).toNatClampNeg)) 32))) (((h_ + 0) + (f_m_whoIsAt w_1m0 w_1m1 h_ w_1l4)) : Int32).toNatClampNeg ((f_m_quarrels w_1m0 f10 (f_m_whoIsAt w_1m0 w_1m1 h_ w_1l4) (w_1m1 (((h_ + 12) + (f_m_whoIsAt w_1m0 w_1m1 h_ w_1l4)) : Int32).toNatClampNeg) (w_1m1 (((h_ + 0) + (f_m_whoIsAt w_1m0 w_1m1 h_ w_1l4)) : Int32).toNatClampNeg) (f8 (w_1l4 : Int32).toNatClampNeg)) 33)) ((h_ + 18) : Int32).toNatClampNeg (((upd (upd w_1m1 ((h_ + 19) : Int32).toNatClampNeg ((w_1m1 ((h_ + 19) : Int32).toNatClampNeg) + ((f_m_quarrels w_1m0 f10 (f_m_whoIsAt w_1m0 w_1m1 h_ w_1l4) (w_1m1 (((h_ + 12) + (f_m_whoIsAt w_1m0 w_1m1 h_ w_1l4)) : Int32).toNatClampNeg) (w_1m1 (((h_ + 0) + (f_m_whoIsAt w_1m0 w_1m1 h_ w_1l4)) : Int32).toNatClampNeg) (f8 (w_1l4 : Int32).toNatClampNeg)) 32))) (((h_ + 0) + (f_m_whoIsAt w_1m0 w_1m1 h_ w_1l4)) : Int32).toNatClampNeg ((f_m_quarrels w_1m0 f10 (f_m_whoIsAt w_1m0 w_1m1 h_ w_1l4) (w_1m1 (((h_ + 12) + (f_m_whoIsAt w_1m0 w_1m1 h_ w_1l4)) : Int32).toNatClampNeg) (w_1m1 (((h_ + 0) + (f_m_whoIsAt w_1m0 w_1m1 h_ w_1l4)) : Int32).toNatClampNeg) (f8 (w_1l4 : Int32).toNatClampNeg)) 33)) ((h_ + 18) : Int32).toNatClampNeg) ||| (1 <<< ((f_m_whoIsAt w_1m0 w_1m1 h_ w_1l4) &&& 31)))) (((h_ + 6) + (f_m_whoIsAt w_1m0 w_1m1 h_ w_1l4)) : Int32).toNatClampNeg (-1)) (((h_ + 27) + v_) : Int32).toNatClampNeg w_1l4) _ _ ls (cutP (isC := [4, 3, 5, 0, 1, 2]) hP rfl) (cutD (isC := [4, 3, 5, 0, 1, 2]) hD rfl rfl) hS (lv_sub hl [0, 1, 3, 4, 5] rfl) hF hE
                · replace hF := hF.2 c_52
                  rw [if_neg c_52] at hE
                  refine lv_iconst (v := (-1)) hx hb dX10_passes_174 rfl ?_
                  refine lv_goto (tgt := 180) hx hb dX10_passes_175 rfl ?_
                  obtain ⟨hv_54, hF⟩ := hF
                  refine va_iast hx hb hK hP hD hS 3 0 rfl rfl hv_54 dX10_passes_180 (fun H locs hP hD hS => ?_)
                  have hP : va_P D classes [((Rf 8), .inl (cI, 6, .inl f8)), ((Rf 11), .inl (cI, 7, .inl f11)), ((Rf 12), .inl (cI, 7, .inl f12)), ((Rf 0), .inl (cI, 1302, .inl (upd (upd (upd (upd (upd w_1m1 ((h_ + 19) : Int32).toNatClampNeg ((w_1m1 ((h_ + 19) : Int32).toNatClampNeg) + ((f_m_quarrels w_1m0 f10 (f_m_whoIsAt w_1m0 w_1m1 h_ w_1l4) (w_1m1 (((h_ + 12) + (f_m_whoIsAt w_1m0 w_1m1 h_ w_1l4)) : Int32).toNatClampNeg) (w_1m1 (((h_ + 0) + (f_m_whoIsAt w_1m0 w_1m1 h_ w_1l4)) : Int32).toNatClampNeg) (f8 (w_1l4 : Int32).toNatClampNeg)) 32))) (((h_ + 0) + (f_m_whoIsAt w_1m0 w_1m1 h_ w_1l4)) : Int32).toNatClampNeg ((f_m_quarrels w_1m0 f10 (f_m_whoIsAt w_1m0 w_1m1 h_ w_1l4) (w_1m1 (((h_ + 12) + (f_m_whoIsAt w_1m0 w_1m1 h_ w_1l4)) : Int32).toNatClampNeg) (w_1m1 (((h_ + 0) + (f_m_whoIsAt w_1m0 w_1m1 h_ w_1l4)) : Int32).toNatClampNeg) (f8 (w_1l4 : Int32).toNatClampNeg)) 33)) ((h_ + 18) : Int32).toNatClampNeg (((upd (upd w_1m1 ((h_ + 19) : Int32).toNatClampNeg ((w_1m1 ((h_ + 19) : Int32).toNatClampNeg) + ((f_m_quarrels w_1m0 f10 (f_m_whoIsAt w_1m0 w_1m1 h_ w_1l4) (w_1m1 (((h_ + 12) + (f_m_whoIsAt w_1m0 w_1m1 h_ w_1l4)) : Int32).toNatClampNeg) (w_1m1 (((h_ + 0) + (f_m_whoIsAt w_1m0 w_1m1 h_ w_1l4)) : Int32).toNatClampNeg) (f8 (w_1l4 : Int32).toNatClampNeg)) 32))) (((h_ + 0) + (f_m_whoIsAt w_1m0 w_1m1 h_ w_1l4)) : Int32).toNatClampNeg ((f_m_quarrels w_1m0 f10 (f_m_whoIsAt w_1m0 w_1m1 h_ w_1l4) (w_1m1 (((h_ + 12) + (f_m_whoIsAt w_1m0 w_1m1 h_ w_1l4)) : Int32).toNatClampNeg) (w_1m1 (((h_ + 0) + (f_m_whoIsAt w_1m0 w_1m1 h_ w_1l4)) : Int32).toNatClampNeg) (f8 (w_1l4 : Int32).toNatClampNeg)) 33)) ((h_ + 18) : Int32).toNatClampNeg) ||| (1 <<< ((f_m_whoIsAt w_1m0 w_1m1 h_ w_1l4) &&& 31)))) (((h_ + 6) + (f_m_whoIsAt w_1m0 w_1m1 h_ w_1l4)) : Int32).toNatClampNeg (-1)) (((h_ + 27) + v_) : Int32).toNatClampNeg (-1)))), (h, .inr (10, ML (f_m_quarrels w_1m0 f10 (f_m_whoIsAt w_1m0 w_1m1 h_ w_1l4) (w_1m1 (((h_ + 12) + (f_m_whoIsAt w_1m0 w_1m1 h_ w_1l4)) : Int32).toNatClampNeg) (w_1m1 (((h_ + 0) + (f_m_whoIsAt w_1m0 w_1m1 h_ w_1l4)) : Int32).toNatClampNeg) (f8 (w_1l4 : Int32).toNatClampNeg)) Rf)), ((Rf 10), .inl (cI, 30, .inl f10))] H := hP
                  have hD : va_D A [((Rf 8), .inl (cI, 6, .inl f8)), ((Rf 11), .inl (cI, 7, .inl f11)), ((Rf 12), .inl (cI, 7, .inl f12)), ((Rf 0), .inl (cI, 1302, .inl (upd (upd (upd (upd (upd w_1m1 ((h_ + 19) : Int32).toNatClampNeg ((w_1m1 ((h_ + 19) : Int32).toNatClampNeg) + ((f_m_quarrels w_1m0 f10 (f_m_whoIsAt w_1m0 w_1m1 h_ w_1l4) (w_1m1 (((h_ + 12) + (f_m_whoIsAt w_1m0 w_1m1 h_ w_1l4)) : Int32).toNatClampNeg) (w_1m1 (((h_ + 0) + (f_m_whoIsAt w_1m0 w_1m1 h_ w_1l4)) : Int32).toNatClampNeg) (f8 (w_1l4 : Int32).toNatClampNeg)) 32))) (((h_ + 0) + (f_m_whoIsAt w_1m0 w_1m1 h_ w_1l4)) : Int32).toNatClampNeg ((f_m_quarrels w_1m0 f10 (f_m_whoIsAt w_1m0 w_1m1 h_ w_1l4) (w_1m1 (((h_ + 12) + (f_m_whoIsAt w_1m0 w_1m1 h_ w_1l4)) : Int32).toNatClampNeg) (w_1m1 (((h_ + 0) + (f_m_whoIsAt w_1m0 w_1m1 h_ w_1l4)) : Int32).toNatClampNeg) (f8 (w_1l4 : Int32).toNatClampNeg)) 33)) ((h_ + 18) : Int32).toNatClampNeg (((upd (upd w_1m1 ((h_ + 19) : Int32).toNatClampNeg ((w_1m1 ((h_ + 19) : Int32).toNatClampNeg) + ((f_m_quarrels w_1m0 f10 (f_m_whoIsAt w_1m0 w_1m1 h_ w_1l4) (w_1m1 (((h_ + 12) + (f_m_whoIsAt w_1m0 w_1m1 h_ w_1l4)) : Int32).toNatClampNeg) (w_1m1 (((h_ + 0) + (f_m_whoIsAt w_1m0 w_1m1 h_ w_1l4)) : Int32).toNatClampNeg) (f8 (w_1l4 : Int32).toNatClampNeg)) 32))) (((h_ + 0) + (f_m_whoIsAt w_1m0 w_1m1 h_ w_1l4)) : Int32).toNatClampNeg ((f_m_quarrels w_1m0 f10 (f_m_whoIsAt w_1m0 w_1m1 h_ w_1l4) (w_1m1 (((h_ + 12) + (f_m_whoIsAt w_1m0 w_1m1 h_ w_1l4)) : Int32).toNatClampNeg) (w_1m1 (((h_ + 0) + (f_m_whoIsAt w_1m0 w_1m1 h_ w_1l4)) : Int32).toNatClampNeg) (f8 (w_1l4 : Int32).toNatClampNeg)) 33)) ((h_ + 18) : Int32).toNatClampNeg) ||| (1 <<< ((f_m_whoIsAt w_1m0 w_1m1 h_ w_1l4) &&& 31)))) (((h_ + 6) + (f_m_whoIsAt w_1m0 w_1m1 h_ w_1l4)) : Int32).toNatClampNeg (-1)) (((h_ + 27) + v_) : Int32).toNatClampNeg (-1)))), (h, .inr (10, ML (f_m_quarrels w_1m0 f10 (f_m_whoIsAt w_1m0 w_1m1 h_ w_1l4) (w_1m1 (((h_ + 12) + (f_m_whoIsAt w_1m0 w_1m1 h_ w_1l4)) : Int32).toNatClampNeg) (w_1m1 (((h_ + 0) + (f_m_whoIsAt w_1m0 w_1m1 h_ w_1l4)) : Int32).toNatClampNeg) (f8 (w_1l4 : Int32).toNatClampNeg)) Rf)), ((Rf 10), .inl (cI, 30, .inl f10))] := hD
                  refine lv_iinc (v := (w_1l4 + 1)) (lv' := [(4, .int (w_1l4 + 1)), (3, .int ((f_m_quarrels w_1m0 f10 (f_m_whoIsAt w_1m0 w_1m1 h_ w_1l4) (w_1m1 (((h_ + 12) + (f_m_whoIsAt w_1m0 w_1m1 h_ w_1l4)) : Int32).toNatClampNeg) (w_1m1 (((h_ + 0) + (f_m_whoIsAt w_1m0 w_1m1 h_ w_1l4)) : Int32).toNatClampNeg) (f8 (w_1l4 : Int32).toNatClampNeg)) 34)), (5, .int (f_m_whoIsAt w_1m0 w_1m1 h_ w_1l4)), (0, .ref h), (1, .int h_), (2, .int v_)]) hx hb dX10_passes_181 hl (k := 2) rfl rfl (Nat.le_of_ble_eq_true rfl) rfl (fun ls hl => ?_)
                  refine lv_goto (tgt := 5) hx hb dX10_passes_184 rfl ?_
                  exact ih_w_1 (w_1l4 + 1) ((f_m_quarrels w_1m0 f10 (f_m_whoIsAt w_1m0 w_1m1 h_ w_1l4) (w_1m1 (((h_ + 12) + (f_m_whoIsAt w_1m0 w_1m1 h_ w_1l4)) : Int32).toNatClampNeg) (w_1m1 (((h_ + 0) + (f_m_whoIsAt w_1m0 w_1m1 h_ w_1l4)) : Int32).toNatClampNeg) (f8 (w_1l4 : Int32).toNatClampNeg)) 34) (f_m_quarrels w_1m0 f10 (f_m_whoIsAt w_1m0 w_1m1 h_ w_1l4) (w_1m1 (((h_ + 12) + (f_m_whoIsAt w_1m0 w_1m1 h_ w_1l4)) : Int32).toNatClampNeg) (w_1m1 (((h_ + 0) + (f_m_whoIsAt w_1m0 w_1m1 h_ w_1l4)) : Int32).toNatClampNeg) (f8 (w_1l4 : Int32).toNatClampNeg)) (upd (upd (upd (upd (upd w_1m1 ((h_ + 19) : Int32).toNatClampNeg ((w_1m1 ((h_ + 19) : Int32).toNatClampNeg) + ((f_m_quarrels w_1m0 f10 (f_m_whoIsAt w_1m0 w_1m1 h_ w_1l4) (w_1m1 (((h_ + 12) + (f_m_whoIsAt w_1m0 w_1m1 h_ w_1l4)) : Int32).toNatClampNeg) (w_1m1 (((h_ + 0) + (f_m_whoIsAt w_1m0 w_1m1 h_ w_1l4)) : Int32).toNatClampNeg) (f8 (w_1l4 : Int32).toNatClampNeg)) 32))) (((h_ + 0) + (f_m_whoIsAt w_1m0 w_1m1 h_ w_1l4)) : Int32).toNatClampNeg ((f_m_quarrels w_1m0 f10 (f_m_whoIsAt w_1m0 w_1m1 h_ w_1l4) (w_1m1 (((h_ + 12) + (f_m_whoIsAt w_1m0 w_1m1 h_ w_1l4)) : Int32).toNatClampNeg) (w_1m1 (((h_ + 0) + (f_m_whoIsAt w_1m0 w_1m1 h_ w_1l4)) : Int32).toNatClampNeg) (f8 (w_1l4 : Int32).toNatClampNeg)) 33)) ((h_ + 18) : Int32).toNatClampNeg (((upd (upd w_1m1 ((h_ + 19) : Int32).toNatClampNeg ((w_1m1 ((h_ + 19) : Int32).toNatClampNeg) + ((f_m_quarrels w_1m0 f10 (f_m_whoIsAt w_1m0 w_1m1 h_ w_1l4) (w_1m1 (((h_ + 12) + (f_m_whoIsAt w_1m0 w_1m1 h_ w_1l4)) : Int32).toNatClampNeg) (w_1m1 (((h_ + 0) + (f_m_whoIsAt w_1m0 w_1m1 h_ w_1l4)) : Int32).toNatClampNeg) (f8 (w_1l4 : Int32).toNatClampNeg)) 32))) (((h_ + 0) + (f_m_whoIsAt w_1m0 w_1m1 h_ w_1l4)) : Int32).toNatClampNeg ((f_m_quarrels w_1m0 f10 (f_m_whoIsAt w_1m0 w_1m1 h_ w_1l4) (w_1m1 (((h_ + 12) + (f_m_whoIsAt w_1m0 w_1m1 h_ w_1l4)) : Int32).toNatClampNeg) (w_1m1 (((h_ + 0) + (f_m_whoIsAt w_1m0 w_1m1 h_ w_1l4)) : Int32).toNatClampNeg) (f8 (w_1l4 : Int32).toNatClampNeg)) 33)) ((h_ + 18) : Int32).toNatClampNeg) ||| (1 <<< ((f_m_whoIsAt w_1m0 w_1m1 h_ w_1l4) &&& 31)))) (((h_ + 6) + (f_m_whoIsAt w_1m0 w_1m1 h_ w_1l4)) : Int32).toNatClampNeg (-1)) (((h_ + 27) + v_) : Int32).toNatClampNeg (-1)) _ _ ls (cutP (isC := [4, 3, 5, 0, 1, 2]) hP rfl) (cutD (isC := [4, 3, 5, 0, 1, 2]) hD rfl rfl) hS (lv_sub hl [0, 1, 3, 4, 5] rfl) hF hE
  exact lp_5_w_1 10 0 1 G f0 _ _ ls hP hD hS hl hF hE
noncomputable def f_m_pass (G : Nat → Int32) (f0 : Nat → Int32) (f10 : Nat → Int32) (f8 : Nat → Int32) (f11 : Nat → Int32) (f12 : Nat → Int32) (v_ : Int32) : Int32 × (Nat → Int32) × (Nat → Int32) := (if (f_m_isBarge G v_) = 0 then ((-1000000001), G, f0) else (if (f0 ((20 + v_) : Int32).toNatClampNeg) = 0 then (if (f0 (19 : Int32).toNatClampNeg) ≤ 90000 then (match (f_m_minds G f0) with | (o_11, o_12) => (match (f_m_passes o_11 o_12 f10 f8 f11 f12 0 v_) with | (o_16, o_17) => ((o_17 (19 : Int32).toNatClampNeg), o_16, o_17))) else ((-1000000004), G, f0)) else ((-1000000003), G, f0)))
def S_m_pass (G : Nat → Int32) (f0 : Nat → Int32) (f10 : Nat → Int32) (f8 : Nat → Int32) (f11 : Nat → Int32) (f12 : Nat → Int32) (v_ : Int32) : Prop := ((S_m_isBarge G v_) ∧ (((f_m_isBarge G v_) = 0 → True) ∧ (¬ (f_m_isBarge G v_) = 0 → (vp_in (20 + v_) 1302 ∧ (((f0 ((20 + v_) : Int32).toNatClampNeg) = 0 → (((f0 (19 : Int32).toNatClampNeg) ≤ 90000 → ((S_m_minds G f0) ∧ (∀ (o_11 : (Nat → Int32)) (o_12 : (Nat → Int32)), (o_11, o_12) = (f_m_minds G f0) → ((S_m_passes o_11 o_12 f10 f8 f11 f12 0 v_) ∧ (∀ (o_16 : (Nat → Int32)) (o_17 : (Nat → Int32)), (o_16, o_17) = (f_m_passes o_11 o_12 f10 f8 f11 f12 0 v_) → True))))) ∧ (¬ (f0 (19 : Int32).toNatClampNeg) ≤ 90000 → True))) ∧ (¬ (f0 ((20 + v_) : Int32).toNatClampNeg) = 0 → True))))))
def rm_m_pass : Room := { frames := 3, cells := 0, slots := 0, locals := 75 }
set_option maxHeartbeats 4000000 in
set_option maxRecDepth 100000 in
theorem m_pass {l : Launch} {D : va_G} {cI cZ : ClassId} {sz : Nat} (Rf : Nat → Nat) (h : Nat) (G : Nat → Int32) (f0 : Nat → Int32) (f10 : Nat → Int32) (f8 : Nat → Int32) (f11 : Nat → Int32) (f12 : Nat → Int32) (v_ : Int32) (hF : S_m_pass G f0 f10 f8 f11 f12 v_) : KI l yX10_pass cX10_pass 2 (some .int) rm_m_pass D cI cZ [.ref h, .int v_] sz [(h, .inr (10, ML G Rf)), ((Rf 0), .inl (cI, 1302, .inl f0)), ((Rf 10), .inl (cI, 30, .inl f10)), ((Rf 8), .inl (cI, 6, .inl f8)), ((Rf 11), .inl (cI, 7, .inl f11)), ((Rf 12), .inl (cI, 7, .inl f12))] (fun (r : Int32) (u : (Nat → Int32) × (Nat → Int32)) => (r, u) = f_m_pass G f0 f10 f8 f11 f12 v_) (fun (u : (Nat → Int32) × (Nat → Int32)) => [(h, .inr (10, ML u.1 Rf)), ((Rf 0), .inl (cI, 1302, .inl u.2)), ((Rf 10), .inl (cI, 30, .inl f10)), ((Rf 8), .inl (cI, 6, .inl f8)), ((Rf 11), .inl (cI, 7, .inl f11)), ((Rf 12), .inl (cI, 7, .inl f12))]) := by
  refine KI.go rfl (Nat.le_of_ble_eq_true rfl) ?_
  intro p e s m args below meth c ls A Q hx hb hml hts hown hin hP hK hD hS hA hN hl hret
  have hl : lv_has ls 2 [(0, .ref h), (1, .int v_)] := hl
  rw [S_m_pass] at hF
  obtain ⟨RES, hE⟩ : ∃ xRES, f_m_pass G f0 f10 f8 f11 f12 v_ = xRES := ⟨_, rfl⟩
  rw [hE] at hret
  rw [f_m_pass] at hE
  refine lv_aload_n hx hb dX10_pass_0 rfl (lv_at hl 0 rfl) ?_
  refine lv_iload_n hx hb dX10_pass_1 rfl (lv_at hl 1 rfl) ?_
  obtain ⟨hs_1, hF⟩ := hF
  refine cVi (wr := [((Rf 0), .inl (cI, 1302, .inl f0)), ((Rf 10), .inl (cI, 30, .inl f10)), ((Rf 8), .inl (cI, 6, .inl f8)), ((Rf 11), .inl (cI, 7, .inl f11)), ((Rf 12), .inl (cI, 7, .inl f12))]) (rest := []) (m_isBarge Rf h G v_ hs_1) okV_X10_isBarge wd_589 hx hb hml hown hts hK hP hD hS hA hN hl.1 [0] [1, 2, 3, 4, 5] rfl rfl rfl rfl (of_decide_eq_true rfl) rfl rfl rfl (Nat.le_of_ble_eq_true rfl) (Nat.le_of_ble_eq_true rfl) (Nat.le_of_ble_eq_true rfl) (Nat.le_of_ble_eq_true rfl) (Nat.le_of_ble_eq_true rfl) dX10_pass_2 (fun r_3 u_2 H locs hw_u_2 hP hD hS => ?_)
  replace hw_u_2 : r_3 = (f_m_isBarge G v_) := hw_u_2
  rw [hw_u_2]
  clear hw_u_2
  have hP : va_P D classes [((Rf 0), .inl (cI, 1302, .inl f0)), ((Rf 10), .inl (cI, 30, .inl f10)), ((Rf 8), .inl (cI, 6, .inl f8)), ((Rf 11), .inl (cI, 7, .inl f11)), ((Rf 12), .inl (cI, 7, .inl f12)), (h, .inr (10, ML G Rf))] H := hP
  have hD : va_D A [((Rf 0), .inl (cI, 1302, .inl f0)), ((Rf 10), .inl (cI, 30, .inl f10)), ((Rf 8), .inl (cI, 6, .inl f8)), ((Rf 11), .inl (cI, 7, .inl f11)), ((Rf 12), .inl (cI, 7, .inl f12)), (h, .inr (10, ML G Rf))] := hD
  refine lv_if_ne (tgt := 11) hx hb dX10_pass_5 rfl (fun c_4 => ?_) (fun c_4 => ?_)
  · replace hF := hF.2 c_4
    rw [if_neg c_4] at hE
    refine lv_aload_n hx hb dX10_pass_11 rfl (lv_at hl 0 rfl) ?_
    refine va_get (D := D) (ci := 10) (v := .ref (Rf 0)) (C := RX10) (T := TX10) (N := 45) hx hb hts iX10 hown hK hP 5 rfl rfl 0 (Nat.le_of_ble_eq_true rfl) (hts _ wd_491) (fun _ h9 => h9) rfl dX10_pass_12 ?_
    refine lv_bipush (v := 20) hx hb dX10_pass_15 rfl ?_
    refine lv_iload_n hx hb dX10_pass_17 rfl (lv_at hl 1 rfl) ?_
    refine lv_iadd hx hb dX10_pass_18 ?_
    obtain ⟨hv_5, hF⟩ := hF
    refine va_iald hx hb hK hP 0 0 rfl rfl hv_5 dX10_pass_19 ?_
    refine lv_if_eq (tgt := 26) hx hb dX10_pass_20 rfl (fun c_6 => ?_) (fun c_6 => ?_)
    · replace hF := hF.1 c_6
      rw [if_pos c_6] at hE
      refine lv_aload_n hx hb dX10_pass_26 rfl (lv_at hl 0 rfl) ?_
      refine va_get (D := D) (ci := 10) (v := .ref (Rf 0)) (C := RX10) (T := TX10) (N := 45) hx hb hts iX10 hown hK hP 5 rfl rfl 0 (Nat.le_of_ble_eq_true rfl) (hts _ wd_491) (fun _ h9 => h9) rfl dX10_pass_27 ?_
      refine lv_bipush (v := 19) hx hb dX10_pass_30 rfl ?_
      refine va_iald hx hb hK hP 0 0 rfl rfl (show ¬ ((19 : Int32) < 0 ∨ 1302 ≤ (19 : Int32).toNatClampNeg) by decide +kernel) dX10_pass_32 ?_
      refine lv_ldc (v := 90000) hx hb hown (hts _ wd_604) dX10_pass_33 ?_
      refine lv_icmp_le (tgt := 41) hx hb dX10_pass_35 rfl (fun c_7 => ?_) (fun c_7 => ?_)
      · replace hF := hF.1 c_7
        rw [if_pos c_7] at hE
        refine lv_aload_n hx hb dX10_pass_41 rfl (lv_at hl 0 rfl) ?_
        obtain ⟨hs_8, hF⟩ := hF
        refine cVv (wr := [((Rf 10), .inl (cI, 30, .inl f10)), ((Rf 8), .inl (cI, 6, .inl f8)), ((Rf 11), .inl (cI, 7, .inl f11)), ((Rf 12), .inl (cI, 7, .inl f12))]) (rest := []) (m_minds Rf h G f0 hs_8) okV_X10_minds wd_595 hx hb hml hown hts hK hP hD hS hA hN hl.1 [5, 0] [1, 2, 3, 4] rfl rfl rfl rfl (of_decide_eq_true rfl) rfl rfl rfl (Nat.le_of_ble_eq_true rfl) (Nat.le_of_ble_eq_true rfl) (Nat.le_of_ble_eq_true rfl) (Nat.le_of_ble_eq_true rfl) (Nat.le_of_ble_eq_true rfl) dX10_pass_42 (fun u_9 H locs hw_u_9 hP hD hS => ?_)
        obtain ⟨o_11, o_12⟩ := u_9
        replace hw_u_9 : (o_11, o_12) = (f_m_minds G f0) := hw_u_9
        replace hF := hF o_11 o_12 hw_u_9
        rw [← hw_u_9] at hE
        replace hE : ((match (f_m_passes o_11 o_12 f10 f8 f11 f12 0 v_) with | (o_16, o_17) => ((o_17 (19 : Int32).toNatClampNeg), o_16, o_17)) : Int32 × (Nat → Int32) × (Nat → Int32)) = RES := hE
        have hP : va_P D classes [((Rf 10), .inl (cI, 30, .inl f10)), ((Rf 8), .inl (cI, 6, .inl f8)), ((Rf 11), .inl (cI, 7, .inl f11)), ((Rf 12), .inl (cI, 7, .inl f12)), (h, .inr (10, ML o_11 Rf)), ((Rf 0), .inl (cI, 1302, .inl o_12))] H := hP
        have hD : va_D A [((Rf 10), .inl (cI, 30, .inl f10)), ((Rf 8), .inl (cI, 6, .inl f8)), ((Rf 11), .inl (cI, 7, .inl f11)), ((Rf 12), .inl (cI, 7, .inl f12)), (h, .inr (10, ML o_11 Rf)), ((Rf 0), .inl (cI, 1302, .inl o_12))] := hD
        refine lv_aload_n hx hb dX10_pass_45 rfl (lv_at hl 0 rfl) ?_
        refine lv_iconst (v := 0) hx hb dX10_pass_46 rfl ?_
        refine lv_iload_n hx hb dX10_pass_47 rfl (lv_at hl 1 rfl) ?_
        obtain ⟨hs_13, hF⟩ := hF
        refine cVv (wr := []) (rest := []) (m_passes Rf h o_11 o_12 f10 f8 f11 f12 0 v_ hs_13) okV_X10_passes wd_668 hx hb hml hown hts hK hP hD hS hA hN hl.1 [4, 5, 0, 1, 2, 3] [] rfl rfl rfl rfl (of_decide_eq_true rfl) rfl rfl rfl (Nat.le_of_ble_eq_true rfl) (Nat.le_of_ble_eq_true rfl) (Nat.le_of_ble_eq_true rfl) (Nat.le_of_ble_eq_true rfl) (Nat.le_of_ble_eq_true rfl) dX10_pass_48 (fun u_14 H locs hw_u_14 hP hD hS => ?_)
        obtain ⟨o_16, o_17⟩ := u_14
        replace hw_u_14 : (o_16, o_17) = (f_m_passes o_11 o_12 f10 f8 f11 f12 0 v_) := hw_u_14
        replace hF := hF o_16 o_17 hw_u_14
        rw [← hw_u_14] at hE
        replace hE : (((o_17 (19 : Int32).toNatClampNeg), o_16, o_17) : Int32 × (Nat → Int32) × (Nat → Int32)) = RES := hE
        have hP : va_P D classes [(h, .inr (10, ML o_16 Rf)), ((Rf 0), .inl (cI, 1302, .inl o_17)), ((Rf 10), .inl (cI, 30, .inl f10)), ((Rf 8), .inl (cI, 6, .inl f8)), ((Rf 11), .inl (cI, 7, .inl f11)), ((Rf 12), .inl (cI, 7, .inl f12))] H := hP
        have hD : va_D A [(h, .inr (10, ML o_16 Rf)), ((Rf 0), .inl (cI, 1302, .inl o_17)), ((Rf 10), .inl (cI, 30, .inl f10)), ((Rf 8), .inl (cI, 6, .inl f8)), ((Rf 11), .inl (cI, 7, .inl f11)), ((Rf 12), .inl (cI, 7, .inl f12))] := hD
        refine lv_aload_n hx hb dX10_pass_51 rfl (lv_at hl 0 rfl) ?_
        refine va_get (D := D) (ci := 10) (v := .ref (Rf 0)) (C := RX10) (T := TX10) (N := 45) hx hb hts iX10 hown hK hP 0 rfl rfl 0 (Nat.le_of_ble_eq_true rfl) (hts _ wd_491) (fun _ h9 => h9) rfl dX10_pass_52 ?_
        refine lv_bipush (v := 19) hx hb dX10_pass_55 rfl ?_
        refine va_iald hx hb hK hP 1 0 rfl rfl (show ¬ ((19 : Int32) < 0 ∨ 1302 ≤ (19 : Int32).toNatClampNeg) by decide +kernel) dX10_pass_57 ?_
        exact hret (o_17 (19 : Int32).toNatClampNeg) (o_16, o_17) _ _ _ _ dX10_pass_58 rfl hE hP hD hS
      · replace hF := hF.2 c_7
        rw [if_neg c_7] at hE
        refine lv_ldc (v := (-1000000004)) hx hb hown (hts _ wd_506) dX10_pass_38 ?_
        exact hret (-1000000004) (G, f0) _ _ _ _ dX10_pass_40 rfl hE (cutP (isC := [5, 0, 1, 2, 3, 4]) hP rfl) (cutD (isC := [5, 0, 1, 2, 3, 4]) hD rfl rfl) hS
    · replace hF := hF.2 c_6
      rw [if_neg c_6] at hE
      refine lv_ldc (v := (-1000000003)) hx hb hown (hts _ wd_562) dX10_pass_23 ?_
      exact hret (-1000000003) (G, f0) _ _ _ _ dX10_pass_25 rfl hE (cutP (isC := [5, 0, 1, 2, 3, 4]) hP rfl) (cutD (isC := [5, 0, 1, 2, 3, 4]) hD rfl rfl) hS
  · replace hF := hF.1 c_4
    rw [if_pos c_4] at hE
    refine lv_ldc (v := (-1000000001)) hx hb hown (hts _ wd_580) dX10_pass_8 ?_
    exact hret (-1000000001) (G, f0) _ _ _ _ dX10_pass_10 rfl hE (cutP (isC := [5, 0, 1, 2, 3, 4]) hP rfl) (cutD (isC := [5, 0, 1, 2, 3, 4]) hD rfl rfl) hS
noncomputable def f_m_layCosts_12 (f0 : Nat → Int32) (f10 : Nat → Int32) (f8 : Nat → Int32) (w_1l1 : Int32) (n : Nat) : Int32 → (Nat → Int32) → (Nat → Int32) → Int32 × (Nat → Int32) × (Nat → Int32) := Nat.rec (motive := fun _ => Int32 → (Nat → Int32) → (Nat → Int32) → Int32 × (Nat → Int32) × (Nat → Int32)) (fun w_3l2 w_3m0 w_3m1 => (w_3l2, w_3m0, w_3m1)) (fun n ih w_3l2 w_3m0 w_3m1 => (if (w_3m0 5) ≤ w_3l2 then (w_3l2, w_3m0, w_3m1) else (match (f_m_best w_3m0 f0 f10 f8 w_3l2 w_1l1) with | (r_7, u_6) => (if r_7 = (-1) then (ih (w_3l2 + 1) u_6 (upd w_3m1 (((6 * w_1l1) + w_3l2) : Int32).toNatClampNeg 1000000000)) else (ih (w_3l2 + 1) u_6 (upd w_3m1 (((6 * w_1l1) + w_3l2) : Int32).toNatClampNeg (u_6 35))))))) n
theorem f_m_layCosts_12_s (f0 : Nat → Int32) (f10 : Nat → Int32) (f8 : Nat → Int32) (w_1l1 : Int32) (n : Nat) (w_3l2 : Int32) (w_3m0 : (Nat → Int32)) (w_3m1 : (Nat → Int32)) : f_m_layCosts_12 f0 f10 f8 w_1l1 (n + 1) w_3l2 w_3m0 w_3m1 = (if (w_3m0 5) ≤ w_3l2 then (w_3l2, w_3m0, w_3m1) else (match (f_m_best w_3m0 f0 f10 f8 w_3l2 w_1l1) with | (r_7, u_6) => (if r_7 = (-1) then (f_m_layCosts_12 f0 f10 f8 w_1l1 n (w_3l2 + 1) u_6 (upd w_3m1 (((6 * w_1l1) + w_3l2) : Int32).toNatClampNeg 1000000000)) else (f_m_layCosts_12 f0 f10 f8 w_1l1 n (w_3l2 + 1) u_6 (upd w_3m1 (((6 * w_1l1) + w_3l2) : Int32).toNatClampNeg (u_6 35)))))) := rfl
def S_m_layCosts_12 (f0 : Nat → Int32) (f10 : Nat → Int32) (f8 : Nat → Int32) (w_1l1 : Int32) (K : Int32 → (Nat → Int32) → (Nat → Int32) → Prop) (n : Nat) : Int32 → (Nat → Int32) → (Nat → Int32) → Prop := Nat.rec (motive := fun _ => Int32 → (Nat → Int32) → (Nat → Int32) → Prop) (fun _ _ _ => False) (fun n ih w_3l2 w_3m0 w_3m1 => (((w_3m0 5) ≤ w_3l2 → (K w_3l2 w_3m0 w_3m1)) ∧ (¬ (w_3m0 5) ≤ w_3l2 → ((S_m_best w_3m0 f0 f10 f8 w_3l2 w_1l1) ∧ (∀ (r_7 : Int32) (u_6 : (Nat → Int32)), (r_7, u_6) = (f_m_best w_3m0 f0 f10 f8 w_3l2 w_1l1) → ((r_7 = (-1) → (vp_in ((6 * w_1l1) + w_3l2) 36 ∧ (ih (w_3l2 + 1) u_6 (upd w_3m1 (((6 * w_1l1) + w_3l2) : Int32).toNatClampNeg 1000000000)))) ∧ (¬ r_7 = (-1) → (vp_in ((6 * w_1l1) + w_3l2) 36 ∧ (ih (w_3l2 + 1) u_6 (upd w_3m1 (((6 * w_1l1) + w_3l2) : Int32).toNatClampNeg (u_6 35))))))))))) n
theorem S_m_layCosts_12_s (f0 : Nat → Int32) (f10 : Nat → Int32) (f8 : Nat → Int32) (w_1l1 : Int32) (K : Int32 → (Nat → Int32) → (Nat → Int32) → Prop) (n : Nat) (w_3l2 : Int32) (w_3m0 : (Nat → Int32)) (w_3m1 : (Nat → Int32)) : S_m_layCosts_12 f0 f10 f8 w_1l1 K (n + 1) w_3l2 w_3m0 w_3m1 = ((((w_3m0 5) ≤ w_3l2 → (K w_3l2 w_3m0 w_3m1)) ∧ (¬ (w_3m0 5) ≤ w_3l2 → ((S_m_best w_3m0 f0 f10 f8 w_3l2 w_1l1) ∧ (∀ (r_7 : Int32) (u_6 : (Nat → Int32)), (r_7, u_6) = (f_m_best w_3m0 f0 f10 f8 w_3l2 w_1l1) → ((r_7 = (-1) → (vp_in ((6 * w_1l1) + w_3l2) 36 ∧ (S_m_layCosts_12 f0 f10 f8 w_1l1 K n (w_3l2 + 1) u_6 (upd w_3m1 (((6 * w_1l1) + w_3l2) : Int32).toNatClampNeg 1000000000)))) ∧ (¬ r_7 = (-1) → (vp_in ((6 * w_1l1) + w_3l2) 36 ∧ (S_m_layCosts_12 f0 f10 f8 w_1l1 K n (w_3l2 + 1) u_6 (upd w_3m1 (((6 * w_1l1) + w_3l2) : Int32).toNatClampNeg (u_6 35))))))))))) := rfl
noncomputable def f_m_layCosts_2 (f0 : Nat → Int32) (f10 : Nat → Int32) (f8 : Nat → Int32) (n : Nat) : Int32 → (Nat → Int32) → (Nat → Int32) → Int32 × (Nat → Int32) × (Nat → Int32) := Nat.rec (motive := fun _ => Int32 → (Nat → Int32) → (Nat → Int32) → Int32 × (Nat → Int32) × (Nat → Int32)) (fun w_1l1 w_1m0 w_1m1 => (w_1l1, w_1m0, w_1m1)) (fun n ih w_1l1 w_1m0 w_1m1 => (if (w_1m0 3) ≤ w_1l1 then (w_1l1, w_1m0, w_1m1) else (match ((f_m_layCosts_12 f0 f10 f8 w_1l1 10 0 w_1m0 w_1m1) : Int32 × (Nat → Int32) × (Nat → Int32)) with | (w_3l2, w_3m0, w_3m1) => (ih (w_1l1 + 1) w_3m0 w_3m1)))) n
theorem f_m_layCosts_2_s (f0 : Nat → Int32) (f10 : Nat → Int32) (f8 : Nat → Int32) (n : Nat) (w_1l1 : Int32) (w_1m0 : (Nat → Int32)) (w_1m1 : (Nat → Int32)) : f_m_layCosts_2 f0 f10 f8 (n + 1) w_1l1 w_1m0 w_1m1 = (if (w_1m0 3) ≤ w_1l1 then (w_1l1, w_1m0, w_1m1) else (match ((f_m_layCosts_12 f0 f10 f8 w_1l1 10 0 w_1m0 w_1m1) : Int32 × (Nat → Int32) × (Nat → Int32)) with | (w_3l2, w_3m0, w_3m1) => (f_m_layCosts_2 f0 f10 f8 n (w_1l1 + 1) w_3m0 w_3m1))) := rfl
def S_m_layCosts_2 (f0 : Nat → Int32) (f10 : Nat → Int32) (f8 : Nat → Int32) (K : Int32 → (Nat → Int32) → (Nat → Int32) → Prop) (n : Nat) : Int32 → (Nat → Int32) → (Nat → Int32) → Prop := Nat.rec (motive := fun _ => Int32 → (Nat → Int32) → (Nat → Int32) → Prop) (fun _ _ _ => False) (fun n ih w_1l1 w_1m0 w_1m1 => (((w_1m0 3) ≤ w_1l1 → (K w_1l1 w_1m0 w_1m1)) ∧ (¬ (w_1m0 3) ≤ w_1l1 → (S_m_layCosts_12 f0 f10 f8 w_1l1 (fun (w_3l2 : Int32) (w_3m0 : (Nat → Int32)) (w_3m1 : (Nat → Int32)) => (ih (w_1l1 + 1) w_3m0 w_3m1)) 10 0 w_1m0 w_1m1)))) n
theorem S_m_layCosts_2_s (f0 : Nat → Int32) (f10 : Nat → Int32) (f8 : Nat → Int32) (K : Int32 → (Nat → Int32) → (Nat → Int32) → Prop) (n : Nat) (w_1l1 : Int32) (w_1m0 : (Nat → Int32)) (w_1m1 : (Nat → Int32)) : S_m_layCosts_2 f0 f10 f8 K (n + 1) w_1l1 w_1m0 w_1m1 = ((((w_1m0 3) ≤ w_1l1 → (K w_1l1 w_1m0 w_1m1)) ∧ (¬ (w_1m0 3) ≤ w_1l1 → (S_m_layCosts_12 f0 f10 f8 w_1l1 (fun (w_3l2 : Int32) (w_3m0 : (Nat → Int32)) (w_3m1 : (Nat → Int32)) => (S_m_layCosts_2 f0 f10 f8 K n (w_1l1 + 1) w_3m0 w_3m1)) 10 0 w_1m0 w_1m1)))) := rfl
noncomputable def f_m_layCosts (G : Nat → Int32) (f0 : Nat → Int32) (f10 : Nat → Int32) (f8 : Nat → Int32) (f37 : Nat → Int32) : (Nat → Int32) × (Nat → Int32) := (match ((f_m_layCosts_2 f0 f10 f8 10 0 G f37) : Int32 × (Nat → Int32) × (Nat → Int32)) with | (w_1l1, w_1m0, w_1m1) => (w_1m0, w_1m1))
def S_m_layCosts (G : Nat → Int32) (f0 : Nat → Int32) (f10 : Nat → Int32) (f8 : Nat → Int32) (f37 : Nat → Int32) : Prop := (S_m_layCosts_2 f0 f10 f8 (fun (w_1l1 : Int32) (w_1m0 : (Nat → Int32)) (w_1m1 : (Nat → Int32)) => True) 10 0 G f37)
def rm_m_layCosts : Room := { frames := 4, cells := 0, slots := 0, locals := 100 }
set_option maxHeartbeats 4000000 in
set_option maxRecDepth 100000 in
theorem m_layCosts {l : Launch} {D : va_G} {cI cZ : ClassId} {sz : Nat} (Rf : Nat → Nat) (h : Nat) (G : Nat → Int32) (f0 : Nat → Int32) (f10 : Nat → Int32) (f8 : Nat → Int32) (f37 : Nat → Int32) (hF : S_m_layCosts G f0 f10 f8 f37) : KV l yX10_layCosts cX10_layCosts 4 rm_m_layCosts D cI cZ [.ref h] sz [(h, .inr (10, ML G Rf)), ((Rf 0), .inl (cI, 1302, .inl f0)), ((Rf 10), .inl (cI, 30, .inl f10)), ((Rf 8), .inl (cI, 6, .inl f8)), ((Rf 37), .inl (cI, 36, .inl f37))] (fun (u : (Nat → Int32) × (Nat → Int32)) => u = f_m_layCosts G f0 f10 f8 f37) (fun (u : (Nat → Int32) × (Nat → Int32)) => [(h, .inr (10, ML u.1 Rf)), ((Rf 0), .inl (cI, 1302, .inl f0)), ((Rf 10), .inl (cI, 30, .inl f10)), ((Rf 8), .inl (cI, 6, .inl f8)), ((Rf 37), .inl (cI, 36, .inl u.2))]) := by
  refine KV.go rfl (Nat.le_of_ble_eq_true rfl) ?_
  intro p e s m args below meth c ls A Q hx hb hml hts hown hin hP hK hD hS hA hN hl hret
  have hl : lv_has ls 4 [(0, .ref h)] := hl
  rw [S_m_layCosts] at hF
  obtain ⟨RES, hE⟩ : ∃ xRES, f_m_layCosts G f0 f10 f8 f37 = xRES := ⟨_, rfl⟩
  rw [hE] at hret
  rw [f_m_layCosts] at hE
  refine lv_iconst (v := 0) hx hb dX10_layCosts_0 rfl ?_
  refine lv_istore_n (lv' := [(1, .int 0), (0, .ref h)]) hx hb dX10_layCosts_1 rfl hl (Nat.le_of_ble_eq_true rfl) rfl (fun ls hl => ?_)
  have ex_2_w_1 : ∀ (w_1l1 : Int32) (w_1m0 : (Nat → Int32)) (w_1m1 : (Nat → Int32)) (H : Heap) (locs : List Loc) (ls : Array Slot), va_P D classes [(h, .inr (10, ML w_1m0 Rf)), ((Rf 0), .inl (cI, 1302, .inl f0)), ((Rf 10), .inl (cI, 30, .inl f10)), ((Rf 8), .inl (cI, 6, .inl f8)), ((Rf 37), .inl (cI, 36, .inl w_1m1))] H → va_D A [(h, .inr (10, ML w_1m0 Rf)), ((Rf 0), .inl (cI, 1302, .inl f0)), ((Rf 10), .inl (cI, 30, .inl f10)), ((Rf 8), .inl (cI, 6, .inl f8)), ((Rf 37), .inl (cI, 36, .inl w_1m1))] → va_S A s.heap H locs → lv_has ls 4 [(1, .int w_1l1), (0, .ref h)] → (True) → (((w_1m0, w_1m1)) : (Nat → Int32) × (Nat → Int32)) = RES → W p l e rm_m_layCosts s m args below meth c H locs 0 0 Q (F0 m 65 ls []) := by
    intro w_1l1 w_1m0 w_1m1 H locs ls hP hD hS hl hF hE
    exact hret (w_1m0, w_1m1) _ _ _ _ dX10_layCosts_65 hE hP hD hS
  have lp_2_w_1 : ∀ (n_w_1 : Nat) (w_1l1 : Int32) (w_1m0 : (Nat → Int32)) (w_1m1 : (Nat → Int32)) (H : Heap) (locs : List Loc) (ls : Array Slot), va_P D classes [(h, .inr (10, ML w_1m0 Rf)), ((Rf 0), .inl (cI, 1302, .inl f0)), ((Rf 10), .inl (cI, 30, .inl f10)), ((Rf 8), .inl (cI, 6, .inl f8)), ((Rf 37), .inl (cI, 36, .inl w_1m1))] H → va_D A [(h, .inr (10, ML w_1m0 Rf)), ((Rf 0), .inl (cI, 1302, .inl f0)), ((Rf 10), .inl (cI, 30, .inl f10)), ((Rf 8), .inl (cI, 6, .inl f8)), ((Rf 37), .inl (cI, 36, .inl w_1m1))] → va_S A s.heap H locs → lv_has ls 4 [(1, .int w_1l1), (0, .ref h)] → (S_m_layCosts_2 f0 f10 f8 (fun (w_1l1 : Int32) (w_1m0 : (Nat → Int32)) (w_1m1 : (Nat → Int32)) => True) n_w_1 w_1l1 w_1m0 w_1m1) → ((match ((f_m_layCosts_2 f0 f10 f8 n_w_1 w_1l1 w_1m0 w_1m1) : Int32 × (Nat → Int32) × (Nat → Int32)) with | (w_1l1, w_1m0, w_1m1) => (w_1m0, w_1m1)) : (Nat → Int32) × (Nat → Int32)) = RES → W p l e rm_m_layCosts s m args below meth c H locs 0 0 Q (F0 m 2 ls []) := by
    intro n_w_1
    induction n_w_1 with
    | zero => intro w_1l1 w_1m0 w_1m1 H locs ls hP hD hS hl hF hE; exact False.elim hF
    | succ n_w_1 ih_w_1 =>
      intro w_1l1 w_1m0 w_1m1 H locs ls hP hD hS hl hF hE
      rw [S_m_layCosts_2_s] at hF
      rw [f_m_layCosts_2_s] at hE
      refine lv_iload_n hx hb dX10_layCosts_2 rfl (lv_at hl 0 rfl) ?_
      refine lv_aload_n hx hb dX10_layCosts_3 rfl (lv_at hl 1 rfl) ?_
      refine va_get (D := D) (ci := 10) (v := .int (w_1m0 3)) (C := RX10) (T := TX10) (N := 45) hx hb hts iX10 hown hK hP 0 rfl rfl 3 (Nat.le_of_ble_eq_true rfl) (hts _ wd_494) (fun _ h9 => h9) rfl dX10_layCosts_4 ?_
      refine lv_icmp_ge (tgt := 65) hx hb dX10_layCosts_7 rfl (fun c_2 => ?_) (fun c_2 => ?_)
      · replace hF := hF.1 c_2
        rw [if_pos c_2] at hE
        exact ex_2_w_1 w_1l1 w_1m0 w_1m1 _ _ ls hP hD hS (lv_sub hl [0, 1] rfl) hF hE
      · replace hF := hF.2 c_2
        rw [if_neg c_2] at hE
        refine lv_iconst (v := 0) hx hb dX10_layCosts_10 rfl ?_
        refine lv_istore_n (lv' := [(2, .int 0), (1, .int w_1l1), (0, .ref h)]) hx hb dX10_layCosts_11 rfl hl (Nat.le_of_ble_eq_true rfl) rfl (fun ls hl => ?_)
        have ex_12_w_3 : ∀ (w_3l2 : Int32) (w_3m0 : (Nat → Int32)) (w_3m1 : (Nat → Int32)) (H : Heap) (locs : List Loc) (ls : Array Slot), va_P D classes [(h, .inr (10, ML w_3m0 Rf)), ((Rf 0), .inl (cI, 1302, .inl f0)), ((Rf 10), .inl (cI, 30, .inl f10)), ((Rf 8), .inl (cI, 6, .inl f8)), ((Rf 37), .inl (cI, 36, .inl w_3m1))] H → va_D A [(h, .inr (10, ML w_3m0 Rf)), ((Rf 0), .inl (cI, 1302, .inl f0)), ((Rf 10), .inl (cI, 30, .inl f10)), ((Rf 8), .inl (cI, 6, .inl f8)), ((Rf 37), .inl (cI, 36, .inl w_3m1))] → va_S A s.heap H locs → lv_has ls 4 [(2, .int w_3l2), (1, .int w_1l1), (0, .ref h)] → ((S_m_layCosts_2 f0 f10 f8 (fun (w_1l1 : Int32) (w_1m0 : (Nat → Int32)) (w_1m1 : (Nat → Int32)) => True) n_w_1 (w_1l1 + 1) w_3m0 w_3m1)) → (((match ((f_m_layCosts_2 f0 f10 f8 n_w_1 (w_1l1 + 1) w_3m0 w_3m1) : Int32 × (Nat → Int32) × (Nat → Int32)) with | (w_1l1, w_1m0, w_1m1) => (w_1m0, w_1m1))) : (Nat → Int32) × (Nat → Int32)) = RES → W p l e rm_m_layCosts s m args below meth c H locs 0 0 Q (F0 m 59 ls []) := by
          intro w_3l2 w_3m0 w_3m1 H locs ls hP hD hS hl hF hE
          refine lv_iinc (v := (w_1l1 + 1)) (lv' := [(1, .int (w_1l1 + 1)), (2, .int w_3l2), (0, .ref h)]) hx hb dX10_layCosts_59 hl (k := 1) rfl rfl (Nat.le_of_ble_eq_true rfl) rfl (fun ls hl => ?_)
          refine lv_goto (tgt := 2) hx hb dX10_layCosts_62 rfl ?_
          exact ih_w_1 (w_1l1 + 1) w_3m0 w_3m1 _ _ ls hP hD hS (lv_sub hl [0, 2] rfl) hF hE
        have lp_12_w_3 : ∀ (n_w_3 : Nat) (w_3l2 : Int32) (w_3m0 : (Nat → Int32)) (w_3m1 : (Nat → Int32)) (H : Heap) (locs : List Loc) (ls : Array Slot), va_P D classes [(h, .inr (10, ML w_3m0 Rf)), ((Rf 0), .inl (cI, 1302, .inl f0)), ((Rf 10), .inl (cI, 30, .inl f10)), ((Rf 8), .inl (cI, 6, .inl f8)), ((Rf 37), .inl (cI, 36, .inl w_3m1))] H → va_D A [(h, .inr (10, ML w_3m0 Rf)), ((Rf 0), .inl (cI, 1302, .inl f0)), ((Rf 10), .inl (cI, 30, .inl f10)), ((Rf 8), .inl (cI, 6, .inl f8)), ((Rf 37), .inl (cI, 36, .inl w_3m1))] → va_S A s.heap H locs → lv_has ls 4 [(2, .int w_3l2), (1, .int w_1l1), (0, .ref h)] → (S_m_layCosts_12 f0 f10 f8 w_1l1 (fun (w_3l2 : Int32) (w_3m0 : (Nat → Int32)) (w_3m1 : (Nat → Int32)) => (S_m_layCosts_2 f0 f10 f8 (fun (w_1l1 : Int32) (w_1m0 : (Nat → Int32)) (w_1m1 : (Nat → Int32)) => True) n_w_1 (w_1l1 + 1) w_3m0 w_3m1)) n_w_3 w_3l2 w_3m0 w_3m1) → ((match ((match ((f_m_layCosts_12 f0 f10 f8 w_1l1 n_w_3 w_3l2 w_3m0 w_3m1) : Int32 × (Nat → Int32) × (Nat → Int32)) with | (w_3l2, w_3m0, w_3m1) => (f_m_layCosts_2 f0 f10 f8 n_w_1 (w_1l1 + 1) w_3m0 w_3m1)) : Int32 × (Nat → Int32) × (Nat → Int32)) with | (w_1l1, w_1m0, w_1m1) => (w_1m0, w_1m1)) : (Nat → Int32) × (Nat → Int32)) = RES → W p l e rm_m_layCosts s m args below meth c H locs 0 0 Q (F0 m 12 ls []) := by
          intro n_w_3
          induction n_w_3 with
          | zero => intro w_3l2 w_3m0 w_3m1 H locs ls hP hD hS hl hF hE; exact False.elim hF
          | succ n_w_3 ih_w_3 =>
            intro w_3l2 w_3m0 w_3m1 H locs ls hP hD hS hl hF hE
            rw [S_m_layCosts_12_s] at hF
            rw [f_m_layCosts_12_s] at hE
            refine lv_iload_n hx hb dX10_layCosts_12 rfl (lv_at hl 0 rfl) ?_
            refine lv_aload_n hx hb dX10_layCosts_13 rfl (lv_at hl 2 rfl) ?_
            refine va_get (D := D) (ci := 10) (v := .int (w_3m0 5)) (C := RX10) (T := TX10) (N := 45) hx hb hts iX10 hown hK hP 0 rfl rfl 5 (Nat.le_of_ble_eq_true rfl) (hts _ wd_499) (fun _ h9 => h9) rfl dX10_layCosts_14 ?_
            refine lv_icmp_ge (tgt := 59) hx hb dX10_layCosts_17 rfl (fun c_4 => ?_) (fun c_4 => ?_)
            · replace hF := hF.1 c_4
              rw [if_pos c_4] at hE
              exact ex_12_w_3 w_3l2 w_3m0 w_3m1 _ _ ls hP hD hS (lv_sub hl [0, 1, 2] rfl) hF hE
            · replace hF := hF.2 c_4
              rw [if_neg c_4] at hE
              refine lv_aload_n hx hb dX10_layCosts_20 rfl (lv_at hl 2 rfl) ?_
              refine lv_iload_n hx hb dX10_layCosts_21 rfl (lv_at hl 0 rfl) ?_
              refine lv_iload_n hx hb dX10_layCosts_22 rfl (lv_at hl 1 rfl) ?_
              obtain ⟨hs_5, hF⟩ := hF
              refine cVi (wr := [((Rf 37), .inl (cI, 36, .inl w_3m1))]) (rest := []) (m_best Rf h w_3m0 f0 f10 f8 w_3l2 w_1l1 hs_5) okV_X10_best wd_657 hx hb hml hown hts hK hP hD hS hA hN hl.1 [0, 1, 2, 3] [4] rfl rfl rfl rfl (of_decide_eq_true rfl) rfl rfl rfl (Nat.le_of_ble_eq_true rfl) (Nat.le_of_ble_eq_true rfl) (Nat.le_of_ble_eq_true rfl) (Nat.le_of_ble_eq_true rfl) (Nat.le_of_ble_eq_true rfl) dX10_layCosts_23 (fun r_7 u_6 H locs hw_u_6 hP hD hS => ?_)
              replace hw_u_6 : (r_7, u_6) = (f_m_best w_3m0 f0 f10 f8 w_3l2 w_1l1) := hw_u_6
              replace hF := hF r_7 u_6 hw_u_6
              rw [← hw_u_6] at hE
              replace hE : ((match ((match ((if r_7 = (-1) then (f_m_layCosts_12 f0 f10 f8 w_1l1 n_w_3 (w_3l2 + 1) u_6 (upd w_3m1 (((6 * w_1l1) + w_3l2) : Int32).toNatClampNeg 1000000000)) else (f_m_layCosts_12 f0 f10 f8 w_1l1 n_w_3 (w_3l2 + 1) u_6 (upd w_3m1 (((6 * w_1l1) + w_3l2) : Int32).toNatClampNeg (u_6 35)))) : Int32 × (Nat → Int32) × (Nat → Int32)) with | (w_3l2, w_3m0, w_3m1) => (f_m_layCosts_2 f0 f10 f8 n_w_1 (w_1l1 + 1) w_3m0 w_3m1)) : Int32 × (Nat → Int32) × (Nat → Int32)) with | (w_1l1, w_1m0, w_1m1) => (w_1m0, w_1m1)) : (Nat → Int32) × (Nat → Int32)) = RES := hE
              have hP : va_P D classes [((Rf 37), .inl (cI, 36, .inl w_3m1)), (h, .inr (10, ML u_6 Rf)), ((Rf 0), .inl (cI, 1302, .inl f0)), ((Rf 10), .inl (cI, 30, .inl f10)), ((Rf 8), .inl (cI, 6, .inl f8))] H := hP
              have hD : va_D A [((Rf 37), .inl (cI, 36, .inl w_3m1)), (h, .inr (10, ML u_6 Rf)), ((Rf 0), .inl (cI, 1302, .inl f0)), ((Rf 10), .inl (cI, 30, .inl f10)), ((Rf 8), .inl (cI, 6, .inl f8))] := hD
              refine lv_istore_n (lv' := [(3, .int r_7), (2, .int w_3l2), (1, .int w_1l1), (0, .ref h)]) hx hb dX10_layCosts_26 rfl hl (Nat.le_of_ble_eq_true rfl) rfl (fun ls hl => ?_)
              refine lv_aload_n hx hb dX10_layCosts_27 rfl (lv_at hl 3 rfl) ?_
              refine va_get (D := D) (ci := 10) (v := .ref (Rf 37)) (C := RX10) (T := TX10) (N := 45) hx hb hts iX10 hown hK hP 1 rfl rfl 37 (Nat.le_of_ble_eq_true rfl) (hts _ wd_672) (fun _ h9 => h9) rfl dX10_layCosts_28 ?_
              refine lv_bipush (v := 6) hx hb dX10_layCosts_31 rfl ?_
              refine lv_iload_n hx hb dX10_layCosts_33 rfl (lv_at hl 2 rfl) ?_
              refine lv_imul hx hb dX10_layCosts_34 ?_
              refine lv_iload_n hx hb dX10_layCosts_35 rfl (lv_at hl 1 rfl) ?_
              refine lv_iadd hx hb dX10_layCosts_36 ?_
              refine lv_iload_n hx hb dX10_layCosts_37 rfl (lv_at hl 0 rfl) ?_
              refine lv_iconst (v := (-1)) hx hb dX10_layCosts_38 rfl ?_
              refine lv_icmp_ne (tgt := 48) hx hb dX10_layCosts_39 rfl (fun c_8 => ?_) (fun c_8 => ?_)
              · replace hF := hF.2 c_8
                rw [if_neg c_8] at hE
                refine lv_aload_n hx hb dX10_layCosts_48 rfl (lv_at hl 3 rfl) ?_
                refine va_get (D := D) (ci := 10) (v := .int (u_6 35)) (C := RX10) (T := TX10) (N := 45) hx hb hts iX10 hown hK hP 1 rfl rfl 35 (Nat.le_of_ble_eq_true rfl) (hts _ wd_656) (fun _ h9 => h9) rfl dX10_layCosts_49 ?_
                obtain ⟨hv_9, hF⟩ := hF
                refine va_iast hx hb hK hP hD hS 0 0 rfl rfl hv_9 dX10_layCosts_52 (fun H locs hP hD hS => ?_)
                have hP : va_P D classes [((Rf 37), .inl (cI, 36, .inl (upd w_3m1 (((6 * w_1l1) + w_3l2) : Int32).toNatClampNeg (u_6 35)))), (h, .inr (10, ML u_6 Rf)), ((Rf 0), .inl (cI, 1302, .inl f0)), ((Rf 10), .inl (cI, 30, .inl f10)), ((Rf 8), .inl (cI, 6, .inl f8))] H := hP
                have hD : va_D A [((Rf 37), .inl (cI, 36, .inl (upd w_3m1 (((6 * w_1l1) + w_3l2) : Int32).toNatClampNeg (u_6 35)))), (h, .inr (10, ML u_6 Rf)), ((Rf 0), .inl (cI, 1302, .inl f0)), ((Rf 10), .inl (cI, 30, .inl f10)), ((Rf 8), .inl (cI, 6, .inl f8))] := hD
                refine lv_iinc (v := (w_3l2 + 1)) (lv' := [(2, .int (w_3l2 + 1)), (3, .int r_7), (1, .int w_1l1), (0, .ref h)]) hx hb dX10_layCosts_53 hl (k := 1) rfl rfl (Nat.le_of_ble_eq_true rfl) rfl (fun ls hl => ?_)
                refine lv_goto (tgt := 12) hx hb dX10_layCosts_56 rfl ?_
                exact ih_w_3 (w_3l2 + 1) u_6 (upd w_3m1 (((6 * w_1l1) + w_3l2) : Int32).toNatClampNeg (u_6 35)) _ _ ls (cutP (isC := [1, 2, 3, 4, 0]) hP rfl) (cutD (isC := [1, 2, 3, 4, 0]) hD rfl rfl) hS (lv_sub hl [0, 2, 3] rfl) hF hE
              · replace hF := hF.1 c_8
                rw [if_pos c_8] at hE
                subst c_8
                refine lv_ldcw (v := 1000000000) hx hb hown (hts _ wd_651) dX10_layCosts_42 ?_
                refine lv_goto (tgt := 52) hx hb dX10_layCosts_45 rfl ?_
                obtain ⟨hv_10, hF⟩ := hF
                refine va_iast hx hb hK hP hD hS 0 0 rfl rfl hv_10 dX10_layCosts_52 (fun H locs hP hD hS => ?_)
                have hP : va_P D classes [((Rf 37), .inl (cI, 36, .inl (upd w_3m1 (((6 * w_1l1) + w_3l2) : Int32).toNatClampNeg 1000000000))), (h, .inr (10, ML u_6 Rf)), ((Rf 0), .inl (cI, 1302, .inl f0)), ((Rf 10), .inl (cI, 30, .inl f10)), ((Rf 8), .inl (cI, 6, .inl f8))] H := hP
                have hD : va_D A [((Rf 37), .inl (cI, 36, .inl (upd w_3m1 (((6 * w_1l1) + w_3l2) : Int32).toNatClampNeg 1000000000))), (h, .inr (10, ML u_6 Rf)), ((Rf 0), .inl (cI, 1302, .inl f0)), ((Rf 10), .inl (cI, 30, .inl f10)), ((Rf 8), .inl (cI, 6, .inl f8))] := hD
                refine lv_iinc (v := (w_3l2 + 1)) (lv' := [(2, .int (w_3l2 + 1)), (3, .int (-1)), (1, .int w_1l1), (0, .ref h)]) hx hb dX10_layCosts_53 hl (k := 1) rfl rfl (Nat.le_of_ble_eq_true rfl) rfl (fun ls hl => ?_)
                refine lv_goto (tgt := 12) hx hb dX10_layCosts_56 rfl ?_
                exact ih_w_3 (w_3l2 + 1) u_6 (upd w_3m1 (((6 * w_1l1) + w_3l2) : Int32).toNatClampNeg 1000000000) _ _ ls (cutP (isC := [1, 2, 3, 4, 0]) hP rfl) (cutD (isC := [1, 2, 3, 4, 0]) hD rfl rfl) hS (lv_sub hl [0, 2, 3] rfl) hF hE
        exact lp_12_w_3 10 0 w_1m0 w_1m1 _ _ ls hP hD hS hl hF hE
  exact lp_2_w_1 10 0 G f37 _ _ ls hP hD hS hl hF hE
end
