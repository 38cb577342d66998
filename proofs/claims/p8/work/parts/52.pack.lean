section
theorem dX10_drift_0 : decode cX10_drift 0 = .ok (.iload_n 1, 1) := by decide +kernel
theorem dX10_drift_1 : decode cX10_drift 1 = .ok (.i2l, 1) := by decide +kernel
theorem dX10_drift_2 : decode cX10_drift 2 = .ok (.lconst 1, 1) := by decide +kernel
theorem dX10_drift_3 : decode cX10_drift 3 = .ok (.ldc2_w 245, 3) := by decide +kernel
theorem dX10_drift_6 : decode cX10_drift 6 = .ok (.invokestatic 84, 3) := by decide +kernel
theorem dX10_drift_9 : decode cX10_drift 9 = .ok (.ifCond .ne 6, 3) := by decide +kernel
theorem dX10_drift_15 : decode cX10_drift 15 = .ok (.aload_n 0, 1) := by decide +kernel
theorem dX10_drift_16 : decode cX10_drift 16 = .ok (.getfield 78, 3) := by decide +kernel
theorem dX10_drift_19 : decode cX10_drift 19 = .ok (.ifCond .ne 6, 3) := by decide +kernel
theorem dX10_drift_25 : decode cX10_drift 25 = .ok (.aload_n 0, 1) := by decide +kernel
theorem dX10_drift_26 : decode cX10_drift 26 = .ok (.getfield 7, 3) := by decide +kernel
theorem dX10_drift_29 : decode cX10_drift 29 = .ok (.bipush 19, 2) := by decide +kernel
theorem dX10_drift_31 : decode cX10_drift 31 = .ok (.iaload, 1) := by decide +kernel
theorem wd_604 : Cond.constant RX10 241 (90000) ∈ BG := BG_at 1067 (by decide +kernel) rfl
theorem dX10_drift_32 : decode cX10_drift 32 = .ok (.ldc 241, 2) := by decide +kernel
theorem dX10_drift_34 : decode cX10_drift 34 = .ok (.if_icmp .le 6, 3) := by decide +kernel
theorem dX10_drift_40 : decode cX10_drift 40 = .ok (.aload_n 0, 1) := by decide +kernel
theorem dX10_drift_41 : decode cX10_drift 41 = .ok (.invokevirtual 234, 3) := by decide +kernel
theorem dX10_drift_44 : decode cX10_drift 44 = .ok (.iconst 0, 1) := by decide +kernel
theorem dX10_drift_45 : decode cX10_drift 45 = .ok (.istore_n 2, 1) := by decide +kernel
theorem dX10_drift_88 : decode cX10_drift 88 = .ok (.aload_n 0, 1) := by decide +kernel
theorem dX10_drift_89 : decode cX10_drift 89 = .ok (.getfield 7, 3) := by decide +kernel
theorem dX10_drift_92 : decode cX10_drift 92 = .ok (.bipush 19, 2) := by decide +kernel
theorem dX10_drift_94 : decode cX10_drift 94 = .ok (.iaload, 1) := by decide +kernel
theorem dX10_drift_95 : decode cX10_drift 95 = .ok (.ireturn, 1) := by decide +kernel
theorem dX10_drift_46 : decode cX10_drift 46 = .ok (.iload_n 2, 1) := by decide +kernel
theorem dX10_drift_47 : decode cX10_drift 47 = .ok (.iload_n 1, 1) := by decide +kernel
theorem dX10_drift_48 : decode cX10_drift 48 = .ok (.if_icmp .ge 40, 3) := by decide +kernel
theorem dX10_drift_51 : decode cX10_drift 51 = .ok (.aload_n 0, 1) := by decide +kernel
theorem dX10_drift_52 : decode cX10_drift 52 = .ok (.aload_n 0, 1) := by decide +kernel
theorem dX10_drift_53 : decode cX10_drift 53 = .ok (.getfield 78, 3) := by decide +kernel
theorem dX10_drift_56 : decode cX10_drift 56 = .ok (.invokevirtual 257, 3) := by decide +kernel
theorem wd_605 : Cond.methodLink RX10 257 yX10_draw ∈ BG := BG_at 1093 (by decide +kernel) rfl
theorem wd_606 : Cond.code yX10_draw cX10_draw 2 (some .int) ∈ BG := BG_at 1096 (by decide +kernel) rfl
theorem wd_607 : Cond.instanceMethod yX10_draw ∈ BG := BG_at 1095 (by decide +kernel) rfl
theorem wd_608 : Cond.selects RX10 yX10_draw yX10_draw ∈ BG := BG_in (by decide +kernel) rfl
theorem okV_X10_draw : okV yX10_draw cX10_draw 2 (some .int) 1 := ⟨⟨wd_606, wd_497, by decide +kernel⟩, wd_607, wd_608⟩
theorem dX10_drift_59 : decode cX10_drift 59 = .ok (.istore_n 3, 1) := by decide +kernel
theorem dX10_drift_60 : decode cX10_drift 60 = .ok (.aload_n 0, 1) := by decide +kernel
theorem dX10_drift_61 : decode cX10_drift 61 = .ok (.iload_n 3, 1) := by decide +kernel
theorem dX10_drift_62 : decode cX10_drift 62 = .ok (.aload_n 0, 1) := by decide +kernel
theorem dX10_drift_63 : decode cX10_drift 63 = .ok (.bipush 10, 2) := by decide +kernel
theorem dX10_drift_65 : decode cX10_drift 65 = .ok (.invokevirtual 257, 3) := by decide +kernel
theorem dX10_drift_68 : decode cX10_drift 68 = .ok (.invokevirtual 247, 3) := by decide +kernel
theorem dX10_drift_71 : decode cX10_drift 71 = .ok (.aload_n 0, 1) := by decide +kernel
theorem dX10_drift_72 : decode cX10_drift 72 = .ok (.getfield 7, 3) := by decide +kernel
theorem dX10_drift_75 : decode cX10_drift 75 = .ok (.bipush 19, 2) := by decide +kernel
theorem dX10_drift_77 : decode cX10_drift 77 = .ok (.dup2, 1) := by decide +kernel
theorem dX10_drift_78 : decode cX10_drift 78 = .ok (.iaload, 1) := by decide +kernel
theorem dX10_drift_79 : decode cX10_drift 79 = .ok (.iconst 1, 1) := by decide +kernel
theorem dX10_drift_80 : decode cX10_drift 80 = .ok (.iadd, 1) := by decide +kernel
theorem dX10_drift_81 : decode cX10_drift 81 = .ok (.iastore, 1) := by decide +kernel
theorem dX10_drift_82 : decode cX10_drift 82 = .ok (.iinc 2 1, 3) := by decide +kernel
theorem dX10_drift_85 : decode cX10_drift 85 = .ok (.goto (-39), 3) := by decide +kernel
theorem dX10_drift_37 : decode cX10_drift 37 = .ok (.ldc 97, 2) := by decide +kernel
theorem dX10_drift_39 : decode cX10_drift 39 = .ok (.ireturn, 1) := by decide +kernel
theorem dX10_drift_22 : decode cX10_drift 22 = .ok (.ldc 233, 2) := by decide +kernel
theorem dX10_drift_24 : decode cX10_drift 24 = .ok (.ireturn, 1) := by decide +kernel
theorem dX10_drift_12 : decode cX10_drift 12 = .ok (.ldc 93, 2) := by decide +kernel
theorem dX10_drift_14 : decode cX10_drift 14 = .ok (.ireturn, 1) := by decide +kernel
noncomputable def f_m_drift_46 (n_ : Int32) (n : Nat) : Int32 → (Nat → Int32) → (Nat → Int32) → Int32 × (Nat → Int32) × (Nat → Int32) := Nat.rec (motive := fun _ => Int32 → (Nat → Int32) → (Nat → Int32) → Int32 × (Nat → Int32) × (Nat → Int32)) (fun w_12l2 w_12m0 w_12m1 => (w_12l2, w_12m0, w_12m1)) (fun n ih w_12l2 w_12m0 w_12m1 => (if n_ ≤ w_12l2 then (w_12l2, w_12m0, w_12m1) else (match (f_m_draw w_12m1 (w_12m0 5)) with | (r_16, u_15) => (match (f_m_draw u_15 10) with | (r_19, u_18) => (ih (w_12l2 + 1) w_12m0 (upd (f_m_grieves u_18 r_16 r_19) (19 : Int32).toNatClampNeg (((f_m_grieves u_18 r_16 r_19) (19 : Int32).toNatClampNeg) + 1))))))) n
theorem f_m_drift_46_s (n_ : Int32) (n : Nat) (w_12l2 : Int32) (w_12m0 : (Nat → Int32)) (w_12m1 : (Nat → Int32)) : f_m_drift_46 n_ (n + 1) w_12l2 w_12m0 w_12m1 = (if n_ ≤ w_12l2 then (w_12l2, w_12m0, w_12m1) else (match (f_m_draw w_12m1 (w_12m0 5)) with | (r_16, u_15) => (match (f_m_draw u_15 10) with | (r_19, u_18) => (f_m_drift_46 n_ n (w_12l2 + 1) w_12m0 (upd (f_m_grieves u_18 r_16 r_19) (19 : Int32).toNatClampNeg (((f_m_grieves u_18 r_16 r_19) (19 : Int32).toNatClampNeg) + 1)))))) := rfl
def S_m_drift_46 (n_ : Int32) (K : Int32 → (Nat → Int32) → (Nat → Int32) → Prop) (n : Nat) : Int32 → (Nat → Int32) → (Nat → Int32) → Prop := Nat.rec (motive := fun _ => Int32 → (Nat → Int32) → (Nat → Int32) → Prop) (fun _ _ _ => True) (fun n ih w_12l2 w_12m0 w_12m1 => ((n_ ≤ w_12l2 → (K w_12l2 w_12m0 w_12m1)) ∧ (¬ n_ ≤ w_12l2 → ((S_m_draw w_12m1 (w_12m0 5)) ∧ (∀ (r_16 : Int32) (u_15 : (Nat → Int32)), (r_16, u_15) = (f_m_draw w_12m1 (w_12m0 5)) → ((S_m_draw u_15 10) ∧ (∀ (r_19 : Int32) (u_18 : (Nat → Int32)), (r_19, u_18) = (f_m_draw u_15 10) → ((S_m_grieves u_18 r_16 r_19) ∧ (ih (w_12l2 + 1) w_12m0 (upd (f_m_grieves u_18 r_16 r_19) (19 : Int32).toNatClampNeg (((f_m_grieves u_18 r_16 r_19) (19 : Int32).toNatClampNeg) + 1))))))))))) n
theorem S_m_drift_46_s (n_ : Int32) (K : Int32 → (Nat → Int32) → (Nat → Int32) → Prop) (n : Nat) (w_12l2 : Int32) (w_12m0 : (Nat → Int32)) (w_12m1 : (Nat → Int32)) : S_m_drift_46 n_ K (n + 1) w_12l2 w_12m0 w_12m1 = (((n_ ≤ w_12l2 → (K w_12l2 w_12m0 w_12m1)) ∧ (¬ n_ ≤ w_12l2 → ((S_m_draw w_12m1 (w_12m0 5)) ∧ (∀ (r_16 : Int32) (u_15 : (Nat → Int32)), (r_16, u_15) = (f_m_draw w_12m1 (w_12m0 5)) → ((S_m_draw u_15 10) ∧ (∀ (r_19 : Int32) (u_18 : (Nat → Int32)), (r_19, u_18) = (f_m_draw u_15 10) → ((S_m_grieves u_18 r_16 r_19) ∧ (S_m_drift_46 n_ K n (w_12l2 + 1) w_12m0 (upd (f_m_grieves u_18 r_16 r_19) (19 : Int32).toNatClampNeg (((f_m_grieves u_18 r_16 r_19) (19 : Int32).toNatClampNeg) + 1))))))))))) := rfl
noncomputable def f_m_drift (G : Nat → Int32) (f0 : Nat → Int32) (n_ : Int32) : Int32 × (Nat → Int32) × (Nat → Int32) := (if (f_m_in n_.toInt64 1 99) = 0 then ((-1000000002), G, f0) else (if (G 5) = 0 then ((-1000000003), G, f0) else (if (f0 (19 : Int32).toNatClampNeg) ≤ 90000 then (match (f_m_minds G f0) with | (o_10, o_11) => (match ((f_m_drift_46 n_ (((n_ : Int32).toInt - (0 : Int32).toInt).toNat + 1) 0 o_10 o_11) : Int32 × (Nat → Int32) × (Nat → Int32)) with | (w_12l2, w_12m0, w_12m1) => ((w_12m1 (19 : Int32).toNatClampNeg), w_12m0, w_12m1))) else ((-1000000004), G, f0))))
def S_m_drift (G : Nat → Int32) (f0 : Nat → Int32) (n_ : Int32) : Prop := ((S_m_in n_.toInt64 1 99) ∧ (((f_m_in n_.toInt64 1 99) = 0 → True) ∧ (¬ (f_m_in n_.toInt64 1 99) = 0 → (((G 5) = 0 → True) ∧ (¬ (G 5) = 0 → (((f0 (19 : Int32).toNatClampNeg) ≤ 90000 → ((S_m_minds G f0) ∧ (∀ (o_10 : (Nat → Int32)) (o_11 : (Nat → Int32)), (o_10, o_11) = (f_m_minds G f0) → (S_m_drift_46 n_ (fun (w_12l2 : Int32) (w_12m0 : (Nat → Int32)) (w_12m1 : (Nat → Int32)) => True) (((n_ : Int32).toInt - (0 : Int32).toInt).toNat + 1) 0 o_10 o_11)))) ∧ (¬ (f0 (19 : Int32).toNatClampNeg) ≤ 90000 → True)))))))
def rm_m_drift : Room := { frames := 3, cells := 0, slots := 0, locals := 65 }
set_option maxHeartbeats 4000000 in
set_option maxRecDepth 100000 in
theorem m_drift {l : Launch} {D : va_G} {cI cZ : ClassId} {sz : Nat} (Rf : Nat → Nat) (h : Nat) (G : Nat → Int32) (f0 : Nat → Int32) (n_ : Int32) (hF : S_m_drift G f0 n_) : KI l yX10_drift cX10_drift 4 (some .int) rm_m_drift D cI cZ [.ref h, .int n_] sz [(h, .inr (10, ML G Rf)), ((Rf 0), .inl (cI, 1302, .inl f0))] (fun (r : Int32) (u : (Nat → Int32) × (Nat → Int32)) => (r, u) = f_m_drift G f0 n_) (fun (u : (Nat → Int32) × (Nat → Int32)) => [(h, .inr (10, ML u.1 Rf)), ((Rf 0), .inl (cI, 1302, .inl u.2))]) := by
  refine KI.go rfl (Nat.le_of_ble_eq_true rfl) ?_
  intro p e s m args below meth c ls A Q hx hb hml hts hown hin hP hK hD hS hA hN hl hret
  have hl : lv_has ls 4 [(0, .ref h), (1, .int n_)] := hl
  rw [S_m_drift] at hF
  obtain ⟨RES, hE⟩ : ∃ xRES, f_m_drift G f0 n_ = xRES := ⟨_, rfl⟩
  rw [hE] at hret
  rw [f_m_drift] at hE
  refine lv_iload_n hx hb dX10_drift_0 rfl (lv_at hl 1 rfl) ?_
  refine lv_i2l (v := n_.toInt64) hx hb dX10_drift_1 rfl ?_
  refine lv_lconst (v := 1) hx hb dX10_drift_2 (by decide) ?_
  refine lv_ldc2 (v := 99) hx hb hown (hts _ wd_599) dX10_drift_3 ?_
  obtain ⟨hs_1, hF⟩ := hF
  refine cSi (wr := [(h, .inr (10, ML G Rf)), ((Rf 0), .inl (cI, 1302, .inl f0))]) (rest := []) (m_in n_.toInt64 1 99 hs_1) okS_X10_in wd_495 hx hb hml hown hts hK hP hD hS hA hN hl.1 [] [0, 1] rfl rfl rfl rfl (by decide) rfl (Nat.le_of_ble_eq_true rfl) (Nat.le_of_ble_eq_true rfl) (Nat.le_of_ble_eq_true rfl) (Nat.le_of_ble_eq_true rfl) (Nat.le_of_ble_eq_true rfl) dX10_drift_6 (fun r_3 u_2 H locs hw_u_2 hP hD hS => ?_)
  replace hw_u_2 : r_3 = (f_m_in n_.toInt64 1 99) := hw_u_2
  rw [hw_u_2]
  clear hw_u_2
  have hP : va_P D classes [(h, .inr (10, ML G Rf)), ((Rf 0), .inl (cI, 1302, .inl f0))] H := hP
  have hD : va_D A [(h, .inr (10, ML G Rf)), ((Rf 0), .inl (cI, 1302, .inl f0))] := hD
  refine lv_if_ne (tgt := 15) hx hb dX10_drift_9 (by decide) (fun c_4 => ?_) (fun c_4 => ?_)
  · replace hF := hF.2 c_4
    rw [if_neg c_4] at hE
    refine lv_aload_n hx hb dX10_drift_15 rfl (lv_at hl 0 rfl) ?_
    refine va_get (D := D) (ci := 10) (v := .int (G 5)) (C := RX10) (T := TX10) (N := 45) hx hb hts iX10 hown hK hP 0 rfl rfl 5 (by decide) (hts _ wd_499) (fun _ h9 => h9) rfl dX10_drift_16 ?_
    refine lv_if_ne (tgt := 25) hx hb dX10_drift_19 (by decide) (fun c_5 => ?_) (fun c_5 => ?_)
    · replace hF := hF.2 c_5
      rw [if_neg c_5] at hE
      refine lv_aload_n hx hb dX10_drift_25 rfl (lv_at hl 0 rfl) ?_
      refine va_get (D := D) (ci := 10) (v := .ref (Rf 0)) (C := RX10) (T := TX10) (N := 45) hx hb hts iX10 hown hK hP 0 rfl rfl 0 (by decide) (hts _ wd_491) (fun _ h9 => h9) rfl dX10_drift_26 ?_
      refine lv_bipush (v := 19) hx hb dX10_drift_29 (by decide) ?_
      refine va_iald hx hb hK hP 1 0 rfl rfl (show ¬ ((19 : Int32) < 0 ∨ 1302 ≤ (19 : Int32).toNatClampNeg) by decide +kernel) dX10_drift_31 ?_
      refine lv_ldc (v := 90000) hx hb hown (hts _ wd_604) dX10_drift_32 ?_
      refine lv_icmp_le (tgt := 40) hx hb dX10_drift_34 (by decide) (fun c_6 => ?_) (fun c_6 => ?_)
      · replace hF := hF.1 c_6
        rw [if_pos c_6] at hE
        refine lv_aload_n hx hb dX10_drift_40 rfl (lv_at hl 0 rfl) ?_
        obtain ⟨hs_7, hF⟩ := hF
        refine cVv (wr := []) (rest := []) (m_minds Rf h G f0 hs_7) okV_X10_minds wd_595 hx hb hml hown hts hK hP hD hS hA hN hl.1 [0, 1] [] rfl rfl rfl rfl (by decide) rfl rfl rfl (Nat.le_of_ble_eq_true rfl) (Nat.le_of_ble_eq_true rfl) (Nat.le_of_ble_eq_true rfl) (Nat.le_of_ble_eq_true rfl) (Nat.le_of_ble_eq_true rfl) dX10_drift_41 (fun u_8 H locs hw_u_8 hP hD hS => ?_)
        obtain ⟨o_10, o_11⟩ := u_8
        replace hw_u_8 : (o_10, o_11) = (f_m_minds G f0) := hw_u_8
        replace hF := hF o_10 o_11 hw_u_8
        rw [← hw_u_8] at hE
        replace hE : ((match ((f_m_drift_46 n_ (((n_ : Int32).toInt - (0 : Int32).toInt).toNat + 1) 0 o_10 o_11) : Int32 × (Nat → Int32) × (Nat → Int32)) with | (w_12l2, w_12m0, w_12m1) => ((w_12m1 (19 : Int32).toNatClampNeg), w_12m0, w_12m1)) : Int32 × (Nat → Int32) × (Nat → Int32)) = RES := hE
        have hP : va_P D classes [(h, .inr (10, ML o_10 Rf)), ((Rf 0), .inl (cI, 1302, .inl o_11))] H := hP
        have hD : va_D A [(h, .inr (10, ML o_10 Rf)), ((Rf 0), .inl (cI, 1302, .inl o_11))] := hD
        refine lv_iconst (v := 0) hx hb dX10_drift_44 (by decide) ?_
        refine lv_istore_n (lv' := [(2, .int 0), (0, .ref h), (1, .int n_)]) hx hb dX10_drift_45 rfl hl (by decide) rfl (fun ls hl => ?_)
        have ex_46_w_12 : ∀ (w_12l2 : Int32) (w_12m0 : (Nat → Int32)) (w_12m1 : (Nat → Int32)) (H : Heap) (locs : List Loc) (ls : Array Slot), va_P D classes [(h, .inr (10, ML w_12m0 Rf)), ((Rf 0), .inl (cI, 1302, .inl w_12m1))] H → va_D A [(h, .inr (10, ML w_12m0 Rf)), ((Rf 0), .inl (cI, 1302, .inl w_12m1))] → va_S A s.heap H locs → lv_has ls 4 [(2, .int w_12l2), (0, .ref h), (1, .int n_)] → (True) → ((((w_12m1 (19 : Int32).toNatClampNeg), w_12m0, w_12m1)) : Int32 × (Nat → Int32) × (Nat → Int32)) = RES → W p l e rm_m_drift s m args below meth c H locs 0 0 Q (F0 m 88 ls []) := by
          intro w_12l2 w_12m0 w_12m1 H locs ls hP hD hS hl hF hE
          refine lv_aload_n hx hb dX10_drift_88 rfl (lv_at hl 1 rfl) ?_
          refine va_get (D := D) (ci := 10) (v := .ref (Rf 0)) (C := RX10) (T := TX10) (N := 45) hx hb hts iX10 hown hK hP 0 rfl rfl 0 (by decide) (hts _ wd_491) (fun _ h9 => h9) rfl dX10_drift_89 ?_
          refine lv_bipush (v := 19) hx hb dX10_drift_92 (by decide) ?_
          refine va_iald hx hb hK hP 1 0 rfl rfl (show ¬ ((19 : Int32) < 0 ∨ 1302 ≤ (19 : Int32).toNatClampNeg) by decide +kernel) dX10_drift_94 ?_
          exact hret (w_12m1 (19 : Int32).toNatClampNeg) (w_12m0, w_12m1) _ _ _ _ dX10_drift_95 rfl hE hP hD hS
        have lp_46_w_12 : ∀ (n_w_12 : Nat) (w_12l2 : Int32) (w_12m0 : (Nat → Int32)) (w_12m1 : (Nat → Int32)) (H : Heap) (locs : List Loc) (ls : Array Slot), va_P D classes [(h, .inr (10, ML w_12m0 Rf)), ((Rf 0), .inl (cI, 1302, .inl w_12m1))] H → va_D A [(h, .inr (10, ML w_12m0 Rf)), ((Rf 0), .inl (cI, 1302, .inl w_12m1))] → va_S A s.heap H locs → lv_has ls 4 [(2, .int w_12l2), (0, .ref h), (1, .int n_)] → (S_m_drift_46 n_ (fun (w_12l2 : Int32) (w_12m0 : (Nat → Int32)) (w_12m1 : (Nat → Int32)) => True) n_w_12 w_12l2 w_12m0 w_12m1) → ((n_ : Int32).toInt - (w_12l2 : Int32).toInt).toNat < n_w_12 → ((match ((f_m_drift_46 n_ n_w_12 w_12l2 w_12m0 w_12m1) : Int32 × (Nat → Int32) × (Nat → Int32)) with | (w_12l2, w_12m0, w_12m1) => ((w_12m1 (19 : Int32).toNatClampNeg), w_12m0, w_12m1)) : Int32 × (Nat → Int32) × (Nat → Int32)) = RES → W p l e rm_m_drift s m args below meth c H locs 0 0 Q (F0 m 46 ls []) := by
          intro n_w_12
          induction n_w_12 with
          | zero => intro w_12l2 w_12m0 w_12m1 H locs ls hP hD hS hl hF hm; exact absurd hm (Nat.not_lt_zero _)
          | succ n_w_12 ih_w_12 =>
            intro w_12l2 w_12m0 w_12m1 H locs ls hP hD hS hl hF hm hE
            rw [S_m_drift_46_s] at hF
            rw [f_m_drift_46_s] at hE
            refine lv_iload_n hx hb dX10_drift_46 rfl (lv_at hl 0 rfl) ?_
            refine lv_iload_n hx hb dX10_drift_47 rfl (lv_at hl 2 rfl) ?_
            refine lv_icmp_ge (tgt := 88) hx hb dX10_drift_48 (by decide) (fun c_13 => ?_) (fun c_13 => ?_)
            · replace hF := hF.1 c_13
              rw [if_pos c_13] at hE
              exact ex_46_w_12 w_12l2 w_12m0 w_12m1 _ _ ls hP hD hS (lv_sub hl [0, 1, 2] rfl) hF hE
            · replace hF := hF.2 c_13
              rw [if_neg c_13] at hE
              refine lv_aload_n hx hb dX10_drift_51 rfl (lv_at hl 1 rfl) ?_
              refine lv_aload_n hx hb dX10_drift_52 rfl (lv_at hl 1 rfl) ?_
              refine va_get (D := D) (ci := 10) (v := .int (w_12m0 5)) (C := RX10) (T := TX10) (N := 45) hx hb hts iX10 hown hK hP 0 rfl rfl 5 (by decide) (hts _ wd_499) (fun _ h9 => h9) rfl dX10_drift_53 ?_
              obtain ⟨hs_14, hF⟩ := hF
              refine cVi (wr := []) (rest := []) (m_draw Rf h w_12m0 w_12m1 (w_12m0 5) hs_14) okV_X10_draw wd_605 hx hb hml hown hts hK hP hD hS hA hN hl.1 [0, 1] [] rfl rfl rfl rfl (by decide) rfl rfl rfl (Nat.le_of_ble_eq_true rfl) (Nat.le_of_ble_eq_true rfl) (Nat.le_of_ble_eq_true rfl) (Nat.le_of_ble_eq_true rfl) (Nat.le_of_ble_eq_true rfl) dX10_drift_56 (fun r_16 u_15 H locs hw_u_15 hP hD hS => ?_)
              replace hw_u_15 : (r_16, u_15) = (f_m_draw w_12m1 (w_12m0 5)) := hw_u_15
              replace hF := hF r_16 u_15 hw_u_15
              rw [← hw_u_15] at hE
              replace hE : ((match ((match (f_m_draw u_15 10) with | (r_19, u_18) => (f_m_drift_46 n_ n_w_12 (w_12l2 + 1) w_12m0 (upd (f_m_grieves u_18 r_16 r_19) (19 : Int32).toNatClampNeg (((f_m_grieves u_18 r_16 r_19) (19 : Int32).toNatClampNeg) + 1)))) : Int32 × (Nat → Int32) × (Nat → Int32)) with | (w_12l2, w_12m0, w_12m1) => ((w_12m1 (19 : Int32).toNatClampNeg), w_12m0, w_12m1)) : Int32 × (Nat → Int32) × (Nat → Int32)) = RES := hE
              have hP : va_P D classes [(h, .inr (10, ML w_12m0 Rf)), ((Rf 0), .inl (cI, 1302, .inl u_15))] H := hP
              have hD : va_D A [(h, .inr (10, ML w_12m0 Rf)), ((Rf 0), .inl (cI, 1302, .inl u_15))] := hD
              refine lv_istore_n (lv' := [(3, .int r_16), (2, .int w_12l2), (0, .ref h), (1, .int n_)]) hx hb dX10_drift_59 rfl hl (by decide) rfl (fun ls hl => ?_)
              refine lv_aload_n hx hb dX10_drift_60 rfl (lv_at hl 2 rfl) ?_
              refine lv_iload_n hx hb dX10_drift_61 rfl (lv_at hl 0 rfl) ?_
              refine lv_aload_n hx hb dX10_drift_62 rfl (lv_at hl 2 rfl) ?_
              refine lv_bipush (v := 10) hx hb dX10_drift_63 (by decide) ?_
              obtain ⟨hs_17, hF⟩ := hF
              refine cVi (wr := []) (rest := [.int r_16, .ref h]) (m_draw Rf h w_12m0 u_15 10 hs_17) okV_X10_draw wd_605 hx hb hml hown hts hK hP hD hS hA hN hl.1 [0, 1] [] rfl rfl rfl rfl (by decide) rfl rfl rfl (Nat.le_of_ble_eq_true rfl) (Nat.le_of_ble_eq_true rfl) (Nat.le_of_ble_eq_true rfl) (Nat.le_of_ble_eq_true rfl) (Nat.le_of_ble_eq_true rfl) dX10_drift_65 (fun r_19 u_18 H locs hw_u_18 hP hD hS => ?_)
              replace hw_u_18 : (r_19, u_18) = (f_m_draw u_15 10) := hw_u_18
              replace hF := hF r_19 u_18 hw_u_18
              rw [← hw_u_18] at hE
              replace hE : ((match ((f_m_drift_46 n_ n_w_12 (w_12l2 + 1) w_12m0 (upd (f_m_grieves u_18 r_16 r_19) (19 : Int32).toNatClampNeg (((f_m_grieves u_18 r_16 r_19) (19 : Int32).toNatClampNeg) + 1))) : Int32 × (Nat → Int32) × (Nat → Int32)) with | (w_12l2, w_12m0, w_12m1) => ((w_12m1 (19 : Int32).toNatClampNeg), w_12m0, w_12m1)) : Int32 × (Nat → Int32) × (Nat → Int32)) = RES := hE
              have hP : va_P D classes [(h, .inr (10, ML w_12m0 Rf)), ((Rf 0), .inl (cI, 1302, .inl u_18))] H := hP
              have hD : va_D A [(h, .inr (10, ML w_12m0 Rf)), ((Rf 0), .inl (cI, 1302, .inl u_18))] := hD
              obtain ⟨hs_20, hF⟩ := hF
              refine cVv (wr := []) (rest := []) (m_grieves Rf h w_12m0 u_18 r_16 r_19 hs_20) okV_X10_grieves wd_600 hx hb hml hown hts hK hP hD hS hA hN hl.1 [0, 1] [] rfl rfl rfl rfl (by decide) rfl rfl rfl (Nat.le_of_ble_eq_true rfl) (Nat.le_of_ble_eq_true rfl) (Nat.le_of_ble_eq_true rfl) (Nat.le_of_ble_eq_true rfl) (Nat.le_of_ble_eq_true rfl) dX10_drift_68 (fun u_21 H locs hw_u_21 hP hD hS => ?_)
              replace hw_u_21 : u_21 = (f_m_grieves u_18 r_16 r_19) := hw_u_21
              subst hw_u_21
              have hP : va_P D classes [(h, .inr (10, ML w_12m0 Rf)), ((Rf 0), .inl (cI, 1302, .inl (f_m_grieves u_18 r_16 r_19)))] H := hP
              have hD : va_D A [(h, .inr (10, ML w_12m0 Rf)), ((Rf 0), .inl (cI, 1302, .inl (f_m_grieves u_18 r_16 r_19)))] := hD
              refine lv_aload_n hx hb dX10_drift_71 rfl (lv_at hl 2 rfl) ?_
              refine va_get (D := D) (ci := 10) (v := .ref (Rf 0)) (C := RX10) (T := TX10) (N := 45) hx hb hts iX10 hown hK hP 0 rfl rfl 0 (by decide) (hts _ wd_491) (fun _ h9 => h9) rfl dX10_drift_72 ?_
              refine lv_bipush (v := 19) hx hb dX10_drift_75 (by decide) ?_
              refine lv_dup2_11 hx hb dX10_drift_77 rfl rfl ?_
              refine va_iald hx hb hK hP 1 0 rfl rfl (show ¬ ((19 : Int32) < 0 ∨ 1302 ≤ (19 : Int32).toNatClampNeg) by decide +kernel) dX10_drift_78 ?_
              refine lv_iconst (v := 1) hx hb dX10_drift_79 (by decide) ?_
              refine lv_iadd hx hb dX10_drift_80 ?_
              refine va_iast hx hb hK hP hD hS 1 0 rfl rfl (show ¬ ((19 : Int32) < 0 ∨ 1302 ≤ (19 : Int32).toNatClampNeg) by decide +kernel) dX10_drift_81 (fun H locs hP hD hS => ?_)
              have hP : va_P D classes [(h, .inr (10, ML w_12m0 Rf)), ((Rf 0), .inl (cI, 1302, .inl (upd (f_m_grieves u_18 r_16 r_19) (19 : Int32).toNatClampNeg (((f_m_grieves u_18 r_16 r_19) (19 : Int32).toNatClampNeg) + 1))))] H := hP
              have hD : va_D A [(h, .inr (10, ML w_12m0 Rf)), ((Rf 0), .inl (cI, 1302, .inl (upd (f_m_grieves u_18 r_16 r_19) (19 : Int32).toNatClampNeg (((f_m_grieves u_18 r_16 r_19) (19 : Int32).toNatClampNeg) + 1))))] := hD
              refine lv_iinc (v := (w_12l2 + 1)) (lv' := [(2, .int (w_12l2 + 1)), (3, .int r_16), (0, .ref h), (1, .int n_)]) hx hb dX10_drift_82 hl (k := 1) rfl rfl (by decide) rfl (fun ls hl => ?_)
              refine lv_goto (tgt := 46) hx hb dX10_drift_85 (by decide) ?_
              exact ih_w_12 (w_12l2 + 1) w_12m0 (upd (f_m_grieves u_18 r_16 r_19) (19 : Int32).toNatClampNeg (((f_m_grieves u_18 r_16 r_19) (19 : Int32).toNatClampNeg) + 1)) _ _ ls hP hD hS (lv_sub hl [0, 2, 3] rfl) hF (up_step c_13 hm) hE
        exact lp_46_w_12 (((n_ : Int32).toInt - (0 : Int32).toInt).toNat + 1) 0 o_10 o_11 _ _ ls hP hD hS hl hF (Nat.lt_succ_self _) hE
      · replace hF := hF.2 c_6
        rw [if_neg c_6] at hE
        refine lv_ldc (v := (-1000000004)) hx hb hown (hts _ wd_506) dX10_drift_37 ?_
        exact hret (-1000000004) (G, f0) _ _ _ _ dX10_drift_39 rfl hE hP hD hS
    · replace hF := hF.1 c_5
      rw [if_pos c_5] at hE
      refine lv_ldc (v := (-1000000003)) hx hb hown (hts _ wd_562) dX10_drift_22 ?_
      exact hret (-1000000003) (G, f0) _ _ _ _ dX10_drift_24 rfl hE hP hD hS
  · replace hF := hF.1 c_4
    rw [if_pos c_4] at hE
    refine lv_ldc (v := (-1000000002)) hx hb hown (hts _ wd_507) dX10_drift_12 ?_
    exact hret (-1000000002) (G, f0) _ _ _ _ dX10_drift_14 rfl hE hP hD hS
end
section
theorem dX10_tear_0 : decode cX10_tear 0 = .ok (.aload_n 0, 1) := by decide +kernel
theorem wd_609 : Cond.fieldLink RX10 177 "QuarrelBridgesModel" "booked" "I" ∈ BG := BG_at 825 (by decide +kernel) rfl
theorem dX10_tear_1 : decode cX10_tear 1 = .ok (.getfield 177, 3) := by decide +kernel
theorem dX10_tear_4 : decode cX10_tear 4 = .ok (.istore_n 1, 1) := by decide +kernel
theorem dX10_tear_5 : decode cX10_tear 5 = .ok (.aload_n 0, 1) := by decide +kernel
theorem dX10_tear_6 : decode cX10_tear 6 = .ok (.iconst 0, 1) := by decide +kernel
theorem dX10_tear_7 : decode cX10_tear 7 = .ok (.putfield 177, 3) := by decide +kernel
theorem dX10_tear_10 : decode cX10_tear 10 = .ok (.iload_n 1, 1) := by decide +kernel
theorem dX10_tear_11 : decode cX10_tear 11 = .ok (.ireturn, 1) := by decide +kernel
theorem dX10_seed_0 : decode cX10_seed 0 = .ok (.iload_n 1, 1) := by decide +kernel
theorem dX10_seed_1 : decode cX10_seed 1 = .ok (.ifCond .ge 6, 3) := by decide +kernel
theorem dX10_seed_7 : decode cX10_seed 7 = .ok (.aload_n 0, 1) := by decide +kernel
theorem dX10_seed_8 : decode cX10_seed 8 = .ok (.getfield 7, 3) := by decide +kernel
theorem dX10_seed_11 : decode cX10_seed 11 = .ok (.bipush 41, 2) := by decide +kernel
theorem dX10_seed_13 : decode cX10_seed 13 = .ok (.iaload, 1) := by decide +kernel
theorem dX10_seed_14 : decode cX10_seed 14 = .ok (.istore_n 2, 1) := by decide +kernel
theorem dX10_seed_15 : decode cX10_seed 15 = .ok (.aload_n 0, 1) := by decide +kernel
theorem dX10_seed_16 : decode cX10_seed 16 = .ok (.getfield 7, 3) := by decide +kernel
theorem dX10_seed_19 : decode cX10_seed 19 = .ok (.bipush 41, 2) := by decide +kernel
theorem dX10_seed_21 : decode cX10_seed 21 = .ok (.iload_n 1, 1) := by decide +kernel
theorem dX10_seed_22 : decode cX10_seed 22 = .ok (.iastore, 1) := by decide +kernel
theorem dX10_seed_23 : decode cX10_seed 23 = .ok (.iload_n 2, 1) := by decide +kernel
theorem dX10_seed_24 : decode cX10_seed 24 = .ok (.ireturn, 1) := by decide +kernel
theorem dX10_seed_4 : decode cX10_seed 4 = .ok (.ldc 93, 2) := by decide +kernel
theorem dX10_seed_6 : decode cX10_seed 6 = .ok (.ireturn, 1) := by decide +kernel
theorem dX10_write_0 : decode cX10_write 0 = .ok (.aload_n 0, 1) := by decide +kernel
theorem dX10_write_1 : decode cX10_write 1 = .ok (.iload_n 1, 1) := by decide +kernel
theorem dX10_write_2 : decode cX10_write 2 = .ok (.invokevirtual 204, 3) := by decide +kernel
theorem dX10_write_5 : decode cX10_write 5 = .ok (.ifCond .ne 6, 3) := by decide +kernel
theorem dX10_write_11 : decode cX10_write 11 = .ok (.iload_n 2, 1) := by decide +kernel
theorem dX10_write_12 : decode cX10_write 12 = .ok (.i2l, 1) := by decide +kernel
theorem dX10_write_13 : decode cX10_write 13 = .ok (.lconst 0, 1) := by decide +kernel
theorem dX10_write_14 : decode cX10_write 14 = .ok (.ldc2_w 245, 3) := by decide +kernel
theorem dX10_write_17 : decode cX10_write 17 = .ok (.invokestatic 84, 3) := by decide +kernel
theorem dX10_write_20 : decode cX10_write 20 = .ok (.ifCond .ne 6, 3) := by decide +kernel
theorem dX10_write_26 : decode cX10_write 26 = .ok (.aload_n 0, 1) := by decide +kernel
theorem dX10_write_27 : decode cX10_write 27 = .ok (.getfield 177, 3) := by decide +kernel
theorem dX10_write_30 : decode cX10_write 30 = .ok (.bipush 15, 2) := by decide +kernel
theorem dX10_write_32 : decode cX10_write 32 = .ok (.if_icmp .ne 6, 3) := by decide +kernel
theorem dX10_write_38 : decode cX10_write 38 = .ok (.aload_n 0, 1) := by decide +kernel
theorem wd_610 : Cond.fieldLink RX10 69 "QuarrelBridgesModel" "bookCouple" "[I" ∈ BG := BG_at 826 (by decide +kernel) rfl
theorem dX10_write_39 : decode cX10_write 39 = .ok (.getfield 69, 3) := by decide +kernel
theorem dX10_write_42 : decode cX10_write 42 = .ok (.aload_n 0, 1) := by decide +kernel
theorem dX10_write_43 : decode cX10_write 43 = .ok (.getfield 177, 3) := by decide +kernel
theorem dX10_write_46 : decode cX10_write 46 = .ok (.iload_n 1, 1) := by decide +kernel
theorem dX10_write_47 : decode cX10_write 47 = .ok (.iastore, 1) := by decide +kernel
theorem dX10_write_48 : decode cX10_write 48 = .ok (.aload_n 0, 1) := by decide +kernel
theorem wd_611 : Cond.fieldLink RX10 72 "QuarrelBridgesModel" "bookGrief" "[I" ∈ BG := BG_at 827 (by decide +kernel) rfl
theorem dX10_write_49 : decode cX10_write 49 = .ok (.getfield 72, 3) := by decide +kernel
theorem dX10_write_52 : decode cX10_write 52 = .ok (.aload_n 0, 1) := by decide +kernel
theorem dX10_write_53 : decode cX10_write 53 = .ok (.getfield 177, 3) := by decide +kernel
theorem dX10_write_56 : decode cX10_write 56 = .ok (.iload_n 2, 1) := by decide +kernel
theorem dX10_write_57 : decode cX10_write 57 = .ok (.iastore, 1) := by decide +kernel
theorem dX10_write_58 : decode cX10_write 58 = .ok (.aload_n 0, 1) := by decide +kernel
theorem dX10_write_59 : decode cX10_write 59 = .ok (.dup, 1) := by decide +kernel
theorem dX10_write_60 : decode cX10_write 60 = .ok (.getfield 177, 3) := by decide +kernel
theorem dX10_write_63 : decode cX10_write 63 = .ok (.iconst 1, 1) := by decide +kernel
theorem dX10_write_64 : decode cX10_write 64 = .ok (.iadd, 1) := by decide +kernel
theorem dX10_write_65 : decode cX10_write 65 = .ok (.putfield 177, 3) := by decide +kernel
theorem dX10_write_68 : decode cX10_write 68 = .ok (.aload_n 0, 1) := by decide +kernel
theorem dX10_write_69 : decode cX10_write 69 = .ok (.getfield 177, 3) := by decide +kernel
theorem dX10_write_72 : decode cX10_write 72 = .ok (.ireturn, 1) := by decide +kernel
theorem dX10_write_35 : decode cX10_write 35 = .ok (.ldc 97, 2) := by decide +kernel
theorem dX10_write_37 : decode cX10_write 37 = .ok (.ireturn, 1) := by decide +kernel
theorem dX10_write_23 : decode cX10_write 23 = .ok (.ldc 93, 2) := by decide +kernel
theorem dX10_write_25 : decode cX10_write 25 = .ok (.ireturn, 1) := by decide +kernel
theorem dX10_write_8 : decode cX10_write 8 = .ok (.ldc 199, 2) := by decide +kernel
theorem dX10_write_10 : decode cX10_write 10 = .ok (.ireturn, 1) := by decide +kernel
theorem dX10_keep_0 : decode cX10_keep 0 = .ok (.iload_n 1, 1) := by decide +kernel
theorem dX10_keep_1 : decode cX10_keep 1 = .ok (.i2l, 1) := by decide +kernel
theorem dX10_keep_2 : decode cX10_keep 2 = .ok (.lconst 0, 1) := by decide +kernel
theorem dX10_keep_3 : decode cX10_keep 3 = .ok (.lconst 1, 1) := by decide +kernel
theorem dX10_keep_4 : decode cX10_keep 4 = .ok (.invokestatic 84, 3) := by decide +kernel
theorem dX10_keep_7 : decode cX10_keep 7 = .ok (.ifCond .ne 6, 3) := by decide +kernel
theorem dX10_keep_13 : decode cX10_keep 13 = .ok (.aload_n 0, 1) := by decide +kernel
theorem dX10_keep_14 : decode cX10_keep 14 = .ok (.iconst 0, 1) := by decide +kernel
theorem dX10_keep_15 : decode cX10_keep 15 = .ok (.sipush 378, 3) := by decide +kernel
theorem dX10_keep_18 : decode cX10_keep 18 = .ok (.bipush 42, 2) := by decide +kernel
theorem dX10_keep_20 : decode cX10_keep 20 = .ok (.iload_n 1, 1) := by decide +kernel
theorem dX10_keep_21 : decode cX10_keep 21 = .ok (.imul, 1) := by decide +kernel
theorem dX10_keep_22 : decode cX10_keep 22 = .ok (.iadd, 1) := by decide +kernel
theorem dX10_keep_23 : decode cX10_keep 23 = .ok (.invokevirtual 229, 3) := by decide +kernel
theorem dX10_keep_26 : decode cX10_keep 26 = .ok (.aload_n 0, 1) := by decide +kernel
theorem wd_612 : Cond.fieldLink RX10 13 "QuarrelBridgesModel" "isKept" "[Z" ∈ BG := BG_at 784 (by decide +kernel) rfl
theorem dX10_keep_27 : decode cX10_keep 27 = .ok (.getfield 13, 3) := by decide +kernel
theorem dX10_keep_30 : decode cX10_keep 30 = .ok (.iload_n 1, 1) := by decide +kernel
theorem dX10_keep_31 : decode cX10_keep 31 = .ok (.iconst 1, 1) := by decide +kernel
theorem dX10_keep_32 : decode cX10_keep 32 = .ok (.bastore, 1) := by decide +kernel
theorem dX10_keep_33 : decode cX10_keep 33 = .ok (.aload_n 0, 1) := by decide +kernel
theorem dX10_keep_34 : decode cX10_keep 34 = .ok (.iconst 0, 1) := by decide +kernel
theorem dX10_keep_35 : decode cX10_keep 35 = .ok (.putfield 180, 3) := by decide +kernel
theorem dX10_keep_38 : decode cX10_keep 38 = .ok (.iconst 1, 1) := by decide +kernel
theorem dX10_keep_39 : decode cX10_keep 39 = .ok (.ireturn, 1) := by decide +kernel
theorem dX10_keep_10 : decode cX10_keep 10 = .ok (.ldc 199, 2) := by decide +kernel
theorem dX10_keep_12 : decode cX10_keep 12 = .ok (.ireturn, 1) := by decide +kernel
theorem dX10_goBack_0 : decode cX10_goBack 0 = .ok (.iload_n 1, 1) := by decide +kernel
theorem dX10_goBack_1 : decode cX10_goBack 1 = .ok (.i2l, 1) := by decide +kernel
theorem dX10_goBack_2 : decode cX10_goBack 2 = .ok (.lconst 0, 1) := by decide +kernel
theorem dX10_goBack_3 : decode cX10_goBack 3 = .ok (.lconst 1, 1) := by decide +kernel
theorem dX10_goBack_4 : decode cX10_goBack 4 = .ok (.invokestatic 84, 3) := by decide +kernel
theorem dX10_goBack_7 : decode cX10_goBack 7 = .ok (.ifCond .ne 6, 3) := by decide +kernel
theorem dX10_goBack_13 : decode cX10_goBack 13 = .ok (.aload_n 0, 1) := by decide +kernel
theorem dX10_goBack_14 : decode cX10_goBack 14 = .ok (.getfield 13, 3) := by decide +kernel
theorem dX10_goBack_17 : decode cX10_goBack 17 = .ok (.iload_n 1, 1) := by decide +kernel
theorem dX10_goBack_18 : decode cX10_goBack 18 = .ok (.baload, 1) := by decide +kernel
theorem dX10_goBack_19 : decode cX10_goBack 19 = .ok (.ifCond .ne 6, 3) := by decide +kernel
theorem dX10_goBack_25 : decode cX10_goBack 25 = .ok (.aload_n 0, 1) := by decide +kernel
theorem dX10_goBack_26 : decode cX10_goBack 26 = .ok (.sipush 378, 3) := by decide +kernel
theorem dX10_goBack_29 : decode cX10_goBack 29 = .ok (.bipush 42, 2) := by decide +kernel
theorem dX10_goBack_31 : decode cX10_goBack 31 = .ok (.iload_n 1, 1) := by decide +kernel
theorem dX10_goBack_32 : decode cX10_goBack 32 = .ok (.imul, 1) := by decide +kernel
theorem dX10_goBack_33 : decode cX10_goBack 33 = .ok (.iadd, 1) := by decide +kernel
theorem dX10_goBack_34 : decode cX10_goBack 34 = .ok (.iconst 0, 1) := by decide +kernel
theorem dX10_goBack_35 : decode cX10_goBack 35 = .ok (.invokevirtual 229, 3) := by decide +kernel
theorem dX10_goBack_38 : decode cX10_goBack 38 = .ok (.aload_n 0, 1) := by decide +kernel
theorem dX10_goBack_39 : decode cX10_goBack 39 = .ok (.iconst 0, 1) := by decide +kernel
theorem dX10_goBack_40 : decode cX10_goBack 40 = .ok (.putfield 180, 3) := by decide +kernel
theorem dX10_goBack_43 : decode cX10_goBack 43 = .ok (.iconst 1, 1) := by decide +kernel
theorem dX10_goBack_44 : decode cX10_goBack 44 = .ok (.ireturn, 1) := by decide +kernel
theorem dX10_goBack_22 : decode cX10_goBack 22 = .ok (.ldc 233, 2) := by decide +kernel
theorem dX10_goBack_24 : decode cX10_goBack 24 = .ok (.ireturn, 1) := by decide +kernel
theorem dX10_goBack_10 : decode cX10_goBack 10 = .ok (.ldc 199, 2) := by decide +kernel
theorem dX10_goBack_12 : decode cX10_goBack 12 = .ok (.ireturn, 1) := by decide +kernel
noncomputable def f_m_tear (G : Nat → Int32) : Int32 × (Nat → Int32) := ((G 42), (upd G 42 0))
def S_m_tear (G : Nat → Int32) : Prop := True
def rm_m_tear : Room := { frames := 0, cells := 0, slots := 0, locals := 0 }
set_option maxHeartbeats 4000000 in
set_option maxRecDepth 100000 in
theorem m_tear {l : Launch} {D : va_G} {cI cZ : ClassId} {sz : Nat} (Rf : Nat → Nat) (h : Nat) (G : Nat → Int32) (hF : S_m_tear G) : KI l yX10_tear cX10_tear 2 (some .int) rm_m_tear D cI cZ [.ref h] sz [(h, .inr (10, ML G Rf))] (fun (r : Int32) (u : (Nat → Int32)) => (r, u) = f_m_tear G) (fun (u : (Nat → Int32)) => [(h, .inr (10, ML u Rf))]) := by
  refine KI.go rfl (Nat.le_of_ble_eq_true rfl) ?_
  intro p e s m args below meth c ls A Q hx hb hml hts hown hin hP hK hD hS hA hN hl hret
  have hl : lv_has ls 2 [(0, .ref h)] := hl
  rw [S_m_tear] at hF
  obtain ⟨RES, hE⟩ : ∃ xRES, f_m_tear G = xRES := ⟨_, rfl⟩
  rw [hE] at hret
  rw [f_m_tear] at hE
  refine lv_aload_n hx hb dX10_tear_0 rfl (lv_at hl 0 rfl) ?_
  refine va_get (D := D) (ci := 10) (v := .int (G 42)) (C := RX10) (T := TX10) (N := 45) hx hb hts iX10 hown hK hP 0 rfl rfl 42 (by decide) (hts _ wd_609) (fun _ h9 => h9) rfl dX10_tear_1 ?_
  refine lv_istore_n (lv' := [(1, .int (G 42)), (0, .ref h)]) hx hb dX10_tear_4 rfl hl (by decide) rfl (fun ls hl => ?_)
  refine lv_aload_n hx hb dX10_tear_5 rfl (lv_at hl 1 rfl) ?_
  refine lv_iconst (v := 0) hx hb dX10_tear_6 (by decide) ?_
  refine va_put (D := D) (ci := 10) (v := .int 0) (ty := .int) (C := RX10) (T := TX10) (N := 45) hx hb hts iX10 tyX10 tyX10_ok nmX10 hown hK hP hD hS 0 rfl rfl 42 (by decide) (hts _ wd_609) (fun _ h9 => h9) rfl (by decide +kernel) rfl rfl (Nat.le_of_ble_eq_true rfl) dX10_tear_7 (fun H locs hP hD hS => ?_)
  have hP : va_P D classes [(h, .inr (10, ML (upd G 42 0) Rf))] H := hP
  have hD : va_D A [(h, .inr (10, ML (upd G 42 0) Rf))] := hD
  refine lv_iload_n hx hb dX10_tear_10 rfl (lv_at hl 0 rfl) ?_
  exact hret (G 42) (upd G 42 0) _ _ _ _ dX10_tear_11 rfl hE hP hD hS
noncomputable def f_m_seed (f0 : Nat → Int32) (v_ : Int32) : Int32 × (Nat → Int32) := (if 0 ≤ v_ then ((f0 (41 : Int32).toNatClampNeg), (upd f0 (41 : Int32).toNatClampNeg v_)) else ((-1000000002), f0))
def S_m_seed (f0 : Nat → Int32) (v_ : Int32) : Prop := ((0 ≤ v_ → True) ∧ (¬ 0 ≤ v_ → True))
def rm_m_seed : Room := { frames := 0, cells := 0, slots := 0, locals := 0 }
set_option maxHeartbeats 4000000 in
set_option maxRecDepth 100000 in
theorem m_seed {l : Launch} {D : va_G} {cI cZ : ClassId} {sz : Nat} (Rf : Nat → Nat) (h : Nat) (G : Nat → Int32) (f0 : Nat → Int32) (v_ : Int32) (hF : S_m_seed f0 v_) : KI l yX10_seed cX10_seed 3 (some .int) rm_m_seed D cI cZ [.ref h, .int v_] sz [(h, .inr (10, ML G Rf)), ((Rf 0), .inl (cI, 1302, .inl f0))] (fun (r : Int32) (u : (Nat → Int32)) => (r, u) = f_m_seed f0 v_) (fun (u : (Nat → Int32)) => [(h, .inr (10, ML G Rf)), ((Rf 0), .inl (cI, 1302, .inl u))]) := by
  refine KI.go rfl (Nat.le_of_ble_eq_true rfl) ?_
  intro p e s m args below meth c ls A Q hx hb hml hts hown hin hP hK hD hS hA hN hl hret
  have hl : lv_has ls 3 [(0, .ref h), (1, .int v_)] := hl
  rw [S_m_seed] at hF
  obtain ⟨RES, hE⟩ : ∃ xRES, f_m_seed f0 v_ = xRES := ⟨_, rfl⟩
  rw [hE] at hret
  rw [f_m_seed] at hE
  refine lv_iload_n hx hb dX10_seed_0 rfl (lv_at hl 1 rfl) ?_
  refine lv_if_ge (tgt := 7) hx hb dX10_seed_1 (by decide) (fun c_1 => ?_) (fun c_1 => ?_)
  · replace hF := hF.1 c_1
    rw [if_pos c_1] at hE
    refine lv_aload_n hx hb dX10_seed_7 rfl (lv_at hl 0 rfl) ?_
    refine va_get (D := D) (ci := 10) (v := .ref (Rf 0)) (C := RX10) (T := TX10) (N := 45) hx hb hts iX10 hown hK hP 0 rfl rfl 0 (by decide) (hts _ wd_491) (fun _ h9 => h9) rfl dX10_seed_8 ?_
    refine lv_bipush (v := 41) hx hb dX10_seed_11 (by decide) ?_
    refine va_iald hx hb hK hP 1 0 rfl rfl (show ¬ ((41 : Int32) < 0 ∨ 1302 ≤ (41 : Int32).toNatClampNeg) by decide +kernel) dX10_seed_13 ?_
    refine lv_istore_n (lv' := [(2, .int (f0 (41 : Int32).toNatClampNeg)), (0, .ref h), (1, .int v_)]) hx hb dX10_seed_14 rfl hl (by decide) rfl (fun ls hl => ?_)
    refine lv_aload_n hx hb dX10_seed_15 rfl (lv_at hl 1 rfl) ?_
    refine va_get (D := D) (ci := 10) (v := .ref (Rf 0)) (C := RX10) (T := TX10) (N := 45) hx hb hts iX10 hown hK hP 0 rfl rfl 0 (by decide) (hts _ wd_491) (fun _ h9 => h9) rfl dX10_seed_16 ?_
    refine lv_bipush (v := 41) hx hb dX10_seed_19 (by decide) ?_
    refine lv_iload_n hx hb dX10_seed_21 rfl (lv_at hl 2 rfl) ?_
    refine va_iast hx hb hK hP hD hS 1 0 rfl rfl (show ¬ ((41 : Int32) < 0 ∨ 1302 ≤ (41 : Int32).toNatClampNeg) by decide +kernel) dX10_seed_22 (fun H locs hP hD hS => ?_)
    have hP : va_P D classes [(h, .inr (10, ML G Rf)), ((Rf 0), .inl (cI, 1302, .inl (upd f0 (41 : Int32).toNatClampNeg v_)))] H := hP
    have hD : va_D A [(h, .inr (10, ML G Rf)), ((Rf 0), .inl (cI, 1302, .inl (upd f0 (41 : Int32).toNatClampNeg v_)))] := hD
    refine lv_iload_n hx hb dX10_seed_23 rfl (lv_at hl 0 rfl) ?_
    exact hret (f0 (41 : Int32).toNatClampNeg) (upd f0 (41 : Int32).toNatClampNeg v_) _ _ _ _ dX10_seed_24 rfl hE hP hD hS
  · replace hF := hF.2 c_1
    rw [if_neg c_1] at hE
    refine lv_ldc (v := (-1000000002)) hx hb hown (hts _ wd_507) dX10_seed_4 ?_
    exact hret (-1000000002) f0 _ _ _ _ dX10_seed_6 rfl hE hP hD hS
noncomputable def f_m_write (G : Nat → Int32) (f43 : Nat → Int32) (f44 : Nat → Int32) (c_ : Int32) (g_ : Int32) : Int32 × (Nat → Int32) × (Nat → Int32) × (Nat → Int32) := (if (f_m_isCouple G c_) = 0 then ((-1000000001), G, f43, f44) else (if (f_m_in g_.toInt64 0 99) = 0 then ((-1000000002), G, f43, f44) else (if (G 42) = 15 then ((-1000000004), G, f43, f44) else (((G 42) + 1), (upd G 42 ((G 42) + 1)), (upd f43 ((G 42) : Int32).toNatClampNeg c_), (upd f44 ((G 42) : Int32).toNatClampNeg g_)))))
def S_m_write (G : Nat → Int32) (f43 : Nat → Int32) (f44 : Nat → Int32) (c_ : Int32) (g_ : Int32) : Prop := ((S_m_isCouple G c_) ∧ (((f_m_isCouple G c_) = 0 → True) ∧ (¬ (f_m_isCouple G c_) = 0 → ((S_m_in g_.toInt64 0 99) ∧ (((f_m_in g_.toInt64 0 99) = 0 → True) ∧ (¬ (f_m_in g_.toInt64 0 99) = 0 → (((G 42) = 15 → True) ∧ (¬ (G 42) = 15 → (vp_in (G 42) 15 ∧ (vp_in (G 42) 15 ∧ True))))))))))
def rm_m_write : Room := { frames := 2, cells := 0, slots := 0, locals := 46 }
set_option maxHeartbeats 4000000 in
set_option maxRecDepth 100000 in
theorem m_write {l : Launch} {D : va_G} {cI cZ : ClassId} {sz : Nat} (Rf : Nat → Nat) (h : Nat) (G : Nat → Int32) (f43 : Nat → Int32) (f44 : Nat → Int32) (c_ : Int32) (g_ : Int32) (hF : S_m_write G f43 f44 c_ g_) : KI l yX10_write cX10_write 3 (some .int) rm_m_write D cI cZ [.ref h, .int c_, .int g_] sz [(h, .inr (10, ML G Rf)), ((Rf 43), .inl (cI, 15, .inl f43)), ((Rf 44), .inl (cI, 15, .inl f44))] (fun (r : Int32) (u : (Nat → Int32) × (Nat → Int32) × (Nat → Int32)) => (r, u) = f_m_write G f43 f44 c_ g_) (fun (u : (Nat → Int32) × (Nat → Int32) × (Nat → Int32)) => [(h, .inr (10, ML u.1 Rf)), ((Rf 43), .inl (cI, 15, .inl u.2.1)), ((Rf 44), .inl (cI, 15, .inl u.2.2))]) := by
  refine KI.go rfl (Nat.le_of_ble_eq_true rfl) ?_
  intro p e s m args below meth c ls A Q hx hb hml hts hown hin hP hK hD hS hA hN hl hret
  have hl : lv_has ls 3 [(0, .ref h), (1, .int c_), (2, .int g_)] := hl
  rw [S_m_write] at hF
  obtain ⟨RES, hE⟩ : ∃ xRES, f_m_write G f43 f44 c_ g_ = xRES := ⟨_, rfl⟩
  rw [hE] at hret
  rw [f_m_write] at hE
  refine lv_aload_n hx hb dX10_write_0 rfl (lv_at hl 0 rfl) ?_
  refine lv_iload_n hx hb dX10_write_1 rfl (lv_at hl 1 rfl) ?_
  obtain ⟨hs_1, hF⟩ := hF
  refine cVi (wr := [((Rf 43), .inl (cI, 15, .inl f43)), ((Rf 44), .inl (cI, 15, .inl f44))]) (rest := []) (m_isCouple Rf h G c_ hs_1) okV_X10_isCouple wd_581 hx hb hml hown hts hK hP hD hS hA hN hl.1 [0] [1, 2] rfl rfl rfl rfl (by decide) rfl rfl rfl (Nat.le_of_ble_eq_true rfl) (Nat.le_of_ble_eq_true rfl) (Nat.le_of_ble_eq_true rfl) (Nat.le_of_ble_eq_true rfl) (Nat.le_of_ble_eq_true rfl) dX10_write_2 (fun r_3 u_2 H locs hw_u_2 hP hD hS => ?_)
  replace hw_u_2 : r_3 = (f_m_isCouple G c_) := hw_u_2
  rw [hw_u_2]
  clear hw_u_2
  have hP : va_P D classes [((Rf 43), .inl (cI, 15, .inl f43)), ((Rf 44), .inl (cI, 15, .inl f44)), (h, .inr (10, ML G Rf))] H := hP
  have hD : va_D A [((Rf 43), .inl (cI, 15, .inl f43)), ((Rf 44), .inl (cI, 15, .inl f44)), (h, .inr (10, ML G Rf))] := hD
  refine lv_if_ne (tgt := 11) hx hb dX10_write_5 (by decide) (fun c_4 => ?_) (fun c_4 => ?_)
  · replace hF := hF.2 c_4
    rw [if_neg c_4] at hE
    refine lv_iload_n hx hb dX10_write_11 rfl (lv_at hl 2 rfl) ?_
    refine lv_i2l (v := g_.toInt64) hx hb dX10_write_12 rfl ?_
    refine lv_lconst (v := 0) hx hb dX10_write_13 (by decide) ?_
    refine lv_ldc2 (v := 99) hx hb hown (hts _ wd_599) dX10_write_14 ?_
    obtain ⟨hs_5, hF⟩ := hF
    refine cSi (wr := [((Rf 43), .inl (cI, 15, .inl f43)), ((Rf 44), .inl (cI, 15, .inl f44)), (h, .inr (10, ML G Rf))]) (rest := []) (m_in g_.toInt64 0 99 hs_5) okS_X10_in wd_495 hx hb hml hown hts hK hP hD hS hA hN hl.1 [] [0, 1, 2] rfl rfl rfl rfl (by decide) rfl (Nat.le_of_ble_eq_true rfl) (Nat.le_of_ble_eq_true rfl) (Nat.le_of_ble_eq_true rfl) (Nat.le_of_ble_eq_true rfl) (Nat.le_of_ble_eq_true rfl) dX10_write_17 (fun r_7 u_6 H locs hw_u_6 hP hD hS => ?_)
    replace hw_u_6 : r_7 = (f_m_in g_.toInt64 0 99) := hw_u_6
    rw [hw_u_6]
    clear hw_u_6
    have hP : va_P D classes [((Rf 43), .inl (cI, 15, .inl f43)), ((Rf 44), .inl (cI, 15, .inl f44)), (h, .inr (10, ML G Rf))] H := hP
    have hD : va_D A [((Rf 43), .inl (cI, 15, .inl f43)), ((Rf 44), .inl (cI, 15, .inl f44)), (h, .inr (10, ML G Rf))] := hD
    refine lv_if_ne (tgt := 26) hx hb dX10_write_20 (by decide) (fun c_8 => ?_) (fun c_8 => ?_)
    · replace hF := hF.2 c_8
      rw [if_neg c_8] at hE
      refine lv_aload_n hx hb dX10_write_26 rfl (lv_at hl 0 rfl) ?_
      refine va_get (D := D) (ci := 10) (v := .int (G 42)) (C := RX10) (T := TX10) (N := 45) hx hb hts iX10 hown hK hP 2 rfl rfl 42 (by decide) (hts _ wd_609) (fun _ h9 => h9) rfl dX10_write_27 ?_
      refine lv_bipush (v := 15) hx hb dX10_write_30 (by decide) ?_
      refine lv_icmp_ne (tgt := 38) hx hb dX10_write_32 (by decide) (fun c_9 => ?_) (fun c_9 => ?_)
      · replace hF := hF.2 c_9
        rw [if_neg c_9] at hE
        refine lv_aload_n hx hb dX10_write_38 rfl (lv_at hl 0 rfl) ?_
        refine va_get (D := D) (ci := 10) (v := .ref (Rf 43)) (C := RX10) (T := TX10) (N := 45) hx hb hts iX10 hown hK hP 2 rfl rfl 43 (by decide) (hts _ wd_610) (fun _ h9 => h9) rfl dX10_write_39 ?_
        refine lv_aload_n hx hb dX10_write_42 rfl (lv_at hl 0 rfl) ?_
        refine va_get (D := D) (ci := 10) (v := .int (G 42)) (C := RX10) (T := TX10) (N := 45) hx hb hts iX10 hown hK hP 2 rfl rfl 42 (by decide) (hts _ wd_609) (fun _ h9 => h9) rfl dX10_write_43 ?_
        refine lv_iload_n hx hb dX10_write_46 rfl (lv_at hl 1 rfl) ?_
        obtain ⟨hv_10, hF⟩ := hF
        refine va_iast hx hb hK hP hD hS 0 0 rfl rfl hv_10 dX10_write_47 (fun H locs hP hD hS => ?_)
        have hP : va_P D classes [((Rf 43), .inl (cI, 15, .inl (upd f43 ((G 42) : Int32).toNatClampNeg c_))), ((Rf 44), .inl (cI, 15, .inl f44)), (h, .inr (10, ML G Rf))] H := hP
        have hD : va_D A [((Rf 43), .inl (cI, 15, .inl (upd f43 ((G 42) : Int32).toNatClampNeg c_))), ((Rf 44), .inl (cI, 15, .inl f44)), (h, .inr (10, ML G Rf))] := hD
        refine lv_aload_n hx hb dX10_write_48 rfl (lv_at hl 0 rfl) ?_
        refine va_get (D := D) (ci := 10) (v := .ref (Rf 44)) (C := RX10) (T := TX10) (N := 45) hx hb hts iX10 hown hK hP 2 rfl rfl 44 (by decide) (hts _ wd_611) (fun _ h9 => h9) rfl dX10_write_49 ?_
        refine lv_aload_n hx hb dX10_write_52 rfl (lv_at hl 0 rfl) ?_
        refine va_get (D := D) (ci := 10) (v := .int (G 42)) (C := RX10) (T := TX10) (N := 45) hx hb hts iX10 hown hK hP 2 rfl rfl 42 (by decide) (hts _ wd_609) (fun _ h9 => h9) rfl dX10_write_53 ?_
        refine lv_iload_n hx hb dX10_write_56 rfl (lv_at hl 2 rfl) ?_
        obtain ⟨hv_11, hF⟩ := hF
        refine va_iast hx hb hK hP hD hS 1 0 rfl rfl hv_11 dX10_write_57 (fun H locs hP hD hS => ?_)
        have hP : va_P D classes [((Rf 43), .inl (cI, 15, .inl (upd f43 ((G 42) : Int32).toNatClampNeg c_))), ((Rf 44), .inl (cI, 15, .inl (upd f44 ((G 42) : Int32).toNatClampNeg g_))), (h, .inr (10, ML G Rf))] H := hP
        have hD : va_D A [((Rf 43), .inl (cI, 15, .inl (upd f43 ((G 42) : Int32).toNatClampNeg c_))), ((Rf 44), .inl (cI, 15, .inl (upd f44 ((G 42) : Int32).toNatClampNeg g_))), (h, .inr (10, ML G Rf))] := hD
        refine lv_aload_n hx hb dX10_write_58 rfl (lv_at hl 0 rfl) ?_
        refine lv_dup hx hb dX10_write_59 rfl ?_
        refine va_get (D := D) (ci := 10) (v := .int (G 42)) (C := RX10) (T := TX10) (N := 45) hx hb hts iX10 hown hK hP 2 rfl rfl 42 (by decide) (hts _ wd_609) (fun _ h9 => h9) rfl dX10_write_60 ?_
        refine lv_iconst (v := 1) hx hb dX10_write_63 (by decide) ?_
        refine lv_iadd hx hb dX10_write_64 ?_
        refine va_put (D := D) (ci := 10) (v := .int ((G 42) + 1)) (ty := .int) (C := RX10) (T := TX10) (N := 45) hx hb hts iX10 tyX10 tyX10_ok nmX10 hown hK hP hD hS 2 rfl rfl 42 (by decide) (hts _ wd_609) (fun _ h9 => h9) rfl (by decide +kernel) rfl rfl (Nat.le_of_ble_eq_true rfl) dX10_write_65 (fun H locs hP hD hS => ?_)
        have hP : va_P D classes [((Rf 43), .inl (cI, 15, .inl (upd f43 ((G 42) : Int32).toNatClampNeg c_))), ((Rf 44), .inl (cI, 15, .inl (upd f44 ((G 42) : Int32).toNatClampNeg g_))), (h, .inr (10, ML (upd G 42 ((G 42) + 1)) Rf))] H := hP
        have hD : va_D A [((Rf 43), .inl (cI, 15, .inl (upd f43 ((G 42) : Int32).toNatClampNeg c_))), ((Rf 44), .inl (cI, 15, .inl (upd f44 ((G 42) : Int32).toNatClampNeg g_))), (h, .inr (10, ML (upd G 42 ((G 42) + 1)) Rf))] := hD
        refine lv_aload_n hx hb dX10_write_68 rfl (lv_at hl 0 rfl) ?_
        refine va_get (D := D) (ci := 10) (v := .int ((G 42) + 1)) (C := RX10) (T := TX10) (N := 45) hx hb hts iX10 hown hK hP 2 rfl rfl 42 (by decide) (hts _ wd_609) (fun _ h9 => h9) rfl dX10_write_69 ?_
        exact hret ((G 42) + 1) ((upd G 42 ((G 42) + 1)), (upd f43 ((G 42) : Int32).toNatClampNeg c_), (upd f44 ((G 42) : Int32).toNatClampNeg g_)) _ _ _ _ dX10_write_72 rfl hE (cutP (isC := [2, 0, 1]) hP rfl) (cutD (isC := [2, 0, 1]) hD rfl rfl) hS
      · replace hF := hF.1 c_9
        rw [if_pos c_9] at hE
        refine lv_ldc (v := (-1000000004)) hx hb hown (hts _ wd_506) dX10_write_35 ?_
        exact hret (-1000000004) (G, f43, f44) _ _ _ _ dX10_write_37 rfl hE (cutP (isC := [2, 0, 1]) hP rfl) (cutD (isC := [2, 0, 1]) hD rfl rfl) hS
    · replace hF := hF.1 c_8
      rw [if_pos c_8] at hE
      refine lv_ldc (v := (-1000000002)) hx hb hown (hts _ wd_507) dX10_write_23 ?_
      exact hret (-1000000002) (G, f43, f44) _ _ _ _ dX10_write_25 rfl hE (cutP (isC := [2, 0, 1]) hP rfl) (cutD (isC := [2, 0, 1]) hD rfl rfl) hS
  · replace hF := hF.1 c_4
    rw [if_pos c_4] at hE
    refine lv_ldc (v := (-1000000001)) hx hb hown (hts _ wd_580) dX10_write_8 ?_
    exact hret (-1000000001) (G, f43, f44) _ _ _ _ dX10_write_10 rfl hE (cutP (isC := [2, 0, 1]) hP rfl) (cutD (isC := [2, 0, 1]) hD rfl rfl) hS
noncomputable def f_m_keep (G : Nat → Int32) (f0 : Nat → Int32) (f1 : Nat → Int32) (i_ : Int32) : Int32 × (Nat → Int32) × (Nat → Int32) × (Nat → Int32) := (if (f_m_in i_.toInt64 0 1) = 0 then ((-1000000001), G, f0, f1) else (1, (upd G 2 0), (f_m_copy f0 0 (378 + (42 * i_))), (upd f1 (i_ : Int32).toNatClampNeg (vp_nar .boolean 1))))
def S_m_keep (G : Nat → Int32) (f0 : Nat → Int32) (f1 : Nat → Int32) (i_ : Int32) : Prop := ((S_m_in i_.toInt64 0 1) ∧ (((f_m_in i_.toInt64 0 1) = 0 → True) ∧ (¬ (f_m_in i_.toInt64 0 1) = 0 → ((S_m_copy f0 0 (378 + (42 * i_))) ∧ (vp_in i_ 2 ∧ True)))))
def rm_m_keep : Room := { frames := 1, cells := 0, slots := 0, locals := 25 }
set_option maxHeartbeats 4000000 in
set_option maxRecDepth 100000 in
theorem m_keep {l : Launch} {D : va_G} {cI cZ : ClassId} {sz : Nat} (Rf : Nat → Nat) (h : Nat) (G : Nat → Int32) (f0 : Nat → Int32) (f1 : Nat → Int32) (i_ : Int32) (hF : S_m_keep G f0 f1 i_) : KI l yX10_keep cX10_keep 2 (some .int) rm_m_keep D cI cZ [.ref h, .int i_] sz [(h, .inr (10, ML G Rf)), ((Rf 0), .inl (cI, 1302, .inl f0)), ((Rf 1), .inl (cZ, 2, .inl f1))] (fun (r : Int32) (u : (Nat → Int32) × (Nat → Int32) × (Nat → Int32)) => (r, u) = f_m_keep G f0 f1 i_) (fun (u : (Nat → Int32) × (Nat → Int32) × (Nat → Int32)) => [(h, .inr (10, ML u.1 Rf)), ((Rf 0), .inl (cI, 1302, .inl u.2.1)), ((Rf 1), .inl (cZ, 2, .inl u.2.2))]) := by
  refine KI.go rfl (Nat.le_of_ble_eq_true rfl) ?_
  intro p e s m args below meth c ls A Q hx hb hml hts hown hin hP hK hD hS hA hN hl hret
  have hl : lv_has ls 2 [(0, .ref h), (1, .int i_)] := hl
  rw [S_m_keep] at hF
  obtain ⟨RES, hE⟩ : ∃ xRES, f_m_keep G f0 f1 i_ = xRES := ⟨_, rfl⟩
  rw [hE] at hret
  rw [f_m_keep] at hE
  refine lv_iload_n hx hb dX10_keep_0 rfl (lv_at hl 1 rfl) ?_
  refine lv_i2l (v := i_.toInt64) hx hb dX10_keep_1 rfl ?_
  refine lv_lconst (v := 0) hx hb dX10_keep_2 (by decide) ?_
  refine lv_lconst (v := 1) hx hb dX10_keep_3 (by decide) ?_
  obtain ⟨hs_1, hF⟩ := hF
  refine cSi (wr := [(h, .inr (10, ML G Rf)), ((Rf 0), .inl (cI, 1302, .inl f0)), ((Rf 1), .inl (cZ, 2, .inl f1))]) (rest := []) (m_in i_.toInt64 0 1 hs_1) okS_X10_in wd_495 hx hb hml hown hts hK hP hD hS hA hN hl.1 [] [0, 1, 2] rfl rfl rfl rfl (by decide) rfl (Nat.le_of_ble_eq_true rfl) (Nat.le_of_ble_eq_true rfl) (Nat.le_of_ble_eq_true rfl) (Nat.le_of_ble_eq_true rfl) (Nat.le_of_ble_eq_true rfl) dX10_keep_4 (fun r_3 u_2 H locs hw_u_2 hP hD hS => ?_)
  replace hw_u_2 : r_3 = (f_m_in i_.toInt64 0 1) := hw_u_2
  rw [hw_u_2]
  clear hw_u_2
  have hP : va_P D classes [(h, .inr (10, ML G Rf)), ((Rf 0), .inl (cI, 1302, .inl f0)), ((Rf 1), .inl (cZ, 2, .inl f1))] H := hP
  have hD : va_D A [(h, .inr (10, ML G Rf)), ((Rf 0), .inl (cI, 1302, .inl f0)), ((Rf 1), .inl (cZ, 2, .inl f1))] := hD
  refine lv_if_ne (tgt := 13) hx hb dX10_keep_7 (by decide) (fun c_4 => ?_) (fun c_4 => ?_)
  · replace hF := hF.2 c_4
    rw [if_neg c_4] at hE
    refine lv_aload_n hx hb dX10_keep_13 rfl (lv_at hl 0 rfl) ?_
    refine lv_iconst (v := 0) hx hb dX10_keep_14 (by decide) ?_
    refine lv_sipush (v := 378) hx hb dX10_keep_15 (by decide) ?_
    refine lv_bipush (v := 42) hx hb dX10_keep_18 (by decide) ?_
    refine lv_iload_n hx hb dX10_keep_20 rfl (lv_at hl 1 rfl) ?_
    refine lv_imul hx hb dX10_keep_21 ?_
    refine lv_iadd hx hb dX10_keep_22 ?_
    obtain ⟨hs_5, hF⟩ := hF
    refine cVv (wr := [((Rf 1), .inl (cZ, 2, .inl f1))]) (rest := []) (m_copy Rf h G f0 0 (378 + (42 * i_)) hs_5) okV_X10_copy wd_557 hx hb hml hown hts hK hP hD hS hA hN hl.1 [0, 1] [2] rfl rfl rfl rfl (by decide) rfl rfl rfl (Nat.le_of_ble_eq_true rfl) (Nat.le_of_ble_eq_true rfl) (Nat.le_of_ble_eq_true rfl) (Nat.le_of_ble_eq_true rfl) (Nat.le_of_ble_eq_true rfl) dX10_keep_23 (fun u_6 H locs hw_u_6 hP hD hS => ?_)
    replace hw_u_6 : u_6 = (f_m_copy f0 0 (378 + (42 * i_))) := hw_u_6
    subst hw_u_6
    have hP : va_P D classes [((Rf 1), .inl (cZ, 2, .inl f1)), (h, .inr (10, ML G Rf)), ((Rf 0), .inl (cI, 1302, .inl (f_m_copy f0 0 (378 + (42 * i_)))))] H := hP
    have hD : va_D A [((Rf 1), .inl (cZ, 2, .inl f1)), (h, .inr (10, ML G Rf)), ((Rf 0), .inl (cI, 1302, .inl (f_m_copy f0 0 (378 + (42 * i_)))))] := hD
    refine lv_aload_n hx hb dX10_keep_26 rfl (lv_at hl 0 rfl) ?_
    refine va_get (D := D) (ci := 10) (v := .ref (Rf 1)) (C := RX10) (T := TX10) (N := 45) hx hb hts iX10 hown hK hP 1 rfl rfl 1 (by decide) (hts _ wd_612) (fun _ h9 => h9) rfl dX10_keep_27 ?_
    refine lv_iload_n hx hb dX10_keep_30 rfl (lv_at hl 1 rfl) ?_
    refine lv_iconst (v := 1) hx hb dX10_keep_31 (by decide) ?_
    obtain ⟨hv_8, hF⟩ := hF
    refine va_zast hx hb hK hP hD hS 0 1 rfl rfl hv_8 dX10_keep_32 (fun H locs hP hD hS => ?_)
    have hP : va_P D classes [((Rf 1), .inl (cZ, 2, .inl (upd f1 (i_ : Int32).toNatClampNeg (vp_nar .boolean 1)))), (h, .inr (10, ML G Rf)), ((Rf 0), .inl (cI, 1302, .inl (f_m_copy f0 0 (378 + (42 * i_)))))] H := hP
    have hD : va_D A [((Rf 1), .inl (cZ, 2, .inl (upd f1 (i_ : Int32).toNatClampNeg (vp_nar .boolean 1)))), (h, .inr (10, ML G Rf)), ((Rf 0), .inl (cI, 1302, .inl (f_m_copy f0 0 (378 + (42 * i_)))))] := hD
    refine lv_aload_n hx hb dX10_keep_33 rfl (lv_at hl 0 rfl) ?_
    refine lv_iconst (v := 0) hx hb dX10_keep_34 (by decide) ?_
    refine va_put (D := D) (ci := 10) (v := .int 0) (ty := .int) (C := RX10) (T := TX10) (N := 45) hx hb hts iX10 tyX10 tyX10_ok nmX10 hown hK hP hD hS 1 rfl rfl 2 (by decide) (hts _ wd_556) (fun _ h9 => h9) rfl (by decide +kernel) rfl rfl (Nat.le_of_ble_eq_true rfl) dX10_keep_35 (fun H locs hP hD hS => ?_)
    have hP : va_P D classes [((Rf 1), .inl (cZ, 2, .inl (upd f1 (i_ : Int32).toNatClampNeg (vp_nar .boolean 1)))), (h, .inr (10, ML (upd G 2 0) Rf)), ((Rf 0), .inl (cI, 1302, .inl (f_m_copy f0 0 (378 + (42 * i_)))))] H := hP
    have hD : va_D A [((Rf 1), .inl (cZ, 2, .inl (upd f1 (i_ : Int32).toNatClampNeg (vp_nar .boolean 1)))), (h, .inr (10, ML (upd G 2 0) Rf)), ((Rf 0), .inl (cI, 1302, .inl (f_m_copy f0 0 (378 + (42 * i_)))))] := hD
    refine lv_iconst (v := 1) hx hb dX10_keep_38 (by decide) ?_
    exact hret 1 ((upd G 2 0), (f_m_copy f0 0 (378 + (42 * i_))), (upd f1 (i_ : Int32).toNatClampNeg (vp_nar .boolean 1))) _ _ _ _ dX10_keep_39 rfl hE (cutP (isC := [1, 2, 0]) hP rfl) (cutD (isC := [1, 2, 0]) hD rfl rfl) hS
  · replace hF := hF.1 c_4
    rw [if_pos c_4] at hE
    refine lv_ldc (v := (-1000000001)) hx hb hown (hts _ wd_580) dX10_keep_10 ?_
    exact hret (-1000000001) (G, f0, f1) _ _ _ _ dX10_keep_12 rfl hE hP hD hS
noncomputable def f_m_goBack (G : Nat → Int32) (f0 : Nat → Int32) (f1 : Nat → Int32) (i_ : Int32) : Int32 × (Nat → Int32) × (Nat → Int32) := (if (f_m_in i_.toInt64 0 1) = 0 then ((-1000000001), G, f0) else (if (f1 (i_ : Int32).toNatClampNeg) = 0 then ((-1000000003), G, f0) else (1, (upd G 2 0), (f_m_copy f0 (378 + (42 * i_)) 0))))
def S_m_goBack (G : Nat → Int32) (f0 : Nat → Int32) (f1 : Nat → Int32) (i_ : Int32) : Prop := ((S_m_in i_.toInt64 0 1) ∧ (((f_m_in i_.toInt64 0 1) = 0 → True) ∧ (¬ (f_m_in i_.toInt64 0 1) = 0 → (vp_in i_ 2 ∧ (((f1 (i_ : Int32).toNatClampNeg) = 0 → True) ∧ (¬ (f1 (i_ : Int32).toNatClampNeg) = 0 → ((S_m_copy f0 (378 + (42 * i_)) 0) ∧ True)))))))
def rm_m_goBack : Room := { frames := 1, cells := 0, slots := 0, locals := 25 }
set_option maxHeartbeats 4000000 in
set_option maxRecDepth 100000 in
theorem m_goBack {l : Launch} {D : va_G} {cI cZ : ClassId} {sz : Nat} (Rf : Nat → Nat) (h : Nat) (G : Nat → Int32) (f0 : Nat → Int32) (f1 : Nat → Int32) (i_ : Int32) (hF : S_m_goBack G f0 f1 i_) : KI l yX10_goBack cX10_goBack 2 (some .int) rm_m_goBack D cI cZ [.ref h, .int i_] sz [(h, .inr (10, ML G Rf)), ((Rf 0), .inl (cI, 1302, .inl f0)), ((Rf 1), .inl (cZ, 2, .inl f1))] (fun (r : Int32) (u : (Nat → Int32) × (Nat → Int32)) => (r, u) = f_m_goBack G f0 f1 i_) (fun (u : (Nat → Int32) × (Nat → Int32)) => [(h, .inr (10, ML u.1 Rf)), ((Rf 0), .inl (cI, 1302, .inl u.2)), ((Rf 1), .inl (cZ, 2, .inl f1))]) := by
  refine KI.go rfl (Nat.le_of_ble_eq_true rfl) ?_
  intro p e s m args below meth c ls A Q hx hb hml hts hown hin hP hK hD hS hA hN hl hret
  have hl : lv_has ls 2 [(0, .ref h), (1, .int i_)] := hl
  rw [S_m_goBack] at hF
  obtain ⟨RES, hE⟩ : ∃ xRES, f_m_goBack G f0 f1 i_ = xRES := ⟨_, rfl⟩
  rw [hE] at hret
  rw [f_m_goBack] at hE
  refine lv_iload_n hx hb dX10_goBack_0 rfl (lv_at hl 1 rfl) ?_
  refine lv_i2l (v := i_.toInt64) hx hb dX10_goBack_1 rfl ?_
  refine lv_lconst (v := 0) hx hb dX10_goBack_2 (by decide) ?_
  refine lv_lconst (v := 1) hx hb dX10_goBack_3 (by decide) ?_
  obtain ⟨hs_1, hF⟩ := hF
  refine cSi (wr := [(h, .inr (10, ML G Rf)), ((Rf 0), .inl (cI, 1302, .inl f0)), ((Rf 1), .inl (cZ, 2, .inl f1))]) (rest := []) (m_in i_.toInt64 0 1 hs_1) okS_X10_in wd_495 hx hb hml hown hts hK hP hD hS hA hN hl.1 [] [0, 1, 2] rfl rfl rfl rfl (by decide) rfl (Nat.le_of_ble_eq_true rfl) (Nat.le_of_ble_eq_true rfl) (Nat.le_of_ble_eq_true rfl) (Nat.le_of_ble_eq_true rfl) (Nat.le_of_ble_eq_true rfl) dX10_goBack_4 (fun r_3 u_2 H locs hw_u_2 hP hD hS => ?_)
  replace hw_u_2 : r_3 = (f_m_in i_.toInt64 0 1) := hw_u_2
  rw [hw_u_2]
  clear hw_u_2
  have hP : va_P D classes [(h, .inr (10, ML G Rf)), ((Rf 0), .inl (cI, 1302, .inl f0)), ((Rf 1), .inl (cZ, 2, .inl f1))] H := hP
  have hD : va_D A [(h, .inr (10, ML G Rf)), ((Rf 0), .inl (cI, 1302, .inl f0)), ((Rf 1), .inl (cZ, 2, .inl f1))] := hD
  refine lv_if_ne (tgt := 13) hx hb dX10_goBack_7 (by decide) (fun c_4 => ?_) (fun c_4 => ?_)
  · replace hF := hF.2 c_4
    rw [if_neg c_4] at hE
    refine lv_aload_n hx hb dX10_goBack_13 rfl (lv_at hl 0 rfl) ?_
    refine va_get (D := D) (ci := 10) (v := .ref (Rf 1)) (C := RX10) (T := TX10) (N := 45) hx hb hts iX10 hown hK hP 0 rfl rfl 1 (by decide) (hts _ wd_612) (fun _ h9 => h9) rfl dX10_goBack_14 ?_
    refine lv_iload_n hx hb dX10_goBack_17 rfl (lv_at hl 1 rfl) ?_
    obtain ⟨hv_5, hF⟩ := hF
    refine va_zald hx hb hK hP 2 1 rfl rfl hv_5 dX10_goBack_18 ?_
    refine lv_if_ne (tgt := 25) hx hb dX10_goBack_19 (by decide) (fun c_6 => ?_) (fun c_6 => ?_)
    · replace hF := hF.2 c_6
      rw [if_neg c_6] at hE
      refine lv_aload_n hx hb dX10_goBack_25 rfl (lv_at hl 0 rfl) ?_
      refine lv_sipush (v := 378) hx hb dX10_goBack_26 (by decide) ?_
      refine lv_bipush (v := 42) hx hb dX10_goBack_29 (by decide) ?_
      refine lv_iload_n hx hb dX10_goBack_31 rfl (lv_at hl 1 rfl) ?_
      refine lv_imul hx hb dX10_goBack_32 ?_
      refine lv_iadd hx hb dX10_goBack_33 ?_
      refine lv_iconst (v := 0) hx hb dX10_goBack_34 (by decide) ?_
      obtain ⟨hs_7, hF⟩ := hF
      refine cVv (wr := [((Rf 1), .inl (cZ, 2, .inl f1))]) (rest := []) (m_copy Rf h G f0 (378 + (42 * i_)) 0 hs_7) okV_X10_copy wd_557 hx hb hml hown hts hK hP hD hS hA hN hl.1 [0, 1] [2] rfl rfl rfl rfl (by decide) rfl rfl rfl (Nat.le_of_ble_eq_true rfl) (Nat.le_of_ble_eq_true rfl) (Nat.le_of_ble_eq_true rfl) (Nat.le_of_ble_eq_true rfl) (Nat.le_of_ble_eq_true rfl) dX10_goBack_35 (fun u_8 H locs hw_u_8 hP hD hS => ?_)
      replace hw_u_8 : u_8 = (f_m_copy f0 (378 + (42 * i_)) 0) := hw_u_8
      subst hw_u_8
      have hP : va_P D classes [((Rf 1), .inl (cZ, 2, .inl f1)), (h, .inr (10, ML G Rf)), ((Rf 0), .inl (cI, 1302, .inl (f_m_copy f0 (378 + (42 * i_)) 0)))] H := hP
      have hD : va_D A [((Rf 1), .inl (cZ, 2, .inl f1)), (h, .inr (10, ML G Rf)), ((Rf 0), .inl (cI, 1302, .inl (f_m_copy f0 (378 + (42 * i_)) 0)))] := hD
      refine lv_aload_n hx hb dX10_goBack_38 rfl (lv_at hl 0 rfl) ?_
      refine lv_iconst (v := 0) hx hb dX10_goBack_39 (by decide) ?_
      refine va_put (D := D) (ci := 10) (v := .int 0) (ty := .int) (C := RX10) (T := TX10) (N := 45) hx hb hts iX10 tyX10 tyX10_ok nmX10 hown hK hP hD hS 1 rfl rfl 2 (by decide) (hts _ wd_556) (fun _ h9 => h9) rfl (by decide +kernel) rfl rfl (Nat.le_of_ble_eq_true rfl) dX10_goBack_40 (fun H locs hP hD hS => ?_)
      have hP : va_P D classes [((Rf 1), .inl (cZ, 2, .inl f1)), (h, .inr (10, ML (upd G 2 0) Rf)), ((Rf 0), .inl (cI, 1302, .inl (f_m_copy f0 (378 + (42 * i_)) 0)))] H := hP
      have hD : va_D A [((Rf 1), .inl (cZ, 2, .inl f1)), (h, .inr (10, ML (upd G 2 0) Rf)), ((Rf 0), .inl (cI, 1302, .inl (f_m_copy f0 (378 + (42 * i_)) 0)))] := hD
      refine lv_iconst (v := 1) hx hb dX10_goBack_43 (by decide) ?_
      exact hret 1 ((upd G 2 0), (f_m_copy f0 (378 + (42 * i_)) 0)) _ _ _ _ dX10_goBack_44 rfl hE (cutP (isC := [1, 2, 0]) hP rfl) (cutD (isC := [1, 2, 0]) hD rfl rfl) hS
    · replace hF := hF.1 c_6
      rw [if_pos c_6] at hE
      refine lv_ldc (v := (-1000000003)) hx hb hown (hts _ wd_562) dX10_goBack_22 ?_
      exact hret (-1000000003) (G, f0) _ _ _ _ dX10_goBack_24 rfl hE hP hD hS
  · replace hF := hF.1 c_4
    rw [if_pos c_4] at hE
    refine lv_ldc (v := (-1000000001)) hx hb hown (hts _ wd_580) dX10_goBack_10 ?_
    exact hret (-1000000001) (G, f0) _ _ _ _ dX10_goBack_12 rfl hE hP hD hS
end
section
theorem dX10_told_0 : decode cX10_told 0 = .ok (.iload_n 1, 1) := by decide +kernel
theorem dX10_told_1 : decode cX10_told 1 = .ok (.tableswitch 134 0 13 #[71, 76, 81, 86, 91, 96, 101, 109, 134, 134, 134, 117, 124, 129], 71) := by decide +kernel
theorem dX10_told_72 : decode cX10_told 72 = .ok (.aload_n 0, 1) := by decide +kernel
theorem dX10_told_73 : decode cX10_told 73 = .ok (.getfield 81, 3) := by decide +kernel
theorem dX10_told_76 : decode cX10_told 76 = .ok (.ireturn, 1) := by decide +kernel
theorem dX10_told_77 : decode cX10_told 77 = .ok (.aload_n 0, 1) := by decide +kernel
theorem dX10_told_78 : decode cX10_told 78 = .ok (.getfield 17, 3) := by decide +kernel
theorem dX10_told_81 : decode cX10_told 81 = .ok (.ireturn, 1) := by decide +kernel
theorem dX10_told_82 : decode cX10_told 82 = .ok (.aload_n 0, 1) := by decide +kernel
theorem dX10_told_83 : decode cX10_told 83 = .ok (.getfield 78, 3) := by decide +kernel
theorem dX10_told_86 : decode cX10_told 86 = .ok (.ireturn, 1) := by decide +kernel
theorem dX10_told_87 : decode cX10_told 87 = .ok (.aload_n 0, 1) := by decide +kernel
theorem dX10_told_88 : decode cX10_told 88 = .ok (.getfield 88, 3) := by decide +kernel
theorem dX10_told_91 : decode cX10_told 91 = .ok (.ireturn, 1) := by decide +kernel
theorem dX10_told_92 : decode cX10_told 92 = .ok (.aload_n 0, 1) := by decide +kernel
theorem dX10_told_93 : decode cX10_told 93 = .ok (.getfield 174, 3) := by decide +kernel
theorem dX10_told_96 : decode cX10_told 96 = .ok (.ireturn, 1) := by decide +kernel
theorem dX10_told_97 : decode cX10_told 97 = .ok (.aload_n 0, 1) := by decide +kernel
theorem dX10_told_98 : decode cX10_told 98 = .ok (.getfield 94, 3) := by decide +kernel
theorem dX10_told_101 : decode cX10_told 101 = .ok (.ireturn, 1) := by decide +kernel
theorem dX10_told_102 : decode cX10_told 102 = .ok (.aload_n 0, 1) := by decide +kernel
theorem dX10_told_103 : decode cX10_told 103 = .ok (.getfield 7, 3) := by decide +kernel
theorem dX10_told_106 : decode cX10_told 106 = .ok (.bipush 19, 2) := by decide +kernel
theorem dX10_told_108 : decode cX10_told 108 = .ok (.iaload, 1) := by decide +kernel
theorem dX10_told_109 : decode cX10_told 109 = .ok (.ireturn, 1) := by decide +kernel
theorem dX10_told_110 : decode cX10_told 110 = .ok (.aload_n 0, 1) := by decide +kernel
theorem dX10_told_111 : decode cX10_told 111 = .ok (.getfield 7, 3) := by decide +kernel
theorem dX10_told_114 : decode cX10_told 114 = .ok (.bipush 18, 2) := by decide +kernel
theorem dX10_told_116 : decode cX10_told 116 = .ok (.iaload, 1) := by decide +kernel
theorem dX10_told_117 : decode cX10_told 117 = .ok (.ireturn, 1) := by decide +kernel
theorem dX10_told_135 : decode cX10_told 135 = .ok (.iload_n 1, 1) := by decide +kernel
theorem dX10_told_136 : decode cX10_told 136 = .ok (.i2l, 1) := by decide +kernel
theorem wd_613 : Cond.constantLong RX10 189 (8) ∈ BG := BG_at 995 (by decide +kernel) rfl
theorem dX10_told_137 : decode cX10_told 137 = .ok (.ldc2_w 189, 3) := by decide +kernel
theorem wd_614 : Cond.constantLong RX10 191 (10) ∈ BG := BG_at 996 (by decide +kernel) rfl
theorem dX10_told_140 : decode cX10_told 140 = .ok (.ldc2_w 191, 3) := by decide +kernel
theorem dX10_told_143 : decode cX10_told 143 = .ok (.invokestatic 84, 3) := by decide +kernel
theorem dX10_told_146 : decode cX10_told 146 = .ok (.ifCond .eq 14, 3) := by decide +kernel
theorem dX10_told_160 : decode cX10_told 160 = .ok (.ldc 93, 2) := by decide +kernel
theorem dX10_told_162 : decode cX10_told 162 = .ok (.ireturn, 1) := by decide +kernel
theorem dX10_told_149 : decode cX10_told 149 = .ok (.aload_n 0, 1) := by decide +kernel
theorem dX10_told_150 : decode cX10_told 150 = .ok (.iload_n 1, 1) := by decide +kernel
theorem dX10_told_151 : decode cX10_told 151 = .ok (.bipush 7, 2) := by decide +kernel
theorem dX10_told_153 : decode cX10_told 153 = .ok (.isub, 1) := by decide +kernel
theorem dX10_told_154 : decode cX10_told 154 = .ok (.invokevirtual 193, 3) := by decide +kernel
theorem wd_615 : Cond.methodLink RX10 193 yX10_bargesThat ∈ BG := BG_at 997 (by decide +kernel) rfl
theorem wd_616 : Cond.code yX10_bargesThat cX10_bargesThat 4 (some .int) ∈ BG := BG_at 1000 (by decide +kernel) rfl
theorem wd_617 : Cond.instanceMethod yX10_bargesThat ∈ BG := BG_at 999 (by decide +kernel) rfl
theorem wd_618 : Cond.selects RX10 yX10_bargesThat yX10_bargesThat ∈ BG := BG_in (by decide +kernel) rfl
theorem okV_X10_bargesThat : okV yX10_bargesThat cX10_bargesThat 4 (some .int) 1 := ⟨⟨wd_616, wd_497, by decide +kernel⟩, wd_617, wd_618⟩
theorem dX10_told_157 : decode cX10_told 157 = .ok (.goto 5, 3) := by decide +kernel
theorem dX10_told_118 : decode cX10_told 118 = .ok (.aload_n 0, 1) := by decide +kernel
theorem dX10_told_119 : decode cX10_told 119 = .ok (.bipush 63, 2) := by decide +kernel
theorem dX10_told_121 : decode cX10_told 121 = .ok (.invokevirtual 186, 3) := by decide +kernel
theorem wd_619 : Cond.methodLink RX10 186 yX10_griefOf ∈ BG := BG_at 988 (by decide +kernel) rfl
theorem wd_620 : Cond.code yX10_griefOf cX10_griefOf 4 (some .int) ∈ BG := BG_at 991 (by decide +kernel) rfl
theorem wd_621 : Cond.instanceMethod yX10_griefOf ∈ BG := BG_at 990 (by decide +kernel) rfl
theorem wd_622 : Cond.selects RX10 yX10_griefOf yX10_griefOf ∈ BG := BG_in (by decide +kernel) rfl
theorem okV_X10_griefOf : okV yX10_griefOf cX10_griefOf 4 (some .int) 1 := ⟨⟨wd_620, wd_497, by decide +kernel⟩, wd_621, wd_622⟩
theorem dX10_told_124 : decode cX10_told 124 = .ok (.ireturn, 1) := by decide +kernel
theorem dX10_told_125 : decode cX10_told 125 = .ok (.aload_n 0, 1) := by decide +kernel
theorem dX10_told_126 : decode cX10_told 126 = .ok (.getfield 177, 3) := by decide +kernel
theorem dX10_told_129 : decode cX10_told 129 = .ok (.ireturn, 1) := by decide +kernel
theorem dX10_told_130 : decode cX10_told 130 = .ok (.aload_n 0, 1) := by decide +kernel
theorem dX10_told_131 : decode cX10_told 131 = .ok (.getfield 180, 3) := by decide +kernel
theorem dX10_told_134 : decode cX10_told 134 = .ok (.ireturn, 1) := by decide +kernel
noncomputable def f_m_told (G : Nat → Int32) (f0 : Nat → Int32) (w_ : Int32) : Int32 := (if w_ = 0 then (G 3) else (if w_ = 1 then (G 4) else (if w_ = 2 then (G 5) else (if w_ = 3 then (G 6) else (if w_ = 4 then (G 7) else (if w_ = 5 then (G 14) else (if w_ = 6 then (f0 (19 : Int32).toNatClampNeg) else (if w_ = 7 then (f0 (18 : Int32).toNatClampNeg) else (if w_ = 8 then (if (f_m_in 8 8 10) = 0 then (-1000000002) else (f_m_bargesThat G f0 1)) else (if w_ = 9 then (if (f_m_in 9 8 10) = 0 then (-1000000002) else (f_m_bargesThat G f0 2)) else (if w_ = 10 then (if (f_m_in 10 8 10) = 0 then (-1000000002) else (f_m_bargesThat G f0 3)) else (if w_ = 11 then (f_m_griefOf G f0 63) else (if w_ = 12 then (G 42) else (if w_ = 13 then (G 2) else (if (f_m_in w_.toInt64 8 10) = 0 then (-1000000002) else (f_m_bargesThat G f0 (w_ - 7)))))))))))))))))
def S_m_told (G : Nat → Int32) (f0 : Nat → Int32) (w_ : Int32) : Prop := ((w_ = 0 → True) ∧ (¬ w_ = 0 → ((w_ = 1 → True) ∧ (¬ w_ = 1 → ((w_ = 2 → True) ∧ (¬ w_ = 2 → ((w_ = 3 → True) ∧ (¬ w_ = 3 → ((w_ = 4 → True) ∧ (¬ w_ = 4 → ((w_ = 5 → True) ∧ (¬ w_ = 5 → ((w_ = 6 → True) ∧ (¬ w_ = 6 → ((w_ = 7 → True) ∧ (¬ w_ = 7 → ((w_ = 8 → ((S_m_in 8 8 10) ∧ (((f_m_in 8 8 10) = 0 → True) ∧ (¬ (f_m_in 8 8 10) = 0 → ((S_m_bargesThat G f0 1) ∧ True))))) ∧ (¬ w_ = 8 → ((w_ = 9 → ((S_m_in 9 8 10) ∧ (((f_m_in 9 8 10) = 0 → True) ∧ (¬ (f_m_in 9 8 10) = 0 → ((S_m_bargesThat G f0 2) ∧ True))))) ∧ (¬ w_ = 9 → ((w_ = 10 → ((S_m_in 10 8 10) ∧ (((f_m_in 10 8 10) = 0 → True) ∧ (¬ (f_m_in 10 8 10) = 0 → ((S_m_bargesThat G f0 3) ∧ True))))) ∧ (¬ w_ = 10 → ((w_ = 11 → ((S_m_griefOf G f0 63) ∧ True)) ∧ (¬ w_ = 11 → ((w_ = 12 → True) ∧ (¬ w_ = 12 → ((w_ = 13 → True) ∧ (¬ w_ = 13 → ((S_m_in w_.toInt64 8 10) ∧ (((f_m_in w_.toInt64 8 10) = 0 → True) ∧ (¬ (f_m_in w_.toInt64 8 10) = 0 → ((S_m_bargesThat G f0 (w_ - 7)) ∧ True))))))))))))))))))))))))))))))))
def rm_m_told : Room := { frames := 2, cells := 0, slots := 0, locals := 44 }
set_option maxHeartbeats 4000000 in
set_option maxRecDepth 100000 in
theorem m_told {l : Launch} {D : va_G} {cI cZ : ClassId} {sz : Nat} (Rf : Nat → Nat) (h : Nat) (G : Nat → Int32) (f0 : Nat → Int32) (w_ : Int32) (hF : S_m_told G f0 w_) : KI l yX10_told cX10_told 2 (some .int) rm_m_told D cI cZ [.ref h, .int w_] sz [(h, .inr (10, ML G Rf)), ((Rf 0), .inl (cI, 1302, .inl f0))] (fun (r : Int32) (_ : Unit) => r = f_m_told G f0 w_) (fun (_ : Unit) => [(h, .inr (10, ML G Rf)), ((Rf 0), .inl (cI, 1302, .inl f0))]) := by
  refine KI.go rfl (Nat.le_of_ble_eq_true rfl) ?_
  intro p e s m args below meth c ls A Q hx hb hml hts hown hin hP hK hD hS hA hN hl hret
  have hl : lv_has ls 2 [(0, .ref h), (1, .int w_)] := hl
  rw [S_m_told] at hF
  obtain ⟨RES, hE⟩ : ∃ xRES, f_m_told G f0 w_ = xRES := ⟨_, rfl⟩
  rw [hE] at hret
  rw [f_m_told] at hE
  refine lv_iload_n hx hb dX10_told_0 rfl (lv_at hl 1 rfl) ?_
  by_cases c_1 : w_ = 0
  · replace hF := hF.1 c_1
    rw [if_pos c_1] at hE
    subst c_1
    refine lv_tableIn (off := 71) (tgt := 72) hx hb dX10_told_1 (by decide +kernel) (by decide +kernel) (by decide +kernel) (by decide) ?_
    refine lv_aload_n hx hb dX10_told_72 rfl (lv_at hl 0 rfl) ?_
    refine va_get (D := D) (ci := 10) (v := .int (G 3)) (C := RX10) (T := TX10) (N := 45) hx hb hts iX10 hown hK hP 0 rfl rfl 3 (by decide) (hts _ wd_494) (fun _ h9 => h9) rfl dX10_told_73 ?_
    exact hret (G 3) () _ _ _ _ dX10_told_76 rfl hE hP hD hS
  · skip
    replace hF := hF.2 c_1
    rw [if_neg c_1] at hE
    by_cases c_2 : w_ = 1
    · replace hF := hF.1 c_2
      rw [if_pos c_2] at hE
      subst c_2
      refine lv_tableIn (off := 76) (tgt := 77) hx hb dX10_told_1 (by decide +kernel) (by decide +kernel) (by decide +kernel) (by decide) ?_
      refine lv_aload_n hx hb dX10_told_77 rfl (lv_at hl 0 rfl) ?_
      refine va_get (D := D) (ci := 10) (v := .int (G 4)) (C := RX10) (T := TX10) (N := 45) hx hb hts iX10 hown hK hP 0 rfl rfl 4 (by decide) (hts _ wd_500) (fun _ h9 => h9) rfl dX10_told_78 ?_
      exact hret (G 4) () _ _ _ _ dX10_told_81 rfl hE hP hD hS
    · skip
      replace hF := hF.2 c_2
      rw [if_neg c_2] at hE
      by_cases c_3 : w_ = 2
      · replace hF := hF.1 c_3
        rw [if_pos c_3] at hE
        subst c_3
        refine lv_tableIn (off := 81) (tgt := 82) hx hb dX10_told_1 (by decide +kernel) (by decide +kernel) (by decide +kernel) (by decide) ?_
        refine lv_aload_n hx hb dX10_told_82 rfl (lv_at hl 0 rfl) ?_
        refine va_get (D := D) (ci := 10) (v := .int (G 5)) (C := RX10) (T := TX10) (N := 45) hx hb hts iX10 hown hK hP 0 rfl rfl 5 (by decide) (hts _ wd_499) (fun _ h9 => h9) rfl dX10_told_83 ?_
        exact hret (G 5) () _ _ _ _ dX10_told_86 rfl hE hP hD hS
      · skip
        replace hF := hF.2 c_3
        rw [if_neg c_3] at hE
        by_cases c_4 : w_ = 3
        · replace hF := hF.1 c_4
          rw [if_pos c_4] at hE
          subst c_4
          refine lv_tableIn (off := 86) (tgt := 87) hx hb dX10_told_1 (by decide +kernel) (by decide +kernel) (by decide +kernel) (by decide) ?_
          refine lv_aload_n hx hb dX10_told_87 rfl (lv_at hl 0 rfl) ?_
          refine va_get (D := D) (ci := 10) (v := .int (G 6)) (C := RX10) (T := TX10) (N := 45) hx hb hts iX10 hown hK hP 0 rfl rfl 6 (by decide) (hts _ wd_501) (fun _ h9 => h9) rfl dX10_told_88 ?_
          exact hret (G 6) () _ _ _ _ dX10_told_91 rfl hE hP hD hS
        · skip
          replace hF := hF.2 c_4
          rw [if_neg c_4] at hE
          by_cases c_5 : w_ = 4
          · replace hF := hF.1 c_5
            rw [if_pos c_5] at hE
            subst c_5
            refine lv_tableIn (off := 91) (tgt := 92) hx hb dX10_told_1 (by decide +kernel) (by decide +kernel) (by decide +kernel) (by decide) ?_
            refine lv_aload_n hx hb dX10_told_92 rfl (lv_at hl 0 rfl) ?_
            refine va_get (D := D) (ci := 10) (v := .int (G 7)) (C := RX10) (T := TX10) (N := 45) hx hb hts iX10 hown hK hP 0 rfl rfl 7 (by decide) (hts _ wd_548) (fun _ h9 => h9) rfl dX10_told_93 ?_
            exact hret (G 7) () _ _ _ _ dX10_told_96 rfl hE hP hD hS
          · skip
            replace hF := hF.2 c_5
            rw [if_neg c_5] at hE
            by_cases c_6 : w_ = 5
            · replace hF := hF.1 c_6
              rw [if_pos c_6] at hE
              subst c_6
              refine lv_tableIn (off := 96) (tgt := 97) hx hb dX10_told_1 (by decide +kernel) (by decide +kernel) (by decide +kernel) (by decide) ?_
              refine lv_aload_n hx hb dX10_told_97 rfl (lv_at hl 0 rfl) ?_
              refine va_get (D := D) (ci := 10) (v := .int (G 14)) (C := RX10) (T := TX10) (N := 45) hx hb hts iX10 hown hK hP 0 rfl rfl 14 (by decide) (hts _ wd_492) (fun _ h9 => h9) rfl dX10_told_98 ?_
              exact hret (G 14) () _ _ _ _ dX10_told_101 rfl hE hP hD hS
            · skip
              replace hF := hF.2 c_6
              rw [if_neg c_6] at hE
              by_cases c_7 : w_ = 6
              · replace hF := hF.1 c_7
                rw [if_pos c_7] at hE
                subst c_7
                refine lv_tableIn (off := 101) (tgt := 102) hx hb dX10_told_1 (by decide +kernel) (by decide +kernel) (by decide +kernel) (by decide) ?_
                refine lv_aload_n hx hb dX10_told_102 rfl (lv_at hl 0 rfl) ?_
                refine va_get (D := D) (ci := 10) (v := .ref (Rf 0)) (C := RX10) (T := TX10) (N := 45) hx hb hts iX10 hown hK hP 0 rfl rfl 0 (by decide) (hts _ wd_491) (fun _ h9 => h9) rfl dX10_told_103 ?_
                refine lv_bipush (v := 19) hx hb dX10_told_106 (by decide) ?_
                refine va_iald hx hb hK hP 1 0 rfl rfl (show ¬ ((19 : Int32) < 0 ∨ 1302 ≤ (19 : Int32).toNatClampNeg) by decide +kernel) dX10_told_108 ?_
                exact hret (f0 (19 : Int32).toNatClampNeg) () _ _ _ _ dX10_told_109 rfl hE hP hD hS
              · skip
                replace hF := hF.2 c_7
                rw [if_neg c_7] at hE
                by_cases c_8 : w_ = 7
                · replace hF := hF.1 c_8
                  rw [if_pos c_8] at hE
                  subst c_8
                  refine lv_tableIn (off := 109) (tgt := 110) hx hb dX10_told_1 (by decide +kernel) (by decide +kernel) (by decide +kernel) (by decide) ?_
                  refine lv_aload_n hx hb dX10_told_110 rfl (lv_at hl 0 rfl) ?_
                  refine va_get (D := D) (ci := 10) (v := .ref (Rf 0)) (C := RX10) (T := TX10) (N := 45) hx hb hts iX10 hown hK hP 0 rfl rfl 0 (by decide) (hts _ wd_491) (fun _ h9 => h9) rfl dX10_told_111 ?_
                  refine lv_bipush (v := 18) hx hb dX10_told_114 (by decide) ?_
                  refine va_iald hx hb hK hP 1 0 rfl rfl (show ¬ ((18 : Int32) < 0 ∨ 1302 ≤ (18 : Int32).toNatClampNeg) by decide +kernel) dX10_told_116 ?_
                  exact hret (f0 (18 : Int32).toNatClampNeg) () _ _ _ _ dX10_told_117 rfl hE hP hD hS
                · skip
                  replace hF := hF.2 c_8
                  rw [if_neg c_8] at hE
                  by_cases c_9 : w_ = 8
                  · replace hF := hF.1 c_9
                    rw [if_pos c_9] at hE
                    subst c_9
                    refine lv_tableIn (off := 134) (tgt := 135) hx hb dX10_told_1 (by decide +kernel) (by decide +kernel) (by decide +kernel) (by decide) ?_
                    refine lv_iload_n hx hb dX10_told_135 rfl (lv_at hl 1 rfl) ?_
                    refine lv_i2l (v := 8) hx hb dX10_told_136 (by decide +kernel) ?_
                    refine lv_ldc2 (v := 8) hx hb hown (hts _ wd_613) dX10_told_137 ?_
                    refine lv_ldc2 (v := 10) hx hb hown (hts _ wd_614) dX10_told_140 ?_
                    obtain ⟨hs_10, hF⟩ := hF
                    refine cSi (wr := [(h, .inr (10, ML G Rf)), ((Rf 0), .inl (cI, 1302, .inl f0))]) (rest := []) (m_in 8 8 10 hs_10) okS_X10_in wd_495 hx hb hml hown hts hK hP hD hS hA hN hl.1 [] [0, 1] rfl rfl rfl rfl (by decide) rfl (Nat.le_of_ble_eq_true rfl) (Nat.le_of_ble_eq_true rfl) (Nat.le_of_ble_eq_true rfl) (Nat.le_of_ble_eq_true rfl) (Nat.le_of_ble_eq_true rfl) dX10_told_143 (fun r_12 u_11 H locs hw_u_11 hP hD hS => ?_)
                    replace hw_u_11 : r_12 = (f_m_in 8 8 10) := hw_u_11
                    rw [hw_u_11]
                    clear hw_u_11
                    have hP : va_P D classes [(h, .inr (10, ML G Rf)), ((Rf 0), .inl (cI, 1302, .inl f0))] H := hP
                    have hD : va_D A [(h, .inr (10, ML G Rf)), ((Rf 0), .inl (cI, 1302, .inl f0))] := hD
                    refine lv_if_eq (tgt := 160) hx hb dX10_told_146 (by decide) (fun c_13 => ?_) (fun c_13 => ?_)
                    · replace hF := hF.1 c_13
                      rw [if_pos c_13] at hE
                      refine lv_ldc (v := (-1000000002)) hx hb hown (hts _ wd_507) dX10_told_160 ?_
                      exact hret (-1000000002) () _ _ _ _ dX10_told_162 rfl hE hP hD hS
                    · replace hF := hF.2 c_13
                      rw [if_neg c_13] at hE
                      refine lv_aload_n hx hb dX10_told_149 rfl (lv_at hl 0 rfl) ?_
                      refine lv_iload_n hx hb dX10_told_150 rfl (lv_at hl 1 rfl) ?_
                      refine lv_bipush (v := 7) hx hb dX10_told_151 (by decide) ?_
                      refine lv_isub hx hb dX10_told_153 ?_
                      refine lv_topi (fun z_14 ez_14 => ?_)
                      obtain rfl : z_14 = 1 := ez_14.trans (by decide +kernel)
                      obtain ⟨hs_15, hF⟩ := hF
                      refine cVi (wr := []) (rest := []) (m_bargesThat Rf h G f0 1 hs_15) okV_X10_bargesThat wd_615 hx hb hml hown hts hK hP hD hS hA hN hl.1 [0, 1] [] rfl rfl rfl rfl (by decide) rfl rfl rfl (Nat.le_of_ble_eq_true rfl) (Nat.le_of_ble_eq_true rfl) (Nat.le_of_ble_eq_true rfl) (Nat.le_of_ble_eq_true rfl) (Nat.le_of_ble_eq_true rfl) dX10_told_154 (fun r_17 u_16 H locs hw_u_16 hP hD hS => ?_)
                      replace hw_u_16 : r_17 = (f_m_bargesThat G f0 1) := hw_u_16
                      rw [hw_u_16]
                      clear hw_u_16
                      have hP : va_P D classes [(h, .inr (10, ML G Rf)), ((Rf 0), .inl (cI, 1302, .inl f0))] H := hP
                      have hD : va_D A [(h, .inr (10, ML G Rf)), ((Rf 0), .inl (cI, 1302, .inl f0))] := hD
                      refine lv_goto (tgt := 162) hx hb dX10_told_157 (by decide) ?_
                      exact hret (f_m_bargesThat G f0 1) () _ _ _ _ dX10_told_162 rfl hE hP hD hS
                  · skip
                    replace hF := hF.2 c_9
                    rw [if_neg c_9] at hE
                    by_cases c_18 : w_ = 9
                    · replace hF := hF.1 c_18
                      rw [if_pos c_18] at hE
                      subst c_18
                      refine lv_tableIn (off := 134) (tgt := 135) hx hb dX10_told_1 (by decide +kernel) (by decide +kernel) (by decide +kernel) (by decide) ?_
                      refine lv_iload_n hx hb dX10_told_135 rfl (lv_at hl 1 rfl) ?_
                      refine lv_i2l (v := 9) hx hb dX10_told_136 (by decide +kernel) ?_
                      refine lv_ldc2 (v := 8) hx hb hown (hts _ wd_613) dX10_told_137 ?_
                      refine lv_ldc2 (v := 10) hx hb hown (hts _ wd_614) dX10_told_140 ?_
                      obtain ⟨hs_19, hF⟩ := hF
                      refine cSi (wr := [(h, .inr (10, ML G Rf)), ((Rf 0), .inl (cI, 1302, .inl f0))]) (rest := []) (m_in 9 8 10 hs_19) okS_X10_in wd_495 hx hb hml hown hts hK hP hD hS hA hN hl.1 [] [0, 1] rfl rfl rfl rfl (by decide) rfl (Nat.le_of_ble_eq_true rfl) (Nat.le_of_ble_eq_true rfl) (Nat.le_of_ble_eq_true rfl) (Nat.le_of_ble_eq_true rfl) (Nat.le_of_ble_eq_true rfl) dX10_told_143 (fun r_21 u_20 H locs hw_u_20 hP hD hS => ?_)
                      replace hw_u_20 : r_21 = (f_m_in 9 8 10) := hw_u_20
                      rw [hw_u_20]
                      clear hw_u_20
                      have hP : va_P D classes [(h, .inr (10, ML G Rf)), ((Rf 0), .inl (cI, 1302, .inl f0))] H := hP
                      have hD : va_D A [(h, .inr (10, ML G Rf)), ((Rf 0), .inl (cI, 1302, .inl f0))] := hD
                      refine lv_if_eq (tgt := 160) hx hb dX10_told_146 (by decide) (fun c_22 => ?_) (fun c_22 => ?_)
                      · replace hF := hF.1 c_22
                        rw [if_pos c_22] at hE
                        refine lv_ldc (v := (-1000000002)) hx hb hown (hts _ wd_507) dX10_told_160 ?_
                        exact hret (-1000000002) () _ _ _ _ dX10_told_162 rfl hE hP hD hS
                      · replace hF := hF.2 c_22
                        rw [if_neg c_22] at hE
                        refine lv_aload_n hx hb dX10_told_149 rfl (lv_at hl 0 rfl) ?_
                        refine lv_iload_n hx hb dX10_told_150 rfl (lv_at hl 1 rfl) ?_
                        refine lv_bipush (v := 7) hx hb dX10_told_151 (by decide) ?_
                        refine lv_isub hx hb dX10_told_153 ?_
                        refine lv_topi (fun z_23 ez_23 => ?_)
                        obtain rfl : z_23 = 2 := ez_23.trans (by decide +kernel)
                        obtain ⟨hs_24, hF⟩ := hF
                        refine cVi (wr := []) (rest := []) (m_bargesThat Rf h G f0 2 hs_24) okV_X10_bargesThat wd_615 hx hb hml hown hts hK hP hD hS hA hN hl.1 [0, 1] [] rfl rfl rfl rfl (by decide) rfl rfl rfl (Nat.le_of_ble_eq_true rfl) (Nat.le_of_ble_eq_true rfl) (Nat.le_of_ble_eq_true rfl) (Nat.le_of_ble_eq_true rfl) (Nat.le_of_ble_eq_true rfl) dX10_told_154 (fun r_26 u_25 H locs hw_u_25 hP hD hS => ?_)
                        replace hw_u_25 : r_26 = (f_m_bargesThat G f0 2) := hw_u_25
                        rw [hw_u_25]
                        clear hw_u_25
                        have hP : va_P D classes [(h, .inr (10, ML G Rf)), ((Rf 0), .inl (cI, 1302, .inl f0))] H := hP
                        have hD : va_D A [(h, .inr (10, ML G Rf)), ((Rf 0), .inl (cI, 1302, .inl f0))] := hD
                        refine lv_goto (tgt := 162) hx hb dX10_told_157 (by decide) ?_
                        exact hret (f_m_bargesThat G f0 2) () _ _ _ _ dX10_told_162 rfl hE hP hD hS
                    · skip
                      replace hF := hF.2 c_18
                      rw [if_neg c_18] at hE
                      by_cases c_27 : w_ = 10
                      · replace hF := hF.1 c_27
                        rw [if_pos c_27] at hE
                        subst c_27
                        refine lv_tableIn (off := 134) (tgt := 135) hx hb dX10_told_1 (by decide +kernel) (by decide +kernel) (by decide +kernel) (by decide) ?_
                        refine lv_iload_n hx hb dX10_told_135 rfl (lv_at hl 1 rfl) ?_
                        refine lv_i2l (v := 10) hx hb dX10_told_136 (by decide +kernel) ?_
                        refine lv_ldc2 (v := 8) hx hb hown (hts _ wd_613) dX10_told_137 ?_
                        refine lv_ldc2 (v := 10) hx hb hown (hts _ wd_614) dX10_told_140 ?_
                        obtain ⟨hs_28, hF⟩ := hF
                        refine cSi (wr := [(h, .inr (10, ML G Rf)), ((Rf 0), .inl (cI, 1302, .inl f0))]) (rest := []) (m_in 10 8 10 hs_28) okS_X10_in wd_495 hx hb hml hown hts hK hP hD hS hA hN hl.1 [] [0, 1] rfl rfl rfl rfl (by decide) rfl (Nat.le_of_ble_eq_true rfl) (Nat.le_of_ble_eq_true rfl) (Nat.le_of_ble_eq_true rfl) (Nat.le_of_ble_eq_true rfl) (Nat.le_of_ble_eq_true rfl) dX10_told_143 (fun r_30 u_29 H locs hw_u_29 hP hD hS => ?_)
                        replace hw_u_29 : r_30 = (f_m_in 10 8 10) := hw_u_29
                        rw [hw_u_29]
                        clear hw_u_29
                        have hP : va_P D classes [(h, .inr (10, ML G Rf)), ((Rf 0), .inl (cI, 1302, .inl f0))] H := hP
                        have hD : va_D A [(h, .inr (10, ML G Rf)), ((Rf 0), .inl (cI, 1302, .inl f0))] := hD
                        refine lv_if_eq (tgt := 160) hx hb dX10_told_146 (by decide) (fun c_31 => ?_) (fun c_31 => ?_)
                        · replace hF := hF.1 c_31
                          rw [if_pos c_31] at hE
                          refine lv_ldc (v := (-1000000002)) hx hb hown (hts _ wd_507) dX10_told_160 ?_
                          exact hret (-1000000002) () _ _ _ _ dX10_told_162 rfl hE hP hD hS
                        · replace hF := hF.2 c_31
                          rw [if_neg c_31] at hE
                          refine lv_aload_n hx hb dX10_told_149 rfl (lv_at hl 0 rfl) ?_
                          refine lv_iload_n hx hb dX10_told_150 rfl (lv_at hl 1 rfl) ?_
                          refine lv_bipush (v := 7) hx hb dX10_told_151 (by decide) ?_
                          refine lv_isub hx hb dX10_told_153 ?_
                          refine lv_topi (fun z_32 ez_32 => ?_)
                          obtain rfl : z_32 = 3 := ez_32.trans (by decide +kernel)
                          obtain ⟨hs_33, hF⟩ := hF
                          refine cVi (wr := []) (rest := []) (m_bargesThat Rf h G f0 3 hs_33) okV_X10_bargesThat wd_615 hx hb hml hown hts hK hP hD hS hA hN hl.1 [0, 1] [] rfl rfl rfl rfl (by decide) rfl rfl rfl (Nat.le_of_ble_eq_true rfl) (Nat.le_of_ble_eq_true rfl) (Nat.le_of_ble_eq_true rfl) (Nat.le_of_ble_eq_true rfl) (Nat.le_of_ble_eq_true rfl) dX10_told_154 (fun r_35 u_34 H locs hw_u_34 hP hD hS => ?_)
                          replace hw_u_34 : r_35 = (f_m_bargesThat G f0 3) := hw_u_34
                          rw [hw_u_34]
                          clear hw_u_34
                          have hP : va_P D classes [(h, .inr (10, ML G Rf)), ((Rf 0), .inl (cI, 1302, .inl f0))] H := hP
                          have hD : va_D A [(h, .inr (10, ML G Rf)), ((Rf 0), .inl (cI, 1302, .inl f0))] := hD
                          refine lv_goto (tgt := 162) hx hb dX10_told_157 (by decide) ?_
                          exact hret (f_m_bargesThat G f0 3) () _ _ _ _ dX10_told_162 rfl hE hP hD hS
                      · skip
                        replace hF := hF.2 c_27
                        rw [if_neg c_27] at hE
                        by_cases c_36 : w_ = 11
                        · replace hF := hF.1 c_36
                          rw [if_pos c_36] at hE
                          subst c_36
                          refine lv_tableIn (off := 117) (tgt := 118) hx hb dX10_told_1 (by decide +kernel) (by decide +kernel) (by decide +kernel) (by decide) ?_
                          refine lv_aload_n hx hb dX10_told_118 rfl (lv_at hl 0 rfl) ?_
                          refine lv_bipush (v := 63) hx hb dX10_told_119 (by decide) ?_
                          obtain ⟨hs_37, hF⟩ := hF
                          refine cVi (wr := []) (rest := []) (m_griefOf Rf h G f0 63 hs_37) okV_X10_griefOf wd_619 hx hb hml hown hts hK hP hD hS hA hN hl.1 [0, 1] [] rfl rfl rfl rfl (by decide) rfl rfl rfl (Nat.le_of_ble_eq_true rfl) (Nat.le_of_ble_eq_true rfl) (Nat.le_of_ble_eq_true rfl) (Nat.le_of_ble_eq_true rfl) (Nat.le_of_ble_eq_true rfl) dX10_told_121 (fun r_39 u_38 H locs hw_u_38 hP hD hS => ?_)
                          replace hw_u_38 : r_39 = (f_m_griefOf G f0 63) := hw_u_38
                          rw [hw_u_38]
                          clear hw_u_38
                          have hP : va_P D classes [(h, .inr (10, ML G Rf)), ((Rf 0), .inl (cI, 1302, .inl f0))] H := hP
                          have hD : va_D A [(h, .inr (10, ML G Rf)), ((Rf 0), .inl (cI, 1302, .inl f0))] := hD
                          exact hret (f_m_griefOf G f0 63) () _ _ _ _ dX10_told_124 rfl hE hP hD hS
                        · skip
                          replace hF := hF.2 c_36
                          rw [if_neg c_36] at hE
                          by_cases c_40 : w_ = 12
                          · replace hF := hF.1 c_40
                            rw [if_pos c_40] at hE
                            subst c_40
                            refine lv_tableIn (off := 124) (tgt := 125) hx hb dX10_told_1 (by decide +kernel) (by decide +kernel) (by decide +kernel) (by decide) ?_
                            refine lv_aload_n hx hb dX10_told_125 rfl (lv_at hl 0 rfl) ?_
                            refine va_get (D := D) (ci := 10) (v := .int (G 42)) (C := RX10) (T := TX10) (N := 45) hx hb hts iX10 hown hK hP 0 rfl rfl 42 (by decide) (hts _ wd_609) (fun _ h9 => h9) rfl dX10_told_126 ?_
                            exact hret (G 42) () _ _ _ _ dX10_told_129 rfl hE hP hD hS
                          · skip
                            replace hF := hF.2 c_40
                            rw [if_neg c_40] at hE
                            by_cases c_41 : w_ = 13
                            · replace hF := hF.1 c_41
                              rw [if_pos c_41] at hE
                              subst c_41
                              refine lv_tableIn (off := 129) (tgt := 130) hx hb dX10_told_1 (by decide +kernel) (by decide +kernel) (by decide +kernel) (by decide) ?_
                              refine lv_aload_n hx hb dX10_told_130 rfl (lv_at hl 0 rfl) ?_
                              refine va_get (D := D) (ci := 10) (v := .int (G 2)) (C := RX10) (T := TX10) (N := 45) hx hb hts iX10 hown hK hP 0 rfl rfl 2 (by decide) (hts _ wd_556) (fun _ h9 => h9) rfl dX10_told_131 ?_
                              exact hret (G 2) () _ _ _ _ dX10_told_134 rfl hE hP hD hS
                            · skip
                              replace hF := hF.2 c_41
                              rw [if_neg c_41] at hE
                              refine lv_tableOut (tgt := 135) hx hb dX10_told_1 (by have q := lv_neT (a := 0) c_1 rfl; have q0 := lv_neT (a := 0) c_1 rfl; have q1 := lv_neT (a := 1) c_2 rfl; have q2 := lv_neT (a := 2) c_3 rfl; have q3 := lv_neT (a := 3) c_4 rfl; have q4 := lv_neT (a := 4) c_5 rfl; have q5 := lv_neT (a := 5) c_6 rfl; have q6 := lv_neT (a := 6) c_7 rfl; have q7 := lv_neT (a := 7) c_8 rfl; have q8 := lv_neT (a := 8) c_9 rfl; have q9 := lv_neT (a := 9) c_18 rfl; have q10 := lv_neT (a := 10) c_27 rfl; have q11 := lv_neT (a := 11) c_36 rfl; have q12 := lv_neT (a := 12) c_40 rfl; have q13 := lv_neT (a := 13) c_41 rfl; omega) (by decide) ?_
                              refine lv_iload_n hx hb dX10_told_135 rfl (lv_at hl 1 rfl) ?_
                              refine lv_i2l (v := w_.toInt64) hx hb dX10_told_136 rfl ?_
                              refine lv_ldc2 (v := 8) hx hb hown (hts _ wd_613) dX10_told_137 ?_
                              refine lv_ldc2 (v := 10) hx hb hown (hts _ wd_614) dX10_told_140 ?_
                              obtain ⟨hs_42, hF⟩ := hF
                              refine cSi (wr := [(h, .inr (10, ML G Rf)), ((Rf 0), .inl (cI, 1302, .inl f0))]) (rest := []) (m_in w_.toInt64 8 10 hs_42) okS_X10_in wd_495 hx hb hml hown hts hK hP hD hS hA hN hl.1 [] [0, 1] rfl rfl rfl rfl (by decide) rfl (Nat.le_of_ble_eq_true rfl) (Nat.le_of_ble_eq_true rfl) (Nat.le_of_ble_eq_true rfl) (Nat.le_of_ble_eq_true rfl) (Nat.le_of_ble_eq_true rfl) dX10_told_143 (fun r_44 u_43 H locs hw_u_43 hP hD hS => ?_)
                              replace hw_u_43 : r_44 = (f_m_in w_.toInt64 8 10) := hw_u_43
                              rw [hw_u_43]
                              clear hw_u_43
                              have hP : va_P D classes [(h, .inr (10, ML G Rf)), ((Rf 0), .inl (cI, 1302, .inl f0))] H := hP
                              have hD : va_D A [(h, .inr (10, ML G Rf)), ((Rf 0), .inl (cI, 1302, .inl f0))] := hD
                              refine lv_if_eq (tgt := 160) hx hb dX10_told_146 (by decide) (fun c_45 => ?_) (fun c_45 => ?_)
                              · replace hF := hF.1 c_45
                                rw [if_pos c_45] at hE
                                refine lv_ldc (v := (-1000000002)) hx hb hown (hts _ wd_507) dX10_told_160 ?_
                                exact hret (-1000000002) () _ _ _ _ dX10_told_162 rfl hE hP hD hS
                              · replace hF := hF.2 c_45
                                rw [if_neg c_45] at hE
                                refine lv_aload_n hx hb dX10_told_149 rfl (lv_at hl 0 rfl) ?_
                                refine lv_iload_n hx hb dX10_told_150 rfl (lv_at hl 1 rfl) ?_
                                refine lv_bipush (v := 7) hx hb dX10_told_151 (by decide) ?_
                                refine lv_isub hx hb dX10_told_153 ?_
                                obtain ⟨hs_46, hF⟩ := hF
                                refine cVi (wr := []) (rest := []) (m_bargesThat Rf h G f0 (w_ - 7) hs_46) okV_X10_bargesThat wd_615 hx hb hml hown hts hK hP hD hS hA hN hl.1 [0, 1] [] rfl rfl rfl rfl (by decide) rfl rfl rfl (Nat.le_of_ble_eq_true rfl) (Nat.le_of_ble_eq_true rfl) (Nat.le_of_ble_eq_true rfl) (Nat.le_of_ble_eq_true rfl) (Nat.le_of_ble_eq_true rfl) dX10_told_154 (fun r_48 u_47 H locs hw_u_47 hP hD hS => ?_)
                                replace hw_u_47 : r_48 = (f_m_bargesThat G f0 (w_ - 7)) := hw_u_47
                                rw [hw_u_47]
                                clear hw_u_47
                                have hP : va_P D classes [(h, .inr (10, ML G Rf)), ((Rf 0), .inl (cI, 1302, .inl f0))] H := hP
                                have hD : va_D A [(h, .inr (10, ML G Rf)), ((Rf 0), .inl (cI, 1302, .inl f0))] := hD
                                refine lv_goto (tgt := 162) hx hb dX10_told_157 (by decide) ?_
                                exact hret (f_m_bargesThat G f0 (w_ - 7)) () _ _ _ _ dX10_told_162 rfl hE hP hD hS
end
section
theorem dX10_takesClause_0 : decode cX10_takesClause 0 = .ok (.aload_n 0, 1) := by decide +kernel
theorem dX10_takesClause_1 : decode cX10_takesClause 1 = .ok (.invokevirtual 111, 3) := by decide +kernel
theorem dX10_takesClause_4 : decode cX10_takesClause 4 = .ok (.istore_n 1, 1) := by decide +kernel
theorem dX10_takesClause_5 : decode cX10_takesClause 5 = .ok (.iload_n 1, 1) := by decide +kernel
theorem dX10_takesClause_6 : decode cX10_takesClause 6 = .ok (.bipush 98, 2) := by decide +kernel
theorem dX10_takesClause_8 : decode cX10_takesClause 8 = .ok (.if_icmp .eq 34, 3) := by decide +kernel
theorem dX10_takesClause_42 : decode cX10_takesClause 42 = .ok (.iconst 1, 1) := by decide +kernel
theorem dX10_takesClause_43 : decode cX10_takesClause 43 = .ok (.goto 4, 3) := by decide +kernel
theorem dX10_takesClause_47 : decode cX10_takesClause 47 = .ok (.istore_n 2, 1) := by decide +kernel
theorem dX10_takesClause_48 : decode cX10_takesClause 48 = .ok (.iload_n 2, 1) := by decide +kernel
theorem dX10_takesClause_49 : decode cX10_takesClause 49 = .ok (.ifCond .ne 13, 3) := by decide +kernel
theorem dX10_takesClause_62 : decode cX10_takesClause 62 = .ok (.iload_n 1, 1) := by decide +kernel
theorem dX10_takesClause_63 : decode cX10_takesClause 63 = .ok (.bipush 98, 2) := by decide +kernel
theorem dX10_takesClause_65 : decode cX10_takesClause 65 = .ok (.if_icmp .ne 18, 3) := by decide +kernel
theorem dX10_takesClause_68 : decode cX10_takesClause 68 = .ok (.aload_n 0, 1) := by decide +kernel
theorem dX10_takesClause_69 : decode cX10_takesClause 69 = .ok (.getfield 126, 3) := by decide +kernel
theorem dX10_takesClause_72 : decode cX10_takesClause 72 = .ok (.ifCond .le 7, 3) := by decide +kernel
theorem dX10_takesClause_79 : decode cX10_takesClause 79 = .ok (.iconst 0, 1) := by decide +kernel
theorem dX10_takesClause_80 : decode cX10_takesClause 80 = .ok (.goto 81, 3) := by decide +kernel
theorem dX10_takesClause_161 : decode cX10_takesClause 161 = .ok (.istore_n 3, 1) := by decide +kernel
theorem dX10_takesClause_162 : decode cX10_takesClause 162 = .ok (.iload_n 3, 1) := by decide +kernel
theorem dX10_takesClause_163 : decode cX10_takesClause 163 = .ok (.ifCond .eq 13, 3) := by decide +kernel
theorem dX10_takesClause_176 : decode cX10_takesClause 176 = .ok (.aload_n 0, 1) := by decide +kernel
theorem dX10_takesClause_177 : decode cX10_takesClause 177 = .ok (.dup, 1) := by decide +kernel
theorem dX10_takesClause_178 : decode cX10_takesClause 178 = .ok (.getfield 98, 3) := by decide +kernel
theorem dX10_takesClause_181 : decode cX10_takesClause 181 = .ok (.iconst 1, 1) := by decide +kernel
theorem dX10_takesClause_182 : decode cX10_takesClause 182 = .ok (.iadd, 1) := by decide +kernel
theorem dX10_takesClause_183 : decode cX10_takesClause 183 = .ok (.putfield 98, 3) := by decide +kernel
theorem dX10_takesClause_186 : decode cX10_takesClause 186 = .ok (.iload_n 1, 1) := by decide +kernel
theorem dX10_takesClause_187 : decode cX10_takesClause 187 = .ok (.lookupswitch 77 #[(98, 41), (99, 59), (116, 50), (118, 68)], 41) := by decide +kernel
theorem dX10_takesClause_228 : decode cX10_takesClause 228 = .ok (.aload_n 0, 1) := by decide +kernel
theorem dX10_takesClause_229 : decode cX10_takesClause 229 = .ok (.invokevirtual 155, 3) := by decide +kernel
theorem wd_623 : Cond.methodLink RX10 155 yX10_takesBridges ∈ BG := BG_at 950 (by decide +kernel) rfl
theorem wd_624 : Cond.code yX10_takesBridges cX10_takesBridges 2 (some .boolean) ∈ BG := BG_at 953 (by decide +kernel) rfl
theorem wd_625 : Cond.instanceMethod yX10_takesBridges ∈ BG := BG_at 952 (by decide +kernel) rfl
theorem wd_626 : Cond.selects RX10 yX10_takesBridges yX10_takesBridges ∈ BG := BG_in (by decide +kernel) rfl
theorem okV_X10_takesBridges : okV yX10_takesBridges cX10_takesBridges 2 (some .boolean) 0 := ⟨⟨wd_624, wd_497, by decide +kernel⟩, wd_625, wd_626⟩
theorem dX10_takesClause_232 : decode cX10_takesClause 232 = .ok (.istore 4, 2) := by decide +kernel
theorem dX10_takesClause_234 : decode cX10_takesClause 234 = .ok (.goto 36, 3) := by decide +kernel
theorem dX10_takesClause_270 : decode cX10_takesClause 270 = .ok (.iload 4, 2) := by decide +kernel
theorem dX10_takesClause_272 : decode cX10_takesClause 272 = .ok (.ifCond .eq 16, 3) := by decide +kernel
theorem dX10_takesClause_288 : decode cX10_takesClause 288 = .ok (.iconst 0, 1) := by decide +kernel
theorem dX10_takesClause_289 : decode cX10_takesClause 289 = .ok (.ireturn, 1) := by decide +kernel
theorem dX10_takesClause_275 : decode cX10_takesClause 275 = .ok (.aload_n 0, 1) := by decide +kernel
theorem dX10_takesClause_276 : decode cX10_takesClause 276 = .ok (.bipush 59, 2) := by decide +kernel
theorem dX10_takesClause_278 : decode cX10_takesClause 278 = .ok (.invokevirtual 142, 3) := by decide +kernel
theorem dX10_takesClause_281 : decode cX10_takesClause 281 = .ok (.ifCond .eq 7, 3) := by decide +kernel
theorem dX10_takesClause_284 : decode cX10_takesClause 284 = .ok (.iconst 1, 1) := by decide +kernel
theorem dX10_takesClause_285 : decode cX10_takesClause 285 = .ok (.goto 4, 3) := by decide +kernel
theorem dX10_takesClause_75 : decode cX10_takesClause 75 = .ok (.iconst 1, 1) := by decide +kernel
theorem dX10_takesClause_76 : decode cX10_takesClause 76 = .ok (.goto 85, 3) := by decide +kernel
theorem dX10_takesClause_166 : decode cX10_takesClause 166 = .ok (.aload_n 0, 1) := by decide +kernel
theorem dX10_takesClause_167 : decode cX10_takesClause 167 = .ok (.iconst 3, 1) := by decide +kernel
theorem dX10_takesClause_168 : decode cX10_takesClause 168 = .ok (.aload_n 0, 1) := by decide +kernel
theorem dX10_takesClause_169 : decode cX10_takesClause 169 = .ok (.getfield 105, 3) := by decide +kernel
theorem dX10_takesClause_172 : decode cX10_takesClause 172 = .ok (.invokevirtual 115, 3) := by decide +kernel
theorem dX10_takesClause_175 : decode cX10_takesClause 175 = .ok (.ireturn, 1) := by decide +kernel
theorem dX10_takesClause_11 : decode cX10_takesClause 11 = .ok (.aload_n 0, 1) := by decide +kernel
theorem dX10_takesClause_12 : decode cX10_takesClause 12 = .ok (.getfield 126, 3) := by decide +kernel
theorem dX10_takesClause_15 : decode cX10_takesClause 15 = .ok (.ifCond .le 31, 3) := by decide +kernel
theorem dX10_takesClause_46 : decode cX10_takesClause 46 = .ok (.iconst 0, 1) := by decide +kernel
theorem dX10_takesClause_52 : decode cX10_takesClause 52 = .ok (.aload_n 0, 1) := by decide +kernel
theorem dX10_takesClause_53 : decode cX10_takesClause 53 = .ok (.iconst 1, 1) := by decide +kernel
theorem dX10_takesClause_54 : decode cX10_takesClause 54 = .ok (.aload_n 0, 1) := by decide +kernel
theorem dX10_takesClause_55 : decode cX10_takesClause 55 = .ok (.getfield 105, 3) := by decide +kernel
theorem dX10_takesClause_58 : decode cX10_takesClause 58 = .ok (.invokevirtual 115, 3) := by decide +kernel
theorem dX10_takesClause_61 : decode cX10_takesClause 61 = .ok (.ireturn, 1) := by decide +kernel
theorem dX10_takesClause_18 : decode cX10_takesClause 18 = .ok (.iload_n 1, 1) := by decide +kernel
theorem dX10_takesClause_19 : decode cX10_takesClause 19 = .ok (.bipush 116, 2) := by decide +kernel
theorem dX10_takesClause_21 : decode cX10_takesClause 21 = .ok (.if_icmp .eq 21, 3) := by decide +kernel
theorem dX10_takesClause_83 : decode cX10_takesClause 83 = .ok (.iload_n 1, 1) := by decide +kernel
theorem dX10_takesClause_84 : decode cX10_takesClause 84 = .ok (.bipush 116, 2) := by decide +kernel
theorem dX10_takesClause_86 : decode cX10_takesClause 86 = .ok (.if_icmp .ne 25, 3) := by decide +kernel
theorem dX10_takesClause_89 : decode cX10_takesClause 89 = .ok (.aload_n 0, 1) := by decide +kernel
theorem dX10_takesClause_90 : decode cX10_takesClause 90 = .ok (.getfield 132, 3) := by decide +kernel
theorem dX10_takesClause_93 : decode cX10_takesClause 93 = .ok (.ifCond .ne 10, 3) := by decide +kernel
theorem dX10_takesClause_103 : decode cX10_takesClause 103 = .ok (.iconst 1, 1) := by decide +kernel
theorem dX10_takesClause_104 : decode cX10_takesClause 104 = .ok (.goto 57, 3) := by decide +kernel
theorem dX10_takesClause_96 : decode cX10_takesClause 96 = .ok (.aload_n 0, 1) := by decide +kernel
theorem dX10_takesClause_97 : decode cX10_takesClause 97 = .ok (.getfield 139, 3) := by decide +kernel
theorem dX10_takesClause_100 : decode cX10_takesClause 100 = .ok (.ifCond .le 7, 3) := by decide +kernel
theorem dX10_takesClause_107 : decode cX10_takesClause 107 = .ok (.iconst 0, 1) := by decide +kernel
theorem dX10_takesClause_108 : decode cX10_takesClause 108 = .ok (.goto 53, 3) := by decide +kernel
theorem dX10_takesClause_237 : decode cX10_takesClause 237 = .ok (.aload_n 0, 1) := by decide +kernel
theorem dX10_takesClause_238 : decode cX10_takesClause 238 = .ok (.invokevirtual 159, 3) := by decide +kernel
theorem wd_627 : Cond.methodLink RX10 159 yX10_takesThemes ∈ BG := BG_at 960 (by decide +kernel) rfl
theorem wd_628 : Cond.code yX10_takesThemes cX10_takesThemes 1 (some .boolean) ∈ BG := BG_at 963 (by decide +kernel) rfl
theorem wd_629 : Cond.instanceMethod yX10_takesThemes ∈ BG := BG_at 962 (by decide +kernel) rfl
theorem wd_630 : Cond.selects RX10 yX10_takesThemes yX10_takesThemes ∈ BG := BG_in (by decide +kernel) rfl
theorem okV_X10_takesThemes : okV yX10_takesThemes cX10_takesThemes 1 (some .boolean) 0 := ⟨⟨wd_628, wd_497, by decide +kernel⟩, wd_629, wd_630⟩
theorem dX10_takesClause_241 : decode cX10_takesClause 241 = .ok (.istore 4, 2) := by decide +kernel
theorem dX10_takesClause_243 : decode cX10_takesClause 243 = .ok (.goto 27, 3) := by decide +kernel
theorem dX10_takesClause_24 : decode cX10_takesClause 24 = .ok (.iload_n 1, 1) := by decide +kernel
theorem dX10_takesClause_25 : decode cX10_takesClause 25 = .ok (.bipush 99, 2) := by decide +kernel
theorem dX10_takesClause_27 : decode cX10_takesClause 27 = .ok (.if_icmp .eq 15, 3) := by decide +kernel
theorem dX10_takesClause_111 : decode cX10_takesClause 111 = .ok (.iload_n 1, 1) := by decide +kernel
theorem dX10_takesClause_112 : decode cX10_takesClause 112 = .ok (.bipush 99, 2) := by decide +kernel
theorem dX10_takesClause_114 : decode cX10_takesClause 114 = .ok (.if_icmp .ne 20, 3) := by decide +kernel
theorem dX10_takesClause_117 : decode cX10_takesClause 117 = .ok (.aload_n 0, 1) := by decide +kernel
theorem dX10_takesClause_118 : decode cX10_takesClause 118 = .ok (.getfield 139, 3) := by decide +kernel
theorem dX10_takesClause_121 : decode cX10_takesClause 121 = .ok (.bipush 6, 2) := by decide +kernel
theorem dX10_takesClause_123 : decode cX10_takesClause 123 = .ok (.if_icmp .ne 7, 3) := by decide +kernel
theorem dX10_takesClause_130 : decode cX10_takesClause 130 = .ok (.iconst 0, 1) := by decide +kernel
theorem dX10_takesClause_131 : decode cX10_takesClause 131 = .ok (.goto 30, 3) := by decide +kernel
theorem dX10_takesClause_246 : decode cX10_takesClause 246 = .ok (.aload_n 0, 1) := by decide +kernel
theorem dX10_takesClause_247 : decode cX10_takesClause 247 = .ok (.invokevirtual 162, 3) := by decide +kernel
theorem wd_631 : Cond.methodLink RX10 162 yX10_takesCouple ∈ BG := BG_at 964 (by decide +kernel) rfl
theorem wd_632 : Cond.code yX10_takesCouple cX10_takesCouple 2 (some .boolean) ∈ BG := BG_at 967 (by decide +kernel) rfl
theorem wd_633 : Cond.instanceMethod yX10_takesCouple ∈ BG := BG_at 966 (by decide +kernel) rfl
theorem wd_634 : Cond.selects RX10 yX10_takesCouple yX10_takesCouple ∈ BG := BG_in (by decide +kernel) rfl
theorem okV_X10_takesCouple : okV yX10_takesCouple cX10_takesCouple 2 (some .boolean) 0 := ⟨⟨wd_632, wd_497, by decide +kernel⟩, wd_633, wd_634⟩
theorem dX10_takesClause_250 : decode cX10_takesClause 250 = .ok (.istore 4, 2) := by decide +kernel
theorem dX10_takesClause_252 : decode cX10_takesClause 252 = .ok (.goto 18, 3) := by decide +kernel
theorem dX10_takesClause_126 : decode cX10_takesClause 126 = .ok (.iconst 1, 1) := by decide +kernel
theorem dX10_takesClause_127 : decode cX10_takesClause 127 = .ok (.goto 34, 3) := by decide +kernel
theorem dX10_takesClause_30 : decode cX10_takesClause 30 = .ok (.iload_n 1, 1) := by decide +kernel
theorem dX10_takesClause_31 : decode cX10_takesClause 31 = .ok (.bipush 118, 2) := by decide +kernel
theorem dX10_takesClause_33 : decode cX10_takesClause 33 = .ok (.if_icmp .eq 9, 3) := by decide +kernel
theorem dX10_takesClause_134 : decode cX10_takesClause 134 = .ok (.iload_n 1, 1) := by decide +kernel
theorem dX10_takesClause_135 : decode cX10_takesClause 135 = .ok (.bipush 118, 2) := by decide +kernel
theorem dX10_takesClause_137 : decode cX10_takesClause 137 = .ok (.if_icmp .ne 20, 3) := by decide +kernel
theorem dX10_takesClause_140 : decode cX10_takesClause 140 = .ok (.aload_n 0, 1) := by decide +kernel
theorem dX10_takesClause_141 : decode cX10_takesClause 141 = .ok (.getfield 146, 3) := by decide +kernel
theorem dX10_takesClause_144 : decode cX10_takesClause 144 = .ok (.bipush 7, 2) := by decide +kernel
theorem dX10_takesClause_146 : decode cX10_takesClause 146 = .ok (.if_icmp .ne 7, 3) := by decide +kernel
theorem dX10_takesClause_153 : decode cX10_takesClause 153 = .ok (.iconst 0, 1) := by decide +kernel
theorem dX10_takesClause_154 : decode cX10_takesClause 154 = .ok (.goto 7, 3) := by decide +kernel
theorem dX10_takesClause_255 : decode cX10_takesClause 255 = .ok (.aload_n 0, 1) := by decide +kernel
theorem dX10_takesClause_256 : decode cX10_takesClause 256 = .ok (.invokevirtual 165, 3) := by decide +kernel
theorem wd_635 : Cond.methodLink RX10 165 yX10_takesBarge ∈ BG := BG_at 972 (by decide +kernel) rfl
theorem wd_636 : Cond.code yX10_takesBarge cX10_takesBarge 1 (some .boolean) ∈ BG := BG_at 975 (by decide +kernel) rfl
theorem wd_637 : Cond.instanceMethod yX10_takesBarge ∈ BG := BG_at 974 (by decide +kernel) rfl
theorem wd_638 : Cond.selects RX10 yX10_takesBarge yX10_takesBarge ∈ BG := BG_in (by decide +kernel) rfl
theorem okV_X10_takesBarge : okV yX10_takesBarge cX10_takesBarge 1 (some .boolean) 0 := ⟨⟨wd_636, wd_497, by decide +kernel⟩, wd_637, wd_638⟩
theorem dX10_takesClause_259 : decode cX10_takesClause 259 = .ok (.istore 4, 2) := by decide +kernel
theorem dX10_takesClause_261 : decode cX10_takesClause 261 = .ok (.goto 9, 3) := by decide +kernel
theorem dX10_takesClause_149 : decode cX10_takesClause 149 = .ok (.iconst 1, 1) := by decide +kernel
theorem dX10_takesClause_150 : decode cX10_takesClause 150 = .ok (.goto 11, 3) := by decide +kernel
theorem dX10_takesClause_36 : decode cX10_takesClause 36 = .ok (.iload_n 1, 1) := by decide +kernel
theorem dX10_takesClause_37 : decode cX10_takesClause 37 = .ok (.bipush 115, 2) := by decide +kernel
theorem dX10_takesClause_39 : decode cX10_takesClause 39 = .ok (.if_icmp .ne 7, 3) := by decide +kernel
theorem dX10_takesClause_157 : decode cX10_takesClause 157 = .ok (.aload_n 0, 1) := by decide +kernel
theorem dX10_takesClause_158 : decode cX10_takesClause 158 = .ok (.getfield 149, 3) := by decide +kernel
theorem dX10_takesClause_264 : decode cX10_takesClause 264 = .ok (.aload_n 0, 1) := by decide +kernel
theorem dX10_takesClause_265 : decode cX10_takesClause 265 = .ok (.invokevirtual 168, 3) := by decide +kernel
theorem wd_639 : Cond.methodLink RX10 168 yX10_takesSnow ∈ BG := BG_at 976 (by decide +kernel) rfl
theorem wd_640 : Cond.code yX10_takesSnow cX10_takesSnow 1 (some .boolean) ∈ BG := BG_at 979 (by decide +kernel) rfl
theorem wd_641 : Cond.instanceMethod yX10_takesSnow ∈ BG := BG_at 978 (by decide +kernel) rfl
theorem wd_642 : Cond.selects RX10 yX10_takesSnow yX10_takesSnow ∈ BG := BG_in (by decide +kernel) rfl
theorem okV_X10_takesSnow : okV yX10_takesSnow cX10_takesSnow 1 (some .boolean) 0 := ⟨⟨wd_640, wd_497, by decide +kernel⟩, wd_641, wd_642⟩
theorem dX10_takesClause_268 : decode cX10_takesClause 268 = .ok (.istore 4, 2) := by decide +kernel
noncomputable def f_m_takesClause (G : Nat → Int32) (f13 : Nat → Int32) (f27 : Nat → Int32) (f28 : Nat → Int32) (f29 : Nat → Int32) (f30 : Nat → Int32) (f31 : Nat → Int32) : Int32 × (Nat → Int32) × (Nat → Int32) × (Nat → Int32) × (Nat → Int32) × (Nat → Int32) × (Nat → Int32) := (match (f_m_here G f13) with | (r_3, u_2) => (if r_3 = 98 then (if (u_2 20) ≤ 0 then (match (f_m_takesBridges (upd u_2 15 ((u_2 15) + 1)) f13 f27) with | (r_11, o_12, o_13) => (if r_11 = 0 then (0, o_12, o_13, f28, f29, f30, f31) else (match (f_m_takes o_12 f13 59) with | (r_17, u_16) => (if r_17 = 0 then (0, u_16, o_13, f28, f29, f30, f31) else (1, u_16, o_13, f28, f29, f30, f31))))) else (match (f_m_fails u_2 3 (u_2 16)) with | (r_22, u_21) => (r_22, u_21, f27, f28, f29, f30, f31))) else (if (u_2 20) ≤ 0 then (match (f_m_fails u_2 1 (u_2 16)) with | (r_27, u_26) => (r_27, u_26, f27, f28, f29, f30, f31)) else (if r_3 = 116 then (if (u_2 22) = 0 then (if (u_2 23) ≤ 0 then (match (f_m_takesThemes (upd u_2 15 ((u_2 15) + 1)) f13) with | (r_41, u_40) => (if r_41 = 0 then (0, u_40, f27, f28, f29, f30, f31) else (match (f_m_takes u_40 f13 59) with | (r_45, u_44) => (if r_45 = 0 then (0, u_44, f27, f28, f29, f30, f31) else (1, u_44, f27, f28, f29, f30, f31))))) else (match (f_m_fails u_2 3 (u_2 16)) with | (r_50, u_49) => (r_50, u_49, f27, f28, f29, f30, f31))) else (match (f_m_fails u_2 3 (u_2 16)) with | (r_36, u_35) => (r_36, u_35, f27, f28, f29, f30, f31))) else (if r_3 = 99 then (if (u_2 23) = 6 then (match (f_m_fails u_2 3 (u_2 16)) with | (r_72, u_71) => (r_72, u_71, f27, f28, f29, f30, f31)) else (match (f_m_takesCouple (upd u_2 15 ((u_2 15) + 1)) f13 f28 f29) with | (r_60, o_61, o_62, o_63) => (if r_60 = 0 then (0, o_61, f27, o_62, o_63, f30, f31) else (match (f_m_takes o_61 f13 59) with | (r_67, u_66) => (if r_67 = 0 then (0, u_66, f27, o_62, o_63, f30, f31) else (1, u_66, f27, o_62, o_63, f30, f31)))))) else (if r_3 = 118 then (if (u_2 24) = 7 then (match (f_m_fails u_2 3 (u_2 16)) with | (r_95, u_94) => (r_95, u_94, f27, f28, f29, f30, f31)) else (match (f_m_takesBarge (upd u_2 15 ((u_2 15) + 1)) f13 f30 f31) with | (r_83, o_84, o_85, o_86) => (if r_83 = 0 then (0, o_84, f27, f28, f29, o_85, o_86) else (match (f_m_takes o_84 f13 59) with | (r_90, u_89) => (if r_90 = 0 then (0, u_89, f27, f28, f29, o_85, o_86) else (1, u_89, f27, f28, f29, o_85, o_86)))))) else (if r_3 = 115 then (if (u_2 26) = 0 then (match (f_m_takesSnow (upd u_2 15 ((u_2 15) + 1)) f13) with | (r_109, u_108) => (if r_109 = 0 then (0, u_108, f27, f28, f29, f30, f31) else (match (f_m_takes u_108 f13 59) with | (r_113, u_112) => (if r_113 = 0 then (0, u_112, f27, f28, f29, f30, f31) else (1, u_112, f27, f28, f29, f30, f31))))) else (match (f_m_fails u_2 3 (u_2 16)) with | (r_117, u_116) => (r_117, u_116, f27, f28, f29, f30, f31))) else (match (f_m_fails u_2 1 (u_2 16)) with | (r_100, u_99) => (r_100, u_99, f27, f28, f29, f30, f31)))))))))
def S_m_takesClause (G : Nat → Int32) (f13 : Nat → Int32) (f27 : Nat → Int32) (f28 : Nat → Int32) (f29 : Nat → Int32) (f30 : Nat → Int32) (f31 : Nat → Int32) : Prop := ((S_m_here G f13) ∧ (∀ (r_3 : Int32) (u_2 : (Nat → Int32)), (r_3, u_2) = (f_m_here G f13) → ((r_3 = 98 → (((u_2 20) ≤ 0 → ((S_m_takesBridges (upd u_2 15 ((u_2 15) + 1)) f13 f27) ∧ (∀ (r_11 : Int32) (o_12 : (Nat → Int32)) (o_13 : (Nat → Int32)), (r_11, o_12, o_13) = (f_m_takesBridges (upd u_2 15 ((u_2 15) + 1)) f13 f27) → ((r_11 = 0 → True) ∧ (¬ r_11 = 0 → ((S_m_takes o_12 f13 59) ∧ (∀ (r_17 : Int32) (u_16 : (Nat → Int32)), (r_17, u_16) = (f_m_takes o_12 f13 59) → ((r_17 = 0 → True) ∧ (¬ r_17 = 0 → True))))))))) ∧ (¬ (u_2 20) ≤ 0 → ((S_m_fails u_2 3 (u_2 16)) ∧ (∀ (r_22 : Int32) (u_21 : (Nat → Int32)), (r_22, u_21) = (f_m_fails u_2 3 (u_2 16)) → True))))) ∧ (¬ r_3 = 98 → (((u_2 20) ≤ 0 → ((S_m_fails u_2 1 (u_2 16)) ∧ (∀ (r_27 : Int32) (u_26 : (Nat → Int32)), (r_27, u_26) = (f_m_fails u_2 1 (u_2 16)) → True))) ∧ (¬ (u_2 20) ≤ 0 → ((r_3 = 116 → (((u_2 22) = 0 → (((u_2 23) ≤ 0 → ((S_m_takesThemes (upd u_2 15 ((u_2 15) + 1)) f13) ∧ (∀ (r_41 : Int32) (u_40 : (Nat → Int32)), (r_41, u_40) = (f_m_takesThemes (upd u_2 15 ((u_2 15) + 1)) f13) → ((r_41 = 0 → True) ∧ (¬ r_41 = 0 → ((S_m_takes u_40 f13 59) ∧ (∀ (r_45 : Int32) (u_44 : (Nat → Int32)), (r_45, u_44) = (f_m_takes u_40 f13 59) → ((r_45 = 0 → True) ∧ (¬ r_45 = 0 → True))))))))) ∧ (¬ (u_2 23) ≤ 0 → ((S_m_fails u_2 3 (u_2 16)) ∧ (∀ (r_50 : Int32) (u_49 : (Nat → Int32)), (r_50, u_49) = (f_m_fails u_2 3 (u_2 16)) → True))))) ∧ (¬ (u_2 22) = 0 → ((S_m_fails u_2 3 (u_2 16)) ∧ (∀ (r_36 : Int32) (u_35 : (Nat → Int32)), (r_36, u_35) = (f_m_fails u_2 3 (u_2 16)) → True))))) ∧ (¬ r_3 = 116 → ((r_3 = 99 → (((u_2 23) = 6 → ((S_m_fails u_2 3 (u_2 16)) ∧ (∀ (r_72 : Int32) (u_71 : (Nat → Int32)), (r_72, u_71) = (f_m_fails u_2 3 (u_2 16)) → True))) ∧ (¬ (u_2 23) = 6 → ((S_m_takesCouple (upd u_2 15 ((u_2 15) + 1)) f13 f28 f29) ∧ (∀ (r_60 : Int32) (o_61 : (Nat → Int32)) (o_62 : (Nat → Int32)) (o_63 : (Nat → Int32)), (r_60, o_61, o_62, o_63) = (f_m_takesCouple (upd u_2 15 ((u_2 15) + 1)) f13 f28 f29) → ((r_60 = 0 → True) ∧ (¬ r_60 = 0 → ((S_m_takes o_61 f13 59) ∧ (∀ (r_67 : Int32) (u_66 : (Nat → Int32)), (r_67, u_66) = (f_m_takes o_61 f13 59) → ((r_67 = 0 → True) ∧ (¬ r_67 = 0 → True))))))))))) ∧ (¬ r_3 = 99 → ((r_3 = 118 → (((u_2 24) = 7 → ((S_m_fails u_2 3 (u_2 16)) ∧ (∀ (r_95 : Int32) (u_94 : (Nat → Int32)), (r_95, u_94) = (f_m_fails u_2 3 (u_2 16)) → True))) ∧ (¬ (u_2 24) = 7 → ((S_m_takesBarge (upd u_2 15 ((u_2 15) + 1)) f13 f30 f31) ∧ (∀ (r_83 : Int32) (o_84 : (Nat → Int32)) (o_85 : (Nat → Int32)) (o_86 : (Nat → Int32)), (r_83, o_84, o_85, o_86) = (f_m_takesBarge (upd u_2 15 ((u_2 15) + 1)) f13 f30 f31) → ((r_83 = 0 → True) ∧ (¬ r_83 = 0 → ((S_m_takes o_84 f13 59) ∧ (∀ (r_90 : Int32) (u_89 : (Nat → Int32)), (r_90, u_89) = (f_m_takes o_84 f13 59) → ((r_90 = 0 → True) ∧ (¬ r_90 = 0 → True))))))))))) ∧ (¬ r_3 = 118 → ((r_3 = 115 → (((u_2 26) = 0 → ((S_m_takesSnow (upd u_2 15 ((u_2 15) + 1)) f13) ∧ (∀ (r_109 : Int32) (u_108 : (Nat → Int32)), (r_109, u_108) = (f_m_takesSnow (upd u_2 15 ((u_2 15) + 1)) f13) → ((r_109 = 0 → True) ∧ (¬ r_109 = 0 → ((S_m_takes u_108 f13 59) ∧ (∀ (r_113 : Int32) (u_112 : (Nat → Int32)), (r_113, u_112) = (f_m_takes u_108 f13 59) → ((r_113 = 0 → True) ∧ (¬ r_113 = 0 → True))))))))) ∧ (¬ (u_2 26) = 0 → ((S_m_fails u_2 3 (u_2 16)) ∧ (∀ (r_117 : Int32) (u_116 : (Nat → Int32)), (r_117, u_116) = (f_m_fails u_2 3 (u_2 16)) → True))))) ∧ (¬ r_3 = 115 → ((S_m_fails u_2 1 (u_2 16)) ∧ (∀ (r_100 : Int32) (u_99 : (Nat → Int32)), (r_100, u_99) = (f_m_fails u_2 1 (u_2 16)) → True))))))))))))))))
def rm_m_takesClause : Room := { frames := 4, cells := 0, slots := 0, locals := 84 }
set_option maxHeartbeats 4000000 in
set_option maxRecDepth 100000 in
theorem m_takesClause {l : Launch} {D : va_G} {cI cZ : ClassId} {sz : Nat} (Rf : Nat → Nat) (h : Nat) (G : Nat → Int32) (f13 : Nat → Int32) (f27 : Nat → Int32) (f28 : Nat → Int32) (f29 : Nat → Int32) (f30 : Nat → Int32) (f31 : Nat → Int32) (hF : S_m_takesClause G f13 f27 f28 f29 f30 f31) : KI l yX10_takesClause cX10_takesClause 5 (some .boolean) rm_m_takesClause D cI cZ [.ref h] sz [(h, .inr (10, ML G Rf)), ((Rf 13), .inl (cI, 240, .inl f13)), ((Rf 27), .inl (cI, 6, .inl f27)), ((Rf 28), .inl (cI, 6, .inl f28)), ((Rf 29), .inl (cI, 30, .inl f29)), ((Rf 30), .inl (cI, 7, .inl f30)), ((Rf 31), .inl (cI, 7, .inl f31))] (fun (r : Int32) (u : (Nat → Int32) × (Nat → Int32) × (Nat → Int32) × (Nat → Int32) × (Nat → Int32) × (Nat → Int32)) => (r, u) = f_m_takesClause G f13 f27 f28 f29 f30 f31) (fun (u : (Nat → Int32) × (Nat → Int32) × (Nat → Int32) × (Nat → Int32) × (Nat → Int32) × (Nat → Int32)) => [(h, .inr (10, ML u.1 Rf)), ((Rf 13), .inl (cI, 240, .inl f13)), ((Rf 27), .inl (cI, 6, .inl u.2.1)), ((Rf 28), .inl (cI, 6, .inl u.2.2.1)), ((Rf 29), .inl (cI, 30, .inl u.2.2.2.1)), ((Rf 30), .inl (cI, 7, .inl u.2.2.2.2.1)), ((Rf 31), .inl (cI, 7, .inl u.2.2.2.2.2))]) := by
  refine KI.go rfl (Nat.le_of_ble_eq_true rfl) ?_
  intro p e s m args below meth c ls A Q hx hb hml hts hown hin hP hK hD hS hA hN hl hret
  have hl : lv_has ls 5 [(0, .ref h)] := hl
  rw [S_m_takesClause] at hF
  obtain ⟨RES, hE⟩ : ∃ xRES, f_m_takesClause G f13 f27 f28 f29 f30 f31 = xRES := ⟨_, rfl⟩
  rw [hE] at hret
  rw [f_m_takesClause] at hE
  refine lv_aload_n hx hb dX10_takesClause_0 rfl (lv_at hl 0 rfl) ?_
  obtain ⟨hs_1, hF⟩ := hF
  refine cVi (wr := [((Rf 27), .inl (cI, 6, .inl f27)), ((Rf 28), .inl (cI, 6, .inl f28)), ((Rf 29), .inl (cI, 30, .inl f29)), ((Rf 30), .inl (cI, 7, .inl f30)), ((Rf 31), .inl (cI, 7, .inl f31))]) (rest := []) (m_here Rf h G f13 hs_1) okV_X10_here wd_516 hx hb hml hown hts hK hP hD hS hA hN hl.1 [0, 1] [2, 3, 4, 5, 6] rfl rfl rfl rfl (by decide) rfl rfl rfl (Nat.le_of_ble_eq_true rfl) (Nat.le_of_ble_eq_true rfl) (Nat.le_of_ble_eq_true rfl) (Nat.le_of_ble_eq_true rfl) (Nat.le_of_ble_eq_true rfl) dX10_takesClause_1 (fun r_3 u_2 H locs hw_u_2 hP hD hS => ?_)
  replace hw_u_2 : (r_3, u_2) = (f_m_here G f13) := hw_u_2
  replace hF := hF r_3 u_2 hw_u_2
  rw [← hw_u_2] at hE
  replace hE : ((if r_3 = 98 then (if (u_2 20) ≤ 0 then (match (f_m_takesBridges (upd u_2 15 ((u_2 15) + 1)) f13 f27) with | (r_11, o_12, o_13) => (if r_11 = 0 then (0, o_12, o_13, f28, f29, f30, f31) else (match (f_m_takes o_12 f13 59) with | (r_17, u_16) => (if r_17 = 0 then (0, u_16, o_13, f28, f29, f30, f31) else (1, u_16, o_13, f28, f29, f30, f31))))) else (match (f_m_fails u_2 3 (u_2 16)) with | (r_22, u_21) => (r_22, u_21, f27, f28, f29, f30, f31))) else (if (u_2 20) ≤ 0 then (match (f_m_fails u_2 1 (u_2 16)) with | (r_27, u_26) => (r_27, u_26, f27, f28, f29, f30, f31)) else (if r_3 = 116 then (if (u_2 22) = 0 then (if (u_2 23) ≤ 0 then (match (f_m_takesThemes (upd u_2 15 ((u_2 15) + 1)) f13) with | (r_41, u_40) => (if r_41 = 0 then (0, u_40, f27, f28, f29, f30, f31) else (match (f_m_takes u_40 f13 59) with | (r_45, u_44) => (if r_45 = 0 then (0, u_44, f27, f28, f29, f30, f31) else (1, u_44, f27, f28, f29, f30, f31))))) else (match (f_m_fails u_2 3 (u_2 16)) with | (r_50, u_49) => (r_50, u_49, f27, f28, f29, f30, f31))) else (match (f_m_fails u_2 3 (u_2 16)) with | (r_36, u_35) => (r_36, u_35, f27, f28, f29, f30, f31))) else (if r_3 = 99 then (if (u_2 23) = 6 then (match (f_m_fails u_2 3 (u_2 16)) with | (r_72, u_71) => (r_72, u_71, f27, f28, f29, f30, f31)) else (match (f_m_takesCouple (upd u_2 15 ((u_2 15) + 1)) f13 f28 f29) with | (r_60, o_61, o_62, o_63) => (if r_60 = 0 then (0, o_61, f27, o_62, o_63, f30, f31) else (match (f_m_takes o_61 f13 59) with | (r_67, u_66) => (if r_67 = 0 then (0, u_66, f27, o_62, o_63, f30, f31) else (1, u_66, f27, o_62, o_63, f30, f31)))))) else (if r_3 = 118 then (if (u_2 24) = 7 then (match (f_m_fails u_2 3 (u_2 16)) with | (r_95, u_94) => (r_95, u_94, f27, f28, f29, f30, f31)) else (match (f_m_takesBarge (upd u_2 15 ((u_2 15) + 1)) f13 f30 f31) with | (r_83, o_84, o_85, o_86) => (if r_83 = 0 then (0, o_84, f27, f28, f29, o_85, o_86) else (match (f_m_takes o_84 f13 59) with | (r_90, u_89) => (if r_90 = 0 then (0, u_89, f27, f28, f29, o_85, o_86) else (1, u_89, f27, f28, f29, o_85, o_86)))))) else (if r_3 = 115 then (if (u_2 26) = 0 then (match (f_m_takesSnow (upd u_2 15 ((u_2 15) + 1)) f13) with | (r_109, u_108) => (if r_109 = 0 then (0, u_108, f27, f28, f29, f30, f31) else (match (f_m_takes u_108 f13 59) with | (r_113, u_112) => (if r_113 = 0 then (0, u_112, f27, f28, f29, f30, f31) else (1, u_112, f27, f28, f29, f30, f31))))) else (match (f_m_fails u_2 3 (u_2 16)) with | (r_117, u_116) => (r_117, u_116, f27, f28, f29, f30, f31))) else (match (f_m_fails u_2 1 (u_2 16)) with | (r_100, u_99) => (r_100, u_99, f27, f28, f29, f30, f31)))))))) : Int32 × (Nat → Int32) × (Nat → Int32) × (Nat → Int32) × (Nat → Int32) × (Nat → Int32) × (Nat → Int32)) = RES := hE
  have hP : va_P D classes [((Rf 27), .inl (cI, 6, .inl f27)), ((Rf 28), .inl (cI, 6, .inl f28)), ((Rf 29), .inl (cI, 30, .inl f29)), ((Rf 30), .inl (cI, 7, .inl f30)), ((Rf 31), .inl (cI, 7, .inl f31)), (h, .inr (10, ML u_2 Rf)), ((Rf 13), .inl (cI, 240, .inl f13))] H := hP
  have hD : va_D A [((Rf 27), .inl (cI, 6, .inl f27)), ((Rf 28), .inl (cI, 6, .inl f28)), ((Rf 29), .inl (cI, 30, .inl f29)), ((Rf 30), .inl (cI, 7, .inl f30)), ((Rf 31), .inl (cI, 7, .inl f31)), (h, .inr (10, ML u_2 Rf)), ((Rf 13), .inl (cI, 240, .inl f13))] := hD
  refine lv_istore_n (lv' := [(1, .int r_3), (0, .ref h)]) hx hb dX10_takesClause_4 rfl hl (by decide) rfl (fun ls hl => ?_)
  refine lv_iload_n hx hb dX10_takesClause_5 rfl (lv_at hl 0 rfl) ?_
  refine lv_bipush (v := 98) hx hb dX10_takesClause_6 (by decide) ?_
  refine lv_icmp_eq (tgt := 42) hx hb dX10_takesClause_8 (by decide) (fun c_4 => ?_) (fun c_4 => ?_)
  · replace hF := hF.1 c_4
    rw [if_pos c_4] at hE
    subst c_4
    refine lv_iconst (v := 1) hx hb dX10_takesClause_42 (by decide) ?_
    refine lv_goto (tgt := 47) hx hb dX10_takesClause_43 (by decide) ?_
    refine lv_istore_n (lv' := [(2, .int 1), (1, .int 98), (0, .ref h)]) hx hb dX10_takesClause_47 rfl hl (by decide) rfl (fun ls hl => ?_)
    refine lv_iload_n hx hb dX10_takesClause_48 rfl (lv_at hl 0 rfl) ?_
    refine lv_if_ne (tgt := 62) hx hb dX10_takesClause_49 (by decide) (fun c_5 => ?_) (fun c_5 => absurd c_5 (by decide +kernel))
    refine lv_iload_n hx hb dX10_takesClause_62 rfl (lv_at hl 1 rfl) ?_
    refine lv_bipush (v := 98) hx hb dX10_takesClause_63 (by decide) ?_
    refine lv_icmp_ne (tgt := 83) hx hb dX10_takesClause_65 (by decide) (fun c_6 => absurd (by decide +kernel) c_6) (fun c_6 => ?_)
    refine lv_aload_n hx hb dX10_takesClause_68 rfl (lv_at hl 2 rfl) ?_
    refine va_get (D := D) (ci := 10) (v := .int (u_2 20)) (C := RX10) (T := TX10) (N := 45) hx hb hts iX10 hown hK hP 5 rfl rfl 20 (by decide) (hts _ wd_527) (fun _ h9 => h9) rfl dX10_takesClause_69 ?_
    refine lv_if_le (tgt := 79) hx hb dX10_takesClause_72 (by decide) (fun c_7 => ?_) (fun c_7 => ?_)
    · replace hF := hF.1 c_7
      rw [if_pos c_7] at hE
      refine lv_iconst (v := 0) hx hb dX10_takesClause_79 (by decide) ?_
      refine lv_goto (tgt := 161) hx hb dX10_takesClause_80 (by decide) ?_
      refine lv_istore_n (lv' := [(3, .int 0), (2, .int 1), (1, .int 98), (0, .ref h)]) hx hb dX10_takesClause_161 rfl hl (by decide) rfl (fun ls hl => ?_)
      refine lv_iload_n hx hb dX10_takesClause_162 rfl (lv_at hl 0 rfl) ?_
      refine lv_if_eq (tgt := 176) hx hb dX10_takesClause_163 (by decide) (fun c_8 => ?_) (fun c_8 => absurd (by decide +kernel) c_8)
      refine lv_aload_n hx hb dX10_takesClause_176 rfl (lv_at hl 3 rfl) ?_
      refine lv_dup hx hb dX10_takesClause_177 rfl ?_
      refine va_get (D := D) (ci := 10) (v := .int (u_2 15)) (C := RX10) (T := TX10) (N := 45) hx hb hts iX10 hown hK hP 5 rfl rfl 15 (by decide) (hts _ wd_508) (fun _ h9 => h9) rfl dX10_takesClause_178 ?_
      refine lv_iconst (v := 1) hx hb dX10_takesClause_181 (by decide) ?_
      refine lv_iadd hx hb dX10_takesClause_182 ?_
      refine va_put (D := D) (ci := 10) (v := .int ((u_2 15) + 1)) (ty := .int) (C := RX10) (T := TX10) (N := 45) hx hb hts iX10 tyX10 tyX10_ok nmX10 hown hK hP hD hS 5 rfl rfl 15 (by decide) (hts _ wd_508) (fun _ h9 => h9) rfl (by decide +kernel) rfl rfl (Nat.le_of_ble_eq_true rfl) dX10_takesClause_183 (fun H locs hP hD hS => ?_)
      have hP : va_P D classes [((Rf 27), .inl (cI, 6, .inl f27)), ((Rf 28), .inl (cI, 6, .inl f28)), ((Rf 29), .inl (cI, 30, .inl f29)), ((Rf 30), .inl (cI, 7, .inl f30)), ((Rf 31), .inl (cI, 7, .inl f31)), (h, .inr (10, ML (upd u_2 15 ((u_2 15) + 1)) Rf)), ((Rf 13), .inl (cI, 240, .inl f13))] H := hP
      have hD : va_D A [((Rf 27), .inl (cI, 6, .inl f27)), ((Rf 28), .inl (cI, 6, .inl f28)), ((Rf 29), .inl (cI, 30, .inl f29)), ((Rf 30), .inl (cI, 7, .inl f30)), ((Rf 31), .inl (cI, 7, .inl f31)), (h, .inr (10, ML (upd u_2 15 ((u_2 15) + 1)) Rf)), ((Rf 13), .inl (cI, 240, .inl f13))] := hD
      refine lv_iload_n hx hb dX10_takesClause_186 rfl (lv_at hl 2 rfl) ?_
      refine lv_lookup (off := 41) (tgt := 228) hx hb dX10_takesClause_187 (by decide +kernel) (by decide +kernel) (by decide) ?_
      refine lv_aload_n hx hb dX10_takesClause_228 rfl (lv_at hl 3 rfl) ?_
      obtain ⟨hs_9, hF⟩ := hF
      refine cVi (wr := [((Rf 28), .inl (cI, 6, .inl f28)), ((Rf 29), .inl (cI, 30, .inl f29)), ((Rf 30), .inl (cI, 7, .inl f30)), ((Rf 31), .inl (cI, 7, .inl f31))]) (rest := []) (m_takesBridges Rf h (upd u_2 15 ((u_2 15) + 1)) f13 f27 hs_9) okV_X10_takesBridges wd_623 hx hb hml hown hts hK hP hD hS hA hN hl.1 [5, 6, 0] [1, 2, 3, 4] rfl rfl rfl rfl (by decide) rfl rfl rfl (Nat.le_of_ble_eq_true rfl) (Nat.le_of_ble_eq_true rfl) (Nat.le_of_ble_eq_true rfl) (Nat.le_of_ble_eq_true rfl) (Nat.le_of_ble_eq_true rfl) dX10_takesClause_229 (fun r_11 u_10 H locs hw_u_10 hP hD hS => ?_)
      obtain ⟨o_12, o_13⟩ := u_10
      replace hw_u_10 : (r_11, o_12, o_13) = (f_m_takesBridges (upd u_2 15 ((u_2 15) + 1)) f13 f27) := hw_u_10
      replace hF := hF r_11 o_12 o_13 hw_u_10
      rw [← hw_u_10] at hE
      replace hE : ((if r_11 = 0 then (0, o_12, o_13, f28, f29, f30, f31) else (match (f_m_takes o_12 f13 59) with | (r_17, u_16) => (if r_17 = 0 then (0, u_16, o_13, f28, f29, f30, f31) else (1, u_16, o_13, f28, f29, f30, f31)))) : Int32 × (Nat → Int32) × (Nat → Int32) × (Nat → Int32) × (Nat → Int32) × (Nat → Int32) × (Nat → Int32)) = RES := hE
      have hP : va_P D classes [((Rf 28), .inl (cI, 6, .inl f28)), ((Rf 29), .inl (cI, 30, .inl f29)), ((Rf 30), .inl (cI, 7, .inl f30)), ((Rf 31), .inl (cI, 7, .inl f31)), (h, .inr (10, ML o_12 Rf)), ((Rf 13), .inl (cI, 240, .inl f13)), ((Rf 27), .inl (cI, 6, .inl o_13))] H := hP
      have hD : va_D A [((Rf 28), .inl (cI, 6, .inl f28)), ((Rf 29), .inl (cI, 30, .inl f29)), ((Rf 30), .inl (cI, 7, .inl f30)), ((Rf 31), .inl (cI, 7, .inl f31)), (h, .inr (10, ML o_12 Rf)), ((Rf 13), .inl (cI, 240, .inl f13)), ((Rf 27), .inl (cI, 6, .inl o_13))] := hD
      refine lv_istore (lv' := [(4, .int r_11), (3, .int 0), (2, .int 1), (1, .int 98), (0, .ref h)]) hx hb dX10_takesClause_232 hl (by decide) rfl (fun ls hl => ?_)
      refine lv_goto (tgt := 270) hx hb dX10_takesClause_234 (by decide) ?_
      refine lv_iload hx hb dX10_takesClause_270 (lv_at hl 0 rfl) ?_
      refine lv_if_eq (tgt := 288) hx hb dX10_takesClause_272 (by decide) (fun c_14 => ?_) (fun c_14 => ?_)
      · replace hF := hF.1 c_14
        rw [if_pos c_14] at hE
        subst c_14
        refine lv_iconst (v := 0) hx hb dX10_takesClause_288 (by decide) ?_
        exact hret 0 (o_12, o_13, f28, f29, f30, f31) _ _ _ _ dX10_takesClause_289 rfl hE (cutP (isC := [4, 5, 6, 0, 1, 2, 3]) hP rfl) (cutD (isC := [4, 5, 6, 0, 1, 2, 3]) hD rfl rfl) hS
      · replace hF := hF.2 c_14
        rw [if_neg c_14] at hE
        refine lv_aload_n hx hb dX10_takesClause_275 rfl (lv_at hl 4 rfl) ?_
        refine lv_bipush (v := 59) hx hb dX10_takesClause_276 (by decide) ?_
        obtain ⟨hs_15, hF⟩ := hF
        refine cVi (wr := [((Rf 28), .inl (cI, 6, .inl f28)), ((Rf 29), .inl (cI, 30, .inl f29)), ((Rf 30), .inl (cI, 7, .inl f30)), ((Rf 31), .inl (cI, 7, .inl f31)), ((Rf 27), .inl (cI, 6, .inl o_13))]) (rest := []) (m_takes Rf h o_12 f13 59 hs_15) okV_X10_takes wd_538 hx hb hml hown hts hK hP hD hS hA hN hl.1 [4, 5] [0, 1, 2, 3, 6] rfl rfl rfl rfl (by decide) rfl rfl rfl (Nat.le_of_ble_eq_true rfl) (Nat.le_of_ble_eq_true rfl) (Nat.le_of_ble_eq_true rfl) (Nat.le_of_ble_eq_true rfl) (Nat.le_of_ble_eq_true rfl) dX10_takesClause_278 (fun r_17 u_16 H locs hw_u_16 hP hD hS => ?_)
        replace hw_u_16 : (r_17, u_16) = (f_m_takes o_12 f13 59) := hw_u_16
        replace hF := hF r_17 u_16 hw_u_16
        rw [← hw_u_16] at hE
        replace hE : ((if r_17 = 0 then (0, u_16, o_13, f28, f29, f30, f31) else (1, u_16, o_13, f28, f29, f30, f31)) : Int32 × (Nat → Int32) × (Nat → Int32) × (Nat → Int32) × (Nat → Int32) × (Nat → Int32) × (Nat → Int32)) = RES := hE
        have hP : va_P D classes [((Rf 28), .inl (cI, 6, .inl f28)), ((Rf 29), .inl (cI, 30, .inl f29)), ((Rf 30), .inl (cI, 7, .inl f30)), ((Rf 31), .inl (cI, 7, .inl f31)), ((Rf 27), .inl (cI, 6, .inl o_13)), (h, .inr (10, ML u_16 Rf)), ((Rf 13), .inl (cI, 240, .inl f13))] H := hP
        have hD : va_D A [((Rf 28), .inl (cI, 6, .inl f28)), ((Rf 29), .inl (cI, 30, .inl f29)), ((Rf 30), .inl (cI, 7, .inl f30)), ((Rf 31), .inl (cI, 7, .inl f31)), ((Rf 27), .inl (cI, 6, .inl o_13)), (h, .inr (10, ML u_16 Rf)), ((Rf 13), .inl (cI, 240, .inl f13))] := hD
        refine lv_if_eq (tgt := 288) hx hb dX10_takesClause_281 (by decide) (fun c_18 => ?_) (fun c_18 => ?_)
        · replace hF := hF.1 c_18
          rw [if_pos c_18] at hE
          subst c_18
          refine lv_iconst (v := 0) hx hb dX10_takesClause_288 (by decide) ?_
          exact hret 0 (u_16, o_13, f28, f29, f30, f31) _ _ _ _ dX10_takesClause_289 rfl hE (cutP (isC := [5, 6, 4, 0, 1, 2, 3]) hP rfl) (cutD (isC := [5, 6, 4, 0, 1, 2, 3]) hD rfl rfl) hS
        · replace hF := hF.2 c_18
          rw [if_neg c_18] at hE
          refine lv_iconst (v := 1) hx hb dX10_takesClause_284 (by decide) ?_
          refine lv_goto (tgt := 289) hx hb dX10_takesClause_285 (by decide) ?_
          exact hret 1 (u_16, o_13, f28, f29, f30, f31) _ _ _ _ dX10_takesClause_289 rfl hE (cutP (isC := [5, 6, 4, 0, 1, 2, 3]) hP rfl) (cutD (isC := [5, 6, 4, 0, 1, 2, 3]) hD rfl rfl) hS
    · replace hF := hF.2 c_7
      rw [if_neg c_7] at hE
      refine lv_iconst (v := 1) hx hb dX10_takesClause_75 (by decide) ?_
      refine lv_goto (tgt := 161) hx hb dX10_takesClause_76 (by decide) ?_
      refine lv_istore_n (lv' := [(3, .int 1), (2, .int 1), (1, .int 98), (0, .ref h)]) hx hb dX10_takesClause_161 rfl hl (by decide) rfl (fun ls hl => ?_)
      refine lv_iload_n hx hb dX10_takesClause_162 rfl (lv_at hl 0 rfl) ?_
      refine lv_if_eq (tgt := 176) hx hb dX10_takesClause_163 (by decide) (fun c_19 => absurd c_19 (by decide +kernel)) (fun c_19 => ?_)
      refine lv_aload_n hx hb dX10_takesClause_166 rfl (lv_at hl 3 rfl) ?_
      refine lv_iconst (v := 3) hx hb dX10_takesClause_167 (by decide) ?_
      refine lv_aload_n hx hb dX10_takesClause_168 rfl (lv_at hl 3 rfl) ?_
      refine va_get (D := D) (ci := 10) (v := .int (u_2 16)) (C := RX10) (T := TX10) (N := 45) hx hb hts iX10 hown hK hP 5 rfl rfl 16 (by decide) (hts _ wd_509) (fun _ h9 => h9) rfl dX10_takesClause_169 ?_
      obtain ⟨hs_20, hF⟩ := hF
      refine cVi (wr := [((Rf 27), .inl (cI, 6, .inl f27)), ((Rf 28), .inl (cI, 6, .inl f28)), ((Rf 29), .inl (cI, 30, .inl f29)), ((Rf 30), .inl (cI, 7, .inl f30)), ((Rf 31), .inl (cI, 7, .inl f31)), ((Rf 13), .inl (cI, 240, .inl f13))]) (rest := []) (m_fails Rf h u_2 3 (u_2 16) hs_20) okV_X10_fails wd_520 hx hb hml hown hts hK hP hD hS hA hN hl.1 [5] [0, 1, 2, 3, 4, 6] rfl rfl rfl rfl (by decide) rfl rfl rfl (Nat.le_of_ble_eq_true rfl) (Nat.le_of_ble_eq_true rfl) (Nat.le_of_ble_eq_true rfl) (Nat.le_of_ble_eq_true rfl) (Nat.le_of_ble_eq_true rfl) dX10_takesClause_172 (fun r_22 u_21 H locs hw_u_21 hP hD hS => ?_)
      replace hw_u_21 : (r_22, u_21) = (f_m_fails u_2 3 (u_2 16)) := hw_u_21
      replace hF := hF r_22 u_21 hw_u_21
      rw [← hw_u_21] at hE
      replace hE : ((r_22, u_21, f27, f28, f29, f30, f31) : Int32 × (Nat → Int32) × (Nat → Int32) × (Nat → Int32) × (Nat → Int32) × (Nat → Int32) × (Nat → Int32)) = RES := hE
      have hP : va_P D classes [((Rf 27), .inl (cI, 6, .inl f27)), ((Rf 28), .inl (cI, 6, .inl f28)), ((Rf 29), .inl (cI, 30, .inl f29)), ((Rf 30), .inl (cI, 7, .inl f30)), ((Rf 31), .inl (cI, 7, .inl f31)), ((Rf 13), .inl (cI, 240, .inl f13)), (h, .inr (10, ML u_21 Rf))] H := hP
      have hD : va_D A [((Rf 27), .inl (cI, 6, .inl f27)), ((Rf 28), .inl (cI, 6, .inl f28)), ((Rf 29), .inl (cI, 30, .inl f29)), ((Rf 30), .inl (cI, 7, .inl f30)), ((Rf 31), .inl (cI, 7, .inl f31)), ((Rf 13), .inl (cI, 240, .inl f13)), (h, .inr (10, ML u_21 Rf))] := hD
      exact hret r_22 (u_21, f27, f28, f29, f30, f31) _ _ _ _ dX10_takesClause_175 (narrow_b01 (Or.inl (congrArg Prod.fst hw_u_21))) hE (cutP (isC := [6, 5, 0, 1, 2, 3, 4]) hP rfl) (cutD (isC := [6, 5, 0, 1, 2, 3, 4]) hD rfl rfl) hS
  · replace hF := hF.2 c_4
    rw [if_neg c_4] at hE
    refine lv_aload_n hx hb dX10_takesClause_11 rfl (lv_at hl 1 rfl) ?_
    refine va_get (D := D) (ci := 10) (v := .int (u_2 20)) (C := RX10) (T := TX10) (N := 45) hx hb hts iX10 hown hK hP 5 rfl rfl 20 (by decide) (hts _ wd_527) (fun _ h9 => h9) rfl dX10_takesClause_12 ?_
    refine lv_if_le (tgt := 46) hx hb dX10_takesClause_15 (by decide) (fun c_23 => ?_) (fun c_23 => ?_)
    · replace hF := hF.1 c_23
      rw [if_pos c_23] at hE
      refine lv_iconst (v := 0) hx hb dX10_takesClause_46 (by decide) ?_
      refine lv_istore_n (lv' := [(2, .int 0), (1, .int r_3), (0, .ref h)]) hx hb dX10_takesClause_47 rfl hl (by decide) rfl (fun ls hl => ?_)
      refine lv_iload_n hx hb dX10_takesClause_48 rfl (lv_at hl 0 rfl) ?_
      refine lv_if_ne (tgt := 62) hx hb dX10_takesClause_49 (by decide) (fun c_24 => absurd (by decide +kernel) c_24) (fun c_24 => ?_)
      refine lv_aload_n hx hb dX10_takesClause_52 rfl (lv_at hl 2 rfl) ?_
      refine lv_iconst (v := 1) hx hb dX10_takesClause_53 (by decide) ?_
      refine lv_aload_n hx hb dX10_takesClause_54 rfl (lv_at hl 2 rfl) ?_
      refine va_get (D := D) (ci := 10) (v := .int (u_2 16)) (C := RX10) (T := TX10) (N := 45) hx hb hts iX10 hown hK hP 5 rfl rfl 16 (by decide) (hts _ wd_509) (fun _ h9 => h9) rfl dX10_takesClause_55 ?_
      obtain ⟨hs_25, hF⟩ := hF
      refine cVi (wr := [((Rf 27), .inl (cI, 6, .inl f27)), ((Rf 28), .inl (cI, 6, .inl f28)), ((Rf 29), .inl (cI, 30, .inl f29)), ((Rf 30), .inl (cI, 7, .inl f30)), ((Rf 31), .inl (cI, 7, .inl f31)), ((Rf 13), .inl (cI, 240, .inl f13))]) (rest := []) (m_fails Rf h u_2 1 (u_2 16) hs_25) okV_X10_fails wd_520 hx hb hml hown hts hK hP hD hS hA hN hl.1 [5] [0, 1, 2, 3, 4, 6] rfl rfl rfl rfl (by decide) rfl rfl rfl (Nat.le_of_ble_eq_true rfl) (Nat.le_of_ble_eq_true rfl) (Nat.le_of_ble_eq_true rfl) (Nat.le_of_ble_eq_true rfl) (Nat.le_of_ble_eq_true rfl) dX10_takesClause_58 (fun r_27 u_26 H locs hw_u_26 hP hD hS => ?_)
      replace hw_u_26 : (r_27, u_26) = (f_m_fails u_2 1 (u_2 16)) := hw_u_26
      replace hF := hF r_27 u_26 hw_u_26
      rw [← hw_u_26] at hE
      replace hE : ((r_27, u_26, f27, f28, f29, f30, f31) : Int32 × (Nat → Int32) × (Nat → Int32) × (Nat → Int32) × (Nat → Int32) × (Nat → Int32) × (Nat → Int32)) = RES := hE
      have hP : va_P D classes [((Rf 27), .inl (cI, 6, .inl f27)), ((Rf 28), .inl (cI, 6, .inl f28)), ((Rf 29), .inl (cI, 30, .inl f29)), ((Rf 30), .inl (cI, 7, .inl f30)), ((Rf 31), .inl (cI, 7, .inl f31)), ((Rf 13), .inl (cI, 240, .inl f13)), (h, .inr (10, ML u_26 Rf))] H := hP
      have hD : va_D A [((Rf 27), .inl (cI, 6, .inl f27)), ((Rf 28), .inl (cI, 6, .inl f28)), ((Rf 29), .inl (cI, 30, .inl f29)), ((Rf 30), .inl (cI, 7, .inl f30)), ((Rf 31), .inl (cI, 7, .inl f31)), ((Rf 13), .inl (cI, 240, .inl f13)), (h, .inr (10, ML u_26 Rf))] := hD
      exact hret r_27 (u_26, f27, f28, f29, f30, f31) _ _ _ _ dX10_takesClause_61 (narrow_b01 (Or.inl (congrArg Prod.fst hw_u_26))) hE (cutP (isC := [6, 5, 0, 1, 2, 3, 4]) hP rfl) (cutD (isC := [6, 5, 0, 1, 2, 3, 4]) hD rfl rfl) hS
    · replace hF := hF.2 c_23
      rw [if_neg c_23] at hE
      refine lv_iload_n hx hb dX10_takesClause_18 rfl (lv_at hl 0 rfl) ?_
      refine lv_bipush (v := 116) hx hb dX10_takesClause_19 (by decide) ?_
      refine lv_icmp_eq (tgt := 42) hx hb dX10_takesClause_21 (by decide) (fun c_28 => ?_) (fun c_28 => ?_)
      · replace hF := hF.1 c_28
        rw [if_pos c_28] at hE
        subst c_28
        refine lv_iconst (v := 1) hx hb dX10_takesClause_42 (by decide) ?_
        refine lv_goto (tgt := 47) hx hb dX10_takesClause_43 (by decide) ?_
        refine lv_istore_n (lv' := [(2, .int 1), (1, .int 116), (0, .ref h)]) hx hb dX10_takesClause_47 rfl hl (by decide) rfl (fun ls hl => ?_)
        refine lv_iload_n hx hb dX10_takesClause_48 rfl (lv_at hl 0 rfl) ?_
        refine lv_if_ne (tgt := 62) hx hb dX10_takesClause_49 (by decide) (fun c_29 => ?_) (fun c_29 => absurd c_29 (by decide +kernel))
        refine lv_iload_n hx hb dX10_takesClause_62 rfl (lv_at hl 1 rfl) ?_
        refine lv_bipush (v := 98) hx hb dX10_takesClause_63 (by decide) ?_
        refine lv_icmp_ne (tgt := 83) hx hb dX10_takesClause_65 (by decide) (fun c_30 => ?_) (fun c_30 => absurd c_30 (by decide +kernel))
        refine lv_iload_n hx hb dX10_takesClause_83 rfl (lv_at hl 1 rfl) ?_
        refine lv_bipush (v := 116) hx hb dX10_takesClause_84 (by decide) ?_
        refine lv_icmp_ne (tgt := 111) hx hb dX10_takesClause_86 (by decide) (fun c_31 => absurd (by decide +kernel) c_31) (fun c_31 => ?_)
        refine lv_aload_n hx hb dX10_takesClause_89 rfl (lv_at hl 2 rfl) ?_
        refine va_get (D := D) (ci := 10) (v := .int (u_2 22)) (C := RX10) (T := TX10) (N := 45) hx hb hts iX10 hown hK hP 5 rfl rfl 22 (by decide) (hts _ wd_533) (fun _ h9 => h9) rfl dX10_takesClause_90 ?_
        refine lv_if_ne (tgt := 103) hx hb dX10_takesClause_93 (by decide) (fun c_32 => ?_) (fun c_32 => ?_)
        · replace hF := hF.2 c_32
          rw [if_neg c_32] at hE
          refine lv_iconst (v := 1) hx hb dX10_takesClause_103 (by decide) ?_
          refine lv_goto (tgt := 161) hx hb dX10_takesClause_104 (by decide) ?_
          refine lv_istore_n (lv' := [(3, .int 1), (2, .int 1), (1, .int 116), (0, .ref h)]) hx hb dX10_takesClause_161 rfl hl (by decide) rfl (fun ls hl => ?_)
          refine lv_iload_n hx hb dX10_takesClause_162 rfl (lv_at hl 0 rfl) ?_
          refine lv_if_eq (tgt := 176) hx hb dX10_takesClause_163 (by decide) (fun c_33 => absurd c_33 (by decide +kernel)) (fun c_33 => ?_)
          refine lv_aload_n hx hb dX10_takesClause_166 rfl (lv_at hl 3 rfl) ?_
          refine lv_iconst (v := 3) hx hb dX10_takesClause_167 (by decide) ?_
          refine lv_aload_n hx hb dX10_takesClause_168 rfl (lv_at hl 3 rfl) ?_
          refine va_get (D := D) (ci := 10) (v := .int (u_2 16)) (C := RX10) (T := TX10) (N := 45) hx hb hts iX10 hown hK hP 5 rfl rfl 16 (by decide) (hts _ wd_509) (fun _ h9 => h9) rfl dX10_takesClause_169 ?_
          obtain ⟨hs_34, hF⟩ := hF
          refine cVi (wr := [((Rf 27), .inl (cI, 6, .inl f27)), ((Rf 28), .inl (cI, 6, .inl f28)), ((Rf 29), .inl (cI, 30, .inl f29)), ((Rf 30), .inl (cI, 7, .inl f30)), ((Rf 31), .inl (cI, 7, .inl f31)), ((Rf 13), .inl (cI, 240, .inl f13))]) (rest := []) (m_fails Rf h u_2 3 (u_2 16) hs_34) okV_X10_fails wd_520 hx hb hml hown hts hK hP hD hS hA hN hl.1 [5] [0, 1, 2, 3, 4, 6] rfl rfl rfl rfl (by decide) rfl rfl rfl (Nat.le_of_ble_eq_true rfl) (Nat.le_of_ble_eq_true rfl) (Nat.le_of_ble_eq_true rfl) (Nat.le_of_ble_eq_true rfl) (Nat.le_of_ble_eq_true rfl) dX10_takesClause_172 (fun r_36 u_35 H locs hw_u_35 hP hD hS => ?_)
          replace hw_u_35 : (r_36, u_35) = (f_m_fails u_2 3 (u_2 16)) := hw_u_35
          replace hF := hF r_36 u_35 hw_u_35
          rw [← hw_u_35] at hE
          replace hE : ((r_36, u_35, f27, f28, f29, f30, f31) : Int32 × (Nat → Int32) × (Nat → Int32) × (Nat → Int32) × (Nat → Int32) × (Nat → Int32) × (Nat → Int32)) = RES := hE
          have hP : va_P D classes [((Rf 27), .inl (cI, 6, .inl f27)), ((Rf 28), .inl (cI, 6, .inl f28)), ((Rf 29), .inl (cI, 30, .inl f29)), ((Rf 30), .inl (cI, 7, .inl f30)), ((Rf 31), .inl (cI, 7, .inl f31)), ((Rf 13), .inl (cI, 240, .inl f13)), (h, .inr (10, ML u_35 Rf))] H := hP
          have hD : va_D A [((Rf 27), .inl (cI, 6, .inl f27)), ((Rf 28), .inl (cI, 6, .inl f28)), ((Rf 29), .inl (cI, 30, .inl f29)), ((Rf 30), .inl (cI, 7, .inl f30)), ((Rf 31), .inl (cI, 7, .inl f31)), ((Rf 13), .inl (cI, 240, .inl f13)), (h, .inr (10, ML u_35 Rf))] := hD
          exact hret r_36 (u_35, f27, f28, f29, f30, f31) _ _ _ _ dX10_takesClause_175 (narrow_b01 (Or.inl (congrArg Prod.fst hw_u_35))) hE (cutP (isC := [6, 5, 0, 1, 2, 3, 4]) hP rfl) (cutD (isC := [6, 5, 0, 1, 2, 3, 4]) hD rfl rfl) hS
        · replace hF := hF.1 c_32
          rw [if_pos c_32] at hE
          refine lv_aload_n hx hb dX10_takesClause_96 rfl (lv_at hl 2 rfl) ?_
          refine va_get (D := D) (ci := 10) (v := .int (u_2 23)) (C := RX10) (T := TX10) (N := 45) hx hb hts iX10 hown hK hP 5 rfl rfl 23 (by decide) (hts _ wd_536) (fun _ h9 => h9) rfl dX10_takesClause_97 ?_
          refine lv_if_le (tgt := 107) hx hb dX10_takesClause_100 (by decide) (fun c_37 => ?_) (fun c_37 => ?_)
          · replace hF := hF.1 c_37
            rw [if_pos c_37] at hE
            refine lv_iconst (v := 0) hx hb dX10_takesClause_107 (by decide) ?_
            refine lv_goto (tgt := 161) hx hb dX10_takesClause_108 (by decide) ?_
            refine lv_istore_n (lv' := [(3, .int 0), (2, .int 1), (1, .int 116), (0, .ref h)]) hx hb dX10_takesClause_161 rfl hl (by decide) rfl (fun ls hl => ?_)
            refine lv_iload_n hx hb dX10_takesClause_162 rfl (lv_at hl 0 rfl) ?_
            refine lv_if_eq (tgt := 176) hx hb dX10_takesClause_163 (by decide) (fun c_38 => ?_) (fun c_38 => absurd (by decide +kernel) c_38)
            refine lv_aload_n hx hb dX10_takesClause_176 rfl (lv_at hl 3 rfl) ?_
            refine lv_dup hx hb dX10_takesClause_177 rfl ?_
            refine va_get (D := D) (ci := 10) (v := .int (u_2 15)) (C := RX10) (T := TX10) (N := 45) hx hb hts iX10 hown hK hP 5 rfl rfl 15 (by decide) (hts _ wd_508) (fun _ h9 => h9) rfl dX10_takesClause_178 ?_
            refine lv_iconst (v := 1) hx hb dX10_takesClause_181 (by decide) ?_
            refine lv_iadd hx hb dX10_takesClause_182 ?_
            refine va_put (D := D) (ci := 10) (v := .int ((u_2 15) + 1)) (ty := .int) (C := RX10) (T := TX10) (N := 45) hx hb hts iX10 tyX10 tyX10_ok nmX10 hown hK hP hD hS 5 rfl rfl 15 (by decide) (hts _ wd_508) (fun _ h9 => h9) rfl (by decide +kernel) rfl rfl (Nat.le_of_ble_eq_true rfl) dX10_takesClause_183 (fun H locs hP hD hS => ?_)
            have hP : va_P D classes [((Rf 27), .inl (cI, 6, .inl f27)), ((Rf 28), .inl (cI, 6, .inl f28)), ((Rf 29), .inl (cI, 30, .inl f29)), ((Rf 30), .inl (cI, 7, .inl f30)), ((Rf 31), .inl (cI, 7, .inl f31)), (h, .inr (10, ML (upd u_2 15 ((u_2 15) + 1)) Rf)), ((Rf 13), .inl (cI, 240, .inl f13))] H := hP
            have hD : va_D A [((Rf 27), .inl (cI, 6, .inl f27)), ((Rf 28), .inl (cI, 6, .inl f28)), ((Rf 29), .inl (cI, 30, .inl f29)), ((Rf 30), .inl (cI, 7, .inl f30)), ((Rf 31), .inl (cI, 7, .inl f31)), (h, .inr (10, ML (upd u_2 15 ((u_2 15) + 1)) Rf)), ((Rf 13), .inl (cI, 240, .inl f13))] := hD
            refine lv_iload_n hx hb dX10_takesClause_186 rfl (lv_at hl 2 rfl) ?_
            refine lv_lookup (off := 50) (tgt := 237) hx hb dX10_takesClause_187 (by decide +kernel) (by decide +kernel) (by decide) ?_
            refine lv_aload_n hx hb dX10_takesClause_237 rfl (lv_at hl 3 rfl) ?_
            obtain ⟨hs_39, hF⟩ := hF
            refine cVi (wr := [((Rf 27), .inl (cI, 6, .inl f27)), ((Rf 28), .inl (cI, 6, .inl f28)), ((Rf 29), .inl (cI, 30, .inl f29)), ((Rf 30), .inl (cI, 7, .inl f30)), ((Rf 31), .inl (cI, 7, .inl f31))]) (rest := []) (m_takesThemes Rf h (upd u_2 15 ((u_2 15) + 1)) f13 hs_39) okV_X10_takesThemes wd_627 hx hb hml hown hts hK hP hD hS hA hN hl.1 [5, 6] [0, 1, 2, 3, 4] rfl rfl rfl rfl (by decide) rfl rfl rfl (Nat.le_of_ble_eq_true rfl) (Nat.le_of_ble_eq_true rfl) (Nat.le_of_ble_eq_true rfl) (Nat.le_of_ble_eq_true rfl) (Nat.le_of_ble_eq_true rfl) dX10_takesClause_238 (fun r_41 u_40 H locs hw_u_40 hP hD hS => ?_)
            replace hw_u_40 : (r_41, u_40) = (f_m_takesThemes (upd u_2 15 ((u_2 15) + 1)) f13) := hw_u_40
            replace hF := hF r_41 u_40 hw_u_40
            rw [← hw_u_40] at hE
            replace hE : ((if r_41 = 0 then (0, u_40, f27, f28, f29, f30, f31) else (match (f_m_takes u_40 f13 59) with | (r_45, u_44) => (if r_45 = 0 then (0, u_44, f27, f28, f29, f30, f31) else (1, u_44, f27, f28, f29, f30, f31)))) : Int32 × (Nat → Int32) × (Nat → Int32) × (Nat → Int32) × (Nat → Int32) × (Nat → Int32) × (Nat → Int32)) = RES := hE
            have hP : va_P D classes [((Rf 27), .inl (cI, 6, .inl f27)), ((Rf 28), .inl (cI, 6, .inl f28)), ((Rf 29), .inl (cI, 30, .inl f29)), ((Rf 30), .inl (cI, 7, .inl f30)), ((Rf 31), .inl (cI, 7, .inl f31)), (h, .inr (10, ML u_40 Rf)), ((Rf 13), .inl (cI, 240, .inl f13))] H := hP
            have hD : va_D A [((Rf 27), .inl (cI, 6, .inl f27)), ((Rf 28), .inl (cI, 6, .inl f28)), ((Rf 29), .inl (cI, 30, .inl f29)), ((Rf 30), .inl (cI, 7, .inl f30)), ((Rf 31), .inl (cI, 7, .inl f31)), (h, .inr (10, ML u_40 Rf)), ((Rf 13), .inl (cI, 240, .inl f13))] := hD
            refine lv_istore (lv' := [(4, .int r_41), (3, .int 0), (2, .int 1), (1, .int 116), (0, .ref h)]) hx hb dX10_takesClause_241 hl (by decide) rfl (fun ls hl => ?_)
            refine lv_goto (tgt := 270) hx hb dX10_takesClause_243 (by decide) ?_
            refine lv_iload hx hb dX10_takesClause_270 (lv_at hl 0 rfl) ?_
            refine lv_if_eq (tgt := 288) hx hb dX10_takesClause_272 (by decide) (fun c_42 => ?_) (fun c_42 => ?_)
            · replace hF := hF.1 c_42
              rw [if_pos c_42] at hE
              subst c_42
              refine lv_iconst (v := 0) hx hb dX10_takesClause_288 (by decide) ?_
              exact hret 0 (u_40, f27, f28, f29, f30, f31) _ _ _ _ dX10_takesClause_289 rfl hE (cutP (isC := [5, 6, 0, 1, 2, 3, 4]) hP rfl) (cutD (isC := [5, 6, 0, 1, 2, 3, 4]) hD rfl rfl) hS
            · replace hF := hF.2 c_42
              rw [if_neg c_42] at hE
              refine lv_aload_n hx hb dX10_takesClause_275 rfl (lv_at hl 4 rfl) ?_
              refine lv_bipush (v := 59) hx hb dX10_takesClause_276 (by decide) ?_
              obtain ⟨hs_43, hF⟩ := hF
              refine cVi (wr := [((Rf 27), .inl (cI, 6, .inl f27)), ((Rf 28), .inl (cI, 6, .inl f28)), ((Rf 29), .inl (cI, 30, .inl f29)), ((Rf 30), .inl (cI, 7, .inl f30)), ((Rf 31), .inl (cI, 7, .inl f31))]) (rest := []) (m_takes Rf h u_40 f13 59 hs_43) okV_X10_takes wd_538 hx hb hml hown hts hK hP hD hS hA hN hl.1 [5, 6] [0, 1, 2, 3, 4] rfl rfl rfl rfl (by decide) rfl rfl rfl (Nat.le_of_ble_eq_true rfl) (Nat.le_of_ble_eq_true rfl) (Nat.le_of_ble_eq_true rfl) (Nat.le_of_ble_eq_true rfl) (Nat.le_of_ble_eq_true rfl) dX10_takesClause_278 (fun r_45 u_44 H locs hw_u_44 hP hD hS => ?_)
              replace hw_u_44 : (r_45, u_44) = (f_m_takes u_40 f13 59) := hw_u_44
              replace hF := hF r_45 u_44 hw_u_44
              rw [← hw_u_44] at hE
              replace hE : ((if r_45 = 0 then (0, u_44, f27, f28, f29, f30, f31) else (1, u_44, f27, f28, f29, f30, f31)) : Int32 × (Nat → Int32) × (Nat → Int32) × (Nat → Int32) × (Nat → Int32) × (Nat → Int32) × (Nat → Int32)) = RES := hE
              have hP : va_P D classes [((Rf 27), .inl (cI, 6, .inl f27)), ((Rf 28), .inl (cI, 6, .inl f28)), ((Rf 29), .inl (cI, 30, .inl f29)), ((Rf 30), .inl (cI, 7, .inl f30)), ((Rf 31), .inl (cI, 7, .inl f31)), (h, .inr (10, ML u_44 Rf)), ((Rf 13), .inl (cI, 240, .inl f13))] H := hP
              have hD : va_D A [((Rf 27), .inl (cI, 6, .inl f27)), ((Rf 28), .inl (cI, 6, .inl f28)), ((Rf 29), .inl (cI, 30, .inl f29)), ((Rf 30), .inl (cI, 7, .inl f30)), ((Rf 31), .inl (cI, 7, .inl f31)), (h, .inr (10, ML u_44 Rf)), ((Rf 13), .inl (cI, 240, .inl f13))] := hD
              refine lv_if_eq (tgt := 288) hx hb dX10_takesClause_281 (by decide) (fun c_46 => ?_) (fun c_46 => ?_)
              · replace hF := hF.1 c_46
                rw [if_pos c_46] at hE
                subst c_46
                refine lv_iconst (v := 0) hx hb dX10_takesClause_288 (by decide) ?_
                exact hret 0 (u_44, f27, f28, f29, f30, f31) _ _ _ _ dX10_takesClause_289 rfl hE (cutP (isC := [5, 6, 0, 1, 2, 3, 4]) hP rfl) (cutD (isC := [5, 6, 0, 1, 2, 3, 4]) hD rfl rfl) hS
              · replace hF := hF.2 c_46
                rw [if_neg c_46] at hE
                refine lv_iconst (v := 1) hx hb dX10_takesClause_284 (by decide) ?_
                refine lv_goto (tgt := 289) hx hb dX10_takesClause_285 (by decide) ?_
                exact hret 1 (u_44, f27, f28, f29, f30, f31) _ _ _ _ dX10_takesClause_289 rfl hE (cutP (isC := [5, 6, 0, 1, 2, 3, 4]) hP rfl) (cutD (isC := [5, 6, 0, 1, 2, 3, 4]) hD rfl rfl) hS
          · replace hF := hF.2 c_37
            rw [if_neg c_37] at hE
            refine lv_iconst (v := 1) hx hb dX10_takesClause_103 (by decide) ?_
            refine lv_goto (tgt := 161) hx hb dX10_takesClause_104 (by decide) ?_
            refine lv_istore_n (lv' := [(3, .int 1), (2, .int 1), (1, .int 116), (0, .ref h)]) hx hb dX10_takesClause_161 rfl hl (by decide) rfl (fun ls hl => ?_)
            refine lv_iload_n hx hb dX10_takesClause_162 rfl (lv_at hl 0 rfl) ?_
            refine lv_if_eq (tgt := 176) hx hb dX10_takesClause_163 (by decide) (fun c_47 => absurd c_47 (by decide +kernel)) (fun c_47 => ?_)
            refine lv_aload_n hx hb dX10_takesClause_166 rfl (lv_at hl 3 rfl) ?_
            refine lv_iconst (v := 3) hx hb dX10_takesClause_167 (by decide) ?_
            refine lv_aload_n hx hb dX10_takesClause_168 rfl (lv_at hl 3 rfl) ?_
            refine va_get (D := D) (ci := 10) (v := .int (u_2 16)) (C := RX10) (T := TX10) (N := 45) hx hb hts iX10 hown hK hP 5 rfl rfl 16 (by decide) (hts _ wd_509) (fun _ h9 => h9) rfl dX10_takesClause_169 ?_
            obtain ⟨hs_48, hF⟩ := hF
            refine cVi (wr := [((Rf 27), .inl (cI, 6, .inl f27)), ((Rf 28), .inl (cI, 6, .inl f28)), ((Rf 29), .inl (cI, 30, .inl f29)), ((Rf 30), .inl (cI, 7, .inl f30)), ((Rf 31), .inl (cI, 7, .inl f31)), ((Rf 13), .inl (cI, 240, .inl f13))]) (rest := []) (m_fails Rf h u_2 3 (u_2 16) hs_48) okV_X10_fails wd_520 hx hb hml hown hts hK hP hD hS hA hN hl.1 [5] [0, 1, 2, 3, 4, 6] rfl rfl rfl rfl (by decide) rfl rfl rfl (Nat.le_of_ble_eq_true rfl) (Nat.le_of_ble_eq_true rfl) (Nat.le_of_ble_eq_true rfl) (Nat.le_of_ble_eq_true rfl) (Nat.le_of_ble_eq_true rfl) dX10_takesClause_172 (fun r_50 u_49 H locs hw_u_49 hP hD hS => ?_)
            replace hw_u_49 : (r_50, u_49) = (f_m_fails u_2 3 (u_2 16)) := hw_u_49
            replace hF := hF r_50 u_49 hw_u_49
            rw [← hw_u_49] at hE
            replace hE : ((r_50, u_49, f27, f28, f29, f30, f31) : Int32 × (Nat → Int32) × (Nat → Int32) × (Nat → Int32) × (Nat → Int32) × (Nat → Int32) × (Nat → Int32)) = RES := hE
            have hP : va_P D classes [((Rf 27), .inl (cI, 6, .inl f27)), ((Rf 28), .inl (cI, 6, .inl f28)), ((Rf 29), .inl (cI, 30, .inl f29)), ((Rf 30), .inl (cI, 7, .inl f30)), ((Rf 31), .inl (cI, 7, .inl f31)), ((Rf 13), .inl (cI, 240, .inl f13)), (h, .inr (10, ML u_49 Rf))] H := hP
            have hD : va_D A [((Rf 27), .inl (cI, 6, .inl f27)), ((Rf 28), .inl (cI, 6, .inl f28)), ((Rf 29), .inl (cI, 30, .inl f29)), ((Rf 30), .inl (cI, 7, .inl f30)), ((Rf 31), .inl (cI, 7, .inl f31)), ((Rf 13), .inl (cI, 240, .inl f13)), (h, .inr (10, ML u_49 Rf))] := hD
            exact hret r_50 (u_49, f27, f28, f29, f30, f31) _ _ _ _ dX10_takesClause_175 (narrow_b01 (Or.inl (congrArg Prod.fst hw_u_49))) hE (cutP (isC := [6, 5, 0, 1, 2, 3, 4]) hP rfl) (cutD (isC := [6, 5, 0, 1, 2, 3, 4]) hD rfl rfl) hS
      · replace hF := hF.2 c_28
        rw [if_neg c_28] at hE
        refine lv_iload_n hx hb dX10_takesClause_24 rfl (lv_at hl 0 rfl) ?_
        refine lv_bipush (v := 99) hx hb dX10_takesClause_25 (by decide) ?_
        refine lv_icmp_eq (tgt := 42) hx hb dX10_takesClause_27 (by decide) (fun c_51 => ?_) (fun c_51 => ?_)
        · replace hF := hF.1 c_51
          rw [if_pos c_51] at hE
          subst c_51
          refine lv_iconst (v := 1) hx hb dX10_takesClause_42 (by decide) ?_
          refine lv_goto (tgt := 47) hx hb dX10_takesClause_43 (by decide) ?_
          refine lv_istore_n (lv' := [(2, .int 1), (1, .int 99), (0, .ref h)]) hx hb dX10_takesClause_47 rfl hl (by decide) rfl (fun ls hl => ?_)
          refine lv_iload_n hx hb dX10_takesClause_48 rfl (lv_at hl 0 rfl) ?_
          refine lv_if_ne (tgt := 62) hx hb dX10_takesClause_49 (by decide) (fun c_52 => ?_) (fun c_52 => absurd c_52 (by decide +kernel))
          refine lv_iload_n hx hb dX10_takesClause_62 rfl (lv_at hl 1 rfl) ?_
          refine lv_bipush (v := 98) hx hb dX10_takesClause_63 (by decide) ?_
          refine lv_icmp_ne (tgt := 83) hx hb dX10_takesClause_65 (by decide) (fun c_53 => ?_) (fun c_53 => absurd c_53 (by decide +kernel))
          refine lv_iload_n hx hb dX10_takesClause_83 rfl (lv_at hl 1 rfl) ?_
          refine lv_bipush (v := 116) hx hb dX10_takesClause_84 (by decide) ?_
          refine lv_icmp_ne (tgt := 111) hx hb dX10_takesClause_86 (by decide) (fun c_54 => ?_) (fun c_54 => absurd c_54 (by decide +kernel))
          refine lv_iload_n hx hb dX10_takesClause_111 rfl (lv_at hl 1 rfl) ?_
          refine lv_bipush (v := 99) hx hb dX10_takesClause_112 (by decide) ?_
          refine lv_icmp_ne (tgt := 134) hx hb dX10_takesClause_114 (by decide) (fun c_55 => absurd (by decide +kernel) c_55) (fun c_55 => ?_)
          refine lv_aload_n hx hb dX10_takesClause_117 rfl (lv_at hl 2 rfl) ?_
          refine va_get (D := D) (ci := 10) (v := .int (u_2 23)) (C := RX10) (T := TX10) (N := 45) hx hb hts iX10 hown hK hP 5 rfl rfl 23 (by decide) (hts _ wd_536) (fun _ h9 => h9) rfl dX10_takesClause_118 ?_
          refine lv_bipush (v := 6) hx hb dX10_takesClause_121 (by decide) ?_
          refine lv_icmp_ne (tgt := 130) hx hb dX10_takesClause_123 (by decide) (fun c_56 => ?_) (fun c_56 => ?_)
          · replace hF := hF.2 c_56
            rw [if_neg c_56] at hE
            refine lv_iconst (v := 0) hx hb dX10_takesClause_130 (by decide) ?_
            refine lv_goto (tgt := 161) hx hb dX10_takesClause_131 (by decide) ?_
            refine lv_istore_n (lv' := [(3, .int 0), (2, .int 1), (1, .int 99), (0, .ref h)]) hx hb dX10_takesClause_161 rfl hl (by decide) rfl (fun ls hl => ?_)
            refine lv_iload_n hx hb dX10_takesClause_162 rfl (lv_at hl 0 rfl) ?_
            refine lv_if_eq (tgt := 176) hx hb dX10_takesClause_163 (by decide) (fun c_57 => ?_) (fun c_57 => absurd (by decide +kernel) c_57)
            refine lv_aload_n hx hb dX10_takesClause_176 rfl (lv_at hl 3 rfl) ?_
            refine lv_dup hx hb dX10_takesClause_177 rfl ?_
            refine va_get (D := D) (ci := 10) (v := .int (u_2 15)) (C := RX10) (T := TX10) (N := 45) hx hb hts iX10 hown hK hP 5 rfl rfl 15 (by decide) (hts _ wd_508) (fun _ h9 => h9) rfl dX10_takesClause_178 ?_
            refine lv_iconst (v := 1) hx hb dX10_takesClause_181 (by decide) ?_
            refine lv_iadd hx hb dX10_takesClause_182 ?_
            refine va_put (D := D) (ci := 10) (v := .int ((u_2 15) + 1)) (ty := .int) (C := RX10) (T := TX10) (N := 45) hx hb hts iX10 tyX10 tyX10_ok nmX10 hown hK hP hD hS 5 rfl rfl 15 (by decide) (hts _ wd_508) (fun _ h9 => h9) rfl (by decide +kernel) rfl rfl (Nat.le_of_ble_eq_true rfl) dX10_takesClause_183 (fun H locs hP hD hS => ?_)
            have hP : va_P D classes [((Rf 27), .inl (cI, 6, .inl f27)), ((Rf 28), .inl (cI, 6, .inl f28)), ((Rf 29), .inl (cI, 30, .inl f29)), ((Rf 30), .inl (cI, 7, .inl f30)), ((Rf 31), .inl (cI, 7, .inl f31)), (h, .inr (10, ML (upd u_2 15 ((u_2 15) + 1)) Rf)), ((Rf 13), .inl (cI, 240, .inl f13))] H := hP
            have hD : va_D A [((Rf 27), .inl (cI, 6, .inl f27)), ((Rf 28), .inl (cI, 6, .inl f28)), ((Rf 29), .inl (cI, 30, .inl f29)), ((Rf 30), .inl (cI, 7, .inl f30)), ((Rf 31), .inl (cI, 7, .inl f31)), (h, .inr (10, ML (upd u_2 15 ((u_2 15) + 1)) Rf)), ((Rf 13), .inl (cI, 240, .inl f13))] := hD
            refine lv_iload_n hx hb dX10_takesClause_186 rfl (lv_at hl 2 rfl) ?_
            refine lv_lookup (off := 59) (tgt := 246) hx hb dX10_takesClause_187 (by decide +kernel) (by decide +kernel) (by decide) ?_
            refine lv_aload_n hx hb dX10_takesClause_246 rfl (lv_at hl 3 rfl) ?_
            obtain ⟨hs_58, hF⟩ := hF
            refine cVi (wr := [((Rf 27), .inl (cI, 6, .inl f27)), ((Rf 30), .inl (cI, 7, .inl f30)), ((Rf 31), .inl (cI, 7, .inl f31))]) (rest := []) (m_takesCouple Rf h (upd u_2 15 ((u_2 15) + 1)) f13 f28 f29 hs_58) okV_X10_takesCouple wd_631 hx hb hml hown hts hK hP hD hS hA hN hl.1 [5, 6, 1, 2] [0, 3, 4] rfl rfl rfl rfl (by decide) rfl rfl rfl (Nat.le_of_ble_eq_true rfl) (Nat.le_of_ble_eq_true rfl) (Nat.le_of_ble_eq_true rfl) (Nat.le_of_ble_eq_true rfl) (Nat.le_of_ble_eq_true rfl) dX10_takesClause_247 (fun r_60 u_59 H locs hw_u_59 hP hD hS => ?_)
            obtain ⟨o_61, o_62, o_63⟩ := u_59
            replace hw_u_59 : (r_60, o_61, o_62, o_63) = (f_m_takesCouple (upd u_2 15 ((u_2 15) + 1)) f13 f28 f29) := hw_u_59
            replace hF := hF r_60 o_61 o_62 o_63 hw_u_59
            rw [← hw_u_59] at hE
            replace hE : ((if r_60 = 0 then (0, o_61, f27, o_62, o_63, f30, f31) else (match (f_m_takes o_61 f13 59) with | (r_67, u_66) => (if r_67 = 0 then (0, u_66, f27, o_62, o_63, f30, f31) else (1, u_66, f27, o_62, o_63, f30, f31)))) : Int32 × (Nat → Int32) × (Nat → Int32) × (Nat → Int32) × (Nat → Int32) × (Nat → Int32) × (Nat → Int32)) = RES := hE
            have hP : va_P D classes [((Rf 27), .inl (cI, 6, .inl f27)), ((Rf 30), .inl (cI, 7, .inl f30)), ((Rf 31), .inl (cI, 7, .inl f31)), (h, .inr (10, ML o_61 Rf)), ((Rf 13), .inl (cI, 240, .inl f13)), ((Rf 28), .inl (cI, 6, .inl o_62)), ((Rf 29), .inl (cI, 30, .inl o_63))] H := hP
            have hD : va_D A [((Rf 27), .inl (cI, 6, .inl f27)), ((Rf 30), .inl (cI, 7, .inl f30)), ((Rf 31), .inl (cI, 7, .inl f31)), (h, .inr (10, ML o_61 Rf)), ((Rf 13), .inl (cI, 240, .inl f13)), ((Rf 28), .inl (cI, 6, .inl o_62)), ((Rf 29), .inl (cI, 30, .inl o_63))] := hD
            refine lv_istore (lv' := [(4, .int r_60), (3, .int 0), (2, .int 1), (1, .int 99), (0, .ref h)]) hx hb dX10_takesClause_250 hl (by decide) rfl (fun ls hl => ?_)
            refine lv_goto (tgt := 270) hx hb dX10_takesClause_252 (by decide) ?_
            refine lv_iload hx hb dX10_takesClause_270 (lv_at hl 0 rfl) ?_
            refine lv_if_eq (tgt := 288) hx hb dX10_takesClause_272 (by decide) (fun c_64 => ?_) (fun c_64 => ?_)
            · replace hF := hF.1 c_64
              rw [if_pos c_64] at hE
              subst c_64
              refine lv_iconst (v := 0) hx hb dX10_takesClause_288 (by decide) ?_
              exact hret 0 (o_61, f27, o_62, o_63, f30, f31) _ _ _ _ dX10_takesClause_289 rfl hE (cutP (isC := [3, 4, 0, 5, 6, 1, 2]) hP rfl) (cutD (isC := [3, 4, 0, 5, 6, 1, 2]) hD rfl rfl) hS
            · replace hF := hF.2 c_64
              rw [if_neg c_64] at hE
              refine lv_aload_n hx hb dX10_takesClause_275 rfl (lv_at hl 4 rfl) ?_
              refine lv_bipush (v := 59) hx hb dX10_takesClause_276 (by decide) ?_
              obtain ⟨hs_65, hF⟩ := hF
              refine cVi (wr := [((Rf 27), .inl (cI, 6, .inl f27)), ((Rf 30), .inl (cI, 7, .inl f30)), ((Rf 31), .inl (cI, 7, .inl f31)), ((Rf 28), .inl (cI, 6, .inl o_62)), ((Rf 29), .inl (cI, 30, .inl o_63))]) (rest := []) (m_takes Rf h o_61 f13 59 hs_65) okV_X10_takes wd_538 hx hb hml hown hts hK hP hD hS hA hN hl.1 [3, 4] [0, 1, 2, 5, 6] rfl rfl rfl rfl (by decide) rfl rfl rfl (Nat.le_of_ble_eq_true rfl) (Nat.le_of_ble_eq_true rfl) (Nat.le_of_ble_eq_true rfl) (Nat.le_of_ble_eq_true rfl) (Nat.le_of_ble_eq_true rfl) dX10_takesClause_278 (fun r_67 u_66 H locs hw_u_66 hP hD hS => ?_)
              replace hw_u_66 : (r_67, u_66) = (f_m_takes o_61 f13 59) := hw_u_66
              replace hF := hF r_67 u_66 hw_u_66
              rw [← hw_u_66] at hE
              replace hE : ((if r_67 = 0 then (0, u_66, f27, o_62, o_63, f30, f31) else (1, u_66, f27, o_62, o_63, f30, f31)) : Int32 × (Nat → Int32) × (Nat → Int32) × (Nat → Int32) × (Nat → Int32) × (Nat → Int32) × (Nat → Int32)) = RES := hE
              have hP : va_P D classes [((Rf 27), .inl (cI, 6, .inl f27)), ((Rf 30), .inl (cI, 7, .inl f30)), ((Rf 31), .inl (cI, 7, .inl f31)), ((Rf 28), .inl (cI, 6, .inl o_62)), ((Rf 29), .inl (cI, 30, .inl o_63)), (h, .inr (10, ML u_66 Rf)), ((Rf 13), .inl (cI, 240, .inl f13))] H := hP
              have hD : va_D A [((Rf 27), .inl (cI, 6, .inl f27)), ((Rf 30), .inl (cI, 7, .inl f30)), ((Rf 31), .inl (cI, 7, .inl f31)), ((Rf 28), .inl (cI, 6, .inl o_62)), ((Rf 29), .inl (cI, 30, .inl o_63)), (h, .inr (10, ML u_66 Rf)), ((Rf 13), .inl (cI, 240, .inl f13))] := hD
              refine lv_if_eq (tgt := 288) hx hb dX10_takesClause_281 (by decide) (fun c_68 => ?_) (fun c_68 => ?_)
              · replace hF := hF.1 c_68
                rw [if_pos c_68] at hE
                subst c_68
                refine lv_iconst (v := 0) hx hb dX10_takesClause_288 (by decide) ?_
                exact hret 0 (u_66, f27, o_62, o_63, f30, f31) _ _ _ _ dX10_takesClause_289 rfl hE (cutP (isC := [5, 6, 0, 3, 4, 1, 2]) hP rfl) (cutD (isC := [5, 6, 0, 3, 4, 1, 2]) hD rfl rfl) hS
              · replace hF := hF.2 c_68
                rw [if_neg c_68] at hE
                refine lv_iconst (v := 1) hx hb dX10_takesClause_284 (by decide) ?_
                refine lv_goto (tgt := 289) hx hb dX10_takesClause_285 (by decide) ?_
                exact hret 1 (u_66, f27, o_62, o_63, f30, f31) _ _ _ _ dX10_takesClause_289 rfl hE (cutP (isC := [5, 6, 0, 3, 4, 1, 2]) hP rfl) (cutD (isC := [5, 6, 0, 3, 4, 1, 2]) hD rfl rfl) hS
          · replace hF := hF.1 c_56
            rw [if_pos c_56] at hE
            refine lv_iconst (v := 1) hx hb dX10_takesClause_126 (by decide) ?_
            refine lv_goto (tgt := 161) hx hb dX10_takesClause_127 (by decide) ?_
            refine lv_istore_n (lv' := [(3, .int 1), (2, .int 1), (1, .int 99), (0, .ref h)]) hx hb dX10_takesClause_161 rfl hl (by decide) rfl (fun ls hl => ?_)
            refine lv_iload_n hx hb dX10_takesClause_162 rfl (lv_at hl 0 rfl) ?_
            refine lv_if_eq (tgt := 176) hx hb dX10_takesClause_163 (by decide) (fun c_69 => absurd c_69 (by decide +kernel)) (fun c_69 => ?_)
            refine lv_aload_n hx hb dX10_takesClause_166 rfl (lv_at hl 3 rfl) ?_
            refine lv_iconst (v := 3) hx hb dX10_takesClause_167 (by decide) ?_
            refine lv_aload_n hx hb dX10_takesClause_168 rfl (lv_at hl 3 rfl) ?_
            refine va_get (D := D) (ci := 10) (v := .int (u_2 16)) (C := RX10) (T := TX10) (N := 45) hx hb hts iX10 hown hK hP 5 rfl rfl 16 (by decide) (hts _ wd_509) (fun _ h9 => h9) rfl dX10_takesClause_169 ?_
            obtain ⟨hs_70, hF⟩ := hF
            refine cVi (wr := [((Rf 27), .inl (cI, 6, .inl f27)), ((Rf 28), .inl (cI, 6, .inl f28)), ((Rf 29), .inl (cI, 30, .inl f29)), ((Rf 30), .inl (cI, 7, .inl f30)), ((Rf 31), .inl (cI, 7, .inl f31)), ((Rf 13), .inl (cI, 240, .inl f13))]) (rest := []) (m_fails Rf h u_2 3 (u_2 16) hs_70) okV_X10_fails wd_520 hx hb hml hown hts hK hP hD hS hA hN hl.1 [5] [0, 1, 2, 3, 4, 6] rfl rfl rfl rfl (by decide) rfl rfl rfl (Nat.le_of_ble_eq_true rfl) (Nat.le_of_ble_eq_true rfl) (Nat.le_of_ble_eq_true rfl) (Nat.le_of_ble_eq_true rfl) (Nat.le_of_ble_eq_true rfl) dX10_takesClause_172 (fun r_72 u_71 H locs hw_u_71 hP hD hS => ?_)
            replace hw_u_71 : (r_72, u_71) = (f_m_fails u_2 3 (u_2 16)) := hw_u_71
            replace hF := hF r_72 u_71 hw_u_71
            rw [← hw_u_71] at hE
            replace hE : ((r_72, u_71, f27, f28, f29, f30, f31) : Int32 × (Nat → Int32) × (Nat → Int32) × (Nat → Int32) × (Nat → Int32) × (Nat → Int32) × (Nat → Int32)) = RES := hE
            have hP : va_P D classes [((Rf 27), .inl (cI, 6, .inl f27)), ((Rf 28), .inl (cI, 6, .inl f28)), ((Rf 29), .inl (cI, 30, .inl f29)), ((Rf 30), .inl (cI, 7, .inl f30)), ((Rf 31), .inl (cI, 7, .inl f31)), ((Rf 13), .inl (cI, 240, .inl f13)), (h, .inr (10, ML u_71 Rf))] H := hP
            have hD : va_D A [((Rf 27), .inl (cI, 6, .inl f27)), ((Rf 28), .inl (cI, 6, .inl f28)), ((Rf 29), .inl (cI, 30, .inl f29)), ((Rf 30), .inl (cI, 7, .inl f30)), ((Rf 31), .inl (cI, 7, .inl f31)), ((Rf 13), .inl (cI, 240, .inl f13)), (h, .inr (10, ML u_71 Rf))] := hD
            exact hret r_72 (u_71, f27, f28, f29, f30, f31) _ _ _ _ dX10_takesClause_175 (narrow_b01 (Or.inl (congrArg Prod.fst hw_u_71))) hE (cutP (isC := [6, 5, 0, 1, 2, 3, 4]) hP rfl) (cutD (isC := [6, 5, 0, 1, 2, 3, 4]) hD rfl rfl) hS
        · replace hF := hF.2 c_51
          rw [if_neg c_51] at hE
          refine lv_iload_n hx hb dX10_takesClause_30 rfl (lv_at hl 0 rfl) ?_
          refine lv_bipush (v := 118) hx hb dX10_takesClause_31 (by decide) ?_
          refine lv_icmp_eq (tgt := 42) hx hb dX10_takesClause_33 (by decide) (fun c_73 => ?_) (fun c_73 => ?_)
          · replace hF := hF.1 c_73
            rw [if_pos c_73] at hE
            subst c_73
            refine lv_iconst (v := 1) hx hb dX10_takesClause_42 (by decide) ?_
            refine lv_goto (tgt := 47) hx hb dX10_takesClause_43 (by decide) ?_
            refine lv_istore_n (lv' := [(2, .int 1), (1, .int 118), (0, .ref h)]) hx hb dX10_takesClause_47 rfl hl (by decide) rfl (fun ls hl => ?_)
            refine lv_iload_n hx hb dX10_takesClause_48 rfl (lv_at hl 0 rfl) ?_
            refine lv_if_ne (tgt := 62) hx hb dX10_takesClause_49 (by decide) (fun c_74 => ?_) (fun c_74 => absurd c_74 (by decide +kernel))
            refine lv_iload_n hx hb dX10_takesClause_62 rfl (lv_at hl 1 rfl) ?_
            refine lv_bipush (v := 98) hx hb dX10_takesClause_63 (by decide) ?_
            refine lv_icmp_ne (tgt := 83) hx hb dX10_takesClause_65 (by decide) (fun c_75 => ?_) (fun c_75 => absurd c_75 (by decide +kernel))
            refine lv_iload_n hx hb dX10_takesClause_83 rfl (lv_at hl 1 rfl) ?_
            refine lv_bipush (v := 116) hx hb dX10_takesClause_84 (by decide) ?_
            refine lv_icmp_ne (tgt := 111) hx hb dX10_takesClause_86 (by decide) (fun c_76 => ?_) (fun c_76 => absurd c_76 (by decide +kernel))
            refine lv_iload_n hx hb dX10_takesClause_111 rfl (lv_at hl 1 rfl) ?_
            refine lv_bipush (v := 99) hx hb dX10_takesClause_112 (by decide) ?_
            refine lv_icmp_ne (tgt := 134) hx hb dX10_takesClause_114 (by decide) (fun c_77 => ?_) (fun c_77 => absurd c_77 (by decide +kernel))
            refine lv_iload_n hx hb dX10_takesClause_134 rfl (lv_at hl 1 rfl) ?_
            refine lv_bipush (v := 118) hx hb dX10_takesClause_135 (by decide) ?_
            refine lv_icmp_ne (tgt := 157) hx hb dX10_takesClause_137 (by decide) (fun c_78 => absurd (by decide +kernel) c_78) (fun c_78 => ?_)
            refine lv_aload_n hx hb dX10_takesClause_140 rfl (lv_at hl 2 rfl) ?_
            refine va_get (D := D) (ci := 10) (v := .int (u_2 24)) (C := RX10) (T := TX10) (N := 45) hx hb hts iX10 hown hK hP 5 rfl rfl 24 (by decide) (hts _ wd_543) (fun _ h9 => h9) rfl dX10_takesClause_141 ?_
            refine lv_bipush (v := 7) hx hb dX10_takesClause_144 (by decide) ?_
            refine lv_icmp_ne (tgt := 153) hx hb dX10_takesClause_146 (by decide) (fun c_79 => ?_) (fun c_79 => ?_)
            · replace hF := hF.2 c_79
              rw [if_neg c_79] at hE
              refine lv_iconst (v := 0) hx hb dX10_takesClause_153 (by decide) ?_
              refine lv_goto (tgt := 161) hx hb dX10_takesClause_154 (by decide) ?_
              refine lv_istore_n (lv' := [(3, .int 0), (2, .int 1), (1, .int 118), (0, .ref h)]) hx hb dX10_takesClause_161 rfl hl (by decide) rfl (fun ls hl => ?_)
              refine lv_iload_n hx hb dX10_takesClause_162 rfl (lv_at hl 0 rfl) ?_
              refine lv_if_eq (tgt := 176) hx hb dX10_takesClause_163 (by decide) (fun c_80 => ?_) (fun c_80 => absurd (by decide +kernel) c_80)
              refine lv_aload_n hx hb dX10_takesClause_176 rfl (lv_at hl 3 rfl) ?_
              refine lv_dup hx hb dX10_takesClause_177 rfl ?_
              refine va_get (D := D) (ci := 10) (v := .int (u_2 15)) (C := RX10) (T := TX10) (N := 45) hx hb hts iX10 hown hK hP 5 rfl rfl 15 (by decide) (hts _ wd_508) (fun _ h9 => h9) rfl dX10_takesClause_178 ?_
              refine lv_iconst (v := 1) hx hb dX10_takesClause_181 (by decide) ?_
              refine lv_iadd hx hb dX10_takesClause_182 ?_
              refine va_put (D := D) (ci := 10) (v := .int ((u_2 15) + 1)) (ty := .int) (C := RX10) (T := TX10) (N := 45) hx hb hts iX10 tyX10 tyX10_ok nmX10 hown hK hP hD hS 5 rfl rfl 15 (by decide) (hts _ wd_508) (fun _ h9 => h9) rfl (by decide +kernel) rfl rfl (Nat.le_of_ble_eq_true rfl) dX10_takesClause_183 (fun H locs hP hD hS => ?_)
              have hP : va_P D classes [((Rf 27), .inl (cI, 6, .inl f27)), ((Rf 28), .inl (cI, 6, .inl f28)), ((Rf 29), .inl (cI, 30, .inl f29)), ((Rf 30), .inl (cI, 7, .inl f30)), ((Rf 31), .inl (cI, 7, .inl f31)), (h, .inr (10, ML (upd u_2 15 ((u_2 15) + 1)) Rf)), ((Rf 13), .inl (cI, 240, .inl f13))] H := hP
              have hD : va_D A [((Rf 27), .inl (cI, 6, .inl f27)), ((Rf 28), .inl (cI, 6, .inl f28)), ((Rf 29), .inl (cI, 30, .inl f29)), ((Rf 30), .inl (cI, 7, .inl f30)), ((Rf 31), .inl (cI, 7, .inl f31)), (h, .inr (10, ML (upd u_2 15 ((u_2 15) + 1)) Rf)), ((Rf 13), .inl (cI, 240, .inl f13))] := hD
              refine lv_iload_n hx hb dX10_takesClause_186 rfl (lv_at hl 2 rfl) ?_
              refine lv_lookup (off := 68) (tgt := 255) hx hb dX10_takesClause_187 (by decide +kernel) (by decide +kernel) (by decide) ?_
              refine lv_aload_n hx hb dX10_takesClause_255 rfl (lv_at hl 3 rfl) ?_
              obtain ⟨hs_81, hF⟩ := hF
              refine cVi (wr := [((Rf 27), .inl (cI, 6, .inl f27)), ((Rf 28), .inl (cI, 6, .inl f28)), ((Rf 29), .inl (cI, 30, .inl f29))]) (rest := []) (m_takesBarge Rf h (upd u_2 15 ((u_2 15) + 1)) f13 f30 f31 hs_81) okV_X10_takesBarge wd_635 hx hb hml hown hts hK hP hD hS hA hN hl.1 [5, 6, 3, 4] [0, 1, 2] rfl rfl rfl rfl (by decide) rfl rfl rfl (Nat.le_of_ble_eq_true rfl) (Nat.le_of_ble_eq_true rfl) (Nat.le_of_ble_eq_true rfl) (Nat.le_of_ble_eq_true rfl) (Nat.le_of_ble_eq_true rfl) dX10_takesClause_256 (fun r_83 u_82 H locs hw_u_82 hP hD hS => ?_)
              obtain ⟨o_84, o_85, o_86⟩ := u_82
              replace hw_u_82 : (r_83, o_84, o_85, o_86) = (f_m_takesBarge (upd u_2 15 ((u_2 15) + 1)) f13 f30 f31) := hw_u_82
              replace hF := hF r_83 o_84 o_85 o_86 hw_u_82
              rw [← hw_u_82] at hE
              replace hE : ((if r_83 = 0 then (0, o_84, f27, f28, f29, o_85, o_86) else (match (f_m_takes o_84 f13 59) with | (r_90, u_89) => (if r_90 = 0 then (0, u_89, f27, f28, f29, o_85, o_86) else (1, u_89, f27, f28, f29, o_85, o_86)))) : Int32 × (Nat → Int32) × (Nat → Int32) × (Nat → Int32) × (Nat → Int32) × (Nat → Int32) × (Nat → Int32)) = RES := hE
              have hP : va_P D classes [((Rf 27), .inl (cI, 6, .inl f27)), ((Rf 28), .inl (cI, 6, .inl f28)), ((Rf 29), .inl (cI, 30, .inl f29)), (h, .inr (10, ML o_84 Rf)), ((Rf 13), .inl (cI, 240, .inl f13)), ((Rf 30), .inl (cI, 7, .inl o_85)), ((Rf 31), .inl (cI, 7, .inl o_86))] H := hP
              have hD : va_D A [((Rf 27), .inl (cI, 6, .inl f27)), ((Rf 28), .inl (cI, 6, .inl f28)), ((Rf 29), .inl (cI, 30, .inl f29)), (h, .inr (10, ML o_84 Rf)), ((Rf 13), .inl (cI, 240, .inl f13)), ((Rf 30), .inl (cI, 7, .inl o_85)), ((Rf 31), .inl (cI, 7, .inl o_86))] := hD
              refine lv_istore (lv' := [(4, .int r_83), (3, .int 0), (2, .int 1), (1, .int 118), (0, .ref h)]) hx hb dX10_takesClause_259 hl (by decide) rfl (fun ls hl => ?_)
              refine lv_goto (tgt := 270) hx hb dX10_takesClause_261 (by decide) ?_
              refine lv_iload hx hb dX10_takesClause_270 (lv_at hl 0 rfl) ?_
              refine lv_if_eq (tgt := 288) hx hb dX10_takesClause_272 (by decide) (fun c_87 => ?_) (fun c_87 => ?_)
              · replace hF := hF.1 c_87
                rw [if_pos c_87] at hE
                subst c_87
                refine lv_iconst (v := 0) hx hb dX10_takesClause_288 (by decide) ?_
                exact hret 0 (o_84, f27, f28, f29, o_85, o_86) _ _ _ _ dX10_takesClause_289 rfl hE (cutP (isC := [3, 4, 0, 1, 2, 5, 6]) hP rfl) (cutD (isC := [3, 4, 0, 1, 2, 5, 6]) hD rfl rfl) hS
              · replace hF := hF.2 c_87
                rw [if_neg c_87] at hE
                refine lv_aload_n hx hb dX10_takesClause_275 rfl (lv_at hl 4 rfl) ?_
                refine lv_bipush (v := 59) hx hb dX10_takesClause_276 (by decide) ?_
                obtain ⟨hs_88, hF⟩ := hF
                refine cVi (wr := [((Rf 27), .inl (cI, 6, .inl f27)), ((Rf 28), .inl (cI, 6, .inl f28)), ((Rf 29), .inl (cI, 30, .inl f29)), ((Rf 30), .inl (cI, 7, .inl o_85)), ((Rf 31), .inl (cI, 7, .inl o_86))]) (rest := []) (m_takes Rf h o_84 f13 59 hs_88) okV_X10_takes wd_538 hx hb hml hown hts hK hP hD hS hA hN hl.1 [3, 4] [0, 1, 2, 5, 6] rfl rfl rfl rfl (by decide) rfl rfl rfl (Nat.le_of_ble_eq_true rfl) (Nat.le_of_ble_eq_true rfl) (Nat.le_of_ble_eq_true rfl) (Nat.le_of_ble_eq_true rfl) (Nat.le_of_ble_eq_true rfl) dX10_takesClause_278 (fun r_90 u_89 H locs hw_u_89 hP hD hS => ?_)
                replace hw_u_89 : (r_90, u_89) = (f_m_takes o_84 f13 59) := hw_u_89
                replace hF := hF r_90 u_89 hw_u_89
                rw [← hw_u_89] at hE
                replace hE : ((if r_90 = 0 then (0, u_89, f27, f28, f29, o_85, o_86) else (1, u_89, f27, f28, f29, o_85, o_86)) : Int32 × (Nat → Int32) × (Nat → Int32) × (Nat → Int32) × (Nat → Int32) × (Nat → Int32) × (Nat → Int32)) = RES := hE
                have hP : va_P D classes [((Rf 27), .inl (cI, 6, .inl f27)), ((Rf 28), .inl (cI, 6, .inl f28)), ((Rf 29), .inl (cI, 30, .inl f29)), ((Rf 30), .inl (cI, 7, .inl o_85)), ((Rf 31), .inl (cI, 7, .inl o_86)), (h, .inr (10, ML u_89 Rf)), ((Rf 13), .inl (cI, 240, .inl f13))] H := hP
                have hD : va_D A [((Rf 27), .inl (cI, 6, .inl f27)), ((Rf 28), .inl (cI, 6, .inl f28)), ((Rf 29), .inl (cI, 30, .inl f29)), ((Rf 30), .inl (cI, 7, .inl o_85)), ((Rf 31), .inl (cI, 7, .inl o_86)), (h, .inr (10, ML u_89 Rf)), ((Rf 13), .inl (cI, 240, .inl f13))] := hD
                refine lv_if_eq (tgt := 288) hx hb dX10_takesClause_281 (by decide) (fun c_91 => ?_) (fun c_91 => ?_)
                · replace hF := hF.1 c_91
                  rw [if_pos c_91] at hE
                  subst c_91
                  refine lv_iconst (v := 0) hx hb dX10_takesClause_288 (by decide) ?_
                  exact hret 0 (u_89, f27, f28, f29, o_85, o_86) _ _ _ _ dX10_takesClause_289 rfl hE (cutP (isC := [5, 6, 0, 1, 2, 3, 4]) hP rfl) (cutD (isC := [5, 6, 0, 1, 2, 3, 4]) hD rfl rfl) hS
                · replace hF := hF.2 c_91
                  rw [if_neg c_91] at hE
                  refine lv_iconst (v := 1) hx hb dX10_takesClause_284 (by decide) ?_
                  refine lv_goto (tgt := 289) hx hb dX10_takesClause_285 (by decide) ?_
                  exact hret 1 (u_89, f27, f28, f29, o_85, o_86) _ _ _ _ dX10_takesClause_289 rfl hE (cutP (isC := [5, 6, 0, 1, 2, 3, 4]) hP rfl) (cutD (isC := [5, 6, 0, 1, 2, 3, 4]) hD rfl rfl) hS
            · replace hF := hF.1 c_79
              rw [if_pos c_79] at hE
              refine lv_iconst (v := 1) hx hb dX10_takesClause_149 (by decide) ?_
              refine lv_goto (tgt := 161) hx hb dX10_takesClause_150 (by decide) ?_
              refine lv_istore_n (lv' := [(3, .int 1), (2, .int 1), (1, .int 118), (0, .ref h)]) hx hb dX10_takesClause_161 rfl hl (by decide) rfl (fun ls hl => ?_)
              refine lv_iload_n hx hb dX10_takesClause_162 rfl (lv_at hl 0 rfl) ?_
              refine lv_if_eq (tgt := 176) hx hb dX10_takesClause_163 (by decide) (fun c_92 => absurd c_92 (by decide +kernel)) (fun c_92 => ?_)
              refine lv_aload_n hx hb dX10_takesClause_166 rfl (lv_at hl 3 rfl) ?_
              refine lv_iconst (v := 3) hx hb dX10_takesClause_167 (by decide) ?_
              refine lv_aload_n hx hb dX10_takesClause_168 rfl (lv_at hl 3 rfl) ?_
              refine va_get (D := D) (ci := 10) (v := .int (u_2 16)) (C := RX10) (T := TX10) (N := 45) hx hb hts iX10 hown hK hP 5 rfl rfl 16 (by decide) (hts _ wd_509) (fun _ h9 => h9) rfl dX10_takesClause_169 ?_
              obtain ⟨hs_93, hF⟩ := hF
              refine cVi (wr := [((Rf 27), .inl (cI, 6, .inl f27)), ((Rf 28), .inl (cI, 6, .inl f28)), ((Rf 29), .inl (cI, 30, .inl f29)), ((Rf 30), .inl (cI, 7, .inl f30)), ((Rf 31), .inl (cI, 7, .inl f31)), ((Rf 13), .inl (cI, 240, .inl f13))]) (rest := []) (m_fails Rf h u_2 3 (u_2 16) hs_93) okV_X10_fails wd_520 hx hb hml hown hts hK hP hD hS hA hN hl.1 [5] [0, 1, 2, 3, 4, 6] rfl rfl rfl rfl (by decide) rfl rfl rfl (Nat.le_of_ble_eq_true rfl) (Nat.le_of_ble_eq_true rfl) (Nat.le_of_ble_eq_true rfl) (Nat.le_of_ble_eq_true rfl) (Nat.le_of_ble_eq_true rfl) dX10_takesClause_172 (fun r_95 u_94 H locs hw_u_94 hP hD hS => ?_)
              replace hw_u_94 : (r_95, u_94) = (f_m_fails u_2 3 (u_2 16)) := hw_u_94
              replace hF := hF r_95 u_94 hw_u_94
              rw [← hw_u_94] at hE
              replace hE : ((r_95, u_94, f27, f28, f29, f30, f31) : Int32 × (Nat → Int32) × (Nat → Int32) × (Nat → Int32) × (Nat → Int32) × (Nat → Int32) × (Nat → Int32)) = RES := hE
              have hP : va_P D classes [((Rf 27), .inl (cI, 6, .inl f27)), ((Rf 28), .inl (cI, 6, .inl f28)), ((Rf 29), .inl (cI, 30, .inl f29)), ((Rf 30), .inl (cI, 7, .inl f30)), ((Rf 31), .inl (cI, 7, .inl f31)), ((Rf 13), .inl (cI, 240, .inl f13)), (h, .inr (10, ML u_94 Rf))] H := hP
              have hD : va_D A [((Rf 27), .inl (cI, 6, .inl f27)), ((Rf 28), .inl (cI, 6, .inl f28)), ((Rf 29), .inl (cI, 30, .inl f29)), ((Rf 30), .inl (cI, 7, .inl f30)), ((Rf 31), .inl (cI, 7, .inl f31)), ((Rf 13), .inl (cI, 240, .inl f13)), (h, .inr (10, ML u_94 Rf))] := hD
              exact hret r_95 (u_94, f27, f28, f29, f30, f31) _ _ _ _ dX10_takesClause_175 (narrow_b01 (Or.inl (congrArg Prod.fst hw_u_94))) hE (cutP (isC := [6, 5, 0, 1, 2, 3, 4]) hP rfl) (cutD (isC := [6, 5, 0, 1, 2, 3, 4]) hD rfl rfl) hS
          · replace hF := hF.2 c_73
            rw [if_neg c_73] at hE
            refine lv_iload_n hx hb dX10_takesClause_36 rfl (lv_at hl 0 rfl) ?_
            refine lv_bipush (v := 115) hx hb dX10_takesClause_37 (by decide) ?_
            refine lv_icmp_ne (tgt := 46) hx hb dX10_takesClause_39 (by decide) (fun c_96 => ?_) (fun c_96 => ?_)
            · replace hF := hF.2 c_96
              rw [if_neg c_96] at hE
              refine lv_iconst (v := 0) hx hb dX10_takesClause_46 (by decide) ?_
              refine lv_istore_n (lv' := [(2, .int 0), (1, .int r_3), (0, .ref h)]) hx hb dX10_takesClause_47 rfl hl (by decide) rfl (fun ls hl => ?_)
              refine lv_iload_n hx hb dX10_takesClause_48 rfl (lv_at hl 0 rfl) ?_
              refine lv_if_ne (tgt := 62) hx hb dX10_takesClause_49 (by decide) (fun c_97 => absurd (by decide +kernel) c_97) (fun c_97 => ?_)
              refine lv_aload_n hx hb dX10_takesClause_52 rfl (lv_at hl 2 rfl) ?_
              refine lv_iconst (v := 1) hx hb dX10_takesClause_53 (by decide) ?_
              refine lv_aload_n hx hb dX10_takesClause_54 rfl (lv_at hl 2 rfl) ?_
              refine va_get (D := D) (ci := 10) (v := .int (u_2 16)) (C := RX10) (T := TX10) (N := 45) hx hb hts iX10 hown hK hP 5 rfl rfl 16 (by decide) (hts _ wd_509) (fun _ h9 => h9) rfl dX10_takesClause_55 ?_
              obtain ⟨hs_98, hF⟩ := hF
              refine cVi (wr := [((Rf 27), .inl (cI, 6, .inl f27)), ((Rf 28), .inl (cI, 6, .inl f28)), ((Rf 29), .inl (cI, 30, .inl f29)), ((Rf 30), .inl (cI, 7, .inl f30)), ((Rf 31), .inl (cI, 7, .inl f31)), ((Rf 13), .inl (cI, 240, .inl f13))]) (rest := []) (m_fails Rf h u_2 1 (u_2 16) hs_98) okV_X10_fails wd_520 hx hb hml hown hts hK hP hD hS hA hN hl.1 [5] [0, 1, 2, 3, 4, 6] rfl rfl rfl rfl (by decide) rfl rfl rfl (Nat.le_of_ble_eq_true rfl) (Nat.le_of_ble_eq_true rfl) (Nat.le_of_ble_eq_true rfl) (Nat.le_of_ble_eq_true rfl) (Nat.le_of_ble_eq_true rfl) dX10_takesClause_58 (fun r_100 u_99 H locs hw_u_99 hP hD hS => ?_)
              replace hw_u_99 : (r_100, u_99) = (f_m_fails u_2 1 (u_2 16)) := hw_u_99
              replace hF := hF r_100 u_99 hw_u_99
              rw [← hw_u_99] at hE
              replace hE : ((r_100, u_99, f27, f28, f29, f30, f31) : Int32 × (Nat → Int32) × (Nat → Int32) × (Nat → Int32) × (Nat → Int32) × (Nat → Int32) × (Nat → Int32)) = RES := hE
              have hP : va_P D classes [((Rf 27), .inl (cI, 6, .inl f27)), ((Rf 28), .inl (cI, 6, .inl f28)), ((Rf 29), .inl (cI, 30, .inl f29)), ((Rf 30), .inl (cI, 7, .inl f30)), ((Rf 31), .inl (cI, 7, .inl f31)), ((Rf 13), .inl (cI, 240, .inl f13)), (h, .inr (10, ML u_99 Rf))] H := hP
              have hD : va_D A [((Rf 27), .inl (cI, 6, .inl f27)), ((Rf 28), .inl (cI, 6, .inl f28)), ((Rf 29), .inl (cI, 30, .inl f29)), ((Rf 30), .inl (cI, 7, .inl f30)), ((Rf 31), .inl (cI, 7, .inl f31)), ((Rf 13), .inl (cI, 240, .inl f13)), (h, .inr (10, ML u_99 Rf))] := hD
              exact hret r_100 (u_99, f27, f28, f29, f30, f31) _ _ _ _ dX10_takesClause_61 (narrow_b01 (Or.inl (congrArg Prod.fst hw_u_99))) hE (cutP (isC := [6, 5, 0, 1, 2, 3, 4]) hP rfl) (cutD (isC := [6, 5, 0, 1, 2, 3, 4]) hD rfl rfl) hS
            · replace hF := hF.1 c_96
              rw [if_pos c_96] at hE
              subst c_96
              refine lv_iconst (v := 1) hx hb dX10_takesClause_42 (by decide) ?_
              refine lv_goto (tgt := 47) hx hb dX10_takesClause_43 (by decide) ?_
              refine lv_istore_n (lv' := [(2, .int 1), (1, .int 115), (0, .ref h)]) hx hb dX10_takesClause_47 rfl hl (by decide) rfl (fun ls hl => ?_)
              refine lv_iload_n hx hb dX10_takesClause_48 rfl (lv_at hl 0 rfl) ?_
              refine lv_if_ne (tgt := 62) hx hb dX10_takesClause_49 (by decide) (fun c_101 => ?_) (fun c_101 => absurd c_101 (by decide +kernel))
              refine lv_iload_n hx hb dX10_takesClause_62 rfl (lv_at hl 1 rfl) ?_
              refine lv_bipush (v := 98) hx hb dX10_takesClause_63 (by decide) ?_
              refine lv_icmp_ne (tgt := 83) hx hb dX10_takesClause_65 (by decide) (fun c_102 => ?_) (fun c_102 => absurd c_102 (by decide +kernel))
              refine lv_iload_n hx hb dX10_takesClause_83 rfl (lv_at hl 1 rfl) ?_
              refine lv_bipush (v := 116) hx hb dX10_takesClause_84 (by decide) ?_
              refine lv_icmp_ne (tgt := 111) hx hb dX10_takesClause_86 (by decide) (fun c_103 => ?_) (fun c_103 => absurd c_103 (by decide +kernel))
              refine lv_iload_n hx hb dX10_takesClause_111 rfl (lv_at hl 1 rfl) ?_
              refine lv_bipush (v := 99) hx hb dX10_takesClause_112 (by decide) ?_
              refine lv_icmp_ne (tgt := 134) hx hb dX10_takesClause_114 (by decide) (fun c_104 => ?_) (fun c_104 => absurd c_104 (by decide +kernel))
              refine lv_iload_n hx hb dX10_takesClause_134 rfl (lv_at hl 1 rfl) ?_
              refine lv_bipush (v := 118) hx hb dX10_takesClause_135 (by decide) ?_
              refine lv_icmp_ne (tgt := 157) hx hb dX10_takesClause_137 (by decide) (fun c_105 => ?_) (fun c_105 => absurd c_105 (by decide +kernel))
              refine lv_aload_n hx hb dX10_takesClause_157 rfl (lv_at hl 2 rfl) ?_
              refine va_get (D := D) (ci := 10) (v := .int (u_2 26)) (C := RX10) (T := TX10) (N := 45) hx hb hts iX10 hown hK hP 5 rfl rfl 26 (by decide) (hts _ wd_545) (fun _ h9 => h9) rfl dX10_takesClause_158 ?_
              refine lv_istore_n (lv' := [(3, .int (u_2 26)), (2, .int 1), (1, .int 115), (0, .ref h)]) hx hb dX10_takesClause_161 rfl hl (by decide) rfl (fun ls hl => ?_)
              refine lv_iload_n hx hb dX10_takesClause_162 rfl (lv_at hl 0 rfl) ?_
              refine lv_if_eq (tgt := 176) hx hb dX10_takesClause_163 (by decide) (fun c_106 => ?_) (fun c_106 => ?_)
              · replace hF := hF.1 c_106
                rw [if_pos c_106] at hE
                refine lv_aload_n hx hb dX10_takesClause_176 rfl (lv_at hl 3 rfl) ?_
                refine lv_dup hx hb dX10_takesClause_177 rfl ?_
                refine va_get (D := D) (ci := 10) (v := .int (u_2 15)) (C := RX10) (T := TX10) (N := 45) hx hb hts iX10 hown hK hP 5 rfl rfl 15 (by decide) (hts _ wd_508) (fun _ h9 => h9) rfl dX10_takesClause_178 ?_
                refine lv_iconst (v := 1) hx hb dX10_takesClause_181 (by decide) ?_
                refine lv_iadd hx hb dX10_takesClause_182 ?_
                refine va_put (D := D) (ci := 10) (v := .int ((u_2 15) + 1)) (ty := .int) (C := RX10) (T := TX10) (N := 45) hx hb hts iX10 tyX10 tyX10_ok nmX10 hown hK hP hD hS 5 rfl rfl 15 (by decide) (hts _ wd_508) (fun _ h9 => h9) rfl (by decide +kernel) rfl rfl (Nat.le_of_ble_eq_true rfl) dX10_takesClause_183 (fun H locs hP hD hS => ?_)
                have hP : va_P D classes [((Rf 27), .inl (cI, 6, .inl f27)), ((Rf 28), .inl (cI, 6, .inl f28)), ((Rf 29), .inl (cI, 30, .inl f29)), ((Rf 30), .inl (cI, 7, .inl f30)), ((Rf 31), .inl (cI, 7, .inl f31)), (h, .inr (10, ML (upd u_2 15 ((u_2 15) + 1)) Rf)), ((Rf 13), .inl (cI, 240, .inl f13))] H := hP
                have hD : va_D A [((Rf 27), .inl (cI, 6, .inl f27)), ((Rf 28), .inl (cI, 6, .inl f28)), ((Rf 29), .inl (cI, 30, .inl f29)), ((Rf 30), .inl (cI, 7, .inl f30)), ((Rf 31), .inl (cI, 7, .inl f31)), (h, .inr (10, ML (upd u_2 15 ((u_2 15) + 1)) Rf)), ((Rf 13), .inl (cI, 240, .inl f13))] := hD
                refine lv_iload_n hx hb dX10_takesClause_186 rfl (lv_at hl 2 rfl) ?_
                refine lv_lookup (off := 77) (tgt := 264) hx hb dX10_takesClause_187 (by decide +kernel) (by decide +kernel) (by decide) ?_
                refine lv_aload_n hx hb dX10_takesClause_264 rfl (lv_at hl 3 rfl) ?_
                obtain ⟨hs_107, hF⟩ := hF
                refine cVi (wr := [((Rf 27), .inl (cI, 6, .inl f27)), ((Rf 28), .inl (cI, 6, .inl f28)), ((Rf 29), .inl (cI, 30, .inl f29)), ((Rf 30), .inl (cI, 7, .inl f30)), ((Rf 31), .inl (cI, 7, .inl f31))]) (rest := []) (m_takesSnow Rf h (upd u_2 15 ((u_2 15) + 1)) f13 hs_107) okV_X10_takesSnow wd_639 hx hb hml hown hts hK hP hD hS hA hN hl.1 [5, 6] [0, 1, 2, 3, 4] rfl rfl rfl rfl (by decide) rfl rfl rfl (Nat.le_of_ble_eq_true rfl) (Nat.le_of_ble_eq_true rfl) (Nat.le_of_ble_eq_true rfl) (Nat.le_of_ble_eq_true rfl) (Nat.le_of_ble_eq_true rfl) dX10_takesClause_265 (fun r_109 u_108 H locs hw_u_108 hP hD hS => ?_)
                replace hw_u_108 : (r_109, u_108) = (f_m_takesSnow (upd u_2 15 ((u_2 15) + 1)) f13) := hw_u_108
                replace hF := hF r_109 u_108 hw_u_108
                rw [← hw_u_108] at hE
                replace hE : ((if r_109 = 0 then (0, u_108, f27, f28, f29, f30, f31) else (match (f_m_takes u_108 f13 59) with | (r_113, u_112) => (if r_113 = 0 then (0, u_112, f27, f28, f29, f30, f31) else (1, u_112, f27, f28, f29, f30, f31)))) : Int32 × (Nat → Int32) × (Nat → Int32) × (Nat → Int32) × (Nat → Int32) × (Nat → Int32) × (Nat → Int32)) = RES := hE
                have hP : va_P D classes [((Rf 27), .inl (cI, 6, .inl f27)), ((Rf 28), .inl (cI, 6, .inl f28)), ((Rf 29), .inl (cI, 30, .inl f29)), ((Rf 30), .inl (cI, 7, .inl f30)), ((Rf 31), .inl (cI, 7, .inl f31)), (h, .inr (10, ML u_108 Rf)), ((Rf 13), .inl (cI, 240, .inl f13))] H := hP
                have hD : va_D A [((Rf 27), .inl (cI, 6, .inl f27)), ((Rf 28), .inl (cI, 6, .inl f28)), ((Rf 29), .inl (cI, 30, .inl f29)), ((Rf 30), .inl (cI, 7, .inl f30)), ((Rf 31), .inl (cI, 7, .inl f31)), (h, .inr (10, ML u_108 Rf)), ((Rf 13), .inl (cI, 240, .inl f13))] := hD
                refine lv_istore (lv' := [(4, .int r_109), (3, .int (u_2 26)), (2, .int 1), (1, .int 115), (0, .ref h)]) hx hb dX10_takesClause_268 hl (by decide) rfl (fun ls hl => ?_)
                refine lv_iload hx hb dX10_takesClause_270 (lv_at hl 0 rfl) ?_
                refine lv_if_eq (tgt := 288) hx hb dX10_takesClause_272 (by decide) (fun c_110 => ?_) (fun c_110 => ?_)
                · replace hF := hF.1 c_110
                  rw [if_pos c_110] at hE
                  subst c_110
                  refine lv_iconst (v := 0) hx hb dX10_takesClause_288 (by decide) ?_
                  exact hret 0 (u_108, f27, f28, f29, f30, f31) _ _ _ _ dX10_takesClause_289 rfl hE (cutP (isC := [5, 6, 0, 1, 2, 3, 4]) hP rfl) (cutD (isC := [5, 6, 0, 1, 2, 3, 4]) hD rfl rfl) hS
                · replace hF := hF.2 c_110
                  rw [if_neg c_110] at hE
                  refine lv_aload_n hx hb dX10_takesClause_275 rfl (lv_at hl 4 rfl) ?_
                  refine lv_bipush (v := 59) hx hb dX10_takesClause_276 (by decide) ?_
                  obtain ⟨hs_111, hF⟩ := hF
                  refine cVi (wr := [((Rf 27), .inl (cI, 6, .inl f27)), ((Rf 28), .inl (cI, 6, .inl f28)), ((Rf 29), .inl (cI, 30, .inl f29)), ((Rf 30), .inl (cI, 7, .inl f30)), ((Rf 31), .inl (cI, 7, .inl f31))]) (rest := []) (m_takes Rf h u_108 f13 59 hs_111) okV_X10_takes wd_538 hx hb hml hown hts hK hP hD hS hA hN hl.1 [5, 6] [0, 1, 2, 3, 4] rfl rfl rfl rfl (by decide) rfl rfl rfl (Nat.le_of_ble_eq_true rfl) (Nat.le_of_ble_eq_true rfl) (Nat.le_of_ble_eq_true rfl) (Nat.le_of_ble_eq_true rfl) (Nat.le_of_ble_eq_true rfl) dX10_takesClause_278 (fun r_113 u_112 H locs hw_u_112 hP hD hS => ?_)
                  replace hw_u_112 : (r_113, u_112) = (f_m_takes u_108 f13 59) := hw_u_112
                  replace hF := hF r_113 u_112 hw_u_112
                  rw [← hw_u_112] at hE
                  replace hE : ((if r_113 = 0 then (0, u_112, f27, f28, f29, f30, f31) else (1, u_112, f27, f28, f29, f30, f31)) : Int32 × (Nat → Int32) × (Nat → Int32) × (Nat → Int32) × (Nat → Int32) × (Nat → Int32) × (Nat → Int32)) = RES := hE
                  have hP : va_P D classes [((Rf 27), .inl (cI, 6, .inl f27)), ((Rf 28), .inl (cI, 6, .inl f28)), ((Rf 29), .inl (cI, 30, .inl f29)), ((Rf 30), .inl (cI, 7, .inl f30)), ((Rf 31), .inl (cI, 7, .inl f31)), (h, .inr (10, ML u_112 Rf)), ((Rf 13), .inl (cI, 240, .inl f13))] H := hP
                  have hD : va_D A [((Rf 27), .inl (cI, 6, .inl f27)), ((Rf 28), .inl (cI, 6, .inl f28)), ((Rf 29), .inl (cI, 30, .inl f29)), ((Rf 30), .inl (cI, 7, .inl f30)), ((Rf 31), .inl (cI, 7, .inl f31)), (h, .inr (10, ML u_112 Rf)), ((Rf 13), .inl (cI, 240, .inl f13))] := hD
                  refine lv_if_eq (tgt := 288) hx hb dX10_takesClause_281 (by decide) (fun c_114 => ?_) (fun c_114 => ?_)
                  · replace hF := hF.1 c_114
                    rw [if_pos c_114] at hE
                    subst c_114
                    refine lv_iconst (v := 0) hx hb dX10_takesClause_288 (by decide) ?_
                    exact hret 0 (u_112, f27, f28, f29, f30, f31) _ _ _ _ dX10_takesClause_289 rfl hE (cutP (isC := [5, 6, 0, 1, 2, 3, 4]) hP rfl) (cutD (isC := [5, 6, 0, 1, 2, 3, 4]) hD rfl rfl) hS
                  · replace hF := hF.2 c_114
                    rw [if_neg c_114] at hE
                    refine lv_iconst (v := 1) hx hb dX10_takesClause_284 (by decide) ?_
                    refine lv_goto (tgt := 289) hx hb dX10_takesClause_285 (by decide) ?_
                    exact hret 1 (u_112, f27, f28, f29, f30, f31) _ _ _ _ dX10_takesClause_289 rfl hE (cutP (isC := [5, 6, 0, 1, 2, 3, 4]) hP rfl) (cutD (isC := [5, 6, 0, 1, 2, 3, 4]) hD rfl rfl) hS
              · replace hF := hF.2 c_106
                rw [if_neg c_106] at hE
                refine lv_aload_n hx hb dX10_takesClause_166 rfl (lv_at hl 3 rfl) ?_
                refine lv_iconst (v := 3) hx hb dX10_takesClause_167 (by decide) ?_
                refine lv_aload_n hx hb dX10_takesClause_168 rfl (lv_at hl 3 rfl) ?_
                refine va_get (D := D) (ci := 10) (v := .int (u_2 16)) (C := RX10) (T := TX10) (N := 45) hx hb hts iX10 hown hK hP 5 rfl rfl 16 (by decide) (hts _ wd_509) (fun _ h9 => h9) rfl dX10_takesClause_169 ?_
                obtain ⟨hs_115, hF⟩ := hF
                refine cVi (wr := [((Rf 27), .inl (cI, 6, .inl f27)), ((Rf 28), .inl (cI, 6, .inl f28)), ((Rf 29), .inl (cI, 30, .inl f29)), ((Rf 30), .inl (cI, 7, .inl f30)), ((Rf 31), .inl (cI, 7, .inl f31)), ((Rf 13), .inl (cI, 240, .inl f13))]) (rest := []) (m_fails Rf h u_2 3 (u_2 16) hs_115) okV_X10_fails wd_520 hx hb hml hown hts hK hP hD hS hA hN hl.1 [5] [0, 1, 2, 3, 4, 6] rfl rfl rfl rfl (by decide) rfl rfl rfl (Nat.le_of_ble_eq_true rfl) (Nat.le_of_ble_eq_true rfl) (Nat.le_of_ble_eq_true rfl) (Nat.le_of_ble_eq_true rfl) (Nat.le_of_ble_eq_true rfl) dX10_takesClause_172 (fun r_117 u_116 H locs hw_u_116 hP hD hS => ?_)
                replace hw_u_116 : (r_117, u_116) = (f_m_fails u_2 3 (u_2 16)) := hw_u_116
                replace hF := hF r_117 u_116 hw_u_116
                rw [← hw_u_116] at hE
                replace hE : ((r_117, u_116, f27, f28, f29, f30, f31) : Int32 × (Nat → Int32) × (Nat → Int32) × (Nat → Int32) × (Nat → Int32) × (Nat → Int32) × (Nat → Int32)) = RES := hE
                have hP : va_P D classes [((Rf 27), .inl (cI, 6, .inl f27)), ((Rf 28), .inl (cI, 6, .inl f28)), ((Rf 29), .inl (cI, 30, .inl f29)), ((Rf 30), .inl (cI, 7, .inl f30)), ((Rf 31), .inl (cI, 7, .inl f31)), ((Rf 13), .inl (cI, 240, .inl f13)), (h, .inr (10, ML u_116 Rf))] H := hP
                have hD : va_D A [((Rf 27), .inl (cI, 6, .inl f27)), ((Rf 28), .inl (cI, 6, .inl f28)), ((Rf 29), .inl (cI, 30, .inl f29)), ((Rf 30), .inl (cI, 7, .inl f30)), ((Rf 31), .inl (cI, 7, .inl f31)), ((Rf 13), .inl (cI, 240, .inl f13)), (h, .inr (10, ML u_116 Rf))] := hD
                exact hret r_117 (u_116, f27, f28, f29, f30, f31) _ _ _ _ dX10_takesClause_175 (narrow_b01 (Or.inl (congrArg Prod.fst hw_u_116))) hE (cutP (isC := [6, 5, 0, 1, 2, 3, 4]) hP rfl) (cutD (isC := [6, 5, 0, 1, 2, 3, 4]) hD rfl rfl) hS
end
