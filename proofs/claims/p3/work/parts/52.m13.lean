theorem dX10_drift_0 : decode cX10_drift 0 = .ok (.iload_n 1, 1) := by decide +kernel
theorem dX10_drift_1 : decode cX10_drift 1 = .ok (.i2l, 1) := by decide +kernel
theorem dX10_drift_2 : decode cX10_drift 2 = .ok (.lconst 1, 1) := by decide +kernel
theorem dX10_drift_3 : decode cX10_drift 3 = .ok (.ldc2_w 245, 3) := by decide +kernel
theorem dX10_drift_6 : decode cX10_drift 6 = .ok (.invokestatic 84, 3) := by decide +kernel
theorem dX10_drift_9 : decode cX10_drift 9 = .ok (.ifCond .ne 6, 3) := by decide +kernel
theorem dX10_drift_15 : decode cX10_drift 15 = .ok (.aload_n 0, 1) := by decide +kernel
theorem dX10_drift_16 : decode cX10_drift 16 = .ok (.getfield 78, 3) := by decide +kernel
theorem dX10_drift_19 : decode cX10_drift 19 = .ok (.ifCond .ne 6, 3) := by decide +kernel
theorem dX10_drift_25 : decode cX10_drift 25 = .ok (.aload_n 0, 1) := by decide +kernel
theorem dX10_drift_26 : decode cX10_drift 26 = .ok (.getfield 7, 3) := by decide +kernel
theorem dX10_drift_29 : decode cX10_drift 29 = .ok (.bipush 19, 2) := by decide +kernel
theorem dX10_drift_31 : decode cX10_drift 31 = .ok (.iaload, 1) := by decide +kernel
theorem wd_604 : Cond.constant RX10 241 (90000) ∈ BG := BG_at 1067 (by decide +kernel) rfl
theorem dX10_drift_32 : decode cX10_drift 32 = .ok (.ldc 241, 2) := by decide +kernel
theorem dX10_drift_34 : decode cX10_drift 34 = .ok (.if_icmp .le 6, 3) := by decide +kernel
theorem dX10_drift_40 : decode cX10_drift 40 = .ok (.aload_n 0, 1) := by decide +kernel
theorem dX10_drift_41 : decode cX10_drift 41 = .ok (.invokevirtual 234, 3) := by decide +kernel
theorem dX10_drift_44 : decode cX10_drift 44 = .ok (.iconst 0, 1) := by decide +kernel
theorem dX10_drift_45 : decode cX10_drift 45 = .ok (.istore_n 2, 1) := by decide +kernel
theorem dX10_drift_88 : decode cX10_drift 88 = .ok (.aload_n 0, 1) := by decide +kernel
theorem dX10_drift_89 : decode cX10_drift 89 = .ok (.getfield 7, 3) := by decide +kernel
theorem dX10_drift_92 : decode cX10_drift 92 = .ok (.bipush 19, 2) := by decide +kernel
theorem dX10_drift_94 : decode cX10_drift 94 = .ok (.iaload, 1) := by decide +kernel
theorem dX10_drift_95 : decode cX10_drift 95 = .ok (.ireturn, 1) := by decide +kernel
theorem dX10_drift_46 : decode cX10_drift 46 = .ok (.iload_n 2, 1) := by decide +kernel
theorem dX10_drift_47 : decode cX10_drift 47 = .ok (.iload_n 1, 1) := by decide +kernel
theorem dX10_drift_48 : decode cX10_drift 48 = .ok (.if_icmp .ge 40, 3) := by decide +kernel
theorem dX10_drift_51 : decode cX10_drift 51 = .ok (.aload_n 0, 1) := by decide +kernel
theorem dX10_drift_52 : decode cX10_drift 52 = .ok (.aload_n 0, 1) := by decide +kernel
theorem dX10_drift_53 : decode cX10_drift 53 = .ok (.getfield 78, 3) := by decide +kernel
theorem dX10_drift_56 : decode cX10_drift 56 = .ok (.invokevirtual 257, 3) := by decide +kernel
theorem wd_605 : Cond.methodLink RX10 257 yX10_draw ∈ BG := BG_at 1093 (by decide +kernel) rfl
theorem wd_606 : Cond.code yX10_draw cX10_draw 2 (some .int) ∈ BG := BG_at 1096 (by decide +kernel) rfl
theorem wd_607 : Cond.instanceMethod yX10_draw ∈ BG := BG_at 1095 (by decide +kernel) rfl
theorem wd_608 : Cond.selects RX10 yX10_draw yX10_draw ∈ BG := BG_in (by decide +kernel) rfl
theorem okV_X10_draw : okV yX10_draw cX10_draw 2 (some .int) 1 := ⟨⟨wd_606, wd_497, by decide +kernel⟩, wd_607, wd_608⟩
theorem dX10_drift_59 : decode cX10_drift 59 = .ok (.istore_n 3, 1) := by decide +kernel
theorem dX10_drift_60 : decode cX10_drift 60 = .ok (.aload_n 0, 1) := by decide +kernel
theorem dX10_drift_61 : decode cX10_drift 61 = .ok (.iload_n 3, 1) := by decide +kernel
theorem dX10_drift_62 : decode cX10_drift 62 = .ok (.aload_n 0, 1) := by decide +kernel
theorem dX10_drift_63 : decode cX10_drift 63 = .ok (.bipush 10, 2) := by decide +kernel
theorem dX10_drift_65 : decode cX10_drift 65 = .ok (.invokevirtual 257, 3) := by decide +kernel
theorem dX10_drift_68 : decode cX10_drift 68 = .ok (.invokevirtual 247, 3) := by decide +kernel
theorem dX10_drift_71 : decode cX10_drift 71 = .ok (.aload_n 0, 1) := by decide +kernel
theorem dX10_drift_72 : decode cX10_drift 72 = .ok (.getfield 7, 3) := by decide +kernel
theorem dX10_drift_75 : decode cX10_drift 75 = .ok (.bipush 19, 2) := by decide +kernel
theorem dX10_drift_77 : decode cX10_drift 77 = .ok (.dup2, 1) := by decide +kernel
theorem dX10_drift_78 : decode cX10_drift 78 = .ok (.iaload, 1) := by decide +kernel
theorem dX10_drift_79 : decode cX10_drift 79 = .ok (.iconst 1, 1) := by decide +kernel
theorem dX10_drift_80 : decode cX10_drift 80 = .ok (.iadd, 1) := by decide +kernel
theorem dX10_drift_81 : decode cX10_drift 81 = .ok (.iastore, 1) := by decide +kernel
theorem dX10_drift_82 : decode cX10_drift 82 = .ok (.iinc 2 1, 3) := by decide +kernel
theorem dX10_drift_85 : decode cX10_drift 85 = .ok (.goto (-39), 3) := by decide +kernel
theorem dX10_drift_37 : decode cX10_drift 37 = .ok (.ldc 97, 2) := by decide +kernel
theorem dX10_drift_39 : decode cX10_drift 39 = .ok (.ireturn, 1) := by decide +kernel
theorem dX10_drift_22 : decode cX10_drift 22 = .ok (.ldc 233, 2) := by decide +kernel
theorem dX10_drift_24 : decode cX10_drift 24 = .ok (.ireturn, 1) := by decide +kernel
theorem dX10_drift_12 : decode cX10_drift 12 = .ok (.ldc 93, 2) := by decide +kernel
theorem dX10_drift_14 : decode cX10_drift 14 = .ok (.ireturn, 1) := by decide +kernel
noncomputable def f_m_drift_46 (n_ : Int32) (n : Nat) : Int32 → (Nat → Int32) → (Nat → Int32) → Int32 × (Nat → Int32) × (Nat → Int32) := Nat.rec (motive := fun _ => Int32 → (Nat → Int32) → (Nat → Int32) → Int32 × (Nat → Int32) × (Nat → Int32)) (fun w_12l2 w_12m0 w_12m1 => (w_12l2, w_12m0, w_12m1)) (fun n ih w_12l2 w_12m0 w_12m1 => (if n_ ≤ w_12l2 then (w_12l2, w_12m0, w_12m1) else (match (f_m_draw w_12m1 (w_12m0 5)) with | (r_16, u_15) => (match (f_m_draw u_15 10) with | (r_19, u_18) => (ih (w_12l2 + 1) w_12m0 (upd (f_m_grieves u_18 r_16 r_19) (19 : Int32).toNatClampNeg (((f_m_grieves u_18 r_16 r_19) (19 : Int32).toNatClampNeg) + 1))))))) n
theorem f_m_drift_46_s (n_ : Int32) (n : Nat) (w_12l2 : Int32) (w_12m0 : (Nat → Int32)) (w_12m1 : (Nat → Int32)) : f_m_drift_46 n_ (n + 1) w_12l2 w_12m0 w_12m1 = (if n_ ≤ w_12l2 then (w_12l2, w_12m0, w_12m1) else (match (f_m_draw w_12m1 (w_12m0 5)) with | (r_16, u_15) => (match (f_m_draw u_15 10) with | (r_19, u_18) => (f_m_drift_46 n_ n (w_12l2 + 1) w_12m0 (upd (f_m_grieves u_18 r_16 r_19) (19 : Int32).toNatClampNeg (((f_m_grieves u_18 r_16 r_19) (19 : Int32).toNatClampNeg) + 1)))))) := rfl
def S_m_drift_46 (n_ : Int32) (K : Int32 → (Nat → Int32) → (Nat → Int32) → Prop) (n : Nat) : Int32 → (Nat → Int32) → (Nat → Int32) → Prop := Nat.rec (motive := fun _ => Int32 → (Nat → Int32) → (Nat → Int32) → Prop) (fun _ _ _ => True) (fun n ih w_12l2 w_12m0 w_12m1 => ((n_ ≤ w_12l2 → (K w_12l2 w_12m0 w_12m1)) ∧ (¬ n_ ≤ w_12l2 → ((S_m_draw w_12m1 (w_12m0 5)) ∧ (∀ (r_16 : Int32) (u_15 : (Nat → Int32)), (r_16, u_15) = (f_m_draw w_12m1 (w_12m0 5)) → ((S_m_draw u_15 10) ∧ (∀ (r_19 : Int32) (u_18 : (Nat → Int32)), (r_19, u_18) = (f_m_draw u_15 10) → ((S_m_grieves u_18 r_16 r_19) ∧ (ih (w_12l2 + 1) w_12m0 (upd (f_m_grieves u_18 r_16 r_19) (19 : Int32).toNatClampNeg (((f_m_grieves u_18 r_16 r_19) (19 : Int32).toNatClampNeg) + 1))))))))))) n
theorem S_m_drift_46_s (n_ : Int32) (K : Int32 → (Nat → Int32) → (Nat → Int32) → Prop) (n : Nat) (w_12l2 : Int32) (w_12m0 : (Nat → Int32)) (w_12m1 : (Nat → Int32)) : S_m_drift_46 n_ K (n + 1) w_12l2 w_12m0 w_12m1 = (((n_ ≤ w_12l2 → (K w_12l2 w_12m0 w_12m1)) ∧ (¬ n_ ≤ w_12l2 → ((S_m_draw w_12m1 (w_12m0 5)) ∧ (∀ (r_16 : Int32) (u_15 : (Nat → Int32)), (r_16, u_15) = (f_m_draw w_12m1 (w_12m0 5)) → ((S_m_draw u_15 10) ∧ (∀ (r_19 : Int32) (u_18 : (Nat → Int32)), (r_19, u_18) = (f_m_draw u_15 10) → ((S_m_grieves u_18 r_16 r_19) ∧ (S_m_drift_46 n_ K n (w_12l2 + 1) w_12m0 (upd (f_m_grieves u_18 r_16 r_19) (19 : Int32).toNatClampNeg (((f_m_grieves u_18 r_16 r_19) (19 : Int32).toNatClampNeg) + 1))))))))))) := rfl
noncomputable def f_m_drift (G : Nat → Int32) (f0 : Nat → Int32) (n_ : Int32) : Int32 × (Nat → Int32) × (Nat → Int32) := (if (f_m_in n_.toInt64 1 99) = 0 then ((-1000000002), G, f0) else (if (G 5) = 0 then ((-1000000003), G, f0) else (if (f0 (19 : Int32).toNatClampNeg) ≤ 90000 then (match (f_m_minds G f0) with | (o_10, o_11) => (match ((f_m_drift_46 n_ (((n_ : Int32).toInt - (0 : Int32).toInt).toNat + 1) 0 o_10 o_11) : Int32 × (Nat → Int32) × (Nat → Int32)) with | (w_12l2, w_12m0, w_12m1) => ((w_12m1 (19 : Int32).toNatClampNeg), w_12m0, w_12m1))) else ((-1000000004), G, f0))))
def S_m_drift (G : Nat → Int32) (f0 : Nat → Int32) (n_ : Int32) : Prop := ((S_m_in n_.toInt64 1 99) ∧ (((f_m_in n_.toInt64 1 99) = 0 → True) ∧ (¬ (f_m_in n_.toInt64 1 99) = 0 → (((G 5) = 0 → True) ∧ (¬ (G 5) = 0 → (((f0 (19 : Int32).toNatClampNeg) ≤ 90000 → ((S_m_minds G f0) ∧ (∀ (o_10 : (Nat → Int32)) (o_11 : (Nat → Int32)), (o_10, o_11) = (f_m_minds G f0) → (S_m_drift_46 n_ (fun (w_12l2 : Int32) (w_12m0 : (Nat → Int32)) (w_12m1 : (Nat → Int32)) => True) (((n_ : Int32).toInt - (0 : Int32).toInt).toNat + 1) 0 o_10 o_11)))) ∧ (¬ (f0 (19 : Int32).toNatClampNeg) ≤ 90000 → True)))))))
def rm_m_drift : Room := { frames := 3, cells := 0, slots := 0, locals := 65 }
set_option maxHeartbeats 4000000 in
set_option maxRecDepth 100000 in
theorem m_drift {l : Launch} {D : va_G} {cI cZ : ClassId} {sz : Nat} (Rf : Nat → Nat) (h : Nat) (G : Nat → Int32) (f0 : Nat → Int32) (n_ : Int32) (hF : S_m_drift G f0 n_) : KI l yX10_drift cX10_drift 4 (some .int) rm_m_drift D cI cZ [.ref h, .int n_] sz [(h, .inr (10, ML G Rf)), ((Rf 0), .inl (cI, 1302, .inl f0))] (fun (r : Int32) (u : (Nat → Int32) × (Nat → Int32)) => (r, u) = f_m_drift G f0 n_) (fun (u : (Nat → Int32) × (Nat → Int32)) => [(h, .inr (10, ML u.1 Rf)), ((Rf 0), .inl (cI, 1302, .inl u.2))]) := by
  refine KI.go rfl (Nat.le_of_ble_eq_true rfl) ?_
  intro p e s m args below meth c ls A Q hx hb hml hts hown hin hP hK hD hS hA hN hl hret
  have hl : lv_has ls 4 [(0, .ref h), (1, .int n_)] := hl
  rw [S_m_drift] at hF
  obtain ⟨RES, hE⟩ : ∃ xRES, f_m_drift G f0 n_ = xRES := ⟨_, rfl⟩
  rw [hE] at hret
  rw [f_m_drift] at hE
  refine lv_iload_n hx hb dX10_drift_0 rfl (lv_at hl 1 rfl) ?_
  refine lv_i2l (v := n_.toInt64) hx hb dX10_drift_1 rfl ?_
  refine lv_lconst (v := 1) hx hb dX10_drift_2 (by decide) ?_
  refine lv_ldc2 (v := 99) hx hb hown (hts _ wd_599) dX10_drift_3 ?_
  obtain ⟨hs_1, hF⟩ := hF
  refine cSi (wr := [(h, .inr (10, ML G Rf)), ((Rf 0), .inl (cI, 1302, .inl f0))]) (rest := []) (m_in n_.toInt64 1 99 hs_1) okS_X10_in wd_495 hx hb hml hown hts hK hP hD hS hA hN hl.1 [] [0, 1] rfl rfl rfl rfl (by decide) rfl (Nat.le_of_ble_eq_true rfl) (Nat.le_of_ble_eq_true rfl) (Nat.le_of_ble_eq_true rfl) (Nat.le_of_ble_eq_true rfl) (Nat.le_of_ble_eq_true rfl) dX10_drift_6 (fun r_3 u_2 H locs hw_u_2 hP hD hS => ?_)
  replace hw_u_2 : r_3 = (f_m_in n_.toInt64 1 99) := hw_u_2
  rw [hw_u_2]
  clear hw_u_2
  have hP : va_P D classes [(h, .inr (10, ML G Rf)), ((Rf 0), .inl (cI, 1302, .inl f0))] H := hP
  have hD : va_D A [(h, .inr (10, ML G Rf)), ((Rf 0), .inl (cI, 1302, .inl f0))] := hD
  refine lv_if_ne (tgt := 15) hx hb dX10_drift_9 (by decide) (fun c_4 => ?_) (fun c_4 => ?_)
  · replace hF := hF.2 c_4
    rw [if_neg c_4] at hE
    refine lv_aload_n hx hb dX10_drift_15 rfl (lv_at hl 0 rfl) ?_
    refine va_get (D := D) (ci := 10) (v := .int (G 5)) (C := RX10) (T := TX10) (N := 45) hx hb hts iX10 hown hK hP 0 rfl rfl 5 (by decide) (hts _ wd_499) (fun _ h9 => h9) rfl dX10_drift_16 ?_
    refine lv_if_ne (tgt := 25) hx hb dX10_drift_19 (by decide) (fun c_5 => ?_) (fun c_5 => ?_)
    · replace hF := hF.2 c_5
      rw [if_neg c_5] at hE
      refine lv_aload_n hx hb dX10_drift_25 rfl (lv_at hl 0 rfl) ?_
      refine va_get (D := D) (ci := 10) (v := .ref (Rf 0)) (C := RX10) (T := TX10) (N := 45) hx hb hts iX10 hown hK hP 0 rfl rfl 0 (by decide) (hts _ wd_491) (fun _ h9 => h9) rfl dX10_drift_26 ?_
      refine lv_bipush (v := 19) hx hb dX10_drift_29 (by decide) ?_
      refine va_iald hx hb hK hP 1 0 rfl rfl (show ¬ ((19 : Int32) < 0 ∨ 1302 ≤ (19 : Int32).toNatClampNeg) by decide +kernel) dX10_drift_31 ?_
      refine lv_ldc (v := 90000) hx hb hown (hts _ wd_604) dX10_drift_32 ?_
      refine lv_icmp_le (tgt := 40) hx hb dX10_drift_34 (by decide) (fun c_6 => ?_) (fun c_6 => ?_)
      · replace hF := hF.1 c_6
        rw [if_pos c_6] at hE
        refine lv_aload_n hx hb dX10_drift_40 rfl (lv_at hl 0 rfl) ?_
        obtain ⟨hs_7, hF⟩ := hF
        refine cVv (wr := []) (rest := []) (m_minds Rf h G f0 hs_7) okV_X10_minds wd_595 hx hb hml hown hts hK hP hD hS hA hN hl.1 [0, 1] [] rfl rfl rfl rfl (by decide) rfl rfl rfl (Nat.le_of_ble_eq_true rfl) (Nat.le_of_ble_eq_true rfl) (Nat.le_of_ble_eq_true rfl) (Nat.le_of_ble_eq_true rfl) (Nat.le_of_ble_eq_true rfl) dX10_drift_41 (fun u_8 H locs hw_u_8 hP hD hS => ?_)
        obtain ⟨o_10, o_11⟩ := u_8
        replace hw_u_8 : (o_10, o_11) = (f_m_minds G f0) := hw_u_8
        replace hF := hF o_10 o_11 hw_u_8
        rw [← hw_u_8] at hE
        replace hE : ((match ((f_m_drift_46 n_ (((n_ : Int32).toInt - (0 : Int32).toInt).toNat + 1) 0 o_10 o_11) : Int32 × (Nat → Int32) × (Nat → Int32)) with | (w_12l2, w_12m0, w_12m1) => ((w_12m1 (19 : Int32).toNatClampNeg), w_12m0, w_12m1)) : Int32 × (Nat → Int32) × (Nat → Int32)) = RES := hE
        have hP : va_P D classes [(h, .inr (10, ML o_10 Rf)), ((Rf 0), .inl (cI, 1302, .inl o_11))] H := hP
        have hD : va_D A [(h, .inr (10, ML o_10 Rf)), ((Rf 0), .inl (cI, 1302, .inl o_11))] := hD
        refine lv_iconst (v := 0) hx hb dX10_drift_44 (by decide) ?_
        refine lv_istore_n (lv' := [(2, .int 0), (0, .ref h), (1, .int n_)]) hx hb dX10_drift_45 rfl hl (by decide) rfl (fun ls hl => ?_)
        have ex_46_w_12 : ∀ (w_12l2 : Int32) (w_12m0 : (Nat → Int32)) (w_12m1 : (Nat → Int32)) (H : Heap) (locs : List Loc) (ls : Array Slot), va_P D classes [(h, .inr (10, ML w_12m0 Rf)), ((Rf 0), .inl (cI, 1302, .inl w_12m1))] H → va_D A [(h, .inr (10, ML w_12m0 Rf)), ((Rf 0), .inl (cI, 1302, .inl w_12m1))] → va_S A s.heap H locs → lv_has ls 4 [(2, .int w_12l2), (0, .ref h), (1, .int n_)] → (True) → ((((w_12m1 (19 : Int32).toNatClampNeg), w_12m0, w_12m1)) : Int32 × (Nat → Int32) × (Nat → Int32)) = RES → W p l e rm_m_drift s m args below meth c H locs 0 0 Q (F0 m 88 ls []) := by
          intro w_12l2 w_12m0 w_12m1 H locs ls hP hD hS hl hF hE
          refine lv_aload_n hx hb dX10_drift_88 rfl (lv_at hl 1 rfl) ?_
          refine va_get (D := D) (ci := 10) (v := .ref (Rf 0)) (C := RX10) (T := TX10) (N := 45) hx hb hts iX10 hown hK hP 0 rfl rfl 0 (by decide) (hts _ wd_491) (fun _ h9 => h9) rfl dX10_drift_89 ?_
          refine lv_bipush (v := 19) hx hb dX10_drift_92 (by decide) ?_
          refine va_iald hx hb hK hP 1 0 rfl rfl (show ¬ ((19 : Int32) < 0 ∨ 1302 ≤ (19 : Int32).toNatClampNeg) by decide +kernel) dX10_drift_94 ?_
          exact hret (w_12m1 (19 : Int32).toNatClampNeg) (w_12m0, w_12m1) _ _ _ _ dX10_drift_95 rfl hE hP hD hS
        have lp_46_w_12 : ∀ (n_w_12 : Nat) (w_12l2 : Int32) (w_12m0 : (Nat → Int32)) (w_12m1 : (Nat → Int32)) (H : Heap) (locs : List Loc) (ls : Array Slot), va_P D classes [(h, .inr (10, ML w_12m0 Rf)), ((Rf 0), .inl (cI, 1302, .inl w_12m1))] H → va_D A [(h, .inr (10, ML w_12m0 Rf)), ((Rf 0), .inl (cI, 1302, .inl w_12m1))] → va_S A s.heap H locs → lv_has ls 4 [(2, .int w_12l2), (0, .ref h), (1, .int n_)] → (S_m_drift_46 n_ (fun (w_12l2 : Int32) (w_12m0 : (Nat → Int32)) (w_12m1 : (Nat → Int32)) => True) n_w_12 w_12l2 w_12m0 w_12m1) → ((n_ : Int32).toInt - (w_12l2 : Int32).toInt).toNat < n_w_12 → ((match ((f_m_drift_46 n_ n_w_12 w_12l2 w_12m0 w_12m1) : Int32 × (Nat → Int32) × (Nat → Int32)) with | (w_12l2, w_12m0, w_12m1) => ((w_12m1 (19 : Int32).toNatClampNeg), w_12m0, w_12m1)) : Int32 × (Nat → Int32) × (Nat → Int32)) = RES → W p l e rm_m_drift s m args below meth c H locs 0 0 Q (F0 m 46 ls []) := by
          intro n_w_12
          induction n_w_12 with
          | zero => intro w_12l2 w_12m0 w_12m1 H locs ls hP hD hS hl hF hm; exact absurd hm (Nat.not_lt_zero _)
          | succ n_w_12 ih_w_12 =>
            intro w_12l2 w_12m0 w_12m1 H locs ls hP hD hS hl hF hm hE
            rw [S_m_drift_46_s] at hF
            rw [f_m_drift_46_s] at hE
            refine lv_iload_n hx hb dX10_drift_46 rfl (lv_at hl 0 rfl) ?_
            refine lv_iload_n hx hb dX10_drift_47 rfl (lv_at hl 2 rfl) ?_
            refine lv_icmp_ge (tgt := 88) hx hb dX10_drift_48 (by decide) (fun c_13 => ?_) (fun c_13 => ?_)
            · replace hF := hF.1 c_13
              rw [if_pos c_13] at hE
              exact ex_46_w_12 w_12l2 w_12m0 w_12m1 _ _ ls hP hD hS (lv_sub hl [0, 1, 2] rfl) hF hE
            · replace hF := hF.2 c_13
              rw [if_neg c_13] at hE
              refine lv_aload_n hx hb dX10_drift_51 rfl (lv_at hl 1 rfl) ?_
              refine lv_aload_n hx hb dX10_drift_52 rfl (lv_at hl 1 rfl) ?_
              refine va_get (D := D) (ci := 10) (v := .int (w_12m0 5)) (C := RX10) (T := TX10) (N := 45) hx hb hts iX10 hown hK hP 0 rfl rfl 5 (by decide) (hts _ wd_499) (fun _ h9 => h9) rfl dX10_drift_53 ?_
              obtain ⟨hs_14, hF⟩ := hF
              refine cVi (wr := []) (rest := []) (m_draw Rf h w_12m0 w_12m1 (w_12m0 5) hs_14) okV_X10_draw wd_605 hx hb hml hown hts hK hP hD hS hA hN hl.1 [0, 1] [] rfl rfl rfl rfl (by decide) rfl rfl rfl (Nat.le_of_ble_eq_true rfl) (Nat.le_of_ble_eq_true rfl) (Nat.le_of_ble_eq_true rfl) (Nat.le_of_ble_eq_true rfl) (Nat.le_of_ble_eq_true rfl) dX10_drift_56 (fun r_16 u_15 H locs hw_u_15 hP hD hS => ?_)
              replace hw_u_15 : (r_16, u_15) = (f_m_draw w_12m1 (w_12m0 5)) := hw_u_15
              replace hF := hF r_16 u_15 hw_u_15
              rw [← hw_u_15] at hE
              replace hE : ((match ((match (f_m_draw u_15 10) with | (r_19, u_18) => (f_m_drift_46 n_ n_w_12 (w_12l2 + 1) w_12m0 (upd (f_m_grieves u_18 r_16 r_19) (19 : Int32).toNatClampNeg (((f_m_grieves u_18 r_16 r_19) (19 : Int32).toNatClampNeg) + 1)))) : Int32 × (Nat → Int32) × (Nat → Int32)) with | (w_12l2, w_12m0, w_12m1) => ((w_12m1 (19 : Int32).toNatClampNeg), w_12m0, w_12m1)) : Int32 × (Nat → Int32) × (Nat → Int32)) = RES := hE
              have hP : va_P D classes [(h, .inr (10, ML w_12m0 Rf)), ((Rf 0), .inl (cI, 1302, .inl u_15))] H := hP
              have hD : va_D A [(h, .inr (10, ML w_12m0 Rf)), ((Rf 0), .inl (cI, 1302, .inl u_15))] := hD
              refine lv_istore_n (lv' := [(3, .int r_16), (2, .int w_12l2), (0, .ref h), (1, .int n_)]) hx hb dX10_drift_59 rfl hl (by decide) rfl (fun ls hl => ?_)
              refine lv_aload_n hx hb dX10_drift_60 rfl (lv_at hl 2 rfl) ?_
              refine lv_iload_n hx hb dX10_drift_61 rfl (lv_at hl 0 rfl) ?_
              refine lv_aload_n hx hb dX10_drift_62 rfl (lv_at hl 2 rfl) ?_
              refine lv_bipush (v := 10) hx hb dX10_drift_63 (by decide) ?_
              obtain ⟨hs_17, hF⟩ := hF
              refine cVi (wr := []) (rest := [.int r_16, .ref h]) (m_draw Rf h w_12m0 u_15 10 hs_17) okV_X10_draw wd_605 hx hb hml hown hts hK hP hD hS hA hN hl.1 [0, 1] [] rfl rfl rfl rfl (by decide) rfl rfl rfl (Nat.le_of_ble_eq_true rfl) (Nat.le_of_ble_eq_true rfl) (Nat.le_of_ble_eq_true rfl) (Nat.le_of_ble_eq_true rfl) (Nat.le_of_ble_eq_true rfl) dX10_drift_65 (fun r_19 u_18 H locs hw_u_18 hP hD hS => ?_)
              replace hw_u_18 : (r_19, u_18) = (f_m_draw u_15 10) := hw_u_18
              replace hF := hF r_19 u_18 hw_u_18
              rw [← hw_u_18] at hE
              replace hE : ((match ((f_m_drift_46 n_ n_w_12 (w_12l2 + 1) w_12m0 (upd (f_m_grieves u_18 r_16 r_19) (19 : Int32).toNatClampNeg (((f_m_grieves u_18 r_16 r_19) (19 : Int32).toNatClampNeg) + 1))) : Int32 × (Nat → Int32) × (Nat → Int32)) with | (w_12l2, w_12m0, w_12m1) => ((w_12m1 (19 : Int32).toNatClampNeg), w_12m0, w_12m1)) : Int32 × (Nat → Int32) × (Nat → Int32)) = RES := hE
              have hP : va_P D classes [(h, .inr (10, ML w_12m0 Rf)), ((Rf 0), .inl (cI, 1302, .inl u_18))] H := hP
              have hD : va_D A [(h, .inr (10, ML w_12m0 Rf)), ((Rf 0), .inl (cI, 1302, .inl u_18))] := hD
              obtain ⟨hs_20, hF⟩ := hF
              refine cVv (wr := []) (rest := []) (m_grieves Rf h w_12m0 u_18 r_16 r_19 hs_20) okV_X10_grieves wd_600 hx hb hml hown hts hK hP hD hS hA hN hl.1 [0, 1] [] rfl rfl rfl rfl (by decide) rfl rfl rfl (Nat.le_of_ble_eq_true rfl) (Nat.le_of_ble_eq_true rfl) (Nat.le_of_ble_eq_true rfl) (Nat.le_of_ble_eq_true rfl) (Nat.le_of_ble_eq_true rfl) dX10_drift_68 (fun u_21 H locs hw_u_21 hP hD hS => ?_)
              replace hw_u_21 : u_21 = (f_m_grieves u_18 r_16 r_19) := hw_u_21
              subst hw_u_21
              have hP : va_P D classes [(h, .inr (10, ML w_12m0 Rf)), ((Rf 0), .inl (cI, 1302, .inl (f_m_grieves u_18 r_16 r_19)))] H := hP
              have hD : va_D A [(h, .inr (10, ML w_12m0 Rf)), ((Rf 0), .inl (cI, 1302, .inl (f_m_grieves u_18 r_16 r_19)))] := hD
              refine lv_aload_n hx hb dX10_drift_71 rfl (lv_at hl 2 rfl) ?_
              refine va_get (D := D) (ci := 10) (v := .ref (Rf 0)) (C := RX10) (T := TX10) (N := 45) hx hb hts iX10 hown hK hP 0 rfl rfl 0 (by decide) (hts _ wd_491) (fun _ h9 => h9) rfl dX10_drift_72 ?_
              refine lv_bipush (v := 19) hx hb dX10_drift_75 (by decide) ?_
              refine lv_dup2_11 hx hb dX10_drift_77 rfl rfl ?_
              refine va_iald hx hb hK hP 1 0 rfl rfl (show ¬ ((19 : Int32) < 0 ∨ 1302 ≤ (19 : Int32).toNatClampNeg) by decide +kernel) dX10_drift_78 ?_
              refine lv_iconst (v := 1) hx hb dX10_drift_79 (by decide) ?_
              refine lv_iadd hx hb dX10_drift_80 ?_
              refine va_iast hx hb hK hP hD hS 1 0 rfl rfl (show ¬ ((19 : Int32) < 0 ∨ 1302 ≤ (19 : Int32).toNatClampNeg) by decide +kernel) dX10_drift_81 (fun H locs hP hD hS => ?_)
              have hP : va_P D classes [(h, .inr (10, ML w_12m0 Rf)), ((Rf 0), .inl (cI, 1302, .inl (upd (f_m_grieves u_18 r_16 r_19) (19 : Int32).toNatClampNeg (((f_m_grieves u_18 r_16 r_19) (19 : Int32).toNatClampNeg) + 1))))] H := hP
              have hD : va_D A [(h, .inr (10, ML w_12m0 Rf)), ((Rf 0), .inl (cI, 1302, .inl (upd (f_m_grieves u_18 r_16 r_19) (19 : Int32).toNatClampNeg (((f_m_grieves u_18 r_16 r_19) (19 : Int32).toNatClampNeg) + 1))))] := hD
              refine lv_iinc (v := (w_12l2 + 1)) (lv' := [(2, .int (w_12l2 + 1)), (3, .int r_16), (0, .ref h), (1, .int n_)]) hx hb dX10_drift_82 hl (k := 1) rfl rfl (by decide) rfl (fun ls hl => ?_)
              refine lv_goto (tgt := 46) hx hb dX10_drift_85 (by decide) ?_
              exact ih_w_12 (w_12l2 + 1) w_12m0 (upd (f_m_grieves u_18 r_16 r_19) (19 : Int32).toNatClampNeg (((f_m_grieves u_18 r_16 r_19) (19 : Int32).toNatClampNeg) + 1)) _ _ ls hP hD hS (lv_sub hl [0, 2, 3] rfl) hF (up_step c_13 hm) hE
        exact lp_46_w_12 (((n_ : Int32).toInt - (0 : Int32).toInt).toNat + 1) 0 o_10 o_11 _ _ ls hP hD hS hl hF (Nat.lt_succ_self _) hE
      · replace hF := hF.2 c_6
        rw [if_neg c_6] at hE
        refine lv_ldc (v := (-1000000004)) hx hb hown (hts _ wd_506) dX10_drift_37 ?_
        exact hret (-1000000004) (G, f0) _ _ _ _ dX10_drift_39 rfl hE hP hD hS
    · replace hF := hF.1 c_5
      rw [if_pos c_5] at hE
      refine lv_ldc (v := (-1000000003)) hx hb hown (hts _ wd_562) dX10_drift_22 ?_
      exact hret (-1000000003) (G, f0) _ _ _ _ dX10_drift_24 rfl hE hP hD hS
  · replace hF := hF.1 c_4
    rw [if_pos c_4] at hE
    refine lv_ldc (v := (-1000000002)) hx hb hown (hts _ wd_507) dX10_drift_12 ?_
    exact hret (-1000000002) (G, f0) _ _ _ _ dX10_drift_14 rfl hE hP hD hS
