theorem dX10_minds_0 : decode cX10_minds 0 = .ok (.aload_n 0, 1) := by decide +kernel
theorem wd_556 : Cond.fieldLink RX10 180 "QuarrelBridgesModel" "undoes" "I" ∈ BG := BG_at 785 (by decide +kernel) rfl
theorem dX10_minds_1 : decode cX10_minds 1 = .ok (.getfield 180, 3) := by decide +kernel
theorem dX10_minds_4 : decode cX10_minds 4 = .ok (.bipush 20, 2) := by decide +kernel
theorem dX10_minds_6 : decode cX10_minds 6 = .ok (.if_icmp .ne 51, 3) := by decide +kernel
theorem dX10_minds_57 : decode cX10_minds 57 = .ok (.aload_n 0, 1) := by decide +kernel
theorem dX10_minds_58 : decode cX10_minds 58 = .ok (.iconst 0, 1) := by decide +kernel
theorem dX10_minds_59 : decode cX10_minds 59 = .ok (.sipush 462, 3) := by decide +kernel
theorem dX10_minds_62 : decode cX10_minds 62 = .ok (.bipush 42, 2) := by decide +kernel
theorem dX10_minds_64 : decode cX10_minds 64 = .ok (.aload_n 0, 1) := by decide +kernel
theorem dX10_minds_65 : decode cX10_minds 65 = .ok (.getfield 180, 3) := by decide +kernel
theorem dX10_minds_68 : decode cX10_minds 68 = .ok (.imul, 1) := by decide +kernel
theorem dX10_minds_69 : decode cX10_minds 69 = .ok (.iadd, 1) := by decide +kernel
theorem dX10_minds_70 : decode cX10_minds 70 = .ok (.invokevirtual 229, 3) := by decide +kernel
theorem wd_557 : Cond.methodLink RX10 229 yX10_copy ∈ BG := BG_at 1047 (by decide +kernel) rfl
theorem wd_558 : Cond.code yX10_copy cX10_copy 4 none ∈ BG := BG_at 1050 (by decide +kernel) rfl
theorem wd_559 : Cond.instanceMethod yX10_copy ∈ BG := BG_at 1049 (by decide +kernel) rfl
theorem wd_560 : Cond.selects RX10 yX10_copy yX10_copy ∈ BG := BG_in (by decide +kernel) rfl
theorem okV_X10_copy : okV yX10_copy cX10_copy 4 none 2 := ⟨⟨wd_558, wd_497, by decide +kernel⟩, wd_559, wd_560⟩
theorem dX10_minds_73 : decode cX10_minds 73 = .ok (.aload_n 0, 1) := by decide +kernel
theorem dX10_minds_74 : decode cX10_minds 74 = .ok (.dup, 1) := by decide +kernel
theorem dX10_minds_75 : decode cX10_minds 75 = .ok (.getfield 180, 3) := by decide +kernel
theorem dX10_minds_78 : decode cX10_minds 78 = .ok (.iconst 1, 1) := by decide +kernel
theorem dX10_minds_79 : decode cX10_minds 79 = .ok (.iadd, 1) := by decide +kernel
theorem dX10_minds_80 : decode cX10_minds 80 = .ok (.putfield 180, 3) := by decide +kernel
theorem dX10_minds_83 : decode cX10_minds 83 = .ok (.return_, 1) := by decide +kernel
theorem dX10_minds_9 : decode cX10_minds 9 = .ok (.iconst 0, 1) := by decide +kernel
theorem dX10_minds_10 : decode cX10_minds 10 = .ok (.istore_n 1, 1) := by decide +kernel
theorem dX10_minds_47 : decode cX10_minds 47 = .ok (.aload_n 0, 1) := by decide +kernel
theorem dX10_minds_48 : decode cX10_minds 48 = .ok (.dup, 1) := by decide +kernel
theorem dX10_minds_49 : decode cX10_minds 49 = .ok (.getfield 180, 3) := by decide +kernel
theorem dX10_minds_52 : decode cX10_minds 52 = .ok (.iconst 1, 1) := by decide +kernel
theorem dX10_minds_53 : decode cX10_minds 53 = .ok (.isub, 1) := by decide +kernel
theorem dX10_minds_54 : decode cX10_minds 54 = .ok (.putfield 180, 3) := by decide +kernel
theorem dX10_minds_11 : decode cX10_minds 11 = .ok (.iload_n 1, 1) := by decide +kernel
theorem dX10_minds_12 : decode cX10_minds 12 = .ok (.sipush 798, 3) := by decide +kernel
theorem dX10_minds_15 : decode cX10_minds 15 = .ok (.if_icmp .ge 32, 3) := by decide +kernel
theorem dX10_minds_18 : decode cX10_minds 18 = .ok (.aload_n 0, 1) := by decide +kernel
theorem dX10_minds_19 : decode cX10_minds 19 = .ok (.getfield 7, 3) := by decide +kernel
theorem dX10_minds_22 : decode cX10_minds 22 = .ok (.sipush 462, 3) := by decide +kernel
theorem dX10_minds_25 : decode cX10_minds 25 = .ok (.iload_n 1, 1) := by decide +kernel
theorem dX10_minds_26 : decode cX10_minds 26 = .ok (.iadd, 1) := by decide +kernel
theorem dX10_minds_27 : decode cX10_minds 27 = .ok (.aload_n 0, 1) := by decide +kernel
theorem dX10_minds_28 : decode cX10_minds 28 = .ok (.getfield 7, 3) := by decide +kernel
theorem dX10_minds_31 : decode cX10_minds 31 = .ok (.sipush 462, 3) := by decide +kernel
theorem dX10_minds_34 : decode cX10_minds 34 = .ok (.iload_n 1, 1) := by decide +kernel
theorem dX10_minds_35 : decode cX10_minds 35 = .ok (.iadd, 1) := by decide +kernel
theorem dX10_minds_36 : decode cX10_minds 36 = .ok (.bipush 42, 2) := by decide +kernel
theorem dX10_minds_38 : decode cX10_minds 38 = .ok (.iadd, 1) := by decide +kernel
theorem dX10_minds_39 : decode cX10_minds 39 = .ok (.iaload, 1) := by decide +kernel
theorem dX10_minds_40 : decode cX10_minds 40 = .ok (.iastore, 1) := by decide +kernel
theorem dX10_minds_41 : decode cX10_minds 41 = .ok (.iinc 1 1, 3) := by decide +kernel
theorem dX10_minds_44 : decode cX10_minds 44 = .ok (.goto (-33), 3) := by decide +kernel
noncomputable def f_m_minds_11  (n : Nat) : Int32 → (Nat → Int32) → (Nat → Int32) → Int32 × (Nat → Int32) × (Nat → Int32) := Nat.rec (motive := fun _ => Int32 → (Nat → Int32) → (Nat → Int32) → Int32 × (Nat → Int32) × (Nat → Int32)) (fun w_5l1 w_5m0 w_5m1 => (w_5l1, w_5m0, w_5m1)) (fun n ih w_5l1 w_5m0 w_5m1 => (if 798 ≤ w_5l1 then (w_5l1, w_5m0, w_5m1) else (ih (w_5l1 + 1) w_5m0 (upd w_5m1 ((462 + w_5l1) : Int32).toNatClampNeg (w_5m1 (((462 + w_5l1) + 42) : Int32).toNatClampNeg))))) n
theorem f_m_minds_11_s  (n : Nat) (w_5l1 : Int32) (w_5m0 : (Nat → Int32)) (w_5m1 : (Nat → Int32)) : f_m_minds_11  (n + 1) w_5l1 w_5m0 w_5m1 = (if 798 ≤ w_5l1 then (w_5l1, w_5m0, w_5m1) else (f_m_minds_11  n (w_5l1 + 1) w_5m0 (upd w_5m1 ((462 + w_5l1) : Int32).toNatClampNeg (w_5m1 (((462 + w_5l1) + 42) : Int32).toNatClampNeg)))) := rfl
def S_m_minds_11  (K : Int32 → (Nat → Int32) → (Nat → Int32) → Prop) (n : Nat) : Int32 → (Nat → Int32) → (Nat → Int32) → Prop := Nat.rec (motive := fun _ => Int32 → (Nat → Int32) → (Nat → Int32) → Prop) (fun _ _ _ => True) (fun n ih w_5l1 w_5m0 w_5m1 => ((798 ≤ w_5l1 → (K w_5l1 w_5m0 w_5m1)) ∧ (¬ 798 ≤ w_5l1 → (vp_in ((462 + w_5l1) + 42) 1302 ∧ (vp_in (462 + w_5l1) 1302 ∧ (ih (w_5l1 + 1) w_5m0 (upd w_5m1 ((462 + w_5l1) : Int32).toNatClampNeg (w_5m1 (((462 + w_5l1) + 42) : Int32).toNatClampNeg)))))))) n
theorem S_m_minds_11_s  (K : Int32 → (Nat → Int32) → (Nat → Int32) → Prop) (n : Nat) (w_5l1 : Int32) (w_5m0 : (Nat → Int32)) (w_5m1 : (Nat → Int32)) : S_m_minds_11  K (n + 1) w_5l1 w_5m0 w_5m1 = (((798 ≤ w_5l1 → (K w_5l1 w_5m0 w_5m1)) ∧ (¬ 798 ≤ w_5l1 → (vp_in ((462 + w_5l1) + 42) 1302 ∧ (vp_in (462 + w_5l1) 1302 ∧ (S_m_minds_11  K n (w_5l1 + 1) w_5m0 (upd w_5m1 ((462 + w_5l1) : Int32).toNatClampNeg (w_5m1 (((462 + w_5l1) + 42) : Int32).toNatClampNeg)))))))) := rfl
noncomputable def f_m_minds (G : Nat → Int32) (f0 : Nat → Int32) : (Nat → Int32) × (Nat → Int32) := (if (G 2) = 20 then (match ((f_m_minds_11  (((798 : Int32).toInt - (0 : Int32).toInt).toNat + 1) 0 G f0) : Int32 × (Nat → Int32) × (Nat → Int32)) with | (w_5l1, w_5m0, w_5m1) => ((upd (upd w_5m0 2 ((w_5m0 2) - 1)) 2 (((upd w_5m0 2 ((w_5m0 2) - 1)) 2) + 1)), (f_m_copy w_5m1 0 (462 + (42 * ((w_5m0 2) - 1)))))) else ((upd G 2 ((G 2) + 1)), (f_m_copy f0 0 (462 + (42 * (G 2))))))
def S_m_minds (G : Nat → Int32) (f0 : Nat → Int32) : Prop := (((G 2) = 20 → (S_m_minds_11  (fun (w_5l1 : Int32) (w_5m0 : (Nat → Int32)) (w_5m1 : (Nat → Int32)) => ((S_m_copy w_5m1 0 (462 + (42 * ((w_5m0 2) - 1)))) ∧ True)) (((798 : Int32).toInt - (0 : Int32).toInt).toNat + 1) 0 G f0)) ∧ (¬ (G 2) = 20 → ((S_m_copy f0 0 (462 + (42 * (G 2)))) ∧ True)))
def rm_m_minds : Room := { frames := 1, cells := 0, slots := 0, locals := 23 }
set_option maxHeartbeats 4000000 in
set_option maxRecDepth 100000 in
theorem m_minds {l : Launch} {D : va_G} {cI cZ : ClassId} {sz : Nat} (Rf : Nat → Nat) (h : Nat) (G : Nat → Int32) (f0 : Nat → Int32) (hF : S_m_minds G f0) : KV l yX10_minds cX10_minds 2 rm_m_minds D cI cZ [.ref h] sz [(h, .inr (10, ML G Rf)), ((Rf 0), .inl (cI, 1302, .inl f0))] (fun (u : (Nat → Int32) × (Nat → Int32)) => u = f_m_minds G f0) (fun (u : (Nat → Int32) × (Nat → Int32)) => [(h, .inr (10, ML u.1 Rf)), ((Rf 0), .inl (cI, 1302, .inl u.2))]) := by
  refine KV.go rfl (Nat.le_of_ble_eq_true rfl) ?_
  intro p e s m args below meth c ls A Q hx hb hml hts hown hin hP hK hD hS hA hN hl hret
  have hl : lv_has ls 2 [(0, .ref h)] := hl
  rw [S_m_minds] at hF
  obtain ⟨RES, hE⟩ : ∃ xRES, f_m_minds G f0 = xRES := ⟨_, rfl⟩
  rw [hE] at hret
  rw [f_m_minds] at hE
  refine lv_aload_n hx hb dX10_minds_0 rfl (lv_at hl 0 rfl) ?_
  refine va_get (D := D) (ci := 10) (v := .int (G 2)) (C := RX10) (T := TX10) (N := 45) hx hb hts iX10 hown hK hP 0 rfl rfl 2 (by decide) (hts _ wd_556) (fun _ h9 => h9) rfl dX10_minds_1 ?_
  refine lv_bipush (v := 20) hx hb dX10_minds_4 (by decide) ?_
  refine lv_icmp_ne (tgt := 57) hx hb dX10_minds_6 (by decide) (fun c_1 => ?_) (fun c_1 => ?_)
  · replace hF := hF.2 c_1
    rw [if_neg c_1] at hE
    refine lv_aload_n hx hb dX10_minds_57 rfl (lv_at hl 0 rfl) ?_
    refine lv_iconst (v := 0) hx hb dX10_minds_58 (by decide) ?_
    refine lv_sipush (v := 462) hx hb dX10_minds_59 (by decide) ?_
    refine lv_bipush (v := 42) hx hb dX10_minds_62 (by decide) ?_
    refine lv_aload_n hx hb dX10_minds_64 rfl (lv_at hl 0 rfl) ?_
    refine va_get (D := D) (ci := 10) (v := .int (G 2)) (C := RX10) (T := TX10) (N := 45) hx hb hts iX10 hown hK hP 0 rfl rfl 2 (by decide) (hts _ wd_556) (fun _ h9 => h9) rfl dX10_minds_65 ?_
    refine lv_imul hx hb dX10_minds_68 ?_
    refine lv_iadd hx hb dX10_minds_69 ?_
    obtain ⟨hs_2, hF⟩ := hF
    refine cVv (wr := []) (rest := []) (m_copy Rf h G f0 0 (462 + (42 * (G 2))) hs_2) okV_X10_copy wd_557 hx hb hml hown hts hK hP hD hS hA hN hl.1 [0, 1] [] rfl rfl rfl rfl (by decide) rfl rfl rfl (Nat.le_of_ble_eq_true rfl) (Nat.le_of_ble_eq_true rfl) (Nat.le_of_ble_eq_true rfl) (Nat.le_of_ble_eq_true rfl) (Nat.le_of_ble_eq_true rfl) dX10_minds_70 (fun u_3 H locs hw_u_3 hP hD hS => ?_)
    replace hw_u_3 : u_3 = (f_m_copy f0 0 (462 + (42 * (G 2)))) := hw_u_3
    subst hw_u_3
    have hP : va_P D classes [(h, .inr (10, ML G Rf)), ((Rf 0), .inl (cI, 1302, .inl (f_m_copy f0 0 (462 + (42 * (G 2))))))] H := hP
    have hD : va_D A [(h, .inr (10, ML G Rf)), ((Rf 0), .inl (cI, 1302, .inl (f_m_copy f0 0 (462 + (42 * (G 2))))))] := hD
    refine lv_aload_n hx hb dX10_minds_73 rfl (lv_at hl 0 rfl) ?_
    refine lv_dup hx hb dX10_minds_74 rfl ?_
    refine va_get (D := D) (ci := 10) (v := .int (G 2)) (C := RX10) (T := TX10) (N := 45) hx hb hts iX10 hown hK hP 0 rfl rfl 2 (by decide) (hts _ wd_556) (fun _ h9 => h9) rfl dX10_minds_75 ?_
    refine lv_iconst (v := 1) hx hb dX10_minds_78 (by decide) ?_
    refine lv_iadd hx hb dX10_minds_79 ?_
    refine va_put (D := D) (ci := 10) (v := .int ((G 2) + 1)) (ty := .int) (C := RX10) (T := TX10) (N := 45) hx hb hts iX10 tyX10 tyX10_ok nmX10 hown hK hP hD hS 0 rfl rfl 2 (by decide) (hts _ wd_556) (fun _ h9 => h9) rfl (by decide +kernel) rfl rfl (Nat.le_of_ble_eq_true rfl) dX10_minds_80 (fun H locs hP hD hS => ?_)
    have hP : va_P D classes [(h, .inr (10, ML (upd G 2 ((G 2) + 1)) Rf)), ((Rf 0), .inl (cI, 1302, .inl (f_m_copy f0 0 (462 + (42 * (G 2))))))] H := hP
    have hD : va_D A [(h, .inr (10, ML (upd G 2 ((G 2) + 1)) Rf)), ((Rf 0), .inl (cI, 1302, .inl (f_m_copy f0 0 (462 + (42 * (G 2))))))] := hD
    exact hret ((upd G 2 ((G 2) + 1)), (f_m_copy f0 0 (462 + (42 * (G 2))))) _ _ _ _ dX10_minds_83 hE hP hD hS
  · replace hF := hF.1 c_1
    rw [if_pos c_1] at hE
    refine lv_iconst (v := 0) hx hb dX10_minds_9 (by decide) ?_
    refine lv_istore_n (lv' := [(1, .int 0), (0, .ref h)]) hx hb dX10_minds_10 rfl hl (by decide) rfl (fun ls hl => ?_)
    have ex_11_w_5 : ∀ (w_5l1 : Int32) (w_5m0 : (Nat → Int32)) (w_5m1 : (Nat → Int32)) (H : Heap) (locs : List Loc) (ls : Array Slot), va_P D classes [(h, .inr (10, ML w_5m0 Rf)), ((Rf 0), .inl (cI, 1302, .inl w_5m1))] H → va_D A [(h, .inr (10, ML w_5m0 Rf)), ((Rf 0), .inl (cI, 1302, .inl w_5m1))] → va_S A s.heap H locs → lv_has ls 2 [(1, .int w_5l1), (0, .ref h)] → (((S_m_copy w_5m1 0 (462 + (42 * ((w_5m0 2) - 1)))) ∧ True)) → ((((upd (upd w_5m0 2 ((w_5m0 2) - 1)) 2 (((upd w_5m0 2 ((w_5m0 2) - 1)) 2) + 1)), (f_m_copy w_5m1 0 (462 + (42 * ((w_5m0 2) - 1)))))) : (Nat → Int32) × (Nat → Int32)) = RES → W p l e rm_m_minds s m args below meth c H locs 0 0 Q (F0 m 47 ls []) := by
      intro w_5l1 w_5m0 w_5m1 H locs ls hP hD hS hl hF hE
      refine lv_aload_n hx hb dX10_minds_47 rfl (lv_at hl 1 rfl) ?_
      refine lv_dup hx hb dX10_minds_48 rfl ?_
      refine va_get (D := D) (ci := 10) (v := .int (w_5m0 2)) (C := RX10) (T := TX10) (N := 45) hx hb hts iX10 hown hK hP 0 rfl rfl 2 (by decide) (hts _ wd_556) (fun _ h9 => h9) rfl dX10_minds_49 ?_
      refine lv_iconst (v := 1) hx hb dX10_minds_52 (by decide) ?_
      refine lv_isub hx hb dX10_minds_53 ?_
      refine va_put (D := D) (ci := 10) (v := .int ((w_5m0 2) - 1)) (ty := .int) (C := RX10) (T := TX10) (N := 45) hx hb hts iX10 tyX10 tyX10_ok nmX10 hown hK hP hD hS 0 rfl rfl 2 (by decide) (hts _ wd_556) (fun _ h9 => h9) rfl (by decide +kernel) rfl rfl (Nat.le_of_ble_eq_true rfl) dX10_minds_54 (fun H locs hP hD hS => ?_)
      have hP : va_P D classes [(h, .inr (10, ML (upd w_5m0 2 ((w_5m0 2) - 1)) Rf)), ((Rf 0), .inl (cI, 1302, .inl w_5m1))] H := hP
      have hD : va_D A [(h, .inr (10, ML (upd w_5m0 2 ((w_5m0 2) - 1)) Rf)), ((Rf 0), .inl (cI, 1302, .inl w_5m1))] := hD
      refine lv_aload_n hx hb dX10_minds_57 rfl (lv_at hl 1 rfl) ?_
      refine lv_iconst (v := 0) hx hb dX10_minds_58 (by decide) ?_
      refine lv_sipush (v := 462) hx hb dX10_minds_59 (by decide) ?_
      refine lv_bipush (v := 42) hx hb dX10_minds_62 (by decide) ?_
      refine lv_aload_n hx hb dX10_minds_64 rfl (lv_at hl 1 rfl) ?_
      refine va_get (D := D) (ci := 10) (v := .int ((w_5m0 2) - 1)) (C := RX10) (T := TX10) (N := 45) hx hb hts iX10 hown hK hP 0 rfl rfl 2 (by decide) (hts _ wd_556) (fun _ h9 => h9) rfl dX10_minds_65 ?_
      refine lv_imul hx hb dX10_minds_68 ?_
      refine lv_iadd hx hb dX10_minds_69 ?_
      obtain ⟨hs_6, hF⟩ := hF
      refine cVv (wr := []) (rest := []) (m_copy Rf h (upd w_5m0 2 ((w_5m0 2) - 1)) w_5m1 0 (462 + (42 * ((w_5m0 2) - 1))) hs_6) okV_X10_copy wd_557 hx hb hml hown hts hK hP hD hS hA hN hl.1 [0, 1] [] rfl rfl rfl rfl (by decide) rfl rfl rfl (Nat.le_of_ble_eq_true rfl) (Nat.le_of_ble_eq_true rfl) (Nat.le_of_ble_eq_true rfl) (Nat.le_of_ble_eq_true rfl) (Nat.le_of_ble_eq_true rfl) dX10_minds_70 (fun u_7 H locs hw_u_7 hP hD hS => ?_)
      replace hw_u_7 : u_7 = (f_m_copy w_5m1 0 (462 + (42 * ((w_5m0 2) - 1)))) := hw_u_7
      subst hw_u_7
      have hP : va_P D classes [(h, .inr (10, ML (upd w_5m0 2 ((w_5m0 2) - 1)) Rf)), ((Rf 0), .inl (cI, 1302, .inl (f_m_copy w_5m1 0 (462 + (42 * ((w_5m0 2) - 1))))))] H := hP
      have hD : va_D A [(h, .inr (10, ML (upd w_5m0 2 ((w_5m0 2) - 1)) Rf)), ((Rf 0), .inl (cI, 1302, .inl (f_m_copy w_5m1 0 (462 + (42 * ((w_5m0 2) - 1))))))] := hD
      refine lv_aload_n hx hb dX10_minds_73 rfl (lv_at hl 1 rfl) ?_
      refine lv_dup hx hb dX10_minds_74 rfl ?_
      refine va_get (D := D) (ci := 10) (v := .int ((upd w_5m0 2 ((w_5m0 2) - 1)) 2)) (C := RX10) (T := TX10) (N := 45) hx hb hts iX10 hown hK hP 0 rfl rfl 2 (by decide) (hts _ wd_556) (fun _ h9 => h9) rfl dX10_minds_75 ?_
      refine lv_iconst (v := 1) hx hb dX10_minds_78 (by decide) ?_
      refine lv_iadd hx hb dX10_minds_79 ?_
      refine va_put (D := D) (ci := 10) (v := .int (((upd w_5m0 2 ((w_5m0 2) - 1)) 2) + 1)) (ty := .int) (C := RX10) (T := TX10) (N := 45) hx hb hts iX10 tyX10 tyX10_ok nmX10 hown hK hP hD hS 0 rfl rfl 2 (by decide) (hts _ wd_556) (fun _ h9 => h9) rfl (by decide +kernel) rfl rfl (Nat.le_of_ble_eq_true rfl) dX10_minds_80 (fun H locs hP hD hS => ?_)
      have hP : va_P D classes [(h, .inr (10, ML (upd (upd w_5m0 2 ((w_5m0 2) - 1)) 2 (((upd w_5m0 2 ((w_5m0 2) - 1)) 2) + 1)) Rf)), ((Rf 0), .inl (cI, 1302, .inl (f_m_copy w_5m1 0 (462 + (42 * ((w_5m0 2) - 1))))))] H := hP
      have hD : va_D A [(h, .inr (10, ML (upd (upd w_5m0 2 ((w_5m0 2) - 1)) 2 (((upd w_5m0 2 ((w_5m0 2) - 1)) 2) + 1)) Rf)), ((Rf 0), .inl (cI, 1302, .inl (f_m_copy w_5m1 0 (462 + (42 * ((w_5m0 2) - 1))))))] := hD
      exact hret ((upd (upd w_5m0 2 ((w_5m0 2) - 1)) 2 (((upd w_5m0 2 ((w_5m0 2) - 1)) 2) + 1)), (f_m_copy w_5m1 0 (462 + (42 * ((w_5m0 2) - 1))))) _ _ _ _ dX10_minds_83 hE hP hD hS
    have lp_11_w_5 : ∀ (n_w_5 : Nat) (w_5l1 : Int32) (w_5m0 : (Nat → Int32)) (w_5m1 : (Nat → Int32)) (H : Heap) (locs : List Loc) (ls : Array Slot), va_P D classes [(h, .inr (10, ML w_5m0 Rf)), ((Rf 0), .inl (cI, 1302, .inl w_5m1))] H → va_D A [(h, .inr (10, ML w_5m0 Rf)), ((Rf 0), .inl (cI, 1302, .inl w_5m1))] → va_S A s.heap H locs → lv_has ls 2 [(1, .int w_5l1), (0, .ref h)] → (S_m_minds_11  (fun (w_5l1 : Int32) (w_5m0 : (Nat → Int32)) (w_5m1 : (Nat → Int32)) => ((S_m_copy w_5m1 0 (462 + (42 * ((w_5m0 2) - 1)))) ∧ True)) n_w_5 w_5l1 w_5m0 w_5m1) → ((798 : Int32).toInt - (w_5l1 : Int32).toInt).toNat < n_w_5 → ((match ((f_m_minds_11  n_w_5 w_5l1 w_5m0 w_5m1) : Int32 × (Nat → Int32) × (Nat → Int32)) with | (w_5l1, w_5m0, w_5m1) => ((upd (upd w_5m0 2 ((w_5m0 2) - 1)) 2 (((upd w_5m0 2 ((w_5m0 2) - 1)) 2) + 1)), (f_m_copy w_5m1 0 (462 + (42 * ((w_5m0 2) - 1)))))) : (Nat → Int32) × (Nat → Int32)) = RES → W p l e rm_m_minds s m args below meth c H locs 0 0 Q (F0 m 11 ls []) := by
      intro n_w_5
      induction n_w_5 with
      | zero => intro w_5l1 w_5m0 w_5m1 H locs ls hP hD hS hl hF hm; exact absurd hm (Nat.not_lt_zero _)
      | succ n_w_5 ih_w_5 =>
        intro w_5l1 w_5m0 w_5m1 H locs ls hP hD hS hl hF hm hE
        rw [S_m_minds_11_s] at hF
        rw [f_m_minds_11_s] at hE
        refine lv_iload_n hx hb dX10_minds_11 rfl (lv_at hl 0 rfl) ?_
        refine lv_sipush (v := 798) hx hb dX10_minds_12 (by decide) ?_
        refine lv_icmp_ge (tgt := 47) hx hb dX10_minds_15 (by decide) (fun c_9 => ?_) (fun c_9 => ?_)
        · replace hF := hF.1 c_9
          rw [if_pos c_9] at hE
          exact ex_11_w_5 w_5l1 w_5m0 w_5m1 _ _ ls hP hD hS (lv_sub hl [0, 1] rfl) hF hE
        · replace hF := hF.2 c_9
          rw [if_neg c_9] at hE
          refine lv_aload_n hx hb dX10_minds_18 rfl (lv_at hl 1 rfl) ?_
          refine va_get (D := D) (ci := 10) (v := .ref (Rf 0)) (C := RX10) (T := TX10) (N := 45) hx hb hts iX10 hown hK hP 0 rfl rfl 0 (by decide) (hts _ wd_491) (fun _ h9 => h9) rfl dX10_minds_19 ?_
          refine lv_sipush (v := 462) hx hb dX10_minds_22 (by decide) ?_
          refine lv_iload_n hx hb dX10_minds_25 rfl (lv_at hl 0 rfl) ?_
          refine lv_iadd hx hb dX10_minds_26 ?_
          refine lv_aload_n hx hb dX10_minds_27 rfl (lv_at hl 1 rfl) ?_
          refine va_get (D := D) (ci := 10) (v := .ref (Rf 0)) (C := RX10) (T := TX10) (N := 45) hx hb hts iX10 hown hK hP 0 rfl rfl 0 (by decide) (hts _ wd_491) (fun _ h9 => h9) rfl dX10_minds_28 ?_
          refine lv_sipush (v := 462) hx hb dX10_minds_31 (by decide) ?_
          refine lv_iload_n hx hb dX10_minds_34 rfl (lv_at hl 0 rfl) ?_
          refine lv_iadd hx hb dX10_minds_35 ?_
          refine lv_bipush (v := 42) hx hb dX10_minds_36 (by decide) ?_
          refine lv_iadd hx hb dX10_minds_38 ?_
          obtain ⟨hv_10, hF⟩ := hF
          refine va_iald hx hb hK hP 1 0 rfl rfl hv_10 dX10_minds_39 ?_
          obtain ⟨hv_11, hF⟩ := hF
          refine va_iast hx hb hK hP hD hS 1 0 rfl rfl hv_11 dX10_minds_40 (fun H locs hP hD hS => ?_)
          have hP : va_P D classes [(h, .inr (10, ML w_5m0 Rf)), ((Rf 0), .inl (cI, 1302, .inl (upd w_5m1 ((462 + w_5l1) : Int32).toNatClampNeg (w_5m1 (((462 + w_5l1) + 42) : Int32).toNatClampNeg))))] H := hP
          have hD : va_D A [(h, .inr (10, ML w_5m0 Rf)), ((Rf 0), .inl (cI, 1302, .inl (upd w_5m1 ((462 + w_5l1) : Int32).toNatClampNeg (w_5m1 (((462 + w_5l1) + 42) : Int32).toNatClampNeg))))] := hD
          refine lv_iinc (v := (w_5l1 + 1)) (lv' := [(1, .int (w_5l1 + 1)), (0, .ref h)]) hx hb dX10_minds_41 hl (k := 0) rfl rfl (by decide) rfl (fun ls hl => ?_)
          refine lv_goto (tgt := 11) hx hb dX10_minds_44 (by decide) ?_
          exact ih_w_5 (w_5l1 + 1) w_5m0 (upd w_5m1 ((462 + w_5l1) : Int32).toNatClampNeg (w_5m1 (((462 + w_5l1) + 42) : Int32).toNatClampNeg)) _ _ ls hP hD hS (lv_sub hl [0, 1] rfl) hF (up_step c_9 hm) hE
    exact lp_11_w_5 (((798 : Int32).toInt - (0 : Int32).toInt).toNat + 1) 0 G f0 _ _ ls hP hD hS hl hF (Nat.lt_succ_self _) hE
