theorem dX10_takesBridges_0 : decode cX10_takesBridges 0 = .ok (.iconst 1, 1) := by decide +kernel
theorem dX10_takesBridges_1 : decode cX10_takesBridges 1 = .ok (.istore_n 1, 1) := by decide +kernel
theorem dX10_takesBridges_96 : decode cX10_takesBridges 96 = .ok (.iconst 1, 1) := by decide +kernel
theorem dX10_takesBridges_97 : decode cX10_takesBridges 97 = .ok (.ireturn, 1) := by decide +kernel
theorem dX10_takesBridges_2 : decode cX10_takesBridges 2 = .ok (.iload_n 1, 1) := by decide +kernel
theorem dX10_takesBridges_3 : decode cX10_takesBridges 3 = .ok (.ifCond .eq 93, 3) := by decide +kernel
theorem dX10_takesBridges_6 : decode cX10_takesBridges 6 = .ok (.aload_n 0, 1) := by decide +kernel
theorem wd_527 : Cond.fieldLink RX10 126 "QuarrelBridgesModel" "readBridges" "I" ∈ BG := BG_at 803 (by decide +kernel) rfl
theorem dX10_takesBridges_7 : decode cX10_takesBridges 7 = .ok (.getfield 126, 3) := by decide +kernel
theorem dX10_takesBridges_10 : decode cX10_takesBridges 10 = .ok (.bipush 6, 2) := by decide +kernel
theorem dX10_takesBridges_12 : decode cX10_takesBridges 12 = .ok (.if_icmp .ne 13, 3) := by decide +kernel
theorem dX10_takesBridges_25 : decode cX10_takesBridges 25 = .ok (.aload_n 0, 1) := by decide +kernel
theorem dX10_takesBridges_26 : decode cX10_takesBridges 26 = .ok (.iconst 1, 1) := by decide +kernel
theorem dX10_takesBridges_27 : decode cX10_takesBridges 27 = .ok (.bipush 60, 2) := by decide +kernel
theorem dX10_takesBridges_29 : decode cX10_takesBridges 29 = .ok (.invokevirtual 129, 3) := by decide +kernel
theorem wd_528 : Cond.methodLink RX10 129 yX10_takesNumber ∈ BG := BG_at 954 (by decide +kernel) rfl
theorem wd_529 : Cond.code yX10_takesNumber cX10_takesNumber 3 (some .boolean) ∈ BG := BG_at 957 (by decide +kernel) rfl
theorem wd_530 : Cond.instanceMethod yX10_takesNumber ∈ BG := BG_at 956 (by decide +kernel) rfl
theorem wd_531 : Cond.selects RX10 yX10_takesNumber yX10_takesNumber ∈ BG := BG_in (by decide +kernel) rfl
theorem okV_X10_takesNumber : okV yX10_takesNumber cX10_takesNumber 3 (some .boolean) 2 := ⟨⟨wd_529, wd_497, by decide +kernel⟩, wd_530, wd_531⟩
theorem dX10_takesBridges_32 : decode cX10_takesBridges 32 = .ok (.ifCond .ne 5, 3) := by decide +kernel
theorem dX10_takesBridges_37 : decode cX10_takesBridges 37 = .ok (.aload_n 0, 1) := by decide +kernel
theorem wd_532 : Cond.fieldLink RX10 42 "QuarrelBridgesModel" "readNeeds" "[I" ∈ BG := BG_at 810 (by decide +kernel) rfl
theorem dX10_takesBridges_38 : decode cX10_takesBridges 38 = .ok (.getfield 42, 3) := by decide +kernel
theorem dX10_takesBridges_41 : decode cX10_takesBridges 41 = .ok (.aload_n 0, 1) := by decide +kernel
theorem dX10_takesBridges_42 : decode cX10_takesBridges 42 = .ok (.getfield 126, 3) := by decide +kernel
theorem dX10_takesBridges_45 : decode cX10_takesBridges 45 = .ok (.aload_n 0, 1) := by decide +kernel
theorem dX10_takesBridges_46 : decode cX10_takesBridges 46 = .ok (.getfield 123, 3) := by decide +kernel
theorem dX10_takesBridges_49 : decode cX10_takesBridges 49 = .ok (.iastore, 1) := by decide +kernel
theorem dX10_takesBridges_50 : decode cX10_takesBridges 50 = .ok (.aload_n 0, 1) := by decide +kernel
theorem dX10_takesBridges_51 : decode cX10_takesBridges 51 = .ok (.dup, 1) := by decide +kernel
theorem dX10_takesBridges_52 : decode cX10_takesBridges 52 = .ok (.getfield 126, 3) := by decide +kernel
theorem dX10_takesBridges_55 : decode cX10_takesBridges 55 = .ok (.iconst 1, 1) := by decide +kernel
theorem dX10_takesBridges_56 : decode cX10_takesBridges 56 = .ok (.iadd, 1) := by decide +kernel
theorem dX10_takesBridges_57 : decode cX10_takesBridges 57 = .ok (.putfield 126, 3) := by decide +kernel
theorem dX10_takesBridges_60 : decode cX10_takesBridges 60 = .ok (.aload_n 0, 1) := by decide +kernel
theorem dX10_takesBridges_61 : decode cX10_takesBridges 61 = .ok (.invokevirtual 111, 3) := by decide +kernel
theorem dX10_takesBridges_64 : decode cX10_takesBridges 64 = .ok (.bipush 44, 2) := by decide +kernel
theorem dX10_takesBridges_66 : decode cX10_takesBridges 66 = .ok (.if_icmp .ne 7, 3) := by decide +kernel
theorem dX10_takesBridges_73 : decode cX10_takesBridges 73 = .ok (.iconst 0, 1) := by decide +kernel
theorem dX10_takesBridges_74 : decode cX10_takesBridges 74 = .ok (.istore_n 1, 1) := by decide +kernel
theorem dX10_takesBridges_75 : decode cX10_takesBridges 75 = .ok (.aload_n 0, 1) := by decide +kernel
theorem dX10_takesBridges_76 : decode cX10_takesBridges 76 = .ok (.dup, 1) := by decide +kernel
theorem dX10_takesBridges_77 : decode cX10_takesBridges 77 = .ok (.getfield 98, 3) := by decide +kernel
theorem dX10_takesBridges_80 : decode cX10_takesBridges 80 = .ok (.iload_n 1, 1) := by decide +kernel
theorem dX10_takesBridges_81 : decode cX10_takesBridges 81 = .ok (.ifCond .eq 7, 3) := by decide +kernel
theorem dX10_takesBridges_88 : decode cX10_takesBridges 88 = .ok (.iconst 0, 1) := by decide +kernel
theorem dX10_takesBridges_89 : decode cX10_takesBridges 89 = .ok (.iadd, 1) := by decide +kernel
theorem dX10_takesBridges_90 : decode cX10_takesBridges 90 = .ok (.putfield 98, 3) := by decide +kernel
theorem dX10_takesBridges_93 : decode cX10_takesBridges 93 = .ok (.goto (-91), 3) := by decide +kernel
theorem dX10_takesBridges_69 : decode cX10_takesBridges 69 = .ok (.iconst 1, 1) := by decide +kernel
theorem dX10_takesBridges_70 : decode cX10_takesBridges 70 = .ok (.goto 4, 3) := by decide +kernel
theorem dX10_takesBridges_84 : decode cX10_takesBridges 84 = .ok (.iconst 1, 1) := by decide +kernel
theorem dX10_takesBridges_85 : decode cX10_takesBridges 85 = .ok (.goto 4, 3) := by decide +kernel
theorem dX10_takesBridges_35 : decode cX10_takesBridges 35 = .ok (.iconst 0, 1) := by decide +kernel
theorem dX10_takesBridges_36 : decode cX10_takesBridges 36 = .ok (.ireturn, 1) := by decide +kernel
theorem dX10_takesBridges_15 : decode cX10_takesBridges 15 = .ok (.aload_n 0, 1) := by decide +kernel
theorem dX10_takesBridges_16 : decode cX10_takesBridges 16 = .ok (.iconst 1, 1) := by decide +kernel
theorem dX10_takesBridges_17 : decode cX10_takesBridges 17 = .ok (.aload_n 0, 1) := by decide +kernel
theorem dX10_takesBridges_18 : decode cX10_takesBridges 18 = .ok (.getfield 105, 3) := by decide +kernel
theorem dX10_takesBridges_21 : decode cX10_takesBridges 21 = .ok (.invokevirtual 115, 3) := by decide +kernel
theorem dX10_takesBridges_24 : decode cX10_takesBridges 24 = .ok (.ireturn, 1) := by decide +kernel
noncomputable def f_m_takesBridges_2 (f13 : Nat → Int32) (n : Nat) : Int32 → (Nat → Int32) → (Nat → Int32) → (Int32 × (Nat → Int32) × (Nat → Int32)) ⊕ (Int32 × (Nat → Int32) × (Nat → Int32)) := Nat.rec (motive := fun _ => Int32 → (Nat → Int32) → (Nat → Int32) → (Int32 × (Nat → Int32) × (Nat → Int32)) ⊕ (Int32 × (Nat → Int32) × (Nat → Int32))) (fun w_1l1 w_1m0 w_1m1 => Sum.inl (w_1l1, w_1m0, w_1m1)) (fun n ih w_1l1 w_1m0 w_1m1 => (if w_1l1 = 0 then (Sum.inl (w_1l1, w_1m0, w_1m1)) else (if (w_1m0 20) = 6 then (match (f_m_fails w_1m0 1 (w_1m0 16)) with | (r_17, u_16) => (Sum.inr (r_17, u_16, w_1m1))) else (match (f_m_takesNumber w_1m0 f13 1 60) with | (r_6, u_5) => (if r_6 = 0 then (Sum.inr (0, u_5, w_1m1)) else (match (f_m_here (upd u_5 20 ((u_5 20) + 1)) f13) with | (r_11, u_10) => (if r_11 = 44 then (ih 1 (upd u_10 15 ((u_10 15) + 1)) (upd w_1m1 ((u_5 20) : Int32).toNatClampNeg (u_5 17))) else (ih 0 (upd u_10 15 ((u_10 15) + 0)) (upd w_1m1 ((u_5 20) : Int32).toNatClampNeg (u_5 17)))))))))) n
theorem f_m_takesBridges_2_s (f13 : Nat → Int32) (n : Nat) (w_1l1 : Int32) (w_1m0 : (Nat → Int32)) (w_1m1 : (Nat → Int32)) : f_m_takesBridges_2 f13 (n + 1) w_1l1 w_1m0 w_1m1 = (if w_1l1 = 0 then (Sum.inl (w_1l1, w_1m0, w_1m1)) else (if (w_1m0 20) = 6 then (match (f_m_fails w_1m0 1 (w_1m0 16)) with | (r_17, u_16) => (Sum.inr (r_17, u_16, w_1m1))) else (match (f_m_takesNumber w_1m0 f13 1 60) with | (r_6, u_5) => (if r_6 = 0 then (Sum.inr (0, u_5, w_1m1)) else (match (f_m_here (upd u_5 20 ((u_5 20) + 1)) f13) with | (r_11, u_10) => (if r_11 = 44 then (f_m_takesBridges_2 f13 n 1 (upd u_10 15 ((u_10 15) + 1)) (upd w_1m1 ((u_5 20) : Int32).toNatClampNeg (u_5 17))) else (f_m_takesBridges_2 f13 n 0 (upd u_10 15 ((u_10 15) + 0)) (upd w_1m1 ((u_5 20) : Int32).toNatClampNeg (u_5 17))))))))) := rfl
def S_m_takesBridges_2 (f13 : Nat → Int32) (K : Int32 → (Nat → Int32) → (Nat → Int32) → Prop) (n : Nat) : Int32 → (Nat → Int32) → (Nat → Int32) → Prop := Nat.rec (motive := fun _ => Int32 → (Nat → Int32) → (Nat → Int32) → Prop) (fun _ _ _ => False) (fun n ih w_1l1 w_1m0 w_1m1 => ((w_1l1 = 0 → (K w_1l1 w_1m0 w_1m1)) ∧ (¬ w_1l1 = 0 → (((w_1m0 20) = 6 → ((S_m_fails w_1m0 1 (w_1m0 16)) ∧ (∀ (r_17 : Int32) (u_16 : (Nat → Int32)), (r_17, u_16) = (f_m_fails w_1m0 1 (w_1m0 16)) → True))) ∧ (¬ (w_1m0 20) = 6 → ((S_m_takesNumber w_1m0 f13 1 60) ∧ (∀ (r_6 : Int32) (u_5 : (Nat → Int32)), (r_6, u_5) = (f_m_takesNumber w_1m0 f13 1 60) → ((r_6 = 0 → True) ∧ (¬ r_6 = 0 → (vp_in (u_5 20) 6 ∧ ((S_m_here (upd u_5 20 ((u_5 20) + 1)) f13) ∧ (∀ (r_11 : Int32) (u_10 : (Nat → Int32)), (r_11, u_10) = (f_m_here (upd u_5 20 ((u_5 20) + 1)) f13) → ((r_11 = 44 → (ih 1 (upd u_10 15 ((u_10 15) + 1)) (upd w_1m1 ((u_5 20) : Int32).toNatClampNeg (u_5 17)))) ∧ (¬ r_11 = 44 → (ih 0 (upd u_10 15 ((u_10 15) + 0)) (upd w_1m1 ((u_5 20) : Int32).toNatClampNeg (u_5 17))))))))))))))))) n
theorem S_m_takesBridges_2_s (f13 : Nat → Int32) (K : Int32 → (Nat → Int32) → (Nat → Int32) → Prop) (n : Nat) (w_1l1 : Int32) (w_1m0 : (Nat → Int32)) (w_1m1 : (Nat → Int32)) : S_m_takesBridges_2 f13 K (n + 1) w_1l1 w_1m0 w_1m1 = (((w_1l1 = 0 → (K w_1l1 w_1m0 w_1m1)) ∧ (¬ w_1l1 = 0 → (((w_1m0 20) = 6 → ((S_m_fails w_1m0 1 (w_1m0 16)) ∧ (∀ (r_17 : Int32) (u_16 : (Nat → Int32)), (r_17, u_16) = (f_m_fails w_1m0 1 (w_1m0 16)) → True))) ∧ (¬ (w_1m0 20) = 6 → ((S_m_takesNumber w_1m0 f13 1 60) ∧ (∀ (r_6 : Int32) (u_5 : (Nat → Int32)), (r_6, u_5) = (f_m_takesNumber w_1m0 f13 1 60) → ((r_6 = 0 → True) ∧ (¬ r_6 = 0 → (vp_in (u_5 20) 6 ∧ ((S_m_here (upd u_5 20 ((u_5 20) + 1)) f13) ∧ (∀ (r_11 : Int32) (u_10 : (Nat → Int32)), (r_11, u_10) = (f_m_here (upd u_5 20 ((u_5 20) + 1)) f13) → ((r_11 = 44 → (S_m_takesBridges_2 f13 K n 1 (upd u_10 15 ((u_10 15) + 1)) (upd w_1m1 ((u_5 20) : Int32).toNatClampNeg (u_5 17)))) ∧ (¬ r_11 = 44 → (S_m_takesBridges_2 f13 K n 0 (upd u_10 15 ((u_10 15) + 0)) (upd w_1m1 ((u_5 20) : Int32).toNatClampNeg (u_5 17))))))))))))))))) := rfl
noncomputable def f_m_takesBridges (G : Nat → Int32) (f13 : Nat → Int32) (f27 : Nat → Int32) : Int32 × (Nat → Int32) × (Nat → Int32) := (match ((f_m_takesBridges_2 f13 10 1 G f27) : (Int32 × (Nat → Int32) × (Nat → Int32)) ⊕ (Int32 × (Nat → Int32) × (Nat → Int32))) with | Sum.inl (w_1l1, w_1m0, w_1m1) => (1, w_1m0, w_1m1) | Sum.inr o => o)
def S_m_takesBridges (G : Nat → Int32) (f13 : Nat → Int32) (f27 : Nat → Int32) : Prop := (S_m_takesBridges_2 f13 (fun (w_1l1 : Int32) (w_1m0 : (Nat → Int32)) (w_1m1 : (Nat → Int32)) => True) 10 1 G f27)
def rm_m_takesBridges : Room := { frames := 3, cells := 0, slots := 0, locals := 63 }
set_option maxHeartbeats 4000000 in
set_option maxRecDepth 100000 in
theorem m_takesBridges {l : Launch} {D : va_G} {cI cZ : ClassId} {sz : Nat} (Rf : Nat → Nat) (h : Nat) (G : Nat → Int32) (f13 : Nat → Int32) (f27 : Nat → Int32) (hF : S_m_takesBridges G f13 f27) : KI l yX10_takesBridges cX10_takesBridges 2 (some .boolean) rm_m_takesBridges D cI cZ [.ref h] sz [(h, .inr (10, ML G Rf)), ((Rf 13), .inl (cI, 240, .inl f13)), ((Rf 27), .inl (cI, 6, .inl f27))] (fun (r : Int32) (u : (Nat → Int32) × (Nat → Int32)) => (r, u) = f_m_takesBridges G f13 f27) (fun (u : (Nat → Int32) × (Nat → Int32)) => [(h, .inr (10, ML u.1 Rf)), ((Rf 13), .inl (cI, 240, .inl f13)), ((Rf 27), .inl (cI, 6, .inl u.2))]) := by
  refine KI.go rfl (Nat.le_of_ble_eq_true rfl) ?_
  intro p e s m args below meth c ls A Q hx hb hml hts hown hin hP hK hD hS hA hN hl hret
  have hl : lv_has ls 2 [(0, .ref h)] := hl
  rw [S_m_takesBridges] at hF
  obtain ⟨RES, hE⟩ : ∃ xRES, f_m_takesBridges G f13 f27 = xRES := ⟨_, rfl⟩
  rw [hE] at hret
  rw [f_m_takesBridges] at hE
  refine lv_iconst (v := 1) hx hb dX10_takesBridges_0 (by decide) ?_
  refine lv_istore_n (lv' := [(1, .int 1), (0, .ref h)]) hx hb dX10_takesBridges_1 rfl hl (by decide) rfl (fun ls hl => ?_)
  have ex_2_w_1 : ∀ (w_1l1 : Int32) (w_1m0 : (Nat → Int32)) (w_1m1 : (Nat → Int32)) (H : Heap) (locs : List Loc) (ls : Array Slot), va_P D classes [(h, .inr (10, ML w_1m0 Rf)), ((Rf 13), .inl (cI, 240, .inl f13)), ((Rf 27), .inl (cI, 6, .inl w_1m1))] H → va_D A [(h, .inr (10, ML w_1m0 Rf)), ((Rf 13), .inl (cI, 240, .inl f13)), ((Rf 27), .inl (cI, 6, .inl w_1m1))] → va_S A s.heap H locs → lv_has ls 2 [(1, .int w_1l1), (0, .ref h)] → (True) → (((1, w_1m0, w_1m1)) : Int32 × (Nat → Int32) × (Nat → Int32)) = RES → W p l e rm_m_takesBridges s m args below meth c H locs 0 0 Q (F0 m 96 ls []) := by
    intro w_1l1 w_1m0 w_1m1 H locs ls hP hD hS hl hF hE
    refine lv_iconst (v := 1) hx hb dX10_takesBridges_96 (by decide) ?_
    exact hret 1 (w_1m0, w_1m1) _ _ _ _ dX10_takesBridges_97 rfl hE hP hD hS
  have lp_2_w_1 : ∀ (n_w_1 : Nat) (w_1l1 : Int32) (w_1m0 : (Nat → Int32)) (w_1m1 : (Nat → Int32)) (H : Heap) (locs : List Loc) (ls : Array Slot), va_P D classes [(h, .inr (10, ML w_1m0 Rf)), ((Rf 13), .inl (cI, 240, .inl f13)), ((Rf 27), .inl (cI, 6, .inl w_1m1))] H → va_D A [(h, .inr (10, ML w_1m0 Rf)), ((Rf 13), .inl (cI, 240, .inl f13)), ((Rf 27), .inl (cI, 6, .inl w_1m1))] → va_S A s.heap H locs → lv_has ls 2 [(1, .int w_1l1), (0, .ref h)] → (S_m_takesBridges_2 f13 (fun (w_1l1 : Int32) (w_1m0 : (Nat → Int32)) (w_1m1 : (Nat → Int32)) => True) n_w_1 w_1l1 w_1m0 w_1m1) → ((match ((f_m_takesBridges_2 f13 n_w_1 w_1l1 w_1m0 w_1m1) : (Int32 × (Nat → Int32) × (Nat → Int32)) ⊕ (Int32 × (Nat → Int32) × (Nat → Int32))) with | Sum.inl (w_1l1, w_1m0, w_1m1) => (1, w_1m0, w_1m1) | Sum.inr o => o) : Int32 × (Nat → Int32) × (Nat → Int32)) = RES → W p l e rm_m_takesBridges s m args below meth c H locs 0 0 Q (F0 m 2 ls []) := by
    intro n_w_1
    induction n_w_1 with
    | zero => intro w_1l1 w_1m0 w_1m1 H locs ls hP hD hS hl hF hE; exact False.elim hF
    | succ n_w_1 ih_w_1 =>
      intro w_1l1 w_1m0 w_1m1 H locs ls hP hD hS hl hF hE
      rw [S_m_takesBridges_2_s] at hF
      rw [f_m_takesBridges_2_s] at hE
      refine lv_iload_n hx hb dX10_takesBridges_2 rfl (lv_at hl 0 rfl) ?_
      refine lv_if_eq (tgt := 96) hx hb dX10_takesBridges_3 (by decide) (fun c_2 => ?_) (fun c_2 => ?_)
      · replace hF := hF.1 c_2
        rw [if_pos c_2] at hE
        exact ex_2_w_1 w_1l1 w_1m0 w_1m1 _ _ ls hP hD hS (lv_sub hl [0, 1] rfl) hF hE
      · replace hF := hF.2 c_2
        rw [if_neg c_2] at hE
        refine lv_aload_n hx hb dX10_takesBridges_6 rfl (lv_at hl 1 rfl) ?_
        refine va_get (D := D) (ci := 10) (v := .int (w_1m0 20)) (C := RX10) (T := TX10) (N := 45) hx hb hts iX10 hown hK hP 0 rfl rfl 20 (by decide) (hts _ wd_527) (fun _ h9 => h9) rfl dX10_takesBridges_7 ?_
        refine lv_bipush (v := 6) hx hb dX10_takesBridges_10 (by decide) ?_
        refine lv_icmp_ne (tgt := 25) hx hb dX10_takesBridges_12 (by decide) (fun c_3 => ?_) (fun c_3 => ?_)
        · replace hF := hF.2 c_3
          rw [if_neg c_3] at hE
          refine lv_aload_n hx hb dX10_takesBridges_25 rfl (lv_at hl 1 rfl) ?_
          refine lv_iconst (v := 1) hx hb dX10_takesBridges_26 (by decide) ?_
          refine lv_bipush (v := 60) hx hb dX10_takesBridges_27 (by decide) ?_
          obtain ⟨hs_4, hF⟩ := hF
          refine cVi (wr := [((Rf 27), .inl (cI, 6, .inl w_1m1))]) (rest := []) (m_takesNumber Rf h w_1m0 f13 1 60 hs_4) okV_X10_takesNumber wd_528 hx hb hml hown hts hK hP hD hS hA hN hl.1 [0, 1] [2] rfl rfl rfl rfl (by decide) rfl rfl rfl (Nat.le_of_ble_eq_true rfl) (Nat.le_of_ble_eq_true rfl) (Nat.le_of_ble_eq_true rfl) (Nat.le_of_ble_eq_true rfl) (Nat.le_of_ble_eq_true rfl) dX10_takesBridges_29 (fun r_6 u_5 H locs hw_u_5 hP hD hS => ?_)
          replace hw_u_5 : (r_6, u_5) = (f_m_takesNumber w_1m0 f13 1 60) := hw_u_5
          replace hF := hF r_6 u_5 hw_u_5
          rw [← hw_u_5] at hE
          replace hE : ((match ((if r_6 = 0 then (Sum.inr (0, u_5, w_1m1)) else (match (f_m_here (upd u_5 20 ((u_5 20) + 1)) f13) with | (r_11, u_10) => (if r_11 = 44 then (f_m_takesBridges_2 f13 n_w_1 1 (upd u_10 15 ((u_10 15) + 1)) (upd w_1m1 ((u_5 20) : Int32).toNatClampNeg (u_5 17))) else (f_m_takesBridges_2 f13 n_w_1 0 (upd u_10 15 ((u_10 15) + 0)) (upd w_1m1 ((u_5 20) : Int32).toNatClampNeg (u_5 17)))))) : (Int32 × (Nat → Int32) × (Nat → Int32)) ⊕ (Int32 × (Nat → Int32) × (Nat → Int32))) with | Sum.inl (w_1l1, w_1m0, w_1m1) => (1, w_1m0, w_1m1) | Sum.inr o => o) : Int32 × (Nat → Int32) × (Nat → Int32)) = RES := hE
          have hP : va_P D classes [((Rf 27), .inl (cI, 6, .inl w_1m1)), (h, .inr (10, ML u_5 Rf)), ((Rf 13), .inl (cI, 240, .inl f13))] H := hP
          have hD : va_D A [((Rf 27), .inl (cI, 6, .inl w_1m1)), (h, .inr (10, ML u_5 Rf)), ((Rf 13), .inl (cI, 240, .inl f13))] := hD
          refine lv_if_ne (tgt := 37) hx hb dX10_takesBridges_32 (by decide) (fun c_7 => ?_) (fun c_7 => ?_)
          · replace hF := hF.2 c_7
            rw [if_neg c_7] at hE
            refine lv_aload_n hx hb dX10_takesBridges_37 rfl (lv_at hl 1 rfl) ?_
            refine va_get (D := D) (ci := 10) (v := .ref (Rf 27)) (C := RX10) (T := TX10) (N := 45) hx hb hts iX10 hown hK hP 1 rfl rfl 27 (by decide) (hts _ wd_532) (fun _ h9 => h9) rfl dX10_takesBridges_38 ?_
            refine lv_aload_n hx hb dX10_takesBridges_41 rfl (lv_at hl 1 rfl) ?_
            refine va_get (D := D) (ci := 10) (v := .int (u_5 20)) (C := RX10) (T := TX10) (N := 45) hx hb hts iX10 hown hK hP 1 rfl rfl 20 (by decide) (hts _ wd_527) (fun _ h9 => h9) rfl dX10_takesBridges_42 ?_
            refine lv_aload_n hx hb dX10_takesBridges_45 rfl (lv_at hl 1 rfl) ?_
            refine va_get (D := D) (ci := 10) (v := .int (u_5 17)) (C := RX10) (T := TX10) (N := 45) hx hb hts iX10 hown hK hP 1 rfl rfl 17 (by decide) (hts _ wd_526) (fun _ h9 => h9) rfl dX10_takesBridges_46 ?_
            obtain ⟨hv_8, hF⟩ := hF
            refine va_iast hx hb hK hP hD hS 0 0 rfl rfl hv_8 dX10_takesBridges_49 (fun H locs hP hD hS => ?_)
            have hP : va_P D classes [((Rf 27), .inl (cI, 6, .inl (upd w_1m1 ((u_5 20) : Int32).toNatClampNeg (u_5 17)))), (h, .inr (10, ML u_5 Rf)), ((Rf 13), .inl (cI, 240, .inl f13))] H := hP
            have hD : va_D A [((Rf 27), .inl (cI, 6, .inl (upd w_1m1 ((u_5 20) : Int32).toNatClampNeg (u_5 17)))), (h, .inr (10, ML u_5 Rf)), ((Rf 13), .inl (cI, 240, .inl f13))] := hD
            refine lv_aload_n hx hb dX10_takesBridges_50 rfl (lv_at hl 1 rfl) ?_
            refine lv_dup hx hb dX10_takesBridges_51 rfl ?_
            refine va_get (D := D) (ci := 10) (v := .int (u_5 20)) (C := RX10) (T := TX10) (N := 45) hx hb hts iX10 hown hK hP 1 rfl rfl 20 (by decide) (hts _ wd_527) (fun _ h9 => h9) rfl dX10_takesBridges_52 ?_
            refine lv_iconst (v := 1) hx hb dX10_takesBridges_55 (by decide) ?_
            refine lv_iadd hx hb dX10_takesBridges_56 ?_
            refine va_put (D := D) (ci := 10) (v := .int ((u_5 20) + 1)) (ty := .int) (C := RX10) (T := TX10) (N := 45) hx hb hts iX10 tyX10 tyX10_ok nmX10 hown hK hP hD hS 1 rfl rfl 20 (by decide) (hts _ wd_527) (fun _ h9 => h9) rfl (by decide +kernel) rfl rfl (Nat.le_of_ble_eq_true rfl) dX10_takesBridges_57 (fun H locs hP hD hS => ?_)
            have hP : va_P D classes [((Rf 27), .inl (cI, 6, .inl (upd w_1m1 ((u_5 20) : Int32).toNatClampNeg (u_5 17)))), (h, .inr (10, ML (upd u_5 20 ((u_5 20) + 1)) Rf)), ((Rf 13), .inl (cI, 240, .inl f13))] H := hP
            have hD : va_D A [((Rf 27), .inl (cI, 6, .inl (upd w_1m1 ((u_5 20) : Int32).toNatClampNeg (u_5 17)))), (h, .inr (10, ML (upd u_5 20 ((u_5 20) + 1)) Rf)), ((Rf 13), .inl (cI, 240, .inl f13))] := hD
            refine lv_aload_n hx hb dX10_takesBridges_60 rfl (lv_at hl 1 rfl) ?_
            obtain ⟨hs_9, hF⟩ := hF
            refine cVi (wr := [((Rf 27), .inl (cI, 6, .inl (upd w_1m1 ((u_5 20) : Int32).toNatClampNeg (u_5 17))))]) (rest := []) (m_here Rf h (upd u_5 20 ((u_5 20) + 1)) f13 hs_9) okV_X10_here wd_516 hx hb hml hown hts hK hP hD hS hA hN hl.1 [1, 2] [0] rfl rfl rfl rfl (by decide) rfl rfl rfl (Nat.le_of_ble_eq_true rfl) (Nat.le_of_ble_eq_true rfl) (Nat.le_of_ble_eq_true rfl) (Nat.le_of_ble_eq_true rfl) (Nat.le_of_ble_eq_true rfl) dX10_takesBridges_61 (fun r_11 u_10 H locs hw_u_10 hP hD hS => ?_)
            replace hw_u_10 : (r_11, u_10) = (f_m_here (upd u_5 20 ((u_5 20) + 1)) f13) := hw_u_10
            replace hF := hF r_11 u_10 hw_u_10
            rw [← hw_u_10] at hE
            replace hE : ((match ((if r_11 = 44 then (f_m_takesBridges_2 f13 n_w_1 1 (upd u_10 15 ((u_10 15) + 1)) (upd w_1m1 ((u_5 20) : Int32).toNatClampNeg (u_5 17))) else (f_m_takesBridges_2 f13 n_w_1 0 (upd u_10 15 ((u_10 15) + 0)) (upd w_1m1 ((u_5 20) : Int32).toNatClampNeg (u_5 17)))) : (Int32 × (Nat → Int32) × (Nat → Int32)) ⊕ (Int32 × (Nat → Int32) × (Nat → Int32))) with | Sum.inl (w_1l1, w_1m0, w_1m1) => (1, w_1m0, w_1m1) | Sum.inr o => o) : Int32 × (Nat → Int32) × (Nat → Int32)) = RES := hE
            have hP : va_P D classes [((Rf 27), .inl (cI, 6, .inl (upd w_1m1 ((u_5 20) : Int32).toNatClampNeg (u_5 17)))), (h, .inr (10, ML u_10 Rf)), ((Rf 13), .inl (cI, 240, .inl f13))] H := hP
            have hD : va_D A [((Rf 27), .inl (cI, 6, .inl (upd w_1m1 ((u_5 20) : Int32).toNatClampNeg (u_5 17)))), (h, .inr (10, ML u_10 Rf)), ((Rf 13), .inl (cI, 240, .inl f13))] := hD
            refine lv_bipush (v := 44) hx hb dX10_takesBridges_64 (by decide) ?_
            refine lv_icmp_ne (tgt := 73) hx hb dX10_takesBridges_66 (by decide) (fun c_12 => ?_) (fun c_12 => ?_)
            · replace hF := hF.2 c_12
              rw [if_neg c_12] at hE
              refine lv_iconst (v := 0) hx hb dX10_takesBridges_73 (by decide) ?_
              refine lv_istore_n (lv' := [(1, .int 0), (0, .ref h)]) hx hb dX10_takesBridges_74 rfl hl (by decide) rfl (fun ls hl => ?_)
              refine lv_aload_n hx hb dX10_takesBridges_75 rfl (lv_at hl 1 rfl) ?_
              refine lv_dup hx hb dX10_takesBridges_76 rfl ?_
              refine va_get (D := D) (ci := 10) (v := .int (u_10 15)) (C := RX10) (T := TX10) (N := 45) hx hb hts iX10 hown hK hP 1 rfl rfl 15 (by decide) (hts _ wd_508) (fun _ h9 => h9) rfl dX10_takesBridges_77 ?_
              refine lv_iload_n hx hb dX10_takesBridges_80 rfl (lv_at hl 0 rfl) ?_
              refine lv_if_eq (tgt := 88) hx hb dX10_takesBridges_81 (by decide) (fun c_13 => ?_) (fun c_13 => absurd (by decide +kernel) c_13)
              refine lv_iconst (v := 0) hx hb dX10_takesBridges_88 (by decide) ?_
              refine lv_iadd hx hb dX10_takesBridges_89 ?_
              refine va_put (D := D) (ci := 10) (v := .int ((u_10 15) + 0)) (ty := .int) (C := RX10) (T := TX10) (N := 45) hx hb hts iX10 tyX10 tyX10_ok nmX10 hown hK hP hD hS 1 rfl rfl 15 (by decide) (hts _ wd_508) (fun _ h9 => h9) rfl (by decide +kernel) rfl rfl (Nat.le_of_ble_eq_true rfl) dX10_takesBridges_90 (fun H locs hP hD hS => ?_)
              have hP : va_P D classes [((Rf 27), .inl (cI, 6, .inl (upd w_1m1 ((u_5 20) : Int32).toNatClampNeg (u_5 17)))), (h, .inr (10, ML (upd u_10 15 ((u_10 15) + 0)) Rf)), ((Rf 13), .inl (cI, 240, .inl f13))] H := hP
              have hD : va_D A [((Rf 27), .inl (cI, 6, .inl (upd w_1m1 ((u_5 20) : Int32).toNatClampNeg (u_5 17)))), (h, .inr (10, ML (upd u_10 15 ((u_10 15) + 0)) Rf)), ((Rf 13), .inl (cI, 240, .inl f13))] := hD
              refine lv_goto (tgt := 2) hx hb dX10_takesBridges_93 (by decide) ?_
              exact ih_w_1 0 (upd u_10 15 ((u_10 15) + 0)) (upd w_1m1 ((u_5 20) : Int32).toNatClampNeg (u_5 17)) _ _ ls (cutP (isC := [1, 2, 0]) hP rfl) (cutD (isC := [1, 2, 0]) hD rfl rfl) hS (lv_sub hl [0, 1] rfl) hF hE
            · replace hF := hF.1 c_12
              rw [if_pos c_12] at hE
              subst c_12
              refine lv_iconst (v := 1) hx hb dX10_takesBridges_69 (by decide) ?_
              refine lv_goto (tgt := 74) hx hb dX10_takesBridges_70 (by decide) ?_
              refine lv_istore_n (lv' := [(1, .int 1), (0, .ref h)]) hx hb dX10_takesBridges_74 rfl hl (by decide) rfl (fun ls hl => ?_)
              refine lv_aload_n hx hb dX10_takesBridges_75 rfl (lv_at hl 1 rfl) ?_
              refine lv_dup hx hb dX10_takesBridges_76 rfl ?_
              refine va_get (D := D) (ci := 10) (v := .int (u_10 15)) (C := RX10) (T := TX10) (N := 45) hx hb hts iX10 hown hK hP 1 rfl rfl 15 (by decide) (hts _ wd_508) (fun _ h9 => h9) rfl dX10_takesBridges_77 ?_
              refine lv_iload_n hx hb dX10_takesBridges_80 rfl (lv_at hl 0 rfl) ?_
              refine lv_if_eq (tgt := 88) hx hb dX10_takesBridges_81 (by decide) (fun c_14 => absurd c_14 (by decide +kernel)) (fun c_14 => ?_)
              refine lv_iconst (v := 1) hx hb dX10_takesBridges_84 (by decide) ?_
              refine lv_goto (tgt := 89) hx hb dX10_takesBridges_85 (by decide) ?_
              refine lv_iadd hx hb dX10_takesBridges_89 ?_
              refine va_put (D := D) (ci := 10) (v := .int ((u_10 15) + 1)) (ty := .int) (C := RX10) (T := TX10) (N := 45) hx hb hts iX10 tyX10 tyX10_ok nmX10 hown hK hP hD hS 1 rfl rfl 15 (by decide) (hts _ wd_508) (fun _ h9 => h9) rfl (by decide +kernel) rfl rfl (Nat.le_of_ble_eq_true rfl) dX10_takesBridges_90 (fun H locs hP hD hS => ?_)
              have hP : va_P D classes [((Rf 27), .inl (cI, 6, .inl (upd w_1m1 ((u_5 20) : Int32).toNatClampNeg (u_5 17)))), (h, .inr (10, ML (upd u_10 15 ((u_10 15) + 1)) Rf)), ((Rf 13), .inl (cI, 240, .inl f13))] H := hP
              have hD : va_D A [((Rf 27), .inl (cI, 6, .inl (upd w_1m1 ((u_5 20) : Int32).toNatClampNeg (u_5 17)))), (h, .inr (10, ML (upd u_10 15 ((u_10 15) + 1)) Rf)), ((Rf 13), .inl (cI, 240, .inl f13))] := hD
              refine lv_goto (tgt := 2) hx hb dX10_takesBridges_93 (by decide) ?_
              exact ih_w_1 1 (upd u_10 15 ((u_10 15) + 1)) (upd w_1m1 ((u_5 20) : Int32).toNatClampNeg (u_5 17)) _ _ ls (cutP (isC := [1, 2, 0]) hP rfl) (cutD (isC := [1, 2, 0]) hD rfl rfl) hS (lv_sub hl [0, 1] rfl) hF hE
          · replace hF := hF.1 c_7
            rw [if_pos c_7] at hE
            subst c_7
            refine lv_iconst (v := 0) hx hb dX10_takesBridges_35 (by decide) ?_
            exact hret 0 (u_5, w_1m1) _ _ _ _ dX10_takesBridges_36 rfl hE (cutP (isC := [1, 2, 0]) hP rfl) (cutD (isC := [1, 2, 0]) hD rfl rfl) hS
        · replace hF := hF.1 c_3
          rw [if_pos c_3] at hE
          refine lv_aload_n hx hb dX10_takesBridges_15 rfl (lv_at hl 1 rfl) ?_
          refine lv_iconst (v := 1) hx hb dX10_takesBridges_16 (by decide) ?_
          refine lv_aload_n hx hb dX10_takesBridges_17 rfl (lv_at hl 1 rfl) ?_
          refine va_get (D := D) (ci := 10) (v := .int (w_1m0 16)) (C := RX10) (T := TX10) (N := 45) hx hb hts iX10 hown hK hP 0 rfl rfl 16 (by decide) (hts _ wd_509) (fun _ h9 => h9) rfl dX10_takesBridges_18 ?_
          obtain ⟨hs_15, hF⟩ := hF
          refine cVi (wr := [((Rf 13), .inl (cI, 240, .inl f13)), ((Rf 27), .inl (cI, 6, .inl w_1m1))]) (rest := []) (m_fails Rf h w_1m0 1 (w_1m0 16) hs_15) okV_X10_fails wd_520 hx hb hml hown hts hK hP hD hS hA hN hl.1 [0] [1, 2] rfl rfl rfl rfl (by decide) rfl rfl rfl (Nat.le_of_ble_eq_true rfl) (Nat.le_of_ble_eq_true rfl) (Nat.le_of_ble_eq_true rfl) (Nat.le_of_ble_eq_true rfl) (Nat.le_of_ble_eq_true rfl) dX10_takesBridges_21 (fun r_17 u_16 H locs hw_u_16 hP hD hS => ?_)
          replace hw_u_16 : (r_17, u_16) = (f_m_fails w_1m0 1 (w_1m0 16)) := hw_u_16
          replace hF := hF r_17 u_16 hw_u_16
          rw [← hw_u_16] at hE
          replace hE : ((match ((Sum.inr (r_17, u_16, w_1m1)) : (Int32 × (Nat → Int32) × (Nat → Int32)) ⊕ (Int32 × (Nat → Int32) × (Nat → Int32))) with | Sum.inl (w_1l1, w_1m0, w_1m1) => (1, w_1m0, w_1m1) | Sum.inr o => o) : Int32 × (Nat → Int32) × (Nat → Int32)) = RES := hE
          have hP : va_P D classes [((Rf 13), .inl (cI, 240, .inl f13)), ((Rf 27), .inl (cI, 6, .inl w_1m1)), (h, .inr (10, ML u_16 Rf))] H := hP
          have hD : va_D A [((Rf 13), .inl (cI, 240, .inl f13)), ((Rf 27), .inl (cI, 6, .inl w_1m1)), (h, .inr (10, ML u_16 Rf))] := hD
          exact hret r_17 (u_16, w_1m1) _ _ _ _ dX10_takesBridges_24 (narrow_b01 (Or.inl (congrArg Prod.fst hw_u_16))) hE (cutP (isC := [2, 0, 1]) hP rfl) (cutD (isC := [2, 0, 1]) hD rfl rfl) hS
  exact lp_2_w_1 10 1 G f27 _ _ ls hP hD hS hl hF hE
