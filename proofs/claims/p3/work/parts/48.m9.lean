theorem dX10_begins_0 : decode cX10_begins 0 = .ok (.aload_n 0, 1) := by decide +kernel
theorem dX10_begins_1 : decode cX10_begins 1 = .ok (.getfield 7, 3) := by decide +kernel
theorem dX10_begins_4 : decode cX10_begins 4 = .ok (.bipush 41, 2) := by decide +kernel
theorem dX10_begins_6 : decode cX10_begins 6 = .ok (.iaload, 1) := by decide +kernel
theorem dX10_begins_7 : decode cX10_begins 7 = .ok (.istore_n 1, 1) := by decide +kernel
theorem dX10_begins_8 : decode cX10_begins 8 = .ok (.iconst 0, 1) := by decide +kernel
theorem dX10_begins_9 : decode cX10_begins 9 = .ok (.istore_n 2, 1) := by decide +kernel
theorem dX10_begins_29 : decode cX10_begins 29 = .ok (.iconst 0, 1) := by decide +kernel
theorem dX10_begins_30 : decode cX10_begins 30 = .ok (.istore_n 2, 1) := by decide +kernel
theorem dX10_begins_79 : decode cX10_begins 79 = .ok (.iconst 0, 1) := by decide +kernel
theorem dX10_begins_80 : decode cX10_begins 80 = .ok (.istore_n 2, 1) := by decide +kernel
theorem dX10_begins_113 : decode cX10_begins 113 = .ok (.aload_n 0, 1) := by decide +kernel
theorem dX10_begins_114 : decode cX10_begins 114 = .ok (.getfield 7, 3) := by decide +kernel
theorem dX10_begins_117 : decode cX10_begins 117 = .ok (.bipush 41, 2) := by decide +kernel
theorem dX10_begins_119 : decode cX10_begins 119 = .ok (.iload_n 1, 1) := by decide +kernel
theorem dX10_begins_120 : decode cX10_begins 120 = .ok (.iastore, 1) := by decide +kernel
theorem dX10_begins_121 : decode cX10_begins 121 = .ok (.return_, 1) := by decide +kernel
theorem dX10_begins_81 : decode cX10_begins 81 = .ok (.iload_n 2, 1) := by decide +kernel
theorem dX10_begins_82 : decode cX10_begins 82 = .ok (.bipush 7, 2) := by decide +kernel
theorem dX10_begins_84 : decode cX10_begins 84 = .ok (.if_icmp .ge 29, 3) := by decide +kernel
theorem dX10_begins_87 : decode cX10_begins 87 = .ok (.aload_n 0, 1) := by decide +kernel
theorem dX10_begins_88 : decode cX10_begins 88 = .ok (.getfield 7, 3) := by decide +kernel
theorem dX10_begins_91 : decode cX10_begins 91 = .ok (.bipush 27, 2) := by decide +kernel
theorem dX10_begins_93 : decode cX10_begins 93 = .ok (.iload_n 2, 1) := by decide +kernel
theorem dX10_begins_94 : decode cX10_begins 94 = .ok (.iadd, 1) := by decide +kernel
theorem dX10_begins_95 : decode cX10_begins 95 = .ok (.iconst (-1), 1) := by decide +kernel
theorem dX10_begins_96 : decode cX10_begins 96 = .ok (.iastore, 1) := by decide +kernel
theorem dX10_begins_97 : decode cX10_begins 97 = .ok (.aload_n 0, 1) := by decide +kernel
theorem dX10_begins_98 : decode cX10_begins 98 = .ok (.getfield 7, 3) := by decide +kernel
theorem dX10_begins_101 : decode cX10_begins 101 = .ok (.bipush 34, 2) := by decide +kernel
theorem dX10_begins_103 : decode cX10_begins 103 = .ok (.iload_n 2, 1) := by decide +kernel
theorem dX10_begins_104 : decode cX10_begins 104 = .ok (.iadd, 1) := by decide +kernel
theorem dX10_begins_105 : decode cX10_begins 105 = .ok (.iconst (-1), 1) := by decide +kernel
theorem dX10_begins_106 : decode cX10_begins 106 = .ok (.iastore, 1) := by decide +kernel
theorem dX10_begins_107 : decode cX10_begins 107 = .ok (.iinc 2 1, 3) := by decide +kernel
theorem dX10_begins_110 : decode cX10_begins 110 = .ok (.goto (-29), 3) := by decide +kernel
theorem dX10_begins_31 : decode cX10_begins 31 = .ok (.iload_n 2, 1) := by decide +kernel
theorem dX10_begins_32 : decode cX10_begins 32 = .ok (.bipush 6, 2) := by decide +kernel
theorem dX10_begins_34 : decode cX10_begins 34 = .ok (.if_icmp .ge 45, 3) := by decide +kernel
theorem dX10_begins_37 : decode cX10_begins 37 = .ok (.aload_n 0, 1) := by decide +kernel
theorem dX10_begins_38 : decode cX10_begins 38 = .ok (.getfield 7, 3) := by decide +kernel
theorem dX10_begins_41 : decode cX10_begins 41 = .ok (.iconst 0, 1) := by decide +kernel
theorem dX10_begins_42 : decode cX10_begins 42 = .ok (.iload_n 2, 1) := by decide +kernel
theorem dX10_begins_43 : decode cX10_begins 43 = .ok (.iadd, 1) := by decide +kernel
theorem dX10_begins_44 : decode cX10_begins 44 = .ok (.iload_n 2, 1) := by decide +kernel
theorem dX10_begins_45 : decode cX10_begins 45 = .ok (.aload_n 0, 1) := by decide +kernel
theorem dX10_begins_46 : decode cX10_begins 46 = .ok (.getfield 78, 3) := by decide +kernel
theorem dX10_begins_49 : decode cX10_begins 49 = .ok (.if_icmp .ge 12, 3) := by decide +kernel
theorem dX10_begins_61 : decode cX10_begins 61 = .ok (.iconst 0, 1) := by decide +kernel
theorem dX10_begins_62 : decode cX10_begins 62 = .ok (.iastore, 1) := by decide +kernel
theorem dX10_begins_63 : decode cX10_begins 63 = .ok (.aload_n 0, 1) := by decide +kernel
theorem dX10_begins_64 : decode cX10_begins 64 = .ok (.getfield 7, 3) := by decide +kernel
theorem dX10_begins_67 : decode cX10_begins 67 = .ok (.bipush 6, 2) := by decide +kernel
theorem dX10_begins_69 : decode cX10_begins 69 = .ok (.iload_n 2, 1) := by decide +kernel
theorem dX10_begins_70 : decode cX10_begins 70 = .ok (.iadd, 1) := by decide +kernel
theorem dX10_begins_71 : decode cX10_begins 71 = .ok (.iconst (-1), 1) := by decide +kernel
theorem dX10_begins_72 : decode cX10_begins 72 = .ok (.iastore, 1) := by decide +kernel
theorem dX10_begins_73 : decode cX10_begins 73 = .ok (.iinc 2 1, 3) := by decide +kernel
theorem dX10_begins_76 : decode cX10_begins 76 = .ok (.goto (-45), 3) := by decide +kernel
theorem dX10_begins_52 : decode cX10_begins 52 = .ok (.aload_n 0, 1) := by decide +kernel
theorem wd_561 : Cond.fieldLink RX10 24 "QuarrelBridgesModel" "grief" "[I" ∈ BG := BG_at 792 (by decide +kernel) rfl
theorem dX10_begins_53 : decode cX10_begins 53 = .ok (.getfield 24, 3) := by decide +kernel
theorem dX10_begins_56 : decode cX10_begins 56 = .ok (.iload_n 2, 1) := by decide +kernel
theorem dX10_begins_57 : decode cX10_begins 57 = .ok (.iaload, 1) := by decide +kernel
theorem dX10_begins_58 : decode cX10_begins 58 = .ok (.goto 4, 3) := by decide +kernel
theorem dX10_begins_10 : decode cX10_begins 10 = .ok (.iload_n 2, 1) := by decide +kernel
theorem dX10_begins_11 : decode cX10_begins 11 = .ok (.bipush 42, 2) := by decide +kernel
theorem dX10_begins_13 : decode cX10_begins 13 = .ok (.if_icmp .ge 16, 3) := by decide +kernel
theorem dX10_begins_16 : decode cX10_begins 16 = .ok (.aload_n 0, 1) := by decide +kernel
theorem dX10_begins_17 : decode cX10_begins 17 = .ok (.getfield 7, 3) := by decide +kernel
theorem dX10_begins_20 : decode cX10_begins 20 = .ok (.iload_n 2, 1) := by decide +kernel
theorem dX10_begins_21 : decode cX10_begins 21 = .ok (.iconst 0, 1) := by decide +kernel
theorem dX10_begins_22 : decode cX10_begins 22 = .ok (.iastore, 1) := by decide +kernel
theorem dX10_begins_23 : decode cX10_begins 23 = .ok (.iinc 2 1, 3) := by decide +kernel
theorem dX10_begins_26 : decode cX10_begins 26 = .ok (.goto (-16), 3) := by decide +kernel
noncomputable def f_m_begins_81  (n : Nat) : Int32 → (Nat → Int32) → Int32 × (Nat → Int32) := Nat.rec (motive := fun _ => Int32 → (Nat → Int32) → Int32 × (Nat → Int32)) (fun w_3l2 w_3m0 => (w_3l2, w_3m0)) (fun n ih w_3l2 w_3m0 => (if 7 ≤ w_3l2 then (w_3l2, w_3m0) else (ih (w_3l2 + 1) (upd (upd w_3m0 ((27 + w_3l2) : Int32).toNatClampNeg (-1)) ((34 + w_3l2) : Int32).toNatClampNeg (-1))))) n
theorem f_m_begins_81_s  (n : Nat) (w_3l2 : Int32) (w_3m0 : (Nat → Int32)) : f_m_begins_81  (n + 1) w_3l2 w_3m0 = (if 7 ≤ w_3l2 then (w_3l2, w_3m0) else (f_m_begins_81  n (w_3l2 + 1) (upd (upd w_3m0 ((27 + w_3l2) : Int32).toNatClampNeg (-1)) ((34 + w_3l2) : Int32).toNatClampNeg (-1)))) := rfl
def S_m_begins_81  (K : Int32 → (Nat → Int32) → Prop) (n : Nat) : Int32 → (Nat → Int32) → Prop := Nat.rec (motive := fun _ => Int32 → (Nat → Int32) → Prop) (fun _ _ => True) (fun n ih w_3l2 w_3m0 => ((7 ≤ w_3l2 → (K w_3l2 w_3m0)) ∧ (¬ 7 ≤ w_3l2 → (vp_in (27 + w_3l2) 1302 ∧ (vp_in (34 + w_3l2) 1302 ∧ (ih (w_3l2 + 1) (upd (upd w_3m0 ((27 + w_3l2) : Int32).toNatClampNeg (-1)) ((34 + w_3l2) : Int32).toNatClampNeg (-1)))))))) n
theorem S_m_begins_81_s  (K : Int32 → (Nat → Int32) → Prop) (n : Nat) (w_3l2 : Int32) (w_3m0 : (Nat → Int32)) : S_m_begins_81  K (n + 1) w_3l2 w_3m0 = (((7 ≤ w_3l2 → (K w_3l2 w_3m0)) ∧ (¬ 7 ≤ w_3l2 → (vp_in (27 + w_3l2) 1302 ∧ (vp_in (34 + w_3l2) 1302 ∧ (S_m_begins_81  K n (w_3l2 + 1) (upd (upd w_3m0 ((27 + w_3l2) : Int32).toNatClampNeg (-1)) ((34 + w_3l2) : Int32).toNatClampNeg (-1)))))))) := rfl
noncomputable def f_m_begins_31 (G : Nat → Int32) (f9 : Nat → Int32) (n : Nat) : Int32 → (Nat → Int32) → Int32 × (Nat → Int32) := Nat.rec (motive := fun _ => Int32 → (Nat → Int32) → Int32 × (Nat → Int32)) (fun w_2l2 w_2m0 => (w_2l2, w_2m0)) (fun n ih w_2l2 w_2m0 => (if 6 ≤ w_2l2 then (w_2l2, w_2m0) else (if (G 5) ≤ w_2l2 then (ih (w_2l2 + 1) (upd (upd w_2m0 ((0 + w_2l2) : Int32).toNatClampNeg 0) ((6 + w_2l2) : Int32).toNatClampNeg (-1))) else (ih (w_2l2 + 1) (upd (upd w_2m0 ((0 + w_2l2) : Int32).toNatClampNeg (f9 (w_2l2 : Int32).toNatClampNeg)) ((6 + w_2l2) : Int32).toNatClampNeg (-1)))))) n
theorem f_m_begins_31_s (G : Nat → Int32) (f9 : Nat → Int32) (n : Nat) (w_2l2 : Int32) (w_2m0 : (Nat → Int32)) : f_m_begins_31 G f9 (n + 1) w_2l2 w_2m0 = (if 6 ≤ w_2l2 then (w_2l2, w_2m0) else (if (G 5) ≤ w_2l2 then (f_m_begins_31 G f9 n (w_2l2 + 1) (upd (upd w_2m0 ((0 + w_2l2) : Int32).toNatClampNeg 0) ((6 + w_2l2) : Int32).toNatClampNeg (-1))) else (f_m_begins_31 G f9 n (w_2l2 + 1) (upd (upd w_2m0 ((0 + w_2l2) : Int32).toNatClampNeg (f9 (w_2l2 : Int32).toNatClampNeg)) ((6 + w_2l2) : Int32).toNatClampNeg (-1))))) := rfl
def S_m_begins_31 (G : Nat → Int32) (f9 : Nat → Int32) (K : Int32 → (Nat → Int32) → Prop) (n : Nat) : Int32 → (Nat → Int32) → Prop := Nat.rec (motive := fun _ => Int32 → (Nat → Int32) → Prop) (fun _ _ => True) (fun n ih w_2l2 w_2m0 => ((6 ≤ w_2l2 → (K w_2l2 w_2m0)) ∧ (¬ 6 ≤ w_2l2 → (((G 5) ≤ w_2l2 → (vp_in (0 + w_2l2) 1302 ∧ (vp_in (6 + w_2l2) 1302 ∧ (ih (w_2l2 + 1) (upd (upd w_2m0 ((0 + w_2l2) : Int32).toNatClampNeg 0) ((6 + w_2l2) : Int32).toNatClampNeg (-1)))))) ∧ (¬ (G 5) ≤ w_2l2 → (vp_in w_2l2 6 ∧ (vp_in (0 + w_2l2) 1302 ∧ (vp_in (6 + w_2l2) 1302 ∧ (ih (w_2l2 + 1) (upd (upd w_2m0 ((0 + w_2l2) : Int32).toNatClampNeg (f9 (w_2l2 : Int32).toNatClampNeg)) ((6 + w_2l2) : Int32).toNatClampNeg (-1))))))))))) n
theorem S_m_begins_31_s (G : Nat → Int32) (f9 : Nat → Int32) (K : Int32 → (Nat → Int32) → Prop) (n : Nat) (w_2l2 : Int32) (w_2m0 : (Nat → Int32)) : S_m_begins_31 G f9 K (n + 1) w_2l2 w_2m0 = (((6 ≤ w_2l2 → (K w_2l2 w_2m0)) ∧ (¬ 6 ≤ w_2l2 → (((G 5) ≤ w_2l2 → (vp_in (0 + w_2l2) 1302 ∧ (vp_in (6 + w_2l2) 1302 ∧ (S_m_begins_31 G f9 K n (w_2l2 + 1) (upd (upd w_2m0 ((0 + w_2l2) : Int32).toNatClampNeg 0) ((6 + w_2l2) : Int32).toNatClampNeg (-1)))))) ∧ (¬ (G 5) ≤ w_2l2 → (vp_in w_2l2 6 ∧ (vp_in (0 + w_2l2) 1302 ∧ (vp_in (6 + w_2l2) 1302 ∧ (S_m_begins_31 G f9 K n (w_2l2 + 1) (upd (upd w_2m0 ((0 + w_2l2) : Int32).toNatClampNeg (f9 (w_2l2 : Int32).toNatClampNeg)) ((6 + w_2l2) : Int32).toNatClampNeg (-1))))))))))) := rfl
noncomputable def f_m_begins_10  (n : Nat) : Int32 → (Nat → Int32) → Int32 × (Nat → Int32) := Nat.rec (motive := fun _ => Int32 → (Nat → Int32) → Int32 × (Nat → Int32)) (fun w_1l2 w_1m0 => (w_1l2, w_1m0)) (fun n ih w_1l2 w_1m0 => (if 42 ≤ w_1l2 then (w_1l2, w_1m0) else (ih (w_1l2 + 1) (upd w_1m0 (w_1l2 : Int32).toNatClampNeg 0)))) n
theorem f_m_begins_10_s  (n : Nat) (w_1l2 : Int32) (w_1m0 : (Nat → Int32)) : f_m_begins_10  (n + 1) w_1l2 w_1m0 = (if 42 ≤ w_1l2 then (w_1l2, w_1m0) else (f_m_begins_10  n (w_1l2 + 1) (upd w_1m0 (w_1l2 : Int32).toNatClampNeg 0))) := rfl
def S_m_begins_10  (K : Int32 → (Nat → Int32) → Prop) (n : Nat) : Int32 → (Nat → Int32) → Prop := Nat.rec (motive := fun _ => Int32 → (Nat → Int32) → Prop) (fun _ _ => True) (fun n ih w_1l2 w_1m0 => ((42 ≤ w_1l2 → (K w_1l2 w_1m0)) ∧ (¬ 42 ≤ w_1l2 → (vp_in w_1l2 1302 ∧ (ih (w_1l2 + 1) (upd w_1m0 (w_1l2 : Int32).toNatClampNeg 0)))))) n
theorem S_m_begins_10_s  (K : Int32 → (Nat → Int32) → Prop) (n : Nat) (w_1l2 : Int32) (w_1m0 : (Nat → Int32)) : S_m_begins_10  K (n + 1) w_1l2 w_1m0 = (((42 ≤ w_1l2 → (K w_1l2 w_1m0)) ∧ (¬ 42 ≤ w_1l2 → (vp_in w_1l2 1302 ∧ (S_m_begins_10  K n (w_1l2 + 1) (upd w_1m0 (w_1l2 : Int32).toNatClampNeg 0)))))) := rfl
noncomputable def f_m_begins (G : Nat → Int32) (f0 : Nat → Int32) (f9 : Nat → Int32) : (Nat → Int32) := (match ((f_m_begins_10  (((42 : Int32).toInt - (0 : Int32).toInt).toNat + 1) 0 f0) : Int32 × (Nat → Int32)) with | (w_1l2, w_1m0) => (match ((f_m_begins_31 G f9 (((6 : Int32).toInt - (0 : Int32).toInt).toNat + 1) 0 w_1m0) : Int32 × (Nat → Int32)) with | (w_2l2, w_2m0) => (match ((f_m_begins_81  (((7 : Int32).toInt - (0 : Int32).toInt).toNat + 1) 0 w_2m0) : Int32 × (Nat → Int32)) with | (w_3l2, w_3m0) => (upd w_3m0 (41 : Int32).toNatClampNeg (f0 (41 : Int32).toNatClampNeg)))))
def S_m_begins (G : Nat → Int32) (f0 : Nat → Int32) (f9 : Nat → Int32) : Prop := (S_m_begins_10  (fun (w_1l2 : Int32) (w_1m0 : (Nat → Int32)) => (S_m_begins_31 G f9 (fun (w_2l2 : Int32) (w_2m0 : (Nat → Int32)) => (S_m_begins_81  (fun (w_3l2 : Int32) (w_3m0 : (Nat → Int32)) => True) (((7 : Int32).toInt - (0 : Int32).toInt).toNat + 1) 0 w_2m0)) (((6 : Int32).toInt - (0 : Int32).toInt).toNat + 1) 0 w_1m0)) (((42 : Int32).toInt - (0 : Int32).toInt).toNat + 1) 0 f0)
def rm_m_begins : Room := { frames := 0, cells := 0, slots := 0, locals := 0 }
set_option maxHeartbeats 4000000 in
set_option maxRecDepth 100000 in
theorem m_begins {l : Launch} {D : va_G} {cI cZ : ClassId} {sz : Nat} (Rf : Nat → Nat) (h : Nat) (G : Nat → Int32) (f0 : Nat → Int32) (f9 : Nat → Int32) (hF : S_m_begins G f0 f9) : KV l yX10_begins cX10_begins 3 rm_m_begins D cI cZ [.ref h] sz [(h, .inr (10, ML G Rf)), ((Rf 0), .inl (cI, 1302, .inl f0)), ((Rf 9), .inl (cI, 6, .inl f9))] (fun (u : (Nat → Int32)) => u = f_m_begins G f0 f9) (fun (u : (Nat → Int32)) => [(h, .inr (10, ML G Rf)), ((Rf 0), .inl (cI, 1302, .inl u)), ((Rf 9), .inl (cI, 6, .inl f9))]) := by
  refine KV.go rfl (Nat.le_of_ble_eq_true rfl) ?_
  intro p e s m args below meth c ls A Q hx hb hml hts hown hin hP hK hD hS hA hN hl hret
  have hl : lv_has ls 3 [(0, .ref h)] := hl
  rw [S_m_begins] at hF
  obtain ⟨RES, hE⟩ : ∃ xRES, f_m_begins G f0 f9 = xRES := ⟨_, rfl⟩
  rw [hE] at hret
  rw [f_m_begins] at hE
  refine lv_aload_n hx hb dX10_begins_0 rfl (lv_at hl 0 rfl) ?_
  refine va_get (D := D) (ci := 10) (v := .ref (Rf 0)) (C := RX10) (T := TX10) (N := 45) hx hb hts iX10 hown hK hP 0 rfl rfl 0 (by decide) (hts _ wd_491) (fun _ h9 => h9) rfl dX10_begins_1 ?_
  refine lv_bipush (v := 41) hx hb dX10_begins_4 (by decide) ?_
  refine va_iald hx hb hK hP 1 0 rfl rfl (show ¬ ((41 : Int32) < 0 ∨ 1302 ≤ (41 : Int32).toNatClampNeg) by decide +kernel) dX10_begins_6 ?_
  refine lv_istore_n (lv' := [(1, .int (f0 (41 : Int32).toNatClampNeg)), (0, .ref h)]) hx hb dX10_begins_7 rfl hl (by decide) rfl (fun ls hl => ?_)
  refine lv_iconst (v := 0) hx hb dX10_begins_8 (by decide) ?_
  refine lv_istore_n (lv' := [(2, .int 0), (1, .int (f0 (41 : Int32).toNatClampNeg)), (0, .ref h)]) hx hb dX10_begins_9 rfl hl (by decide) rfl (fun ls hl => ?_)
  have ex_10_w_1 : ∀ (w_1l2 : Int32) (w_1m0 : (Nat → Int32)) (H : Heap) (locs : List Loc) (ls : Array Slot), va_P D classes [(h, .inr (10, ML G Rf)), ((Rf 0), .inl (cI, 1302, .inl w_1m0)), ((Rf 9), .inl (cI, 6, .inl f9))] H → va_D A [(h, .inr (10, ML G Rf)), ((Rf 0), .inl (cI, 1302, .inl w_1m0)), ((Rf 9), .inl (cI, 6, .inl f9))] → va_S A s.heap H locs → lv_has ls 3 [(2, .int w_1l2), (1, .int (f0 (41 : Int32).toNatClampNeg)), (0, .ref h)] → ((S_m_begins_31 G f9 (fun (w_2l2 : Int32) (w_2m0 : (Nat → Int32)) => (S_m_begins_81  (fun (w_3l2 : Int32) (w_3m0 : (Nat → Int32)) => True) (((7 : Int32).toInt - (0 : Int32).toInt).toNat + 1) 0 w_2m0)) (((6 : Int32).toInt - (0 : Int32).toInt).toNat + 1) 0 w_1m0)) → (((match ((f_m_begins_31 G f9 (((6 : Int32).toInt - (0 : Int32).toInt).toNat + 1) 0 w_1m0) : Int32 × (Nat → Int32)) with | (w_2l2, w_2m0) => (match ((f_m_begins_81  (((7 : Int32).toInt - (0 : Int32).toInt).toNat + 1) 0 w_2m0) : Int32 × (Nat → Int32)) with | (w_3l2, w_3m0) => (upd w_3m0 (41 : Int32).toNatClampNeg (f0 (41 : Int32).toNatClampNeg))))) : (Nat → Int32)) = RES → W p l e rm_m_begins s m args below meth c H locs 0 0 Q (F0 m 29 ls []) := by
    intro w_1l2 w_1m0 H locs ls hP hD hS hl hF hE
    refine lv_iconst (v := 0) hx hb dX10_begins_29 (by decide) ?_
    refine lv_istore_n (lv' := [(2, .int 0), (1, .int (f0 (41 : Int32).toNatClampNeg)), (0, .ref h)]) hx hb dX10_begins_30 rfl hl (by decide) rfl (fun ls hl => ?_)
    have ex_31_w_2 : ∀ (w_2l2 : Int32) (w_2m0 : (Nat → Int32)) (H : Heap) (locs : List Loc) (ls : Array Slot), va_P D classes [(h, .inr (10, ML G Rf)), ((Rf 0), .inl (cI, 1302, .inl w_2m0)), ((Rf 9), .inl (cI, 6, .inl f9))] H → va_D A [(h, .inr (10, ML G Rf)), ((Rf 0), .inl (cI, 1302, .inl w_2m0)), ((Rf 9), .inl (cI, 6, .inl f9))] → va_S A s.heap H locs → lv_has ls 3 [(2, .int w_2l2), (1, .int (f0 (41 : Int32).toNatClampNeg)), (0, .ref h)] → ((S_m_begins_81  (fun (w_3l2 : Int32) (w_3m0 : (Nat → Int32)) => True) (((7 : Int32).toInt - (0 : Int32).toInt).toNat + 1) 0 w_2m0)) → (((match ((f_m_begins_81  (((7 : Int32).toInt - (0 : Int32).toInt).toNat + 1) 0 w_2m0) : Int32 × (Nat → Int32)) with | (w_3l2, w_3m0) => (upd w_3m0 (41 : Int32).toNatClampNeg (f0 (41 : Int32).toNatClampNeg)))) : (Nat → Int32)) = RES → W p l e rm_m_begins s m args below meth c H locs 0 0 Q (F0 m 79 ls []) := by
      intro w_2l2 w_2m0 H locs ls hP hD hS hl hF hE
      refine lv_iconst (v := 0) hx hb dX10_begins_79 (by decide) ?_
      refine lv_istore_n (lv' := [(2, .int 0), (1, .int (f0 (41 : Int32).toNatClampNeg)), (0, .ref h)]) hx hb dX10_begins_80 rfl hl (by decide) rfl (fun ls hl => ?_)
      have ex_81_w_3 : ∀ (w_3l2 : Int32) (w_3m0 : (Nat → Int32)) (H : Heap) (locs : List Loc) (ls : Array Slot), va_P D classes [(h, .inr (10, ML G Rf)), ((Rf 0), .inl (cI, 1302, .inl w_3m0)), ((Rf 9), .inl (cI, 6, .inl f9))] H → va_D A [(h, .inr (10, ML G Rf)), ((Rf 0), .inl (cI, 1302, .inl w_3m0)), ((Rf 9), .inl (cI, 6, .inl f9))] → va_S A s.heap H locs → lv_has ls 3 [(2, .int w_3l2), (1, .int (f0 (41 : Int32).toNatClampNeg)), (0, .ref h)] → (True) → (((upd w_3m0 (41 : Int32).toNatClampNeg (f0 (41 : Int32).toNatClampNeg))) : (Nat → Int32)) = RES → W p l e rm_m_begins s m args below meth c H locs 0 0 Q (F0 m 113 ls []) := by
        intro w_3l2 w_3m0 H locs ls hP hD hS hl hF hE
        refine lv_aload_n hx hb dX10_begins_113 rfl (lv_at hl 2 rfl) ?_
        refine va_get (D := D) (ci := 10) (v := .ref (Rf 0)) (C := RX10) (T := TX10) (N := 45) hx hb hts iX10 hown hK hP 0 rfl rfl 0 (by decide) (hts _ wd_491) (fun _ h9 => h9) rfl dX10_begins_114 ?_
        refine lv_bipush (v := 41) hx hb dX10_begins_117 (by decide) ?_
        refine lv_iload_n hx hb dX10_begins_119 rfl (lv_at hl 1 rfl) ?_
        refine va_iast hx hb hK hP hD hS 1 0 rfl rfl (show ¬ ((41 : Int32) < 0 ∨ 1302 ≤ (41 : Int32).toNatClampNeg) by decide +kernel) dX10_begins_120 (fun H locs hP hD hS => ?_)
        have hP : va_P D classes [(h, .inr (10, ML G Rf)), ((Rf 0), .inl (cI, 1302, .inl (upd w_3m0 (41 : Int32).toNatClampNeg (f0 (41 : Int32).toNatClampNeg)))), ((Rf 9), .inl (cI, 6, .inl f9))] H := hP
        have hD : va_D A [(h, .inr (10, ML G Rf)), ((Rf 0), .inl (cI, 1302, .inl (upd w_3m0 (41 : Int32).toNatClampNeg (f0 (41 : Int32).toNatClampNeg)))), ((Rf 9), .inl (cI, 6, .inl f9))] := hD
        exact hret (upd w_3m0 (41 : Int32).toNatClampNeg (f0 (41 : Int32).toNatClampNeg)) _ _ _ _ dX10_begins_121 hE hP hD hS
      have lp_81_w_3 : ∀ (n_w_3 : Nat) (w_3l2 : Int32) (w_3m0 : (Nat → Int32)) (H : Heap) (locs : List Loc) (ls : Array Slot), va_P D classes [(h, .inr (10, ML G Rf)), ((Rf 0), .inl (cI, 1302, .inl w_3m0)), ((Rf 9), .inl (cI, 6, .inl f9))] H → va_D A [(h, .inr (10, ML G Rf)), ((Rf 0), .inl (cI, 1302, .inl w_3m0)), ((Rf 9), .inl (cI, 6, .inl f9))] → va_S A s.heap H locs → lv_has ls 3 [(2, .int w_3l2), (1, .int (f0 (41 : Int32).toNatClampNeg)), (0, .ref h)] → (S_m_begins_81  (fun (w_3l2 : Int32) (w_3m0 : (Nat → Int32)) => True) n_w_3 w_3l2 w_3m0) → ((7 : Int32).toInt - (w_3l2 : Int32).toInt).toNat < n_w_3 → ((match ((f_m_begins_81  n_w_3 w_3l2 w_3m0) : Int32 × (Nat → Int32)) with | (w_3l2, w_3m0) => (upd w_3m0 (41 : Int32).toNatClampNeg (f0 (41 : Int32).toNatClampNeg))) : (Nat → Int32)) = RES → W p l e rm_m_begins s m args below meth c H locs 0 0 Q (F0 m 81 ls []) := by
        intro n_w_3
        induction n_w_3 with
        | zero => intro w_3l2 w_3m0 H locs ls hP hD hS hl hF hm; exact absurd hm (Nat.not_lt_zero _)
        | succ n_w_3 ih_w_3 =>
          intro w_3l2 w_3m0 H locs ls hP hD hS hl hF hm hE
          rw [S_m_begins_81_s] at hF
          rw [f_m_begins_81_s] at hE
          refine lv_iload_n hx hb dX10_begins_81 rfl (lv_at hl 0 rfl) ?_
          refine lv_bipush (v := 7) hx hb dX10_begins_82 (by decide) ?_
          refine lv_icmp_ge (tgt := 113) hx hb dX10_begins_84 (by decide) (fun c_4 => ?_) (fun c_4 => ?_)
          · replace hF := hF.1 c_4
            rw [if_pos c_4] at hE
            exact ex_81_w_3 w_3l2 w_3m0 _ _ ls hP hD hS (lv_sub hl [0, 1, 2] rfl) hF hE
          · replace hF := hF.2 c_4
            rw [if_neg c_4] at hE
            refine lv_aload_n hx hb dX10_begins_87 rfl (lv_at hl 2 rfl) ?_
            refine va_get (D := D) (ci := 10) (v := .ref (Rf 0)) (C := RX10) (T := TX10) (N := 45) hx hb hts iX10 hown hK hP 0 rfl rfl 0 (by decide) (hts _ wd_491) (fun _ h9 => h9) rfl dX10_begins_88 ?_
            refine lv_bipush (v := 27) hx hb dX10_begins_91 (by decide) ?_
            refine lv_iload_n hx hb dX10_begins_93 rfl (lv_at hl 0 rfl) ?_
            refine lv_iadd hx hb dX10_begins_94 ?_
            refine lv_iconst (v := (-1)) hx hb dX10_begins_95 (by decide) ?_
            obtain ⟨hv_5, hF⟩ := hF
            refine va_iast hx hb hK hP hD hS 1 0 rfl rfl hv_5 dX10_begins_96 (fun H locs hP hD hS => ?_)
            have hP : va_P D classes [(h, .inr (10, ML G Rf)), ((Rf 0), .inl (cI, 1302, .inl (upd w_3m0 ((27 + w_3l2) : Int32).toNatClampNeg (-1)))), ((Rf 9), .inl (cI, 6, .inl f9))] H := hP
            have hD : va_D A [(h, .inr (10, ML G Rf)), ((Rf 0), .inl (cI, 1302, .inl (upd w_3m0 ((27 + w_3l2) : Int32).toNatClampNeg (-1)))), ((Rf 9), .inl (cI, 6, .inl f9))] := hD
            refine lv_aload_n hx hb dX10_begins_97 rfl (lv_at hl 2 rfl) ?_
            refine va_get (D := D) (ci := 10) (v := .ref (Rf 0)) (C := RX10) (T := TX10) (N := 45) hx hb hts iX10 hown hK hP 0 rfl rfl 0 (by decide) (hts _ wd_491) (fun _ h9 => h9) rfl dX10_begins_98 ?_
            refine lv_bipush (v := 34) hx hb dX10_begins_101 (by decide) ?_
            refine lv_iload_n hx hb dX10_begins_103 rfl (lv_at hl 0 rfl) ?_
            refine lv_iadd hx hb dX10_begins_104 ?_
            refine lv_iconst (v := (-1)) hx hb dX10_begins_105 (by decide) ?_
            obtain ⟨hv_6, hF⟩ := hF
            refine va_iast hx hb hK hP hD hS 1 0 rfl rfl hv_6 dX10_begins_106 (fun H locs hP hD hS => ?_)
            have hP : va_P D classes [(h, .inr (10, ML G Rf)), ((Rf 0), .inl (cI, 1302, .inl (upd (upd w_3m0 ((27 + w_3l2) : Int32).toNatClampNeg (-1)) ((34 + w_3l2) : Int32).toNatClampNeg (-1)))), ((Rf 9), .inl (cI, 6, .inl f9))] H := hP
            have hD : va_D A [(h, .inr (10, ML G Rf)), ((Rf 0), .inl (cI, 1302, .inl (upd (upd w_3m0 ((27 + w_3l2) : Int32).toNatClampNeg (-1)) ((34 + w_3l2) : Int32).toNatClampNeg (-1)))), ((Rf 9), .inl (cI, 6, .inl f9))] := hD
            refine lv_iinc (v := (w_3l2 + 1)) (lv' := [(2, .int (w_3l2 + 1)), (1, .int (f0 (41 : Int32).toNatClampNeg)), (0, .ref h)]) hx hb dX10_begins_107 hl (k := 0) rfl rfl (by decide) rfl (fun ls hl => ?_)
            refine lv_goto (tgt := 81) hx hb dX10_begins_110 (by decide) ?_
            exact ih_w_3 (w_3l2 + 1) (upd (upd w_3m0 ((27 + w_3l2) : Int32).toNatClampNeg (-1)) ((34 + w_3l2) : Int32).toNatClampNeg (-1)) _ _ ls hP hD hS (lv_sub hl [0, 1, 2] rfl) hF (up_step c_4 hm) hE
      exact lp_81_w_3 (((7 : Int32).toInt - (0 : Int32).toInt).toNat + 1) 0 w_2m0 _ _ ls hP hD hS hl hF (Nat.lt_succ_self _) hE
    have lp_31_w_2 : ∀ (n_w_2 : Nat) (w_2l2 : Int32) (w_2m0 : (Nat → Int32)) (H : Heap) (locs : List Loc) (ls : Array Slot), va_P D classes [(h, .inr (10, ML G Rf)), ((Rf 0), .inl (cI, 1302, .inl w_2m0)), ((Rf 9), .inl (cI, 6, .inl f9))] H → va_D A [(h, .inr (10, ML G Rf)), ((Rf 0), .inl (cI, 1302, .inl w_2m0)), ((Rf 9), .inl (cI, 6, .inl f9))] → va_S A s.heap H locs → lv_has ls 3 [(2, .int w_2l2), (1, .int (f0 (41 : Int32).toNatClampNeg)), (0, .ref h)] → (S_m_begins_31 G f9 (fun (w_2l2 : Int32) (w_2m0 : (Nat → Int32)) => (S_m_begins_81  (fun (w_3l2 : Int32) (w_3m0 : (Nat → Int32)) => True) (((7 : Int32).toInt - (0 : Int32).toInt).toNat + 1) 0 w_2m0)) n_w_2 w_2l2 w_2m0) → ((6 : Int32).toInt - (w_2l2 : Int32).toInt).toNat < n_w_2 → ((match ((f_m_begins_31 G f9 n_w_2 w_2l2 w_2m0) : Int32 × (Nat → Int32)) with | (w_2l2, w_2m0) => (match ((f_m_begins_81  (((7 : Int32).toInt - (0 : Int32).toInt).toNat + 1) 0 w_2m0) : Int32 × (Nat → Int32)) with | (w_3l2, w_3m0) => (upd w_3m0 (41 : Int32).toNatClampNeg (f0 (41 : Int32).toNatClampNeg)))) : (Nat → Int32)) = RES → W p l e rm_m_begins s m args below meth c H locs 0 0 Q (F0 m 31 ls []) := by
      intro n_w_2
      induction n_w_2 with
      | zero => intro w_2l2 w_2m0 H locs ls hP hD hS hl hF hm; exact absurd hm (Nat.not_lt_zero _)
      | succ n_w_2 ih_w_2 =>
        intro w_2l2 w_2m0 H locs ls hP hD hS hl hF hm hE
        rw [S_m_begins_31_s] at hF
        rw [f_m_begins_31_s] at hE
        refine lv_iload_n hx hb dX10_begins_31 rfl (lv_at hl 0 rfl) ?_
        refine lv_bipush (v := 6) hx hb dX10_begins_32 (by decide) ?_
        refine lv_icmp_ge (tgt := 79) hx hb dX10_begins_34 (by decide) (fun c_7 => ?_) (fun c_7 => ?_)
        · replace hF := hF.1 c_7
          rw [if_pos c_7] at hE
          exact ex_31_w_2 w_2l2 w_2m0 _ _ ls hP hD hS (lv_sub hl [0, 1, 2] rfl) hF hE
        · replace hF := hF.2 c_7
          rw [if_neg c_7] at hE
          refine lv_aload_n hx hb dX10_begins_37 rfl (lv_at hl 2 rfl) ?_
          refine va_get (D := D) (ci := 10) (v := .ref (Rf 0)) (C := RX10) (T := TX10) (N := 45) hx hb hts iX10 hown hK hP 0 rfl rfl 0 (by decide) (hts _ wd_491) (fun _ h9 => h9) rfl dX10_begins_38 ?_
          refine lv_iconst (v := 0) hx hb dX10_begins_41 (by decide) ?_
          refine lv_iload_n hx hb dX10_begins_42 rfl (lv_at hl 0 rfl) ?_
          refine lv_iadd hx hb dX10_begins_43 ?_
          refine lv_iload_n hx hb dX10_begins_44 rfl (lv_at hl 0 rfl) ?_
          refine lv_aload_n hx hb dX10_begins_45 rfl (lv_at hl 2 rfl) ?_
          refine va_get (D := D) (ci := 10) (v := .int (G 5)) (C := RX10) (T := TX10) (N := 45) hx hb hts iX10 hown hK hP 0 rfl rfl 5 (by decide) (hts _ wd_499) (fun _ h9 => h9) rfl dX10_begins_46 ?_
          refine lv_icmp_ge (tgt := 61) hx hb dX10_begins_49 (by decide) (fun c_8 => ?_) (fun c_8 => ?_)
          · replace hF := hF.1 c_8
            rw [if_pos c_8] at hE
            refine lv_iconst (v := 0) hx hb dX10_begins_61 (by decide) ?_
            obtain ⟨hv_9, hF⟩ := hF
            refine va_iast hx hb hK hP hD hS 1 0 rfl rfl hv_9 dX10_begins_62 (fun H locs hP hD hS => ?_)
            have hP : va_P D classes [(h, .inr (10, ML G Rf)), ((Rf 0), .inl (cI, 1302, .inl (upd w_2m0 ((0 + w_2l2) : Int32).toNatClampNeg 0))), ((Rf 9), .inl (cI, 6, .inl f9))] H := hP
            have hD : va_D A [(h, .inr (10, ML G Rf)), ((Rf 0), .inl (cI, 1302, .inl (upd w_2m0 ((0 + w_2l2) : Int32).toNatClampNeg 0))), ((Rf 9), .inl (cI, 6, .inl f9))] := hD
            refine lv_aload_n hx hb dX10_begins_63 rfl (lv_at hl 2 rfl) ?_
            refine va_get (D := D) (ci := 10) (v := .ref (Rf 0)) (C := RX10) (T := TX10) (N := 45) hx hb hts iX10 hown hK hP 0 rfl rfl 0 (by decide) (hts _ wd_491) (fun _ h9 => h9) rfl dX10_begins_64 ?_
            refine lv_bipush (v := 6) hx hb dX10_begins_67 (by decide) ?_
            refine lv_iload_n hx hb dX10_begins_69 rfl (lv_at hl 0 rfl) ?_
            refine lv_iadd hx hb dX10_begins_70 ?_
            refine lv_iconst (v := (-1)) hx hb dX10_begins_71 (by decide) ?_
            obtain ⟨hv_10, hF⟩ := hF
            refine va_iast hx hb hK hP hD hS 1 0 rfl rfl hv_10 dX10_begins_72 (fun H locs hP hD hS => ?_)
            have hP : va_P D classes [(h, .inr (10, ML G Rf)), ((Rf 0), .inl (cI, 1302, .inl (upd (upd w_2m0 ((0 + w_2l2) : Int32).toNatClampNeg 0) ((6 + w_2l2) : Int32).toNatClampNeg (-1)))), ((Rf 9), .inl (cI, 6, .inl f9))] H := hP
            have hD : va_D A [(h, .inr (10, ML G Rf)), ((Rf 0), .inl (cI, 1302, .inl (upd (upd w_2m0 ((0 + w_2l2) : Int32).toNatClampNeg 0) ((6 + w_2l2) : Int32).toNatClampNeg (-1)))), ((Rf 9), .inl (cI, 6, .inl f9))] := hD
            refine lv_iinc (v := (w_2l2 + 1)) (lv' := [(2, .int (w_2l2 + 1)), (1, .int (f0 (41 : Int32).toNatClampNeg)), (0, .ref h)]) hx hb dX10_begins_73 hl (k := 0) rfl rfl (by decide) rfl (fun ls hl => ?_)
            refine lv_goto (tgt := 31) hx hb dX10_begins_76 (by decide) ?_
            exact ih_w_2 (w_2l2 + 1) (upd (upd w_2m0 ((0 + w_2l2) : Int32).toNatClampNeg 0) ((6 + w_2l2) : Int32).toNatClampNeg (-1)) _ _ ls hP hD hS (lv_sub hl [0, 1, 2] rfl) hF (up_step c_7 hm) hE
          · replace hF := hF.2 c_8
            rw [if_neg c_8] at hE
            refine lv_aload_n hx hb dX10_begins_52 rfl (lv_at hl 2 rfl) ?_
            refine va_get (D := D) (ci := 10) (v := .ref (Rf 9)) (C := RX10) (T := TX10) (N := 45) hx hb hts iX10 hown hK hP 0 rfl rfl 9 (by decide) (hts _ wd_561) (fun _ h9 => h9) rfl dX10_begins_53 ?_
            refine lv_iload_n hx hb dX10_begins_56 rfl (lv_at hl 0 rfl) ?_
            obtain ⟨hv_11, hF⟩ := hF
            refine va_iald hx hb hK hP 2 0 rfl rfl hv_11 dX10_begins_57 ?_
            refine lv_goto (tgt := 62) hx hb dX10_begins_58 (by decide) ?_
            obtain ⟨hv_12, hF⟩ := hF
            refine va_iast hx hb hK hP hD hS 1 0 rfl rfl hv_12 dX10_begins_62 (fun H locs hP hD hS => ?_)
            have hP : va_P D classes [(h, .inr (10, ML G Rf)), ((Rf 0), .inl (cI, 1302, .inl (upd w_2m0 ((0 + w_2l2) : Int32).toNatClampNeg (f9 (w_2l2 : Int32).toNatClampNeg)))), ((Rf 9), .inl (cI, 6, .inl f9))] H := hP
            have hD : va_D A [(h, .inr (10, ML G Rf)), ((Rf 0), .inl (cI, 1302, .inl (upd w_2m0 ((0 + w_2l2) : Int32).toNatClampNeg (f9 (w_2l2 : Int32).toNatClampNeg)))), ((Rf 9), .inl (cI, 6, .inl f9))] := hD
            refine lv_aload_n hx hb dX10_begins_63 rfl (lv_at hl 2 rfl) ?_
            refine va_get (D := D) (ci := 10) (v := .ref (Rf 0)) (C := RX10) (T := TX10) (N := 45) hx hb hts iX10 hown hK hP 0 rfl rfl 0 (by decide) (hts _ wd_491) (fun _ h9 => h9) rfl dX10_begins_64 ?_
            refine lv_bipush (v := 6) hx hb dX10_begins_67 (by decide) ?_
            refine lv_iload_n hx hb dX10_begins_69 rfl (lv_at hl 0 rfl) ?_
            refine lv_iadd hx hb dX10_begins_70 ?_
            refine lv_iconst (v := (-1)) hx hb dX10_begins_71 (by decide) ?_
            obtain ⟨hv_13, hF⟩ := hF
            refine va_iast hx hb hK hP hD hS 1 0 rfl rfl hv_13 dX10_begins_72 (fun H locs hP hD hS => ?_)
            have hP : va_P D classes [(h, .inr (10, ML G Rf)), ((Rf 0), .inl (cI, 1302, .inl (upd (upd w_2m0 ((0 + w_2l2) : Int32).toNatClampNeg (f9 (w_2l2 : Int32).toNatClampNeg)) ((6 + w_2l2) : Int32).toNatClampNeg (-1)))), ((Rf 9), .inl (cI, 6, .inl f9))] H := hP
            have hD : va_D A [(h, .inr (10, ML G Rf)), ((Rf 0), .inl (cI, 1302, .inl (upd (upd w_2m0 ((0 + w_2l2) : Int32).toNatClampNeg (f9 (w_2l2 : Int32).toNatClampNeg)) ((6 + w_2l2) : Int32).toNatClampNeg (-1)))), ((Rf 9), .inl (cI, 6, .inl f9))] := hD
            refine lv_iinc (v := (w_2l2 + 1)) (lv' := [(2, .int (w_2l2 + 1)), (1, .int (f0 (41 : Int32).toNatClampNeg)), (0, .ref h)]) hx hb dX10_begins_73 hl (k := 0) rfl rfl (by decide) rfl (fun ls hl => ?_)
            refine lv_goto (tgt := 31) hx hb dX10_begins_76 (by decide) ?_
            exact ih_w_2 (w_2l2 + 1) (upd (upd w_2m0 ((0 + w_2l2) : Int32).toNatClampNeg (f9 (w_2l2 : Int32).toNatClampNeg)) ((6 + w_2l2) : Int32).toNatClampNeg (-1)) _ _ ls hP hD hS (lv_sub hl [0, 1, 2] rfl) hF (up_step c_7 hm) hE
    exact lp_31_w_2 (((6 : Int32).toInt - (0 : Int32).toInt).toNat + 1) 0 w_1m0 _ _ ls hP hD hS hl hF (Nat.lt_succ_self _) hE
  have lp_10_w_1 : ∀ (n_w_1 : Nat) (w_1l2 : Int32) (w_1m0 : (Nat → Int32)) (H : Heap) (locs : List Loc) (ls : Array Slot), va_P D classes [(h, .inr (10, ML G Rf)), ((Rf 0), .inl (cI, 1302, .inl w_1m0)), ((Rf 9), .inl (cI, 6, .inl f9))] H → va_D A [(h, .inr (10, ML G Rf)), ((Rf 0), .inl (cI, 1302, .inl w_1m0)), ((Rf 9), .inl (cI, 6, .inl f9))] → va_S A s.heap H locs → lv_has ls 3 [(2, .int w_1l2), (1, .int (f0 (41 : Int32).toNatClampNeg)), (0, .ref h)] → (S_m_begins_10  (fun (w_1l2 : Int32) (w_1m0 : (Nat → Int32)) => (S_m_begins_31 G f9 (fun (w_2l2 : Int32) (w_2m0 : (Nat → Int32)) => (S_m_begins_81  (fun (w_3l2 : Int32) (w_3m0 : (Nat → Int32)) => True) (((7 : Int32).toInt - (0 : Int32).toInt).toNat + 1) 0 w_2m0)) (((6 : Int32).toInt - (0 : Int32).toInt).toNat + 1) 0 w_1m0)) n_w_1 w_1l2 w_1m0) → ((42 : Int32).toInt - (w_1l2 : Int32).toInt).toNat < n_w_1 → ((match ((f_m_begins_10  n_w_1 w_1l2 w_1m0) : Int32 × (Nat → Int32)) with | (w_1l2, w_1m0) => (match ((f_m_begins_31 G f9 (((6 : Int32).toInt - (0 : Int32).toInt).toNat + 1) 0 w_1m0) : Int32 × (Nat → Int32)) with | (w_2l2, w_2m0) => (match ((f_m_begins_81  (((7 : Int32).toInt - (0 : Int32).toInt).toNat + 1) 0 w_2m0) : Int32 × (Nat → Int32)) with | (w_3l2, w_3m0) => (upd w_3m0 (41 : Int32).toNatClampNeg (f0 (41 : Int32).toNatClampNeg))))) : (Nat → Int32)) = RES → W p l e rm_m_begins s m args below meth c H locs 0 0 Q (F0 m 10 ls []) := by
    intro n_w_1
    induction n_w_1 with
    | zero => intro w_1l2 w_1m0 H locs ls hP hD hS hl hF hm; exact absurd hm (Nat.not_lt_zero _)
    | succ n_w_1 ih_w_1 =>
      intro w_1l2 w_1m0 H locs ls hP hD hS hl hF hm hE
      rw [S_m_begins_10_s] at hF
      rw [f_m_begins_10_s] at hE
      refine lv_iload_n hx hb dX10_begins_10 rfl (lv_at hl 0 rfl) ?_
      refine lv_bipush (v := 42) hx hb dX10_begins_11 (by decide) ?_
      refine lv_icmp_ge (tgt := 29) hx hb dX10_begins_13 (by decide) (fun c_14 => ?_) (fun c_14 => ?_)
      · replace hF := hF.1 c_14
        rw [if_pos c_14] at hE
        exact ex_10_w_1 w_1l2 w_1m0 _ _ ls hP hD hS (lv_sub hl [0, 1, 2] rfl) hF hE
      · replace hF := hF.2 c_14
        rw [if_neg c_14] at hE
        refine lv_aload_n hx hb dX10_begins_16 rfl (lv_at hl 2 rfl) ?_
        refine va_get (D := D) (ci := 10) (v := .ref (Rf 0)) (C := RX10) (T := TX10) (N := 45) hx hb hts iX10 hown hK hP 0 rfl rfl 0 (by decide) (hts _ wd_491) (fun _ h9 => h9) rfl dX10_begins_17 ?_
        refine lv_iload_n hx hb dX10_begins_20 rfl (lv_at hl 0 rfl) ?_
        refine lv_iconst (v := 0) hx hb dX10_begins_21 (by decide) ?_
        obtain ⟨hv_15, hF⟩ := hF
        refine va_iast hx hb hK hP hD hS 1 0 rfl rfl hv_15 dX10_begins_22 (fun H locs hP hD hS => ?_)
        have hP : va_P D classes [(h, .inr (10, ML G Rf)), ((Rf 0), .inl (cI, 1302, .inl (upd w_1m0 (w_1l2 : Int32).toNatClampNeg 0))), ((Rf 9), .inl (cI, 6, .inl f9))] H := hP
        have hD : va_D A [(h, .inr (10, ML G Rf)), ((Rf 0), .inl (cI, 1302, .inl (upd w_1m0 (w_1l2 : Int32).toNatClampNeg 0))), ((Rf 9), .inl (cI, 6, .inl f9))] := hD
        refine lv_iinc (v := (w_1l2 + 1)) (lv' := [(2, .int (w_1l2 + 1)), (1, .int (f0 (41 : Int32).toNatClampNeg)), (0, .ref h)]) hx hb dX10_begins_23 hl (k := 0) rfl rfl (by decide) rfl (fun ls hl => ?_)
        refine lv_goto (tgt := 10) hx hb dX10_begins_26 (by decide) ?_
        exact ih_w_1 (w_1l2 + 1) (upd w_1m0 (w_1l2 : Int32).toNatClampNeg 0) _ _ ls hP hD hS (lv_sub hl [0, 1, 2] rfl) hF (up_step c_14 hm) hE
  exact lp_10_w_1 (((42 : Int32).toInt - (0 : Int32).toInt).toNat + 1) 0 f0 _ _ ls hP hD hS hl hF (Nat.lt_succ_self _) hE
