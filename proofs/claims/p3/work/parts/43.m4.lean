theorem dX10_takesNumber_0 : decode cX10_takesNumber 0 = .ok (.aload_n 0, 1) := by decide +kernel
theorem dX10_takesNumber_1 : decode cX10_takesNumber 1 = .ok (.invokevirtual 111, 3) := by decide +kernel
theorem dX10_takesNumber_4 : decode cX10_takesNumber 4 = .ok (.i2l, 1) := by decide +kernel
theorem wd_524 : Cond.constantLong RX10 119 (48) ∈ BG := BG_at 958 (by decide +kernel) rfl
theorem dX10_takesNumber_5 : decode cX10_takesNumber 5 = .ok (.ldc2_w 119, 3) := by decide +kernel
theorem wd_525 : Cond.constantLong RX10 121 (57) ∈ BG := BG_at 959 (by decide +kernel) rfl
theorem dX10_takesNumber_8 : decode cX10_takesNumber 8 = .ok (.ldc2_w 121, 3) := by decide +kernel
theorem dX10_takesNumber_11 : decode cX10_takesNumber 11 = .ok (.invokestatic 84, 3) := by decide +kernel
theorem dX10_takesNumber_14 : decode cX10_takesNumber 14 = .ok (.ifCond .ne 13, 3) := by decide +kernel
theorem dX10_takesNumber_27 : decode cX10_takesNumber 27 = .ok (.aload_n 0, 1) := by decide +kernel
theorem dX10_takesNumber_28 : decode cX10_takesNumber 28 = .ok (.iconst 0, 1) := by decide +kernel
theorem wd_526 : Cond.fieldLink RX10 123 "QuarrelBridgesModel" "number" "I" ∈ BG := BG_at 800 (by decide +kernel) rfl
theorem dX10_takesNumber_29 : decode cX10_takesNumber 29 = .ok (.putfield 123, 3) := by decide +kernel
theorem dX10_takesNumber_109 : decode cX10_takesNumber 109 = .ok (.aload_n 0, 1) := by decide +kernel
theorem dX10_takesNumber_110 : decode cX10_takesNumber 110 = .ok (.getfield 98, 3) := by decide +kernel
theorem dX10_takesNumber_113 : decode cX10_takesNumber 113 = .ok (.aload_n 0, 1) := by decide +kernel
theorem dX10_takesNumber_114 : decode cX10_takesNumber 114 = .ok (.getfield 105, 3) := by decide +kernel
theorem dX10_takesNumber_117 : decode cX10_takesNumber 117 = .ok (.isub, 1) := by decide +kernel
theorem dX10_takesNumber_118 : decode cX10_takesNumber 118 = .ok (.iconst 4, 1) := by decide +kernel
theorem dX10_takesNumber_119 : decode cX10_takesNumber 119 = .ok (.if_icmp .ge 18, 3) := by decide +kernel
theorem dX10_takesNumber_137 : decode cX10_takesNumber 137 = .ok (.aload_n 0, 1) := by decide +kernel
theorem dX10_takesNumber_138 : decode cX10_takesNumber 138 = .ok (.iconst 2, 1) := by decide +kernel
theorem dX10_takesNumber_139 : decode cX10_takesNumber 139 = .ok (.aload_n 0, 1) := by decide +kernel
theorem dX10_takesNumber_140 : decode cX10_takesNumber 140 = .ok (.getfield 105, 3) := by decide +kernel
theorem dX10_takesNumber_143 : decode cX10_takesNumber 143 = .ok (.invokevirtual 115, 3) := by decide +kernel
theorem dX10_takesNumber_146 : decode cX10_takesNumber 146 = .ok (.ifCond .eq 7, 3) := by decide +kernel
theorem dX10_takesNumber_153 : decode cX10_takesNumber 153 = .ok (.iconst 0, 1) := by decide +kernel
theorem dX10_takesNumber_154 : decode cX10_takesNumber 154 = .ok (.ireturn, 1) := by decide +kernel
theorem dX10_takesNumber_149 : decode cX10_takesNumber 149 = .ok (.iconst 1, 1) := by decide +kernel
theorem dX10_takesNumber_150 : decode cX10_takesNumber 150 = .ok (.goto 4, 3) := by decide +kernel
theorem dX10_takesNumber_122 : decode cX10_takesNumber 122 = .ok (.aload_n 0, 1) := by decide +kernel
theorem dX10_takesNumber_123 : decode cX10_takesNumber 123 = .ok (.getfield 123, 3) := by decide +kernel
theorem dX10_takesNumber_126 : decode cX10_takesNumber 126 = .ok (.i2l, 1) := by decide +kernel
theorem dX10_takesNumber_127 : decode cX10_takesNumber 127 = .ok (.iload_n 1, 1) := by decide +kernel
theorem dX10_takesNumber_128 : decode cX10_takesNumber 128 = .ok (.i2l, 1) := by decide +kernel
theorem dX10_takesNumber_129 : decode cX10_takesNumber 129 = .ok (.iload_n 2, 1) := by decide +kernel
theorem dX10_takesNumber_130 : decode cX10_takesNumber 130 = .ok (.i2l, 1) := by decide +kernel
theorem dX10_takesNumber_131 : decode cX10_takesNumber 131 = .ok (.invokestatic 84, 3) := by decide +kernel
theorem dX10_takesNumber_134 : decode cX10_takesNumber 134 = .ok (.ifCond .ne 15, 3) := by decide +kernel
theorem dX10_takesNumber_32 : decode cX10_takesNumber 32 = .ok (.aload_n 0, 1) := by decide +kernel
theorem dX10_takesNumber_33 : decode cX10_takesNumber 33 = .ok (.aload_n 0, 1) := by decide +kernel
theorem dX10_takesNumber_34 : decode cX10_takesNumber 34 = .ok (.getfield 98, 3) := by decide +kernel
theorem dX10_takesNumber_37 : decode cX10_takesNumber 37 = .ok (.invokevirtual 101, 3) := by decide +kernel
theorem dX10_takesNumber_40 : decode cX10_takesNumber 40 = .ok (.i2l, 1) := by decide +kernel
theorem dX10_takesNumber_41 : decode cX10_takesNumber 41 = .ok (.ldc2_w 119, 3) := by decide +kernel
theorem dX10_takesNumber_44 : decode cX10_takesNumber 44 = .ok (.ldc2_w 121, 3) := by decide +kernel
theorem dX10_takesNumber_47 : decode cX10_takesNumber 47 = .ok (.invokestatic 84, 3) := by decide +kernel
theorem dX10_takesNumber_50 : decode cX10_takesNumber 50 = .ok (.ifCond .eq 59, 3) := by decide +kernel
theorem dX10_takesNumber_53 : decode cX10_takesNumber 53 = .ok (.aload_n 0, 1) := by decide +kernel
theorem dX10_takesNumber_54 : decode cX10_takesNumber 54 = .ok (.aload_n 0, 1) := by decide +kernel
theorem dX10_takesNumber_55 : decode cX10_takesNumber 55 = .ok (.getfield 98, 3) := by decide +kernel
theorem dX10_takesNumber_58 : decode cX10_takesNumber 58 = .ok (.aload_n 0, 1) := by decide +kernel
theorem dX10_takesNumber_59 : decode cX10_takesNumber 59 = .ok (.getfield 105, 3) := by decide +kernel
theorem dX10_takesNumber_62 : decode cX10_takesNumber 62 = .ok (.isub, 1) := by decide +kernel
theorem dX10_takesNumber_63 : decode cX10_takesNumber 63 = .ok (.iconst 3, 1) := by decide +kernel
theorem dX10_takesNumber_64 : decode cX10_takesNumber 64 = .ok (.if_icmp .ge 25, 3) := by decide +kernel
theorem dX10_takesNumber_89 : decode cX10_takesNumber 89 = .ok (.aload_n 0, 1) := by decide +kernel
theorem dX10_takesNumber_90 : decode cX10_takesNumber 90 = .ok (.getfield 123, 3) := by decide +kernel
theorem dX10_takesNumber_93 : decode cX10_takesNumber 93 = .ok (.putfield 123, 3) := by decide +kernel
theorem dX10_takesNumber_96 : decode cX10_takesNumber 96 = .ok (.aload_n 0, 1) := by decide +kernel
theorem dX10_takesNumber_97 : decode cX10_takesNumber 97 = .ok (.dup, 1) := by decide +kernel
theorem dX10_takesNumber_98 : decode cX10_takesNumber 98 = .ok (.getfield 98, 3) := by decide +kernel
theorem dX10_takesNumber_101 : decode cX10_takesNumber 101 = .ok (.iconst 1, 1) := by decide +kernel
theorem dX10_takesNumber_102 : decode cX10_takesNumber 102 = .ok (.iadd, 1) := by decide +kernel
theorem dX10_takesNumber_103 : decode cX10_takesNumber 103 = .ok (.putfield 98, 3) := by decide +kernel
theorem dX10_takesNumber_106 : decode cX10_takesNumber 106 = .ok (.goto (-74), 3) := by decide +kernel
theorem dX10_takesNumber_67 : decode cX10_takesNumber 67 = .ok (.bipush 10, 2) := by decide +kernel
theorem dX10_takesNumber_69 : decode cX10_takesNumber 69 = .ok (.aload_n 0, 1) := by decide +kernel
theorem dX10_takesNumber_70 : decode cX10_takesNumber 70 = .ok (.getfield 123, 3) := by decide +kernel
theorem dX10_takesNumber_73 : decode cX10_takesNumber 73 = .ok (.imul, 1) := by decide +kernel
theorem dX10_takesNumber_74 : decode cX10_takesNumber 74 = .ok (.aload_n 0, 1) := by decide +kernel
theorem dX10_takesNumber_75 : decode cX10_takesNumber 75 = .ok (.aload_n 0, 1) := by decide +kernel
theorem dX10_takesNumber_76 : decode cX10_takesNumber 76 = .ok (.getfield 98, 3) := by decide +kernel
theorem dX10_takesNumber_79 : decode cX10_takesNumber 79 = .ok (.invokevirtual 101, 3) := by decide +kernel
theorem dX10_takesNumber_82 : decode cX10_takesNumber 82 = .ok (.iadd, 1) := by decide +kernel
theorem dX10_takesNumber_83 : decode cX10_takesNumber 83 = .ok (.bipush 48, 2) := by decide +kernel
theorem dX10_takesNumber_85 : decode cX10_takesNumber 85 = .ok (.isub, 1) := by decide +kernel
theorem dX10_takesNumber_86 : decode cX10_takesNumber 86 = .ok (.goto 7, 3) := by decide +kernel
theorem dX10_takesNumber_17 : decode cX10_takesNumber 17 = .ok (.aload_n 0, 1) := by decide +kernel
theorem dX10_takesNumber_18 : decode cX10_takesNumber 18 = .ok (.iconst 1, 1) := by decide +kernel
theorem dX10_takesNumber_19 : decode cX10_takesNumber 19 = .ok (.aload_n 0, 1) := by decide +kernel
theorem dX10_takesNumber_20 : decode cX10_takesNumber 20 = .ok (.getfield 105, 3) := by decide +kernel
theorem dX10_takesNumber_23 : decode cX10_takesNumber 23 = .ok (.invokevirtual 115, 3) := by decide +kernel
theorem dX10_takesNumber_26 : decode cX10_takesNumber 26 = .ok (.ireturn, 1) := by decide +kernel
noncomputable def f_m_takesNumber_32 (f13 : Nat → Int32) (n : Nat) : (Nat → Int32) → (Nat → Int32) := Nat.rec (motive := fun _ => (Nat → Int32) → (Nat → Int32)) (fun w_8m0 => w_8m0) (fun n ih w_8m0 => (if (f_m_in (((f_m_letterAt w_8m0 f13 (w_8m0 15))).toInt64) 48 57) = 0 then w_8m0 else (if 3 ≤ ((w_8m0 15) - (w_8m0 16)) then (ih (upd (upd w_8m0 17 (w_8m0 17)) 15 ((w_8m0 15) + 1))) else (ih (upd (upd w_8m0 17 (((10 * (w_8m0 17)) + (f_m_letterAt w_8m0 f13 (w_8m0 15))) - 48)) 15 ((w_8m0 15) + 1)))))) n
theorem f_m_takesNumber_32_s (f13 : Nat → Int32) (n : Nat) (w_8m0 : (Nat → Int32)) : f_m_takesNumber_32 f13 (n + 1) w_8m0 = (if (f_m_in (((f_m_letterAt w_8m0 f13 (w_8m0 15))).toInt64) 48 57) = 0 then w_8m0 else (if 3 ≤ ((w_8m0 15) - (w_8m0 16)) then (f_m_takesNumber_32 f13 n (upd (upd w_8m0 17 (w_8m0 17)) 15 ((w_8m0 15) + 1))) else (f_m_takesNumber_32 f13 n (upd (upd w_8m0 17 (((10 * (w_8m0 17)) + (f_m_letterAt w_8m0 f13 (w_8m0 15))) - 48)) 15 ((w_8m0 15) + 1))))) := rfl
def S_m_takesNumber_32 (f13 : Nat → Int32) (K : (Nat → Int32) → Prop) (n : Nat) : (Nat → Int32) → Prop := Nat.rec (motive := fun _ => (Nat → Int32) → Prop) (fun _ => False) (fun n ih w_8m0 => ((S_m_letterAt w_8m0 f13 (w_8m0 15)) ∧ ((S_m_in (((f_m_letterAt w_8m0 f13 (w_8m0 15))).toInt64) 48 57) ∧ (((f_m_in (((f_m_letterAt w_8m0 f13 (w_8m0 15))).toInt64) 48 57) = 0 → (K w_8m0)) ∧ (¬ (f_m_in (((f_m_letterAt w_8m0 f13 (w_8m0 15))).toInt64) 48 57) = 0 → ((3 ≤ ((w_8m0 15) - (w_8m0 16)) → (ih (upd (upd w_8m0 17 (w_8m0 17)) 15 ((w_8m0 15) + 1)))) ∧ (¬ 3 ≤ ((w_8m0 15) - (w_8m0 16)) → ((S_m_letterAt w_8m0 f13 (w_8m0 15)) ∧ (ih (upd (upd w_8m0 17 (((10 * (w_8m0 17)) + (f_m_letterAt w_8m0 f13 (w_8m0 15))) - 48)) 15 ((w_8m0 15) + 1))))))))))) n
theorem S_m_takesNumber_32_s (f13 : Nat → Int32) (K : (Nat → Int32) → Prop) (n : Nat) (w_8m0 : (Nat → Int32)) : S_m_takesNumber_32 f13 K (n + 1) w_8m0 = (((S_m_letterAt w_8m0 f13 (w_8m0 15)) ∧ ((S_m_in (((f_m_letterAt w_8m0 f13 (w_8m0 15))).toInt64) 48 57) ∧ (((f_m_in (((f_m_letterAt w_8m0 f13 (w_8m0 15))).toInt64) 48 57) = 0 → (K w_8m0)) ∧ (¬ (f_m_in (((f_m_letterAt w_8m0 f13 (w_8m0 15))).toInt64) 48 57) = 0 → ((3 ≤ ((w_8m0 15) - (w_8m0 16)) → (S_m_takesNumber_32 f13 K n (upd (upd w_8m0 17 (w_8m0 17)) 15 ((w_8m0 15) + 1)))) ∧ (¬ 3 ≤ ((w_8m0 15) - (w_8m0 16)) → ((S_m_letterAt w_8m0 f13 (w_8m0 15)) ∧ (S_m_takesNumber_32 f13 K n (upd (upd w_8m0 17 (((10 * (w_8m0 17)) + (f_m_letterAt w_8m0 f13 (w_8m0 15))) - 48)) 15 ((w_8m0 15) + 1))))))))))) := rfl
noncomputable def f_m_takesNumber (G : Nat → Int32) (f13 : Nat → Int32) (lo_ : Int32) (hi_ : Int32) : Int32 × (Nat → Int32) := (match (f_m_here G f13) with | (r_3, u_2) => (if (f_m_in r_3.toInt64 48 57) = 0 then (match (f_m_fails u_2 1 (u_2 16)) with | (r_35, u_34) => (r_35, u_34)) else (match ((f_m_takesNumber_32 f13 300 (upd u_2 17 0)) : (Nat → Int32)) with | w_8m0 => (if 4 ≤ ((w_8m0 15) - (w_8m0 16)) then (match (f_m_fails w_8m0 2 (w_8m0 16)) with | (r_12, u_11) => (if r_12 = 0 then (0, u_11) else (1, u_11))) else (if (f_m_in (((w_8m0 17)).toInt64) lo_.toInt64 hi_.toInt64) = 0 then (match (f_m_fails w_8m0 2 (w_8m0 16)) with | (r_20, u_19) => (if r_20 = 0 then (0, u_19) else (1, u_19))) else (1, w_8m0))))))
def S_m_takesNumber (G : Nat → Int32) (f13 : Nat → Int32) (lo_ : Int32) (hi_ : Int32) : Prop := ((S_m_here G f13) ∧ (∀ (r_3 : Int32) (u_2 : (Nat → Int32)), (r_3, u_2) = (f_m_here G f13) → ((S_m_in r_3.toInt64 48 57) ∧ (((f_m_in r_3.toInt64 48 57) = 0 → ((S_m_fails u_2 1 (u_2 16)) ∧ (∀ (r_35 : Int32) (u_34 : (Nat → Int32)), (r_35, u_34) = (f_m_fails u_2 1 (u_2 16)) → True))) ∧ (¬ (f_m_in r_3.toInt64 48 57) = 0 → (S_m_takesNumber_32 f13 (fun (w_8m0 : (Nat → Int32)) => ((4 ≤ ((w_8m0 15) - (w_8m0 16)) → ((S_m_fails w_8m0 2 (w_8m0 16)) ∧ (∀ (r_12 : Int32) (u_11 : (Nat → Int32)), (r_12, u_11) = (f_m_fails w_8m0 2 (w_8m0 16)) → ((r_12 = 0 → True) ∧ (¬ r_12 = 0 → True))))) ∧ (¬ 4 ≤ ((w_8m0 15) - (w_8m0 16)) → ((S_m_in (((w_8m0 17)).toInt64) lo_.toInt64 hi_.toInt64) ∧ (((f_m_in (((w_8m0 17)).toInt64) lo_.toInt64 hi_.toInt64) = 0 → ((S_m_fails w_8m0 2 (w_8m0 16)) ∧ (∀ (r_20 : Int32) (u_19 : (Nat → Int32)), (r_20, u_19) = (f_m_fails w_8m0 2 (w_8m0 16)) → ((r_20 = 0 → True) ∧ (¬ r_20 = 0 → True))))) ∧ (¬ (f_m_in (((w_8m0 17)).toInt64) lo_.toInt64 hi_.toInt64) = 0 → True)))))) 300 (upd u_2 17 0)))))))
def rm_m_takesNumber : Room := { frames := 2, cells := 0, slots := 0, locals := 41 }
set_option maxHeartbeats 4000000 in
set_option maxRecDepth 100000 in
theorem m_takesNumber {l : Launch} {D : va_G} {cI cZ : ClassId} {sz : Nat} (Rf : Nat → Nat) (h : Nat) (G : Nat → Int32) (f13 : Nat → Int32) (lo_ : Int32) (hi_ : Int32) (hF : S_m_takesNumber G f13 lo_ hi_) : KI l yX10_takesNumber cX10_takesNumber 3 (some .boolean) rm_m_takesNumber D cI cZ [.ref h, .int lo_, .int hi_] sz [(h, .inr (10, ML G Rf)), ((Rf 13), .inl (cI, 240, .inl f13))] (fun (r : Int32) (u : (Nat → Int32)) => (r, u) = f_m_takesNumber G f13 lo_ hi_) (fun (u : (Nat → Int32)) => [(h, .inr (10, ML u Rf)), ((Rf 13), .inl (cI, 240, .inl f13))]) := by
  refine KI.go rfl (Nat.le_of_ble_eq_true rfl) ?_
  intro p e s m args below meth c ls A Q hx hb hml hts hown hin hP hK hD hS hA hN hl hret
  have hl : lv_has ls 3 [(0, .ref h), (1, .int lo_), (2, .int hi_)] := hl
  rw [S_m_takesNumber] at hF
  obtain ⟨RES, hE⟩ : ∃ xRES, f_m_takesNumber G f13 lo_ hi_ = xRES := ⟨_, rfl⟩
  rw [hE] at hret
  rw [f_m_takesNumber] at hE
  refine lv_aload_n hx hb dX10_takesNumber_0 rfl (lv_at hl 0 rfl) ?_
  obtain ⟨hs_1, hF⟩ := hF
  refine cVi (wr := []) (rest := []) (m_here Rf h G f13 hs_1) okV_X10_here wd_516 hx hb hml hown hts hK hP hD hS hA hN hl.1 [0, 1] [] rfl rfl rfl rfl (by decide) rfl rfl rfl (Nat.le_of_ble_eq_true rfl) (Nat.le_of_ble_eq_true rfl) (Nat.le_of_ble_eq_true rfl) (Nat.le_of_ble_eq_true rfl) (Nat.le_of_ble_eq_true rfl) dX10_takesNumber_1 (fun r_3 u_2 H locs hw_u_2 hP hD hS => ?_)
  replace hw_u_2 : (r_3, u_2) = (f_m_here G f13) := hw_u_2
  replace hF := hF r_3 u_2 hw_u_2
  rw [← hw_u_2] at hE
  replace hE : ((if (f_m_in r_3.toInt64 48 57) = 0 then (match (f_m_fails u_2 1 (u_2 16)) with | (r_35, u_34) => (r_35, u_34)) else (match ((f_m_takesNumber_32 f13 300 (upd u_2 17 0)) : (Nat → Int32)) with | w_8m0 => (if 4 ≤ ((w_8m0 15) - (w_8m0 16)) then (match (f_m_fails w_8m0 2 (w_8m0 16)) with | (r_12, u_11) => (if r_12 = 0 then (0, u_11) else (1, u_11))) else (if (f_m_in (((w_8m0 17)).toInt64) lo_.toInt64 hi_.toInt64) = 0 then (match (f_m_fails w_8m0 2 (w_8m0 16)) with | (r_20, u_19) => (if r_20 = 0 then (0, u_19) else (1, u_19))) else (1, w_8m0))))) : Int32 × (Nat → Int32)) = RES := hE
  have hP : va_P D classes [(h, .inr (10, ML u_2 Rf)), ((Rf 13), .inl (cI, 240, .inl f13))] H := hP
  have hD : va_D A [(h, .inr (10, ML u_2 Rf)), ((Rf 13), .inl (cI, 240, .inl f13))] := hD
  refine lv_i2l (v := r_3.toInt64) hx hb dX10_takesNumber_4 rfl ?_
  refine lv_ldc2 (v := 48) hx hb hown (hts _ wd_524) dX10_takesNumber_5 ?_
  refine lv_ldc2 (v := 57) hx hb hown (hts _ wd_525) dX10_takesNumber_8 ?_
  obtain ⟨hs_4, hF⟩ := hF
  refine cSi (wr := [(h, .inr (10, ML u_2 Rf)), ((Rf 13), .inl (cI, 240, .inl f13))]) (rest := []) (m_in r_3.toInt64 48 57 hs_4) okS_X10_in wd_495 hx hb hml hown hts hK hP hD hS hA hN hl.1 [] [0, 1] rfl rfl rfl rfl (by decide) rfl (Nat.le_of_ble_eq_true rfl) (Nat.le_of_ble_eq_true rfl) (Nat.le_of_ble_eq_true rfl) (Nat.le_of_ble_eq_true rfl) (Nat.le_of_ble_eq_true rfl) dX10_takesNumber_11 (fun r_6 u_5 H locs hw_u_5 hP hD hS => ?_)
  replace hw_u_5 : r_6 = (f_m_in r_3.toInt64 48 57) := hw_u_5
  rw [hw_u_5]
  clear hw_u_5
  have hP : va_P D classes [(h, .inr (10, ML u_2 Rf)), ((Rf 13), .inl (cI, 240, .inl f13))] H := hP
  have hD : va_D A [(h, .inr (10, ML u_2 Rf)), ((Rf 13), .inl (cI, 240, .inl f13))] := hD
  refine lv_if_ne (tgt := 27) hx hb dX10_takesNumber_14 (by decide) (fun c_7 => ?_) (fun c_7 => ?_)
  · replace hF := hF.2 c_7
    rw [if_neg c_7] at hE
    refine lv_aload_n hx hb dX10_takesNumber_27 rfl (lv_at hl 0 rfl) ?_
    refine lv_iconst (v := 0) hx hb dX10_takesNumber_28 (by decide) ?_
    refine va_put (D := D) (ci := 10) (v := .int 0) (ty := .int) (C := RX10) (T := TX10) (N := 45) hx hb hts iX10 tyX10 tyX10_ok nmX10 hown hK hP hD hS 0 rfl rfl 17 (by decide) (hts _ wd_526) (fun _ h9 => h9) rfl (by decide +kernel) rfl rfl (Nat.le_of_ble_eq_true rfl) dX10_takesNumber_29 (fun H locs hP hD hS => ?_)
    have hP : va_P D classes [(h, .inr (10, ML (upd u_2 17 0) Rf)), ((Rf 13), .inl (cI, 240, .inl f13))] H := hP
    have hD : va_D A [(h, .inr (10, ML (upd u_2 17 0) Rf)), ((Rf 13), .inl (cI, 240, .inl f13))] := hD
    have ex_32_w_8 : ∀ (w_8m0 : (Nat → Int32)) (H : Heap) (locs : List Loc) (ls : Array Slot), va_P D classes [(h, .inr (10, ML w_8m0 Rf)), ((Rf 13), .inl (cI, 240, .inl f13))] H → va_D A [(h, .inr (10, ML w_8m0 Rf)), ((Rf 13), .inl (cI, 240, .inl f13))] → va_S A s.heap H locs → lv_has ls 3 [(0, .ref h), (1, .int lo_), (2, .int hi_)] → (((4 ≤ ((w_8m0 15) - (w_8m0 16)) → ((S_m_fails w_8m0 2 (w_8m0 16)) ∧ (∀ (r_12 : Int32) (u_11 : (Nat → Int32)), (r_12, u_11) = (f_m_fails w_8m0 2 (w_8m0 16)) → ((r_12 = 0 → True) ∧ (¬ r_12 = 0 → True))))) ∧ (¬ 4 ≤ ((w_8m0 15) - (w_8m0 16)) → ((S_m_in (((w_8m0 17)).toInt64) lo_.toInt64 hi_.toInt64) ∧ (((f_m_in (((w_8m0 17)).toInt64) lo_.toInt64 hi_.toInt64) = 0 → ((S_m_fails w_8m0 2 (w_8m0 16)) ∧ (∀ (r_20 : Int32) (u_19 : (Nat → Int32)), (r_20, u_19) = (f_m_fails w_8m0 2 (w_8m0 16)) → ((r_20 = 0 → True) ∧ (¬ r_20 = 0 → True))))) ∧ (¬ (f_m_in (((w_8m0 17)).toInt64) lo_.toInt64 hi_.toInt64) = 0 → True)))))) → (((if 4 ≤ ((w_8m0 15) - (w_8m0 16)) then (match (f_m_fails w_8m0 2 (w_8m0 16)) with | (r_12, u_11) => (if r_12 = 0 then (0, u_11) else (1, u_11))) else (if (f_m_in (((w_8m0 17)).toInt64) lo_.toInt64 hi_.toInt64) = 0 then (match (f_m_fails w_8m0 2 (w_8m0 16)) with | (r_20, u_19) => (if r_20 = 0 then (0, u_19) else (1, u_19))) else (1, w_8m0)))) : Int32 × (Nat → Int32)) = RES → W p l e rm_m_takesNumber s m args below meth c H locs 0 0 Q (F0 m 109 ls []) := by
      intro w_8m0 H locs ls hP hD hS hl hF hE
      refine lv_aload_n hx hb dX10_takesNumber_109 rfl (lv_at hl 0 rfl) ?_
      refine va_get (D := D) (ci := 10) (v := .int (w_8m0 15)) (C := RX10) (T := TX10) (N := 45) hx hb hts iX10 hown hK hP 0 rfl rfl 15 (by decide) (hts _ wd_508) (fun _ h9 => h9) rfl dX10_takesNumber_110 ?_
      refine lv_aload_n hx hb dX10_takesNumber_113 rfl (lv_at hl 0 rfl) ?_
      refine va_get (D := D) (ci := 10) (v := .int (w_8m0 16)) (C := RX10) (T := TX10) (N := 45) hx hb hts iX10 hown hK hP 0 rfl rfl 16 (by decide) (hts _ wd_509) (fun _ h9 => h9) rfl dX10_takesNumber_114 ?_
      refine lv_isub hx hb dX10_takesNumber_117 ?_
      refine lv_iconst (v := 4) hx hb dX10_takesNumber_118 (by decide) ?_
      refine lv_icmp_ge (tgt := 137) hx hb dX10_takesNumber_119 (by decide) (fun c_9 => ?_) (fun c_9 => ?_)
      · replace hF := hF.1 c_9
        rw [if_pos c_9] at hE
        refine lv_aload_n hx hb dX10_takesNumber_137 rfl (lv_at hl 0 rfl) ?_
        refine lv_iconst (v := 2) hx hb dX10_takesNumber_138 (by decide) ?_
        refine lv_aload_n hx hb dX10_takesNumber_139 rfl (lv_at hl 0 rfl) ?_
        refine va_get (D := D) (ci := 10) (v := .int (w_8m0 16)) (C := RX10) (T := TX10) (N := 45) hx hb hts iX10 hown hK hP 0 rfl rfl 16 (by decide) (hts _ wd_509) (fun _ h9 => h9) rfl dX10_takesNumber_140 ?_
        obtain ⟨hs_10, hF⟩ := hF
        refine cVi (wr := [((Rf 13), .inl (cI, 240, .inl f13))]) (rest := []) (m_fails Rf h w_8m0 2 (w_8m0 16) hs_10) okV_X10_fails wd_520 hx hb hml hown hts hK hP hD hS hA hN hl.1 [0] [1] rfl rfl rfl rfl (by decide) rfl rfl rfl (Nat.le_of_ble_eq_true rfl) (Nat.le_of_ble_eq_true rfl) (Nat.le_of_ble_eq_true rfl) (Nat.le_of_ble_eq_true rfl) (Nat.le_of_ble_eq_true rfl) dX10_takesNumber_143 (fun r_12 u_11 H locs hw_u_11 hP hD hS => ?_)
        replace hw_u_11 : (r_12, u_11) = (f_m_fails w_8m0 2 (w_8m0 16)) := hw_u_11
        replace hF := hF r_12 u_11 hw_u_11
        rw [← hw_u_11] at hE
        replace hE : ((if r_12 = 0 then (0, u_11) else (1, u_11)) : Int32 × (Nat → Int32)) = RES := hE
        have hP : va_P D classes [((Rf 13), .inl (cI, 240, .inl f13)), (h, .inr (10, ML u_11 Rf))] H := hP
        have hD : va_D A [((Rf 13), .inl (cI, 240, .inl f13)), (h, .inr (10, ML u_11 Rf))] := hD
        refine lv_if_eq (tgt := 153) hx hb dX10_takesNumber_146 (by decide) (fun c_13 => ?_) (fun c_13 => ?_)
        · replace hF := hF.1 c_13
          rw [if_pos c_13] at hE
          subst c_13
          refine lv_iconst (v := 0) hx hb dX10_takesNumber_153 (by decide) ?_
          exact hret 0 u_11 _ _ _ _ dX10_takesNumber_154 rfl hE (cutP (isC := [1, 0]) hP rfl) (cutD (isC := [1, 0]) hD rfl rfl) hS
        · replace hF := hF.2 c_13
          rw [if_neg c_13] at hE
          refine lv_iconst (v := 1) hx hb dX10_takesNumber_149 (by decide) ?_
          refine lv_goto (tgt := 154) hx hb dX10_takesNumber_150 (by decide) ?_
          exact hret 1 u_11 _ _ _ _ dX10_takesNumber_154 rfl hE (cutP (isC := [1, 0]) hP rfl) (cutD (isC := [1, 0]) hD rfl rfl) hS
      · replace hF := hF.2 c_9
        rw [if_neg c_9] at hE
        refine lv_aload_n hx hb dX10_takesNumber_122 rfl (lv_at hl 0 rfl) ?_
        refine va_get (D := D) (ci := 10) (v := .int (w_8m0 17)) (C := RX10) (T := TX10) (N := 45) hx hb hts iX10 hown hK hP 0 rfl rfl 17 (by decide) (hts _ wd_526) (fun _ h9 => h9) rfl dX10_takesNumber_123 ?_
        refine lv_i2l (v := ((w_8m0 17)).toInt64) hx hb dX10_takesNumber_126 rfl ?_
        refine lv_iload_n hx hb dX10_takesNumber_127 rfl (lv_at hl 1 rfl) ?_
        refine lv_i2l (v := lo_.toInt64) hx hb dX10_takesNumber_128 rfl ?_
        refine lv_iload_n hx hb dX10_takesNumber_129 rfl (lv_at hl 2 rfl) ?_
        refine lv_i2l (v := hi_.toInt64) hx hb dX10_takesNumber_130 rfl ?_
        obtain ⟨hs_14, hF⟩ := hF
        refine cSi (wr := [(h, .inr (10, ML w_8m0 Rf)), ((Rf 13), .inl (cI, 240, .inl f13))]) (rest := []) (m_in (((w_8m0 17)).toInt64) lo_.toInt64 hi_.toInt64 hs_14) okS_X10_in wd_495 hx hb hml hown hts hK hP hD hS hA hN hl.1 [] [0, 1] rfl rfl rfl rfl (by decide) rfl (Nat.le_of_ble_eq_true rfl) (Nat.le_of_ble_eq_true rfl) (Nat.le_of_ble_eq_true rfl) (Nat.le_of_ble_eq_true rfl) (Nat.le_of_ble_eq_true rfl) dX10_takesNumber_131 (fun r_16 u_15 H locs hw_u_15 hP hD hS => ?_)
        replace hw_u_15 : r_16 = (f_m_in (((w_8m0 17)).toInt64) lo_.toInt64 hi_.toInt64) := hw_u_15
        rw [hw_u_15]
        clear hw_u_15
        have hP : va_P D classes [(h, .inr (10, ML w_8m0 Rf)), ((Rf 13), .inl (cI, 240, .inl f13))] H := hP
        have hD : va_D A [(h, .inr (10, ML w_8m0 Rf)), ((Rf 13), .inl (cI, 240, .inl f13))] := hD
        refine lv_if_ne (tgt := 149) hx hb dX10_takesNumber_134 (by decide) (fun c_17 => ?_) (fun c_17 => ?_)
        · replace hF := hF.2 c_17
          rw [if_neg c_17] at hE
          refine lv_iconst (v := 1) hx hb dX10_takesNumber_149 (by decide) ?_
          refine lv_goto (tgt := 154) hx hb dX10_takesNumber_150 (by decide) ?_
          exact hret 1 w_8m0 _ _ _ _ dX10_takesNumber_154 rfl hE hP hD hS
        · replace hF := hF.1 c_17
          rw [if_pos c_17] at hE
          refine lv_aload_n hx hb dX10_takesNumber_137 rfl (lv_at hl 0 rfl) ?_
          refine lv_iconst (v := 2) hx hb dX10_takesNumber_138 (by decide) ?_
          refine lv_aload_n hx hb dX10_takesNumber_139 rfl (lv_at hl 0 rfl) ?_
          refine va_get (D := D) (ci := 10) (v := .int (w_8m0 16)) (C := RX10) (T := TX10) (N := 45) hx hb hts iX10 hown hK hP 0 rfl rfl 16 (by decide) (hts _ wd_509) (fun _ h9 => h9) rfl dX10_takesNumber_140 ?_
          obtain ⟨hs_18, hF⟩ := hF
          refine cVi (wr := [((Rf 13), .inl (cI, 240, .inl f13))]) (rest := []) (m_fails Rf h w_8m0 2 (w_8m0 16) hs_18) okV_X10_fails wd_520 hx hb hml hown hts hK hP hD hS hA hN hl.1 [0] [1] rfl rfl rfl rfl (by decide) rfl rfl rfl (Nat.le_of_ble_eq_true rfl) (Nat.le_of_ble_eq_true rfl) (Nat.le_of_ble_eq_true rfl) (Nat.le_of_ble_eq_true rfl) (Nat.le_of_ble_eq_true rfl) dX10_takesNumber_143 (fun r_20 u_19 H locs hw_u_19 hP hD hS => ?_)
          replace hw_u_19 : (r_20, u_19) = (f_m_fails w_8m0 2 (w_8m0 16)) := hw_u_19
          replace hF := hF r_20 u_19 hw_u_19
          rw [← hw_u_19] at hE
          replace hE : ((if r_20 = 0 then (0, u_19) else (1, u_19)) : Int32 × (Nat → Int32)) = RES := hE
          have hP : va_P D classes [((Rf 13), .inl (cI, 240, .inl f13)), (h, .inr (10, ML u_19 Rf))] H := hP
          have hD : va_D A [((Rf 13), .inl (cI, 240, .inl f13)), (h, .inr (10, ML u_19 Rf))] := hD
          refine lv_if_eq (tgt := 153) hx hb dX10_takesNumber_146 (by decide) (fun c_21 => ?_) (fun c_21 => ?_)
          · replace hF := hF.1 c_21
            rw [if_pos c_21] at hE
            subst c_21
            refine lv_iconst (v := 0) hx hb dX10_takesNumber_153 (by decide) ?_
            exact hret 0 u_19 _ _ _ _ dX10_takesNumber_154 rfl hE (cutP (isC := [1, 0]) hP rfl) (cutD (isC := [1, 0]) hD rfl rfl) hS
          · replace hF := hF.2 c_21
            rw [if_neg c_21] at hE
            refine lv_iconst (v := 1) hx hb dX10_takesNumber_149 (by decide) ?_
            refine lv_goto (tgt := 154) hx hb dX10_takesNumber_150 (by decide) ?_
            exact hret 1 u_19 _ _ _ _ dX10_takesNumber_154 rfl hE (cutP (isC := [1, 0]) hP rfl) (cutD (isC := [1, 0]) hD rfl rfl) hS
    have lp_32_w_8 : ∀ (n_w_8 : Nat) (w_8m0 : (Nat → Int32)) (H : Heap) (locs : List Loc) (ls : Array Slot), va_P D classes [(h, .inr (10, ML w_8m0 Rf)), ((Rf 13), .inl (cI, 240, .inl f13))] H → va_D A [(h, .inr (10, ML w_8m0 Rf)), ((Rf 13), .inl (cI, 240, .inl f13))] → va_S A s.heap H locs → lv_has ls 3 [(0, .ref h), (1, .int lo_), (2, .int hi_)] → (S_m_takesNumber_32 f13 (fun (w_8m0 : (Nat → Int32)) => ((4 ≤ ((w_8m0 15) - (w_8m0 16)) → ((S_m_fails w_8m0 2 (w_8m0 16)) ∧ (∀ (r_12 : Int32) (u_11 : (Nat → Int32)), (r_12, u_11) = (f_m_fails w_8m0 2 (w_8m0 16)) → ((r_12 = 0 → True) ∧ (¬ r_12 = 0 → True))))) ∧ (¬ 4 ≤ ((w_8m0 15) - (w_8m0 16)) → ((S_m_in (((w_8m0 17)).toInt64) lo_.toInt64 hi_.toInt64) ∧ (((f_m_in (((w_8m0 17)).toInt64) lo_.toInt64 hi_.toInt64) = 0 → ((S_m_fails w_8m0 2 (w_8m0 16)) ∧ (∀ (r_20 : Int32) (u_19 : (Nat → Int32)), (r_20, u_19) = (f_m_fails w_8m0 2 (w_8m0 16)) → ((r_20 = 0 → True) ∧ (¬ r_20 = 0 → True))))) ∧ (¬ (f_m_in (((w_8m0 17)).toInt64) lo_.toInt64 hi_.toInt64) = 0 → True)))))) n_w_8 w_8m0) → ((match ((f_m_takesNumber_32 f13 n_w_8 w_8m0) : (Nat → Int32)) with | w_8m0 => (if 4 ≤ ((w_8m0 15) - (w_8m0 16)) then (match (f_m_fails w_8m0 2 (w_8m0 16)) with | (r_12, u_11) => (if r_12 = 0 then (0, u_11) else (1, u_11))) else (if (f_m_in (((w_8m0 17)).toInt64) lo_.toInt64 hi_.toInt64) = 0 then (match (f_m_fails w_8m0 2 (w_8m0 16)) with | (r_20, u_19) => (if r_20 = 0 then (0, u_19) else (1, u_19))) else (1, w_8m0)))) : Int32 × (Nat → Int32)) = RES → W p l e rm_m_takesNumber s m args below meth c H locs 0 0 Q (F0 m 32 ls []) := by
      intro n_w_8
      induction n_w_8 with
      | zero => intro w_8m0 H locs ls hP hD hS hl hF hE; exact False.elim hF
      | succ n_w_8 ih_w_8 =>
        intro w_8m0 H locs ls hP hD hS hl hF hE
        rw [S_m_takesNumber_32_s] at hF
        rw [f_m_takesNumber_32_s] at hE
        refine lv_aload_n hx hb dX10_takesNumber_32 rfl (lv_at hl 0 rfl) ?_
        refine lv_aload_n hx hb dX10_takesNumber_33 rfl (lv_at hl 0 rfl) ?_
        refine va_get (D := D) (ci := 10) (v := .int (w_8m0 15)) (C := RX10) (T := TX10) (N := 45) hx hb hts iX10 hown hK hP 0 rfl rfl 15 (by decide) (hts _ wd_508) (fun _ h9 => h9) rfl dX10_takesNumber_34 ?_
        obtain ⟨hs_22, hF⟩ := hF
        refine cVi (wr := []) (rest := []) (m_letterAt Rf h w_8m0 f13 (w_8m0 15) hs_22) okV_X10_letterAt wd_510 hx hb hml hown hts hK hP hD hS hA hN hl.1 [0, 1] [] rfl rfl rfl rfl (by decide) rfl rfl rfl (Nat.le_of_ble_eq_true rfl) (Nat.le_of_ble_eq_true rfl) (Nat.le_of_ble_eq_true rfl) (Nat.le_of_ble_eq_true rfl) (Nat.le_of_ble_eq_true rfl) dX10_takesNumber_37 (fun r_24 u_23 H locs hw_u_23 hP hD hS => ?_)
        replace hw_u_23 : r_24 = (f_m_letterAt w_8m0 f13 (w_8m0 15)) := hw_u_23
        rw [hw_u_23]
        clear hw_u_23
        have hP : va_P D classes [(h, .inr (10, ML w_8m0 Rf)), ((Rf 13), .inl (cI, 240, .inl f13))] H := hP
        have hD : va_D A [(h, .inr (10, ML w_8m0 Rf)), ((Rf 13), .inl (cI, 240, .inl f13))] := hD
        refine lv_i2l (v := ((f_m_letterAt w_8m0 f13 (w_8m0 15))).toInt64) hx hb dX10_takesNumber_40 rfl ?_
        refine lv_ldc2 (v := 48) hx hb hown (hts _ wd_524) dX10_takesNumber_41 ?_
        refine lv_ldc2 (v := 57) hx hb hown (hts _ wd_525) dX10_takesNumber_44 ?_
        obtain ⟨hs_25, hF⟩ := hF
        refine cSi (wr := [(h, .inr (10, ML w_8m0 Rf)), ((Rf 13), .inl (cI, 240, .inl f13))]) (rest := []) (m_in (((f_m_letterAt w_8m0 f13 (w_8m0 15))).toInt64) 48 57 hs_25) okS_X10_in wd_495 hx hb hml hown hts hK hP hD hS hA hN hl.1 [] [0, 1] rfl rfl rfl rfl (by decide) rfl (Nat.le_of_ble_eq_true rfl) (Nat.le_of_ble_eq_true rfl) (Nat.le_of_ble_eq_true rfl) (Nat.le_of_ble_eq_true rfl) (Nat.le_of_ble_eq_true rfl) dX10_takesNumber_47 (fun r_27 u_26 H locs hw_u_26 hP hD hS => ?_)
        replace hw_u_26 : r_27 = (f_m_in (((f_m_letterAt w_8m0 f13 (w_8m0 15))).toInt64) 48 57) := hw_u_26
        rw [hw_u_26]
        clear hw_u_26
        have hP : va_P D classes [(h, .inr (10, ML w_8m0 Rf)), ((Rf 13), .inl (cI, 240, .inl f13))] H := hP
        have hD : va_D A [(h, .inr (10, ML w_8m0 Rf)), ((Rf 13), .inl (cI, 240, .inl f13))] := hD
        refine lv_if_eq (tgt := 109) hx hb dX10_takesNumber_50 (by decide) (fun c_28 => ?_) (fun c_28 => ?_)
        · replace hF := hF.1 c_28
          rw [if_pos c_28] at hE
          exact ex_32_w_8 w_8m0 _ _ ls hP hD hS (lv_sub hl [0, 1, 2] rfl) hF hE
        · replace hF := hF.2 c_28
          rw [if_neg c_28] at hE
          refine lv_aload_n hx hb dX10_takesNumber_53 rfl (lv_at hl 0 rfl) ?_
          refine lv_aload_n hx hb dX10_takesNumber_54 rfl (lv_at hl 0 rfl) ?_
          refine va_get (D := D) (ci := 10) (v := .int (w_8m0 15)) (C := RX10) (T := TX10) (N := 45) hx hb hts iX10 hown hK hP 0 rfl rfl 15 (by decide) (hts _ wd_508) (fun _ h9 => h9) rfl dX10_takesNumber_55 ?_
          refine lv_aload_n hx hb dX10_takesNumber_58 rfl (lv_at hl 0 rfl) ?_
          refine va_get (D := D) (ci := 10) (v := .int (w_8m0 16)) (C := RX10) (T := TX10) (N := 45) hx hb hts iX10 hown hK hP 0 rfl rfl 16 (by decide) (hts _ wd_509) (fun _ h9 => h9) rfl dX10_takesNumber_59 ?_
          refine lv_isub hx hb dX10_takesNumber_62 ?_
          refine lv_iconst (v := 3) hx hb dX10_takesNumber_63 (by decide) ?_
          refine lv_icmp_ge (tgt := 89) hx hb dX10_takesNumber_64 (by decide) (fun c_29 => ?_) (fun c_29 => ?_)
          · replace hF := hF.1 c_29
            rw [if_pos c_29] at hE
            refine lv_aload_n hx hb dX10_takesNumber_89 rfl (lv_at hl 0 rfl) ?_
            refine va_get (D := D) (ci := 10) (v := .int (w_8m0 17)) (C := RX10) (T := TX10) (N := 45) hx hb hts iX10 hown hK hP 0 rfl rfl 17 (by decide) (hts _ wd_526) (fun _ h9 => h9) rfl dX10_takesNumber_90 ?_
            refine va_put (D := D) (ci := 10) (v := .int (w_8m0 17)) (ty := .int) (C := RX10) (T := TX10) (N := 45) hx hb hts iX10 tyX10 tyX10_ok nmX10 hown hK hP hD hS 0 rfl rfl 17 (by decide) (hts _ wd_526) (fun _ h9 => h9) rfl (by decide +kernel) rfl rfl (Nat.le_of_ble_eq_true rfl) dX10_takesNumber_93 (fun H locs hP hD hS => ?_)
            have hP : va_P D classes [(h, .inr (10, ML (upd w_8m0 17 (w_8m0 17)) Rf)), ((Rf 13), .inl (cI, 240, .inl f13))] H := hP
            have hD : va_D A [(h, .inr (10, ML (upd w_8m0 17 (w_8m0 17)) Rf)), ((Rf 13), .inl (cI, 240, .inl f13))] := hD
            refine lv_aload_n hx hb dX10_takesNumber_96 rfl (lv_at hl 0 rfl) ?_
            refine lv_dup hx hb dX10_takesNumber_97 rfl ?_
            refine va_get (D := D) (ci := 10) (v := .int (w_8m0 15)) (C := RX10) (T := TX10) (N := 45) hx hb hts iX10 hown hK hP 0 rfl rfl 15 (by decide) (hts _ wd_508) (fun _ h9 => h9) rfl dX10_takesNumber_98 ?_
            refine lv_iconst (v := 1) hx hb dX10_takesNumber_101 (by decide) ?_
            refine lv_iadd hx hb dX10_takesNumber_102 ?_
            refine va_put (D := D) (ci := 10) (v := .int ((w_8m0 15) + 1)) (ty := .int) (C := RX10) (T := TX10) (N := 45) hx hb hts iX10 tyX10 tyX10_ok nmX10 hown hK hP hD hS 0 rfl rfl 15 (by decide) (hts _ wd_508) (fun _ h9 => h9) rfl (by decide +kernel) rfl rfl (Nat.le_of_ble_eq_true rfl) dX10_takesNumber_103 (fun H locs hP hD hS => ?_)
            have hP : va_P D classes [(h, .inr (10, ML (upd (upd w_8m0 17 (w_8m0 17)) 15 ((w_8m0 15) + 1)) Rf)), ((Rf 13), .inl (cI, 240, .inl f13))] H := hP
            have hD : va_D A [(h, .inr (10, ML (upd (upd w_8m0 17 (w_8m0 17)) 15 ((w_8m0 15) + 1)) Rf)), ((Rf 13), .inl (cI, 240, .inl f13))] := hD
            refine lv_goto (tgt := 32) hx hb dX10_takesNumber_106 (by decide) ?_
            exact ih_w_8 (upd (upd w_8m0 17 (w_8m0 17)) 15 ((w_8m0 15) + 1)) _ _ ls hP hD hS (lv_sub hl [0, 1, 2] rfl) hF hE
          · replace hF := hF.2 c_29
            rw [if_neg c_29] at hE
            refine lv_bipush (v := 10) hx hb dX10_takesNumber_67 (by decide) ?_
            refine lv_aload_n hx hb dX10_takesNumber_69 rfl (lv_at hl 0 rfl) ?_
            refine va_get (D := D) (ci := 10) (v := .int (w_8m0 17)) (C := RX10) (T := TX10) (N := 45) hx hb hts iX10 hown hK hP 0 rfl rfl 17 (by decide) (hts _ wd_526) (fun _ h9 => h9) rfl dX10_takesNumber_70 ?_
            refine lv_imul hx hb dX10_takesNumber_73 ?_
            refine lv_aload_n hx hb dX10_takesNumber_74 rfl (lv_at hl 0 rfl) ?_
            refine lv_aload_n hx hb dX10_takesNumber_75 rfl (lv_at hl 0 rfl) ?_
            refine va_get (D := D) (ci := 10) (v := .int (w_8m0 15)) (C := RX10) (T := TX10) (N := 45) hx hb hts iX10 hown hK hP 0 rfl rfl 15 (by decide) (hts _ wd_508) (fun _ h9 => h9) rfl dX10_takesNumber_76 ?_
            obtain ⟨hs_30, hF⟩ := hF
            refine cVi (wr := []) (rest := [.int (10 * (w_8m0 17)), .ref h]) (m_letterAt Rf h w_8m0 f13 (w_8m0 15) hs_30) okV_X10_letterAt wd_510 hx hb hml hown hts hK hP hD hS hA hN hl.1 [0, 1] [] rfl rfl rfl rfl (by decide) rfl rfl rfl (Nat.le_of_ble_eq_true rfl) (Nat.le_of_ble_eq_true rfl) (Nat.le_of_ble_eq_true rfl) (Nat.le_of_ble_eq_true rfl) (Nat.le_of_ble_eq_true rfl) dX10_takesNumber_79 (fun r_32 u_31 H locs hw_u_31 hP hD hS => ?_)
            replace hw_u_31 : r_32 = (f_m_letterAt w_8m0 f13 (w_8m0 15)) := hw_u_31
            rw [hw_u_31]
            clear hw_u_31
            have hP : va_P D classes [(h, .inr (10, ML w_8m0 Rf)), ((Rf 13), .inl (cI, 240, .inl f13))] H := hP
            have hD : va_D A [(h, .inr (10, ML w_8m0 Rf)), ((Rf 13), .inl (cI, 240, .inl f13))] := hD
            refine lv_iadd hx hb dX10_takesNumber_82 ?_
            refine lv_bipush (v := 48) hx hb dX10_takesNumber_83 (by decide) ?_
            refine lv_isub hx hb dX10_takesNumber_85 ?_
            refine lv_goto (tgt := 93) hx hb dX10_takesNumber_86 (by decide) ?_
            refine va_put (D := D) (ci := 10) (v := .int (((10 * (w_8m0 17)) + (f_m_letterAt w_8m0 f13 (w_8m0 15))) - 48)) (ty := .int) (C := RX10) (T := TX10) (N := 45) hx hb hts iX10 tyX10 tyX10_ok nmX10 hown hK hP hD hS 0 rfl rfl 17 (by decide) (hts _ wd_526) (fun _ h9 => h9) rfl (by decide +kernel) rfl rfl (Nat.le_of_ble_eq_true rfl) dX10_takesNumber_93 (fun H locs hP hD hS => ?_)
            have hP : va_P D classes [(h, .inr (10, ML (upd w_8m0 17 (((10 * (w_8m0 17)) + (f_m_letterAt w_8m0 f13 (w_8m0 15))) - 48)) Rf)), ((Rf 13), .inl (cI, 240, .inl f13))] H := hP
            have hD : va_D A [(h, .inr (10, ML (upd w_8m0 17 (((10 * (w_8m0 17)) + (f_m_letterAt w_8m0 f13 (w_8m0 15))) - 48)) Rf)), ((Rf 13), .inl (cI, 240, .inl f13))] := hD
            refine lv_aload_n hx hb dX10_takesNumber_96 rfl (lv_at hl 0 rfl) ?_
            refine lv_dup hx hb dX10_takesNumber_97 rfl ?_
            refine va_get (D := D) (ci := 10) (v := .int (w_8m0 15)) (C := RX10) (T := TX10) (N := 45) hx hb hts iX10 hown hK hP 0 rfl rfl 15 (by decide) (hts _ wd_508) (fun _ h9 => h9) rfl dX10_takesNumber_98 ?_
            refine lv_iconst (v := 1) hx hb dX10_takesNumber_101 (by decide) ?_
            refine lv_iadd hx hb dX10_takesNumber_102 ?_
            refine va_put (D := D) (ci := 10) (v := .int ((w_8m0 15) + 1)) (ty := .int) (C := RX10) (T := TX10) (N := 45) hx hb hts iX10 tyX10 tyX10_ok nmX10 hown hK hP hD hS 0 rfl rfl 15 (by decide) (hts _ wd_508) (fun _ h9 => h9) rfl (by decide +kernel) rfl rfl (Nat.le_of_ble_eq_true rfl) dX10_takesNumber_103 (fun H locs hP hD hS => ?_)
            have hP : va_P D classes [(h, .inr (10, ML (upd (upd w_8m0 17 (((10 * (w_8m0 17)) + (f_m_letterAt w_8m0 f13 (w_8m0 15))) - 48)) 15 ((w_8m0 15) + 1)) Rf)), ((Rf 13), .inl (cI, 240, .inl f13))] H := hP
            have hD : va_D A [(h, .inr (10, ML (upd (upd w_8m0 17 (((10 * (w_8m0 17)) + (f_m_letterAt w_8m0 f13 (w_8m0 15))) - 48)) 15 ((w_8m0 15) + 1)) Rf)), ((Rf 13), .inl (cI, 240, .inl f13))] := hD
            refine lv_goto (tgt := 32) hx hb dX10_takesNumber_106 (by decide) ?_
            exact ih_w_8 (upd (upd w_8m0 17 (((10 * (w_8m0 17)) + (f_m_letterAt w_8m0 f13 (w_8m0 15))) - 48)) 15 ((w_8m0 15) + 1)) _ _ ls hP hD hS (lv_sub hl [0, 1, 2] rfl) hF hE
    exact lp_32_w_8 300 (upd u_2 17 0) _ _ ls hP hD hS hl hF hE
  · replace hF := hF.1 c_7
    rw [if_pos c_7] at hE
    refine lv_aload_n hx hb dX10_takesNumber_17 rfl (lv_at hl 0 rfl) ?_
    refine lv_iconst (v := 1) hx hb dX10_takesNumber_18 (by decide) ?_
    refine lv_aload_n hx hb dX10_takesNumber_19 rfl (lv_at hl 0 rfl) ?_
    refine va_get (D := D) (ci := 10) (v := .int (u_2 16)) (C := RX10) (T := TX10) (N := 45) hx hb hts iX10 hown hK hP 0 rfl rfl 16 (by decide) (hts _ wd_509) (fun _ h9 => h9) rfl dX10_takesNumber_20 ?_
    obtain ⟨hs_33, hF⟩ := hF
    refine cVi (wr := [((Rf 13), .inl (cI, 240, .inl f13))]) (rest := []) (m_fails Rf h u_2 1 (u_2 16) hs_33) okV_X10_fails wd_520 hx hb hml hown hts hK hP hD hS hA hN hl.1 [0] [1] rfl rfl rfl rfl (by decide) rfl rfl rfl (Nat.le_of_ble_eq_true rfl) (Nat.le_of_ble_eq_true rfl) (Nat.le_of_ble_eq_true rfl) (Nat.le_of_ble_eq_true rfl) (Nat.le_of_ble_eq_true rfl) dX10_takesNumber_23 (fun r_35 u_34 H locs hw_u_34 hP hD hS => ?_)
    replace hw_u_34 : (r_35, u_34) = (f_m_fails u_2 1 (u_2 16)) := hw_u_34
    replace hF := hF r_35 u_34 hw_u_34
    rw [← hw_u_34] at hE
    replace hE : ((r_35, u_34) : Int32 × (Nat → Int32)) = RES := hE
    have hP : va_P D classes [((Rf 13), .inl (cI, 240, .inl f13)), (h, .inr (10, ML u_34 Rf))] H := hP
    have hD : va_D A [((Rf 13), .inl (cI, 240, .inl f13)), (h, .inr (10, ML u_34 Rf))] := hD
    exact hret r_35 u_34 _ _ _ _ dX10_takesNumber_26 (narrow_b01 (Or.inl (congrArg Prod.fst hw_u_34))) hE (cutP (isC := [1, 0]) hP rfl) (cutD (isC := [1, 0]) hD rfl rfl) hS
