theorem dX10_told_0 : decode cX10_told 0 = .ok (.iload_n 1, 1) := by decide +kernel
theorem dX10_told_1 : decode cX10_told 1 = .ok (.tableswitch 134 0 13 #[71, 76, 81, 86, 91, 96, 101, 109, 134, 134, 134, 117, 124, 129], 71) := by decide +kernel
theorem dX10_told_72 : decode cX10_told 72 = .ok (.aload_n 0, 1) := by decide +kernel
theorem dX10_told_73 : decode cX10_told 73 = .ok (.getfield 81, 3) := by decide +kernel
theorem dX10_told_76 : decode cX10_told 76 = .ok (.ireturn, 1) := by decide +kernel
theorem dX10_told_77 : decode cX10_told 77 = .ok (.aload_n 0, 1) := by decide +kernel
theorem dX10_told_78 : decode cX10_told 78 = .ok (.getfield 17, 3) := by decide +kernel
theorem dX10_told_81 : decode cX10_told 81 = .ok (.ireturn, 1) := by decide +kernel
theorem dX10_told_82 : decode cX10_told 82 = .ok (.aload_n 0, 1) := by decide +kernel
theorem dX10_told_83 : decode cX10_told 83 = .ok (.getfield 78, 3) := by decide +kernel
theorem dX10_told_86 : decode cX10_told 86 = .ok (.ireturn, 1) := by decide +kernel
theorem dX10_told_87 : decode cX10_told 87 = .ok (.aload_n 0, 1) := by decide +kernel
theorem dX10_told_88 : decode cX10_told 88 = .ok (.getfield 88, 3) := by decide +kernel
theorem dX10_told_91 : decode cX10_told 91 = .ok (.ireturn, 1) := by decide +kernel
theorem dX10_told_92 : decode cX10_told 92 = .ok (.aload_n 0, 1) := by decide +kernel
theorem dX10_told_93 : decode cX10_told 93 = .ok (.getfield 174, 3) := by decide +kernel
theorem dX10_told_96 : decode cX10_told 96 = .ok (.ireturn, 1) := by decide +kernel
theorem dX10_told_97 : decode cX10_told 97 = .ok (.aload_n 0, 1) := by decide +kernel
theorem dX10_told_98 : decode cX10_told 98 = .ok (.getfield 94, 3) := by decide +kernel
theorem dX10_told_101 : decode cX10_told 101 = .ok (.ireturn, 1) := by decide +kernel
theorem dX10_told_102 : decode cX10_told 102 = .ok (.aload_n 0, 1) := by decide +kernel
theorem dX10_told_103 : decode cX10_told 103 = .ok (.getfield 7, 3) := by decide +kernel
theorem dX10_told_106 : decode cX10_told 106 = .ok (.bipush 19, 2) := by decide +kernel
theorem dX10_told_108 : decode cX10_told 108 = .ok (.iaload, 1) := by decide +kernel
theorem dX10_told_109 : decode cX10_told 109 = .ok (.ireturn, 1) := by decide +kernel
theorem dX10_told_110 : decode cX10_told 110 = .ok (.aload_n 0, 1) := by decide +kernel
theorem dX10_told_111 : decode cX10_told 111 = .ok (.getfield 7, 3) := by decide +kernel
theorem dX10_told_114 : decode cX10_told 114 = .ok (.bipush 18, 2) := by decide +kernel
theorem dX10_told_116 : decode cX10_told 116 = .ok (.iaload, 1) := by decide +kernel
theorem dX10_told_117 : decode cX10_told 117 = .ok (.ireturn, 1) := by decide +kernel
theorem dX10_told_135 : decode cX10_told 135 = .ok (.iload_n 1, 1) := by decide +kernel
theorem dX10_told_136 : decode cX10_told 136 = .ok (.i2l, 1) := by decide +kernel
theorem wd_613 : Cond.constantLong RX10 189 (8) ∈ BG := BG_at 995 (by decide +kernel) rfl
theorem dX10_told_137 : decode cX10_told 137 = .ok (.ldc2_w 189, 3) := by decide +kernel
theorem wd_614 : Cond.constantLong RX10 191 (10) ∈ BG := BG_at 996 (by decide +kernel) rfl
theorem dX10_told_140 : decode cX10_told 140 = .ok (.ldc2_w 191, 3) := by decide +kernel
theorem dX10_told_143 : decode cX10_told 143 = .ok (.invokestatic 84, 3) := by decide +kernel
theorem dX10_told_146 : decode cX10_told 146 = .ok (.ifCond .eq 14, 3) := by decide +kernel
theorem dX10_told_160 : decode cX10_told 160 = .ok (.ldc 93, 2) := by decide +kernel
theorem dX10_told_162 : decode cX10_told 162 = .ok (.ireturn, 1) := by decide +kernel
theorem dX10_told_149 : decode cX10_told 149 = .ok (.aload_n 0, 1) := by decide +kernel
theorem dX10_told_150 : decode cX10_told 150 = .ok (.iload_n 1, 1) := by decide +kernel
theorem dX10_told_151 : decode cX10_told 151 = .ok (.bipush 7, 2) := by decide +kernel
theorem dX10_told_153 : decode cX10_told 153 = .ok (.isub, 1) := by decide +kernel
theorem dX10_told_154 : decode cX10_told 154 = .ok (.invokevirtual 193, 3) := by decide +kernel
theorem wd_615 : Cond.methodLink RX10 193 yX10_bargesThat ∈ BG := BG_at 997 (by decide +kernel) rfl
theorem wd_616 : Cond.code yX10_bargesThat cX10_bargesThat 4 (some .int) ∈ BG := BG_at 1000 (by decide +kernel) rfl
theorem wd_617 : Cond.instanceMethod yX10_bargesThat ∈ BG := BG_at 999 (by decide +kernel) rfl
theorem wd_618 : Cond.selects RX10 yX10_bargesThat yX10_bargesThat ∈ BG := BG_in (by decide +kernel) rfl
theorem okV_X10_bargesThat : okV yX10_bargesThat cX10_bargesThat 4 (some .int) 1 := ⟨⟨wd_616, wd_497, by decide +kernel⟩, wd_617, wd_618⟩
theorem dX10_told_157 : decode cX10_told 157 = .ok (.goto 5, 3) := by decide +kernel
theorem dX10_told_118 : decode cX10_told 118 = .ok (.aload_n 0, 1) := by decide +kernel
theorem dX10_told_119 : decode cX10_told 119 = .ok (.bipush 63, 2) := by decide +kernel
theorem dX10_told_121 : decode cX10_told 121 = .ok (.invokevirtual 186, 3) := by decide +kernel
theorem wd_619 : Cond.methodLink RX10 186 yX10_griefOf ∈ BG := BG_at 988 (by decide +kernel) rfl
theorem wd_620 : Cond.code yX10_griefOf cX10_griefOf 4 (some .int) ∈ BG := BG_at 991 (by decide +kernel) rfl
theorem wd_621 : Cond.instanceMethod yX10_griefOf ∈ BG := BG_at 990 (by decide +kernel) rfl
theorem wd_622 : Cond.selects RX10 yX10_griefOf yX10_griefOf ∈ BG := BG_in (by decide +kernel) rfl
theorem okV_X10_griefOf : okV yX10_griefOf cX10_griefOf 4 (some .int) 1 := ⟨⟨wd_620, wd_497, by decide +kernel⟩, wd_621, wd_622⟩
theorem dX10_told_124 : decode cX10_told 124 = .ok (.ireturn, 1) := by decide +kernel
theorem dX10_told_125 : decode cX10_told 125 = .ok (.aload_n 0, 1) := by decide +kernel
theorem dX10_told_126 : decode cX10_told 126 = .ok (.getfield 177, 3) := by decide +kernel
theorem dX10_told_129 : decode cX10_told 129 = .ok (.ireturn, 1) := by decide +kernel
theorem dX10_told_130 : decode cX10_told 130 = .ok (.aload_n 0, 1) := by decide +kernel
theorem dX10_told_131 : decode cX10_told 131 = .ok (.getfield 180, 3) := by decide +kernel
theorem dX10_told_134 : decode cX10_told 134 = .ok (.ireturn, 1) := by decide +kernel
noncomputable def f_m_told (G : Nat → Int32) (f0 : Nat → Int32) (w_ : Int32) : Int32 := (if w_ = 0 then (G 3) else (if w_ = 1 then (G 4) else (if w_ = 2 then (G 5) else (if w_ = 3 then (G 6) else (if w_ = 4 then (G 7) else (if w_ = 5 then (G 14) else (if w_ = 6 then (f0 (19 : Int32).toNatClampNeg) else (if w_ = 7 then (f0 (18 : Int32).toNatClampNeg) else (if w_ = 8 then (if (f_m_in 8 8 10) = 0 then (-1000000002) else (f_m_bargesThat G f0 1)) else (if w_ = 9 then (if (f_m_in 9 8 10) = 0 then (-1000000002) else (f_m_bargesThat G f0 2)) else (if w_ = 10 then (if (f_m_in 10 8 10) = 0 then (-1000000002) else (f_m_bargesThat G f0 3)) else (if w_ = 11 then (f_m_griefOf G f0 63) else (if w_ = 12 then (G 42) else (if w_ = 13 then (G 2) else (if (f_m_in w_.toInt64 8 10) = 0 then (-1000000002) else (f_m_bargesThat G f0 (w_ - 7)))))))))))))))))
def S_m_told (G : Nat → Int32) (f0 : Nat → Int32) (w_ : Int32) : Prop := ((w_ = 0 → True) ∧ (¬ w_ = 0 → ((w_ = 1 → True) ∧ (¬ w_ = 1 → ((w_ = 2 → True) ∧ (¬ w_ = 2 → ((w_ = 3 → True) ∧ (¬ w_ = 3 → ((w_ = 4 → True) ∧ (¬ w_ = 4 → ((w_ = 5 → True) ∧ (¬ w_ = 5 → ((w_ = 6 → True) ∧ (¬ w_ = 6 → ((w_ = 7 → True) ∧ (¬ w_ = 7 → ((w_ = 8 → ((S_m_in 8 8 10) ∧ (((f_m_in 8 8 10) = 0 → True) ∧ (¬ (f_m_in 8 8 10) = 0 → ((S_m_bargesThat G f0 1) ∧ True))))) ∧ (¬ w_ = 8 → ((w_ = 9 → ((S_m_in 9 8 10) ∧ (((f_m_in 9 8 10) = 0 → True) ∧ (¬ (f_m_in 9 8 10) = 0 → ((S_m_bargesThat G f0 2) ∧ True))))) ∧ (¬ w_ = 9 → ((w_ = 10 → ((S_m_in 10 8 10) ∧ (((f_m_in 10 8 10) = 0 → True) ∧ (¬ (f_m_in 10 8 10) = 0 → ((S_m_bargesThat G f0 3) ∧ True))))) ∧ (¬ w_ = 10 → ((w_ = 11 → ((S_m_griefOf G f0 63) ∧ True)) ∧ (¬ w_ = 11 → ((w_ = 12 → True) ∧ (¬ w_ = 12 → ((w_ = 13 → True) ∧ (¬ w_ = 13 → ((S_m_in w_.toInt64 8 10) ∧ (((f_m_in w_.toInt64 8 10) = 0 → True) ∧ (¬ (f_m_in w_.toInt64 8 10) = 0 → ((S_m_bargesThat G f0 (w_ - 7)) ∧ True))))))))))))))))))))))))))))))))
def rm_m_told : Room := { frames := 2, cells := 0, slots := 0, locals := 44 }
set_option maxHeartbeats 4000000 in
set_option maxRecDepth 100000 in
theorem m_told {l : Launch} {D : va_G} {cI cZ : ClassId} {sz : Nat} (Rf : Nat → Nat) (h : Nat) (G : Nat → Int32) (f0 : Nat → Int32) (w_ : Int32) (hF : S_m_told G f0 w_) : KI l yX10_told cX10_told 2 (some .int) rm_m_told D cI cZ [.ref h, .int w_] sz [(h, .inr (10, ML G Rf)), ((Rf 0), .inl (cI, 1302, .inl f0))] (fun (r : Int32) (_ : Unit) => r = f_m_told G f0 w_) (fun (_ : Unit) => [(h, .inr (10, ML G Rf)), ((Rf 0), .inl (cI, 1302, .inl f0))]) := by
  refine KI.go rfl (Nat.le_of_ble_eq_true rfl) ?_
  intro p e s m args below meth c ls A Q hx hb hml hts hown hin hP hK hD hS hA hN hl hret
  have hl : lv_has ls 2 [(0, .ref h), (1, .int w_)] := hl
  rw [S_m_told] at hF
  obtain ⟨RES, hE⟩ : ∃ xRES, f_m_told G f0 w_ = xRES := ⟨_, rfl⟩
  rw [hE] at hret
  rw [f_m_told] at hE
  refine lv_iload_n hx hb dX10_told_0 rfl (lv_at hl 1 rfl) ?_
  by_cases c_1 : w_ = 0
  · replace hF := hF.1 c_1
    rw [if_pos c_1] at hE
    subst c_1
    refine lv_tableIn (off := 71) (tgt := 72) hx hb dX10_told_1 (by decide +kernel) (by decide +kernel) (by decide +kernel) (by decide) ?_
    refine lv_aload_n hx hb dX10_told_72 rfl (lv_at hl 0 rfl) ?_
    refine va_get (D := D) (ci := 10) (v := .int (G 3)) (C := RX10) (T := TX10) (N := 45) hx hb hts iX10 hown hK hP 0 rfl rfl 3 (by decide) (hts _ wd_494) (fun _ h9 => h9) rfl dX10_told_73 ?_
    exact hret (G 3) () _ _ _ _ dX10_told_76 rfl hE hP hD hS
  · skip
    replace hF := hF.2 c_1
    rw [if_neg c_1] at hE
    by_cases c_2 : w_ = 1
    · replace hF := hF.1 c_2
      rw [if_pos c_2] at hE
      subst c_2
      refine lv_tableIn (off := 76) (tgt := 77) hx hb dX10_told_1 (by decide +kernel) (by decide +kernel) (by decide +kernel) (by decide) ?_
      refine lv_aload_n hx hb dX10_told_77 rfl (lv_at hl 0 rfl) ?_
      refine va_get (D := D) (ci := 10) (v := .int (G 4)) (C := RX10) (T := TX10) (N := 45) hx hb hts iX10 hown hK hP 0 rfl rfl 4 (by decide) (hts _ wd_500) (fun _ h9 => h9) rfl dX10_told_78 ?_
      exact hret (G 4) () _ _ _ _ dX10_told_81 rfl hE hP hD hS
    · skip
      replace hF := hF.2 c_2
      rw [if_neg c_2] at hE
      by_cases c_3 : w_ = 2
      · replace hF := hF.1 c_3
        rw [if_pos c_3] at hE
        subst c_3
        refine lv_tableIn (off := 81) (tgt := 82) hx hb dX10_told_1 (by decide +kernel) (by decide +kernel) (by decide +kernel) (by decide) ?_
        refine lv_aload_n hx hb dX10_told_82 rfl (lv_at hl 0 rfl) ?_
        refine va_get (D := D) (ci := 10) (v := .int (G 5)) (C := RX10) (T := TX10) (N := 45) hx hb hts iX10 hown hK hP 0 rfl rfl 5 (by decide) (hts _ wd_499) (fun _ h9 => h9) rfl dX10_told_83 ?_
        exact hret (G 5) () _ _ _ _ dX10_told_86 rfl hE hP hD hS
      · skip
        replace hF := hF.2 c_3
        rw [if_neg c_3] at hE
        by_cases c_4 : w_ = 3
        · replace hF := hF.1 c_4
          rw [if_pos c_4] at hE
          subst c_4
          refine lv_tableIn (off := 86) (tgt := 87) hx hb dX10_told_1 (by decide +kernel) (by decide +kernel) (by decide +kernel) (by decide) ?_
          refine lv_aload_n hx hb dX10_told_87 rfl (lv_at hl 0 rfl) ?_
          refine va_get (D := D) (ci := 10) (v := .int (G 6)) (C := RX10) (T := TX10) (N := 45) hx hb hts iX10 hown hK hP 0 rfl rfl 6 (by decide) (hts _ wd_501) (fun _ h9 => h9) rfl dX10_told_88 ?_
          exact hret (G 6) () _ _ _ _ dX10_told_91 rfl hE hP hD hS
        · skip
          replace hF := hF.2 c_4
          rw [if_neg c_4] at hE
          by_cases c_5 : w_ = 4
          · replace hF := hF.1 c_5
            rw [if_pos c_5] at hE
            subst c_5
            refine lv_tableIn (off := 91) (tgt := 92) hx hb dX10_told_1 (by decide +kernel) (by decide +kernel) (by decide +kernel) (by decide) ?_
            refine lv_aload_n hx hb dX10_told_92 rfl (lv_at hl 0 rfl) ?_
            refine va_get (D := D) (ci := 10) (v := .int (G 7)) (C := RX10) (T := TX10) (N := 45) hx hb hts iX10 hown hK hP 0 rfl rfl 7 (by decide) (hts _ wd_548) (fun _ h9 => h9) rfl dX10_told_93 ?_
            exact hret (G 7) () _ _ _ _ dX10_told_96 rfl hE hP hD hS
          · skip
            replace hF := hF.2 c_5
            rw [if_neg c_5] at hE
            by_cases c_6 : w_ = 5
            · replace hF := hF.1 c_6
              rw [if_pos c_6] at hE
              subst c_6
              refine lv_tableIn (off := 96) (tgt := 97) hx hb dX10_told_1 (by decide +kernel) (by decide +kernel) (by decide +kernel) (by decide) ?_
              refine lv_aload_n hx hb dX10_told_97 rfl (lv_at hl 0 rfl) ?_
              refine va_get (D := D) (ci := 10) (v := .int (G 14)) (C := RX10) (T := TX10) (N := 45) hx hb hts iX10 hown hK hP 0 rfl rfl 14 (by decide) (hts _ wd_492) (fun _ h9 => h9) rfl dX10_told_98 ?_
              exact hret (G 14) () _ _ _ _ dX10_told_101 rfl hE hP hD hS
            · skip
              replace hF := hF.2 c_6
              rw [if_neg c_6] at hE
              by_cases c_7 : w_ = 6
              · replace hF := hF.1 c_7
                rw [if_pos c_7] at hE
                subst c_7
                refine lv_tableIn (off := 101) (tgt := 102) hx hb dX10_told_1 (by decide +kernel) (by decide +kernel) (by decide +kernel) (by decide) ?_
                refine lv_aload_n hx hb dX10_told_102 rfl (lv_at hl 0 rfl) ?_
                refine va_get (D := D) (ci := 10) (v := .ref (Rf 0)) (C := RX10) (T := TX10) (N := 45) hx hb hts iX10 hown hK hP 0 rfl rfl 0 (by decide) (hts _ wd_491) (fun _ h9 => h9) rfl dX10_told_103 ?_
                refine lv_bipush (v := 19) hx hb dX10_told_106 (by decide) ?_
                refine va_iald hx hb hK hP 1 0 rfl rfl (show ¬ ((19 : Int32) < 0 ∨ 1302 ≤ (19 : Int32).toNatClampNeg) by decide +kernel) dX10_told_108 ?_
                exact hret (f0 (19 : Int32).toNatClampNeg) () _ _ _ _ dX10_told_109 rfl hE hP hD hS
              · skip
                replace hF := hF.2 c_7
                rw [if_neg c_7] at hE
                by_cases c_8 : w_ = 7
                · replace hF := hF.1 c_8
                  rw [if_pos c_8] at hE
                  subst c_8
                  refine lv_tableIn (off := 109) (tgt := 110) hx hb dX10_told_1 (by decide +kernel) (by decide +kernel) (by decide +kernel) (by decide) ?_
                  refine lv_aload_n hx hb dX10_told_110 rfl (lv_at hl 0 rfl) ?_
                  refine va_get (D := D) (ci := 10) (v := .ref (Rf 0)) (C := RX10) (T := TX10) (N := 45) hx hb hts iX10 hown hK hP 0 rfl rfl 0 (by decide) (hts _ wd_491) (fun _ h9 => h9) rfl dX10_told_111 ?_
                  refine lv_bipush (v := 18) hx hb dX10_told_114 (by decide) ?_
                  refine va_iald hx hb hK hP 1 0 rfl rfl (show ¬ ((18 : Int32) < 0 ∨ 1302 ≤ (18 : Int32).toNatClampNeg) by decide +kernel) dX10_told_116 ?_
                  exact hret (f0 (18 : Int32).toNatClampNeg) () _ _ _ _ dX10_told_117 rfl hE hP hD hS
                · skip
                  replace hF := hF.2 c_8
                  rw [if_neg c_8] at hE
                  by_cases c_9 : w_ = 8
                  · replace hF := hF.1 c_9
                    rw [if_pos c_9] at hE
                    subst c_9
                    refine lv_tableIn (off := 134) (tgt := 135) hx hb dX10_told_1 (by decide +kernel) (by decide +kernel) (by decide +kernel) (by decide) ?_
                    refine lv_iload_n hx hb dX10_told_135 rfl (lv_at hl 1 rfl) ?_
                    refine lv_i2l (v := 8) hx hb dX10_told_136 (by decide +kernel) ?_
                    refine lv_ldc2 (v := 8) hx hb hown (hts _ wd_613) dX10_told_137 ?_
                    refine lv_ldc2 (v := 10) hx hb hown (hts _ wd_614) dX10_told_140 ?_
                    obtain ⟨hs_10, hF⟩ := hF
                    refine cSi (wr := [(h, .inr (10, ML G Rf)), ((Rf 0), .inl (cI, 1302, .inl f0))]) (rest := []) (m_in 8 8 10 hs_10) okS_X10_in wd_495 hx hb hml hown hts hK hP hD hS hA hN hl.1 [] [0, 1] rfl rfl rfl rfl (by decide) rfl (Nat.le_of_ble_eq_true rfl) (Nat.le_of_ble_eq_true rfl) (Nat.le_of_ble_eq_true rfl) (Nat.le_of_ble_eq_true rfl) (Nat.le_of_ble_eq_true rfl) dX10_told_143 (fun r_12 u_11 H locs hw_u_11 hP hD hS => ?_)
                    replace hw_u_11 : r_12 = (f_m_in 8 8 10) := hw_u_11
                    rw [hw_u_11]
                    clear hw_u_11
                    have hP : va_P D classes [(h, .inr (10, ML G Rf)), ((Rf 0), .inl (cI, 1302, .inl f0))] H := hP
                    have hD : va_D A [(h, .inr (10, ML G Rf)), ((Rf 0), .inl (cI, 1302, .inl f0))] := hD
                    refine lv_if_eq (tgt := 160) hx hb dX10_told_146 (by decide) (fun c_13 => ?_) (fun c_13 => ?_)
                    · replace hF := hF.1 c_13
                      rw [if_pos c_13] at hE
                      refine lv_ldc (v := (-1000000002)) hx hb hown (hts _ wd_507) dX10_told_160 ?_
                      exact hret (-1000000002) () _ _ _ _ dX10_told_162 rfl hE hP hD hS
                    · replace hF := hF.2 c_13
                      rw [if_neg c_13] at hE
                      refine lv_aload_n hx hb dX10_told_149 rfl (lv_at hl 0 rfl) ?_
                      refine lv_iload_n hx hb dX10_told_150 rfl (lv_at hl 1 rfl) ?_
                      refine lv_bipush (v := 7) hx hb dX10_told_151 (by decide) ?_
                      refine lv_isub hx hb dX10_told_153 ?_
                      refine lv_topi (fun z_14 ez_14 => ?_)
                      obtain rfl : z_14 = 1 := ez_14.trans (by decide +kernel)
                      obtain ⟨hs_15, hF⟩ := hF
                      refine cVi (wr := []) (rest := []) (m_bargesThat Rf h G f0 1 hs_15) okV_X10_bargesThat wd_615 hx hb hml hown hts hK hP hD hS hA hN hl.1 [0, 1] [] rfl rfl rfl rfl (by decide) rfl rfl rfl (Nat.le_of_ble_eq_true rfl) (Nat.le_of_ble_eq_true rfl) (Nat.le_of_ble_eq_true rfl) (Nat.le_of_ble_eq_true rfl) (Nat.le_of_ble_eq_true rfl) dX10_told_154 (fun r_17 u_16 H locs hw_u_16 hP hD hS => ?_)
                      replace hw_u_16 : r_17 = (f_m_bargesThat G f0 1) := hw_u_16
                      rw [hw_u_16]
                      clear hw_u_16
                      have hP : va_P D classes [(h, .inr (10, ML G Rf)), ((Rf 0), .inl (cI, 1302, .inl f0))] H := hP
                      have hD : va_D A [(h, .inr (10, ML G Rf)), ((Rf 0), .inl (cI, 1302, .inl f0))] := hD
                      refine lv_goto (tgt := 162) hx hb dX10_told_157 (by decide) ?_
                      exact hret (f_m_bargesThat G f0 1) () _ _ _ _ dX10_told_162 rfl hE hP hD hS
                  · skip
                    replace hF := hF.2 c_9
                    rw [if_neg c_9] at hE
                    by_cases c_18 : w_ = 9
                    · replace hF := hF.1 c_18
                      rw [if_pos c_18] at hE
                      subst c_18
                      refine lv_tableIn (off := 134) (tgt := 135) hx hb dX10_told_1 (by decide +kernel) (by decide +kernel) (by decide +kernel) (by decide) ?_
                      refine lv_iload_n hx hb dX10_told_135 rfl (lv_at hl 1 rfl) ?_
                      refine lv_i2l (v := 9) hx hb dX10_told_136 (by decide +kernel) ?_
                      refine lv_ldc2 (v := 8) hx hb hown (hts _ wd_613) dX10_told_137 ?_
                      refine lv_ldc2 (v := 10) hx hb hown (hts _ wd_614) dX10_told_140 ?_
                      obtain ⟨hs_19, hF⟩ := hF
                      refine cSi (wr := [(h, .inr (10, ML G Rf)), ((Rf 0), .inl (cI, 1302, .inl f0))]) (rest := []) (m_in 9 8 10 hs_19) okS_X10_in wd_495 hx hb hml hown hts hK hP hD hS hA hN hl.1 [] [0, 1] rfl rfl rfl rfl (by decide) rfl (Nat.le_of_ble_eq_true rfl) (Nat.le_of_ble_eq_true rfl) (Nat.le_of_ble_eq_true rfl) (Nat.le_of_ble_eq_true rfl) (Nat.le_of_ble_eq_true rfl) dX10_told_143 (fun r_21 u_20 H locs hw_u_20 hP hD hS => ?_)
                      replace hw_u_20 : r_21 = (f_m_in 9 8 10) := hw_u_20
                      rw [hw_u_20]
                      clear hw_u_20
                      have hP : va_P D classes [(h, .inr (10, ML G Rf)), ((Rf 0), .inl (cI, 1302, .inl f0))] H := hP
                      have hD : va_D A [(h, .inr (10, ML G Rf)), ((Rf 0), .inl (cI, 1302, .inl f0))] := hD
                      refine lv_if_eq (tgt := 160) hx hb dX10_told_146 (by decide) (fun c_22 => ?_) (fun c_22 => ?_)
                      · replace hF := hF.1 c_22
                        rw [if_pos c_22] at hE
                        refine lv_ldc (v := (-1000000002)) hx hb hown (hts _ wd_507) dX10_told_160 ?_
                        exact hret (-1000000002) () _ _ _ _ dX10_told_162 rfl hE hP hD hS
                      · replace hF := hF.2 c_22
                        rw [if_neg c_22] at hE
                        refine lv_aload_n hx hb dX10_told_149 rfl (lv_at hl 0 rfl) ?_
                        refine lv_iload_n hx hb dX10_told_150 rfl (lv_at hl 1 rfl) ?_
                        refine lv_bipush (v := 7) hx hb dX10_told_151 (by decide) ?_
                        refine lv_isub hx hb dX10_told_153 ?_
                        refine lv_topi (fun z_23 ez_23 => ?_)
                        obtain rfl : z_23 = 2 := ez_23.trans (by decide +kernel)
                        obtain ⟨hs_24, hF⟩ := hF
                        refine cVi (wr := []) (rest := []) (m_bargesThat Rf h G f0 2 hs_24) okV_X10_bargesThat wd_615 hx hb hml hown hts hK hP hD hS hA hN hl.1 [0, 1] [] rfl rfl rfl rfl (by decide) rfl rfl rfl (Nat.le_of_ble_eq_true rfl) (Nat.le_of_ble_eq_true rfl) (Nat.le_of_ble_eq_true rfl) (Nat.le_of_ble_eq_true rfl) (Nat.le_of_ble_eq_true rfl) dX10_told_154 (fun r_26 u_25 H locs hw_u_25 hP hD hS => ?_)
                        replace hw_u_25 : r_26 = (f_m_bargesThat G f0 2) := hw_u_25
                        rw [hw_u_25]
                        clear hw_u_25
                        have hP : va_P D classes [(h, .inr (10, ML G Rf)), ((Rf 0), .inl (cI, 1302, .inl f0))] H := hP
                        have hD : va_D A [(h, .inr (10, ML G Rf)), ((Rf 0), .inl (cI, 1302, .inl f0))] := hD
                        refine lv_goto (tgt := 162) hx hb dX10_told_157 (by decide) ?_
                        exact hret (f_m_bargesThat G f0 2) () _ _ _ _ dX10_told_162 rfl hE hP hD hS
                    · skip
                      replace hF := hF.2 c_18
                      rw [if_neg c_18] at hE
                      by_cases c_27 : w_ = 10
                      · replace hF := hF.1 c_27
                        rw [if_pos c_27] at hE
                        subst c_27
                        refine lv_tableIn (off := 134) (tgt := 135) hx hb dX10_told_1 (by decide +kernel) (by decide +kernel) (by decide +kernel) (by decide) ?_
                        refine lv_iload_n hx hb dX10_told_135 rfl (lv_at hl 1 rfl) ?_
                        refine lv_i2l (v := 10) hx hb dX10_told_136 (by decide +kernel) ?_
                        refine lv_ldc2 (v := 8) hx hb hown (hts _ wd_613) dX10_told_137 ?_
                        refine lv_ldc2 (v := 10) hx hb hown (hts _ wd_614) dX10_told_140 ?_
                        obtain ⟨hs_28, hF⟩ := hF
                        refine cSi (wr := [(h, .inr (10, ML G Rf)), ((Rf 0), .inl (cI, 1302, .inl f0))]) (rest := []) (m_in 10 8 10 hs_28) okS_X10_in wd_495 hx hb hml hown hts hK hP hD hS hA hN hl.1 [] [0, 1] rfl rfl rfl rfl (by decide) rfl (Nat.le_of_ble_eq_true rfl) (Nat.le_of_ble_eq_true rfl) (Nat.le_of_ble_eq_true rfl) (Nat.le_of_ble_eq_true rfl) (Nat.le_of_ble_eq_true rfl) dX10_told_143 (fun r_30 u_29 H locs hw_u_29 hP hD hS => ?_)
                        replace hw_u_29 : r_30 = (f_m_in 10 8 10) := hw_u_29
                        rw [hw_u_29]
                        clear hw_u_29
                        have hP : va_P D classes [(h, .inr (10, ML G Rf)), ((Rf 0), .inl (cI, 1302, .inl f0))] H := hP
                        have hD : va_D A [(h, .inr (10, ML G Rf)), ((Rf 0), .inl (cI, 1302, .inl f0))] := hD
                        refine lv_if_eq (tgt := 160) hx hb dX10_told_146 (by decide) (fun c_31 => ?_) (fun c_31 => ?_)
                        · replace hF := hF.1 c_31
                          rw [if_pos c_31] at hE
                          refine lv_ldc (v := (-1000000002)) hx hb hown (hts _ wd_507) dX10_told_160 ?_
                          exact hret (-1000000002) () _ _ _ _ dX10_told_162 rfl hE hP hD hS
                        · replace hF := hF.2 c_31
                          rw [if_neg c_31] at hE
                          refine lv_aload_n hx hb dX10_told_149 rfl (lv_at hl 0 rfl) ?_
                          refine lv_iload_n hx hb dX10_told_150 rfl (lv_at hl 1 rfl) ?_
                          refine lv_bipush (v := 7) hx hb dX10_told_151 (by decide) ?_
                          refine lv_isub hx hb dX10_told_153 ?_
                          refine lv_topi (fun z_32 ez_32 => ?_)
                          obtain rfl : z_32 = 3 := ez_32.trans (by decide +kernel)
                          obtain ⟨hs_33, hF⟩ := hF
                          refine cVi (wr := []) (rest := []) (m_bargesThat Rf h G f0 3 hs_33) okV_X10_bargesThat wd_615 hx hb hml hown hts hK hP hD hS hA hN hl.1 [0, 1] [] rfl rfl rfl rfl (by decide) rfl rfl rfl (Nat.le_of_ble_eq_true rfl) (Nat.le_of_ble_eq_true rfl) (Nat.le_of_ble_eq_true rfl) (Nat.le_of_ble_eq_true rfl) (Nat.le_of_ble_eq_true rfl) dX10_told_154 (fun r_35 u_34 H locs hw_u_34 hP hD hS => ?_)
                          replace hw_u_34 : r_35 = (f_m_bargesThat G f0 3) := hw_u_34
                          rw [hw_u_34]
                          clear hw_u_34
                          have hP : va_P D classes [(h, .inr (10, ML G Rf)), ((Rf 0), .inl (cI, 1302, .inl f0))] H := hP
                          have hD : va_D A [(h, .inr (10, ML G Rf)), ((Rf 0), .inl (cI, 1302, .inl f0))] := hD
                          refine lv_goto (tgt := 162) hx hb dX10_told_157 (by decide) ?_
                          exact hret (f_m_bargesThat G f0 3) () _ _ _ _ dX10_told_162 rfl hE hP hD hS
                      · skip
                        replace hF := hF.2 c_27
                        rw [if_neg c_27] at hE
                        by_cases c_36 : w_ = 11
                        · replace hF := hF.1 c_36
                          rw [if_pos c_36] at hE
                          subst c_36
                          refine lv_tableIn (off := 117) (tgt := 118) hx hb dX10_told_1 (by decide +kernel) (by decide +kernel) (by decide +kernel) (by decide) ?_
                          refine lv_aload_n hx hb dX10_told_118 rfl (lv_at hl 0 rfl) ?_
                          refine lv_bipush (v := 63) hx hb dX10_told_119 (by decide) ?_
                          obtain ⟨hs_37, hF⟩ := hF
                          refine cVi (wr := []) (rest := []) (m_griefOf Rf h G f0 63 hs_37) okV_X10_griefOf wd_619 hx hb hml hown hts hK hP hD hS hA hN hl.1 [0, 1] [] rfl rfl rfl rfl (by decide) rfl rfl rfl (Nat.le_of_ble_eq_true rfl) (Nat.le_of_ble_eq_true rfl) (Nat.le_of_ble_eq_true rfl) (Nat.le_of_ble_eq_true rfl) (Nat.le_of_ble_eq_true rfl) dX10_told_121 (fun r_39 u_38 H locs hw_u_38 hP hD hS => ?_)
                          replace hw_u_38 : r_39 = (f_m_griefOf G f0 63) := hw_u_38
                          rw [hw_u_38]
                          clear hw_u_38
                          have hP : va_P D classes [(h, .inr (10, ML G Rf)), ((Rf 0), .inl (cI, 1302, .inl f0))] H := hP
                          have hD : va_D A [(h, .inr (10, ML G Rf)), ((Rf 0), .inl (cI, 1302, .inl f0))] := hD
                          exact hret (f_m_griefOf G f0 63) () _ _ _ _ dX10_told_124 rfl hE hP hD hS
                        · skip
                          replace hF := hF.2 c_36
                          rw [if_neg c_36] at hE
                          by_cases c_40 : w_ = 12
                          · replace hF := hF.1 c_40
                            rw [if_pos c_40] at hE
                            subst c_40
                            refine lv_tableIn (off := 124) (tgt := 125) hx hb dX10_told_1 (by decide +kernel) (by decide +kernel) (by decide +kernel) (by decide) ?_
                            refine lv_aload_n hx hb dX10_told_125 rfl (lv_at hl 0 rfl) ?_
                            refine va_get (D := D) (ci := 10) (v := .int (G 42)) (C := RX10) (T := TX10) (N := 45) hx hb hts iX10 hown hK hP 0 rfl rfl 42 (by decide) (hts _ wd_609) (fun _ h9 => h9) rfl dX10_told_126 ?_
                            exact hret (G 42) () _ _ _ _ dX10_told_129 rfl hE hP hD hS
                          · skip
                            replace hF := hF.2 c_40
                            rw [if_neg c_40] at hE
                            by_cases c_41 : w_ = 13
                            · replace hF := hF.1 c_41
                              rw [if_pos c_41] at hE
                              subst c_41
                              refine lv_tableIn (off := 129) (tgt := 130) hx hb dX10_told_1 (by decide +kernel) (by decide +kernel) (by decide +kernel) (by decide) ?_
                              refine lv_aload_n hx hb dX10_told_130 rfl (lv_at hl 0 rfl) ?_
                              refine va_get (D := D) (ci := 10) (v := .int (G 2)) (C := RX10) (T := TX10) (N := 45) hx hb hts iX10 hown hK hP 0 rfl rfl 2 (by decide) (hts _ wd_556) (fun _ h9 => h9) rfl dX10_told_131 ?_
                              exact hret (G 2) () _ _ _ _ dX10_told_134 rfl hE hP hD hS
                            · skip
                              replace hF := hF.2 c_41
                              rw [if_neg c_41] at hE
                              refine lv_tableOut (tgt := 135) hx hb dX10_told_1 (by have q := lv_neT (a := 0) c_1 rfl; have q0 := lv_neT (a := 0) c_1 rfl; have q1 := lv_neT (a := 1) c_2 rfl; have q2 := lv_neT (a := 2) c_3 rfl; have q3 := lv_neT (a := 3) c_4 rfl; have q4 := lv_neT (a := 4) c_5 rfl; have q5 := lv_neT (a := 5) c_6 rfl; have q6 := lv_neT (a := 6) c_7 rfl; have q7 := lv_neT (a := 7) c_8 rfl; have q8 := lv_neT (a := 8) c_9 rfl; have q9 := lv_neT (a := 9) c_18 rfl; have q10 := lv_neT (a := 10) c_27 rfl; have q11 := lv_neT (a := 11) c_36 rfl; have q12 := lv_neT (a := 12) c_40 rfl; have q13 := lv_neT (a := 13) c_41 rfl; omega) (by decide) ?_
                              refine lv_iload_n hx hb dX10_told_135 rfl (lv_at hl 1 rfl) ?_
                              refine lv_i2l (v := w_.toInt64) hx hb dX10_told_136 rfl ?_
                              refine lv_ldc2 (v := 8) hx hb hown (hts _ wd_613) dX10_told_137 ?_
                              refine lv_ldc2 (v := 10) hx hb hown (hts _ wd_614) dX10_told_140 ?_
                              obtain ⟨hs_42, hF⟩ := hF
                              refine cSi (wr := [(h, .inr (10, ML G Rf)), ((Rf 0), .inl (cI, 1302, .inl f0))]) (rest := []) (m_in w_.toInt64 8 10 hs_42) okS_X10_in wd_495 hx hb hml hown hts hK hP hD hS hA hN hl.1 [] [0, 1] rfl rfl rfl rfl (by decide) rfl (Nat.le_of_ble_eq_true rfl) (Nat.le_of_ble_eq_true rfl) (Nat.le_of_ble_eq_true rfl) (Nat.le_of_ble_eq_true rfl) (Nat.le_of_ble_eq_true rfl) dX10_told_143 (fun r_44 u_43 H locs hw_u_43 hP hD hS => ?_)
                              replace hw_u_43 : r_44 = (f_m_in w_.toInt64 8 10) := hw_u_43
                              rw [hw_u_43]
                              clear hw_u_43
                              have hP : va_P D classes [(h, .inr (10, ML G Rf)), ((Rf 0), .inl (cI, 1302, .inl f0))] H := hP
                              have hD : va_D A [(h, .inr (10, ML G Rf)), ((Rf 0), .inl (cI, 1302, .inl f0))] := hD
                              refine lv_if_eq (tgt := 160) hx hb dX10_told_146 (by decide) (fun c_45 => ?_) (fun c_45 => ?_)
                              · replace hF := hF.1 c_45
                                rw [if_pos c_45] at hE
                                refine lv_ldc (v := (-1000000002)) hx hb hown (hts _ wd_507) dX10_told_160 ?_
                                exact hret (-1000000002) () _ _ _ _ dX10_told_162 rfl hE hP hD hS
                              · replace hF := hF.2 c_45
                                rw [if_neg c_45] at hE
                                refine lv_aload_n hx hb dX10_told_149 rfl (lv_at hl 0 rfl) ?_
                                refine lv_iload_n hx hb dX10_told_150 rfl (lv_at hl 1 rfl) ?_
                                refine lv_bipush (v := 7) hx hb dX10_told_151 (by decide) ?_
                                refine lv_isub hx hb dX10_told_153 ?_
                                obtain ⟨hs_46, hF⟩ := hF
                                refine cVi (wr := []) (rest := []) (m_bargesThat Rf h G f0 (w_ - 7) hs_46) okV_X10_bargesThat wd_615 hx hb hml hown hts hK hP hD hS hA hN hl.1 [0, 1] [] rfl rfl rfl rfl (by decide) rfl rfl rfl (Nat.le_of_ble_eq_true rfl) (Nat.le_of_ble_eq_true rfl) (Nat.le_of_ble_eq_true rfl) (Nat.le_of_ble_eq_true rfl) (Nat.le_of_ble_eq_true rfl) dX10_told_154 (fun r_48 u_47 H locs hw_u_47 hP hD hS => ?_)
                                replace hw_u_47 : r_48 = (f_m_bargesThat G f0 (w_ - 7)) := hw_u_47
                                rw [hw_u_47]
                                clear hw_u_47
                                have hP : va_P D classes [(h, .inr (10, ML G Rf)), ((Rf 0), .inl (cI, 1302, .inl f0))] H := hP
                                have hD : va_D A [(h, .inr (10, ML G Rf)), ((Rf 0), .inl (cI, 1302, .inl f0))] := hD
                                refine lv_goto (tgt := 162) hx hb dX10_told_157 (by decide) ?_
                                exact hret (f_m_bargesThat G f0 (w_ - 7)) () _ _ _ _ dX10_told_162 rfl hE hP hD hS
